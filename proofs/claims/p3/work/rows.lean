section
-- ===== PART A: goes FIRST, ahead of the names: the tables' words, and 'selects' of the private methods out of them =====
/-- a private method of a class that the tables say can be made, by its rows of tables_1 -/
def lw_okq (q : MethodName × Nat) : Prop := (q.1.cls ≠ "java/lang/invoke/MethodHandle" ∧ q.1.cls ≠ "java/lang/invoke/VarHandle") ∧ Cond.instantiable q.1.cls q.2 ∈ tables_1 ∧ Cond.privateMethod q.1 ∈ tables_1 ∧ Cond.instanceMethod q.1 ∈ tables_1
theorem lw_p0 : lw_okq (⟨"TurnKeeper", "blockerOf", "(I)I"⟩, 6) := ⟨⟨by decide +kernel, by decide +kernel⟩, List.mem_of_getElem? (i := 29) (by decide +kernel), List.mem_of_getElem? (i := 157) (by decide +kernel), List.mem_of_getElem? (i := 158) (by decide +kernel)⟩
theorem lw_p1 : lw_okq (⟨"java/lang/Throwable", "fillInStackTrace", "(I)Ljava/lang/Throwable;"⟩, 6) := ⟨⟨by decide +kernel, by decide +kernel⟩, List.mem_of_getElem? (i := 210) (by decide +kernel), List.mem_of_getElem? (i := 208) (by decide +kernel), List.mem_of_getElem? (i := 209) (by decide +kernel)⟩
theorem lw_p2 : lw_okq (⟨"TurnKeeper", "leastFree", "()I"⟩, 6) := ⟨⟨by decide +kernel, by decide +kernel⟩, List.mem_of_getElem? (i := 29) (by decide +kernel), List.mem_of_getElem? (i := 279) (by decide +kernel), List.mem_of_getElem? (i := 280) (by decide +kernel)⟩
theorem lw_p3 : lw_okq (⟨"TurnKeeper", "howManySyncs", "()I"⟩, 6) := ⟨⟨by decide +kernel, by decide +kernel⟩, List.mem_of_getElem? (i := 29) (by decide +kernel), List.mem_of_getElem? (i := 487) (by decide +kernel), List.mem_of_getElem? (i := 488) (by decide +kernel)⟩
theorem lw_p4 : lw_okq (⟨"TurnKeeper$Tape", "skipBlanks", "()V"⟩, 6) := ⟨⟨by decide +kernel, by decide +kernel⟩, List.mem_of_getElem? (i := 37) (by decide +kernel), List.mem_of_getElem? (i := 503) (by decide +kernel), List.mem_of_getElem? (i := 504) (by decide +kernel)⟩
theorem lw_p5 : lw_okq (⟨"TurnKeeper$Tape", "here", "()I"⟩, 6) := ⟨⟨by decide +kernel, by decide +kernel⟩, List.mem_of_getElem? (i := 37) (by decide +kernel), List.mem_of_getElem? (i := 507) (by decide +kernel), List.mem_of_getElem? (i := 508) (by decide +kernel)⟩
theorem lw_p6 : lw_okq (⟨"TurnKeeper$Tape", "readInstruction", "(I)Z"⟩, 6) := ⟨⟨by decide +kernel, by decide +kernel⟩, List.mem_of_getElem? (i := 37) (by decide +kernel), List.mem_of_getElem? (i := 511) (by decide +kernel), List.mem_of_getElem? (i := 512) (by decide +kernel)⟩
theorem lw_p7 : lw_okq (⟨"TurnKeeper$Tape", "wordAt", "(I)I"⟩, 6) := ⟨⟨by decide +kernel, by decide +kernel⟩, List.mem_of_getElem? (i := 37) (by decide +kernel), List.mem_of_getElem? (i := 515) (by decide +kernel), List.mem_of_getElem? (i := 516) (by decide +kernel)⟩
theorem lw_p8 : lw_okq (⟨"TurnKeeper$Tape", "isText", "(ILjava/lang/String;)Z"⟩, 6) := ⟨⟨by decide +kernel, by decide +kernel⟩, List.mem_of_getElem? (i := 37) (by decide +kernel), List.mem_of_getElem? (i := 521) (by decide +kernel), List.mem_of_getElem? (i := 522) (by decide +kernel)⟩
theorem lw_p9 : lw_okq (⟨"TurnKeeper$Tape", "broken", "(I)Z"⟩, 6) := ⟨⟨by decide +kernel, by decide +kernel⟩, List.mem_of_getElem? (i := 37) (by decide +kernel), List.mem_of_getElem? (i := 573) (by decide +kernel), List.mem_of_getElem? (i := 574) (by decide +kernel)⟩
theorem lw_p10 : lw_okq (⟨"TurnKeeper$Tape", "store", "(II)V"⟩, 6) := ⟨⟨by decide +kernel, by decide +kernel⟩, List.mem_of_getElem? (i := 37) (by decide +kernel), List.mem_of_getElem? (i := 577) (by decide +kernel), List.mem_of_getElem? (i := 578) (by decide +kernel)⟩
theorem lw_p11 : lw_okq (⟨"TurnKeeper$Tape", "readNumber", "(IC)Z"⟩, 6) := ⟨⟨by decide +kernel, by decide +kernel⟩, List.mem_of_getElem? (i := 37) (by decide +kernel), List.mem_of_getElem? (i := 581) (by decide +kernel), List.mem_of_getElem? (i := 582) (by decide +kernel)⟩
theorem lw_p12 : lw_okq (⟨"TurnKeeper", "strandAt", "(I)LTurnKeeper$Strand;"⟩, 6) := ⟨⟨by decide +kernel, by decide +kernel⟩, List.mem_of_getElem? (i := 29) (by decide +kernel), List.mem_of_getElem? (i := 619) (by decide +kernel), List.mem_of_getElem? (i := 620) (by decide +kernel)⟩
theorem lw_p13 : lw_okq (⟨"TurnKeeper", "takeTurn", "(LTurnKeeper$Strand;)V"⟩, 6) := ⟨⟨by decide +kernel, by decide +kernel⟩, List.mem_of_getElem? (i := 29) (by decide +kernel), List.mem_of_getElem? (i := 624) (by decide +kernel), List.mem_of_getElem? (i := 625) (by decide +kernel)⟩
theorem lw_p14 : lw_okq (⟨"TurnKeeper$Lock", "have", "(LTurnKeeper$Strand;)V"⟩, 7) := ⟨⟨by decide +kernel, by decide +kernel⟩, List.mem_of_getElem? (i := 301) (by decide +kernel), List.mem_of_getElem? (i := 632) (by decide +kernel), List.mem_of_getElem? (i := 633) (by decide +kernel)⟩
theorem lw_p15 : lw_okq (⟨"TurnKeeper$Strand", "codeAt", "(I)I"⟩, 13) := ⟨⟨by decide +kernel, by decide +kernel⟩, List.mem_of_getElem? (i := 71) (by decide +kernel), List.mem_of_getElem? (i := 652) (by decide +kernel), List.mem_of_getElem? (i := 653) (by decide +kernel)⟩
def lw_privs_1 : List (MethodName × Nat) := [(⟨"TurnKeeper", "blockerOf", "(I)I"⟩, 6), (⟨"java/lang/Throwable", "fillInStackTrace", "(I)Ljava/lang/Throwable;"⟩, 6), (⟨"TurnKeeper", "leastFree", "()I"⟩, 6), (⟨"TurnKeeper", "howManySyncs", "()I"⟩, 6), (⟨"TurnKeeper$Tape", "skipBlanks", "()V"⟩, 6), (⟨"TurnKeeper$Tape", "here", "()I"⟩, 6), (⟨"TurnKeeper$Tape", "readInstruction", "(I)Z"⟩, 6), (⟨"TurnKeeper$Tape", "wordAt", "(I)I"⟩, 6), (⟨"TurnKeeper$Tape", "isText", "(ILjava/lang/String;)Z"⟩, 6), (⟨"TurnKeeper$Tape", "broken", "(I)Z"⟩, 6), (⟨"TurnKeeper$Tape", "store", "(II)V"⟩, 6), (⟨"TurnKeeper$Tape", "readNumber", "(IC)Z"⟩, 6), (⟨"TurnKeeper", "strandAt", "(I)LTurnKeeper$Strand;"⟩, 6), (⟨"TurnKeeper", "takeTurn", "(LTurnKeeper$Strand;)V"⟩, 6), (⟨"TurnKeeper$Lock", "have", "(LTurnKeeper$Strand;)V"⟩, 7), (⟨"TurnKeeper$Strand", "codeAt", "(I)I"⟩, 13)]
theorem lw_r1 : ∀ q ∈ lw_privs_1, lw_okq q := List.forall_mem_cons.mpr ⟨lw_p0, List.forall_mem_cons.mpr ⟨lw_p1, List.forall_mem_cons.mpr ⟨lw_p2, List.forall_mem_cons.mpr ⟨lw_p3, List.forall_mem_cons.mpr ⟨lw_p4, List.forall_mem_cons.mpr ⟨lw_p5, List.forall_mem_cons.mpr ⟨lw_p6, List.forall_mem_cons.mpr ⟨lw_p7, List.forall_mem_cons.mpr ⟨lw_p8, List.forall_mem_cons.mpr ⟨lw_p9, List.forall_mem_cons.mpr ⟨lw_p10, List.forall_mem_cons.mpr ⟨lw_p11, List.forall_mem_cons.mpr ⟨lw_p12, List.forall_mem_cons.mpr ⟨lw_p13, List.forall_mem_cons.mpr ⟨lw_p14, List.forall_mem_cons.mpr ⟨lw_p15, fun _ h => absurd h List.not_mem_nil⟩⟩⟩⟩⟩⟩⟩⟩⟩⟩⟩⟩⟩⟩⟩⟩
theorem lw_p16 : lw_okq (⟨"TurnKeeper", "doAlone", "(LTurnKeeper$Strand;LTurnKeeper$Word;)V"⟩, 6) := ⟨⟨by decide +kernel, by decide +kernel⟩, List.mem_of_getElem? (i := 29) (by decide +kernel), List.mem_of_getElem? (i := 659) (by decide +kernel), List.mem_of_getElem? (i := 660) (by decide +kernel)⟩
theorem lw_p17 : lw_okq (⟨"TurnKeeper", "fallAsleep", "(LTurnKeeper$Strand;I)V"⟩, 6) := ⟨⟨by decide +kernel, by decide +kernel⟩, List.mem_of_getElem? (i := 29) (by decide +kernel), List.mem_of_getElem? (i := 681) (by decide +kernel), List.mem_of_getElem? (i := 682) (by decide +kernel)⟩
theorem lw_p18 : lw_okq (⟨"TurnKeeper", "syncAt", "(I)LTurnKeeper$Sync;"⟩, 6) := ⟨⟨by decide +kernel, by decide +kernel⟩, List.mem_of_getElem? (i := 29) (by decide +kernel), List.mem_of_getElem? (i := 690) (by decide +kernel), List.mem_of_getElem? (i := 691) (by decide +kernel)⟩
theorem lw_p19 : lw_okq (⟨"TurnKeeper$Gate", "leave", "(LTurnKeeper$Strand;)V"⟩, 5) := ⟨⟨by decide +kernel, by decide +kernel⟩, List.mem_of_getElem? (i := 421) (by decide +kernel), List.mem_of_getElem? (i := 722) (by decide +kernel), List.mem_of_getElem? (i := 723) (by decide +kernel)⟩
theorem lw_p20 : lw_okq (⟨"TurnKeeper$Gate", "rowGoesOn", "()V"⟩, 5) := ⟨⟨by decide +kernel, by decide +kernel⟩, List.mem_of_getElem? (i := 421) (by decide +kernel), List.mem_of_getElem? (i := 727) (by decide +kernel), List.mem_of_getElem? (i := 728) (by decide +kernel)⟩
theorem lw_p21 : lw_okq (⟨"TurnKeeper$Gate", "giveBack", "(LTurnKeeper$Strand;)V"⟩, 5) := ⟨⟨by decide +kernel, by decide +kernel⟩, List.mem_of_getElem? (i := 421) (by decide +kernel), List.mem_of_getElem? (i := 738) (by decide +kernel), List.mem_of_getElem? (i := 739) (by decide +kernel)⟩
theorem lw_p22 : lw_okq (⟨"TurnKeeper$Holder", "isGiven", "(I)Z"⟩, 5) := ⟨⟨by decide +kernel, by decide +kernel⟩, List.mem_of_getElem? (i := 405) (by decide +kernel), List.mem_of_getElem? (i := 750) (by decide +kernel), List.mem_of_getElem? (i := 751) (by decide +kernel)⟩
theorem lw_p23 : lw_okq (⟨"TurnKeeper$Lock", "grabOrStandIn", "(LTurnKeeper$Strand;)V"⟩, 7) := ⟨⟨by decide +kernel, by decide +kernel⟩, List.mem_of_getElem? (i := 301) (by decide +kernel), List.mem_of_getElem? (i := 780) (by decide +kernel), List.mem_of_getElem? (i := 781) (by decide +kernel)⟩
theorem lw_p24 : lw_okq (⟨"TurnKeeper$Lock", "isGrabbed", "(LTurnKeeper$Strand;)Z"⟩, 7) := ⟨⟨by decide +kernel, by decide +kernel⟩, List.mem_of_getElem? (i := 301) (by decide +kernel), List.mem_of_getElem? (i := 784) (by decide +kernel), List.mem_of_getElem? (i := 785) (by decide +kernel)⟩
theorem lw_p25 : lw_okq (⟨"TurnKeeper$Lock", "free", "()V"⟩, 7) := ⟨⟨by decide +kernel, by decide +kernel⟩, List.mem_of_getElem? (i := 301) (by decide +kernel), List.mem_of_getElem? (i := 795) (by decide +kernel), List.mem_of_getElem? (i := 796) (by decide +kernel)⟩
theorem lw_p26 : lw_okq (⟨"TurnKeeper$Lock", "callUp", "(I)V"⟩, 7) := ⟨⟨by decide +kernel, by decide +kernel⟩, List.mem_of_getElem? (i := 301) (by decide +kernel), List.mem_of_getElem? (i := 804) (by decide +kernel), List.mem_of_getElem? (i := 805) (by decide +kernel)⟩
theorem lw_p27 : lw_okq (⟨"TurnKeeper$Lock", "comeToFirst", "(LTurnKeeper$Strand;I)V"⟩, 7) := ⟨⟨by decide +kernel, by decide +kernel⟩, List.mem_of_getElem? (i := 301) (by decide +kernel), List.mem_of_getElem? (i := 808) (by decide +kernel), List.mem_of_getElem? (i := 809) (by decide +kernel)⟩
theorem lw_p28 : lw_okq (⟨"TurnKeeper$Queue", "isAccepted", "(I)Z"⟩, 6) := ⟨⟨by decide +kernel, by decide +kernel⟩, List.mem_of_getElem? (i := 386) (by decide +kernel), List.mem_of_getElem? (i := 819) (by decide +kernel), List.mem_of_getElem? (i := 820) (by decide +kernel)⟩
theorem lw_p29 : lw_okq (⟨"TurnKeeper$Queue", "append", "(I)V"⟩, 6) := ⟨⟨by decide +kernel, by decide +kernel⟩, List.mem_of_getElem? (i := 386) (by decide +kernel), List.mem_of_getElem? (i := 825) (by decide +kernel), List.mem_of_getElem? (i := 826) (by decide +kernel)⟩
theorem lw_p30 : lw_okq (⟨"TurnKeeper$Queue", "takenOut", "()I"⟩, 6) := ⟨⟨by decide +kernel, by decide +kernel⟩, List.mem_of_getElem? (i := 386) (by decide +kernel), List.mem_of_getElem? (i := 833) (by decide +kernel), List.mem_of_getElem? (i := 834) (by decide +kernel)⟩
theorem lw_p31 : lw_okq (⟨"TurnKeeper$Semaphore", "handOut", "()V"⟩, 4) := ⟨⟨by decide +kernel, by decide +kernel⟩, List.mem_of_getElem? (i := 373) (by decide +kernel), List.mem_of_getElem? (i := 847) (by decide +kernel), List.mem_of_getElem? (i := 848) (by decide +kernel)⟩
def lw_privs_2 : List (MethodName × Nat) := [(⟨"TurnKeeper", "doAlone", "(LTurnKeeper$Strand;LTurnKeeper$Word;)V"⟩, 6), (⟨"TurnKeeper", "fallAsleep", "(LTurnKeeper$Strand;I)V"⟩, 6), (⟨"TurnKeeper", "syncAt", "(I)LTurnKeeper$Sync;"⟩, 6), (⟨"TurnKeeper$Gate", "leave", "(LTurnKeeper$Strand;)V"⟩, 5), (⟨"TurnKeeper$Gate", "rowGoesOn", "()V"⟩, 5), (⟨"TurnKeeper$Gate", "giveBack", "(LTurnKeeper$Strand;)V"⟩, 5), (⟨"TurnKeeper$Holder", "isGiven", "(I)Z"⟩, 5), (⟨"TurnKeeper$Lock", "grabOrStandIn", "(LTurnKeeper$Strand;)V"⟩, 7), (⟨"TurnKeeper$Lock", "isGrabbed", "(LTurnKeeper$Strand;)Z"⟩, 7), (⟨"TurnKeeper$Lock", "free", "()V"⟩, 7), (⟨"TurnKeeper$Lock", "callUp", "(I)V"⟩, 7), (⟨"TurnKeeper$Lock", "comeToFirst", "(LTurnKeeper$Strand;I)V"⟩, 7), (⟨"TurnKeeper$Queue", "isAccepted", "(I)Z"⟩, 6), (⟨"TurnKeeper$Queue", "append", "(I)V"⟩, 6), (⟨"TurnKeeper$Queue", "takenOut", "()I"⟩, 6), (⟨"TurnKeeper$Semaphore", "handOut", "()V"⟩, 4)]
theorem lw_r2 : ∀ q ∈ lw_privs_2, lw_okq q := List.forall_mem_cons.mpr ⟨lw_p16, List.forall_mem_cons.mpr ⟨lw_p17, List.forall_mem_cons.mpr ⟨lw_p18, List.forall_mem_cons.mpr ⟨lw_p19, List.forall_mem_cons.mpr ⟨lw_p20, List.forall_mem_cons.mpr ⟨lw_p21, List.forall_mem_cons.mpr ⟨lw_p22, List.forall_mem_cons.mpr ⟨lw_p23, List.forall_mem_cons.mpr ⟨lw_p24, List.forall_mem_cons.mpr ⟨lw_p25, List.forall_mem_cons.mpr ⟨lw_p26, List.forall_mem_cons.mpr ⟨lw_p27, List.forall_mem_cons.mpr ⟨lw_p28, List.forall_mem_cons.mpr ⟨lw_p29, List.forall_mem_cons.mpr ⟨lw_p30, List.forall_mem_cons.mpr ⟨lw_p31, fun _ h => absurd h List.not_mem_nil⟩⟩⟩⟩⟩⟩⟩⟩⟩⟩⟩⟩⟩⟩⟩⟩
theorem lw_p32 : lw_okq (⟨"TurnKeeper", "howManyReady", "()I"⟩, 6) := ⟨⟨by decide +kernel, by decide +kernel⟩, List.mem_of_getElem? (i := 29) (by decide +kernel), List.mem_of_getElem? (i := 861) (by decide +kernel), List.mem_of_getElem? (i := 862) (by decide +kernel)⟩
theorem lw_p33 : lw_okq (⟨"TurnKeeper", "readyFrom", "(II)LTurnKeeper$Strand;"⟩, 6) := ⟨⟨by decide +kernel, by decide +kernel⟩, List.mem_of_getElem? (i := 29) (by decide +kernel), List.mem_of_getElem? (i := 866) (by decide +kernel), List.mem_of_getElem? (i := 867) (by decide +kernel)⟩
theorem lw_p34 : lw_okq (⟨"TurnKeeperModel", "refuse", "(I)I"⟩, 38) := ⟨⟨by decide +kernel, by decide +kernel⟩, List.mem_of_getElem? (i := 967) (by decide +kernel), List.mem_of_getElem? (i := 1132) (by decide +kernel), List.mem_of_getElem? (i := 1133) (by decide +kernel)⟩
theorem lw_p35 : lw_okq (⟨"TurnKeeperModel", "four", "(I)V"⟩, 38) := ⟨⟨by decide +kernel, by decide +kernel⟩, List.mem_of_getElem? (i := 967) (by decide +kernel), List.mem_of_getElem? (i := 1136) (by decide +kernel), List.mem_of_getElem? (i := 1137) (by decide +kernel)⟩
theorem lw_p36 : lw_okq (⟨"TurnKeeperModel", "isThere", "(I)Z"⟩, 38) := ⟨⟨by decide +kernel, by decide +kernel⟩, List.mem_of_getElem? (i := 967) (by decide +kernel), List.mem_of_getElem? (i := 1155) (by decide +kernel), List.mem_of_getElem? (i := 1156) (by decide +kernel)⟩
theorem lw_p37 : lw_okq (⟨"TurnKeeperModel", "objects", "()I"⟩, 38) := ⟨⟨by decide +kernel, by decide +kernel⟩, List.mem_of_getElem? (i := 967) (by decide +kernel), List.mem_of_getElem? (i := 1159) (by decide +kernel), List.mem_of_getElem? (i := 1160) (by decide +kernel)⟩
theorem lw_p38 : lw_okq (⟨"TurnKeeperModel", "read", "()V"⟩, 38) := ⟨⟨by decide +kernel, by decide +kernel⟩, List.mem_of_getElem? (i := 967) (by decide +kernel), List.mem_of_getElem? (i := 1167) (by decide +kernel), List.mem_of_getElem? (i := 1168) (by decide +kernel)⟩
theorem lw_p39 : lw_okq (⟨"TurnKeeperModel", "next", "()V"⟩, 38) := ⟨⟨by decide +kernel, by decide +kernel⟩, List.mem_of_getElem? (i := 967) (by decide +kernel), List.mem_of_getElem? (i := 1171) (by decide +kernel), List.mem_of_getElem? (i := 1172) (by decide +kernel)⟩
theorem lw_p40 : lw_okq (⟨"TurnKeeperModel", "byteAt", "(I)I"⟩, 38) := ⟨⟨by decide +kernel, by decide +kernel⟩, List.mem_of_getElem? (i := 967) (by decide +kernel), List.mem_of_getElem? (i := 1175) (by decide +kernel), List.mem_of_getElem? (i := 1176) (by decide +kernel)⟩
theorem lw_p41 : lw_okq (⟨"TurnKeeperModel", "line", "()V"⟩, 38) := ⟨⟨by decide +kernel, by decide +kernel⟩, List.mem_of_getElem? (i := 967) (by decide +kernel), List.mem_of_getElem? (i := 1179) (by decide +kernel), List.mem_of_getElem? (i := 1180) (by decide +kernel)⟩
theorem lw_p42 : lw_okq (⟨"TurnKeeperModel", "word", "()I"⟩, 38) := ⟨⟨by decide +kernel, by decide +kernel⟩, List.mem_of_getElem? (i := 967) (by decide +kernel), List.mem_of_getElem? (i := 1183) (by decide +kernel), List.mem_of_getElem? (i := 1184) (by decide +kernel)⟩
theorem lw_p43 : lw_okq (⟨"TurnKeeperModel", "wrong", "()I"⟩, 38) := ⟨⟨by decide +kernel, by decide +kernel⟩, List.mem_of_getElem? (i := 967) (by decide +kernel), List.mem_of_getElem? (i := 1187) (by decide +kernel), List.mem_of_getElem? (i := 1188) (by decide +kernel)⟩
theorem lw_p44 : lw_okq (⟨"TurnKeeperModel", "number", "(II)I"⟩, 38) := ⟨⟨by decide +kernel, by decide +kernel⟩, List.mem_of_getElem? (i := 967) (by decide +kernel), List.mem_of_getElem? (i := 1192) (by decide +kernel), List.mem_of_getElem? (i := 1193) (by decide +kernel)⟩
theorem lw_p45 : lw_okq (⟨"TurnKeeperModel", "one", "(I)V"⟩, 38) := ⟨⟨by decide +kernel, by decide +kernel⟩, List.mem_of_getElem? (i := 967) (by decide +kernel), List.mem_of_getElem? (i := 1200) (by decide +kernel), List.mem_of_getElem? (i := 1201) (by decide +kernel)⟩
theorem lw_p46 : lw_okq (⟨"TurnKeeperModel", "rowOf", "(I)I"⟩, 38) := ⟨⟨by decide +kernel, by decide +kernel⟩, List.mem_of_getElem? (i := 967) (by decide +kernel), List.mem_of_getElem? (i := 1204) (by decide +kernel), List.mem_of_getElem? (i := 1205) (by decide +kernel)⟩
theorem lw_p47 : lw_okq (⟨"TurnKeeperModel", "has", "(II)V"⟩, 38) := ⟨⟨by decide +kernel, by decide +kernel⟩, List.mem_of_getElem? (i := 967) (by decide +kernel), List.mem_of_getElem? (i := 1208) (by decide +kernel), List.mem_of_getElem? (i := 1209) (by decide +kernel)⟩
def lw_privs_3 : List (MethodName × Nat) := [(⟨"TurnKeeper", "howManyReady", "()I"⟩, 6), (⟨"TurnKeeper", "readyFrom", "(II)LTurnKeeper$Strand;"⟩, 6), (⟨"TurnKeeperModel", "refuse", "(I)I"⟩, 38), (⟨"TurnKeeperModel", "four", "(I)V"⟩, 38), (⟨"TurnKeeperModel", "isThere", "(I)Z"⟩, 38), (⟨"TurnKeeperModel", "objects", "()I"⟩, 38), (⟨"TurnKeeperModel", "read", "()V"⟩, 38), (⟨"TurnKeeperModel", "next", "()V"⟩, 38), (⟨"TurnKeeperModel", "byteAt", "(I)I"⟩, 38), (⟨"TurnKeeperModel", "line", "()V"⟩, 38), (⟨"TurnKeeperModel", "word", "()I"⟩, 38), (⟨"TurnKeeperModel", "wrong", "()I"⟩, 38), (⟨"TurnKeeperModel", "number", "(II)I"⟩, 38), (⟨"TurnKeeperModel", "one", "(I)V"⟩, 38), (⟨"TurnKeeperModel", "rowOf", "(I)I"⟩, 38), (⟨"TurnKeeperModel", "has", "(II)V"⟩, 38)]
theorem lw_r3 : ∀ q ∈ lw_privs_3, lw_okq q := List.forall_mem_cons.mpr ⟨lw_p32, List.forall_mem_cons.mpr ⟨lw_p33, List.forall_mem_cons.mpr ⟨lw_p34, List.forall_mem_cons.mpr ⟨lw_p35, List.forall_mem_cons.mpr ⟨lw_p36, List.forall_mem_cons.mpr ⟨lw_p37, List.forall_mem_cons.mpr ⟨lw_p38, List.forall_mem_cons.mpr ⟨lw_p39, List.forall_mem_cons.mpr ⟨lw_p40, List.forall_mem_cons.mpr ⟨lw_p41, List.forall_mem_cons.mpr ⟨lw_p42, List.forall_mem_cons.mpr ⟨lw_p43, List.forall_mem_cons.mpr ⟨lw_p44, List.forall_mem_cons.mpr ⟨lw_p45, List.forall_mem_cons.mpr ⟨lw_p46, List.forall_mem_cons.mpr ⟨lw_p47, fun _ h => absurd h List.not_mem_nil⟩⟩⟩⟩⟩⟩⟩⟩⟩⟩⟩⟩⟩⟩⟩⟩
theorem lw_p48 : lw_okq (⟨"TurnKeeperModel", "leaves", "(II)V"⟩, 38) := ⟨⟨by decide +kernel, by decide +kernel⟩, List.mem_of_getElem? (i := 967) (by decide +kernel), List.mem_of_getElem? (i := 1212) (by decide +kernel), List.mem_of_getElem? (i := 1213) (by decide +kernel)⟩
theorem lw_p49 : lw_okq (⟨"TurnKeeperModel", "goesOn", "(I)V"⟩, 38) := ⟨⟨by decide +kernel, by decide +kernel⟩, List.mem_of_getElem? (i := 967) (by decide +kernel), List.mem_of_getElem? (i := 1216) (by decide +kernel), List.mem_of_getElem? (i := 1217) (by decide +kernel)⟩
theorem lw_p50 : lw_okq (⟨"TurnKeeperModel", "part", "(II)I"⟩, 38) := ⟨⟨by decide +kernel, by decide +kernel⟩, List.mem_of_getElem? (i := 967) (by decide +kernel), List.mem_of_getElem? (i := 1220) (by decide +kernel), List.mem_of_getElem? (i := 1221) (by decide +kernel)⟩
theorem lw_p51 : lw_okq (⟨"TurnKeeperModel", "with", "(III)Z"⟩, 38) := ⟨⟨by decide +kernel, by decide +kernel⟩, List.mem_of_getElem? (i := 967) (by decide +kernel), List.mem_of_getElem? (i := 1224) (by decide +kernel), List.mem_of_getElem? (i := 1225) (by decide +kernel)⟩
theorem lw_p52 : lw_okq (⟨"TurnKeeperModel", "fails", "(II)Z"⟩, 38) := ⟨⟨by decide +kernel, by decide +kernel⟩, List.mem_of_getElem? (i := 967) (by decide +kernel), List.mem_of_getElem? (i := 1231) (by decide +kernel), List.mem_of_getElem? (i := 1232) (by decide +kernel)⟩
theorem lw_p53 : lw_okq (⟨"TurnKeeperModel", "atLock", "(III)Z"⟩, 38) := ⟨⟨by decide +kernel, by decide +kernel⟩, List.mem_of_getElem? (i := 967) (by decide +kernel), List.mem_of_getElem? (i := 1235) (by decide +kernel), List.mem_of_getElem? (i := 1236) (by decide +kernel)⟩
theorem lw_p54 : lw_okq (⟨"TurnKeeperModel", "waitFor", "(II)V"⟩, 38) := ⟨⟨by decide +kernel, by decide +kernel⟩, List.mem_of_getElem? (i := 967) (by decide +kernel), List.mem_of_getElem? (i := 1239) (by decide +kernel), List.mem_of_getElem? (i := 1240) (by decide +kernel)⟩
theorem lw_p55 : lw_okq (⟨"TurnKeeperModel", "freed", "(I)V"⟩, 38) := ⟨⟨by decide +kernel, by decide +kernel⟩, List.mem_of_getElem? (i := 967) (by decide +kernel), List.mem_of_getElem? (i := 1243) (by decide +kernel), List.mem_of_getElem? (i := 1244) (by decide +kernel)⟩
theorem lw_p56 : lw_okq (⟨"TurnKeeperModel", "signalled", "(II)V"⟩, 38) := ⟨⟨by decide +kernel, by decide +kernel⟩, List.mem_of_getElem? (i := 967) (by decide +kernel), List.mem_of_getElem? (i := 1247) (by decide +kernel), List.mem_of_getElem? (i := 1248) (by decide +kernel)⟩
theorem lw_p57 : lw_okq (⟨"TurnKeeperModel", "atCell", "(III)Z"⟩, 38) := ⟨⟨by decide +kernel, by decide +kernel⟩, List.mem_of_getElem? (i := 967) (by decide +kernel), List.mem_of_getElem? (i := 1251) (by decide +kernel), List.mem_of_getElem? (i := 1252) (by decide +kernel)⟩
theorem lw_p58 : lw_okq (⟨"TurnKeeperModel", "atSemaphore", "(III)Z"⟩, 38) := ⟨⟨by decide +kernel, by decide +kernel⟩, List.mem_of_getElem? (i := 967) (by decide +kernel), List.mem_of_getElem? (i := 1255) (by decide +kernel), List.mem_of_getElem? (i := 1256) (by decide +kernel)⟩
theorem lw_p59 : lw_okq (⟨"TurnKeeperModel", "passes", "(II)Z"⟩, 38) := ⟨⟨by decide +kernel, by decide +kernel⟩, List.mem_of_getElem? (i := 967) (by decide +kernel), List.mem_of_getElem? (i := 1259) (by decide +kernel), List.mem_of_getElem? (i := 1260) (by decide +kernel)⟩
theorem lw_p60 : lw_okq (⟨"TurnKeeperModel", "firstGoesOn", "(I)I"⟩, 38) := ⟨⟨by decide +kernel, by decide +kernel⟩, List.mem_of_getElem? (i := 967) (by decide +kernel), List.mem_of_getElem? (i := 1263) (by decide +kernel), List.mem_of_getElem? (i := 1264) (by decide +kernel)⟩
theorem lw_p61 : lw_okq (⟨"TurnKeeperModel", "atGate", "(III)Z"⟩, 38) := ⟨⟨by decide +kernel, by decide +kernel⟩, List.mem_of_getElem? (i := 967) (by decide +kernel), List.mem_of_getElem? (i := 1267) (by decide +kernel), List.mem_of_getElem? (i := 1268) (by decide +kernel)⟩
theorem lw_p62 : lw_okq (⟨"TurnKeeperModel", "opened", "(I)V"⟩, 38) := ⟨⟨by decide +kernel, by decide +kernel⟩, List.mem_of_getElem? (i := 967) (by decide +kernel), List.mem_of_getElem? (i := 1271) (by decide +kernel), List.mem_of_getElem? (i := 1272) (by decide +kernel)⟩
theorem lw_p63 : lw_okq (⟨"TurnKeeperModel", "atQueue", "(III)Z"⟩, 38) := ⟨⟨by decide +kernel, by decide +kernel⟩, List.mem_of_getElem? (i := 967) (by decide +kernel), List.mem_of_getElem? (i := 1275) (by decide +kernel), List.mem_of_getElem? (i := 1276) (by decide +kernel)⟩
def lw_privs_4 : List (MethodName × Nat) := [(⟨"TurnKeeperModel", "leaves", "(II)V"⟩, 38), (⟨"TurnKeeperModel", "goesOn", "(I)V"⟩, 38), (⟨"TurnKeeperModel", "part", "(II)I"⟩, 38), (⟨"TurnKeeperModel", "with", "(III)Z"⟩, 38), (⟨"TurnKeeperModel", "fails", "(II)Z"⟩, 38), (⟨"TurnKeeperModel", "atLock", "(III)Z"⟩, 38), (⟨"TurnKeeperModel", "waitFor", "(II)V"⟩, 38), (⟨"TurnKeeperModel", "freed", "(I)V"⟩, 38), (⟨"TurnKeeperModel", "signalled", "(II)V"⟩, 38), (⟨"TurnKeeperModel", "atCell", "(III)Z"⟩, 38), (⟨"TurnKeeperModel", "atSemaphore", "(III)Z"⟩, 38), (⟨"TurnKeeperModel", "passes", "(II)Z"⟩, 38), (⟨"TurnKeeperModel", "firstGoesOn", "(I)I"⟩, 38), (⟨"TurnKeeperModel", "atGate", "(III)Z"⟩, 38), (⟨"TurnKeeperModel", "opened", "(I)V"⟩, 38), (⟨"TurnKeeperModel", "atQueue", "(III)Z"⟩, 38)]
theorem lw_r4 : ∀ q ∈ lw_privs_4, lw_okq q := List.forall_mem_cons.mpr ⟨lw_p48, List.forall_mem_cons.mpr ⟨lw_p49, List.forall_mem_cons.mpr ⟨lw_p50, List.forall_mem_cons.mpr ⟨lw_p51, List.forall_mem_cons.mpr ⟨lw_p52, List.forall_mem_cons.mpr ⟨lw_p53, List.forall_mem_cons.mpr ⟨lw_p54, List.forall_mem_cons.mpr ⟨lw_p55, List.forall_mem_cons.mpr ⟨lw_p56, List.forall_mem_cons.mpr ⟨lw_p57, List.forall_mem_cons.mpr ⟨lw_p58, List.forall_mem_cons.mpr ⟨lw_p59, List.forall_mem_cons.mpr ⟨lw_p60, List.forall_mem_cons.mpr ⟨lw_p61, List.forall_mem_cons.mpr ⟨lw_p62, List.forall_mem_cons.mpr ⟨lw_p63, fun _ h => absurd h List.not_mem_nil⟩⟩⟩⟩⟩⟩⟩⟩⟩⟩⟩⟩⟩⟩⟩⟩
theorem lw_p64 : lw_okq (⟨"TurnKeeperModel", "append", "(II)V"⟩, 38) := ⟨⟨by decide +kernel, by decide +kernel⟩, List.mem_of_getElem? (i := 967) (by decide +kernel), List.mem_of_getElem? (i := 1279) (by decide +kernel), List.mem_of_getElem? (i := 1280) (by decide +kernel)⟩
theorem lw_p65 : lw_okq (⟨"TurnKeeperModel", "ready", "()I"⟩, 38) := ⟨⟨by decide +kernel, by decide +kernel⟩, List.mem_of_getElem? (i := 967) (by decide +kernel), List.mem_of_getElem? (i := 1287) (by decide +kernel), List.mem_of_getElem? (i := 1288) (by decide +kernel)⟩
theorem lw_p66 : lw_okq (⟨"TurnKeeperModel", "nextOf", "(I)I"⟩, 38) := ⟨⟨by decide +kernel, by decide +kernel⟩, List.mem_of_getElem? (i := 967) (by decide +kernel), List.mem_of_getElem? (i := 1308) (by decide +kernel), List.mem_of_getElem? (i := 1309) (by decide +kernel)⟩
def lw_privs_5 : List (MethodName × Nat) := [(⟨"TurnKeeperModel", "append", "(II)V"⟩, 38), (⟨"TurnKeeperModel", "ready", "()I"⟩, 38), (⟨"TurnKeeperModel", "nextOf", "(I)I"⟩, 38)]
theorem lw_r5 : ∀ q ∈ lw_privs_5, lw_okq q := List.forall_mem_cons.mpr ⟨lw_p64, List.forall_mem_cons.mpr ⟨lw_p65, List.forall_mem_cons.mpr ⟨lw_p66, fun _ h => absurd h List.not_mem_nil⟩⟩⟩
def lw_privs : List (MethodName × Nat) := lw_privs_1 ++ (lw_privs_2 ++ (lw_privs_3 ++ (lw_privs_4 ++ (lw_privs_5))))
def lw_tbl : List Cond := k2_sels lw_privs ++ tables_1
theorem lw_privs_ok : ∀ q ∈ lw_privs, lw_okq q := by
  show ∀ q ∈ lw_privs_1 ++ (lw_privs_2 ++ (lw_privs_3 ++ (lw_privs_4 ++ (lw_privs_5)))), lw_okq q
  exact List.forall_mem_append.mpr ⟨lw_r1, List.forall_mem_append.mpr ⟨lw_r2, List.forall_mem_append.mpr ⟨lw_r3, List.forall_mem_append.mpr ⟨lw_r4, lw_r5⟩⟩⟩⟩
end
section
/-! ===== BEGIN words of one list among another's, by their places ===== -/
theorem goodIn_r {big : List Cond} (ws : List Cond) (ps : List Nat) (hp : ws = ps.filterMap (fun i => big[i]?)) (h : ws.all goodWord = true) : GoodIn big ws := by
  intro w hw
  have h1 := List.all_eq_true.mp h w hw
  rw [hp] at hw
  obtain ⟨i, -, hi⟩ := List.mem_filterMap.mp hw
  have hm : w ∈ big := by first | exact List.mem_of_getElem? hi | exact List.getElem?_mem hi
  exact ⟨hm, good_of_word h1⟩
theorem goodIn_app {big a b : List Cond} (ha : GoodIn big a) (hb : GoodIn big b) : GoodIn big (a ++ b) := fun w h => (List.mem_append.mp h).elim (ha w) (hb w)
theorem goodIn_ca {big a b : List Cond} {c : Cond} (ha : GoodIn big (c :: a)) (hb : GoodIn big b) : GoodIn big (c :: (a ++ b)) := fun w h => (List.mem_cons.mp h).elim (fun e => ha w (List.mem_cons.mpr (Or.inl e))) (fun h => (List.mem_append.mp h).elim (fun h => ha w (List.mem_cons.mpr (Or.inr h))) (hb w))
theorem goodIn_sub {big ws : List Cond} (hm : ∀ w ∈ ws, w ∈ big) (h : ws.all goodWord = true) : GoodIn big ws := fun w hw => ⟨hm w hw, good_of_word (List.all_eq_true.mp h w hw)⟩
/-! ===== END ===== -/

/-! ===== BEGIN exceptions that leave a method, and their catching by the caller (launches without stack traces) ===== -/
section VXA
/-! The laws vx_back, vx_callV, vx_callS, vx_callSW, vx_throw0, vx_throwS follow proofs of the library, with one case more: JvmDerived/Free/Laws.lean (Back.of_free), Shelf42/LK1.lean (callV, callS), Shelf/KitTraced.lean (throwNew0V, throwNewS). -/
/-- where a method has thrown q: the class by its name, the cell, what was written, the world -/
def vx_T (XC : String → State → State → Prop) (st : State) (q : Addr) (t : State) (mc ms : Nat) (free : Addr → Prop) : Prop :=
  ∃ (E : String) (ce : Cell) (L : List Loc), XC E st t ∧ t.heap[q]? = some ce ∧ ce.vm = .none ∧ st.vm.findClass E = some ce.cls ∧ st.WarmedH t.vm ∧ st.sameButNew ({ t with vm := st.vm } : State) L mc ms ∧ ∀ z ∈ L, free z.base
def vx_Q (Qc : Array Value → State → Outcome → State → Prop) (XC : String → State → State → Prop) (mc ms : Nat) (free : Addr → Prop) : Array Value → State → Outcome → State → Prop := fun a st o t =>
  (Qc a st o t ∧ ∃ L, FrameEnd st o t L mc ms ∧ ∀ q ∈ L, free q.base) ∨ ∃ q, o = .threw q ∧ vx_T XC st q t mc ms free
/-- a callee that returns or throws -/
def vx_Met (l : Launch) (y : MethodName) (ws : List Cond) (rm : Room) (Pc : Array Value → State → Prop) (Qc : Array Value → State → Outcome → State → Prop) (XC : String → State → State → Prop) (mc ms : Nat) (free : Addr → Prop) : Prop :=
  MetFree l y (headSpec ws rm) Pc (fun _ _ _ _ _ => True) (vx_Q Qc XC mc ms free)
def vx_Post (XC : String → State → State → Prop) (mc ms : Nat) (free : Addr → Prop) : Pt → Array Value → Addr → Pt → Prop := fun A a q B =>
  ∃ (g : JFrame) (mk : MethodId) (t : State) (L : List Loc) (E : String) (ce : Cell), B.U.heap = t.heap ∧ B.U.vm = t.vm ∧ XC E (A.U.calling g mk a) t ∧ t.heap[q]? = some ce ∧ ce.vm = .none ∧ A.U.vm.findClass E = some ce.cls ∧ B.locs = A.locs ++ L ∧ (∀ z ∈ L, free z.base) ∧ B.cells = A.cells + mc ∧ B.slots = A.slots + ms
def vx_Back (l : Launch) (R : Room) (p : Program) (e : Env) (below : List Frame) (s : State) (sargs : Array Value) (y : MethodName) (len W9 : Nat)
    (Pre : Pt → Array Value → Prop) (Post : Pt → Array Value → Option Value → Pt → Prop) (PostX : Pt → Array Value → Addr → Pt → Prop) : Prop :=
  ∀ (m : MethodId) (meth : Method) (c : Code) (A : Pt) (g : JFrame) (ig : Instr) (mk : MethodId) (a : Array Value),
    Stand p l e R s m sargs below meth c A.U A.locs A.cells A.slots → g.method = m → g.locals.size = c.maxLocals → decode c.code g.pc = .ok (ig, len) →
    2 * g.monitorRoom + (g.stack.map fun v => v.category).sum ≤ W9 → A.U.methodNamed? y = some mk → Pre A a →
    (∃ (v : Option Value) (B : Pt), Stand p l e R s m sargs below meth c B.U B.locs B.cells B.slots ∧ Post A a v B ∧
      Steps p.tables e below (doInvoke e (A.U.setTop g) [] mk a).1 (B.U.setTop { g with pc := g.pc + len, stack := v.toList ++ g.stack })) ∨
    (∃ (q : Addr) (B : Pt), Stand p l e R s m sargs below meth c B.U B.locs B.cells B.slots ∧ PostX A a q B ∧
      Steps p.tables e below (doInvoke e (A.U.setTop g) [] mk a).1 ((B.U.setTop g).pushFrame (.throwing q)))
section Payer
variable {l : Launch} {R : Room} {p : Program} {e : Env} {below : List Frame} {s : State} {sargs : Array Value} {y : MethodName} {len W9 : Nat}
theorem vx_back {ws : List Cond} {rm : Room} {Pc : Array Value → State → Prop} {Qc : Array Value → State → Outcome → State → Prop} {XC : String → State → State → Prop} {mc ms : Nat} {free : Addr → Prop} {bytes : ByteArray} {maxL : Nat} {ret : Option FieldType}
    (hM : vx_Met l y ws rm Pc Qc XC mc ms free) (hblind : FrameBlind Pc) (hrc : rm.cells = mc) (hrs : rm.slots = ms)
    (hframes : rm.frames + 1 ≤ R.frames) (hlocals : W9 + (maxL + 11) + rm.locals ≤ R.locals)
    (hws : ∀ w ∈ ws, ∀ a' U, s.WarmedH U.vm → w.before a' U = true) (hcode : Cond.code y bytes maxL ret ∈ ws) (hinit : ∀ a' U, s.WarmedH U.vm → (Cond.initialized y.cls).before a' U = true) :
    vx_Back l R p e below s sargs y len W9 (PreOf R mc ms Pc) (PostOf Qc mc ms free) (vx_Post XC mc ms free) := by
  intro m meth c A g ig mk a X hg hsize hdg hW hn hp
  have h1 : (headSpec ws rm).pre.before a A.U = true := atoms_intro fun w hw => hws w hw _ _ X.warmed
  have h2 : (Cond.code y bytes maxL ret).before a A.U = true := hws _ hcode _ _ X.warmed
  have h3 : (Cond.initialized y.cls).before a A.U = true := hinit _ _ X.warmed
  have h4 : A.cells + (headSpec ws rm).room.cells ≤ R.cells := by rw [show (headSpec ws rm).room.cells = mc from hrc]; exact hp.1
  have h5 : A.slots + (headSpec ws rm).room.slots ≤ R.slots := by rw [show (headSpec ws rm).room.slots = ms from hrs]; exact hp.2.1
  have hPc : Pc a (A.U.calling g mk a) := hblind _ _ _ _ hp.2.2
  obtain ⟨U, Ls, c0, s0⟩ := A
  dsimp only [Pt.U, Pt.locs, Pt.cells, Pt.slots] at h1 h2 h3 h4 h5 X hn hPc ⊢
  obtain ⟨methY, cY, hmY, hcY, -, hlY, -, -, -, -⟩ := Cond.code_spec hn h2
  obtain ⟨kY, hkY, -⟩ := className_of_methodNamed hn
  have hinitY : kY.init = .initialized := Cond.initialized_spec (findClass_of_methodNamed hn) hkY h3
  have h : At U g.method c below := by rw [hg]; exact X.here
  have hlocals9 : W9 + (maxL + 11) + (headSpec ws rm).room.locals ≤ R.locals := hlocals
  have happ : (headSpec ws rm).appliesLoose y e.platform (U.calling g mk a) = true :=
    Spec.appliesLoose_calling (g := g) h hdg hn hkY hinitY
      (X.room_calling (g := g) (R' := (headSpec ws rm).room) hsize hmY hcY hframes (by rw [hlY]; omega) h4 h5) h1
  obtain ⟨mid, hmid⟩ := h.above
  have hfr : (U.setTop g).frames = (.java g :: mid) ++ below := by rw [State.frames_setTop' g h.top, hmid]; rfl
  obtain ⟨o, s₂, hsteps, -, hend, hq⟩ := Steps.callFree hM p X.admits X.cas X.clock (acts := []) hfr happ hPc trivial
  have hq' : vx_Q Qc XC mc ms free a (U.calling g mk a) o s₂ := hq
  rw [State.frames_setTop' g h.top] at hend
  obtain ⟨g₀, hg0⟩ := Option.isSome_iff_exists.mp h.top
  obtain ⟨r, hr⟩ := State.topJava?_eq_some.mp hg0
  have hr' : (({ U with heap := s₂.heap, slotsUsed := s₂.slotsUsed } : State).setVm s₂.vm).frames = .java g₀ :: r := hr
  rcases hq' with ⟨hqc, L, hfe, hL⟩ | ⟨q, rfl, E, ce, L, hx, hce, hcv, hcl, hW₂, hsm, hL⟩
  · obtain ⟨⟨v, rfl⟩, hW₂, e2, q2, q3, q4, q5, q6⟩ := id hfe
    have e3 : s₂ = ({ (U.calling g mk a).setFrames s₂.frames with heap := s₂.heap, slotsUsed := s₂.slotsUsed } : State).setVm s₂.vm := by
      have : s₂ = ({ s₂ with vm := (U.calling g mk a).vm } : State).setVm s₂.vm := rfl
      rw [e2] at this
      exact this
    obtain ⟨c₂, i₂, len₂, hc₂, hd₂, hf₂⟩ := hend
    have hW' : U.WarmedH s₂.vm := hW₂
    have hcc : c₂ = c := by
      have h1 : s₂.code? g.method = U.code? g.method := by
        rw [State.code?_eq, State.code?_eq, hW'.alike.method?]
      exact Option.some.inj (hc₂.symm.trans (h1.trans h.code))
    subst hcc
    have hlen : len₂ = len := by rw [hdg] at hd₂; cases hd₂; rfl
    subst hlen
    have hs₂ : s₂ = (({ U with heap := s₂.heap, slotsUsed := s₂.slotsUsed } : State).setVm s₂.vm).setTop { g with pc := g.pc + len₂, stack := v.toList ++ g.stack } := by
      refine e3.trans ?_
      rw [hf₂, State.calling_eq h.top, State.setFrames_setFrames, State.setTop_of_frames _ hr', hr]
      rfl
    have hsame : U.sameButNew ({ U with heap := s₂.heap, slotsUsed := s₂.slotsUsed } : State) L mc ms := by
      refine ⟨?_, q2, q3, q4, q5, q6⟩
      obtain ⟨t, ht, -⟩ := State.frames_cons hr
      show ({ U with heap := s₂.heap, slotsUsed := s₂.slotsUsed } : State) = { U.setFrames U.frames with heap := s₂.heap, slotsUsed := s₂.slotsUsed }
      rw [State.setFrames_self ht]
    subst hg
    refine Or.inl ⟨v, ⟨(({ U with heap := s₂.heap, slotsUsed := s₂.slotsUsed } : State).setVm s₂.vm), Ls ++ L, c0 + mc, s0 + ms⟩,
      ⟨X.admits, X.cas, X.clock, X.frames, X.room, X.hears, X.method, X.code, (X.here.setHeapUsed s₂.heap s₂.slotsUsed).setVm hW'.alike, X.tail, State.WarmedH.trans X.warmed hW', X.limits, X.bytes, X.same.trans (hsame.setVm s.vm)⟩,
      ⟨g, mk, s₂, L, rfl, rfl, hqc, rfl, hL, rfl, rfl⟩, ?_⟩
    show Steps p.tables e below _ ((({ U with heap := s₂.heap, slotsUsed := s₂.slotsUsed } : State).setVm s₂.vm).setTop { g with pc := g.pc + len₂, stack := v.toList ++ g.stack })
    rw [← hs₂]
    exact hsteps
  · obtain ⟨e2, q2, q3, q4, q5, q6⟩ := id hsm
    have e3 : s₂ = ({ (U.calling g mk a).setFrames s₂.frames with heap := s₂.heap, slotsUsed := s₂.slotsUsed } : State).setVm s₂.vm := by
      have : s₂ = ({ s₂ with vm := (U.calling g mk a).vm } : State).setVm s₂.vm := rfl
      rw [e2] at this
      exact this
    have hf₂ : s₂.frames = .throwing q :: .java g :: U.frames.tail := hend
    have hW' : U.WarmedH s₂.vm := hW₂
    have hs₂ : s₂ = ((({ U with heap := s₂.heap, slotsUsed := s₂.slotsUsed } : State).setVm s₂.vm).setTop g).pushFrame (.throwing q) := by
      refine e3.trans ?_
      rw [hf₂, State.calling_eq h.top, State.setFrames_setFrames, State.pushFrame, State.frames_setTop _ hr', State.setTop_of_frames _ hr', State.setFrames_setFrames, hr]
      rfl
    have hsame : U.sameButNew ({ U with heap := s₂.heap, slotsUsed := s₂.slotsUsed } : State) L mc ms := by
      refine ⟨?_, q2, q3, q4, q5, q6⟩
      obtain ⟨t, ht, -⟩ := State.frames_cons hr
      show ({ U with heap := s₂.heap, slotsUsed := s₂.slotsUsed } : State) = { U.setFrames U.frames with heap := s₂.heap, slotsUsed := s₂.slotsUsed }
      rw [State.setFrames_self ht]
    subst hg
    refine Or.inr ⟨q, ⟨(({ U with heap := s₂.heap, slotsUsed := s₂.slotsUsed } : State).setVm s₂.vm), Ls ++ L, c0 + mc, s0 + ms⟩,
      ⟨X.admits, X.cas, X.clock, X.frames, X.room, X.hears, X.method, X.code, (X.here.setHeapUsed s₂.heap s₂.slotsUsed).setVm hW'.alike, X.tail, State.WarmedH.trans X.warmed hW', X.limits, X.bytes, X.same.trans (hsame.setVm s.vm)⟩,
      ⟨g, mk, s₂, L, E, ce, rfl, rfl, hx, hce, hcv, hcl, rfl, hL, rfl, rfl⟩, ?_⟩
    show Steps p.tables e below _ (((({ U with heap := s₂.heap, slotsUsed := s₂.slotsUsed } : State).setVm s₂.vm).setTop g).pushFrame (.throwing q))
    rw [← hs₂]
    exact hsteps
end Payer
section Calls
variable {p : Program} {l : Launch} {e : Env} {R : Room} {s : State} {m : MethodId} {args : Array Value} {below : List Frame} {meth : Method} {c : Code} {T : State} {locs : List Loc} {cells slots : Nat}
theorem vx_callV (X : Stand p l e R s m args below meth c T locs cells slots) (hexec : p.tables.exec = Jvm.exec) {own C : String} {index : Nat} {y : MethodName} {bytes : ByteArray} {maxL : Nat} {ret : Option FieldType}
    (hown : s.vm.findClass own = some m.cls) (hlink : (Cond.methodLink own index y).before args s = true) (hinst : (Cond.instanceMethod y).before args s = true) (hsel : (Cond.selects C y y).before args s = true)
    (hcode : (Cond.code y bytes maxL ret).before args s = true) (hy : y.cls ≠ "java/lang/invoke/MethodHandle" ∧ y.cls ≠ "java/lang/invoke/VarHandle")
    {W9 : Nat} {Pre : Pt → Array Value → Prop} {Post : Pt → Array Value → Option Value → Pt → Prop} {PostX : Pt → Array Value → Addr → Pt → Prop} (hK : vx_Back l R p e below s args y 3 W9 Pre Post PostX)
    {b : Addr} {cellB : Cell} (hcell : T.heap[b]? = some cellB) (hobj : cellB.vm.isStatics = false) (hcls : s.vm.findClass C = some cellB.cls)
    {g : JFrame} (hg : g.method = m) (hsize : g.locals.size = c.maxLocals) {argsL rest : List Value} (hlen : ∀ sig, parseMethodDescriptor y.desc = some sig → argsL.length = sig.parameters.length)
    (hstack : g.stack = argsL.reverse ++ .ref b :: rest) (hW : 2 * g.monitorRoom + (rest.map fun v => v.category).sum ≤ W9) (hdg : decode c.code g.pc = .ok (.invokevirtual index, 3))
    (hpre : ∀ vm₁, s.WarmedH vm₁ → Pre ⟨T.setVm vm₁, locs, cells, slots⟩ (Value.ref b :: argsL).toArray) :
    (∃ (v : Option Value) (vm₁ : Vm) (B : Pt), s.WarmedH vm₁ ∧ Stand p l e R s m args below meth c B.U B.locs B.cells B.slots ∧ Post ⟨T.setVm vm₁, locs, cells, slots⟩ (Value.ref b :: argsL).toArray v B ∧
      ∀ target, Steps p.tables e below (B.U.setTop { g with pc := g.pc + 3, stack := v.toList ++ rest }) target → Steps p.tables e below (T.setTop g) target) ∨
    (∃ (q : Addr) (vm₁ : Vm) (B : Pt), s.WarmedH vm₁ ∧ Stand p l e R s m args below meth c B.U B.locs B.cells B.slots ∧ PostX ⟨T.setVm vm₁, locs, cells, slots⟩ (Value.ref b :: argsL).toArray q B ∧
      Steps p.tables e below (T.setTop g) ((B.U.setTop { g with stack := rest }).pushFrame (.throwing q))) := by
  obtain ⟨mk, methM, hnamed, hmethM, hstM, habM⟩ := Cond.instanceMethod_spec hinst
  obtain ⟨methM', cM, hmethM', -, -, -, -, -, -, hsigM⟩ := Cond.code_spec hnamed hcode
  cases hmethM.symm.trans hmethM'
  obtain ⟨c2, r2, m2, q1, q2, q3, q4, kP, hkP, hkPi⟩ := Cond.selects_spec hsel
  cases hcls.symm.trans q1
  cases (State.methodFound?_of_named hnamed hy).symm.trans q2
  cases hnamed.symm.trans q3
  have hselP : selectMethod e.platform s.vm cellB.cls mk = .method mk := by rw [Launch.admits_selectMethod X.admits]; exact q4
  obtain ⟨vm₁, X₁, hstep₁⟩ := X.invokevirtual hexec hown hlink hnamed hmethM hstM hkP hkPi hy (a := b) (cell := cellB) hcell
    (fun z h => by rw [h] at hobj; cases hobj) hselP hmethM habM hkP hkPi (g := g) hg (argsL := argsL) (rest := rest) (hlen _ hsigM) hstack hdg
  rcases hK m meth c ⟨T.setVm vm₁, locs, cells, slots⟩ { g with stack := rest } (.invokevirtual index) mk (Value.ref b :: argsL).toArray X₁ hg hsize hdg hW (X₁.named hnamed) (hpre vm₁ X₁.warmed) with ⟨v, B, X', hpost, hsteps⟩ | ⟨q, B, X', hpost, hsteps⟩
  · exact Or.inl ⟨v, vm₁, B, X₁.warmed, X', hpost, fun target h => hstep₁ _ fun acts => by rw [doInvoke_state]; exact hsteps.trans h⟩
  · exact Or.inr ⟨q, vm₁, B, X₁.warmed, X', hpost, hstep₁ _ fun acts => by rw [doInvoke_state]; exact hsteps⟩
theorem vx_callS (X : Stand p l e R s m args below meth c T locs cells slots) (hexec : p.tables.exec = Jvm.exec) {own : String} {index : Nat} {y : MethodName} {bytes : ByteArray} {maxL : Nat} {ret : Option FieldType}
    (hown : s.vm.findClass own = some m.cls) (hlink : (Cond.methodLink own index y).before args s = true) (hstat : (Cond.static y).before args s = true) (hinit : (Cond.initialized y.cls).before args s = true)
    (hcode : (Cond.code y bytes maxL ret).before args s = true) (hy : y.cls ≠ "java/lang/invoke/MethodHandle" ∧ y.cls ≠ "java/lang/invoke/VarHandle")
    {W9 : Nat} {Pre : Pt → Array Value → Prop} {Post : Pt → Array Value → Option Value → Pt → Prop} {PostX : Pt → Array Value → Addr → Pt → Prop} (hK : vx_Back l R p e below s args y 3 W9 Pre Post PostX)
    {g : JFrame} (hg : g.method = m) (hsize : g.locals.size = c.maxLocals) {argsL rest : List Value} (hlen : ∀ sig, parseMethodDescriptor y.desc = some sig → argsL.length = sig.parameters.length)
    (hstack : g.stack = argsL.reverse ++ rest) (hW : 2 * g.monitorRoom + (rest.map fun v => v.category).sum ≤ W9) (hdg : decode c.code g.pc = .ok (.invokestatic index, 3))
    (hpre : ∀ vm₁, s.WarmedH vm₁ → Pre ⟨T.setVm vm₁, locs, cells, slots⟩ argsL.toArray) :
    (∃ (v : Option Value) (vm₁ : Vm) (B : Pt), s.WarmedH vm₁ ∧ Stand p l e R s m args below meth c B.U B.locs B.cells B.slots ∧ Post ⟨T.setVm vm₁, locs, cells, slots⟩ argsL.toArray v B ∧
      ∀ target, Steps p.tables e below (B.U.setTop { g with pc := g.pc + 3, stack := v.toList ++ rest }) target → Steps p.tables e below (T.setTop g) target) ∨
    (∃ (q : Addr) (vm₁ : Vm) (B : Pt), s.WarmedH vm₁ ∧ Stand p l e R s m args below meth c B.U B.locs B.cells B.slots ∧ PostX ⟨T.setVm vm₁, locs, cells, slots⟩ argsL.toArray q B ∧
      Steps p.tables e below (T.setTop g) ((B.U.setTop { g with stack := rest }).pushFrame (.throwing q))) := by
  obtain ⟨mk, hnamed⟩ := Cond.code_named hcode
  obtain ⟨methM, cM, hmethM, -, -, -, -, -, -, hsigM⟩ := Cond.code_spec hnamed hcode
  have hstatic : methM.isStatic = true := Cond.static_spec hnamed hmethM hstat
  obtain ⟨kP, hkP, -⟩ := className_of_methodNamed hnamed
  have hinitP : kP.init = .initialized := Cond.initialized_spec (findClass_of_methodNamed hnamed) hkP hinit
  obtain ⟨vm₁, X₁, hstep₁⟩ := X.invokestatic hexec hown hlink hnamed hmethM hstatic hkP hinitP hy (g := g) hg (argsL := argsL) (rest := rest) (hlen _ hsigM) hstack hdg
  rcases hK m meth c ⟨T.setVm vm₁, locs, cells, slots⟩ { g with stack := rest } (.invokestatic index) mk argsL.toArray X₁ hg hsize hdg hW (X₁.named hnamed) (hpre vm₁ X₁.warmed) with ⟨v, B, X', hpost, hsteps⟩ | ⟨q, B, X', hpost, hsteps⟩
  · exact Or.inl ⟨v, vm₁, B, X₁.warmed, X', hpost, fun target h => hstep₁ _ fun acts => by rw [doInvoke_state]; exact hsteps.trans h⟩
  · exact Or.inr ⟨q, vm₁, B, X₁.warmed, X', hpost, hstep₁ _ fun acts => by rw [doInvoke_state]; exact hsteps⟩
end Calls
theorem vx_cls {s : State} {T : State} {vm₁ : Vm} {E : String} {k : ClassId} (hW : s.WarmedH vm₁) (h : (T.setVm vm₁).vm.findClass E = some k) : s.vm.findClass E = some k := by
  have h1 : vm₁.findClass E = some k := h
  rw [hW.alike.findClass] at h1
  exact h1
/-- the method's frame g, with q thrown over it -/
def vx_W (p : Program) (l : Launch) (e : Env) (R : Room) (s : State) (m : MethodId) (args : Array Value) (below : List Frame) (meth : Method) (c : Code) (H : Heap) (locs : List Loc) (cells slots : Nat) (Q : State → Prop) (g : JFrame) (q : Addr) : Prop :=
  ∀ T : State, T.heap = H → Stand p l e R s m args below meth c T locs cells slots → ∃ t, Steps p.tables e below ((T.setTop g).pushFrame (.throwing q)) t ∧ Q t
def vx_Run (p : Program) (l : Launch) (e : Env) (R : Room) (s : State) (m : MethodId) (args : Array Value) (below : List Frame) (meth : Method) (c : Code) (H : Heap) (locs : List Loc) (cells slots mc ms : Nat) (g : JFrame) (rest : List Value) (Qa : State → Outcome → State → Prop) (XC : String → State → State → Prop) (free : Addr → Prop) : Prop :=
  ∀ T : State, T.heap = H → Stand p l e R s m args below meth c T locs cells slots →
    (∃ (v : Option Value) (st₀ t T' : State) (L : List Loc), st₀.heap = H ∧ Stand p l e R s m args below meth c T' (locs ++ L) (cells + mc) (slots + ms) ∧ (∀ q ∈ L, free q.base) ∧ T'.heap = t.heap ∧ T'.vm = t.vm ∧ Qa st₀ (.returned v) t ∧
      Goes p e below T g T' { g with pc := g.pc + 3, stack := v.toList ++ rest }) ∨
    (∃ (q : Addr) (st₀ t T' : State) (L : List Loc) (E : String) (ce : Cell), st₀.heap = H ∧ Stand p l e R s m args below meth c T' (locs ++ L) (cells + mc) (slots + ms) ∧ (∀ z ∈ L, free z.base) ∧ T'.heap = t.heap ∧ T'.vm = t.vm ∧ XC E st₀ t ∧ t.heap[q]? = some ce ∧ ce.vm = .none ∧ s.vm.findClass E = some ce.cls ∧
      Steps p.tables e below (T.setTop g) ((T'.setTop { g with stack := rest }).pushFrame (.throwing q)))
def vx_X {S : Type} (px : S → Prop) (B : String → S → State → Prop) (A : Nat → Prop) : String → State → State → Prop := fun E st t => ∃ u : S, px u ∧ B E u t ∧ va_F A st t
section Runs
variable {p : Program} {l : Launch} {e : Env} {R : Room} {s : State} {m : MethodId} {args : Array Value} {below : List Frame} {meth : Method} {c : Code} {H : Heap} {locs : List Loc} {cells slots : Nat}
variable {y : MethodName} {bytes cc : ByteArray} {maxL nL mc ms n index : Nat} {ret : Option FieldType} {ws : List Cond} {rm : Room} {Pc : Array Value → State → Prop} {Qc : Array Value → State → Outcome → State → Prop} {XC : String → State → State → Prop} {free : Addr → Prop} {Ts : List Cond} {own C : String} {b : Addr} {As rest : List Value} {g : JFrame}
theorem vx_callBack (cb : CallB R s args own index y bytes maxL ret ws rm mc ms n) (hM : vx_Met l y ws rm Pc Qc XC mc ms free) (hbl : FrameBlind Pc) : vx_Back l R p e below s args y 3 8 (PreOf R mc ms Pc) (PostOf Qc mc ms free) (vx_Post XC mc ms free) := by
  obtain ⟨hrc, hrs, hfr, hlo, hws, hcw, -, hini, -⟩ := cb
  exact vx_back (bytes := bytes) (maxL := maxL) (ret := ret) hM hbl hrc hrs hfr hlo hws hcw (fun a' U hW => word_at hW (Or.inl (by first | rfl | simp [Cond.onTables, Cond.keeps, Cond.steady])) hini)
theorem vx_runV (S : CallFix p m c cc nL s args Ts own) (hM : vx_Met l y ws rm Pc Qc XC mc ms free) (cw : CallW R s args own C index y bytes maxL ret ws rm mc ms n) (hp : PreV s H C b Pc As)
    (hg : g.method = m) (hn : As.length = n) (hsize : g.locals.size = nL) (hstack : g.stack = As.reverse ++ .ref b :: rest) (hW : 2 * g.monitorRoom + (rest.map fun v => v.category).sum ≤ 8) (hdg : decode cc g.pc = .ok (.invokevirtual index, 3)) (hf : cells + mc ≤ R.cells ∧ slots + ms ≤ R.slots) :
    vx_Run p l e R s m args below meth c H locs cells slots mc ms g rest (Qc (Value.ref b :: As).toArray) XC free := by
  have hK : vx_Back l R p e below s args y 3 8 (PreOf R mc ms Pc) (PostOf Qc mc ms free) (vx_Post XC mc ms free) := vx_callBack cw.1 hM hp.1
  obtain ⟨⟨-, -, -, -, -, -, hcode, -, hy, hlen, hl⟩, hin, hse⟩ := cw
  obtain ⟨hx, hb, hml, ho, -⟩ := S
  obtain ⟨-, ⟨cellB, hcB, hoB, hclB⟩, hPc⟩ := hp
  intro T hT X
  rcases vx_callV X hx (C := C) (bytes := bytes) (maxL := maxL) (ret := ret) ho hl hin hse hcode hy hK (by rw [hT]; exact hcB) hoB hclB hg (hsize.trans hml.symm) (argsL := As) (rest := rest) (fun sig h => hn.trans (hlen sig h)) hstack hW (by rw [hb]; exact hdg)
    (fun vm₁ hW₁ => ⟨hf.1, hf.2, hPc (T.setVm vm₁) hT hW₁⟩) with ⟨v, vm₁, ⟨U', l2, c2, s2⟩, hW₁, X', ⟨g', mk, t, L, e1, e2, hq, h1, hL, h2, h3⟩, st⟩ | ⟨q, vm₁, ⟨U', l2, c2, s2⟩, hW₁, X', ⟨g', mk, t, L, E, ce, e1, e2, hq, hce, hcv, hcl, h1, hL, h2, h3⟩, st⟩
  · dsimp only [Pt.U, Pt.locs, Pt.cells, Pt.slots] at X' e1 e2 h1 h2 h3 st
    subst h1; subst h2; subst h3
    exact Or.inl ⟨v, (T.setVm vm₁).calling g' mk (Value.ref b :: As).toArray, t, U', L, hT, X', hL, e1, e2, hq, st⟩
  · dsimp only [Pt.U, Pt.locs, Pt.cells, Pt.slots] at X' e1 e2 h1 h2 h3 st hcl
    subst h1; subst h2; subst h3
    exact Or.inr ⟨q, (T.setVm vm₁).calling g' mk (Value.ref b :: As).toArray, t, U', L, E, ce, hT, X', hL, e1, e2, hq, hce, hcv, vx_cls hW₁ hcl, st⟩
theorem vx_runS (S : CallFix p m c cc nL s args Ts own) (hM : vx_Met l y ws rm Pc Qc XC mc ms free) (cw : CallB R s args own index y bytes maxL ret ws rm mc ms n ∧ (Cond.static y).before args s = true) (hp : PreS s H Pc As)
    (hg : g.method = m) (hn : As.length = n) (hsize : g.locals.size = nL) (hstack : g.stack = As.reverse ++ rest) (hW : 2 * g.monitorRoom + (rest.map fun v => v.category).sum ≤ 8) (hdg : decode cc g.pc = .ok (.invokestatic index, 3)) (hf : cells + mc ≤ R.cells ∧ slots + ms ≤ R.slots) :
    vx_Run p l e R s m args below meth c H locs cells slots mc ms g rest (Qc As.toArray) XC free := by
  have hK : vx_Back l R p e below s args y 3 8 (PreOf R mc ms Pc) (PostOf Qc mc ms free) (vx_Post XC mc ms free) := vx_callBack cw.1 hM hp.1
  obtain ⟨⟨-, -, -, -, -, -, hcode, hini, hy, hlen, hl⟩, hstt⟩ := cw
  obtain ⟨hx, hb, hml, ho, -⟩ := S
  intro T hT X
  rcases vx_callS X hx (bytes := bytes) (maxL := maxL) (ret := ret) ho hl hstt hini hcode hy hK hg (hsize.trans hml.symm) (argsL := As) (rest := rest) (fun sig h => hn.trans (hlen sig h)) hstack hW (by rw [hb]; exact hdg)
    (fun vm₁ hW₁ => ⟨hf.1, hf.2, hp.2 (T.setVm vm₁) hT hW₁⟩) with ⟨v, vm₁, ⟨U', l2, c2, s2⟩, hW₁, X', ⟨g', mk, t, L, e1, e2, hq, h1, hL, h2, h3⟩, st⟩ | ⟨q, vm₁, ⟨U', l2, c2, s2⟩, hW₁, X', ⟨g', mk, t, L, E, ce, e1, e2, hq, hce, hcv, hcl, h1, hL, h2, h3⟩, st⟩
  · dsimp only [Pt.U, Pt.locs, Pt.cells, Pt.slots] at X' e1 e2 h1 h2 h3 st
    subst h1; subst h2; subst h3
    exact Or.inl ⟨v, (T.setVm vm₁).calling g' mk As.toArray, t, U', L, hT, X', hL, e1, e2, hq, st⟩
  · dsimp only [Pt.U, Pt.locs, Pt.cells, Pt.slots] at X' e1 e2 h1 h2 h3 st hcl
    subst h1; subst h2; subst h3
    exact Or.inr ⟨q, (T.setVm vm₁).calling g' mk As.toArray, t, U', L, E, ce, hT, X', hL, e1, e2, hq, hce, hcv, vx_cls hW₁ hcl, st⟩
end Runs
section Rows
variable {p : Program} {l : Launch} {e : Env} {R : Room} {s : State} {m : MethodId} {args : Array Value} {below : List Frame} {meth : Method} {c : Code} {H : Heap} {locs : List Loc} {cells slots : Nat} {Q : State → Prop}
variable {mc ms : Nat} {free : Addr → Prop} {A0 A1 : Nat → Prop} {H0 : Heap} {a : Array Value} {pc : Nat} {ls : Array Slot} {st0 rest : List Value}
theorem vx_keep {st₀ t T' : State} {L : List Loc} (h0 : st₀.heap = H) (e1 : T'.heap = t.heap) (hS : va_S A0 H0 H locs) (hA : ∀ q, q < H.size → A1 q → A0 q) (hf : ∀ q, free q → A0 q) (hL : ∀ q ∈ L, free q.base) (hF : va_F A1 st₀ t) :
    H.size ≤ T'.heap.size ∧ (∀ q : Nat, q < H.size → ¬ A1 q → T'.heap[q]? = H[q]?) ∧ va_S A0 H0 T'.heap (locs ++ L) := by
  obtain ⟨hz, hk⟩ := hF
  rw [h0] at hz hk
  exact ⟨by rw [e1]; exact hz, fun q h1 h2 => by rw [e1]; exact hk q h1 h2,
    ⟨Nat.le_trans hS.1 (by rw [e1]; exact hz), fun q h1 h2 => by rw [e1, hk q (Nat.lt_of_lt_of_le h1 hS.1) (fun z => h2 (hA q (Nat.lt_of_lt_of_le h1 hS.1) z))]; exact hS.2.1 q h1 h2, fun q hq => by
      rcases List.mem_append.mp hq with h | h
      · exact hS.2.2 q h
      · exact hf _ (hL q h)⟩⟩
theorem vx_calli {S SX : Type} {post : Int32 → S → Prop} {px : SX → Prop} {B : S → State → Prop} {BX : String → SX → State → Prop} {AX : Nat → Prop} (hr : vx_Run p l e R s m args below meth c H locs cells slots mc ms (F0 m pc ls st0) rest (va_Qi post B A1 a) (vx_X px BX AX) free) (hS : va_S A0 H0 H locs) (hA : ∀ q, q < H.size → A1 q → A0 q) (hf : ∀ q, free q → A0 q) (hAX : ∀ q, q < H.size → AX q → A0 q)
    (kx : ∀ (E : String) (ce : Cell) (q9 : Addr) (u : SX) (t : State) (H1 : Heap) (locs1 : List Loc), t.heap = H1 → s.vm.Alike t.vm → px u → BX E u t → H.size ≤ H1.size → (∀ q : Nat, q < H.size → ¬ AX q → H1[q]? = H[q]?) → va_S A0 H0 H1 locs1 → H1[q9]? = some ce → ce.vm = .none → s.vm.findClass E = some ce.cls → vx_W p l e R s m args below meth c H1 locs1 (cells + mc) (slots + ms) Q (F0 m pc ls rest) q9)
    (kk : ∀ (r : Int32) (u : S) (t : State) (H1 : Heap) (locs1 : List Loc), t.heap = H1 → s.vm.Alike t.vm → post r u → B u t → H.size ≤ H1.size → (∀ q : Nat, q < H.size → ¬ A1 q → H1[q]? = H[q]?) → va_S A0 H0 H1 locs1 → W p l e R s m args below meth c H1 locs1 (cells + mc) (slots + ms) Q (F0 m (pc + 3) ls (.int r :: rest))) : W p l e R s m args below meth c H locs cells slots Q (F0 m pc ls st0) := by
  intro T hT X
  rcases hr T hT X with ⟨v, st₀, t, T', L, h0, X', hL, e1, e2, ⟨⟨r, u, hv, hp, hb⟩, hF⟩, st⟩ | ⟨q, st₀, t, T', L, E, ce, h0, X', hL, e1, e2, ⟨u, hp, hb, hF⟩, hce, hcv, hcl, st⟩
  · cases hv
    obtain ⟨k1, k2, k3⟩ := vx_keep h0 e1 hS hA hf hL hF
    obtain ⟨t2, a1, b1⟩ := kk r u t T'.heap (locs ++ L) e1.symm (by rw [← e2]; exact X'.warmed.alike) hp hb k1 k2 k3 T' rfl X'
    exact ⟨t2, st t2 a1, b1⟩
  · obtain ⟨k1, k2, k3⟩ := vx_keep h0 e1 hS hAX hf hL hF
    obtain ⟨t2, a1, b1⟩ := kx E ce q u t T'.heap (locs ++ L) e1.symm (by rw [← e2]; exact X'.warmed.alike) hp hb k1 k2 k3 (by rw [e1]; exact hce) hcv hcl T' rfl X'
    exact ⟨t2, st.trans a1, b1⟩
theorem vx_calll {S SX : Type} {post : Int64 → S → Prop} {px : SX → Prop} {B : S → State → Prop} {BX : String → SX → State → Prop} {AX : Nat → Prop} (hr : vx_Run p l e R s m args below meth c H locs cells slots mc ms (F0 m pc ls st0) rest (va_Ql post B A1 a) (vx_X px BX AX) free) (hS : va_S A0 H0 H locs) (hA : ∀ q, q < H.size → A1 q → A0 q) (hf : ∀ q, free q → A0 q) (hAX : ∀ q, q < H.size → AX q → A0 q)
    (kx : ∀ (E : String) (ce : Cell) (q9 : Addr) (u : SX) (t : State) (H1 : Heap) (locs1 : List Loc), t.heap = H1 → s.vm.Alike t.vm → px u → BX E u t → H.size ≤ H1.size → (∀ q : Nat, q < H.size → ¬ AX q → H1[q]? = H[q]?) → va_S A0 H0 H1 locs1 → H1[q9]? = some ce → ce.vm = .none → s.vm.findClass E = some ce.cls → vx_W p l e R s m args below meth c H1 locs1 (cells + mc) (slots + ms) Q (F0 m pc ls rest) q9)
    (kk : ∀ (r : Int64) (u : S) (t : State) (H1 : Heap) (locs1 : List Loc), t.heap = H1 → s.vm.Alike t.vm → post r u → B u t → H.size ≤ H1.size → (∀ q : Nat, q < H.size → ¬ A1 q → H1[q]? = H[q]?) → va_S A0 H0 H1 locs1 → W p l e R s m args below meth c H1 locs1 (cells + mc) (slots + ms) Q (F0 m (pc + 3) ls (.long r :: rest))) : W p l e R s m args below meth c H locs cells slots Q (F0 m pc ls st0) := by
  intro T hT X
  rcases hr T hT X with ⟨v, st₀, t, T', L, h0, X', hL, e1, e2, ⟨⟨r, u, hv, hp, hb⟩, hF⟩, st⟩ | ⟨q, st₀, t, T', L, E, ce, h0, X', hL, e1, e2, ⟨u, hp, hb, hF⟩, hce, hcv, hcl, st⟩
  · cases hv
    obtain ⟨k1, k2, k3⟩ := vx_keep h0 e1 hS hA hf hL hF
    obtain ⟨t2, a1, b1⟩ := kk r u t T'.heap (locs ++ L) e1.symm (by rw [← e2]; exact X'.warmed.alike) hp hb k1 k2 k3 T' rfl X'
    exact ⟨t2, st t2 a1, b1⟩
  · obtain ⟨k1, k2, k3⟩ := vx_keep h0 e1 hS hAX hf hL hF
    obtain ⟨t2, a1, b1⟩ := kx E ce q u t T'.heap (locs ++ L) e1.symm (by rw [← e2]; exact X'.warmed.alike) hp hb k1 k2 k3 (by rw [e1]; exact hce) hcv hcl T' rfl X'
    exact ⟨t2, st.trans a1, b1⟩
theorem vx_callf {S SX : Type} {post : UInt32 → S → Prop} {px : SX → Prop} {B : S → State → Prop} {BX : String → SX → State → Prop} {AX : Nat → Prop} (hr : vx_Run p l e R s m args below meth c H locs cells slots mc ms (F0 m pc ls st0) rest (va_Qf post B A1 a) (vx_X px BX AX) free) (hS : va_S A0 H0 H locs) (hA : ∀ q, q < H.size → A1 q → A0 q) (hf : ∀ q, free q → A0 q) (hAX : ∀ q, q < H.size → AX q → A0 q)
    (kx : ∀ (E : String) (ce : Cell) (q9 : Addr) (u : SX) (t : State) (H1 : Heap) (locs1 : List Loc), t.heap = H1 → s.vm.Alike t.vm → px u → BX E u t → H.size ≤ H1.size → (∀ q : Nat, q < H.size → ¬ AX q → H1[q]? = H[q]?) → va_S A0 H0 H1 locs1 → H1[q9]? = some ce → ce.vm = .none → s.vm.findClass E = some ce.cls → vx_W p l e R s m args below meth c H1 locs1 (cells + mc) (slots + ms) Q (F0 m pc ls rest) q9)
    (kk : ∀ (r : UInt32) (u : S) (t : State) (H1 : Heap) (locs1 : List Loc), t.heap = H1 → s.vm.Alike t.vm → post r u → B u t → H.size ≤ H1.size → (∀ q : Nat, q < H.size → ¬ A1 q → H1[q]? = H[q]?) → va_S A0 H0 H1 locs1 → W p l e R s m args below meth c H1 locs1 (cells + mc) (slots + ms) Q (F0 m (pc + 3) ls (.float r :: rest))) : W p l e R s m args below meth c H locs cells slots Q (F0 m pc ls st0) := by
  intro T hT X
  rcases hr T hT X with ⟨v, st₀, t, T', L, h0, X', hL, e1, e2, ⟨⟨r, u, hv, hp, hb⟩, hF⟩, st⟩ | ⟨q, st₀, t, T', L, E, ce, h0, X', hL, e1, e2, ⟨u, hp, hb, hF⟩, hce, hcv, hcl, st⟩
  · cases hv
    obtain ⟨k1, k2, k3⟩ := vx_keep h0 e1 hS hA hf hL hF
    obtain ⟨t2, a1, b1⟩ := kk r u t T'.heap (locs ++ L) e1.symm (by rw [← e2]; exact X'.warmed.alike) hp hb k1 k2 k3 T' rfl X'
    exact ⟨t2, st t2 a1, b1⟩
  · obtain ⟨k1, k2, k3⟩ := vx_keep h0 e1 hS hAX hf hL hF
    obtain ⟨t2, a1, b1⟩ := kx E ce q u t T'.heap (locs ++ L) e1.symm (by rw [← e2]; exact X'.warmed.alike) hp hb k1 k2 k3 (by rw [e1]; exact hce) hcv hcl T' rfl X'
    exact ⟨t2, st.trans a1, b1⟩
theorem vx_calld {S SX : Type} {post : UInt64 → S → Prop} {px : SX → Prop} {B : S → State → Prop} {BX : String → SX → State → Prop} {AX : Nat → Prop} (hr : vx_Run p l e R s m args below meth c H locs cells slots mc ms (F0 m pc ls st0) rest (va_Qd post B A1 a) (vx_X px BX AX) free) (hS : va_S A0 H0 H locs) (hA : ∀ q, q < H.size → A1 q → A0 q) (hf : ∀ q, free q → A0 q) (hAX : ∀ q, q < H.size → AX q → A0 q)
    (kx : ∀ (E : String) (ce : Cell) (q9 : Addr) (u : SX) (t : State) (H1 : Heap) (locs1 : List Loc), t.heap = H1 → s.vm.Alike t.vm → px u → BX E u t → H.size ≤ H1.size → (∀ q : Nat, q < H.size → ¬ AX q → H1[q]? = H[q]?) → va_S A0 H0 H1 locs1 → H1[q9]? = some ce → ce.vm = .none → s.vm.findClass E = some ce.cls → vx_W p l e R s m args below meth c H1 locs1 (cells + mc) (slots + ms) Q (F0 m pc ls rest) q9)
    (kk : ∀ (r : UInt64) (u : S) (t : State) (H1 : Heap) (locs1 : List Loc), t.heap = H1 → s.vm.Alike t.vm → post r u → B u t → H.size ≤ H1.size → (∀ q : Nat, q < H.size → ¬ A1 q → H1[q]? = H[q]?) → va_S A0 H0 H1 locs1 → W p l e R s m args below meth c H1 locs1 (cells + mc) (slots + ms) Q (F0 m (pc + 3) ls (.double r :: rest))) : W p l e R s m args below meth c H locs cells slots Q (F0 m pc ls st0) := by
  intro T hT X
  rcases hr T hT X with ⟨v, st₀, t, T', L, h0, X', hL, e1, e2, ⟨⟨r, u, hv, hp, hb⟩, hF⟩, st⟩ | ⟨q, st₀, t, T', L, E, ce, h0, X', hL, e1, e2, ⟨u, hp, hb, hF⟩, hce, hcv, hcl, st⟩
  · cases hv
    obtain ⟨k1, k2, k3⟩ := vx_keep h0 e1 hS hA hf hL hF
    obtain ⟨t2, a1, b1⟩ := kk r u t T'.heap (locs ++ L) e1.symm (by rw [← e2]; exact X'.warmed.alike) hp hb k1 k2 k3 T' rfl X'
    exact ⟨t2, st t2 a1, b1⟩
  · obtain ⟨k1, k2, k3⟩ := vx_keep h0 e1 hS hAX hf hL hF
    obtain ⟨t2, a1, b1⟩ := kx E ce q u t T'.heap (locs ++ L) e1.symm (by rw [← e2]; exact X'.warmed.alike) hp hb k1 k2 k3 (by rw [e1]; exact hce) hcv hcl T' rfl X'
    exact ⟨t2, st.trans a1, b1⟩
theorem vx_callv {S SX : Type} {post : S → Prop} {px : SX → Prop} {B : S → State → Prop} {BX : String → SX → State → Prop} {AX : Nat → Prop} (hr : vx_Run p l e R s m args below meth c H locs cells slots mc ms (F0 m pc ls st0) rest (va_Qv post B A1 a) (vx_X px BX AX) free) (hS : va_S A0 H0 H locs) (hA : ∀ q, q < H.size → A1 q → A0 q) (hf : ∀ q, free q → A0 q) (hAX : ∀ q, q < H.size → AX q → A0 q)
    (kx : ∀ (E : String) (ce : Cell) (q9 : Addr) (u : SX) (t : State) (H1 : Heap) (locs1 : List Loc), t.heap = H1 → s.vm.Alike t.vm → px u → BX E u t → H.size ≤ H1.size → (∀ q : Nat, q < H.size → ¬ AX q → H1[q]? = H[q]?) → va_S A0 H0 H1 locs1 → H1[q9]? = some ce → ce.vm = .none → s.vm.findClass E = some ce.cls → vx_W p l e R s m args below meth c H1 locs1 (cells + mc) (slots + ms) Q (F0 m pc ls rest) q9)
    (kk : ∀ (u : S) (t : State) (H1 : Heap) (locs1 : List Loc), t.heap = H1 → s.vm.Alike t.vm → post u → B u t → H.size ≤ H1.size → (∀ q : Nat, q < H.size → ¬ A1 q → H1[q]? = H[q]?) → va_S A0 H0 H1 locs1 → W p l e R s m args below meth c H1 locs1 (cells + mc) (slots + ms) Q (F0 m (pc + 3) ls (rest))) : W p l e R s m args below meth c H locs cells slots Q (F0 m pc ls st0) := by
  intro T hT X
  rcases hr T hT X with ⟨v, st₀, t, T', L, h0, X', hL, e1, e2, ⟨⟨u, hv, hp, hb⟩, hF⟩, st⟩ | ⟨q, st₀, t, T', L, E, ce, h0, X', hL, e1, e2, ⟨u, hp, hb, hF⟩, hce, hcv, hcl, st⟩
  · cases hv
    obtain ⟨k1, k2, k3⟩ := vx_keep h0 e1 hS hA hf hL hF
    obtain ⟨t2, a1, b1⟩ := kk u t T'.heap (locs ++ L) e1.symm (by rw [← e2]; exact X'.warmed.alike) hp hb k1 k2 k3 T' rfl X'
    exact ⟨t2, st t2 a1, b1⟩
  · obtain ⟨k1, k2, k3⟩ := vx_keep h0 e1 hS hAX hf hL hF
    obtain ⟨t2, a1, b1⟩ := kx E ce q u t T'.heap (locs ++ L) e1.symm (by rw [← e2]; exact X'.warmed.alike) hp hb k1 k2 k3 (by rw [e1]; exact hce) hcv hcl T' rfl X'
    exact ⟨t2, st.trans a1, b1⟩
end Rows
section Ends
variable {p : Program} {l : Launch} {e : Env} {R : Room} {s : State} {m : MethodId} {args : Array Value} {below : List Frame} {meth : Method} {c : Code} {H : Heap} {locs : List Loc} {cells slots : Nat} {Q : State → Prop}
variable {mc ms : Nat} {free : Addr → Prop} {A0 A1 : Nat → Prop} {H0 : Heap} {a : Array Value} {ls : Array Slot} {st0 rest : List Value}
variable {Qc : Array Value → State → Outcome → State → Prop} {XC : String → State → State → Prop}
/-- what a body that may throw owes at its end -/
def vx_MQ (below : List Frame) (Qc : Array Value → State → Outcome → State → Prop) (XC : String → State → State → Prop) (a : Array Value) (s : State) (mc ms : Nat) (free : Addr → Prop) : State → Prop := fun t =>
  ∃ o, t.status = .running ∧ Ended t below o ∧ vx_Q Qc XC mc ms free a s o t
theorem vx_ret {g : JFrame} {mc ms : Nat} (k : W p l e R s m args below meth c H locs cells slots (MQ below Qc args s mc ms free) g) : W p l e R s m args below meth c H locs cells slots (vx_MQ below Qc XC args s mc ms free) g := by
  intro T hT X
  obtain ⟨t, a1, o, b1, b2, b3, b4⟩ := k T hT X
  exact ⟨t, a1, o, b1, b2, Or.inl ⟨b3, b4⟩⟩
/-- not caught here: it goes on to the caller -/
theorem vx_widen {g : JFrame} {q : Addr} {k n : Nat} (h1 : cells ≤ k) (h2 : slots ≤ n) (kk : vx_W p l e R s m args below meth c H locs k n Q g q) : vx_W p l e R s m args below meth c H locs cells slots Q g q := fun T hT X => kk T hT (stand_widen X h1 h2)
theorem vx_out {pc : Nat} {E : String} {ce : Cell} {q : Addr} {mc ms : Nat} (hout : ∀ x ∈ c.exceptionTable.toList, covers x pc = false) (hlocks : meth.locks = false) (hcell : H[q]? = some ce) (hv : ce.vm = .none) (hcl : s.vm.findClass E = some ce.cls)
    (hx : ∀ t : State, t.heap = H → s.vm.Alike t.vm → XC E s t) (hf : ∀ z ∈ locs, free z.base) (hc : cells ≤ mc) (hs : slots ≤ ms) :
    vx_W p l e R s m args below meth c H locs cells slots (vx_MQ below Qc XC args s mc ms free) (F0 m pc ls rest) q := by
  intro T hT X
  obtain ⟨st1, hrun, hend, hW, hsm⟩ := X.leaveThrown q (g := F0 m pc ls rest) rfl rfl rfl hout hlocks
  have hcell9 : (T.setFrames (.throwing q :: below)).heap[q]? = some ce := by
    show T.heap[q]? = some ce
    rw [hT]; exact hcell
  exact ⟨_, st1, .threw q, hrun, hend, Or.inr ⟨q, rfl, E, ce, locs, hx _ hT hW.alike, hcell9, hv, hcl, hW, hsm.mono hc hs, hf⟩⟩
theorem vx_frame {U : State} {k n : Nat} (h : s.sameButNew ({ U with vm := s.vm } : State) locs k n) : s.heap.size ≤ U.heap.size ∧ ∀ q : Nat, q < s.heap.size → (∀ z ∈ locs, z.base ≠ q) → U.heap[q]? = s.heap[q]? := by
  obtain ⟨-, h2, -, -, -, h6⟩ := h
  refine ⟨h2, fun q hq hz => ?_⟩
  obtain ⟨c9, e1, e2, e3, e4⟩ := h6 q _ (Array.getElem?_eq_getElem hq)
  have hs : c9.slots = (s.heap[q]).slots := Array.ext_getElem? fun i => e4 i fun hm => hz _ hm rfl
  have h9 : c9 = s.heap[q] := by
    rw [hs] at e2
    exact e2
  have e5 : U.heap[q]? = some c9 := e1
  rw [e5, h9, Array.getElem?_eq_getElem hq]
/-- the words of a throw but the four that speak of the heap -/
def vx_no (w : Cond) : Bool := decide (w ≠ .isRef (.static Bundle.tN "UNASSIGNED_STACK" Bundle.steD)) && decide (w ≠ .isRef (.static Bundle.tN "SUPPRESSED_SENTINEL" Bundle.listD)) && decide (w ≠ .laysStatic Bundle.tN "UNASSIGNED_STACK" Bundle.steD) && decide (w ≠ .laysStatic Bundle.tN "SUPPRESSED_SENTINEL" Bundle.listD)
def vx_at0 (own : String) (ic : Nat) (X : String) (names : List String) : List Cond := (Bundle.ownAtoms0 own ic X names).filter vx_no
def vx_atS (own : String) (ic : Nat) (X : String) (names : List String) : List Cond := (Bundle.ownAtoms own ic X names).filter vx_no
/-- a word that the tables alone decide, or a good one -/
def vx_ot (w : Cond) : Bool := w.onTables || goodWord w
theorem vx_ot_at {args a' : Array Value} {s U : State} {w : Cond} (hW : s.WarmedH U.vm) (hvm : s.vm = U.vm) (hg : vx_ot w = true) (h : w.before args s = true) : w.before a' U = true := by
  simp only [vx_ot, Bool.or_eq_true] at hg
  rcases hg with hg | hg
  · exact va_tabs hg hvm h
  · exact word_at hW (good_of_word hg) h
/-- a list's words: the good ones out of the method's own list, the others by premises of their own -/
theorem vx_hat {args : Array Value} {s : State} {L B : List Cond} (h1 : ∀ w ∈ L.filter goodWord, w.before args s = true) (h2 : ∀ w ∈ L.filter (fun w => !goodWord w), w ∈ B) (h3 : ∀ w ∈ B, w.before args s = true) : ∀ w ∈ L, w.before args s = true := by
  intro w hw
  by_cases g : goodWord w = true
  · exact h1 w (List.mem_filter.mpr ⟨hw, g⟩)
  · refine h3 w (h2 w (List.mem_filter.mpr ⟨hw, ?_⟩))
    show (!goodWord w) = true
    cases hgw : goodWord w
    · rfl
    · exact absurd hgw g
theorem vx_c {args : Array Value} {s : State} {w : Cond} {B : List Cond} (h : w.before args s = true) (t : ∀ w ∈ B, w.before args s = true) : ∀ w' ∈ w :: B, w'.before args s = true := fun w' h' => (List.mem_cons.mp h').elim (fun e => by rw [e]; exact h) (t w')
theorem vx_n {args : Array Value} {s : State} : ∀ w ∈ ([] : List Cond), w.before args s = true := fun _ h => nomatch h
theorem vx_own {args : Array Value} {s : State} {L : List Cond} (h1 : ∀ w ∈ L.filter vx_no, w.before args s = true)
    (hU : (Cond.isRef (.static Bundle.tN "UNASSIGNED_STACK" Bundle.steD)).before args s = true) (hN : (Cond.isRef (.static Bundle.tN "SUPPRESSED_SENTINEL" Bundle.listD)).before args s = true)
    (lU : (Cond.laysStatic Bundle.tN "UNASSIGNED_STACK" Bundle.steD).before args s = true) (lN : (Cond.laysStatic Bundle.tN "SUPPRESSED_SENTINEL" Bundle.listD).before args s = true) : ∀ w ∈ L, w.before args s = true := by
  intro w hw
  by_cases e1 : w = .isRef (.static Bundle.tN "UNASSIGNED_STACK" Bundle.steD)
  · rw [e1]; exact hU
  · by_cases e2 : w = .isRef (.static Bundle.tN "SUPPRESSED_SENTINEL" Bundle.listD)
    · rw [e2]; exact hN
    · by_cases e3 : w = .laysStatic Bundle.tN "UNASSIGNED_STACK" Bundle.steD
      · rw [e3]; exact lU
      · by_cases e4 : w = .laysStatic Bundle.tN "SUPPRESSED_SENTINEL" Bundle.listD
        · rw [e4]; exact lN
        · exact h1 w (List.mem_filter.mpr ⟨hw, by unfold vx_no; rw [decide_eq_true e1, decide_eq_true e2, decide_eq_true e3, decide_eq_true e4]; rfl⟩)
/-- where a static field lies, its class's statics cell in H -/
def vx_L (C n d : String) (A : Nat → Prop) (U : State) (H : Heap) : Prop := ∃ (c : ClassId) (k : Class) (i : Nat) (f : Field) (a : Nat) (cell : Cell), U.vm.findClass C = some c ∧ U.fieldFound? C n d = some (c, k, i, f) ∧ f.isStatic = true ∧ k.statics = some a ∧ H[a]? = some cell ∧ cell.vm.isStatics = true ∧ cell.cls = c ∧ f.slot < cell.slots.size ∧ k.staticTypes[f.slot]? = some f.type ∧ ¬ A a
theorem vx_L.moved {C n d : String} {A : Nat → Prop} {u U : State} {H : Heap} (hvm : u.vm.Alike U.vm) (h : vx_L C n d A u H) : vx_L C n d A U H := by
  obtain ⟨c, k, i, f, a, cell, h1, h2, h3, h4, h5, h6, h7, h8, h9, h10⟩ := h
  obtain ⟨k', hi', he⟩ := State.fieldFound?_setVm hvm h2
  exact ⟨c, k', i, f, a, cell, by rw [hvm.findClass]; exact h1, hi', h3, by rw [he]; exact h4, h5, h6, h7, h8, by rw [he]; exact h9, h10⟩
theorem vx_L.kept {C n d : String} {A : Nat → Prop} {U : State} {H H1 : Heap} (h : vx_L C n d A U H) (hq : ∀ a : Nat, a < H.size → ¬ A a → H1[a]? = H[a]?) : vx_L C n d A U H1 := by
  obtain ⟨c, k, i, f, a, cell, h1, h2, h3, h4, h5, h6, h7, h8, h9, h10⟩ := h
  exact ⟨c, k, i, f, a, cell, h1, h2, h3, h4, by rw [hq a (Array.getElem?_eq_some_iff.mp h5).1 h10]; exact h5, h6, h7, h8, h9, h10⟩
theorem vx_L.narrow {C n d : String} {A B : Nat → Prop} {U : State} {H : Heap} (h : vx_L C n d A U H) (hAB : ∀ q, B q → A q) : vx_L C n d B U H := by
  obtain ⟨c, k, i, f, a, cell, h1, h2, h3, h4, h5, h6, h7, h8, h9, h10⟩ := h
  exact ⟨c, k, i, f, a, cell, h1, h2, h3, h4, h5, h6, h7, h8, h9, fun z => h10 (hAB _ z)⟩
theorem vx_L.word {C n d : String} {A : Nat → Prop} {s : State} {args : Array Value} (h : vx_L C n d A s s.heap) : (Cond.laysStatic C n d).before args s = true := by
  obtain ⟨c, k, i, f, a, cell, h1, h2, h3, h4, h5, h6, h7, h8, h9, -⟩ := h
  show (Cond.laysStatic C n d).holds args s none s [] = true
  exact Cond.laysStatic_of h1 h2 h3 h4 h5 h6 h7 h8 h9
/-- .. and what it holds: null or some reference -/
def vx_Zq (C n d : String) (A : Nat → Prop) (U : State) (H : Heap) : Prop := va_Zq C n d A U H ∧ vx_L C n d A U H
theorem vx_Zq.moved {C n d : String} {A : Nat → Prop} {u U : State} {H : Heap} (hvm : u.vm.Alike U.vm) (h : vx_Zq C n d A u H) : vx_Zq C n d A U H := ⟨va_Zq.moved hvm h.1, vx_L.moved hvm h.2⟩
theorem vx_Zq.kept {C n d : String} {A : Nat → Prop} {U : State} {H H1 : Heap} (h : vx_Zq C n d A U H) (hq : ∀ a : Nat, a < H.size → ¬ A a → H1[a]? = H[a]?) : vx_Zq C n d A U H1 := ⟨va_Zq.kept h.1 hq, vx_L.kept h.2 hq⟩
theorem vx_Zq.narrow {C n d : String} {A B : Nat → Prop} {U : State} {H : Heap} (h : vx_Zq C n d A U H) (hAB : ∀ q, B q → A q) : vx_Zq C n d B U H := ⟨va_Zq.narrow h.1 hAB, vx_L.narrow h.2 hAB⟩
theorem vx_Zqof {args : Array Value} {s : State} {C n d : String} {A : Nat → Prop} (hl : (Cond.laysStatic C n d).before args s = true) (hini : (Cond.initialized C).before args s = true) (h : (Cond.isRef (.static C n d)).before args s = true) (hA : ∀ a : Nat, a < s.heap.size → ¬ A a) : vx_Zq C n d A s s.heap := by
  refine ⟨va_Zqof hl hini h hA, ?_⟩
  obtain ⟨c, k, i, f, a, cell, h1, h2, h3, h4, h5, h6, h7, h8, h9⟩ := Cond.laysStatic_spec hl
  exact ⟨c, k, i, f, a, cell, h1, h2, h3, h4, h5, h6, h7, h8, h9, hA a (Array.getElem?_eq_some_iff.mp h5).1⟩
theorem vx_isRef {C n d : String} {v : Value} {A : Nat → Prop} {s : State} {args : Array Value} (h : va_Z C n d v A s s.heap) (hv : v.isRef = true) : (Cond.isRef (.static C n d)).before args s = true := by
  obtain ⟨cf, kf, fi, f, a, cell, h1, h2, h3, h4, h5, h6, h7, -⟩ := h
  have he : (Term.static C n d).eval args s none [] s = some v := by
    simp [Term.eval, State.fieldNamed?, h1, h2, h4, h5, h6, h7]
  simp only [Cond.before, Cond.holds, Cond.value, he]
  cases v <;> simp_all [Value.isRef]
theorem vx_isRefq {C n d : String} {A : Nat → Prop} {s : State} {args : Array Value} (h : va_Zq C n d A s s.heap) : (Cond.isRef (.static C n d)).before args s = true := by
  rcases h with h | ⟨t, h⟩
  · exact vx_isRef h rfl
  · exact vx_isRef h rfl
/-- the same frame, seen from here: as if the method were called anew in this heap -/
theorem vx_rebase {T : State} (X : Stand p l e R s m args below meth c T locs cells slots) {R' : Room} (hf : R'.frames ≤ R.frames) (hl : R'.locals ≤ R.locals) (hc : cells + R'.cells ≤ R.cells) (hs : slots + R'.slots ≤ R.slots) :
    Stand p l e R' ((T.setVm s.vm).setFrames (.invoking m args :: below)) m args below meth c T [] 0 0 := by
  have htop : (T.setVm s.vm).topJava?.isSome := X.here.top
  have hF : ((T.setVm s.vm).setFrames (.invoking m args :: below)).frames = .invoking m args :: below := State.frames_setFrames _ (State.cur_lt_of_top htop)
  obtain ⟨g₀, hg0⟩ := Option.isSome_iff_exists.mp htop
  obtain ⟨r, hr⟩ := State.topJava?_eq_some.mp hg0
  have hl9 : e.platform.stackLimits (T.setVm s.vm).me = e.platform.stackLimits s.me := X.limits
  have hb9 : (T.setVm s.vm).me.stackBytes = s.me.stackBytes := X.bytes
  refine ⟨X.admits, X.cas, X.clock, hF, ?_, X.hears, X.method, X.code, X.here, X.tail, X.warmed, ?_, ?_, ?_⟩
  · have h := X.room
    have hU : ((T.setVm s.vm).setFrames (.invoking m args :: below)).localsInUse = s.localsInUse := by
      rw [State.localsInUse_invoking hF (meth := meth) (c := c) X.method X.code, State.localsInUse_invoking X.frames X.method X.code]
    simp only [State.hasRoom, Bool.and_eq_true, decide_eq_true_eq] at h ⊢
    obtain ⟨⟨⟨⟨h1, h2, h3, h4, h5, h6⟩, h7⟩, h8⟩, h9⟩ := h
    rw [X.frames, List.length_cons] at h2 h3
    have q1 := X.heapSize
    have q2 := X.used
    simp only [hF, hU, List.length_cons, State.stackLimits_setFrames, State.stackBytes_setFrames, hl9, hb9]
    refine ⟨⟨⟨⟨by omega, by omega, by omega, by omega, by omega, h6⟩, ?_⟩, ?_⟩, X.book⟩
    · show T.heap.size + R'.cells ≤ e.platform.maxCells
      omega
    · show T.slotsUsed + R'.slots ≤ e.platform.maxSlots
      omega
  · rw [State.stackLimits_setFrames]; rfl
  · rw [State.stackBytes_setFrames]; rfl
  · refine ⟨?_, Nat.le_refl _, Nat.le_refl _, ?_, ?_, fun a c9 h9 => ⟨c9, h9, rfl, rfl, fun _ _ => rfl⟩⟩
    · obtain ⟨t, ht, -⟩ := State.frames_cons hr
      show T.setVm s.vm = { ((T.setVm s.vm).setFrames (.invoking m args :: below)).setFrames (T.setVm s.vm).frames with heap := T.heap, slotsUsed := T.slotsUsed }
      rw [State.setFrames_setFrames, State.setFrames_self ht]
      rfl
    · show T.slotsUsed = T.slotsUsed + ((T.heap.toList.drop T.heap.size).map (·.slots.size)).sum
      rw [List.drop_eq_nil_of_le (Nat.le_of_eq Array.length_toList)]
      rfl
    · show ((T.heap.toList.drop T.heap.size).map (·.slots.size)).sum ≤ 0
      rw [List.drop_eq_nil_of_le (Nat.le_of_eq Array.length_toList)]
      exact Nat.le_refl _
/-- 'throw new E()': new; dup; invokespecial; athrow -/
theorem vx_throw0 {cc : ByteArray} {pc : Nat} (hexec : p.tables.exec = Jvm.exec) (hb : c.code = cc) (hl : l.stackTraces = false) {own cls : String} {names : List String} {ik ic mc ms : Nat} {A : Nat → Prop}
    (hown : s.vm.findClass own = some m.cls) (hcls : Bundle.fit cls = true) (hnames : ∀ n ∈ names, Bundle.fit n = true)
    (hk : (Cond.classLink own ik cls).before args s = true) (hini : (Cond.initialized cls).before args s = true) (hat : ∀ w ∈ vx_at0 own ic cls names, w.before args s = true)
    (hgood : ∀ w ∈ Cond.classLink own ik cls :: Cond.initialized cls :: vx_at0 own ic cls names, vx_ot w = true)
    (hU : vx_Zq Bundle.tN "UNASSIGNED_STACK" Bundle.steD A s s.heap) (hN : vx_Zq Bundle.tN "SUPPRESSED_SENTINEL" Bundle.listD A s s.heap) (hS : va_S A s.heap H locs) (hsize : ls.size = c.maxLocals)
    (d0 : decode cc pc = .ok (.new ik, 3)) (d3 : decode cc (pc + 3) = .ok (.dup, 1)) (d4 : decode cc (pc + 4) = .ok (.invokespecial ic, 3)) (d7 : decode cc (pc + 7) = .ok (.athrow, 1))
    (hout : ∀ x ∈ c.exceptionTable.toList, covers x (pc + 7) = false)
    (hRframes : names.length + 3 < R.frames) (hRlocals : (rest.map fun v => v.category).sum + (13 * (names.length + 1) + 42) ≤ R.locals) (hRcells : cells + 1 ≤ R.cells) (hRslots : slots + 6 ≤ R.slots) (hlocks : meth.locks = false)
    (hx : ∀ t : State, s.vm.Alike t.vm → H.size ≤ t.heap.size → (∀ q : Nat, q < H.size → t.heap[q]? = H[q]?) → XC cls s t)
    (hf : ∀ z ∈ locs, free z.base) (hc : cells + 1 ≤ mc) (hs : slots + 6 ≤ ms) :
    W p l e R s m args below meth c H locs cells slots (vx_MQ below Qc XC args s mc ms free) (F0 m pc ls rest) := by
  intro T hT X
  have htr : e.platform.stackTraces = false := (show e.platform.stackTraces = l.stackTraces by rw [X.admits.platform]).trans hl
  have Y := vx_rebase X (R' := { frames := R.frames, locals := R.locals, cells := 1, slots := 6 }) (Nat.le_refl _) (Nat.le_refl _) hRcells hRslots
  obtain ⟨s', hA⟩ : ∃ z, z = (T.setVm s.vm).setFrames (.invoking m args :: below) := ⟨_, rfl⟩
  rw [← hA] at Y
  have hvm : s'.vm = s.vm := by rw [hA]; rfl
  have hhp : s'.heap = H := by rw [hA]; exact hT
  have hW0 : s.WarmedH s'.vm := by rw [hvm]; exact State.WarmedH.refl s
  have hat' : ∀ w ∈ vx_at0 own ic cls names, w.before args s' = true := fun w hw => vx_ot_at hW0 hvm.symm (hgood w (List.mem_cons_of_mem _ (List.mem_cons_of_mem _ hw))) (hat w hw)
  have hk' : (Cond.classLink own ik cls).before args s' = true := vx_ot_at hW0 hvm.symm (hgood _ List.mem_cons_self) hk
  have hini' : (Cond.initialized cls).before args s' = true := vx_ot_at hW0 hvm.symm (hgood _ (List.mem_cons_of_mem _ List.mem_cons_self)) hini
  have hU' : vx_Zq Bundle.tN "UNASSIGNED_STACK" Bundle.steD A s' s'.heap := by rw [hhp]; exact vx_Zq.moved hW0.alike (hU.kept hS.2.1)
  have hN' : vx_Zq Bundle.tN "SUPPRESSED_SENTINEL" Bundle.listD A s' s'.heap := by rw [hhp]; exact vx_Zq.moved hW0.alike (hN.kept hS.2.1)
  have h : ∀ w ∈ Bundle.ownAtoms0 own ic cls names, w.before args s' = true := vx_own hat' (vx_isRefq hU'.1) (vx_isRefq hN'.1) hU'.2.word hN'.2.word
  have hown' : s'.vm.findClass own = some m.cls := by rw [hvm]; exact hown
  have hins : (Cond.instantiable cls 6).before args s' = true := h _ (by simp [Bundle.ownAtoms0])
  obtain ⟨vm₁, cX, kX, hfX, hkX, -, -, X₁, st1⟩ := Y.newCold hexec (own := own) (C := cls) (index := ik) (n := 6) hown' hk' hins hini'
    (g := F0 m pc ls rest) rfl (by rw [hb]; exact d0) (Nat.le_refl _) (Nat.le_refl _)
  generalize hT1 : (T.setVm vm₁).pushCell { cls := cX, slots := kX.instanceTypes.map defaultValue, vm := .none } = T1 at X₁ st1
  have hcat : (Value.ref T.heap.size).category = 1 := rfl
  have hcellA : T1.heap[T.heap.size]? = some (freshCell cX kX) := by rw [← hT1]; exact State.heap_pushCell_size _ _
  have d3' : decode c.code (pc + 3) = .ok (.dup, 1) := by rw [hb]; exact d3
  obtain ⟨U, hsteps, hrun, hend, hW, hsame, ce, hce, hO⟩ := X₁.ctorThrow0 hexec htr (own := own) (cls := cls) (names := names) (ic := ic) hown' hcls hnames h (fun x hx => nomatch hx) hfX hkX hcellA (by rw [hhp, hT]; exact Nat.le_refl _)
    (g := { method := m, pc := pc + 4, locals := ls, stack := .ref T.heap.size :: .ref T.heap.size :: rest, locked := none }) rfl hsize rfl rfl (rest := rest) rfl
    (by rw [hb]; exact d4) (by rw [hb]; exact d7) hout hRframes (by simp only [List.map_cons, List.sum_cons, hcat]; omega) hlocks
  obtain ⟨f1, f2⟩ := vx_frame hsame
  rw [hhp] at f1 f2
  have hWs : s.WarmedH U.vm := State.WarmedH.trans hW0 hW
  have hcl : s.vm.findClass cls = some ce.cls := by
    have h9 := hO.cls
    rw [hvm] at h9
    exact h9
  have hall : s.sameButNew ({ U with vm := s.vm } : State) locs mc ms := by
    subst hA
    obtain ⟨e1, e2⟩ := hsame
    rw [State.setFrames_setFrames] at e1
    have h2 : (T.setVm s.vm).sameButNew ({ U with vm := s.vm } : State) [] (0 + 1) (0 + 6) := ⟨e1, e2⟩
    have h3 := X.same.trans h2
    rw [List.append_nil] at h3
    exact h3.mono hc hs
  refine ⟨U, ?_, .threw T.heap.size, hrun, hend, Or.inr ⟨T.heap.size, rfl, cls, ce, locs, hx U hWs.alike f1 (fun q hq => f2 q hq (fun z hz => nomatch hz)), hce, hO.vm, hcl, hWs, hall, hf⟩⟩
  refine st1 _ ?_
  show Steps p.tables e below (T1.setTop { method := m, pc := pc + 3, locals := ls, stack := .ref T.heap.size :: rest, locked := none }) _
  jvm_step X₁.here [X₁.here.top, hexec, d3', Value.category]
  exact hsteps
/-- 'throw new E("text")': new; dup; ldc; invokespecial; athrow -/
theorem vx_throwS {cc : ByteArray} {pc : Nat} (hexec : p.tables.exec = Jvm.exec) (hb : c.code = cc) (hl : l.stackTraces = false) {own cls text : String} {names : List String} {ik is ic mc ms sa : Nat} {A : Nat → Prop}
    (hown : s.vm.findClass own = some m.cls) (hcls : Bundle.fit cls = true) (hnames : ∀ n ∈ names, Bundle.fit n = true)
    (hk : (Cond.classLink own ik cls).before args s = true) (hini : (Cond.initialized cls).before args s = true) (hstr : vk_R own is text sa s) (hat : ∀ w ∈ vx_atS own ic cls names, w.before args s = true)
    (hgood : ∀ w ∈ Cond.classLink own ik cls :: Cond.initialized cls :: vx_atS own ic cls names, vx_ot w = true)
    (hU : vx_Zq Bundle.tN "UNASSIGNED_STACK" Bundle.steD A s s.heap) (hN : vx_Zq Bundle.tN "SUPPRESSED_SENTINEL" Bundle.listD A s s.heap) (hS : va_S A s.heap H locs) (hsize : ls.size = c.maxLocals)
    (d0 : decode cc pc = .ok (.new ik, 3)) (d3 : decode cc (pc + 3) = .ok (.dup, 1)) (d4 : decode cc (pc + 4) = .ok (.ldc is, 2)) (d6 : decode cc (pc + 6) = .ok (.invokespecial ic, 3)) (d9 : decode cc (pc + 9) = .ok (.athrow, 1))
    (hout : ∀ x ∈ c.exceptionTable.toList, covers x (pc + 9) = false)
    (hRframes : names.length + 3 < R.frames) (hRlocals : (rest.map fun v => v.category).sum + (13 * (names.length + 1) + 43) ≤ R.locals) (hRcells : cells + 1 ≤ R.cells) (hRslots : slots + 6 ≤ R.slots) (hlocks : meth.locks = false)
    (hx : ∀ t : State, s.vm.Alike t.vm → H.size ≤ t.heap.size → (∀ q : Nat, q < H.size → t.heap[q]? = H[q]?) → XC cls s t)
    (hf : ∀ z ∈ locs, free z.base) (hc : cells + 1 ≤ mc) (hs : slots + 6 ≤ ms) :
    W p l e R s m args below meth c H locs cells slots (vx_MQ below Qc XC args s mc ms free) (F0 m pc ls rest) := by
  intro T hT X
  have htr : e.platform.stackTraces = false := (show e.platform.stackTraces = l.stackTraces by rw [X.admits.platform]).trans hl
  have Y := vx_rebase X (R' := { frames := R.frames, locals := R.locals, cells := 1, slots := 6 }) (Nat.le_refl _) (Nat.le_refl _) hRcells hRslots
  obtain ⟨s', hA⟩ : ∃ z, z = (T.setVm s.vm).setFrames (.invoking m args :: below) := ⟨_, rfl⟩
  rw [← hA] at Y
  have hvm : s'.vm = s.vm := by rw [hA]; rfl
  have hhp : s'.heap = H := by rw [hA]; exact hT
  have hW0 : s.WarmedH s'.vm := by rw [hvm]; exact State.WarmedH.refl s
  have hat' : ∀ w ∈ vx_atS own ic cls names, w.before args s' = true := fun w hw => vx_ot_at hW0 hvm.symm (hgood w (List.mem_cons_of_mem _ (List.mem_cons_of_mem _ hw))) (hat w hw)
  have hk' : (Cond.classLink own ik cls).before args s' = true := vx_ot_at hW0 hvm.symm (hgood _ List.mem_cons_self) hk
  have hini' : (Cond.initialized cls).before args s' = true := vx_ot_at hW0 hvm.symm (hgood _ (List.mem_cons_of_mem _ List.mem_cons_self)) hini
  have hU' : vx_Zq Bundle.tN "UNASSIGNED_STACK" Bundle.steD A s' s'.heap := by rw [hhp]; exact vx_Zq.moved hW0.alike (hU.kept hS.2.1)
  have hN' : vx_Zq Bundle.tN "SUPPRESSED_SENTINEL" Bundle.listD A s' s'.heap := by rw [hhp]; exact vx_Zq.moved hW0.alike (hN.kept hS.2.1)
  have h : ∀ w ∈ Bundle.ownAtoms own ic cls names, w.before args s' = true := vx_own hat' (vx_isRefq hU'.1) (vx_isRefq hN'.1) hU'.2.word hN'.2.word
  have hown' : s'.vm.findClass own = some m.cls := by rw [hvm]; exact hown
  have hins : (Cond.instantiable cls 6).before args s' = true := h _ (by simp [Bundle.ownAtoms])
  obtain ⟨vm₁, cX, kX, hfX, hkX, -, -, X₁, st1⟩ := Y.newCold hexec (own := own) (C := cls) (index := ik) (n := 6) hown' hk' hins hini'
    (g := F0 m pc ls rest) rfl (by rw [hb]; exact d0) (Nat.le_refl _) (Nat.le_refl _)
  generalize hT1 : (T.setVm vm₁).pushCell { cls := cX, slots := kX.instanceTypes.map defaultValue, vm := .none } = T1 at X₁ st1
  have hcat : (Value.ref T.heap.size).category = 1 := rfl
  have hcellA : T1.heap[T.heap.size]? = some (freshCell cX kX) := by rw [← hT1]; exact State.heap_pushCell_size _ _
  have d3' : decode c.code (pc + 3) = .ok (.dup, 1) := by rw [hb]; exact d3
  have d4' : decode c.code (pc + 4) = .ok (.ldc is, 2) := by rw [hb]; exact d4
  have hstr' : vk_R own is text sa s' := vk_R.warm hW0 hstr
  obtain ⟨U, hsteps, hrun, hend, hW, hsame, ce, hce, hO⟩ := X₁.ctorThrowS hexec htr (own := own) (cls := cls) (names := names) (ic := ic) hown' hcls hnames h (fun x hx => nomatch hx) hfX hkX hcellA (by rw [hhp, hT]; exact Nat.le_refl _) (msg := .ref sa) rfl
    (g := { method := m, pc := pc + 6, locals := ls, stack := .ref sa :: .ref T.heap.size :: .ref T.heap.size :: rest, locked := none }) rfl hsize rfl rfl (rest := rest) rfl
    (by rw [hb]; exact d6) (by rw [hb]; exact d9) hout hRframes (by simp only [List.map_cons, List.sum_cons, hcat]; omega) hlocks
  obtain ⟨f1, f2⟩ := vx_frame hsame
  rw [hhp] at f1 f2
  have hWs : s.WarmedH U.vm := State.WarmedH.trans hW0 hW
  have hcl : s.vm.findClass cls = some ce.cls := by
    have h9 := hO.cls
    rw [hvm] at h9
    exact h9
  have hall : s.sameButNew ({ U with vm := s.vm } : State) locs mc ms := by
    subst hA
    obtain ⟨e1, e2⟩ := hsame
    rw [State.setFrames_setFrames] at e1
    have h2 : (T.setVm s.vm).sameButNew ({ U with vm := s.vm } : State) [] (0 + 1) (0 + 6) := ⟨e1, e2⟩
    have h3 := X.same.trans h2
    rw [List.append_nil] at h3
    exact h3.mono hc hs
  refine ⟨U, ?_, .threw T.heap.size, hrun, hend, Or.inr ⟨T.heap.size, rfl, cls, ce, locs, hx U hWs.alike f1 (fun q hq => f2 q hq (fun z hz => nomatch hz)), hce, hO.vm, hcl, hWs, hall, hf⟩⟩
  refine st1 _ ?_
  show Steps p.tables e below (T1.setTop { method := m, pc := pc + 3, locals := ls, stack := .ref T.heap.size :: rest, locked := none }) _
  jvm_step X₁.here [X₁.here.top, hexec, d3', Value.category]
  exact X₁.ldcString hexec (own := own) (text := text) (index := is) (a := sa) hown' hstr'.1 hstr'.2
    (g := { method := m, pc := pc + 4, locals := ls, stack := .ref T.heap.size :: .ref T.heap.size :: rest, locked := none }) rfl d4' _ hsteps
/-- 'throw new E("text")', the text by a wide index -/
theorem vx_throwSW {cc : ByteArray} {pc : Nat} (hexec : p.tables.exec = Jvm.exec) (hb : c.code = cc) (hl : l.stackTraces = false) {own cls text : String} {names : List String} {ik is ic mc ms sa : Nat} {A : Nat → Prop}
    (hown : s.vm.findClass own = some m.cls) (hcls : Bundle.fit cls = true) (hnames : ∀ n ∈ names, Bundle.fit n = true)
    (hk : (Cond.classLink own ik cls).before args s = true) (hini : (Cond.initialized cls).before args s = true) (hstr : vk_R own is text sa s) (hat : ∀ w ∈ vx_atS own ic cls names, w.before args s = true)
    (hgood : ∀ w ∈ Cond.classLink own ik cls :: Cond.initialized cls :: vx_atS own ic cls names, vx_ot w = true)
    (hU : vx_Zq Bundle.tN "UNASSIGNED_STACK" Bundle.steD A s s.heap) (hN : vx_Zq Bundle.tN "SUPPRESSED_SENTINEL" Bundle.listD A s s.heap) (hS : va_S A s.heap H locs) (hsize : ls.size = c.maxLocals)
    (d0 : decode cc pc = .ok (.new ik, 3)) (d3 : decode cc (pc + 3) = .ok (.dup, 1)) (d4 : decode cc (pc + 4) = .ok (.ldc_w is, 3)) (d7 : decode cc (pc + 7) = .ok (.invokespecial ic, 3)) (d10 : decode cc (pc + 10) = .ok (.athrow, 1))
    (hout : ∀ x ∈ c.exceptionTable.toList, covers x (pc + 10) = false)
    (hRframes : names.length + 3 < R.frames) (hRlocals : (rest.map fun v => v.category).sum + (13 * (names.length + 1) + 43) ≤ R.locals) (hRcells : cells + 1 ≤ R.cells) (hRslots : slots + 6 ≤ R.slots) (hlocks : meth.locks = false)
    (hx : ∀ t : State, s.vm.Alike t.vm → H.size ≤ t.heap.size → (∀ q : Nat, q < H.size → t.heap[q]? = H[q]?) → XC cls s t)
    (hf : ∀ z ∈ locs, free z.base) (hc : cells + 1 ≤ mc) (hs : slots + 6 ≤ ms) :
    W p l e R s m args below meth c H locs cells slots (vx_MQ below Qc XC args s mc ms free) (F0 m pc ls rest) := by
  intro T hT X
  have htr : e.platform.stackTraces = false := (show e.platform.stackTraces = l.stackTraces by rw [X.admits.platform]).trans hl
  have Y := vx_rebase X (R' := { frames := R.frames, locals := R.locals, cells := 1, slots := 6 }) (Nat.le_refl _) (Nat.le_refl _) hRcells hRslots
  obtain ⟨s', hA⟩ : ∃ z, z = (T.setVm s.vm).setFrames (.invoking m args :: below) := ⟨_, rfl⟩
  rw [← hA] at Y
  have hvm : s'.vm = s.vm := by rw [hA]; rfl
  have hhp : s'.heap = H := by rw [hA]; exact hT
  have hW0 : s.WarmedH s'.vm := by rw [hvm]; exact State.WarmedH.refl s
  have hat' : ∀ w ∈ vx_atS own ic cls names, w.before args s' = true := fun w hw => vx_ot_at hW0 hvm.symm (hgood w (List.mem_cons_of_mem _ (List.mem_cons_of_mem _ hw))) (hat w hw)
  have hk' : (Cond.classLink own ik cls).before args s' = true := vx_ot_at hW0 hvm.symm (hgood _ List.mem_cons_self) hk
  have hini' : (Cond.initialized cls).before args s' = true := vx_ot_at hW0 hvm.symm (hgood _ (List.mem_cons_of_mem _ List.mem_cons_self)) hini
  have hU' : vx_Zq Bundle.tN "UNASSIGNED_STACK" Bundle.steD A s' s'.heap := by rw [hhp]; exact vx_Zq.moved hW0.alike (hU.kept hS.2.1)
  have hN' : vx_Zq Bundle.tN "SUPPRESSED_SENTINEL" Bundle.listD A s' s'.heap := by rw [hhp]; exact vx_Zq.moved hW0.alike (hN.kept hS.2.1)
  have h : ∀ w ∈ Bundle.ownAtoms own ic cls names, w.before args s' = true := vx_own hat' (vx_isRefq hU'.1) (vx_isRefq hN'.1) hU'.2.word hN'.2.word
  have hown' : s'.vm.findClass own = some m.cls := by rw [hvm]; exact hown
  have hins : (Cond.instantiable cls 6).before args s' = true := h _ (by simp [Bundle.ownAtoms])
  obtain ⟨vm₁, cX, kX, hfX, hkX, -, -, X₁, st1⟩ := Y.newCold hexec (own := own) (C := cls) (index := ik) (n := 6) hown' hk' hins hini'
    (g := F0 m pc ls rest) rfl (by rw [hb]; exact d0) (Nat.le_refl _) (Nat.le_refl _)
  generalize hT1 : (T.setVm vm₁).pushCell { cls := cX, slots := kX.instanceTypes.map defaultValue, vm := .none } = T1 at X₁ st1
  have hcat : (Value.ref T.heap.size).category = 1 := rfl
  have hcellA : T1.heap[T.heap.size]? = some (freshCell cX kX) := by rw [← hT1]; exact State.heap_pushCell_size _ _
  have d3' : decode c.code (pc + 3) = .ok (.dup, 1) := by rw [hb]; exact d3
  have d4' : decode c.code (pc + 4) = .ok (.ldc_w is, 3) := by rw [hb]; exact d4
  have hstr' : vk_R own is text sa s' := vk_R.warm hW0 hstr
  obtain ⟨U, hsteps, hrun, hend, hW, hsame, ce, hce, hO⟩ := X₁.ctorThrowS hexec htr (own := own) (cls := cls) (names := names) (ic := ic) hown' hcls hnames h (fun x hx => nomatch hx) hfX hkX hcellA (by rw [hhp, hT]; exact Nat.le_refl _) (msg := .ref sa) rfl
    (g := { method := m, pc := pc + 7, locals := ls, stack := .ref sa :: .ref T.heap.size :: .ref T.heap.size :: rest, locked := none }) rfl hsize rfl rfl (rest := rest) rfl
    (by rw [hb]; exact d7) (by rw [hb]; exact d10) hout hRframes (by simp only [List.map_cons, List.sum_cons, hcat]; omega) hlocks
  obtain ⟨f1, f2⟩ := vx_frame hsame
  rw [hhp] at f1 f2
  have hWs : s.WarmedH U.vm := State.WarmedH.trans hW0 hW
  have hcl : s.vm.findClass cls = some ce.cls := by
    have h9 := hO.cls
    rw [hvm] at h9
    exact h9
  have hall : s.sameButNew ({ U with vm := s.vm } : State) locs mc ms := by
    subst hA
    obtain ⟨e1, e2⟩ := hsame
    rw [State.setFrames_setFrames] at e1
    have h2 : (T.setVm s.vm).sameButNew ({ U with vm := s.vm } : State) [] (0 + 1) (0 + 6) := ⟨e1, e2⟩
    have h3 := X.same.trans h2
    rw [List.append_nil] at h3
    exact h3.mono hc hs
  refine ⟨U, ?_, .threw T.heap.size, hrun, hend, Or.inr ⟨T.heap.size, rfl, cls, ce, locs, hx U hWs.alike f1 (fun q hq => f2 q hq (fun z hz => nomatch hz)), hce, hO.vm, hcl, hWs, hall, hf⟩⟩
  refine st1 _ ?_
  show Steps p.tables e below (T1.setTop { method := m, pc := pc + 3, locals := ls, stack := .ref T.heap.size :: rest, locked := none }) _
  jvm_step X₁.here [X₁.here.top, hexec, d3', Value.category]
  exact X₁.ldcStringW hexec (own := own) (text := text) (index := is) (a := sa) hown' hstr'.1 hstr'.2
    (g := { method := m, pc := pc + 4, locals := ls, stack := .ref T.heap.size :: .ref T.heap.size :: rest, locked := none }) rfl d4' _ hsteps
end Ends
section Bodies
variable {l : Launch}
theorem vx_ofW {y : MethodName} {ws ws' : List Cond} {rm : Room} {Pc : Array Value → State → Prop} {Qc : Array Value → State → Outcome → State → Prop} {XC : String → State → State → Prop} {mc ms : Nat} {free : Addr → Prop} {cc : ByteArray} {maxL : Nat} {ret : Option FieldType}
    (hy : plainName y.cls = true) (hw : ws = Cond.code y cc maxL ret :: ws')
    (body : ∀ p e s m args below meth c s₁, BodyLoose p l y (headSpec ws rm) cc maxL ret e s m args below meth c s₁ → c.maxLocals = maxL → (∀ x ∈ c.exceptionTable.toList, False) → Pc args s →
      W p l e (headSpec ws rm).room s m args below meth c s.heap [] 0 0 (vx_MQ below Qc XC args s mc ms free) (entryFrame m args maxL)) : vx_Met l y ws rm Pc Qc XC mc ms free := by
  refine MetFree.of_bodyS (code := cc) (maxLocals := maxL) (ret := ret) hy ?_ ?_
  · intro args s m h hn
    obtain ⟨meth, c, h1, h2, h3, h4, h5, h6, -, -⟩ := Cond.code_spec hn (atoms_spec (ws := ws) h _ (by rw [hw]; exact List.mem_cons_self))
    exact ⟨meth, c, h1, h2, h3, h4, h5, h6⟩
  · intro p e s m args below meth c s₁ B hml hP _
    have hh0 : s₁.heap = s.heap := by rw [B.state]; rfl
    have ht : ∀ x ∈ c.exceptionTable.toList, False := by
      obtain ⟨meth9, c9, h1, h2, -, -, -, -, h7, -⟩ := Cond.code_spec B.named (atoms_spec (ws := ws) B.pre _ (by rw [hw]; exact List.mem_cons_self))
      cases Option.some.inj (h1.symm.trans B.method)
      cases Option.some.inj (h2.symm.trans (Stand.of_body B).code)
      intro x hx
      rw [Array.isEmpty_iff.mp h7] at hx
      cases hx
    obtain ⟨t, a1, o, b1, b2, b3⟩ := body p e s m args below meth c s₁ B hml ht hP s₁ hh0 (Stand.of_body B)
    exact ⟨t, o, a1, b1, b2, b3⟩
/-- the table of a body with handlers -/
theorem vx_table {p : Program} {x y : MethodName} {S : Spec} {cc bytes : ByteArray} {maxL maxL' : Nat} {ret ret' : Option FieldType} {e : Env} {s s₁ : State} {m : MethodId} {args : Array Value} {below : List Frame} {meth : Method} {c : Code} {hh : List (Nat × Nat × Nat × Nat)}
    (B : BodyLoose p l y S cc maxL ret e s m args below meth c s₁) (h : (Cond.codeWith y bytes maxL' ret' hh).before args s = true) : c.exceptionTable.toList = tableOf hh := by
  obtain ⟨m9, meth9, c9, hn9, h1, h2, -, -, h6, -⟩ := Cond.codeWith_spec h
  cases Option.some.inj (hn9.symm.trans B.named)
  cases Option.some.inj (h1.symm.trans B.method)
  cases Option.some.inj (h2.symm.trans (Stand.of_body B).code)
  rw [← h6, table_eq]
end Bodies
end VXA
/-! ===== END ===== -/
/-! ===== BEGIN a static call of a method with an exception table ===== -/
section VXS
variable {p : Program} {l : Launch} {e : Env} {R : Room} {s : State} {m : MethodId} {args : Array Value} {below : List Frame} {meth : Method} {c : Code} {T : State} {H : Heap} {locs : List Loc} {cells slots : Nat}
abbrev vx_CSW (R : Room) (s : State) (args : Array Value) (own : String) (index : Nat) (y : MethodName) (bytes : ByteArray) (maxL : Nat) (ret : Option FieldType) (hh : List (Nat × Nat × Nat × Nat)) (ws : List Cond) (rm : Room) (mc ms n : Nat) : Prop :=
  (rm.cells = mc ∧ rm.slots = ms ∧ rm.frames + 1 ≤ R.frames ∧ 8 + (maxL + 11) + rm.locals ≤ R.locals ∧ (∀ w ∈ ws, ∀ (a' : Array Value) (U : State), s.WarmedH U.vm → w.before a' U = true) ∧ Cond.codeWith y bytes maxL ret hh ∈ ws) ∧
  (Cond.codeWith y bytes maxL ret hh).before args s = true ∧ (Cond.initialized y.cls).before args s = true ∧ (y.cls ≠ "java/lang/invoke/MethodHandle" ∧ y.cls ≠ "java/lang/invoke/VarHandle") ∧
  (∀ sig, parseMethodDescriptor y.desc = some sig → n = sig.parameters.length) ∧ (Cond.methodLink own index y).before args s = true ∧ (Cond.static y).before args s = true
theorem vx_cwSW {own : String} {index maxL mc ms : Nat} {y : MethodName} {bytes : ByteArray} {ret : Option FieldType} {hh : List (Nat × Nat × Nat × Nat)} {Ts ws ws' : List Cond} {rm : Room} (n : Nat) (ht : ∀ w ∈ Ts, w.before args s = true) (hT : GoodIn Ts (va_wsS own index y ws)) (hw : ws = Cond.codeWith y bytes maxL ret hh :: ws') (hrc : rm.cells = mc) (hrs : rm.slots = ms)
    (hd : y.cls ≠ "java/lang/invoke/MethodHandle" ∧ y.cls ≠ "java/lang/invoke/VarHandle" ∧ (parseMethodDescriptor y.desc).map (fun d => d.parameters.length) = some n) (hR : rm.frames + 1 ≤ R.frames ∧ 8 + (maxL + 11) + rm.locals ≤ R.locals) :
    vx_CSW R s args own index y bytes maxL ret hh ws rm mc ms n := by
  have ok : ∀ w ∈ va_wsS own index y ws, w.before args s = true := fun w h => ht w (hT w h).1
  have hG : GoodIn Ts ws := fun w h => hT w (by unfold va_wsS; exact List.mem_append_right _ h)
  have hc : Cond.codeWith y bytes maxL ret hh ∈ ws := by rw [hw]; exact List.mem_cons_self
  refine ⟨⟨hrc, hrs, hR.1, hR.2, pay_in ht hG, hc⟩, ht _ (hG _ hc).1, ok _ (by simp [va_wsS]), ⟨hd.1, hd.2.1⟩, fun sig h => ?_, ok _ (by simp [va_wsS]), ok _ (by simp [va_wsS])⟩
  have h2 := hd.2.2
  rw [h] at h2
  exact (Option.some.inj h2).symm
theorem vx_callSW (X : Stand p l e R s m args below meth c T locs cells slots) (hexec : p.tables.exec = Jvm.exec) {own : String} {index : Nat} {y : MethodName} {bytes : ByteArray} {maxL : Nat} {ret : Option FieldType} {hh : List (Nat × Nat × Nat × Nat)}
    (hown : s.vm.findClass own = some m.cls) (hlink : (Cond.methodLink own index y).before args s = true) (hstat : (Cond.static y).before args s = true) (hinit : (Cond.initialized y.cls).before args s = true)
    (hcode : (Cond.codeWith y bytes maxL ret hh).before args s = true) (hy : y.cls ≠ "java/lang/invoke/MethodHandle" ∧ y.cls ≠ "java/lang/invoke/VarHandle")
    {W9 : Nat} {Pre : Pt → Array Value → Prop} {Post : Pt → Array Value → Option Value → Pt → Prop} (hK : Back l R p e below s args y 3 W9 Pre Post)
    {g : JFrame} (hg : g.method = m) (hsize : g.locals.size = c.maxLocals) {argsL rest : List Value} (hlen : ∀ sig, parseMethodDescriptor y.desc = some sig → argsL.length = sig.parameters.length)
    (hstack : g.stack = argsL.reverse ++ rest) (hW : 2 * g.monitorRoom + (rest.map fun v => v.category).sum ≤ W9) (hdg : decode c.code g.pc = .ok (.invokestatic index, 3))
    (hpre : ∀ vm₁, s.WarmedH vm₁ → Pre ⟨T.setVm vm₁, locs, cells, slots⟩ argsL.toArray) :
    ∃ (v : Option Value) (vm₁ : Vm) (B : Pt), s.WarmedH vm₁ ∧ Stand p l e R s m args below meth c B.U B.locs B.cells B.slots ∧ Post ⟨T.setVm vm₁, locs, cells, slots⟩ argsL.toArray v B ∧
      ∀ target, Steps p.tables e below (B.U.setTop { g with pc := g.pc + 3, stack := v.toList ++ rest }) target → Steps p.tables e below (T.setTop g) target := by
  obtain ⟨mk, methM, cM, hnamed, hmethM, -, -, -, -, -, -, hsigM⟩ := Cond.codeWith_spec hcode
  have hstatic : methM.isStatic = true := Cond.static_spec hnamed hmethM hstat
  obtain ⟨kP, hkP, -⟩ := className_of_methodNamed hnamed
  have hinitP : kP.init = .initialized := Cond.initialized_spec (findClass_of_methodNamed hnamed) hkP hinit
  obtain ⟨vm₁, X₁, hstep₁⟩ := X.invokestatic hexec hown hlink hnamed hmethM hstatic hkP hinitP hy (g := g) hg (argsL := argsL) (rest := rest) (hlen _ hsigM) hstack hdg
  obtain ⟨v, B, X', hpost, hsteps⟩ := hK m meth c ⟨T.setVm vm₁, locs, cells, slots⟩ { g with stack := rest } (.invokestatic index) mk argsL.toArray X₁ hg hsize hdg hW (X₁.named hnamed) (hpre vm₁ X₁.warmed)
  exact ⟨v, vm₁, B, X₁.warmed, X', hpost, fun target h => hstep₁ _ fun acts => by rw [doInvoke_state]; exact hsteps.trans h⟩
theorem vx_runSW {y : MethodName} {bytes cc : ByteArray} {maxL nL mc ms n index : Nat} {ret : Option FieldType} {hh : List (Nat × Nat × Nat × Nat)} {ws : List Cond} {rm : Room} {Pc : Array Value → State → Prop} {Qc : Array Value → State → Outcome → State → Prop} {free : Addr → Prop} {Ts : List Cond} {own : String} {As rest : List Value} {g : JFrame}
    (S : CallFix p m c cc nL s args Ts own) (hM : Met l y ws rm Pc Qc mc ms free) (cw : vx_CSW R s args own index y bytes maxL ret hh ws rm mc ms n) (hp : PreS s H Pc As)
    (hg : g.method = m) (hn : As.length = n) (hsize : g.locals.size = nL) (hstack : g.stack = As.reverse ++ rest) (hW : 2 * g.monitorRoom + (rest.map fun v => v.category).sum ≤ 8) (hdg : decode cc g.pc = .ok (.invokestatic index, 3)) (hf : cells + mc ≤ R.cells ∧ slots + ms ≤ R.slots) :
    va_Run p l e R s m args below meth c H locs cells slots mc ms g rest (Qc As.toArray) (free) := by
  obtain ⟨⟨hrc, hrs, hfr, hlo, hws, hcw⟩, hcode, hini, hy, hlen, hl, hstt⟩ := cw
  have hK : Back l R p e below s args y 3 8 (PreOf R mc ms Pc) (PostOf Qc mc ms free) := va_backW (hh := hh) (bytes := bytes) (maxL := maxL) (ret := ret) hM hp.1 hrc hrs hfr hlo hws hcw (fun a' U hW => word_at hW (Or.inl (by first | rfl | simp [Cond.onTables, Cond.keeps, Cond.steady])) hini)
  obtain ⟨hx, hb, hml, ho, -⟩ := S
  intro T hT X
  obtain ⟨v, vm₁, ⟨U', l2, c2, s2⟩, hW₁, X', ⟨g', mk, t, L, e1, e2, hq, h1, hL, h2, h3⟩, st⟩ := vx_callSW X hx (hh := hh) (bytes := bytes) (maxL := maxL) (ret := ret) ho hl hstt hini hcode hy hK hg (hsize.trans hml.symm) (argsL := As) (rest := rest) (fun sig h => hn.trans (hlen sig h)) hstack hW (by rw [hb]; exact hdg)
    (fun vm₁ hW₁ => ⟨hf.1, hf.2, hp.2 (T.setVm vm₁) hT hW₁⟩)
  dsimp only [Pt.U, Pt.locs, Pt.cells, Pt.slots] at X' e1 e2 h1 h2 h3 st
  subst h1; subst h2; subst h3
  exact ⟨v, (T.setVm vm₁).calling g' mk As.toArray, t, U', L, hT, X', hL, e1, e2, hq, st⟩
/-- a thing of a world lies in the heap -/
theorem vx_lt {D : va_G} {cl : List vw_C} {ws : va_W} {H1 : Heap} (h : va_P D cl ws H1) {k : Nat} {q : Nat × va_E} (hk : ws[k]? = some q) : q.1 < H1.size := (h k q hk).lt
end VXS
/-! ===== END ===== -/
/-! ===== BEGIN methods with a table of their own: called by a name, returning or throwing ===== -/
section VXH
/-! vx_backW, vx_callVX, vx_callSX, vx_callVW, vx_runVW, vx_runVX, vx_runSX, vx_ofWH follow the same proofs as their sisters above (Free/Laws.lean, Shelf42/LK1.lean); vx_outP calls Shelf42/NT130.lean (outThrough). -/
section
variable {l : Launch} {R : Room} {p : Program} {e : Env} {below : List Frame} {s : State} {sargs : Array Value} {y : MethodName} {len W9 : Nat}
theorem vx_backW {ws : List Cond} {rm : Room} {Pc : Array Value → State → Prop} {Qc : Array Value → State → Outcome → State → Prop} {XC : String → State → State → Prop} {mc ms : Nat} {free : Addr → Prop} {bytes : ByteArray} {maxL : Nat} {ret : Option FieldType} {hh : List (Nat × Nat × Nat × Nat)}
    (hM : vx_Met l y ws rm Pc Qc XC mc ms free) (hblind : FrameBlind Pc) (hrc : rm.cells = mc) (hrs : rm.slots = ms)
    (hframes : rm.frames + 1 ≤ R.frames) (hlocals : W9 + (maxL + 11) + rm.locals ≤ R.locals)
    (hws : ∀ w ∈ ws, ∀ a' U, s.WarmedH U.vm → w.before a' U = true) (hcode : Cond.codeWith y bytes maxL ret hh ∈ ws) (hinit : ∀ a' U, s.WarmedH U.vm → (Cond.initialized y.cls).before a' U = true) :
    vx_Back l R p e below s sargs y len W9 (PreOf R mc ms Pc) (PostOf Qc mc ms free) (vx_Post XC mc ms free) := by
  intro m meth c A g ig mk a X hg hsize hdg hW hn hp
  have h1 : (headSpec ws rm).pre.before a A.U = true := atoms_intro fun w hw => hws w hw _ _ X.warmed
  have h2 : (Cond.codeWith y bytes maxL ret hh).before a A.U = true := hws _ hcode _ _ X.warmed
  have h3 : (Cond.initialized y.cls).before a A.U = true := hinit _ _ X.warmed
  have h4 : A.cells + (headSpec ws rm).room.cells ≤ R.cells := by rw [show (headSpec ws rm).room.cells = mc from hrc]; exact hp.1
  have h5 : A.slots + (headSpec ws rm).room.slots ≤ R.slots := by rw [show (headSpec ws rm).room.slots = ms from hrs]; exact hp.2.1
  have hPc : Pc a (A.U.calling g mk a) := hblind _ _ _ _ hp.2.2
  obtain ⟨U, Ls, c0, s0⟩ := A
  dsimp only [Pt.U, Pt.locs, Pt.cells, Pt.slots] at h1 h2 h3 h4 h5 X hn hPc ⊢
  obtain ⟨m9, methY, cY, hn9, hmY, hcY, -, hlY, -⟩ := Cond.codeWith_spec h2
  cases Option.some.inj (hn9.symm.trans hn)
  obtain ⟨kY, hkY, -⟩ := className_of_methodNamed hn
  have hinitY : kY.init = .initialized := Cond.initialized_spec (findClass_of_methodNamed hn) hkY h3
  have h : At U g.method c below := by rw [hg]; exact X.here
  have hlocals9 : W9 + (maxL + 11) + (headSpec ws rm).room.locals ≤ R.locals := hlocals
  have happ : (headSpec ws rm).appliesLoose y e.platform (U.calling g mk a) = true :=
    Spec.appliesLoose_calling (g := g) h hdg hn hkY hinitY
      (X.room_calling (g := g) (R' := (headSpec ws rm).room) hsize hmY hcY hframes (by rw [hlY]; omega) h4 h5) h1
  obtain ⟨mid, hmid⟩ := h.above
  have hfr : (U.setTop g).frames = (.java g :: mid) ++ below := by rw [State.frames_setTop' g h.top, hmid]; rfl
  obtain ⟨o, s₂, hsteps, -, hend, hq⟩ := Steps.callFree hM p X.admits X.cas X.clock (acts := []) hfr happ hPc trivial
  have hq' : vx_Q Qc XC mc ms free a (U.calling g mk a) o s₂ := hq
  rw [State.frames_setTop' g h.top] at hend
  obtain ⟨g₀, hg0⟩ := Option.isSome_iff_exists.mp h.top
  obtain ⟨r, hr⟩ := State.topJava?_eq_some.mp hg0
  have hr' : (({ U with heap := s₂.heap, slotsUsed := s₂.slotsUsed } : State).setVm s₂.vm).frames = .java g₀ :: r := hr
  rcases hq' with ⟨hqc, L, hfe, hL⟩ | ⟨q, rfl, E, ce, L, hx, hce, hcv, hcl, hW₂, hsm, hL⟩
  · obtain ⟨⟨v, rfl⟩, hW₂, e2, q2, q3, q4, q5, q6⟩ := id hfe
    have e3 : s₂ = ({ (U.calling g mk a).setFrames s₂.frames with heap := s₂.heap, slotsUsed := s₂.slotsUsed } : State).setVm s₂.vm := by
      have : s₂ = ({ s₂ with vm := (U.calling g mk a).vm } : State).setVm s₂.vm := rfl
      rw [e2] at this
      exact this
    obtain ⟨c₂, i₂, len₂, hc₂, hd₂, hf₂⟩ := hend
    have hW' : U.WarmedH s₂.vm := hW₂
    have hcc : c₂ = c := by
      have h1 : s₂.code? g.method = U.code? g.method := by
        rw [State.code?_eq, State.code?_eq, hW'.alike.method?]
      exact Option.some.inj (hc₂.symm.trans (h1.trans h.code))
    subst hcc
    have hlen : len₂ = len := by rw [hdg] at hd₂; cases hd₂; rfl
    subst hlen
    have hs₂ : s₂ = (({ U with heap := s₂.heap, slotsUsed := s₂.slotsUsed } : State).setVm s₂.vm).setTop { g with pc := g.pc + len₂, stack := v.toList ++ g.stack } := by
      refine e3.trans ?_
      rw [hf₂, State.calling_eq h.top, State.setFrames_setFrames, State.setTop_of_frames _ hr', hr]
      rfl
    have hsame : U.sameButNew ({ U with heap := s₂.heap, slotsUsed := s₂.slotsUsed } : State) L mc ms := by
      refine ⟨?_, q2, q3, q4, q5, q6⟩
      obtain ⟨t, ht, -⟩ := State.frames_cons hr
      show ({ U with heap := s₂.heap, slotsUsed := s₂.slotsUsed } : State) = { U.setFrames U.frames with heap := s₂.heap, slotsUsed := s₂.slotsUsed }
      rw [State.setFrames_self ht]
    subst hg
    refine Or.inl ⟨v, ⟨(({ U with heap := s₂.heap, slotsUsed := s₂.slotsUsed } : State).setVm s₂.vm), Ls ++ L, c0 + mc, s0 + ms⟩,
      ⟨X.admits, X.cas, X.clock, X.frames, X.room, X.hears, X.method, X.code, (X.here.setHeapUsed s₂.heap s₂.slotsUsed).setVm hW'.alike, X.tail, State.WarmedH.trans X.warmed hW', X.limits, X.bytes, X.same.trans (hsame.setVm s.vm)⟩,
      ⟨g, mk, s₂, L, rfl, rfl, hqc, rfl, hL, rfl, rfl⟩, ?_⟩
    show Steps p.tables e below _ ((({ U with heap := s₂.heap, slotsUsed := s₂.slotsUsed } : State).setVm s₂.vm).setTop { g with pc := g.pc + len₂, stack := v.toList ++ g.stack })
    rw [← hs₂]
    exact hsteps
  · obtain ⟨e2, q2, q3, q4, q5, q6⟩ := id hsm
    have e3 : s₂ = ({ (U.calling g mk a).setFrames s₂.frames with heap := s₂.heap, slotsUsed := s₂.slotsUsed } : State).setVm s₂.vm := by
      have : s₂ = ({ s₂ with vm := (U.calling g mk a).vm } : State).setVm s₂.vm := rfl
      rw [e2] at this
      exact this
    have hf₂ : s₂.frames = .throwing q :: .java g :: U.frames.tail := hend
    have hW' : U.WarmedH s₂.vm := hW₂
    have hs₂ : s₂ = ((({ U with heap := s₂.heap, slotsUsed := s₂.slotsUsed } : State).setVm s₂.vm).setTop g).pushFrame (.throwing q) := by
      refine e3.trans ?_
      rw [hf₂, State.calling_eq h.top, State.setFrames_setFrames, State.pushFrame, State.frames_setTop _ hr', State.setTop_of_frames _ hr', State.setFrames_setFrames, hr]
      rfl
    have hsame : U.sameButNew ({ U with heap := s₂.heap, slotsUsed := s₂.slotsUsed } : State) L mc ms := by
      refine ⟨?_, q2, q3, q4, q5, q6⟩
      obtain ⟨t, ht, -⟩ := State.frames_cons hr
      show ({ U with heap := s₂.heap, slotsUsed := s₂.slotsUsed } : State) = { U.setFrames U.frames with heap := s₂.heap, slotsUsed := s₂.slotsUsed }
      rw [State.setFrames_self ht]
    subst hg
    refine Or.inr ⟨q, ⟨(({ U with heap := s₂.heap, slotsUsed := s₂.slotsUsed } : State).setVm s₂.vm), Ls ++ L, c0 + mc, s0 + ms⟩,
      ⟨X.admits, X.cas, X.clock, X.frames, X.room, X.hears, X.method, X.code, (X.here.setHeapUsed s₂.heap s₂.slotsUsed).setVm hW'.alike, X.tail, State.WarmedH.trans X.warmed hW', X.limits, X.bytes, X.same.trans (hsame.setVm s.vm)⟩,
      ⟨g, mk, s₂, L, E, ce, rfl, rfl, hx, hce, hcv, hcl, rfl, hL, rfl, rfl⟩, ?_⟩
    show Steps p.tables e below _ (((({ U with heap := s₂.heap, slotsUsed := s₂.slotsUsed } : State).setVm s₂.vm).setTop g).pushFrame (.throwing q))
    rw [← hs₂]
    exact hsteps
end
variable {p : Program} {l : Launch} {e : Env} {R : Room} {s : State} {m : MethodId} {args : Array Value} {below : List Frame} {meth : Method} {c : Code} {T : State} {H : Heap} {locs : List Loc} {cells slots : Nat}
theorem vx_callVX (X : Stand p l e R s m args below meth c T locs cells slots) (hexec : p.tables.exec = Jvm.exec) {own C : String} {index : Nat} {y : MethodName} {bytes : ByteArray} {maxL : Nat} {ret : Option FieldType} {hh : List (Nat × Nat × Nat × Nat)}
    (hown : s.vm.findClass own = some m.cls) (hlink : (Cond.methodLink own index y).before args s = true) (hinst : (Cond.instanceMethod y).before args s = true) (hsel : (Cond.selects C y y).before args s = true)
    (hcode : (Cond.codeWith y bytes maxL ret hh).before args s = true) (hy : y.cls ≠ "java/lang/invoke/MethodHandle" ∧ y.cls ≠ "java/lang/invoke/VarHandle")
    {W9 : Nat} {Pre : Pt → Array Value → Prop} {Post : Pt → Array Value → Option Value → Pt → Prop} {PostX : Pt → Array Value → Addr → Pt → Prop} (hK : vx_Back l R p e below s args y 3 W9 Pre Post PostX)
    {b : Addr} {cellB : Cell} (hcell : T.heap[b]? = some cellB) (hobj : cellB.vm.isStatics = false) (hcls : s.vm.findClass C = some cellB.cls)
    {g : JFrame} (hg : g.method = m) (hsize : g.locals.size = c.maxLocals) {argsL rest : List Value} (hlen : ∀ sig, parseMethodDescriptor y.desc = some sig → argsL.length = sig.parameters.length)
    (hstack : g.stack = argsL.reverse ++ .ref b :: rest) (hW : 2 * g.monitorRoom + (rest.map fun v => v.category).sum ≤ W9) (hdg : decode c.code g.pc = .ok (.invokevirtual index, 3))
    (hpre : ∀ vm₁, s.WarmedH vm₁ → Pre ⟨T.setVm vm₁, locs, cells, slots⟩ (Value.ref b :: argsL).toArray) :
    (∃ (v : Option Value) (vm₁ : Vm) (B : Pt), s.WarmedH vm₁ ∧ Stand p l e R s m args below meth c B.U B.locs B.cells B.slots ∧ Post ⟨T.setVm vm₁, locs, cells, slots⟩ (Value.ref b :: argsL).toArray v B ∧
      ∀ target, Steps p.tables e below (B.U.setTop { g with pc := g.pc + 3, stack := v.toList ++ rest }) target → Steps p.tables e below (T.setTop g) target) ∨
    (∃ (q : Addr) (vm₁ : Vm) (B : Pt), s.WarmedH vm₁ ∧ Stand p l e R s m args below meth c B.U B.locs B.cells B.slots ∧ PostX ⟨T.setVm vm₁, locs, cells, slots⟩ (Value.ref b :: argsL).toArray q B ∧
      Steps p.tables e below (T.setTop g) ((B.U.setTop { g with stack := rest }).pushFrame (.throwing q))) := by
  obtain ⟨mk, methM, hnamed, hmethM, hstM, habM⟩ := Cond.instanceMethod_spec hinst
  obtain ⟨m8, methM', cM, hn8, hmethM', -, -, -, -, -, -, hsigM⟩ := Cond.codeWith_spec hcode
  cases Option.some.inj (hn8.symm.trans hnamed)
  cases hmethM.symm.trans hmethM'
  obtain ⟨c2, r2, m2, q1, q2, q3, q4, kP, hkP, hkPi⟩ := Cond.selects_spec hsel
  cases hcls.symm.trans q1
  cases (State.methodFound?_of_named hnamed hy).symm.trans q2
  cases hnamed.symm.trans q3
  have hselP : selectMethod e.platform s.vm cellB.cls mk = .method mk := by rw [Launch.admits_selectMethod X.admits]; exact q4
  obtain ⟨vm₁, X₁, hstep₁⟩ := X.invokevirtual hexec hown hlink hnamed hmethM hstM hkP hkPi hy (a := b) (cell := cellB) hcell
    (fun z h => by rw [h] at hobj; cases hobj) hselP hmethM habM hkP hkPi (g := g) hg (argsL := argsL) (rest := rest) (hlen _ hsigM) hstack hdg
  rcases hK m meth c ⟨T.setVm vm₁, locs, cells, slots⟩ { g with stack := rest } (.invokevirtual index) mk (Value.ref b :: argsL).toArray X₁ hg hsize hdg hW (X₁.named hnamed) (hpre vm₁ X₁.warmed) with ⟨v, B, X', hpost, hsteps⟩ | ⟨q, B, X', hpost, hsteps⟩
  · exact Or.inl ⟨v, vm₁, B, X₁.warmed, X', hpost, fun target h => hstep₁ _ fun acts => by rw [doInvoke_state]; exact hsteps.trans h⟩
  · exact Or.inr ⟨q, vm₁, B, X₁.warmed, X', hpost, hstep₁ _ fun acts => by rw [doInvoke_state]; exact hsteps⟩
theorem vx_callSX (X : Stand p l e R s m args below meth c T locs cells slots) (hexec : p.tables.exec = Jvm.exec) {own : String} {index : Nat} {y : MethodName} {bytes : ByteArray} {maxL : Nat} {ret : Option FieldType} {hh : List (Nat × Nat × Nat × Nat)}
    (hown : s.vm.findClass own = some m.cls) (hlink : (Cond.methodLink own index y).before args s = true) (hstat : (Cond.static y).before args s = true) (hinit : (Cond.initialized y.cls).before args s = true)
    (hcode : (Cond.codeWith y bytes maxL ret hh).before args s = true) (hy : y.cls ≠ "java/lang/invoke/MethodHandle" ∧ y.cls ≠ "java/lang/invoke/VarHandle")
    {W9 : Nat} {Pre : Pt → Array Value → Prop} {Post : Pt → Array Value → Option Value → Pt → Prop} {PostX : Pt → Array Value → Addr → Pt → Prop} (hK : vx_Back l R p e below s args y 3 W9 Pre Post PostX)
    {g : JFrame} (hg : g.method = m) (hsize : g.locals.size = c.maxLocals) {argsL rest : List Value} (hlen : ∀ sig, parseMethodDescriptor y.desc = some sig → argsL.length = sig.parameters.length)
    (hstack : g.stack = argsL.reverse ++ rest) (hW : 2 * g.monitorRoom + (rest.map fun v => v.category).sum ≤ W9) (hdg : decode c.code g.pc = .ok (.invokestatic index, 3))
    (hpre : ∀ vm₁, s.WarmedH vm₁ → Pre ⟨T.setVm vm₁, locs, cells, slots⟩ argsL.toArray) :
    (∃ (v : Option Value) (vm₁ : Vm) (B : Pt), s.WarmedH vm₁ ∧ Stand p l e R s m args below meth c B.U B.locs B.cells B.slots ∧ Post ⟨T.setVm vm₁, locs, cells, slots⟩ argsL.toArray v B ∧
      ∀ target, Steps p.tables e below (B.U.setTop { g with pc := g.pc + 3, stack := v.toList ++ rest }) target → Steps p.tables e below (T.setTop g) target) ∨
    (∃ (q : Addr) (vm₁ : Vm) (B : Pt), s.WarmedH vm₁ ∧ Stand p l e R s m args below meth c B.U B.locs B.cells B.slots ∧ PostX ⟨T.setVm vm₁, locs, cells, slots⟩ argsL.toArray q B ∧
      Steps p.tables e below (T.setTop g) ((B.U.setTop { g with stack := rest }).pushFrame (.throwing q))) := by
  obtain ⟨mk, methM, cM, hnamed, hmethM, -, -, -, -, -, -, hsigM⟩ := Cond.codeWith_spec hcode
  have hstatic : methM.isStatic = true := Cond.static_spec hnamed hmethM hstat
  obtain ⟨kP, hkP, -⟩ := className_of_methodNamed hnamed
  have hinitP : kP.init = .initialized := Cond.initialized_spec (findClass_of_methodNamed hnamed) hkP hinit
  obtain ⟨vm₁, X₁, hstep₁⟩ := X.invokestatic hexec hown hlink hnamed hmethM hstatic hkP hinitP hy (g := g) hg (argsL := argsL) (rest := rest) (hlen _ hsigM) hstack hdg
  rcases hK m meth c ⟨T.setVm vm₁, locs, cells, slots⟩ { g with stack := rest } (.invokestatic index) mk argsL.toArray X₁ hg hsize hdg hW (X₁.named hnamed) (hpre vm₁ X₁.warmed) with ⟨v, B, X', hpost, hsteps⟩ | ⟨q, B, X', hpost, hsteps⟩
  · exact Or.inl ⟨v, vm₁, B, X₁.warmed, X', hpost, fun target h => hstep₁ _ fun acts => by rw [doInvoke_state]; exact hsteps.trans h⟩
  · exact Or.inr ⟨q, vm₁, B, X₁.warmed, X', hpost, hstep₁ _ fun acts => by rw [doInvoke_state]; exact hsteps⟩
theorem vx_callVW (X : Stand p l e R s m args below meth c T locs cells slots) (hexec : p.tables.exec = Jvm.exec) {own C : String} {index : Nat} {y : MethodName} {bytes : ByteArray} {maxL : Nat} {ret : Option FieldType} {hh : List (Nat × Nat × Nat × Nat)}
    (hown : s.vm.findClass own = some m.cls) (hlink : (Cond.methodLink own index y).before args s = true) (hinst : (Cond.instanceMethod y).before args s = true) (hsel : (Cond.selects C y y).before args s = true)
    (hcode : (Cond.codeWith y bytes maxL ret hh).before args s = true) (hy : y.cls ≠ "java/lang/invoke/MethodHandle" ∧ y.cls ≠ "java/lang/invoke/VarHandle")
    {W9 : Nat} {Pre : Pt → Array Value → Prop} {Post : Pt → Array Value → Option Value → Pt → Prop} (hK : Back l R p e below s args y 3 W9 Pre Post)
    {b : Addr} {cellB : Cell} (hcell : T.heap[b]? = some cellB) (hobj : cellB.vm.isStatics = false) (hcls : s.vm.findClass C = some cellB.cls)
    {g : JFrame} (hg : g.method = m) (hsize : g.locals.size = c.maxLocals) {argsL rest : List Value} (hlen : ∀ sig, parseMethodDescriptor y.desc = some sig → argsL.length = sig.parameters.length)
    (hstack : g.stack = argsL.reverse ++ .ref b :: rest) (hW : 2 * g.monitorRoom + (rest.map fun v => v.category).sum ≤ W9) (hdg : decode c.code g.pc = .ok (.invokevirtual index, 3))
    (hpre : ∀ vm₁, s.WarmedH vm₁ → Pre ⟨T.setVm vm₁, locs, cells, slots⟩ (Value.ref b :: argsL).toArray) :
    ∃ (v : Option Value) (vm₁ : Vm) (B : Pt), s.WarmedH vm₁ ∧ Stand p l e R s m args below meth c B.U B.locs B.cells B.slots ∧ Post ⟨T.setVm vm₁, locs, cells, slots⟩ (Value.ref b :: argsL).toArray v B ∧
      ∀ target, Steps p.tables e below (B.U.setTop { g with pc := g.pc + 3, stack := v.toList ++ rest }) target → Steps p.tables e below (T.setTop g) target := by
  obtain ⟨mk, methM, hnamed, hmethM, hstM, habM⟩ := Cond.instanceMethod_spec hinst
  obtain ⟨m8, methM', cM, hn8, hmethM', -, -, -, -, -, -, hsigM⟩ := Cond.codeWith_spec hcode
  cases Option.some.inj (hn8.symm.trans hnamed)
  cases hmethM.symm.trans hmethM'
  obtain ⟨c2, r2, m2, q1, q2, q3, q4, kP, hkP, hkPi⟩ := Cond.selects_spec hsel
  cases hcls.symm.trans q1
  cases (State.methodFound?_of_named hnamed hy).symm.trans q2
  cases hnamed.symm.trans q3
  have hselP : selectMethod e.platform s.vm cellB.cls mk = .method mk := by rw [Launch.admits_selectMethod X.admits]; exact q4
  obtain ⟨vm₁, X₁, hstep₁⟩ := X.invokevirtual hexec hown hlink hnamed hmethM hstM hkP hkPi hy (a := b) (cell := cellB) hcell
    (fun z h => by rw [h] at hobj; cases hobj) hselP hmethM habM hkP hkPi (g := g) hg (argsL := argsL) (rest := rest) (hlen _ hsigM) hstack hdg
  obtain ⟨v, B, X', hpost, hsteps⟩ := hK m meth c ⟨T.setVm vm₁, locs, cells, slots⟩ { g with stack := rest } (.invokevirtual index) mk (Value.ref b :: argsL).toArray X₁ hg hsize hdg hW (X₁.named hnamed) (hpre vm₁ X₁.warmed)
  exact ⟨v, vm₁, B, X₁.warmed, X', hpost, fun target h => hstep₁ _ fun acts => by rw [doInvoke_state]; exact hsteps.trans h⟩
abbrev vx_CVW (R : Room) (s : State) (args : Array Value) (own C : String) (index : Nat) (y : MethodName) (bytes : ByteArray) (maxL : Nat) (ret : Option FieldType) (hh : List (Nat × Nat × Nat × Nat)) (ws : List Cond) (rm : Room) (mc ms n : Nat) : Prop :=
  (rm.cells = mc ∧ rm.slots = ms ∧ rm.frames + 1 ≤ R.frames ∧ 8 + (maxL + 11) + rm.locals ≤ R.locals ∧ (∀ w ∈ ws, ∀ (a' : Array Value) (U : State), s.WarmedH U.vm → w.before a' U = true) ∧ Cond.codeWith y bytes maxL ret hh ∈ ws) ∧
  (Cond.codeWith y bytes maxL ret hh).before args s = true ∧ (Cond.initialized y.cls).before args s = true ∧ (y.cls ≠ "java/lang/invoke/MethodHandle" ∧ y.cls ≠ "java/lang/invoke/VarHandle") ∧
  (∀ sig, parseMethodDescriptor y.desc = some sig → n = sig.parameters.length) ∧ (Cond.methodLink own index y).before args s = true ∧ (Cond.instanceMethod y).before args s = true ∧ (Cond.selects C y y).before args s = true
theorem vx_cwVW {own C : String} {index maxL mc ms : Nat} {y : MethodName} {bytes : ByteArray} {ret : Option FieldType} {hh : List (Nat × Nat × Nat × Nat)} {Ts ws ws' : List Cond} {rm : Room} (n : Nat) (ht : ∀ w ∈ Ts, w.before args s = true) (hT : GoodIn Ts (wsV own index C y ws)) (hw : ws = Cond.codeWith y bytes maxL ret hh :: ws') (hrc : rm.cells = mc) (hrs : rm.slots = ms)
    (hd : y.cls = C ∧ y.cls ≠ "java/lang/invoke/MethodHandle" ∧ y.cls ≠ "java/lang/invoke/VarHandle" ∧ (parseMethodDescriptor y.desc).map (fun d => d.parameters.length) = some n) (hR : rm.frames + 1 ≤ R.frames ∧ 8 + (maxL + 11) + rm.locals ≤ R.locals) :
    vx_CVW R s args own C index y bytes maxL ret hh ws rm mc ms n := by
  obtain ⟨hC, hd⟩ := hd
  subst hC
  have ok : ∀ w ∈ wsV own index y.cls y ws, w.before args s = true := fun w h => ht w (hT w h).1
  have hG : GoodIn Ts ws := fun w h => hT w (by unfold wsV; exact List.mem_append_right _ h)
  have hc : Cond.codeWith y bytes maxL ret hh ∈ ws := by rw [hw]; exact List.mem_cons_self
  refine ⟨⟨hrc, hrs, hR.1, hR.2, pay_in ht hG, hc⟩, ht _ (hG _ hc).1, ok _ (by simp [wsV]), ⟨hd.1, hd.2.1⟩, fun sig h => ?_, ok _ (by simp [wsV]), ok _ (by simp [wsV]), ok _ (by simp [wsV])⟩
  have h2 := hd.2.2
  rw [h] at h2
  exact (Option.some.inj h2).symm
theorem vx_runVW {y : MethodName} {bytes cc : ByteArray} {maxL nL mc ms n index : Nat} {ret : Option FieldType} {hh : List (Nat × Nat × Nat × Nat)} {ws : List Cond} {rm : Room} {Pc : Array Value → State → Prop} {Qc : Array Value → State → Outcome → State → Prop} {free : Addr → Prop} {Ts : List Cond} {own C : String} {b : Addr} {As rest : List Value} {g : JFrame}
    (S : CallFix p m c cc nL s args Ts own) (hM : Met l y ws rm Pc Qc mc ms free) (cw : vx_CVW R s args own C index y bytes maxL ret hh ws rm mc ms n) (hp : PreV s H C b Pc As)
    (hg : g.method = m) (hn : As.length = n) (hsize : g.locals.size = nL) (hstack : g.stack = As.reverse ++ .ref b :: rest) (hW : 2 * g.monitorRoom + (rest.map fun v => v.category).sum ≤ 8) (hdg : decode cc g.pc = .ok (.invokevirtual index, 3)) (hf : cells + mc ≤ R.cells ∧ slots + ms ≤ R.slots) :
    va_Run p l e R s m args below meth c H locs cells slots mc ms g rest (Qc (Value.ref b :: As).toArray) free := by
  obtain ⟨⟨hrc, hrs, hfr, hlo, hws, hcw⟩, hcode, hini, hy, hlen, hl, hin, hse⟩ := cw
  have hK : Back l R p e below s args y 3 8 (PreOf R mc ms Pc) (PostOf Qc mc ms free) := va_backW (hh := hh) (bytes := bytes) (maxL := maxL) (ret := ret) hM hp.1 hrc hrs hfr hlo hws hcw (fun a' U hW => word_at hW (Or.inl (by first | rfl | simp [Cond.onTables, Cond.keeps, Cond.steady])) hini)
  obtain ⟨hx, hb, hml, ho, -⟩ := S
  obtain ⟨-, ⟨cellB, hcB, hoB, hclB⟩, hPc⟩ := hp
  intro T hT X
  obtain ⟨v, vm₁, ⟨U', l2, c2, s2⟩, hW₁, X', ⟨g', mk, t, L, e1, e2, hq, h1, hL, h2, h3⟩, st⟩ := vx_callVW X hx (C := C) (hh := hh) (bytes := bytes) (maxL := maxL) (ret := ret) ho hl hin hse hcode hy hK (by rw [hT]; exact hcB) hoB hclB hg (hsize.trans hml.symm) (argsL := As) (rest := rest) (fun sig h => hn.trans (hlen sig h)) hstack hW (by rw [hb]; exact hdg)
    (fun vm₁ hW₁ => ⟨hf.1, hf.2, hPc (T.setVm vm₁) hT hW₁⟩)
  dsimp only [Pt.U, Pt.locs, Pt.cells, Pt.slots] at X' e1 e2 h1 h2 h3 st
  subst h1; subst h2; subst h3
  exact ⟨v, (T.setVm vm₁).calling g' mk (Value.ref b :: As).toArray, t, U', L, hT, X', hL, e1, e2, hq, st⟩
section
variable {y : MethodName} {bytes cc : ByteArray} {maxL nL mc ms n index : Nat} {ret : Option FieldType} {ws : List Cond} {rm : Room} {Pc : Array Value → State → Prop} {Qc : Array Value → State → Outcome → State → Prop} {XC : String → State → State → Prop} {free : Addr → Prop} {Ts : List Cond} {own C : String} {b : Addr} {As rest : List Value} {g : JFrame}
theorem vx_runVX {hh : List (Nat × Nat × Nat × Nat)} (S : CallFix p m c cc nL s args Ts own) (hM : vx_Met l y ws rm Pc Qc XC mc ms free) (cw : vx_CVW R s args own C index y bytes maxL ret hh ws rm mc ms n) (hp : PreV s H C b Pc As)
    (hg : g.method = m) (hn : As.length = n) (hsize : g.locals.size = nL) (hstack : g.stack = As.reverse ++ .ref b :: rest) (hW : 2 * g.monitorRoom + (rest.map fun v => v.category).sum ≤ 8) (hdg : decode cc g.pc = .ok (.invokevirtual index, 3)) (hf : cells + mc ≤ R.cells ∧ slots + ms ≤ R.slots) :
    vx_Run p l e R s m args below meth c H locs cells slots mc ms g rest (Qc (Value.ref b :: As).toArray) XC free := by
  obtain ⟨⟨hrc, hrs, hfr, hlo, hws, hcw⟩, hcode, hini, hy, hlen, hl, hin, hse⟩ := cw
  have hK : vx_Back l R p e below s args y 3 8 (PreOf R mc ms Pc) (PostOf Qc mc ms free) (vx_Post XC mc ms free) := vx_backW (hh := hh) (bytes := bytes) (maxL := maxL) (ret := ret) hM hp.1 hrc hrs hfr hlo hws hcw (fun a' U hW => word_at hW (Or.inl (by first | rfl | simp [Cond.onTables, Cond.keeps, Cond.steady])) hini)
  obtain ⟨hx, hb, hml, ho, -⟩ := S
  obtain ⟨-, ⟨cellB, hcB, hoB, hclB⟩, hPc⟩ := hp
  intro T hT X
  rcases vx_callVX X hx (C := C) (hh := hh) (bytes := bytes) (maxL := maxL) (ret := ret) ho hl hin hse hcode hy hK (by rw [hT]; exact hcB) hoB hclB hg (hsize.trans hml.symm) (argsL := As) (rest := rest) (fun sig h => hn.trans (hlen sig h)) hstack hW (by rw [hb]; exact hdg)
    (fun vm₁ hW₁ => ⟨hf.1, hf.2, hPc (T.setVm vm₁) hT hW₁⟩) with ⟨v, vm₁, ⟨U', l2, c2, s2⟩, hW₁, X', ⟨g', mk, t, L, e1, e2, hq, h1, hL, h2, h3⟩, st⟩ | ⟨q, vm₁, ⟨U', l2, c2, s2⟩, hW₁, X', ⟨g', mk, t, L, E, ce, e1, e2, hq, hce, hcv, hcl, h1, hL, h2, h3⟩, st⟩
  · dsimp only [Pt.U, Pt.locs, Pt.cells, Pt.slots] at X' e1 e2 h1 h2 h3 st
    subst h1; subst h2; subst h3
    exact Or.inl ⟨v, (T.setVm vm₁).calling g' mk (Value.ref b :: As).toArray, t, U', L, hT, X', hL, e1, e2, hq, st⟩
  · dsimp only [Pt.U, Pt.locs, Pt.cells, Pt.slots] at X' e1 e2 h1 h2 h3 st hcl
    subst h1; subst h2; subst h3
    exact Or.inr ⟨q, (T.setVm vm₁).calling g' mk (Value.ref b :: As).toArray, t, U', L, E, ce, hT, X', hL, e1, e2, hq, hce, hcv, vx_cls hW₁ hcl, st⟩
theorem vx_runSX {hh : List (Nat × Nat × Nat × Nat)} (S : CallFix p m c cc nL s args Ts own) (hM : vx_Met l y ws rm Pc Qc XC mc ms free) (cw : vx_CSW R s args own index y bytes maxL ret hh ws rm mc ms n) (hp : PreS s H Pc As)
    (hg : g.method = m) (hn : As.length = n) (hsize : g.locals.size = nL) (hstack : g.stack = As.reverse ++ rest) (hW : 2 * g.monitorRoom + (rest.map fun v => v.category).sum ≤ 8) (hdg : decode cc g.pc = .ok (.invokestatic index, 3)) (hf : cells + mc ≤ R.cells ∧ slots + ms ≤ R.slots) :
    vx_Run p l e R s m args below meth c H locs cells slots mc ms g rest (Qc As.toArray) XC free := by
  obtain ⟨⟨hrc, hrs, hfr, hlo, hws, hcw⟩, hcode, hini, hy, hlen, hl, hstt⟩ := cw
  have hK : vx_Back l R p e below s args y 3 8 (PreOf R mc ms Pc) (PostOf Qc mc ms free) (vx_Post XC mc ms free) := vx_backW (hh := hh) (bytes := bytes) (maxL := maxL) (ret := ret) hM hp.1 hrc hrs hfr hlo hws hcw (fun a' U hW => word_at hW (Or.inl (by first | rfl | simp [Cond.onTables, Cond.keeps, Cond.steady])) hini)
  obtain ⟨hx, hb, hml, ho, -⟩ := S
  intro T hT X
  rcases vx_callSX X hx (hh := hh) (bytes := bytes) (maxL := maxL) (ret := ret) ho hl hstt hini hcode hy hK hg (hsize.trans hml.symm) (argsL := As) (rest := rest) (fun sig h => hn.trans (hlen sig h)) hstack hW (by rw [hb]; exact hdg)
    (fun vm₁ hW₁ => ⟨hf.1, hf.2, hp.2 (T.setVm vm₁) hT hW₁⟩) with ⟨v, vm₁, ⟨U', l2, c2, s2⟩, hW₁, X', ⟨g', mk, t, L, e1, e2, hq, h1, hL, h2, h3⟩, st⟩ | ⟨q, vm₁, ⟨U', l2, c2, s2⟩, hW₁, X', ⟨g', mk, t, L, E, ce, e1, e2, hq, hce, hcv, hcl, h1, hL, h2, h3⟩, st⟩
  · dsimp only [Pt.U, Pt.locs, Pt.cells, Pt.slots] at X' e1 e2 h1 h2 h3 st
    subst h1; subst h2; subst h3
    exact Or.inl ⟨v, (T.setVm vm₁).calling g' mk As.toArray, t, U', L, hT, X', hL, e1, e2, hq, st⟩
  · dsimp only [Pt.U, Pt.locs, Pt.cells, Pt.slots] at X' e1 e2 h1 h2 h3 st hcl
    subst h1; subst h2; subst h3
    exact Or.inr ⟨q, (T.setVm vm₁).calling g' mk As.toArray, t, U', L, E, ce, hT, X', hL, e1, e2, hq, hce, hcv, vx_cls hW₁ hcl, st⟩
end
end VXH
theorem vx_ofWH {l : Launch} {y : MethodName} {ws ws' : List Cond} {rm : Room} {Pc : Array Value → State → Prop} {Qc : Array Value → State → Outcome → State → Prop} {XC : String → State → State → Prop} {mc ms : Nat} {free : Addr → Prop} {cc : ByteArray} {maxL : Nat} {ret : Option FieldType} {hh : List (Nat × Nat × Nat × Nat)}
    (hy : plainName y.cls = true) (hw : ws = Cond.codeWith y cc maxL ret hh :: ws')
    (body : ∀ p e s m args below meth c s₁, BodyLoose p l y (headSpec ws rm) cc maxL ret e s m args below meth c s₁ → c.maxLocals = maxL → Pc args s →
      W p l e (headSpec ws rm).room s m args below meth c s.heap [] 0 0 (vx_MQ below Qc XC args s mc ms free) (entryFrame m args maxL)) : vx_Met l y ws rm Pc Qc XC mc ms free := by
  refine MetFree.of_bodyS (code := cc) (maxLocals := maxL) (ret := ret) hy ?_ ?_
  · intro args s m h hn
    obtain ⟨m9, meth, c, hn9, h1, h2, h3, h4, -, h5, h6, -⟩ := Cond.codeWith_spec (atoms_spec (ws := ws) h _ (by rw [hw]; exact List.mem_cons_self))
    cases hn.symm.trans hn9
    exact ⟨meth, c, h1, h2, h3, h4, h5, h6⟩
  · intro p e s m args below meth c s₁ B hml hP _
    have hh0 : s₁.heap = s.heap := by rw [B.state]; rfl
    obtain ⟨t, a1, o, b1, b2, b3⟩ := body p e s m args below meth c s₁ B hml hP s₁ hh0 (Stand.of_body B)
    exact ⟨t, o, a1, b1, b2, b3⟩
/-! ===== END ===== -/
end
section
def RX0 : String := "TurnKeeper$1"
def TX0 : u_T := fun k => match k with
  | _ => ("", "", "", false)
def tyX0 : Nat → FieldType := fun k => match k with
  | _ => .int
abbrev wsX00 : List Cond := u_ws RX0 TX0 0
theorem nmX0 : ∀ a, a < 0 → ∀ b, b < 0 → a ≠ b → (TX0 a).2.1 ≠ (TX0 b).2.1 := by decide +kernel
theorem tyX0_ok : ∀ k, k < 0 → parseFieldDescriptor (TX0 k).2.2.1 = some (tyX0 k) := by decide +kernel
def RX1 : String := "TurnKeeper$Gate"
def TX1 : u_T := fun k => match k with
  | 0 => ("TurnKeeper$Sync", "number", "I", true)
  | 1 => ("TurnKeeper$Sync", "kind", "I", true)
  | 2 => ("TurnKeeper$Sync", "row", "LTurnKeeper$Row;", true)
  | 3 => ("TurnKeeper$Gate", "owner", "I", false)
  | _ => ("TurnKeeper$Gate", "readers", "I", false)
def tyX1 : Nat → FieldType := fun k => match k with
  | 0 => .int
  | 1 => .int
  | 2 => .object "TurnKeeper$Row"
  | 3 => .int
  | _ => .int
abbrev wsX10 : List Cond := u_ws RX1 TX1 5
theorem nmX1 : ∀ a, a < 5 → ∀ b, b < 5 → a ≠ b → (TX1 a).2.1 ≠ (TX1 b).2.1 := by decide +kernel
theorem tyX1_ok : ∀ k, k < 5 → parseFieldDescriptor (TX1 k).2.2.1 = some (tyX1 k) := by decide +kernel
abbrev cX1_init : ByteArray := prog_3_method_1_code
def yX1_init : MethodName := ⟨RX1, "<init>", "(I)V"⟩
abbrev cX1_perform : ByteArray := prog_3_method_2_code
def yX1_perform : MethodName := ⟨RX1, "perform", "(LTurnKeeper$Strand;LTurnKeeper$Word;)V"⟩
abbrev cX1_leave : ByteArray := prog_3_method_3_code
def yX1_leave : MethodName := ⟨RX1, "leave", "(LTurnKeeper$Strand;)V"⟩
abbrev cX1_giveBack : ByteArray := prog_3_method_4_code
def yX1_giveBack : MethodName := ⟨RX1, "giveBack", "(LTurnKeeper$Strand;)V"⟩
abbrev cX1_rowGoesOn : ByteArray := prog_3_method_5_code
def yX1_rowGoesOn : MethodName := ⟨RX1, "rowGoesOn", "()V"⟩
abbrev cX1_value : ByteArray := prog_3_method_6_code
def yX1_value : MethodName := ⟨RX1, "value", "()J"⟩
abbrev cX1_tells : ByteArray := prog_3_method_7_code
def yX1_tells : MethodName := ⟨RX1, "tells", "(I)Z"⟩
abbrev cX1_detail : ByteArray := prog_3_method_8_code
def yX1_detail : MethodName := ⟨RX1, "detail", "(I)J"⟩
def RX2 : String := "TurnKeeper$Holder"
def TX2 : u_T := fun k => match k with
  | 0 => ("TurnKeeper$Sync", "number", "I", true)
  | 1 => ("TurnKeeper$Sync", "kind", "I", true)
  | 2 => ("TurnKeeper$Sync", "row", "LTurnKeeper$Row;", true)
  | 3 => ("TurnKeeper$Holder", "filled", "Z", false)
  | _ => ("TurnKeeper$Holder", "held", "I", false)
def tyX2 : Nat → FieldType := fun k => match k with
  | 0 => .int
  | 1 => .int
  | 2 => .object "TurnKeeper$Row"
  | 3 => .boolean
  | _ => .int
abbrev wsX20 : List Cond := u_ws RX2 TX2 5
theorem nmX2 : ∀ a, a < 5 → ∀ b, b < 5 → a ≠ b → (TX2 a).2.1 ≠ (TX2 b).2.1 := by decide +kernel
theorem tyX2_ok : ∀ k, k < 5 → parseFieldDescriptor (TX2 k).2.2.1 = some (tyX2 k) := by decide +kernel
abbrev cX2_init : ByteArray := prog_4_method_1_code
def yX2_init : MethodName := ⟨RX2, "<init>", "(IIZI)V"⟩
abbrev cX2_perform : ByteArray := prog_4_method_2_code
def yX2_perform : MethodName := ⟨RX2, "perform", "(LTurnKeeper$Strand;LTurnKeeper$Word;)V"⟩
abbrev cX2_isGiven : ByteArray := prog_4_method_3_code
def yX2_isGiven : MethodName := ⟨RX2, "isGiven", "(I)Z"⟩
abbrev cX2_value : ByteArray := prog_4_method_4_code
def yX2_value : MethodName := ⟨RX2, "value", "()J"⟩
def RX3 : String := "TurnKeeper$Hurdle"
def TX3 : u_T := fun k => match k with
  | 0 => ("TurnKeeper$Sync", "number", "I", true)
  | 1 => ("TurnKeeper$Sync", "kind", "I", true)
  | 2 => ("TurnKeeper$Sync", "row", "LTurnKeeper$Row;", true)
  | _ => ("TurnKeeper$Hurdle", "height", "I", false)
def tyX3 : Nat → FieldType := fun k => match k with
  | 0 => .int
  | 1 => .int
  | 2 => .object "TurnKeeper$Row"
  | _ => .int
abbrev wsX30 : List Cond := u_ws RX3 TX3 4
theorem nmX3 : ∀ a, a < 4 → ∀ b, b < 4 → a ≠ b → (TX3 a).2.1 ≠ (TX3 b).2.1 := by decide +kernel
theorem tyX3_ok : ∀ k, k < 4 → parseFieldDescriptor (TX3 k).2.2.1 = some (tyX3 k) := by decide +kernel
abbrev cX3_init : ByteArray := prog_5_method_1_code
def yX3_init : MethodName := ⟨RX3, "<init>", "(III)V"⟩
abbrev cX3_perform : ByteArray := prog_5_method_2_code
def yX3_perform : MethodName := ⟨RX3, "perform", "(LTurnKeeper$Strand;LTurnKeeper$Word;)V"⟩
abbrev cX3_value : ByteArray := prog_5_method_3_code
def yX3_value : MethodName := ⟨RX3, "value", "()J"⟩
def RX4 : String := "TurnKeeper$Lock"
def TX4 : u_T := fun k => match k with
  | 0 => ("TurnKeeper$Sync", "number", "I", true)
  | 1 => ("TurnKeeper$Sync", "kind", "I", true)
  | 2 => ("TurnKeeper$Sync", "row", "LTurnKeeper$Row;", true)
  | 3 => ("TurnKeeper$Lock", "owner", "I", false)
  | 4 => ("TurnKeeper$Lock", "fair", "Z", true)
  | 5 => ("TurnKeeper$Lock", "holds", "I", false)
  | _ => ("TurnKeeper$Lock", "second", "LTurnKeeper$Row;", true)
def tyX4 : Nat → FieldType := fun k => match k with
  | 0 => .int
  | 1 => .int
  | 2 => .object "TurnKeeper$Row"
  | 3 => .int
  | 4 => .boolean
  | 5 => .int
  | _ => .object "TurnKeeper$Row"
abbrev wsX40 : List Cond := u_ws RX4 TX4 7
theorem nmX4 : ∀ a, a < 7 → ∀ b, b < 7 → a ≠ b → (TX4 a).2.1 ≠ (TX4 b).2.1 := by decide +kernel
theorem tyX4_ok : ∀ k, k < 7 → parseFieldDescriptor (TX4 k).2.2.1 = some (tyX4 k) := by decide +kernel
abbrev cX4_init : ByteArray := prog_6_method_1_code
def yX4_init : MethodName := ⟨RX4, "<init>", "(IZ)V"⟩
abbrev cX4_perform : ByteArray := prog_6_method_2_code
def yX4_perform : MethodName := ⟨RX4, "perform", "(LTurnKeeper$Strand;LTurnKeeper$Word;)V"⟩
abbrev cX4_grabOrStandIn : ByteArray := prog_6_method_3_code
def yX4_grabOrStandIn : MethodName := ⟨RX4, "grabOrStandIn", "(LTurnKeeper$Strand;)V"⟩
abbrev cX4_isGrabbed : ByteArray := prog_6_method_4_code
def yX4_isGrabbed : MethodName := ⟨RX4, "isGrabbed", "(LTurnKeeper$Strand;)Z"⟩
abbrev cX4_free : ByteArray := prog_6_method_5_code
def yX4_free : MethodName := ⟨RX4, "free", "()V"⟩
abbrev cX4_have : ByteArray := prog_6_method_6_code
def yX4_have : MethodName := ⟨RX4, "have", "(LTurnKeeper$Strand;)V"⟩
abbrev cX4_tryAgain : ByteArray := prog_6_method_7_code
def yX4_tryAgain : MethodName := ⟨RX4, "tryAgain", "(LTurnKeeper$Strand;)V"⟩
abbrev cX4_callUp : ByteArray := prog_6_method_8_code
def yX4_callUp : MethodName := ⟨RX4, "callUp", "(I)V"⟩
abbrev cX4_comeToFirst : ByteArray := prog_6_method_9_code
def yX4_comeToFirst : MethodName := ⟨RX4, "comeToFirst", "(LTurnKeeper$Strand;I)V"⟩
abbrev cX4_interruptWait : ByteArray := prog_6_method_10_code
def yX4_interruptWait : MethodName := ⟨RX4, "interruptWait", "(LTurnKeeper$Strand;)V"⟩
abbrev cX4_hasStrands : ByteArray := prog_6_method_11_code
def yX4_hasStrands : MethodName := ⟨RX4, "hasStrands", "()Z"⟩
abbrev cX4_value : ByteArray := prog_6_method_12_code
def yX4_value : MethodName := ⟨RX4, "value", "()J"⟩
abbrev cX4_tells : ByteArray := prog_6_method_13_code
def yX4_tells : MethodName := ⟨RX4, "tells", "(I)Z"⟩
abbrev cX4_detail : ByteArray := prog_6_method_14_code
def yX4_detail : MethodName := ⟨RX4, "detail", "(I)J"⟩
def RX5 : String := "TurnKeeper$Queue"
def TX5 : u_T := fun k => match k with
  | 0 => ("TurnKeeper$Sync", "number", "I", true)
  | 1 => ("TurnKeeper$Sync", "kind", "I", true)
  | 2 => ("TurnKeeper$Sync", "row", "LTurnKeeper$Row;", true)
  | 3 => ("TurnKeeper$Queue", "items", "[I", true)
  | 4 => ("TurnKeeper$Queue", "head", "I", false)
  | _ => ("TurnKeeper$Queue", "size", "I", false)
def tyX5 : Nat → FieldType := fun k => match k with
  | 0 => .int
  | 1 => .int
  | 2 => .object "TurnKeeper$Row"
  | 3 => .array .int
  | 4 => .int
  | _ => .int
abbrev wsX50 : List Cond := u_ws RX5 TX5 6
theorem nmX5 : ∀ a, a < 6 → ∀ b, b < 6 → a ≠ b → (TX5 a).2.1 ≠ (TX5 b).2.1 := by decide +kernel
theorem tyX5_ok : ∀ k, k < 6 → parseFieldDescriptor (TX5 k).2.2.1 = some (tyX5 k) := by decide +kernel
abbrev cX5_init : ByteArray := prog_7_method_1_code
def yX5_init : MethodName := ⟨RX5, "<init>", "(II)V"⟩
abbrev cX5_perform : ByteArray := prog_7_method_2_code
def yX5_perform : MethodName := ⟨RX5, "perform", "(LTurnKeeper$Strand;LTurnKeeper$Word;)V"⟩
abbrev cX5_isAccepted : ByteArray := prog_7_method_3_code
def yX5_isAccepted : MethodName := ⟨RX5, "isAccepted", "(I)Z"⟩
abbrev cX5_takenOut : ByteArray := prog_7_method_4_code
def yX5_takenOut : MethodName := ⟨RX5, "takenOut", "()I"⟩
abbrev cX5_append : ByteArray := prog_7_method_5_code
def yX5_append : MethodName := ⟨RX5, "append", "(I)V"⟩
abbrev cX5_value : ByteArray := prog_7_method_6_code
def yX5_value : MethodName := ⟨RX5, "value", "()J"⟩
abbrev cX5_tells : ByteArray := prog_7_method_7_code
def yX5_tells : MethodName := ⟨RX5, "tells", "(I)Z"⟩
abbrev cX5_detail : ByteArray := prog_7_method_8_code
def yX5_detail : MethodName := ⟨RX5, "detail", "(I)J"⟩
def RX6 : String := "TurnKeeper$Row"
def TX6 : u_T := fun k => match k with
  | 0 => ("TurnKeeper$Row", "size", "I", false)
  | _ => ("TurnKeeper$Row", "strands", "[LTurnKeeper$Strand;", true)
def tyX6 : Nat → FieldType := fun k => match k with
  | 0 => .int
  | _ => .array (.object "TurnKeeper$Strand")
abbrev wsX60 : List Cond := u_ws RX6 TX6 2
theorem nmX6 : ∀ a, a < 2 → ∀ b, b < 2 → a ≠ b → (TX6 a).2.1 ≠ (TX6 b).2.1 := by decide +kernel
theorem tyX6_ok : ∀ k, k < 2 → parseFieldDescriptor (TX6 k).2.2.1 = some (tyX6 k) := by decide +kernel
abbrev cX6_init : ByteArray := prog_8_method_1_code
def yX6_init : MethodName := ⟨RX6, "<init>", "()V"⟩
abbrev cX6_first : ByteArray := prog_8_method_2_code
def yX6_first : MethodName := ⟨RX6, "first", "()LTurnKeeper$Strand;"⟩
abbrev cX6_add : ByteArray := prog_8_method_3_code
def yX6_add : MethodName := ⟨RX6, "add", "(LTurnKeeper$Strand;)V"⟩
abbrev cX6_remove : ByteArray := prog_8_method_4_code
def yX6_remove : MethodName := ⟨RX6, "remove", "(LTurnKeeper$Strand;)V"⟩
def RX7 : String := "TurnKeeper$Semaphore"
def TX7 : u_T := fun k => match k with
  | 0 => ("TurnKeeper$Sync", "number", "I", true)
  | 1 => ("TurnKeeper$Sync", "kind", "I", true)
  | 2 => ("TurnKeeper$Sync", "row", "LTurnKeeper$Row;", true)
  | _ => ("TurnKeeper$Semaphore", "permits", "I", false)
def tyX7 : Nat → FieldType := fun k => match k with
  | 0 => .int
  | 1 => .int
  | 2 => .object "TurnKeeper$Row"
  | _ => .int
abbrev wsX70 : List Cond := u_ws RX7 TX7 4
theorem nmX7 : ∀ a, a < 4 → ∀ b, b < 4 → a ≠ b → (TX7 a).2.1 ≠ (TX7 b).2.1 := by decide +kernel
theorem tyX7_ok : ∀ k, k < 4 → parseFieldDescriptor (TX7 k).2.2.1 = some (tyX7 k) := by decide +kernel
abbrev cX7_init : ByteArray := prog_9_method_1_code
def yX7_init : MethodName := ⟨RX7, "<init>", "(II)V"⟩
abbrev cX7_perform : ByteArray := prog_9_method_2_code
def yX7_perform : MethodName := ⟨RX7, "perform", "(LTurnKeeper$Strand;LTurnKeeper$Word;)V"⟩
abbrev cX7_handOut : ByteArray := prog_9_method_3_code
def yX7_handOut : MethodName := ⟨RX7, "handOut", "()V"⟩
abbrev cX7_value : ByteArray := prog_9_method_4_code
def yX7_value : MethodName := ⟨RX7, "value", "()J"⟩
def RX8 : String := "TurnKeeper$Strand"
def TX8 : u_T := fun k => match k with
  | 0 => ("TurnKeeper$Strand", "number", "I", true)
  | 1 => ("TurnKeeper$Strand", "state", "I", false)
  | 2 => ("TurnKeeper$Strand", "a", "I", false)
  | 3 => ("TurnKeeper$Strand", "at", "I", false)
  | 4 => ("TurnKeeper$Strand", "why", "I", false)
  | 5 => ("TurnKeeper$Strand", "interrupted", "Z", false)
  | 6 => ("TurnKeeper$Strand", "wakesAt", "J", false)
  | 7 => ("TurnKeeper$Strand", "sync", "LTurnKeeper$Sync;", false)
  | 8 => ("TurnKeeper$Strand", "row", "LTurnKeeper$Row;", false)
  | 9 => ("TurnKeeper$Strand", "kept", "I", false)
  | 10 => ("TurnKeeper$Strand", "answer", "I", false)
  | 11 => ("TurnKeeper$Strand", "code", "[I", true)
  | _ => ("TurnKeeper$Strand", "size", "I", false)
def tyX8 : Nat → FieldType := fun k => match k with
  | 0 => .int
  | 1 => .int
  | 2 => .int
  | 3 => .int
  | 4 => .int
  | 5 => .boolean
  | 6 => .long
  | 7 => .object "TurnKeeper$Sync"
  | 8 => .object "TurnKeeper$Row"
  | 9 => .int
  | 10 => .int
  | 11 => .array .int
  | _ => .int
abbrev wsX80 : List Cond := u_ws RX8 TX8 13
theorem nmX8 : ∀ a, a < 13 → ∀ b, b < 13 → a ≠ b → (TX8 a).2.1 ≠ (TX8 b).2.1 := by decide +kernel
theorem tyX8_ok : ∀ k, k < 13 → parseFieldDescriptor (TX8 k).2.2.1 = some (tyX8 k) := by decide +kernel
abbrev cX8_init : ByteArray := prog_10_method_1_code
def yX8_init : MethodName := ⟨RX8, "<init>", "(I)V"⟩
abbrev cX8_isVacant : ByteArray := prog_10_method_2_code
def yX8_isVacant : MethodName := ⟨RX8, "isVacant", "()Z"⟩
abbrev cX8_start : ByteArray := prog_10_method_3_code
def yX8_start : MethodName := ⟨RX8, "start", "([II)V"⟩
abbrev cX8_word : ByteArray := prog_10_method_4_code
def yX8_word : MethodName := ⟨RX8, "word", "()LTurnKeeper$Word;"⟩
abbrev cX8_operand : ByteArray := prog_10_method_5_code
def yX8_operand : MethodName := ⟨RX8, "operand", "(I)I"⟩
abbrev cX8_codeAt : ByteArray := prog_10_method_6_code
def yX8_codeAt : MethodName := ⟨RX8, "codeAt", "(I)I"⟩
abbrev cX8_goTo : ByteArray := prog_10_method_7_code
def yX8_goTo : MethodName := ⟨RX8, "goTo", "(I)V"⟩
abbrev cX8_goOn : ByteArray := prog_10_method_8_code
def yX8_goOn : MethodName := ⟨RX8, "goOn", "()V"⟩
abbrev cX8_goOnWith : ByteArray := prog_10_method_9_code
def yX8_goOnWith : MethodName := ⟨RX8, "goOnWith", "(I)V"⟩
abbrev cX8_fail : ByteArray := prog_10_method_10_code
def yX8_fail : MethodName := ⟨RX8, "fail", "(I)V"⟩
abbrev cX8_standIn : ByteArray := prog_10_method_11_code
def yX8_standIn : MethodName := ⟨RX8, "standIn", "(LTurnKeeper$Row;LTurnKeeper$Sync;)V"⟩
abbrev cX8_refusesToWait : ByteArray := prog_10_method_12_code
def yX8_refusesToWait : MethodName := ⟨RX8, "refusesToWait", "()Z"⟩
def RX9 : String := "TurnKeeper$Sync"
def TX9 : u_T := fun k => match k with
  | _ => ("", "", "", false)
def tyX9 : Nat → FieldType := fun k => match k with
  | _ => .int
abbrev wsX90 : List Cond := u_ws RX9 TX9 0
theorem nmX9 : ∀ a, a < 0 → ∀ b, b < 0 → a ≠ b → (TX9 a).2.1 ≠ (TX9 b).2.1 := by decide +kernel
theorem tyX9_ok : ∀ k, k < 0 → parseFieldDescriptor (TX9 k).2.2.1 = some (tyX9 k) := by decide +kernel
abbrev cX9_init : ByteArray := prog_11_method_1_code
def yX9_init : MethodName := ⟨RX9, "<init>", "(II)V"⟩
abbrev cX9_hasStrands : ByteArray := prog_11_method_4_code
def yX9_hasStrands : MethodName := ⟨RX9, "hasStrands", "()Z"⟩
abbrev cX9_tells : ByteArray := prog_11_method_5_code
def yX9_tells : MethodName := ⟨RX9, "tells", "(I)Z"⟩
abbrev cX9_detail : ByteArray := prog_11_method_6_code
def yX9_detail : MethodName := ⟨RX9, "detail", "(I)J"⟩
abbrev cX9_holdUp : ByteArray := prog_11_method_7_code
def yX9_holdUp : MethodName := ⟨RX9, "holdUp", "(LTurnKeeper$Strand;)V"⟩
abbrev cX9_allGoOn : ByteArray := prog_11_method_8_code
def yX9_allGoOn : MethodName := ⟨RX9, "allGoOn", "()V"⟩
def RX10 : String := "TurnKeeper$Tape"
def TX10 : u_T := fun k => match k with
  | 0 => ("TurnKeeper$Tape", "code", "[I", true)
  | 1 => ("TurnKeeper$Tape", "size", "I", false)
  | 2 => ("TurnKeeper$Tape", "length", "I", false)
  | 3 => ("TurnKeeper$Tape", "place", "I", false)
  | 4 => ("TurnKeeper$Tape", "bytes", "[B", true)
  | _ => ("TurnKeeper$Tape", "at", "I", false)
def tyX10 : Nat → FieldType := fun k => match k with
  | 0 => .array .int
  | 1 => .int
  | 2 => .int
  | 3 => .int
  | 4 => .array .byte
  | _ => .int
abbrev wsX100 : List Cond := u_ws RX10 TX10 6
theorem nmX10 : ∀ a, a < 6 → ∀ b, b < 6 → a ≠ b → (TX10 a).2.1 ≠ (TX10 b).2.1 := by decide +kernel
theorem tyX10_ok : ∀ k, k < 6 → parseFieldDescriptor (TX10 k).2.2.1 = some (tyX10 k) := by decide +kernel
abbrev cX10_init : ByteArray := prog_12_method_1_code
def yX10_init : MethodName := ⟨RX10, "<init>", "()V"⟩
abbrev cX10_append : ByteArray := prog_12_method_2_code
def yX10_append : MethodName := ⟨RX10, "append", "(I)V"⟩
abbrev cX10_read : ByteArray := prog_12_method_3_code
def yX10_read : MethodName := ⟨RX10, "read", "()Z"⟩
abbrev cX10_readInstruction : ByteArray := prog_12_method_4_code
def yX10_readInstruction : MethodName := ⟨RX10, "readInstruction", "(I)Z"⟩
abbrev cX10_readNumber : ByteArray := prog_12_method_5_code
def yX10_readNumber : MethodName := ⟨RX10, "readNumber", "(IC)Z"⟩
abbrev cX10_inRange : ByteArray := prog_12_method_6_code
def yX10_inRange : MethodName := ⟨RX10, "inRange", "(CI)Z"⟩
abbrev cX10_wordAt : ByteArray := prog_12_method_7_code
def yX10_wordAt : MethodName := ⟨RX10, "wordAt", "(I)I"⟩
abbrev cX10_isText : ByteArray := prog_12_method_8_code
def yX10_isText : MethodName := ⟨RX10, "isText", "(ILjava/lang/String;)Z"⟩
abbrev cX10_skipBlanks : ByteArray := prog_12_method_9_code
def yX10_skipBlanks : MethodName := ⟨RX10, "skipBlanks", "()V"⟩
abbrev cX10_here : ByteArray := prog_12_method_10_code
def yX10_here : MethodName := ⟨RX10, "here", "()I"⟩
abbrev cX10_store : ByteArray := prog_12_method_11_code
def yX10_store : MethodName := ⟨RX10, "store", "(II)V"⟩
abbrev cX10_broken : ByteArray := prog_12_method_12_code
def yX10_broken : MethodName := ⟨RX10, "broken", "(I)Z"⟩
def RX11 : String := "TurnKeeper$Word"
def TX11 : u_T := fun k => match k with
  | _ => ("", "", "", false)
def tyX11 : Nat → FieldType := fun k => match k with
  | _ => .int
abbrev wsX110 : List Cond := u_ws RX11 TX11 0
theorem nmX11 : ∀ a, a < 0 → ∀ b, b < 0 → a ≠ b → (TX11 a).2.1 ≠ (TX11 b).2.1 := by decide +kernel
theorem tyX11_ok : ∀ k, k < 0 → parseFieldDescriptor (TX11 k).2.2.1 = some (tyX11 k) := by decide +kernel
def RX12 : String := "TurnKeeper"
def TX12 : u_T := fun k => match k with
  | 0 => ("TurnKeeper", "tape", "LTurnKeeper$Tape;", true)
  | 1 => ("TurnKeeper", "syncs", "[LTurnKeeper$Sync;", true)
  | 2 => ("TurnKeeper", "strands", "[LTurnKeeper$Strand;", true)
  | 3 => ("TurnKeeper", "clock", "J", false)
  | 4 => ("TurnKeeper", "steps", "J", false)
  | _ => ("TurnKeeper", "latest", "I", false)
def tyX12 : Nat → FieldType := fun k => match k with
  | 0 => .object "TurnKeeper$Tape"
  | 1 => .array (.object "TurnKeeper$Sync")
  | 2 => .array (.object "TurnKeeper$Strand")
  | 3 => .long
  | 4 => .long
  | _ => .int
abbrev wsX120 : List Cond := u_ws RX12 TX12 6
theorem nmX12 : ∀ a, a < 6 → ∀ b, b < 6 → a ≠ b → (TX12 a).2.1 ≠ (TX12 b).2.1 := by decide +kernel
theorem tyX12_ok : ∀ k, k < 6 → parseFieldDescriptor (TX12 k).2.2.1 = some (tyX12 k) := by decide +kernel
abbrev cX12_init : ByteArray := prog_1_method_1_code
def yX12_init : MethodName := ⟨RX12, "<init>", "()V"⟩
abbrev cX12_feed : ByteArray := prog_1_method_2_code
def yX12_feed : MethodName := ⟨RX12, "feed", "(IIIII)I"⟩
abbrev cX12_end : ByteArray := prog_1_method_3_code
def yX12_end : MethodName := ⟨RX12, "end", "(I)I"⟩
abbrev cX12_make : ByteArray := prog_1_method_4_code
def yX12_make : MethodName := ⟨RX12, "make", "(II)I"⟩
abbrev cX12_drop : ByteArray := prog_1_method_5_code
def yX12_drop : MethodName := ⟨RX12, "drop", "(I)I"⟩
abbrev cX12_thread : ByteArray := prog_1_method_6_code
def yX12_thread : MethodName := ⟨RX12, "thread", "()I"⟩
abbrev cX12_step : ByteArray := prog_1_method_7_code
def yX12_step : MethodName := ⟨RX12, "step", "(I)I"⟩
abbrev cX12_run : ByteArray := prog_1_method_8_code
def yX12_run : MethodName := ⟨RX12, "run", "(III)I"⟩
abbrev cX12_tick : ByteArray := prog_1_method_9_code
def yX12_tick : MethodName := ⟨RX12, "tick", "(I)I"⟩
abbrev cX12_interrupt : ByteArray := prog_1_method_10_code
def yX12_interrupt : MethodName := ⟨RX12, "interrupt", "(I)I"⟩
abbrev cX12_look : ByteArray := prog_1_method_11_code
def yX12_look : MethodName := ⟨RX12, "look", "(II)I"⟩
abbrev cX12_dead : ByteArray := prog_1_method_12_code
def yX12_dead : MethodName := ⟨RX12, "dead", "()I"⟩
abbrev cX12_sync : ByteArray := prog_1_method_13_code
def yX12_sync : MethodName := ⟨RX12, "sync", "(II)J"⟩
abbrev cX12_count : ByteArray := prog_1_method_14_code
def yX12_count : MethodName := ⟨RX12, "count", "(I)J"⟩
abbrev cX12_fits : ByteArray := prog_1_method_15_code
def yX12_fits : MethodName := ⟨RX12, "fits", "(II)Z"⟩
abbrev cX12_built : ByteArray := prog_1_method_16_code
def yX12_built : MethodName := ⟨RX12, "built", "(III)LTurnKeeper$Sync;"⟩
abbrev cX12_syncAt : ByteArray := prog_1_method_17_code
def yX12_syncAt : MethodName := ⟨RX12, "syncAt", "(I)LTurnKeeper$Sync;"⟩
abbrev cX12_leastFree : ByteArray := prog_1_method_18_code
def yX12_leastFree : MethodName := ⟨RX12, "leastFree", "()I"⟩
abbrev cX12_howManySyncs : ByteArray := prog_1_method_19_code
def yX12_howManySyncs : MethodName := ⟨RX12, "howManySyncs", "()I"⟩
abbrev cX12_strandAt : ByteArray := prog_1_method_20_code
def yX12_strandAt : MethodName := ⟨RX12, "strandAt", "(I)LTurnKeeper$Strand;"⟩
abbrev cX12_howManyReady : ByteArray := prog_1_method_21_code
def yX12_howManyReady : MethodName := ⟨RX12, "howManyReady", "()I"⟩
abbrev cX12_readyFrom : ByteArray := prog_1_method_22_code
def yX12_readyFrom : MethodName := ⟨RX12, "readyFrom", "(II)LTurnKeeper$Strand;"⟩
abbrev cX12_takeTurn : ByteArray := prog_1_method_23_code
def yX12_takeTurn : MethodName := ⟨RX12, "takeTurn", "(LTurnKeeper$Strand;)V"⟩
abbrev cX12_doAlone : ByteArray := prog_1_method_24_code
def yX12_doAlone : MethodName := ⟨RX12, "doAlone", "(LTurnKeeper$Strand;LTurnKeeper$Word;)V"⟩
abbrev cX12_fallAsleep : ByteArray := prog_1_method_25_code
def yX12_fallAsleep : MethodName := ⟨RX12, "fallAsleep", "(LTurnKeeper$Strand;I)V"⟩
abbrev cX12_blockerOf : ByteArray := prog_1_method_26_code
def yX12_blockerOf : MethodName := ⟨RX12, "blockerOf", "(I)I"⟩
def RX13 : String := "TurnKeeperModel"
def TX13 : u_T := fun k => match k with
  | 0 => ("TurnKeeperModel", "thrown", "I", false)
  | 1 => ("TurnKeeperModel", "tape", "[I", true)
  | 2 => ("TurnKeeperModel", "taped", "I", false)
  | 3 => ("TurnKeeperModel", "place", "I", false)
  | 4 => ("TurnKeeperModel", "words", "[J", true)
  | 5 => ("TurnKeeperModel", "program", "[I", true)
  | 6 => ("TurnKeeperModel", "programLong", "I", false)
  | 7 => ("TurnKeeperModel", "tapeLong", "I", false)
  | 8 => ("TurnKeeperModel", "from", "I", false)
  | 9 => ("TurnKeeperModel", "to", "I", false)
  | 10 => ("TurnKeeperModel", "fault", "I", false)
  | 11 => ("TurnKeeperModel", "lines", "[I", true)
  | 12 => ("TurnKeeperModel", "many", "[I", true)
  | 13 => ("TurnKeeperModel", "state", "[I", true)
  | 14 => ("TurnKeeperModel", "a", "[I", true)
  | 15 => ("TurnKeeperModel", "at", "[I", true)
  | 16 => ("TurnKeeperModel", "waitsFor", "[I", true)
  | 17 => ("TurnKeeperModel", "why", "[I", true)
  | 18 => ("TurnKeeperModel", "kept", "[I", true)
  | 19 => ("TurnKeeperModel", "then", "[I", true)
  | 20 => ("TurnKeeperModel", "stopped", "[Z", true)
  | 21 => ("TurnKeeperModel", "inSecond", "[Z", true)
  | 22 => ("TurnKeeperModel", "afterWait", "[Z", true)
  | 23 => ("TurnKeeperModel", "until", "[J", true)
  | 24 => ("TurnKeeperModel", "clock", "J", false)
  | 25 => ("TurnKeeperModel", "steps", "J", false)
  | 26 => ("TurnKeeperModel", "latest", "I", false)
  | 27 => ("TurnKeeperModel", "seed", "I", false)
  | 28 => ("TurnKeeperModel", "kind", "[I", true)
  | 29 => ("TurnKeeperModel", "first", "[I", true)
  | 30 => ("TurnKeeperModel", "second", "[I", true)
  | 31 => ("TurnKeeperModel", "owner", "[I", true)
  | 32 => ("TurnKeeperModel", "row", "[I", true)
  | 33 => ("TurnKeeperModel", "rowLong", "[I", true)
  | 34 => ("TurnKeeperModel", "row2", "[I", true)
  | 35 => ("TurnKeeperModel", "row2Long", "[I", true)
  | 36 => ("TurnKeeperModel", "queue", "[I", true)
  | _ => ("TurnKeeperModel", "queueLong", "[I", true)
def tyX13 : Nat → FieldType := fun k => match k with
  | 0 => .int
  | 1 => .array .int
  | 2 => .int
  | 3 => .int
  | 4 => .array .long
  | 5 => .array .int
  | 6 => .int
  | 7 => .int
  | 8 => .int
  | 9 => .int
  | 10 => .int
  | 11 => .array .int
  | 12 => .array .int
  | 13 => .array .int
  | 14 => .array .int
  | 15 => .array .int
  | 16 => .array .int
  | 17 => .array .int
  | 18 => .array .int
  | 19 => .array .int
  | 20 => .array .boolean
  | 21 => .array .boolean
  | 22 => .array .boolean
  | 23 => .array .long
  | 24 => .long
  | 25 => .long
  | 26 => .int
  | 27 => .int
  | 28 => .array .int
  | 29 => .array .int
  | 30 => .array .int
  | 31 => .array .int
  | 32 => .array .int
  | 33 => .array .int
  | 34 => .array .int
  | 35 => .array .int
  | 36 => .array .int
  | _ => .array .int
abbrev wsX130 : List Cond := u_ws RX13 TX13 38
theorem nmX13 : ∀ a, a < 38 → ∀ b, b < 38 → a ≠ b → (TX13 a).2.1 ≠ (TX13 b).2.1 := by decide +kernel
theorem tyX13_ok : ∀ k, k < 38 → parseFieldDescriptor (TX13 k).2.2.1 = some (tyX13 k) := by decide +kernel
abbrev cX13_init : ByteArray := prog_15_method_1_code
def yX13_init : MethodName := ⟨RX13, "<init>", "()V"⟩
abbrev cX13_thrown : ByteArray := prog_15_method_2_code
def yX13_thrown : MethodName := ⟨RX13, "thrown", "()I"⟩
abbrev cX13_refuse : ByteArray := prog_15_method_3_code
def yX13_refuse : MethodName := ⟨RX13, "refuse", "(I)I"⟩
abbrev cX13_in : ByteArray := prog_15_method_4_code
def yX13_in : MethodName := ⟨RX13, "in", "(III)Z"⟩
abbrev cX13_feed : ByteArray := prog_15_method_5_code
def yX13_feed : MethodName := ⟨RX13, "feed", "(IIIII)I"⟩
abbrev cX13_four : ByteArray := prog_15_method_6_code
def yX13_four : MethodName := ⟨RX13, "four", "(I)V"⟩
abbrev cX13_end : ByteArray := prog_15_method_7_code
def yX13_end : MethodName := ⟨RX13, "end", "(I)I"⟩
abbrev cX13_byteAt : ByteArray := prog_15_method_8_code
def yX13_byteAt : MethodName := ⟨RX13, "byteAt", "(I)I"⟩
abbrev cX13_wrong : ByteArray := prog_15_method_9_code
def yX13_wrong : MethodName := ⟨RX13, "wrong", "()I"⟩
abbrev cX13_next : ByteArray := prog_15_method_10_code
def yX13_next : MethodName := ⟨RX13, "next", "()V"⟩
abbrev cX13_word : ByteArray := prog_15_method_11_code
def yX13_word : MethodName := ⟨RX13, "word", "()I"⟩
abbrev cX13_number : ByteArray := prog_15_method_12_code
def yX13_number : MethodName := ⟨RX13, "number", "(II)I"⟩
abbrev cX13_line : ByteArray := prog_15_method_13_code
def yX13_line : MethodName := ⟨RX13, "line", "()V"⟩
abbrev cX13_read : ByteArray := prog_15_method_14_code
def yX13_read : MethodName := ⟨RX13, "read", "()V"⟩
abbrev cX13_isThere : ByteArray := prog_15_method_15_code
def yX13_isThere : MethodName := ⟨RX13, "isThere", "(I)Z"⟩
abbrev cX13_make : ByteArray := prog_15_method_16_code
def yX13_make : MethodName := ⟨RX13, "make", "(II)I"⟩
abbrev cX13_objects : ByteArray := prog_15_method_17_code
def yX13_objects : MethodName := ⟨RX13, "objects", "()I"⟩
abbrev cX13_drop : ByteArray := prog_15_method_18_code
def yX13_drop : MethodName := ⟨RX13, "drop", "(I)I"⟩
abbrev cX13_thread : ByteArray := prog_15_method_19_code
def yX13_thread : MethodName := ⟨RX13, "thread", "()I"⟩
abbrev cX13_part : ByteArray := prog_15_method_20_code
def yX13_part : MethodName := ⟨RX13, "part", "(II)I"⟩
abbrev cX13_waitFor : ByteArray := prog_15_method_21_code
def yX13_waitFor : MethodName := ⟨RX13, "waitFor", "(II)V"⟩
abbrev cX13_leaves : ByteArray := prog_15_method_22_code
def yX13_leaves : MethodName := ⟨RX13, "leaves", "(II)V"⟩
abbrev cX13_goesOn : ByteArray := prog_15_method_23_code
def yX13_goesOn : MethodName := ⟨RX13, "goesOn", "(I)V"⟩
abbrev cX13_firstGoesOn : ByteArray := prog_15_method_24_code
def yX13_firstGoesOn : MethodName := ⟨RX13, "firstGoesOn", "(I)I"⟩
abbrev cX13_fails : ByteArray := prog_15_method_25_code
def yX13_fails : MethodName := ⟨RX13, "fails", "(II)Z"⟩
abbrev cX13_has : ByteArray := prog_15_method_26_code
def yX13_has : MethodName := ⟨RX13, "has", "(II)V"⟩
abbrev cX13_freed : ByteArray := prog_15_method_27_code
def yX13_freed : MethodName := ⟨RX13, "freed", "(I)V"⟩
abbrev cX13_signalled : ByteArray := prog_15_method_28_code
def yX13_signalled : MethodName := ⟨RX13, "signalled", "(II)V"⟩
abbrev cX13_rowOf : ByteArray := prog_15_method_29_code
def yX13_rowOf : MethodName := ⟨RX13, "rowOf", "(I)I"⟩
abbrev cX13_kindOf : ByteArray := prog_15_method_30_code
def yX13_kindOf : MethodName := ⟨RX13, "kindOf", "(I)I"⟩
abbrev cX13_passes : ByteArray := prog_15_method_31_code
def yX13_passes : MethodName := ⟨RX13, "passes", "(II)Z"⟩
abbrev cX13_one : ByteArray := prog_15_method_32_code
def yX13_one : MethodName := ⟨RX13, "one", "(I)V"⟩
abbrev cX13_with : ByteArray := prog_15_method_33_code
def yX13_with : MethodName := ⟨RX13, "with", "(III)Z"⟩
abbrev cX13_atLock : ByteArray := prog_15_method_34_code
def yX13_atLock : MethodName := ⟨RX13, "atLock", "(III)Z"⟩
abbrev cX13_atCell : ByteArray := prog_15_method_35_code
def yX13_atCell : MethodName := ⟨RX13, "atCell", "(III)Z"⟩
abbrev cX13_atSemaphore : ByteArray := prog_15_method_36_code
def yX13_atSemaphore : MethodName := ⟨RX13, "atSemaphore", "(III)Z"⟩
abbrev cX13_append : ByteArray := prog_15_method_37_code
def yX13_append : MethodName := ⟨RX13, "append", "(II)V"⟩
abbrev cX13_atQueue : ByteArray := prog_15_method_38_code
def yX13_atQueue : MethodName := ⟨RX13, "atQueue", "(III)Z"⟩
abbrev cX13_atGate : ByteArray := prog_15_method_39_code
def yX13_atGate : MethodName := ⟨RX13, "atGate", "(III)Z"⟩
abbrev cX13_opened : ByteArray := prog_15_method_40_code
def yX13_opened : MethodName := ⟨RX13, "opened", "(I)V"⟩
abbrev cX13_step : ByteArray := prog_15_method_41_code
def yX13_step : MethodName := ⟨RX13, "step", "(I)I"⟩
abbrev cX13_ready : ByteArray := prog_15_method_42_code
def yX13_ready : MethodName := ⟨RX13, "ready", "()I"⟩
abbrev cX13_run : ByteArray := prog_15_method_43_code
def yX13_run : MethodName := ⟨RX13, "run", "(III)I"⟩
abbrev cX13_tick : ByteArray := prog_15_method_44_code
def yX13_tick : MethodName := ⟨RX13, "tick", "(I)I"⟩
abbrev cX13_interrupt : ByteArray := prog_15_method_45_code
def yX13_interrupt : MethodName := ⟨RX13, "interrupt", "(I)I"⟩
abbrev cX13_look : ByteArray := prog_15_method_46_code
def yX13_look : MethodName := ⟨RX13, "look", "(II)I"⟩
abbrev cX13_nextOf : ByteArray := prog_15_method_47_code
def yX13_nextOf : MethodName := ⟨RX13, "nextOf", "(I)I"⟩
abbrev cX13_dead : ByteArray := prog_15_method_48_code
def yX13_dead : MethodName := ⟨RX13, "dead", "()I"⟩
abbrev cX13_sync : ByteArray := prog_15_method_49_code
def yX13_sync : MethodName := ⟨RX13, "sync", "(II)J"⟩
abbrev cX13_count : ByteArray := prog_15_method_50_code
def yX13_count : MethodName := ⟨RX13, "count", "(I)J"⟩
def RJx29ce0 : String := "java/lang/Enum"
def TJx29ce0 : u_T := fun k => match k with
  | _ => ("", "", "", false)
def tyJx29ce0 : Nat → FieldType := fun k => match k with
  | _ => .int
abbrev wsJx29ce00 : List Cond := u_ws RJx29ce0 TJx29ce0 0
theorem nmJx29ce0 : ∀ a, a < 0 → ∀ b, b < 0 → a ≠ b → (TJx29ce0 a).2.1 ≠ (TJx29ce0 b).2.1 := by decide +kernel
theorem tyJx29ce0_ok : ∀ k, k < 0 → parseFieldDescriptor (TJx29ce0 k).2.2.1 = some (tyJx29ce0 k) := by decide +kernel
abbrev cJx29ce0_ordinal_8abf5 : ByteArray := prog_16_method_2_code
def yJx29ce0_ordinal_8abf5 : MethodName := ⟨RJx29ce0, "ordinal", "()I"⟩
def RJ0 : String := "java/lang/String"
def TJ0 : u_T := fun k => match k with
  | _ => ("", "", "", false)
def tyJ0 : Nat → FieldType := fun k => match k with
  | _ => .int
abbrev wsJ00 : List Cond := u_ws RJ0 TJ0 0
theorem nmJ0 : ∀ a, a < 0 → ∀ b, b < 0 → a ≠ b → (TJ0 a).2.1 ≠ (TJ0 b).2.1 := by decide +kernel
theorem tyJ0_ok : ∀ k, k < 0 → parseFieldDescriptor (TJ0 k).2.2.1 = some (tyJ0 k) := by decide +kernel
abbrev cJ0_length_8abf5 : ByteArray := prog_22_method_54_code
def yJ0_length_8abf5 : MethodName := ⟨RJ0, "length", "()I"⟩
abbrev cJ0_charAt_5068e : ByteArray := prog_22_method_56_code
def yJ0_charAt_5068e : MethodName := ⟨RJ0, "charAt", "(I)C"⟩
abbrev cJ0_coder_7d493 : ByteArray := prog_22_method_152_code
def yJ0_coder_7d493 : MethodName := ⟨RJ0, "coder", "()B"⟩
abbrev cJ0_isLatin1_aae02 : ByteArray := prog_22_method_154_code
def yJ0_isLatin1_aae02 : MethodName := ⟨RJ0, "isLatin1", "()Z"⟩
abbrev cJ0_checkIndex_df160 : ByteArray := prog_22_method_155_code
def yJ0_checkIndex_df160 : MethodName := ⟨RJ0, "checkIndex", "(II)V"⟩
def RJ1 : String := "java/lang/StringLatin1"
def TJ1 : u_T := fun k => match k with
  | _ => ("", "", "", false)
def tyJ1 : Nat → FieldType := fun k => match k with
  | _ => .int
abbrev wsJ10 : List Cond := u_ws RJ1 TJ1 0
theorem nmJ1 : ∀ a, a < 0 → ∀ b, b < 0 → a ≠ b → (TJ1 a).2.1 ≠ (TJ1 b).2.1 := by decide +kernel
theorem tyJ1_ok : ∀ k, k < 0 → parseFieldDescriptor (TJ1 k).2.2.1 = some (tyJ1 k) := by decide +kernel
abbrev cJ1_charAt_3b067 : ByteArray := prog_23_method_2_code
def yJ1_charAt_3b067 : MethodName := ⟨RJ1, "charAt", "([BI)C"⟩
def RJ2 : String := "java/lang/StringUTF16"
def TJ2 : u_T := fun k => match k with
  | _ => ("", "", "", false)
def tyJ2 : Nat → FieldType := fun k => match k with
  | _ => .int
abbrev wsJ20 : List Cond := u_ws RJ2 TJ2 0
theorem nmJ2 : ∀ a, a < 0 → ∀ b, b < 0 → a ≠ b → (TJ2 a).2.1 ≠ (TJ2 b).2.1 := by decide +kernel
theorem tyJ2_ok : ∀ k, k < 0 → parseFieldDescriptor (TJ2 k).2.2.1 = some (tyJ2 k) := by decide +kernel
abbrev cJ2_getChar_3b067 : ByteArray := prog_24_method_5_code
def yJ2_getChar_3b067 : MethodName := ⟨RJ2, "getChar", "([BI)C"⟩
abbrev cJ2_length_9d52b : ByteArray := prog_24_method_6_code
def yJ2_length_9d52b : MethodName := ⟨RJ2, "length", "([B)I"⟩
abbrev cJ2_charAt_3b067 : ByteArray := prog_24_method_83_code
def yJ2_charAt_3b067 : MethodName := ⟨RJ2, "charAt", "([BI)C"⟩
abbrev cJ2_checkIndex_2214a : ByteArray := prog_24_method_91_code
def yJ2_checkIndex_2214a : MethodName := ⟨RJ2, "checkIndex", "(I[B)V"⟩
def RJ3 : String := "jdk/internal/util/Preconditions"
def TJ3 : u_T := fun k => match k with
  | _ => ("", "", "", false)
def tyJ3 : Nat → FieldType := fun k => match k with
  | _ => .int
abbrev wsJ30 : List Cond := u_ws RJ3 TJ3 0
theorem nmJ3 : ∀ a, a < 0 → ∀ b, b < 0 → a ≠ b → (TJ3 a).2.1 ≠ (TJ3 b).2.1 := by decide +kernel
theorem tyJ3_ok : ∀ k, k < 0 → parseFieldDescriptor (TJ3 k).2.2.1 = some (tyJ3 k) := by decide +kernel
abbrev cJ3_checkIndex_8e157 : ByteArray := prog_28_method_11_code
def yJ3_checkIndex_8e157 : MethodName := ⟨RJ3, "checkIndex", "(IILjava/util/function/BiFunction;)I"⟩
def RL : String := "TurnKeeperLaw"
abbrev cL_feed : ByteArray := method_3_code
def yL_feed : MethodName := ⟨RL, "feed", "(LTurnKeeper;IIIII[J)I"⟩
abbrev cL_end : ByteArray := method_4_code
def yL_end : MethodName := ⟨RL, "end", "(LTurnKeeper;I[J)I"⟩
abbrev cL_make : ByteArray := method_5_code
def yL_make : MethodName := ⟨RL, "make", "(LTurnKeeper;II[J)I"⟩
abbrev cL_drop : ByteArray := method_6_code
def yL_drop : MethodName := ⟨RL, "drop", "(LTurnKeeper;I[J)I"⟩
abbrev cL_thread : ByteArray := method_7_code
def yL_thread : MethodName := ⟨RL, "thread", "(LTurnKeeper;[J)I"⟩
abbrev cL_step : ByteArray := method_8_code
def yL_step : MethodName := ⟨RL, "step", "(LTurnKeeper;I[J)I"⟩
abbrev cL_run : ByteArray := method_9_code
def yL_run : MethodName := ⟨RL, "run", "(LTurnKeeper;III[J)I"⟩
abbrev cL_tick : ByteArray := method_10_code
def yL_tick : MethodName := ⟨RL, "tick", "(LTurnKeeper;I[J)I"⟩
abbrev cL_interrupt : ByteArray := method_11_code
def yL_interrupt : MethodName := ⟨RL, "interrupt", "(LTurnKeeper;I[J)I"⟩
abbrev cL_look : ByteArray := method_12_code
def yL_look : MethodName := ⟨RL, "look", "(LTurnKeeper;II[J)I"⟩
abbrev cL_sync : ByteArray := method_13_code
def yL_sync : MethodName := ⟨RL, "sync", "(LTurnKeeper;II[J)I"⟩
abbrev cL_count : ByteArray := method_14_code
def yL_count : MethodName := ⟨RL, "count", "(LTurnKeeper;I[J)I"⟩
abbrev cL_law : ByteArray := code
def yL_law : MethodName := ⟨RL, "law", "([I)Z"⟩
abbrev vwCl : List vw_C := [(RX1, TX1, 5), (RX2, TX2, 5), (RX3, TX3, 4), (RX4, TX4, 7), (RX5, TX5, 6), (RX6, TX6, 2), (RX7, TX7, 4), (RX8, TX8, 13), (RX10, TX10, 6), (RX12, TX12, 6), (RX13, TX13, 38)]
end
section
theorem dX13_init_0 : decode cX13_init 0 = .ok (.aload_n 0, 1) := by decide +kernel
theorem dX13_init_1 : decode cX13_init 1 = .ok (.invokespecial 1, 3) := by decide +kernel
theorem dX13_init_4 : decode cX13_init 4 = .ok (.aload_n 0, 1) := by decide +kernel
theorem dX13_init_5 : decode cX13_init 5 = .ok (.sipush 1600, 3) := by decide +kernel
theorem dX13_init_8 : decode cX13_init 8 = .ok (.newarray .int, 2) := by decide +kernel
theorem dX13_init_10 : decode cX13_init 10 = .ok (.putfield 7, 3) := by decide +kernel
theorem dX13_init_13 : decode cX13_init 13 = .ok (.aload_n 0, 1) := by decide +kernel
theorem dX13_init_14 : decode cX13_init 14 = .ok (.iconst (-1), 1) := by decide +kernel
theorem dX13_init_15 : decode cX13_init 15 = .ok (.putfield 13, 3) := by decide +kernel
theorem dX13_init_18 : decode cX13_init 18 = .ok (.aload_n 0, 1) := by decide +kernel
theorem dX13_init_19 : decode cX13_init 19 = .ok (.bipush 34, 2) := by decide +kernel
theorem dX13_init_21 : decode cX13_init 21 = .ok (.newarray .long, 2) := by decide +kernel
theorem dX13_init_23 : decode cX13_init 23 = .ok (.dup, 1) := by decide +kernel
theorem dX13_init_24 : decode cX13_init 24 = .ok (.iconst 0, 1) := by decide +kernel
theorem dX13_init_25 : decode cX13_init 25 = .ok (.ldc2_w 17, 3) := by decide +kernel
theorem dX13_init_28 : decode cX13_init 28 = .ok (.lastore, 1) := by decide +kernel
theorem dX13_init_29 : decode cX13_init 29 = .ok (.dup, 1) := by decide +kernel
theorem dX13_init_30 : decode cX13_init 30 = .ok (.iconst 1, 1) := by decide +kernel
theorem dX13_init_31 : decode cX13_init 31 = .ok (.ldc2_w 19, 3) := by decide +kernel
theorem dX13_init_34 : decode cX13_init 34 = .ok (.lastore, 1) := by decide +kernel
theorem dX13_init_35 : decode cX13_init 35 = .ok (.dup, 1) := by decide +kernel
theorem dX13_init_36 : decode cX13_init 36 = .ok (.iconst 2, 1) := by decide +kernel
theorem dX13_init_37 : decode cX13_init 37 = .ok (.ldc2_w 21, 3) := by decide +kernel
theorem dX13_init_40 : decode cX13_init 40 = .ok (.lastore, 1) := by decide +kernel
theorem dX13_init_41 : decode cX13_init 41 = .ok (.dup, 1) := by decide +kernel
theorem dX13_init_42 : decode cX13_init 42 = .ok (.iconst 3, 1) := by decide +kernel
theorem dX13_init_43 : decode cX13_init 43 = .ok (.ldc2_w 23, 3) := by decide +kernel
theorem dX13_init_46 : decode cX13_init 46 = .ok (.lastore, 1) := by decide +kernel
theorem dX13_init_47 : decode cX13_init 47 = .ok (.dup, 1) := by decide +kernel
theorem dX13_init_48 : decode cX13_init 48 = .ok (.iconst 4, 1) := by decide +kernel
theorem dX13_init_49 : decode cX13_init 49 = .ok (.ldc2_w 25, 3) := by decide +kernel
theorem dX13_init_52 : decode cX13_init 52 = .ok (.lastore, 1) := by decide +kernel
theorem dX13_init_53 : decode cX13_init 53 = .ok (.dup, 1) := by decide +kernel
theorem dX13_init_54 : decode cX13_init 54 = .ok (.iconst 5, 1) := by decide +kernel
theorem dX13_init_55 : decode cX13_init 55 = .ok (.ldc2_w 27, 3) := by decide +kernel
theorem dX13_init_58 : decode cX13_init 58 = .ok (.lastore, 1) := by decide +kernel
theorem dX13_init_59 : decode cX13_init 59 = .ok (.dup, 1) := by decide +kernel
theorem dX13_init_60 : decode cX13_init 60 = .ok (.bipush 6, 2) := by decide +kernel
theorem dX13_init_62 : decode cX13_init 62 = .ok (.ldc2_w 29, 3) := by decide +kernel
theorem dX13_init_65 : decode cX13_init 65 = .ok (.lastore, 1) := by decide +kernel
theorem dX13_init_66 : decode cX13_init 66 = .ok (.dup, 1) := by decide +kernel
theorem dX13_init_67 : decode cX13_init 67 = .ok (.bipush 7, 2) := by decide +kernel
theorem dX13_init_69 : decode cX13_init 69 = .ok (.ldc2_w 31, 3) := by decide +kernel
theorem dX13_init_72 : decode cX13_init 72 = .ok (.lastore, 1) := by decide +kernel
theorem dX13_init_73 : decode cX13_init 73 = .ok (.dup, 1) := by decide +kernel
theorem dX13_init_74 : decode cX13_init 74 = .ok (.bipush 8, 2) := by decide +kernel
theorem dX13_init_76 : decode cX13_init 76 = .ok (.ldc2_w 33, 3) := by decide +kernel
theorem dX13_init_79 : decode cX13_init 79 = .ok (.lastore, 1) := by decide +kernel
theorem dX13_init_80 : decode cX13_init 80 = .ok (.dup, 1) := by decide +kernel
theorem dX13_init_81 : decode cX13_init 81 = .ok (.bipush 9, 2) := by decide +kernel
theorem dX13_init_83 : decode cX13_init 83 = .ok (.ldc2_w 35, 3) := by decide +kernel
theorem dX13_init_86 : decode cX13_init 86 = .ok (.lastore, 1) := by decide +kernel
theorem dX13_init_87 : decode cX13_init 87 = .ok (.dup, 1) := by decide +kernel
theorem dX13_init_88 : decode cX13_init 88 = .ok (.bipush 10, 2) := by decide +kernel
theorem dX13_init_90 : decode cX13_init 90 = .ok (.ldc2_w 37, 3) := by decide +kernel
theorem dX13_init_93 : decode cX13_init 93 = .ok (.lastore, 1) := by decide +kernel
theorem dX13_init_94 : decode cX13_init 94 = .ok (.dup, 1) := by decide +kernel
theorem dX13_init_95 : decode cX13_init 95 = .ok (.bipush 11, 2) := by decide +kernel
theorem dX13_init_97 : decode cX13_init 97 = .ok (.ldc2_w 39, 3) := by decide +kernel
theorem dX13_init_100 : decode cX13_init 100 = .ok (.lastore, 1) := by decide +kernel
theorem dX13_init_101 : decode cX13_init 101 = .ok (.dup, 1) := by decide +kernel
theorem dX13_init_102 : decode cX13_init 102 = .ok (.bipush 12, 2) := by decide +kernel
theorem dX13_init_104 : decode cX13_init 104 = .ok (.ldc2_w 41, 3) := by decide +kernel
theorem dX13_init_107 : decode cX13_init 107 = .ok (.lastore, 1) := by decide +kernel
theorem dX13_init_108 : decode cX13_init 108 = .ok (.dup, 1) := by decide +kernel
theorem dX13_init_109 : decode cX13_init 109 = .ok (.bipush 13, 2) := by decide +kernel
theorem dX13_init_111 : decode cX13_init 111 = .ok (.ldc2_w 43, 3) := by decide +kernel
theorem dX13_init_114 : decode cX13_init 114 = .ok (.lastore, 1) := by decide +kernel
theorem dX13_init_115 : decode cX13_init 115 = .ok (.dup, 1) := by decide +kernel
theorem dX13_init_116 : decode cX13_init 116 = .ok (.bipush 14, 2) := by decide +kernel
theorem dX13_init_118 : decode cX13_init 118 = .ok (.ldc2_w 45, 3) := by decide +kernel
theorem dX13_init_121 : decode cX13_init 121 = .ok (.lastore, 1) := by decide +kernel
theorem dX13_init_122 : decode cX13_init 122 = .ok (.dup, 1) := by decide +kernel
theorem dX13_init_123 : decode cX13_init 123 = .ok (.bipush 15, 2) := by decide +kernel
theorem dX13_init_125 : decode cX13_init 125 = .ok (.ldc2_w 47, 3) := by decide +kernel
theorem dX13_init_128 : decode cX13_init 128 = .ok (.lastore, 1) := by decide +kernel
theorem dX13_init_129 : decode cX13_init 129 = .ok (.dup, 1) := by decide +kernel
theorem dX13_init_130 : decode cX13_init 130 = .ok (.bipush 16, 2) := by decide +kernel
theorem dX13_init_132 : decode cX13_init 132 = .ok (.ldc2_w 49, 3) := by decide +kernel
theorem dX13_init_135 : decode cX13_init 135 = .ok (.lastore, 1) := by decide +kernel
theorem dX13_init_136 : decode cX13_init 136 = .ok (.dup, 1) := by decide +kernel
theorem dX13_init_137 : decode cX13_init 137 = .ok (.bipush 17, 2) := by decide +kernel
theorem dX13_init_139 : decode cX13_init 139 = .ok (.ldc2_w 51, 3) := by decide +kernel
theorem dX13_init_142 : decode cX13_init 142 = .ok (.lastore, 1) := by decide +kernel
theorem dX13_init_143 : decode cX13_init 143 = .ok (.dup, 1) := by decide +kernel
theorem dX13_init_144 : decode cX13_init 144 = .ok (.bipush 18, 2) := by decide +kernel
theorem dX13_init_146 : decode cX13_init 146 = .ok (.ldc2_w 53, 3) := by decide +kernel
theorem dX13_init_149 : decode cX13_init 149 = .ok (.lastore, 1) := by decide +kernel
theorem dX13_init_150 : decode cX13_init 150 = .ok (.dup, 1) := by decide +kernel
theorem dX13_init_151 : decode cX13_init 151 = .ok (.bipush 19, 2) := by decide +kernel
theorem dX13_init_153 : decode cX13_init 153 = .ok (.ldc2_w 55, 3) := by decide +kernel
theorem dX13_init_156 : decode cX13_init 156 = .ok (.lastore, 1) := by decide +kernel
theorem dX13_init_157 : decode cX13_init 157 = .ok (.dup, 1) := by decide +kernel
theorem dX13_init_158 : decode cX13_init 158 = .ok (.bipush 20, 2) := by decide +kernel
theorem dX13_init_160 : decode cX13_init 160 = .ok (.ldc2_w 57, 3) := by decide +kernel
theorem dX13_init_163 : decode cX13_init 163 = .ok (.lastore, 1) := by decide +kernel
theorem dX13_init_164 : decode cX13_init 164 = .ok (.dup, 1) := by decide +kernel
theorem dX13_init_165 : decode cX13_init 165 = .ok (.bipush 21, 2) := by decide +kernel
theorem dX13_init_167 : decode cX13_init 167 = .ok (.ldc2_w 59, 3) := by decide +kernel
theorem dX13_init_170 : decode cX13_init 170 = .ok (.lastore, 1) := by decide +kernel
theorem dX13_init_171 : decode cX13_init 171 = .ok (.dup, 1) := by decide +kernel
theorem dX13_init_172 : decode cX13_init 172 = .ok (.bipush 22, 2) := by decide +kernel
theorem dX13_init_174 : decode cX13_init 174 = .ok (.ldc2_w 61, 3) := by decide +kernel
theorem dX13_init_177 : decode cX13_init 177 = .ok (.lastore, 1) := by decide +kernel
theorem dX13_init_178 : decode cX13_init 178 = .ok (.dup, 1) := by decide +kernel
theorem dX13_init_179 : decode cX13_init 179 = .ok (.bipush 23, 2) := by decide +kernel
theorem dX13_init_181 : decode cX13_init 181 = .ok (.ldc2_w 63, 3) := by decide +kernel
theorem dX13_init_184 : decode cX13_init 184 = .ok (.lastore, 1) := by decide +kernel
theorem dX13_init_185 : decode cX13_init 185 = .ok (.dup, 1) := by decide +kernel
theorem dX13_init_186 : decode cX13_init 186 = .ok (.bipush 24, 2) := by decide +kernel
theorem dX13_init_188 : decode cX13_init 188 = .ok (.ldc2_w 65, 3) := by decide +kernel
theorem dX13_init_191 : decode cX13_init 191 = .ok (.lastore, 1) := by decide +kernel
theorem dX13_init_192 : decode cX13_init 192 = .ok (.dup, 1) := by decide +kernel
theorem dX13_init_193 : decode cX13_init 193 = .ok (.bipush 25, 2) := by decide +kernel
theorem dX13_init_195 : decode cX13_init 195 = .ok (.ldc2_w 67, 3) := by decide +kernel
theorem dX13_init_198 : decode cX13_init 198 = .ok (.lastore, 1) := by decide +kernel
theorem dX13_init_199 : decode cX13_init 199 = .ok (.dup, 1) := by decide +kernel
theorem dX13_init_200 : decode cX13_init 200 = .ok (.bipush 26, 2) := by decide +kernel
theorem dX13_init_202 : decode cX13_init 202 = .ok (.ldc2_w 69, 3) := by decide +kernel
theorem dX13_init_205 : decode cX13_init 205 = .ok (.lastore, 1) := by decide +kernel
theorem dX13_init_206 : decode cX13_init 206 = .ok (.dup, 1) := by decide +kernel
theorem dX13_init_207 : decode cX13_init 207 = .ok (.bipush 27, 2) := by decide +kernel
theorem dX13_init_209 : decode cX13_init 209 = .ok (.ldc2_w 71, 3) := by decide +kernel
theorem dX13_init_212 : decode cX13_init 212 = .ok (.lastore, 1) := by decide +kernel
theorem dX13_init_213 : decode cX13_init 213 = .ok (.dup, 1) := by decide +kernel
theorem dX13_init_214 : decode cX13_init 214 = .ok (.bipush 28, 2) := by decide +kernel
theorem dX13_init_216 : decode cX13_init 216 = .ok (.ldc2_w 73, 3) := by decide +kernel
theorem dX13_init_219 : decode cX13_init 219 = .ok (.lastore, 1) := by decide +kernel
theorem dX13_init_220 : decode cX13_init 220 = .ok (.dup, 1) := by decide +kernel
theorem dX13_init_221 : decode cX13_init 221 = .ok (.bipush 29, 2) := by decide +kernel
theorem dX13_init_223 : decode cX13_init 223 = .ok (.ldc2_w 75, 3) := by decide +kernel
theorem dX13_init_226 : decode cX13_init 226 = .ok (.lastore, 1) := by decide +kernel
theorem dX13_init_227 : decode cX13_init 227 = .ok (.dup, 1) := by decide +kernel
theorem dX13_init_228 : decode cX13_init 228 = .ok (.bipush 30, 2) := by decide +kernel
theorem dX13_init_230 : decode cX13_init 230 = .ok (.ldc2_w 77, 3) := by decide +kernel
theorem dX13_init_233 : decode cX13_init 233 = .ok (.lastore, 1) := by decide +kernel
theorem dX13_init_234 : decode cX13_init 234 = .ok (.dup, 1) := by decide +kernel
theorem dX13_init_235 : decode cX13_init 235 = .ok (.bipush 31, 2) := by decide +kernel
theorem dX13_init_237 : decode cX13_init 237 = .ok (.ldc2_w 79, 3) := by decide +kernel
theorem dX13_init_240 : decode cX13_init 240 = .ok (.lastore, 1) := by decide +kernel
theorem dX13_init_241 : decode cX13_init 241 = .ok (.dup, 1) := by decide +kernel
theorem dX13_init_242 : decode cX13_init 242 = .ok (.bipush 32, 2) := by decide +kernel
theorem dX13_init_244 : decode cX13_init 244 = .ok (.ldc2_w 81, 3) := by decide +kernel
theorem dX13_init_247 : decode cX13_init 247 = .ok (.lastore, 1) := by decide +kernel
theorem dX13_init_248 : decode cX13_init 248 = .ok (.dup, 1) := by decide +kernel
theorem dX13_init_249 : decode cX13_init 249 = .ok (.bipush 33, 2) := by decide +kernel
theorem dX13_init_251 : decode cX13_init 251 = .ok (.ldc2_w 83, 3) := by decide +kernel
theorem dX13_init_254 : decode cX13_init 254 = .ok (.lastore, 1) := by decide +kernel
theorem dX13_init_255 : decode cX13_init 255 = .ok (.putfield 85, 3) := by decide +kernel
theorem dX13_init_258 : decode cX13_init 258 = .ok (.aload_n 0, 1) := by decide +kernel
theorem dX13_init_259 : decode cX13_init 259 = .ok (.sipush 240, 3) := by decide +kernel
theorem dX13_init_262 : decode cX13_init 262 = .ok (.newarray .int, 2) := by decide +kernel
theorem dX13_init_264 : decode cX13_init 264 = .ok (.putfield 89, 3) := by decide +kernel
theorem dX13_init_267 : decode cX13_init 267 = .ok (.aload_n 0, 1) := by decide +kernel
theorem dX13_init_268 : decode cX13_init 268 = .ok (.sipush 1920, 3) := by decide +kernel
theorem dX13_init_271 : decode cX13_init 271 = .ok (.newarray .int, 2) := by decide +kernel
theorem dX13_init_273 : decode cX13_init 273 = .ok (.putfield 92, 3) := by decide +kernel
theorem dX13_init_276 : decode cX13_init 276 = .ok (.aload_n 0, 1) := by decide +kernel
theorem dX13_init_277 : decode cX13_init 277 = .ok (.bipush 8, 2) := by decide +kernel
theorem dX13_init_279 : decode cX13_init 279 = .ok (.newarray .int, 2) := by decide +kernel
theorem dX13_init_281 : decode cX13_init 281 = .ok (.putfield 95, 3) := by decide +kernel
theorem dX13_init_284 : decode cX13_init 284 = .ok (.aload_n 0, 1) := by decide +kernel
theorem dX13_init_285 : decode cX13_init 285 = .ok (.bipush 8, 2) := by decide +kernel
theorem dX13_init_287 : decode cX13_init 287 = .ok (.newarray .int, 2) := by decide +kernel
theorem dX13_init_289 : decode cX13_init 289 = .ok (.putfield 98, 3) := by decide +kernel
theorem dX13_init_292 : decode cX13_init 292 = .ok (.aload_n 0, 1) := by decide +kernel
theorem dX13_init_293 : decode cX13_init 293 = .ok (.bipush 8, 2) := by decide +kernel
theorem dX13_init_295 : decode cX13_init 295 = .ok (.newarray .int, 2) := by decide +kernel
theorem dX13_init_297 : decode cX13_init 297 = .ok (.putfield 101, 3) := by decide +kernel
theorem dX13_init_300 : decode cX13_init 300 = .ok (.aload_n 0, 1) := by decide +kernel
theorem dX13_init_301 : decode cX13_init 301 = .ok (.bipush 8, 2) := by decide +kernel
theorem dX13_init_303 : decode cX13_init 303 = .ok (.newarray .int, 2) := by decide +kernel
theorem dX13_init_305 : decode cX13_init 305 = .ok (.putfield 104, 3) := by decide +kernel
theorem dX13_init_308 : decode cX13_init 308 = .ok (.aload_n 0, 1) := by decide +kernel
theorem dX13_init_309 : decode cX13_init 309 = .ok (.bipush 8, 2) := by decide +kernel
theorem dX13_init_311 : decode cX13_init 311 = .ok (.newarray .int, 2) := by decide +kernel
theorem dX13_init_313 : decode cX13_init 313 = .ok (.putfield 107, 3) := by decide +kernel
theorem dX13_init_316 : decode cX13_init 316 = .ok (.aload_n 0, 1) := by decide +kernel
theorem dX13_init_317 : decode cX13_init 317 = .ok (.bipush 8, 2) := by decide +kernel
theorem dX13_init_319 : decode cX13_init 319 = .ok (.newarray .int, 2) := by decide +kernel
theorem dX13_init_321 : decode cX13_init 321 = .ok (.putfield 110, 3) := by decide +kernel
theorem dX13_init_324 : decode cX13_init 324 = .ok (.aload_n 0, 1) := by decide +kernel
theorem dX13_init_325 : decode cX13_init 325 = .ok (.bipush 8, 2) := by decide +kernel
theorem dX13_init_327 : decode cX13_init 327 = .ok (.newarray .int, 2) := by decide +kernel
theorem dX13_init_329 : decode cX13_init 329 = .ok (.putfield 113, 3) := by decide +kernel
theorem dX13_init_332 : decode cX13_init 332 = .ok (.aload_n 0, 1) := by decide +kernel
theorem dX13_init_333 : decode cX13_init 333 = .ok (.bipush 8, 2) := by decide +kernel
theorem dX13_init_335 : decode cX13_init 335 = .ok (.newarray .int, 2) := by decide +kernel
theorem dX13_init_337 : decode cX13_init 337 = .ok (.putfield 116, 3) := by decide +kernel
theorem dX13_init_340 : decode cX13_init 340 = .ok (.aload_n 0, 1) := by decide +kernel
theorem dX13_init_341 : decode cX13_init 341 = .ok (.bipush 8, 2) := by decide +kernel
theorem dX13_init_343 : decode cX13_init 343 = .ok (.newarray .boolean, 2) := by decide +kernel
theorem dX13_init_345 : decode cX13_init 345 = .ok (.putfield 119, 3) := by decide +kernel
theorem dX13_init_348 : decode cX13_init 348 = .ok (.aload_n 0, 1) := by decide +kernel
theorem dX13_init_349 : decode cX13_init 349 = .ok (.bipush 8, 2) := by decide +kernel
theorem dX13_init_351 : decode cX13_init 351 = .ok (.newarray .boolean, 2) := by decide +kernel
theorem dX13_init_353 : decode cX13_init 353 = .ok (.putfield 123, 3) := by decide +kernel
theorem dX13_init_356 : decode cX13_init 356 = .ok (.aload_n 0, 1) := by decide +kernel
theorem dX13_init_357 : decode cX13_init 357 = .ok (.bipush 8, 2) := by decide +kernel
theorem dX13_init_359 : decode cX13_init 359 = .ok (.newarray .boolean, 2) := by decide +kernel
theorem dX13_init_361 : decode cX13_init 361 = .ok (.putfield 126, 3) := by decide +kernel
theorem dX13_init_364 : decode cX13_init 364 = .ok (.aload_n 0, 1) := by decide +kernel
theorem dX13_init_365 : decode cX13_init 365 = .ok (.bipush 8, 2) := by decide +kernel
theorem dX13_init_367 : decode cX13_init 367 = .ok (.newarray .long, 2) := by decide +kernel
theorem dX13_init_369 : decode cX13_init 369 = .ok (.putfield 129, 3) := by decide +kernel
theorem dX13_init_372 : decode cX13_init 372 = .ok (.aload_n 0, 1) := by decide +kernel
theorem dX13_init_373 : decode cX13_init 373 = .ok (.bipush 7, 2) := by decide +kernel
theorem dX13_init_375 : decode cX13_init 375 = .ok (.putfield 132, 3) := by decide +kernel
theorem dX13_init_378 : decode cX13_init 378 = .ok (.aload_n 0, 1) := by decide +kernel
theorem dX13_init_379 : decode cX13_init 379 = .ok (.bipush 24, 2) := by decide +kernel
theorem dX13_init_381 : decode cX13_init 381 = .ok (.newarray .int, 2) := by decide +kernel
theorem dX13_init_383 : decode cX13_init 383 = .ok (.putfield 135, 3) := by decide +kernel
theorem dX13_init_386 : decode cX13_init 386 = .ok (.aload_n 0, 1) := by decide +kernel
theorem dX13_init_387 : decode cX13_init 387 = .ok (.bipush 24, 2) := by decide +kernel
theorem dX13_init_389 : decode cX13_init 389 = .ok (.newarray .int, 2) := by decide +kernel
theorem dX13_init_391 : decode cX13_init 391 = .ok (.putfield 138, 3) := by decide +kernel
theorem dX13_init_394 : decode cX13_init 394 = .ok (.aload_n 0, 1) := by decide +kernel
theorem dX13_init_395 : decode cX13_init 395 = .ok (.bipush 24, 2) := by decide +kernel
theorem dX13_init_397 : decode cX13_init 397 = .ok (.newarray .int, 2) := by decide +kernel
theorem dX13_init_399 : decode cX13_init 399 = .ok (.putfield 141, 3) := by decide +kernel
theorem dX13_init_402 : decode cX13_init 402 = .ok (.aload_n 0, 1) := by decide +kernel
theorem dX13_init_403 : decode cX13_init 403 = .ok (.bipush 24, 2) := by decide +kernel
theorem dX13_init_405 : decode cX13_init 405 = .ok (.newarray .int, 2) := by decide +kernel
theorem dX13_init_407 : decode cX13_init 407 = .ok (.putfield 144, 3) := by decide +kernel
theorem dX13_init_410 : decode cX13_init 410 = .ok (.aload_n 0, 1) := by decide +kernel
theorem dX13_init_411 : decode cX13_init 411 = .ok (.sipush 192, 3) := by decide +kernel
theorem dX13_init_414 : decode cX13_init 414 = .ok (.newarray .int, 2) := by decide +kernel
theorem dX13_init_416 : decode cX13_init 416 = .ok (.putfield 147, 3) := by decide +kernel
theorem dX13_init_419 : decode cX13_init 419 = .ok (.aload_n 0, 1) := by decide +kernel
theorem dX13_init_420 : decode cX13_init 420 = .ok (.bipush 24, 2) := by decide +kernel
theorem dX13_init_422 : decode cX13_init 422 = .ok (.newarray .int, 2) := by decide +kernel
theorem dX13_init_424 : decode cX13_init 424 = .ok (.putfield 150, 3) := by decide +kernel
theorem dX13_init_427 : decode cX13_init 427 = .ok (.aload_n 0, 1) := by decide +kernel
theorem dX13_init_428 : decode cX13_init 428 = .ok (.sipush 192, 3) := by decide +kernel
theorem dX13_init_431 : decode cX13_init 431 = .ok (.newarray .int, 2) := by decide +kernel
theorem dX13_init_433 : decode cX13_init 433 = .ok (.putfield 153, 3) := by decide +kernel
theorem dX13_init_436 : decode cX13_init 436 = .ok (.aload_n 0, 1) := by decide +kernel
theorem dX13_init_437 : decode cX13_init 437 = .ok (.bipush 24, 2) := by decide +kernel
theorem dX13_init_439 : decode cX13_init 439 = .ok (.newarray .int, 2) := by decide +kernel
theorem dX13_init_441 : decode cX13_init 441 = .ok (.putfield 156, 3) := by decide +kernel
theorem dX13_init_444 : decode cX13_init 444 = .ok (.aload_n 0, 1) := by decide +kernel
theorem dX13_init_445 : decode cX13_init 445 = .ok (.sipush 2400, 3) := by decide +kernel
theorem dX13_init_448 : decode cX13_init 448 = .ok (.newarray .int, 2) := by decide +kernel
theorem dX13_init_450 : decode cX13_init 450 = .ok (.putfield 159, 3) := by decide +kernel
theorem dX13_init_453 : decode cX13_init 453 = .ok (.aload_n 0, 1) := by decide +kernel
theorem dX13_init_454 : decode cX13_init 454 = .ok (.bipush 24, 2) := by decide +kernel
theorem dX13_init_456 : decode cX13_init 456 = .ok (.newarray .int, 2) := by decide +kernel
theorem dX13_init_458 : decode cX13_init 458 = .ok (.putfield 162, 3) := by decide +kernel
theorem dX13_init_461 : decode cX13_init 461 = .ok (.return_, 1) := by decide +kernel
theorem dX13_thrown_0 : decode cX13_thrown 0 = .ok (.aload_n 0, 1) := by decide +kernel
theorem dX13_thrown_1 : decode cX13_thrown 1 = .ok (.getfield 165, 3) := by decide +kernel
theorem dX13_thrown_4 : decode cX13_thrown 4 = .ok (.ireturn, 1) := by decide +kernel
theorem dX13_refuse_0 : decode cX13_refuse 0 = .ok (.aload_n 0, 1) := by decide +kernel
theorem dX13_refuse_1 : decode cX13_refuse 1 = .ok (.iload_n 1, 1) := by decide +kernel
theorem dX13_refuse_2 : decode cX13_refuse 2 = .ok (.putfield 165, 3) := by decide +kernel
theorem dX13_refuse_5 : decode cX13_refuse 5 = .ok (.iconst 0, 1) := by decide +kernel
theorem dX13_refuse_6 : decode cX13_refuse 6 = .ok (.ireturn, 1) := by decide +kernel
theorem dX13_in_0 : decode cX13_in 0 = .ok (.iload_n 0, 1) := by decide +kernel
theorem dX13_in_1 : decode cX13_in 1 = .ok (.iload_n 1, 1) := by decide +kernel
theorem dX13_in_2 : decode cX13_in 2 = .ok (.if_icmp .lt 12, 3) := by decide +kernel
theorem dX13_in_5 : decode cX13_in 5 = .ok (.iload_n 0, 1) := by decide +kernel
theorem dX13_in_6 : decode cX13_in 6 = .ok (.iload_n 2, 1) := by decide +kernel
theorem dX13_in_7 : decode cX13_in 7 = .ok (.if_icmp .gt 7, 3) := by decide +kernel
theorem dX13_in_10 : decode cX13_in 10 = .ok (.iconst 1, 1) := by decide +kernel
theorem dX13_in_11 : decode cX13_in 11 = .ok (.goto 4, 3) := by decide +kernel
theorem dX13_in_14 : decode cX13_in 14 = .ok (.iconst 0, 1) := by decide +kernel
theorem dX13_in_15 : decode cX13_in 15 = .ok (.ireturn, 1) := by decide +kernel
theorem dX13_feed_0 : decode cX13_feed 0 = .ok (.aload_n 0, 1) := by decide +kernel
theorem dX13_feed_1 : decode cX13_feed 1 = .ok (.getfield 168, 3) := by decide +kernel
theorem dX13_feed_4 : decode cX13_feed 4 = .ok (.bipush 20, 2) := by decide +kernel
theorem dX13_feed_6 : decode cX13_feed 6 = .ok (.iadd, 1) := by decide +kernel
theorem dX13_feed_7 : decode cX13_feed 7 = .ok (.sipush 1600, 3) := by decide +kernel
theorem dX13_feed_10 : decode cX13_feed 10 = .ok (.if_icmp .le 9, 3) := by decide +kernel
theorem dX13_feed_13 : decode cX13_feed 13 = .ok (.aload_n 0, 1) := by decide +kernel
theorem dX13_feed_14 : decode cX13_feed 14 = .ok (.iconst 1, 1) := by decide +kernel
theorem dX13_feed_15 : decode cX13_feed 15 = .ok (.invokevirtual 171, 3) := by decide +kernel
theorem dX13_feed_18 : decode cX13_feed 18 = .ok (.ireturn, 1) := by decide +kernel
theorem dX13_feed_19 : decode cX13_feed 19 = .ok (.aload_n 0, 1) := by decide +kernel
theorem dX13_feed_20 : decode cX13_feed 20 = .ok (.iconst 0, 1) := by decide +kernel
theorem dX13_feed_21 : decode cX13_feed 21 = .ok (.putfield 165, 3) := by decide +kernel
theorem dX13_feed_24 : decode cX13_feed 24 = .ok (.aload_n 0, 1) := by decide +kernel
theorem dX13_feed_25 : decode cX13_feed 25 = .ok (.iload_n 1, 1) := by decide +kernel
theorem dX13_feed_26 : decode cX13_feed 26 = .ok (.invokevirtual 175, 3) := by decide +kernel
theorem dX13_feed_29 : decode cX13_feed 29 = .ok (.aload_n 0, 1) := by decide +kernel
theorem dX13_feed_30 : decode cX13_feed 30 = .ok (.iload_n 2, 1) := by decide +kernel
theorem dX13_feed_31 : decode cX13_feed 31 = .ok (.invokevirtual 175, 3) := by decide +kernel
theorem dX13_feed_34 : decode cX13_feed 34 = .ok (.aload_n 0, 1) := by decide +kernel
theorem dX13_feed_35 : decode cX13_feed 35 = .ok (.iload_n 3, 1) := by decide +kernel
theorem dX13_feed_36 : decode cX13_feed 36 = .ok (.invokevirtual 175, 3) := by decide +kernel
theorem dX13_feed_39 : decode cX13_feed 39 = .ok (.aload_n 0, 1) := by decide +kernel
theorem dX13_feed_40 : decode cX13_feed 40 = .ok (.iload 4, 2) := by decide +kernel
theorem dX13_feed_42 : decode cX13_feed 42 = .ok (.invokevirtual 175, 3) := by decide +kernel
theorem dX13_feed_45 : decode cX13_feed 45 = .ok (.aload_n 0, 1) := by decide +kernel
theorem dX13_feed_46 : decode cX13_feed 46 = .ok (.iload 5, 2) := by decide +kernel
theorem dX13_feed_48 : decode cX13_feed 48 = .ok (.invokevirtual 175, 3) := by decide +kernel
theorem dX13_feed_51 : decode cX13_feed 51 = .ok (.aload_n 0, 1) := by decide +kernel
theorem dX13_feed_52 : decode cX13_feed 52 = .ok (.getfield 168, 3) := by decide +kernel
theorem dX13_feed_55 : decode cX13_feed 55 = .ok (.ireturn, 1) := by decide +kernel
theorem dX13_four_0 : decode cX13_four 0 = .ok (.bipush 24, 2) := by decide +kernel
theorem dX13_four_2 : decode cX13_four 2 = .ok (.istore_n 2, 1) := by decide +kernel
theorem dX13_four_3 : decode cX13_four 3 = .ok (.iload_n 2, 1) := by decide +kernel
theorem dX13_four_4 : decode cX13_four 4 = .ok (.ifCond .lt 35, 3) := by decide +kernel
theorem dX13_four_7 : decode cX13_four 7 = .ok (.aload_n 0, 1) := by decide +kernel
theorem dX13_four_8 : decode cX13_four 8 = .ok (.getfield 7, 3) := by decide +kernel
theorem dX13_four_11 : decode cX13_four 11 = .ok (.aload_n 0, 1) := by decide +kernel
theorem dX13_four_12 : decode cX13_four 12 = .ok (.getfield 168, 3) := by decide +kernel
theorem dX13_four_15 : decode cX13_four 15 = .ok (.iload_n 1, 1) := by decide +kernel
theorem dX13_four_16 : decode cX13_four 16 = .ok (.iload_n 2, 1) := by decide +kernel
theorem dX13_four_17 : decode cX13_four 17 = .ok (.ishr, 1) := by decide +kernel
theorem dX13_four_18 : decode cX13_four 18 = .ok (.sipush 255, 3) := by decide +kernel
theorem dX13_four_21 : decode cX13_four 21 = .ok (.iand, 1) := by decide +kernel
theorem dX13_four_22 : decode cX13_four 22 = .ok (.iastore, 1) := by decide +kernel
theorem dX13_four_23 : decode cX13_four 23 = .ok (.aload_n 0, 1) := by decide +kernel
theorem dX13_four_24 : decode cX13_four 24 = .ok (.dup, 1) := by decide +kernel
theorem dX13_four_25 : decode cX13_four 25 = .ok (.getfield 168, 3) := by decide +kernel
theorem dX13_four_28 : decode cX13_four 28 = .ok (.iconst 1, 1) := by decide +kernel
theorem dX13_four_29 : decode cX13_four 29 = .ok (.iadd, 1) := by decide +kernel
theorem dX13_four_30 : decode cX13_four 30 = .ok (.putfield 168, 3) := by decide +kernel
theorem dX13_four_33 : decode cX13_four 33 = .ok (.iinc 2 (-8), 3) := by decide +kernel
theorem dX13_four_36 : decode cX13_four 36 = .ok (.goto (-33), 3) := by decide +kernel
theorem dX13_four_39 : decode cX13_four 39 = .ok (.return_, 1) := by decide +kernel
theorem dX13_end_0 : decode cX13_end 0 = .ok (.iload_n 1, 1) := by decide +kernel
theorem dX13_end_1 : decode cX13_end 1 = .ok (.iconst 0, 1) := by decide +kernel
theorem dX13_end_2 : decode cX13_end 2 = .ok (.aload_n 0, 1) := by decide +kernel
theorem dX13_end_3 : decode cX13_end 3 = .ok (.getfield 168, 3) := by decide +kernel
theorem dX13_end_6 : decode cX13_end 6 = .ok (.invokestatic 179, 3) := by decide +kernel
theorem dX13_end_9 : decode cX13_end 9 = .ok (.ifCond .ne 9, 3) := by decide +kernel
theorem dX13_end_12 : decode cX13_end 12 = .ok (.aload_n 0, 1) := by decide +kernel
theorem dX13_end_13 : decode cX13_end 13 = .ok (.iconst 1, 1) := by decide +kernel
theorem dX13_end_14 : decode cX13_end 14 = .ok (.invokevirtual 171, 3) := by decide +kernel
theorem dX13_end_17 : decode cX13_end 17 = .ok (.ireturn, 1) := by decide +kernel
theorem dX13_end_18 : decode cX13_end 18 = .ok (.aload_n 0, 1) := by decide +kernel
theorem dX13_end_19 : decode cX13_end 19 = .ok (.iconst 0, 1) := by decide +kernel
theorem dX13_end_20 : decode cX13_end 20 = .ok (.putfield 165, 3) := by decide +kernel
theorem dX13_end_23 : decode cX13_end 23 = .ok (.aload_n 0, 1) := by decide +kernel
theorem dX13_end_24 : decode cX13_end 24 = .ok (.iload_n 1, 1) := by decide +kernel
theorem dX13_end_25 : decode cX13_end 25 = .ok (.putfield 168, 3) := by decide +kernel
theorem dX13_end_28 : decode cX13_end 28 = .ok (.iload_n 1, 1) := by decide +kernel
theorem dX13_end_29 : decode cX13_end 29 = .ok (.ireturn, 1) := by decide +kernel
theorem dX13_byteAt_0 : decode cX13_byteAt 0 = .ok (.iload_n 1, 1) := by decide +kernel
theorem dX13_byteAt_1 : decode cX13_byteAt 1 = .ok (.aload_n 0, 1) := by decide +kernel
theorem dX13_byteAt_2 : decode cX13_byteAt 2 = .ok (.getfield 183, 3) := by decide +kernel
theorem dX13_byteAt_5 : decode cX13_byteAt 5 = .ok (.if_icmp .ge 12, 3) := by decide +kernel
theorem dX13_byteAt_8 : decode cX13_byteAt 8 = .ok (.aload_n 0, 1) := by decide +kernel
theorem dX13_byteAt_9 : decode cX13_byteAt 9 = .ok (.getfield 7, 3) := by decide +kernel
theorem dX13_byteAt_12 : decode cX13_byteAt 12 = .ok (.iload_n 1, 1) := by decide +kernel
theorem dX13_byteAt_13 : decode cX13_byteAt 13 = .ok (.iaload, 1) := by decide +kernel
theorem dX13_byteAt_14 : decode cX13_byteAt 14 = .ok (.goto 4, 3) := by decide +kernel
theorem dX13_byteAt_17 : decode cX13_byteAt 17 = .ok (.iconst (-1), 1) := by decide +kernel
theorem dX13_byteAt_18 : decode cX13_byteAt 18 = .ok (.ireturn, 1) := by decide +kernel
theorem dX13_wrong_0 : decode cX13_wrong 0 = .ok (.aload_n 0, 1) := by decide +kernel
theorem dX13_wrong_1 : decode cX13_wrong 1 = .ok (.getfield 186, 3) := by decide +kernel
theorem dX13_wrong_4 : decode cX13_wrong 4 = .ok (.ifCond .ge 11, 3) := by decide +kernel
theorem dX13_wrong_7 : decode cX13_wrong 7 = .ok (.aload_n 0, 1) := by decide +kernel
theorem dX13_wrong_8 : decode cX13_wrong 8 = .ok (.aload_n 0, 1) := by decide +kernel
theorem dX13_wrong_9 : decode cX13_wrong 9 = .ok (.getfield 189, 3) := by decide +kernel
theorem dX13_wrong_12 : decode cX13_wrong 12 = .ok (.putfield 186, 3) := by decide +kernel
theorem dX13_wrong_15 : decode cX13_wrong 15 = .ok (.iconst 0, 1) := by decide +kernel
theorem dX13_wrong_16 : decode cX13_wrong 16 = .ok (.ireturn, 1) := by decide +kernel
theorem dX13_next_0 : decode cX13_next 0 = .ok (.aload_n 0, 1) := by decide +kernel
theorem dX13_next_1 : decode cX13_next 1 = .ok (.aload_n 0, 1) := by decide +kernel
theorem dX13_next_2 : decode cX13_next 2 = .ok (.getfield 192, 3) := by decide +kernel
theorem dX13_next_5 : decode cX13_next 5 = .ok (.putfield 189, 3) := by decide +kernel
theorem dX13_next_8 : decode cX13_next 8 = .ok (.aload_n 0, 1) := by decide +kernel
theorem dX13_next_9 : decode cX13_next 9 = .ok (.aload_n 0, 1) := by decide +kernel
theorem dX13_next_10 : decode cX13_next 10 = .ok (.getfield 189, 3) := by decide +kernel
theorem dX13_next_13 : decode cX13_next 13 = .ok (.invokevirtual 195, 3) := by decide +kernel
theorem dX13_next_16 : decode cX13_next 16 = .ok (.bipush 32, 2) := by decide +kernel
theorem dX13_next_18 : decode cX13_next 18 = .ok (.if_icmp .ne 16, 3) := by decide +kernel
theorem dX13_next_21 : decode cX13_next 21 = .ok (.aload_n 0, 1) := by decide +kernel
theorem dX13_next_22 : decode cX13_next 22 = .ok (.dup, 1) := by decide +kernel
theorem dX13_next_23 : decode cX13_next 23 = .ok (.getfield 189, 3) := by decide +kernel
theorem dX13_next_26 : decode cX13_next 26 = .ok (.iconst 1, 1) := by decide +kernel
theorem dX13_next_27 : decode cX13_next 27 = .ok (.iadd, 1) := by decide +kernel
theorem dX13_next_28 : decode cX13_next 28 = .ok (.putfield 189, 3) := by decide +kernel
theorem dX13_next_31 : decode cX13_next 31 = .ok (.goto (-23), 3) := by decide +kernel
theorem dX13_next_34 : decode cX13_next 34 = .ok (.aload_n 0, 1) := by decide +kernel
theorem dX13_next_35 : decode cX13_next 35 = .ok (.aload_n 0, 1) := by decide +kernel
theorem dX13_next_36 : decode cX13_next 36 = .ok (.getfield 189, 3) := by decide +kernel
theorem dX13_next_39 : decode cX13_next 39 = .ok (.putfield 192, 3) := by decide +kernel
theorem dX13_next_42 : decode cX13_next 42 = .ok (.aload_n 0, 1) := by decide +kernel
theorem dX13_next_43 : decode cX13_next 43 = .ok (.aload_n 0, 1) := by decide +kernel
theorem dX13_next_44 : decode cX13_next 44 = .ok (.getfield 192, 3) := by decide +kernel
theorem dX13_next_47 : decode cX13_next 47 = .ok (.invokevirtual 195, 3) := by decide +kernel
theorem dX13_next_50 : decode cX13_next 50 = .ok (.bipush 59, 2) := by decide +kernel
theorem dX13_next_52 : decode cX13_next 52 = .ok (.if_icmp .ne 14, 3) := by decide +kernel
theorem dX13_next_55 : decode cX13_next 55 = .ok (.aload_n 0, 1) := by decide +kernel
theorem dX13_next_56 : decode cX13_next 56 = .ok (.dup, 1) := by decide +kernel
theorem dX13_next_57 : decode cX13_next 57 = .ok (.getfield 192, 3) := by decide +kernel
theorem dX13_next_60 : decode cX13_next 60 = .ok (.iconst 1, 1) := by decide +kernel
theorem dX13_next_61 : decode cX13_next 61 = .ok (.iadd, 1) := by decide +kernel
theorem dX13_next_62 : decode cX13_next 62 = .ok (.putfield 192, 3) := by decide +kernel
theorem dX13_next_65 : decode cX13_next 65 = .ok (.return_, 1) := by decide +kernel
theorem dX13_next_66 : decode cX13_next 66 = .ok (.aload_n 0, 1) := by decide +kernel
theorem dX13_next_67 : decode cX13_next 67 = .ok (.getfield 192, 3) := by decide +kernel
theorem dX13_next_70 : decode cX13_next 70 = .ok (.aload_n 0, 1) := by decide +kernel
theorem dX13_next_71 : decode cX13_next 71 = .ok (.getfield 183, 3) := by decide +kernel
theorem dX13_next_74 : decode cX13_next 74 = .ok (.if_icmp .ge 44, 3) := by decide +kernel
theorem dX13_next_77 : decode cX13_next 77 = .ok (.aload_n 0, 1) := by decide +kernel
theorem dX13_next_78 : decode cX13_next 78 = .ok (.getfield 7, 3) := by decide +kernel
theorem dX13_next_81 : decode cX13_next 81 = .ok (.aload_n 0, 1) := by decide +kernel
theorem dX13_next_82 : decode cX13_next 82 = .ok (.getfield 192, 3) := by decide +kernel
theorem dX13_next_85 : decode cX13_next 85 = .ok (.iaload, 1) := by decide +kernel
theorem dX13_next_86 : decode cX13_next 86 = .ok (.bipush 32, 2) := by decide +kernel
theorem dX13_next_88 : decode cX13_next 88 = .ok (.if_icmp .eq 30, 3) := by decide +kernel
theorem dX13_next_91 : decode cX13_next 91 = .ok (.aload_n 0, 1) := by decide +kernel
theorem dX13_next_92 : decode cX13_next 92 = .ok (.getfield 7, 3) := by decide +kernel
theorem dX13_next_95 : decode cX13_next 95 = .ok (.aload_n 0, 1) := by decide +kernel
theorem dX13_next_96 : decode cX13_next 96 = .ok (.getfield 192, 3) := by decide +kernel
theorem dX13_next_99 : decode cX13_next 99 = .ok (.iaload, 1) := by decide +kernel
theorem dX13_next_100 : decode cX13_next 100 = .ok (.bipush 59, 2) := by decide +kernel
theorem dX13_next_102 : decode cX13_next 102 = .ok (.if_icmp .eq 16, 3) := by decide +kernel
theorem dX13_next_105 : decode cX13_next 105 = .ok (.aload_n 0, 1) := by decide +kernel
theorem dX13_next_106 : decode cX13_next 106 = .ok (.dup, 1) := by decide +kernel
theorem dX13_next_107 : decode cX13_next 107 = .ok (.getfield 192, 3) := by decide +kernel
theorem dX13_next_110 : decode cX13_next 110 = .ok (.iconst 1, 1) := by decide +kernel
theorem dX13_next_111 : decode cX13_next 111 = .ok (.iadd, 1) := by decide +kernel
theorem dX13_next_112 : decode cX13_next 112 = .ok (.putfield 192, 3) := by decide +kernel
theorem dX13_next_115 : decode cX13_next 115 = .ok (.goto (-49), 3) := by decide +kernel
theorem dX13_next_118 : decode cX13_next 118 = .ok (.return_, 1) := by decide +kernel
theorem dX13_word_0 : decode cX13_word 0 = .ok (.lconst 0, 1) := by decide +kernel
theorem dX13_word_1 : decode cX13_word 1 = .ok (.lstore_n 1, 1) := by decide +kernel
theorem dX13_word_2 : decode cX13_word 2 = .ok (.aload_n 0, 1) := by decide +kernel
theorem dX13_word_3 : decode cX13_word 3 = .ok (.getfield 192, 3) := by decide +kernel
theorem dX13_word_6 : decode cX13_word 6 = .ok (.aload_n 0, 1) := by decide +kernel
theorem dX13_word_7 : decode cX13_word 7 = .ok (.getfield 189, 3) := by decide +kernel
theorem dX13_word_10 : decode cX13_word 10 = .ok (.isub, 1) := by decide +kernel
theorem dX13_word_11 : decode cX13_word 11 = .ok (.bipush 7, 2) := by decide +kernel
theorem dX13_word_13 : decode cX13_word 13 = .ok (.if_icmp .gt 26, 3) := by decide +kernel
theorem dX13_word_16 : decode cX13_word 16 = .ok (.aload_n 0, 1) := by decide +kernel
theorem dX13_word_17 : decode cX13_word 17 = .ok (.getfield 192, 3) := by decide +kernel
theorem dX13_word_20 : decode cX13_word 20 = .ok (.aload_n 0, 1) := by decide +kernel
theorem dX13_word_21 : decode cX13_word 21 = .ok (.getfield 189, 3) := by decide +kernel
theorem dX13_word_24 : decode cX13_word 24 = .ok (.if_icmp .le 17, 3) := by decide +kernel
theorem dX13_word_27 : decode cX13_word 27 = .ok (.aload_n 0, 1) := by decide +kernel
theorem dX13_word_28 : decode cX13_word 28 = .ok (.getfield 7, 3) := by decide +kernel
theorem dX13_word_31 : decode cX13_word 31 = .ok (.aload_n 0, 1) := by decide +kernel
theorem dX13_word_32 : decode cX13_word 32 = .ok (.getfield 189, 3) := by decide +kernel
theorem dX13_word_35 : decode cX13_word 35 = .ok (.iaload, 1) := by decide +kernel
theorem dX13_word_36 : decode cX13_word 36 = .ok (.ifCond .ne 5, 3) := by decide +kernel
theorem dX13_word_39 : decode cX13_word 39 = .ok (.iconst (-1), 1) := by decide +kernel
theorem dX13_word_40 : decode cX13_word 40 = .ok (.ireturn, 1) := by decide +kernel
theorem dX13_word_41 : decode cX13_word 41 = .ok (.aload_n 0, 1) := by decide +kernel
theorem dX13_word_42 : decode cX13_word 42 = .ok (.getfield 189, 3) := by decide +kernel
theorem dX13_word_45 : decode cX13_word 45 = .ok (.istore_n 3, 1) := by decide +kernel
theorem dX13_word_46 : decode cX13_word 46 = .ok (.iload_n 3, 1) := by decide +kernel
theorem dX13_word_47 : decode cX13_word 47 = .ok (.aload_n 0, 1) := by decide +kernel
theorem dX13_word_48 : decode cX13_word 48 = .ok (.getfield 192, 3) := by decide +kernel
theorem dX13_word_51 : decode cX13_word 51 = .ok (.if_icmp .ge 22, 3) := by decide +kernel
theorem dX13_word_54 : decode cX13_word 54 = .ok (.lload_n 1, 1) := by decide +kernel
theorem dX13_word_55 : decode cX13_word 55 = .ok (.bipush 8, 2) := by decide +kernel
theorem dX13_word_57 : decode cX13_word 57 = .ok (.lshl, 1) := by decide +kernel
theorem dX13_word_58 : decode cX13_word 58 = .ok (.aload_n 0, 1) := by decide +kernel
theorem dX13_word_59 : decode cX13_word 59 = .ok (.getfield 7, 3) := by decide +kernel
theorem dX13_word_62 : decode cX13_word 62 = .ok (.iload_n 3, 1) := by decide +kernel
theorem dX13_word_63 : decode cX13_word 63 = .ok (.iaload, 1) := by decide +kernel
theorem dX13_word_64 : decode cX13_word 64 = .ok (.i2l, 1) := by decide +kernel
theorem dX13_word_65 : decode cX13_word 65 = .ok (.lor, 1) := by decide +kernel
theorem dX13_word_66 : decode cX13_word 66 = .ok (.lstore_n 1, 1) := by decide +kernel
theorem dX13_word_67 : decode cX13_word 67 = .ok (.iinc 3 1, 3) := by decide +kernel
theorem dX13_word_70 : decode cX13_word 70 = .ok (.goto (-24), 3) := by decide +kernel
theorem dX13_word_73 : decode cX13_word 73 = .ok (.iconst 0, 1) := by decide +kernel
theorem dX13_word_74 : decode cX13_word 74 = .ok (.istore_n 3, 1) := by decide +kernel
theorem dX13_word_75 : decode cX13_word 75 = .ok (.iload_n 3, 1) := by decide +kernel
theorem dX13_word_76 : decode cX13_word 76 = .ok (.bipush 34, 2) := by decide +kernel
theorem dX13_word_78 : decode cX13_word 78 = .ok (.if_icmp .ge 22, 3) := by decide +kernel
theorem dX13_word_81 : decode cX13_word 81 = .ok (.aload_n 0, 1) := by decide +kernel
theorem dX13_word_82 : decode cX13_word 82 = .ok (.getfield 85, 3) := by decide +kernel
theorem dX13_word_85 : decode cX13_word 85 = .ok (.iload_n 3, 1) := by decide +kernel
theorem dX13_word_86 : decode cX13_word 86 = .ok (.laload, 1) := by decide +kernel
theorem dX13_word_87 : decode cX13_word 87 = .ok (.lload_n 1, 1) := by decide +kernel
theorem dX13_word_88 : decode cX13_word 88 = .ok (.lcmp, 1) := by decide +kernel
theorem dX13_word_89 : decode cX13_word 89 = .ok (.ifCond .ne 5, 3) := by decide +kernel
theorem dX13_word_92 : decode cX13_word 92 = .ok (.iload_n 3, 1) := by decide +kernel
theorem dX13_word_93 : decode cX13_word 93 = .ok (.ireturn, 1) := by decide +kernel
theorem dX13_word_94 : decode cX13_word 94 = .ok (.iinc 3 1, 3) := by decide +kernel
theorem dX13_word_97 : decode cX13_word 97 = .ok (.goto (-22), 3) := by decide +kernel
theorem dX13_word_100 : decode cX13_word 100 = .ok (.iconst (-1), 1) := by decide +kernel
theorem dX13_word_101 : decode cX13_word 101 = .ok (.ireturn, 1) := by decide +kernel
theorem dX13_number_0 : decode cX13_number 0 = .ok (.aload_n 0, 1) := by decide +kernel
theorem dX13_number_1 : decode cX13_number 1 = .ok (.getfield 186, 3) := by decide +kernel
theorem dX13_number_4 : decode cX13_number 4 = .ok (.ifCond .lt 5, 3) := by decide +kernel
theorem dX13_number_7 : decode cX13_number 7 = .ok (.iconst 0, 1) := by decide +kernel
theorem dX13_number_8 : decode cX13_number 8 = .ok (.ireturn, 1) := by decide +kernel
theorem dX13_number_9 : decode cX13_number 9 = .ok (.aload_n 0, 1) := by decide +kernel
theorem dX13_number_10 : decode cX13_number 10 = .ok (.getfield 189, 3) := by decide +kernel
theorem dX13_number_13 : decode cX13_number 13 = .ok (.istore_n 3, 1) := by decide +kernel
theorem dX13_number_14 : decode cX13_number 14 = .ok (.aload_n 0, 1) := by decide +kernel
theorem dX13_number_15 : decode cX13_number 15 = .ok (.iload_n 3, 1) := by decide +kernel
theorem dX13_number_16 : decode cX13_number 16 = .ok (.invokevirtual 195, 3) := by decide +kernel
theorem dX13_number_19 : decode cX13_number 19 = .ok (.bipush 45, 2) := by decide +kernel
theorem dX13_number_21 : decode cX13_number 21 = .ok (.if_icmp .ne 7, 3) := by decide +kernel
theorem dX13_number_24 : decode cX13_number 24 = .ok (.iconst 1, 1) := by decide +kernel
theorem dX13_number_25 : decode cX13_number 25 = .ok (.goto 4, 3) := by decide +kernel
theorem dX13_number_28 : decode cX13_number 28 = .ok (.iconst 0, 1) := by decide +kernel
theorem dX13_number_29 : decode cX13_number 29 = .ok (.istore 4, 2) := by decide +kernel
theorem dX13_number_31 : decode cX13_number 31 = .ok (.iload 4, 2) := by decide +kernel
theorem dX13_number_33 : decode cX13_number 33 = .ok (.ifCond .eq 6, 3) := by decide +kernel
theorem dX13_number_36 : decode cX13_number 36 = .ok (.iinc 3 1, 3) := by decide +kernel
theorem dX13_number_39 : decode cX13_number 39 = .ok (.aload_n 0, 1) := by decide +kernel
theorem dX13_number_40 : decode cX13_number 40 = .ok (.getfield 192, 3) := by decide +kernel
theorem dX13_number_43 : decode cX13_number 43 = .ok (.iload_n 3, 1) := by decide +kernel
theorem dX13_number_44 : decode cX13_number 44 = .ok (.isub, 1) := by decide +kernel
theorem dX13_number_45 : decode cX13_number 45 = .ok (.iconst 1, 1) := by decide +kernel
theorem dX13_number_46 : decode cX13_number 46 = .ok (.if_icmp .lt 14, 3) := by decide +kernel
theorem dX13_number_49 : decode cX13_number 49 = .ok (.aload_n 0, 1) := by decide +kernel
theorem dX13_number_50 : decode cX13_number 50 = .ok (.getfield 192, 3) := by decide +kernel
theorem dX13_number_53 : decode cX13_number 53 = .ok (.iload_n 3, 1) := by decide +kernel
theorem dX13_number_54 : decode cX13_number 54 = .ok (.isub, 1) := by decide +kernel
theorem dX13_number_55 : decode cX13_number 55 = .ok (.bipush 9, 2) := by decide +kernel
theorem dX13_number_57 : decode cX13_number 57 = .ok (.if_icmp .le 8, 3) := by decide +kernel
theorem dX13_number_60 : decode cX13_number 60 = .ok (.aload_n 0, 1) := by decide +kernel
theorem dX13_number_61 : decode cX13_number 61 = .ok (.invokevirtual 198, 3) := by decide +kernel
theorem dX13_number_64 : decode cX13_number 64 = .ok (.ireturn, 1) := by decide +kernel
theorem dX13_number_65 : decode cX13_number 65 = .ok (.iconst 0, 1) := by decide +kernel
theorem dX13_number_66 : decode cX13_number 66 = .ok (.istore 5, 2) := by decide +kernel
theorem dX13_number_68 : decode cX13_number 68 = .ok (.iload_n 3, 1) := by decide +kernel
theorem dX13_number_69 : decode cX13_number 69 = .ok (.aload_n 0, 1) := by decide +kernel
theorem dX13_number_70 : decode cX13_number 70 = .ok (.getfield 192, 3) := by decide +kernel
theorem dX13_number_73 : decode cX13_number 73 = .ok (.if_icmp .ge 47, 3) := by decide +kernel
theorem dX13_number_76 : decode cX13_number 76 = .ok (.aload_n 0, 1) := by decide +kernel
theorem dX13_number_77 : decode cX13_number 77 = .ok (.getfield 7, 3) := by decide +kernel
theorem dX13_number_80 : decode cX13_number 80 = .ok (.iload_n 3, 1) := by decide +kernel
theorem dX13_number_81 : decode cX13_number 81 = .ok (.iaload, 1) := by decide +kernel
theorem dX13_number_82 : decode cX13_number 82 = .ok (.bipush 48, 2) := by decide +kernel
theorem dX13_number_84 : decode cX13_number 84 = .ok (.bipush 57, 2) := by decide +kernel
theorem dX13_number_86 : decode cX13_number 86 = .ok (.invokestatic 179, 3) := by decide +kernel
theorem dX13_number_89 : decode cX13_number 89 = .ok (.ifCond .ne 8, 3) := by decide +kernel
theorem dX13_number_92 : decode cX13_number 92 = .ok (.aload_n 0, 1) := by decide +kernel
theorem dX13_number_93 : decode cX13_number 93 = .ok (.invokevirtual 198, 3) := by decide +kernel
theorem dX13_number_96 : decode cX13_number 96 = .ok (.ireturn, 1) := by decide +kernel
theorem dX13_number_97 : decode cX13_number 97 = .ok (.bipush 10, 2) := by decide +kernel
theorem dX13_number_99 : decode cX13_number 99 = .ok (.iload 5, 2) := by decide +kernel
theorem dX13_number_101 : decode cX13_number 101 = .ok (.imul, 1) := by decide +kernel
theorem dX13_number_102 : decode cX13_number 102 = .ok (.aload_n 0, 1) := by decide +kernel
theorem dX13_number_103 : decode cX13_number 103 = .ok (.getfield 7, 3) := by decide +kernel
theorem dX13_number_106 : decode cX13_number 106 = .ok (.iload_n 3, 1) := by decide +kernel
theorem dX13_number_107 : decode cX13_number 107 = .ok (.iaload, 1) := by decide +kernel
theorem dX13_number_108 : decode cX13_number 108 = .ok (.iadd, 1) := by decide +kernel
theorem dX13_number_109 : decode cX13_number 109 = .ok (.bipush 48, 2) := by decide +kernel
theorem dX13_number_111 : decode cX13_number 111 = .ok (.isub, 1) := by decide +kernel
theorem dX13_number_112 : decode cX13_number 112 = .ok (.istore 5, 2) := by decide +kernel
theorem dX13_number_114 : decode cX13_number 114 = .ok (.iinc 3 1, 3) := by decide +kernel
theorem dX13_number_117 : decode cX13_number 117 = .ok (.goto (-49), 3) := by decide +kernel
theorem dX13_number_120 : decode cX13_number 120 = .ok (.iload 4, 2) := by decide +kernel
theorem dX13_number_122 : decode cX13_number 122 = .ok (.ifCond .eq 8, 3) := by decide +kernel
theorem dX13_number_125 : decode cX13_number 125 = .ok (.iload 5, 2) := by decide +kernel
theorem dX13_number_127 : decode cX13_number 127 = .ok (.ineg, 1) := by decide +kernel
theorem dX13_number_128 : decode cX13_number 128 = .ok (.istore 5, 2) := by decide +kernel
theorem dX13_number_130 : decode cX13_number 130 = .ok (.iload 5, 2) := by decide +kernel
theorem dX13_number_132 : decode cX13_number 132 = .ok (.iload_n 1, 1) := by decide +kernel
theorem dX13_number_133 : decode cX13_number 133 = .ok (.iload_n 2, 1) := by decide +kernel
theorem dX13_number_134 : decode cX13_number 134 = .ok (.invokestatic 179, 3) := by decide +kernel
theorem dX13_number_137 : decode cX13_number 137 = .ok (.ifCond .ne 8, 3) := by decide +kernel
theorem dX13_number_140 : decode cX13_number 140 = .ok (.aload_n 0, 1) := by decide +kernel
theorem dX13_number_141 : decode cX13_number 141 = .ok (.invokevirtual 198, 3) := by decide +kernel
theorem dX13_number_144 : decode cX13_number 144 = .ok (.ireturn, 1) := by decide +kernel
theorem dX13_number_145 : decode cX13_number 145 = .ok (.aload_n 0, 1) := by decide +kernel
theorem dX13_number_146 : decode cX13_number 146 = .ok (.invokevirtual 202, 3) := by decide +kernel
theorem dX13_number_149 : decode cX13_number 149 = .ok (.iload 5, 2) := by decide +kernel
theorem dX13_number_151 : decode cX13_number 151 = .ok (.ireturn, 1) := by decide +kernel
theorem dX13_line_0 : decode cX13_line 0 = .ok (.aload_n 0, 1) := by decide +kernel
theorem dX13_line_1 : decode cX13_line 1 = .ok (.invokevirtual 205, 3) := by decide +kernel
theorem dX13_line_4 : decode cX13_line 4 = .ok (.istore_n 1, 1) := by decide +kernel
theorem dX13_line_5 : decode cX13_line 5 = .ok (.aload_n 0, 1) := by decide +kernel
theorem dX13_line_6 : decode cX13_line 6 = .ok (.getfield 208, 3) := by decide +kernel
theorem dX13_line_9 : decode cX13_line 9 = .ok (.bipush 60, 2) := by decide +kernel
theorem dX13_line_11 : decode cX13_line 11 = .ok (.if_icmp .eq 7, 3) := by decide +kernel
theorem dX13_line_14 : decode cX13_line 14 = .ok (.iload_n 1, 1) := by decide +kernel
theorem dX13_line_15 : decode cX13_line 15 = .ok (.ifCond .ge 9, 3) := by decide +kernel
theorem dX13_line_18 : decode cX13_line 18 = .ok (.aload_n 0, 1) := by decide +kernel
theorem dX13_line_19 : decode cX13_line 19 = .ok (.invokevirtual 198, 3) := by decide +kernel
theorem dX13_line_22 : decode cX13_line 22 = .ok (.pop, 1) := by decide +kernel
theorem dX13_line_23 : decode cX13_line 23 = .ok (.return_, 1) := by decide +kernel
theorem dX13_line_24 : decode cX13_line 24 = .ok (.aload_n 0, 1) := by decide +kernel
theorem dX13_line_25 : decode cX13_line 25 = .ok (.invokevirtual 202, 3) := by decide +kernel
theorem dX13_line_28 : decode cX13_line 28 = .ok (.ldc 211, 2) := by decide +kernel
theorem dX13_line_30 : decode cX13_line 30 = .ok (.istore_n 2, 1) := by decide +kernel
theorem dX13_line_31 : decode cX13_line 31 = .ok (.iconst 0, 1) := by decide +kernel
theorem dX13_line_32 : decode cX13_line 32 = .ok (.istore_n 3, 1) := by decide +kernel
theorem dX13_line_33 : decode cX13_line 33 = .ok (.iconst 0, 1) := by decide +kernel
theorem dX13_line_34 : decode cX13_line 34 = .ok (.istore 4, 2) := by decide +kernel
theorem dX13_line_36 : decode cX13_line 36 = .ok (.iconst 0, 1) := by decide +kernel
theorem dX13_line_37 : decode cX13_line 37 = .ok (.istore 5, 2) := by decide +kernel
theorem dX13_line_39 : decode cX13_line 39 = .ok (.iload_n 1, 1) := by decide +kernel
theorem dX13_line_40 : decode cX13_line 40 = .ok (.ifCond .eq 13, 3) := by decide +kernel
theorem dX13_line_43 : decode cX13_line 43 = .ok (.iload_n 1, 1) := by decide +kernel
theorem dX13_line_44 : decode cX13_line 44 = .ok (.iconst 1, 1) := by decide +kernel
theorem dX13_line_45 : decode cX13_line 45 = .ok (.if_icmp .eq 8, 3) := by decide +kernel
theorem dX13_line_48 : decode cX13_line 48 = .ok (.iload_n 1, 1) := by decide +kernel
theorem dX13_line_49 : decode cX13_line 49 = .ok (.iconst 5, 1) := by decide +kernel
theorem dX13_line_50 : decode cX13_line 50 = .ok (.if_icmp .ne 14, 3) := by decide +kernel
theorem dX13_line_53 : decode cX13_line 53 = .ok (.aload_n 0, 1) := by decide +kernel
theorem dX13_line_54 : decode cX13_line 54 = .ok (.iload_n 2, 1) := by decide +kernel
theorem dX13_line_55 : decode cX13_line 55 = .ok (.ineg, 1) := by decide +kernel
theorem dX13_line_56 : decode cX13_line 56 = .ok (.iload_n 2, 1) := by decide +kernel
theorem dX13_line_57 : decode cX13_line 57 = .ok (.invokevirtual 212, 3) := by decide +kernel
theorem dX13_line_60 : decode cX13_line 60 = .ok (.istore_n 3, 1) := by decide +kernel
theorem dX13_line_61 : decode cX13_line 61 = .ok (.goto 49, 3) := by decide +kernel
theorem dX13_line_64 : decode cX13_line 64 = .ok (.iload_n 1, 1) := by decide +kernel
theorem dX13_line_65 : decode cX13_line 65 = .ok (.iconst 2, 1) := by decide +kernel
theorem dX13_line_66 : decode cX13_line 66 = .ok (.if_icmp .eq 13, 3) := by decide +kernel
theorem dX13_line_69 : decode cX13_line 69 = .ok (.iload_n 1, 1) := by decide +kernel
theorem dX13_line_70 : decode cX13_line 70 = .ok (.iconst 3, 1) := by decide +kernel
theorem dX13_line_71 : decode cX13_line 71 = .ok (.if_icmp .eq 8, 3) := by decide +kernel
theorem dX13_line_74 : decode cX13_line 74 = .ok (.iload_n 1, 1) := by decide +kernel
theorem dX13_line_75 : decode cX13_line 75 = .ok (.iconst 4, 1) := by decide +kernel
theorem dX13_line_76 : decode cX13_line 76 = .ok (.if_icmp .ne 14, 3) := by decide +kernel
theorem dX13_line_79 : decode cX13_line 79 = .ok (.aload_n 0, 1) := by decide +kernel
theorem dX13_line_80 : decode cX13_line 80 = .ok (.iconst 0, 1) := by decide +kernel
theorem dX13_line_81 : decode cX13_line 81 = .ok (.bipush 59, 2) := by decide +kernel
theorem dX13_line_83 : decode cX13_line 83 = .ok (.invokevirtual 212, 3) := by decide +kernel
theorem dX13_line_86 : decode cX13_line 86 = .ok (.istore_n 3, 1) := by decide +kernel
theorem dX13_line_87 : decode cX13_line 87 = .ok (.goto 23, 3) := by decide +kernel
theorem dX13_line_90 : decode cX13_line 90 = .ok (.iload_n 1, 1) := by decide +kernel
theorem dX13_line_91 : decode cX13_line 91 = .ok (.bipush 6, 2) := by decide +kernel
theorem dX13_line_93 : decode cX13_line 93 = .ok (.if_icmp .eq 17, 3) := by decide +kernel
theorem dX13_line_96 : decode cX13_line 96 = .ok (.iload_n 1, 1) := by decide +kernel
theorem dX13_line_97 : decode cX13_line 97 = .ok (.bipush 33, 2) := by decide +kernel
theorem dX13_line_99 : decode cX13_line 99 = .ok (.if_icmp .eq 11, 3) := by decide +kernel
theorem dX13_line_102 : decode cX13_line 102 = .ok (.aload_n 0, 1) := by decide +kernel
theorem dX13_line_103 : decode cX13_line 103 = .ok (.iconst 0, 1) := by decide +kernel
theorem dX13_line_104 : decode cX13_line 104 = .ok (.bipush 23, 2) := by decide +kernel
theorem dX13_line_106 : decode cX13_line 106 = .ok (.invokevirtual 212, 3) := by decide +kernel
theorem dX13_line_109 : decode cX13_line 109 = .ok (.istore_n 3, 1) := by decide +kernel
theorem dX13_line_110 : decode cX13_line 110 = .ok (.iload_n 1, 1) := by decide +kernel
theorem dX13_line_111 : decode cX13_line 111 = .ok (.bipush 15, 2) := by decide +kernel
theorem dX13_line_113 : decode cX13_line 113 = .ok (.if_icmp .eq 9, 3) := by decide +kernel
theorem dX13_line_116 : decode cX13_line 116 = .ok (.iload_n 1, 1) := by decide +kernel
theorem dX13_line_117 : decode cX13_line 117 = .ok (.bipush 16, 2) := by decide +kernel
theorem dX13_line_119 : decode cX13_line 119 = .ok (.if_icmp .ne 12, 3) := by decide +kernel
theorem dX13_line_122 : decode cX13_line 122 = .ok (.aload_n 0, 1) := by decide +kernel
theorem dX13_line_123 : decode cX13_line 123 = .ok (.iload_n 2, 1) := by decide +kernel
theorem dX13_line_124 : decode cX13_line 124 = .ok (.ineg, 1) := by decide +kernel
theorem dX13_line_125 : decode cX13_line 125 = .ok (.iload_n 2, 1) := by decide +kernel
theorem dX13_line_126 : decode cX13_line 126 = .ok (.invokevirtual 212, 3) := by decide +kernel
theorem dX13_line_129 : decode cX13_line 129 = .ok (.istore 4, 2) := by decide +kernel
theorem dX13_line_131 : decode cX13_line 131 = .ok (.iload_n 1, 1) := by decide +kernel
theorem dX13_line_132 : decode cX13_line 132 = .ok (.bipush 16, 2) := by decide +kernel
theorem dX13_line_134 : decode cX13_line 134 = .ok (.if_icmp .ne 12, 3) := by decide +kernel
theorem dX13_line_137 : decode cX13_line 137 = .ok (.aload_n 0, 1) := by decide +kernel
theorem dX13_line_138 : decode cX13_line 138 = .ok (.iload_n 2, 1) := by decide +kernel
theorem dX13_line_139 : decode cX13_line 139 = .ok (.ineg, 1) := by decide +kernel
theorem dX13_line_140 : decode cX13_line 140 = .ok (.iload_n 2, 1) := by decide +kernel
theorem dX13_line_141 : decode cX13_line 141 = .ok (.invokevirtual 212, 3) := by decide +kernel
theorem dX13_line_144 : decode cX13_line 144 = .ok (.istore 5, 2) := by decide +kernel
theorem dX13_line_146 : decode cX13_line 146 = .ok (.iload_n 1, 1) := by decide +kernel
theorem dX13_line_147 : decode cX13_line 147 = .ok (.bipush 17, 2) := by decide +kernel
theorem dX13_line_149 : decode cX13_line 149 = .ok (.if_icmp .eq 9, 3) := by decide +kernel
theorem dX13_line_152 : decode cX13_line 152 = .ok (.iload_n 1, 1) := by decide +kernel
theorem dX13_line_153 : decode cX13_line 153 = .ok (.bipush 18, 2) := by decide +kernel
theorem dX13_line_155 : decode cX13_line 155 = .ok (.if_icmp .ne 11, 3) := by decide +kernel
theorem dX13_line_158 : decode cX13_line 158 = .ok (.aload_n 0, 1) := by decide +kernel
theorem dX13_line_159 : decode cX13_line 159 = .ok (.iconst 1, 1) := by decide +kernel
theorem dX13_line_160 : decode cX13_line 160 = .ok (.iload_n 2, 1) := by decide +kernel
theorem dX13_line_161 : decode cX13_line 161 = .ok (.invokevirtual 212, 3) := by decide +kernel
theorem dX13_line_164 : decode cX13_line 164 = .ok (.istore 4, 2) := by decide +kernel
theorem dX13_line_166 : decode cX13_line 166 = .ok (.iconst 4, 1) := by decide +kernel
theorem dX13_line_167 : decode cX13_line 167 = .ok (.aload_n 0, 1) := by decide +kernel
theorem dX13_line_168 : decode cX13_line 168 = .ok (.getfield 208, 3) := by decide +kernel
theorem dX13_line_171 : decode cX13_line 171 = .ok (.imul, 1) := by decide +kernel
theorem dX13_line_172 : decode cX13_line 172 = .ok (.istore 6, 2) := by decide +kernel
theorem dX13_line_174 : decode cX13_line 174 = .ok (.aload_n 0, 1) := by decide +kernel
theorem dX13_line_175 : decode cX13_line 175 = .ok (.getfield 89, 3) := by decide +kernel
theorem dX13_line_178 : decode cX13_line 178 = .ok (.iload 6, 2) := by decide +kernel
theorem dX13_line_180 : decode cX13_line 180 = .ok (.iload_n 1, 1) := by decide +kernel
theorem dX13_line_181 : decode cX13_line 181 = .ok (.iastore, 1) := by decide +kernel
theorem dX13_line_182 : decode cX13_line 182 = .ok (.aload_n 0, 1) := by decide +kernel
theorem dX13_line_183 : decode cX13_line 183 = .ok (.getfield 89, 3) := by decide +kernel
theorem dX13_line_186 : decode cX13_line 186 = .ok (.iload 6, 2) := by decide +kernel
theorem dX13_line_188 : decode cX13_line 188 = .ok (.iconst 1, 1) := by decide +kernel
theorem dX13_line_189 : decode cX13_line 189 = .ok (.iadd, 1) := by decide +kernel
theorem dX13_line_190 : decode cX13_line 190 = .ok (.iload_n 3, 1) := by decide +kernel
theorem dX13_line_191 : decode cX13_line 191 = .ok (.iastore, 1) := by decide +kernel
theorem dX13_line_192 : decode cX13_line 192 = .ok (.aload_n 0, 1) := by decide +kernel
theorem dX13_line_193 : decode cX13_line 193 = .ok (.getfield 89, 3) := by decide +kernel
theorem dX13_line_196 : decode cX13_line 196 = .ok (.iload 6, 2) := by decide +kernel
theorem dX13_line_198 : decode cX13_line 198 = .ok (.iconst 2, 1) := by decide +kernel
theorem dX13_line_199 : decode cX13_line 199 = .ok (.iadd, 1) := by decide +kernel
theorem dX13_line_200 : decode cX13_line 200 = .ok (.iload 4, 2) := by decide +kernel
theorem dX13_line_202 : decode cX13_line 202 = .ok (.iastore, 1) := by decide +kernel
theorem dX13_line_203 : decode cX13_line 203 = .ok (.aload_n 0, 1) := by decide +kernel
theorem dX13_line_204 : decode cX13_line 204 = .ok (.getfield 89, 3) := by decide +kernel
theorem dX13_line_207 : decode cX13_line 207 = .ok (.iload 6, 2) := by decide +kernel
theorem dX13_line_209 : decode cX13_line 209 = .ok (.iconst 3, 1) := by decide +kernel
theorem dX13_line_210 : decode cX13_line 210 = .ok (.iadd, 1) := by decide +kernel
theorem dX13_line_211 : decode cX13_line 211 = .ok (.iload 5, 2) := by decide +kernel
theorem dX13_line_213 : decode cX13_line 213 = .ok (.iastore, 1) := by decide +kernel
theorem dX13_line_214 : decode cX13_line 214 = .ok (.aload_n 0, 1) := by decide +kernel
theorem dX13_line_215 : decode cX13_line 215 = .ok (.dup, 1) := by decide +kernel
theorem dX13_line_216 : decode cX13_line 216 = .ok (.getfield 208, 3) := by decide +kernel
theorem dX13_line_219 : decode cX13_line 219 = .ok (.iconst 1, 1) := by decide +kernel
theorem dX13_line_220 : decode cX13_line 220 = .ok (.iadd, 1) := by decide +kernel
theorem dX13_line_221 : decode cX13_line 221 = .ok (.putfield 208, 3) := by decide +kernel
theorem dX13_line_224 : decode cX13_line 224 = .ok (.return_, 1) := by decide +kernel
theorem dX13_read_0 : decode cX13_read 0 = .ok (.aload_n 0, 1) := by decide +kernel
theorem dX13_read_1 : decode cX13_read 1 = .ok (.aload_n 0, 1) := by decide +kernel
theorem dX13_read_2 : decode cX13_read 2 = .ok (.getfield 168, 3) := by decide +kernel
theorem dX13_read_5 : decode cX13_read 5 = .ok (.putfield 183, 3) := by decide +kernel
theorem dX13_read_8 : decode cX13_read 8 = .ok (.aload_n 0, 1) := by decide +kernel
theorem dX13_read_9 : decode cX13_read 9 = .ok (.iconst 0, 1) := by decide +kernel
theorem dX13_read_10 : decode cX13_read 10 = .ok (.putfield 168, 3) := by decide +kernel
theorem dX13_read_13 : decode cX13_read 13 = .ok (.aload_n 0, 1) := by decide +kernel
theorem dX13_read_14 : decode cX13_read 14 = .ok (.iconst 0, 1) := by decide +kernel
theorem dX13_read_15 : decode cX13_read 15 = .ok (.putfield 192, 3) := by decide +kernel
theorem dX13_read_18 : decode cX13_read 18 = .ok (.aload_n 0, 1) := by decide +kernel
theorem dX13_read_19 : decode cX13_read 19 = .ok (.iconst 0, 1) := by decide +kernel
theorem dX13_read_20 : decode cX13_read 20 = .ok (.putfield 208, 3) := by decide +kernel
theorem dX13_read_23 : decode cX13_read 23 = .ok (.aload_n 0, 1) := by decide +kernel
theorem dX13_read_24 : decode cX13_read 24 = .ok (.iconst (-1), 1) := by decide +kernel
theorem dX13_read_25 : decode cX13_read 25 = .ok (.putfield 186, 3) := by decide +kernel
theorem dX13_read_28 : decode cX13_read 28 = .ok (.aload_n 0, 1) := by decide +kernel
theorem dX13_read_29 : decode cX13_read 29 = .ok (.invokevirtual 202, 3) := by decide +kernel
theorem dX13_read_32 : decode cX13_read 32 = .ok (.aload_n 0, 1) := by decide +kernel
theorem dX13_read_33 : decode cX13_read 33 = .ok (.invokevirtual 216, 3) := by decide +kernel
theorem dX13_read_36 : decode cX13_read 36 = .ok (.aload_n 0, 1) := by decide +kernel
theorem dX13_read_37 : decode cX13_read 37 = .ok (.getfield 186, 3) := by decide +kernel
theorem dX13_read_40 : decode cX13_read 40 = .ok (.ifCond .ge 47, 3) := by decide +kernel
theorem dX13_read_43 : decode cX13_read 43 = .ok (.aload_n 0, 1) := by decide +kernel
theorem dX13_read_44 : decode cX13_read 44 = .ok (.getfield 189, 3) := by decide +kernel
theorem dX13_read_47 : decode cX13_read 47 = .ok (.aload_n 0, 1) := by decide +kernel
theorem dX13_read_48 : decode cX13_read 48 = .ok (.getfield 183, 3) := by decide +kernel
theorem dX13_read_51 : decode cX13_read 51 = .ok (.if_icmp .ge 36, 3) := by decide +kernel
theorem dX13_read_54 : decode cX13_read 54 = .ok (.aload_n 0, 1) := by decide +kernel
theorem dX13_read_55 : decode cX13_read 55 = .ok (.getfield 7, 3) := by decide +kernel
theorem dX13_read_58 : decode cX13_read 58 = .ok (.aload_n 0, 1) := by decide +kernel
theorem dX13_read_59 : decode cX13_read 59 = .ok (.getfield 189, 3) := by decide +kernel
theorem dX13_read_62 : decode cX13_read 62 = .ok (.iaload, 1) := by decide +kernel
theorem dX13_read_63 : decode cX13_read 63 = .ok (.bipush 59, 2) := by decide +kernel
theorem dX13_read_65 : decode cX13_read 65 = .ok (.if_icmp .eq 11, 3) := by decide +kernel
theorem dX13_read_68 : decode cX13_read 68 = .ok (.aload_n 0, 1) := by decide +kernel
theorem dX13_read_69 : decode cX13_read 69 = .ok (.invokevirtual 198, 3) := by decide +kernel
theorem dX13_read_72 : decode cX13_read 72 = .ok (.pop, 1) := by decide +kernel
theorem dX13_read_73 : decode cX13_read 73 = .ok (.goto (-37), 3) := by decide +kernel
theorem dX13_read_76 : decode cX13_read 76 = .ok (.aload_n 0, 1) := by decide +kernel
theorem dX13_read_77 : decode cX13_read 77 = .ok (.invokevirtual 202, 3) := by decide +kernel
theorem dX13_read_80 : decode cX13_read 80 = .ok (.aload_n 0, 1) := by decide +kernel
theorem dX13_read_81 : decode cX13_read 81 = .ok (.invokevirtual 216, 3) := by decide +kernel
theorem dX13_read_84 : decode cX13_read 84 = .ok (.goto (-48), 3) := by decide +kernel
theorem dX13_read_87 : decode cX13_read 87 = .ok (.return_, 1) := by decide +kernel
theorem dX13_isThere_0 : decode cX13_isThere 0 = .ok (.iload_n 1, 1) := by decide +kernel
theorem dX13_isThere_1 : decode cX13_isThere 1 = .ok (.iconst 0, 1) := by decide +kernel
theorem dX13_isThere_2 : decode cX13_isThere 2 = .ok (.bipush 23, 2) := by decide +kernel
theorem dX13_isThere_4 : decode cX13_isThere 4 = .ok (.invokestatic 179, 3) := by decide +kernel
theorem dX13_isThere_7 : decode cX13_isThere 7 = .ok (.ifCond .eq 16, 3) := by decide +kernel
theorem dX13_isThere_10 : decode cX13_isThere 10 = .ok (.aload_n 0, 1) := by decide +kernel
theorem dX13_isThere_11 : decode cX13_isThere 11 = .ok (.getfield 135, 3) := by decide +kernel
theorem dX13_isThere_14 : decode cX13_isThere 14 = .ok (.iload_n 1, 1) := by decide +kernel
theorem dX13_isThere_15 : decode cX13_isThere 15 = .ok (.iaload, 1) := by decide +kernel
theorem dX13_isThere_16 : decode cX13_isThere 16 = .ok (.ifCond .eq 7, 3) := by decide +kernel
theorem dX13_isThere_19 : decode cX13_isThere 19 = .ok (.iconst 1, 1) := by decide +kernel
theorem dX13_isThere_20 : decode cX13_isThere 20 = .ok (.goto 4, 3) := by decide +kernel
theorem dX13_isThere_23 : decode cX13_isThere 23 = .ok (.iconst 0, 1) := by decide +kernel
theorem dX13_isThere_24 : decode cX13_isThere 24 = .ok (.ireturn, 1) := by decide +kernel
theorem dX13_make_0 : decode cX13_make 0 = .ok (.iload_n 1, 1) := by decide +kernel
theorem dX13_make_1 : decode cX13_make 1 = .ok (.iconst 0, 1) := by decide +kernel
theorem dX13_make_2 : decode cX13_make 2 = .ok (.bipush 7, 2) := by decide +kernel
theorem dX13_make_4 : decode cX13_make 4 = .ok (.invokestatic 179, 3) := by decide +kernel
theorem dX13_make_7 : decode cX13_make 7 = .ok (.istore_n 3, 1) := by decide +kernel
theorem dX13_make_8 : decode cX13_make 8 = .ok (.iload_n 1, 1) := by decide +kernel
theorem dX13_make_9 : decode cX13_make 9 = .ok (.ifCond .ne 10, 3) := by decide +kernel
theorem dX13_make_12 : decode cX13_make 12 = .ok (.iload_n 2, 1) := by decide +kernel
theorem dX13_make_13 : decode cX13_make 13 = .ok (.iconst 0, 1) := by decide +kernel
theorem dX13_make_14 : decode cX13_make 14 = .ok (.iconst 1, 1) := by decide +kernel
theorem dX13_make_15 : decode cX13_make 15 = .ok (.invokestatic 179, 3) := by decide +kernel
theorem dX13_make_18 : decode cX13_make 18 = .ok (.istore_n 3, 1) := by decide +kernel
theorem dX13_make_19 : decode cX13_make 19 = .ok (.iload_n 1, 1) := by decide +kernel
theorem dX13_make_20 : decode cX13_make 20 = .ok (.iconst 2, 1) := by decide +kernel
theorem dX13_make_21 : decode cX13_make 21 = .ok (.if_icmp .ne 13, 3) := by decide +kernel
theorem dX13_make_24 : decode cX13_make 24 = .ok (.iload_n 2, 1) := by decide +kernel
theorem dX13_make_25 : decode cX13_make 25 = .ok (.ifCond .lt 7, 3) := by decide +kernel
theorem dX13_make_28 : decode cX13_make 28 = .ok (.iconst 1, 1) := by decide +kernel
theorem dX13_make_29 : decode cX13_make 29 = .ok (.goto 4, 3) := by decide +kernel
theorem dX13_make_32 : decode cX13_make 32 = .ok (.iconst 0, 1) := by decide +kernel
theorem dX13_make_33 : decode cX13_make 33 = .ok (.istore_n 3, 1) := by decide +kernel
theorem dX13_make_34 : decode cX13_make 34 = .ok (.iload_n 1, 1) := by decide +kernel
theorem dX13_make_35 : decode cX13_make 35 = .ok (.iconst 3, 1) := by decide +kernel
theorem dX13_make_36 : decode cX13_make 36 = .ok (.if_icmp .ne 11, 3) := by decide +kernel
theorem dX13_make_39 : decode cX13_make 39 = .ok (.iload_n 2, 1) := by decide +kernel
theorem dX13_make_40 : decode cX13_make 40 = .ok (.iconst 1, 1) := by decide +kernel
theorem dX13_make_41 : decode cX13_make 41 = .ok (.bipush 8, 2) := by decide +kernel
theorem dX13_make_43 : decode cX13_make 43 = .ok (.invokestatic 179, 3) := by decide +kernel
theorem dX13_make_46 : decode cX13_make 46 = .ok (.istore_n 3, 1) := by decide +kernel
theorem dX13_make_47 : decode cX13_make 47 = .ok (.iload_n 1, 1) := by decide +kernel
theorem dX13_make_48 : decode cX13_make 48 = .ok (.iconst 4, 1) := by decide +kernel
theorem dX13_make_49 : decode cX13_make 49 = .ok (.if_icmp .ne 11, 3) := by decide +kernel
theorem dX13_make_52 : decode cX13_make 52 = .ok (.iload_n 2, 1) := by decide +kernel
theorem dX13_make_53 : decode cX13_make 53 = .ok (.iconst 1, 1) := by decide +kernel
theorem dX13_make_54 : decode cX13_make 54 = .ok (.bipush 100, 2) := by decide +kernel
theorem dX13_make_56 : decode cX13_make 56 = .ok (.invokestatic 179, 3) := by decide +kernel
theorem dX13_make_59 : decode cX13_make 59 = .ok (.istore_n 3, 1) := by decide +kernel
theorem dX13_make_60 : decode cX13_make 60 = .ok (.iload_n 3, 1) := by decide +kernel
theorem dX13_make_61 : decode cX13_make 61 = .ok (.ifCond .ne 9, 3) := by decide +kernel
theorem dX13_make_64 : decode cX13_make 64 = .ok (.aload_n 0, 1) := by decide +kernel
theorem dX13_make_65 : decode cX13_make 65 = .ok (.iconst 1, 1) := by decide +kernel
theorem dX13_make_66 : decode cX13_make 66 = .ok (.invokevirtual 171, 3) := by decide +kernel
theorem dX13_make_69 : decode cX13_make 69 = .ok (.ireturn, 1) := by decide +kernel
theorem dX13_make_70 : decode cX13_make 70 = .ok (.iconst 0, 1) := by decide +kernel
theorem dX13_make_71 : decode cX13_make 71 = .ok (.istore 4, 2) := by decide +kernel
theorem dX13_make_73 : decode cX13_make 73 = .ok (.iload 4, 2) := by decide +kernel
theorem dX13_make_75 : decode cX13_make 75 = .ok (.bipush 24, 2) := by decide +kernel
theorem dX13_make_77 : decode cX13_make 77 = .ok (.if_icmp .ge 19, 3) := by decide +kernel
theorem dX13_make_80 : decode cX13_make 80 = .ok (.aload_n 0, 1) := by decide +kernel
theorem dX13_make_81 : decode cX13_make 81 = .ok (.getfield 135, 3) := by decide +kernel
theorem dX13_make_84 : decode cX13_make 84 = .ok (.iload 4, 2) := by decide +kernel
theorem dX13_make_86 : decode cX13_make 86 = .ok (.iaload, 1) := by decide +kernel
theorem dX13_make_87 : decode cX13_make 87 = .ok (.ifCond .eq 9, 3) := by decide +kernel
theorem dX13_make_90 : decode cX13_make 90 = .ok (.iinc 4 1, 3) := by decide +kernel
theorem dX13_make_93 : decode cX13_make 93 = .ok (.goto (-20), 3) := by decide +kernel
theorem dX13_make_96 : decode cX13_make 96 = .ok (.iload 4, 2) := by decide +kernel
theorem dX13_make_98 : decode cX13_make 98 = .ok (.bipush 24, 2) := by decide +kernel
theorem dX13_make_100 : decode cX13_make 100 = .ok (.if_icmp .ne 9, 3) := by decide +kernel
theorem dX13_make_103 : decode cX13_make 103 = .ok (.aload_n 0, 1) := by decide +kernel
theorem dX13_make_104 : decode cX13_make 104 = .ok (.iconst 2, 1) := by decide +kernel
theorem dX13_make_105 : decode cX13_make 105 = .ok (.invokevirtual 171, 3) := by decide +kernel
theorem dX13_make_108 : decode cX13_make 108 = .ok (.ireturn, 1) := by decide +kernel
theorem dX13_make_109 : decode cX13_make 109 = .ok (.aload_n 0, 1) := by decide +kernel
theorem dX13_make_110 : decode cX13_make 110 = .ok (.iconst 0, 1) := by decide +kernel
theorem dX13_make_111 : decode cX13_make 111 = .ok (.putfield 165, 3) := by decide +kernel
theorem dX13_make_114 : decode cX13_make 114 = .ok (.aload_n 0, 1) := by decide +kernel
theorem dX13_make_115 : decode cX13_make 115 = .ok (.getfield 135, 3) := by decide +kernel
theorem dX13_make_118 : decode cX13_make 118 = .ok (.iload 4, 2) := by decide +kernel
theorem dX13_make_120 : decode cX13_make 120 = .ok (.iload_n 1, 1) := by decide +kernel
theorem dX13_make_121 : decode cX13_make 121 = .ok (.iconst 1, 1) := by decide +kernel
theorem dX13_make_122 : decode cX13_make 122 = .ok (.iadd, 1) := by decide +kernel
theorem dX13_make_123 : decode cX13_make 123 = .ok (.iastore, 1) := by decide +kernel
theorem dX13_make_124 : decode cX13_make 124 = .ok (.aload_n 0, 1) := by decide +kernel
theorem dX13_make_125 : decode cX13_make 125 = .ok (.getfield 138, 3) := by decide +kernel
theorem dX13_make_128 : decode cX13_make 128 = .ok (.iload 4, 2) := by decide +kernel
theorem dX13_make_130 : decode cX13_make 130 = .ok (.iload_n 1, 1) := by decide +kernel
theorem dX13_make_131 : decode cX13_make 131 = .ok (.ifCond .eq 15, 3) := by decide +kernel
theorem dX13_make_134 : decode cX13_make 134 = .ok (.iload_n 1, 1) := by decide +kernel
theorem dX13_make_135 : decode cX13_make 135 = .ok (.bipush 6, 2) := by decide +kernel
theorem dX13_make_137 : decode cX13_make 137 = .ok (.if_icmp .eq 9, 3) := by decide +kernel
theorem dX13_make_140 : decode cX13_make 140 = .ok (.iload_n 1, 1) := by decide +kernel
theorem dX13_make_141 : decode cX13_make 141 = .ok (.bipush 7, 2) := by decide +kernel
theorem dX13_make_143 : decode cX13_make 143 = .ok (.if_icmp .ne 7, 3) := by decide +kernel
theorem dX13_make_146 : decode cX13_make 146 = .ok (.iconst 0, 1) := by decide +kernel
theorem dX13_make_147 : decode cX13_make 147 = .ok (.goto 4, 3) := by decide +kernel
theorem dX13_make_150 : decode cX13_make 150 = .ok (.iload_n 2, 1) := by decide +kernel
theorem dX13_make_151 : decode cX13_make 151 = .ok (.iastore, 1) := by decide +kernel
theorem dX13_make_152 : decode cX13_make 152 = .ok (.aload_n 0, 1) := by decide +kernel
theorem dX13_make_153 : decode cX13_make 153 = .ok (.getfield 141, 3) := by decide +kernel
theorem dX13_make_156 : decode cX13_make 156 = .ok (.iload 4, 2) := by decide +kernel
theorem dX13_make_158 : decode cX13_make 158 = .ok (.iload_n 1, 1) := by decide +kernel
theorem dX13_make_159 : decode cX13_make 159 = .ok (.ifCond .ne 7, 3) := by decide +kernel
theorem dX13_make_162 : decode cX13_make 162 = .ok (.iload_n 2, 1) := by decide +kernel
theorem dX13_make_163 : decode cX13_make 163 = .ok (.goto 4, 3) := by decide +kernel
theorem dX13_make_166 : decode cX13_make 166 = .ok (.iconst 0, 1) := by decide +kernel
theorem dX13_make_167 : decode cX13_make 167 = .ok (.iastore, 1) := by decide +kernel
theorem dX13_make_168 : decode cX13_make 168 = .ok (.aload_n 0, 1) := by decide +kernel
theorem dX13_make_169 : decode cX13_make 169 = .ok (.getfield 144, 3) := by decide +kernel
theorem dX13_make_172 : decode cX13_make 172 = .ok (.iload 4, 2) := by decide +kernel
theorem dX13_make_174 : decode cX13_make 174 = .ok (.iconst (-1), 1) := by decide +kernel
theorem dX13_make_175 : decode cX13_make 175 = .ok (.iastore, 1) := by decide +kernel
theorem dX13_make_176 : decode cX13_make 176 = .ok (.aload_n 0, 1) := by decide +kernel
theorem dX13_make_177 : decode cX13_make 177 = .ok (.getfield 150, 3) := by decide +kernel
theorem dX13_make_180 : decode cX13_make 180 = .ok (.iload 4, 2) := by decide +kernel
theorem dX13_make_182 : decode cX13_make 182 = .ok (.iconst 0, 1) := by decide +kernel
theorem dX13_make_183 : decode cX13_make 183 = .ok (.iastore, 1) := by decide +kernel
theorem dX13_make_184 : decode cX13_make 184 = .ok (.aload_n 0, 1) := by decide +kernel
theorem dX13_make_185 : decode cX13_make 185 = .ok (.getfield 156, 3) := by decide +kernel
theorem dX13_make_188 : decode cX13_make 188 = .ok (.iload 4, 2) := by decide +kernel
theorem dX13_make_190 : decode cX13_make 190 = .ok (.iconst 0, 1) := by decide +kernel
theorem dX13_make_191 : decode cX13_make 191 = .ok (.iastore, 1) := by decide +kernel
theorem dX13_make_192 : decode cX13_make 192 = .ok (.aload_n 0, 1) := by decide +kernel
theorem dX13_make_193 : decode cX13_make 193 = .ok (.getfield 162, 3) := by decide +kernel
theorem dX13_make_196 : decode cX13_make 196 = .ok (.iload 4, 2) := by decide +kernel
theorem dX13_make_198 : decode cX13_make 198 = .ok (.iconst 0, 1) := by decide +kernel
theorem dX13_make_199 : decode cX13_make 199 = .ok (.iastore, 1) := by decide +kernel
theorem dX13_make_200 : decode cX13_make 200 = .ok (.iload 4, 2) := by decide +kernel
theorem dX13_make_202 : decode cX13_make 202 = .ok (.ireturn, 1) := by decide +kernel
theorem dX13_objects_0 : decode cX13_objects 0 = .ok (.iconst 0, 1) := by decide +kernel
theorem dX13_objects_1 : decode cX13_objects 1 = .ok (.istore_n 1, 1) := by decide +kernel
theorem dX13_objects_2 : decode cX13_objects 2 = .ok (.iconst 0, 1) := by decide +kernel
theorem dX13_objects_3 : decode cX13_objects 3 = .ok (.istore_n 2, 1) := by decide +kernel
theorem dX13_objects_4 : decode cX13_objects 4 = .ok (.iload_n 2, 1) := by decide +kernel
theorem dX13_objects_5 : decode cX13_objects 5 = .ok (.bipush 24, 2) := by decide +kernel
theorem dX13_objects_7 : decode cX13_objects 7 = .ok (.if_icmp .ge 26, 3) := by decide +kernel
theorem dX13_objects_10 : decode cX13_objects 10 = .ok (.iload_n 1, 1) := by decide +kernel
theorem dX13_objects_11 : decode cX13_objects 11 = .ok (.aload_n 0, 1) := by decide +kernel
theorem dX13_objects_12 : decode cX13_objects 12 = .ok (.getfield 135, 3) := by decide +kernel
theorem dX13_objects_15 : decode cX13_objects 15 = .ok (.iload_n 2, 1) := by decide +kernel
theorem dX13_objects_16 : decode cX13_objects 16 = .ok (.iaload, 1) := by decide +kernel
theorem dX13_objects_17 : decode cX13_objects 17 = .ok (.ifCond .eq 7, 3) := by decide +kernel
theorem dX13_objects_20 : decode cX13_objects 20 = .ok (.iconst 1, 1) := by decide +kernel
theorem dX13_objects_21 : decode cX13_objects 21 = .ok (.goto 4, 3) := by decide +kernel
theorem dX13_objects_24 : decode cX13_objects 24 = .ok (.iconst 0, 1) := by decide +kernel
theorem dX13_objects_25 : decode cX13_objects 25 = .ok (.iadd, 1) := by decide +kernel
theorem dX13_objects_26 : decode cX13_objects 26 = .ok (.istore_n 1, 1) := by decide +kernel
theorem dX13_objects_27 : decode cX13_objects 27 = .ok (.iinc 2 1, 3) := by decide +kernel
theorem dX13_objects_30 : decode cX13_objects 30 = .ok (.goto (-26), 3) := by decide +kernel
theorem dX13_objects_33 : decode cX13_objects 33 = .ok (.iload_n 1, 1) := by decide +kernel
theorem dX13_objects_34 : decode cX13_objects 34 = .ok (.ireturn, 1) := by decide +kernel
theorem dX13_drop_0 : decode cX13_drop 0 = .ok (.aload_n 0, 1) := by decide +kernel
theorem dX13_drop_1 : decode cX13_drop 1 = .ok (.iload_n 1, 1) := by decide +kernel
theorem dX13_drop_2 : decode cX13_drop 2 = .ok (.invokevirtual 219, 3) := by decide +kernel
theorem dX13_drop_5 : decode cX13_drop 5 = .ok (.ifCond .ne 9, 3) := by decide +kernel
theorem dX13_drop_8 : decode cX13_drop 8 = .ok (.aload_n 0, 1) := by decide +kernel
theorem dX13_drop_9 : decode cX13_drop 9 = .ok (.iconst 1, 1) := by decide +kernel
end
section
theorem dX13_drop_10 : decode cX13_drop 10 = .ok (.invokevirtual 171, 3) := by decide +kernel
theorem dX13_drop_13 : decode cX13_drop 13 = .ok (.ireturn, 1) := by decide +kernel
theorem dX13_drop_14 : decode cX13_drop 14 = .ok (.aload_n 0, 1) := by decide +kernel
theorem dX13_drop_15 : decode cX13_drop 15 = .ok (.getfield 150, 3) := by decide +kernel
theorem dX13_drop_18 : decode cX13_drop 18 = .ok (.iload_n 1, 1) := by decide +kernel
theorem dX13_drop_19 : decode cX13_drop 19 = .ok (.iaload, 1) := by decide +kernel
theorem dX13_drop_20 : decode cX13_drop 20 = .ok (.ifCond .gt 12, 3) := by decide +kernel
theorem dX13_drop_23 : decode cX13_drop 23 = .ok (.aload_n 0, 1) := by decide +kernel
theorem dX13_drop_24 : decode cX13_drop 24 = .ok (.getfield 156, 3) := by decide +kernel
theorem dX13_drop_27 : decode cX13_drop 27 = .ok (.iload_n 1, 1) := by decide +kernel
theorem dX13_drop_28 : decode cX13_drop 28 = .ok (.iaload, 1) := by decide +kernel
theorem dX13_drop_29 : decode cX13_drop 29 = .ok (.ifCond .le 9, 3) := by decide +kernel
theorem dX13_drop_32 : decode cX13_drop 32 = .ok (.aload_n 0, 1) := by decide +kernel
theorem dX13_drop_33 : decode cX13_drop 33 = .ok (.iconst 2, 1) := by decide +kernel
theorem dX13_drop_34 : decode cX13_drop 34 = .ok (.invokevirtual 171, 3) := by decide +kernel
theorem dX13_drop_37 : decode cX13_drop 37 = .ok (.ireturn, 1) := by decide +kernel
theorem dX13_drop_38 : decode cX13_drop 38 = .ok (.aload_n 0, 1) := by decide +kernel
theorem dX13_drop_39 : decode cX13_drop 39 = .ok (.iconst 0, 1) := by decide +kernel
theorem dX13_drop_40 : decode cX13_drop 40 = .ok (.putfield 165, 3) := by decide +kernel
theorem dX13_drop_43 : decode cX13_drop 43 = .ok (.aload_n 0, 1) := by decide +kernel
theorem dX13_drop_44 : decode cX13_drop 44 = .ok (.getfield 135, 3) := by decide +kernel
theorem dX13_drop_47 : decode cX13_drop 47 = .ok (.iload_n 1, 1) := by decide +kernel
theorem dX13_drop_48 : decode cX13_drop 48 = .ok (.iconst 0, 1) := by decide +kernel
theorem dX13_drop_49 : decode cX13_drop 49 = .ok (.iastore, 1) := by decide +kernel
theorem dX13_drop_50 : decode cX13_drop 50 = .ok (.aload_n 0, 1) := by decide +kernel
theorem dX13_drop_51 : decode cX13_drop 51 = .ok (.invokevirtual 223, 3) := by decide +kernel
theorem dX13_drop_54 : decode cX13_drop 54 = .ok (.ireturn, 1) := by decide +kernel
theorem dX13_thread_0 : decode cX13_thread 0 = .ok (.aload_n 0, 1) := by decide +kernel
theorem dX13_thread_1 : decode cX13_thread 1 = .ok (.invokevirtual 226, 3) := by decide +kernel
theorem dX13_thread_4 : decode cX13_thread 4 = .ok (.aload_n 0, 1) := by decide +kernel
theorem dX13_thread_5 : decode cX13_thread 5 = .ok (.aload_n 0, 1) := by decide +kernel
theorem dX13_thread_6 : decode cX13_thread 6 = .ok (.getfield 186, 3) := by decide +kernel
theorem dX13_thread_9 : decode cX13_thread 9 = .ok (.putfield 13, 3) := by decide +kernel
theorem dX13_thread_12 : decode cX13_thread 12 = .ok (.aload_n 0, 1) := by decide +kernel
theorem dX13_thread_13 : decode cX13_thread 13 = .ok (.getfield 186, 3) := by decide +kernel
theorem dX13_thread_16 : decode cX13_thread 16 = .ok (.ifCond .lt 9, 3) := by decide +kernel
theorem dX13_thread_19 : decode cX13_thread 19 = .ok (.aload_n 0, 1) := by decide +kernel
theorem dX13_thread_20 : decode cX13_thread 20 = .ok (.iconst 2, 1) := by decide +kernel
theorem dX13_thread_21 : decode cX13_thread 21 = .ok (.invokevirtual 171, 3) := by decide +kernel
theorem dX13_thread_24 : decode cX13_thread 24 = .ok (.ireturn, 1) := by decide +kernel
theorem dX13_thread_25 : decode cX13_thread 25 = .ok (.iconst 0, 1) := by decide +kernel
theorem dX13_thread_26 : decode cX13_thread 26 = .ok (.istore_n 1, 1) := by decide +kernel
theorem dX13_thread_27 : decode cX13_thread 27 = .ok (.iload_n 1, 1) := by decide +kernel
theorem dX13_thread_28 : decode cX13_thread 28 = .ok (.bipush 8, 2) := by decide +kernel
theorem dX13_thread_30 : decode cX13_thread 30 = .ok (.if_icmp .ge 23, 3) := by decide +kernel
theorem dX13_thread_33 : decode cX13_thread 33 = .ok (.aload_n 0, 1) := by decide +kernel
theorem dX13_thread_34 : decode cX13_thread 34 = .ok (.getfield 98, 3) := by decide +kernel
theorem dX13_thread_37 : decode cX13_thread 37 = .ok (.iload_n 1, 1) := by decide +kernel
theorem dX13_thread_38 : decode cX13_thread 38 = .ok (.iaload, 1) := by decide +kernel
theorem dX13_thread_39 : decode cX13_thread 39 = .ok (.iconst 1, 1) := by decide +kernel
theorem dX13_thread_40 : decode cX13_thread 40 = .ok (.iconst 3, 1) := by decide +kernel
theorem dX13_thread_41 : decode cX13_thread 41 = .ok (.invokestatic 179, 3) := by decide +kernel
theorem dX13_thread_44 : decode cX13_thread 44 = .ok (.ifCond .eq 9, 3) := by decide +kernel
theorem dX13_thread_47 : decode cX13_thread 47 = .ok (.iinc 1 1, 3) := by decide +kernel
theorem dX13_thread_50 : decode cX13_thread 50 = .ok (.goto (-23), 3) := by decide +kernel
theorem dX13_thread_53 : decode cX13_thread 53 = .ok (.iload_n 1, 1) := by decide +kernel
theorem dX13_thread_54 : decode cX13_thread 54 = .ok (.bipush 8, 2) := by decide +kernel
theorem dX13_thread_56 : decode cX13_thread 56 = .ok (.if_icmp .ne 9, 3) := by decide +kernel
theorem dX13_thread_59 : decode cX13_thread 59 = .ok (.aload_n 0, 1) := by decide +kernel
theorem dX13_thread_60 : decode cX13_thread 60 = .ok (.iconst 1, 1) := by decide +kernel
theorem dX13_thread_61 : decode cX13_thread 61 = .ok (.invokevirtual 171, 3) := by decide +kernel
theorem dX13_thread_64 : decode cX13_thread 64 = .ok (.ireturn, 1) := by decide +kernel
theorem dX13_thread_65 : decode cX13_thread 65 = .ok (.aload_n 0, 1) := by decide +kernel
theorem dX13_thread_66 : decode cX13_thread 66 = .ok (.iconst 0, 1) := by decide +kernel
theorem dX13_thread_67 : decode cX13_thread 67 = .ok (.putfield 165, 3) := by decide +kernel
theorem dX13_thread_70 : decode cX13_thread 70 = .ok (.iconst 0, 1) := by decide +kernel
theorem dX13_thread_71 : decode cX13_thread 71 = .ok (.istore_n 2, 1) := by decide +kernel
theorem dX13_thread_72 : decode cX13_thread 72 = .ok (.iload_n 2, 1) := by decide +kernel
theorem dX13_thread_73 : decode cX13_thread 73 = .ok (.iconst 4, 1) := by decide +kernel
theorem dX13_thread_74 : decode cX13_thread 74 = .ok (.aload_n 0, 1) := by decide +kernel
theorem dX13_thread_75 : decode cX13_thread 75 = .ok (.getfield 208, 3) := by decide +kernel
theorem dX13_thread_78 : decode cX13_thread 78 = .ok (.imul, 1) := by decide +kernel
theorem dX13_thread_79 : decode cX13_thread 79 = .ok (.if_icmp .ge 27, 3) := by decide +kernel
theorem dX13_thread_82 : decode cX13_thread 82 = .ok (.aload_n 0, 1) := by decide +kernel
theorem dX13_thread_83 : decode cX13_thread 83 = .ok (.getfield 92, 3) := by decide +kernel
theorem dX13_thread_86 : decode cX13_thread 86 = .ok (.sipush 240, 3) := by decide +kernel
theorem dX13_thread_89 : decode cX13_thread 89 = .ok (.iload_n 1, 1) := by decide +kernel
theorem dX13_thread_90 : decode cX13_thread 90 = .ok (.imul, 1) := by decide +kernel
theorem dX13_thread_91 : decode cX13_thread 91 = .ok (.iload_n 2, 1) := by decide +kernel
theorem dX13_thread_92 : decode cX13_thread 92 = .ok (.iadd, 1) := by decide +kernel
theorem dX13_thread_93 : decode cX13_thread 93 = .ok (.aload_n 0, 1) := by decide +kernel
theorem dX13_thread_94 : decode cX13_thread 94 = .ok (.getfield 89, 3) := by decide +kernel
theorem dX13_thread_97 : decode cX13_thread 97 = .ok (.iload_n 2, 1) := by decide +kernel
theorem dX13_thread_98 : decode cX13_thread 98 = .ok (.iaload, 1) := by decide +kernel
theorem dX13_thread_99 : decode cX13_thread 99 = .ok (.iastore, 1) := by decide +kernel
theorem dX13_thread_100 : decode cX13_thread 100 = .ok (.iinc 2 1, 3) := by decide +kernel
theorem dX13_thread_103 : decode cX13_thread 103 = .ok (.goto (-31), 3) := by decide +kernel
theorem dX13_thread_106 : decode cX13_thread 106 = .ok (.aload_n 0, 1) := by decide +kernel
theorem dX13_thread_107 : decode cX13_thread 107 = .ok (.getfield 95, 3) := by decide +kernel
theorem dX13_thread_110 : decode cX13_thread 110 = .ok (.iload_n 1, 1) := by decide +kernel
theorem dX13_thread_111 : decode cX13_thread 111 = .ok (.aload_n 0, 1) := by decide +kernel
theorem dX13_thread_112 : decode cX13_thread 112 = .ok (.getfield 208, 3) := by decide +kernel
theorem dX13_thread_115 : decode cX13_thread 115 = .ok (.iastore, 1) := by decide +kernel
theorem dX13_thread_116 : decode cX13_thread 116 = .ok (.aload_n 0, 1) := by decide +kernel
theorem dX13_thread_117 : decode cX13_thread 117 = .ok (.getfield 98, 3) := by decide +kernel
theorem dX13_thread_120 : decode cX13_thread 120 = .ok (.iload_n 1, 1) := by decide +kernel
theorem dX13_thread_121 : decode cX13_thread 121 = .ok (.iconst 1, 1) := by decide +kernel
theorem dX13_thread_122 : decode cX13_thread 122 = .ok (.iastore, 1) := by decide +kernel
theorem dX13_thread_123 : decode cX13_thread 123 = .ok (.aload_n 0, 1) := by decide +kernel
theorem dX13_thread_124 : decode cX13_thread 124 = .ok (.getfield 101, 3) := by decide +kernel
theorem dX13_thread_127 : decode cX13_thread 127 = .ok (.iload_n 1, 1) := by decide +kernel
theorem dX13_thread_128 : decode cX13_thread 128 = .ok (.iconst 0, 1) := by decide +kernel
theorem dX13_thread_129 : decode cX13_thread 129 = .ok (.iastore, 1) := by decide +kernel
theorem dX13_thread_130 : decode cX13_thread 130 = .ok (.aload_n 0, 1) := by decide +kernel
theorem dX13_thread_131 : decode cX13_thread 131 = .ok (.getfield 104, 3) := by decide +kernel
theorem dX13_thread_134 : decode cX13_thread 134 = .ok (.iload_n 1, 1) := by decide +kernel
theorem dX13_thread_135 : decode cX13_thread 135 = .ok (.iconst 0, 1) := by decide +kernel
theorem dX13_thread_136 : decode cX13_thread 136 = .ok (.iastore, 1) := by decide +kernel
theorem dX13_thread_137 : decode cX13_thread 137 = .ok (.aload_n 0, 1) := by decide +kernel
theorem dX13_thread_138 : decode cX13_thread 138 = .ok (.getfield 107, 3) := by decide +kernel
theorem dX13_thread_141 : decode cX13_thread 141 = .ok (.iload_n 1, 1) := by decide +kernel
theorem dX13_thread_142 : decode cX13_thread 142 = .ok (.iconst (-1), 1) := by decide +kernel
theorem dX13_thread_143 : decode cX13_thread 143 = .ok (.iastore, 1) := by decide +kernel
theorem dX13_thread_144 : decode cX13_thread 144 = .ok (.aload_n 0, 1) := by decide +kernel
theorem dX13_thread_145 : decode cX13_thread 145 = .ok (.getfield 110, 3) := by decide +kernel
theorem dX13_thread_148 : decode cX13_thread 148 = .ok (.iload_n 1, 1) := by decide +kernel
theorem dX13_thread_149 : decode cX13_thread 149 = .ok (.iconst 0, 1) := by decide +kernel
theorem dX13_thread_150 : decode cX13_thread 150 = .ok (.iastore, 1) := by decide +kernel
theorem dX13_thread_151 : decode cX13_thread 151 = .ok (.aload_n 0, 1) := by decide +kernel
theorem dX13_thread_152 : decode cX13_thread 152 = .ok (.getfield 119, 3) := by decide +kernel
theorem dX13_thread_155 : decode cX13_thread 155 = .ok (.iload_n 1, 1) := by decide +kernel
theorem dX13_thread_156 : decode cX13_thread 156 = .ok (.iconst 0, 1) := by decide +kernel
theorem dX13_thread_157 : decode cX13_thread 157 = .ok (.bastore, 1) := by decide +kernel
theorem dX13_thread_158 : decode cX13_thread 158 = .ok (.aload_n 0, 1) := by decide +kernel
theorem dX13_thread_159 : decode cX13_thread 159 = .ok (.getfield 123, 3) := by decide +kernel
theorem dX13_thread_162 : decode cX13_thread 162 = .ok (.iload_n 1, 1) := by decide +kernel
theorem dX13_thread_163 : decode cX13_thread 163 = .ok (.iconst 0, 1) := by decide +kernel
theorem dX13_thread_164 : decode cX13_thread 164 = .ok (.bastore, 1) := by decide +kernel
theorem dX13_thread_165 : decode cX13_thread 165 = .ok (.aload_n 0, 1) := by decide +kernel
theorem dX13_thread_166 : decode cX13_thread 166 = .ok (.getfield 126, 3) := by decide +kernel
theorem dX13_thread_169 : decode cX13_thread 169 = .ok (.iload_n 1, 1) := by decide +kernel
theorem dX13_thread_170 : decode cX13_thread 170 = .ok (.iconst 0, 1) := by decide +kernel
theorem dX13_thread_171 : decode cX13_thread 171 = .ok (.bastore, 1) := by decide +kernel
theorem dX13_thread_172 : decode cX13_thread 172 = .ok (.iload_n 1, 1) := by decide +kernel
theorem dX13_thread_173 : decode cX13_thread 173 = .ok (.ireturn, 1) := by decide +kernel
theorem dX13_part_0 : decode cX13_part 0 = .ok (.aload_n 0, 1) := by decide +kernel
theorem dX13_part_1 : decode cX13_part 1 = .ok (.getfield 92, 3) := by decide +kernel
theorem dX13_part_4 : decode cX13_part 4 = .ok (.sipush 240, 3) := by decide +kernel
theorem dX13_part_7 : decode cX13_part 7 = .ok (.iload_n 1, 1) := by decide +kernel
theorem dX13_part_8 : decode cX13_part 8 = .ok (.imul, 1) := by decide +kernel
theorem dX13_part_9 : decode cX13_part 9 = .ok (.iconst 4, 1) := by decide +kernel
theorem dX13_part_10 : decode cX13_part 10 = .ok (.aload_n 0, 1) := by decide +kernel
theorem dX13_part_11 : decode cX13_part 11 = .ok (.getfield 104, 3) := by decide +kernel
theorem dX13_part_14 : decode cX13_part 14 = .ok (.iload_n 1, 1) := by decide +kernel
theorem dX13_part_15 : decode cX13_part 15 = .ok (.iaload, 1) := by decide +kernel
theorem dX13_part_16 : decode cX13_part 16 = .ok (.imul, 1) := by decide +kernel
theorem dX13_part_17 : decode cX13_part 17 = .ok (.iadd, 1) := by decide +kernel
theorem dX13_part_18 : decode cX13_part 18 = .ok (.iload_n 2, 1) := by decide +kernel
theorem dX13_part_19 : decode cX13_part 19 = .ok (.iadd, 1) := by decide +kernel
theorem dX13_part_20 : decode cX13_part 20 = .ok (.iaload, 1) := by decide +kernel
theorem dX13_part_21 : decode cX13_part 21 = .ok (.ireturn, 1) := by decide +kernel
theorem dX13_waitFor_0 : decode cX13_waitFor 0 = .ok (.aload_n 0, 1) := by decide +kernel
theorem dX13_waitFor_1 : decode cX13_waitFor 1 = .ok (.getfield 98, 3) := by decide +kernel
theorem dX13_waitFor_4 : decode cX13_waitFor 4 = .ok (.iload_n 1, 1) := by decide +kernel
theorem dX13_waitFor_5 : decode cX13_waitFor 5 = .ok (.iconst 2, 1) := by decide +kernel
theorem dX13_waitFor_6 : decode cX13_waitFor 6 = .ok (.iastore, 1) := by decide +kernel
theorem dX13_waitFor_7 : decode cX13_waitFor 7 = .ok (.aload_n 0, 1) := by decide +kernel
theorem dX13_waitFor_8 : decode cX13_waitFor 8 = .ok (.getfield 107, 3) := by decide +kernel
theorem dX13_waitFor_11 : decode cX13_waitFor 11 = .ok (.iload_n 1, 1) := by decide +kernel
theorem dX13_waitFor_12 : decode cX13_waitFor 12 = .ok (.iload_n 2, 1) := by decide +kernel
theorem dX13_waitFor_13 : decode cX13_waitFor 13 = .ok (.iastore, 1) := by decide +kernel
theorem dX13_waitFor_14 : decode cX13_waitFor 14 = .ok (.aload_n 0, 1) := by decide +kernel
theorem dX13_waitFor_15 : decode cX13_waitFor 15 = .ok (.getfield 147, 3) := by decide +kernel
theorem dX13_waitFor_18 : decode cX13_waitFor 18 = .ok (.bipush 8, 2) := by decide +kernel
theorem dX13_waitFor_20 : decode cX13_waitFor 20 = .ok (.iload_n 2, 1) := by decide +kernel
theorem dX13_waitFor_21 : decode cX13_waitFor 21 = .ok (.imul, 1) := by decide +kernel
theorem dX13_waitFor_22 : decode cX13_waitFor 22 = .ok (.aload_n 0, 1) := by decide +kernel
theorem dX13_waitFor_23 : decode cX13_waitFor 23 = .ok (.getfield 150, 3) := by decide +kernel
theorem dX13_waitFor_26 : decode cX13_waitFor 26 = .ok (.iload_n 2, 1) := by decide +kernel
theorem dX13_waitFor_27 : decode cX13_waitFor 27 = .ok (.iaload, 1) := by decide +kernel
theorem dX13_waitFor_28 : decode cX13_waitFor 28 = .ok (.iadd, 1) := by decide +kernel
theorem dX13_waitFor_29 : decode cX13_waitFor 29 = .ok (.iload_n 1, 1) := by decide +kernel
theorem dX13_waitFor_30 : decode cX13_waitFor 30 = .ok (.iastore, 1) := by decide +kernel
theorem dX13_waitFor_31 : decode cX13_waitFor 31 = .ok (.aload_n 0, 1) := by decide +kernel
theorem dX13_waitFor_32 : decode cX13_waitFor 32 = .ok (.getfield 150, 3) := by decide +kernel
theorem dX13_waitFor_35 : decode cX13_waitFor 35 = .ok (.iload_n 2, 1) := by decide +kernel
theorem dX13_waitFor_36 : decode cX13_waitFor 36 = .ok (.dup2, 1) := by decide +kernel
theorem dX13_waitFor_37 : decode cX13_waitFor 37 = .ok (.iaload, 1) := by decide +kernel
theorem dX13_waitFor_38 : decode cX13_waitFor 38 = .ok (.iconst 1, 1) := by decide +kernel
theorem dX13_waitFor_39 : decode cX13_waitFor 39 = .ok (.iadd, 1) := by decide +kernel
theorem dX13_waitFor_40 : decode cX13_waitFor 40 = .ok (.iastore, 1) := by decide +kernel
theorem dX13_waitFor_41 : decode cX13_waitFor 41 = .ok (.return_, 1) := by decide +kernel
theorem dX13_leaves_0 : decode cX13_leaves 0 = .ok (.iconst 0, 1) := by decide +kernel
theorem dX13_leaves_1 : decode cX13_leaves 1 = .ok (.istore_n 3, 1) := by decide +kernel
theorem dX13_leaves_2 : decode cX13_leaves 2 = .ok (.iconst 0, 1) := by decide +kernel
theorem dX13_leaves_3 : decode cX13_leaves 3 = .ok (.istore 4, 2) := by decide +kernel
theorem dX13_leaves_5 : decode cX13_leaves 5 = .ok (.iload 4, 2) := by decide +kernel
theorem dX13_leaves_7 : decode cX13_leaves 7 = .ok (.aload_n 0, 1) := by decide +kernel
theorem dX13_leaves_8 : decode cX13_leaves 8 = .ok (.getfield 150, 3) := by decide +kernel
theorem dX13_leaves_11 : decode cX13_leaves 11 = .ok (.iload_n 1, 1) := by decide +kernel
theorem dX13_leaves_12 : decode cX13_leaves 12 = .ok (.iaload, 1) := by decide +kernel
theorem dX13_leaves_13 : decode cX13_leaves 13 = .ok (.if_icmp .ge 54, 3) := by decide +kernel
theorem dX13_leaves_16 : decode cX13_leaves 16 = .ok (.aload_n 0, 1) := by decide +kernel
theorem dX13_leaves_17 : decode cX13_leaves 17 = .ok (.getfield 147, 3) := by decide +kernel
theorem dX13_leaves_20 : decode cX13_leaves 20 = .ok (.bipush 8, 2) := by decide +kernel
theorem dX13_leaves_22 : decode cX13_leaves 22 = .ok (.iload_n 1, 1) := by decide +kernel
theorem dX13_leaves_23 : decode cX13_leaves 23 = .ok (.imul, 1) := by decide +kernel
theorem dX13_leaves_24 : decode cX13_leaves 24 = .ok (.iload 4, 2) := by decide +kernel
theorem dX13_leaves_26 : decode cX13_leaves 26 = .ok (.iadd, 1) := by decide +kernel
theorem dX13_leaves_27 : decode cX13_leaves 27 = .ok (.iaload, 1) := by decide +kernel
theorem dX13_leaves_28 : decode cX13_leaves 28 = .ok (.iload_n 2, 1) := by decide +kernel
theorem dX13_leaves_29 : decode cX13_leaves 29 = .ok (.if_icmp .ne 6, 3) := by decide +kernel
theorem dX13_leaves_32 : decode cX13_leaves 32 = .ok (.goto 29, 3) := by decide +kernel
theorem dX13_leaves_35 : decode cX13_leaves 35 = .ok (.aload_n 0, 1) := by decide +kernel
theorem dX13_leaves_36 : decode cX13_leaves 36 = .ok (.getfield 147, 3) := by decide +kernel
theorem dX13_leaves_39 : decode cX13_leaves 39 = .ok (.bipush 8, 2) := by decide +kernel
theorem dX13_leaves_41 : decode cX13_leaves 41 = .ok (.iload_n 1, 1) := by decide +kernel
theorem dX13_leaves_42 : decode cX13_leaves 42 = .ok (.imul, 1) := by decide +kernel
theorem dX13_leaves_43 : decode cX13_leaves 43 = .ok (.iload_n 3, 1) := by decide +kernel
theorem dX13_leaves_44 : decode cX13_leaves 44 = .ok (.iadd, 1) := by decide +kernel
theorem dX13_leaves_45 : decode cX13_leaves 45 = .ok (.aload_n 0, 1) := by decide +kernel
theorem dX13_leaves_46 : decode cX13_leaves 46 = .ok (.getfield 147, 3) := by decide +kernel
theorem dX13_leaves_49 : decode cX13_leaves 49 = .ok (.bipush 8, 2) := by decide +kernel
theorem dX13_leaves_51 : decode cX13_leaves 51 = .ok (.iload_n 1, 1) := by decide +kernel
theorem dX13_leaves_52 : decode cX13_leaves 52 = .ok (.imul, 1) := by decide +kernel
theorem dX13_leaves_53 : decode cX13_leaves 53 = .ok (.iload 4, 2) := by decide +kernel
theorem dX13_leaves_55 : decode cX13_leaves 55 = .ok (.iadd, 1) := by decide +kernel
theorem dX13_leaves_56 : decode cX13_leaves 56 = .ok (.iaload, 1) := by decide +kernel
theorem dX13_leaves_57 : decode cX13_leaves 57 = .ok (.iastore, 1) := by decide +kernel
theorem dX13_leaves_58 : decode cX13_leaves 58 = .ok (.iinc 3 1, 3) := by decide +kernel
theorem dX13_leaves_61 : decode cX13_leaves 61 = .ok (.iinc 4 1, 3) := by decide +kernel
theorem dX13_leaves_64 : decode cX13_leaves 64 = .ok (.goto (-59), 3) := by decide +kernel
theorem dX13_leaves_67 : decode cX13_leaves 67 = .ok (.aload_n 0, 1) := by decide +kernel
theorem dX13_leaves_68 : decode cX13_leaves 68 = .ok (.getfield 150, 3) := by decide +kernel
theorem dX13_leaves_71 : decode cX13_leaves 71 = .ok (.iload_n 1, 1) := by decide +kernel
theorem dX13_leaves_72 : decode cX13_leaves 72 = .ok (.iload_n 3, 1) := by decide +kernel
theorem dX13_leaves_73 : decode cX13_leaves 73 = .ok (.iastore, 1) := by decide +kernel
theorem dX13_leaves_74 : decode cX13_leaves 74 = .ok (.return_, 1) := by decide +kernel
theorem dX13_goesOn_0 : decode cX13_goesOn 0 = .ok (.aload_n 0, 1) := by decide +kernel
theorem dX13_goesOn_1 : decode cX13_goesOn 1 = .ok (.getfield 107, 3) := by decide +kernel
theorem dX13_goesOn_4 : decode cX13_goesOn 4 = .ok (.iload_n 1, 1) := by decide +kernel
theorem dX13_goesOn_5 : decode cX13_goesOn 5 = .ok (.iconst (-1), 1) := by decide +kernel
theorem dX13_goesOn_6 : decode cX13_goesOn 6 = .ok (.iastore, 1) := by decide +kernel
theorem dX13_goesOn_7 : decode cX13_goesOn 7 = .ok (.aload_n 0, 1) := by decide +kernel
theorem dX13_goesOn_8 : decode cX13_goesOn 8 = .ok (.getfield 104, 3) := by decide +kernel
theorem dX13_goesOn_11 : decode cX13_goesOn 11 = .ok (.iload_n 1, 1) := by decide +kernel
theorem dX13_goesOn_12 : decode cX13_goesOn 12 = .ok (.dup2, 1) := by decide +kernel
theorem dX13_goesOn_13 : decode cX13_goesOn 13 = .ok (.iaload, 1) := by decide +kernel
theorem dX13_goesOn_14 : decode cX13_goesOn 14 = .ok (.iconst 1, 1) := by decide +kernel
theorem dX13_goesOn_15 : decode cX13_goesOn 15 = .ok (.iadd, 1) := by decide +kernel
theorem dX13_goesOn_16 : decode cX13_goesOn 16 = .ok (.iastore, 1) := by decide +kernel
theorem dX13_goesOn_17 : decode cX13_goesOn 17 = .ok (.aload_n 0, 1) := by decide +kernel
theorem dX13_goesOn_18 : decode cX13_goesOn 18 = .ok (.getfield 98, 3) := by decide +kernel
theorem dX13_goesOn_21 : decode cX13_goesOn 21 = .ok (.iload_n 1, 1) := by decide +kernel
theorem dX13_goesOn_22 : decode cX13_goesOn 22 = .ok (.aload_n 0, 1) := by decide +kernel
theorem dX13_goesOn_23 : decode cX13_goesOn 23 = .ok (.getfield 104, 3) := by decide +kernel
theorem dX13_goesOn_26 : decode cX13_goesOn 26 = .ok (.iload_n 1, 1) := by decide +kernel
theorem dX13_goesOn_27 : decode cX13_goesOn 27 = .ok (.iaload, 1) := by decide +kernel
theorem dX13_goesOn_28 : decode cX13_goesOn 28 = .ok (.aload_n 0, 1) := by decide +kernel
theorem dX13_goesOn_29 : decode cX13_goesOn 29 = .ok (.getfield 95, 3) := by decide +kernel
theorem dX13_goesOn_32 : decode cX13_goesOn 32 = .ok (.iload_n 1, 1) := by decide +kernel
theorem dX13_goesOn_33 : decode cX13_goesOn 33 = .ok (.iaload, 1) := by decide +kernel
theorem dX13_goesOn_34 : decode cX13_goesOn 34 = .ok (.if_icmp .lt 7, 3) := by decide +kernel
theorem dX13_goesOn_37 : decode cX13_goesOn 37 = .ok (.iconst 4, 1) := by decide +kernel
theorem dX13_goesOn_38 : decode cX13_goesOn 38 = .ok (.goto 4, 3) := by decide +kernel
theorem dX13_goesOn_41 : decode cX13_goesOn 41 = .ok (.iconst 1, 1) := by decide +kernel
theorem dX13_goesOn_42 : decode cX13_goesOn 42 = .ok (.iastore, 1) := by decide +kernel
theorem dX13_goesOn_43 : decode cX13_goesOn 43 = .ok (.return_, 1) := by decide +kernel
theorem dX13_firstGoesOn_0 : decode cX13_firstGoesOn 0 = .ok (.aload_n 0, 1) := by decide +kernel
theorem dX13_firstGoesOn_1 : decode cX13_firstGoesOn 1 = .ok (.getfield 147, 3) := by decide +kernel
theorem dX13_firstGoesOn_4 : decode cX13_firstGoesOn 4 = .ok (.bipush 8, 2) := by decide +kernel
theorem dX13_firstGoesOn_6 : decode cX13_firstGoesOn 6 = .ok (.iload_n 1, 1) := by decide +kernel
theorem dX13_firstGoesOn_7 : decode cX13_firstGoesOn 7 = .ok (.imul, 1) := by decide +kernel
theorem dX13_firstGoesOn_8 : decode cX13_firstGoesOn 8 = .ok (.iaload, 1) := by decide +kernel
theorem dX13_firstGoesOn_9 : decode cX13_firstGoesOn 9 = .ok (.istore_n 2, 1) := by decide +kernel
theorem dX13_firstGoesOn_10 : decode cX13_firstGoesOn 10 = .ok (.aload_n 0, 1) := by decide +kernel
theorem dX13_firstGoesOn_11 : decode cX13_firstGoesOn 11 = .ok (.iload_n 1, 1) := by decide +kernel
theorem dX13_firstGoesOn_12 : decode cX13_firstGoesOn 12 = .ok (.iload_n 2, 1) := by decide +kernel
theorem dX13_firstGoesOn_13 : decode cX13_firstGoesOn 13 = .ok (.invokevirtual 229, 3) := by decide +kernel
theorem dX13_firstGoesOn_16 : decode cX13_firstGoesOn 16 = .ok (.aload_n 0, 1) := by decide +kernel
theorem dX13_firstGoesOn_17 : decode cX13_firstGoesOn 17 = .ok (.iload_n 2, 1) := by decide +kernel
theorem dX13_firstGoesOn_18 : decode cX13_firstGoesOn 18 = .ok (.invokevirtual 233, 3) := by decide +kernel
theorem dX13_firstGoesOn_21 : decode cX13_firstGoesOn 21 = .ok (.iload_n 2, 1) := by decide +kernel
theorem dX13_firstGoesOn_22 : decode cX13_firstGoesOn 22 = .ok (.ireturn, 1) := by decide +kernel
theorem dX13_fails_0 : decode cX13_fails 0 = .ok (.aload_n 0, 1) := by decide +kernel
theorem dX13_fails_1 : decode cX13_fails 1 = .ok (.getfield 98, 3) := by decide +kernel
theorem dX13_fails_4 : decode cX13_fails 4 = .ok (.iload_n 1, 1) := by decide +kernel
theorem dX13_fails_5 : decode cX13_fails 5 = .ok (.iconst 5, 1) := by decide +kernel
theorem dX13_fails_6 : decode cX13_fails 6 = .ok (.iastore, 1) := by decide +kernel
theorem dX13_fails_7 : decode cX13_fails 7 = .ok (.aload_n 0, 1) := by decide +kernel
theorem dX13_fails_8 : decode cX13_fails 8 = .ok (.getfield 110, 3) := by decide +kernel
theorem dX13_fails_11 : decode cX13_fails 11 = .ok (.iload_n 1, 1) := by decide +kernel
theorem dX13_fails_12 : decode cX13_fails 12 = .ok (.iload_n 2, 1) := by decide +kernel
theorem dX13_fails_13 : decode cX13_fails 13 = .ok (.iastore, 1) := by decide +kernel
theorem dX13_fails_14 : decode cX13_fails 14 = .ok (.iconst 0, 1) := by decide +kernel
theorem dX13_fails_15 : decode cX13_fails 15 = .ok (.ireturn, 1) := by decide +kernel
theorem dX13_has_0 : decode cX13_has 0 = .ok (.aload_n 0, 1) := by decide +kernel
theorem dX13_has_1 : decode cX13_has 1 = .ok (.getfield 144, 3) := by decide +kernel
theorem dX13_has_4 : decode cX13_has 4 = .ok (.iload_n 1, 1) := by decide +kernel
theorem dX13_has_5 : decode cX13_has 5 = .ok (.iload_n 2, 1) := by decide +kernel
theorem dX13_has_6 : decode cX13_has 6 = .ok (.iastore, 1) := by decide +kernel
theorem dX13_has_7 : decode cX13_has 7 = .ok (.aload_n 0, 1) := by decide +kernel
theorem dX13_has_8 : decode cX13_has 8 = .ok (.getfield 138, 3) := by decide +kernel
theorem dX13_has_11 : decode cX13_has 11 = .ok (.iload_n 1, 1) := by decide +kernel
theorem dX13_has_12 : decode cX13_has 12 = .ok (.aload_n 0, 1) := by decide +kernel
theorem dX13_has_13 : decode cX13_has 13 = .ok (.getfield 126, 3) := by decide +kernel
theorem dX13_has_16 : decode cX13_has 16 = .ok (.iload_n 2, 1) := by decide +kernel
theorem dX13_has_17 : decode cX13_has 17 = .ok (.baload, 1) := by decide +kernel
theorem dX13_has_18 : decode cX13_has 18 = .ok (.ifCond .eq 12, 3) := by decide +kernel
theorem dX13_has_21 : decode cX13_has 21 = .ok (.aload_n 0, 1) := by decide +kernel
theorem dX13_has_22 : decode cX13_has 22 = .ok (.getfield 113, 3) := by decide +kernel
theorem dX13_has_25 : decode cX13_has 25 = .ok (.iload_n 2, 1) := by decide +kernel
theorem dX13_has_26 : decode cX13_has 26 = .ok (.iaload, 1) := by decide +kernel
theorem dX13_has_27 : decode cX13_has 27 = .ok (.goto 4, 3) := by decide +kernel
theorem dX13_has_30 : decode cX13_has 30 = .ok (.iconst 1, 1) := by decide +kernel
theorem dX13_has_31 : decode cX13_has 31 = .ok (.iastore, 1) := by decide +kernel
theorem dX13_has_32 : decode cX13_has 32 = .ok (.aload_n 0, 1) := by decide +kernel
theorem dX13_has_33 : decode cX13_has 33 = .ok (.getfield 126, 3) := by decide +kernel
theorem dX13_has_36 : decode cX13_has 36 = .ok (.iload_n 2, 1) := by decide +kernel
theorem dX13_has_37 : decode cX13_has 37 = .ok (.baload, 1) := by decide +kernel
theorem dX13_has_38 : decode cX13_has 38 = .ok (.ifCond .eq 15, 3) := by decide +kernel
theorem dX13_has_41 : decode cX13_has 41 = .ok (.aload_n 0, 1) := by decide +kernel
theorem dX13_has_42 : decode cX13_has 42 = .ok (.getfield 101, 3) := by decide +kernel
theorem dX13_has_45 : decode cX13_has 45 = .ok (.iload_n 2, 1) := by decide +kernel
theorem dX13_has_46 : decode cX13_has 46 = .ok (.aload_n 0, 1) := by decide +kernel
theorem dX13_has_47 : decode cX13_has 47 = .ok (.getfield 116, 3) := by decide +kernel
theorem dX13_has_50 : decode cX13_has 50 = .ok (.iload_n 2, 1) := by decide +kernel
theorem dX13_has_51 : decode cX13_has 51 = .ok (.iaload, 1) := by decide +kernel
theorem dX13_has_52 : decode cX13_has 52 = .ok (.iastore, 1) := by decide +kernel
theorem dX13_has_53 : decode cX13_has 53 = .ok (.aload_n 0, 1) := by decide +kernel
theorem dX13_has_54 : decode cX13_has 54 = .ok (.getfield 126, 3) := by decide +kernel
theorem dX13_has_57 : decode cX13_has 57 = .ok (.iload_n 2, 1) := by decide +kernel
theorem dX13_has_58 : decode cX13_has 58 = .ok (.iconst 0, 1) := by decide +kernel
theorem dX13_has_59 : decode cX13_has 59 = .ok (.bastore, 1) := by decide +kernel
theorem dX13_has_60 : decode cX13_has 60 = .ok (.aload_n 0, 1) := by decide +kernel
theorem dX13_has_61 : decode cX13_has 61 = .ok (.iload_n 1, 1) := by decide +kernel
theorem dX13_has_62 : decode cX13_has 62 = .ok (.iload_n 2, 1) := by decide +kernel
theorem dX13_has_63 : decode cX13_has 63 = .ok (.invokevirtual 229, 3) := by decide +kernel
theorem dX13_has_66 : decode cX13_has 66 = .ok (.aload_n 0, 1) := by decide +kernel
theorem dX13_has_67 : decode cX13_has 67 = .ok (.iload_n 2, 1) := by decide +kernel
theorem dX13_has_68 : decode cX13_has 68 = .ok (.invokevirtual 233, 3) := by decide +kernel
theorem dX13_has_71 : decode cX13_has 71 = .ok (.return_, 1) := by decide +kernel
theorem dX13_freed_0 : decode cX13_freed 0 = .ok (.aload_n 0, 1) := by decide +kernel
theorem dX13_freed_1 : decode cX13_freed 1 = .ok (.getfield 144, 3) := by decide +kernel
theorem dX13_freed_4 : decode cX13_freed 4 = .ok (.iload_n 1, 1) := by decide +kernel
theorem dX13_freed_5 : decode cX13_freed 5 = .ok (.iconst (-1), 1) := by decide +kernel
theorem dX13_freed_6 : decode cX13_freed 6 = .ok (.iastore, 1) := by decide +kernel
theorem dX13_freed_7 : decode cX13_freed 7 = .ok (.aload_n 0, 1) := by decide +kernel
theorem dX13_freed_8 : decode cX13_freed 8 = .ok (.getfield 138, 3) := by decide +kernel
theorem dX13_freed_11 : decode cX13_freed 11 = .ok (.iload_n 1, 1) := by decide +kernel
theorem dX13_freed_12 : decode cX13_freed 12 = .ok (.iconst 0, 1) := by decide +kernel
theorem dX13_freed_13 : decode cX13_freed 13 = .ok (.iastore, 1) := by decide +kernel
theorem dX13_freed_14 : decode cX13_freed 14 = .ok (.aload_n 0, 1) := by decide +kernel
theorem dX13_freed_15 : decode cX13_freed 15 = .ok (.getfield 150, 3) := by decide +kernel
theorem dX13_freed_18 : decode cX13_freed 18 = .ok (.iload_n 1, 1) := by decide +kernel
theorem dX13_freed_19 : decode cX13_freed 19 = .ok (.iaload, 1) := by decide +kernel
theorem dX13_freed_20 : decode cX13_freed 20 = .ok (.ifCond .ne 4, 3) := by decide +kernel
theorem dX13_freed_23 : decode cX13_freed 23 = .ok (.return_, 1) := by decide +kernel
theorem dX13_freed_24 : decode cX13_freed 24 = .ok (.aload_n 0, 1) := by decide +kernel
theorem dX13_freed_25 : decode cX13_freed 25 = .ok (.getfield 147, 3) := by decide +kernel
theorem dX13_freed_28 : decode cX13_freed 28 = .ok (.bipush 8, 2) := by decide +kernel
theorem dX13_freed_30 : decode cX13_freed 30 = .ok (.iload_n 1, 1) := by decide +kernel
theorem dX13_freed_31 : decode cX13_freed 31 = .ok (.imul, 1) := by decide +kernel
theorem dX13_freed_32 : decode cX13_freed 32 = .ok (.iaload, 1) := by decide +kernel
theorem dX13_freed_33 : decode cX13_freed 33 = .ok (.istore_n 2, 1) := by decide +kernel
theorem dX13_freed_34 : decode cX13_freed 34 = .ok (.aload_n 0, 1) := by decide +kernel
theorem dX13_freed_35 : decode cX13_freed 35 = .ok (.getfield 141, 3) := by decide +kernel
theorem dX13_freed_38 : decode cX13_freed 38 = .ok (.iload_n 1, 1) := by decide +kernel
theorem dX13_freed_39 : decode cX13_freed 39 = .ok (.iaload, 1) := by decide +kernel
theorem dX13_freed_40 : decode cX13_freed 40 = .ok (.iconst 1, 1) := by decide +kernel
theorem dX13_freed_41 : decode cX13_freed 41 = .ok (.if_icmp .ne 12, 3) := by decide +kernel
theorem dX13_freed_44 : decode cX13_freed 44 = .ok (.aload_n 0, 1) := by decide +kernel
theorem dX13_freed_45 : decode cX13_freed 45 = .ok (.iload_n 1, 1) := by decide +kernel
theorem dX13_freed_46 : decode cX13_freed 46 = .ok (.iload_n 2, 1) := by decide +kernel
theorem dX13_freed_47 : decode cX13_freed 47 = .ok (.invokevirtual 236, 3) := by decide +kernel
theorem dX13_freed_50 : decode cX13_freed 50 = .ok (.goto 17, 3) := by decide +kernel
theorem dX13_freed_53 : decode cX13_freed 53 = .ok (.aload_n 0, 1) := by decide +kernel
theorem dX13_freed_54 : decode cX13_freed 54 = .ok (.getfield 98, 3) := by decide +kernel
theorem dX13_freed_57 : decode cX13_freed 57 = .ok (.iload_n 2, 1) := by decide +kernel
theorem dX13_freed_58 : decode cX13_freed 58 = .ok (.iconst 1, 1) := by decide +kernel
theorem dX13_freed_59 : decode cX13_freed 59 = .ok (.iastore, 1) := by decide +kernel
theorem dX13_freed_60 : decode cX13_freed 60 = .ok (.aload_n 0, 1) := by decide +kernel
theorem dX13_freed_61 : decode cX13_freed 61 = .ok (.getfield 107, 3) := by decide +kernel
theorem dX13_freed_64 : decode cX13_freed 64 = .ok (.iload_n 2, 1) := by decide +kernel
theorem dX13_freed_65 : decode cX13_freed 65 = .ok (.iconst (-1), 1) := by decide +kernel
theorem dX13_freed_66 : decode cX13_freed 66 = .ok (.iastore, 1) := by decide +kernel
theorem dX13_freed_67 : decode cX13_freed 67 = .ok (.return_, 1) := by decide +kernel
theorem dX13_signalled_0 : decode cX13_signalled 0 = .ok (.iconst 0, 1) := by decide +kernel
theorem dX13_signalled_1 : decode cX13_signalled 1 = .ok (.istore_n 3, 1) := by decide +kernel
theorem dX13_signalled_2 : decode cX13_signalled 2 = .ok (.iconst 0, 1) := by decide +kernel
theorem dX13_signalled_3 : decode cX13_signalled 3 = .ok (.istore 4, 2) := by decide +kernel
theorem dX13_signalled_5 : decode cX13_signalled 5 = .ok (.iload 4, 2) := by decide +kernel
theorem dX13_signalled_7 : decode cX13_signalled 7 = .ok (.aload_n 0, 1) := by decide +kernel
theorem dX13_signalled_8 : decode cX13_signalled 8 = .ok (.getfield 156, 3) := by decide +kernel
theorem dX13_signalled_11 : decode cX13_signalled 11 = .ok (.iload_n 1, 1) := by decide +kernel
theorem dX13_signalled_12 : decode cX13_signalled 12 = .ok (.iaload, 1) := by decide +kernel
theorem dX13_signalled_13 : decode cX13_signalled 13 = .ok (.if_icmp .ge 54, 3) := by decide +kernel
theorem dX13_signalled_16 : decode cX13_signalled 16 = .ok (.aload_n 0, 1) := by decide +kernel
theorem dX13_signalled_17 : decode cX13_signalled 17 = .ok (.getfield 153, 3) := by decide +kernel
theorem dX13_signalled_20 : decode cX13_signalled 20 = .ok (.bipush 8, 2) := by decide +kernel
theorem dX13_signalled_22 : decode cX13_signalled 22 = .ok (.iload_n 1, 1) := by decide +kernel
theorem dX13_signalled_23 : decode cX13_signalled 23 = .ok (.imul, 1) := by decide +kernel
theorem dX13_signalled_24 : decode cX13_signalled 24 = .ok (.iload 4, 2) := by decide +kernel
theorem dX13_signalled_26 : decode cX13_signalled 26 = .ok (.iadd, 1) := by decide +kernel
theorem dX13_signalled_27 : decode cX13_signalled 27 = .ok (.iaload, 1) := by decide +kernel
theorem dX13_signalled_28 : decode cX13_signalled 28 = .ok (.iload_n 2, 1) := by decide +kernel
theorem dX13_signalled_29 : decode cX13_signalled 29 = .ok (.if_icmp .ne 6, 3) := by decide +kernel
theorem dX13_signalled_32 : decode cX13_signalled 32 = .ok (.goto 29, 3) := by decide +kernel
theorem dX13_signalled_35 : decode cX13_signalled 35 = .ok (.aload_n 0, 1) := by decide +kernel
theorem dX13_signalled_36 : decode cX13_signalled 36 = .ok (.getfield 153, 3) := by decide +kernel
theorem dX13_signalled_39 : decode cX13_signalled 39 = .ok (.bipush 8, 2) := by decide +kernel
theorem dX13_signalled_41 : decode cX13_signalled 41 = .ok (.iload_n 1, 1) := by decide +kernel
theorem dX13_signalled_42 : decode cX13_signalled 42 = .ok (.imul, 1) := by decide +kernel
theorem dX13_signalled_43 : decode cX13_signalled 43 = .ok (.iload_n 3, 1) := by decide +kernel
theorem dX13_signalled_44 : decode cX13_signalled 44 = .ok (.iadd, 1) := by decide +kernel
theorem dX13_signalled_45 : decode cX13_signalled 45 = .ok (.aload_n 0, 1) := by decide +kernel
theorem dX13_signalled_46 : decode cX13_signalled 46 = .ok (.getfield 153, 3) := by decide +kernel
theorem dX13_signalled_49 : decode cX13_signalled 49 = .ok (.bipush 8, 2) := by decide +kernel
theorem dX13_signalled_51 : decode cX13_signalled 51 = .ok (.iload_n 1, 1) := by decide +kernel
theorem dX13_signalled_52 : decode cX13_signalled 52 = .ok (.imul, 1) := by decide +kernel
theorem dX13_signalled_53 : decode cX13_signalled 53 = .ok (.iload 4, 2) := by decide +kernel
theorem dX13_signalled_55 : decode cX13_signalled 55 = .ok (.iadd, 1) := by decide +kernel
theorem dX13_signalled_56 : decode cX13_signalled 56 = .ok (.iaload, 1) := by decide +kernel
theorem dX13_signalled_57 : decode cX13_signalled 57 = .ok (.iastore, 1) := by decide +kernel
theorem dX13_signalled_58 : decode cX13_signalled 58 = .ok (.iinc 3 1, 3) := by decide +kernel
theorem dX13_signalled_61 : decode cX13_signalled 61 = .ok (.iinc 4 1, 3) := by decide +kernel
theorem dX13_signalled_64 : decode cX13_signalled 64 = .ok (.goto (-59), 3) := by decide +kernel
theorem dX13_signalled_67 : decode cX13_signalled 67 = .ok (.aload_n 0, 1) := by decide +kernel
theorem dX13_signalled_68 : decode cX13_signalled 68 = .ok (.getfield 156, 3) := by decide +kernel
theorem dX13_signalled_71 : decode cX13_signalled 71 = .ok (.iload_n 1, 1) := by decide +kernel
theorem dX13_signalled_72 : decode cX13_signalled 72 = .ok (.iload_n 3, 1) := by decide +kernel
theorem dX13_signalled_73 : decode cX13_signalled 73 = .ok (.iastore, 1) := by decide +kernel
theorem dX13_signalled_74 : decode cX13_signalled 74 = .ok (.aload_n 0, 1) := by decide +kernel
theorem dX13_signalled_75 : decode cX13_signalled 75 = .ok (.getfield 123, 3) := by decide +kernel
theorem dX13_signalled_78 : decode cX13_signalled 78 = .ok (.iload_n 2, 1) := by decide +kernel
theorem dX13_signalled_79 : decode cX13_signalled 79 = .ok (.iconst 0, 1) := by decide +kernel
theorem dX13_signalled_80 : decode cX13_signalled 80 = .ok (.bastore, 1) := by decide +kernel
theorem dX13_signalled_81 : decode cX13_signalled 81 = .ok (.aload_n 0, 1) := by decide +kernel
theorem dX13_signalled_82 : decode cX13_signalled 82 = .ok (.getfield 144, 3) := by decide +kernel
theorem dX13_signalled_85 : decode cX13_signalled 85 = .ok (.iload_n 1, 1) := by decide +kernel
theorem dX13_signalled_86 : decode cX13_signalled 86 = .ok (.iaload, 1) := by decide +kernel
theorem dX13_signalled_87 : decode cX13_signalled 87 = .ok (.ifCond .ge 16, 3) := by decide +kernel
theorem dX13_signalled_90 : decode cX13_signalled 90 = .ok (.aload_n 0, 1) := by decide +kernel
theorem dX13_signalled_91 : decode cX13_signalled 91 = .ok (.getfield 150, 3) := by decide +kernel
theorem dX13_signalled_94 : decode cX13_signalled 94 = .ok (.iload_n 1, 1) := by decide +kernel
theorem dX13_signalled_95 : decode cX13_signalled 95 = .ok (.iaload, 1) := by decide +kernel
theorem dX13_signalled_96 : decode cX13_signalled 96 = .ok (.ifCond .ne 7, 3) := by decide +kernel
theorem dX13_signalled_99 : decode cX13_signalled 99 = .ok (.iconst 1, 1) := by decide +kernel
theorem dX13_signalled_100 : decode cX13_signalled 100 = .ok (.goto 4, 3) := by decide +kernel
theorem dX13_signalled_103 : decode cX13_signalled 103 = .ok (.iconst 0, 1) := by decide +kernel
theorem dX13_signalled_104 : decode cX13_signalled 104 = .ok (.istore 4, 2) := by decide +kernel
theorem dX13_signalled_106 : decode cX13_signalled 106 = .ok (.aload_n 0, 1) := by decide +kernel
theorem dX13_signalled_107 : decode cX13_signalled 107 = .ok (.iload_n 2, 1) := by decide +kernel
theorem dX13_signalled_108 : decode cX13_signalled 108 = .ok (.iload_n 1, 1) := by decide +kernel
theorem dX13_signalled_109 : decode cX13_signalled 109 = .ok (.invokevirtual 239, 3) := by decide +kernel
theorem dX13_signalled_112 : decode cX13_signalled 112 = .ok (.iload 4, 2) := by decide +kernel
theorem dX13_signalled_114 : decode cX13_signalled 114 = .ok (.ifCond .eq 8, 3) := by decide +kernel
theorem dX13_signalled_117 : decode cX13_signalled 117 = .ok (.aload_n 0, 1) := by decide +kernel
theorem dX13_signalled_118 : decode cX13_signalled 118 = .ok (.iload_n 1, 1) := by decide +kernel
theorem dX13_signalled_119 : decode cX13_signalled 119 = .ok (.invokevirtual 242, 3) := by decide +kernel
theorem dX13_signalled_122 : decode cX13_signalled 122 = .ok (.return_, 1) := by decide +kernel
theorem dX13_rowOf_0 : decode cX13_rowOf 0 = .ok (.iconst 0, 1) := by decide +kernel
theorem dX13_rowOf_1 : decode cX13_rowOf 1 = .ok (.istore_n 2, 1) := by decide +kernel
theorem dX13_rowOf_2 : decode cX13_rowOf 2 = .ok (.iload_n 2, 1) := by decide +kernel
theorem dX13_rowOf_3 : decode cX13_rowOf 3 = .ok (.bipush 24, 2) := by decide +kernel
theorem dX13_rowOf_5 : decode cX13_rowOf 5 = .ok (.if_icmp .ge 57, 3) := by decide +kernel
theorem dX13_rowOf_8 : decode cX13_rowOf 8 = .ok (.aload_n 0, 1) := by decide +kernel
theorem dX13_rowOf_9 : decode cX13_rowOf 9 = .ok (.getfield 135, 3) := by decide +kernel
theorem dX13_rowOf_12 : decode cX13_rowOf 12 = .ok (.iload_n 2, 1) := by decide +kernel
theorem dX13_rowOf_13 : decode cX13_rowOf 13 = .ok (.iaload, 1) := by decide +kernel
theorem dX13_rowOf_14 : decode cX13_rowOf 14 = .ok (.iconst 1, 1) := by decide +kernel
theorem dX13_rowOf_15 : decode cX13_rowOf 15 = .ok (.if_icmp .eq 6, 3) := by decide +kernel
theorem dX13_rowOf_18 : decode cX13_rowOf 18 = .ok (.goto 38, 3) := by decide +kernel
theorem dX13_rowOf_21 : decode cX13_rowOf 21 = .ok (.iconst 0, 1) := by decide +kernel
theorem dX13_rowOf_22 : decode cX13_rowOf 22 = .ok (.istore_n 3, 1) := by decide +kernel
theorem dX13_rowOf_23 : decode cX13_rowOf 23 = .ok (.iload_n 3, 1) := by decide +kernel
theorem dX13_rowOf_24 : decode cX13_rowOf 24 = .ok (.aload_n 0, 1) := by decide +kernel
theorem dX13_rowOf_25 : decode cX13_rowOf 25 = .ok (.getfield 150, 3) := by decide +kernel
theorem dX13_rowOf_28 : decode cX13_rowOf 28 = .ok (.iload_n 2, 1) := by decide +kernel
theorem dX13_rowOf_29 : decode cX13_rowOf 29 = .ok (.iaload, 1) := by decide +kernel
theorem dX13_rowOf_30 : decode cX13_rowOf 30 = .ok (.if_icmp .ge 26, 3) := by decide +kernel
theorem dX13_rowOf_33 : decode cX13_rowOf 33 = .ok (.aload_n 0, 1) := by decide +kernel
theorem dX13_rowOf_34 : decode cX13_rowOf 34 = .ok (.getfield 147, 3) := by decide +kernel
theorem dX13_rowOf_37 : decode cX13_rowOf 37 = .ok (.bipush 8, 2) := by decide +kernel
theorem dX13_rowOf_39 : decode cX13_rowOf 39 = .ok (.iload_n 2, 1) := by decide +kernel
theorem dX13_rowOf_40 : decode cX13_rowOf 40 = .ok (.imul, 1) := by decide +kernel
theorem dX13_rowOf_41 : decode cX13_rowOf 41 = .ok (.iload_n 3, 1) := by decide +kernel
theorem dX13_rowOf_42 : decode cX13_rowOf 42 = .ok (.iadd, 1) := by decide +kernel
theorem dX13_rowOf_43 : decode cX13_rowOf 43 = .ok (.iaload, 1) := by decide +kernel
theorem dX13_rowOf_44 : decode cX13_rowOf 44 = .ok (.iload_n 1, 1) := by decide +kernel
theorem dX13_rowOf_45 : decode cX13_rowOf 45 = .ok (.if_icmp .ne 5, 3) := by decide +kernel
theorem dX13_rowOf_48 : decode cX13_rowOf 48 = .ok (.iload_n 2, 1) := by decide +kernel
theorem dX13_rowOf_49 : decode cX13_rowOf 49 = .ok (.ireturn, 1) := by decide +kernel
theorem dX13_rowOf_50 : decode cX13_rowOf 50 = .ok (.iinc 3 1, 3) := by decide +kernel
theorem dX13_rowOf_53 : decode cX13_rowOf 53 = .ok (.goto (-30), 3) := by decide +kernel
theorem dX13_rowOf_56 : decode cX13_rowOf 56 = .ok (.iinc 2 1, 3) := by decide +kernel
theorem dX13_rowOf_59 : decode cX13_rowOf 59 = .ok (.goto (-57), 3) := by decide +kernel
theorem dX13_rowOf_62 : decode cX13_rowOf 62 = .ok (.iconst (-1), 1) := by decide +kernel
theorem dX13_rowOf_63 : decode cX13_rowOf 63 = .ok (.ireturn, 1) := by decide +kernel
theorem dX13_kindOf_0 : decode cX13_kindOf 0 = .ok (.iload_n 0, 1) := by decide +kernel
theorem dX13_kindOf_1 : decode cX13_kindOf 1 = .ok (.bipush 12, 2) := by decide +kernel
theorem dX13_kindOf_3 : decode cX13_kindOf 3 = .ok (.if_icmp .gt 5, 3) := by decide +kernel
theorem dX13_kindOf_6 : decode cX13_kindOf 6 = .ok (.iconst 1, 1) := by decide +kernel
theorem dX13_kindOf_7 : decode cX13_kindOf 7 = .ok (.ireturn, 1) := by decide +kernel
theorem dX13_kindOf_8 : decode cX13_kindOf 8 = .ok (.iload_n 0, 1) := by decide +kernel
theorem dX13_kindOf_9 : decode cX13_kindOf 9 = .ok (.bipush 16, 2) := by decide +kernel
theorem dX13_kindOf_11 : decode cX13_kindOf 11 = .ok (.if_icmp .gt 6, 3) := by decide +kernel
theorem dX13_kindOf_14 : decode cX13_kindOf 14 = .ok (.bipush 6, 2) := by decide +kernel
theorem dX13_kindOf_16 : decode cX13_kindOf 16 = .ok (.ireturn, 1) := by decide +kernel
theorem dX13_kindOf_17 : decode cX13_kindOf 17 = .ok (.iload_n 0, 1) := by decide +kernel
theorem dX13_kindOf_18 : decode cX13_kindOf 18 = .ok (.bipush 19, 2) := by decide +kernel
theorem dX13_kindOf_20 : decode cX13_kindOf 20 = .ok (.if_icmp .gt 5, 3) := by decide +kernel
theorem dX13_kindOf_23 : decode cX13_kindOf 23 = .ok (.iconst 2, 1) := by decide +kernel
theorem dX13_kindOf_24 : decode cX13_kindOf 24 = .ok (.ireturn, 1) := by decide +kernel
theorem dX13_kindOf_25 : decode cX13_kindOf 25 = .ok (.iload_n 0, 1) := by decide +kernel
theorem dX13_kindOf_26 : decode cX13_kindOf 26 = .ok (.bipush 21, 2) := by decide +kernel
theorem dX13_kindOf_28 : decode cX13_kindOf 28 = .ok (.if_icmp .gt 5, 3) := by decide +kernel
theorem dX13_kindOf_31 : decode cX13_kindOf 31 = .ok (.iconst 3, 1) := by decide +kernel
theorem dX13_kindOf_32 : decode cX13_kindOf 32 = .ok (.ireturn, 1) := by decide +kernel
theorem dX13_kindOf_33 : decode cX13_kindOf 33 = .ok (.iload_n 0, 1) := by decide +kernel
theorem dX13_kindOf_34 : decode cX13_kindOf 34 = .ok (.bipush 22, 2) := by decide +kernel
theorem dX13_kindOf_36 : decode cX13_kindOf 36 = .ok (.if_icmp .ne 5, 3) := by decide +kernel
theorem dX13_kindOf_39 : decode cX13_kindOf 39 = .ok (.iconst 4, 1) := by decide +kernel
theorem dX13_kindOf_40 : decode cX13_kindOf 40 = .ok (.ireturn, 1) := by decide +kernel
theorem dX13_kindOf_41 : decode cX13_kindOf 41 = .ok (.iload_n 0, 1) := by decide +kernel
theorem dX13_kindOf_42 : decode cX13_kindOf 42 = .ok (.bipush 26, 2) := by decide +kernel
theorem dX13_kindOf_44 : decode cX13_kindOf 44 = .ok (.if_icmp .gt 5, 3) := by decide +kernel
theorem dX13_kindOf_47 : decode cX13_kindOf 47 = .ok (.iconst 5, 1) := by decide +kernel
theorem dX13_kindOf_48 : decode cX13_kindOf 48 = .ok (.ireturn, 1) := by decide +kernel
theorem dX13_kindOf_49 : decode cX13_kindOf 49 = .ok (.iload_n 0, 1) := by decide +kernel
theorem dX13_kindOf_50 : decode cX13_kindOf 50 = .ok (.bipush 28, 2) := by decide +kernel
theorem dX13_kindOf_52 : decode cX13_kindOf 52 = .ok (.if_icmp .gt 8, 3) := by decide +kernel
theorem dX13_kindOf_55 : decode cX13_kindOf 55 = .ok (.bipush 7, 2) := by decide +kernel
theorem dX13_kindOf_57 : decode cX13_kindOf 57 = .ok (.goto 5, 3) := by decide +kernel
theorem dX13_kindOf_60 : decode cX13_kindOf 60 = .ok (.bipush 8, 2) := by decide +kernel
theorem dX13_kindOf_62 : decode cX13_kindOf 62 = .ok (.ireturn, 1) := by decide +kernel
theorem dX13_passes_0 : decode cX13_passes 0 = .ok (.aload_n 0, 1) := by decide +kernel
theorem dX13_passes_1 : decode cX13_passes 1 = .ok (.getfield 119, 3) := by decide +kernel
theorem dX13_passes_4 : decode cX13_passes 4 = .ok (.iload_n 1, 1) := by decide +kernel
theorem dX13_passes_5 : decode cX13_passes 5 = .ok (.baload, 1) := by decide +kernel
theorem dX13_passes_6 : decode cX13_passes 6 = .ok (.ifCond .eq 20, 3) := by decide +kernel
theorem dX13_passes_9 : decode cX13_passes 9 = .ok (.aload_n 0, 1) := by decide +kernel
theorem dX13_passes_10 : decode cX13_passes 10 = .ok (.getfield 119, 3) := by decide +kernel
theorem dX13_passes_13 : decode cX13_passes 13 = .ok (.iload_n 1, 1) := by decide +kernel
theorem dX13_passes_14 : decode cX13_passes 14 = .ok (.iconst 0, 1) := by decide +kernel
theorem dX13_passes_15 : decode cX13_passes 15 = .ok (.bastore, 1) := by decide +kernel
theorem dX13_passes_16 : decode cX13_passes 16 = .ok (.aload_n 0, 1) := by decide +kernel
theorem dX13_passes_17 : decode cX13_passes 17 = .ok (.getfield 101, 3) := by decide +kernel
theorem dX13_passes_20 : decode cX13_passes 20 = .ok (.iload_n 1, 1) := by decide +kernel
theorem dX13_passes_21 : decode cX13_passes 21 = .ok (.bipush (-2), 2) := by decide +kernel
theorem dX13_passes_23 : decode cX13_passes 23 = .ok (.iastore, 1) := by decide +kernel
theorem dX13_passes_24 : decode cX13_passes 24 = .ok (.iconst 1, 1) := by decide +kernel
theorem dX13_passes_25 : decode cX13_passes 25 = .ok (.ireturn, 1) := by decide +kernel
theorem dX13_passes_26 : decode cX13_passes 26 = .ok (.aload_n 0, 1) := by decide +kernel
theorem dX13_passes_27 : decode cX13_passes 27 = .ok (.iload_n 1, 1) := by decide +kernel
theorem dX13_passes_28 : decode cX13_passes 28 = .ok (.iload_n 2, 1) := by decide +kernel
theorem dX13_passes_29 : decode cX13_passes 29 = .ok (.invokevirtual 239, 3) := by decide +kernel
theorem dX13_passes_32 : decode cX13_passes 32 = .ok (.iconst 0, 1) := by decide +kernel
theorem dX13_passes_33 : decode cX13_passes 33 = .ok (.ireturn, 1) := by decide +kernel
theorem dX13_one_0 : decode cX13_one 0 = .ok (.aload_n 0, 1) := by decide +kernel
theorem dX13_one_1 : decode cX13_one 1 = .ok (.iload_n 1, 1) := by decide +kernel
theorem dX13_one_2 : decode cX13_one 2 = .ok (.putfield 132, 3) := by decide +kernel
theorem dX13_one_5 : decode cX13_one 5 = .ok (.aload_n 0, 1) := by decide +kernel
theorem dX13_one_6 : decode cX13_one 6 = .ok (.dup, 1) := by decide +kernel
theorem dX13_one_7 : decode cX13_one 7 = .ok (.getfield 245, 3) := by decide +kernel
theorem dX13_one_10 : decode cX13_one 10 = .ok (.lconst 1, 1) := by decide +kernel
theorem dX13_one_11 : decode cX13_one 11 = .ok (.ladd, 1) := by decide +kernel
theorem dX13_one_12 : decode cX13_one 12 = .ok (.putfield 245, 3) := by decide +kernel
theorem dX13_one_15 : decode cX13_one 15 = .ok (.aload_n 0, 1) := by decide +kernel
theorem dX13_one_16 : decode cX13_one 16 = .ok (.iload_n 1, 1) := by decide +kernel
theorem dX13_one_17 : decode cX13_one 17 = .ok (.invokevirtual 249, 3) := by decide +kernel
theorem dX13_one_20 : decode cX13_one 20 = .ok (.istore_n 2, 1) := by decide +kernel
theorem dX13_one_21 : decode cX13_one 21 = .ok (.iload_n 2, 1) := by decide +kernel
theorem dX13_one_22 : decode cX13_one 22 = .ok (.ifCond .lt 36, 3) := by decide +kernel
theorem dX13_one_25 : decode cX13_one 25 = .ok (.aload_n 0, 1) := by decide +kernel
theorem dX13_one_26 : decode cX13_one 26 = .ok (.getfield 144, 3) := by decide +kernel
theorem dX13_one_29 : decode cX13_one 29 = .ok (.iload_n 2, 1) := by decide +kernel
theorem dX13_one_30 : decode cX13_one 30 = .ok (.iaload, 1) := by decide +kernel
theorem dX13_one_31 : decode cX13_one 31 = .ok (.ifCond .ge 12, 3) := by decide +kernel
theorem dX13_one_34 : decode cX13_one 34 = .ok (.aload_n 0, 1) := by decide +kernel
theorem dX13_one_35 : decode cX13_one 35 = .ok (.iload_n 2, 1) := by decide +kernel
theorem dX13_one_36 : decode cX13_one 36 = .ok (.iload_n 1, 1) := by decide +kernel
theorem dX13_one_37 : decode cX13_one 37 = .ok (.invokevirtual 236, 3) := by decide +kernel
theorem dX13_one_40 : decode cX13_one 40 = .ok (.goto 17, 3) := by decide +kernel
theorem dX13_one_43 : decode cX13_one 43 = .ok (.aload_n 0, 1) := by decide +kernel
theorem dX13_one_44 : decode cX13_one 44 = .ok (.getfield 98, 3) := by decide +kernel
theorem dX13_one_47 : decode cX13_one 47 = .ok (.iload_n 1, 1) := by decide +kernel
theorem dX13_one_48 : decode cX13_one 48 = .ok (.iconst 2, 1) := by decide +kernel
theorem dX13_one_49 : decode cX13_one 49 = .ok (.iastore, 1) := by decide +kernel
theorem dX13_one_50 : decode cX13_one 50 = .ok (.aload_n 0, 1) := by decide +kernel
theorem dX13_one_51 : decode cX13_one 51 = .ok (.getfield 107, 3) := by decide +kernel
theorem dX13_one_54 : decode cX13_one 54 = .ok (.iload_n 1, 1) := by decide +kernel
theorem dX13_one_55 : decode cX13_one 55 = .ok (.iload_n 2, 1) := by decide +kernel
theorem dX13_one_56 : decode cX13_one 56 = .ok (.iastore, 1) := by decide +kernel
theorem dX13_one_57 : decode cX13_one 57 = .ok (.return_, 1) := by decide +kernel
theorem dX13_one_58 : decode cX13_one 58 = .ok (.aload_n 0, 1) := by decide +kernel
theorem dX13_one_59 : decode cX13_one 59 = .ok (.iload_n 1, 1) := by decide +kernel
theorem dX13_one_60 : decode cX13_one 60 = .ok (.iconst 0, 1) := by decide +kernel
theorem dX13_one_61 : decode cX13_one 61 = .ok (.invokevirtual 252, 3) := by decide +kernel
theorem dX13_one_64 : decode cX13_one 64 = .ok (.istore_n 3, 1) := by decide +kernel
theorem dX13_one_65 : decode cX13_one 65 = .ok (.aload_n 0, 1) := by decide +kernel
theorem dX13_one_66 : decode cX13_one 66 = .ok (.iload_n 1, 1) := by decide +kernel
theorem dX13_one_67 : decode cX13_one 67 = .ok (.iconst 1, 1) := by decide +kernel
theorem dX13_one_68 : decode cX13_one 68 = .ok (.invokevirtual 252, 3) := by decide +kernel
theorem dX13_one_71 : decode cX13_one 71 = .ok (.istore 4, 2) := by decide +kernel
theorem dX13_one_73 : decode cX13_one 73 = .ok (.aload_n 0, 1) := by decide +kernel
theorem dX13_one_74 : decode cX13_one 74 = .ok (.getfield 104, 3) := by decide +kernel
theorem dX13_one_77 : decode cX13_one 77 = .ok (.iload_n 1, 1) := by decide +kernel
theorem dX13_one_78 : decode cX13_one 78 = .ok (.iaload, 1) := by decide +kernel
theorem dX13_one_79 : decode cX13_one 79 = .ok (.iconst 1, 1) := by decide +kernel
theorem dX13_one_80 : decode cX13_one 80 = .ok (.iadd, 1) := by decide +kernel
theorem dX13_one_81 : decode cX13_one 81 = .ok (.istore 5, 2) := by decide +kernel
theorem dX13_one_83 : decode cX13_one 83 = .ok (.iload_n 3, 1) := by decide +kernel
theorem dX13_one_84 : decode cX13_one 84 = .ok (.ifCond .ne 14, 3) := by decide +kernel
theorem dX13_one_87 : decode cX13_one 87 = .ok (.aload_n 0, 1) := by decide +kernel
theorem dX13_one_88 : decode cX13_one 88 = .ok (.getfield 101, 3) := by decide +kernel
theorem dX13_one_91 : decode cX13_one 91 = .ok (.iload_n 1, 1) := by decide +kernel
theorem dX13_one_92 : decode cX13_one 92 = .ok (.iload 4, 2) := by decide +kernel
theorem dX13_one_94 : decode cX13_one 94 = .ok (.iastore, 1) := by decide +kernel
theorem dX13_one_95 : decode cX13_one 95 = .ok (.goto 178, 3) := by decide +kernel
theorem dX13_one_98 : decode cX13_one 98 = .ok (.iload_n 3, 1) := by decide +kernel
theorem dX13_one_99 : decode cX13_one 99 = .ok (.iconst 1, 1) := by decide +kernel
theorem dX13_one_100 : decode cX13_one 100 = .ok (.if_icmp .ne 17, 3) := by decide +kernel
theorem dX13_one_103 : decode cX13_one 103 = .ok (.aload_n 0, 1) := by decide +kernel
theorem dX13_one_104 : decode cX13_one 104 = .ok (.getfield 101, 3) := by decide +kernel
theorem dX13_one_107 : decode cX13_one 107 = .ok (.iload_n 1, 1) := by decide +kernel
theorem dX13_one_108 : decode cX13_one 108 = .ok (.dup2, 1) := by decide +kernel
theorem dX13_one_109 : decode cX13_one 109 = .ok (.iaload, 1) := by decide +kernel
theorem dX13_one_110 : decode cX13_one 110 = .ok (.iload 4, 2) := by decide +kernel
theorem dX13_one_112 : decode cX13_one 112 = .ok (.iadd, 1) := by decide +kernel
theorem dX13_one_113 : decode cX13_one 113 = .ok (.iastore, 1) := by decide +kernel
theorem dX13_one_114 : decode cX13_one 114 = .ok (.goto 159, 3) := by decide +kernel
theorem dX13_one_117 : decode cX13_one 117 = .ok (.iload_n 3, 1) := by decide +kernel
theorem dX13_one_118 : decode cX13_one 118 = .ok (.iconst 2, 1) := by decide +kernel
theorem dX13_one_119 : decode cX13_one 119 = .ok (.if_icmp .eq 31, 3) := by decide +kernel
theorem dX13_one_122 : decode cX13_one 122 = .ok (.iload_n 3, 1) := by decide +kernel
theorem dX13_one_123 : decode cX13_one 123 = .ok (.iconst 3, 1) := by decide +kernel
theorem dX13_one_124 : decode cX13_one 124 = .ok (.if_icmp .ne 12, 3) := by decide +kernel
theorem dX13_one_127 : decode cX13_one 127 = .ok (.aload_n 0, 1) := by decide +kernel
theorem dX13_one_128 : decode cX13_one 128 = .ok (.getfield 101, 3) := by decide +kernel
theorem dX13_one_131 : decode cX13_one 131 = .ok (.iload_n 1, 1) := by decide +kernel
theorem dX13_one_132 : decode cX13_one 132 = .ok (.iaload, 1) := by decide +kernel
theorem dX13_one_133 : decode cX13_one 133 = .ok (.ifCond .eq 17, 3) := by decide +kernel
theorem dX13_one_136 : decode cX13_one 136 = .ok (.iload_n 3, 1) := by decide +kernel
theorem dX13_one_137 : decode cX13_one 137 = .ok (.iconst 4, 1) := by decide +kernel
theorem dX13_one_138 : decode cX13_one 138 = .ok (.if_icmp .ne 19, 3) := by decide +kernel
theorem dX13_one_141 : decode cX13_one 141 = .ok (.aload_n 0, 1) := by decide +kernel
theorem dX13_one_142 : decode cX13_one 142 = .ok (.getfield 101, 3) := by decide +kernel
theorem dX13_one_145 : decode cX13_one 145 = .ok (.iload_n 1, 1) := by decide +kernel
theorem dX13_one_146 : decode cX13_one 146 = .ok (.iaload, 1) := by decide +kernel
theorem dX13_one_147 : decode cX13_one 147 = .ok (.ifCond .ge 10, 3) := by decide +kernel
theorem dX13_one_150 : decode cX13_one 150 = .ok (.iload 4, 2) := by decide +kernel
theorem dX13_one_152 : decode cX13_one 152 = .ok (.istore 5, 2) := by decide +kernel
theorem dX13_one_154 : decode cX13_one 154 = .ok (.goto 119, 3) := by decide +kernel
theorem dX13_one_157 : decode cX13_one 157 = .ok (.iload_n 3, 1) := by decide +kernel
theorem dX13_one_158 : decode cX13_one 158 = .ok (.iconst 5, 1) := by decide +kernel
theorem dX13_one_159 : decode cX13_one 159 = .ok (.if_icmp .ne 62, 3) := by decide +kernel
theorem dX13_one_162 : decode cX13_one 162 = .ok (.iload 4, 2) := by decide +kernel
theorem dX13_one_164 : decode cX13_one 164 = .ok (.ifCond .le 34, 3) := by decide +kernel
theorem dX13_one_167 : decode cX13_one 167 = .ok (.aload_n 0, 1) := by decide +kernel
theorem dX13_one_168 : decode cX13_one 168 = .ok (.getfield 119, 3) := by decide +kernel
theorem dX13_one_171 : decode cX13_one 171 = .ok (.iload_n 1, 1) := by decide +kernel
theorem dX13_one_172 : decode cX13_one 172 = .ok (.baload, 1) := by decide +kernel
theorem dX13_one_173 : decode cX13_one 173 = .ok (.ifCond .ne 25, 3) := by decide +kernel
theorem dX13_one_176 : decode cX13_one 176 = .ok (.aload_n 0, 1) := by decide +kernel
theorem dX13_one_177 : decode cX13_one 177 = .ok (.getfield 98, 3) := by decide +kernel
theorem dX13_one_180 : decode cX13_one 180 = .ok (.iload_n 1, 1) := by decide +kernel
theorem dX13_one_181 : decode cX13_one 181 = .ok (.iconst 3, 1) := by decide +kernel
theorem dX13_one_182 : decode cX13_one 182 = .ok (.iastore, 1) := by decide +kernel
theorem dX13_one_183 : decode cX13_one 183 = .ok (.aload_n 0, 1) := by decide +kernel
theorem dX13_one_184 : decode cX13_one 184 = .ok (.getfield 129, 3) := by decide +kernel
theorem dX13_one_187 : decode cX13_one 187 = .ok (.iload_n 1, 1) := by decide +kernel
theorem dX13_one_188 : decode cX13_one 188 = .ok (.aload_n 0, 1) := by decide +kernel
theorem dX13_one_189 : decode cX13_one 189 = .ok (.getfield 255, 3) := by decide +kernel
theorem dX13_one_192 : decode cX13_one 192 = .ok (.iload 4, 2) := by decide +kernel
theorem dX13_one_194 : decode cX13_one 194 = .ok (.i2l, 1) := by decide +kernel
theorem dX13_one_195 : decode cX13_one 195 = .ok (.ladd, 1) := by decide +kernel
theorem dX13_one_196 : decode cX13_one 196 = .ok (.lastore, 1) := by decide +kernel
theorem dX13_one_197 : decode cX13_one 197 = .ok (.return_, 1) := by decide +kernel
theorem dX13_one_198 : decode cX13_one 198 = .ok (.iload 4, 2) := by decide +kernel
theorem dX13_one_200 : decode cX13_one 200 = .ok (.ifCond .le 73, 3) := by decide +kernel
theorem dX13_one_203 : decode cX13_one 203 = .ok (.aload_n 0, 1) := by decide +kernel
theorem dX13_one_204 : decode cX13_one 204 = .ok (.getfield 119, 3) := by decide +kernel
theorem dX13_one_207 : decode cX13_one 207 = .ok (.iload_n 1, 1) := by decide +kernel
theorem dX13_one_208 : decode cX13_one 208 = .ok (.iconst 0, 1) := by decide +kernel
theorem dX13_one_209 : decode cX13_one 209 = .ok (.bastore, 1) := by decide +kernel
theorem dX13_one_210 : decode cX13_one 210 = .ok (.aload_n 0, 1) := by decide +kernel
theorem dX13_one_211 : decode cX13_one 211 = .ok (.getfield 101, 3) := by decide +kernel
theorem dX13_one_214 : decode cX13_one 214 = .ok (.iload_n 1, 1) := by decide +kernel
theorem dX13_one_215 : decode cX13_one 215 = .ok (.bipush (-2), 2) := by decide +kernel
theorem dX13_one_217 : decode cX13_one 217 = .ok (.iastore, 1) := by decide +kernel
theorem dX13_one_218 : decode cX13_one 218 = .ok (.goto 55, 3) := by decide +kernel
theorem dX13_one_221 : decode cX13_one 221 = .ok (.iload_n 3, 1) := by decide +kernel
theorem dX13_one_222 : decode cX13_one 222 = .ok (.bipush 6, 2) := by decide +kernel
theorem dX13_one_224 : decode cX13_one 224 = .ok (.if_icmp .ne 11, 3) := by decide +kernel
theorem dX13_one_227 : decode cX13_one 227 = .ok (.aload_n 0, 1) := by decide +kernel
theorem dX13_one_228 : decode cX13_one 228 = .ok (.getfield 98, 3) := by decide +kernel
theorem dX13_one_231 : decode cX13_one 231 = .ok (.iload_n 1, 1) := by decide +kernel
theorem dX13_one_232 : decode cX13_one 232 = .ok (.iconst 4, 1) := by decide +kernel
theorem dX13_one_233 : decode cX13_one 233 = .ok (.iastore, 1) := by decide +kernel
theorem dX13_one_234 : decode cX13_one 234 = .ok (.return_, 1) := by decide +kernel
theorem dX13_one_235 : decode cX13_one 235 = .ok (.iload_n 3, 1) := by decide +kernel
theorem dX13_one_236 : decode cX13_one 236 = .ok (.bipush 33, 2) := by decide +kernel
theorem dX13_one_238 : decode cX13_one 238 = .ok (.if_icmp .ne 17, 3) := by decide +kernel
theorem dX13_one_241 : decode cX13_one 241 = .ok (.aload_n 0, 1) := by decide +kernel
theorem dX13_one_242 : decode cX13_one 242 = .ok (.getfield 101, 3) := by decide +kernel
theorem dX13_one_245 : decode cX13_one 245 = .ok (.iload_n 1, 1) := by decide +kernel
theorem dX13_one_246 : decode cX13_one 246 = .ok (.aload_n 0, 1) := by decide +kernel
theorem dX13_one_247 : decode cX13_one 247 = .ok (.getfield 255, 3) := by decide +kernel
theorem dX13_one_250 : decode cX13_one 250 = .ok (.l2i, 1) := by decide +kernel
theorem dX13_one_251 : decode cX13_one 251 = .ok (.iastore, 1) := by decide +kernel
theorem dX13_one_252 : decode cX13_one 252 = .ok (.goto 21, 3) := by decide +kernel
theorem dX13_one_255 : decode cX13_one 255 = .ok (.iload_n 3, 1) := by decide +kernel
theorem dX13_one_256 : decode cX13_one 256 = .ok (.bipush 6, 2) := by decide +kernel
theorem dX13_one_258 : decode cX13_one 258 = .ok (.if_icmp .le 15, 3) := by decide +kernel
theorem dX13_one_261 : decode cX13_one 261 = .ok (.aload_n 0, 1) := by decide +kernel
theorem dX13_one_262 : decode cX13_one 262 = .ok (.iload_n 1, 1) := by decide +kernel
theorem dX13_one_263 : decode cX13_one 263 = .ok (.iload_n 3, 1) := by decide +kernel
theorem dX13_one_264 : decode cX13_one 264 = .ok (.iload 4, 2) := by decide +kernel
theorem dX13_one_266 : decode cX13_one 266 = .ok (.invokevirtual 258, 3) := by decide +kernel
theorem dX13_one_269 : decode cX13_one 269 = .ok (.ifCond .ne 4, 3) := by decide +kernel
theorem dX13_one_272 : decode cX13_one 272 = .ok (.return_, 1) := by decide +kernel
theorem dX13_one_273 : decode cX13_one 273 = .ok (.aload_n 0, 1) := by decide +kernel
theorem dX13_one_274 : decode cX13_one 274 = .ok (.getfield 104, 3) := by decide +kernel
theorem dX13_one_277 : decode cX13_one 277 = .ok (.iload_n 1, 1) := by decide +kernel
theorem dX13_one_278 : decode cX13_one 278 = .ok (.iload 5, 2) := by decide +kernel
theorem dX13_one_280 : decode cX13_one 280 = .ok (.iastore, 1) := by decide +kernel
theorem dX13_one_281 : decode cX13_one 281 = .ok (.iload 5, 2) := by decide +kernel
theorem dX13_one_283 : decode cX13_one 283 = .ok (.aload_n 0, 1) := by decide +kernel
theorem dX13_one_284 : decode cX13_one 284 = .ok (.getfield 95, 3) := by decide +kernel
theorem dX13_one_287 : decode cX13_one 287 = .ok (.iload_n 1, 1) := by decide +kernel
theorem dX13_one_288 : decode cX13_one 288 = .ok (.iaload, 1) := by decide +kernel
theorem dX13_one_289 : decode cX13_one 289 = .ok (.if_icmp .lt 10, 3) := by decide +kernel
theorem dX13_one_292 : decode cX13_one 292 = .ok (.aload_n 0, 1) := by decide +kernel
theorem dX13_one_293 : decode cX13_one 293 = .ok (.getfield 98, 3) := by decide +kernel
theorem dX13_one_296 : decode cX13_one 296 = .ok (.iload_n 1, 1) := by decide +kernel
theorem dX13_one_297 : decode cX13_one 297 = .ok (.iconst 4, 1) := by decide +kernel
theorem dX13_one_298 : decode cX13_one 298 = .ok (.iastore, 1) := by decide +kernel
theorem dX13_one_299 : decode cX13_one 299 = .ok (.return_, 1) := by decide +kernel
theorem dX13_with_0 : decode cX13_with 0 = .ok (.aload_n 0, 1) := by decide +kernel
theorem dX13_with_1 : decode cX13_with 1 = .ok (.iload_n 3, 1) := by decide +kernel
theorem dX13_with_2 : decode cX13_with 2 = .ok (.invokevirtual 219, 3) := by decide +kernel
theorem dX13_with_5 : decode cX13_with 5 = .ok (.ifCond .eq 16, 3) := by decide +kernel
theorem dX13_with_8 : decode cX13_with 8 = .ok (.aload_n 0, 1) := by decide +kernel
theorem dX13_with_9 : decode cX13_with 9 = .ok (.getfield 135, 3) := by decide +kernel
theorem dX13_with_12 : decode cX13_with 12 = .ok (.iload_n 3, 1) := by decide +kernel
theorem dX13_with_13 : decode cX13_with 13 = .ok (.iaload, 1) := by decide +kernel
theorem dX13_with_14 : decode cX13_with 14 = .ok (.iload_n 2, 1) := by decide +kernel
theorem dX13_with_15 : decode cX13_with 15 = .ok (.invokestatic 261, 3) := by decide +kernel
theorem dX13_with_18 : decode cX13_with 18 = .ok (.if_icmp .eq 10, 3) := by decide +kernel
theorem dX13_with_21 : decode cX13_with 21 = .ok (.aload_n 0, 1) := by decide +kernel
theorem dX13_with_22 : decode cX13_with 22 = .ok (.iload_n 1, 1) := by decide +kernel
theorem dX13_with_23 : decode cX13_with 23 = .ok (.iconst 2, 1) := by decide +kernel
theorem dX13_with_24 : decode cX13_with 24 = .ok (.invokevirtual 264, 3) := by decide +kernel
theorem dX13_with_27 : decode cX13_with 27 = .ok (.ireturn, 1) := by decide +kernel
theorem dX13_with_28 : decode cX13_with 28 = .ok (.iload_n 2, 1) := by decide +kernel
theorem dX13_with_29 : decode cX13_with 29 = .ok (.bipush 12, 2) := by decide +kernel
theorem dX13_with_31 : decode cX13_with 31 = .ok (.if_icmp .gt 11, 3) := by decide +kernel
theorem dX13_with_34 : decode cX13_with 34 = .ok (.aload_n 0, 1) := by decide +kernel
theorem dX13_with_35 : decode cX13_with 35 = .ok (.iload_n 1, 1) := by decide +kernel
theorem dX13_with_36 : decode cX13_with 36 = .ok (.iload_n 2, 1) := by decide +kernel
theorem dX13_with_37 : decode cX13_with 37 = .ok (.iload_n 3, 1) := by decide +kernel
theorem dX13_with_38 : decode cX13_with 38 = .ok (.invokevirtual 268, 3) := by decide +kernel
theorem dX13_with_41 : decode cX13_with 41 = .ok (.ireturn, 1) := by decide +kernel
theorem dX13_with_42 : decode cX13_with 42 = .ok (.iload_n 2, 1) := by decide +kernel
theorem dX13_with_43 : decode cX13_with 43 = .ok (.bipush 16, 2) := by decide +kernel
theorem dX13_with_45 : decode cX13_with 45 = .ok (.if_icmp .gt 11, 3) := by decide +kernel
theorem dX13_with_48 : decode cX13_with 48 = .ok (.aload_n 0, 1) := by decide +kernel
theorem dX13_with_49 : decode cX13_with 49 = .ok (.iload_n 1, 1) := by decide +kernel
theorem dX13_with_50 : decode cX13_with 50 = .ok (.iload_n 2, 1) := by decide +kernel
theorem dX13_with_51 : decode cX13_with 51 = .ok (.iload_n 3, 1) := by decide +kernel
theorem dX13_with_52 : decode cX13_with 52 = .ok (.invokevirtual 271, 3) := by decide +kernel
theorem dX13_with_55 : decode cX13_with 55 = .ok (.ireturn, 1) := by decide +kernel
theorem dX13_with_56 : decode cX13_with 56 = .ok (.iload_n 2, 1) := by decide +kernel
theorem dX13_with_57 : decode cX13_with 57 = .ok (.bipush 19, 2) := by decide +kernel
theorem dX13_with_59 : decode cX13_with 59 = .ok (.if_icmp .gt 11, 3) := by decide +kernel
theorem dX13_with_62 : decode cX13_with 62 = .ok (.aload_n 0, 1) := by decide +kernel
theorem dX13_with_63 : decode cX13_with 63 = .ok (.iload_n 1, 1) := by decide +kernel
theorem dX13_with_64 : decode cX13_with 64 = .ok (.iload_n 2, 1) := by decide +kernel
theorem dX13_with_65 : decode cX13_with 65 = .ok (.iload_n 3, 1) := by decide +kernel
theorem dX13_with_66 : decode cX13_with 66 = .ok (.invokevirtual 274, 3) := by decide +kernel
theorem dX13_with_69 : decode cX13_with 69 = .ok (.ireturn, 1) := by decide +kernel
theorem dX13_with_70 : decode cX13_with 70 = .ok (.iload_n 2, 1) := by decide +kernel
theorem dX13_with_71 : decode cX13_with 71 = .ok (.bipush 29, 2) := by decide +kernel
theorem dX13_with_73 : decode cX13_with 73 = .ok (.if_icmp .lt 11, 3) := by decide +kernel
theorem dX13_with_76 : decode cX13_with 76 = .ok (.aload_n 0, 1) := by decide +kernel
theorem dX13_with_77 : decode cX13_with 77 = .ok (.iload_n 1, 1) := by decide +kernel
theorem dX13_with_78 : decode cX13_with 78 = .ok (.iload_n 2, 1) := by decide +kernel
theorem dX13_with_79 : decode cX13_with 79 = .ok (.iload_n 3, 1) := by decide +kernel
theorem dX13_with_80 : decode cX13_with 80 = .ok (.invokevirtual 277, 3) := by decide +kernel
theorem dX13_with_83 : decode cX13_with 83 = .ok (.ireturn, 1) := by decide +kernel
theorem dX13_with_84 : decode cX13_with 84 = .ok (.iload_n 2, 1) := by decide +kernel
theorem dX13_with_85 : decode cX13_with 85 = .ok (.bipush 23, 2) := by decide +kernel
theorem dX13_with_87 : decode cX13_with 87 = .ok (.if_icmp .lt 17, 3) := by decide +kernel
theorem dX13_with_90 : decode cX13_with 90 = .ok (.iload_n 2, 1) := by decide +kernel
theorem dX13_with_91 : decode cX13_with 91 = .ok (.bipush 26, 2) := by decide +kernel
theorem dX13_with_93 : decode cX13_with 93 = .ok (.if_icmp .gt 11, 3) := by decide +kernel
theorem dX13_with_96 : decode cX13_with 96 = .ok (.aload_n 0, 1) := by decide +kernel
theorem dX13_with_97 : decode cX13_with 97 = .ok (.iload_n 1, 1) := by decide +kernel
theorem dX13_with_98 : decode cX13_with 98 = .ok (.iload_n 2, 1) := by decide +kernel
theorem dX13_with_99 : decode cX13_with 99 = .ok (.iload_n 3, 1) := by decide +kernel
theorem dX13_with_100 : decode cX13_with 100 = .ok (.invokevirtual 280, 3) := by decide +kernel
theorem dX13_with_103 : decode cX13_with 103 = .ok (.ireturn, 1) := by decide +kernel
theorem dX13_with_104 : decode cX13_with 104 = .ok (.iload_n 2, 1) := by decide +kernel
theorem dX13_with_105 : decode cX13_with 105 = .ok (.bipush 20, 2) := by decide +kernel
theorem dX13_with_107 : decode cX13_with 107 = .ok (.if_icmp .ne 51, 3) := by decide +kernel
theorem dX13_with_110 : decode cX13_with 110 = .ok (.aload_n 0, 1) := by decide +kernel
theorem dX13_with_111 : decode cX13_with 111 = .ok (.getfield 138, 3) := by decide +kernel
theorem dX13_with_114 : decode cX13_with 114 = .ok (.iload_n 3, 1) := by decide +kernel
theorem dX13_with_115 : decode cX13_with 115 = .ok (.iaload, 1) := by decide +kernel
theorem dX13_with_116 : decode cX13_with 116 = .ok (.ifCond .le 40, 3) := by decide +kernel
theorem dX13_with_119 : decode cX13_with 119 = .ok (.aload_n 0, 1) := by decide +kernel
theorem dX13_with_120 : decode cX13_with 120 = .ok (.getfield 138, 3) := by decide +kernel
theorem dX13_with_123 : decode cX13_with 123 = .ok (.iload_n 3, 1) := by decide +kernel
theorem dX13_with_124 : decode cX13_with 124 = .ok (.dup2, 1) := by decide +kernel
theorem dX13_with_125 : decode cX13_with 125 = .ok (.iaload, 1) := by decide +kernel
theorem dX13_with_126 : decode cX13_with 126 = .ok (.iconst 1, 1) := by decide +kernel
theorem dX13_with_127 : decode cX13_with 127 = .ok (.isub, 1) := by decide +kernel
theorem dX13_with_128 : decode cX13_with 128 = .ok (.iastore, 1) := by decide +kernel
theorem dX13_with_129 : decode cX13_with 129 = .ok (.aload_n 0, 1) := by decide +kernel
theorem dX13_with_130 : decode cX13_with 130 = .ok (.getfield 138, 3) := by decide +kernel
theorem dX13_with_133 : decode cX13_with 133 = .ok (.iload_n 3, 1) := by decide +kernel
theorem dX13_with_134 : decode cX13_with 134 = .ok (.iaload, 1) := by decide +kernel
theorem dX13_with_135 : decode cX13_with 135 = .ok (.ifCond .ne 21, 3) := by decide +kernel
theorem dX13_with_138 : decode cX13_with 138 = .ok (.aload_n 0, 1) := by decide +kernel
theorem dX13_with_139 : decode cX13_with 139 = .ok (.getfield 150, 3) := by decide +kernel
theorem dX13_with_142 : decode cX13_with 142 = .ok (.iload_n 3, 1) := by decide +kernel
theorem dX13_with_143 : decode cX13_with 143 = .ok (.iaload, 1) := by decide +kernel
theorem dX13_with_144 : decode cX13_with 144 = .ok (.ifCond .le 12, 3) := by decide +kernel
theorem dX13_with_147 : decode cX13_with 147 = .ok (.aload_n 0, 1) := by decide +kernel
theorem dX13_with_148 : decode cX13_with 148 = .ok (.iload_n 3, 1) := by decide +kernel
theorem dX13_with_149 : decode cX13_with 149 = .ok (.invokevirtual 283, 3) := by decide +kernel
theorem dX13_with_152 : decode cX13_with 152 = .ok (.pop, 1) := by decide +kernel
theorem dX13_with_153 : decode cX13_with 153 = .ok (.goto (-24), 3) := by decide +kernel
theorem dX13_with_156 : decode cX13_with 156 = .ok (.iconst 1, 1) := by decide +kernel
theorem dX13_with_157 : decode cX13_with 157 = .ok (.ireturn, 1) := by decide +kernel
theorem dX13_with_158 : decode cX13_with 158 = .ok (.iload_n 2, 1) := by decide +kernel
theorem dX13_with_159 : decode cX13_with 159 = .ok (.bipush 21, 2) := by decide +kernel
theorem dX13_with_161 : decode cX13_with 161 = .ok (.if_icmp .ne 27, 3) := by decide +kernel
theorem dX13_with_164 : decode cX13_with 164 = .ok (.aload_n 0, 1) := by decide +kernel
theorem dX13_with_165 : decode cX13_with 165 = .ok (.getfield 138, 3) := by decide +kernel
theorem dX13_with_168 : decode cX13_with 168 = .ok (.iload_n 3, 1) := by decide +kernel
theorem dX13_with_169 : decode cX13_with 169 = .ok (.iaload, 1) := by decide +kernel
theorem dX13_with_170 : decode cX13_with 170 = .ok (.ifCond .eq 12, 3) := by decide +kernel
theorem dX13_with_173 : decode cX13_with 173 = .ok (.aload_n 0, 1) := by decide +kernel
theorem dX13_with_174 : decode cX13_with 174 = .ok (.iload_n 1, 1) := by decide +kernel
theorem dX13_with_175 : decode cX13_with 175 = .ok (.iload_n 3, 1) := by decide +kernel
theorem dX13_with_176 : decode cX13_with 176 = .ok (.invokevirtual 286, 3) := by decide +kernel
theorem dX13_with_179 : decode cX13_with 179 = .ok (.ifCond .eq 7, 3) := by decide +kernel
theorem dX13_with_182 : decode cX13_with 182 = .ok (.iconst 1, 1) := by decide +kernel
theorem dX13_with_183 : decode cX13_with 183 = .ok (.goto 4, 3) := by decide +kernel
theorem dX13_with_186 : decode cX13_with 186 = .ok (.iconst 0, 1) := by decide +kernel
theorem dX13_with_187 : decode cX13_with 187 = .ok (.ireturn, 1) := by decide +kernel
theorem dX13_with_188 : decode cX13_with 188 = .ok (.iload_n 2, 1) := by decide +kernel
theorem dX13_with_189 : decode cX13_with 189 = .ok (.bipush 22, 2) := by decide +kernel
theorem dX13_with_191 : decode cX13_with 191 = .ok (.if_icmp .ne 76, 3) := by decide +kernel
theorem dX13_with_194 : decode cX13_with 194 = .ok (.aload_n 0, 1) := by decide +kernel
theorem dX13_with_195 : decode cX13_with 195 = .ok (.getfield 138, 3) := by decide +kernel
theorem dX13_with_198 : decode cX13_with 198 = .ok (.iload_n 3, 1) := by decide +kernel
theorem dX13_with_199 : decode cX13_with 199 = .ok (.iaload, 1) := by decide +kernel
theorem dX13_with_200 : decode cX13_with 200 = .ok (.aload_n 0, 1) := by decide +kernel
theorem dX13_with_201 : decode cX13_with 201 = .ok (.getfield 150, 3) := by decide +kernel
theorem dX13_with_204 : decode cX13_with 204 = .ok (.iload_n 3, 1) := by decide +kernel
theorem dX13_with_205 : decode cX13_with 205 = .ok (.iaload, 1) := by decide +kernel
theorem dX13_with_206 : decode cX13_with 206 = .ok (.isub, 1) := by decide +kernel
theorem dX13_with_207 : decode cX13_with 207 = .ok (.iconst 1, 1) := by decide +kernel
theorem dX13_with_208 : decode cX13_with 208 = .ok (.isub, 1) := by decide +kernel
theorem dX13_with_209 : decode cX13_with 209 = .ok (.istore 4, 2) := by decide +kernel
theorem dX13_with_211 : decode cX13_with 211 = .ok (.iload 4, 2) := by decide +kernel
theorem dX13_with_213 : decode cX13_with 213 = .ok (.ifCond .le 27, 3) := by decide +kernel
theorem dX13_with_216 : decode cX13_with 216 = .ok (.aload_n 0, 1) := by decide +kernel
theorem dX13_with_217 : decode cX13_with 217 = .ok (.iload_n 1, 1) := by decide +kernel
theorem dX13_with_218 : decode cX13_with 218 = .ok (.iload_n 3, 1) := by decide +kernel
theorem dX13_with_219 : decode cX13_with 219 = .ok (.invokevirtual 286, 3) := by decide +kernel
theorem dX13_with_222 : decode cX13_with 222 = .ok (.istore 5, 2) := by decide +kernel
theorem dX13_with_224 : decode cX13_with 224 = .ok (.iload 5, 2) := by decide +kernel
theorem dX13_with_226 : decode cX13_with 226 = .ok (.ifCond .ne 11, 3) := by decide +kernel
theorem dX13_with_229 : decode cX13_with 229 = .ok (.aload_n 0, 1) := by decide +kernel
theorem dX13_with_230 : decode cX13_with 230 = .ok (.getfield 101, 3) := by decide +kernel
theorem dX13_with_233 : decode cX13_with 233 = .ok (.iload_n 1, 1) := by decide +kernel
theorem dX13_with_234 : decode cX13_with 234 = .ok (.iload 4, 2) := by decide +kernel
theorem dX13_with_236 : decode cX13_with 236 = .ok (.iastore, 1) := by decide +kernel
theorem dX13_with_237 : decode cX13_with 237 = .ok (.iload 5, 2) := by decide +kernel
theorem dX13_with_239 : decode cX13_with 239 = .ok (.ireturn, 1) := by decide +kernel
theorem dX13_with_240 : decode cX13_with 240 = .ok (.aload_n 0, 1) := by decide +kernel
theorem dX13_with_241 : decode cX13_with 241 = .ok (.getfield 101, 3) := by decide +kernel
theorem dX13_with_244 : decode cX13_with 244 = .ok (.iload_n 1, 1) := by decide +kernel
theorem dX13_with_245 : decode cX13_with 245 = .ok (.iconst 0, 1) := by decide +kernel
theorem dX13_with_246 : decode cX13_with 246 = .ok (.iastore, 1) := by decide +kernel
theorem dX13_with_247 : decode cX13_with 247 = .ok (.aload_n 0, 1) := by decide +kernel
theorem dX13_with_248 : decode cX13_with 248 = .ok (.getfield 150, 3) := by decide +kernel
theorem dX13_with_251 : decode cX13_with 251 = .ok (.iload_n 3, 1) := by decide +kernel
theorem dX13_with_252 : decode cX13_with 252 = .ok (.iaload, 1) := by decide +kernel
theorem dX13_with_253 : decode cX13_with 253 = .ok (.ifCond .le 12, 3) := by decide +kernel
theorem dX13_with_256 : decode cX13_with 256 = .ok (.aload_n 0, 1) := by decide +kernel
theorem dX13_with_257 : decode cX13_with 257 = .ok (.iload_n 3, 1) := by decide +kernel
theorem dX13_with_258 : decode cX13_with 258 = .ok (.invokevirtual 283, 3) := by decide +kernel
theorem dX13_with_261 : decode cX13_with 261 = .ok (.pop, 1) := by decide +kernel
theorem dX13_with_262 : decode cX13_with 262 = .ok (.goto (-15), 3) := by decide +kernel
theorem dX13_with_265 : decode cX13_with 265 = .ok (.iconst 1, 1) := by decide +kernel
theorem dX13_with_266 : decode cX13_with 266 = .ok (.ireturn, 1) := by decide +kernel
theorem dX13_with_267 : decode cX13_with 267 = .ok (.iload_n 2, 1) := by decide +kernel
theorem dX13_with_268 : decode cX13_with 268 = .ok (.bipush 27, 2) := by decide +kernel
theorem dX13_with_270 : decode cX13_with 270 = .ok (.if_icmp .ne 89, 3) := by decide +kernel
theorem dX13_with_273 : decode cX13_with 273 = .ok (.aload_n 0, 1) := by decide +kernel
theorem dX13_with_274 : decode cX13_with 274 = .ok (.getfield 141, 3) := by decide +kernel
theorem dX13_with_277 : decode cX13_with 277 = .ok (.iload_n 3, 1) := by decide +kernel
theorem dX13_with_278 : decode cX13_with 278 = .ok (.iaload, 1) := by decide +kernel
theorem dX13_with_279 : decode cX13_with 279 = .ok (.ifCond .ne 7, 3) := by decide +kernel
theorem dX13_with_282 : decode cX13_with 282 = .ok (.iconst 1, 1) := by decide +kernel
end
section
theorem dX13_with_283 : decode cX13_with 283 = .ok (.goto 4, 3) := by decide +kernel
theorem dX13_with_286 : decode cX13_with 286 = .ok (.iconst 0, 1) := by decide +kernel
theorem dX13_with_287 : decode cX13_with 287 = .ok (.istore 4, 2) := by decide +kernel
theorem dX13_with_289 : decode cX13_with 289 = .ok (.iload 4, 2) := by decide +kernel
theorem dX13_with_291 : decode cX13_with 291 = .ok (.ifCond .eq 50, 3) := by decide +kernel
theorem dX13_with_294 : decode cX13_with 294 = .ok (.aload_n 0, 1) := by decide +kernel
theorem dX13_with_295 : decode cX13_with 295 = .ok (.getfield 141, 3) := by decide +kernel
theorem dX13_with_298 : decode cX13_with 298 = .ok (.iload_n 3, 1) := by decide +kernel
theorem dX13_with_299 : decode cX13_with 299 = .ok (.iconst 1, 1) := by decide +kernel
theorem dX13_with_300 : decode cX13_with 300 = .ok (.iastore, 1) := by decide +kernel
theorem dX13_with_301 : decode cX13_with 301 = .ok (.aload_n 0, 1) := by decide +kernel
theorem dX13_with_302 : decode cX13_with 302 = .ok (.getfield 138, 3) := by decide +kernel
theorem dX13_with_305 : decode cX13_with 305 = .ok (.iload_n 3, 1) := by decide +kernel
theorem dX13_with_306 : decode cX13_with 306 = .ok (.aload_n 0, 1) := by decide +kernel
theorem dX13_with_307 : decode cX13_with 307 = .ok (.getfield 101, 3) := by decide +kernel
theorem dX13_with_310 : decode cX13_with 310 = .ok (.iload_n 1, 1) := by decide +kernel
theorem dX13_with_311 : decode cX13_with 311 = .ok (.iaload, 1) := by decide +kernel
theorem dX13_with_312 : decode cX13_with 312 = .ok (.iastore, 1) := by decide +kernel
theorem dX13_with_313 : decode cX13_with 313 = .ok (.aload_n 0, 1) := by decide +kernel
theorem dX13_with_314 : decode cX13_with 314 = .ok (.getfield 150, 3) := by decide +kernel
theorem dX13_with_317 : decode cX13_with 317 = .ok (.iload_n 3, 1) := by decide +kernel
theorem dX13_with_318 : decode cX13_with 318 = .ok (.iaload, 1) := by decide +kernel
theorem dX13_with_319 : decode cX13_with 319 = .ok (.ifCond .le 22, 3) := by decide +kernel
theorem dX13_with_322 : decode cX13_with 322 = .ok (.aload_n 0, 1) := by decide +kernel
theorem dX13_with_323 : decode cX13_with 323 = .ok (.getfield 101, 3) := by decide +kernel
theorem dX13_with_326 : decode cX13_with 326 = .ok (.aload_n 0, 1) := by decide +kernel
theorem dX13_with_327 : decode cX13_with 327 = .ok (.iload_n 3, 1) := by decide +kernel
theorem dX13_with_328 : decode cX13_with 328 = .ok (.invokevirtual 283, 3) := by decide +kernel
theorem dX13_with_331 : decode cX13_with 331 = .ok (.aload_n 0, 1) := by decide +kernel
theorem dX13_with_332 : decode cX13_with 332 = .ok (.getfield 138, 3) := by decide +kernel
theorem dX13_with_335 : decode cX13_with 335 = .ok (.iload_n 3, 1) := by decide +kernel
theorem dX13_with_336 : decode cX13_with 336 = .ok (.iaload, 1) := by decide +kernel
theorem dX13_with_337 : decode cX13_with 337 = .ok (.iastore, 1) := by decide +kernel
theorem dX13_with_338 : decode cX13_with 338 = .ok (.goto (-25), 3) := by decide +kernel
theorem dX13_with_341 : decode cX13_with 341 = .ok (.aload_n 0, 1) := by decide +kernel
theorem dX13_with_342 : decode cX13_with 342 = .ok (.getfield 101, 3) := by decide +kernel
theorem dX13_with_345 : decode cX13_with 345 = .ok (.iload_n 1, 1) := by decide +kernel
theorem dX13_with_346 : decode cX13_with 346 = .ok (.iload 4, 2) := by decide +kernel
theorem dX13_with_348 : decode cX13_with 348 = .ok (.ifCond .eq 7, 3) := by decide +kernel
theorem dX13_with_351 : decode cX13_with 351 = .ok (.iconst 1, 1) := by decide +kernel
theorem dX13_with_352 : decode cX13_with 352 = .ok (.goto 4, 3) := by decide +kernel
theorem dX13_with_355 : decode cX13_with 355 = .ok (.iconst 0, 1) := by decide +kernel
theorem dX13_with_356 : decode cX13_with 356 = .ok (.iastore, 1) := by decide +kernel
theorem dX13_with_357 : decode cX13_with 357 = .ok (.iconst 1, 1) := by decide +kernel
theorem dX13_with_358 : decode cX13_with 358 = .ok (.ireturn, 1) := by decide +kernel
theorem dX13_with_359 : decode cX13_with 359 = .ok (.aload_n 0, 1) := by decide +kernel
theorem dX13_with_360 : decode cX13_with 360 = .ok (.getfield 141, 3) := by decide +kernel
theorem dX13_with_363 : decode cX13_with 363 = .ok (.iload_n 3, 1) := by decide +kernel
theorem dX13_with_364 : decode cX13_with 364 = .ok (.iaload, 1) := by decide +kernel
theorem dX13_with_365 : decode cX13_with 365 = .ok (.ifCond .ne 10, 3) := by decide +kernel
theorem dX13_with_368 : decode cX13_with 368 = .ok (.aload_n 0, 1) := by decide +kernel
theorem dX13_with_369 : decode cX13_with 369 = .ok (.iload_n 1, 1) := by decide +kernel
theorem dX13_with_370 : decode cX13_with 370 = .ok (.iload_n 3, 1) := by decide +kernel
theorem dX13_with_371 : decode cX13_with 371 = .ok (.invokevirtual 286, 3) := by decide +kernel
theorem dX13_with_374 : decode cX13_with 374 = .ok (.ireturn, 1) := by decide +kernel
theorem dX13_with_375 : decode cX13_with 375 = .ok (.aload_n 0, 1) := by decide +kernel
theorem dX13_with_376 : decode cX13_with 376 = .ok (.getfield 101, 3) := by decide +kernel
theorem dX13_with_379 : decode cX13_with 379 = .ok (.iload_n 1, 1) := by decide +kernel
theorem dX13_with_380 : decode cX13_with 380 = .ok (.aload_n 0, 1) := by decide +kernel
theorem dX13_with_381 : decode cX13_with 381 = .ok (.getfield 138, 3) := by decide +kernel
theorem dX13_with_384 : decode cX13_with 384 = .ok (.iload_n 3, 1) := by decide +kernel
theorem dX13_with_385 : decode cX13_with 385 = .ok (.iaload, 1) := by decide +kernel
theorem dX13_with_386 : decode cX13_with 386 = .ok (.iastore, 1) := by decide +kernel
theorem dX13_with_387 : decode cX13_with 387 = .ok (.iconst 1, 1) := by decide +kernel
theorem dX13_with_388 : decode cX13_with 388 = .ok (.ireturn, 1) := by decide +kernel
theorem dX13_atLock_0 : decode cX13_atLock 0 = .ok (.iload_n 2, 1) := by decide +kernel
theorem dX13_atLock_1 : decode cX13_atLock 1 = .ok (.bipush 7, 2) := by decide +kernel
theorem dX13_atLock_3 : decode cX13_atLock 3 = .ok (.if_icmp .eq 9, 3) := by decide +kernel
theorem dX13_atLock_6 : decode cX13_atLock 6 = .ok (.iload_n 2, 1) := by decide +kernel
theorem dX13_atLock_7 : decode cX13_atLock 7 = .ok (.bipush 8, 2) := by decide +kernel
theorem dX13_atLock_9 : decode cX13_atLock 9 = .ok (.if_icmp .ne 104, 3) := by decide +kernel
theorem dX13_atLock_12 : decode cX13_atLock 12 = .ok (.aload_n 0, 1) := by decide +kernel
theorem dX13_atLock_13 : decode cX13_atLock 13 = .ok (.getfield 144, 3) := by decide +kernel
theorem dX13_atLock_16 : decode cX13_atLock 16 = .ok (.iload_n 3, 1) := by decide +kernel
theorem dX13_atLock_17 : decode cX13_atLock 17 = .ok (.iaload, 1) := by decide +kernel
theorem dX13_atLock_18 : decode cX13_atLock 18 = .ok (.ifCond .lt 13, 3) := by decide +kernel
theorem dX13_atLock_21 : decode cX13_atLock 21 = .ok (.aload_n 0, 1) := by decide +kernel
theorem dX13_atLock_22 : decode cX13_atLock 22 = .ok (.getfield 144, 3) := by decide +kernel
theorem dX13_atLock_25 : decode cX13_atLock 25 = .ok (.iload_n 3, 1) := by decide +kernel
theorem dX13_atLock_26 : decode cX13_atLock 26 = .ok (.iaload, 1) := by decide +kernel
theorem dX13_atLock_27 : decode cX13_atLock 27 = .ok (.iload_n 1, 1) := by decide +kernel
theorem dX13_atLock_28 : decode cX13_atLock 28 = .ok (.if_icmp .ne 7, 3) := by decide +kernel
theorem dX13_atLock_31 : decode cX13_atLock 31 = .ok (.iconst 1, 1) := by decide +kernel
theorem dX13_atLock_32 : decode cX13_atLock 32 = .ok (.goto 4, 3) := by decide +kernel
theorem dX13_atLock_35 : decode cX13_atLock 35 = .ok (.iconst 0, 1) := by decide +kernel
theorem dX13_atLock_36 : decode cX13_atLock 36 = .ok (.istore 4, 2) := by decide +kernel
theorem dX13_atLock_38 : decode cX13_atLock 38 = .ok (.iload 4, 2) := by decide +kernel
theorem dX13_atLock_40 : decode cX13_atLock 40 = .ok (.ifCond .eq 20, 3) := by decide +kernel
theorem dX13_atLock_43 : decode cX13_atLock 43 = .ok (.aload_n 0, 1) := by decide +kernel
theorem dX13_atLock_44 : decode cX13_atLock 44 = .ok (.getfield 144, 3) := by decide +kernel
theorem dX13_atLock_47 : decode cX13_atLock 47 = .ok (.iload_n 3, 1) := by decide +kernel
theorem dX13_atLock_48 : decode cX13_atLock 48 = .ok (.iload_n 1, 1) := by decide +kernel
theorem dX13_atLock_49 : decode cX13_atLock 49 = .ok (.iastore, 1) := by decide +kernel
theorem dX13_atLock_50 : decode cX13_atLock 50 = .ok (.aload_n 0, 1) := by decide +kernel
theorem dX13_atLock_51 : decode cX13_atLock 51 = .ok (.getfield 138, 3) := by decide +kernel
theorem dX13_atLock_54 : decode cX13_atLock 54 = .ok (.iload_n 3, 1) := by decide +kernel
theorem dX13_atLock_55 : decode cX13_atLock 55 = .ok (.dup2, 1) := by decide +kernel
theorem dX13_atLock_56 : decode cX13_atLock 56 = .ok (.iaload, 1) := by decide +kernel
theorem dX13_atLock_57 : decode cX13_atLock 57 = .ok (.iconst 1, 1) := by decide +kernel
theorem dX13_atLock_58 : decode cX13_atLock 58 = .ok (.iadd, 1) := by decide +kernel
theorem dX13_atLock_59 : decode cX13_atLock 59 = .ok (.iastore, 1) := by decide +kernel
theorem dX13_atLock_60 : decode cX13_atLock 60 = .ok (.iload_n 2, 1) := by decide +kernel
theorem dX13_atLock_61 : decode cX13_atLock 61 = .ok (.bipush 8, 2) := by decide +kernel
theorem dX13_atLock_63 : decode cX13_atLock 63 = .ok (.if_icmp .ne 22, 3) := by decide +kernel
theorem dX13_atLock_66 : decode cX13_atLock 66 = .ok (.aload_n 0, 1) := by decide +kernel
theorem dX13_atLock_67 : decode cX13_atLock 67 = .ok (.getfield 101, 3) := by decide +kernel
theorem dX13_atLock_70 : decode cX13_atLock 70 = .ok (.iload_n 1, 1) := by decide +kernel
theorem dX13_atLock_71 : decode cX13_atLock 71 = .ok (.iload 4, 2) := by decide +kernel
theorem dX13_atLock_73 : decode cX13_atLock 73 = .ok (.ifCond .eq 7, 3) := by decide +kernel
theorem dX13_atLock_76 : decode cX13_atLock 76 = .ok (.iconst 1, 1) := by decide +kernel
theorem dX13_atLock_77 : decode cX13_atLock 77 = .ok (.goto 4, 3) := by decide +kernel
theorem dX13_atLock_80 : decode cX13_atLock 80 = .ok (.iconst 0, 1) := by decide +kernel
theorem dX13_atLock_81 : decode cX13_atLock 81 = .ok (.iastore, 1) := by decide +kernel
theorem dX13_atLock_82 : decode cX13_atLock 82 = .ok (.goto 14, 3) := by decide +kernel
theorem dX13_atLock_85 : decode cX13_atLock 85 = .ok (.iload 4, 2) := by decide +kernel
theorem dX13_atLock_87 : decode cX13_atLock 87 = .ok (.ifCond .ne 9, 3) := by decide +kernel
theorem dX13_atLock_90 : decode cX13_atLock 90 = .ok (.aload_n 0, 1) := by decide +kernel
theorem dX13_atLock_91 : decode cX13_atLock 91 = .ok (.iload_n 1, 1) := by decide +kernel
theorem dX13_atLock_92 : decode cX13_atLock 92 = .ok (.iload_n 3, 1) := by decide +kernel
theorem dX13_atLock_93 : decode cX13_atLock 93 = .ok (.invokevirtual 239, 3) := by decide +kernel
theorem dX13_atLock_96 : decode cX13_atLock 96 = .ok (.iload 4, 2) := by decide +kernel
theorem dX13_atLock_98 : decode cX13_atLock 98 = .ok (.ifCond .ne 9, 3) := by decide +kernel
theorem dX13_atLock_101 : decode cX13_atLock 101 = .ok (.iload_n 2, 1) := by decide +kernel
theorem dX13_atLock_102 : decode cX13_atLock 102 = .ok (.bipush 8, 2) := by decide +kernel
theorem dX13_atLock_104 : decode cX13_atLock 104 = .ok (.if_icmp .ne 7, 3) := by decide +kernel
theorem dX13_atLock_107 : decode cX13_atLock 107 = .ok (.iconst 1, 1) := by decide +kernel
theorem dX13_atLock_108 : decode cX13_atLock 108 = .ok (.goto 4, 3) := by decide +kernel
theorem dX13_atLock_111 : decode cX13_atLock 111 = .ok (.iconst 0, 1) := by decide +kernel
theorem dX13_atLock_112 : decode cX13_atLock 112 = .ok (.ireturn, 1) := by decide +kernel
theorem dX13_atLock_113 : decode cX13_atLock 113 = .ok (.aload_n 0, 1) := by decide +kernel
theorem dX13_atLock_114 : decode cX13_atLock 114 = .ok (.getfield 144, 3) := by decide +kernel
theorem dX13_atLock_117 : decode cX13_atLock 117 = .ok (.iload_n 3, 1) := by decide +kernel
theorem dX13_atLock_118 : decode cX13_atLock 118 = .ok (.iaload, 1) := by decide +kernel
theorem dX13_atLock_119 : decode cX13_atLock 119 = .ok (.iload_n 1, 1) := by decide +kernel
theorem dX13_atLock_120 : decode cX13_atLock 120 = .ok (.if_icmp .eq 10, 3) := by decide +kernel
theorem dX13_atLock_123 : decode cX13_atLock 123 = .ok (.aload_n 0, 1) := by decide +kernel
theorem dX13_atLock_124 : decode cX13_atLock 124 = .ok (.iload_n 1, 1) := by decide +kernel
theorem dX13_atLock_125 : decode cX13_atLock 125 = .ok (.iconst 1, 1) := by decide +kernel
theorem dX13_atLock_126 : decode cX13_atLock 126 = .ok (.invokevirtual 264, 3) := by decide +kernel
theorem dX13_atLock_129 : decode cX13_atLock 129 = .ok (.ireturn, 1) := by decide +kernel
theorem dX13_atLock_130 : decode cX13_atLock 130 = .ok (.iload_n 2, 1) := by decide +kernel
theorem dX13_atLock_131 : decode cX13_atLock 131 = .ok (.bipush 9, 2) := by decide +kernel
theorem dX13_atLock_133 : decode cX13_atLock 133 = .ok (.if_icmp .ne 29, 3) := by decide +kernel
theorem dX13_atLock_136 : decode cX13_atLock 136 = .ok (.aload_n 0, 1) := by decide +kernel
theorem dX13_atLock_137 : decode cX13_atLock 137 = .ok (.getfield 138, 3) := by decide +kernel
theorem dX13_atLock_140 : decode cX13_atLock 140 = .ok (.iload_n 3, 1) := by decide +kernel
theorem dX13_atLock_141 : decode cX13_atLock 141 = .ok (.dup2, 1) := by decide +kernel
theorem dX13_atLock_142 : decode cX13_atLock 142 = .ok (.iaload, 1) := by decide +kernel
theorem dX13_atLock_143 : decode cX13_atLock 143 = .ok (.iconst 1, 1) := by decide +kernel
theorem dX13_atLock_144 : decode cX13_atLock 144 = .ok (.isub, 1) := by decide +kernel
theorem dX13_atLock_145 : decode cX13_atLock 145 = .ok (.iastore, 1) := by decide +kernel
theorem dX13_atLock_146 : decode cX13_atLock 146 = .ok (.aload_n 0, 1) := by decide +kernel
theorem dX13_atLock_147 : decode cX13_atLock 147 = .ok (.getfield 138, 3) := by decide +kernel
theorem dX13_atLock_150 : decode cX13_atLock 150 = .ok (.iload_n 3, 1) := by decide +kernel
theorem dX13_atLock_151 : decode cX13_atLock 151 = .ok (.iaload, 1) := by decide +kernel
theorem dX13_atLock_152 : decode cX13_atLock 152 = .ok (.ifCond .ne 8, 3) := by decide +kernel
theorem dX13_atLock_155 : decode cX13_atLock 155 = .ok (.aload_n 0, 1) := by decide +kernel
theorem dX13_atLock_156 : decode cX13_atLock 156 = .ok (.iload_n 3, 1) := by decide +kernel
theorem dX13_atLock_157 : decode cX13_atLock 157 = .ok (.invokevirtual 242, 3) := by decide +kernel
theorem dX13_atLock_160 : decode cX13_atLock 160 = .ok (.iconst 1, 1) := by decide +kernel
theorem dX13_atLock_161 : decode cX13_atLock 161 = .ok (.ireturn, 1) := by decide +kernel
theorem dX13_atLock_162 : decode cX13_atLock 162 = .ok (.iload_n 2, 1) := by decide +kernel
theorem dX13_atLock_163 : decode cX13_atLock 163 = .ok (.bipush 10, 2) := by decide +kernel
theorem dX13_atLock_165 : decode cX13_atLock 165 = .ok (.if_icmp .ne 110, 3) := by decide +kernel
theorem dX13_atLock_168 : decode cX13_atLock 168 = .ok (.aload_n 0, 1) := by decide +kernel
theorem dX13_atLock_169 : decode cX13_atLock 169 = .ok (.getfield 119, 3) := by decide +kernel
theorem dX13_atLock_172 : decode cX13_atLock 172 = .ok (.iload_n 1, 1) := by decide +kernel
theorem dX13_atLock_173 : decode cX13_atLock 173 = .ok (.baload, 1) := by decide +kernel
theorem dX13_atLock_174 : decode cX13_atLock 174 = .ok (.ifCond .eq 20, 3) := by decide +kernel
theorem dX13_atLock_177 : decode cX13_atLock 177 = .ok (.aload_n 0, 1) := by decide +kernel
theorem dX13_atLock_178 : decode cX13_atLock 178 = .ok (.getfield 119, 3) := by decide +kernel
theorem dX13_atLock_181 : decode cX13_atLock 181 = .ok (.iload_n 1, 1) := by decide +kernel
theorem dX13_atLock_182 : decode cX13_atLock 182 = .ok (.iconst 0, 1) := by decide +kernel
theorem dX13_atLock_183 : decode cX13_atLock 183 = .ok (.bastore, 1) := by decide +kernel
theorem dX13_atLock_184 : decode cX13_atLock 184 = .ok (.aload_n 0, 1) := by decide +kernel
theorem dX13_atLock_185 : decode cX13_atLock 185 = .ok (.getfield 101, 3) := by decide +kernel
theorem dX13_atLock_188 : decode cX13_atLock 188 = .ok (.iload_n 1, 1) := by decide +kernel
theorem dX13_atLock_189 : decode cX13_atLock 189 = .ok (.bipush (-2), 2) := by decide +kernel
theorem dX13_atLock_191 : decode cX13_atLock 191 = .ok (.iastore, 1) := by decide +kernel
theorem dX13_atLock_192 : decode cX13_atLock 192 = .ok (.iconst 1, 1) := by decide +kernel
theorem dX13_atLock_193 : decode cX13_atLock 193 = .ok (.ireturn, 1) := by decide +kernel
theorem dX13_atLock_194 : decode cX13_atLock 194 = .ok (.aload_n 0, 1) := by decide +kernel
theorem dX13_atLock_195 : decode cX13_atLock 195 = .ok (.getfield 113, 3) := by decide +kernel
theorem dX13_atLock_198 : decode cX13_atLock 198 = .ok (.iload_n 1, 1) := by decide +kernel
theorem dX13_atLock_199 : decode cX13_atLock 199 = .ok (.aload_n 0, 1) := by decide +kernel
theorem dX13_atLock_200 : decode cX13_atLock 200 = .ok (.getfield 138, 3) := by decide +kernel
theorem dX13_atLock_203 : decode cX13_atLock 203 = .ok (.iload_n 3, 1) := by decide +kernel
theorem dX13_atLock_204 : decode cX13_atLock 204 = .ok (.iaload, 1) := by decide +kernel
theorem dX13_atLock_205 : decode cX13_atLock 205 = .ok (.iastore, 1) := by decide +kernel
theorem dX13_atLock_206 : decode cX13_atLock 206 = .ok (.aload_n 0, 1) := by decide +kernel
theorem dX13_atLock_207 : decode cX13_atLock 207 = .ok (.getfield 116, 3) := by decide +kernel
theorem dX13_atLock_210 : decode cX13_atLock 210 = .ok (.iload_n 1, 1) := by decide +kernel
theorem dX13_atLock_211 : decode cX13_atLock 211 = .ok (.iconst 1, 1) := by decide +kernel
theorem dX13_atLock_212 : decode cX13_atLock 212 = .ok (.iastore, 1) := by decide +kernel
theorem dX13_atLock_213 : decode cX13_atLock 213 = .ok (.aload_n 0, 1) := by decide +kernel
theorem dX13_atLock_214 : decode cX13_atLock 214 = .ok (.getfield 126, 3) := by decide +kernel
theorem dX13_atLock_217 : decode cX13_atLock 217 = .ok (.iload_n 1, 1) := by decide +kernel
theorem dX13_atLock_218 : decode cX13_atLock 218 = .ok (.iconst 1, 1) := by decide +kernel
theorem dX13_atLock_219 : decode cX13_atLock 219 = .ok (.bastore, 1) := by decide +kernel
theorem dX13_atLock_220 : decode cX13_atLock 220 = .ok (.aload_n 0, 1) := by decide +kernel
theorem dX13_atLock_221 : decode cX13_atLock 221 = .ok (.getfield 98, 3) := by decide +kernel
theorem dX13_atLock_224 : decode cX13_atLock 224 = .ok (.iload_n 1, 1) := by decide +kernel
theorem dX13_atLock_225 : decode cX13_atLock 225 = .ok (.iconst 2, 1) := by decide +kernel
theorem dX13_atLock_226 : decode cX13_atLock 226 = .ok (.iastore, 1) := by decide +kernel
theorem dX13_atLock_227 : decode cX13_atLock 227 = .ok (.aload_n 0, 1) := by decide +kernel
theorem dX13_atLock_228 : decode cX13_atLock 228 = .ok (.getfield 107, 3) := by decide +kernel
theorem dX13_atLock_231 : decode cX13_atLock 231 = .ok (.iload_n 1, 1) := by decide +kernel
theorem dX13_atLock_232 : decode cX13_atLock 232 = .ok (.iload_n 3, 1) := by decide +kernel
theorem dX13_atLock_233 : decode cX13_atLock 233 = .ok (.iastore, 1) := by decide +kernel
theorem dX13_atLock_234 : decode cX13_atLock 234 = .ok (.aload_n 0, 1) := by decide +kernel
theorem dX13_atLock_235 : decode cX13_atLock 235 = .ok (.getfield 123, 3) := by decide +kernel
theorem dX13_atLock_238 : decode cX13_atLock 238 = .ok (.iload_n 1, 1) := by decide +kernel
theorem dX13_atLock_239 : decode cX13_atLock 239 = .ok (.iconst 1, 1) := by decide +kernel
theorem dX13_atLock_240 : decode cX13_atLock 240 = .ok (.bastore, 1) := by decide +kernel
theorem dX13_atLock_241 : decode cX13_atLock 241 = .ok (.aload_n 0, 1) := by decide +kernel
theorem dX13_atLock_242 : decode cX13_atLock 242 = .ok (.getfield 153, 3) := by decide +kernel
theorem dX13_atLock_245 : decode cX13_atLock 245 = .ok (.bipush 8, 2) := by decide +kernel
theorem dX13_atLock_247 : decode cX13_atLock 247 = .ok (.iload_n 3, 1) := by decide +kernel
theorem dX13_atLock_248 : decode cX13_atLock 248 = .ok (.imul, 1) := by decide +kernel
theorem dX13_atLock_249 : decode cX13_atLock 249 = .ok (.aload_n 0, 1) := by decide +kernel
theorem dX13_atLock_250 : decode cX13_atLock 250 = .ok (.getfield 156, 3) := by decide +kernel
theorem dX13_atLock_253 : decode cX13_atLock 253 = .ok (.iload_n 3, 1) := by decide +kernel
theorem dX13_atLock_254 : decode cX13_atLock 254 = .ok (.iaload, 1) := by decide +kernel
theorem dX13_atLock_255 : decode cX13_atLock 255 = .ok (.iadd, 1) := by decide +kernel
theorem dX13_atLock_256 : decode cX13_atLock 256 = .ok (.iload_n 1, 1) := by decide +kernel
theorem dX13_atLock_257 : decode cX13_atLock 257 = .ok (.iastore, 1) := by decide +kernel
theorem dX13_atLock_258 : decode cX13_atLock 258 = .ok (.aload_n 0, 1) := by decide +kernel
theorem dX13_atLock_259 : decode cX13_atLock 259 = .ok (.getfield 156, 3) := by decide +kernel
theorem dX13_atLock_262 : decode cX13_atLock 262 = .ok (.iload_n 3, 1) := by decide +kernel
theorem dX13_atLock_263 : decode cX13_atLock 263 = .ok (.dup2, 1) := by decide +kernel
theorem dX13_atLock_264 : decode cX13_atLock 264 = .ok (.iaload, 1) := by decide +kernel
theorem dX13_atLock_265 : decode cX13_atLock 265 = .ok (.iconst 1, 1) := by decide +kernel
theorem dX13_atLock_266 : decode cX13_atLock 266 = .ok (.iadd, 1) := by decide +kernel
theorem dX13_atLock_267 : decode cX13_atLock 267 = .ok (.iastore, 1) := by decide +kernel
theorem dX13_atLock_268 : decode cX13_atLock 268 = .ok (.aload_n 0, 1) := by decide +kernel
theorem dX13_atLock_269 : decode cX13_atLock 269 = .ok (.iload_n 3, 1) := by decide +kernel
theorem dX13_atLock_270 : decode cX13_atLock 270 = .ok (.invokevirtual 242, 3) := by decide +kernel
theorem dX13_atLock_273 : decode cX13_atLock 273 = .ok (.iconst 0, 1) := by decide +kernel
theorem dX13_atLock_274 : decode cX13_atLock 274 = .ok (.ireturn, 1) := by decide +kernel
theorem dX13_atLock_275 : decode cX13_atLock 275 = .ok (.iload_n 2, 1) := by decide +kernel
theorem dX13_atLock_276 : decode cX13_atLock 276 = .ok (.bipush 12, 2) := by decide +kernel
theorem dX13_atLock_278 : decode cX13_atLock 278 = .ok (.if_icmp .ne 12, 3) := by decide +kernel
theorem dX13_atLock_281 : decode cX13_atLock 281 = .ok (.aload_n 0, 1) := by decide +kernel
theorem dX13_atLock_282 : decode cX13_atLock 282 = .ok (.getfield 156, 3) := by decide +kernel
theorem dX13_atLock_285 : decode cX13_atLock 285 = .ok (.iload_n 3, 1) := by decide +kernel
theorem dX13_atLock_286 : decode cX13_atLock 286 = .ok (.iaload, 1) := by decide +kernel
theorem dX13_atLock_287 : decode cX13_atLock 287 = .ok (.goto 17, 3) := by decide +kernel
theorem dX13_atLock_290 : decode cX13_atLock 290 = .ok (.aload_n 0, 1) := by decide +kernel
theorem dX13_atLock_291 : decode cX13_atLock 291 = .ok (.getfield 156, 3) := by decide +kernel
theorem dX13_atLock_294 : decode cX13_atLock 294 = .ok (.iload_n 3, 1) := by decide +kernel
theorem dX13_atLock_295 : decode cX13_atLock 295 = .ok (.iaload, 1) := by decide +kernel
theorem dX13_atLock_296 : decode cX13_atLock 296 = .ok (.ifCond .le 7, 3) := by decide +kernel
theorem dX13_atLock_299 : decode cX13_atLock 299 = .ok (.iconst 1, 1) := by decide +kernel
theorem dX13_atLock_300 : decode cX13_atLock 300 = .ok (.goto 4, 3) := by decide +kernel
theorem dX13_atLock_303 : decode cX13_atLock 303 = .ok (.iconst 0, 1) := by decide +kernel
theorem dX13_atLock_304 : decode cX13_atLock 304 = .ok (.istore 4, 2) := by decide +kernel
theorem dX13_atLock_306 : decode cX13_atLock 306 = .ok (.iconst 0, 1) := by decide +kernel
theorem dX13_atLock_307 : decode cX13_atLock 307 = .ok (.istore 5, 2) := by decide +kernel
theorem dX13_atLock_309 : decode cX13_atLock 309 = .ok (.iload 5, 2) := by decide +kernel
theorem dX13_atLock_311 : decode cX13_atLock 311 = .ok (.iload 4, 2) := by decide +kernel
theorem dX13_atLock_313 : decode cX13_atLock 313 = .ok (.if_icmp .ge 23, 3) := by decide +kernel
theorem dX13_atLock_316 : decode cX13_atLock 316 = .ok (.aload_n 0, 1) := by decide +kernel
theorem dX13_atLock_317 : decode cX13_atLock 317 = .ok (.iload_n 3, 1) := by decide +kernel
theorem dX13_atLock_318 : decode cX13_atLock 318 = .ok (.aload_n 0, 1) := by decide +kernel
theorem dX13_atLock_319 : decode cX13_atLock 319 = .ok (.getfield 153, 3) := by decide +kernel
theorem dX13_atLock_322 : decode cX13_atLock 322 = .ok (.bipush 8, 2) := by decide +kernel
theorem dX13_atLock_324 : decode cX13_atLock 324 = .ok (.iload_n 3, 1) := by decide +kernel
theorem dX13_atLock_325 : decode cX13_atLock 325 = .ok (.imul, 1) := by decide +kernel
theorem dX13_atLock_326 : decode cX13_atLock 326 = .ok (.iaload, 1) := by decide +kernel
theorem dX13_atLock_327 : decode cX13_atLock 327 = .ok (.invokevirtual 289, 3) := by decide +kernel
theorem dX13_atLock_330 : decode cX13_atLock 330 = .ok (.iinc 5 1, 3) := by decide +kernel
theorem dX13_atLock_333 : decode cX13_atLock 333 = .ok (.goto (-24), 3) := by decide +kernel
theorem dX13_atLock_336 : decode cX13_atLock 336 = .ok (.iconst 1, 1) := by decide +kernel
theorem dX13_atLock_337 : decode cX13_atLock 337 = .ok (.ireturn, 1) := by decide +kernel
theorem dX13_atCell_0 : decode cX13_atCell 0 = .ok (.iload_n 2, 1) := by decide +kernel
theorem dX13_atCell_1 : decode cX13_atCell 1 = .ok (.bipush 13, 2) := by decide +kernel
theorem dX13_atCell_3 : decode cX13_atCell 3 = .ok (.if_icmp .ne 15, 3) := by decide +kernel
theorem dX13_atCell_6 : decode cX13_atCell 6 = .ok (.aload_n 0, 1) := by decide +kernel
theorem dX13_atCell_7 : decode cX13_atCell 7 = .ok (.getfield 101, 3) := by decide +kernel
theorem dX13_atCell_10 : decode cX13_atCell 10 = .ok (.iload_n 1, 1) := by decide +kernel
theorem dX13_atCell_11 : decode cX13_atCell 11 = .ok (.aload_n 0, 1) := by decide +kernel
theorem dX13_atCell_12 : decode cX13_atCell 12 = .ok (.getfield 138, 3) := by decide +kernel
theorem dX13_atCell_15 : decode cX13_atCell 15 = .ok (.iload_n 3, 1) := by decide +kernel
theorem dX13_atCell_16 : decode cX13_atCell 16 = .ok (.iaload, 1) := by decide +kernel
theorem dX13_atCell_17 : decode cX13_atCell 17 = .ok (.iastore, 1) := by decide +kernel
theorem dX13_atCell_18 : decode cX13_atCell 18 = .ok (.iload_n 2, 1) := by decide +kernel
theorem dX13_atCell_19 : decode cX13_atCell 19 = .ok (.bipush 14, 2) := by decide +kernel
theorem dX13_atCell_21 : decode cX13_atCell 21 = .ok (.if_icmp .ne 15, 3) := by decide +kernel
theorem dX13_atCell_24 : decode cX13_atCell 24 = .ok (.aload_n 0, 1) := by decide +kernel
theorem dX13_atCell_25 : decode cX13_atCell 25 = .ok (.getfield 138, 3) := by decide +kernel
theorem dX13_atCell_28 : decode cX13_atCell 28 = .ok (.iload_n 3, 1) := by decide +kernel
theorem dX13_atCell_29 : decode cX13_atCell 29 = .ok (.aload_n 0, 1) := by decide +kernel
theorem dX13_atCell_30 : decode cX13_atCell 30 = .ok (.getfield 101, 3) := by decide +kernel
theorem dX13_atCell_33 : decode cX13_atCell 33 = .ok (.iload_n 1, 1) := by decide +kernel
theorem dX13_atCell_34 : decode cX13_atCell 34 = .ok (.iaload, 1) := by decide +kernel
theorem dX13_atCell_35 : decode cX13_atCell 35 = .ok (.iastore, 1) := by decide +kernel
theorem dX13_atCell_36 : decode cX13_atCell 36 = .ok (.iload_n 2, 1) := by decide +kernel
theorem dX13_atCell_37 : decode cX13_atCell 37 = .ok (.bipush 15, 2) := by decide +kernel
theorem dX13_atCell_39 : decode cX13_atCell 39 = .ok (.if_icmp .ne 30, 3) := by decide +kernel
theorem dX13_atCell_42 : decode cX13_atCell 42 = .ok (.aload_n 0, 1) := by decide +kernel
theorem dX13_atCell_43 : decode cX13_atCell 43 = .ok (.getfield 138, 3) := by decide +kernel
theorem dX13_atCell_46 : decode cX13_atCell 46 = .ok (.iload_n 3, 1) := by decide +kernel
theorem dX13_atCell_47 : decode cX13_atCell 47 = .ok (.dup2, 1) := by decide +kernel
theorem dX13_atCell_48 : decode cX13_atCell 48 = .ok (.iaload, 1) := by decide +kernel
theorem dX13_atCell_49 : decode cX13_atCell 49 = .ok (.aload_n 0, 1) := by decide +kernel
theorem dX13_atCell_50 : decode cX13_atCell 50 = .ok (.iload_n 1, 1) := by decide +kernel
theorem dX13_atCell_51 : decode cX13_atCell 51 = .ok (.iconst 2, 1) := by decide +kernel
theorem dX13_atCell_52 : decode cX13_atCell 52 = .ok (.invokevirtual 252, 3) := by decide +kernel
theorem dX13_atCell_55 : decode cX13_atCell 55 = .ok (.iadd, 1) := by decide +kernel
theorem dX13_atCell_56 : decode cX13_atCell 56 = .ok (.iastore, 1) := by decide +kernel
theorem dX13_atCell_57 : decode cX13_atCell 57 = .ok (.aload_n 0, 1) := by decide +kernel
theorem dX13_atCell_58 : decode cX13_atCell 58 = .ok (.getfield 101, 3) := by decide +kernel
theorem dX13_atCell_61 : decode cX13_atCell 61 = .ok (.iload_n 1, 1) := by decide +kernel
theorem dX13_atCell_62 : decode cX13_atCell 62 = .ok (.aload_n 0, 1) := by decide +kernel
theorem dX13_atCell_63 : decode cX13_atCell 63 = .ok (.getfield 138, 3) := by decide +kernel
theorem dX13_atCell_66 : decode cX13_atCell 66 = .ok (.iload_n 3, 1) := by decide +kernel
theorem dX13_atCell_67 : decode cX13_atCell 67 = .ok (.iaload, 1) := by decide +kernel
theorem dX13_atCell_68 : decode cX13_atCell 68 = .ok (.iastore, 1) := by decide +kernel
theorem dX13_atCell_69 : decode cX13_atCell 69 = .ok (.iload_n 2, 1) := by decide +kernel
theorem dX13_atCell_70 : decode cX13_atCell 70 = .ok (.bipush 16, 2) := by decide +kernel
theorem dX13_atCell_72 : decode cX13_atCell 72 = .ok (.if_icmp .ne 58, 3) := by decide +kernel
theorem dX13_atCell_75 : decode cX13_atCell 75 = .ok (.aload_n 0, 1) := by decide +kernel
theorem dX13_atCell_76 : decode cX13_atCell 76 = .ok (.getfield 138, 3) := by decide +kernel
theorem dX13_atCell_79 : decode cX13_atCell 79 = .ok (.iload_n 3, 1) := by decide +kernel
theorem dX13_atCell_80 : decode cX13_atCell 80 = .ok (.iaload, 1) := by decide +kernel
theorem dX13_atCell_81 : decode cX13_atCell 81 = .ok (.aload_n 0, 1) := by decide +kernel
theorem dX13_atCell_82 : decode cX13_atCell 82 = .ok (.iload_n 1, 1) := by decide +kernel
theorem dX13_atCell_83 : decode cX13_atCell 83 = .ok (.iconst 2, 1) := by decide +kernel
theorem dX13_atCell_84 : decode cX13_atCell 84 = .ok (.invokevirtual 252, 3) := by decide +kernel
theorem dX13_atCell_87 : decode cX13_atCell 87 = .ok (.if_icmp .ne 7, 3) := by decide +kernel
theorem dX13_atCell_90 : decode cX13_atCell 90 = .ok (.iconst 1, 1) := by decide +kernel
theorem dX13_atCell_91 : decode cX13_atCell 91 = .ok (.goto 4, 3) := by decide +kernel
theorem dX13_atCell_94 : decode cX13_atCell 94 = .ok (.iconst 0, 1) := by decide +kernel
theorem dX13_atCell_95 : decode cX13_atCell 95 = .ok (.istore 4, 2) := by decide +kernel
theorem dX13_atCell_97 : decode cX13_atCell 97 = .ok (.iload 4, 2) := by decide +kernel
theorem dX13_atCell_99 : decode cX13_atCell 99 = .ok (.ifCond .eq 15, 3) := by decide +kernel
theorem dX13_atCell_102 : decode cX13_atCell 102 = .ok (.aload_n 0, 1) := by decide +kernel
theorem dX13_atCell_103 : decode cX13_atCell 103 = .ok (.getfield 138, 3) := by decide +kernel
theorem dX13_atCell_106 : decode cX13_atCell 106 = .ok (.iload_n 3, 1) := by decide +kernel
theorem dX13_atCell_107 : decode cX13_atCell 107 = .ok (.aload_n 0, 1) := by decide +kernel
theorem dX13_atCell_108 : decode cX13_atCell 108 = .ok (.iload_n 1, 1) := by decide +kernel
theorem dX13_atCell_109 : decode cX13_atCell 109 = .ok (.iconst 3, 1) := by decide +kernel
theorem dX13_atCell_110 : decode cX13_atCell 110 = .ok (.invokevirtual 252, 3) := by decide +kernel
theorem dX13_atCell_113 : decode cX13_atCell 113 = .ok (.iastore, 1) := by decide +kernel
theorem dX13_atCell_114 : decode cX13_atCell 114 = .ok (.aload_n 0, 1) := by decide +kernel
theorem dX13_atCell_115 : decode cX13_atCell 115 = .ok (.getfield 101, 3) := by decide +kernel
theorem dX13_atCell_118 : decode cX13_atCell 118 = .ok (.iload_n 1, 1) := by decide +kernel
theorem dX13_atCell_119 : decode cX13_atCell 119 = .ok (.iload 4, 2) := by decide +kernel
theorem dX13_atCell_121 : decode cX13_atCell 121 = .ok (.ifCond .eq 7, 3) := by decide +kernel
theorem dX13_atCell_124 : decode cX13_atCell 124 = .ok (.iconst 1, 1) := by decide +kernel
theorem dX13_atCell_125 : decode cX13_atCell 125 = .ok (.goto 4, 3) := by decide +kernel
theorem dX13_atCell_128 : decode cX13_atCell 128 = .ok (.iconst 0, 1) := by decide +kernel
theorem dX13_atCell_129 : decode cX13_atCell 129 = .ok (.iastore, 1) := by decide +kernel
theorem dX13_atCell_130 : decode cX13_atCell 130 = .ok (.iconst 1, 1) := by decide +kernel
theorem dX13_atCell_131 : decode cX13_atCell 131 = .ok (.ireturn, 1) := by decide +kernel
theorem dX13_atSemaphore_0 : decode cX13_atSemaphore 0 = .ok (.aload_n 0, 1) := by decide +kernel
theorem dX13_atSemaphore_1 : decode cX13_atSemaphore 1 = .ok (.iload_n 1, 1) := by decide +kernel
theorem dX13_atSemaphore_2 : decode cX13_atSemaphore 2 = .ok (.iconst 2, 1) := by decide +kernel
theorem dX13_atSemaphore_3 : decode cX13_atSemaphore 3 = .ok (.invokevirtual 252, 3) := by decide +kernel
theorem dX13_atSemaphore_6 : decode cX13_atSemaphore 6 = .ok (.istore 4, 2) := by decide +kernel
theorem dX13_atSemaphore_8 : decode cX13_atSemaphore 8 = .ok (.iload_n 2, 1) := by decide +kernel
theorem dX13_atSemaphore_9 : decode cX13_atSemaphore 9 = .ok (.bipush 17, 2) := by decide +kernel
theorem dX13_atSemaphore_11 : decode cX13_atSemaphore 11 = .ok (.if_icmp .ne 44, 3) := by decide +kernel
theorem dX13_atSemaphore_14 : decode cX13_atSemaphore 14 = .ok (.aload_n 0, 1) := by decide +kernel
theorem dX13_atSemaphore_15 : decode cX13_atSemaphore 15 = .ok (.getfield 138, 3) := by decide +kernel
theorem dX13_atSemaphore_18 : decode cX13_atSemaphore 18 = .ok (.iload_n 3, 1) := by decide +kernel
theorem dX13_atSemaphore_19 : decode cX13_atSemaphore 19 = .ok (.iaload, 1) := by decide +kernel
theorem dX13_atSemaphore_20 : decode cX13_atSemaphore 20 = .ok (.iload 4, 2) := by decide +kernel
theorem dX13_atSemaphore_22 : decode cX13_atSemaphore 22 = .ok (.if_icmp .lt 12, 3) := by decide +kernel
theorem dX13_atSemaphore_25 : decode cX13_atSemaphore 25 = .ok (.aload_n 0, 1) := by decide +kernel
theorem dX13_atSemaphore_26 : decode cX13_atSemaphore 26 = .ok (.getfield 150, 3) := by decide +kernel
theorem dX13_atSemaphore_29 : decode cX13_atSemaphore 29 = .ok (.iload_n 3, 1) := by decide +kernel
theorem dX13_atSemaphore_30 : decode cX13_atSemaphore 30 = .ok (.iaload, 1) := by decide +kernel
theorem dX13_atSemaphore_31 : decode cX13_atSemaphore 31 = .ok (.ifCond .le 10, 3) := by decide +kernel
theorem dX13_atSemaphore_34 : decode cX13_atSemaphore 34 = .ok (.aload_n 0, 1) := by decide +kernel
theorem dX13_atSemaphore_35 : decode cX13_atSemaphore 35 = .ok (.iload_n 1, 1) := by decide +kernel
theorem dX13_atSemaphore_36 : decode cX13_atSemaphore 36 = .ok (.iload_n 3, 1) := by decide +kernel
theorem dX13_atSemaphore_37 : decode cX13_atSemaphore 37 = .ok (.invokevirtual 286, 3) := by decide +kernel
theorem dX13_atSemaphore_40 : decode cX13_atSemaphore 40 = .ok (.ireturn, 1) := by decide +kernel
theorem dX13_atSemaphore_41 : decode cX13_atSemaphore 41 = .ok (.aload_n 0, 1) := by decide +kernel
theorem dX13_atSemaphore_42 : decode cX13_atSemaphore 42 = .ok (.getfield 138, 3) := by decide +kernel
theorem dX13_atSemaphore_45 : decode cX13_atSemaphore 45 = .ok (.iload_n 3, 1) := by decide +kernel
theorem dX13_atSemaphore_46 : decode cX13_atSemaphore 46 = .ok (.dup2, 1) := by decide +kernel
theorem dX13_atSemaphore_47 : decode cX13_atSemaphore 47 = .ok (.iaload, 1) := by decide +kernel
theorem dX13_atSemaphore_48 : decode cX13_atSemaphore 48 = .ok (.iload 4, 2) := by decide +kernel
theorem dX13_atSemaphore_50 : decode cX13_atSemaphore 50 = .ok (.isub, 1) := by decide +kernel
theorem dX13_atSemaphore_51 : decode cX13_atSemaphore 51 = .ok (.iastore, 1) := by decide +kernel
theorem dX13_atSemaphore_52 : decode cX13_atSemaphore 52 = .ok (.goto 125, 3) := by decide +kernel
theorem dX13_atSemaphore_55 : decode cX13_atSemaphore 55 = .ok (.iload_n 2, 1) := by decide +kernel
theorem dX13_atSemaphore_56 : decode cX13_atSemaphore 56 = .ok (.bipush 18, 2) := by decide +kernel
theorem dX13_atSemaphore_58 : decode cX13_atSemaphore 58 = .ok (.if_icmp .ne 78, 3) := by decide +kernel
theorem dX13_atSemaphore_61 : decode cX13_atSemaphore 61 = .ok (.aload_n 0, 1) := by decide +kernel
theorem dX13_atSemaphore_62 : decode cX13_atSemaphore 62 = .ok (.getfield 138, 3) := by decide +kernel
theorem dX13_atSemaphore_65 : decode cX13_atSemaphore 65 = .ok (.iload_n 3, 1) := by decide +kernel
theorem dX13_atSemaphore_66 : decode cX13_atSemaphore 66 = .ok (.dup2, 1) := by decide +kernel
theorem dX13_atSemaphore_67 : decode cX13_atSemaphore 67 = .ok (.iaload, 1) := by decide +kernel
theorem dX13_atSemaphore_68 : decode cX13_atSemaphore 68 = .ok (.iload 4, 2) := by decide +kernel
theorem dX13_atSemaphore_70 : decode cX13_atSemaphore 70 = .ok (.iadd, 1) := by decide +kernel
theorem dX13_atSemaphore_71 : decode cX13_atSemaphore 71 = .ok (.iastore, 1) := by decide +kernel
theorem dX13_atSemaphore_72 : decode cX13_atSemaphore 72 = .ok (.aload_n 0, 1) := by decide +kernel
theorem dX13_atSemaphore_73 : decode cX13_atSemaphore 73 = .ok (.getfield 150, 3) := by decide +kernel
theorem dX13_atSemaphore_76 : decode cX13_atSemaphore 76 = .ok (.iload_n 3, 1) := by decide +kernel
theorem dX13_atSemaphore_77 : decode cX13_atSemaphore 77 = .ok (.iaload, 1) := by decide +kernel
theorem dX13_atSemaphore_78 : decode cX13_atSemaphore 78 = .ok (.ifCond .le 99, 3) := by decide +kernel
theorem dX13_atSemaphore_81 : decode cX13_atSemaphore 81 = .ok (.aload_n 0, 1) := by decide +kernel
theorem dX13_atSemaphore_82 : decode cX13_atSemaphore 82 = .ok (.getfield 138, 3) := by decide +kernel
theorem dX13_atSemaphore_85 : decode cX13_atSemaphore 85 = .ok (.iload_n 3, 1) := by decide +kernel
theorem dX13_atSemaphore_86 : decode cX13_atSemaphore 86 = .ok (.iaload, 1) := by decide +kernel
theorem dX13_atSemaphore_87 : decode cX13_atSemaphore 87 = .ok (.aload_n 0, 1) := by decide +kernel
theorem dX13_atSemaphore_88 : decode cX13_atSemaphore 88 = .ok (.aload_n 0, 1) := by decide +kernel
theorem dX13_atSemaphore_89 : decode cX13_atSemaphore 89 = .ok (.getfield 147, 3) := by decide +kernel
theorem dX13_atSemaphore_92 : decode cX13_atSemaphore 92 = .ok (.bipush 8, 2) := by decide +kernel
theorem dX13_atSemaphore_94 : decode cX13_atSemaphore 94 = .ok (.iload_n 3, 1) := by decide +kernel
theorem dX13_atSemaphore_95 : decode cX13_atSemaphore 95 = .ok (.imul, 1) := by decide +kernel
theorem dX13_atSemaphore_96 : decode cX13_atSemaphore 96 = .ok (.iaload, 1) := by decide +kernel
theorem dX13_atSemaphore_97 : decode cX13_atSemaphore 97 = .ok (.iconst 2, 1) := by decide +kernel
theorem dX13_atSemaphore_98 : decode cX13_atSemaphore 98 = .ok (.invokevirtual 252, 3) := by decide +kernel
theorem dX13_atSemaphore_101 : decode cX13_atSemaphore 101 = .ok (.if_icmp .lt 76, 3) := by decide +kernel
theorem dX13_atSemaphore_104 : decode cX13_atSemaphore 104 = .ok (.aload_n 0, 1) := by decide +kernel
theorem dX13_atSemaphore_105 : decode cX13_atSemaphore 105 = .ok (.getfield 138, 3) := by decide +kernel
theorem dX13_atSemaphore_108 : decode cX13_atSemaphore 108 = .ok (.iload_n 3, 1) := by decide +kernel
theorem dX13_atSemaphore_109 : decode cX13_atSemaphore 109 = .ok (.dup2, 1) := by decide +kernel
theorem dX13_atSemaphore_110 : decode cX13_atSemaphore 110 = .ok (.iaload, 1) := by decide +kernel
theorem dX13_atSemaphore_111 : decode cX13_atSemaphore 111 = .ok (.aload_n 0, 1) := by decide +kernel
theorem dX13_atSemaphore_112 : decode cX13_atSemaphore 112 = .ok (.aload_n 0, 1) := by decide +kernel
theorem dX13_atSemaphore_113 : decode cX13_atSemaphore 113 = .ok (.getfield 147, 3) := by decide +kernel
theorem dX13_atSemaphore_116 : decode cX13_atSemaphore 116 = .ok (.bipush 8, 2) := by decide +kernel
theorem dX13_atSemaphore_118 : decode cX13_atSemaphore 118 = .ok (.iload_n 3, 1) := by decide +kernel
theorem dX13_atSemaphore_119 : decode cX13_atSemaphore 119 = .ok (.imul, 1) := by decide +kernel
theorem dX13_atSemaphore_120 : decode cX13_atSemaphore 120 = .ok (.iaload, 1) := by decide +kernel
theorem dX13_atSemaphore_121 : decode cX13_atSemaphore 121 = .ok (.iconst 2, 1) := by decide +kernel
theorem dX13_atSemaphore_122 : decode cX13_atSemaphore 122 = .ok (.invokevirtual 252, 3) := by decide +kernel
theorem dX13_atSemaphore_125 : decode cX13_atSemaphore 125 = .ok (.isub, 1) := by decide +kernel
theorem dX13_atSemaphore_126 : decode cX13_atSemaphore 126 = .ok (.iastore, 1) := by decide +kernel
theorem dX13_atSemaphore_127 : decode cX13_atSemaphore 127 = .ok (.aload_n 0, 1) := by decide +kernel
theorem dX13_atSemaphore_128 : decode cX13_atSemaphore 128 = .ok (.iload_n 3, 1) := by decide +kernel
theorem dX13_atSemaphore_129 : decode cX13_atSemaphore 129 = .ok (.invokevirtual 283, 3) := by decide +kernel
theorem dX13_atSemaphore_132 : decode cX13_atSemaphore 132 = .ok (.pop, 1) := by decide +kernel
theorem dX13_atSemaphore_133 : decode cX13_atSemaphore 133 = .ok (.goto (-61), 3) := by decide +kernel
theorem dX13_atSemaphore_136 : decode cX13_atSemaphore 136 = .ok (.aload_n 0, 1) := by decide +kernel
theorem dX13_atSemaphore_137 : decode cX13_atSemaphore 137 = .ok (.getfield 101, 3) := by decide +kernel
theorem dX13_atSemaphore_140 : decode cX13_atSemaphore 140 = .ok (.iload_n 1, 1) := by decide +kernel
theorem dX13_atSemaphore_141 : decode cX13_atSemaphore 141 = .ok (.aload_n 0, 1) := by decide +kernel
theorem dX13_atSemaphore_142 : decode cX13_atSemaphore 142 = .ok (.getfield 138, 3) := by decide +kernel
theorem dX13_atSemaphore_145 : decode cX13_atSemaphore 145 = .ok (.iload_n 3, 1) := by decide +kernel
theorem dX13_atSemaphore_146 : decode cX13_atSemaphore 146 = .ok (.iaload, 1) := by decide +kernel
theorem dX13_atSemaphore_147 : decode cX13_atSemaphore 147 = .ok (.ifCond .le 12, 3) := by decide +kernel
theorem dX13_atSemaphore_150 : decode cX13_atSemaphore 150 = .ok (.aload_n 0, 1) := by decide +kernel
theorem dX13_atSemaphore_151 : decode cX13_atSemaphore 151 = .ok (.getfield 138, 3) := by decide +kernel
theorem dX13_atSemaphore_154 : decode cX13_atSemaphore 154 = .ok (.iload_n 3, 1) := by decide +kernel
theorem dX13_atSemaphore_155 : decode cX13_atSemaphore 155 = .ok (.iaload, 1) := by decide +kernel
theorem dX13_atSemaphore_156 : decode cX13_atSemaphore 156 = .ok (.goto 4, 3) := by decide +kernel
theorem dX13_atSemaphore_159 : decode cX13_atSemaphore 159 = .ok (.iconst 0, 1) := by decide +kernel
theorem dX13_atSemaphore_160 : decode cX13_atSemaphore 160 = .ok (.iastore, 1) := by decide +kernel
theorem dX13_atSemaphore_161 : decode cX13_atSemaphore 161 = .ok (.aload_n 0, 1) := by decide +kernel
theorem dX13_atSemaphore_162 : decode cX13_atSemaphore 162 = .ok (.getfield 138, 3) := by decide +kernel
theorem dX13_atSemaphore_165 : decode cX13_atSemaphore 165 = .ok (.iload_n 3, 1) := by decide +kernel
theorem dX13_atSemaphore_166 : decode cX13_atSemaphore 166 = .ok (.iaload, 1) := by decide +kernel
theorem dX13_atSemaphore_167 : decode cX13_atSemaphore 167 = .ok (.ifCond .le 10, 3) := by decide +kernel
theorem dX13_atSemaphore_170 : decode cX13_atSemaphore 170 = .ok (.aload_n 0, 1) := by decide +kernel
theorem dX13_atSemaphore_171 : decode cX13_atSemaphore 171 = .ok (.getfield 138, 3) := by decide +kernel
theorem dX13_atSemaphore_174 : decode cX13_atSemaphore 174 = .ok (.iload_n 3, 1) := by decide +kernel
theorem dX13_atSemaphore_175 : decode cX13_atSemaphore 175 = .ok (.iconst 0, 1) := by decide +kernel
theorem dX13_atSemaphore_176 : decode cX13_atSemaphore 176 = .ok (.iastore, 1) := by decide +kernel
theorem dX13_atSemaphore_177 : decode cX13_atSemaphore 177 = .ok (.iconst 1, 1) := by decide +kernel
theorem dX13_atSemaphore_178 : decode cX13_atSemaphore 178 = .ok (.ireturn, 1) := by decide +kernel
theorem dX13_append_0 : decode cX13_append 0 = .ok (.aload_n 0, 1) := by decide +kernel
theorem dX13_append_1 : decode cX13_append 1 = .ok (.getfield 159, 3) := by decide +kernel
theorem dX13_append_4 : decode cX13_append 4 = .ok (.bipush 100, 2) := by decide +kernel
theorem dX13_append_6 : decode cX13_append 6 = .ok (.iload_n 1, 1) := by decide +kernel
theorem dX13_append_7 : decode cX13_append 7 = .ok (.imul, 1) := by decide +kernel
theorem dX13_append_8 : decode cX13_append 8 = .ok (.aload_n 0, 1) := by decide +kernel
theorem dX13_append_9 : decode cX13_append 9 = .ok (.getfield 162, 3) := by decide +kernel
theorem dX13_append_12 : decode cX13_append 12 = .ok (.iload_n 1, 1) := by decide +kernel
theorem dX13_append_13 : decode cX13_append 13 = .ok (.iaload, 1) := by decide +kernel
theorem dX13_append_14 : decode cX13_append 14 = .ok (.iadd, 1) := by decide +kernel
theorem dX13_append_15 : decode cX13_append 15 = .ok (.iload_n 2, 1) := by decide +kernel
theorem dX13_append_16 : decode cX13_append 16 = .ok (.iastore, 1) := by decide +kernel
theorem dX13_append_17 : decode cX13_append 17 = .ok (.aload_n 0, 1) := by decide +kernel
theorem dX13_append_18 : decode cX13_append 18 = .ok (.getfield 162, 3) := by decide +kernel
theorem dX13_append_21 : decode cX13_append 21 = .ok (.iload_n 1, 1) := by decide +kernel
theorem dX13_append_22 : decode cX13_append 22 = .ok (.dup2, 1) := by decide +kernel
theorem dX13_append_23 : decode cX13_append 23 = .ok (.iaload, 1) := by decide +kernel
theorem dX13_append_24 : decode cX13_append 24 = .ok (.iconst 1, 1) := by decide +kernel
theorem dX13_append_25 : decode cX13_append 25 = .ok (.iadd, 1) := by decide +kernel
theorem dX13_append_26 : decode cX13_append 26 = .ok (.iastore, 1) := by decide +kernel
theorem dX13_append_27 : decode cX13_append 27 = .ok (.return_, 1) := by decide +kernel
theorem dX13_atQueue_0 : decode cX13_atQueue 0 = .ok (.iload_n 2, 1) := by decide +kernel
theorem dX13_atQueue_1 : decode cX13_atQueue 1 = .ok (.bipush 23, 2) := by decide +kernel
theorem dX13_atQueue_3 : decode cX13_atQueue 3 = .ok (.if_icmp .eq 9, 3) := by decide +kernel
theorem dX13_atQueue_6 : decode cX13_atQueue 6 = .ok (.iload_n 2, 1) := by decide +kernel
theorem dX13_atQueue_7 : decode cX13_atQueue 7 = .ok (.bipush 25, 2) := by decide +kernel
theorem dX13_atQueue_9 : decode cX13_atQueue 9 = .ok (.if_icmp .ne 132, 3) := by decide +kernel
theorem dX13_atQueue_12 : decode cX13_atQueue 12 = .ok (.aload_n 0, 1) := by decide +kernel
theorem dX13_atQueue_13 : decode cX13_atQueue 13 = .ok (.getfield 150, 3) := by decide +kernel
theorem dX13_atQueue_16 : decode cX13_atQueue 16 = .ok (.iload_n 3, 1) := by decide +kernel
theorem dX13_atQueue_17 : decode cX13_atQueue 17 = .ok (.iaload, 1) := by decide +kernel
theorem dX13_atQueue_18 : decode cX13_atQueue 18 = .ok (.ifCond .le 26, 3) := by decide +kernel
theorem dX13_atQueue_21 : decode cX13_atQueue 21 = .ok (.aload_n 0, 1) := by decide +kernel
theorem dX13_atQueue_22 : decode cX13_atQueue 22 = .ok (.aload_n 0, 1) := by decide +kernel
theorem dX13_atQueue_23 : decode cX13_atQueue 23 = .ok (.getfield 147, 3) := by decide +kernel
theorem dX13_atQueue_26 : decode cX13_atQueue 26 = .ok (.bipush 8, 2) := by decide +kernel
theorem dX13_atQueue_28 : decode cX13_atQueue 28 = .ok (.iload_n 3, 1) := by decide +kernel
theorem dX13_atQueue_29 : decode cX13_atQueue 29 = .ok (.imul, 1) := by decide +kernel
theorem dX13_atQueue_30 : decode cX13_atQueue 30 = .ok (.iaload, 1) := by decide +kernel
theorem dX13_atQueue_31 : decode cX13_atQueue 31 = .ok (.iconst 0, 1) := by decide +kernel
theorem dX13_atQueue_32 : decode cX13_atQueue 32 = .ok (.invokevirtual 252, 3) := by decide +kernel
theorem dX13_atQueue_35 : decode cX13_atQueue 35 = .ok (.bipush 23, 2) := by decide +kernel
theorem dX13_atQueue_37 : decode cX13_atQueue 37 = .ok (.if_icmp .eq 7, 3) := by decide +kernel
theorem dX13_atQueue_40 : decode cX13_atQueue 40 = .ok (.iconst 1, 1) := by decide +kernel
theorem dX13_atQueue_41 : decode cX13_atQueue 41 = .ok (.goto 4, 3) := by decide +kernel
theorem dX13_atQueue_44 : decode cX13_atQueue 44 = .ok (.iconst 0, 1) := by decide +kernel
theorem dX13_atQueue_45 : decode cX13_atQueue 45 = .ok (.istore 4, 2) := by decide +kernel
theorem dX13_atQueue_47 : decode cX13_atQueue 47 = .ok (.iload 4, 2) := by decide +kernel
theorem dX13_atQueue_49 : decode cX13_atQueue 49 = .ok (.ifCond .eq 26, 3) := by decide +kernel
theorem dX13_atQueue_52 : decode cX13_atQueue 52 = .ok (.aload_n 0, 1) := by decide +kernel
theorem dX13_atQueue_53 : decode cX13_atQueue 53 = .ok (.iload_n 3, 1) := by decide +kernel
theorem dX13_atQueue_54 : decode cX13_atQueue 54 = .ok (.invokevirtual 283, 3) := by decide +kernel
theorem dX13_atQueue_57 : decode cX13_atQueue 57 = .ok (.istore 5, 2) := by decide +kernel
theorem dX13_atQueue_59 : decode cX13_atQueue 59 = .ok (.aload_n 0, 1) := by decide +kernel
theorem dX13_atQueue_60 : decode cX13_atQueue 60 = .ok (.getfield 101, 3) := by decide +kernel
theorem dX13_atQueue_63 : decode cX13_atQueue 63 = .ok (.iload 5, 2) := by decide +kernel
theorem dX13_atQueue_65 : decode cX13_atQueue 65 = .ok (.aload_n 0, 1) := by decide +kernel
theorem dX13_atQueue_66 : decode cX13_atQueue 66 = .ok (.getfield 101, 3) := by decide +kernel
theorem dX13_atQueue_69 : decode cX13_atQueue 69 = .ok (.iload_n 1, 1) := by decide +kernel
theorem dX13_atQueue_70 : decode cX13_atQueue 70 = .ok (.iaload, 1) := by decide +kernel
theorem dX13_atQueue_71 : decode cX13_atQueue 71 = .ok (.iastore, 1) := by decide +kernel
theorem dX13_atQueue_72 : decode cX13_atQueue 72 = .ok (.goto 54, 3) := by decide +kernel
theorem dX13_atQueue_75 : decode cX13_atQueue 75 = .ok (.aload_n 0, 1) := by decide +kernel
theorem dX13_atQueue_76 : decode cX13_atQueue 76 = .ok (.getfield 162, 3) := by decide +kernel
theorem dX13_atQueue_79 : decode cX13_atQueue 79 = .ok (.iload_n 3, 1) := by decide +kernel
theorem dX13_atQueue_80 : decode cX13_atQueue 80 = .ok (.iaload, 1) := by decide +kernel
theorem dX13_atQueue_81 : decode cX13_atQueue 81 = .ok (.aload_n 0, 1) := by decide +kernel
theorem dX13_atQueue_82 : decode cX13_atQueue 82 = .ok (.getfield 138, 3) := by decide +kernel
theorem dX13_atQueue_85 : decode cX13_atQueue 85 = .ok (.iload_n 3, 1) := by decide +kernel
theorem dX13_atQueue_86 : decode cX13_atQueue 86 = .ok (.iaload, 1) := by decide +kernel
theorem dX13_atQueue_87 : decode cX13_atQueue 87 = .ok (.if_icmp .ge 17, 3) := by decide +kernel
theorem dX13_atQueue_90 : decode cX13_atQueue 90 = .ok (.aload_n 0, 1) := by decide +kernel
theorem dX13_atQueue_91 : decode cX13_atQueue 91 = .ok (.iload_n 3, 1) := by decide +kernel
theorem dX13_atQueue_92 : decode cX13_atQueue 92 = .ok (.aload_n 0, 1) := by decide +kernel
theorem dX13_atQueue_93 : decode cX13_atQueue 93 = .ok (.getfield 101, 3) := by decide +kernel
theorem dX13_atQueue_96 : decode cX13_atQueue 96 = .ok (.iload_n 1, 1) := by decide +kernel
theorem dX13_atQueue_97 : decode cX13_atQueue 97 = .ok (.iaload, 1) := by decide +kernel
theorem dX13_atQueue_98 : decode cX13_atQueue 98 = .ok (.invokevirtual 292, 3) := by decide +kernel
theorem dX13_atQueue_101 : decode cX13_atQueue 101 = .ok (.goto 25, 3) := by decide +kernel
theorem dX13_atQueue_104 : decode cX13_atQueue 104 = .ok (.iload_n 2, 1) := by decide +kernel
theorem dX13_atQueue_105 : decode cX13_atQueue 105 = .ok (.bipush 25, 2) := by decide +kernel
theorem dX13_atQueue_107 : decode cX13_atQueue 107 = .ok (.if_icmp .ne 12, 3) := by decide +kernel
theorem dX13_atQueue_110 : decode cX13_atQueue 110 = .ok (.aload_n 0, 1) := by decide +kernel
theorem dX13_atQueue_111 : decode cX13_atQueue 111 = .ok (.getfield 101, 3) := by decide +kernel
theorem dX13_atQueue_114 : decode cX13_atQueue 114 = .ok (.iload_n 1, 1) := by decide +kernel
theorem dX13_atQueue_115 : decode cX13_atQueue 115 = .ok (.iconst 0, 1) := by decide +kernel
theorem dX13_atQueue_116 : decode cX13_atQueue 116 = .ok (.iastore, 1) := by decide +kernel
theorem dX13_atQueue_117 : decode cX13_atQueue 117 = .ok (.iconst 1, 1) := by decide +kernel
theorem dX13_atQueue_118 : decode cX13_atQueue 118 = .ok (.ireturn, 1) := by decide +kernel
theorem dX13_atQueue_119 : decode cX13_atQueue 119 = .ok (.aload_n 0, 1) := by decide +kernel
theorem dX13_atQueue_120 : decode cX13_atQueue 120 = .ok (.iload_n 1, 1) := by decide +kernel
theorem dX13_atQueue_121 : decode cX13_atQueue 121 = .ok (.iload_n 3, 1) := by decide +kernel
theorem dX13_atQueue_122 : decode cX13_atQueue 122 = .ok (.invokevirtual 286, 3) := by decide +kernel
theorem dX13_atQueue_125 : decode cX13_atQueue 125 = .ok (.ireturn, 1) := by decide +kernel
theorem dX13_atQueue_126 : decode cX13_atQueue 126 = .ok (.iload_n 2, 1) := by decide +kernel
theorem dX13_atQueue_127 : decode cX13_atQueue 127 = .ok (.bipush 25, 2) := by decide +kernel
theorem dX13_atQueue_129 : decode cX13_atQueue 129 = .ok (.if_icmp .ne 10, 3) := by decide +kernel
theorem dX13_atQueue_132 : decode cX13_atQueue 132 = .ok (.aload_n 0, 1) := by decide +kernel
theorem dX13_atQueue_133 : decode cX13_atQueue 133 = .ok (.getfield 101, 3) := by decide +kernel
theorem dX13_atQueue_136 : decode cX13_atQueue 136 = .ok (.iload_n 1, 1) := by decide +kernel
theorem dX13_atQueue_137 : decode cX13_atQueue 137 = .ok (.iconst 1, 1) := by decide +kernel
theorem dX13_atQueue_138 : decode cX13_atQueue 138 = .ok (.iastore, 1) := by decide +kernel
theorem dX13_atQueue_139 : decode cX13_atQueue 139 = .ok (.iconst 1, 1) := by decide +kernel
theorem dX13_atQueue_140 : decode cX13_atQueue 140 = .ok (.ireturn, 1) := by decide +kernel
theorem dX13_atQueue_141 : decode cX13_atQueue 141 = .ok (.aload_n 0, 1) := by decide +kernel
theorem dX13_atQueue_142 : decode cX13_atQueue 142 = .ok (.getfield 162, 3) := by decide +kernel
theorem dX13_atQueue_145 : decode cX13_atQueue 145 = .ok (.iload_n 3, 1) := by decide +kernel
theorem dX13_atQueue_146 : decode cX13_atQueue 146 = .ok (.iaload, 1) := by decide +kernel
theorem dX13_atQueue_147 : decode cX13_atQueue 147 = .ok (.ifCond .ne 25, 3) := by decide +kernel
theorem dX13_atQueue_150 : decode cX13_atQueue 150 = .ok (.iload_n 2, 1) := by decide +kernel
theorem dX13_atQueue_151 : decode cX13_atQueue 151 = .ok (.bipush 24, 2) := by decide +kernel
theorem dX13_atQueue_153 : decode cX13_atQueue 153 = .ok (.if_icmp .ne 10, 3) := by decide +kernel
theorem dX13_atQueue_156 : decode cX13_atQueue 156 = .ok (.aload_n 0, 1) := by decide +kernel
theorem dX13_atQueue_157 : decode cX13_atQueue 157 = .ok (.iload_n 1, 1) := by decide +kernel
theorem dX13_atQueue_158 : decode cX13_atQueue 158 = .ok (.iload_n 3, 1) := by decide +kernel
theorem dX13_atQueue_159 : decode cX13_atQueue 159 = .ok (.invokevirtual 286, 3) := by decide +kernel
theorem dX13_atQueue_162 : decode cX13_atQueue 162 = .ok (.ireturn, 1) := by decide +kernel
theorem dX13_atQueue_163 : decode cX13_atQueue 163 = .ok (.aload_n 0, 1) := by decide +kernel
theorem dX13_atQueue_164 : decode cX13_atQueue 164 = .ok (.getfield 101, 3) := by decide +kernel
theorem dX13_atQueue_167 : decode cX13_atQueue 167 = .ok (.iload_n 1, 1) := by decide +kernel
theorem dX13_atQueue_168 : decode cX13_atQueue 168 = .ok (.iconst (-1), 1) := by decide +kernel
theorem dX13_atQueue_169 : decode cX13_atQueue 169 = .ok (.iastore, 1) := by decide +kernel
theorem dX13_atQueue_170 : decode cX13_atQueue 170 = .ok (.iconst 1, 1) := by decide +kernel
theorem dX13_atQueue_171 : decode cX13_atQueue 171 = .ok (.ireturn, 1) := by decide +kernel
theorem dX13_atQueue_172 : decode cX13_atQueue 172 = .ok (.aload_n 0, 1) := by decide +kernel
theorem dX13_atQueue_173 : decode cX13_atQueue 173 = .ok (.getfield 101, 3) := by decide +kernel
theorem dX13_atQueue_176 : decode cX13_atQueue 176 = .ok (.iload_n 1, 1) := by decide +kernel
theorem dX13_atQueue_177 : decode cX13_atQueue 177 = .ok (.aload_n 0, 1) := by decide +kernel
theorem dX13_atQueue_178 : decode cX13_atQueue 178 = .ok (.getfield 159, 3) := by decide +kernel
theorem dX13_atQueue_181 : decode cX13_atQueue 181 = .ok (.bipush 100, 2) := by decide +kernel
theorem dX13_atQueue_183 : decode cX13_atQueue 183 = .ok (.iload_n 3, 1) := by decide +kernel
theorem dX13_atQueue_184 : decode cX13_atQueue 184 = .ok (.imul, 1) := by decide +kernel
theorem dX13_atQueue_185 : decode cX13_atQueue 185 = .ok (.iaload, 1) := by decide +kernel
theorem dX13_atQueue_186 : decode cX13_atQueue 186 = .ok (.iastore, 1) := by decide +kernel
theorem dX13_atQueue_187 : decode cX13_atQueue 187 = .ok (.aload_n 0, 1) := by decide +kernel
theorem dX13_atQueue_188 : decode cX13_atQueue 188 = .ok (.getfield 162, 3) := by decide +kernel
theorem dX13_atQueue_191 : decode cX13_atQueue 191 = .ok (.iload_n 3, 1) := by decide +kernel
theorem dX13_atQueue_192 : decode cX13_atQueue 192 = .ok (.dup2, 1) := by decide +kernel
theorem dX13_atQueue_193 : decode cX13_atQueue 193 = .ok (.iaload, 1) := by decide +kernel
theorem dX13_atQueue_194 : decode cX13_atQueue 194 = .ok (.iconst 1, 1) := by decide +kernel
theorem dX13_atQueue_195 : decode cX13_atQueue 195 = .ok (.isub, 1) := by decide +kernel
theorem dX13_atQueue_196 : decode cX13_atQueue 196 = .ok (.iastore, 1) := by decide +kernel
theorem dX13_atQueue_197 : decode cX13_atQueue 197 = .ok (.iconst 0, 1) := by decide +kernel
theorem dX13_atQueue_198 : decode cX13_atQueue 198 = .ok (.istore 4, 2) := by decide +kernel
theorem dX13_atQueue_200 : decode cX13_atQueue 200 = .ok (.iload 4, 2) := by decide +kernel
theorem dX13_atQueue_202 : decode cX13_atQueue 202 = .ok (.aload_n 0, 1) := by decide +kernel
theorem dX13_atQueue_203 : decode cX13_atQueue 203 = .ok (.getfield 162, 3) := by decide +kernel
theorem dX13_atQueue_206 : decode cX13_atQueue 206 = .ok (.iload_n 3, 1) := by decide +kernel
theorem dX13_atQueue_207 : decode cX13_atQueue 207 = .ok (.iaload, 1) := by decide +kernel
theorem dX13_atQueue_208 : decode cX13_atQueue 208 = .ok (.if_icmp .ge 35, 3) := by decide +kernel
theorem dX13_atQueue_211 : decode cX13_atQueue 211 = .ok (.aload_n 0, 1) := by decide +kernel
theorem dX13_atQueue_212 : decode cX13_atQueue 212 = .ok (.getfield 159, 3) := by decide +kernel
theorem dX13_atQueue_215 : decode cX13_atQueue 215 = .ok (.bipush 100, 2) := by decide +kernel
theorem dX13_atQueue_217 : decode cX13_atQueue 217 = .ok (.iload_n 3, 1) := by decide +kernel
theorem dX13_atQueue_218 : decode cX13_atQueue 218 = .ok (.imul, 1) := by decide +kernel
theorem dX13_atQueue_219 : decode cX13_atQueue 219 = .ok (.iload 4, 2) := by decide +kernel
theorem dX13_atQueue_221 : decode cX13_atQueue 221 = .ok (.iadd, 1) := by decide +kernel
theorem dX13_atQueue_222 : decode cX13_atQueue 222 = .ok (.aload_n 0, 1) := by decide +kernel
theorem dX13_atQueue_223 : decode cX13_atQueue 223 = .ok (.getfield 159, 3) := by decide +kernel
theorem dX13_atQueue_226 : decode cX13_atQueue 226 = .ok (.bipush 100, 2) := by decide +kernel
theorem dX13_atQueue_228 : decode cX13_atQueue 228 = .ok (.iload_n 3, 1) := by decide +kernel
theorem dX13_atQueue_229 : decode cX13_atQueue 229 = .ok (.imul, 1) := by decide +kernel
theorem dX13_atQueue_230 : decode cX13_atQueue 230 = .ok (.iload 4, 2) := by decide +kernel
theorem dX13_atQueue_232 : decode cX13_atQueue 232 = .ok (.iadd, 1) := by decide +kernel
theorem dX13_atQueue_233 : decode cX13_atQueue 233 = .ok (.iconst 1, 1) := by decide +kernel
theorem dX13_atQueue_234 : decode cX13_atQueue 234 = .ok (.iadd, 1) := by decide +kernel
theorem dX13_atQueue_235 : decode cX13_atQueue 235 = .ok (.iaload, 1) := by decide +kernel
theorem dX13_atQueue_236 : decode cX13_atQueue 236 = .ok (.iastore, 1) := by decide +kernel
theorem dX13_atQueue_237 : decode cX13_atQueue 237 = .ok (.iinc 4 1, 3) := by decide +kernel
theorem dX13_atQueue_240 : decode cX13_atQueue 240 = .ok (.goto (-40), 3) := by decide +kernel
theorem dX13_atQueue_243 : decode cX13_atQueue 243 = .ok (.aload_n 0, 1) := by decide +kernel
theorem dX13_atQueue_244 : decode cX13_atQueue 244 = .ok (.getfield 150, 3) := by decide +kernel
theorem dX13_atQueue_247 : decode cX13_atQueue 247 = .ok (.iload_n 3, 1) := by decide +kernel
theorem dX13_atQueue_248 : decode cX13_atQueue 248 = .ok (.iaload, 1) := by decide +kernel
theorem dX13_atQueue_249 : decode cX13_atQueue 249 = .ok (.ifCond .le 22, 3) := by decide +kernel
theorem dX13_atQueue_252 : decode cX13_atQueue 252 = .ok (.aload_n 0, 1) := by decide +kernel
theorem dX13_atQueue_253 : decode cX13_atQueue 253 = .ok (.iload_n 3, 1) := by decide +kernel
theorem dX13_atQueue_254 : decode cX13_atQueue 254 = .ok (.invokevirtual 283, 3) := by decide +kernel
theorem dX13_atQueue_257 : decode cX13_atQueue 257 = .ok (.istore 4, 2) := by decide +kernel
theorem dX13_atQueue_259 : decode cX13_atQueue 259 = .ok (.aload_n 0, 1) := by decide +kernel
theorem dX13_atQueue_260 : decode cX13_atQueue 260 = .ok (.iload_n 3, 1) := by decide +kernel
theorem dX13_atQueue_261 : decode cX13_atQueue 261 = .ok (.aload_n 0, 1) := by decide +kernel
theorem dX13_atQueue_262 : decode cX13_atQueue 262 = .ok (.getfield 101, 3) := by decide +kernel
theorem dX13_atQueue_265 : decode cX13_atQueue 265 = .ok (.iload 4, 2) := by decide +kernel
theorem dX13_atQueue_267 : decode cX13_atQueue 267 = .ok (.iaload, 1) := by decide +kernel
theorem dX13_atQueue_268 : decode cX13_atQueue 268 = .ok (.invokevirtual 292, 3) := by decide +kernel
theorem dX13_atQueue_271 : decode cX13_atQueue 271 = .ok (.iconst 1, 1) := by decide +kernel
theorem dX13_atQueue_272 : decode cX13_atQueue 272 = .ok (.ireturn, 1) := by decide +kernel
theorem dX13_atGate_0 : decode cX13_atGate 0 = .ok (.iload_n 2, 1) := by decide +kernel
theorem dX13_atGate_1 : decode cX13_atGate 1 = .ok (.bipush 29, 2) := by decide +kernel
theorem dX13_atGate_3 : decode cX13_atGate 3 = .ok (.if_icmp .ne 41, 3) := by decide +kernel
theorem dX13_atGate_6 : decode cX13_atGate 6 = .ok (.aload_n 0, 1) := by decide +kernel
theorem dX13_atGate_7 : decode cX13_atGate 7 = .ok (.getfield 144, 3) := by decide +kernel
theorem dX13_atGate_10 : decode cX13_atGate 10 = .ok (.iload_n 3, 1) := by decide +kernel
theorem dX13_atGate_11 : decode cX13_atGate 11 = .ok (.iaload, 1) := by decide +kernel
theorem dX13_atGate_12 : decode cX13_atGate 12 = .ok (.ifCond .ge 12, 3) := by decide +kernel
theorem dX13_atGate_15 : decode cX13_atGate 15 = .ok (.aload_n 0, 1) := by decide +kernel
theorem dX13_atGate_16 : decode cX13_atGate 16 = .ok (.getfield 150, 3) := by decide +kernel
theorem dX13_atGate_19 : decode cX13_atGate 19 = .ok (.iload_n 3, 1) := by decide +kernel
theorem dX13_atGate_20 : decode cX13_atGate 20 = .ok (.iaload, 1) := by decide +kernel
theorem dX13_atGate_21 : decode cX13_atGate 21 = .ok (.ifCond .le 10, 3) := by decide +kernel
theorem dX13_atGate_24 : decode cX13_atGate 24 = .ok (.aload_n 0, 1) := by decide +kernel
theorem dX13_atGate_25 : decode cX13_atGate 25 = .ok (.iload_n 1, 1) := by decide +kernel
theorem dX13_atGate_26 : decode cX13_atGate 26 = .ok (.iload_n 3, 1) := by decide +kernel
theorem dX13_atGate_27 : decode cX13_atGate 27 = .ok (.invokevirtual 286, 3) := by decide +kernel
theorem dX13_atGate_30 : decode cX13_atGate 30 = .ok (.ireturn, 1) := by decide +kernel
theorem dX13_atGate_31 : decode cX13_atGate 31 = .ok (.aload_n 0, 1) := by decide +kernel
theorem dX13_atGate_32 : decode cX13_atGate 32 = .ok (.getfield 138, 3) := by decide +kernel
theorem dX13_atGate_35 : decode cX13_atGate 35 = .ok (.iload_n 3, 1) := by decide +kernel
theorem dX13_atGate_36 : decode cX13_atGate 36 = .ok (.dup2, 1) := by decide +kernel
theorem dX13_atGate_37 : decode cX13_atGate 37 = .ok (.iaload, 1) := by decide +kernel
theorem dX13_atGate_38 : decode cX13_atGate 38 = .ok (.iconst 1, 1) := by decide +kernel
theorem dX13_atGate_39 : decode cX13_atGate 39 = .ok (.iadd, 1) := by decide +kernel
theorem dX13_atGate_40 : decode cX13_atGate 40 = .ok (.iastore, 1) := by decide +kernel
theorem dX13_atGate_41 : decode cX13_atGate 41 = .ok (.goto 122, 3) := by decide +kernel
theorem dX13_atGate_44 : decode cX13_atGate 44 = .ok (.iload_n 2, 1) := by decide +kernel
theorem dX13_atGate_45 : decode cX13_atGate 45 = .ok (.bipush 30, 2) := by decide +kernel
theorem dX13_atGate_47 : decode cX13_atGate 47 = .ok (.if_icmp .ne 46, 3) := by decide +kernel
theorem dX13_atGate_50 : decode cX13_atGate 50 = .ok (.aload_n 0, 1) := by decide +kernel
theorem dX13_atGate_51 : decode cX13_atGate 51 = .ok (.getfield 138, 3) := by decide +kernel
theorem dX13_atGate_54 : decode cX13_atGate 54 = .ok (.iload_n 3, 1) := by decide +kernel
theorem dX13_atGate_55 : decode cX13_atGate 55 = .ok (.iaload, 1) := by decide +kernel
theorem dX13_atGate_56 : decode cX13_atGate 56 = .ok (.ifCond .ne 10, 3) := by decide +kernel
theorem dX13_atGate_59 : decode cX13_atGate 59 = .ok (.aload_n 0, 1) := by decide +kernel
theorem dX13_atGate_60 : decode cX13_atGate 60 = .ok (.iload_n 1, 1) := by decide +kernel
theorem dX13_atGate_61 : decode cX13_atGate 61 = .ok (.iconst 3, 1) := by decide +kernel
theorem dX13_atGate_62 : decode cX13_atGate 62 = .ok (.invokevirtual 264, 3) := by decide +kernel
theorem dX13_atGate_65 : decode cX13_atGate 65 = .ok (.ireturn, 1) := by decide +kernel
theorem dX13_atGate_66 : decode cX13_atGate 66 = .ok (.aload_n 0, 1) := by decide +kernel
theorem dX13_atGate_67 : decode cX13_atGate 67 = .ok (.getfield 138, 3) := by decide +kernel
theorem dX13_atGate_70 : decode cX13_atGate 70 = .ok (.iload_n 3, 1) := by decide +kernel
theorem dX13_atGate_71 : decode cX13_atGate 71 = .ok (.dup2, 1) := by decide +kernel
theorem dX13_atGate_72 : decode cX13_atGate 72 = .ok (.iaload, 1) := by decide +kernel
theorem dX13_atGate_73 : decode cX13_atGate 73 = .ok (.iconst 1, 1) := by decide +kernel
theorem dX13_atGate_74 : decode cX13_atGate 74 = .ok (.isub, 1) := by decide +kernel
theorem dX13_atGate_75 : decode cX13_atGate 75 = .ok (.iastore, 1) := by decide +kernel
theorem dX13_atGate_76 : decode cX13_atGate 76 = .ok (.aload_n 0, 1) := by decide +kernel
theorem dX13_atGate_77 : decode cX13_atGate 77 = .ok (.getfield 138, 3) := by decide +kernel
theorem dX13_atGate_80 : decode cX13_atGate 80 = .ok (.iload_n 3, 1) := by decide +kernel
theorem dX13_atGate_81 : decode cX13_atGate 81 = .ok (.iaload, 1) := by decide +kernel
theorem dX13_atGate_82 : decode cX13_atGate 82 = .ok (.ifCond .ne 81, 3) := by decide +kernel
theorem dX13_atGate_85 : decode cX13_atGate 85 = .ok (.aload_n 0, 1) := by decide +kernel
theorem dX13_atGate_86 : decode cX13_atGate 86 = .ok (.iload_n 3, 1) := by decide +kernel
theorem dX13_atGate_87 : decode cX13_atGate 87 = .ok (.invokevirtual 295, 3) := by decide +kernel
theorem dX13_atGate_90 : decode cX13_atGate 90 = .ok (.goto 73, 3) := by decide +kernel
theorem dX13_atGate_93 : decode cX13_atGate 93 = .ok (.iload_n 2, 1) := by decide +kernel
theorem dX13_atGate_94 : decode cX13_atGate 94 = .ok (.bipush 31, 2) := by decide +kernel
theorem dX13_atGate_96 : decode cX13_atGate 96 = .ok (.if_icmp .ne 38, 3) := by decide +kernel
theorem dX13_atGate_99 : decode cX13_atGate 99 = .ok (.aload_n 0, 1) := by decide +kernel
theorem dX13_atGate_100 : decode cX13_atGate 100 = .ok (.getfield 144, 3) := by decide +kernel
theorem dX13_atGate_103 : decode cX13_atGate 103 = .ok (.iload_n 3, 1) := by decide +kernel
theorem dX13_atGate_104 : decode cX13_atGate 104 = .ok (.iaload, 1) := by decide +kernel
theorem dX13_atGate_105 : decode cX13_atGate 105 = .ok (.ifCond .ge 12, 3) := by decide +kernel
theorem dX13_atGate_108 : decode cX13_atGate 108 = .ok (.aload_n 0, 1) := by decide +kernel
theorem dX13_atGate_109 : decode cX13_atGate 109 = .ok (.getfield 138, 3) := by decide +kernel
theorem dX13_atGate_112 : decode cX13_atGate 112 = .ok (.iload_n 3, 1) := by decide +kernel
theorem dX13_atGate_113 : decode cX13_atGate 113 = .ok (.iaload, 1) := by decide +kernel
theorem dX13_atGate_114 : decode cX13_atGate 114 = .ok (.ifCond .le 10, 3) := by decide +kernel
theorem dX13_atGate_117 : decode cX13_atGate 117 = .ok (.aload_n 0, 1) := by decide +kernel
theorem dX13_atGate_118 : decode cX13_atGate 118 = .ok (.iload_n 1, 1) := by decide +kernel
theorem dX13_atGate_119 : decode cX13_atGate 119 = .ok (.iload_n 3, 1) := by decide +kernel
theorem dX13_atGate_120 : decode cX13_atGate 120 = .ok (.invokevirtual 286, 3) := by decide +kernel
theorem dX13_atGate_123 : decode cX13_atGate 123 = .ok (.ireturn, 1) := by decide +kernel
theorem dX13_atGate_124 : decode cX13_atGate 124 = .ok (.aload_n 0, 1) := by decide +kernel
theorem dX13_atGate_125 : decode cX13_atGate 125 = .ok (.getfield 144, 3) := by decide +kernel
theorem dX13_atGate_128 : decode cX13_atGate 128 = .ok (.iload_n 3, 1) := by decide +kernel
theorem dX13_atGate_129 : decode cX13_atGate 129 = .ok (.iload_n 1, 1) := by decide +kernel
theorem dX13_atGate_130 : decode cX13_atGate 130 = .ok (.iastore, 1) := by decide +kernel
theorem dX13_atGate_131 : decode cX13_atGate 131 = .ok (.goto 32, 3) := by decide +kernel
theorem dX13_atGate_134 : decode cX13_atGate 134 = .ok (.aload_n 0, 1) := by decide +kernel
theorem dX13_atGate_135 : decode cX13_atGate 135 = .ok (.getfield 144, 3) := by decide +kernel
theorem dX13_atGate_138 : decode cX13_atGate 138 = .ok (.iload_n 3, 1) := by decide +kernel
theorem dX13_atGate_139 : decode cX13_atGate 139 = .ok (.iaload, 1) := by decide +kernel
theorem dX13_atGate_140 : decode cX13_atGate 140 = .ok (.iload_n 1, 1) := by decide +kernel
theorem dX13_atGate_141 : decode cX13_atGate 141 = .ok (.if_icmp .eq 10, 3) := by decide +kernel
theorem dX13_atGate_144 : decode cX13_atGate 144 = .ok (.aload_n 0, 1) := by decide +kernel
theorem dX13_atGate_145 : decode cX13_atGate 145 = .ok (.iload_n 1, 1) := by decide +kernel
theorem dX13_atGate_146 : decode cX13_atGate 146 = .ok (.iconst 1, 1) := by decide +kernel
theorem dX13_atGate_147 : decode cX13_atGate 147 = .ok (.invokevirtual 264, 3) := by decide +kernel
theorem dX13_atGate_150 : decode cX13_atGate 150 = .ok (.ireturn, 1) := by decide +kernel
theorem dX13_atGate_151 : decode cX13_atGate 151 = .ok (.aload_n 0, 1) := by decide +kernel
theorem dX13_atGate_152 : decode cX13_atGate 152 = .ok (.getfield 144, 3) := by decide +kernel
theorem dX13_atGate_155 : decode cX13_atGate 155 = .ok (.iload_n 3, 1) := by decide +kernel
theorem dX13_atGate_156 : decode cX13_atGate 156 = .ok (.iconst (-1), 1) := by decide +kernel
theorem dX13_atGate_157 : decode cX13_atGate 157 = .ok (.iastore, 1) := by decide +kernel
theorem dX13_atGate_158 : decode cX13_atGate 158 = .ok (.aload_n 0, 1) := by decide +kernel
theorem dX13_atGate_159 : decode cX13_atGate 159 = .ok (.iload_n 3, 1) := by decide +kernel
theorem dX13_atGate_160 : decode cX13_atGate 160 = .ok (.invokevirtual 295, 3) := by decide +kernel
theorem dX13_atGate_163 : decode cX13_atGate 163 = .ok (.iconst 1, 1) := by decide +kernel
theorem dX13_atGate_164 : decode cX13_atGate 164 = .ok (.ireturn, 1) := by decide +kernel
theorem dX13_opened_0 : decode cX13_opened 0 = .ok (.aload_n 0, 1) := by decide +kernel
theorem dX13_opened_1 : decode cX13_opened 1 = .ok (.getfield 150, 3) := by decide +kernel
theorem dX13_opened_4 : decode cX13_opened 4 = .ok (.iload_n 1, 1) := by decide +kernel
theorem dX13_opened_5 : decode cX13_opened 5 = .ok (.iaload, 1) := by decide +kernel
theorem dX13_opened_6 : decode cX13_opened 6 = .ok (.ifCond .le 34, 3) := by decide +kernel
theorem dX13_opened_9 : decode cX13_opened 9 = .ok (.aload_n 0, 1) := by decide +kernel
theorem dX13_opened_10 : decode cX13_opened 10 = .ok (.aload_n 0, 1) := by decide +kernel
theorem dX13_opened_11 : decode cX13_opened 11 = .ok (.getfield 147, 3) := by decide +kernel
theorem dX13_opened_14 : decode cX13_opened 14 = .ok (.bipush 8, 2) := by decide +kernel
theorem dX13_opened_16 : decode cX13_opened 16 = .ok (.iload_n 1, 1) := by decide +kernel
theorem dX13_opened_17 : decode cX13_opened 17 = .ok (.imul, 1) := by decide +kernel
theorem dX13_opened_18 : decode cX13_opened 18 = .ok (.iaload, 1) := by decide +kernel
theorem dX13_opened_19 : decode cX13_opened 19 = .ok (.iconst 0, 1) := by decide +kernel
theorem dX13_opened_20 : decode cX13_opened 20 = .ok (.invokevirtual 252, 3) := by decide +kernel
theorem dX13_opened_23 : decode cX13_opened 23 = .ok (.bipush 31, 2) := by decide +kernel
theorem dX13_opened_25 : decode cX13_opened 25 = .ok (.if_icmp .ne 15, 3) := by decide +kernel
theorem dX13_opened_28 : decode cX13_opened 28 = .ok (.aload_n 0, 1) := by decide +kernel
theorem dX13_opened_29 : decode cX13_opened 29 = .ok (.getfield 144, 3) := by decide +kernel
theorem dX13_opened_32 : decode cX13_opened 32 = .ok (.iload_n 1, 1) := by decide +kernel
theorem dX13_opened_33 : decode cX13_opened 33 = .ok (.aload_n 0, 1) := by decide +kernel
theorem dX13_opened_34 : decode cX13_opened 34 = .ok (.iload_n 1, 1) := by decide +kernel
theorem dX13_opened_35 : decode cX13_opened 35 = .ok (.invokevirtual 283, 3) := by decide +kernel
theorem dX13_opened_38 : decode cX13_opened 38 = .ok (.iastore, 1) := by decide +kernel
theorem dX13_opened_39 : decode cX13_opened 39 = .ok (.return_, 1) := by decide +kernel
theorem dX13_opened_40 : decode cX13_opened 40 = .ok (.aload_n 0, 1) := by decide +kernel
theorem dX13_opened_41 : decode cX13_opened 41 = .ok (.getfield 150, 3) := by decide +kernel
theorem dX13_opened_44 : decode cX13_opened 44 = .ok (.iload_n 1, 1) := by decide +kernel
theorem dX13_opened_45 : decode cX13_opened 45 = .ok (.iaload, 1) := by decide +kernel
theorem dX13_opened_46 : decode cX13_opened 46 = .ok (.ifCond .le 41, 3) := by decide +kernel
theorem dX13_opened_49 : decode cX13_opened 49 = .ok (.aload_n 0, 1) := by decide +kernel
theorem dX13_opened_50 : decode cX13_opened 50 = .ok (.aload_n 0, 1) := by decide +kernel
theorem dX13_opened_51 : decode cX13_opened 51 = .ok (.getfield 147, 3) := by decide +kernel
theorem dX13_opened_54 : decode cX13_opened 54 = .ok (.bipush 8, 2) := by decide +kernel
theorem dX13_opened_56 : decode cX13_opened 56 = .ok (.iload_n 1, 1) := by decide +kernel
theorem dX13_opened_57 : decode cX13_opened 57 = .ok (.imul, 1) := by decide +kernel
theorem dX13_opened_58 : decode cX13_opened 58 = .ok (.iaload, 1) := by decide +kernel
theorem dX13_opened_59 : decode cX13_opened 59 = .ok (.iconst 0, 1) := by decide +kernel
theorem dX13_opened_60 : decode cX13_opened 60 = .ok (.invokevirtual 252, 3) := by decide +kernel
theorem dX13_opened_63 : decode cX13_opened 63 = .ok (.bipush 29, 2) := by decide +kernel
theorem dX13_opened_65 : decode cX13_opened 65 = .ok (.if_icmp .ne 22, 3) := by decide +kernel
theorem dX13_opened_68 : decode cX13_opened 68 = .ok (.aload_n 0, 1) := by decide +kernel
theorem dX13_opened_69 : decode cX13_opened 69 = .ok (.iload_n 1, 1) := by decide +kernel
theorem dX13_opened_70 : decode cX13_opened 70 = .ok (.invokevirtual 283, 3) := by decide +kernel
theorem dX13_opened_73 : decode cX13_opened 73 = .ok (.pop, 1) := by decide +kernel
theorem dX13_opened_74 : decode cX13_opened 74 = .ok (.aload_n 0, 1) := by decide +kernel
theorem dX13_opened_75 : decode cX13_opened 75 = .ok (.getfield 138, 3) := by decide +kernel
theorem dX13_opened_78 : decode cX13_opened 78 = .ok (.iload_n 1, 1) := by decide +kernel
theorem dX13_opened_79 : decode cX13_opened 79 = .ok (.dup2, 1) := by decide +kernel
theorem dX13_opened_80 : decode cX13_opened 80 = .ok (.iaload, 1) := by decide +kernel
theorem dX13_opened_81 : decode cX13_opened 81 = .ok (.iconst 1, 1) := by decide +kernel
theorem dX13_opened_82 : decode cX13_opened 82 = .ok (.iadd, 1) := by decide +kernel
theorem dX13_opened_83 : decode cX13_opened 83 = .ok (.iastore, 1) := by decide +kernel
theorem dX13_opened_84 : decode cX13_opened 84 = .ok (.goto (-44), 3) := by decide +kernel
theorem dX13_opened_87 : decode cX13_opened 87 = .ok (.return_, 1) := by decide +kernel
theorem dX13_step_0 : decode cX13_step 0 = .ok (.iload_n 1, 1) := by decide +kernel
theorem dX13_step_1 : decode cX13_step 1 = .ok (.iconst 0, 1) := by decide +kernel
theorem dX13_step_2 : decode cX13_step 2 = .ok (.bipush 7, 2) := by decide +kernel
theorem dX13_step_4 : decode cX13_step 4 = .ok (.invokestatic 179, 3) := by decide +kernel
theorem dX13_step_7 : decode cX13_step 7 = .ok (.ifCond .ne 9, 3) := by decide +kernel
theorem dX13_step_10 : decode cX13_step 10 = .ok (.aload_n 0, 1) := by decide +kernel
theorem dX13_step_11 : decode cX13_step 11 = .ok (.iconst 1, 1) := by decide +kernel
theorem dX13_step_12 : decode cX13_step 12 = .ok (.invokevirtual 171, 3) := by decide +kernel
theorem dX13_step_15 : decode cX13_step 15 = .ok (.ireturn, 1) := by decide +kernel
theorem dX13_step_16 : decode cX13_step 16 = .ok (.aload_n 0, 1) := by decide +kernel
theorem dX13_step_17 : decode cX13_step 17 = .ok (.iconst 0, 1) := by decide +kernel
theorem dX13_step_18 : decode cX13_step 18 = .ok (.putfield 165, 3) := by decide +kernel
theorem dX13_step_21 : decode cX13_step 21 = .ok (.aload_n 0, 1) := by decide +kernel
theorem dX13_step_22 : decode cX13_step 22 = .ok (.getfield 98, 3) := by decide +kernel
theorem dX13_step_25 : decode cX13_step 25 = .ok (.iload_n 1, 1) := by decide +kernel
theorem dX13_step_26 : decode cX13_step 26 = .ok (.iaload, 1) := by decide +kernel
theorem dX13_step_27 : decode cX13_step 27 = .ok (.iconst 1, 1) := by decide +kernel
theorem dX13_step_28 : decode cX13_step 28 = .ok (.if_icmp .ne 8, 3) := by decide +kernel
theorem dX13_step_31 : decode cX13_step 31 = .ok (.aload_n 0, 1) := by decide +kernel
theorem dX13_step_32 : decode cX13_step 32 = .ok (.iload_n 1, 1) := by decide +kernel
theorem dX13_step_33 : decode cX13_step 33 = .ok (.invokevirtual 298, 3) := by decide +kernel
theorem dX13_step_36 : decode cX13_step 36 = .ok (.aload_n 0, 1) := by decide +kernel
theorem dX13_step_37 : decode cX13_step 37 = .ok (.getfield 98, 3) := by decide +kernel
theorem dX13_step_40 : decode cX13_step 40 = .ok (.iload_n 1, 1) := by decide +kernel
theorem dX13_step_41 : decode cX13_step 41 = .ok (.iaload, 1) := by decide +kernel
theorem dX13_step_42 : decode cX13_step 42 = .ok (.ireturn, 1) := by decide +kernel
theorem dX13_ready_0 : decode cX13_ready 0 = .ok (.iconst 0, 1) := by decide +kernel
theorem dX13_ready_1 : decode cX13_ready 1 = .ok (.istore_n 1, 1) := by decide +kernel
theorem dX13_ready_2 : decode cX13_ready 2 = .ok (.iconst 0, 1) := by decide +kernel
theorem dX13_ready_3 : decode cX13_ready 3 = .ok (.istore_n 2, 1) := by decide +kernel
theorem dX13_ready_4 : decode cX13_ready 4 = .ok (.iload_n 2, 1) := by decide +kernel
theorem dX13_ready_5 : decode cX13_ready 5 = .ok (.bipush 8, 2) := by decide +kernel
theorem dX13_ready_7 : decode cX13_ready 7 = .ok (.if_icmp .ge 27, 3) := by decide +kernel
theorem dX13_ready_10 : decode cX13_ready 10 = .ok (.iload_n 1, 1) := by decide +kernel
theorem dX13_ready_11 : decode cX13_ready 11 = .ok (.aload_n 0, 1) := by decide +kernel
theorem dX13_ready_12 : decode cX13_ready 12 = .ok (.getfield 98, 3) := by decide +kernel
theorem dX13_ready_15 : decode cX13_ready 15 = .ok (.iload_n 2, 1) := by decide +kernel
theorem dX13_ready_16 : decode cX13_ready 16 = .ok (.iaload, 1) := by decide +kernel
theorem dX13_ready_17 : decode cX13_ready 17 = .ok (.iconst 1, 1) := by decide +kernel
theorem dX13_ready_18 : decode cX13_ready 18 = .ok (.if_icmp .ne 7, 3) := by decide +kernel
theorem dX13_ready_21 : decode cX13_ready 21 = .ok (.iconst 1, 1) := by decide +kernel
theorem dX13_ready_22 : decode cX13_ready 22 = .ok (.goto 4, 3) := by decide +kernel
theorem dX13_ready_25 : decode cX13_ready 25 = .ok (.iconst 0, 1) := by decide +kernel
theorem dX13_ready_26 : decode cX13_ready 26 = .ok (.iadd, 1) := by decide +kernel
theorem dX13_ready_27 : decode cX13_ready 27 = .ok (.istore_n 1, 1) := by decide +kernel
theorem dX13_ready_28 : decode cX13_ready 28 = .ok (.iinc 2 1, 3) := by decide +kernel
theorem dX13_ready_31 : decode cX13_ready 31 = .ok (.goto (-27), 3) := by decide +kernel
theorem dX13_ready_34 : decode cX13_ready 34 = .ok (.iload_n 1, 1) := by decide +kernel
theorem dX13_ready_35 : decode cX13_ready 35 = .ok (.ireturn, 1) := by decide +kernel
theorem dX13_run_0 : decode cX13_run 0 = .ok (.iload_n 1, 1) := by decide +kernel
theorem dX13_run_1 : decode cX13_run 1 = .ok (.iconst 0, 1) := by decide +kernel
theorem dX13_run_2 : decode cX13_run 2 = .ok (.iconst 2, 1) := by decide +kernel
theorem dX13_run_3 : decode cX13_run 3 = .ok (.invokestatic 179, 3) := by decide +kernel
theorem dX13_run_6 : decode cX13_run 6 = .ok (.ifCond .eq 14, 3) := by decide +kernel
theorem dX13_run_9 : decode cX13_run 9 = .ok (.iload_n 3, 1) := by decide +kernel
theorem dX13_run_10 : decode cX13_run 10 = .ok (.iconst 0, 1) := by decide +kernel
theorem dX13_run_11 : decode cX13_run 11 = .ok (.sipush 4000, 3) := by decide +kernel
theorem dX13_run_14 : decode cX13_run 14 = .ok (.invokestatic 179, 3) := by decide +kernel
theorem dX13_run_17 : decode cX13_run 17 = .ok (.ifCond .ne 9, 3) := by decide +kernel
theorem dX13_run_20 : decode cX13_run 20 = .ok (.aload_n 0, 1) := by decide +kernel
theorem dX13_run_21 : decode cX13_run 21 = .ok (.iconst 1, 1) := by decide +kernel
theorem dX13_run_22 : decode cX13_run 22 = .ok (.invokevirtual 171, 3) := by decide +kernel
theorem dX13_run_25 : decode cX13_run 25 = .ok (.ireturn, 1) := by decide +kernel
theorem dX13_run_26 : decode cX13_run 26 = .ok (.aload_n 0, 1) := by decide +kernel
theorem dX13_run_27 : decode cX13_run 27 = .ok (.iconst 0, 1) := by decide +kernel
theorem dX13_run_28 : decode cX13_run 28 = .ok (.putfield 165, 3) := by decide +kernel
theorem dX13_run_31 : decode cX13_run 31 = .ok (.aload_n 0, 1) := by decide +kernel
theorem dX13_run_32 : decode cX13_run 32 = .ok (.iload_n 2, 1) := by decide +kernel
theorem dX13_run_33 : decode cX13_run 33 = .ok (.putfield 301, 3) := by decide +kernel
theorem dX13_run_36 : decode cX13_run 36 = .ok (.iconst 0, 1) := by decide +kernel
theorem dX13_run_37 : decode cX13_run 37 = .ok (.istore 4, 2) := by decide +kernel
theorem dX13_run_39 : decode cX13_run 39 = .ok (.iload 4, 2) := by decide +kernel
theorem dX13_run_41 : decode cX13_run 41 = .ok (.iload_n 3, 1) := by decide +kernel
theorem dX13_run_42 : decode cX13_run 42 = .ok (.if_icmp .ge 121, 3) := by decide +kernel
theorem dX13_run_45 : decode cX13_run 45 = .ok (.aload_n 0, 1) := by decide +kernel
theorem dX13_run_46 : decode cX13_run 46 = .ok (.invokevirtual 304, 3) := by decide +kernel
theorem dX13_run_49 : decode cX13_run 49 = .ok (.ifCond .le 114, 3) := by decide +kernel
theorem dX13_run_52 : decode cX13_run 52 = .ok (.iload_n 1, 1) := by decide +kernel
theorem dX13_run_53 : decode cX13_run 53 = .ok (.iconst 2, 1) := by decide +kernel
theorem dX13_run_54 : decode cX13_run 54 = .ok (.if_icmp .ne 15, 3) := by decide +kernel
theorem dX13_run_57 : decode cX13_run 57 = .ok (.aload_n 0, 1) := by decide +kernel
theorem dX13_run_58 : decode cX13_run 58 = .ok (.getfield 132, 3) := by decide +kernel
theorem dX13_run_61 : decode cX13_run 61 = .ok (.iconst 1, 1) := by decide +kernel
theorem dX13_run_62 : decode cX13_run 62 = .ok (.iadd, 1) := by decide +kernel
theorem dX13_run_63 : decode cX13_run 63 = .ok (.bipush 8, 2) := by decide +kernel
theorem dX13_run_65 : decode cX13_run 65 = .ok (.irem, 1) := by decide +kernel
theorem dX13_run_66 : decode cX13_run 66 = .ok (.goto 4, 3) := by decide +kernel
theorem dX13_run_69 : decode cX13_run 69 = .ok (.iconst 0, 1) := by decide +kernel
theorem dX13_run_70 : decode cX13_run 70 = .ok (.istore 5, 2) := by decide +kernel
theorem dX13_run_72 : decode cX13_run 72 = .ok (.iconst 0, 1) := by decide +kernel
end
section
theorem dX13_run_73 : decode cX13_run 73 = .ok (.istore 6, 2) := by decide +kernel
theorem dX13_run_75 : decode cX13_run 75 = .ok (.iload_n 1, 1) := by decide +kernel
theorem dX13_run_76 : decode cX13_run 76 = .ok (.ifCond .ne 33, 3) := by decide +kernel
theorem dX13_run_79 : decode cX13_run 79 = .ok (.aload_n 0, 1) := by decide +kernel
theorem dX13_run_80 : decode cX13_run 80 = .ok (.aload_n 0, 1) := by decide +kernel
theorem dX13_run_81 : decode cX13_run 81 = .ok (.getfield 301, 3) := by decide +kernel
theorem dX13_run_84 : decode cX13_run 84 = .ok (.ldc_w 307, 3) := by decide +kernel
theorem dX13_run_87 : decode cX13_run 87 = .ok (.imul, 1) := by decide +kernel
theorem dX13_run_88 : decode cX13_run 88 = .ok (.sipush 12345, 3) := by decide +kernel
theorem dX13_run_91 : decode cX13_run 91 = .ok (.iadd, 1) := by decide +kernel
theorem dX13_run_92 : decode cX13_run 92 = .ok (.putfield 301, 3) := by decide +kernel
theorem dX13_run_95 : decode cX13_run 95 = .ok (.aload_n 0, 1) := by decide +kernel
theorem dX13_run_96 : decode cX13_run 96 = .ok (.getfield 301, 3) := by decide +kernel
theorem dX13_run_99 : decode cX13_run 99 = .ok (.bipush 8, 2) := by decide +kernel
theorem dX13_run_101 : decode cX13_run 101 = .ok (.iushr, 1) := by decide +kernel
theorem dX13_run_102 : decode cX13_run 102 = .ok (.aload_n 0, 1) := by decide +kernel
theorem dX13_run_103 : decode cX13_run 103 = .ok (.invokevirtual 304, 3) := by decide +kernel
theorem dX13_run_106 : decode cX13_run 106 = .ok (.irem, 1) := by decide +kernel
theorem dX13_run_107 : decode cX13_run 107 = .ok (.istore 6, 2) := by decide +kernel
theorem dX13_run_109 : decode cX13_run 109 = .ok (.aload_n 0, 1) := by decide +kernel
theorem dX13_run_110 : decode cX13_run 110 = .ok (.getfield 98, 3) := by decide +kernel
theorem dX13_run_113 : decode cX13_run 113 = .ok (.iload 5, 2) := by decide +kernel
theorem dX13_run_115 : decode cX13_run 115 = .ok (.iaload, 1) := by decide +kernel
theorem dX13_run_116 : decode cX13_run 116 = .ok (.iconst 1, 1) := by decide +kernel
theorem dX13_run_117 : decode cX13_run 117 = .ok (.if_icmp .ne 8, 3) := by decide +kernel
theorem dX13_run_120 : decode cX13_run 120 = .ok (.iload 6, 2) := by decide +kernel
theorem dX13_run_122 : decode cX13_run 122 = .ok (.ifCond .le 29, 3) := by decide +kernel
theorem dX13_run_125 : decode cX13_run 125 = .ok (.aload_n 0, 1) := by decide +kernel
theorem dX13_run_126 : decode cX13_run 126 = .ok (.getfield 98, 3) := by decide +kernel
theorem dX13_run_129 : decode cX13_run 129 = .ok (.iload 5, 2) := by decide +kernel
theorem dX13_run_131 : decode cX13_run 131 = .ok (.iaload, 1) := by decide +kernel
theorem dX13_run_132 : decode cX13_run 132 = .ok (.iconst 1, 1) := by decide +kernel
theorem dX13_run_133 : decode cX13_run 133 = .ok (.if_icmp .ne 6, 3) := by decide +kernel
theorem dX13_run_136 : decode cX13_run 136 = .ok (.iinc 6 (-1), 3) := by decide +kernel
theorem dX13_run_139 : decode cX13_run 139 = .ok (.iload 5, 2) := by decide +kernel
theorem dX13_run_141 : decode cX13_run 141 = .ok (.iconst 1, 1) := by decide +kernel
theorem dX13_run_142 : decode cX13_run 142 = .ok (.iadd, 1) := by decide +kernel
theorem dX13_run_143 : decode cX13_run 143 = .ok (.bipush 8, 2) := by decide +kernel
theorem dX13_run_145 : decode cX13_run 145 = .ok (.irem, 1) := by decide +kernel
theorem dX13_run_146 : decode cX13_run 146 = .ok (.istore 5, 2) := by decide +kernel
theorem dX13_run_148 : decode cX13_run 148 = .ok (.goto (-39), 3) := by decide +kernel
theorem dX13_run_151 : decode cX13_run 151 = .ok (.aload_n 0, 1) := by decide +kernel
theorem dX13_run_152 : decode cX13_run 152 = .ok (.iload 5, 2) := by decide +kernel
theorem dX13_run_154 : decode cX13_run 154 = .ok (.invokevirtual 298, 3) := by decide +kernel
theorem dX13_run_157 : decode cX13_run 157 = .ok (.iinc 4 1, 3) := by decide +kernel
theorem dX13_run_160 : decode cX13_run 160 = .ok (.goto (-121), 3) := by decide +kernel
theorem dX13_run_163 : decode cX13_run 163 = .ok (.iload 4, 2) := by decide +kernel
theorem dX13_run_165 : decode cX13_run 165 = .ok (.ireturn, 1) := by decide +kernel
theorem dX13_tick_0 : decode cX13_tick 0 = .ok (.iload_n 1, 1) := by decide +kernel
theorem dX13_tick_1 : decode cX13_tick 1 = .ok (.ifCond .ge 9, 3) := by decide +kernel
theorem dX13_tick_4 : decode cX13_tick 4 = .ok (.aload_n 0, 1) := by decide +kernel
theorem dX13_tick_5 : decode cX13_tick 5 = .ok (.iconst 1, 1) := by decide +kernel
theorem dX13_tick_6 : decode cX13_tick 6 = .ok (.invokevirtual 171, 3) := by decide +kernel
theorem dX13_tick_9 : decode cX13_tick 9 = .ok (.ireturn, 1) := by decide +kernel
theorem dX13_tick_10 : decode cX13_tick 10 = .ok (.aload_n 0, 1) := by decide +kernel
theorem dX13_tick_11 : decode cX13_tick 11 = .ok (.iconst 0, 1) := by decide +kernel
theorem dX13_tick_12 : decode cX13_tick 12 = .ok (.putfield 165, 3) := by decide +kernel
theorem dX13_tick_15 : decode cX13_tick 15 = .ok (.aload_n 0, 1) := by decide +kernel
theorem dX13_tick_16 : decode cX13_tick 16 = .ok (.dup, 1) := by decide +kernel
theorem dX13_tick_17 : decode cX13_tick 17 = .ok (.getfield 255, 3) := by decide +kernel
theorem dX13_tick_20 : decode cX13_tick 20 = .ok (.iload_n 1, 1) := by decide +kernel
theorem dX13_tick_21 : decode cX13_tick 21 = .ok (.i2l, 1) := by decide +kernel
theorem dX13_tick_22 : decode cX13_tick 22 = .ok (.ladd, 1) := by decide +kernel
theorem dX13_tick_23 : decode cX13_tick 23 = .ok (.putfield 255, 3) := by decide +kernel
theorem dX13_tick_26 : decode cX13_tick 26 = .ok (.iconst 0, 1) := by decide +kernel
theorem dX13_tick_27 : decode cX13_tick 27 = .ok (.istore_n 2, 1) := by decide +kernel
theorem dX13_tick_28 : decode cX13_tick 28 = .ok (.iconst 0, 1) := by decide +kernel
theorem dX13_tick_29 : decode cX13_tick 29 = .ok (.istore_n 3, 1) := by decide +kernel
theorem dX13_tick_30 : decode cX13_tick 30 = .ok (.iload_n 3, 1) := by decide +kernel
theorem dX13_tick_31 : decode cX13_tick 31 = .ok (.bipush 8, 2) := by decide +kernel
theorem dX13_tick_33 : decode cX13_tick 33 = .ok (.if_icmp .ge 44, 3) := by decide +kernel
theorem dX13_tick_36 : decode cX13_tick 36 = .ok (.aload_n 0, 1) := by decide +kernel
theorem dX13_tick_37 : decode cX13_tick 37 = .ok (.getfield 98, 3) := by decide +kernel
theorem dX13_tick_40 : decode cX13_tick 40 = .ok (.iload_n 3, 1) := by decide +kernel
theorem dX13_tick_41 : decode cX13_tick 41 = .ok (.iaload, 1) := by decide +kernel
theorem dX13_tick_42 : decode cX13_tick 42 = .ok (.iconst 3, 1) := by decide +kernel
theorem dX13_tick_43 : decode cX13_tick 43 = .ok (.if_icmp .ne 28, 3) := by decide +kernel
theorem dX13_tick_46 : decode cX13_tick 46 = .ok (.aload_n 0, 1) := by decide +kernel
theorem dX13_tick_47 : decode cX13_tick 47 = .ok (.getfield 129, 3) := by decide +kernel
theorem dX13_tick_50 : decode cX13_tick 50 = .ok (.iload_n 3, 1) := by decide +kernel
theorem dX13_tick_51 : decode cX13_tick 51 = .ok (.laload, 1) := by decide +kernel
theorem dX13_tick_52 : decode cX13_tick 52 = .ok (.aload_n 0, 1) := by decide +kernel
theorem dX13_tick_53 : decode cX13_tick 53 = .ok (.getfield 255, 3) := by decide +kernel
theorem dX13_tick_56 : decode cX13_tick 56 = .ok (.lcmp, 1) := by decide +kernel
theorem dX13_tick_57 : decode cX13_tick 57 = .ok (.ifCond .le 6, 3) := by decide +kernel
theorem dX13_tick_60 : decode cX13_tick 60 = .ok (.goto 11, 3) := by decide +kernel
theorem dX13_tick_63 : decode cX13_tick 63 = .ok (.aload_n 0, 1) := by decide +kernel
theorem dX13_tick_64 : decode cX13_tick 64 = .ok (.iload_n 3, 1) := by decide +kernel
theorem dX13_tick_65 : decode cX13_tick 65 = .ok (.invokevirtual 233, 3) := by decide +kernel
theorem dX13_tick_68 : decode cX13_tick 68 = .ok (.iinc 2 1, 3) := by decide +kernel
theorem dX13_tick_71 : decode cX13_tick 71 = .ok (.iinc 3 1, 3) := by decide +kernel
theorem dX13_tick_74 : decode cX13_tick 74 = .ok (.goto (-44), 3) := by decide +kernel
theorem dX13_tick_77 : decode cX13_tick 77 = .ok (.iload_n 2, 1) := by decide +kernel
theorem dX13_tick_78 : decode cX13_tick 78 = .ok (.ireturn, 1) := by decide +kernel
theorem dX13_interrupt_0 : decode cX13_interrupt 0 = .ok (.iload_n 1, 1) := by decide +kernel
theorem dX13_interrupt_1 : decode cX13_interrupt 1 = .ok (.iconst 0, 1) := by decide +kernel
theorem dX13_interrupt_2 : decode cX13_interrupt 2 = .ok (.bipush 7, 2) := by decide +kernel
theorem dX13_interrupt_4 : decode cX13_interrupt 4 = .ok (.invokestatic 179, 3) := by decide +kernel
theorem dX13_interrupt_7 : decode cX13_interrupt 7 = .ok (.ifCond .ne 9, 3) := by decide +kernel
theorem dX13_interrupt_10 : decode cX13_interrupt 10 = .ok (.aload_n 0, 1) := by decide +kernel
theorem dX13_interrupt_11 : decode cX13_interrupt 11 = .ok (.iconst 1, 1) := by decide +kernel
theorem dX13_interrupt_12 : decode cX13_interrupt 12 = .ok (.invokevirtual 171, 3) := by decide +kernel
theorem dX13_interrupt_15 : decode cX13_interrupt 15 = .ok (.ireturn, 1) := by decide +kernel
theorem dX13_interrupt_16 : decode cX13_interrupt 16 = .ok (.aload_n 0, 1) := by decide +kernel
theorem dX13_interrupt_17 : decode cX13_interrupt 17 = .ok (.iconst 0, 1) := by decide +kernel
theorem dX13_interrupt_18 : decode cX13_interrupt 18 = .ok (.putfield 165, 3) := by decide +kernel
theorem dX13_interrupt_21 : decode cX13_interrupt 21 = .ok (.aload_n 0, 1) := by decide +kernel
theorem dX13_interrupt_22 : decode cX13_interrupt 22 = .ok (.getfield 98, 3) := by decide +kernel
theorem dX13_interrupt_25 : decode cX13_interrupt 25 = .ok (.iload_n 1, 1) := by decide +kernel
theorem dX13_interrupt_26 : decode cX13_interrupt 26 = .ok (.iaload, 1) := by decide +kernel
theorem dX13_interrupt_27 : decode cX13_interrupt 27 = .ok (.iconst 1, 1) := by decide +kernel
theorem dX13_interrupt_28 : decode cX13_interrupt 28 = .ok (.if_icmp .ne 12, 3) := by decide +kernel
theorem dX13_interrupt_31 : decode cX13_interrupt 31 = .ok (.aload_n 0, 1) := by decide +kernel
theorem dX13_interrupt_32 : decode cX13_interrupt 32 = .ok (.getfield 119, 3) := by decide +kernel
theorem dX13_interrupt_35 : decode cX13_interrupt 35 = .ok (.iload_n 1, 1) := by decide +kernel
theorem dX13_interrupt_36 : decode cX13_interrupt 36 = .ok (.iconst 1, 1) := by decide +kernel
theorem dX13_interrupt_37 : decode cX13_interrupt 37 = .ok (.bastore, 1) := by decide +kernel
theorem dX13_interrupt_38 : decode cX13_interrupt 38 = .ok (.iconst 1, 1) := by decide +kernel
theorem dX13_interrupt_39 : decode cX13_interrupt 39 = .ok (.ireturn, 1) := by decide +kernel
theorem dX13_interrupt_40 : decode cX13_interrupt 40 = .ok (.aload_n 0, 1) := by decide +kernel
theorem dX13_interrupt_41 : decode cX13_interrupt 41 = .ok (.getfield 98, 3) := by decide +kernel
theorem dX13_interrupt_44 : decode cX13_interrupt 44 = .ok (.iload_n 1, 1) := by decide +kernel
theorem dX13_interrupt_45 : decode cX13_interrupt 45 = .ok (.iaload, 1) := by decide +kernel
theorem dX13_interrupt_46 : decode cX13_interrupt 46 = .ok (.iconst 2, 1) := by decide +kernel
theorem dX13_interrupt_47 : decode cX13_interrupt 47 = .ok (.if_icmp .eq 15, 3) := by decide +kernel
theorem dX13_interrupt_50 : decode cX13_interrupt 50 = .ok (.aload_n 0, 1) := by decide +kernel
theorem dX13_interrupt_51 : decode cX13_interrupt 51 = .ok (.getfield 98, 3) := by decide +kernel
theorem dX13_interrupt_54 : decode cX13_interrupt 54 = .ok (.iload_n 1, 1) := by decide +kernel
theorem dX13_interrupt_55 : decode cX13_interrupt 55 = .ok (.iaload, 1) := by decide +kernel
theorem dX13_interrupt_56 : decode cX13_interrupt 56 = .ok (.iconst 3, 1) := by decide +kernel
theorem dX13_interrupt_57 : decode cX13_interrupt 57 = .ok (.if_icmp .eq 5, 3) := by decide +kernel
theorem dX13_interrupt_60 : decode cX13_interrupt 60 = .ok (.iconst 0, 1) := by decide +kernel
theorem dX13_interrupt_61 : decode cX13_interrupt 61 = .ok (.ireturn, 1) := by decide +kernel
theorem dX13_interrupt_62 : decode cX13_interrupt 62 = .ok (.aload_n 0, 1) := by decide +kernel
theorem dX13_interrupt_63 : decode cX13_interrupt 63 = .ok (.getfield 98, 3) := by decide +kernel
theorem dX13_interrupt_66 : decode cX13_interrupt 66 = .ok (.iload_n 1, 1) := by decide +kernel
theorem dX13_interrupt_67 : decode cX13_interrupt 67 = .ok (.iaload, 1) := by decide +kernel
theorem dX13_interrupt_68 : decode cX13_interrupt 68 = .ok (.iconst 2, 1) := by decide +kernel
theorem dX13_interrupt_69 : decode cX13_interrupt 69 = .ok (.if_icmp .ne 42, 3) := by decide +kernel
theorem dX13_interrupt_72 : decode cX13_interrupt 72 = .ok (.aload_n 0, 1) := by decide +kernel
theorem dX13_interrupt_73 : decode cX13_interrupt 73 = .ok (.getfield 126, 3) := by decide +kernel
theorem dX13_interrupt_76 : decode cX13_interrupt 76 = .ok (.iload_n 1, 1) := by decide +kernel
theorem dX13_interrupt_77 : decode cX13_interrupt 77 = .ok (.baload, 1) := by decide +kernel
theorem dX13_interrupt_78 : decode cX13_interrupt 78 = .ok (.ifCond .eq 33, 3) := by decide +kernel
theorem dX13_interrupt_81 : decode cX13_interrupt 81 = .ok (.aload_n 0, 1) := by decide +kernel
theorem dX13_interrupt_82 : decode cX13_interrupt 82 = .ok (.getfield 116, 3) := by decide +kernel
theorem dX13_interrupt_85 : decode cX13_interrupt 85 = .ok (.iload_n 1, 1) := by decide +kernel
theorem dX13_interrupt_86 : decode cX13_interrupt 86 = .ok (.bipush (-2), 2) := by decide +kernel
theorem dX13_interrupt_88 : decode cX13_interrupt 88 = .ok (.iastore, 1) := by decide +kernel
theorem dX13_interrupt_89 : decode cX13_interrupt 89 = .ok (.aload_n 0, 1) := by decide +kernel
theorem dX13_interrupt_90 : decode cX13_interrupt 90 = .ok (.getfield 123, 3) := by decide +kernel
theorem dX13_interrupt_93 : decode cX13_interrupt 93 = .ok (.iload_n 1, 1) := by decide +kernel
theorem dX13_interrupt_94 : decode cX13_interrupt 94 = .ok (.baload, 1) := by decide +kernel
theorem dX13_interrupt_95 : decode cX13_interrupt 95 = .ok (.ifCond .eq 14, 3) := by decide +kernel
theorem dX13_interrupt_98 : decode cX13_interrupt 98 = .ok (.aload_n 0, 1) := by decide +kernel
theorem dX13_interrupt_99 : decode cX13_interrupt 99 = .ok (.aload_n 0, 1) := by decide +kernel
theorem dX13_interrupt_100 : decode cX13_interrupt 100 = .ok (.getfield 107, 3) := by decide +kernel
theorem dX13_interrupt_103 : decode cX13_interrupt 103 = .ok (.iload_n 1, 1) := by decide +kernel
theorem dX13_interrupt_104 : decode cX13_interrupt 104 = .ok (.iaload, 1) := by decide +kernel
theorem dX13_interrupt_105 : decode cX13_interrupt 105 = .ok (.iload_n 1, 1) := by decide +kernel
theorem dX13_interrupt_106 : decode cX13_interrupt 106 = .ok (.invokevirtual 289, 3) := by decide +kernel
theorem dX13_interrupt_109 : decode cX13_interrupt 109 = .ok (.iconst 1, 1) := by decide +kernel
theorem dX13_interrupt_110 : decode cX13_interrupt 110 = .ok (.ireturn, 1) := by decide +kernel
theorem dX13_interrupt_111 : decode cX13_interrupt 111 = .ok (.aload_n 0, 1) := by decide +kernel
theorem dX13_interrupt_112 : decode cX13_interrupt 112 = .ok (.getfield 98, 3) := by decide +kernel
theorem dX13_interrupt_115 : decode cX13_interrupt 115 = .ok (.iload_n 1, 1) := by decide +kernel
theorem dX13_interrupt_116 : decode cX13_interrupt 116 = .ok (.iaload, 1) := by decide +kernel
theorem dX13_interrupt_117 : decode cX13_interrupt 117 = .ok (.iconst 2, 1) := by decide +kernel
theorem dX13_interrupt_118 : decode cX13_interrupt 118 = .ok (.if_icmp .ne 14, 3) := by decide +kernel
theorem dX13_interrupt_121 : decode cX13_interrupt 121 = .ok (.aload_n 0, 1) := by decide +kernel
theorem dX13_interrupt_122 : decode cX13_interrupt 122 = .ok (.aload_n 0, 1) := by decide +kernel
theorem dX13_interrupt_123 : decode cX13_interrupt 123 = .ok (.getfield 107, 3) := by decide +kernel
theorem dX13_interrupt_126 : decode cX13_interrupt 126 = .ok (.iload_n 1, 1) := by decide +kernel
theorem dX13_interrupt_127 : decode cX13_interrupt 127 = .ok (.iaload, 1) := by decide +kernel
theorem dX13_interrupt_128 : decode cX13_interrupt 128 = .ok (.iload_n 1, 1) := by decide +kernel
theorem dX13_interrupt_129 : decode cX13_interrupt 129 = .ok (.invokevirtual 229, 3) := by decide +kernel
theorem dX13_interrupt_132 : decode cX13_interrupt 132 = .ok (.aload_n 0, 1) := by decide +kernel
theorem dX13_interrupt_133 : decode cX13_interrupt 133 = .ok (.getfield 101, 3) := by decide +kernel
theorem dX13_interrupt_136 : decode cX13_interrupt 136 = .ok (.iload_n 1, 1) := by decide +kernel
theorem dX13_interrupt_137 : decode cX13_interrupt 137 = .ok (.bipush (-2), 2) := by decide +kernel
theorem dX13_interrupt_139 : decode cX13_interrupt 139 = .ok (.iastore, 1) := by decide +kernel
theorem dX13_interrupt_140 : decode cX13_interrupt 140 = .ok (.aload_n 0, 1) := by decide +kernel
theorem dX13_interrupt_141 : decode cX13_interrupt 141 = .ok (.iload_n 1, 1) := by decide +kernel
theorem dX13_interrupt_142 : decode cX13_interrupt 142 = .ok (.invokevirtual 233, 3) := by decide +kernel
theorem dX13_interrupt_145 : decode cX13_interrupt 145 = .ok (.iconst 1, 1) := by decide +kernel
theorem dX13_interrupt_146 : decode cX13_interrupt 146 = .ok (.ireturn, 1) := by decide +kernel
theorem dX13_look_0 : decode cX13_look 0 = .ok (.iload_n 1, 1) := by decide +kernel
theorem dX13_look_1 : decode cX13_look 1 = .ok (.iconst 0, 1) := by decide +kernel
theorem dX13_look_2 : decode cX13_look 2 = .ok (.bipush 7, 2) := by decide +kernel
theorem dX13_look_4 : decode cX13_look 4 = .ok (.invokestatic 179, 3) := by decide +kernel
theorem dX13_look_7 : decode cX13_look 7 = .ok (.ifCond .eq 12, 3) := by decide +kernel
theorem dX13_look_10 : decode cX13_look 10 = .ok (.iload_n 2, 1) := by decide +kernel
theorem dX13_look_11 : decode cX13_look 11 = .ok (.iconst 0, 1) := by decide +kernel
theorem dX13_look_12 : decode cX13_look 12 = .ok (.iconst 5, 1) := by decide +kernel
theorem dX13_look_13 : decode cX13_look 13 = .ok (.invokestatic 179, 3) := by decide +kernel
theorem dX13_look_16 : decode cX13_look 16 = .ok (.ifCond .ne 9, 3) := by decide +kernel
theorem dX13_look_19 : decode cX13_look 19 = .ok (.aload_n 0, 1) := by decide +kernel
theorem dX13_look_20 : decode cX13_look 20 = .ok (.iconst 1, 1) := by decide +kernel
theorem dX13_look_21 : decode cX13_look 21 = .ok (.invokevirtual 171, 3) := by decide +kernel
theorem dX13_look_24 : decode cX13_look 24 = .ok (.ireturn, 1) := by decide +kernel
theorem dX13_look_25 : decode cX13_look 25 = .ok (.aload_n 0, 1) := by decide +kernel
theorem dX13_look_26 : decode cX13_look 26 = .ok (.iconst 0, 1) := by decide +kernel
theorem dX13_look_27 : decode cX13_look 27 = .ok (.putfield 165, 3) := by decide +kernel
theorem dX13_look_30 : decode cX13_look 30 = .ok (.iload_n 2, 1) := by decide +kernel
theorem dX13_look_31 : decode cX13_look 31 = .ok (.ifCond .ne 10, 3) := by decide +kernel
theorem dX13_look_34 : decode cX13_look 34 = .ok (.aload_n 0, 1) := by decide +kernel
theorem dX13_look_35 : decode cX13_look 35 = .ok (.getfield 98, 3) := by decide +kernel
theorem dX13_look_38 : decode cX13_look 38 = .ok (.iload_n 1, 1) := by decide +kernel
theorem dX13_look_39 : decode cX13_look 39 = .ok (.iaload, 1) := by decide +kernel
theorem dX13_look_40 : decode cX13_look 40 = .ok (.ireturn, 1) := by decide +kernel
theorem dX13_look_41 : decode cX13_look 41 = .ok (.iload_n 2, 1) := by decide +kernel
theorem dX13_look_42 : decode cX13_look 42 = .ok (.iconst 1, 1) := by decide +kernel
theorem dX13_look_43 : decode cX13_look 43 = .ok (.if_icmp .ne 10, 3) := by decide +kernel
theorem dX13_look_46 : decode cX13_look 46 = .ok (.aload_n 0, 1) := by decide +kernel
theorem dX13_look_47 : decode cX13_look 47 = .ok (.getfield 101, 3) := by decide +kernel
theorem dX13_look_50 : decode cX13_look 50 = .ok (.iload_n 1, 1) := by decide +kernel
theorem dX13_look_51 : decode cX13_look 51 = .ok (.iaload, 1) := by decide +kernel
theorem dX13_look_52 : decode cX13_look 52 = .ok (.ireturn, 1) := by decide +kernel
theorem dX13_look_53 : decode cX13_look 53 = .ok (.iload_n 2, 1) := by decide +kernel
theorem dX13_look_54 : decode cX13_look 54 = .ok (.iconst 2, 1) := by decide +kernel
theorem dX13_look_55 : decode cX13_look 55 = .ok (.if_icmp .ne 33, 3) := by decide +kernel
theorem dX13_look_58 : decode cX13_look 58 = .ok (.aload_n 0, 1) := by decide +kernel
theorem dX13_look_59 : decode cX13_look 59 = .ok (.getfield 98, 3) := by decide +kernel
theorem dX13_look_62 : decode cX13_look 62 = .ok (.iload_n 1, 1) := by decide +kernel
theorem dX13_look_63 : decode cX13_look 63 = .ok (.iaload, 1) := by decide +kernel
theorem dX13_look_64 : decode cX13_look 64 = .ok (.ifCond .eq 13, 3) := by decide +kernel
theorem dX13_look_67 : decode cX13_look 67 = .ok (.aload_n 0, 1) := by decide +kernel
theorem dX13_look_68 : decode cX13_look 68 = .ok (.getfield 98, 3) := by decide +kernel
theorem dX13_look_71 : decode cX13_look 71 = .ok (.iload_n 1, 1) := by decide +kernel
theorem dX13_look_72 : decode cX13_look 72 = .ok (.iaload, 1) := by decide +kernel
theorem dX13_look_73 : decode cX13_look 73 = .ok (.iconst 4, 1) := by decide +kernel
theorem dX13_look_74 : decode cX13_look 74 = .ok (.if_icmp .ne 7, 3) := by decide +kernel
theorem dX13_look_77 : decode cX13_look 77 = .ok (.iconst (-1), 1) := by decide +kernel
theorem dX13_look_78 : decode cX13_look 78 = .ok (.goto 9, 3) := by decide +kernel
theorem dX13_look_81 : decode cX13_look 81 = .ok (.aload_n 0, 1) := by decide +kernel
theorem dX13_look_82 : decode cX13_look 82 = .ok (.getfield 104, 3) := by decide +kernel
theorem dX13_look_85 : decode cX13_look 85 = .ok (.iload_n 1, 1) := by decide +kernel
theorem dX13_look_86 : decode cX13_look 86 = .ok (.iaload, 1) := by decide +kernel
theorem dX13_look_87 : decode cX13_look 87 = .ok (.ireturn, 1) := by decide +kernel
theorem dX13_look_88 : decode cX13_look 88 = .ok (.iload_n 2, 1) := by decide +kernel
theorem dX13_look_89 : decode cX13_look 89 = .ok (.iconst 3, 1) := by decide +kernel
theorem dX13_look_90 : decode cX13_look 90 = .ok (.if_icmp .ne 24, 3) := by decide +kernel
theorem dX13_look_93 : decode cX13_look 93 = .ok (.aload_n 0, 1) := by decide +kernel
theorem dX13_look_94 : decode cX13_look 94 = .ok (.getfield 98, 3) := by decide +kernel
theorem dX13_look_97 : decode cX13_look 97 = .ok (.iload_n 1, 1) := by decide +kernel
theorem dX13_look_98 : decode cX13_look 98 = .ok (.iaload, 1) := by decide +kernel
theorem dX13_look_99 : decode cX13_look 99 = .ok (.iconst 2, 1) := by decide +kernel
theorem dX13_look_100 : decode cX13_look 100 = .ok (.if_icmp .ne 12, 3) := by decide +kernel
theorem dX13_look_103 : decode cX13_look 103 = .ok (.aload_n 0, 1) := by decide +kernel
theorem dX13_look_104 : decode cX13_look 104 = .ok (.getfield 107, 3) := by decide +kernel
theorem dX13_look_107 : decode cX13_look 107 = .ok (.iload_n 1, 1) := by decide +kernel
theorem dX13_look_108 : decode cX13_look 108 = .ok (.iaload, 1) := by decide +kernel
theorem dX13_look_109 : decode cX13_look 109 = .ok (.goto 4, 3) := by decide +kernel
theorem dX13_look_112 : decode cX13_look 112 = .ok (.iconst (-1), 1) := by decide +kernel
theorem dX13_look_113 : decode cX13_look 113 = .ok (.ireturn, 1) := by decide +kernel
theorem dX13_look_114 : decode cX13_look 114 = .ok (.iload_n 2, 1) := by decide +kernel
theorem dX13_look_115 : decode cX13_look 115 = .ok (.iconst 4, 1) := by decide +kernel
theorem dX13_look_116 : decode cX13_look 116 = .ok (.if_icmp .ne 18, 3) := by decide +kernel
theorem dX13_look_119 : decode cX13_look 119 = .ok (.aload_n 0, 1) := by decide +kernel
theorem dX13_look_120 : decode cX13_look 120 = .ok (.getfield 119, 3) := by decide +kernel
theorem dX13_look_123 : decode cX13_look 123 = .ok (.iload_n 1, 1) := by decide +kernel
theorem dX13_look_124 : decode cX13_look 124 = .ok (.baload, 1) := by decide +kernel
theorem dX13_look_125 : decode cX13_look 125 = .ok (.ifCond .eq 7, 3) := by decide +kernel
theorem dX13_look_128 : decode cX13_look 128 = .ok (.iconst 1, 1) := by decide +kernel
theorem dX13_look_129 : decode cX13_look 129 = .ok (.goto 4, 3) := by decide +kernel
theorem dX13_look_132 : decode cX13_look 132 = .ok (.iconst 0, 1) := by decide +kernel
theorem dX13_look_133 : decode cX13_look 133 = .ok (.ireturn, 1) := by decide +kernel
theorem dX13_look_134 : decode cX13_look 134 = .ok (.aload_n 0, 1) := by decide +kernel
theorem dX13_look_135 : decode cX13_look 135 = .ok (.getfield 98, 3) := by decide +kernel
theorem dX13_look_138 : decode cX13_look 138 = .ok (.iload_n 1, 1) := by decide +kernel
theorem dX13_look_139 : decode cX13_look 139 = .ok (.iaload, 1) := by decide +kernel
theorem dX13_look_140 : decode cX13_look 140 = .ok (.iconst 5, 1) := by decide +kernel
theorem dX13_look_141 : decode cX13_look 141 = .ok (.if_icmp .ne 12, 3) := by decide +kernel
theorem dX13_look_144 : decode cX13_look 144 = .ok (.aload_n 0, 1) := by decide +kernel
theorem dX13_look_145 : decode cX13_look 145 = .ok (.getfield 110, 3) := by decide +kernel
theorem dX13_look_148 : decode cX13_look 148 = .ok (.iload_n 1, 1) := by decide +kernel
theorem dX13_look_149 : decode cX13_look 149 = .ok (.iaload, 1) := by decide +kernel
theorem dX13_look_150 : decode cX13_look 150 = .ok (.goto 4, 3) := by decide +kernel
theorem dX13_look_153 : decode cX13_look 153 = .ok (.iconst 0, 1) := by decide +kernel
theorem dX13_look_154 : decode cX13_look 154 = .ok (.ireturn, 1) := by decide +kernel
theorem dX13_nextOf_0 : decode cX13_nextOf 0 = .ok (.aload_n 0, 1) := by decide +kernel
theorem dX13_nextOf_1 : decode cX13_nextOf 1 = .ok (.getfield 98, 3) := by decide +kernel
theorem dX13_nextOf_4 : decode cX13_nextOf 4 = .ok (.iload_n 1, 1) := by decide +kernel
theorem dX13_nextOf_5 : decode cX13_nextOf 5 = .ok (.iaload, 1) := by decide +kernel
theorem dX13_nextOf_6 : decode cX13_nextOf 6 = .ok (.iconst 2, 1) := by decide +kernel
theorem dX13_nextOf_7 : decode cX13_nextOf 7 = .ok (.if_icmp .ne 27, 3) := by decide +kernel
theorem dX13_nextOf_10 : decode cX13_nextOf 10 = .ok (.aload_n 0, 1) := by decide +kernel
theorem dX13_nextOf_11 : decode cX13_nextOf 11 = .ok (.getfield 123, 3) := by decide +kernel
theorem dX13_nextOf_14 : decode cX13_nextOf 14 = .ok (.iload_n 1, 1) := by decide +kernel
theorem dX13_nextOf_15 : decode cX13_nextOf 15 = .ok (.baload, 1) := by decide +kernel
theorem dX13_nextOf_16 : decode cX13_nextOf 16 = .ok (.ifCond .ne 18, 3) := by decide +kernel
theorem dX13_nextOf_19 : decode cX13_nextOf 19 = .ok (.aload_n 0, 1) := by decide +kernel
theorem dX13_nextOf_20 : decode cX13_nextOf 20 = .ok (.getfield 135, 3) := by decide +kernel
theorem dX13_nextOf_23 : decode cX13_nextOf 23 = .ok (.aload_n 0, 1) := by decide +kernel
theorem dX13_nextOf_24 : decode cX13_nextOf 24 = .ok (.getfield 107, 3) := by decide +kernel
theorem dX13_nextOf_27 : decode cX13_nextOf 27 = .ok (.iload_n 1, 1) := by decide +kernel
theorem dX13_nextOf_28 : decode cX13_nextOf 28 = .ok (.iaload, 1) := by decide +kernel
theorem dX13_nextOf_29 : decode cX13_nextOf 29 = .ok (.iaload, 1) := by decide +kernel
theorem dX13_nextOf_30 : decode cX13_nextOf 30 = .ok (.iconst 1, 1) := by decide +kernel
theorem dX13_nextOf_31 : decode cX13_nextOf 31 = .ok (.if_icmp .eq 5, 3) := by decide +kernel
theorem dX13_nextOf_34 : decode cX13_nextOf 34 = .ok (.iconst (-1), 1) := by decide +kernel
theorem dX13_nextOf_35 : decode cX13_nextOf 35 = .ok (.ireturn, 1) := by decide +kernel
theorem dX13_nextOf_36 : decode cX13_nextOf 36 = .ok (.aload_n 0, 1) := by decide +kernel
theorem dX13_nextOf_37 : decode cX13_nextOf 37 = .ok (.getfield 144, 3) := by decide +kernel
theorem dX13_nextOf_40 : decode cX13_nextOf 40 = .ok (.aload_n 0, 1) := by decide +kernel
theorem dX13_nextOf_41 : decode cX13_nextOf 41 = .ok (.getfield 107, 3) := by decide +kernel
theorem dX13_nextOf_44 : decode cX13_nextOf 44 = .ok (.iload_n 1, 1) := by decide +kernel
theorem dX13_nextOf_45 : decode cX13_nextOf 45 = .ok (.iaload, 1) := by decide +kernel
theorem dX13_nextOf_46 : decode cX13_nextOf 46 = .ok (.iaload, 1) := by decide +kernel
theorem dX13_nextOf_47 : decode cX13_nextOf 47 = .ok (.ireturn, 1) := by decide +kernel
theorem dX13_dead_0 : decode cX13_dead 0 = .ok (.aload_n 0, 1) := by decide +kernel
theorem dX13_dead_1 : decode cX13_dead 1 = .ok (.iconst 0, 1) := by decide +kernel
theorem dX13_dead_2 : decode cX13_dead 2 = .ok (.putfield 165, 3) := by decide +kernel
theorem dX13_dead_5 : decode cX13_dead 5 = .ok (.iconst 0, 1) := by decide +kernel
theorem dX13_dead_6 : decode cX13_dead 6 = .ok (.istore_n 1, 1) := by decide +kernel
theorem dX13_dead_7 : decode cX13_dead 7 = .ok (.iload_n 1, 1) := by decide +kernel
theorem dX13_dead_8 : decode cX13_dead 8 = .ok (.bipush 8, 2) := by decide +kernel
theorem dX13_dead_10 : decode cX13_dead 10 = .ok (.if_icmp .ge 42, 3) := by decide +kernel
theorem dX13_dead_13 : decode cX13_dead 13 = .ok (.iload_n 1, 1) := by decide +kernel
theorem dX13_dead_14 : decode cX13_dead 14 = .ok (.istore_n 2, 1) := by decide +kernel
theorem dX13_dead_15 : decode cX13_dead 15 = .ok (.iconst 0, 1) := by decide +kernel
theorem dX13_dead_16 : decode cX13_dead 16 = .ok (.istore_n 3, 1) := by decide +kernel
theorem dX13_dead_17 : decode cX13_dead 17 = .ok (.iload_n 3, 1) := by decide +kernel
theorem dX13_dead_18 : decode cX13_dead 18 = .ok (.bipush 8, 2) := by decide +kernel
theorem dX13_dead_20 : decode cX13_dead 20 = .ok (.if_icmp .ge 26, 3) := by decide +kernel
theorem dX13_dead_23 : decode cX13_dead 23 = .ok (.iload_n 2, 1) := by decide +kernel
theorem dX13_dead_24 : decode cX13_dead 24 = .ok (.ifCond .lt 22, 3) := by decide +kernel
theorem dX13_dead_27 : decode cX13_dead 27 = .ok (.aload_n 0, 1) := by decide +kernel
theorem dX13_dead_28 : decode cX13_dead 28 = .ok (.iload_n 2, 1) := by decide +kernel
theorem dX13_dead_29 : decode cX13_dead 29 = .ok (.invokevirtual 308, 3) := by decide +kernel
theorem dX13_dead_32 : decode cX13_dead 32 = .ok (.istore_n 2, 1) := by decide +kernel
theorem dX13_dead_33 : decode cX13_dead 33 = .ok (.iload_n 2, 1) := by decide +kernel
theorem dX13_dead_34 : decode cX13_dead 34 = .ok (.iload_n 1, 1) := by decide +kernel
theorem dX13_dead_35 : decode cX13_dead 35 = .ok (.if_icmp .ne 5, 3) := by decide +kernel
theorem dX13_dead_38 : decode cX13_dead 38 = .ok (.iload_n 1, 1) := by decide +kernel
theorem dX13_dead_39 : decode cX13_dead 39 = .ok (.ireturn, 1) := by decide +kernel
theorem dX13_dead_40 : decode cX13_dead 40 = .ok (.iinc 3 1, 3) := by decide +kernel
theorem dX13_dead_43 : decode cX13_dead 43 = .ok (.goto (-26), 3) := by decide +kernel
theorem dX13_dead_46 : decode cX13_dead 46 = .ok (.iinc 1 1, 3) := by decide +kernel
theorem dX13_dead_49 : decode cX13_dead 49 = .ok (.goto (-42), 3) := by decide +kernel
theorem dX13_dead_52 : decode cX13_dead 52 = .ok (.iconst (-1), 1) := by decide +kernel
theorem dX13_dead_53 : decode cX13_dead 53 = .ok (.ireturn, 1) := by decide +kernel
theorem dX13_sync_0 : decode cX13_sync 0 = .ok (.aload_n 0, 1) := by decide +kernel
theorem dX13_sync_1 : decode cX13_sync 1 = .ok (.iload_n 1, 1) := by decide +kernel
theorem dX13_sync_2 : decode cX13_sync 2 = .ok (.invokevirtual 219, 3) := by decide +kernel
theorem dX13_sync_5 : decode cX13_sync 5 = .ok (.ifCond .ne 10, 3) := by decide +kernel
theorem dX13_sync_8 : decode cX13_sync 8 = .ok (.aload_n 0, 1) := by decide +kernel
theorem dX13_sync_9 : decode cX13_sync 9 = .ok (.iconst 1, 1) := by decide +kernel
theorem dX13_sync_10 : decode cX13_sync 10 = .ok (.invokevirtual 171, 3) := by decide +kernel
theorem dX13_sync_13 : decode cX13_sync 13 = .ok (.i2l, 1) := by decide +kernel
theorem dX13_sync_14 : decode cX13_sync 14 = .ok (.lreturn, 1) := by decide +kernel
theorem dX13_sync_15 : decode cX13_sync 15 = .ok (.iload_n 2, 1) := by decide +kernel
theorem dX13_sync_16 : decode cX13_sync 16 = .ok (.iconst 0, 1) := by decide +kernel
theorem dX13_sync_17 : decode cX13_sync 17 = .ok (.iconst 4, 1) := by decide +kernel
theorem dX13_sync_18 : decode cX13_sync 18 = .ok (.invokestatic 179, 3) := by decide +kernel
theorem dX13_sync_21 : decode cX13_sync 21 = .ok (.ifCond .ne 10, 3) := by decide +kernel
theorem dX13_sync_24 : decode cX13_sync 24 = .ok (.aload_n 0, 1) := by decide +kernel
theorem dX13_sync_25 : decode cX13_sync 25 = .ok (.iconst 2, 1) := by decide +kernel
theorem dX13_sync_26 : decode cX13_sync 26 = .ok (.invokevirtual 171, 3) := by decide +kernel
theorem dX13_sync_29 : decode cX13_sync 29 = .ok (.i2l, 1) := by decide +kernel
theorem dX13_sync_30 : decode cX13_sync 30 = .ok (.lreturn, 1) := by decide +kernel
theorem dX13_sync_31 : decode cX13_sync 31 = .ok (.aload_n 0, 1) := by decide +kernel
theorem dX13_sync_32 : decode cX13_sync 32 = .ok (.getfield 135, 3) := by decide +kernel
theorem dX13_sync_35 : decode cX13_sync 35 = .ok (.iload_n 1, 1) := by decide +kernel
theorem dX13_sync_36 : decode cX13_sync 36 = .ok (.iaload, 1) := by decide +kernel
theorem dX13_sync_37 : decode cX13_sync 37 = .ok (.istore_n 3, 1) := by decide +kernel
theorem dX13_sync_38 : decode cX13_sync 38 = .ok (.iload_n 2, 1) := by decide +kernel
theorem dX13_sync_39 : decode cX13_sync 39 = .ok (.iconst 2, 1) := by decide +kernel
theorem dX13_sync_40 : decode cX13_sync 40 = .ok (.if_icmp .ne 14, 3) := by decide +kernel
theorem dX13_sync_43 : decode cX13_sync 43 = .ok (.iload_n 3, 1) := by decide +kernel
theorem dX13_sync_44 : decode cX13_sync 44 = .ok (.iconst 1, 1) := by decide +kernel
theorem dX13_sync_45 : decode cX13_sync 45 = .ok (.if_icmp .eq 9, 3) := by decide +kernel
theorem dX13_sync_48 : decode cX13_sync 48 = .ok (.iload_n 3, 1) := by decide +kernel
theorem dX13_sync_49 : decode cX13_sync 49 = .ok (.bipush 8, 2) := by decide +kernel
theorem dX13_sync_51 : decode cX13_sync 51 = .ok (.if_icmp .ne 23, 3) := by decide +kernel
theorem dX13_sync_54 : decode cX13_sync 54 = .ok (.iload_n 2, 1) := by decide +kernel
theorem dX13_sync_55 : decode cX13_sync 55 = .ok (.iconst 3, 1) := by decide +kernel
theorem dX13_sync_56 : decode cX13_sync 56 = .ok (.if_icmp .ne 8, 3) := by decide +kernel
theorem dX13_sync_59 : decode cX13_sync 59 = .ok (.iload_n 3, 1) := by decide +kernel
theorem dX13_sync_60 : decode cX13_sync 60 = .ok (.iconst 1, 1) := by decide +kernel
theorem dX13_sync_61 : decode cX13_sync 61 = .ok (.if_icmp .ne 13, 3) := by decide +kernel
theorem dX13_sync_64 : decode cX13_sync 64 = .ok (.iload_n 2, 1) := by decide +kernel
theorem dX13_sync_65 : decode cX13_sync 65 = .ok (.iconst 4, 1) := by decide +kernel
theorem dX13_sync_66 : decode cX13_sync 66 = .ok (.if_icmp .ne 15, 3) := by decide +kernel
theorem dX13_sync_69 : decode cX13_sync 69 = .ok (.iload_n 3, 1) := by decide +kernel
theorem dX13_sync_70 : decode cX13_sync 70 = .ok (.iconst 5, 1) := by decide +kernel
theorem dX13_sync_71 : decode cX13_sync 71 = .ok (.if_icmp .eq 10, 3) := by decide +kernel
theorem dX13_sync_74 : decode cX13_sync 74 = .ok (.aload_n 0, 1) := by decide +kernel
theorem dX13_sync_75 : decode cX13_sync 75 = .ok (.iconst 3, 1) := by decide +kernel
theorem dX13_sync_76 : decode cX13_sync 76 = .ok (.invokevirtual 171, 3) := by decide +kernel
theorem dX13_sync_79 : decode cX13_sync 79 = .ok (.i2l, 1) := by decide +kernel
theorem dX13_sync_80 : decode cX13_sync 80 = .ok (.lreturn, 1) := by decide +kernel
theorem dX13_sync_81 : decode cX13_sync 81 = .ok (.aload_n 0, 1) := by decide +kernel
theorem dX13_sync_82 : decode cX13_sync 82 = .ok (.iconst 0, 1) := by decide +kernel
theorem dX13_sync_83 : decode cX13_sync 83 = .ok (.putfield 165, 3) := by decide +kernel
theorem dX13_sync_86 : decode cX13_sync 86 = .ok (.iload_n 2, 1) := by decide +kernel
theorem dX13_sync_87 : decode cX13_sync 87 = .ok (.iconst 1, 1) := by decide +kernel
theorem dX13_sync_88 : decode cX13_sync 88 = .ok (.if_icmp .ne 11, 3) := by decide +kernel
theorem dX13_sync_91 : decode cX13_sync 91 = .ok (.aload_n 0, 1) := by decide +kernel
theorem dX13_sync_92 : decode cX13_sync 92 = .ok (.getfield 150, 3) := by decide +kernel
theorem dX13_sync_95 : decode cX13_sync 95 = .ok (.iload_n 1, 1) := by decide +kernel
theorem dX13_sync_96 : decode cX13_sync 96 = .ok (.iaload, 1) := by decide +kernel
theorem dX13_sync_97 : decode cX13_sync 97 = .ok (.i2l, 1) := by decide +kernel
theorem dX13_sync_98 : decode cX13_sync 98 = .ok (.lreturn, 1) := by decide +kernel
theorem dX13_sync_99 : decode cX13_sync 99 = .ok (.iload_n 2, 1) := by decide +kernel
theorem dX13_sync_100 : decode cX13_sync 100 = .ok (.iconst 2, 1) := by decide +kernel
theorem dX13_sync_101 : decode cX13_sync 101 = .ok (.if_icmp .ne 11, 3) := by decide +kernel
theorem dX13_sync_104 : decode cX13_sync 104 = .ok (.aload_n 0, 1) := by decide +kernel
theorem dX13_sync_105 : decode cX13_sync 105 = .ok (.getfield 144, 3) := by decide +kernel
theorem dX13_sync_108 : decode cX13_sync 108 = .ok (.iload_n 1, 1) := by decide +kernel
theorem dX13_sync_109 : decode cX13_sync 109 = .ok (.iaload, 1) := by decide +kernel
theorem dX13_sync_110 : decode cX13_sync 110 = .ok (.i2l, 1) := by decide +kernel
theorem dX13_sync_111 : decode cX13_sync 111 = .ok (.lreturn, 1) := by decide +kernel
theorem dX13_sync_112 : decode cX13_sync 112 = .ok (.iload_n 2, 1) := by decide +kernel
theorem dX13_sync_113 : decode cX13_sync 113 = .ok (.iconst 3, 1) := by decide +kernel
theorem dX13_sync_114 : decode cX13_sync 114 = .ok (.if_icmp .ne 11, 3) := by decide +kernel
theorem dX13_sync_117 : decode cX13_sync 117 = .ok (.aload_n 0, 1) := by decide +kernel
theorem dX13_sync_118 : decode cX13_sync 118 = .ok (.getfield 156, 3) := by decide +kernel
theorem dX13_sync_121 : decode cX13_sync 121 = .ok (.iload_n 1, 1) := by decide +kernel
theorem dX13_sync_122 : decode cX13_sync 122 = .ok (.iaload, 1) := by decide +kernel
theorem dX13_sync_123 : decode cX13_sync 123 = .ok (.i2l, 1) := by decide +kernel
theorem dX13_sync_124 : decode cX13_sync 124 = .ok (.lreturn, 1) := by decide +kernel
theorem dX13_sync_125 : decode cX13_sync 125 = .ok (.iload_n 2, 1) := by decide +kernel
theorem dX13_sync_126 : decode cX13_sync 126 = .ok (.iconst 4, 1) := by decide +kernel
theorem dX13_sync_127 : decode cX13_sync 127 = .ok (.if_icmp .ne 11, 3) := by decide +kernel
theorem dX13_sync_130 : decode cX13_sync 130 = .ok (.aload_n 0, 1) := by decide +kernel
theorem dX13_sync_131 : decode cX13_sync 131 = .ok (.getfield 138, 3) := by decide +kernel
theorem dX13_sync_134 : decode cX13_sync 134 = .ok (.iload_n 1, 1) := by decide +kernel
theorem dX13_sync_135 : decode cX13_sync 135 = .ok (.iaload, 1) := by decide +kernel
theorem dX13_sync_136 : decode cX13_sync 136 = .ok (.i2l, 1) := by decide +kernel
theorem dX13_sync_137 : decode cX13_sync 137 = .ok (.lreturn, 1) := by decide +kernel
theorem dX13_sync_138 : decode cX13_sync 138 = .ok (.iload_n 3, 1) := by decide +kernel
theorem dX13_sync_139 : decode cX13_sync 139 = .ok (.iconst 4, 1) := by decide +kernel
theorem dX13_sync_140 : decode cX13_sync 140 = .ok (.if_icmp .ne 11, 3) := by decide +kernel
theorem dX13_sync_143 : decode cX13_sync 143 = .ok (.aload_n 0, 1) := by decide +kernel
theorem dX13_sync_144 : decode cX13_sync 144 = .ok (.getfield 150, 3) := by decide +kernel
theorem dX13_sync_147 : decode cX13_sync 147 = .ok (.iload_n 1, 1) := by decide +kernel
theorem dX13_sync_148 : decode cX13_sync 148 = .ok (.iaload, 1) := by decide +kernel
theorem dX13_sync_149 : decode cX13_sync 149 = .ok (.i2l, 1) := by decide +kernel
theorem dX13_sync_150 : decode cX13_sync 150 = .ok (.lreturn, 1) := by decide +kernel
theorem dX13_sync_151 : decode cX13_sync 151 = .ok (.iload_n 3, 1) := by decide +kernel
theorem dX13_sync_152 : decode cX13_sync 152 = .ok (.iconst 5, 1) := by decide +kernel
theorem dX13_sync_153 : decode cX13_sync 153 = .ok (.if_icmp .ne 11, 3) := by decide +kernel
theorem dX13_sync_156 : decode cX13_sync 156 = .ok (.aload_n 0, 1) := by decide +kernel
theorem dX13_sync_157 : decode cX13_sync 157 = .ok (.getfield 162, 3) := by decide +kernel
theorem dX13_sync_160 : decode cX13_sync 160 = .ok (.iload_n 1, 1) := by decide +kernel
theorem dX13_sync_161 : decode cX13_sync 161 = .ok (.iaload, 1) := by decide +kernel
theorem dX13_sync_162 : decode cX13_sync 162 = .ok (.i2l, 1) := by decide +kernel
theorem dX13_sync_163 : decode cX13_sync 163 = .ok (.lreturn, 1) := by decide +kernel
theorem dX13_sync_164 : decode cX13_sync 164 = .ok (.iload_n 3, 1) := by decide +kernel
theorem dX13_sync_165 : decode cX13_sync 165 = .ok (.bipush 7, 2) := by decide +kernel
theorem dX13_sync_167 : decode cX13_sync 167 = .ok (.if_icmp .ne 18, 3) := by decide +kernel
theorem dX13_sync_170 : decode cX13_sync 170 = .ok (.aload_n 0, 1) := by decide +kernel
theorem dX13_sync_171 : decode cX13_sync 171 = .ok (.getfield 141, 3) := by decide +kernel
theorem dX13_sync_174 : decode cX13_sync 174 = .ok (.iload_n 1, 1) := by decide +kernel
theorem dX13_sync_175 : decode cX13_sync 175 = .ok (.iaload, 1) := by decide +kernel
theorem dX13_sync_176 : decode cX13_sync 176 = .ok (.ifCond .ne 9, 3) := by decide +kernel
theorem dX13_sync_179 : decode cX13_sync 179 = .ok (.ldc2_w 311, 3) := by decide +kernel
theorem dX13_sync_182 : decode cX13_sync 182 = .ok (.goto 10, 3) := by decide +kernel
theorem dX13_sync_185 : decode cX13_sync 185 = .ok (.aload_n 0, 1) := by decide +kernel
theorem dX13_sync_186 : decode cX13_sync 186 = .ok (.getfield 138, 3) := by decide +kernel
theorem dX13_sync_189 : decode cX13_sync 189 = .ok (.iload_n 1, 1) := by decide +kernel
theorem dX13_sync_190 : decode cX13_sync 190 = .ok (.iaload, 1) := by decide +kernel
theorem dX13_sync_191 : decode cX13_sync 191 = .ok (.i2l, 1) := by decide +kernel
theorem dX13_sync_192 : decode cX13_sync 192 = .ok (.lreturn, 1) := by decide +kernel
theorem dX13_count_0 : decode cX13_count 0 = .ok (.iload_n 1, 1) := by decide +kernel
theorem dX13_count_1 : decode cX13_count 1 = .ok (.iconst 0, 1) := by decide +kernel
theorem dX13_count_2 : decode cX13_count 2 = .ok (.iconst 4, 1) := by decide +kernel
theorem dX13_count_3 : decode cX13_count 3 = .ok (.invokestatic 179, 3) := by decide +kernel
theorem dX13_count_6 : decode cX13_count 6 = .ok (.ifCond .ne 21, 3) := by decide +kernel
theorem dX13_count_9 : decode cX13_count 9 = .ok (.iload_n 1, 1) := by decide +kernel
theorem dX13_count_10 : decode cX13_count 10 = .ok (.bipush 10, 2) := by decide +kernel
theorem dX13_count_12 : decode cX13_count 12 = .ok (.bipush 33, 2) := by decide +kernel
theorem dX13_count_14 : decode cX13_count 14 = .ok (.invokestatic 179, 3) := by decide +kernel
theorem dX13_count_17 : decode cX13_count 17 = .ok (.ifCond .ne 10, 3) := by decide +kernel
theorem dX13_count_20 : decode cX13_count 20 = .ok (.aload_n 0, 1) := by decide +kernel
theorem dX13_count_21 : decode cX13_count 21 = .ok (.iconst 1, 1) := by decide +kernel
theorem dX13_count_22 : decode cX13_count 22 = .ok (.invokevirtual 171, 3) := by decide +kernel
theorem dX13_count_25 : decode cX13_count 25 = .ok (.i2l, 1) := by decide +kernel
theorem dX13_count_26 : decode cX13_count 26 = .ok (.lreturn, 1) := by decide +kernel
theorem dX13_count_27 : decode cX13_count 27 = .ok (.aload_n 0, 1) := by decide +kernel
theorem dX13_count_28 : decode cX13_count 28 = .ok (.iconst 0, 1) := by decide +kernel
theorem dX13_count_29 : decode cX13_count 29 = .ok (.putfield 165, 3) := by decide +kernel
theorem dX13_count_32 : decode cX13_count 32 = .ok (.iload_n 1, 1) := by decide +kernel
theorem dX13_count_33 : decode cX13_count 33 = .ok (.ifCond .ne 9, 3) := by decide +kernel
theorem dX13_count_36 : decode cX13_count 36 = .ok (.aload_n 0, 1) := by decide +kernel
theorem dX13_count_37 : decode cX13_count 37 = .ok (.getfield 168, 3) := by decide +kernel
theorem dX13_count_40 : decode cX13_count 40 = .ok (.i2l, 1) := by decide +kernel
theorem dX13_count_41 : decode cX13_count 41 = .ok (.lreturn, 1) := by decide +kernel
theorem dX13_count_42 : decode cX13_count 42 = .ok (.iload_n 1, 1) := by decide +kernel
theorem dX13_count_43 : decode cX13_count 43 = .ok (.iconst 1, 1) := by decide +kernel
theorem dX13_count_44 : decode cX13_count 44 = .ok (.if_icmp .ne 9, 3) := by decide +kernel
theorem dX13_count_47 : decode cX13_count 47 = .ok (.aload_n 0, 1) := by decide +kernel
theorem dX13_count_48 : decode cX13_count 48 = .ok (.invokevirtual 223, 3) := by decide +kernel
theorem dX13_count_51 : decode cX13_count 51 = .ok (.i2l, 1) := by decide +kernel
theorem dX13_count_52 : decode cX13_count 52 = .ok (.lreturn, 1) := by decide +kernel
theorem dX13_count_53 : decode cX13_count 53 = .ok (.iload_n 1, 1) := by decide +kernel
theorem dX13_count_54 : decode cX13_count 54 = .ok (.iconst 2, 1) := by decide +kernel
theorem dX13_count_55 : decode cX13_count 55 = .ok (.if_icmp .ne 9, 3) := by decide +kernel
theorem dX13_count_58 : decode cX13_count 58 = .ok (.aload_n 0, 1) := by decide +kernel
theorem dX13_count_59 : decode cX13_count 59 = .ok (.getfield 13, 3) := by decide +kernel
theorem dX13_count_62 : decode cX13_count 62 = .ok (.i2l, 1) := by decide +kernel
theorem dX13_count_63 : decode cX13_count 63 = .ok (.lreturn, 1) := by decide +kernel
theorem dX13_count_64 : decode cX13_count 64 = .ok (.iload_n 1, 1) := by decide +kernel
theorem dX13_count_65 : decode cX13_count 65 = .ok (.iconst 3, 1) := by decide +kernel
theorem dX13_count_66 : decode cX13_count 66 = .ok (.if_icmp .ne 8, 3) := by decide +kernel
theorem dX13_count_69 : decode cX13_count 69 = .ok (.aload_n 0, 1) := by decide +kernel
theorem dX13_count_70 : decode cX13_count 70 = .ok (.getfield 255, 3) := by decide +kernel
theorem dX13_count_73 : decode cX13_count 73 = .ok (.lreturn, 1) := by decide +kernel
theorem dX13_count_74 : decode cX13_count 74 = .ok (.iload_n 1, 1) := by decide +kernel
theorem dX13_count_75 : decode cX13_count 75 = .ok (.iconst 4, 1) := by decide +kernel
theorem dX13_count_76 : decode cX13_count 76 = .ok (.if_icmp .ne 10, 3) := by decide +kernel
theorem dX13_count_79 : decode cX13_count 79 = .ok (.aload_n 0, 1) := by decide +kernel
theorem dX13_count_80 : decode cX13_count 80 = .ok (.getfield 245, 3) := by decide +kernel
theorem dX13_count_83 : decode cX13_count 83 = .ok (.goto 15, 3) := by decide +kernel
theorem dX13_count_86 : decode cX13_count 86 = .ok (.aload_n 0, 1) := by decide +kernel
theorem dX13_count_87 : decode cX13_count 87 = .ok (.getfield 135, 3) := by decide +kernel
theorem dX13_count_90 : decode cX13_count 90 = .ok (.iload_n 1, 1) := by decide +kernel
theorem dX13_count_91 : decode cX13_count 91 = .ok (.bipush 10, 2) := by decide +kernel
theorem dX13_count_93 : decode cX13_count 93 = .ok (.isub, 1) := by decide +kernel
theorem dX13_count_94 : decode cX13_count 94 = .ok (.iaload, 1) := by decide +kernel
theorem dX13_count_95 : decode cX13_count 95 = .ok (.iconst 1, 1) := by decide +kernel
theorem dX13_count_96 : decode cX13_count 96 = .ok (.isub, 1) := by decide +kernel
theorem dX13_count_97 : decode cX13_count 97 = .ok (.i2l, 1) := by decide +kernel
theorem dX13_count_98 : decode cX13_count 98 = .ok (.lreturn, 1) := by decide +kernel
end
section
/-! the reference: its words, its world, a row for each field and kind of use (laid by wip/gen_mworld.py) -/
def tM0 : List Cond := [.methodLink RX13 1 objectInit, .instanceMethod objectInit, .code objectInit ⟨#[0xb1]⟩ 1 none, .arrayClass .int, .fieldLink RX13 7 "TurnKeeperModel" "tape" "[I", .fieldLink RX13 13 "TurnKeeperModel" "place" "I", .arrayClass .long, .constantLong RX13 17 (1819238756), .constantLong RX13 19 (6382692), .constantLong RX13 21 (1786080624), .constantLong RX13 23 (2053468783), .constantLong RX13 25 (1818588019), .constantLong RX13 27 (495739823472), .constantLong RX13 29 (6647396), .constantLong RX13 31 (1819239275), .constantLong RX13 33 (7631481), .constantLong RX13 35 (129117126091627), .constantLong RX13 37 (2002872692), .constantLong RX13 39 (126896544047468), .constantLong RX13 41 (6384748), .constantLong RX13 43 (6776180), .constantLong RX13 45 (7562612), .constantLong RX13 47 (6909539), .constantLong RX13 49 (6513011), .constantLong RX13 51 (27412411693232741), .constantLong RX13 53 (32199663576773477), .constantLong RX13 55 (431415716206), .constantLong RX13 57 (1685026670), .constantLong RX13 59 (418614700404), .constantLong RX13 61 (1835361652), .constantLong RX13 63 (7370100), .constantLong RX13 65 (1952541541), .constantLong RX13 67 (478459356530), .constantLong RX13 69 (1886350444), .constantLong RX13 71 (1734964837), .constantLong RX13 73 (1785686382), .constantLong RX13 75 (26990), .constantLong RX13 77 (7304564), .constantLong RX13 79 (7305070), .constantLong RX13 81 (1650549611)]
def tM1 : List Cond := [.constantLong RX13 83 (1953066341), .fieldLink RX13 85 "TurnKeeperModel" "words" "[J", .fieldLink RX13 89 "TurnKeeperModel" "program" "[I", .fieldLink RX13 92 "TurnKeeperModel" "lines" "[I", .fieldLink RX13 95 "TurnKeeperModel" "many" "[I", .fieldLink RX13 98 "TurnKeeperModel" "state" "[I", .fieldLink RX13 101 "TurnKeeperModel" "a" "[I", .fieldLink RX13 104 "TurnKeeperModel" "at" "[I", .fieldLink RX13 107 "TurnKeeperModel" "waitsFor" "[I", .fieldLink RX13 110 "TurnKeeperModel" "why" "[I", .fieldLink RX13 113 "TurnKeeperModel" "kept" "[I", .fieldLink RX13 116 "TurnKeeperModel" "then" "[I", .arrayClass .boolean, .fieldLink RX13 119 "TurnKeeperModel" "stopped" "[Z", .fieldLink RX13 123 "TurnKeeperModel" "inSecond" "[Z", .fieldLink RX13 126 "TurnKeeperModel" "afterWait" "[Z", .fieldLink RX13 129 "TurnKeeperModel" "until" "[J", .fieldLink RX13 132 "TurnKeeperModel" "latest" "I", .fieldLink RX13 135 "TurnKeeperModel" "kind" "[I", .fieldLink RX13 138 "TurnKeeperModel" "first" "[I", .fieldLink RX13 141 "TurnKeeperModel" "second" "[I", .fieldLink RX13 144 "TurnKeeperModel" "owner" "[I", .fieldLink RX13 147 "TurnKeeperModel" "row" "[I", .fieldLink RX13 150 "TurnKeeperModel" "rowLong" "[I", .fieldLink RX13 153 "TurnKeeperModel" "row2" "[I", .fieldLink RX13 156 "TurnKeeperModel" "row2Long" "[I", .fieldLink RX13 159 "TurnKeeperModel" "queue" "[I", .fieldLink RX13 162 "TurnKeeperModel" "queueLong" "[I", .code yX13_init cX13_init 1 none, .code yX13_thrown cX13_thrown 1 (some .int), .fieldLink RX13 165 "TurnKeeperModel" "thrown" "I", .code yX13_refuse cX13_refuse 2 (some .int), .code yX13_in cX13_in 3 (some .boolean), .code yX13_four cX13_four 3 none, .fieldLink RX13 168 "TurnKeeperModel" "taped" "I", .code yX13_feed cX13_feed 6 (some .int), .methodLink RX13 171 yX13_refuse, .instanceMethod yX13_refuse, .selects RX13 yX13_refuse yX13_refuse, .initialized RX13]
def tM2 : List Cond := [.methodLink RX13 175 yX13_four, .instanceMethod yX13_four, .selects RX13 yX13_four yX13_four, .code yX13_end cX13_end 2 (some .int), .methodLink RX13 179 yX13_in, .static yX13_in, .code yX13_byteAt cX13_byteAt 2 (some .int), .fieldLink RX13 183 "TurnKeeperModel" "tapeLong" "I", .code yX13_wrong cX13_wrong 1 (some .int), .fieldLink RX13 186 "TurnKeeperModel" "fault" "I", .fieldLink RX13 189 "TurnKeeperModel" "from" "I", .code yX13_next cX13_next 1 none, .fieldLink RX13 192 "TurnKeeperModel" "to" "I", .methodLink RX13 195 yX13_byteAt, .instanceMethod yX13_byteAt, .selects RX13 yX13_byteAt yX13_byteAt, .code yX13_word cX13_word 4 (some .int), .code yX13_number cX13_number 6 (some .int), .methodLink RX13 198 yX13_wrong, .instanceMethod yX13_wrong, .selects RX13 yX13_wrong yX13_wrong, .methodLink RX13 202 yX13_next, .instanceMethod yX13_next, .selects RX13 yX13_next yX13_next, .fieldLink RX13 208 "TurnKeeperModel" "programLong" "I", .constant RX13 211 (1000000000), .methodLink RX13 205 yX13_word, .instanceMethod yX13_word, .selects RX13 yX13_word yX13_word, .methodLink RX13 212 yX13_number, .instanceMethod yX13_number, .selects RX13 yX13_number yX13_number, .code yX13_line cX13_line 7 none, .methodLink RX13 216 yX13_line, .instanceMethod yX13_line, .selects RX13 yX13_line yX13_line, .code yX13_read cX13_read 1 none, .code yX13_isThere cX13_isThere 2 (some .boolean), .code yX13_make cX13_make 5 (some .int), .code yX13_objects cX13_objects 3 (some .int)]
def tM3 : List Cond := [.code yX13_drop cX13_drop 2 (some .int), .methodLink RX13 219 yX13_isThere, .instanceMethod yX13_isThere, .selects RX13 yX13_isThere yX13_isThere, .methodLink RX13 223 yX13_objects, .instanceMethod yX13_objects, .selects RX13 yX13_objects yX13_objects, .methodLink RX13 226 yX13_read, .instanceMethod yX13_read, .selects RX13 yX13_read yX13_read, .code yX13_thread cX13_thread 3 (some .int), .code yX13_part cX13_part 3 (some .int), .code yX13_waitFor cX13_waitFor 3 none, .code yX13_leaves cX13_leaves 5 none, .code yX13_goesOn cX13_goesOn 2 none, .code yX13_firstGoesOn cX13_firstGoesOn 3 (some .int), .methodLink RX13 229 yX13_leaves, .instanceMethod yX13_leaves, .selects RX13 yX13_leaves yX13_leaves, .methodLink RX13 233 yX13_goesOn, .instanceMethod yX13_goesOn, .selects RX13 yX13_goesOn yX13_goesOn, .code yX13_fails cX13_fails 3 (some .boolean), .code yX13_has cX13_has 3 none, .methodLink RX13 236 yX13_has, .instanceMethod yX13_has, .selects RX13 yX13_has yX13_has, .code yX13_freed cX13_freed 3 none, .methodLink RX13 239 yX13_waitFor, .instanceMethod yX13_waitFor, .selects RX13 yX13_waitFor yX13_waitFor, .methodLink RX13 242 yX13_freed, .instanceMethod yX13_freed, .selects RX13 yX13_freed yX13_freed, .code yX13_signalled cX13_signalled 5 none, .code yX13_rowOf cX13_rowOf 4 (some .int), .code yX13_kindOf cX13_kindOf 1 (some .int), .code yX13_passes cX13_passes 3 (some .boolean), .methodLink RX13 264 yX13_fails, .instanceMethod yX13_fails]
def tM4 : List Cond := [.selects RX13 yX13_fails yX13_fails, .methodLink RX13 289 yX13_signalled, .instanceMethod yX13_signalled, .selects RX13 yX13_signalled yX13_signalled, .code yX13_atLock cX13_atLock 6 (some .boolean), .code yX13_atCell cX13_atCell 5 (some .boolean), .methodLink RX13 252 yX13_part, .instanceMethod yX13_part, .selects RX13 yX13_part yX13_part, .methodLink RX13 286 yX13_passes, .instanceMethod yX13_passes, .selects RX13 yX13_passes yX13_passes, .methodLink RX13 283 yX13_firstGoesOn, .instanceMethod yX13_firstGoesOn, .selects RX13 yX13_firstGoesOn yX13_firstGoesOn, .code yX13_atSemaphore cX13_atSemaphore 5 (some .boolean), .code yX13_opened cX13_opened 2 none, .methodLink RX13 295 yX13_opened, .instanceMethod yX13_opened, .selects RX13 yX13_opened yX13_opened, .code yX13_atGate cX13_atGate 4 (some .boolean), .code yX13_append cX13_append 3 none, .methodLink RX13 292 yX13_append, .instanceMethod yX13_append, .selects RX13 yX13_append yX13_append, .code yX13_atQueue cX13_atQueue 6 (some .boolean), .methodLink RX13 261 yX13_kindOf, .static yX13_kindOf, .methodLink RX13 268 yX13_atLock, .instanceMethod yX13_atLock, .selects RX13 yX13_atLock yX13_atLock, .methodLink RX13 271 yX13_atCell, .instanceMethod yX13_atCell, .selects RX13 yX13_atCell yX13_atCell, .methodLink RX13 274 yX13_atSemaphore, .instanceMethod yX13_atSemaphore, .selects RX13 yX13_atSemaphore yX13_atSemaphore, .methodLink RX13 277 yX13_atGate, .instanceMethod yX13_atGate, .selects RX13 yX13_atGate yX13_atGate]
def tM5 : List Cond := [.methodLink RX13 280 yX13_atQueue, .instanceMethod yX13_atQueue, .selects RX13 yX13_atQueue yX13_atQueue, .code yX13_with cX13_with 6 (some .boolean), .fieldLink RX13 245 "TurnKeeperModel" "steps" "J", .fieldLink RX13 255 "TurnKeeperModel" "clock" "J", .methodLink RX13 249 yX13_rowOf, .instanceMethod yX13_rowOf, .selects RX13 yX13_rowOf yX13_rowOf, .methodLink RX13 258 yX13_with, .instanceMethod yX13_with, .selects RX13 yX13_with yX13_with, .code yX13_one cX13_one 6 none, .methodLink RX13 298 yX13_one, .instanceMethod yX13_one, .selects RX13 yX13_one yX13_one, .code yX13_step cX13_step 2 (some .int), .code yX13_ready cX13_ready 3 (some .int), .fieldLink RX13 301 "TurnKeeperModel" "seed" "I", .constant RX13 307 (1103515245), .methodLink RX13 304 yX13_ready, .instanceMethod yX13_ready, .selects RX13 yX13_ready yX13_ready, .code yX13_run cX13_run 7 (some .int), .code yX13_tick cX13_tick 4 (some .int), .code yX13_interrupt cX13_interrupt 2 (some .int), .code yX13_look cX13_look 3 (some .int), .code yX13_nextOf cX13_nextOf 2 (some .int), .code yX13_dead cX13_dead 4 (some .int), .methodLink RX13 308 yX13_nextOf, .instanceMethod yX13_nextOf, .selects RX13 yX13_nextOf yX13_nextOf, .code yX13_sync cX13_sync 4 (some .long), .constantLong RX13 311 (1099511627776), .code yX13_count cX13_count 2 (some .long)]
def tM : List Cond := tM0 ++ (tM1 ++ (tM2 ++ (tM3 ++ (tM4 ++ (tM5 ++ wsX130)))))
set_option maxRecDepth 100000 in
theorem tM_good : tM.all goodWord = true := by decide +kernel
theorem tM_self : GoodIn tM tM := goodIn_sub (fun _ h => h) tM_good
theorem tM_lay : ∀ w ∈ u_ws RX13 TX13 38, w ∈ tM := fun w h => List.mem_append_right _ (List.mem_append_right _ (List.mem_append_right _ (List.mem_append_right _ (List.mem_append_right _ (List.mem_append_right _ (h))))))
theorem tMf0 : Cond.fieldLink RX13 165 "TurnKeeperModel" "thrown" "I" ∈ tM := List.mem_of_getElem? (i := 70) (by decide +kernel)
theorem tMf1 : Cond.fieldLink RX13 7 "TurnKeeperModel" "tape" "[I" ∈ tM := List.mem_of_getElem? (i := 4) (by decide +kernel)
theorem tMf2 : Cond.fieldLink RX13 168 "TurnKeeperModel" "taped" "I" ∈ tM := List.mem_of_getElem? (i := 74) (by decide +kernel)
theorem tMf3 : Cond.fieldLink RX13 13 "TurnKeeperModel" "place" "I" ∈ tM := List.mem_of_getElem? (i := 5) (by decide +kernel)
theorem tMf4 : Cond.fieldLink RX13 85 "TurnKeeperModel" "words" "[J" ∈ tM := List.mem_of_getElem? (i := 41) (by decide +kernel)
theorem tMf5 : Cond.fieldLink RX13 89 "TurnKeeperModel" "program" "[I" ∈ tM := List.mem_of_getElem? (i := 42) (by decide +kernel)
theorem tMf6 : Cond.fieldLink RX13 208 "TurnKeeperModel" "programLong" "I" ∈ tM := List.mem_of_getElem? (i := 104) (by decide +kernel)
theorem tMf7 : Cond.fieldLink RX13 183 "TurnKeeperModel" "tapeLong" "I" ∈ tM := List.mem_of_getElem? (i := 87) (by decide +kernel)
theorem tMf8 : Cond.fieldLink RX13 189 "TurnKeeperModel" "from" "I" ∈ tM := List.mem_of_getElem? (i := 90) (by decide +kernel)
theorem tMf9 : Cond.fieldLink RX13 192 "TurnKeeperModel" "to" "I" ∈ tM := List.mem_of_getElem? (i := 92) (by decide +kernel)
theorem tMf10 : Cond.fieldLink RX13 186 "TurnKeeperModel" "fault" "I" ∈ tM := List.mem_of_getElem? (i := 89) (by decide +kernel)
theorem tMf11 : Cond.fieldLink RX13 92 "TurnKeeperModel" "lines" "[I" ∈ tM := List.mem_of_getElem? (i := 43) (by decide +kernel)
theorem tMf12 : Cond.fieldLink RX13 95 "TurnKeeperModel" "many" "[I" ∈ tM := List.mem_of_getElem? (i := 44) (by decide +kernel)
theorem tMf13 : Cond.fieldLink RX13 98 "TurnKeeperModel" "state" "[I" ∈ tM := List.mem_of_getElem? (i := 45) (by decide +kernel)
theorem tMf14 : Cond.fieldLink RX13 101 "TurnKeeperModel" "a" "[I" ∈ tM := List.mem_of_getElem? (i := 46) (by decide +kernel)
theorem tMf15 : Cond.fieldLink RX13 104 "TurnKeeperModel" "at" "[I" ∈ tM := List.mem_of_getElem? (i := 47) (by decide +kernel)
theorem tMf16 : Cond.fieldLink RX13 107 "TurnKeeperModel" "waitsFor" "[I" ∈ tM := List.mem_of_getElem? (i := 48) (by decide +kernel)
theorem tMf17 : Cond.fieldLink RX13 110 "TurnKeeperModel" "why" "[I" ∈ tM := List.mem_of_getElem? (i := 49) (by decide +kernel)
theorem tMf18 : Cond.fieldLink RX13 113 "TurnKeeperModel" "kept" "[I" ∈ tM := List.mem_of_getElem? (i := 50) (by decide +kernel)
theorem tMf19 : Cond.fieldLink RX13 116 "TurnKeeperModel" "then" "[I" ∈ tM := List.mem_of_getElem? (i := 51) (by decide +kernel)
theorem tMf20 : Cond.fieldLink RX13 119 "TurnKeeperModel" "stopped" "[Z" ∈ tM := List.mem_of_getElem? (i := 53) (by decide +kernel)
theorem tMf21 : Cond.fieldLink RX13 123 "TurnKeeperModel" "inSecond" "[Z" ∈ tM := List.mem_of_getElem? (i := 54) (by decide +kernel)
theorem tMf22 : Cond.fieldLink RX13 126 "TurnKeeperModel" "afterWait" "[Z" ∈ tM := List.mem_of_getElem? (i := 55) (by decide +kernel)
theorem tMf23 : Cond.fieldLink RX13 129 "TurnKeeperModel" "until" "[J" ∈ tM := List.mem_of_getElem? (i := 56) (by decide +kernel)
theorem tMf24 : Cond.fieldLink RX13 255 "TurnKeeperModel" "clock" "J" ∈ tM := List.mem_of_getElem? (i := 205) (by decide +kernel)
theorem tMf25 : Cond.fieldLink RX13 245 "TurnKeeperModel" "steps" "J" ∈ tM := List.mem_of_getElem? (i := 204) (by decide +kernel)
theorem tMf26 : Cond.fieldLink RX13 132 "TurnKeeperModel" "latest" "I" ∈ tM := List.mem_of_getElem? (i := 57) (by decide +kernel)
theorem tMf27 : Cond.fieldLink RX13 301 "TurnKeeperModel" "seed" "I" ∈ tM := List.mem_of_getElem? (i := 218) (by decide +kernel)
theorem tMf28 : Cond.fieldLink RX13 135 "TurnKeeperModel" "kind" "[I" ∈ tM := List.mem_of_getElem? (i := 58) (by decide +kernel)
theorem tMf29 : Cond.fieldLink RX13 138 "TurnKeeperModel" "first" "[I" ∈ tM := List.mem_of_getElem? (i := 59) (by decide +kernel)
theorem tMf30 : Cond.fieldLink RX13 141 "TurnKeeperModel" "second" "[I" ∈ tM := List.mem_of_getElem? (i := 60) (by decide +kernel)
theorem tMf31 : Cond.fieldLink RX13 144 "TurnKeeperModel" "owner" "[I" ∈ tM := List.mem_of_getElem? (i := 61) (by decide +kernel)
theorem tMf32 : Cond.fieldLink RX13 147 "TurnKeeperModel" "row" "[I" ∈ tM := List.mem_of_getElem? (i := 62) (by decide +kernel)
theorem tMf33 : Cond.fieldLink RX13 150 "TurnKeeperModel" "rowLong" "[I" ∈ tM := List.mem_of_getElem? (i := 63) (by decide +kernel)
theorem tMf34 : Cond.fieldLink RX13 153 "TurnKeeperModel" "row2" "[I" ∈ tM := List.mem_of_getElem? (i := 64) (by decide +kernel)
theorem tMf35 : Cond.fieldLink RX13 156 "TurnKeeperModel" "row2Long" "[I" ∈ tM := List.mem_of_getElem? (i := 65) (by decide +kernel)
theorem tMf36 : Cond.fieldLink RX13 159 "TurnKeeperModel" "queue" "[I" ∈ tM := List.mem_of_getElem? (i := 66) (by decide +kernel)
theorem tMf37 : Cond.fieldLink RX13 162 "TurnKeeperModel" "queueLong" "[I" ∈ tM := List.mem_of_getElem? (i := 67) (by decide +kernel)
theorem gM_v {idx : Nat} {y : MethodName} {cy : Cond} (h1 : Cond.methodLink RX13 idx y ∈ tM) (h2 : Cond.instanceMethod y ∈ tM) (h3 : Cond.selects RX13 y y ∈ tM) (h4 : Cond.initialized RX13 ∈ tM) (h5 : cy ∈ tM) : GoodIn tM (wsV RX13 idx RX13 y (cy :: tM)) := by
  intro w hw
  rcases List.mem_append.mp hw with h | h
  · simp only [List.mem_cons, List.not_mem_nil, or_false] at h
    rcases h with rfl | rfl | rfl | rfl
    · exact tM_self _ h1
    · exact tM_self _ h2
    · exact tM_self _ h3
    · exact tM_self _ h4
  · rcases List.mem_cons.mp h with rfl | h
    · exact tM_self _ h5
    · exact tM_self _ h
theorem gM_s {idx : Nat} {y : MethodName} {cy : Cond} (h1 : Cond.methodLink RX13 idx y ∈ tM) (h2 : Cond.static y ∈ tM) (h4 : Cond.initialized RX13 ∈ tM) (h5 : cy ∈ tM) : GoodIn tM (wsS RX13 idx y (cy :: tM)) := by
  intro w hw
  rcases List.mem_append.mp hw with h | h
  · simp only [List.mem_cons, List.not_mem_nil, or_false] at h
    rcases h with rfl | rfl | rfl
    · exact tM_self _ h1
    · exact tM_self _ h2
    · exact tM_self _ h4
  · rcases List.mem_cons.mp h with rfl | h
    · exact tM_self _ h5
    · exact tM_self _ h
theorem tM_ini : Cond.initialized RX13 ∈ tM := List.mem_of_getElem? (i := 79) (by decide +kernel)
theorem gM_refuse : GoodIn tM (wsV RX13 171 RX13 yX13_refuse (.code yX13_refuse cX13_refuse 2 (some .int) :: tM)) := gM_v (List.mem_of_getElem? (i := 76) (by decide +kernel)) (List.mem_of_getElem? (i := 77) (by decide +kernel)) (List.mem_of_getElem? (i := 78) (by decide +kernel)) tM_ini (List.mem_of_getElem? (i := 71) (by decide +kernel))
theorem gM_four : GoodIn tM (wsV RX13 175 RX13 yX13_four (.code yX13_four cX13_four 3 none :: tM)) := gM_v (List.mem_of_getElem? (i := 80) (by decide +kernel)) (List.mem_of_getElem? (i := 81) (by decide +kernel)) (List.mem_of_getElem? (i := 82) (by decide +kernel)) tM_ini (List.mem_of_getElem? (i := 73) (by decide +kernel))
theorem gM_in : GoodIn tM (wsS RX13 179 yX13_in (.code yX13_in cX13_in 3 (some .boolean) :: tM)) := gM_s (List.mem_of_getElem? (i := 84) (by decide +kernel)) (List.mem_of_getElem? (i := 85) (by decide +kernel)) tM_ini (List.mem_of_getElem? (i := 72) (by decide +kernel))
theorem gM_byteAt : GoodIn tM (wsV RX13 195 RX13 yX13_byteAt (.code yX13_byteAt cX13_byteAt 2 (some .int) :: tM)) := gM_v (List.mem_of_getElem? (i := 93) (by decide +kernel)) (List.mem_of_getElem? (i := 94) (by decide +kernel)) (List.mem_of_getElem? (i := 95) (by decide +kernel)) tM_ini (List.mem_of_getElem? (i := 86) (by decide +kernel))
theorem gM_wrong : GoodIn tM (wsV RX13 198 RX13 yX13_wrong (.code yX13_wrong cX13_wrong 1 (some .int) :: tM)) := gM_v (List.mem_of_getElem? (i := 98) (by decide +kernel)) (List.mem_of_getElem? (i := 99) (by decide +kernel)) (List.mem_of_getElem? (i := 100) (by decide +kernel)) tM_ini (List.mem_of_getElem? (i := 88) (by decide +kernel))
theorem gM_next : GoodIn tM (wsV RX13 202 RX13 yX13_next (.code yX13_next cX13_next 1 none :: tM)) := gM_v (List.mem_of_getElem? (i := 101) (by decide +kernel)) (List.mem_of_getElem? (i := 102) (by decide +kernel)) (List.mem_of_getElem? (i := 103) (by decide +kernel)) tM_ini (List.mem_of_getElem? (i := 91) (by decide +kernel))
theorem gM_word : GoodIn tM (wsV RX13 205 RX13 yX13_word (.code yX13_word cX13_word 4 (some .int) :: tM)) := gM_v (List.mem_of_getElem? (i := 106) (by decide +kernel)) (List.mem_of_getElem? (i := 107) (by decide +kernel)) (List.mem_of_getElem? (i := 108) (by decide +kernel)) tM_ini (List.mem_of_getElem? (i := 96) (by decide +kernel))
theorem gM_number : GoodIn tM (wsV RX13 212 RX13 yX13_number (.code yX13_number cX13_number 6 (some .int) :: tM)) := gM_v (List.mem_of_getElem? (i := 109) (by decide +kernel)) (List.mem_of_getElem? (i := 110) (by decide +kernel)) (List.mem_of_getElem? (i := 111) (by decide +kernel)) tM_ini (List.mem_of_getElem? (i := 97) (by decide +kernel))
theorem gM_line : GoodIn tM (wsV RX13 216 RX13 yX13_line (.code yX13_line cX13_line 7 none :: tM)) := gM_v (List.mem_of_getElem? (i := 113) (by decide +kernel)) (List.mem_of_getElem? (i := 114) (by decide +kernel)) (List.mem_of_getElem? (i := 115) (by decide +kernel)) tM_ini (List.mem_of_getElem? (i := 112) (by decide +kernel))
theorem gM_isThere : GoodIn tM (wsV RX13 219 RX13 yX13_isThere (.code yX13_isThere cX13_isThere 2 (some .boolean) :: tM)) := gM_v (List.mem_of_getElem? (i := 121) (by decide +kernel)) (List.mem_of_getElem? (i := 122) (by decide +kernel)) (List.mem_of_getElem? (i := 123) (by decide +kernel)) tM_ini (List.mem_of_getElem? (i := 117) (by decide +kernel))
theorem gM_objects : GoodIn tM (wsV RX13 223 RX13 yX13_objects (.code yX13_objects cX13_objects 3 (some .int) :: tM)) := gM_v (List.mem_of_getElem? (i := 124) (by decide +kernel)) (List.mem_of_getElem? (i := 125) (by decide +kernel)) (List.mem_of_getElem? (i := 126) (by decide +kernel)) tM_ini (List.mem_of_getElem? (i := 119) (by decide +kernel))
theorem gM_read : GoodIn tM (wsV RX13 226 RX13 yX13_read (.code yX13_read cX13_read 1 none :: tM)) := gM_v (List.mem_of_getElem? (i := 127) (by decide +kernel)) (List.mem_of_getElem? (i := 128) (by decide +kernel)) (List.mem_of_getElem? (i := 129) (by decide +kernel)) tM_ini (List.mem_of_getElem? (i := 116) (by decide +kernel))
theorem gM_leaves : GoodIn tM (wsV RX13 229 RX13 yX13_leaves (.code yX13_leaves cX13_leaves 5 none :: tM)) := gM_v (List.mem_of_getElem? (i := 136) (by decide +kernel)) (List.mem_of_getElem? (i := 137) (by decide +kernel)) (List.mem_of_getElem? (i := 138) (by decide +kernel)) tM_ini (List.mem_of_getElem? (i := 133) (by decide +kernel))
theorem gM_goesOn : GoodIn tM (wsV RX13 233 RX13 yX13_goesOn (.code yX13_goesOn cX13_goesOn 2 none :: tM)) := gM_v (List.mem_of_getElem? (i := 139) (by decide +kernel)) (List.mem_of_getElem? (i := 140) (by decide +kernel)) (List.mem_of_getElem? (i := 141) (by decide +kernel)) tM_ini (List.mem_of_getElem? (i := 134) (by decide +kernel))
theorem gM_has : GoodIn tM (wsV RX13 236 RX13 yX13_has (.code yX13_has cX13_has 3 none :: tM)) := gM_v (List.mem_of_getElem? (i := 144) (by decide +kernel)) (List.mem_of_getElem? (i := 145) (by decide +kernel)) (List.mem_of_getElem? (i := 146) (by decide +kernel)) tM_ini (List.mem_of_getElem? (i := 143) (by decide +kernel))
theorem gM_waitFor : GoodIn tM (wsV RX13 239 RX13 yX13_waitFor (.code yX13_waitFor cX13_waitFor 3 none :: tM)) := gM_v (List.mem_of_getElem? (i := 148) (by decide +kernel)) (List.mem_of_getElem? (i := 149) (by decide +kernel)) (List.mem_of_getElem? (i := 150) (by decide +kernel)) tM_ini (List.mem_of_getElem? (i := 132) (by decide +kernel))
theorem gM_freed : GoodIn tM (wsV RX13 242 RX13 yX13_freed (.code yX13_freed cX13_freed 3 none :: tM)) := gM_v (List.mem_of_getElem? (i := 151) (by decide +kernel)) (List.mem_of_getElem? (i := 152) (by decide +kernel)) (List.mem_of_getElem? (i := 153) (by decide +kernel)) tM_ini (List.mem_of_getElem? (i := 147) (by decide +kernel))
theorem gM_fails : GoodIn tM (wsV RX13 264 RX13 yX13_fails (.code yX13_fails cX13_fails 3 (some .boolean) :: tM)) := gM_v (List.mem_of_getElem? (i := 158) (by decide +kernel)) (List.mem_of_getElem? (i := 159) (by decide +kernel)) (List.mem_of_getElem? (i := 160) (by decide +kernel)) tM_ini (List.mem_of_getElem? (i := 142) (by decide +kernel))
theorem gM_signalled : GoodIn tM (wsV RX13 289 RX13 yX13_signalled (.code yX13_signalled cX13_signalled 5 none :: tM)) := gM_v (List.mem_of_getElem? (i := 161) (by decide +kernel)) (List.mem_of_getElem? (i := 162) (by decide +kernel)) (List.mem_of_getElem? (i := 163) (by decide +kernel)) tM_ini (List.mem_of_getElem? (i := 154) (by decide +kernel))
theorem gM_part : GoodIn tM (wsV RX13 252 RX13 yX13_part (.code yX13_part cX13_part 3 (some .int) :: tM)) := gM_v (List.mem_of_getElem? (i := 166) (by decide +kernel)) (List.mem_of_getElem? (i := 167) (by decide +kernel)) (List.mem_of_getElem? (i := 168) (by decide +kernel)) tM_ini (List.mem_of_getElem? (i := 131) (by decide +kernel))
theorem gM_passes : GoodIn tM (wsV RX13 286 RX13 yX13_passes (.code yX13_passes cX13_passes 3 (some .boolean) :: tM)) := gM_v (List.mem_of_getElem? (i := 169) (by decide +kernel)) (List.mem_of_getElem? (i := 170) (by decide +kernel)) (List.mem_of_getElem? (i := 171) (by decide +kernel)) tM_ini (List.mem_of_getElem? (i := 157) (by decide +kernel))
theorem gM_firstGoesOn : GoodIn tM (wsV RX13 283 RX13 yX13_firstGoesOn (.code yX13_firstGoesOn cX13_firstGoesOn 3 (some .int) :: tM)) := gM_v (List.mem_of_getElem? (i := 172) (by decide +kernel)) (List.mem_of_getElem? (i := 173) (by decide +kernel)) (List.mem_of_getElem? (i := 174) (by decide +kernel)) tM_ini (List.mem_of_getElem? (i := 135) (by decide +kernel))
theorem gM_opened : GoodIn tM (wsV RX13 295 RX13 yX13_opened (.code yX13_opened cX13_opened 2 none :: tM)) := gM_v (List.mem_of_getElem? (i := 177) (by decide +kernel)) (List.mem_of_getElem? (i := 178) (by decide +kernel)) (List.mem_of_getElem? (i := 179) (by decide +kernel)) tM_ini (List.mem_of_getElem? (i := 176) (by decide +kernel))
theorem gM_append : GoodIn tM (wsV RX13 292 RX13 yX13_append (.code yX13_append cX13_append 3 none :: tM)) := gM_v (List.mem_of_getElem? (i := 182) (by decide +kernel)) (List.mem_of_getElem? (i := 183) (by decide +kernel)) (List.mem_of_getElem? (i := 184) (by decide +kernel)) tM_ini (List.mem_of_getElem? (i := 181) (by decide +kernel))
theorem gM_kindOf : GoodIn tM (wsS RX13 261 yX13_kindOf (.code yX13_kindOf cX13_kindOf 1 (some .int) :: tM)) := gM_s (List.mem_of_getElem? (i := 186) (by decide +kernel)) (List.mem_of_getElem? (i := 187) (by decide +kernel)) tM_ini (List.mem_of_getElem? (i := 156) (by decide +kernel))
theorem gM_atLock : GoodIn tM (wsV RX13 268 RX13 yX13_atLock (.code yX13_atLock cX13_atLock 6 (some .boolean) :: tM)) := gM_v (List.mem_of_getElem? (i := 188) (by decide +kernel)) (List.mem_of_getElem? (i := 189) (by decide +kernel)) (List.mem_of_getElem? (i := 190) (by decide +kernel)) tM_ini (List.mem_of_getElem? (i := 164) (by decide +kernel))
theorem gM_atCell : GoodIn tM (wsV RX13 271 RX13 yX13_atCell (.code yX13_atCell cX13_atCell 5 (some .boolean) :: tM)) := gM_v (List.mem_of_getElem? (i := 191) (by decide +kernel)) (List.mem_of_getElem? (i := 192) (by decide +kernel)) (List.mem_of_getElem? (i := 193) (by decide +kernel)) tM_ini (List.mem_of_getElem? (i := 165) (by decide +kernel))
theorem gM_atSemaphore : GoodIn tM (wsV RX13 274 RX13 yX13_atSemaphore (.code yX13_atSemaphore cX13_atSemaphore 5 (some .boolean) :: tM)) := gM_v (List.mem_of_getElem? (i := 194) (by decide +kernel)) (List.mem_of_getElem? (i := 195) (by decide +kernel)) (List.mem_of_getElem? (i := 196) (by decide +kernel)) tM_ini (List.mem_of_getElem? (i := 175) (by decide +kernel))
theorem gM_atGate : GoodIn tM (wsV RX13 277 RX13 yX13_atGate (.code yX13_atGate cX13_atGate 4 (some .boolean) :: tM)) := gM_v (List.mem_of_getElem? (i := 197) (by decide +kernel)) (List.mem_of_getElem? (i := 198) (by decide +kernel)) (List.mem_of_getElem? (i := 199) (by decide +kernel)) tM_ini (List.mem_of_getElem? (i := 180) (by decide +kernel))
theorem gM_atQueue : GoodIn tM (wsV RX13 280 RX13 yX13_atQueue (.code yX13_atQueue cX13_atQueue 6 (some .boolean) :: tM)) := gM_v (List.mem_of_getElem? (i := 200) (by decide +kernel)) (List.mem_of_getElem? (i := 201) (by decide +kernel)) (List.mem_of_getElem? (i := 202) (by decide +kernel)) tM_ini (List.mem_of_getElem? (i := 185) (by decide +kernel))
theorem gM_rowOf : GoodIn tM (wsV RX13 249 RX13 yX13_rowOf (.code yX13_rowOf cX13_rowOf 4 (some .int) :: tM)) := gM_v (List.mem_of_getElem? (i := 206) (by decide +kernel)) (List.mem_of_getElem? (i := 207) (by decide +kernel)) (List.mem_of_getElem? (i := 208) (by decide +kernel)) tM_ini (List.mem_of_getElem? (i := 155) (by decide +kernel))
theorem gM_with : GoodIn tM (wsV RX13 258 RX13 yX13_with (.code yX13_with cX13_with 6 (some .boolean) :: tM)) := gM_v (List.mem_of_getElem? (i := 209) (by decide +kernel)) (List.mem_of_getElem? (i := 210) (by decide +kernel)) (List.mem_of_getElem? (i := 211) (by decide +kernel)) tM_ini (List.mem_of_getElem? (i := 203) (by decide +kernel))
theorem gM_one : GoodIn tM (wsV RX13 298 RX13 yX13_one (.code yX13_one cX13_one 6 none :: tM)) := gM_v (List.mem_of_getElem? (i := 213) (by decide +kernel)) (List.mem_of_getElem? (i := 214) (by decide +kernel)) (List.mem_of_getElem? (i := 215) (by decide +kernel)) tM_ini (List.mem_of_getElem? (i := 212) (by decide +kernel))
theorem gM_ready : GoodIn tM (wsV RX13 304 RX13 yX13_ready (.code yX13_ready cX13_ready 3 (some .int) :: tM)) := gM_v (List.mem_of_getElem? (i := 220) (by decide +kernel)) (List.mem_of_getElem? (i := 221) (by decide +kernel)) (List.mem_of_getElem? (i := 222) (by decide +kernel)) tM_ini (List.mem_of_getElem? (i := 217) (by decide +kernel))
theorem gM_nextOf : GoodIn tM (wsV RX13 308 RX13 yX13_nextOf (.code yX13_nextOf cX13_nextOf 2 (some .int) :: tM)) := gM_v (List.mem_of_getElem? (i := 229) (by decide +kernel)) (List.mem_of_getElem? (i := 230) (by decide +kernel)) (List.mem_of_getElem? (i := 231) (by decide +kernel)) tM_ini (List.mem_of_getElem? (i := 227) (by decide +kernel))
theorem tMc17 : Cond.constantLong RX13 17 (1819238756) ∈ tM := List.mem_of_getElem? (i := 7) (by decide +kernel)
theorem tMc19 : Cond.constantLong RX13 19 (6382692) ∈ tM := List.mem_of_getElem? (i := 8) (by decide +kernel)
theorem tMc21 : Cond.constantLong RX13 21 (1786080624) ∈ tM := List.mem_of_getElem? (i := 9) (by decide +kernel)
theorem tMc23 : Cond.constantLong RX13 23 (2053468783) ∈ tM := List.mem_of_getElem? (i := 10) (by decide +kernel)
theorem tMc25 : Cond.constantLong RX13 25 (1818588019) ∈ tM := List.mem_of_getElem? (i := 11) (by decide +kernel)
theorem tMc27 : Cond.constantLong RX13 27 (495739823472) ∈ tM := List.mem_of_getElem? (i := 12) (by decide +kernel)
theorem tMc29 : Cond.constantLong RX13 29 (6647396) ∈ tM := List.mem_of_getElem? (i := 13) (by decide +kernel)
theorem tMc31 : Cond.constantLong RX13 31 (1819239275) ∈ tM := List.mem_of_getElem? (i := 14) (by decide +kernel)
theorem tMc33 : Cond.constantLong RX13 33 (7631481) ∈ tM := List.mem_of_getElem? (i := 15) (by decide +kernel)
theorem tMc35 : Cond.constantLong RX13 35 (129117126091627) ∈ tM := List.mem_of_getElem? (i := 16) (by decide +kernel)
theorem tMc37 : Cond.constantLong RX13 37 (2002872692) ∈ tM := List.mem_of_getElem? (i := 17) (by decide +kernel)
theorem tMc39 : Cond.constantLong RX13 39 (126896544047468) ∈ tM := List.mem_of_getElem? (i := 18) (by decide +kernel)
theorem tMc41 : Cond.constantLong RX13 41 (6384748) ∈ tM := List.mem_of_getElem? (i := 19) (by decide +kernel)
theorem tMc43 : Cond.constantLong RX13 43 (6776180) ∈ tM := List.mem_of_getElem? (i := 20) (by decide +kernel)
theorem tMc45 : Cond.constantLong RX13 45 (7562612) ∈ tM := List.mem_of_getElem? (i := 21) (by decide +kernel)
theorem tMc47 : Cond.constantLong RX13 47 (6909539) ∈ tM := List.mem_of_getElem? (i := 22) (by decide +kernel)
theorem tMc49 : Cond.constantLong RX13 49 (6513011) ∈ tM := List.mem_of_getElem? (i := 23) (by decide +kernel)
theorem tMc51 : Cond.constantLong RX13 51 (27412411693232741) ∈ tM := List.mem_of_getElem? (i := 24) (by decide +kernel)
theorem tMc53 : Cond.constantLong RX13 53 (32199663576773477) ∈ tM := List.mem_of_getElem? (i := 25) (by decide +kernel)
theorem tMc55 : Cond.constantLong RX13 55 (431415716206) ∈ tM := List.mem_of_getElem? (i := 26) (by decide +kernel)
theorem tMc57 : Cond.constantLong RX13 57 (1685026670) ∈ tM := List.mem_of_getElem? (i := 27) (by decide +kernel)
theorem tMc59 : Cond.constantLong RX13 59 (418614700404) ∈ tM := List.mem_of_getElem? (i := 28) (by decide +kernel)
theorem tMc61 : Cond.constantLong RX13 61 (1835361652) ∈ tM := List.mem_of_getElem? (i := 29) (by decide +kernel)
theorem tMc63 : Cond.constantLong RX13 63 (7370100) ∈ tM := List.mem_of_getElem? (i := 30) (by decide +kernel)
theorem tMc65 : Cond.constantLong RX13 65 (1952541541) ∈ tM := List.mem_of_getElem? (i := 31) (by decide +kernel)
theorem tMc67 : Cond.constantLong RX13 67 (478459356530) ∈ tM := List.mem_of_getElem? (i := 32) (by decide +kernel)
theorem tMc69 : Cond.constantLong RX13 69 (1886350444) ∈ tM := List.mem_of_getElem? (i := 33) (by decide +kernel)
theorem tMc71 : Cond.constantLong RX13 71 (1734964837) ∈ tM := List.mem_of_getElem? (i := 34) (by decide +kernel)
theorem tMc73 : Cond.constantLong RX13 73 (1785686382) ∈ tM := List.mem_of_getElem? (i := 35) (by decide +kernel)
theorem tMc75 : Cond.constantLong RX13 75 (26990) ∈ tM := List.mem_of_getElem? (i := 36) (by decide +kernel)
theorem tMc77 : Cond.constantLong RX13 77 (7304564) ∈ tM := List.mem_of_getElem? (i := 37) (by decide +kernel)
theorem tMc79 : Cond.constantLong RX13 79 (7305070) ∈ tM := List.mem_of_getElem? (i := 38) (by decide +kernel)
theorem tMc81 : Cond.constantLong RX13 81 (1650549611) ∈ tM := List.mem_of_getElem? (i := 39) (by decide +kernel)
theorem tMc83 : Cond.constantLong RX13 83 (1953066341) ∈ tM := List.mem_of_getElem? (i := 40) (by decide +kernel)
theorem tMc211 : Cond.constant RX13 211 (1000000000) ∈ tM := List.mem_of_getElem? (i := 105) (by decide +kernel)
theorem tMc307 : Cond.constant RX13 307 (1103515245) ∈ tM := List.mem_of_getElem? (i := 219) (by decide +kernel)
theorem tMc311 : Cond.constantLong RX13 311 (1099511627776) ∈ tM := List.mem_of_getElem? (i := 233) (by decide +kernel)
theorem tMa_int : Cond.arrayClass .int ∈ tM := List.mem_of_getElem? (i := 3) (by decide +kernel)
theorem tMa_long : Cond.arrayClass .long ∈ tM := List.mem_of_getElem? (i := 6) (by decide +kernel)
theorem tMa_boolean : Cond.arrayClass .boolean ∈ tM := List.mem_of_getElem? (i := 52) (by decide +kernel)
/-- the state of the reference: its ints and longs by the field, its arrays of ints (and booleans) and of longs by field and place -/
abbrev mS : Type := (Nat → Int32) × (Nat → Int64) × (Nat → Int32 → Int32) × (Nat → Int32 → Int64)
def gI (S : mS) (k : Nat) : Int32 := S.1 k
def gJ (S : mS) (k : Nat) : Int64 := S.2.1 k
def gA (S : mS) (k : Nat) (i : Int32) : Int32 := S.2.2.1 k i
def gL (S : mS) (k : Nat) (i : Int32) : Int64 := S.2.2.2 k i
def sI (S : mS) (k : Nat) (x : Int32) : mS := (fun j => if j = k then x else S.1 j, S.2.1, S.2.2.1, S.2.2.2)
def sJ (S : mS) (k : Nat) (x : Int64) : mS := (S.1, fun j => if j = k then x else S.2.1 j, S.2.2.1, S.2.2.2)
def sA (S : mS) (k : Nat) (i x : Int32) : mS := (S.1, S.2.1, fun j => if j = k then (fun q => if q = i then x else S.2.2.1 k q) else S.2.2.1 j, S.2.2.2)
def sL (S : mS) (k : Nat) (i : Int32) (x : Int64) : mS := (S.1, S.2.1, S.2.2.1, fun j => if j = k then (fun q => if q = i then x else S.2.2.2 k q) else S.2.2.2 j)
theorem gI_sI (S : mS) (k : Nat) (x : Int32) (j : Nat) : gI (sI S k x) j = if j = k then x else gI S j := rfl
theorem gI_sJ (S : mS) (k : Nat) (x : Int64) (j : Nat) : gI (sJ S k x) j = gI S j := rfl
theorem gI_sA (S : mS) (k : Nat) (i x : Int32) (j : Nat) : gI (sA S k i x) j = gI S j := rfl
theorem gI_sL (S : mS) (k : Nat) (i : Int32) (x : Int64) (j : Nat) : gI (sL S k i x) j = gI S j := rfl
theorem gJ_sI (S : mS) (k : Nat) (x : Int32) (j : Nat) : gJ (sI S k x) j = gJ S j := rfl
theorem gJ_sJ (S : mS) (k : Nat) (x : Int64) (j : Nat) : gJ (sJ S k x) j = if j = k then x else gJ S j := rfl
theorem gJ_sA (S : mS) (k : Nat) (i x : Int32) (j : Nat) : gJ (sA S k i x) j = gJ S j := rfl
theorem gJ_sL (S : mS) (k : Nat) (i : Int32) (x : Int64) (j : Nat) : gJ (sL S k i x) j = gJ S j := rfl
theorem gA_sI (S : mS) (k : Nat) (x : Int32) (j : Nat) (q : Int32) : gA (sI S k x) j q = gA S j q := rfl
theorem gA_sJ (S : mS) (k : Nat) (x : Int64) (j : Nat) (q : Int32) : gA (sJ S k x) j q = gA S j q := rfl
theorem gA_sA (S : mS) (k : Nat) (i x : Int32) (j : Nat) (q : Int32) : gA (sA S k i x) j q = if j = k then (if q = i then x else gA S j q) else gA S j q := by
  by_cases h : j = k
  · subst h; simp [gA, sA]
  · simp [gA, sA, h]
theorem gA_sL (S : mS) (k : Nat) (i : Int32) (x : Int64) (j : Nat) (q : Int32) : gA (sL S k i x) j q = gA S j q := rfl
theorem gL_sI (S : mS) (k : Nat) (x : Int32) (j : Nat) (q : Int32) : gL (sI S k x) j q = gL S j q := rfl
theorem gL_sJ (S : mS) (k : Nat) (x : Int64) (j : Nat) (q : Int32) : gL (sJ S k x) j q = gL S j q := rfl
theorem gL_sA (S : mS) (k : Nat) (i x : Int32) (j : Nat) (q : Int32) : gL (sA S k i x) j q = gL S j q := rfl
theorem gL_sL (S : mS) (k : Nat) (i : Int32) (x : Int64) (j : Nat) (q : Int32) : gL (sL S k i x) j q = if j = k then (if q = i then x else gL S j q) else gL S j q := by
  by_cases h : j = k
  · subst h; simp [gL, sL]
  · simp [gL, sL, h]
theorem vin {x N : Int32} {n : Nat} (hN : N.toInt = n) (h0 : 0 ≤ x) (h1 : x < N) : vp_in x n := by
  rw [vp_in_iff, ← hN]
  exact ⟨Int32.le_iff_toInt_le.mp h0, Int32.lt_iff_toInt_lt.mp h1⟩
theorem nI_back {i : Int32} {n : Nat} (h : vp_in i n) : nI i.toNatClampNeg = i := by
  have h1 := (vp_in_iff.mp h).1
  apply Int32.toInt_inj.mp
  have h2 : i.toNatClampNeg < 2 ^ 31 := by
    have := Int32.toInt_lt i
    simp only [Int32.toNatClampNeg]
    omega
  rw [nI_toInt h2]
  simp only [Int32.toNatClampNeg]
  omega
theorem nI_inj31 {a b : Nat} (ha : a < 2 ^ 31) (hb : b < 2 ^ 31) (h : nI a = nI b) : a = b := (nI_eq ha hb).mp h
/-- two rows that agree in their places are one -/
theorem arr_eq {cA : ClassId} {n : Nat} {f g : Nat → Int32} (h : ∀ j, j < n → f j = g j) : vp_cell cA (n, .inl f) = vp_cell cA (n, .inl g) := by
  rw [vp_cell_i, vp_cell_i]
  have e : (fun j : Fin n => Value.int (f j.val)) = (fun j : Fin n => Value.int (g j.val)) := funext fun j => by rw [h j.val j.isLt]
  simp only [arrV, e]
theorem arr_eqL {cA : ClassId} {n : Nat} {f g : Nat → Int64} (h : ∀ j, j < n → f j = g j) : vp_cell cA (n, .inr (.inl f)) = vp_cell cA (n, .inr (.inl g)) := by
  rw [vp_cell_l, vp_cell_l]
  have e : (fun j : Fin n => Value.long (f j.val)) = (fun j : Fin n => Value.long (g j.val)) := funext fun j => by rw [h j.val j.isLt]
  simp only [arrV, e]
theorem mSwap {D : va_G} {cl : List vw_C} {ws : va_W} {H : Heap} {q0 a : Nat} {c1 c2 : ClassId × vp_A} (h : va_P D cl (ws.set q0 (a, .inl c1)) H) (he : vp_cell c1.1 c1.2 = vp_cell c2.1 c2.2) : va_P D cl (ws.set q0 (a, .inl c2)) H := by
  intro k q hk
  by_cases hkp : k = q0
  · subst hkp
    by_cases hl : k < ws.length
    · rw [List.getElem?_set_self hl] at hk
      cases hk
      have h1 := h k (a, .inl c1) (List.getElem?_set_self hl)
      show H[a]? = some (vp_cell c2.1 c2.2)
      rw [← he]; exact h1
    · rw [List.set_eq_of_length_le (by omega)] at hk h
      exact h k q hk
  · rw [List.getElem?_set_ne (Ne.symm hkp)] at hk
    exact h k q (by rw [List.getElem?_set_ne (Ne.symm hkp)]; exact hk)
theorem upd_nI {f : Int32 → Int32} {i x : Int32} {n : Nat} (hin : vp_in i n) (hn : n < 2 ^ 31) : ∀ j, j < n → upd (fun q => f (nI q)) i.toNatClampNeg x j = (fun q => if q = i then x else f q) (nI j) := by
  intro j hj
  have hb := nI_back hin
  have hi : i.toNatClampNeg < n := Nat.not_le.mp fun q => hin (Or.inr q)
  by_cases h : j = i.toNatClampNeg
  · subst h; simp [upd, hb]
  · have h2 : ¬ nI j = i := fun e => h (nI_inj31 (by omega) (by omega) (e.trans hb.symm))
    simp [upd, h, h2]
theorem updL_nI {f : Int32 → Int64} {i : Int32} {x : Int64} {n : Nat} (hin : vp_in i n) (hn : n < 2 ^ 31) : ∀ j, j < n → vp_updL (fun q => f (nI q)) i.toNatClampNeg x j = (fun q => if q = i then x else f q) (nI j) := by
  intro j hj
  have hb := nI_back hin
  have hi : i.toNatClampNeg < n := Nat.not_le.mp fun q => hin (Or.inr q)
  by_cases h : j = i.toNatClampNeg
  · subst h; simp [vp_updL, hb]
  · have h2 : ¬ nI j = i := fun e => h (nI_inj31 (by omega) (by omega) (e.trans hb.symm))
    simp [vp_updL, h, h2]
def mfs (ad : Nat → Nat) (S : mS) : List Value := [.int (S.1 0), .ref (ad 1), .int (S.1 2), .int (S.1 3), .ref (ad 4), .ref (ad 5), .int (S.1 6), .int (S.1 7), .int (S.1 8), .int (S.1 9), .int (S.1 10), .ref (ad 11), .ref (ad 12), .ref (ad 13), .ref (ad 14), .ref (ad 15), .ref (ad 16), .ref (ad 17), .ref (ad 18), .ref (ad 19), .ref (ad 20), .ref (ad 21), .ref (ad 22), .ref (ad 23), .long (S.2.1 24), .long (S.2.1 25), .int (S.1 26), .int (S.1 27), .ref (ad 28), .ref (ad 29), .ref (ad 30), .ref (ad 31), .ref (ad 32), .ref (ad 33), .ref (ad 34), .ref (ad 35), .ref (ad 36), .ref (ad 37)]
def mws (cs : ClassId × ClassId × ClassId) (o : Nat) (ad : Nat → Nat) (S : mS) : va_W := [(o, .inr (10, mfs ad S)), (ad 1, .inl (cs.1, 1600, .inl (fun j => S.2.2.1 1 (nI j)))), (ad 4, .inl (cs.2.1, 34, .inr (.inl (fun j => S.2.2.2 4 (nI j))))), (ad 5, .inl (cs.1, 240, .inl (fun j => S.2.2.1 5 (nI j)))), (ad 11, .inl (cs.1, 1920, .inl (fun j => S.2.2.1 11 (nI j)))), (ad 12, .inl (cs.1, 8, .inl (fun j => S.2.2.1 12 (nI j)))), (ad 13, .inl (cs.1, 8, .inl (fun j => S.2.2.1 13 (nI j)))), (ad 14, .inl (cs.1, 8, .inl (fun j => S.2.2.1 14 (nI j)))), (ad 15, .inl (cs.1, 8, .inl (fun j => S.2.2.1 15 (nI j)))), (ad 16, .inl (cs.1, 8, .inl (fun j => S.2.2.1 16 (nI j)))), (ad 17, .inl (cs.1, 8, .inl (fun j => S.2.2.1 17 (nI j)))), (ad 18, .inl (cs.1, 8, .inl (fun j => S.2.2.1 18 (nI j)))), (ad 19, .inl (cs.1, 8, .inl (fun j => S.2.2.1 19 (nI j)))), (ad 20, .inl (cs.2.2, 8, .inl (fun j => S.2.2.1 20 (nI j)))), (ad 21, .inl (cs.2.2, 8, .inl (fun j => S.2.2.1 21 (nI j)))), (ad 22, .inl (cs.2.2, 8, .inl (fun j => S.2.2.1 22 (nI j)))), (ad 23, .inl (cs.2.1, 8, .inr (.inl (fun j => S.2.2.2 23 (nI j))))), (ad 28, .inl (cs.1, 24, .inl (fun j => S.2.2.1 28 (nI j)))), (ad 29, .inl (cs.1, 24, .inl (fun j => S.2.2.1 29 (nI j)))), (ad 30, .inl (cs.1, 24, .inl (fun j => S.2.2.1 30 (nI j)))), (ad 31, .inl (cs.1, 24, .inl (fun j => S.2.2.1 31 (nI j)))), (ad 32, .inl (cs.1, 192, .inl (fun j => S.2.2.1 32 (nI j)))), (ad 33, .inl (cs.1, 24, .inl (fun j => S.2.2.1 33 (nI j)))), (ad 34, .inl (cs.1, 192, .inl (fun j => S.2.2.1 34 (nI j)))), (ad 35, .inl (cs.1, 24, .inl (fun j => S.2.2.1 35 (nI j)))), (ad 36, .inl (cs.1, 2400, .inl (fun j => S.2.2.1 36 (nI j)))), (ad 37, .inl (cs.1, 24, .inl (fun j => S.2.2.1 37 (nI j))))]
abbrev mT (cs : ClassId × ClassId × ClassId) : List (ClassId × FieldType) := [(cs.1, .int), (cs.2.1, .long), (cs.2.2, .boolean)]
def mV (D : va_G) (cs : ClassId × ClassId × ClassId) (o : Nat) (ad : Nat → Nat) (A : Nat → Prop) (S : mS) (H : Heap) : Prop := va_P D vwCl (mws cs o ad S) H ∧ va_D A (mws cs o ad S)
def mB (D : va_G) (cs : ClassId × ClassId × ClassId) (o : Nat) (ad : Nat → Nat) (A : Nat → Prop) (S : mS) (U : State) : Prop := mV D cs o ad A S U.heap ∧ va_K D vwCl (mT cs) U
def mC (p : Program) (s : State) (m : MethodId) (args : Array Value) (c : Code) (cc : ByteArray) (D : va_G) (cs : ClassId × ClassId × ClassId) : Prop := p.tables.exec = Jvm.exec ∧ c.code = cc ∧ s.vm.findClass RX13 = some m.cls ∧ (∀ w ∈ tM, w.before args s = true) ∧ va_K D vwCl (mT cs) s
section MW
variable {p : Program} {l : Launch} {e : Env} {R : Room} {s : State} {m : MethodId} {args : Array Value} {below : List Frame} {meth : Method} {c : Code} {H : Heap} {locs : List Loc} {cells slots : Nat} {Q : State → Prop}
variable {cc : ByteArray} {pc : Nat} {ls : Array Slot} {rest : List Value} {D : va_G} {cs : ClassId × ClassId × ClassId} {o : Nat} {ad : Nat → Nat} {A : Nat → Prop} {S : mS} {H0 : Heap}
theorem mG0 (C : mC p s m args c cc D cs) (V : mV D cs o ad A S H) (hdg : decode cc pc = .ok (.getfield 165, 3)) (kk : W p l e R s m args below meth c H locs cells slots Q (F0 m (pc + 3) ls (.int (gI S 0) :: rest))) : W p l e R s m args below meth c H locs cells slots Q (F0 m pc ls (.ref o :: rest)) := by
  obtain ⟨hx, hb, hown, hts, hK⟩ := C
  exact va_get (own := RX13) (C := RX13) (T := TX13) (N := 38) (ci := 10) hx hb hts tM_lay hown hK V.1 0 rfl rfl 0 (by decide) (hts _ tMf0) (fun _ h => h) rfl hdg kk
theorem mP0 {x : Int32} (C : mC p s m args c cc D cs) (V : mV D cs o ad A S H) (hS : va_S A H0 H locs) (hdg : decode cc pc = .ok (.putfield 165, 3)) (kk : ∀ (S1 : mS) (H1 : Heap) (locs1 : List Loc), S1 = sI S 0 x → mV D cs o ad A S1 H1 → va_S A H0 H1 locs1 → W p l e R s m args below meth c H1 locs1 cells slots Q (F0 m (pc + 3) ls rest)) : W p l e R s m args below meth c H locs cells slots Q (F0 m pc ls (.int x :: .ref o :: rest)) := by
  obtain ⟨hx, hb, hown, hts, hK⟩ := C
  exact va_put (own := RX13) (C := RX13) (T := TX13) (N := 38) (ci := 10) (ty := .int) hx hb hts tM_lay tyX13 tyX13_ok nmX13 hown hK V.1 V.2 hS 0 rfl rfl 0 (by decide) (hts _ tMf0) (fun _ h => h) rfl (by decide +kernel) rfl rfl (Nat.le_of_ble_eq_true rfl) hdg (fun H1 locs1 hP hD hS1 => kk _ H1 locs1 rfl ⟨hP, hD⟩ hS1)
theorem mG1 (C : mC p s m args c cc D cs) (V : mV D cs o ad A S H) (hdg : decode cc pc = .ok (.getfield 7, 3)) (kk : W p l e R s m args below meth c H locs cells slots Q (F0 m (pc + 3) ls (.ref (ad 1) :: rest))) : W p l e R s m args below meth c H locs cells slots Q (F0 m pc ls (.ref o :: rest)) := by
  obtain ⟨hx, hb, hown, hts, hK⟩ := C
  exact va_get (own := RX13) (C := RX13) (T := TX13) (N := 38) (ci := 10) hx hb hts tM_lay hown hK V.1 0 rfl rfl 1 (by decide) (hts _ tMf1) (fun _ h => h) rfl hdg kk
theorem mLd1 {i : Int32} (C : mC p s m args c cc D cs) (V : mV D cs o ad A S H) (hin : vp_in i 1600) (hdg : decode cc pc = .ok (.iaload, 1)) (kk : W p l e R s m args below meth c H locs cells slots Q (F0 m (pc + 1) ls (.int (gA S 1 i) :: rest))) : W p l e R s m args below meth c H locs cells slots Q (F0 m pc ls (.int i :: .ref (ad 1) :: rest)) := by
  obtain ⟨hx, hb, hown, hts, hK⟩ := C
  refine va_iald hx hb hK V.1 1 0 rfl rfl hin hdg ?_
  have hb9 := nI_back hin
  rw [hb9]; exact kk
theorem mSt1 {i : Int32} {x : Int32} (C : mC p s m args c cc D cs) (V : mV D cs o ad A S H) (hS : va_S A H0 H locs) (hin : vp_in i 1600) (hdg : decode cc pc = .ok (.iastore, 1)) (kk : ∀ (S1 : mS) (H1 : Heap) (locs1 : List Loc), S1 = sA S 1 i (x) → mV D cs o ad A S1 H1 → va_S A H0 H1 locs1 → W p l e R s m args below meth c H1 locs1 cells slots Q (F0 m (pc + 1) ls rest)) : W p l e R s m args below meth c H locs cells slots Q (F0 m pc ls (.int x :: .int i :: .ref (ad 1) :: rest)) := by
  obtain ⟨hx, hb, hown, hts, hK⟩ := C
  exact va_iast hx hb hK V.1 V.2 hS 1 0 rfl rfl hin hdg (fun H1 locs1 hP hD hS1 => kk _ H1 locs1 rfl ⟨mSwap (c2 := (cs.1, 1600, .inl (fun j => (sA S 1 i (x)).2.2.1 1 (nI j)))) hP (arr_eq (upd_nI hin (by decide))), V.2.set (p := 1) rfl⟩ hS1)
theorem mG2 (C : mC p s m args c cc D cs) (V : mV D cs o ad A S H) (hdg : decode cc pc = .ok (.getfield 168, 3)) (kk : W p l e R s m args below meth c H locs cells slots Q (F0 m (pc + 3) ls (.int (gI S 2) :: rest))) : W p l e R s m args below meth c H locs cells slots Q (F0 m pc ls (.ref o :: rest)) := by
  obtain ⟨hx, hb, hown, hts, hK⟩ := C
  exact va_get (own := RX13) (C := RX13) (T := TX13) (N := 38) (ci := 10) hx hb hts tM_lay hown hK V.1 0 rfl rfl 2 (by decide) (hts _ tMf2) (fun _ h => h) rfl hdg kk
theorem mP2 {x : Int32} (C : mC p s m args c cc D cs) (V : mV D cs o ad A S H) (hS : va_S A H0 H locs) (hdg : decode cc pc = .ok (.putfield 168, 3)) (kk : ∀ (S1 : mS) (H1 : Heap) (locs1 : List Loc), S1 = sI S 2 x → mV D cs o ad A S1 H1 → va_S A H0 H1 locs1 → W p l e R s m args below meth c H1 locs1 cells slots Q (F0 m (pc + 3) ls rest)) : W p l e R s m args below meth c H locs cells slots Q (F0 m pc ls (.int x :: .ref o :: rest)) := by
  obtain ⟨hx, hb, hown, hts, hK⟩ := C
  exact va_put (own := RX13) (C := RX13) (T := TX13) (N := 38) (ci := 10) (ty := .int) hx hb hts tM_lay tyX13 tyX13_ok nmX13 hown hK V.1 V.2 hS 0 rfl rfl 2 (by decide) (hts _ tMf2) (fun _ h => h) rfl (by decide +kernel) rfl rfl (Nat.le_of_ble_eq_true rfl) hdg (fun H1 locs1 hP hD hS1 => kk _ H1 locs1 rfl ⟨hP, hD⟩ hS1)
theorem mG3 (C : mC p s m args c cc D cs) (V : mV D cs o ad A S H) (hdg : decode cc pc = .ok (.getfield 13, 3)) (kk : W p l e R s m args below meth c H locs cells slots Q (F0 m (pc + 3) ls (.int (gI S 3) :: rest))) : W p l e R s m args below meth c H locs cells slots Q (F0 m pc ls (.ref o :: rest)) := by
  obtain ⟨hx, hb, hown, hts, hK⟩ := C
  exact va_get (own := RX13) (C := RX13) (T := TX13) (N := 38) (ci := 10) hx hb hts tM_lay hown hK V.1 0 rfl rfl 3 (by decide) (hts _ tMf3) (fun _ h => h) rfl hdg kk
theorem mP3 {x : Int32} (C : mC p s m args c cc D cs) (V : mV D cs o ad A S H) (hS : va_S A H0 H locs) (hdg : decode cc pc = .ok (.putfield 13, 3)) (kk : ∀ (S1 : mS) (H1 : Heap) (locs1 : List Loc), S1 = sI S 3 x → mV D cs o ad A S1 H1 → va_S A H0 H1 locs1 → W p l e R s m args below meth c H1 locs1 cells slots Q (F0 m (pc + 3) ls rest)) : W p l e R s m args below meth c H locs cells slots Q (F0 m pc ls (.int x :: .ref o :: rest)) := by
  obtain ⟨hx, hb, hown, hts, hK⟩ := C
  exact va_put (own := RX13) (C := RX13) (T := TX13) (N := 38) (ci := 10) (ty := .int) hx hb hts tM_lay tyX13 tyX13_ok nmX13 hown hK V.1 V.2 hS 0 rfl rfl 3 (by decide) (hts _ tMf3) (fun _ h => h) rfl (by decide +kernel) rfl rfl (Nat.le_of_ble_eq_true rfl) hdg (fun H1 locs1 hP hD hS1 => kk _ H1 locs1 rfl ⟨hP, hD⟩ hS1)
theorem mG4 (C : mC p s m args c cc D cs) (V : mV D cs o ad A S H) (hdg : decode cc pc = .ok (.getfield 85, 3)) (kk : W p l e R s m args below meth c H locs cells slots Q (F0 m (pc + 3) ls (.ref (ad 4) :: rest))) : W p l e R s m args below meth c H locs cells slots Q (F0 m pc ls (.ref o :: rest)) := by
  obtain ⟨hx, hb, hown, hts, hK⟩ := C
  exact va_get (own := RX13) (C := RX13) (T := TX13) (N := 38) (ci := 10) hx hb hts tM_lay hown hK V.1 0 rfl rfl 4 (by decide) (hts _ tMf4) (fun _ h => h) rfl hdg kk
theorem mLd4 {i : Int32} (C : mC p s m args c cc D cs) (V : mV D cs o ad A S H) (hin : vp_in i 34) (hdg : decode cc pc = .ok (.laload, 1)) (kk : W p l e R s m args below meth c H locs cells slots Q (F0 m (pc + 1) ls (.long (gL S 4 i) :: rest))) : W p l e R s m args below meth c H locs cells slots Q (F0 m pc ls (.int i :: .ref (ad 4) :: rest)) := by
  obtain ⟨hx, hb, hown, hts, hK⟩ := C
  refine va_lald hx hb hK V.1 2 1 rfl rfl hin hdg ?_
  have hb9 := nI_back hin
  rw [hb9]; exact kk
theorem mSt4 {i : Int32} {x : Int64} (C : mC p s m args c cc D cs) (V : mV D cs o ad A S H) (hS : va_S A H0 H locs) (hin : vp_in i 34) (hdg : decode cc pc = .ok (.lastore, 1)) (kk : ∀ (S1 : mS) (H1 : Heap) (locs1 : List Loc), S1 = sL S 4 i (x) → mV D cs o ad A S1 H1 → va_S A H0 H1 locs1 → W p l e R s m args below meth c H1 locs1 cells slots Q (F0 m (pc + 1) ls rest)) : W p l e R s m args below meth c H locs cells slots Q (F0 m pc ls (.long x :: .int i :: .ref (ad 4) :: rest)) := by
  obtain ⟨hx, hb, hown, hts, hK⟩ := C
  exact va_last hx hb hK V.1 V.2 hS 2 1 rfl rfl hin hdg (fun H1 locs1 hP hD hS1 => kk _ H1 locs1 rfl ⟨mSwap (c2 := (cs.2.1, 34, .inr (.inl (fun j => (sL S 4 i x).2.2.2 4 (nI j))))) hP (arr_eqL (updL_nI hin (by decide))), V.2.set (p := 2) rfl⟩ hS1)
theorem mG5 (C : mC p s m args c cc D cs) (V : mV D cs o ad A S H) (hdg : decode cc pc = .ok (.getfield 89, 3)) (kk : W p l e R s m args below meth c H locs cells slots Q (F0 m (pc + 3) ls (.ref (ad 5) :: rest))) : W p l e R s m args below meth c H locs cells slots Q (F0 m pc ls (.ref o :: rest)) := by
  obtain ⟨hx, hb, hown, hts, hK⟩ := C
  exact va_get (own := RX13) (C := RX13) (T := TX13) (N := 38) (ci := 10) hx hb hts tM_lay hown hK V.1 0 rfl rfl 5 (by decide) (hts _ tMf5) (fun _ h => h) rfl hdg kk
theorem mLd5 {i : Int32} (C : mC p s m args c cc D cs) (V : mV D cs o ad A S H) (hin : vp_in i 240) (hdg : decode cc pc = .ok (.iaload, 1)) (kk : W p l e R s m args below meth c H locs cells slots Q (F0 m (pc + 1) ls (.int (gA S 5 i) :: rest))) : W p l e R s m args below meth c H locs cells slots Q (F0 m pc ls (.int i :: .ref (ad 5) :: rest)) := by
  obtain ⟨hx, hb, hown, hts, hK⟩ := C
  refine va_iald hx hb hK V.1 3 0 rfl rfl hin hdg ?_
  have hb9 := nI_back hin
  rw [hb9]; exact kk
theorem mSt5 {i : Int32} {x : Int32} (C : mC p s m args c cc D cs) (V : mV D cs o ad A S H) (hS : va_S A H0 H locs) (hin : vp_in i 240) (hdg : decode cc pc = .ok (.iastore, 1)) (kk : ∀ (S1 : mS) (H1 : Heap) (locs1 : List Loc), S1 = sA S 5 i (x) → mV D cs o ad A S1 H1 → va_S A H0 H1 locs1 → W p l e R s m args below meth c H1 locs1 cells slots Q (F0 m (pc + 1) ls rest)) : W p l e R s m args below meth c H locs cells slots Q (F0 m pc ls (.int x :: .int i :: .ref (ad 5) :: rest)) := by
  obtain ⟨hx, hb, hown, hts, hK⟩ := C
  exact va_iast hx hb hK V.1 V.2 hS 3 0 rfl rfl hin hdg (fun H1 locs1 hP hD hS1 => kk _ H1 locs1 rfl ⟨mSwap (c2 := (cs.1, 240, .inl (fun j => (sA S 5 i (x)).2.2.1 5 (nI j)))) hP (arr_eq (upd_nI hin (by decide))), V.2.set (p := 3) rfl⟩ hS1)
theorem mG6 (C : mC p s m args c cc D cs) (V : mV D cs o ad A S H) (hdg : decode cc pc = .ok (.getfield 208, 3)) (kk : W p l e R s m args below meth c H locs cells slots Q (F0 m (pc + 3) ls (.int (gI S 6) :: rest))) : W p l e R s m args below meth c H locs cells slots Q (F0 m pc ls (.ref o :: rest)) := by
  obtain ⟨hx, hb, hown, hts, hK⟩ := C
  exact va_get (own := RX13) (C := RX13) (T := TX13) (N := 38) (ci := 10) hx hb hts tM_lay hown hK V.1 0 rfl rfl 6 (by decide) (hts _ tMf6) (fun _ h => h) rfl hdg kk
theorem mP6 {x : Int32} (C : mC p s m args c cc D cs) (V : mV D cs o ad A S H) (hS : va_S A H0 H locs) (hdg : decode cc pc = .ok (.putfield 208, 3)) (kk : ∀ (S1 : mS) (H1 : Heap) (locs1 : List Loc), S1 = sI S 6 x → mV D cs o ad A S1 H1 → va_S A H0 H1 locs1 → W p l e R s m args below meth c H1 locs1 cells slots Q (F0 m (pc + 3) ls rest)) : W p l e R s m args below meth c H locs cells slots Q (F0 m pc ls (.int x :: .ref o :: rest)) := by
  obtain ⟨hx, hb, hown, hts, hK⟩ := C
  exact va_put (own := RX13) (C := RX13) (T := TX13) (N := 38) (ci := 10) (ty := .int) hx hb hts tM_lay tyX13 tyX13_ok nmX13 hown hK V.1 V.2 hS 0 rfl rfl 6 (by decide) (hts _ tMf6) (fun _ h => h) rfl (by decide +kernel) rfl rfl (Nat.le_of_ble_eq_true rfl) hdg (fun H1 locs1 hP hD hS1 => kk _ H1 locs1 rfl ⟨hP, hD⟩ hS1)
theorem mG7 (C : mC p s m args c cc D cs) (V : mV D cs o ad A S H) (hdg : decode cc pc = .ok (.getfield 183, 3)) (kk : W p l e R s m args below meth c H locs cells slots Q (F0 m (pc + 3) ls (.int (gI S 7) :: rest))) : W p l e R s m args below meth c H locs cells slots Q (F0 m pc ls (.ref o :: rest)) := by
  obtain ⟨hx, hb, hown, hts, hK⟩ := C
  exact va_get (own := RX13) (C := RX13) (T := TX13) (N := 38) (ci := 10) hx hb hts tM_lay hown hK V.1 0 rfl rfl 7 (by decide) (hts _ tMf7) (fun _ h => h) rfl hdg kk
theorem mP7 {x : Int32} (C : mC p s m args c cc D cs) (V : mV D cs o ad A S H) (hS : va_S A H0 H locs) (hdg : decode cc pc = .ok (.putfield 183, 3)) (kk : ∀ (S1 : mS) (H1 : Heap) (locs1 : List Loc), S1 = sI S 7 x → mV D cs o ad A S1 H1 → va_S A H0 H1 locs1 → W p l e R s m args below meth c H1 locs1 cells slots Q (F0 m (pc + 3) ls rest)) : W p l e R s m args below meth c H locs cells slots Q (F0 m pc ls (.int x :: .ref o :: rest)) := by
  obtain ⟨hx, hb, hown, hts, hK⟩ := C
  exact va_put (own := RX13) (C := RX13) (T := TX13) (N := 38) (ci := 10) (ty := .int) hx hb hts tM_lay tyX13 tyX13_ok nmX13 hown hK V.1 V.2 hS 0 rfl rfl 7 (by decide) (hts _ tMf7) (fun _ h => h) rfl (by decide +kernel) rfl rfl (Nat.le_of_ble_eq_true rfl) hdg (fun H1 locs1 hP hD hS1 => kk _ H1 locs1 rfl ⟨hP, hD⟩ hS1)
theorem mG8 (C : mC p s m args c cc D cs) (V : mV D cs o ad A S H) (hdg : decode cc pc = .ok (.getfield 189, 3)) (kk : W p l e R s m args below meth c H locs cells slots Q (F0 m (pc + 3) ls (.int (gI S 8) :: rest))) : W p l e R s m args below meth c H locs cells slots Q (F0 m pc ls (.ref o :: rest)) := by
  obtain ⟨hx, hb, hown, hts, hK⟩ := C
  exact va_get (own := RX13) (C := RX13) (T := TX13) (N := 38) (ci := 10) hx hb hts tM_lay hown hK V.1 0 rfl rfl 8 (by decide) (hts _ tMf8) (fun _ h => h) rfl hdg kk
theorem mP8 {x : Int32} (C : mC p s m args c cc D cs) (V : mV D cs o ad A S H) (hS : va_S A H0 H locs) (hdg : decode cc pc = .ok (.putfield 189, 3)) (kk : ∀ (S1 : mS) (H1 : Heap) (locs1 : List Loc), S1 = sI S 8 x → mV D cs o ad A S1 H1 → va_S A H0 H1 locs1 → W p l e R s m args below meth c H1 locs1 cells slots Q (F0 m (pc + 3) ls rest)) : W p l e R s m args below meth c H locs cells slots Q (F0 m pc ls (.int x :: .ref o :: rest)) := by
  obtain ⟨hx, hb, hown, hts, hK⟩ := C
  exact va_put (own := RX13) (C := RX13) (T := TX13) (N := 38) (ci := 10) (ty := .int) hx hb hts tM_lay tyX13 tyX13_ok nmX13 hown hK V.1 V.2 hS 0 rfl rfl 8 (by decide) (hts _ tMf8) (fun _ h => h) rfl (by decide +kernel) rfl rfl (Nat.le_of_ble_eq_true rfl) hdg (fun H1 locs1 hP hD hS1 => kk _ H1 locs1 rfl ⟨hP, hD⟩ hS1)
theorem mG9 (C : mC p s m args c cc D cs) (V : mV D cs o ad A S H) (hdg : decode cc pc = .ok (.getfield 192, 3)) (kk : W p l e R s m args below meth c H locs cells slots Q (F0 m (pc + 3) ls (.int (gI S 9) :: rest))) : W p l e R s m args below meth c H locs cells slots Q (F0 m pc ls (.ref o :: rest)) := by
  obtain ⟨hx, hb, hown, hts, hK⟩ := C
  exact va_get (own := RX13) (C := RX13) (T := TX13) (N := 38) (ci := 10) hx hb hts tM_lay hown hK V.1 0 rfl rfl 9 (by decide) (hts _ tMf9) (fun _ h => h) rfl hdg kk
theorem mP9 {x : Int32} (C : mC p s m args c cc D cs) (V : mV D cs o ad A S H) (hS : va_S A H0 H locs) (hdg : decode cc pc = .ok (.putfield 192, 3)) (kk : ∀ (S1 : mS) (H1 : Heap) (locs1 : List Loc), S1 = sI S 9 x → mV D cs o ad A S1 H1 → va_S A H0 H1 locs1 → W p l e R s m args below meth c H1 locs1 cells slots Q (F0 m (pc + 3) ls rest)) : W p l e R s m args below meth c H locs cells slots Q (F0 m pc ls (.int x :: .ref o :: rest)) := by
  obtain ⟨hx, hb, hown, hts, hK⟩ := C
  exact va_put (own := RX13) (C := RX13) (T := TX13) (N := 38) (ci := 10) (ty := .int) hx hb hts tM_lay tyX13 tyX13_ok nmX13 hown hK V.1 V.2 hS 0 rfl rfl 9 (by decide) (hts _ tMf9) (fun _ h => h) rfl (by decide +kernel) rfl rfl (Nat.le_of_ble_eq_true rfl) hdg (fun H1 locs1 hP hD hS1 => kk _ H1 locs1 rfl ⟨hP, hD⟩ hS1)
theorem mG10 (C : mC p s m args c cc D cs) (V : mV D cs o ad A S H) (hdg : decode cc pc = .ok (.getfield 186, 3)) (kk : W p l e R s m args below meth c H locs cells slots Q (F0 m (pc + 3) ls (.int (gI S 10) :: rest))) : W p l e R s m args below meth c H locs cells slots Q (F0 m pc ls (.ref o :: rest)) := by
  obtain ⟨hx, hb, hown, hts, hK⟩ := C
  exact va_get (own := RX13) (C := RX13) (T := TX13) (N := 38) (ci := 10) hx hb hts tM_lay hown hK V.1 0 rfl rfl 10 (by decide) (hts _ tMf10) (fun _ h => h) rfl hdg kk
theorem mP10 {x : Int32} (C : mC p s m args c cc D cs) (V : mV D cs o ad A S H) (hS : va_S A H0 H locs) (hdg : decode cc pc = .ok (.putfield 186, 3)) (kk : ∀ (S1 : mS) (H1 : Heap) (locs1 : List Loc), S1 = sI S 10 x → mV D cs o ad A S1 H1 → va_S A H0 H1 locs1 → W p l e R s m args below meth c H1 locs1 cells slots Q (F0 m (pc + 3) ls rest)) : W p l e R s m args below meth c H locs cells slots Q (F0 m pc ls (.int x :: .ref o :: rest)) := by
  obtain ⟨hx, hb, hown, hts, hK⟩ := C
  exact va_put (own := RX13) (C := RX13) (T := TX13) (N := 38) (ci := 10) (ty := .int) hx hb hts tM_lay tyX13 tyX13_ok nmX13 hown hK V.1 V.2 hS 0 rfl rfl 10 (by decide) (hts _ tMf10) (fun _ h => h) rfl (by decide +kernel) rfl rfl (Nat.le_of_ble_eq_true rfl) hdg (fun H1 locs1 hP hD hS1 => kk _ H1 locs1 rfl ⟨hP, hD⟩ hS1)
theorem mG11 (C : mC p s m args c cc D cs) (V : mV D cs o ad A S H) (hdg : decode cc pc = .ok (.getfield 92, 3)) (kk : W p l e R s m args below meth c H locs cells slots Q (F0 m (pc + 3) ls (.ref (ad 11) :: rest))) : W p l e R s m args below meth c H locs cells slots Q (F0 m pc ls (.ref o :: rest)) := by
  obtain ⟨hx, hb, hown, hts, hK⟩ := C
  exact va_get (own := RX13) (C := RX13) (T := TX13) (N := 38) (ci := 10) hx hb hts tM_lay hown hK V.1 0 rfl rfl 11 (by decide) (hts _ tMf11) (fun _ h => h) rfl hdg kk
theorem mLd11 {i : Int32} (C : mC p s m args c cc D cs) (V : mV D cs o ad A S H) (hin : vp_in i 1920) (hdg : decode cc pc = .ok (.iaload, 1)) (kk : W p l e R s m args below meth c H locs cells slots Q (F0 m (pc + 1) ls (.int (gA S 11 i) :: rest))) : W p l e R s m args below meth c H locs cells slots Q (F0 m pc ls (.int i :: .ref (ad 11) :: rest)) := by
  obtain ⟨hx, hb, hown, hts, hK⟩ := C
  refine va_iald hx hb hK V.1 4 0 rfl rfl hin hdg ?_
  have hb9 := nI_back hin
  rw [hb9]; exact kk
theorem mSt11 {i : Int32} {x : Int32} (C : mC p s m args c cc D cs) (V : mV D cs o ad A S H) (hS : va_S A H0 H locs) (hin : vp_in i 1920) (hdg : decode cc pc = .ok (.iastore, 1)) (kk : ∀ (S1 : mS) (H1 : Heap) (locs1 : List Loc), S1 = sA S 11 i (x) → mV D cs o ad A S1 H1 → va_S A H0 H1 locs1 → W p l e R s m args below meth c H1 locs1 cells slots Q (F0 m (pc + 1) ls rest)) : W p l e R s m args below meth c H locs cells slots Q (F0 m pc ls (.int x :: .int i :: .ref (ad 11) :: rest)) := by
  obtain ⟨hx, hb, hown, hts, hK⟩ := C
  exact va_iast hx hb hK V.1 V.2 hS 4 0 rfl rfl hin hdg (fun H1 locs1 hP hD hS1 => kk _ H1 locs1 rfl ⟨mSwap (c2 := (cs.1, 1920, .inl (fun j => (sA S 11 i (x)).2.2.1 11 (nI j)))) hP (arr_eq (upd_nI hin (by decide))), V.2.set (p := 4) rfl⟩ hS1)
theorem mG12 (C : mC p s m args c cc D cs) (V : mV D cs o ad A S H) (hdg : decode cc pc = .ok (.getfield 95, 3)) (kk : W p l e R s m args below meth c H locs cells slots Q (F0 m (pc + 3) ls (.ref (ad 12) :: rest))) : W p l e R s m args below meth c H locs cells slots Q (F0 m pc ls (.ref o :: rest)) := by
  obtain ⟨hx, hb, hown, hts, hK⟩ := C
  exact va_get (own := RX13) (C := RX13) (T := TX13) (N := 38) (ci := 10) hx hb hts tM_lay hown hK V.1 0 rfl rfl 12 (by decide) (hts _ tMf12) (fun _ h => h) rfl hdg kk
theorem mLd12 {i : Int32} (C : mC p s m args c cc D cs) (V : mV D cs o ad A S H) (hin : vp_in i 8) (hdg : decode cc pc = .ok (.iaload, 1)) (kk : W p l e R s m args below meth c H locs cells slots Q (F0 m (pc + 1) ls (.int (gA S 12 i) :: rest))) : W p l e R s m args below meth c H locs cells slots Q (F0 m pc ls (.int i :: .ref (ad 12) :: rest)) := by
  obtain ⟨hx, hb, hown, hts, hK⟩ := C
  refine va_iald hx hb hK V.1 5 0 rfl rfl hin hdg ?_
  have hb9 := nI_back hin
  rw [hb9]; exact kk
theorem mSt12 {i : Int32} {x : Int32} (C : mC p s m args c cc D cs) (V : mV D cs o ad A S H) (hS : va_S A H0 H locs) (hin : vp_in i 8) (hdg : decode cc pc = .ok (.iastore, 1)) (kk : ∀ (S1 : mS) (H1 : Heap) (locs1 : List Loc), S1 = sA S 12 i (x) → mV D cs o ad A S1 H1 → va_S A H0 H1 locs1 → W p l e R s m args below meth c H1 locs1 cells slots Q (F0 m (pc + 1) ls rest)) : W p l e R s m args below meth c H locs cells slots Q (F0 m pc ls (.int x :: .int i :: .ref (ad 12) :: rest)) := by
  obtain ⟨hx, hb, hown, hts, hK⟩ := C
  exact va_iast hx hb hK V.1 V.2 hS 5 0 rfl rfl hin hdg (fun H1 locs1 hP hD hS1 => kk _ H1 locs1 rfl ⟨mSwap (c2 := (cs.1, 8, .inl (fun j => (sA S 12 i (x)).2.2.1 12 (nI j)))) hP (arr_eq (upd_nI hin (by decide))), V.2.set (p := 5) rfl⟩ hS1)
theorem mG13 (C : mC p s m args c cc D cs) (V : mV D cs o ad A S H) (hdg : decode cc pc = .ok (.getfield 98, 3)) (kk : W p l e R s m args below meth c H locs cells slots Q (F0 m (pc + 3) ls (.ref (ad 13) :: rest))) : W p l e R s m args below meth c H locs cells slots Q (F0 m pc ls (.ref o :: rest)) := by
  obtain ⟨hx, hb, hown, hts, hK⟩ := C
  exact va_get (own := RX13) (C := RX13) (T := TX13) (N := 38) (ci := 10) hx hb hts tM_lay hown hK V.1 0 rfl rfl 13 (by decide) (hts _ tMf13) (fun _ h => h) rfl hdg kk
theorem mLd13 {i : Int32} (C : mC p s m args c cc D cs) (V : mV D cs o ad A S H) (hin : vp_in i 8) (hdg : decode cc pc = .ok (.iaload, 1)) (kk : W p l e R s m args below meth c H locs cells slots Q (F0 m (pc + 1) ls (.int (gA S 13 i) :: rest))) : W p l e R s m args below meth c H locs cells slots Q (F0 m pc ls (.int i :: .ref (ad 13) :: rest)) := by
  obtain ⟨hx, hb, hown, hts, hK⟩ := C
  refine va_iald hx hb hK V.1 6 0 rfl rfl hin hdg ?_
  have hb9 := nI_back hin
  rw [hb9]; exact kk
theorem mSt13 {i : Int32} {x : Int32} (C : mC p s m args c cc D cs) (V : mV D cs o ad A S H) (hS : va_S A H0 H locs) (hin : vp_in i 8) (hdg : decode cc pc = .ok (.iastore, 1)) (kk : ∀ (S1 : mS) (H1 : Heap) (locs1 : List Loc), S1 = sA S 13 i (x) → mV D cs o ad A S1 H1 → va_S A H0 H1 locs1 → W p l e R s m args below meth c H1 locs1 cells slots Q (F0 m (pc + 1) ls rest)) : W p l e R s m args below meth c H locs cells slots Q (F0 m pc ls (.int x :: .int i :: .ref (ad 13) :: rest)) := by
  obtain ⟨hx, hb, hown, hts, hK⟩ := C
  exact va_iast hx hb hK V.1 V.2 hS 6 0 rfl rfl hin hdg (fun H1 locs1 hP hD hS1 => kk _ H1 locs1 rfl ⟨mSwap (c2 := (cs.1, 8, .inl (fun j => (sA S 13 i (x)).2.2.1 13 (nI j)))) hP (arr_eq (upd_nI hin (by decide))), V.2.set (p := 6) rfl⟩ hS1)
theorem mG14 (C : mC p s m args c cc D cs) (V : mV D cs o ad A S H) (hdg : decode cc pc = .ok (.getfield 101, 3)) (kk : W p l e R s m args below meth c H locs cells slots Q (F0 m (pc + 3) ls (.ref (ad 14) :: rest))) : W p l e R s m args below meth c H locs cells slots Q (F0 m pc ls (.ref o :: rest)) := by
  obtain ⟨hx, hb, hown, hts, hK⟩ := C
  exact va_get (own := RX13) (C := RX13) (T := TX13) (N := 38) (ci := 10) hx hb hts tM_lay hown hK V.1 0 rfl rfl 14 (by decide) (hts _ tMf14) (fun _ h => h) rfl hdg kk
theorem mLd14 {i : Int32} (C : mC p s m args c cc D cs) (V : mV D cs o ad A S H) (hin : vp_in i 8) (hdg : decode cc pc = .ok (.iaload, 1)) (kk : W p l e R s m args below meth c H locs cells slots Q (F0 m (pc + 1) ls (.int (gA S 14 i) :: rest))) : W p l e R s m args below meth c H locs cells slots Q (F0 m pc ls (.int i :: .ref (ad 14) :: rest)) := by
  obtain ⟨hx, hb, hown, hts, hK⟩ := C
  refine va_iald hx hb hK V.1 7 0 rfl rfl hin hdg ?_
  have hb9 := nI_back hin
  rw [hb9]; exact kk
theorem mSt14 {i : Int32} {x : Int32} (C : mC p s m args c cc D cs) (V : mV D cs o ad A S H) (hS : va_S A H0 H locs) (hin : vp_in i 8) (hdg : decode cc pc = .ok (.iastore, 1)) (kk : ∀ (S1 : mS) (H1 : Heap) (locs1 : List Loc), S1 = sA S 14 i (x) → mV D cs o ad A S1 H1 → va_S A H0 H1 locs1 → W p l e R s m args below meth c H1 locs1 cells slots Q (F0 m (pc + 1) ls rest)) : W p l e R s m args below meth c H locs cells slots Q (F0 m pc ls (.int x :: .int i :: .ref (ad 14) :: rest)) := by
  obtain ⟨hx, hb, hown, hts, hK⟩ := C
  exact va_iast hx hb hK V.1 V.2 hS 7 0 rfl rfl hin hdg (fun H1 locs1 hP hD hS1 => kk _ H1 locs1 rfl ⟨mSwap (c2 := (cs.1, 8, .inl (fun j => (sA S 14 i (x)).2.2.1 14 (nI j)))) hP (arr_eq (upd_nI hin (by decide))), V.2.set (p := 7) rfl⟩ hS1)
theorem mG15 (C : mC p s m args c cc D cs) (V : mV D cs o ad A S H) (hdg : decode cc pc = .ok (.getfield 104, 3)) (kk : W p l e R s m args below meth c H locs cells slots Q (F0 m (pc + 3) ls (.ref (ad 15) :: rest))) : W p l e R s m args below meth c H locs cells slots Q (F0 m pc ls (.ref o :: rest)) := by
  obtain ⟨hx, hb, hown, hts, hK⟩ := C
  exact va_get (own := RX13) (C := RX13) (T := TX13) (N := 38) (ci := 10) hx hb hts tM_lay hown hK V.1 0 rfl rfl 15 (by decide) (hts _ tMf15) (fun _ h => h) rfl hdg kk
theorem mLd15 {i : Int32} (C : mC p s m args c cc D cs) (V : mV D cs o ad A S H) (hin : vp_in i 8) (hdg : decode cc pc = .ok (.iaload, 1)) (kk : W p l e R s m args below meth c H locs cells slots Q (F0 m (pc + 1) ls (.int (gA S 15 i) :: rest))) : W p l e R s m args below meth c H locs cells slots Q (F0 m pc ls (.int i :: .ref (ad 15) :: rest)) := by
  obtain ⟨hx, hb, hown, hts, hK⟩ := C
  refine va_iald hx hb hK V.1 8 0 rfl rfl hin hdg ?_
  have hb9 := nI_back hin
  rw [hb9]; exact kk
theorem mSt15 {i : Int32} {x : Int32} (C : mC p s m args c cc D cs) (V : mV D cs o ad A S H) (hS : va_S A H0 H locs) (hin : vp_in i 8) (hdg : decode cc pc = .ok (.iastore, 1)) (kk : ∀ (S1 : mS) (H1 : Heap) (locs1 : List Loc), S1 = sA S 15 i (x) → mV D cs o ad A S1 H1 → va_S A H0 H1 locs1 → W p l e R s m args below meth c H1 locs1 cells slots Q (F0 m (pc + 1) ls rest)) : W p l e R s m args below meth c H locs cells slots Q (F0 m pc ls (.int x :: .int i :: .ref (ad 15) :: rest)) := by
  obtain ⟨hx, hb, hown, hts, hK⟩ := C
  exact va_iast hx hb hK V.1 V.2 hS 8 0 rfl rfl hin hdg (fun H1 locs1 hP hD hS1 => kk _ H1 locs1 rfl ⟨mSwap (c2 := (cs.1, 8, .inl (fun j => (sA S 15 i (x)).2.2.1 15 (nI j)))) hP (arr_eq (upd_nI hin (by decide))), V.2.set (p := 8) rfl⟩ hS1)
theorem mG16 (C : mC p s m args c cc D cs) (V : mV D cs o ad A S H) (hdg : decode cc pc = .ok (.getfield 107, 3)) (kk : W p l e R s m args below meth c H locs cells slots Q (F0 m (pc + 3) ls (.ref (ad 16) :: rest))) : W p l e R s m args below meth c H locs cells slots Q (F0 m pc ls (.ref o :: rest)) := by
  obtain ⟨hx, hb, hown, hts, hK⟩ := C
  exact va_get (own := RX13) (C := RX13) (T := TX13) (N := 38) (ci := 10) hx hb hts tM_lay hown hK V.1 0 rfl rfl 16 (by decide) (hts _ tMf16) (fun _ h => h) rfl hdg kk
theorem mLd16 {i : Int32} (C : mC p s m args c cc D cs) (V : mV D cs o ad A S H) (hin : vp_in i 8) (hdg : decode cc pc = .ok (.iaload, 1)) (kk : W p l e R s m args below meth c H locs cells slots Q (F0 m (pc + 1) ls (.int (gA S 16 i) :: rest))) : W p l e R s m args below meth c H locs cells slots Q (F0 m pc ls (.int i :: .ref (ad 16) :: rest)) := by
  obtain ⟨hx, hb, hown, hts, hK⟩ := C
  refine va_iald hx hb hK V.1 9 0 rfl rfl hin hdg ?_
  have hb9 := nI_back hin
  rw [hb9]; exact kk
theorem mSt16 {i : Int32} {x : Int32} (C : mC p s m args c cc D cs) (V : mV D cs o ad A S H) (hS : va_S A H0 H locs) (hin : vp_in i 8) (hdg : decode cc pc = .ok (.iastore, 1)) (kk : ∀ (S1 : mS) (H1 : Heap) (locs1 : List Loc), S1 = sA S 16 i (x) → mV D cs o ad A S1 H1 → va_S A H0 H1 locs1 → W p l e R s m args below meth c H1 locs1 cells slots Q (F0 m (pc + 1) ls rest)) : W p l e R s m args below meth c H locs cells slots Q (F0 m pc ls (.int x :: .int i :: .ref (ad 16) :: rest)) := by
  obtain ⟨hx, hb, hown, hts, hK⟩ := C
  exact va_iast hx hb hK V.1 V.2 hS 9 0 rfl rfl hin hdg (fun H1 locs1 hP hD hS1 => kk _ H1 locs1 rfl ⟨mSwap (c2 := (cs.1, 8, .inl (fun j => (sA S 16 i (x)).2.2.1 16 (nI j)))) hP (arr_eq (upd_nI hin (by decide))), V.2.set (p := 9) rfl⟩ hS1)
theorem mG17 (C : mC p s m args c cc D cs) (V : mV D cs o ad A S H) (hdg : decode cc pc = .ok (.getfield 110, 3)) (kk : W p l e R s m args below meth c H locs cells slots Q (F0 m (pc + 3) ls (.ref (ad 17) :: rest))) : W p l e R s m args below meth c H locs cells slots Q (F0 m pc ls (.ref o :: rest)) := by
  obtain ⟨hx, hb, hown, hts, hK⟩ := C
  exact va_get (own := RX13) (C := RX13) (T := TX13) (N := 38) (ci := 10) hx hb hts tM_lay hown hK V.1 0 rfl rfl 17 (by decide) (hts _ tMf17) (fun _ h => h) rfl hdg kk
theorem mLd17 {i : Int32} (C : mC p s m args c cc D cs) (V : mV D cs o ad A S H) (hin : vp_in i 8) (hdg : decode cc pc = .ok (.iaload, 1)) (kk : W p l e R s m args below meth c H locs cells slots Q (F0 m (pc + 1) ls (.int (gA S 17 i) :: rest))) : W p l e R s m args below meth c H locs cells slots Q (F0 m pc ls (.int i :: .ref (ad 17) :: rest)) := by
  obtain ⟨hx, hb, hown, hts, hK⟩ := C
  refine va_iald hx hb hK V.1 10 0 rfl rfl hin hdg ?_
  have hb9 := nI_back hin
  rw [hb9]; exact kk
theorem mSt17 {i : Int32} {x : Int32} (C : mC p s m args c cc D cs) (V : mV D cs o ad A S H) (hS : va_S A H0 H locs) (hin : vp_in i 8) (hdg : decode cc pc = .ok (.iastore, 1)) (kk : ∀ (S1 : mS) (H1 : Heap) (locs1 : List Loc), S1 = sA S 17 i (x) → mV D cs o ad A S1 H1 → va_S A H0 H1 locs1 → W p l e R s m args below meth c H1 locs1 cells slots Q (F0 m (pc + 1) ls rest)) : W p l e R s m args below meth c H locs cells slots Q (F0 m pc ls (.int x :: .int i :: .ref (ad 17) :: rest)) := by
  obtain ⟨hx, hb, hown, hts, hK⟩ := C
  exact va_iast hx hb hK V.1 V.2 hS 10 0 rfl rfl hin hdg (fun H1 locs1 hP hD hS1 => kk _ H1 locs1 rfl ⟨mSwap (c2 := (cs.1, 8, .inl (fun j => (sA S 17 i (x)).2.2.1 17 (nI j)))) hP (arr_eq (upd_nI hin (by decide))), V.2.set (p := 10) rfl⟩ hS1)
theorem mG18 (C : mC p s m args c cc D cs) (V : mV D cs o ad A S H) (hdg : decode cc pc = .ok (.getfield 113, 3)) (kk : W p l e R s m args below meth c H locs cells slots Q (F0 m (pc + 3) ls (.ref (ad 18) :: rest))) : W p l e R s m args below meth c H locs cells slots Q (F0 m pc ls (.ref o :: rest)) := by
  obtain ⟨hx, hb, hown, hts, hK⟩ := C
  exact va_get (own := RX13) (C := RX13) (T := TX13) (N := 38) (ci := 10) hx hb hts tM_lay hown hK V.1 0 rfl rfl 18 (by decide) (hts _ tMf18) (fun _ h => h) rfl hdg kk
theorem mLd18 {i : Int32} (C : mC p s m args c cc D cs) (V : mV D cs o ad A S H) (hin : vp_in i 8) (hdg : decode cc pc = .ok (.iaload, 1)) (kk : W p l e R s m args below meth c H locs cells slots Q (F0 m (pc + 1) ls (.int (gA S 18 i) :: rest))) : W p l e R s m args below meth c H locs cells slots Q (F0 m pc ls (.int i :: .ref (ad 18) :: rest)) := by
  obtain ⟨hx, hb, hown, hts, hK⟩ := C
  refine va_iald hx hb hK V.1 11 0 rfl rfl hin hdg ?_
  have hb9 := nI_back hin
  rw [hb9]; exact kk
theorem mSt18 {i : Int32} {x : Int32} (C : mC p s m args c cc D cs) (V : mV D cs o ad A S H) (hS : va_S A H0 H locs) (hin : vp_in i 8) (hdg : decode cc pc = .ok (.iastore, 1)) (kk : ∀ (S1 : mS) (H1 : Heap) (locs1 : List Loc), S1 = sA S 18 i (x) → mV D cs o ad A S1 H1 → va_S A H0 H1 locs1 → W p l e R s m args below meth c H1 locs1 cells slots Q (F0 m (pc + 1) ls rest)) : W p l e R s m args below meth c H locs cells slots Q (F0 m pc ls (.int x :: .int i :: .ref (ad 18) :: rest)) := by
  obtain ⟨hx, hb, hown, hts, hK⟩ := C
  exact va_iast hx hb hK V.1 V.2 hS 11 0 rfl rfl hin hdg (fun H1 locs1 hP hD hS1 => kk _ H1 locs1 rfl ⟨mSwap (c2 := (cs.1, 8, .inl (fun j => (sA S 18 i (x)).2.2.1 18 (nI j)))) hP (arr_eq (upd_nI hin (by decide))), V.2.set (p := 11) rfl⟩ hS1)
theorem mG19 (C : mC p s m args c cc D cs) (V : mV D cs o ad A S H) (hdg : decode cc pc = .ok (.getfield 116, 3)) (kk : W p l e R s m args below meth c H locs cells slots Q (F0 m (pc + 3) ls (.ref (ad 19) :: rest))) : W p l e R s m args below meth c H locs cells slots Q (F0 m pc ls (.ref o :: rest)) := by
  obtain ⟨hx, hb, hown, hts, hK⟩ := C
  exact va_get (own := RX13) (C := RX13) (T := TX13) (N := 38) (ci := 10) hx hb hts tM_lay hown hK V.1 0 rfl rfl 19 (by decide) (hts _ tMf19) (fun _ h => h) rfl hdg kk
theorem mLd19 {i : Int32} (C : mC p s m args c cc D cs) (V : mV D cs o ad A S H) (hin : vp_in i 8) (hdg : decode cc pc = .ok (.iaload, 1)) (kk : W p l e R s m args below meth c H locs cells slots Q (F0 m (pc + 1) ls (.int (gA S 19 i) :: rest))) : W p l e R s m args below meth c H locs cells slots Q (F0 m pc ls (.int i :: .ref (ad 19) :: rest)) := by
  obtain ⟨hx, hb, hown, hts, hK⟩ := C
  refine va_iald hx hb hK V.1 12 0 rfl rfl hin hdg ?_
  have hb9 := nI_back hin
  rw [hb9]; exact kk
theorem mSt19 {i : Int32} {x : Int32} (C : mC p s m args c cc D cs) (V : mV D cs o ad A S H) (hS : va_S A H0 H locs) (hin : vp_in i 8) (hdg : decode cc pc = .ok (.iastore, 1)) (kk : ∀ (S1 : mS) (H1 : Heap) (locs1 : List Loc), S1 = sA S 19 i (x) → mV D cs o ad A S1 H1 → va_S A H0 H1 locs1 → W p l e R s m args below meth c H1 locs1 cells slots Q (F0 m (pc + 1) ls rest)) : W p l e R s m args below meth c H locs cells slots Q (F0 m pc ls (.int x :: .int i :: .ref (ad 19) :: rest)) := by
  obtain ⟨hx, hb, hown, hts, hK⟩ := C
  exact va_iast hx hb hK V.1 V.2 hS 12 0 rfl rfl hin hdg (fun H1 locs1 hP hD hS1 => kk _ H1 locs1 rfl ⟨mSwap (c2 := (cs.1, 8, .inl (fun j => (sA S 19 i (x)).2.2.1 19 (nI j)))) hP (arr_eq (upd_nI hin (by decide))), V.2.set (p := 12) rfl⟩ hS1)
theorem mG20 (C : mC p s m args c cc D cs) (V : mV D cs o ad A S H) (hdg : decode cc pc = .ok (.getfield 119, 3)) (kk : W p l e R s m args below meth c H locs cells slots Q (F0 m (pc + 3) ls (.ref (ad 20) :: rest))) : W p l e R s m args below meth c H locs cells slots Q (F0 m pc ls (.ref o :: rest)) := by
  obtain ⟨hx, hb, hown, hts, hK⟩ := C
  exact va_get (own := RX13) (C := RX13) (T := TX13) (N := 38) (ci := 10) hx hb hts tM_lay hown hK V.1 0 rfl rfl 20 (by decide) (hts _ tMf20) (fun _ h => h) rfl hdg kk
theorem mLd20 {i : Int32} (C : mC p s m args c cc D cs) (V : mV D cs o ad A S H) (hin : vp_in i 8) (hdg : decode cc pc = .ok (.baload, 1)) (kk : W p l e R s m args below meth c H locs cells slots Q (F0 m (pc + 1) ls (.int (gA S 20 i) :: rest))) : W p l e R s m args below meth c H locs cells slots Q (F0 m pc ls (.int i :: .ref (ad 20) :: rest)) := by
  obtain ⟨hx, hb, hown, hts, hK⟩ := C
  refine va_zald hx hb hK V.1 13 2 rfl rfl hin hdg ?_
  have hb9 := nI_back hin
  rw [hb9]; exact kk
theorem mSt20 {i : Int32} {x : Int32} (C : mC p s m args c cc D cs) (V : mV D cs o ad A S H) (hS : va_S A H0 H locs) (hin : vp_in i 8) (hdg : decode cc pc = .ok (.bastore, 1)) (kk : ∀ (S1 : mS) (H1 : Heap) (locs1 : List Loc), S1 = sA S 20 i (vp_nar .boolean x) → mV D cs o ad A S1 H1 → va_S A H0 H1 locs1 → W p l e R s m args below meth c H1 locs1 cells slots Q (F0 m (pc + 1) ls rest)) : W p l e R s m args below meth c H locs cells slots Q (F0 m pc ls (.int x :: .int i :: .ref (ad 20) :: rest)) := by
  obtain ⟨hx, hb, hown, hts, hK⟩ := C
  exact va_zast hx hb hK V.1 V.2 hS 13 2 rfl rfl hin hdg (fun H1 locs1 hP hD hS1 => kk _ H1 locs1 rfl ⟨mSwap (c2 := (cs.2.2, 8, .inl (fun j => (sA S 20 i (vp_nar .boolean x)).2.2.1 20 (nI j)))) hP (arr_eq (upd_nI hin (by decide))), V.2.set (p := 13) rfl⟩ hS1)
theorem mG21 (C : mC p s m args c cc D cs) (V : mV D cs o ad A S H) (hdg : decode cc pc = .ok (.getfield 123, 3)) (kk : W p l e R s m args below meth c H locs cells slots Q (F0 m (pc + 3) ls (.ref (ad 21) :: rest))) : W p l e R s m args below meth c H locs cells slots Q (F0 m pc ls (.ref o :: rest)) := by
  obtain ⟨hx, hb, hown, hts, hK⟩ := C
  exact va_get (own := RX13) (C := RX13) (T := TX13) (N := 38) (ci := 10) hx hb hts tM_lay hown hK V.1 0 rfl rfl 21 (by decide) (hts _ tMf21) (fun _ h => h) rfl hdg kk
theorem mLd21 {i : Int32} (C : mC p s m args c cc D cs) (V : mV D cs o ad A S H) (hin : vp_in i 8) (hdg : decode cc pc = .ok (.baload, 1)) (kk : W p l e R s m args below meth c H locs cells slots Q (F0 m (pc + 1) ls (.int (gA S 21 i) :: rest))) : W p l e R s m args below meth c H locs cells slots Q (F0 m pc ls (.int i :: .ref (ad 21) :: rest)) := by
  obtain ⟨hx, hb, hown, hts, hK⟩ := C
  refine va_zald hx hb hK V.1 14 2 rfl rfl hin hdg ?_
  have hb9 := nI_back hin
  rw [hb9]; exact kk
theorem mSt21 {i : Int32} {x : Int32} (C : mC p s m args c cc D cs) (V : mV D cs o ad A S H) (hS : va_S A H0 H locs) (hin : vp_in i 8) (hdg : decode cc pc = .ok (.bastore, 1)) (kk : ∀ (S1 : mS) (H1 : Heap) (locs1 : List Loc), S1 = sA S 21 i (vp_nar .boolean x) → mV D cs o ad A S1 H1 → va_S A H0 H1 locs1 → W p l e R s m args below meth c H1 locs1 cells slots Q (F0 m (pc + 1) ls rest)) : W p l e R s m args below meth c H locs cells slots Q (F0 m pc ls (.int x :: .int i :: .ref (ad 21) :: rest)) := by
  obtain ⟨hx, hb, hown, hts, hK⟩ := C
  exact va_zast hx hb hK V.1 V.2 hS 14 2 rfl rfl hin hdg (fun H1 locs1 hP hD hS1 => kk _ H1 locs1 rfl ⟨mSwap (c2 := (cs.2.2, 8, .inl (fun j => (sA S 21 i (vp_nar .boolean x)).2.2.1 21 (nI j)))) hP (arr_eq (upd_nI hin (by decide))), V.2.set (p := 14) rfl⟩ hS1)
theorem mG22 (C : mC p s m args c cc D cs) (V : mV D cs o ad A S H) (hdg : decode cc pc = .ok (.getfield 126, 3)) (kk : W p l e R s m args below meth c H locs cells slots Q (F0 m (pc + 3) ls (.ref (ad 22) :: rest))) : W p l e R s m args below meth c H locs cells slots Q (F0 m pc ls (.ref o :: rest)) := by
  obtain ⟨hx, hb, hown, hts, hK⟩ := C
  exact va_get (own := RX13) (C := RX13) (T := TX13) (N := 38) (ci := 10) hx hb hts tM_lay hown hK V.1 0 rfl rfl 22 (by decide) (hts _ tMf22) (fun _ h => h) rfl hdg kk
theorem mLd22 {i : Int32} (C : mC p s m args c cc D cs) (V : mV D cs o ad A S H) (hin : vp_in i 8) (hdg : decode cc pc = .ok (.baload, 1)) (kk : W p l e R s m args below meth c H locs cells slots Q (F0 m (pc + 1) ls (.int (gA S 22 i) :: rest))) : W p l e R s m args below meth c H locs cells slots Q (F0 m pc ls (.int i :: .ref (ad 22) :: rest)) := by
  obtain ⟨hx, hb, hown, hts, hK⟩ := C
  refine va_zald hx hb hK V.1 15 2 rfl rfl hin hdg ?_
  have hb9 := nI_back hin
  rw [hb9]; exact kk
theorem mSt22 {i : Int32} {x : Int32} (C : mC p s m args c cc D cs) (V : mV D cs o ad A S H) (hS : va_S A H0 H locs) (hin : vp_in i 8) (hdg : decode cc pc = .ok (.bastore, 1)) (kk : ∀ (S1 : mS) (H1 : Heap) (locs1 : List Loc), S1 = sA S 22 i (vp_nar .boolean x) → mV D cs o ad A S1 H1 → va_S A H0 H1 locs1 → W p l e R s m args below meth c H1 locs1 cells slots Q (F0 m (pc + 1) ls rest)) : W p l e R s m args below meth c H locs cells slots Q (F0 m pc ls (.int x :: .int i :: .ref (ad 22) :: rest)) := by
  obtain ⟨hx, hb, hown, hts, hK⟩ := C
  exact va_zast hx hb hK V.1 V.2 hS 15 2 rfl rfl hin hdg (fun H1 locs1 hP hD hS1 => kk _ H1 locs1 rfl ⟨mSwap (c2 := (cs.2.2, 8, .inl (fun j => (sA S 22 i (vp_nar .boolean x)).2.2.1 22 (nI j)))) hP (arr_eq (upd_nI hin (by decide))), V.2.set (p := 15) rfl⟩ hS1)
theorem mG23 (C : mC p s m args c cc D cs) (V : mV D cs o ad A S H) (hdg : decode cc pc = .ok (.getfield 129, 3)) (kk : W p l e R s m args below meth c H locs cells slots Q (F0 m (pc + 3) ls (.ref (ad 23) :: rest))) : W p l e R s m args below meth c H locs cells slots Q (F0 m pc ls (.ref o :: rest)) := by
  obtain ⟨hx, hb, hown, hts, hK⟩ := C
  exact va_get (own := RX13) (C := RX13) (T := TX13) (N := 38) (ci := 10) hx hb hts tM_lay hown hK V.1 0 rfl rfl 23 (by decide) (hts _ tMf23) (fun _ h => h) rfl hdg kk
theorem mLd23 {i : Int32} (C : mC p s m args c cc D cs) (V : mV D cs o ad A S H) (hin : vp_in i 8) (hdg : decode cc pc = .ok (.laload, 1)) (kk : W p l e R s m args below meth c H locs cells slots Q (F0 m (pc + 1) ls (.long (gL S 23 i) :: rest))) : W p l e R s m args below meth c H locs cells slots Q (F0 m pc ls (.int i :: .ref (ad 23) :: rest)) := by
  obtain ⟨hx, hb, hown, hts, hK⟩ := C
  refine va_lald hx hb hK V.1 16 1 rfl rfl hin hdg ?_
  have hb9 := nI_back hin
  rw [hb9]; exact kk
theorem mSt23 {i : Int32} {x : Int64} (C : mC p s m args c cc D cs) (V : mV D cs o ad A S H) (hS : va_S A H0 H locs) (hin : vp_in i 8) (hdg : decode cc pc = .ok (.lastore, 1)) (kk : ∀ (S1 : mS) (H1 : Heap) (locs1 : List Loc), S1 = sL S 23 i (x) → mV D cs o ad A S1 H1 → va_S A H0 H1 locs1 → W p l e R s m args below meth c H1 locs1 cells slots Q (F0 m (pc + 1) ls rest)) : W p l e R s m args below meth c H locs cells slots Q (F0 m pc ls (.long x :: .int i :: .ref (ad 23) :: rest)) := by
  obtain ⟨hx, hb, hown, hts, hK⟩ := C
  exact va_last hx hb hK V.1 V.2 hS 16 1 rfl rfl hin hdg (fun H1 locs1 hP hD hS1 => kk _ H1 locs1 rfl ⟨mSwap (c2 := (cs.2.1, 8, .inr (.inl (fun j => (sL S 23 i x).2.2.2 23 (nI j))))) hP (arr_eqL (updL_nI hin (by decide))), V.2.set (p := 16) rfl⟩ hS1)
theorem mG24 (C : mC p s m args c cc D cs) (V : mV D cs o ad A S H) (hdg : decode cc pc = .ok (.getfield 255, 3)) (kk : W p l e R s m args below meth c H locs cells slots Q (F0 m (pc + 3) ls (.long (gJ S 24) :: rest))) : W p l e R s m args below meth c H locs cells slots Q (F0 m pc ls (.ref o :: rest)) := by
  obtain ⟨hx, hb, hown, hts, hK⟩ := C
  exact va_get (own := RX13) (C := RX13) (T := TX13) (N := 38) (ci := 10) hx hb hts tM_lay hown hK V.1 0 rfl rfl 24 (by decide) (hts _ tMf24) (fun _ h => h) rfl hdg kk
theorem mP24 {x : Int64} (C : mC p s m args c cc D cs) (V : mV D cs o ad A S H) (hS : va_S A H0 H locs) (hdg : decode cc pc = .ok (.putfield 255, 3)) (kk : ∀ (S1 : mS) (H1 : Heap) (locs1 : List Loc), S1 = sJ S 24 x → mV D cs o ad A S1 H1 → va_S A H0 H1 locs1 → W p l e R s m args below meth c H1 locs1 cells slots Q (F0 m (pc + 3) ls rest)) : W p l e R s m args below meth c H locs cells slots Q (F0 m pc ls (.long x :: .ref o :: rest)) := by
  obtain ⟨hx, hb, hown, hts, hK⟩ := C
  exact va_put (own := RX13) (C := RX13) (T := TX13) (N := 38) (ci := 10) (ty := .long) hx hb hts tM_lay tyX13 tyX13_ok nmX13 hown hK V.1 V.2 hS 0 rfl rfl 24 (by decide) (hts _ tMf24) (fun _ h => h) rfl (by decide +kernel) rfl rfl (Nat.le_of_ble_eq_true rfl) hdg (fun H1 locs1 hP hD hS1 => kk _ H1 locs1 rfl ⟨hP, hD⟩ hS1)
theorem mG25 (C : mC p s m args c cc D cs) (V : mV D cs o ad A S H) (hdg : decode cc pc = .ok (.getfield 245, 3)) (kk : W p l e R s m args below meth c H locs cells slots Q (F0 m (pc + 3) ls (.long (gJ S 25) :: rest))) : W p l e R s m args below meth c H locs cells slots Q (F0 m pc ls (.ref o :: rest)) := by
  obtain ⟨hx, hb, hown, hts, hK⟩ := C
  exact va_get (own := RX13) (C := RX13) (T := TX13) (N := 38) (ci := 10) hx hb hts tM_lay hown hK V.1 0 rfl rfl 25 (by decide) (hts _ tMf25) (fun _ h => h) rfl hdg kk
theorem mP25 {x : Int64} (C : mC p s m args c cc D cs) (V : mV D cs o ad A S H) (hS : va_S A H0 H locs) (hdg : decode cc pc = .ok (.putfield 245, 3)) (kk : ∀ (S1 : mS) (H1 : Heap) (locs1 : List Loc), S1 = sJ S 25 x → mV D cs o ad A S1 H1 → va_S A H0 H1 locs1 → W p l e R s m args below meth c H1 locs1 cells slots Q (F0 m (pc + 3) ls rest)) : W p l e R s m args below meth c H locs cells slots Q (F0 m pc ls (.long x :: .ref o :: rest)) := by
  obtain ⟨hx, hb, hown, hts, hK⟩ := C
  exact va_put (own := RX13) (C := RX13) (T := TX13) (N := 38) (ci := 10) (ty := .long) hx hb hts tM_lay tyX13 tyX13_ok nmX13 hown hK V.1 V.2 hS 0 rfl rfl 25 (by decide) (hts _ tMf25) (fun _ h => h) rfl (by decide +kernel) rfl rfl (Nat.le_of_ble_eq_true rfl) hdg (fun H1 locs1 hP hD hS1 => kk _ H1 locs1 rfl ⟨hP, hD⟩ hS1)
theorem mG26 (C : mC p s m args c cc D cs) (V : mV D cs o ad A S H) (hdg : decode cc pc = .ok (.getfield 132, 3)) (kk : W p l e R s m args below meth c H locs cells slots Q (F0 m (pc + 3) ls (.int (gI S 26) :: rest))) : W p l e R s m args below meth c H locs cells slots Q (F0 m pc ls (.ref o :: rest)) := by
  obtain ⟨hx, hb, hown, hts, hK⟩ := C
  exact va_get (own := RX13) (C := RX13) (T := TX13) (N := 38) (ci := 10) hx hb hts tM_lay hown hK V.1 0 rfl rfl 26 (by decide) (hts _ tMf26) (fun _ h => h) rfl hdg kk
theorem mP26 {x : Int32} (C : mC p s m args c cc D cs) (V : mV D cs o ad A S H) (hS : va_S A H0 H locs) (hdg : decode cc pc = .ok (.putfield 132, 3)) (kk : ∀ (S1 : mS) (H1 : Heap) (locs1 : List Loc), S1 = sI S 26 x → mV D cs o ad A S1 H1 → va_S A H0 H1 locs1 → W p l e R s m args below meth c H1 locs1 cells slots Q (F0 m (pc + 3) ls rest)) : W p l e R s m args below meth c H locs cells slots Q (F0 m pc ls (.int x :: .ref o :: rest)) := by
  obtain ⟨hx, hb, hown, hts, hK⟩ := C
  exact va_put (own := RX13) (C := RX13) (T := TX13) (N := 38) (ci := 10) (ty := .int) hx hb hts tM_lay tyX13 tyX13_ok nmX13 hown hK V.1 V.2 hS 0 rfl rfl 26 (by decide) (hts _ tMf26) (fun _ h => h) rfl (by decide +kernel) rfl rfl (Nat.le_of_ble_eq_true rfl) hdg (fun H1 locs1 hP hD hS1 => kk _ H1 locs1 rfl ⟨hP, hD⟩ hS1)
theorem mG27 (C : mC p s m args c cc D cs) (V : mV D cs o ad A S H) (hdg : decode cc pc = .ok (.getfield 301, 3)) (kk : W p l e R s m args below meth c H locs cells slots Q (F0 m (pc + 3) ls (.int (gI S 27) :: rest))) : W p l e R s m args below meth c H locs cells slots Q (F0 m pc ls (.ref o :: rest)) := by
  obtain ⟨hx, hb, hown, hts, hK⟩ := C
  exact va_get (own := RX13) (C := RX13) (T := TX13) (N := 38) (ci := 10) hx hb hts tM_lay hown hK V.1 0 rfl rfl 27 (by decide) (hts _ tMf27) (fun _ h => h) rfl hdg kk
theorem mP27 {x : Int32} (C : mC p s m args c cc D cs) (V : mV D cs o ad A S H) (hS : va_S A H0 H locs) (hdg : decode cc pc = .ok (.putfield 301, 3)) (kk : ∀ (S1 : mS) (H1 : Heap) (locs1 : List Loc), S1 = sI S 27 x → mV D cs o ad A S1 H1 → va_S A H0 H1 locs1 → W p l e R s m args below meth c H1 locs1 cells slots Q (F0 m (pc + 3) ls rest)) : W p l e R s m args below meth c H locs cells slots Q (F0 m pc ls (.int x :: .ref o :: rest)) := by
  obtain ⟨hx, hb, hown, hts, hK⟩ := C
  exact va_put (own := RX13) (C := RX13) (T := TX13) (N := 38) (ci := 10) (ty := .int) hx hb hts tM_lay tyX13 tyX13_ok nmX13 hown hK V.1 V.2 hS 0 rfl rfl 27 (by decide) (hts _ tMf27) (fun _ h => h) rfl (by decide +kernel) rfl rfl (Nat.le_of_ble_eq_true rfl) hdg (fun H1 locs1 hP hD hS1 => kk _ H1 locs1 rfl ⟨hP, hD⟩ hS1)
theorem mG28 (C : mC p s m args c cc D cs) (V : mV D cs o ad A S H) (hdg : decode cc pc = .ok (.getfield 135, 3)) (kk : W p l e R s m args below meth c H locs cells slots Q (F0 m (pc + 3) ls (.ref (ad 28) :: rest))) : W p l e R s m args below meth c H locs cells slots Q (F0 m pc ls (.ref o :: rest)) := by
  obtain ⟨hx, hb, hown, hts, hK⟩ := C
  exact va_get (own := RX13) (C := RX13) (T := TX13) (N := 38) (ci := 10) hx hb hts tM_lay hown hK V.1 0 rfl rfl 28 (by decide) (hts _ tMf28) (fun _ h => h) rfl hdg kk
theorem mLd28 {i : Int32} (C : mC p s m args c cc D cs) (V : mV D cs o ad A S H) (hin : vp_in i 24) (hdg : decode cc pc = .ok (.iaload, 1)) (kk : W p l e R s m args below meth c H locs cells slots Q (F0 m (pc + 1) ls (.int (gA S 28 i) :: rest))) : W p l e R s m args below meth c H locs cells slots Q (F0 m pc ls (.int i :: .ref (ad 28) :: rest)) := by
  obtain ⟨hx, hb, hown, hts, hK⟩ := C
  refine va_iald hx hb hK V.1 17 0 rfl rfl hin hdg ?_
  have hb9 := nI_back hin
  rw [hb9]; exact kk
theorem mSt28 {i : Int32} {x : Int32} (C : mC p s m args c cc D cs) (V : mV D cs o ad A S H) (hS : va_S A H0 H locs) (hin : vp_in i 24) (hdg : decode cc pc = .ok (.iastore, 1)) (kk : ∀ (S1 : mS) (H1 : Heap) (locs1 : List Loc), S1 = sA S 28 i (x) → mV D cs o ad A S1 H1 → va_S A H0 H1 locs1 → W p l e R s m args below meth c H1 locs1 cells slots Q (F0 m (pc + 1) ls rest)) : W p l e R s m args below meth c H locs cells slots Q (F0 m pc ls (.int x :: .int i :: .ref (ad 28) :: rest)) := by
  obtain ⟨hx, hb, hown, hts, hK⟩ := C
  exact va_iast hx hb hK V.1 V.2 hS 17 0 rfl rfl hin hdg (fun H1 locs1 hP hD hS1 => kk _ H1 locs1 rfl ⟨mSwap (c2 := (cs.1, 24, .inl (fun j => (sA S 28 i (x)).2.2.1 28 (nI j)))) hP (arr_eq (upd_nI hin (by decide))), V.2.set (p := 17) rfl⟩ hS1)
theorem mG29 (C : mC p s m args c cc D cs) (V : mV D cs o ad A S H) (hdg : decode cc pc = .ok (.getfield 138, 3)) (kk : W p l e R s m args below meth c H locs cells slots Q (F0 m (pc + 3) ls (.ref (ad 29) :: rest))) : W p l e R s m args below meth c H locs cells slots Q (F0 m pc ls (.ref o :: rest)) := by
  obtain ⟨hx, hb, hown, hts, hK⟩ := C
  exact va_get (own := RX13) (C := RX13) (T := TX13) (N := 38) (ci := 10) hx hb hts tM_lay hown hK V.1 0 rfl rfl 29 (by decide) (hts _ tMf29) (fun _ h => h) rfl hdg kk
theorem mLd29 {i : Int32} (C : mC p s m args c cc D cs) (V : mV D cs o ad A S H) (hin : vp_in i 24) (hdg : decode cc pc = .ok (.iaload, 1)) (kk : W p l e R s m args below meth c H locs cells slots Q (F0 m (pc + 1) ls (.int (gA S 29 i) :: rest))) : W p l e R s m args below meth c H locs cells slots Q (F0 m pc ls (.int i :: .ref (ad 29) :: rest)) := by
  obtain ⟨hx, hb, hown, hts, hK⟩ := C
  refine va_iald hx hb hK V.1 18 0 rfl rfl hin hdg ?_
  have hb9 := nI_back hin
  rw [hb9]; exact kk
theorem mSt29 {i : Int32} {x : Int32} (C : mC p s m args c cc D cs) (V : mV D cs o ad A S H) (hS : va_S A H0 H locs) (hin : vp_in i 24) (hdg : decode cc pc = .ok (.iastore, 1)) (kk : ∀ (S1 : mS) (H1 : Heap) (locs1 : List Loc), S1 = sA S 29 i (x) → mV D cs o ad A S1 H1 → va_S A H0 H1 locs1 → W p l e R s m args below meth c H1 locs1 cells slots Q (F0 m (pc + 1) ls rest)) : W p l e R s m args below meth c H locs cells slots Q (F0 m pc ls (.int x :: .int i :: .ref (ad 29) :: rest)) := by
  obtain ⟨hx, hb, hown, hts, hK⟩ := C
  exact va_iast hx hb hK V.1 V.2 hS 18 0 rfl rfl hin hdg (fun H1 locs1 hP hD hS1 => kk _ H1 locs1 rfl ⟨mSwap (c2 := (cs.1, 24, .inl (fun j => (sA S 29 i (x)).2.2.1 29 (nI j)))) hP (arr_eq (upd_nI hin (by decide))), V.2.set (p := 18) rfl⟩ hS1)
theorem mG30 (C : mC p s m args c cc D cs) (V : mV D cs o ad A S H) (hdg : decode cc pc = .ok (.getfield 141, 3)) (kk : W p l e R s m args below meth c H locs cells slots Q (F0 m (pc + 3) ls (.ref (ad 30) :: rest))) : W p l e R s m args below meth c H locs cells slots Q (F0 m pc ls (.ref o :: rest)) := by
  obtain ⟨hx, hb, hown, hts, hK⟩ := C
  exact va_get (own := RX13) (C := RX13) (T := TX13) (N := 38) (ci := 10) hx hb hts tM_lay hown hK V.1 0 rfl rfl 30 (by decide) (hts _ tMf30) (fun _ h => h) rfl hdg kk
theorem mLd30 {i : Int32} (C : mC p s m args c cc D cs) (V : mV D cs o ad A S H) (hin : vp_in i 24) (hdg : decode cc pc = .ok (.iaload, 1)) (kk : W p l e R s m args below meth c H locs cells slots Q (F0 m (pc + 1) ls (.int (gA S 30 i) :: rest))) : W p l e R s m args below meth c H locs cells slots Q (F0 m pc ls (.int i :: .ref (ad 30) :: rest)) := by
  obtain ⟨hx, hb, hown, hts, hK⟩ := C
  refine va_iald hx hb hK V.1 19 0 rfl rfl hin hdg ?_
  have hb9 := nI_back hin
  rw [hb9]; exact kk
theorem mSt30 {i : Int32} {x : Int32} (C : mC p s m args c cc D cs) (V : mV D cs o ad A S H) (hS : va_S A H0 H locs) (hin : vp_in i 24) (hdg : decode cc pc = .ok (.iastore, 1)) (kk : ∀ (S1 : mS) (H1 : Heap) (locs1 : List Loc), S1 = sA S 30 i (x) → mV D cs o ad A S1 H1 → va_S A H0 H1 locs1 → W p l e R s m args below meth c H1 locs1 cells slots Q (F0 m (pc + 1) ls rest)) : W p l e R s m args below meth c H locs cells slots Q (F0 m pc ls (.int x :: .int i :: .ref (ad 30) :: rest)) := by
  obtain ⟨hx, hb, hown, hts, hK⟩ := C
  exact va_iast hx hb hK V.1 V.2 hS 19 0 rfl rfl hin hdg (fun H1 locs1 hP hD hS1 => kk _ H1 locs1 rfl ⟨mSwap (c2 := (cs.1, 24, .inl (fun j => (sA S 30 i (x)).2.2.1 30 (nI j)))) hP (arr_eq (upd_nI hin (by decide))), V.2.set (p := 19) rfl⟩ hS1)
theorem mG31 (C : mC p s m args c cc D cs) (V : mV D cs o ad A S H) (hdg : decode cc pc = .ok (.getfield 144, 3)) (kk : W p l e R s m args below meth c H locs cells slots Q (F0 m (pc + 3) ls (.ref (ad 31) :: rest))) : W p l e R s m args below meth c H locs cells slots Q (F0 m pc ls (.ref o :: rest)) := by
  obtain ⟨hx, hb, hown, hts, hK⟩ := C
  exact va_get (own := RX13) (C := RX13) (T := TX13) (N := 38) (ci := 10) hx hb hts tM_lay hown hK V.1 0 rfl rfl 31 (by decide) (hts _ tMf31) (fun _ h => h) rfl hdg kk
theorem mLd31 {i : Int32} (C : mC p s m args c cc D cs) (V : mV D cs o ad A S H) (hin : vp_in i 24) (hdg : decode cc pc = .ok (.iaload, 1)) (kk : W p l e R s m args below meth c H locs cells slots Q (F0 m (pc + 1) ls (.int (gA S 31 i) :: rest))) : W p l e R s m args below meth c H locs cells slots Q (F0 m pc ls (.int i :: .ref (ad 31) :: rest)) := by
  obtain ⟨hx, hb, hown, hts, hK⟩ := C
  refine va_iald hx hb hK V.1 20 0 rfl rfl hin hdg ?_
  have hb9 := nI_back hin
  rw [hb9]; exact kk
theorem mSt31 {i : Int32} {x : Int32} (C : mC p s m args c cc D cs) (V : mV D cs o ad A S H) (hS : va_S A H0 H locs) (hin : vp_in i 24) (hdg : decode cc pc = .ok (.iastore, 1)) (kk : ∀ (S1 : mS) (H1 : Heap) (locs1 : List Loc), S1 = sA S 31 i (x) → mV D cs o ad A S1 H1 → va_S A H0 H1 locs1 → W p l e R s m args below meth c H1 locs1 cells slots Q (F0 m (pc + 1) ls rest)) : W p l e R s m args below meth c H locs cells slots Q (F0 m pc ls (.int x :: .int i :: .ref (ad 31) :: rest)) := by
  obtain ⟨hx, hb, hown, hts, hK⟩ := C
  exact va_iast hx hb hK V.1 V.2 hS 20 0 rfl rfl hin hdg (fun H1 locs1 hP hD hS1 => kk _ H1 locs1 rfl ⟨mSwap (c2 := (cs.1, 24, .inl (fun j => (sA S 31 i (x)).2.2.1 31 (nI j)))) hP (arr_eq (upd_nI hin (by decide))), V.2.set (p := 20) rfl⟩ hS1)
theorem mG32 (C : mC p s m args c cc D cs) (V : mV D cs o ad A S H) (hdg : decode cc pc = .ok (.getfield 147, 3)) (kk : W p l e R s m args below meth c H locs cells slots Q (F0 m (pc + 3) ls (.ref (ad 32) :: rest))) : W p l e R s m args below meth c H locs cells slots Q (F0 m pc ls (.ref o :: rest)) := by
  obtain ⟨hx, hb, hown, hts, hK⟩ := C
  exact va_get (own := RX13) (C := RX13) (T := TX13) (N := 38) (ci := 10) hx hb hts tM_lay hown hK V.1 0 rfl rfl 32 (by decide) (hts _ tMf32) (fun _ h => h) rfl hdg kk
theorem mLd32 {i : Int32} (C : mC p s m args c cc D cs) (V : mV D cs o ad A S H) (hin : vp_in i 192) (hdg : decode cc pc = .ok (.iaload, 1)) (kk : W p l e R s m args below meth c H locs cells slots Q (F0 m (pc + 1) ls (.int (gA S 32 i) :: rest))) : W p l e R s m args below meth c H locs cells slots Q (F0 m pc ls (.int i :: .ref (ad 32) :: rest)) := by
  obtain ⟨hx, hb, hown, hts, hK⟩ := C
  refine va_iald hx hb hK V.1 21 0 rfl rfl hin hdg ?_
  have hb9 := nI_back hin
  rw [hb9]; exact kk
theorem mSt32 {i : Int32} {x : Int32} (C : mC p s m args c cc D cs) (V : mV D cs o ad A S H) (hS : va_S A H0 H locs) (hin : vp_in i 192) (hdg : decode cc pc = .ok (.iastore, 1)) (kk : ∀ (S1 : mS) (H1 : Heap) (locs1 : List Loc), S1 = sA S 32 i (x) → mV D cs o ad A S1 H1 → va_S A H0 H1 locs1 → W p l e R s m args below meth c H1 locs1 cells slots Q (F0 m (pc + 1) ls rest)) : W p l e R s m args below meth c H locs cells slots Q (F0 m pc ls (.int x :: .int i :: .ref (ad 32) :: rest)) := by
  obtain ⟨hx, hb, hown, hts, hK⟩ := C
  exact va_iast hx hb hK V.1 V.2 hS 21 0 rfl rfl hin hdg (fun H1 locs1 hP hD hS1 => kk _ H1 locs1 rfl ⟨mSwap (c2 := (cs.1, 192, .inl (fun j => (sA S 32 i (x)).2.2.1 32 (nI j)))) hP (arr_eq (upd_nI hin (by decide))), V.2.set (p := 21) rfl⟩ hS1)
theorem mG33 (C : mC p s m args c cc D cs) (V : mV D cs o ad A S H) (hdg : decode cc pc = .ok (.getfield 150, 3)) (kk : W p l e R s m args below meth c H locs cells slots Q (F0 m (pc + 3) ls (.ref (ad 33) :: rest))) : W p l e R s m args below meth c H locs cells slots Q (F0 m pc ls (.ref o :: rest)) := by
  obtain ⟨hx, hb, hown, hts, hK⟩ := C
  exact va_get (own := RX13) (C := RX13) (T := TX13) (N := 38) (ci := 10) hx hb hts tM_lay hown hK V.1 0 rfl rfl 33 (by decide) (hts _ tMf33) (fun _ h => h) rfl hdg kk
theorem mLd33 {i : Int32} (C : mC p s m args c cc D cs) (V : mV D cs o ad A S H) (hin : vp_in i 24) (hdg : decode cc pc = .ok (.iaload, 1)) (kk : W p l e R s m args below meth c H locs cells slots Q (F0 m (pc + 1) ls (.int (gA S 33 i) :: rest))) : W p l e R s m args below meth c H locs cells slots Q (F0 m pc ls (.int i :: .ref (ad 33) :: rest)) := by
  obtain ⟨hx, hb, hown, hts, hK⟩ := C
  refine va_iald hx hb hK V.1 22 0 rfl rfl hin hdg ?_
  have hb9 := nI_back hin
  rw [hb9]; exact kk
theorem mSt33 {i : Int32} {x : Int32} (C : mC p s m args c cc D cs) (V : mV D cs o ad A S H) (hS : va_S A H0 H locs) (hin : vp_in i 24) (hdg : decode cc pc = .ok (.iastore, 1)) (kk : ∀ (S1 : mS) (H1 : Heap) (locs1 : List Loc), S1 = sA S 33 i (x) → mV D cs o ad A S1 H1 → va_S A H0 H1 locs1 → W p l e R s m args below meth c H1 locs1 cells slots Q (F0 m (pc + 1) ls rest)) : W p l e R s m args below meth c H locs cells slots Q (F0 m pc ls (.int x :: .int i :: .ref (ad 33) :: rest)) := by
  obtain ⟨hx, hb, hown, hts, hK⟩ := C
  exact va_iast hx hb hK V.1 V.2 hS 22 0 rfl rfl hin hdg (fun H1 locs1 hP hD hS1 => kk _ H1 locs1 rfl ⟨mSwap (c2 := (cs.1, 24, .inl (fun j => (sA S 33 i (x)).2.2.1 33 (nI j)))) hP (arr_eq (upd_nI hin (by decide))), V.2.set (p := 22) rfl⟩ hS1)
theorem mG34 (C : mC p s m args c cc D cs) (V : mV D cs o ad A S H) (hdg : decode cc pc = .ok (.getfield 153, 3)) (kk : W p l e R s m args below meth c H locs cells slots Q (F0 m (pc + 3) ls (.ref (ad 34) :: rest))) : W p l e R s m args below meth c H locs cells slots Q (F0 m pc ls (.ref o :: rest)) := by
  obtain ⟨hx, hb, hown, hts, hK⟩ := C
  exact va_get (own := RX13) (C := RX13) (T := TX13) (N := 38) (ci := 10) hx hb hts tM_lay hown hK V.1 0 rfl rfl 34 (by decide) (hts _ tMf34) (fun _ h => h) rfl hdg kk
theorem mLd34 {i : Int32} (C : mC p s m args c cc D cs) (V : mV D cs o ad A S H) (hin : vp_in i 192) (hdg : decode cc pc = .ok (.iaload, 1)) (kk : W p l e R s m args below meth c H locs cells slots Q (F0 m (pc + 1) ls (.int (gA S 34 i) :: rest))) : W p l e R s m args below meth c H locs cells slots Q (F0 m pc ls (.int i :: .ref (ad 34) :: rest)) := by
  obtain ⟨hx, hb, hown, hts, hK⟩ := C
  refine va_iald hx hb hK V.1 23 0 rfl rfl hin hdg ?_
  have hb9 := nI_back hin
  rw [hb9]; exact kk
theorem mSt34 {i : Int32} {x : Int32} (C : mC p s m args c cc D cs) (V : mV D cs o ad A S H) (hS : va_S A H0 H locs) (hin : vp_in i 192) (hdg : decode cc pc = .ok (.iastore, 1)) (kk : ∀ (S1 : mS) (H1 : Heap) (locs1 : List Loc), S1 = sA S 34 i (x) → mV D cs o ad A S1 H1 → va_S A H0 H1 locs1 → W p l e R s m args below meth c H1 locs1 cells slots Q (F0 m (pc + 1) ls rest)) : W p l e R s m args below meth c H locs cells slots Q (F0 m pc ls (.int x :: .int i :: .ref (ad 34) :: rest)) := by
  obtain ⟨hx, hb, hown, hts, hK⟩ := C
  exact va_iast hx hb hK V.1 V.2 hS 23 0 rfl rfl hin hdg (fun H1 locs1 hP hD hS1 => kk _ H1 locs1 rfl ⟨mSwap (c2 := (cs.1, 192, .inl (fun j => (sA S 34 i (x)).2.2.1 34 (nI j)))) hP (arr_eq (upd_nI hin (by decide))), V.2.set (p := 23) rfl⟩ hS1)
theorem mG35 (C : mC p s m args c cc D cs) (V : mV D cs o ad A S H) (hdg : decode cc pc = .ok (.getfield 156, 3)) (kk : W p l e R s m args below meth c H locs cells slots Q (F0 m (pc + 3) ls (.ref (ad 35) :: rest))) : W p l e R s m args below meth c H locs cells slots Q (F0 m pc ls (.ref o :: rest)) := by
  obtain ⟨hx, hb, hown, hts, hK⟩ := C
  exact va_get (own := RX13) (C := RX13) (T := TX13) (N := 38) (ci := 10) hx hb hts tM_lay hown hK V.1 0 rfl rfl 35 (by decide) (hts _ tMf35) (fun _ h => h) rfl hdg kk
theorem mLd35 {i : Int32} (C : mC p s m args c cc D cs) (V : mV D cs o ad A S H) (hin : vp_in i 24) (hdg : decode cc pc = .ok (.iaload, 1)) (kk : W p l e R s m args below meth c H locs cells slots Q (F0 m (pc + 1) ls (.int (gA S 35 i) :: rest))) : W p l e R s m args below meth c H locs cells slots Q (F0 m pc ls (.int i :: .ref (ad 35) :: rest)) := by
  obtain ⟨hx, hb, hown, hts, hK⟩ := C
  refine va_iald hx hb hK V.1 24 0 rfl rfl hin hdg ?_
  have hb9 := nI_back hin
  rw [hb9]; exact kk
theorem mSt35 {i : Int32} {x : Int32} (C : mC p s m args c cc D cs) (V : mV D cs o ad A S H) (hS : va_S A H0 H locs) (hin : vp_in i 24) (hdg : decode cc pc = .ok (.iastore, 1)) (kk : ∀ (S1 : mS) (H1 : Heap) (locs1 : List Loc), S1 = sA S 35 i (x) → mV D cs o ad A S1 H1 → va_S A H0 H1 locs1 → W p l e R s m args below meth c H1 locs1 cells slots Q (F0 m (pc + 1) ls rest)) : W p l e R s m args below meth c H locs cells slots Q (F0 m pc ls (.int x :: .int i :: .ref (ad 35) :: rest)) := by
  obtain ⟨hx, hb, hown, hts, hK⟩ := C
  exact va_iast hx hb hK V.1 V.2 hS 24 0 rfl rfl hin hdg (fun H1 locs1 hP hD hS1 => kk _ H1 locs1 rfl ⟨mSwap (c2 := (cs.1, 24, .inl (fun j => (sA S 35 i (x)).2.2.1 35 (nI j)))) hP (arr_eq (upd_nI hin (by decide))), V.2.set (p := 24) rfl⟩ hS1)
theorem mG36 (C : mC p s m args c cc D cs) (V : mV D cs o ad A S H) (hdg : decode cc pc = .ok (.getfield 159, 3)) (kk : W p l e R s m args below meth c H locs cells slots Q (F0 m (pc + 3) ls (.ref (ad 36) :: rest))) : W p l e R s m args below meth c H locs cells slots Q (F0 m pc ls (.ref o :: rest)) := by
  obtain ⟨hx, hb, hown, hts, hK⟩ := C
  exact va_get (own := RX13) (C := RX13) (T := TX13) (N := 38) (ci := 10) hx hb hts tM_lay hown hK V.1 0 rfl rfl 36 (by decide) (hts _ tMf36) (fun _ h => h) rfl hdg kk
theorem mLd36 {i : Int32} (C : mC p s m args c cc D cs) (V : mV D cs o ad A S H) (hin : vp_in i 2400) (hdg : decode cc pc = .ok (.iaload, 1)) (kk : W p l e R s m args below meth c H locs cells slots Q (F0 m (pc + 1) ls (.int (gA S 36 i) :: rest))) : W p l e R s m args below meth c H locs cells slots Q (F0 m pc ls (.int i :: .ref (ad 36) :: rest)) := by
  obtain ⟨hx, hb, hown, hts, hK⟩ := C
  refine va_iald hx hb hK V.1 25 0 rfl rfl hin hdg ?_
  have hb9 := nI_back hin
  rw [hb9]; exact kk
theorem mSt36 {i : Int32} {x : Int32} (C : mC p s m args c cc D cs) (V : mV D cs o ad A S H) (hS : va_S A H0 H locs) (hin : vp_in i 2400) (hdg : decode cc pc = .ok (.iastore, 1)) (kk : ∀ (S1 : mS) (H1 : Heap) (locs1 : List Loc), S1 = sA S 36 i (x) → mV D cs o ad A S1 H1 → va_S A H0 H1 locs1 → W p l e R s m args below meth c H1 locs1 cells slots Q (F0 m (pc + 1) ls rest)) : W p l e R s m args below meth c H locs cells slots Q (F0 m pc ls (.int x :: .int i :: .ref (ad 36) :: rest)) := by
  obtain ⟨hx, hb, hown, hts, hK⟩ := C
  exact va_iast hx hb hK V.1 V.2 hS 25 0 rfl rfl hin hdg (fun H1 locs1 hP hD hS1 => kk _ H1 locs1 rfl ⟨mSwap (c2 := (cs.1, 2400, .inl (fun j => (sA S 36 i (x)).2.2.1 36 (nI j)))) hP (arr_eq (upd_nI hin (by decide))), V.2.set (p := 25) rfl⟩ hS1)
theorem mG37 (C : mC p s m args c cc D cs) (V : mV D cs o ad A S H) (hdg : decode cc pc = .ok (.getfield 162, 3)) (kk : W p l e R s m args below meth c H locs cells slots Q (F0 m (pc + 3) ls (.ref (ad 37) :: rest))) : W p l e R s m args below meth c H locs cells slots Q (F0 m pc ls (.ref o :: rest)) := by
  obtain ⟨hx, hb, hown, hts, hK⟩ := C
  exact va_get (own := RX13) (C := RX13) (T := TX13) (N := 38) (ci := 10) hx hb hts tM_lay hown hK V.1 0 rfl rfl 37 (by decide) (hts _ tMf37) (fun _ h => h) rfl hdg kk
theorem mLd37 {i : Int32} (C : mC p s m args c cc D cs) (V : mV D cs o ad A S H) (hin : vp_in i 24) (hdg : decode cc pc = .ok (.iaload, 1)) (kk : W p l e R s m args below meth c H locs cells slots Q (F0 m (pc + 1) ls (.int (gA S 37 i) :: rest))) : W p l e R s m args below meth c H locs cells slots Q (F0 m pc ls (.int i :: .ref (ad 37) :: rest)) := by
  obtain ⟨hx, hb, hown, hts, hK⟩ := C
  refine va_iald hx hb hK V.1 26 0 rfl rfl hin hdg ?_
  have hb9 := nI_back hin
  rw [hb9]; exact kk
theorem mSt37 {i : Int32} {x : Int32} (C : mC p s m args c cc D cs) (V : mV D cs o ad A S H) (hS : va_S A H0 H locs) (hin : vp_in i 24) (hdg : decode cc pc = .ok (.iastore, 1)) (kk : ∀ (S1 : mS) (H1 : Heap) (locs1 : List Loc), S1 = sA S 37 i (x) → mV D cs o ad A S1 H1 → va_S A H0 H1 locs1 → W p l e R s m args below meth c H1 locs1 cells slots Q (F0 m (pc + 1) ls rest)) : W p l e R s m args below meth c H locs cells slots Q (F0 m pc ls (.int x :: .int i :: .ref (ad 37) :: rest)) := by
  obtain ⟨hx, hb, hown, hts, hK⟩ := C
  exact va_iast hx hb hK V.1 V.2 hS 26 0 rfl rfl hin hdg (fun H1 locs1 hP hD hS1 => kk _ H1 locs1 rfl ⟨mSwap (c2 := (cs.1, 24, .inl (fun j => (sA S 37 i (x)).2.2.1 37 (nI j)))) hP (arr_eq (upd_nI hin (by decide))), V.2.set (p := 26) rfl⟩ hS1)
end MW
end
section
/-! the reference: how a contract of its methods begins, ends, and is called -/
section MC
variable {p : Program} {l : Launch} {e : Env} {R : Room} {s : State} {m : MethodId} {args : Array Value} {below : List Frame} {meth : Method} {c : Code} {H : Heap} {locs : List Loc} {cells slots : Nat} {Q : State → Prop}
variable {cc : ByteArray} {pc : Nat} {ls : Array Slot} {rest : List Value} {D : va_G} {cs : ClassId × ClassId × ClassId} {o : Nat} {ad : Nat → Nat} {A : Nat → Prop} {S : mS} {H0 : Heap}
variable {y : MethodName} {cy : ByteArray} {n nL idx : Nat} {rm : Room} {As st0 : List Value} {av : List Value}
theorem mblind : FrameBlind (va_Pc av (mB D cs o ad A S)) := fun a U g mk q => by
  obtain ⟨q0, q1, q2⟩ := q
  exact ⟨q0, q1, va_K.moved (u := U) (U := U.calling g mk a) (Vm.Alike.refl U.vm) q2⟩
/-- a contract's start -/
theorem mMet {ret : Option FieldType} {Qc : Array Value → State → Outcome → State → Prop} (hy : plainName y.cls = true) (hown : y.cls = RX13) (hn : (lg_sl av).length ≤ n)
    (body : ∀ (p : Program) (e : Env) (s : State) (m : MethodId) (below : List Frame) (meth : Method) (c : Code) (ls : Array Slot), mC p s m av.toArray c cy D cs → c.maxLocals = n → meth.sig.returnType = ret → meth.locks = false → mV D cs o ad A S s.heap → lv_has ls n (lv_args 0 av) →
      W p l e rm s m av.toArray below meth c s.heap [] 0 0 (MQ below Qc av.toArray s 0 0 A) (F0 m 0 ls [])) :
    Met l y (Cond.code y cy n ret :: tM) rm (va_Pc av (mB D cs o ad A S)) Qc 0 0 A := by
  refine Met.ofW (cc := cy) (maxL := n) (ret := ret) hy rfl ?_
  intro p e s m args below meth c s₁ B hml hv
  obtain ⟨rfl, hV, hK⟩ := hv
  have hts := atoms_spec (ws := Cond.code y cy n ret :: tM) B.pre
  have hf : s.vm.findClass y.cls = some m.cls := findClass_of_methodNamed B.named
  have hl := lv_entry av (n := n) hn
  rw [lg_entry_eq]
  exact body p e s m below meth c _ ⟨B.exec, B.bytes, hown ▸ hf, fun w h => hts w (List.mem_cons_of_mem _ h), hK⟩ hml B.returns B.notSynchronized hV hl
theorem mRetI {post : Int32 → mS → Prop} {v : Int32} (C : mC p s m args c cc D cs) (hr : meth.sig.returnType = some .int) (hlocks : meth.locks = false) (V : mV D cs o ad A S H) (hS : va_S A s.heap H locs) (hp : post v S) (hdg : decode cc pc = .ok (.ireturn, 1)) :
    W p l e R s m args below meth c H locs cells slots (MQ below (va_Qi post (mB D cs o ad A) A) args s cells slots A) (F0 m pc ls [.int v]) := by
  obtain ⟨hx, hb, -, -, hK⟩ := C
  exact W.iret hx hb hr (fun t ht hW => ⟨⟨v, S, rfl, hp, by rw [ht]; exact V, va_K.moved hW.alike hK⟩, hS.F ht⟩) hS.2.2 hdg hlocks
theorem mRetZ {post : Int32 → mS → Prop} {v : Int32} (C : mC p s m args c cc D cs) (hr : meth.sig.returnType = some .boolean) (hlocks : meth.locks = false) (V : mV D cs o ad A S H) (hS : va_S A s.heap H locs) (hv : narrow .boolean (.int v) = .int v) (hp : post v S) (hdg : decode cc pc = .ok (.ireturn, 1)) :
    W p l e R s m args below meth c H locs cells slots (MQ below (va_Qi post (mB D cs o ad A) A) args s cells slots A) (F0 m pc ls [.int v]) := by
  obtain ⟨hx, hb, -, -, hK⟩ := C
  exact W.zret hx hb hr hv (fun t ht hW => ⟨⟨v, S, rfl, hp, by rw [ht]; exact V, va_K.moved hW.alike hK⟩, hS.F ht⟩) hS.2.2 hdg hlocks
theorem mRetL {post : Int64 → mS → Prop} {v : Int64} (C : mC p s m args c cc D cs) (hr : meth.sig.returnType = some .long) (hlocks : meth.locks = false) (V : mV D cs o ad A S H) (hS : va_S A s.heap H locs) (hp : post v S) (hdg : decode cc pc = .ok (.lreturn, 1)) :
    W p l e R s m args below meth c H locs cells slots (MQ below (va_Ql post (mB D cs o ad A) A) args s cells slots A) (F0 m pc ls [.long v]) := by
  obtain ⟨hx, hb, -, -, hK⟩ := C
  exact W.lret hx hb hr (fun t ht hW => ⟨⟨v, S, rfl, hp, by rw [ht]; exact V, va_K.moved hW.alike hK⟩, hS.F ht⟩) hS.2.2 hdg hlocks
theorem mRetV {post : mS → Prop} (C : mC p s m args c cc D cs) (hr : meth.sig.returnType = none) (hlocks : meth.locks = false) (V : mV D cs o ad A S H) (hS : va_S A s.heap H locs) (hp : post S) (hdg : decode cc pc = .ok (.return_, 1)) :
    W p l e R s m args below meth c H locs cells slots (MQ below (va_Qv post (mB D cs o ad A) A) args s cells slots A) (F0 m pc ls []) := by
  obtain ⟨hx, hb, -, -, hK⟩ := C
  exact W.vret hx hb hr (fun t ht hW => ⟨⟨S, rfl, hp, by rw [ht]; exact V, va_K.moved hW.alike hK⟩, hS.F ht⟩) hS.2.2 hdg hlocks
/-- what a call's row asks of the callee, decided by program -/
def mOk (y : MethodName) (k : Nat) : Prop := y.cls = RX13 ∧ y.cls ≠ "java/lang/invoke/MethodHandle" ∧ y.cls ≠ "java/lang/invoke/VarHandle" ∧ (parseMethodDescriptor y.desc).map (fun d => d.parameters.length) = some k
theorem mRunV {ret : Option FieldType} {Qc : Array Value → State → Outcome → State → Prop} (C : mC p s m args c cc D cs) (hml : c.maxLocals = nL) (V : mV D cs o ad A S H)
    (hM : Met l y (Cond.code y cy n ret :: tM) rm (va_Pc (.ref o :: As) (mB D cs o ad A S)) Qc 0 0 A) (hg : GoodIn tM (wsV RX13 idx RX13 y (Cond.code y cy n ret :: tM))) (hk : mOk y As.length)
    (hR : rm.cells = 0 ∧ rm.slots = 0 ∧ rm.frames + 1 ≤ R.frames ∧ 8 + (n + 11) + rm.locals ≤ R.locals) (hsz : ls.size = nL) (hst : st0 = As.reverse ++ .ref o :: rest) (hro : (rest.map fun v => v.category).sum ≤ 8)
    (hdg : decode cc pc = .ok (.invokevirtual idx, 3)) (hc : cells ≤ R.cells ∧ slots ≤ R.slots) :
    va_Run p l e R s m args below meth c H locs cells slots 0 0 (F0 m pc ls st0) rest (Qc (Value.ref o :: As).toArray) A := by
  obtain ⟨hx, hb, hown, hts, hK⟩ := C
  exact va_runV (As := As) (rest := rest) ⟨hx, hb, hml, hown, hts⟩ hM (cwV As.length hts hg rfl hR.1 hR.2.1 hk hR.2.2) ⟨mblind, va_recv hK V.1 (ci := 10) (q0 := 0) rfl rfl, fun U hU hW => ⟨rfl, by rw [hU]; exact V, va_K.moved hW.alike hK⟩⟩ rfl rfl hsz hst (lv_room hro) hdg hc
theorem mRunS {ret : Option FieldType} {Qc : Array Value → State → Outcome → State → Prop} (C : mC p s m args c cc D cs) (hml : c.maxLocals = nL) (V : mV D cs o ad A S H)
    (hM : Met l y (Cond.code y cy n ret :: tM) rm (va_Pc As (mB D cs o ad A S)) Qc 0 0 A) (hg : GoodIn tM (wsS RX13 idx y (Cond.code y cy n ret :: tM))) (hk : mOk y As.length)
    (hR : rm.cells = 0 ∧ rm.slots = 0 ∧ rm.frames + 1 ≤ R.frames ∧ 8 + (n + 11) + rm.locals ≤ R.locals) (hsz : ls.size = nL) (hst : st0 = As.reverse ++ rest) (hro : (rest.map fun v => v.category).sum ≤ 8)
    (hdg : decode cc pc = .ok (.invokestatic idx, 3)) (hc : cells ≤ R.cells ∧ slots ≤ R.slots) :
    va_Run p l e R s m args below meth c H locs cells slots 0 0 (F0 m pc ls st0) rest (Qc As.toArray) A := by
  obtain ⟨hx, hb, hown, hts, hK⟩ := C
  exact va_runS (As := As) (rest := rest) ⟨hx, hb, hml, hown, hts⟩ hM (cwS As.length hts hg rfl hR.1 hR.2.1 hk hR.2.2) ⟨mblind, fun U hU hW => ⟨rfl, by rw [hU]; exact V, va_K.moved hW.alike hK⟩⟩ rfl rfl hsz hst (lv_room hro) hdg hc
theorem mGoV {post : mS → Prop} {a : Array Value} (hr : va_Run p l e R s m args below meth c H locs cells slots 0 0 (F0 m pc ls st0) rest (va_Qv post (mB D cs o ad A) A a) A) (hS : va_S A H0 H locs)
    (kk : ∀ (S1 : mS) (H1 : Heap) (locs1 : List Loc), post S1 → mV D cs o ad A S1 H1 → va_S A H0 H1 locs1 → W p l e R s m args below meth c H1 locs1 cells slots Q (F0 m (pc + 3) ls rest)) : W p l e R s m args below meth c H locs cells slots Q (F0 m pc ls st0) :=
  va_callv hr hS (fun _ _ h => h) (fun _ h => h) (fun u t H1 locs1 ht hvm hw hB hz hk hS1 => kk u H1 locs1 hw (by rw [← ht]; exact hB.1) hS1)
theorem mGoI {post : Int32 → mS → Prop} {a : Array Value} (hr : va_Run p l e R s m args below meth c H locs cells slots 0 0 (F0 m pc ls st0) rest (va_Qi post (mB D cs o ad A) A a) A) (hS : va_S A H0 H locs)
    (kk : ∀ (r : Int32) (S1 : mS) (H1 : Heap) (locs1 : List Loc), post r S1 → mV D cs o ad A S1 H1 → va_S A H0 H1 locs1 → W p l e R s m args below meth c H1 locs1 cells slots Q (F0 m (pc + 3) ls (.int r :: rest))) : W p l e R s m args below meth c H locs cells slots Q (F0 m pc ls st0) :=
  va_calli hr hS (fun _ _ h => h) (fun _ h => h) (fun r u t H1 locs1 ht hvm hw hB hz hk hS1 => kk r u H1 locs1 hw (by rw [← ht]; exact hB.1) hS1)
end MC
end
section
/-! the reference: measures, frames -/
theorem msd {a b : Int32} {N : Nat} (hm : a.toInt.toNat < N + 1) (h0 : 0 ≤ b) (h : b < a) : b.toInt.toNat < N := by
  have h1 := Int32.lt_iff_toInt_lt.mp h
  have h2 : (0 : Int) ≤ b.toInt := Int32.le_iff_toInt_le.mp h0
  omega
section MCp
variable {p : Program} {l : Launch} {e : Env} {R : Room} {s : State} {m : MethodId} {args : Array Value} {below : List Frame} {meth : Method} {c : Code} {H : Heap} {locs : List Loc} {cells slots : Nat} {Q : State → Prop}
variable {cc : ByteArray} {pc : Nat} {ls : Array Slot} {rest st0 : List Value} {D : va_G} {cs : ClassId × ClassId × ClassId} {o : Nat} {ad : Nat → Nat} {A : Nat → Prop} {S : mS} {H0 : Heap}
theorem mGoP {P : Int32 → Prop} {a : Array Value} (hr : va_Run p l e R s m args below meth c H locs cells slots 0 0 (F0 m pc ls st0) rest (va_Qi (fun r9 S9 => S9 = S ∧ P r9) (mB D cs o ad A) A a) A) (hS : va_S A H0 H locs)
    (kk : ∀ (r : Int32) (H1 : Heap) (locs1 : List Loc), P r → mV D cs o ad A S H1 → va_S A H0 H1 locs1 → W p l e R s m args below meth c H1 locs1 cells slots Q (F0 m (pc + 3) ls (.int r :: rest))) : W p l e R s m args below meth c H locs cells slots Q (F0 m pc ls st0) :=
  mGoI hr hS (fun r S1 H1 locs1 hp V hS1 => kk r H1 locs1 hp.2 (hp.1 ▸ V) hS1)
end MCp
-- callees
theorem okM_append : mOk yX13_append 2 := by unfold mOk; decide +kernel
theorem okM_atCell : mOk yX13_atCell 3 := by unfold mOk; decide +kernel
theorem okM_atGate : mOk yX13_atGate 3 := by unfold mOk; decide +kernel
theorem okM_atLock : mOk yX13_atLock 3 := by unfold mOk; decide +kernel
theorem okM_atQueue : mOk yX13_atQueue 3 := by unfold mOk; decide +kernel
theorem okM_atSemaphore : mOk yX13_atSemaphore 3 := by unfold mOk; decide +kernel
theorem okM_byteAt : mOk yX13_byteAt 1 := by unfold mOk; decide +kernel
theorem okM_fails : mOk yX13_fails 2 := by unfold mOk; decide +kernel
theorem okM_firstGoesOn : mOk yX13_firstGoesOn 1 := by unfold mOk; decide +kernel
theorem okM_four : mOk yX13_four 1 := by unfold mOk; decide +kernel
theorem okM_freed : mOk yX13_freed 1 := by unfold mOk; decide +kernel
theorem okM_goesOn : mOk yX13_goesOn 1 := by unfold mOk; decide +kernel
theorem okM_has : mOk yX13_has 2 := by unfold mOk; decide +kernel
theorem okM_in : mOk yX13_in 3 := by unfold mOk; decide +kernel
theorem okM_isThere : mOk yX13_isThere 1 := by unfold mOk; decide +kernel
theorem okM_kindOf : mOk yX13_kindOf 1 := by unfold mOk; decide +kernel
theorem okM_leaves : mOk yX13_leaves 2 := by unfold mOk; decide +kernel
theorem okM_line : mOk yX13_line 0 := by unfold mOk; decide +kernel
theorem okM_next : mOk yX13_next 0 := by unfold mOk; decide +kernel
theorem okM_nextOf : mOk yX13_nextOf 1 := by unfold mOk; decide +kernel
theorem okM_number : mOk yX13_number 2 := by unfold mOk; decide +kernel
theorem okM_objects : mOk yX13_objects 0 := by unfold mOk; decide +kernel
theorem okM_one : mOk yX13_one 1 := by unfold mOk; decide +kernel
theorem okM_opened : mOk yX13_opened 1 := by unfold mOk; decide +kernel
theorem okM_part : mOk yX13_part 2 := by unfold mOk; decide +kernel
theorem okM_passes : mOk yX13_passes 2 := by unfold mOk; decide +kernel
theorem okM_read : mOk yX13_read 0 := by unfold mOk; decide +kernel
theorem okM_ready : mOk yX13_ready 0 := by unfold mOk; decide +kernel
theorem okM_refuse : mOk yX13_refuse 1 := by unfold mOk; decide +kernel
theorem okM_rowOf : mOk yX13_rowOf 1 := by unfold mOk; decide +kernel
theorem okM_signalled : mOk yX13_signalled 2 := by unfold mOk; decide +kernel
theorem okM_waitFor : mOk yX13_waitFor 2 := by unfold mOk; decide +kernel
theorem okM_with : mOk yX13_with 3 := by unfold mOk; decide +kernel
theorem okM_word : mOk yX13_word 0 := by unfold mOk; decide +kernel
theorem okM_wrong : mOk yX13_wrong 0 := by unfold mOk; decide +kernel
end
section
set_option maxHeartbeats 4000000 in
set_option maxRecDepth 100000 in
theorem c_thrown (l : Launch) (D : va_G) (cs : ClassId × ClassId × ClassId) (o : Nat) (ad : Nat → Nat) (A : Nat → Prop) (S : mS)    : Met l yX13_thrown (Cond.code yX13_thrown cX13_thrown 1 (some .int) :: tM) ({ frames := 0, cells := 0, slots := 0, locals := 0 }) (va_Pc [.ref o] (mB D cs o ad A S)) (va_Qi (fun r9 S9 => S9 = S ∧ r9 = gI S 0) (mB D cs o ad A) A) 0 0 A := by
  refine mMet (by decide) rfl (Nat.le_of_ble_eq_true rfl) ?_
  intro p e s m below meth c ls C hml hr hlk V hl
  have hx := C.1
  have hb := C.2.1
  have hown := C.2.2.1
  have hts := C.2.2.2.1
  have hS : va_S A s.heap s.heap [] := va_S.rf
  have hl : lv_has ls 1 [(0, .ref o)] := hl
  refine lv_aload_n hx hb dX13_thrown_0 rfl (lv_at hl 0 rfl) ?_
  refine mG0 C V dX13_thrown_1 ?_
  exact mRetI C hr hlk V hS (⟨rfl, rfl⟩) dX13_thrown_4
set_option maxHeartbeats 4000000 in
set_option maxRecDepth 100000 in
theorem c_refuse (l : Launch) (D : va_G) (cs : ClassId × ClassId × ClassId) (o : Nat) (ad : Nat → Nat) (A : Nat → Prop) (S : mS) (w : Int32)   : Met l yX13_refuse (Cond.code yX13_refuse cX13_refuse 2 (some .int) :: tM) ({ frames := 0, cells := 0, slots := 0, locals := 0 }) (va_Pc [.ref o, .int w] (mB D cs o ad A S)) (va_Qi (fun r9 S9 => r9 = 0 ∧ S9 = sI S 0 w) (mB D cs o ad A) A) 0 0 A := by
  refine mMet (by decide) rfl (Nat.le_of_ble_eq_true rfl) ?_
  intro p e s m below meth c ls C hml hr hlk V hl
  have hx := C.1
  have hb := C.2.1
  have hown := C.2.2.1
  have hts := C.2.2.2.1
  have hS : va_S A s.heap s.heap [] := va_S.rf
  have hl : lv_has ls 2 [(0, .ref o), (1, .int w)] := hl
  refine lv_aload_n hx hb dX13_refuse_0 rfl (lv_at hl 0 rfl) ?_
  refine lv_iload_n hx hb dX13_refuse_1 rfl (lv_at hl 1 rfl) ?_
  refine mP0 C V hS dX13_refuse_2 (fun S1 H locs eS1 V hS => ?_)
  refine lv_iconst (v := 0) hx hb dX13_refuse_5 (by decide) ?_
  exact mRetI C hr hlk V hS (⟨rfl, by assumption⟩) dX13_refuse_6
set_option maxHeartbeats 4000000 in
set_option maxRecDepth 100000 in
theorem c_in (l : Launch) (D : va_G) (cs : ClassId × ClassId × ClassId) (o : Nat) (ad : Nat → Nat) (A : Nat → Prop) (S : mS) (v : Int32) (lo : Int32) (hi : Int32)   : Met l yX13_in (Cond.code yX13_in cX13_in 3 (some .boolean) :: tM) ({ frames := 0, cells := 0, slots := 0, locals := 0 }) (va_Pc [.int v, .int lo, .int hi] (mB D cs o ad A S)) (va_Qi (fun r9 S9 => S9 = S ∧ ((r9 = 1 ∧ lo ≤ v ∧ v ≤ hi) ∨ (r9 = 0 ∧ ¬ (lo ≤ v ∧ v ≤ hi)))) (mB D cs o ad A) A) 0 0 A := by
  refine mMet (by decide) rfl (Nat.le_of_ble_eq_true rfl) ?_
  intro p e s m below meth c ls C hml hr hlk V hl
  have hx := C.1
  have hb := C.2.1
  have hown := C.2.2.1
  have hts := C.2.2.2.1
  have hS : va_S A s.heap s.heap [] := va_S.rf
  have hl : lv_has ls 3 [(0, .int v), (1, .int lo), (2, .int hi)] := hl
  refine lv_iload_n hx hb dX13_in_0 rfl (lv_at hl 0 rfl) ?_
  refine lv_iload_n hx hb dX13_in_1 rfl (lv_at hl 1 rfl) ?_
  refine lv_icmp_lt (tgt := 14) hx hb dX13_in_2 (by decide) (fun c1 => ?_) (fun c1 => ?_)
  · refine lv_iconst (v := 0) hx hb dX13_in_14 (by decide) ?_
    exact mRetZ C hr hlk V hS (by first | rfl | decide | (subst_vars; rfl)) (⟨rfl, by grind⟩) dX13_in_15
  · refine lv_iload_n hx hb dX13_in_5 rfl (lv_at hl 0 rfl) ?_
    refine lv_iload_n hx hb dX13_in_6 rfl (lv_at hl 2 rfl) ?_
    refine lv_icmp_gt (tgt := 14) hx hb dX13_in_7 (by decide) (fun c2 => ?_) (fun c2 => ?_)
    · refine lv_iconst (v := 0) hx hb dX13_in_14 (by decide) ?_
      exact mRetZ C hr hlk V hS (by first | rfl | decide | (subst_vars; rfl)) (⟨rfl, by grind⟩) dX13_in_15
    · refine lv_iconst (v := 1) hx hb dX13_in_10 (by decide) ?_
      refine lv_goto (tgt := 15) hx hb dX13_in_11 (by decide) ?_
      exact mRetZ C hr hlk V hS (by first | rfl | decide | (subst_vars; rfl)) (⟨rfl, by grind⟩) dX13_in_15
set_option maxHeartbeats 4000000 in
set_option maxRecDepth 100000 in
theorem c_four (l : Launch) (D : va_G) (cs : ClassId × ClassId × ClassId) (o : Nat) (ad : Nat → Nat) (A : Nat → Prop) (S : mS) (v : Int32)  (h1 : 0 ≤ gI S 2 ∧ gI S 2 ≤ 1596) : Met l yX13_four (Cond.code yX13_four cX13_four 3 none :: tM) ({ frames := 0, cells := 0, slots := 0, locals := 0 }) (va_Pc [.ref o, .int v] (mB D cs o ad A S)) (va_Qv (fun S9 => gI S9 2 = gI S 2 + 4 ∧ (∀ k, k ≠ 2 → gI S9 k = gI S k) ∧ (∀ k, gJ S9 k = gJ S k) ∧ (∀ k i, k ≠ 1 → gA S9 k i = gA S k i) ∧ (∀ k i, gL S9 k i = gL S k i)) (mB D cs o ad A) A) 0 0 A := by
  refine mMet (by decide) rfl (Nat.le_of_ble_eq_true rfl) ?_
  intro p e s m below meth c ls C hml hr hlk V hl
  have hx := C.1
  have hb := C.2.1
  have hown := C.2.2.1
  have hts := C.2.2.2.1
  have hS : va_S A s.heap s.heap [] := va_S.rf
  have hl : lv_has ls 3 [(0, .ref o), (1, .int v)] := hl
  refine lv_bipush (v := 24) hx hb dX13_four_0 (by decide) ?_
  refine lv_topi (fun x1 ex1 => ?_)
  refine lv_istore_n (lv' := [(2, .int x1), (0, .ref o), (1, .int v)]) hx hb dX13_four_2 rfl hl (by decide) rfl (fun ls hl => ?_)
  have loop3 : ∀ (N3 : Nat) (v3_2 : Int32) (SL3 : mS) (H : Heap) (locs : List Loc) (ls : Array Slot), (((v3_2 = 24 ∧ gI SL3 2 = gI S 2) ∨ (v3_2 = 16 ∧ gI SL3 2 = gI S 2 + 1) ∨ (v3_2 = 8 ∧ gI SL3 2 = gI S 2 + 2) ∨ (v3_2 = 0 ∧ gI SL3 2 = gI S 2 + 3) ∨ (v3_2 = -8 ∧ gI SL3 2 = gI S 2 + 4)) ∧ (∀ k, k ≠ 2 → gI SL3 k = gI S k) ∧ (∀ k, gJ SL3 k = gJ S k) ∧ (∀ k i, k ≠ 1 → gA SL3 k i = gA S k i) ∧ (∀ k i, gL SL3 k i = gL S k i)) → ((v3_2 + 8).toInt.toNat) < N3 → mV D cs o ad A SL3 H → va_S A s.heap H locs → lv_has ls 3 [(0, .ref o), (1, .int v), (2, .int v3_2)] → W p l e ({ frames := 0, cells := 0, slots := 0, locals := 0 } : Room) s m ([.ref o, .int v] : List Value).toArray below meth c H locs 0 0 (MQ below (va_Qv (fun S9 => gI S9 2 = gI S 2 + 4 ∧ (∀ k, k ≠ 2 → gI S9 k = gI S k) ∧ (∀ k, gJ S9 k = gJ S k) ∧ (∀ k i, k ≠ 1 → gA S9 k i = gA S k i) ∧ (∀ k i, gL S9 k i = gL S k i)) (mB D cs o ad A) A) ([.ref o, .int v] : List Value).toArray s 0 0 A) (F0 m 3 ls []) := by
    intro N3
    induction N3 with
    | zero => intro v3_2 SL3 H locs ls hi3 hm3; exact absurd hm3 (Nat.not_lt_zero _)
    | succ N3 ih3 =>
      intro v3_2 SL3 H locs ls hi3 hm3 V hS hl
      obtain ⟨hi3, hf1, hf2, hf3, hf4⟩ := hi3
      refine lv_iload_n hx hb dX13_four_3 rfl (lv_at hl 2 rfl) ?_
      refine lv_if_lt (tgt := 39) hx hb dX13_four_4 (by decide) (fun c2 => ?_) (fun c2 => ?_)
      · exact mRetV C hr hlk V hS (by grind) dX13_four_39
      · refine lv_aload_n hx hb dX13_four_7 rfl (lv_at hl 0 rfl) ?_
        refine mG1 C V dX13_four_8 ?_
        refine lv_aload_n hx hb dX13_four_11 rfl (lv_at hl 0 rfl) ?_
        refine mG2 C V dX13_four_12 ?_
        refine lv_iload_n hx hb dX13_four_15 rfl (lv_at hl 1 rfl) ?_
        refine lv_iload_n hx hb dX13_four_16 rfl (lv_at hl 2 rfl) ?_
        refine lv_ishr hx hb dX13_four_17 ?_
        refine lv_topi (fun x3 ex3 => ?_)
        refine lv_sipush (v := 255) hx hb dX13_four_18 (by decide) ?_
        refine lv_iand hx hb dX13_four_21 ?_
        refine mSt1 C V hS (vin (N := 1600) rfl (by grind) (by grind)) dX13_four_22 (fun S4 H locs eS4 V hS => ?_)
        refine lv_aload_n hx hb dX13_four_23 rfl (lv_at hl 0 rfl) ?_
        refine lv_dup hx hb dX13_four_24 rfl ?_
        refine mG2 C V dX13_four_25 ?_
        refine lv_iconst (v := 1) hx hb dX13_four_28 (by decide) ?_
        refine lv_iadd hx hb dX13_four_29 ?_
        refine mP2 C V hS dX13_four_30 (fun S5 H locs eS5 V hS => ?_)
        obtain ⟨x6, ex6⟩ : ∃ y : Int32, y = v3_2 + (-8) := ⟨_, rfl⟩
        refine lv_iinc (v := x6) (lv' := [(2, .int x6), (0, .ref o), (1, .int v)]) hx hb dX13_four_33 hl (k := 2) rfl (by rw [ex6]; rfl) (by decide) rfl (fun ls hl => ?_)
        refine lv_goto (tgt := 3) hx hb dX13_four_36 (by decide) ?_
        exact ih3 x6 S5 _ _ _ (by subst_vars; grind [gI_sI, gI_sJ, gI_sA, gI_sL, gJ_sI, gJ_sJ, gJ_sA, gJ_sL, gA_sI, gA_sJ, gA_sA, gA_sL, gL_sI, gL_sJ, gL_sA, gL_sL]) (msd hm3 (by grind) (by grind)) V hS (lv_sub hl [1, 2, 0] rfl)
  exact loop3 _ x1 S _ _ _ (by subst_vars; grind) (Nat.lt_succ_self _) V hS (lv_sub hl [1, 2, 0] rfl)
set_option maxHeartbeats 4000000 in
set_option maxRecDepth 100000 in
theorem c_byteAt (l : Launch) (D : va_G) (cs : ClassId × ClassId × ClassId) (o : Nat) (ad : Nat → Nat) (A : Nat → Prop) (S : mS) (q : Int32)  (h1 : 0 ≤ q ∧ gI S 7 ≤ 1600) : Met l yX13_byteAt (Cond.code yX13_byteAt cX13_byteAt 2 (some .int) :: tM) ({ frames := 0, cells := 0, slots := 0, locals := 0 }) (va_Pc [.ref o, .int q] (mB D cs o ad A S)) (va_Qi (fun r9 S9 => S9 = S ∧ (q < gI S 7 → r9 = gA S 1 q) ∧ (gI S 7 ≤ q → r9 = -1)) (mB D cs o ad A) A) 0 0 A := by
  refine mMet (by decide) rfl (Nat.le_of_ble_eq_true rfl) ?_
  intro p e s m below meth c ls C hml hr hlk V hl
  have hx := C.1
  have hb := C.2.1
  have hown := C.2.2.1
  have hts := C.2.2.2.1
  have hS : va_S A s.heap s.heap [] := va_S.rf
  have hl : lv_has ls 2 [(0, .ref o), (1, .int q)] := hl
  refine lv_iload_n hx hb dX13_byteAt_0 rfl (lv_at hl 1 rfl) ?_
  refine lv_aload_n hx hb dX13_byteAt_1 rfl (lv_at hl 0 rfl) ?_
  refine mG7 C V dX13_byteAt_2 ?_
  refine lv_icmp_ge (tgt := 17) hx hb dX13_byteAt_5 (by decide) (fun c1 => ?_) (fun c1 => ?_)
  · refine lv_iconst (v := (-1)) hx hb dX13_byteAt_17 (by decide) ?_
    exact mRetI C hr hlk V hS (⟨rfl, by grind⟩) dX13_byteAt_18
  · refine lv_aload_n hx hb dX13_byteAt_8 rfl (lv_at hl 0 rfl) ?_
    refine mG1 C V dX13_byteAt_9 ?_
    refine lv_iload_n hx hb dX13_byteAt_12 rfl (lv_at hl 1 rfl) ?_
    refine mLd1 C V (vin (N := 1600) rfl (by grind) (by grind)) dX13_byteAt_13 ?_
    refine lv_goto (tgt := 18) hx hb dX13_byteAt_14 (by decide) ?_
    exact mRetI C hr hlk V hS (⟨rfl, by grind⟩) dX13_byteAt_18
set_option maxHeartbeats 4000000 in
set_option maxRecDepth 100000 in
theorem c_part (l : Launch) (D : va_G) (cs : ClassId × ClassId × ClassId) (o : Nat) (ad : Nat → Nat) (A : Nat → Prop) (S : mS) (t : Int32) (q : Int32)  (h1 : 0 ≤ t ∧ t < 8) (h2 : 0 ≤ gA S 15 t ∧ gA S 15 t < 60) (h3 : 0 ≤ q ∧ q < 4) : Met l yX13_part (Cond.code yX13_part cX13_part 3 (some .int) :: tM) ({ frames := 0, cells := 0, slots := 0, locals := 0 }) (va_Pc [.ref o, .int t, .int q] (mB D cs o ad A S)) (va_Qi (fun r9 S9 => S9 = S ∧ r9 = gA S 11 (240 * t + 4 * gA S 15 t + q)) (mB D cs o ad A) A) 0 0 A := by
  refine mMet (by decide) rfl (Nat.le_of_ble_eq_true rfl) ?_
  intro p e s m below meth c ls C hml hr hlk V hl
  have hx := C.1
  have hb := C.2.1
  have hown := C.2.2.1
  have hts := C.2.2.2.1
  have hS : va_S A s.heap s.heap [] := va_S.rf
  have hl : lv_has ls 3 [(0, .ref o), (1, .int t), (2, .int q)] := hl
  refine lv_aload_n hx hb dX13_part_0 rfl (lv_at hl 0 rfl) ?_
  refine mG11 C V dX13_part_1 ?_
  refine lv_sipush (v := 240) hx hb dX13_part_4 (by decide) ?_
  refine lv_iload_n hx hb dX13_part_7 rfl (lv_at hl 1 rfl) ?_
  refine lv_imul hx hb dX13_part_8 ?_
  refine lv_iconst (v := 4) hx hb dX13_part_9 (by decide) ?_
  refine lv_aload_n hx hb dX13_part_10 rfl (lv_at hl 0 rfl) ?_
  refine mG15 C V dX13_part_11 ?_
  refine lv_iload_n hx hb dX13_part_14 rfl (lv_at hl 1 rfl) ?_
  refine mLd15 C V (vin (N := 8) rfl (by grind) (by grind)) dX13_part_15 ?_
  refine lv_imul hx hb dX13_part_16 ?_
  refine lv_iadd hx hb dX13_part_17 ?_
  refine lv_iload_n hx hb dX13_part_18 rfl (lv_at hl 2 rfl) ?_
  refine lv_iadd hx hb dX13_part_19 ?_
  refine mLd11 C V (vin (N := 1920) rfl (by grind) (by grind)) dX13_part_20 ?_
  exact mRetI C hr hlk V hS (⟨rfl, rfl⟩) dX13_part_21
set_option maxHeartbeats 4000000 in
set_option maxRecDepth 100000 in
theorem c_waitFor (l : Launch) (D : va_G) (cs : ClassId × ClassId × ClassId) (o : Nat) (ad : Nat → Nat) (A : Nat → Prop) (S : mS) (t : Int32) (b : Int32)  (h1 : 0 ≤ t ∧ t < 8) (h2 : 0 ≤ b ∧ b < 24) (h3 : 0 ≤ gA S 33 b ∧ gA S 33 b < 8) : Met l yX13_waitFor (Cond.code yX13_waitFor cX13_waitFor 3 none :: tM) ({ frames := 0, cells := 0, slots := 0, locals := 0 }) (va_Pc [.ref o, .int t, .int b] (mB D cs o ad A S)) (va_Qv (fun S9 => S9 = sA (sA (sA (sA S 13 t 2) 16 t b) 32 (8 * b + gA S 33 b) t) 33 b (gA S 33 b + 1)) (mB D cs o ad A) A) 0 0 A := by
  refine mMet (by decide) rfl (Nat.le_of_ble_eq_true rfl) ?_
  intro p e s m below meth c ls C hml hr hlk V hl
  have hx := C.1
  have hb := C.2.1
  have hown := C.2.2.1
  have hts := C.2.2.2.1
  have hS : va_S A s.heap s.heap [] := va_S.rf
  have hl : lv_has ls 3 [(0, .ref o), (1, .int t), (2, .int b)] := hl
  refine lv_aload_n hx hb dX13_waitFor_0 rfl (lv_at hl 0 rfl) ?_
  refine mG13 C V dX13_waitFor_1 ?_
  refine lv_iload_n hx hb dX13_waitFor_4 rfl (lv_at hl 1 rfl) ?_
  refine lv_iconst (v := 2) hx hb dX13_waitFor_5 (by decide) ?_
  refine mSt13 C V hS (vin (N := 8) rfl (by subst_vars; grind [gI_sI, gI_sJ, gI_sA, gI_sL, gJ_sI, gJ_sJ, gJ_sA, gJ_sL, gA_sI, gA_sJ, gA_sA, gA_sL, gL_sI, gL_sJ, gL_sA, gL_sL]) (by subst_vars; grind [gI_sI, gI_sJ, gI_sA, gI_sL, gJ_sI, gJ_sJ, gJ_sA, gJ_sL, gA_sI, gA_sJ, gA_sA, gA_sL, gL_sI, gL_sJ, gL_sA, gL_sL])) dX13_waitFor_6 (fun S1 H locs eS1 V hS => ?_)
  refine lv_aload_n hx hb dX13_waitFor_7 rfl (lv_at hl 0 rfl) ?_
  refine mG16 C V dX13_waitFor_8 ?_
  refine lv_iload_n hx hb dX13_waitFor_11 rfl (lv_at hl 1 rfl) ?_
  refine lv_iload_n hx hb dX13_waitFor_12 rfl (lv_at hl 2 rfl) ?_
  refine mSt16 C V hS (vin (N := 8) rfl (by subst_vars; grind [gI_sI, gI_sJ, gI_sA, gI_sL, gJ_sI, gJ_sJ, gJ_sA, gJ_sL, gA_sI, gA_sJ, gA_sA, gA_sL, gL_sI, gL_sJ, gL_sA, gL_sL]) (by subst_vars; grind [gI_sI, gI_sJ, gI_sA, gI_sL, gJ_sI, gJ_sJ, gJ_sA, gJ_sL, gA_sI, gA_sJ, gA_sA, gA_sL, gL_sI, gL_sJ, gL_sA, gL_sL])) dX13_waitFor_13 (fun S2 H locs eS2 V hS => ?_)
  refine lv_aload_n hx hb dX13_waitFor_14 rfl (lv_at hl 0 rfl) ?_
  refine mG32 C V dX13_waitFor_15 ?_
  refine lv_bipush (v := 8) hx hb dX13_waitFor_18 (by decide) ?_
  refine lv_iload_n hx hb dX13_waitFor_20 rfl (lv_at hl 2 rfl) ?_
  refine lv_imul hx hb dX13_waitFor_21 ?_
  refine lv_aload_n hx hb dX13_waitFor_22 rfl (lv_at hl 0 rfl) ?_
  refine mG33 C V dX13_waitFor_23 ?_
  refine lv_iload_n hx hb dX13_waitFor_26 rfl (lv_at hl 2 rfl) ?_
  refine mLd33 C V (vin (N := 24) rfl (by subst_vars; grind [gI_sI, gI_sJ, gI_sA, gI_sL, gJ_sI, gJ_sJ, gJ_sA, gJ_sL, gA_sI, gA_sJ, gA_sA, gA_sL, gL_sI, gL_sJ, gL_sA, gL_sL]) (by subst_vars; grind [gI_sI, gI_sJ, gI_sA, gI_sL, gJ_sI, gJ_sJ, gJ_sA, gJ_sL, gA_sI, gA_sJ, gA_sA, gA_sL, gL_sI, gL_sJ, gL_sA, gL_sL])) dX13_waitFor_27 ?_
  refine lv_iadd hx hb dX13_waitFor_28 ?_
  refine lv_iload_n hx hb dX13_waitFor_29 rfl (lv_at hl 1 rfl) ?_
  refine mSt32 C V hS (vin (N := 192) rfl (by subst_vars; grind [gI_sI, gI_sJ, gI_sA, gI_sL, gJ_sI, gJ_sJ, gJ_sA, gJ_sL, gA_sI, gA_sJ, gA_sA, gA_sL, gL_sI, gL_sJ, gL_sA, gL_sL]) (by subst_vars; grind [gI_sI, gI_sJ, gI_sA, gI_sL, gJ_sI, gJ_sJ, gJ_sA, gJ_sL, gA_sI, gA_sJ, gA_sA, gA_sL, gL_sI, gL_sJ, gL_sA, gL_sL])) dX13_waitFor_30 (fun S3 H locs eS3 V hS => ?_)
  refine lv_aload_n hx hb dX13_waitFor_31 rfl (lv_at hl 0 rfl) ?_
  refine mG33 C V dX13_waitFor_32 ?_
  refine lv_iload_n hx hb dX13_waitFor_35 rfl (lv_at hl 2 rfl) ?_
  refine lv_dup2_11 hx hb dX13_waitFor_36 rfl rfl ?_
  refine mLd33 C V (vin (N := 24) rfl (by subst_vars; grind [gI_sI, gI_sJ, gI_sA, gI_sL, gJ_sI, gJ_sJ, gJ_sA, gJ_sL, gA_sI, gA_sJ, gA_sA, gA_sL, gL_sI, gL_sJ, gL_sA, gL_sL]) (by subst_vars; grind [gI_sI, gI_sJ, gI_sA, gI_sL, gJ_sI, gJ_sJ, gJ_sA, gJ_sL, gA_sI, gA_sJ, gA_sA, gA_sL, gL_sI, gL_sJ, gL_sA, gL_sL])) dX13_waitFor_37 ?_
  refine lv_iconst (v := 1) hx hb dX13_waitFor_38 (by decide) ?_
  refine lv_iadd hx hb dX13_waitFor_39 ?_
  refine mSt33 C V hS (vin (N := 24) rfl (by subst_vars; grind [gI_sI, gI_sJ, gI_sA, gI_sL, gJ_sI, gJ_sJ, gJ_sA, gJ_sL, gA_sI, gA_sJ, gA_sA, gA_sL, gL_sI, gL_sJ, gL_sA, gL_sL]) (by subst_vars; grind [gI_sI, gI_sJ, gI_sA, gI_sL, gJ_sI, gJ_sJ, gJ_sA, gJ_sL, gA_sI, gA_sJ, gA_sA, gA_sL, gL_sI, gL_sJ, gL_sA, gL_sL])) dX13_waitFor_40 (fun S4 H locs eS4 V hS => ?_)
  exact mRetV C hr hlk V hS (by subst_vars; simp [gA_sA]) dX13_waitFor_41
set_option maxHeartbeats 4000000 in
set_option maxRecDepth 100000 in
theorem c_goesOn (l : Launch) (D : va_G) (cs : ClassId × ClassId × ClassId) (o : Nat) (ad : Nat → Nat) (A : Nat → Prop) (S : mS) (t : Int32)  (h1 : 0 ≤ t ∧ t < 8) : Met l yX13_goesOn (Cond.code yX13_goesOn cX13_goesOn 2 none :: tM) ({ frames := 0, cells := 0, slots := 0, locals := 0 }) (va_Pc [.ref o, .int t] (mB D cs o ad A S)) (va_Qv (fun S9 => S9 = sA (sA (sA S 16 t (-1)) 15 t (gA S 15 t + 1)) 13 t (if gA S 12 t ≤ gA S 15 t + 1 then 4 else 1)) (mB D cs o ad A) A) 0 0 A := by
  refine mMet (by decide) rfl (Nat.le_of_ble_eq_true rfl) ?_
  intro p e s m below meth c ls C hml hr hlk V hl
  have hx := C.1
  have hb := C.2.1
  have hown := C.2.2.1
  have hts := C.2.2.2.1
  have hS : va_S A s.heap s.heap [] := va_S.rf
  have hl : lv_has ls 2 [(0, .ref o), (1, .int t)] := hl
  refine lv_aload_n hx hb dX13_goesOn_0 rfl (lv_at hl 0 rfl) ?_
  refine mG16 C V dX13_goesOn_1 ?_
  refine lv_iload_n hx hb dX13_goesOn_4 rfl (lv_at hl 1 rfl) ?_
  refine lv_iconst (v := (-1)) hx hb dX13_goesOn_5 (by decide) ?_
  refine mSt16 C V hS (vin (N := 8) rfl (by grind) (by grind)) dX13_goesOn_6 (fun S1 H locs eS1 V hS => ?_)
  refine lv_aload_n hx hb dX13_goesOn_7 rfl (lv_at hl 0 rfl) ?_
  refine mG15 C V dX13_goesOn_8 ?_
  refine lv_iload_n hx hb dX13_goesOn_11 rfl (lv_at hl 1 rfl) ?_
  refine lv_dup2_11 hx hb dX13_goesOn_12 rfl rfl ?_
  refine mLd15 C V (vin (N := 8) rfl (by grind) (by grind)) dX13_goesOn_13 ?_
  refine lv_iconst (v := 1) hx hb dX13_goesOn_14 (by decide) ?_
  refine lv_iadd hx hb dX13_goesOn_15 ?_
  refine mSt15 C V hS (vin (N := 8) rfl (by grind) (by grind)) dX13_goesOn_16 (fun S2 H locs eS2 V hS => ?_)
  refine lv_aload_n hx hb dX13_goesOn_17 rfl (lv_at hl 0 rfl) ?_
  refine mG13 C V dX13_goesOn_18 ?_
  refine lv_iload_n hx hb dX13_goesOn_21 rfl (lv_at hl 1 rfl) ?_
  refine lv_aload_n hx hb dX13_goesOn_22 rfl (lv_at hl 0 rfl) ?_
  refine mG15 C V dX13_goesOn_23 ?_
  refine lv_iload_n hx hb dX13_goesOn_26 rfl (lv_at hl 1 rfl) ?_
  refine mLd15 C V (vin (N := 8) rfl (by grind) (by grind)) dX13_goesOn_27 ?_
  refine lv_aload_n hx hb dX13_goesOn_28 rfl (lv_at hl 0 rfl) ?_
  refine mG12 C V dX13_goesOn_29 ?_
  refine lv_iload_n hx hb dX13_goesOn_32 rfl (lv_at hl 1 rfl) ?_
  refine mLd12 C V (vin (N := 8) rfl (by grind) (by grind)) dX13_goesOn_33 ?_
  refine lv_icmp_lt (tgt := 41) hx hb dX13_goesOn_34 (by decide) (fun c3 => ?_) (fun c3 => ?_)
  · refine lv_iconst (v := 1) hx hb dX13_goesOn_41 (by decide) ?_
    refine mSt13 C V hS (vin (N := 8) rfl (by grind) (by grind)) dX13_goesOn_42 (fun S4 H locs eS4 V hS => ?_)
    exact mRetV C hr hlk V hS (by subst_vars; simp only [gA_sA] at *; simp at *; grind) dX13_goesOn_43
  · refine lv_iconst (v := 4) hx hb dX13_goesOn_37 (by decide) ?_
    refine lv_goto (tgt := 42) hx hb dX13_goesOn_38 (by decide) ?_
    refine mSt13 C V hS (vin (N := 8) rfl (by grind) (by grind)) dX13_goesOn_42 (fun S5 H locs eS5 V hS => ?_)
    exact mRetV C hr hlk V hS (by subst_vars; simp only [gA_sA] at *; simp at *; grind) dX13_goesOn_43
set_option maxHeartbeats 4000000 in
set_option maxRecDepth 100000 in
theorem c_fails (l : Launch) (D : va_G) (cs : ClassId × ClassId × ClassId) (o : Nat) (ad : Nat → Nat) (A : Nat → Prop) (S : mS) (t : Int32) (w : Int32)  (h1 : 0 ≤ t ∧ t < 8) : Met l yX13_fails (Cond.code yX13_fails cX13_fails 3 (some .boolean) :: tM) ({ frames := 0, cells := 0, slots := 0, locals := 0 }) (va_Pc [.ref o, .int t, .int w] (mB D cs o ad A S)) (va_Qi (fun r9 S9 => r9 = 0 ∧ S9 = sA (sA S 13 t 5) 17 t w) (mB D cs o ad A) A) 0 0 A := by
  refine mMet (by decide) rfl (Nat.le_of_ble_eq_true rfl) ?_
  intro p e s m below meth c ls C hml hr hlk V hl
  have hx := C.1
  have hb := C.2.1
  have hown := C.2.2.1
  have hts := C.2.2.2.1
  have hS : va_S A s.heap s.heap [] := va_S.rf
  have hl : lv_has ls 3 [(0, .ref o), (1, .int t), (2, .int w)] := hl
  refine lv_aload_n hx hb dX13_fails_0 rfl (lv_at hl 0 rfl) ?_
  refine mG13 C V dX13_fails_1 ?_
  refine lv_iload_n hx hb dX13_fails_4 rfl (lv_at hl 1 rfl) ?_
  refine lv_iconst (v := 5) hx hb dX13_fails_5 (by decide) ?_
  refine mSt13 C V hS (vin (N := 8) rfl (by grind) (by grind)) dX13_fails_6 (fun S1 H locs eS1 V hS => ?_)
  refine lv_aload_n hx hb dX13_fails_7 rfl (lv_at hl 0 rfl) ?_
  refine mG17 C V dX13_fails_8 ?_
  refine lv_iload_n hx hb dX13_fails_11 rfl (lv_at hl 1 rfl) ?_
  refine lv_iload_n hx hb dX13_fails_12 rfl (lv_at hl 2 rfl) ?_
  refine mSt17 C V hS (vin (N := 8) rfl (by grind) (by grind)) dX13_fails_13 (fun S2 H locs eS2 V hS => ?_)
  refine lv_iconst (v := 0) hx hb dX13_fails_14 (by decide) ?_
  exact mRetZ C hr hlk V hS (by first | rfl | decide | (subst_vars; rfl)) (⟨rfl, by subst_vars; rfl⟩) dX13_fails_15
end
section
set_option maxHeartbeats 400000 in
set_option maxRecDepth 100000 in
theorem c_wrong (l : Launch) (D : va_G) (cs : ClassId × ClassId × ClassId) (o : Nat) (ad : Nat → Nat) (A : Nat → Prop) (S : mS)    : Met l yX13_wrong (Cond.code yX13_wrong cX13_wrong 1 (some .int) :: tM) ({ frames := 0, cells := 0, slots := 0, locals := 0 }) (va_Pc [.ref o] (mB D cs o ad A S)) (va_Qi (fun r9 S9 => r9 = 0 ∧ ((gI S 10 < 0 ∧ S9 = sI S 10 (gI S 8)) ∨ (¬ gI S 10 < 0 ∧ S9 = S))) (mB D cs o ad A) A) 0 0 A := by
  refine mMet (by decide) rfl (Nat.le_of_ble_eq_true rfl) ?_
  intro p e s m below meth c ls C hml hr hlk V hl
  have hx := C.1
  have hb := C.2.1
  have hown := C.2.2.1
  have hts := C.2.2.2.1
  have hS : va_S A s.heap s.heap [] := va_S.rf
  have hl : lv_has ls 1 [(0, .ref o)] := hl
  refine lv_aload_n hx hb dX13_wrong_0 rfl (lv_at hl 0 rfl) ?_
  refine mG10 C V dX13_wrong_1 ?_
  refine lv_if_ge (tgt := 15) hx hb dX13_wrong_4 (by decide) (fun c1 => ?_) (fun c1 => ?_)
  · refine lv_iconst (v := 0) hx hb dX13_wrong_15 (by decide) ?_
    exact mRetI C hr hlk V hS (by clear V hS hl C hts hown hx hb hml hr hlk; subst_vars; grind) dX13_wrong_16
  · refine lv_aload_n hx hb dX13_wrong_7 rfl (lv_at hl 0 rfl) ?_
    refine lv_aload_n hx hb dX13_wrong_8 rfl (lv_at hl 0 rfl) ?_
    refine mG8 C V dX13_wrong_9 ?_
    refine mP10 C V hS dX13_wrong_12 (fun S2 H locs eS2 V hS => ?_)
    refine lv_iconst (v := 0) hx hb dX13_wrong_15 (by decide) ?_
    exact mRetI C hr hlk V hS (by clear V hS hl C hts hown hx hb hml hr hlk; subst_vars; grind) dX13_wrong_16
set_option maxHeartbeats 400000 in
set_option maxRecDepth 100000 in
theorem c_isThere (l : Launch) (D : va_G) (cs : ClassId × ClassId × ClassId) (o : Nat) (ad : Nat → Nat) (A : Nat → Prop) (S : mS) (b : Int32)   : Met l yX13_isThere (Cond.code yX13_isThere cX13_isThere 2 (some .boolean) :: tM) ({ frames := 1, cells := 0, slots := 0, locals := 22 }) (va_Pc [.ref o, .int b] (mB D cs o ad A S)) (va_Qi (fun r9 S9 => S9 = S ∧ ((r9 = 1 ∧ 0 ≤ b ∧ b < 24 ∧ gA S 28 b ≠ 0) ∨ (r9 = 0 ∧ ¬ (0 ≤ b ∧ b < 24 ∧ gA S 28 b ≠ 0)))) (mB D cs o ad A) A) 0 0 A := by
  refine mMet (by decide) rfl (Nat.le_of_ble_eq_true rfl) ?_
  intro p e s m below meth c ls C hml hr hlk V hl
  have hx := C.1
  have hb := C.2.1
  have hown := C.2.2.1
  have hts := C.2.2.2.1
  have hS : va_S A s.heap s.heap [] := va_S.rf
  have hl : lv_has ls 2 [(0, .ref o), (1, .int b)] := hl
  refine lv_iload_n hx hb dX13_isThere_0 rfl (lv_at hl 1 rfl) ?_
  refine lv_iconst (v := 0) hx hb dX13_isThere_1 (by decide) ?_
  refine lv_bipush (v := 23) hx hb dX13_isThere_2 (by decide) ?_
  refine mGoP (mRunS (As := [.int b, .int 0, .int 23]) (rest := []) C hml V (c_in l D cs o ad A S b 0 23  ) gM_in okM_in ⟨rfl, rfl, Nat.le_of_ble_eq_true rfl, Nat.le_of_ble_eq_true rfl⟩ hl.1 rfl (Nat.le_of_ble_eq_true rfl) dX13_isThere_4 ⟨Nat.zero_le _, Nat.zero_le _⟩) hS (fun r2 H locs hq3 V hS => ?_)
  refine lv_if_eq (tgt := 23) hx hb dX13_isThere_7 (by decide) (fun c4 => ?_) (fun c4 => ?_)
  · refine lv_iconst (v := 0) hx hb dX13_isThere_23 (by decide) ?_
    exact mRetZ C hr hlk V hS (by clear V hS hl C hts hown hx hb hml hr hlk; first | rfl | decide | (subst_vars; rfl)) (⟨rfl, by grind⟩) dX13_isThere_24
  · refine lv_aload_n hx hb dX13_isThere_10 rfl (lv_at hl 0 rfl) ?_
    refine mG28 C V dX13_isThere_11 ?_
    refine lv_iload_n hx hb dX13_isThere_14 rfl (lv_at hl 1 rfl) ?_
    refine mLd28 C V (vin (N := 24) rfl (by clear V hS hl C hts hown hx hb hml hr hlk; grind) (by clear V hS hl C hts hown hx hb hml hr hlk; grind)) dX13_isThere_15 ?_
    refine lv_if_eq (tgt := 23) hx hb dX13_isThere_16 (by decide) (fun c5 => ?_) (fun c5 => ?_)
    · refine lv_iconst (v := 0) hx hb dX13_isThere_23 (by decide) ?_
      exact mRetZ C hr hlk V hS (by clear V hS hl C hts hown hx hb hml hr hlk; first | rfl | decide | (subst_vars; rfl)) (⟨rfl, by grind⟩) dX13_isThere_24
    · refine lv_iconst (v := 1) hx hb dX13_isThere_19 (by decide) ?_
      refine lv_goto (tgt := 24) hx hb dX13_isThere_20 (by decide) ?_
      exact mRetZ C hr hlk V hS (by clear V hS hl C hts hown hx hb hml hr hlk; first | rfl | decide | (subst_vars; rfl)) (⟨rfl, by grind⟩) dX13_isThere_24
set_option maxHeartbeats 400000 in
set_option maxRecDepth 100000 in
theorem c_objects (l : Launch) (D : va_G) (cs : ClassId × ClassId × ClassId) (o : Nat) (ad : Nat → Nat) (A : Nat → Prop) (S : mS)    : Met l yX13_objects (Cond.code yX13_objects cX13_objects 3 (some .int) :: tM) ({ frames := 0, cells := 0, slots := 0, locals := 0 }) (va_Pc [.ref o] (mB D cs o ad A S)) (va_Qi (fun r9 S9 => S9 = S ∧ True) (mB D cs o ad A) A) 0 0 A := by
  refine mMet (by decide) rfl (Nat.le_of_ble_eq_true rfl) ?_
  intro p e s m below meth c ls C hml hr hlk V hl
  have hx := C.1
  have hb := C.2.1
  have hown := C.2.2.1
  have hts := C.2.2.2.1
  have hS : va_S A s.heap s.heap [] := va_S.rf
  have hl : lv_has ls 3 [(0, .ref o)] := hl
  refine lv_iconst (v := 0) hx hb dX13_objects_0 (by decide) ?_
  refine lv_topi (fun x1 ex1 => ?_)
  refine lv_istore_n (lv' := [(1, .int x1), (0, .ref o)]) hx hb dX13_objects_1 rfl hl (by decide) rfl (fun ls hl => ?_)
  refine lv_iconst (v := 0) hx hb dX13_objects_2 (by decide) ?_
  refine lv_topi (fun x2 ex2 => ?_)
  refine lv_istore_n (lv' := [(2, .int x2), (1, .int x1), (0, .ref o)]) hx hb dX13_objects_3 rfl hl (by decide) rfl (fun ls hl => ?_)
  have loop4 : ∀ (N4 : Nat) (v4_1 : Int32) (v4_2 : Int32)  (H : Heap) (locs : List Loc) (ls : Array Slot), (0 ≤ v4_2 ∧ v4_2 ≤ 24) → ((24 - v4_2).toInt.toNat) < N4 → mV D cs o ad A S H → va_S A s.heap H locs → lv_has ls 3 [(0, .ref o), (1, .int v4_1), (2, .int v4_2)] → W p l e ({ frames := 0, cells := 0, slots := 0, locals := 0 } : Room) s m ([.ref o] : List Value).toArray below meth c H locs 0 0 (MQ below (va_Qi (fun r9 S9 => S9 = S ∧ True) (mB D cs o ad A) A) ([.ref o] : List Value).toArray s 0 0 A) (F0 m 4 ls []) := by
    intro N4
    induction N4 with
    | zero => intro v4_1 v4_2  H locs ls hi4 hm4; exact absurd hm4 (Nat.not_lt_zero _)
    | succ N4 ih4 =>
      intro v4_1 v4_2  H locs ls hi4 hm4 V hS hl
      refine lv_iload_n hx hb dX13_objects_4 rfl (lv_at hl 2 rfl) ?_
      refine lv_bipush (v := 24) hx hb dX13_objects_5 (by decide) ?_
      refine lv_icmp_ge (tgt := 33) hx hb dX13_objects_7 (by decide) (fun c3 => ?_) (fun c3 => ?_)
      · refine lv_iload_n hx hb dX13_objects_33 rfl (lv_at hl 1 rfl) ?_
        exact mRetI C hr hlk V hS (⟨rfl, trivial⟩) dX13_objects_34
      · refine lv_iload_n hx hb dX13_objects_10 rfl (lv_at hl 1 rfl) ?_
        refine lv_aload_n hx hb dX13_objects_11 rfl (lv_at hl 0 rfl) ?_
        refine mG28 C V dX13_objects_12 ?_
        refine lv_iload_n hx hb dX13_objects_15 rfl (lv_at hl 2 rfl) ?_
        refine mLd28 C V (vin (N := 24) rfl (by clear V hS hl C hts hown hx hb hml hr hlk ih4 hm4; grind) (by clear V hS hl C hts hown hx hb hml hr hlk ih4 hm4; grind)) dX13_objects_16 ?_
        refine lv_if_eq (tgt := 24) hx hb dX13_objects_17 (by decide) (fun c4 => ?_) (fun c4 => ?_)
        · refine lv_iconst (v := 0) hx hb dX13_objects_24 (by decide) ?_
          refine lv_iadd hx hb dX13_objects_25 ?_
          refine lv_topi (fun x5 ex5 => ?_)
          refine lv_istore_n (lv' := [(1, .int x5), (0, .ref o), (2, .int v4_2)]) hx hb dX13_objects_26 rfl hl (by decide) rfl (fun ls hl => ?_)
          obtain ⟨x6, ex6⟩ : ∃ y : Int32, y = v4_2 + (1) := ⟨_, rfl⟩
          refine lv_iinc (v := x6) (lv' := [(2, .int x6), (1, .int x5), (0, .ref o)]) hx hb dX13_objects_27 hl (k := 2) rfl (by rw [ex6]; rfl) (by decide) rfl (fun ls hl => ?_)
          refine lv_goto (tgt := 4) hx hb dX13_objects_30 (by decide) ?_
          exact ih4 x5 x6  _ _ _ (by clear V hS hl C hts hown hx hb hml hr hlk ih4 hm4; subst_vars; grind) (msd hm4 (by clear V hS hl C hts hown hx hb hml hr hlk ih4 hm4; subst_vars; grind) (by clear V hS hl C hts hown hx hb hml hr hlk ih4 hm4; subst_vars; grind)) V hS (lv_sub hl [2, 1, 0] rfl)
        · refine lv_iconst (v := 1) hx hb dX13_objects_20 (by decide) ?_
          refine lv_goto (tgt := 25) hx hb dX13_objects_21 (by decide) ?_
          refine lv_iadd hx hb dX13_objects_25 ?_
          refine lv_topi (fun x7 ex7 => ?_)
          refine lv_istore_n (lv' := [(1, .int x7), (0, .ref o), (2, .int v4_2)]) hx hb dX13_objects_26 rfl hl (by decide) rfl (fun ls hl => ?_)
          obtain ⟨x8, ex8⟩ : ∃ y : Int32, y = v4_2 + (1) := ⟨_, rfl⟩
          refine lv_iinc (v := x8) (lv' := [(2, .int x8), (1, .int x7), (0, .ref o)]) hx hb dX13_objects_27 hl (k := 2) rfl (by rw [ex8]; rfl) (by decide) rfl (fun ls hl => ?_)
          refine lv_goto (tgt := 4) hx hb dX13_objects_30 (by decide) ?_
          exact ih4 x7 x8  _ _ _ (by clear V hS hl C hts hown hx hb hml hr hlk ih4 hm4; subst_vars; grind) (msd hm4 (by clear V hS hl C hts hown hx hb hml hr hlk ih4 hm4; subst_vars; grind) (by clear V hS hl C hts hown hx hb hml hr hlk ih4 hm4; subst_vars; grind)) V hS (lv_sub hl [2, 1, 0] rfl)
  exact loop4 _ x1 x2  _ _ _ (by clear V hS hl C hts hown hx hb hml hr hlk; subst_vars; grind) (Nat.lt_succ_self _) V hS (lv_sub hl [2, 1, 0] rfl)
set_option maxHeartbeats 400000 in
set_option maxRecDepth 100000 in
theorem c_kindOf (l : Launch) (D : va_G) (cs : ClassId × ClassId × ClassId) (o : Nat) (ad : Nat → Nat) (A : Nat → Prop) (S : mS) (q : Int32)   : Met l yX13_kindOf (Cond.code yX13_kindOf cX13_kindOf 1 (some .int) :: tM) ({ frames := 0, cells := 0, slots := 0, locals := 0 }) (va_Pc [.int q] (mB D cs o ad A S)) (va_Qi (fun r9 S9 => S9 = S ∧ (q ≤ 12 → r9 = 1) ∧ (12 < q → q ≤ 22 → r9 ≠ 5) ∧ (22 < q → q ≤ 26 → r9 = 5) ∧ (26 < q → r9 ≠ 5)) (mB D cs o ad A) A) 0 0 A := by
  refine mMet (by decide) rfl (Nat.le_of_ble_eq_true rfl) ?_
  intro p e s m below meth c ls C hml hr hlk V hl
  have hx := C.1
  have hb := C.2.1
  have hown := C.2.2.1
  have hts := C.2.2.2.1
  have hS : va_S A s.heap s.heap [] := va_S.rf
  have hl : lv_has ls 1 [(0, .int q)] := hl
  refine lv_iload_n hx hb dX13_kindOf_0 rfl (lv_at hl 0 rfl) ?_
  refine lv_bipush (v := 12) hx hb dX13_kindOf_1 (by decide) ?_
  refine lv_icmp_gt (tgt := 8) hx hb dX13_kindOf_3 (by decide) (fun c1 => ?_) (fun c1 => ?_)
  · refine lv_iload_n hx hb dX13_kindOf_8 rfl (lv_at hl 0 rfl) ?_
    refine lv_bipush (v := 16) hx hb dX13_kindOf_9 (by decide) ?_
    refine lv_icmp_gt (tgt := 17) hx hb dX13_kindOf_11 (by decide) (fun c2 => ?_) (fun c2 => ?_)
    · refine lv_iload_n hx hb dX13_kindOf_17 rfl (lv_at hl 0 rfl) ?_
      refine lv_bipush (v := 19) hx hb dX13_kindOf_18 (by decide) ?_
      refine lv_icmp_gt (tgt := 25) hx hb dX13_kindOf_20 (by decide) (fun c3 => ?_) (fun c3 => ?_)
      · refine lv_iload_n hx hb dX13_kindOf_25 rfl (lv_at hl 0 rfl) ?_
        refine lv_bipush (v := 21) hx hb dX13_kindOf_26 (by decide) ?_
        refine lv_icmp_gt (tgt := 33) hx hb dX13_kindOf_28 (by decide) (fun c4 => ?_) (fun c4 => ?_)
        · refine lv_iload_n hx hb dX13_kindOf_33 rfl (lv_at hl 0 rfl) ?_
          refine lv_bipush (v := 22) hx hb dX13_kindOf_34 (by decide) ?_
          refine lv_icmp_ne (tgt := 41) hx hb dX13_kindOf_36 (by decide) (fun c5 => ?_) (fun c5 => ?_)
          · refine lv_iload_n hx hb dX13_kindOf_41 rfl (lv_at hl 0 rfl) ?_
            refine lv_bipush (v := 26) hx hb dX13_kindOf_42 (by decide) ?_
            refine lv_icmp_gt (tgt := 49) hx hb dX13_kindOf_44 (by decide) (fun c6 => ?_) (fun c6 => ?_)
            · refine lv_iload_n hx hb dX13_kindOf_49 rfl (lv_at hl 0 rfl) ?_
              refine lv_bipush (v := 28) hx hb dX13_kindOf_50 (by decide) ?_
              refine lv_icmp_gt (tgt := 60) hx hb dX13_kindOf_52 (by decide) (fun c7 => ?_) (fun c7 => ?_)
              · refine lv_bipush (v := 8) hx hb dX13_kindOf_60 (by decide) ?_
                exact mRetI C hr hlk V hS (⟨rfl, by grind⟩) dX13_kindOf_62
              · refine lv_bipush (v := 7) hx hb dX13_kindOf_55 (by decide) ?_
                refine lv_goto (tgt := 62) hx hb dX13_kindOf_57 (by decide) ?_
                exact mRetI C hr hlk V hS (⟨rfl, by grind⟩) dX13_kindOf_62
            · refine lv_iconst (v := 5) hx hb dX13_kindOf_47 (by decide) ?_
              exact mRetI C hr hlk V hS (⟨rfl, by grind⟩) dX13_kindOf_48
          · refine lv_iconst (v := 4) hx hb dX13_kindOf_39 (by decide) ?_
            exact mRetI C hr hlk V hS (⟨rfl, by grind⟩) dX13_kindOf_40
        · refine lv_iconst (v := 3) hx hb dX13_kindOf_31 (by decide) ?_
          exact mRetI C hr hlk V hS (⟨rfl, by grind⟩) dX13_kindOf_32
      · refine lv_iconst (v := 2) hx hb dX13_kindOf_23 (by decide) ?_
        exact mRetI C hr hlk V hS (⟨rfl, by grind⟩) dX13_kindOf_24
    · refine lv_bipush (v := 6) hx hb dX13_kindOf_14 (by decide) ?_
      exact mRetI C hr hlk V hS (⟨rfl, by grind⟩) dX13_kindOf_16
  · refine lv_iconst (v := 1) hx hb dX13_kindOf_6 (by decide) ?_
    exact mRetI C hr hlk V hS (⟨rfl, by grind⟩) dX13_kindOf_7
set_option maxHeartbeats 400000 in
set_option maxRecDepth 100000 in
theorem c_append (l : Launch) (D : va_G) (cs : ClassId × ClassId × ClassId) (o : Nat) (ad : Nat → Nat) (A : Nat → Prop) (S : mS) (b : Int32) (v : Int32)  (h1 : 0 ≤ b ∧ b < 24) (h2 : 0 ≤ gA S 37 b ∧ gA S 37 b < 100) : Met l yX13_append (Cond.code yX13_append cX13_append 3 none :: tM) ({ frames := 0, cells := 0, slots := 0, locals := 0 }) (va_Pc [.ref o, .int b, .int v] (mB D cs o ad A S)) (va_Qv (fun S9 => S9 = sA (sA S 36 (100 * b + gA S 37 b) v) 37 b (gA S 37 b + 1)) (mB D cs o ad A) A) 0 0 A := by
  refine mMet (by decide) rfl (Nat.le_of_ble_eq_true rfl) ?_
  intro p e s m below meth c ls C hml hr hlk V hl
  have hx := C.1
  have hb := C.2.1
  have hown := C.2.2.1
  have hts := C.2.2.2.1
  have hS : va_S A s.heap s.heap [] := va_S.rf
  have hl : lv_has ls 3 [(0, .ref o), (1, .int b), (2, .int v)] := hl
  refine lv_aload_n hx hb dX13_append_0 rfl (lv_at hl 0 rfl) ?_
  refine mG36 C V dX13_append_1 ?_
  refine lv_bipush (v := 100) hx hb dX13_append_4 (by decide) ?_
  refine lv_iload_n hx hb dX13_append_6 rfl (lv_at hl 1 rfl) ?_
  refine lv_imul hx hb dX13_append_7 ?_
  refine lv_aload_n hx hb dX13_append_8 rfl (lv_at hl 0 rfl) ?_
  refine mG37 C V dX13_append_9 ?_
  refine lv_iload_n hx hb dX13_append_12 rfl (lv_at hl 1 rfl) ?_
  refine mLd37 C V (vin (N := 24) rfl (by clear V hS hl C hts hown hx hb hml hr hlk; subst_vars; grind [gI_sI, gI_sJ, gI_sA, gI_sL, gJ_sI, gJ_sJ, gJ_sA, gJ_sL, gA_sI, gA_sJ, gA_sA, gA_sL, gL_sI, gL_sJ, gL_sA, gL_sL]) (by clear V hS hl C hts hown hx hb hml hr hlk; subst_vars; grind [gI_sI, gI_sJ, gI_sA, gI_sL, gJ_sI, gJ_sJ, gJ_sA, gJ_sL, gA_sI, gA_sJ, gA_sA, gA_sL, gL_sI, gL_sJ, gL_sA, gL_sL])) dX13_append_13 ?_
  refine lv_iadd hx hb dX13_append_14 ?_
  refine lv_iload_n hx hb dX13_append_15 rfl (lv_at hl 2 rfl) ?_
  refine mSt36 C V hS (vin (N := 2400) rfl (by clear V hS hl C hts hown hx hb hml hr hlk; subst_vars; grind [gI_sI, gI_sJ, gI_sA, gI_sL, gJ_sI, gJ_sJ, gJ_sA, gJ_sL, gA_sI, gA_sJ, gA_sA, gA_sL, gL_sI, gL_sJ, gL_sA, gL_sL]) (by clear V hS hl C hts hown hx hb hml hr hlk; subst_vars; grind [gI_sI, gI_sJ, gI_sA, gI_sL, gJ_sI, gJ_sJ, gJ_sA, gJ_sL, gA_sI, gA_sJ, gA_sA, gA_sL, gL_sI, gL_sJ, gL_sA, gL_sL])) dX13_append_16 (fun S1 H locs eS1 V hS => ?_)
  refine lv_aload_n hx hb dX13_append_17 rfl (lv_at hl 0 rfl) ?_
  refine mG37 C V dX13_append_18 ?_
  refine lv_iload_n hx hb dX13_append_21 rfl (lv_at hl 1 rfl) ?_
  refine lv_dup2_11 hx hb dX13_append_22 rfl rfl ?_
  refine mLd37 C V (vin (N := 24) rfl (by clear V hS hl C hts hown hx hb hml hr hlk; subst_vars; grind [gI_sI, gI_sJ, gI_sA, gI_sL, gJ_sI, gJ_sJ, gJ_sA, gJ_sL, gA_sI, gA_sJ, gA_sA, gA_sL, gL_sI, gL_sJ, gL_sA, gL_sL]) (by clear V hS hl C hts hown hx hb hml hr hlk; subst_vars; grind [gI_sI, gI_sJ, gI_sA, gI_sL, gJ_sI, gJ_sJ, gJ_sA, gJ_sL, gA_sI, gA_sJ, gA_sA, gA_sL, gL_sI, gL_sJ, gL_sA, gL_sL])) dX13_append_23 ?_
  refine lv_iconst (v := 1) hx hb dX13_append_24 (by decide) ?_
  refine lv_iadd hx hb dX13_append_25 ?_
  refine mSt37 C V hS (vin (N := 24) rfl (by clear V hS hl C hts hown hx hb hml hr hlk; subst_vars; grind [gI_sI, gI_sJ, gI_sA, gI_sL, gJ_sI, gJ_sJ, gJ_sA, gJ_sL, gA_sI, gA_sJ, gA_sA, gA_sL, gL_sI, gL_sJ, gL_sA, gL_sL]) (by clear V hS hl C hts hown hx hb hml hr hlk; subst_vars; grind [gI_sI, gI_sJ, gI_sA, gI_sL, gJ_sI, gJ_sJ, gJ_sA, gJ_sL, gA_sI, gA_sJ, gA_sA, gA_sL, gL_sI, gL_sJ, gL_sA, gL_sL])) dX13_append_26 (fun S2 H locs eS2 V hS => ?_)
  exact mRetV C hr hlk V hS (by clear V hS hl C hts hown hx hb hml hr hlk; subst_vars; simp [gA_sA]) dX13_append_27
set_option maxHeartbeats 400000 in
set_option maxRecDepth 100000 in
theorem c_ready (l : Launch) (D : va_G) (cs : ClassId × ClassId × ClassId) (o : Nat) (ad : Nat → Nat) (A : Nat → Prop) (S : mS)    : Met l yX13_ready (Cond.code yX13_ready cX13_ready 3 (some .int) :: tM) ({ frames := 0, cells := 0, slots := 0, locals := 0 }) (va_Pc [.ref o] (mB D cs o ad A S)) (va_Qi (fun r9 S9 => S9 = S ∧ 0 ≤ r9 ∧ r9 ≤ 8 ∧ (0 < r9 → ∃ u, 0 ≤ u ∧ u < 8 ∧ gA S 13 u = 1)) (mB D cs o ad A) A) 0 0 A := by
  refine mMet (by decide) rfl (Nat.le_of_ble_eq_true rfl) ?_
  intro p e s m below meth c ls C hml hr hlk V hl
  have hx := C.1
  have hb := C.2.1
  have hown := C.2.2.1
  have hts := C.2.2.2.1
  have hS : va_S A s.heap s.heap [] := va_S.rf
  have hl : lv_has ls 3 [(0, .ref o)] := hl
  refine lv_iconst (v := 0) hx hb dX13_ready_0 (by decide) ?_
  refine lv_topi (fun x1 ex1 => ?_)
  refine lv_istore_n (lv' := [(1, .int x1), (0, .ref o)]) hx hb dX13_ready_1 rfl hl (by decide) rfl (fun ls hl => ?_)
  refine lv_iconst (v := 0) hx hb dX13_ready_2 (by decide) ?_
  refine lv_topi (fun x2 ex2 => ?_)
  refine lv_istore_n (lv' := [(2, .int x2), (1, .int x1), (0, .ref o)]) hx hb dX13_ready_3 rfl hl (by decide) rfl (fun ls hl => ?_)
  have loop4 : ∀ (N4 : Nat) (v4_1 : Int32) (v4_2 : Int32)  (H : Heap) (locs : List Loc) (ls : Array Slot), (0 ≤ v4_2 ∧ v4_2 ≤ 8 ∧ 0 ≤ v4_1 ∧ v4_1 ≤ v4_2 ∧ (0 < v4_1 → ∃ u, 0 ≤ u ∧ u < 8 ∧ gA S 13 u = 1)) → ((8 - v4_2).toInt.toNat) < N4 → mV D cs o ad A S H → va_S A s.heap H locs → lv_has ls 3 [(0, .ref o), (1, .int v4_1), (2, .int v4_2)] → W p l e ({ frames := 0, cells := 0, slots := 0, locals := 0 } : Room) s m ([.ref o] : List Value).toArray below meth c H locs 0 0 (MQ below (va_Qi (fun r9 S9 => S9 = S ∧ 0 ≤ r9 ∧ r9 ≤ 8 ∧ (0 < r9 → ∃ u, 0 ≤ u ∧ u < 8 ∧ gA S 13 u = 1)) (mB D cs o ad A) A) ([.ref o] : List Value).toArray s 0 0 A) (F0 m 4 ls []) := by
    intro N4
    induction N4 with
    | zero => intro v4_1 v4_2  H locs ls hi4 hm4; exact absurd hm4 (Nat.not_lt_zero _)
    | succ N4 ih4 =>
      intro v4_1 v4_2  H locs ls hi4 hm4 V hS hl
      refine lv_iload_n hx hb dX13_ready_4 rfl (lv_at hl 2 rfl) ?_
      refine lv_bipush (v := 8) hx hb dX13_ready_5 (by decide) ?_
      refine lv_icmp_ge (tgt := 34) hx hb dX13_ready_7 (by decide) (fun c3 => ?_) (fun c3 => ?_)
      · refine lv_iload_n hx hb dX13_ready_34 rfl (lv_at hl 1 rfl) ?_
        exact mRetI C hr hlk V hS (⟨rfl, by grind⟩) dX13_ready_35
      · refine lv_iload_n hx hb dX13_ready_10 rfl (lv_at hl 1 rfl) ?_
        refine lv_aload_n hx hb dX13_ready_11 rfl (lv_at hl 0 rfl) ?_
        refine mG13 C V dX13_ready_12 ?_
        refine lv_iload_n hx hb dX13_ready_15 rfl (lv_at hl 2 rfl) ?_
        refine mLd13 C V (vin (N := 8) rfl (by clear V hS hl C hts hown hx hb hml hr hlk ih4 hm4; grind) (by clear V hS hl C hts hown hx hb hml hr hlk ih4 hm4; grind)) dX13_ready_16 ?_
        refine lv_iconst (v := 1) hx hb dX13_ready_17 (by decide) ?_
        refine lv_icmp_ne (tgt := 25) hx hb dX13_ready_18 (by decide) (fun c4 => ?_) (fun c4 => ?_)
        · refine lv_iconst (v := 0) hx hb dX13_ready_25 (by decide) ?_
          refine lv_iadd hx hb dX13_ready_26 ?_
          refine lv_topi (fun x5 ex5 => ?_)
          refine lv_istore_n (lv' := [(1, .int x5), (0, .ref o), (2, .int v4_2)]) hx hb dX13_ready_27 rfl hl (by decide) rfl (fun ls hl => ?_)
          obtain ⟨x6, ex6⟩ : ∃ y : Int32, y = v4_2 + (1) := ⟨_, rfl⟩
          refine lv_iinc (v := x6) (lv' := [(2, .int x6), (1, .int x5), (0, .ref o)]) hx hb dX13_ready_28 hl (k := 2) rfl (by rw [ex6]; rfl) (by decide) rfl (fun ls hl => ?_)
          refine lv_goto (tgt := 4) hx hb dX13_ready_31 (by decide) ?_
          exact ih4 x5 x6  _ _ _ (by clear V hS hl C hts hown hx hb hml hr hlk ih4 hm4; subst_vars; grind) (msd hm4 (by clear V hS hl C hts hown hx hb hml hr hlk ih4 hm4; subst_vars; grind) (by clear V hS hl C hts hown hx hb hml hr hlk ih4 hm4; subst_vars; grind)) V hS (lv_sub hl [2, 1, 0] rfl)
        · refine lv_iconst (v := 1) hx hb dX13_ready_21 (by decide) ?_
          refine lv_goto (tgt := 26) hx hb dX13_ready_22 (by decide) ?_
          refine lv_iadd hx hb dX13_ready_26 ?_
          refine lv_topi (fun x7 ex7 => ?_)
          refine lv_istore_n (lv' := [(1, .int x7), (0, .ref o), (2, .int v4_2)]) hx hb dX13_ready_27 rfl hl (by decide) rfl (fun ls hl => ?_)
          obtain ⟨x8, ex8⟩ : ∃ y : Int32, y = v4_2 + (1) := ⟨_, rfl⟩
          refine lv_iinc (v := x8) (lv' := [(2, .int x8), (1, .int x7), (0, .ref o)]) hx hb dX13_ready_28 hl (k := 2) rfl (by rw [ex8]; rfl) (by decide) rfl (fun ls hl => ?_)
          refine lv_goto (tgt := 4) hx hb dX13_ready_31 (by decide) ?_
          exact ih4 x7 x8  _ _ _ (by clear V hS hl C hts hown hx hb hml hr hlk ih4 hm4; subst_vars; grind) (msd hm4 (by clear V hS hl C hts hown hx hb hml hr hlk ih4 hm4; subst_vars; grind) (by clear V hS hl C hts hown hx hb hml hr hlk ih4 hm4; subst_vars; grind)) V hS (lv_sub hl [2, 1, 0] rfl)
  exact loop4 _ x1 x2  _ _ _ (by clear V hS hl C hts hown hx hb hml hr hlk; subst_vars; grind) (Nat.lt_succ_self _) V hS (lv_sub hl [2, 1, 0] rfl)
set_option maxHeartbeats 400000 in
set_option maxRecDepth 100000 in
theorem c_end (l : Launch) (D : va_G) (cs : ClassId × ClassId × ClassId) (o : Nat) (ad : Nat → Nat) (A : Nat → Prop) (S : mS) (n : Int32)   : Met l yX13_end (Cond.code yX13_end cX13_end 2 (some .int) :: tM) ({ frames := 1, cells := 0, slots := 0, locals := 22 }) (va_Pc [.ref o, .int n] (mB D cs o ad A S)) (va_Qi (fun r9 S9 => (0 ≤ n ∧ n ≤ gI S 2 ∧ r9 = n ∧ S9 = sI (sI S 0 0) 2 n) ∨ (¬ (0 ≤ n ∧ n ≤ gI S 2) ∧ S9 = sI S 0 1)) (mB D cs o ad A) A) 0 0 A := by
  refine mMet (by decide) rfl (Nat.le_of_ble_eq_true rfl) ?_
  intro p e s m below meth c ls C hml hr hlk V hl
  have hx := C.1
  have hb := C.2.1
  have hown := C.2.2.1
  have hts := C.2.2.2.1
  have hS : va_S A s.heap s.heap [] := va_S.rf
  have hl : lv_has ls 2 [(0, .ref o), (1, .int n)] := hl
  refine lv_iload_n hx hb dX13_end_0 rfl (lv_at hl 1 rfl) ?_
  refine lv_iconst (v := 0) hx hb dX13_end_1 (by decide) ?_
  refine lv_aload_n hx hb dX13_end_2 rfl (lv_at hl 0 rfl) ?_
  refine mG2 C V dX13_end_3 ?_
  refine mGoP (mRunS (As := [.int n, .int 0, .int (gI S 2)]) (rest := []) C hml V (c_in l D cs o ad A S n 0 (gI S 2)  ) gM_in okM_in ⟨rfl, rfl, Nat.le_of_ble_eq_true rfl, Nat.le_of_ble_eq_true rfl⟩ hl.1 rfl (Nat.le_of_ble_eq_true rfl) dX13_end_6 ⟨Nat.zero_le _, Nat.zero_le _⟩) hS (fun r2 H locs hq3 V hS => ?_)
  refine lv_if_ne (tgt := 18) hx hb dX13_end_9 (by decide) (fun c4 => ?_) (fun c4 => ?_)
  · refine lv_aload_n hx hb dX13_end_18 rfl (lv_at hl 0 rfl) ?_
    refine lv_iconst (v := 0) hx hb dX13_end_19 (by decide) ?_
    refine mP0 C V hS dX13_end_20 (fun S5 H locs eS5 V hS => ?_)
    refine lv_aload_n hx hb dX13_end_23 rfl (lv_at hl 0 rfl) ?_
    refine lv_iload_n hx hb dX13_end_24 rfl (lv_at hl 1 rfl) ?_
    refine mP2 C V hS dX13_end_25 (fun S6 H locs eS6 V hS => ?_)
    refine lv_iload_n hx hb dX13_end_28 rfl (lv_at hl 1 rfl) ?_
    exact mRetI C hr hlk V hS (by clear V hS hl C hts hown hx hb hml hr hlk; subst_vars; grind) dX13_end_29
  · refine lv_aload_n hx hb dX13_end_12 rfl (lv_at hl 0 rfl) ?_
    refine lv_iconst (v := 1) hx hb dX13_end_13 (by decide) ?_
    refine mGoI (mRunV (As := [.int 1]) (rest := []) C hml V (c_refuse l D cs o ad A S 1  ) gM_refuse okM_refuse ⟨rfl, rfl, Nat.le_of_ble_eq_true rfl, Nat.le_of_ble_eq_true rfl⟩ hl.1 rfl (Nat.le_of_ble_eq_true rfl) dX13_end_14 ⟨Nat.zero_le _, Nat.zero_le _⟩) hS (fun r8 S7 H locs hq9 V hS => ?_)
    exact mRetI C hr hlk V hS (by clear V hS hl C hts hown hx hb hml hr hlk; subst_vars; grind) dX13_end_17
set_option maxHeartbeats 400000 in
set_option maxRecDepth 100000 in
theorem c_feed (l : Launch) (D : va_G) (cs : ClassId × ClassId × ClassId) (o : Nat) (ad : Nat → Nat) (A : Nat → Prop) (S : mS) (a0 : Int32) (a1 : Int32) (a2 : Int32) (a3 : Int32) (a4 : Int32)  (h1 : 0 ≤ gI S 2 ∧ gI S 2 ≤ 1600) : Met l yX13_feed (Cond.code yX13_feed cX13_feed 6 (some .int) :: tM) ({ frames := 1, cells := 0, slots := 0, locals := 22 }) (va_Pc [.ref o, .int a0, .int a1, .int a2, .int a3, .int a4] (mB D cs o ad A S)) (va_Qi (fun r9 S9 => (1600 < gI S 2 + 20 ∧ S9 = sI S 0 1) ∨ (gI S 2 + 20 ≤ 1600 ∧ gI S9 0 = 0 ∧ r9 = gI S 2 + 20 ∧ gI S9 2 = gI S 2 + 20 ∧ (∀ k, k ≠ 0 → k ≠ 2 → gI S9 k = gI S k) ∧ (∀ k, gJ S9 k = gJ S k) ∧ (∀ k i, k ≠ 1 → gA S9 k i = gA S k i) ∧ (∀ k i, gL S9 k i = gL S k i))) (mB D cs o ad A) A) 0 0 A := by
  refine mMet (by decide) rfl (Nat.le_of_ble_eq_true rfl) ?_
  intro p e s m below meth c ls C hml hr hlk V hl
  have hx := C.1
  have hb := C.2.1
  have hown := C.2.2.1
  have hts := C.2.2.2.1
  have hS : va_S A s.heap s.heap [] := va_S.rf
  have hl : lv_has ls 6 [(0, .ref o), (1, .int a0), (2, .int a1), (3, .int a2), (4, .int a3), (5, .int a4)] := hl
  refine lv_aload_n hx hb dX13_feed_0 rfl (lv_at hl 0 rfl) ?_
  refine mG2 C V dX13_feed_1 ?_
  refine lv_bipush (v := 20) hx hb dX13_feed_4 (by decide) ?_
  refine lv_iadd hx hb dX13_feed_6 ?_
  refine lv_sipush (v := 1600) hx hb dX13_feed_7 (by decide) ?_
  refine lv_icmp_le (tgt := 19) hx hb dX13_feed_10 (by decide) (fun c1 => ?_) (fun c1 => ?_)
  · refine lv_aload_n hx hb dX13_feed_19 rfl (lv_at hl 0 rfl) ?_
    refine lv_iconst (v := 0) hx hb dX13_feed_20 (by decide) ?_
    refine mP0 C V hS dX13_feed_21 (fun S2 H locs eS2 V hS => ?_)
    refine lv_aload_n hx hb dX13_feed_24 rfl (lv_at hl 0 rfl) ?_
    refine lv_iload_n hx hb dX13_feed_25 rfl (lv_at hl 1 rfl) ?_
    refine mGoV (mRunV (As := [.int a0]) (rest := []) C hml V (c_four l D cs o ad A S2 a0  (by clear V hS hl C hts hown hx hb hml hr hlk; grind [gI_sI, gI_sJ, gI_sA, gI_sL, gJ_sI, gJ_sJ, gJ_sA, gJ_sL, gA_sI, gA_sJ, gA_sA, gA_sL, gL_sI, gL_sJ, gL_sA, gL_sL])) gM_four okM_four ⟨rfl, rfl, Nat.le_of_ble_eq_true rfl, Nat.le_of_ble_eq_true rfl⟩ hl.1 rfl (Nat.le_of_ble_eq_true rfl) dX13_feed_26 ⟨Nat.zero_le _, Nat.zero_le _⟩) hS (fun S3 H locs hq5 V hS => ?_)
    refine lv_aload_n hx hb dX13_feed_29 rfl (lv_at hl 0 rfl) ?_
    refine lv_iload_n hx hb dX13_feed_30 rfl (lv_at hl 2 rfl) ?_
    refine mGoV (mRunV (As := [.int a1]) (rest := []) C hml V (c_four l D cs o ad A S3 a1  (by clear V hS hl C hts hown hx hb hml hr hlk; grind [gI_sI, gI_sJ, gI_sA, gI_sL, gJ_sI, gJ_sJ, gJ_sA, gJ_sL, gA_sI, gA_sJ, gA_sA, gA_sL, gL_sI, gL_sJ, gL_sA, gL_sL])) gM_four okM_four ⟨rfl, rfl, Nat.le_of_ble_eq_true rfl, Nat.le_of_ble_eq_true rfl⟩ hl.1 rfl (Nat.le_of_ble_eq_true rfl) dX13_feed_31 ⟨Nat.zero_le _, Nat.zero_le _⟩) hS (fun S6 H locs hq8 V hS => ?_)
    refine lv_aload_n hx hb dX13_feed_34 rfl (lv_at hl 0 rfl) ?_
    refine lv_iload_n hx hb dX13_feed_35 rfl (lv_at hl 3 rfl) ?_
    refine mGoV (mRunV (As := [.int a2]) (rest := []) C hml V (c_four l D cs o ad A S6 a2  (by clear V hS hl C hts hown hx hb hml hr hlk; grind [gI_sI, gI_sJ, gI_sA, gI_sL, gJ_sI, gJ_sJ, gJ_sA, gJ_sL, gA_sI, gA_sJ, gA_sA, gA_sL, gL_sI, gL_sJ, gL_sA, gL_sL])) gM_four okM_four ⟨rfl, rfl, Nat.le_of_ble_eq_true rfl, Nat.le_of_ble_eq_true rfl⟩ hl.1 rfl (Nat.le_of_ble_eq_true rfl) dX13_feed_36 ⟨Nat.zero_le _, Nat.zero_le _⟩) hS (fun S9 H locs hq11 V hS => ?_)
    refine lv_aload_n hx hb dX13_feed_39 rfl (lv_at hl 0 rfl) ?_
    refine lv_iload hx hb dX13_feed_40 (lv_at hl 4 rfl) ?_
    refine mGoV (mRunV (As := [.int a3]) (rest := []) C hml V (c_four l D cs o ad A S9 a3  (by clear V hS hl C hts hown hx hb hml hr hlk; grind [gI_sI, gI_sJ, gI_sA, gI_sL, gJ_sI, gJ_sJ, gJ_sA, gJ_sL, gA_sI, gA_sJ, gA_sA, gA_sL, gL_sI, gL_sJ, gL_sA, gL_sL])) gM_four okM_four ⟨rfl, rfl, Nat.le_of_ble_eq_true rfl, Nat.le_of_ble_eq_true rfl⟩ hl.1 rfl (Nat.le_of_ble_eq_true rfl) dX13_feed_42 ⟨Nat.zero_le _, Nat.zero_le _⟩) hS (fun S12 H locs hq14 V hS => ?_)
    refine lv_aload_n hx hb dX13_feed_45 rfl (lv_at hl 0 rfl) ?_
    refine lv_iload hx hb dX13_feed_46 (lv_at hl 5 rfl) ?_
    refine mGoV (mRunV (As := [.int a4]) (rest := []) C hml V (c_four l D cs o ad A S12 a4  (by clear V hS hl C hts hown hx hb hml hr hlk; grind [gI_sI, gI_sJ, gI_sA, gI_sL, gJ_sI, gJ_sJ, gJ_sA, gJ_sL, gA_sI, gA_sJ, gA_sA, gA_sL, gL_sI, gL_sJ, gL_sA, gL_sL])) gM_four okM_four ⟨rfl, rfl, Nat.le_of_ble_eq_true rfl, Nat.le_of_ble_eq_true rfl⟩ hl.1 rfl (Nat.le_of_ble_eq_true rfl) dX13_feed_48 ⟨Nat.zero_le _, Nat.zero_le _⟩) hS (fun S15 H locs hq17 V hS => ?_)
    refine lv_aload_n hx hb dX13_feed_51 rfl (lv_at hl 0 rfl) ?_
    refine mG2 C V dX13_feed_52 ?_
    exact mRetI C hr hlk V hS (by clear V hS hl C hts hown hx hb hml hr hlk; grind (ematch := 12) [gI_sI, gI_sJ, gI_sA, gI_sL, gJ_sI, gJ_sJ, gJ_sA, gJ_sL, gA_sI, gA_sJ, gA_sA, gA_sL, gL_sI, gL_sJ, gL_sA, gL_sL]) dX13_feed_55
  · refine lv_aload_n hx hb dX13_feed_13 rfl (lv_at hl 0 rfl) ?_
    refine lv_iconst (v := 1) hx hb dX13_feed_14 (by decide) ?_
    refine mGoI (mRunV (As := [.int 1]) (rest := []) C hml V (c_refuse l D cs o ad A S 1  ) gM_refuse okM_refuse ⟨rfl, rfl, Nat.le_of_ble_eq_true rfl, Nat.le_of_ble_eq_true rfl⟩ hl.1 rfl (Nat.le_of_ble_eq_true rfl) dX13_feed_15 ⟨Nat.zero_le _, Nat.zero_le _⟩) hS (fun r19 S18 H locs hq20 V hS => ?_)
    exact mRetI C hr hlk V hS (by clear V hS hl C hts hown hx hb hml hr hlk; grind (ematch := 12) [gI_sI, gI_sJ, gI_sA, gI_sL, gJ_sI, gJ_sJ, gJ_sA, gJ_sL, gA_sI, gA_sJ, gA_sA, gA_sL, gL_sI, gL_sJ, gL_sA, gL_sL]) dX13_feed_18
end
section
/-- rows: what stands in a row of the reference (kr its places, kl its lengths) is apart -/
def rdis (S : mS) (kr kl : Nat) (b : Int32) : Prop := ∀ i j, 0 ≤ i → i < j → j < gA S kl b → gA S kr (8 * b + i) ≠ gA S kr (8 * b + j)
theorem a_out {b n j : Int32} (hb : 0 ≤ b ∧ b < 24) (h0 : 0 ≤ n) (h8 : n < 8) (h : j < 8 * b ∨ 8 * b + (n + 1) ≤ j) : j ≠ 8 * b + n ∧ (j < 8 * b ∨ 8 * b + n ≤ j) := by
  rcases h with h | h
  · exact ⟨by grind, Or.inl h⟩
  · exact ⟨by grind, Or.inr (by grind)⟩
/-- while t is taken out of the row of b: n are kept of the first i -/
def lvI (S0 SL : mS) (kr kl : Nat) (b t n i : Int32) : Prop :=
  (0 ≤ n ∧ n ≤ i ∧ i ≤ gA S0 kl b) ∧ (∀ k j, k ≠ kr → gA SL k j = gA S0 k j) ∧ (∀ k, gI SL k = gI S0 k) ∧ (∀ k, gJ SL k = gJ S0 k) ∧ (∀ k j, gL SL k j = gL S0 k j) ∧
  (∀ j, (j < 8 * b ∨ 8 * b + n ≤ j) → gA SL kr j = gA S0 kr j) ∧
  (∀ q, 0 ≤ q → q < n → gA SL kr (8 * b + q) ≠ t ∧ ∃ j, 0 ≤ j ∧ j < i ∧ gA SL kr (8 * b + q) = gA S0 kr (8 * b + j)) ∧
  (∀ q r, 0 ≤ q → q < r → r < n → gA SL kr (8 * b + q) ≠ gA SL kr (8 * b + r)) ∧
  (∀ j, 0 ≤ j → j < i → gA S0 kr (8 * b + j) ≠ t → ∃ q, 0 ≤ q ∧ q < n ∧ gA SL kr (8 * b + q) = gA S0 kr (8 * b + j)) ∧
  (∀ j, 0 ≤ j → j < i → gA S0 kr (8 * b + j) = t → n + 1 = i) ∧ ((∀ j, 0 ≤ j → j < i → gA S0 kr (8 * b + j) ≠ t) → n = i)
theorem lvI_0 {S0 : mS} {kr kl : Nat} {b t : Int32} (h : 0 ≤ gA S0 kl b) : lvI S0 S0 kr kl b t 0 0 := by
  refine ⟨⟨by grind, by grind, h⟩, fun _ _ _ => rfl, fun _ => rfl, fun _ => rfl, fun _ _ => rfl, fun _ _ => rfl, ?_, ?_, ?_, ?_, ?_⟩ <;> intros <;> grind
theorem lvI_skip {S0 SL : mS} {kr kl : Nat} {b t n i : Int32} (hb : 0 ≤ b ∧ b < 24) (hl : gA S0 kl b ≤ 8) (hd : rdis S0 kr kl b) (h : lvI S0 SL kr kl b t n i) (hi : i < gA S0 kl b) (he : gA SL kr (8 * b + i) = t) : lvI S0 SL kr kl b t n (i + 1) := by
  obtain ⟨h1, h2, h3, h4, h5, h6, h7, h8, h9, h10, h11⟩ := h
  have e0 : gA S0 kr (8 * b + i) = t := by rw [← h6 (8 * b + i) (by grind)]; exact he
  refine ⟨by clear h2 h3 h4 h5 h6 h7 h8 h9 h10 h11; grind, h2, h3, h4, h5, h6, ?_, h8, ?_, ?_, ?_⟩
  · intro q q1 q2
    obtain ⟨g1, j, g2, g3, g4⟩ := h7 q q1 q2
    exact ⟨g1, j, g2, by grind, g4⟩
  · intro j j1 j2 j3
    exact h9 j j1 (by rcases (show j < i ∨ j = i by grind) with g | g; exact g; subst g; exact absurd e0 j3) j3
  · intro j j1 j2 j3
    rcases (show j < i ∨ j = i by clear h2 h3 h4 h5 h6 h7 h8 h9 h10 h11; grind) with g | g
    · exact absurd (j3.trans e0.symm) (hd j i j1 g hi)
    · have hq : n = i := h11 fun q q1 q2 q3 => hd q i q1 q2 hi (q3.trans e0.symm)
      rw [hq]
  · intro hno
    exact absurd e0 (hno i (by clear h2 h3 h4 h5 h6 h7 h8 h9 h10 h11 hno; grind) (by clear h2 h3 h4 h5 h6 h7 h8 h9 h10 h11 hno; grind))
theorem lvI_keep {S0 SL S1 : mS} {kr kl : Nat} {b t n i : Int32} (hb : 0 ≤ b ∧ b < 24) (hl : gA S0 kl b ≤ 8) (hk : kl ≠ kr) (hd : rdis S0 kr kl b) (h : lvI S0 SL kr kl b t n i) (hi : i < gA S0 kl b) (he : gA SL kr (8 * b + i) ≠ t) (e : S1 = sA SL kr (8 * b + n) (gA SL kr (8 * b + i))) : lvI S0 S1 kr kl b t (n + 1) (i + 1) := by
  obtain ⟨h1, h2, h3, h4, h5, h6, h7, h8, h9, h10, h11⟩ := h
  have e0 : gA S0 kr (8 * b + i) = gA SL kr (8 * b + i) := (h6 (8 * b + i) (by grind)).symm
  have hn : ∀ q, q ≠ 8 * b + n → gA S1 kr q = gA SL kr q := fun q hq => by subst e; rw [gA_sA, if_pos rfl, if_neg hq]
  have hn0 : gA S1 kr (8 * b + n) = gA S0 kr (8 * b + i) := by subst e; rw [gA_sA, if_pos rfl, if_pos rfl, e0]
  refine ⟨by clear h2 h3 h4 h5 h6 h7 h8 h9 h10 h11 hn; grind, ?_, ?_, ?_, ?_, ?_, ?_, ?_, ?_, ?_, ?_⟩
  · intro k j hkk; rw [← h2 k j hkk]; subst e; rw [gA_sA, if_neg hkk]
  · intro k; rw [← h3 k]; subst e; rfl
  · intro k; rw [← h4 k]; subst e; rfl
  · intro k j; rw [← h5 k j]; subst e; rfl
  · intro j hj
    have hq : j ≠ 8 * b + n ∧ (j < 8 * b ∨ 8 * b + n ≤ j) := a_out hb h1.1 (by clear h2 h3 h4 h5 h6 h7 h8 h9 h10 h11 hn hn0 e0 he e hd; grind) hj
    rw [hn j hq.1]; exact h6 j hq.2
  · intro q q1 q2
    rcases (show q < n ∨ q = n by grind) with g | g
    · obtain ⟨g1, j, g2, g3, g4⟩ := h7 q q1 g
      rw [hn (8 * b + q) (by grind)]
      exact ⟨g1, j, g2, by grind, g4⟩
    · subst g
      rw [hn0]
      exact ⟨by rw [e0]; exact he, i, by grind, by grind, rfl⟩
  · intro q r q1 q2 q3
    rcases (show r < n ∨ r = n by grind) with g | g
    · rw [hn (8 * b + q) (by grind), hn (8 * b + r) (by grind)]
      exact h8 q r q1 q2 g
    · subst g
      rw [hn (8 * b + q) (by grind), hn0]
      obtain ⟨g1, j, g2, g3, g4⟩ := h7 q q1 q2
      rw [g4]
      exact hd j i g2 g3 hi
  · intro j j1 j2 j3
    rcases (show j < i ∨ j = i by grind) with g | g
    · obtain ⟨q, g1, g2, g3⟩ := h9 j j1 g j3
      exact ⟨q, g1, by grind, by rw [hn (8 * b + q) (by grind)]; exact g3⟩
    · subst g
      exact ⟨n, by grind, by grind, hn0⟩
  · intro j j1 j2 j3
    rcases (show j < i ∨ j = i by grind) with g | g
    · have := h10 j j1 g j3; clear h2 h3 h4 h5 h6 h7 h8 h9 h10 h11 hn; grind
    · subst g; exact absurd (e0.symm.trans j3) he
  · intro hno
    have := h11 fun j j1 j2 => hno j j1 (by clear h2 h3 h4 h5 h6 h7 h8 h9 h10 h11 hno hn; grind)
    rw [this]
/-- t was taken out of the row of b -/
def lvP (S S9 : mS) (kr kl : Nat) (b t : Int32) : Prop := ∃ SL, lvI S SL kr kl b t (gA S9 kl b) (gA S kl b) ∧ S9 = sA SL kl b (gA S9 kl b)

set_option maxHeartbeats 1000000 in
set_option maxRecDepth 100000 in
theorem c_leaves (l : Launch) (D : va_G) (cs : ClassId × ClassId × ClassId) (o : Nat) (ad : Nat → Nat) (A : Nat → Prop) (S : mS) (b : Int32) (t : Int32)  (h1 : 0 ≤ b ∧ b < 24) (h2 : 0 ≤ gA S 33 b ∧ gA S 33 b ≤ 8) (h3 : rdis S 32 33 b) : Met l yX13_leaves (Cond.code yX13_leaves cX13_leaves 5 none :: tM) ({ frames := 0, cells := 0, slots := 0, locals := 0 }) (va_Pc [.ref o, .int b, .int t] (mB D cs o ad A S)) (va_Qv (fun S9 => lvP S S9 32 33 b t) (mB D cs o ad A) A) 0 0 A := by
  refine mMet (by decide) rfl (Nat.le_of_ble_eq_true rfl) ?_
  intro p e s m below meth c ls C hml hr hlk V hl
  have hx := C.1
  have hb := C.2.1
  have hown := C.2.2.1
  have hts := C.2.2.2.1
  have hS : va_S A s.heap s.heap [] := va_S.rf
  have hl : lv_has ls 5 [(0, .ref o), (1, .int b), (2, .int t)] := hl
  refine lv_iconst (v := 0) hx hb dX13_leaves_0 (by decide) ?_
  refine lv_topi (fun x1 ex1 => ?_)
  refine lv_istore_n (lv' := [(3, .int x1), (0, .ref o), (1, .int b), (2, .int t)]) hx hb dX13_leaves_1 rfl hl (by decide) rfl (fun ls hl => ?_)
  refine lv_iconst (v := 0) hx hb dX13_leaves_2 (by decide) ?_
  refine lv_topi (fun x2 ex2 => ?_)
  refine lv_istore (lv' := [(4, .int x2), (3, .int x1), (0, .ref o), (1, .int b), (2, .int t)]) hx hb dX13_leaves_3 hl (by decide) rfl (fun ls hl => ?_)
  have loop5 : ∀ (N5 : Nat) (v5_3 : Int32) (v5_4 : Int32) (SL5 : mS) (H : Heap) (locs : List Loc) (ls : Array Slot), (lvI S SL5 32 33 b t v5_3 v5_4) → ((gA S 33 b - v5_4).toInt.toNat) < N5 → mV D cs o ad A SL5 H → va_S A s.heap H locs → lv_has ls 5 [(0, .ref o), (1, .int b), (2, .int t), (3, .int v5_3), (4, .int v5_4)] → W p l e ({ frames := 0, cells := 0, slots := 0, locals := 0 } : Room) s m ([.ref o, .int b, .int t] : List Value).toArray below meth c H locs 0 0 (MQ below (va_Qv (fun S9 => lvP S S9 32 33 b t) (mB D cs o ad A) A) ([.ref o, .int b, .int t] : List Value).toArray s 0 0 A) (F0 m 5 ls []) := by
    intro N5
    induction N5 with
    | zero => intro v5_3 v5_4 SL5 H locs ls hi5 hm5; exact absurd hm5 (Nat.not_lt_zero _)
    | succ N5 ih5 =>
      intro v5_3 v5_4 SL5 H locs ls hi5 hm5 V hS hl
      have hj := id hi5
      obtain ⟨⟨hj1, hj2, hj3⟩, hj4, -⟩ := hj
      have hj5 : gA SL5 33 b = gA S 33 b := hj4 33 b (by decide)
      clear hj4
      refine lv_iload hx hb dX13_leaves_5 (lv_at hl 4 rfl) ?_
      refine lv_aload_n hx hb dX13_leaves_7 rfl (lv_at hl 0 rfl) ?_
      refine mG33 C V dX13_leaves_8 ?_
      refine lv_iload_n hx hb dX13_leaves_11 rfl (lv_at hl 1 rfl) ?_
      refine mLd33 C V (vin (N := 24) rfl (by clear V hS hl C hts hown hx hb hml hr hlk ih5 hm5; grind) (by clear V hS hl C hts hown hx hb hml hr hlk ih5 hm5; grind)) dX13_leaves_12 ?_
      refine lv_icmp_ge (tgt := 67) hx hb dX13_leaves_13 (by decide) (fun c3 => ?_) (fun c3 => ?_)
      · refine lv_aload_n hx hb dX13_leaves_67 rfl (lv_at hl 0 rfl) ?_
        refine mG33 C V dX13_leaves_68 ?_
        refine lv_iload_n hx hb dX13_leaves_71 rfl (lv_at hl 1 rfl) ?_
        refine lv_iload_n hx hb dX13_leaves_72 rfl (lv_at hl 3 rfl) ?_
        refine mSt33 C V hS (vin (N := 24) rfl (by clear V hS hl C hts hown hx hb hml hr hlk ih5 hm5; grind) (by clear V hS hl C hts hown hx hb hml hr hlk ih5 hm5; grind)) dX13_leaves_73 (fun S4 H locs eS4 V hS => ?_)
        exact mRetV C hr hlk V hS (by clear V hS hl C hts hown hx hb hml hr hlk ih5 hm5; subst_vars; exact ⟨SL5, by rw [gA_sA, if_pos rfl, if_pos rfl]; rw [show v5_4 = gA S 33 b by grind] at hi5; exact hi5, by rw [gA_sA, if_pos rfl, if_pos rfl]⟩) dX13_leaves_74
      · refine lv_aload_n hx hb dX13_leaves_16 rfl (lv_at hl 0 rfl) ?_
        refine mG32 C V dX13_leaves_17 ?_
        refine lv_bipush (v := 8) hx hb dX13_leaves_20 (by decide) ?_
        refine lv_iload_n hx hb dX13_leaves_22 rfl (lv_at hl 1 rfl) ?_
        refine lv_imul hx hb dX13_leaves_23 ?_
        refine lv_iload hx hb dX13_leaves_24 (lv_at hl 4 rfl) ?_
        refine lv_iadd hx hb dX13_leaves_26 ?_
        refine mLd32 C V (vin (N := 192) rfl (by clear V hS hl C hts hown hx hb hml hr hlk ih5 hm5; grind) (by clear V hS hl C hts hown hx hb hml hr hlk ih5 hm5; grind)) dX13_leaves_27 ?_
        refine lv_iload_n hx hb dX13_leaves_28 rfl (lv_at hl 2 rfl) ?_
        refine lv_icmp_ne (tgt := 35) hx hb dX13_leaves_29 (by decide) (fun c5 => ?_) (fun c5 => ?_)
        · refine lv_aload_n hx hb dX13_leaves_35 rfl (lv_at hl 0 rfl) ?_
          refine mG32 C V dX13_leaves_36 ?_
          refine lv_bipush (v := 8) hx hb dX13_leaves_39 (by decide) ?_
          refine lv_iload_n hx hb dX13_leaves_41 rfl (lv_at hl 1 rfl) ?_
          refine lv_imul hx hb dX13_leaves_42 ?_
          refine lv_iload_n hx hb dX13_leaves_43 rfl (lv_at hl 3 rfl) ?_
          refine lv_iadd hx hb dX13_leaves_44 ?_
          refine lv_aload_n hx hb dX13_leaves_45 rfl (lv_at hl 0 rfl) ?_
          refine mG32 C V dX13_leaves_46 ?_
          refine lv_bipush (v := 8) hx hb dX13_leaves_49 (by decide) ?_
          refine lv_iload_n hx hb dX13_leaves_51 rfl (lv_at hl 1 rfl) ?_
          refine lv_imul hx hb dX13_leaves_52 ?_
          refine lv_iload hx hb dX13_leaves_53 (lv_at hl 4 rfl) ?_
          refine lv_iadd hx hb dX13_leaves_55 ?_
          refine mLd32 C V (vin (N := 192) rfl (by clear V hS hl C hts hown hx hb hml hr hlk ih5 hm5; grind) (by clear V hS hl C hts hown hx hb hml hr hlk ih5 hm5; grind)) dX13_leaves_56 ?_
          refine mSt32 C V hS (vin (N := 192) rfl (by clear V hS hl C hts hown hx hb hml hr hlk ih5 hm5; grind) (by clear V hS hl C hts hown hx hb hml hr hlk ih5 hm5; grind)) dX13_leaves_57 (fun S6 H locs eS6 V hS => ?_)
          obtain ⟨x7, ex7⟩ : ∃ y : Int32, y = v5_3 + (1) := ⟨_, rfl⟩
          refine lv_iinc (v := x7) (lv' := [(3, .int x7), (0, .ref o), (1, .int b), (2, .int t), (4, .int v5_4)]) hx hb dX13_leaves_58 hl (k := 3) rfl (by rw [ex7]; rfl) (by decide) rfl (fun ls hl => ?_)
          obtain ⟨x8, ex8⟩ : ∃ y : Int32, y = v5_4 + (1) := ⟨_, rfl⟩
          refine lv_iinc (v := x8) (lv' := [(4, .int x8), (3, .int x7), (0, .ref o), (1, .int b), (2, .int t)]) hx hb dX13_leaves_61 hl (k := 4) rfl (by rw [ex8]; rfl) (by decide) rfl (fun ls hl => ?_)
          refine lv_goto (tgt := 5) hx hb dX13_leaves_64 (by decide) ?_
          exact ih5 x7 x8 S6 _ _ _ (by clear V hS hl C hts hown hx hb hml hr hlk ih5 hm5; subst_vars; first | exact lvI_skip h1 h2.2 h3 hi5 (by grind) (by grind) | exact lvI_keep h1 h2.2 (by decide) h3 hi5 (by grind) (by grind) rfl) (msd hm5 (by clear V hS hl C hts hown hx hb hml hr hlk ih5 hm5; subst_vars; grind) (by clear V hS hl C hts hown hx hb hml hr hlk ih5 hm5; subst_vars; grind)) V hS (lv_sub hl [2, 3, 4, 1, 0] rfl)
        · refine lv_goto (tgt := 61) hx hb dX13_leaves_32 (by decide) ?_
          obtain ⟨x9, ex9⟩ : ∃ y : Int32, y = v5_4 + (1) := ⟨_, rfl⟩
          refine lv_iinc (v := x9) (lv' := [(4, .int x9), (0, .ref o), (1, .int b), (2, .int t), (3, .int v5_3)]) hx hb dX13_leaves_61 hl (k := 4) rfl (by rw [ex9]; rfl) (by decide) rfl (fun ls hl => ?_)
          refine lv_goto (tgt := 5) hx hb dX13_leaves_64 (by decide) ?_
          exact ih5 v5_3 x9 SL5 _ _ _ (by clear V hS hl C hts hown hx hb hml hr hlk ih5 hm5; subst_vars; first | exact lvI_skip h1 h2.2 h3 hi5 (by grind) (by grind) | exact lvI_keep h1 h2.2 (by decide) h3 hi5 (by grind) (by grind) rfl) (msd hm5 (by clear V hS hl C hts hown hx hb hml hr hlk ih5 hm5; subst_vars; grind) (by clear V hS hl C hts hown hx hb hml hr hlk ih5 hm5; subst_vars; grind)) V hS (lv_sub hl [1, 2, 3, 4, 0] rfl)
  exact loop5 _ x1 x2 S _ _ _ (by clear V hS hl C hts hown hx hb hml hr hlk; subst_vars; exact lvI_0 h2.1) (Nat.lt_succ_self _) V hS (lv_sub hl [2, 3, 4, 1, 0] rfl)
end
section
/-! the reference: its invariant -/
def iT (S : mS) : Prop := 0 ≤ gI S 2 ∧ gI S 2 ≤ 1600 ∧ 0 ≤ gI S 26 ∧ gI S 26 < 8
/-- a thread: where it stands, what it waits for, where it is if it is in a second row -/
def iQ (S : mS) : Prop := ∀ t, 0 ≤ t → t < 8 → (1 ≤ gA S 13 t → gA S 13 t ≤ 3 → 0 ≤ gA S 15 t ∧ gA S 15 t < gA S 12 t ∧ gA S 12 t ≤ 60) ∧ (gA S 13 t = 2 → 0 ≤ gA S 16 t ∧ gA S 16 t < 24) ∧
  (gA S 21 t ≠ 0 → gA S 13 t = 2 ∧ ∃ i, 0 ≤ i ∧ i < gA S 35 (gA S 16 t) ∧ gA S 34 (8 * gA S 16 t + i) = t)
def iL (S : mS) : Prop := ∀ t k, 0 ≤ t → t < 8 → 0 ≤ k → k < 60 → k < gA S 12 t → 2 ≤ gA S 11 (240 * t + 4 * k) → gA S 11 (240 * t + 4 * k) ≤ 4 → 0 ≤ gA S 11 (240 * t + 4 * k + 1)
def iO (S : mS) : Prop := ∀ b, 0 ≤ b → b < 24 → (0 ≤ gA S 33 b ∧ gA S 33 b ≤ 8) ∧ (0 ≤ gA S 35 b ∧ gA S 35 b ≤ 8) ∧ (-1 ≤ gA S 31 b ∧ gA S 31 b < 8) ∧ (gA S 28 b = 5 → 0 ≤ gA S 37 b ∧ gA S 37 b ≤ gA S 29 b ∧ gA S 29 b ≤ 100)
/-- t may stand in the row of b -/
def mem1 (S : mS) (b t : Int32) : Prop := 0 ≤ t ∧ t < 8 ∧ gA S 21 t = 0 ∧ ((gA S 13 t = 2 ∧ gA S 16 t = b) ∨ (gA S 13 t = 1 ∧ gA S 28 b = 1))
def iR (S : mS) : Prop := ∀ b i, 0 ≤ b → b < 24 → 0 ≤ i → i < gA S 33 b → mem1 S b (gA S 32 (8 * b + i))
def iU (S : mS) : Prop := ∀ b i d j, 0 ≤ b → b < 24 → 0 ≤ i → i < gA S 33 b → 0 ≤ d → d < 24 → 0 ≤ j → j < gA S 33 d → gA S 32 (8 * b + i) = gA S 32 (8 * d + j) → b = d ∧ i = j
def mem2 (S : mS) (b t : Int32) : Prop := 0 ≤ t ∧ t < 8 ∧ gA S 13 t = 2 ∧ gA S 16 t = b ∧ gA S 21 t ≠ 0 ∧ gA S 22 t ≠ 0 ∧ gA S 28 b = 1
def iR2 (S : mS) : Prop := ∀ b i, 0 ≤ b → b < 24 → 0 ≤ i → i < gA S 35 b → mem2 S b (gA S 34 (8 * b + i))
def iU2 (S : mS) : Prop := ∀ b, 0 ≤ b → b < 24 → rdis S 34 35 b
def mInv (S : mS) : Prop := iT S ∧ iQ S ∧ iL S ∧ iO S ∧ iR S ∧ iU S ∧ iR2 S ∧ iU2 S
/-- t stands in no row -/
def nR (S : mS) (t : Int32) : Prop := ∀ b i, 0 ≤ b → b < 24 → 0 ≤ i → i < gA S 33 b → gA S 32 (8 * b + i) ≠ t
/-- t is READY and in no row -/
def fre (S : mS) (t : Int32) : Prop := (0 ≤ t ∧ t < 8) ∧ gA S 13 t = 1 ∧ gA S 21 t = 0 ∧ nR S t
/-- what the invariant speaks of is the same -/
def smK (k : Nat) : Prop := k = 11 ∨ k = 12 ∨ k = 13 ∨ k = 15 ∨ k = 16 ∨ k = 21 ∨ k = 22 ∨ k = 28 ∨ k = 29 ∨ k = 31 ∨ k = 32 ∨ k = 33 ∨ k = 34 ∨ k = 35 ∨ k = 37
theorem mInv_sm {S S9 : mS} (h : mInv S) (hT : iT S9) (hs : ∀ k i, smK k → gA S9 k i = gA S k i) : mInv S9 := by
  obtain ⟨-, h2, h3, h4, h5, h6, h7, h8⟩ := h
  have e11 : ∀ i, gA S9 11 i = gA S 11 i := fun i => hs 11 i (by simp [smK])
  have e12 : ∀ i, gA S9 12 i = gA S 12 i := fun i => hs 12 i (by simp [smK])
  have e13 : ∀ i, gA S9 13 i = gA S 13 i := fun i => hs 13 i (by simp [smK])
  have e15 : ∀ i, gA S9 15 i = gA S 15 i := fun i => hs 15 i (by simp [smK])
  have e16 : ∀ i, gA S9 16 i = gA S 16 i := fun i => hs 16 i (by simp [smK])
  have e21 : ∀ i, gA S9 21 i = gA S 21 i := fun i => hs 21 i (by simp [smK])
  have e22 : ∀ i, gA S9 22 i = gA S 22 i := fun i => hs 22 i (by simp [smK])
  have e28 : ∀ i, gA S9 28 i = gA S 28 i := fun i => hs 28 i (by simp [smK])
  have e29 : ∀ i, gA S9 29 i = gA S 29 i := fun i => hs 29 i (by simp [smK])
  have e31 : ∀ i, gA S9 31 i = gA S 31 i := fun i => hs 31 i (by simp [smK])
  have e32 : ∀ i, gA S9 32 i = gA S 32 i := fun i => hs 32 i (by simp [smK])
  have e33 : ∀ i, gA S9 33 i = gA S 33 i := fun i => hs 33 i (by simp [smK])
  have e34 : ∀ i, gA S9 34 i = gA S 34 i := fun i => hs 34 i (by simp [smK])
  have e35 : ∀ i, gA S9 35 i = gA S 35 i := fun i => hs 35 i (by simp [smK])
  have e37 : ∀ i, gA S9 37 i = gA S 37 i := fun i => hs 37 i (by simp [smK])
  refine ⟨hT, ?_, ?_, ?_, ?_, ?_, ?_, ?_⟩
  · intro t; simp only [e12, e13, e15, e16, e21, e34, e35]; exact h2 t
  · intro t k; simp only [e11, e12]; exact h3 t k
  · intro b; simp only [e28, e29, e31, e33, e35, e37]; exact h4 b
  · intro b i; simp only [mem1, e13, e16, e21, e28, e32, e33]; exact h5 b i
  · intro b i d j; simp only [e32, e33]; exact h6 b i d j
  · intro b i; simp only [mem2, e13, e16, e21, e22, e28, e34, e35]; exact h7 b i
  · intro b b0 b1; unfold rdis; simp only [e34, e35]; exact h8 b b0 b1
/-- a thread in no row may change -/
theorem mInv_loc {S S9 : mS} {t : Int32} (h : mInv S) (hT : iT S9) (ht : 0 ≤ t ∧ t < 8) (hn : nR S t) (h21 : gA S 21 t = 0) (h21' : gA S9 21 t = 0)
    (f1 : ∀ k i, k = 28 ∨ k = 29 ∨ k = 31 ∨ k = 32 ∨ k = 33 ∨ k = 34 ∨ k = 35 ∨ k = 37 → gA S9 k i = gA S k i)
    (f2 : ∀ k u, k = 12 ∨ k = 13 ∨ k = 15 ∨ k = 16 ∨ k = 21 ∨ k = 22 → u ≠ t → gA S9 k u = gA S k u)
    (f3 : ∀ u q, 0 ≤ u → u < 8 → 0 ≤ q → q < 240 → u ≠ t → gA S9 11 (240 * u + q) = gA S 11 (240 * u + q))
    (q1 : 1 ≤ gA S9 13 t → gA S9 13 t ≤ 3 → 0 ≤ gA S9 15 t ∧ gA S9 15 t < gA S9 12 t ∧ gA S9 12 t ≤ 60) (q2 : gA S9 13 t = 2 → 0 ≤ gA S9 16 t ∧ gA S9 16 t < 24)
    (q3 : ∀ k, 0 ≤ k → k < 60 → k < gA S9 12 t → 2 ≤ gA S9 11 (240 * t + 4 * k) → gA S9 11 (240 * t + 4 * k) ≤ 4 → 0 ≤ gA S9 11 (240 * t + 4 * k + 1)) : mInv S9 := by
  obtain ⟨-, h2, h3, h4, h5, h6, h7, h8⟩ := h
  have e28 : ∀ i, gA S9 28 i = gA S 28 i := fun i => f1 28 i (by simp)
  have e29 : ∀ i, gA S9 29 i = gA S 29 i := fun i => f1 29 i (by simp)
  have e31 : ∀ i, gA S9 31 i = gA S 31 i := fun i => f1 31 i (by simp)
  have e32 : ∀ i, gA S9 32 i = gA S 32 i := fun i => f1 32 i (by simp)
  have e33 : ∀ i, gA S9 33 i = gA S 33 i := fun i => f1 33 i (by simp)
  have e34 : ∀ i, gA S9 34 i = gA S 34 i := fun i => f1 34 i (by simp)
  have e35 : ∀ i, gA S9 35 i = gA S 35 i := fun i => f1 35 i (by simp)
  have e37 : ∀ i, gA S9 37 i = gA S 37 i := fun i => f1 37 i (by simp)
  refine ⟨hT, ?_, ?_, ?_, ?_, ?_, ?_, ?_⟩
  · intro u u0 u1
    by_cases hu : u = t
    · subst hu; exact ⟨q1, q2, fun q => absurd h21' q⟩
    · rw [f2 12 u (by simp) hu, f2 13 u (by simp) hu, f2 15 u (by simp) hu, f2 16 u (by simp) hu, f2 21 u (by simp) hu]
      simp only [e34, e35]
      exact h2 u u0 u1
  · intro u k u0 u1 k0 k1
    by_cases hu : u = t
    · subst hu; exact q3 k k0 k1
    · have g1 : gA S9 11 (240 * u + 4 * k) = gA S 11 (240 * u + 4 * k) := f3 u (4 * k) u0 u1 (by clear f1 f2 f3 h2 h3 h4 h5 h6 h7 h8 q1 q2 q3 e28 e29 e31 e32 e33 e34 e35 e37 hn; grind) (by clear f1 f2 f3 h2 h3 h4 h5 h6 h7 h8 q1 q2 q3 e28 e29 e31 e32 e33 e34 e35 e37 hn; grind) hu
      have g2 : gA S9 11 (240 * u + 4 * k + 1) = gA S 11 (240 * u + 4 * k + 1) := by
        have g := f3 u (4 * k + 1) u0 u1 (by clear f1 f2 f3 h2 h3 h4 h5 h6 h7 h8 q1 q2 q3 e28 e29 e31 e32 e33 e34 e35 e37 hn g1; grind) (by clear f1 f2 f3 h2 h3 h4 h5 h6 h7 h8 q1 q2 q3 e28 e29 e31 e32 e33 e34 e35 e37 hn g1; grind) hu
        rw [show (240 * u + (4 * k + 1) : Int32) = 240 * u + 4 * k + 1 from (Int32.add_assoc _ _ _).symm] at g
        exact g
      rw [g1, g2, f2 12 u (by simp) hu]
      exact h3 u k u0 u1 k0 k1
  · intro b; simp only [e28, e29, e31, e33, e35, e37]; exact h4 b
  · intro b i b0 b1 i0 i1
    rw [e33] at i1
    have g := h5 b i b0 b1 i0 i1
    have hu : gA S 32 (8 * b + i) ≠ t := hn b i b0 b1 i0 i1
    rw [e32]
    unfold mem1 at g ⊢
    rw [f2 13 _ (by simp) hu, f2 16 _ (by simp) hu, f2 21 _ (by simp) hu, e28]
    exact g
  · intro b i d j; simp only [e32, e33]; exact h6 b i d j
  · intro b i b0 b1 i0 i1
    rw [e35] at i1
    have g := h7 b i b0 b1 i0 i1
    have hu : gA S 34 (8 * b + i) ≠ t := fun q => by unfold mem2 at g; rw [q] at g; exact g.2.2.2.2.1 h21
    rw [e34]
    unfold mem2 at g ⊢
    rw [f2 13 _ (by simp) hu, f2 16 _ (by simp) hu, f2 21 _ (by simp) hu, f2 22 _ (by simp) hu, e28]
    exact g
  · intro b b0 b1; unfold rdis; simp only [e34, e35]; exact h8 b b0 b1
/-- nine in eight places -/
theorem pig : ∀ (n : Nat) (f : Nat → Nat), (∀ i, i ≤ n → f i < n) → (∀ i j, i ≤ n → j ≤ n → f i = f j → i = j) → False
  | 0, f, h, _ => absurd (h 0 (Nat.le_refl 0)) (Nat.not_lt_zero _)
  | n + 1, f, h, hi => by
    refine pig n (fun i => if f i = n then f (n + 1) else f i) ?_ ?_
    · intro i hin
      try dsimp only
      by_cases g : f i = n
      · rw [if_pos g]
        have h1 := h (n + 1) (Nat.le_refl _)
        have h2 : f (n + 1) ≠ n := fun q => by have := hi i (n + 1) (by omega) (Nat.le_refl _) (g.trans q.symm); omega
        omega
      · rw [if_neg g]
        have h1 := h i (by omega)
        omega
    · intro i j hin hjn hij
      try dsimp only at hij
      by_cases g : f i = n <;> by_cases g2 : f j = n
      · exact hi i j (by omega) (by omega) (g.trans g2.symm)
      · rw [if_pos g, if_neg g2] at hij
        have := hi (n + 1) j (Nat.le_refl _) (by omega) hij
        omega
      · rw [if_neg g, if_pos g2] at hij
        have := hi i (n + 1) (by omega) (Nat.le_refl _) hij
        omega
      · rw [if_neg g, if_neg g2] at hij
        exact hi i j (by omega) (by omega) hij
/-- a row that t is not in has room for t -/
theorem room8 {S : mS} {kr kl : Nat} {b t : Int32} (hb : 0 ≤ b ∧ b < 24) (ht : 0 ≤ t ∧ t < 8) (hl : 0 ≤ gA S kl b ∧ gA S kl b ≤ 8) (hr : ∀ i, 0 ≤ i → i < gA S kl b → 0 ≤ gA S kr (8 * b + i) ∧ gA S kr (8 * b + i) < 8) (hd : rdis S kr kl b) (hn : ∀ i, 0 ≤ i → i < gA S kl b → gA S kr (8 * b + i) ≠ t) : gA S kl b < 8 := by
  rcases (show gA S kl b < 8 ∨ gA S kl b = 8 by clear hr hd hn; grind) with g | g
  · exact g
  · exfalso
    have key : ∀ i : Nat, i < 8 → 0 ≤ nI i ∧ nI i < gA S kl b := fun i hi => by rw [g]; exact ⟨nI_pos' (by omega), nI_lt (b := 8) hi (by decide)⟩
    have n8 : ∀ x : Int32, 0 ≤ x ∧ x < 8 → x.toInt.toNat < 8 ∧ (x.toInt.toNat : Int) = x.toInt := fun x hx => by
      have a1 : (0 : Int) ≤ x.toInt := Int32.le_iff_toInt_le.mp hx.1
      have a2 : x.toInt < 8 := Int32.lt_iff_toInt_lt.mp hx.2
      omega
    have inj8 : ∀ x y : Int32, 0 ≤ x ∧ x < 8 → 0 ≤ y ∧ y < 8 → x.toInt.toNat = y.toInt.toNat → x = y := fun x y hx hy e => Int32.toInt_inj.mp (by have a := (n8 x hx).2; have b := (n8 y hy).2; omega)
    refine pig 8 (fun i => if i < 8 then (gA S kr (8 * b + nI i)).toInt.toNat else t.toInt.toNat) ?_ ?_
    · intro i hi
      try dsimp only
      by_cases h8 : i < 8
      · rw [if_pos h8]; exact (n8 _ (hr (nI i) (key i h8).1 (key i h8).2)).1
      · rw [if_neg h8]; exact (n8 t ht).1
    · intro i j hi hj hij
      try dsimp only at hij
      by_cases h8 : i < 8 <;> by_cases g8 : j < 8
      · rw [if_pos h8, if_pos g8] at hij
        have e := inj8 _ _ (hr (nI i) (key i h8).1 (key i h8).2) (hr (nI j) (key j g8).1 (key j g8).2) hij
        rcases Nat.lt_trichotomy i j with q | q | q
        · exact absurd e (hd (nI i) (nI j) (key i h8).1 (nI_lt q (by omega)) (key j g8).2)
        · exact q
        · exact absurd e.symm (hd (nI j) (nI i) (key j g8).1 (nI_lt q (by omega)) (key i h8).2)
      · rw [if_pos h8, if_neg g8] at hij
        exact absurd (inj8 _ _ (hr (nI i) (key i h8).1 (key i h8).2) ht hij) (hn (nI i) (key i h8).1 (key i h8).2)
      · rw [if_neg h8, if_pos g8] at hij
        exact absurd (inj8 _ _ ht (hr (nI j) (key j g8).1 (key j g8).2) hij).symm (hn (nI j) (key j g8).1 (key j g8).2)
      · omega
end
section
/-! the reference: what taking out, waiting and signalling do to the invariant -/
theorem lvP_f {S S9 : mS} {kr kl : Nat} {b t : Int32} (hk : kl ≠ kr) (h : lvP S S9 kr kl b t) :
    (0 ≤ gA S9 kl b ∧ gA S9 kl b ≤ gA S kl b) ∧ (∀ d, d ≠ b → gA S9 kl d = gA S kl d) ∧ (∀ k i, k ≠ kr → k ≠ kl → gA S9 k i = gA S k i) ∧ (∀ k, gI S9 k = gI S k) ∧ (∀ k, gJ S9 k = gJ S k) ∧ (∀ k i, gL S9 k i = gL S k i) ∧
    (∀ j, (j < 8 * b ∨ 8 * b + gA S9 kl b ≤ j) → gA S9 kr j = gA S kr j) ∧
    (∀ q, 0 ≤ q → q < gA S9 kl b → gA S9 kr (8 * b + q) ≠ t ∧ ∃ j, 0 ≤ j ∧ j < gA S kl b ∧ gA S9 kr (8 * b + q) = gA S kr (8 * b + j)) ∧ rdis S9 kr kl b ∧
    (∀ j, 0 ≤ j → j < gA S kl b → gA S kr (8 * b + j) ≠ t → ∃ q, 0 ≤ q ∧ q < gA S9 kl b ∧ gA S9 kr (8 * b + q) = gA S kr (8 * b + j)) ∧
    (∀ j, 0 ≤ j → j < gA S kl b → gA S kr (8 * b + j) = t → gA S9 kl b + 1 = gA S kl b) := by
  obtain ⟨SL, ⟨h1, h2, h3, h4, h5, h6, h7, h8, h9, h10, -⟩, e⟩ := h
  have er : ∀ j, gA S9 kr j = gA SL kr j := fun j => by rw [e, gA_sA, if_neg (Ne.symm hk)]
  refine ⟨⟨h1.1, h1.2.1⟩, ?_, ?_, ?_, ?_, ?_, ?_, ?_, ?_, ?_, h10⟩
  · intro d hd; rw [e, gA_sA, if_pos rfl, if_neg hd]; exact h2 kl d hk
  · intro k i hkr hkl; rw [e, gA_sA, if_neg hkl]; exact h2 k i hkr
  · intro k; rw [e, gI_sA]; exact h3 k
  · intro k; rw [e, gJ_sA]; exact h4 k
  · intro k i; rw [e, gL_sA]; exact h5 k i
  · intro j hj; rw [er]; exact h6 j hj
  · intro q q0 q1; rw [er]; exact h7 q q0 q1
  · intro i j i0 ij jn; rw [er, er]; exact h8 i j i0 ij jn
  · intro j j0 j1 j2
    obtain ⟨q, g1, g2, g3⟩ := h9 j j0 j1 j2
    exact ⟨q, g1, g2, by rw [er]; exact g3⟩
theorem a_row {b d i j : Int32} (hb : 0 ≤ b ∧ b < 24) (hd : 0 ≤ d ∧ d < 24) (hi : 0 ≤ i ∧ i < 8) (hj : 0 ≤ j ∧ j ≤ 8) (hne : d ≠ b) : 8 * d + i < 8 * b ∨ 8 * b + j ≤ 8 * d + i := by
  rcases (show d < b ∨ b < d by grind) with h | h
  · left; have h2 : d + 1 ≤ b := by grind
    grind
  · right; have h2 : b + 1 ≤ d := by grind
    grind
/-- the row of another is the same behind taking out of b's -/
theorem lvP_o {S S9 : mS} {kr kl : Nat} {b t d i : Int32} (hk : kl ≠ kr) (hb : 0 ≤ b ∧ b < 24) (hl : gA S kl b ≤ 8) (h : lvP S S9 kr kl b t) (hd : 0 ≤ d ∧ d < 24) (hi : 0 ≤ i ∧ i < 8) (hne : d ≠ b) : gA S9 kr (8 * d + i) = gA S kr (8 * d + i) := by
  obtain ⟨h1, -, -, -, -, -, h7, -⟩ := lvP_f hk h
  exact h7 _ (a_row hb hd hi ⟨h1.1, by clear h7 h; grind⟩ hne)
theorem lv_inv {S S9 : mS} {b t : Int32} (hb : 0 ≤ b ∧ b < 24) (h : mInv S) (hp : lvP S S9 32 33 b t) : mInv S9 ∧ (∀ u, nR S u → nR S9 u) ∧ ((∃ i, 0 ≤ i ∧ i < gA S 33 b ∧ gA S 32 (8 * b + i) = t) → nR S9 t) := by
  obtain ⟨g1, g2, g3, g4, g5, g6, g7, g8, g9, g10, g11⟩ := lvP_f (by decide) hp
  obtain ⟨h1, h2, h3, h4, h5, h6, h7, h8⟩ := h
  have hl8 : gA S 33 b ≤ 8 := ((h4 b hb.1 hb.2).1).2
  -- an entry of a row was an entry of the same row
  have key : ∀ d i, 0 ≤ d → d < 24 → 0 ≤ i → i < gA S9 33 d → ∃ j, 0 ≤ j ∧ j < gA S 33 d ∧ gA S9 32 (8 * d + i) = gA S 32 (8 * d + j) ∧ (d = b → gA S9 32 (8 * d + i) ≠ t) ∧ (d ≠ b → j = i) := by
    intro d i d0 d1 i0 i1
    by_cases hd : d = b
    · subst hd
      obtain ⟨a1, j, a2, a3, a4⟩ := g8 i i0 i1
      exact ⟨j, a2, a3, a4, fun _ => a1, fun q => absurd rfl q⟩
    · rw [g2 d hd] at i1
      have l8 := ((h4 d d0 d1).1).2
      exact ⟨i, i0, i1, lvP_o (by decide) hb hl8 hp ⟨d0, d1⟩ ⟨i0, by clear g2 g3 g4 g5 g6 g7 g8 g9 g10 g11 h2 h3 h4 h5 h6 h7 h8 hp; grind⟩ hd, fun q => absurd q hd, fun _ => rfl⟩
  have e28 : ∀ i, gA S9 28 i = gA S 28 i := fun i => g3 28 i (by decide) (by decide)
  have nr : ∀ u, nR S u → nR S9 u := by
    intro u hu d i d0 d1 i0 i1
    obtain ⟨j, a1, a2, a3, -⟩ := key d i d0 d1 i0 i1
    rw [a3]; exact hu d j d0 d1 a1 a2
  refine ⟨⟨?_, ?_, ?_, ?_, ?_, ?_, ?_, ?_⟩, nr, ?_⟩
  · unfold iT; rw [g4, g4]; exact h1
  · intro u; rw [g3 12 _ (by decide) (by decide), g3 13 _ (by decide) (by decide), g3 15 _ (by decide) (by decide), g3 16 _ (by decide) (by decide), g3 21 _ (by decide) (by decide), g3 35 _ (by decide) (by decide)]
    intro u0 u1
    obtain ⟨a1, a2, a3⟩ := h2 u u0 u1
    refine ⟨a1, a2, fun q => ?_⟩
    obtain ⟨a4, i, a5, a6, a7⟩ := a3 q
    exact ⟨a4, i, a5, a6, by rw [g3 34 _ (by decide) (by decide)]; exact a7⟩
  · intro u k; rw [g3 11 _ (by decide) (by decide), g3 11 _ (by decide) (by decide), g3 12 _ (by decide) (by decide)]; exact h3 u k
  · intro d d0 d1
    obtain ⟨a1, a2, a3, a4⟩ := h4 d d0 d1
    rw [e28, g3 29 _ (by decide) (by decide), g3 31 _ (by decide) (by decide), g3 35 _ (by decide) (by decide), g3 37 _ (by decide) (by decide)]
    refine ⟨?_, a2, a3, a4⟩
    by_cases hd : d = b
    · subst hd; exact ⟨g1.1, by clear g2 g3 g4 g5 g6 g7 g8 g9 g10 g11 h2 h3 h4 h5 h6 h7 h8 hp key nr e28; grind⟩
    · rw [g2 d hd]; exact a1
  · intro d i d0 d1 i0 i1
    obtain ⟨j, a1, a2, a3, -⟩ := key d i d0 d1 i0 i1
    rw [a3]
    have m := h5 d j d0 d1 a1 a2
    unfold mem1 at m ⊢
    rw [g3 13 _ (by decide) (by decide), g3 16 _ (by decide) (by decide), g3 21 _ (by decide) (by decide), e28]
    exact m
  · intro d i f j d0 d1 i0 i1 f0 f1 j0 j1 he
    obtain ⟨i', a1, a2, a3, a4, a5⟩ := key d i d0 d1 i0 i1
    obtain ⟨j', b1, b2, b3, b4, b5⟩ := key f j f0 f1 j0 j1
    obtain ⟨c1, c2⟩ := h6 d i' f j' d0 d1 a1 a2 f0 f1 b1 b2 (by rw [← a3, ← b3]; exact he)
    subst c1
    refine ⟨rfl, ?_⟩
    by_cases hd : d = b
    · subst hd
      rcases (show i < j ∨ i = j ∨ j < i by clear g2 g3 g4 g5 g6 g7 g8 g9 g10 g11 h2 h3 h4 h5 h6 h7 h8 hp key nr e28 a3 a4 a5 b3 b4 b5 he; grind) with q | q | q
      · exact absurd he (g9 i j i0 q j1)
      · exact q
      · exact absurd he.symm (g9 j i j0 q i1)
    · rw [← a5 hd, ← b5 hd]; exact c2
  · intro d i; rw [g3 35 _ (by decide) (by decide), g3 34 _ (by decide) (by decide)]
    intro d0 d1 i0 i1
    have m := h7 d i d0 d1 i0 i1
    unfold mem2 at m ⊢
    rw [g3 13 _ (by decide) (by decide), g3 16 _ (by decide) (by decide), g3 21 _ (by decide) (by decide), g3 22 _ (by decide) (by decide), e28]
    exact m
  · intro d d0 d1 i j; rw [g3 35 _ (by decide) (by decide), g3 34 _ (by decide) (by decide), g3 34 _ (by decide) (by decide)]; exact h8 d d0 d1 i j
  · rintro ⟨i, i0, i1, i2⟩ d q d0 d1 q0 q1
    obtain ⟨j, a1, a2, a3, a4, -⟩ := key d q d0 d1 q0 q1
    by_cases hd : d = b
    · exact a4 hd
    · intro he
      exact hd (h6 d j b i d0 d1 a1 a2 hb.1 hb.2 i0 i1 (by rw [← a3, he, i2])).1
end
section
/-! the reference: what waiting, signalling and objects do to the invariant -/
theorem a_ne8 {b d i j : Int32} (hb : 0 ≤ b ∧ b < 24) (hd : 0 ≤ d ∧ d < 24) (hi : 0 ≤ i ∧ i < 8) (hj : 0 ≤ j ∧ j < 8) (h : 8 * d + i = 8 * b + j) : d = b ∧ i = j := by
  rcases (show d = b ∨ d ≠ b by grind) with q | q
  · subst q; exact ⟨rfl, by grind⟩
  · exfalso
    rcases (show d < b ∨ b < d by grind) with r | r
    · have h2 : d + 1 ≤ b := by grind
      grind
    · have h2 : b + 1 ≤ d := by grind
      grind
theorem rdis1 {S : mS} {b : Int32} (hb : 0 ≤ b ∧ b < 24) (hl : gA S 33 b ≤ 8) (h : iU S) : rdis S 32 33 b := by
  intro i j i0 ij jn e
  have hj : 0 ≤ j := by clear h; grind
  have hi : i < gA S 33 b := by clear h; grind
  have := (h b i b j hb.1 hb.2 i0 hi hb.1 hb.2 hj jn e).2
  clear h; grind
theorem roomW {S : mS} {b t : Int32} (hb : 0 ≤ b ∧ b < 24) (ht : 0 ≤ t ∧ t < 8) (h : mInv S) (hn : nR S t) : 0 ≤ gA S 33 b ∧ gA S 33 b < 8 := by
  obtain ⟨-, -, -, h4, h5, h6, -, -⟩ := h
  have hl := (h4 b hb.1 hb.2).1
  exact ⟨hl.1, room8 (kr := 32) (t := t) hb ht hl (fun i i0 i1 => ⟨(h5 b i hb.1 hb.2 i0 i1).1, (h5 b i hb.1 hb.2 i0 i1).2.1⟩) (rdis1 hb hl.2 h6) (fun i i0 i1 => hn b i hb.1 hb.2 i0 i1)⟩
theorem roomW2 {S : mS} {b t : Int32} (hb : 0 ≤ b ∧ b < 24) (ht : 0 ≤ t ∧ t < 8) (h : mInv S) (hn : gA S 21 t = 0) : 0 ≤ gA S 35 b ∧ gA S 35 b < 8 := by
  obtain ⟨-, -, -, h4, -, -, h7, h8⟩ := h
  have hl := (h4 b hb.1 hb.2).2.1
  refine ⟨hl.1, room8 (kr := 34) (t := t) hb ht hl (fun i i0 i1 => ⟨(h7 b i hb.1 hb.2 i0 i1).1, (h7 b i hb.1 hb.2 i0 i1).2.1⟩) (h8 b hb.1 hb.2) (fun i i0 i1 e => ?_)⟩
  have m := h7 b i hb.1 hb.2 i0 i1
  rw [e] at m
  exact m.2.2.2.2.1 hn
theorem wF_inv {S S9 : mS} {b t : Int32} (hb : 0 ≤ b ∧ b < 24) (ht : 0 ≤ t ∧ t < 8) (h : mInv S) (hn : nR S t) (h21 : gA S 21 t = 0) (hat : 0 ≤ gA S 15 t ∧ gA S 15 t < gA S 12 t ∧ gA S 12 t ≤ 60)
    (e : S9 = sA (sA (sA (sA S 13 t 2) 16 t b) 32 (8 * b + gA S 33 b) t) 33 b (gA S 33 b + 1)) : mInv S9 ∧ (∀ u, u ≠ t → nR S u → nR S9 u) := by
  have hL := roomW hb ht h hn
  obtain ⟨h1, h2, h3, h4, h5, h6, h7, h8⟩ := h
  have e13 : ∀ u, u ≠ t → gA S9 13 u = gA S 13 u := fun u hu => by rw [e]; simp [gA_sA, hu]
  have e16 : ∀ u, u ≠ t → gA S9 16 u = gA S 16 u := fun u hu => by rw [e]; simp [gA_sA, hu]
  have e13t : gA S9 13 t = 2 := by rw [e]; simp [gA_sA]
  have e16t : gA S9 16 t = b := by rw [e]; simp [gA_sA]
  have e32 : ∀ q, q ≠ 8 * b + gA S 33 b → gA S9 32 q = gA S 32 q := fun q hq => by rw [e]; simp [gA_sA, hq]
  have e32t : gA S9 32 (8 * b + gA S 33 b) = t := by rw [e]; simp [gA_sA]
  have e33 : ∀ d, d ≠ b → gA S9 33 d = gA S 33 d := fun d hd => by rw [e]; simp [gA_sA, hd]
  have e33b : gA S9 33 b = gA S 33 b + 1 := by rw [e]; simp [gA_sA]
  have eo : ∀ k q, k ≠ 13 → k ≠ 16 → k ≠ 32 → k ≠ 33 → gA S9 k q = gA S k q := fun k q a1 a2 a3 a4 => by rw [e]; simp [gA_sA, a1, a2, a3, a4]
  have eI : ∀ k, gI S9 k = gI S k := fun k => by rw [e]; rfl
  clear e
  -- an entry is the new one, or an old one
  have key : ∀ d i, 0 ≤ d → d < 24 → 0 ≤ i → i < gA S9 33 d → (d = b ∧ i = gA S 33 b ∧ gA S9 32 (8 * d + i) = t) ∨ (i < gA S 33 d ∧ gA S9 32 (8 * d + i) = gA S 32 (8 * d + i) ∧ gA S 32 (8 * d + i) ≠ t) := by
    intro d i d0 d1 i0 i1
    have l8 := (h4 d d0 d1).1
    by_cases hd : d = b
    · subst hd
      rw [e33b] at i1
      rcases (show i = gA S 33 d ∨ i < gA S 33 d by clear h2 h3 h4 h5 h6 h7 h8 eo e32 e33 e13 e16 hn eI; grind) with q | q
      · left; exact ⟨rfl, q, by rw [q]; exact e32t⟩
      · right; refine ⟨q, e32 _ (fun he => ?_), hn d i d0 d1 i0 q⟩
        have := (a_ne8 hb ⟨d0, d1⟩ ⟨i0, by clear h2 h3 h4 h5 h6 h7 h8 eo e32 e33 e13 e16 hn eI he; grind⟩ hL he).2
        clear h2 h3 h4 h5 h6 h7 h8 eo e32 e33 e13 e16 hn eI he; grind
    · rw [e33 d hd] at i1
      right; refine ⟨i1, e32 _ (fun he => ?_), hn d i d0 d1 i0 i1⟩
      exact hd (a_ne8 hb ⟨d0, d1⟩ ⟨i0, by clear h2 h3 h4 h5 h6 h7 h8 eo e32 e33 e13 e16 hn eI he; grind⟩ hL he).1
  refine ⟨⟨?_, ?_, ?_, ?_, ?_, ?_, ?_, ?_⟩, ?_⟩
  · unfold iT; rw [eI, eI]; exact h1
  · intro u u0 u1
    rw [eo 12 u (by decide) (by decide) (by decide) (by decide), eo 15 u (by decide) (by decide) (by decide) (by decide), eo 21 u (by decide) (by decide) (by decide) (by decide)]
    by_cases hu : u = t
    · subst hu; exact ⟨fun _ _ => hat, fun _ => by rw [e16t]; exact hb, fun q => absurd h21 q⟩
    · rw [e13 u hu, e16 u hu]
      obtain ⟨a1, a2, a3⟩ := h2 u u0 u1
      refine ⟨a1, a2, fun q => ?_⟩
      obtain ⟨a4, i, a5, a6, a7⟩ := a3 q
      exact ⟨a4, i, a5, by rw [eo 35 _ (by decide) (by decide) (by decide) (by decide)]; exact a6, by rw [eo 34 _ (by decide) (by decide) (by decide) (by decide)]; exact a7⟩
  · intro u k; rw [eo 11 _ (by decide) (by decide) (by decide) (by decide), eo 11 _ (by decide) (by decide) (by decide) (by decide), eo 12 _ (by decide) (by decide) (by decide) (by decide)]; exact h3 u k
  · intro d d0 d1
    obtain ⟨a1, a2, a3, a4⟩ := h4 d d0 d1
    rw [eo 28 _ (by decide) (by decide) (by decide) (by decide), eo 29 _ (by decide) (by decide) (by decide) (by decide), eo 31 _ (by decide) (by decide) (by decide) (by decide), eo 35 _ (by decide) (by decide) (by decide) (by decide), eo 37 _ (by decide) (by decide) (by decide) (by decide)]
    refine ⟨?_, a2, a3, a4⟩
    by_cases hd : d = b
    · subst hd; rw [e33b]; clear h2 h3 h4 h5 h6 h7 h8 eo e32 e33 e13 e16 hn eI key; grind
    · rw [e33 d hd]; exact a1
  · intro d i d0 d1 i0 i1
    rcases key d i d0 d1 i0 i1 with ⟨q1, q2, q3⟩ | ⟨q1, q2, q3⟩
    · rw [q3]
      refine ⟨ht.1, ht.2, by rw [eo 21 _ (by decide) (by decide) (by decide) (by decide)]; exact h21, Or.inl ⟨e13t, by rw [e16t, q1]⟩⟩
    · rw [q2]
      have m := h5 d i d0 d1 i0 q1
      unfold mem1 at m ⊢
      rw [e13 _ q3, e16 _ q3, eo 21 _ (by decide) (by decide) (by decide) (by decide), eo 28 _ (by decide) (by decide) (by decide) (by decide)]
      exact m
  · intro d i f j d0 d1 i0 i1 f0 f1 j0 j1 he
    rcases key d i d0 d1 i0 i1 with ⟨q1, q2, q3⟩ | ⟨q1, q2, q3⟩ <;> rcases key f j f0 f1 j0 j1 with ⟨r1, r2, r3⟩ | ⟨r1, r2, r3⟩
    · exact ⟨q1.trans r1.symm, q2.trans r2.symm⟩
    · rw [q3, r2] at he; exact absurd he.symm r3
    · rw [q2, r3] at he; exact absurd he q3
    · rw [q2, r2] at he; exact h6 d i f j d0 d1 i0 q1 f0 f1 j0 r1 he
  · intro d i; rw [eo 35 _ (by decide) (by decide) (by decide) (by decide), eo 34 _ (by decide) (by decide) (by decide) (by decide)]
    intro d0 d1 i0 i1
    have m := h7 d i d0 d1 i0 i1
    have hu : gA S 34 (8 * d + i) ≠ t := fun q => by unfold mem2 at m; rw [q] at m; exact m.2.2.2.2.1 h21
    unfold mem2 at m ⊢
    rw [e13 _ hu, e16 _ hu, eo 21 _ (by decide) (by decide) (by decide) (by decide), eo 22 _ (by decide) (by decide) (by decide) (by decide), eo 28 _ (by decide) (by decide) (by decide) (by decide)]
    exact m
  · intro d d0 d1 i j; rw [eo 35 _ (by decide) (by decide) (by decide) (by decide), eo 34 _ (by decide) (by decide) (by decide) (by decide), eo 34 _ (by decide) (by decide) (by decide) (by decide)]; exact h8 d d0 d1 i j
  · intro u hu hnu d i d0 d1 i0 i1
    rcases key d i d0 d1 i0 i1 with ⟨q1, q2, q3⟩ | ⟨q1, q2, q3⟩
    · rw [q3]; exact fun z => hu z.symm
    · rw [q2]; exact hnu d i d0 d1 i0 q1
/-- the first of a LOCK's row is made READY -/
theorem st1_inv {S S9 : mS} {b i t : Int32} (hb : 0 ≤ b ∧ b < 24) (h : mInv S) (hi : 0 ≤ i ∧ i < gA S 33 b) (et : gA S 32 (8 * b + i) = t) (hk : gA S 28 b = 1) (e : S9 = sA (sA S 13 t 1) 16 t (-1)) : mInv S9 := by
  obtain ⟨h1, h2, h3, h4, h5, h6, h7, h8⟩ := h
  have m := h5 b i hb.1 hb.2 hi.1 hi.2
  rw [et] at m
  obtain ⟨t0, t1, t21, -⟩ := id m
  have e13 : ∀ u, u ≠ t → gA S9 13 u = gA S 13 u := fun u hu => by rw [e]; simp [gA_sA, hu]
  have e16 : ∀ u, u ≠ t → gA S9 16 u = gA S 16 u := fun u hu => by rw [e]; simp [gA_sA, hu]
  have e13t : gA S9 13 t = 1 := by rw [e]; simp [gA_sA]
  have eo : ∀ k q, k ≠ 13 → k ≠ 16 → gA S9 k q = gA S k q := fun k q a1 a2 => by rw [e]; simp [gA_sA, a1, a2]
  have eI : ∀ k, gI S9 k = gI S k := fun k => by rw [e]; rfl
  clear e
  refine ⟨?_, ?_, ?_, ?_, ?_, ?_, ?_, ?_⟩
  · unfold iT; rw [eI, eI]; exact h1
  · intro u u0 u1
    rw [eo 12 u (by decide) (by decide), eo 15 u (by decide) (by decide), eo 21 u (by decide) (by decide)]
    by_cases hu : u = t
    · subst hu
      have a := (h2 u u0 u1).1
      have a12 : 1 ≤ gA S 13 u ∧ gA S 13 u ≤ 3 := by
        rcases m.2.2.2 with q | q <;> rw [q.1] <;> decide
      exact ⟨fun _ _ => a a12.1 a12.2, fun q => by rw [e13t] at q; exact absurd q (by decide), fun q => absurd t21 q⟩
    · rw [e13 u hu, e16 u hu]
      obtain ⟨a1, a2, a3⟩ := h2 u u0 u1
      refine ⟨a1, a2, fun q => ?_⟩
      obtain ⟨a4, j, a5, a6, a7⟩ := a3 q
      exact ⟨a4, j, a5, by rw [eo 35 _ (by decide) (by decide)]; exact a6, by rw [eo 34 _ (by decide) (by decide)]; exact a7⟩
  · intro u k; rw [eo 11 _ (by decide) (by decide), eo 11 _ (by decide) (by decide), eo 12 _ (by decide) (by decide)]; exact h3 u k
  · intro d; rw [eo 28 _ (by decide) (by decide), eo 29 _ (by decide) (by decide), eo 31 _ (by decide) (by decide), eo 33 _ (by decide) (by decide), eo 35 _ (by decide) (by decide), eo 37 _ (by decide) (by decide)]; exact h4 d
  · intro d j d0 d1 j0 j1
    rw [eo 33 _ (by decide) (by decide)] at j1
    rw [eo 32 _ (by decide) (by decide)]
    have m2 := h5 d j d0 d1 j0 j1
    by_cases hu : gA S 32 (8 * d + j) = t
    · have c := h6 d j b i d0 d1 j0 j1 hb.1 hb.2 hi.1 hi.2 (hu.trans et.symm)
      rw [hu]
      exact ⟨t0, t1, by rw [eo 21 _ (by decide) (by decide)]; exact t21, Or.inr ⟨e13t, by rw [eo 28 _ (by decide) (by decide), c.1]; exact hk⟩⟩
    · unfold mem1 at m2 ⊢
      rw [e13 _ hu, e16 _ hu, eo 21 _ (by decide) (by decide), eo 28 _ (by decide) (by decide)]
      exact m2
  · intro d j f q; rw [eo 33 _ (by decide) (by decide), eo 33 _ (by decide) (by decide), eo 32 _ (by decide) (by decide), eo 32 _ (by decide) (by decide)]; exact h6 d j f q
  · intro d j; rw [eo 35 _ (by decide) (by decide), eo 34 _ (by decide) (by decide)]
    intro d0 d1 j0 j1
    have m2 := h7 d j d0 d1 j0 j1
    have hu : gA S 34 (8 * d + j) ≠ t := fun q => by unfold mem2 at m2; rw [q] at m2; exact m2.2.2.2.2.1 t21
    unfold mem2 at m2 ⊢
    rw [e13 _ hu, e16 _ hu, eo 21 _ (by decide) (by decide), eo 22 _ (by decide) (by decide), eo 28 _ (by decide) (by decide)]
    exact m2
  · intro d d0 d1 x y; rw [eo 35 _ (by decide) (by decide), eo 34 _ (by decide) (by decide), eo 34 _ (by decide) (by decide)]; exact h8 d d0 d1 x y
end
section
/-! the reference: second rows and objects -/
/-- t is taken out of the second row of b and is no more in it -/
theorem s2_inv {S S1 S9 : mS} {b t : Int32} (hb : 0 ≤ b ∧ b < 24) (ht : 0 ≤ t ∧ t < 8) (h : mInv S) (h21 : gA S 21 t ≠ 0) (h16 : gA S 16 t = b) (hp : lvP S S1 34 35 b t) (e : S9 = sA S1 21 t 0) : mInv S9 ∧ (∀ u, nR S u → nR S9 u) ∧ nR S9 t := by
  obtain ⟨g1, g2, g3, g4, g5, g6, g7, g8, g9, g10, g11⟩ := lvP_f (by decide) hp
  obtain ⟨h1, h2, h3, h4, h5, h6, h7, h8⟩ := h
  have hl8 : gA S 35 b ≤ 8 := ((h4 b hb.1 hb.2).2.1).2
  have eo : ∀ k q, k ≠ 34 → k ≠ 35 → k ≠ 21 → gA S9 k q = gA S k q := fun k q a1 a2 a3 => by rw [e, gA_sA, if_neg a3]; exact g3 k q a1 a2
  have e34 : ∀ q, gA S9 34 q = gA S1 34 q := fun q => by rw [e]; simp [gA_sA]
  have e35 : ∀ q, gA S9 35 q = gA S1 35 q := fun q => by rw [e]; simp [gA_sA]
  have e21 : ∀ u, u ≠ t → gA S9 21 u = gA S 21 u := fun u hu => by rw [e, gA_sA, if_pos rfl, if_neg hu]; exact g3 21 u (by decide) (by decide)
  have e21t : gA S9 21 t = 0 := by rw [e]; simp [gA_sA]
  have eI : ∀ k, gI S9 k = gI S k := fun k => by rw [e]; exact g4 k
  clear e
  have key : ∀ d i, 0 ≤ d → d < 24 → 0 ≤ i → i < gA S1 35 d → ∃ j, 0 ≤ j ∧ j < gA S 35 d ∧ gA S1 34 (8 * d + i) = gA S 34 (8 * d + j) ∧ gA S 34 (8 * d + j) ≠ t := by
    intro d i d0 d1 i0 i1
    by_cases hd : d = b
    · subst hd
      obtain ⟨a1, j, a2, a3, a4⟩ := g8 i i0 i1
      exact ⟨j, a2, a3, a4, by rw [← a4]; exact a1⟩
    · rw [g2 d hd] at i1
      have l8 := ((h4 d d0 d1).2.1).2
      refine ⟨i, i0, i1, lvP_o (by decide) hb hl8 hp ⟨d0, d1⟩ ⟨i0, by clear g2 g3 g4 g5 g6 g7 g8 g9 g10 g11 h2 h3 h4 h5 h6 h7 h8 hp eo e34 e35 e21 eI; grind⟩ hd, fun q => ?_⟩
      have m := h7 d i d0 d1 i0 i1
      unfold mem2 at m
      rw [q] at m
      exact hd (m.2.2.2.1.symm.trans h16)
  have nr : ∀ u, nR S u → nR S9 u := by
    intro u hu d i; rw [eo 33 _ (by decide) (by decide) (by decide), eo 32 _ (by decide) (by decide) (by decide)]; exact hu d i
  refine ⟨⟨?_, ?_, ?_, ?_, ?_, ?_, ?_, ?_⟩, nr, nr t ?_⟩
  · unfold iT; rw [eI, eI]; exact h1
  · intro u u0 u1
    rw [eo 12 u (by decide) (by decide) (by decide), eo 13 u (by decide) (by decide) (by decide), eo 15 u (by decide) (by decide) (by decide), eo 16 u (by decide) (by decide) (by decide)]
    obtain ⟨a1, a2, a3⟩ := h2 u u0 u1
    refine ⟨a1, a2, fun q => ?_⟩
    by_cases hu : u = t
    · subst hu; exact absurd e21t q
    · rw [e21 u hu] at q
      obtain ⟨a4, i, a5, a6, a7⟩ := a3 q
      refine ⟨a4, ?_⟩
      obtain ⟨w0, w1⟩ := a2 a4
      by_cases hw : gA S 16 u = b
      · rw [hw] at a6 a7 ⊢
        obtain ⟨j, b1, b2, b3⟩ := g10 i a5 a6 (by rw [a7]; exact hu)
        exact ⟨j, b1, by rw [e35]; exact b2, by rw [e34, b3]; exact a7⟩
      · have l8 := ((h4 _ w0 w1).2.1).2
        refine ⟨i, a5, by rw [e35, g2 _ hw]; exact a6, ?_⟩
        rw [e34, lvP_o (by decide) hb hl8 hp ⟨w0, w1⟩ ⟨a5, by clear g2 g3 g4 g5 g6 g7 g8 g9 g10 g11 h2 h3 h4 h5 h6 h7 h8 hp eo e34 e35 e21 eI key nr a1 a2 a3; grind⟩ hw]
        exact a7
  · intro u k; rw [eo 11 _ (by decide) (by decide) (by decide), eo 11 _ (by decide) (by decide) (by decide), eo 12 _ (by decide) (by decide) (by decide)]; exact h3 u k
  · intro d d0 d1
    obtain ⟨a1, a2, a3, a4⟩ := h4 d d0 d1
    rw [eo 28 _ (by decide) (by decide) (by decide), eo 29 _ (by decide) (by decide) (by decide), eo 31 _ (by decide) (by decide) (by decide), eo 33 _ (by decide) (by decide) (by decide), eo 37 _ (by decide) (by decide) (by decide), e35]
    refine ⟨a1, ?_, a3, a4⟩
    by_cases hd : d = b
    · subst hd; exact ⟨g1.1, by clear g2 g3 g4 g5 g6 g7 g8 g9 g10 g11 h2 h3 h4 h5 h6 h7 h8 hp key nr eo e34 e35 e21 eI; grind⟩
    · rw [g2 d hd]; exact a2
  · intro d i; rw [eo 33 _ (by decide) (by decide) (by decide), eo 32 _ (by decide) (by decide) (by decide)]
    intro d0 d1 i0 i1
    have m := h5 d i d0 d1 i0 i1
    have hu : gA S 32 (8 * d + i) ≠ t := fun q => by unfold mem1 at m; rw [q] at m; exact h21 m.2.2.1
    unfold mem1 at m ⊢
    rw [eo 13 _ (by decide) (by decide) (by decide), eo 16 _ (by decide) (by decide) (by decide), eo 28 _ (by decide) (by decide) (by decide), e21 _ hu]
    exact m
  · intro d i f j; rw [eo 33 _ (by decide) (by decide) (by decide), eo 33 _ (by decide) (by decide) (by decide), eo 32 _ (by decide) (by decide) (by decide), eo 32 _ (by decide) (by decide) (by decide)]; exact h6 d i f j
  · intro d i d0 d1 i0 i1
    rw [e35] at i1
    obtain ⟨j, a1, a2, a3, a4⟩ := key d i d0 d1 i0 i1
    rw [e34, a3]
    have m := h7 d j d0 d1 a1 a2
    unfold mem2 at m ⊢
    rw [eo 13 _ (by decide) (by decide) (by decide), eo 16 _ (by decide) (by decide) (by decide), eo 22 _ (by decide) (by decide) (by decide), eo 28 _ (by decide) (by decide) (by decide), e21 _ a4]
    exact m
  · intro d d0 d1 i j i0 ij jn
    rw [e35] at jn
    rw [e34, e34]
    by_cases hd : d = b
    · subst hd; exact g9 i j i0 ij jn
    · rw [g2 d hd] at jn
      have l8 := ((h4 d d0 d1).2.1).2
      rw [lvP_o (by decide) hb hl8 hp ⟨d0, d1⟩ ⟨i0, by clear g2 g3 g4 g5 g6 g7 g8 g9 g10 g11 h2 h3 h4 h5 h6 h7 h8 hp key nr eo e34 e35 e21 eI; grind⟩ hd, lvP_o (by decide) hb hl8 hp ⟨d0, d1⟩ ⟨by clear g2 g3 g4 g5 g6 g7 g8 g9 g10 g11 h2 h3 h4 h5 h6 h7 h8 hp key nr eo e34 e35 e21 eI; grind, by clear g2 g3 g4 g5 g6 g7 g8 g9 g10 g11 h2 h3 h4 h5 h6 h7 h8 hp key nr eo e34 e35 e21 eI; grind⟩ hd]
      exact h8 d d0 d1 i j i0 ij jn
  · intro d i d0 d1 i0 i1 q
    have m := h5 d i d0 d1 i0 i1
    unfold mem1 at m
    rw [q] at m
    exact h21 m.2.2.1
/-- t goes into the second row of the LOCK b -/
theorem w2_inv {S S9 : mS} {b t : Int32} (hb : 0 ≤ b ∧ b < 24) (h : mInv S) (hf : fre S t) (hk : gA S 28 b = 1)
    (e13 : ∀ u, u ≠ t → gA S9 13 u = gA S 13 u) (e13t : gA S9 13 t = 2) (e16 : ∀ u, u ≠ t → gA S9 16 u = gA S 16 u) (e16t : gA S9 16 t = b) (e21 : ∀ u, u ≠ t → gA S9 21 u = gA S 21 u) (e21t : gA S9 21 t ≠ 0)
    (e22 : ∀ u, u ≠ t → gA S9 22 u = gA S 22 u) (e22t : gA S9 22 t ≠ 0) (e34 : ∀ q, q ≠ 8 * b + gA S 35 b → gA S9 34 q = gA S 34 q) (e34t : gA S9 34 (8 * b + gA S 35 b) = t) (e35 : ∀ d, d ≠ b → gA S9 35 d = gA S 35 d) (e35b : gA S9 35 b = gA S 35 b + 1)
    (eo : ∀ k q, k = 11 ∨ k = 12 ∨ k = 15 ∨ k = 28 ∨ k = 29 ∨ k = 31 ∨ k = 32 ∨ k = 33 ∨ k = 37 → gA S9 k q = gA S k q) (eI : ∀ k, gI S9 k = gI S k) : mInv S9 ∧ (∀ u, nR S u → nR S9 u) := by
  obtain ⟨ht, t13, t21, hn⟩ := hf
  have hL := roomW2 hb ht h t21
  obtain ⟨h1, h2, h3, h4, h5, h6, h7, h8⟩ := h
  have o11 : ∀ q, gA S9 11 q = gA S 11 q := fun q => eo 11 q (by simp)
  have o12 : ∀ q, gA S9 12 q = gA S 12 q := fun q => eo 12 q (by simp)
  have o15 : ∀ q, gA S9 15 q = gA S 15 q := fun q => eo 15 q (by simp)
  have o28 : ∀ q, gA S9 28 q = gA S 28 q := fun q => eo 28 q (by simp)
  have o29 : ∀ q, gA S9 29 q = gA S 29 q := fun q => eo 29 q (by simp)
  have o31 : ∀ q, gA S9 31 q = gA S 31 q := fun q => eo 31 q (by simp)
  have o32 : ∀ q, gA S9 32 q = gA S 32 q := fun q => eo 32 q (by simp)
  have o33 : ∀ q, gA S9 33 q = gA S 33 q := fun q => eo 33 q (by simp)
  have o37 : ∀ q, gA S9 37 q = gA S 37 q := fun q => eo 37 q (by simp)
  clear eo
  -- t stands in no second row yet
  have nt : ∀ d i, 0 ≤ d → d < 24 → 0 ≤ i → i < gA S 35 d → gA S 34 (8 * d + i) ≠ t := fun d i d0 d1 i0 i1 q => by
    have m := h7 d i d0 d1 i0 i1
    unfold mem2 at m
    rw [q] at m
    exact m.2.2.2.2.1 t21
  have old : ∀ d i, 0 ≤ d → d < 24 → 0 ≤ i → i < gA S 35 d → gA S9 34 (8 * d + i) = gA S 34 (8 * d + i) := by
    intro d i d0 d1 i0 i1
    refine e34 _ (fun he => ?_)
    have l8 := (h4 d d0 d1).2.1
    have c := a_ne8 hb ⟨d0, d1⟩ ⟨i0, by clear h2 h3 h4 h5 h6 h7 h8 e13 e16 e21 e22 e34 e35 o11 o12 o15 o28 o29 o31 o32 o33 o37 nt hn eI he; grind⟩ hL he
    obtain ⟨c1, c2⟩ := c
    subst c1
    clear h2 h3 h4 h5 h6 h7 h8 e13 e16 e21 e22 e34 e35 o11 o12 o15 o28 o29 o31 o32 o33 o37 nt hn eI he; grind
  have key : ∀ d i, 0 ≤ d → d < 24 → 0 ≤ i → i < gA S9 35 d → (d = b ∧ i = gA S 35 b ∧ gA S9 34 (8 * d + i) = t) ∨ (i < gA S 35 d ∧ gA S9 34 (8 * d + i) = gA S 34 (8 * d + i)) := by
    intro d i d0 d1 i0 i1
    by_cases hd : d = b
    · subst hd
      rw [e35b] at i1
      rcases (show i = gA S 35 d ∨ i < gA S 35 d by clear h2 h3 h4 h5 h6 h7 h8 e13 e16 e21 e22 e34 e35 o11 o12 o15 o28 o29 o31 o32 o33 o37 nt hn eI old; grind) with q | q
      · left; exact ⟨rfl, q, by rw [q]; exact e34t⟩
      · right; exact ⟨q, old d i d0 d1 i0 q⟩
    · rw [e35 d hd] at i1
      right; exact ⟨i1, old d i d0 d1 i0 i1⟩
  have nr : ∀ u, nR S u → nR S9 u := fun u hu d i => by rw [o33, o32]; exact hu d i
  refine ⟨⟨?_, ?_, ?_, ?_, ?_, ?_, ?_, ?_⟩, nr⟩
  · unfold iT; rw [eI, eI]; exact h1
  · intro u u0 u1
    rw [o12, o15]
    by_cases hu : u = t
    · subst hu
      have a := (h2 u u0 u1).1 (by rw [t13]; decide) (by rw [t13]; decide)
      refine ⟨fun _ _ => a, fun _ => by rw [e16t]; exact hb, fun _ => ⟨e13t, gA S 35 b, hL.1, ?_, ?_⟩⟩
      · rw [e16t, e35b]; clear h2 h3 h4 h5 h6 h7 h8 e13 e16 e21 e22 e34 e35 o11 o12 o15 o28 o29 o31 o32 o33 o37 nt hn eI old key nr; grind
      · rw [e16t]; exact e34t
    · rw [e13 u hu, e16 u hu, e21 u hu]
      obtain ⟨a1, a2, a3⟩ := h2 u u0 u1
      refine ⟨a1, a2, fun q => ?_⟩
      obtain ⟨a4, i, a5, a6, a7⟩ := a3 q
      obtain ⟨w0, w1⟩ := a2 a4
      refine ⟨a4, i, a5, ?_, by rw [old _ i w0 w1 a5 a6]; exact a7⟩
      by_cases hw : gA S 16 u = b
      · rw [hw] at a6 ⊢; rw [e35b]; clear h2 h3 h4 h5 h6 h7 h8 e13 e16 e21 e22 e34 e35 o11 o12 o15 o28 o29 o31 o32 o33 o37 nt hn eI old key nr a1 a2 a3 a7; grind
      · rw [e35 _ hw]; exact a6
  · intro u k; rw [o11, o11, o12]; exact h3 u k
  · intro d d0 d1
    obtain ⟨a1, a2, a3, a4⟩ := h4 d d0 d1
    rw [o28, o29, o31, o33, o37]
    refine ⟨a1, ?_, a3, a4⟩
    by_cases hd : d = b
    · subst hd; rw [e35b]; clear h2 h3 h4 h5 h6 h7 h8 e13 e16 e21 e22 e34 e35 o11 o12 o15 o28 o29 o31 o32 o33 o37 nt hn eI old key nr; grind
    · rw [e35 d hd]; exact a2
  · intro d i; rw [o33, o32]
    intro d0 d1 i0 i1
    have m := h5 d i d0 d1 i0 i1
    have hu := hn d i d0 d1 i0 i1
    unfold mem1 at m ⊢
    rw [e13 _ hu, e16 _ hu, e21 _ hu, o28]
    exact m
  · intro d i f j; rw [o33, o33, o32, o32]; exact h6 d i f j
  · intro d i d0 d1 i0 i1
    rcases key d i d0 d1 i0 i1 with ⟨q1, q2, q3⟩ | ⟨q1, q2⟩
    · rw [q3]; exact ⟨ht.1, ht.2, e13t, by rw [e16t, q1], e21t, e22t, by rw [o28, q1]; exact hk⟩
    · rw [q2]
      have m := h7 d i d0 d1 i0 q1
      have hu := nt d i d0 d1 i0 q1
      unfold mem2 at m ⊢
      rw [e13 _ hu, e16 _ hu, e21 _ hu, e22 _ hu, o28]
      exact m
  · intro d d0 d1 i j i0 ij jn
    have j0 : 0 ≤ j := by clear h2 h3 h4 h5 h6 h7 h8 e13 e16 e21 e22 e34 e35 o11 o12 o15 o28 o29 o31 o32 o33 o37 nt hn eI old key nr; grind
    rcases key d j d0 d1 j0 jn with ⟨q1, q2, q3⟩ | ⟨q1, q2⟩
    · have i1 : i < gA S 35 d := by rw [q1, ← q2]; exact ij
      rw [q3, old d i d0 d1 i0 i1]
      exact nt d i d0 d1 i0 i1
    · have i1 : i < gA S 35 d := by clear h2 h3 h4 h5 h6 h7 h8 e13 e16 e21 e22 e34 e35 o11 o12 o15 o28 o29 o31 o32 o33 o37 nt hn eI old key nr q2; grind
      rw [q2, old d i d0 d1 i0 i1]
      exact h8 d d0 d1 i j i0 ij q1
/-- an object whose rows are empty afterwards, made or dropped -/
theorem ob_inv {S S9 : mS} {b : Int32} (hb : 0 ≤ b ∧ b < 24) (h : mInv S) (hk : gA S 28 b ≠ 1 ∨ gA S 35 b = 0)
    (e33 : gA S9 33 b = 0) (e35 : gA S9 35 b = 0) (e31 : -1 ≤ gA S9 31 b ∧ gA S9 31 b < 8) (e5 : gA S9 28 b = 5 → 0 ≤ gA S9 37 b ∧ gA S9 37 b ≤ gA S9 29 b ∧ gA S9 29 b ≤ 100)
    (f1 : ∀ k q, k = 11 ∨ k = 12 ∨ k = 13 ∨ k = 15 ∨ k = 16 ∨ k = 21 ∨ k = 22 ∨ k = 32 ∨ k = 34 → gA S9 k q = gA S k q)
    (f2 : ∀ k d, k = 28 ∨ k = 29 ∨ k = 31 ∨ k = 33 ∨ k = 35 ∨ k = 37 → d ≠ b → gA S9 k d = gA S k d) (hT : iT S9) : mInv S9 := by
  obtain ⟨-, h2, h3, h4, h5, h6, h7, h8⟩ := h
  have o11 : ∀ q, gA S9 11 q = gA S 11 q := fun q => f1 11 q (by simp)
  have o12 : ∀ q, gA S9 12 q = gA S 12 q := fun q => f1 12 q (by simp)
  have o13 : ∀ q, gA S9 13 q = gA S 13 q := fun q => f1 13 q (by simp)
  have o15 : ∀ q, gA S9 15 q = gA S 15 q := fun q => f1 15 q (by simp)
  have o16 : ∀ q, gA S9 16 q = gA S 16 q := fun q => f1 16 q (by simp)
  have o21 : ∀ q, gA S9 21 q = gA S 21 q := fun q => f1 21 q (by simp)
  have o22 : ∀ q, gA S9 22 q = gA S 22 q := fun q => f1 22 q (by simp)
  have o32 : ∀ q, gA S9 32 q = gA S 32 q := fun q => f1 32 q (by simp)
  have o34 : ∀ q, gA S9 34 q = gA S 34 q := fun q => f1 34 q (by simp)
  have no : ∀ i : Int32, 0 ≤ i → i < 0 → False := fun i i0 i1 => by clear h2 h3 h4 h5 h6 h7 h8 f1 f2 o11 o12 o13 o15 o16 o21 o22 o32 o34; grind
  refine ⟨hT, ?_, ?_, ?_, ?_, ?_, ?_, ?_⟩
  · intro u u0 u1
    rw [o12, o13, o15, o16, o21]
    obtain ⟨a1, a2, a3⟩ := h2 u u0 u1
    refine ⟨a1, a2, fun q => ?_⟩
    obtain ⟨a4, i, a5, a6, a7⟩ := a3 q
    obtain ⟨w0, w1⟩ := a2 a4
    have hw : gA S 16 u ≠ b := fun hw => by
      rw [hw] at a6
      rcases hk with k | k
      · exact k (h7 b i hb.1 hb.2 a5 a6).2.2.2.2.2.2
      · rw [k] at a6; exact no i a5 a6
    exact ⟨a4, i, a5, by rw [f2 35 _ (by simp) hw]; exact a6, by rw [o34]; exact a7⟩
  · intro u k; rw [o11, o11, o12]; exact h3 u k
  · intro d d0 d1
    by_cases hd : d = b
    · subst hd; rw [e33, e35]; exact ⟨by decide, by decide, e31, e5⟩
    · rw [f2 28 d (by simp) hd, f2 29 d (by simp) hd, f2 31 d (by simp) hd, f2 33 d (by simp) hd, f2 35 d (by simp) hd, f2 37 d (by simp) hd]; exact h4 d d0 d1
  · intro d i d0 d1 i0 i1
    by_cases hd : d = b
    · subst hd; rw [e33] at i1; exact (no i i0 i1).elim
    · rw [f2 33 d (by simp) hd] at i1
      have m := h5 d i d0 d1 i0 i1
      unfold mem1 at m ⊢
      rw [o32, o13, o16, o21, f2 28 d (by simp) hd]
      exact m
  · intro d i f j d0 d1 i0 i1 f0 f1 j0 j1 he
    by_cases hd : d = b
    · subst hd; rw [e33] at i1; exact (no i i0 i1).elim
    · by_cases hf : f = b
      · subst hf; rw [e33] at j1; exact (no j j0 j1).elim
      · rw [f2 33 d (by simp) hd] at i1
        rw [f2 33 f (by simp) hf] at j1
        rw [o32, o32] at he
        exact h6 d i f j d0 d1 i0 i1 f0 f1 j0 j1 he
  · intro d i d0 d1 i0 i1
    by_cases hd : d = b
    · subst hd; rw [e35] at i1; exact (no i i0 i1).elim
    · rw [f2 35 d (by simp) hd] at i1
      have m := h7 d i d0 d1 i0 i1
      unfold mem2 at m ⊢
      rw [o34, o13, o16, o21, o22, f2 28 d (by simp) hd]
      exact m
  · intro d d0 d1 i j i0 ij jn
    by_cases hd : d = b
    · subst hd; rw [e35] at jn; exact (no j (by clear h2 h3 h4 h5 h6 h7 h8 f1 f2 o11 o12 o13 o15 o16 o21 o22 o32 o34 no; grind) jn).elim
    · rw [f2 35 d (by simp) hd] at jn
      rw [o34, o34]
      exact h8 d d0 d1 i j i0 ij jn
/-- owner and first of an object change -/
theorem ow_inv {S S9 : mS} {b : Int32} (h : mInv S) (e31 : -1 ≤ gA S9 31 b ∧ gA S9 31 b < 8) (e5 : gA S 28 b = 5 → 0 ≤ gA S9 37 b ∧ gA S9 37 b ≤ gA S9 29 b ∧ gA S9 29 b ≤ 100)
    (f1 : ∀ k q, smK k → k ≠ 29 → k ≠ 31 → k ≠ 37 → gA S9 k q = gA S k q) (f2 : ∀ k d, k = 29 ∨ k = 31 ∨ k = 37 → d ≠ b → gA S9 k d = gA S k d) (hT : iT S9) : mInv S9 := by
  obtain ⟨-, h2, h3, h4, h5, h6, h7, h8⟩ := h
  have o11 : ∀ q, gA S9 11 q = gA S 11 q := fun q => f1 11 q (by simp [smK]) (by decide) (by decide) (by decide)
  have o12 : ∀ q, gA S9 12 q = gA S 12 q := fun q => f1 12 q (by simp [smK]) (by decide) (by decide) (by decide)
  have o13 : ∀ q, gA S9 13 q = gA S 13 q := fun q => f1 13 q (by simp [smK]) (by decide) (by decide) (by decide)
  have o15 : ∀ q, gA S9 15 q = gA S 15 q := fun q => f1 15 q (by simp [smK]) (by decide) (by decide) (by decide)
  have o16 : ∀ q, gA S9 16 q = gA S 16 q := fun q => f1 16 q (by simp [smK]) (by decide) (by decide) (by decide)
  have o21 : ∀ q, gA S9 21 q = gA S 21 q := fun q => f1 21 q (by simp [smK]) (by decide) (by decide) (by decide)
  have o22 : ∀ q, gA S9 22 q = gA S 22 q := fun q => f1 22 q (by simp [smK]) (by decide) (by decide) (by decide)
  have o28 : ∀ q, gA S9 28 q = gA S 28 q := fun q => f1 28 q (by simp [smK]) (by decide) (by decide) (by decide)
  have o32 : ∀ q, gA S9 32 q = gA S 32 q := fun q => f1 32 q (by simp [smK]) (by decide) (by decide) (by decide)
  have o33 : ∀ q, gA S9 33 q = gA S 33 q := fun q => f1 33 q (by simp [smK]) (by decide) (by decide) (by decide)
  have o34 : ∀ q, gA S9 34 q = gA S 34 q := fun q => f1 34 q (by simp [smK]) (by decide) (by decide) (by decide)
  have o35 : ∀ q, gA S9 35 q = gA S 35 q := fun q => f1 35 q (by simp [smK]) (by decide) (by decide) (by decide)
  refine ⟨hT, ?_, ?_, ?_, ?_, ?_, ?_, ?_⟩
  · intro t; simp only [o12, o13, o15, o16, o21, o34, o35]; exact h2 t
  · intro t k; simp only [o11, o12]; exact h3 t k
  · intro d d0 d1
    obtain ⟨a1, a2, a3, a4⟩ := h4 d d0 d1
    rw [o28, o33, o35]
    by_cases hd : d = b
    · subst hd; exact ⟨a1, a2, e31, e5⟩
    · rw [f2 29 d (by simp) hd, f2 31 d (by simp) hd, f2 37 d (by simp) hd]; exact ⟨a1, a2, a3, a4⟩
  · intro b i; simp only [mem1, o13, o16, o21, o28, o32, o33]; exact h5 b i
  · intro b i d j; simp only [o32, o33]; exact h6 b i d j
  · intro b i; simp only [mem2, o13, o16, o21, o22, o28, o34, o35]; exact h7 b i
  · intro b b0 b1; unfold rdis; simp only [o34, o35]; exact h8 b b0 b1
end
section
/-! the reference: steps that keep the invariant, and those that stand in no row -/
def stp (S S9 : mS) : Prop := mInv S9 ∧ (∀ k, gI S9 k = gI S k) ∧ (∀ k i, k = 11 ∨ k = 12 ∨ k = 28 → gA S9 k i = gA S k i) ∧
  (∀ u, 0 ≤ u → u < 8 → nR S u → gA S 21 u = 0 → nR S9 u ∧ gA S9 13 u = gA S 13 u ∧ gA S9 15 u = gA S 15 u ∧ gA S9 21 u = 0)
theorem stp_rf {S : mS} (h : mInv S) : stp S S := ⟨h, fun _ => rfl, fun _ _ _ => rfl, fun _ _ _ a b => ⟨a, rfl, rfl, b⟩⟩
theorem stp_tr {S S1 S2 : mS} (a : stp S S1) (b : stp S1 S2) : stp S S2 := by
  obtain ⟨a1, a2, a3, a4⟩ := a
  obtain ⟨b1, b2, b3, b4⟩ := b
  refine ⟨b1, fun k => (b2 k).trans (a2 k), fun k i h => (b3 k i h).trans (a3 k i h), fun u u0 u1 hn h21 => ?_⟩
  obtain ⟨c1, c2, c3, c4⟩ := a4 u u0 u1 hn h21
  obtain ⟨d1, d2, d3, d4⟩ := b4 u u0 u1 c1 c4
  exact ⟨d1, d2.trans c2, d3.trans c3, d4⟩
theorem iT_of {S S9 : mS} (h : mInv S) (hI : ∀ k, gI S9 k = gI S k) : iT S9 := by
  unfold iT; rw [hI, hI]; exact h.1
theorem stp_sm {S S9 : mS} (h : mInv S) (hI : ∀ k, gI S9 k = gI S k) (hs : ∀ k i, smK k → gA S9 k i = gA S k i) : stp S S9 := by
  refine ⟨mInv_sm h (iT_of h hI) hs, hI, fun k i hk => hs k i (by rcases hk with rfl | rfl | rfl <;> simp [smK]), fun u _ _ hn h21 => ⟨fun d i => ?_, hs 13 u (by simp [smK]), hs 15 u (by simp [smK]), (hs 21 u (by simp [smK])).trans h21⟩⟩
  rw [hs 33 d (by simp [smK]), hs 32 _ (by simp [smK])]; exact hn d i
theorem stp_ow {S S9 : mS} {b : Int32} (h : mInv S) (hI : ∀ k, gI S9 k = gI S k) (e31 : -1 ≤ gA S9 31 b ∧ gA S9 31 b < 8) (e5 : gA S 28 b = 5 → 0 ≤ gA S9 37 b ∧ gA S9 37 b ≤ gA S9 29 b ∧ gA S9 29 b ≤ 100)
    (f1 : ∀ k q, smK k → k ≠ 29 → k ≠ 31 → k ≠ 37 → gA S9 k q = gA S k q) (f2 : ∀ k d, k = 29 ∨ k = 31 ∨ k = 37 → d ≠ b → gA S9 k d = gA S k d) : stp S S9 := by
  refine ⟨ow_inv h e31 e5 f1 f2 (iT_of h hI), hI, fun k i hk => f1 k i (by rcases hk with rfl | rfl | rfl <;> simp [smK]) (by rcases hk with rfl | rfl | rfl <;> decide) (by rcases hk with rfl | rfl | rfl <;> decide) (by rcases hk with rfl | rfl | rfl <;> decide), fun u _ _ hn h21 => ⟨fun d i => ?_, f1 13 u (by simp [smK]) (by decide) (by decide) (by decide), f1 15 u (by simp [smK]) (by decide) (by decide) (by decide), (f1 21 u (by simp [smK]) (by decide) (by decide) (by decide)).trans h21⟩⟩
  rw [f1 33 d (by simp [smK]) (by decide) (by decide) (by decide), f1 32 _ (by simp [smK]) (by decide) (by decide) (by decide)]; exact hn d i
/-- a thread in no row: where it stands -/
theorem at_of {S : mS} {t : Int32} (h : mInv S) (ht : 0 ≤ t ∧ t < 8) (h13 : gA S 13 t = 1 ∨ gA S 13 t = 2 ∨ gA S 13 t = 3) : 0 ≤ gA S 15 t ∧ gA S 15 t < gA S 12 t ∧ gA S 12 t ≤ 60 :=
  (h.2.1 t ht.1 ht.2).1 (by rcases h13 with q | q | q <;> rw [q] <;> decide) (by rcases h13 with q | q | q <;> rw [q] <;> decide)
theorem lines_of {S S9 : mS} {t : Int32} (h : mInv S) (ht : 0 ≤ t ∧ t < 8) (e11 : ∀ i, gA S9 11 i = gA S 11 i) (e12 : gA S9 12 t = gA S 12 t) : ∀ k, 0 ≤ k → k < 60 → k < gA S9 12 t → 2 ≤ gA S9 11 (240 * t + 4 * k) → gA S9 11 (240 * t + 4 * k) ≤ 4 → 0 ≤ gA S9 11 (240 * t + 4 * k + 1) := by
  intro k; rw [e11, e11, e12]; exact fun k0 k1 => h.2.2.1 t k ht.1 ht.2 k0 k1
/-- state, place and what it waits for of a thread in no row change -/
theorem th_inv {S S9 : mS} {t : Int32} (h : mInv S) (ht : 0 ≤ t ∧ t < 8) (hn : nR S t) (h21 : gA S 21 t = 0) (hI : ∀ k, gI S9 k = gI S k)
    (fo : ∀ k i, smK k → k ≠ 13 → k ≠ 15 → k ≠ 16 → gA S9 k i = gA S k i) (ft : ∀ k u, k = 13 ∨ k = 15 ∨ k = 16 → u ≠ t → gA S9 k u = gA S k u)
    (q1 : 1 ≤ gA S9 13 t → gA S9 13 t ≤ 3 → 0 ≤ gA S9 15 t ∧ gA S9 15 t < gA S 12 t ∧ gA S 12 t ≤ 60) (q2 : gA S9 13 t = 2 → 0 ≤ gA S9 16 t ∧ gA S9 16 t < 24) : mInv S9 ∧ (∀ u, nR S u → nR S9 u) := by
  have e12 : ∀ i, gA S9 12 i = gA S 12 i := fun i => fo 12 i (by simp [smK]) (by decide) (by decide) (by decide)
  have e11 : ∀ i, gA S9 11 i = gA S 11 i := fun i => fo 11 i (by simp [smK]) (by decide) (by decide) (by decide)
  have e21 : ∀ i, gA S9 21 i = gA S 21 i := fun i => fo 21 i (by simp [smK]) (by decide) (by decide) (by decide)
  have e22 : ∀ i, gA S9 22 i = gA S 22 i := fun i => fo 22 i (by simp [smK]) (by decide) (by decide) (by decide)
  refine ⟨mInv_loc h (iT_of h hI) ht hn h21 ((e21 t).trans h21) ?_ ?_ (fun u q _ _ _ _ _ => e11 _) ?_ q2 (lines_of h ht e11 (e12 t)), fun u hu d i => ?_⟩
  · intro k i hk
    rcases hk with rfl | rfl | rfl | rfl | rfl | rfl | rfl | rfl <;> exact fo _ i (by simp [smK]) (by decide) (by decide) (by decide)
  · intro k u hk hu
    rcases hk with rfl | rfl | rfl | rfl | rfl | rfl
    · exact e12 u
    · exact ft 13 u (by simp) hu
    · exact ft 15 u (by simp) hu
    · exact ft 16 u (by simp) hu
    · exact e21 u
    · exact e22 u
  · rw [e12]; exact q1
  · rw [fo 33 d (by simp [smK]) (by decide) (by decide) (by decide), fo 32 _ (by simp [smK]) (by decide) (by decide) (by decide)]; exact hu d i
theorem gO_inv {S S9 : mS} {t : Int32} (h : mInv S) (ht : 0 ≤ t ∧ t < 8) (hn : nR S t) (h21 : gA S 21 t = 0) (h13 : gA S 13 t = 1 ∨ gA S 13 t = 2 ∨ gA S 13 t = 3)
    (e : S9 = sA (sA (sA S 16 t (-1)) 15 t (gA S 15 t + 1)) 13 t (if gA S 12 t ≤ gA S 15 t + 1 then 4 else 1)) : mInv S9 ∧ (∀ u, nR S u → nR S9 u) ∧ (∀ k i, k ≠ 13 → k ≠ 15 → k ≠ 16 → gA S9 k i = gA S k i) ∧ (∀ k u, u ≠ t → gA S9 k u = gA S k u) ∧ (∀ k, gI S9 k = gI S k) := by
  have hat := at_of h ht h13
  have eo : ∀ k i, k ≠ 13 → k ≠ 15 → k ≠ 16 → gA S9 k i = gA S k i := fun k i a1 a2 a3 => by rw [e]; simp [gA_sA, a1, a2, a3]
  have eu : ∀ k u, u ≠ t → gA S9 k u = gA S k u := fun k u hu => by rw [e]; simp [gA_sA, hu]
  have eI : ∀ k, gI S9 k = gI S k := fun k => by rw [e]; rfl
  have e15 : gA S9 15 t = gA S 15 t + 1 := by rw [e]; simp [gA_sA]
  have e13 : gA S9 13 t = if gA S 12 t ≤ gA S 15 t + 1 then 4 else 1 := by rw [e]; simp [gA_sA]
  have r := th_inv h ht hn h21 eI (fun k i _ a1 a2 a3 => eo k i a1 a2 a3) (fun k u _ hu => eu k u hu) (by rw [e13, e15]; clear eo eu eI e e15 e13 hn h21 h; split <;> grind) (by rw [e13]; clear eo eu eI e e15 e13 hn h21 h; split <;> intro q <;> exact absurd q (by decide))
  exact ⟨r.1, r.2, eo, eu, eI⟩
theorem pre_lv {S : mS} {b : Int32} (hb : 0 ≤ b ∧ b < 24) (h : mInv S) : 0 ≤ gA S 33 b ∧ gA S 33 b ≤ 8 := (h.2.2.2.1 b hb.1 hb.2).1
theorem rd_lv {S : mS} {b : Int32} (hb : 0 ≤ b ∧ b < 24) (h : mInv S) : rdis S 32 33 b := rdis1 hb (pre_lv hb h).2 h.2.2.2.2.2.1
/-- one that stands in the row of b -/
theorem in_row {S : mS} {b t : Int32} (hb : 0 ≤ b ∧ b < 24) (h : mInv S) (hi : ∃ i, 0 ≤ i ∧ i < gA S 33 b ∧ gA S 32 (8 * b + i) = t) : (0 ≤ t ∧ t < 8) ∧ gA S 21 t = 0 ∧ (gA S 13 t = 1 ∨ gA S 13 t = 2 ∨ gA S 13 t = 3) := by
  obtain ⟨i, i0, i1, i2⟩ := hi
  have m := h.2.2.2.2.1 b i hb.1 hb.2 i0 i1
  rw [i2] at m
  exact ⟨⟨m.1, m.2.1⟩, m.2.2.1, by rcases m.2.2.2 with q | q; exact Or.inr (Or.inl q.1); exact Or.inl q.1⟩
theorem not_in {S : mS} {b t u : Int32} (hb : 0 ≤ b ∧ b < 24) (hi : ∃ i, 0 ≤ i ∧ i < gA S 33 b ∧ gA S 32 (8 * b + i) = t) (hu : nR S u) : u ≠ t := by
  obtain ⟨i, i0, i1, i2⟩ := hi
  intro e; subst e; exact hu b i hb.1 hb.2 i0 i1 i2
/-- t, of the row of b, leaves it and goes on -/
theorem lg_inv {S S1 S2 : mS} {b t : Int32} (hb : 0 ≤ b ∧ b < 24) (h : mInv S) (hi : ∃ i, 0 ≤ i ∧ i < gA S 33 b ∧ gA S 32 (8 * b + i) = t) (hp : lvP S S1 32 33 b t)
    (e : S2 = sA (sA (sA S1 16 t (-1)) 15 t (gA S1 15 t + 1)) 13 t (if gA S1 12 t ≤ gA S1 15 t + 1 then 4 else 1)) :
    stp S S2 ∧ (0 ≤ gA S2 33 b ∧ gA S2 33 b < gA S 33 b) ∧ (∀ k i, k ≠ 13 → k ≠ 15 → k ≠ 16 → k ≠ 32 → k ≠ 33 → gA S2 k i = gA S k i) := by
  obtain ⟨ht, h21, h13⟩ := in_row hb h hi
  obtain ⟨l1, l2, l3⟩ := lv_inv hb h hp
  obtain ⟨g1, g2, g3, g4, g5, g6, g7, g8, g9, g10, g11⟩ := lvP_f (by decide) hp
  have x21 : gA S1 21 t = 0 := (g3 21 t (by decide) (by decide)).trans h21
  have x13 : gA S1 13 t = 1 ∨ gA S1 13 t = 2 ∨ gA S1 13 t = 3 := by rw [g3 13 t (by decide) (by decide)]; exact h13
  obtain ⟨r1, r2, r3, r4, r5⟩ := gO_inv l1 ht (l3 hi) x21 x13 e
  refine ⟨⟨r1, fun k => (r5 k).trans (g4 k), ?_, ?_⟩, ?_, ?_⟩
  · intro k i hk
    rcases hk with rfl | rfl | rfl <;> rw [r3 _ i (by decide) (by decide) (by decide), g3 _ i (by decide) (by decide)]
  · intro u u0 u1 hn hu21
    have hne := not_in hb hi hn
    refine ⟨r2 u (l2 u hn), ?_, ?_, ?_⟩
    · rw [r4 13 u hne, g3 13 u (by decide) (by decide)]
    · rw [r4 15 u hne, g3 15 u (by decide) (by decide)]
    · rw [r4 21 u hne, g3 21 u (by decide) (by decide)]; exact hu21
  · rw [r3 33 b (by decide) (by decide) (by decide)]
    obtain ⟨i, i0, i1, i2⟩ := hi
    have := g11 i i0 i1 i2
    have l8 := pre_lv hb h
    refine ⟨g1.1, ?_⟩
    clear g2 g3 g4 g5 g6 g7 g8 g9 g10 g11 l1 l2 l3 r1 r2 r3 r4 r5 h hp e; grind
  · intro k i a1 a2 a3 a4 a5
    rw [r3 k i a1 a2 a3, g3 k i a4 a5]
/-- afterWait of one that is in no second row -/
theorem aw_inv {S S9 : mS} {t y : Int32} (h : mInv S) (h21 : gA S 21 t = 0) (hI : ∀ k, gI S9 k = gI S k) (hs : ∀ k i, smK k → k ≠ 22 → gA S9 k i = gA S k i) (h22 : ∀ u, u ≠ t → gA S9 22 u = gA S 22 u) : stp S S9 := by
  have o : ∀ k, smK k → k ≠ 22 → ∀ i, gA S9 k i = gA S k i := fun k a b i => hs k i a b
  have o11 := o 11 (by simp [smK]) (by decide)
  have o12 := o 12 (by simp [smK]) (by decide)
  have o13 := o 13 (by simp [smK]) (by decide)
  have o15 := o 15 (by simp [smK]) (by decide)
  have o16 := o 16 (by simp [smK]) (by decide)
  have o21 := o 21 (by simp [smK]) (by decide)
  have o28 := o 28 (by simp [smK]) (by decide)
  have o29 := o 29 (by simp [smK]) (by decide)
  have o31 := o 31 (by simp [smK]) (by decide)
  have o32 := o 32 (by simp [smK]) (by decide)
  have o33 := o 33 (by simp [smK]) (by decide)
  have o34 := o 34 (by simp [smK]) (by decide)
  have o35 := o 35 (by simp [smK]) (by decide)
  have o37 := o 37 (by simp [smK]) (by decide)
  have hT := iT_of h hI
  obtain ⟨-, h2, h3, h4, h5, h6, h7, h8⟩ := h
  refine ⟨⟨hT, ?_, ?_, ?_, ?_, ?_, ?_, ?_⟩, hI, ?_, ?_⟩
  · intro t; simp only [o12, o13, o15, o16, o21, o34, o35]; exact h2 t
  · intro t k; simp only [o11, o12]; exact h3 t k
  · intro b; simp only [o28, o29, o31, o33, o35, o37]; exact h4 b
  · intro b i; simp only [mem1, o13, o16, o21, o28, o32, o33]; exact h5 b i
  · intro b i d j; simp only [o32, o33]; exact h6 b i d j
  · intro b i; rw [o35, o34]
    intro b0 b1 i0 i1
    have m := h7 b i b0 b1 i0 i1
    have hu : gA S 34 (8 * b + i) ≠ t := fun q => by unfold mem2 at m; rw [q] at m; exact m.2.2.2.2.1 h21
    unfold mem2 at m ⊢
    rw [o13, o16, o21, o28, h22 _ hu]; exact m
  · intro b b0 b1; unfold rdis; simp only [o34, o35]; exact h8 b b0 b1
  · intro k i hk; rcases hk with rfl | rfl | rfl
    · exact o11 i
    · exact o12 i
    · exact o28 i
  · intro u _ _ hn h21u
    exact ⟨fun d i => by rw [o33, o32]; exact hn d i, o13 u, o15 u, (o21 u).trans h21u⟩
/-- has(b, t), before t leaves the row -/
theorem has_j {S S1 S2 S3 S4 : mS} {b t x y : Int32} (hb : 0 ≤ b ∧ b < 24) (h : mInv S) (hk : gA S 28 b = 1) (hi : ∃ i, 0 ≤ i ∧ i < gA S 33 b ∧ gA S 32 (8 * b + i) = t) (e1 : S1 = sA S 31 b t) (e2 : S2 = sA S1 29 b x) (e3 : S3 = S2 ∨ ∃ z, S3 = sA S2 14 t z) (e4 : S4 = sA S3 22 t y) :
    stp S S4 ∧ (∀ k i, k ≠ 14 → k ≠ 22 → k ≠ 29 → k ≠ 31 → gA S4 k i = gA S k i) := by
  obtain ⟨ht, h21, -⟩ := in_row hb h hi
  have a2 : stp S S2 := by
    refine stp_ow (b := b) h (fun k => by rw [e2, e1]; rfl) ?_ (fun q => by rw [hk] at q; exact absurd q (by decide)) ?_ ?_
    · rw [e2, e1]; simp [gA_sA]; clear h hi e1 e2 e3 e4; grind
    · intro k q _ k29 k31 k37; rw [e2, e1]; simp [gA_sA, k29, k31]
    · intro k d hk2 hd; rw [e2, e1]; simp [gA_sA, hd]
  have b2 : ∀ k i, k ≠ 29 → k ≠ 31 → gA S2 k i = gA S k i := fun k i k29 k31 => by rw [e2, e1]; simp [gA_sA, k29, k31]
  have c3 : (∀ k i, k ≠ 14 → gA S3 k i = gA S2 k i) ∧ (∀ k, gI S3 k = gI S2 k) := by
    rcases e3 with e3 | ⟨z, e3⟩
    · rw [e3]; exact ⟨fun _ _ _ => rfl, fun _ => rfl⟩
    · rw [e3]; exact ⟨fun k i hk2 => by simp [gA_sA, hk2], fun _ => rfl⟩
  have a4 : stp S2 S4 := by
    refine aw_inv (t := t) (y := y) a2.1 ((b2 21 t (by decide) (by decide)).trans h21) (fun k => by rw [e4, gI_sA]; exact c3.2 k) ?_ ?_
    · intro k i hs k22
      rw [e4, gA_sA, if_neg k22]
      exact c3.1 k i (by rcases hs with rfl | rfl | rfl | rfl | rfl | rfl | rfl | rfl | rfl | rfl | rfl | rfl | rfl | rfl | rfl <;> decide)
    · intro u hu; rw [e4, gA_sA, if_pos rfl, if_neg hu]; exact c3.1 22 u (by decide)
  refine ⟨stp_tr a2 a4, fun k i k14 k22 k29 k31 => ?_⟩
  rw [e4, gA_sA, if_neg k22, c3.1 k i k14]; exact b2 k i k29 k31
end
section
set_option maxHeartbeats 400000 in
set_option maxRecDepth 100000 in
theorem c_firstGoesOn (l : Launch) (D : va_G) (cs : ClassId × ClassId × ClassId) (o : Nat) (ad : Nat → Nat) (A : Nat → Prop) (S : mS) (b : Int32)  (h1 : 0 ≤ b ∧ b < 24) (h2 : mInv S) (h3 : 0 < gA S 33 b) : Met l yX13_firstGoesOn (Cond.code yX13_firstGoesOn cX13_firstGoesOn 3 (some .int) :: tM) ({ frames := 1, cells := 0, slots := 0, locals := 24 }) (va_Pc [.ref o, .int b] (mB D cs o ad A S)) (va_Qi (fun r9 S9 => stp S S9 ∧ r9 = gA S 32 (8 * b) ∧ (0 ≤ r9 ∧ r9 < 8) ∧ (0 ≤ gA S9 33 b ∧ gA S9 33 b < gA S 33 b) ∧ (∀ k i, k ≠ 13 → k ≠ 15 → k ≠ 16 → k ≠ 32 → k ≠ 33 → gA S9 k i = gA S k i)) (mB D cs o ad A) A) 0 0 A := by
  refine mMet (by decide) rfl (Nat.le_of_ble_eq_true rfl) ?_
  intro p e s m below meth c ls C hml hr hlk V hl
  have hx := C.1
  have hb := C.2.1
  have hown := C.2.2.1
  have hts := C.2.2.2.1
  have hS : va_S A s.heap s.heap [] := va_S.rf
  have hl : lv_has ls 3 [(0, .ref o), (1, .int b)] := hl
  refine lv_aload_n hx hb dX13_firstGoesOn_0 rfl (lv_at hl 0 rfl) ?_
  refine mG32 C V dX13_firstGoesOn_1 ?_
  refine lv_bipush (v := 8) hx hb dX13_firstGoesOn_4 (by decide) ?_
  refine lv_iload_n hx hb dX13_firstGoesOn_6 rfl (lv_at hl 1 rfl) ?_
  refine lv_imul hx hb dX13_firstGoesOn_7 ?_
  refine mLd32 C V (vin (N := 192) rfl (by clear V hS hl C hts hown hx hb hml hr hlk; clear h2; grind) (by clear V hS hl C hts hown hx hb hml hr hlk; clear h2; grind)) dX13_firstGoesOn_8 ?_
  refine lv_topi (fun x1 ex1 => ?_)
  refine lv_istore_n (lv' := [(2, .int x1), (0, .ref o), (1, .int b)]) hx hb dX13_firstGoesOn_9 rfl hl (by decide) rfl (fun ls hl => ?_)
  have hin : ∃ i, 0 ≤ i ∧ i < gA S 33 b ∧ gA S 32 (8 * b + i) = x1 := ⟨0, by decide, h3, by rw [ex1, Int32.add_zero]⟩
  refine lv_aload_n hx hb dX13_firstGoesOn_10 rfl (lv_at hl 1 rfl) ?_
  refine lv_iload_n hx hb dX13_firstGoesOn_11 rfl (lv_at hl 2 rfl) ?_
  refine lv_iload_n hx hb dX13_firstGoesOn_12 rfl (lv_at hl 0 rfl) ?_
  refine mGoV (mRunV (As := [.int b, .int x1]) (rest := []) C hml V (c_leaves l D cs o ad A S b x1  (h1) (pre_lv h1 h2) (rd_lv h1 h2)) gM_leaves okM_leaves ⟨rfl, rfl, Nat.le_of_ble_eq_true rfl, Nat.le_of_ble_eq_true rfl⟩ hl.1 rfl (Nat.le_of_ble_eq_true rfl) dX13_firstGoesOn_13 ⟨Nat.zero_le _, Nat.zero_le _⟩) hS (fun S2 H locs hq4 V hS => ?_)
  refine lv_aload_n hx hb dX13_firstGoesOn_16 rfl (lv_at hl 1 rfl) ?_
  refine lv_iload_n hx hb dX13_firstGoesOn_17 rfl (lv_at hl 0 rfl) ?_
  refine mGoV (mRunV (As := [.int x1]) (rest := []) C hml V (c_goesOn l D cs o ad A S2 x1  ((in_row h1 h2 hin).1)) gM_goesOn okM_goesOn ⟨rfl, rfl, Nat.le_of_ble_eq_true rfl, Nat.le_of_ble_eq_true rfl⟩ hl.1 rfl (Nat.le_of_ble_eq_true rfl) dX13_firstGoesOn_18 ⟨Nat.zero_le _, Nat.zero_le _⟩) hS (fun S5 H locs hq7 V hS => ?_)
  refine lv_iload_n hx hb dX13_firstGoesOn_21 rfl (lv_at hl 0 rfl) ?_
  exact mRetI C hr hlk V hS (by clear V hS hl C hts hown hx hb hml hr hlk; obtain ⟨q1, q2, q3⟩ := lg_inv h1 h2 hin hq4 hq7; exact ⟨q1, ex1, (in_row h1 h2 hin).1, q2, q3⟩) dX13_firstGoesOn_22
set_option maxHeartbeats 400000 in
set_option maxRecDepth 100000 in
theorem j_has_60 {p : Program} {e : Env} {s : State} {m : MethodId} {below : List Frame} {meth : Method} {c : Code} (l : Launch) (D : va_G) (cs : ClassId × ClassId × ClassId) (o : Nat) (ad : Nat → Nat) (A : Nat → Prop) (S : mS) (b : Int32) (t : Int32)  (h1 : 0 ≤ b ∧ b < 24) (h2 : mInv S) (h3 : gA S 28 b = 1) (h4 : ∃ i, 0 ≤ i ∧ i < gA S 33 b ∧ gA S 32 (8 * b + i) = t) (C : mC p s m ([.ref o, .int b, .int t] : List Value).toArray c cX13_has D cs) (hml : c.maxLocals = 3) (hr : meth.sig.returnType = none) (hlk : meth.locks = false)  (SJ60 : mS) (H : Heap) (locs : List Loc) (ls : Array Slot) (hj60 : stp S SJ60 ∧ (∀ k i, k ≠ 14 → k ≠ 22 → k ≠ 29 → k ≠ 31 → gA SJ60 k i = gA S k i)) (V : mV D cs o ad A SJ60 H) (hS : va_S A s.heap H locs) (hl : lv_has ls 3 [(0, .ref o), (1, .int b), (2, .int t)]) : W p l e ({ frames := 1, cells := 0, slots := 0, locals := 24 } : Room) s m ([.ref o, .int b, .int t] : List Value).toArray below meth c H locs 0 0 (MQ below (va_Qv (fun S9 => stp S S9 ∧ (∀ k i, k = 34 ∨ k = 35 → gA S9 k i = gA S k i)) (mB D cs o ad A) A) ([.ref o, .int b, .int t] : List Value).toArray s 0 0 A) (F0 m 60 ls []) := by
  have hx := C.1
  have hb := C.2.1
  have hown := C.2.2.1
  have hts := C.2.2.2.1
  obtain ⟨w1, w2⟩ := id hj60
  have hin : ∃ i, 0 ≤ i ∧ i < gA SJ60 33 b ∧ gA SJ60 32 (8 * b + i) = t := by obtain ⟨i, a1, a2, a3⟩ := h4; exact ⟨i, a1, by rw [w2 33 b (by decide) (by decide) (by decide) (by decide)]; exact a2, by rw [w2 32 _ (by decide) (by decide) (by decide) (by decide)]; exact a3⟩
  refine lv_aload_n hx hb dX13_has_60 rfl (lv_at hl 0 rfl) ?_
  refine lv_iload_n hx hb dX13_has_61 rfl (lv_at hl 1 rfl) ?_
  refine lv_iload_n hx hb dX13_has_62 rfl (lv_at hl 2 rfl) ?_
  refine mGoV (mRunV (As := [.int b, .int t]) (rest := []) C hml V (c_leaves l D cs o ad A SJ60 b t  (h1) (pre_lv h1 w1.1) (rd_lv h1 w1.1)) gM_leaves okM_leaves ⟨rfl, rfl, Nat.le_of_ble_eq_true rfl, Nat.le_of_ble_eq_true rfl⟩ hl.1 rfl (Nat.le_of_ble_eq_true rfl) dX13_has_63 ⟨Nat.zero_le _, Nat.zero_le _⟩) hS (fun S1 H locs hq3 V hS => ?_)
  refine lv_aload_n hx hb dX13_has_66 rfl (lv_at hl 0 rfl) ?_
  refine lv_iload_n hx hb dX13_has_67 rfl (lv_at hl 2 rfl) ?_
  refine mGoV (mRunV (As := [.int t]) (rest := []) C hml V (c_goesOn l D cs o ad A S1 t  ((in_row h1 h2 h4).1)) gM_goesOn okM_goesOn ⟨rfl, rfl, Nat.le_of_ble_eq_true rfl, Nat.le_of_ble_eq_true rfl⟩ hl.1 rfl (Nat.le_of_ble_eq_true rfl) dX13_has_68 ⟨Nat.zero_le _, Nat.zero_le _⟩) hS (fun S4 H locs hq6 V hS => ?_)
  exact mRetV C hr hlk V hS (by clear V hS hl C hts hown hx hb hml hr hlk; obtain ⟨q1, q2, q3⟩ := lg_inv h1 w1.1 hin hq3 hq6; exact ⟨stp_tr w1 q1, fun k i hk => by rcases hk with rfl | rfl <;> rw [q3 _ i (by decide) (by decide) (by decide) (by decide) (by decide), w2 _ i (by decide) (by decide) (by decide) (by decide)]⟩) dX13_has_71
set_option maxHeartbeats 400000 in
set_option maxRecDepth 100000 in
theorem c_has (l : Launch) (D : va_G) (cs : ClassId × ClassId × ClassId) (o : Nat) (ad : Nat → Nat) (A : Nat → Prop) (S : mS) (b : Int32) (t : Int32)  (h1 : 0 ≤ b ∧ b < 24) (h2 : mInv S) (h3 : gA S 28 b = 1) (h4 : ∃ i, 0 ≤ i ∧ i < gA S 33 b ∧ gA S 32 (8 * b + i) = t) : Met l yX13_has (Cond.code yX13_has cX13_has 3 none :: tM) ({ frames := 1, cells := 0, slots := 0, locals := 24 }) (va_Pc [.ref o, .int b, .int t] (mB D cs o ad A S)) (va_Qv (fun S9 => stp S S9 ∧ (∀ k i, k = 34 ∨ k = 35 → gA S9 k i = gA S k i)) (mB D cs o ad A) A) 0 0 A := by
  refine mMet (by decide) rfl (Nat.le_of_ble_eq_true rfl) ?_
  intro p e s m below meth c ls C hml hr hlk V hl
  have hx := C.1
  have hb := C.2.1
  have hown := C.2.2.1
  have hts := C.2.2.2.1
  have hS : va_S A s.heap s.heap [] := va_S.rf
  have hl : lv_has ls 3 [(0, .ref o), (1, .int b), (2, .int t)] := hl
  have ht := (in_row h1 h2 h4).1
  refine lv_aload_n hx hb dX13_has_0 rfl (lv_at hl 0 rfl) ?_
  refine mG31 C V dX13_has_1 ?_
  refine lv_iload_n hx hb dX13_has_4 rfl (lv_at hl 1 rfl) ?_
  refine lv_iload_n hx hb dX13_has_5 rfl (lv_at hl 2 rfl) ?_
  refine mSt31 C V hS (vin (N := 24) rfl (by clear V hS hl C hts hown hx hb hml hr hlk; clear h2 h4; grind) (by clear V hS hl C hts hown hx hb hml hr hlk; clear h2 h4; grind)) dX13_has_6 (fun S7 H locs eS7 V hS => ?_)
  refine lv_aload_n hx hb dX13_has_7 rfl (lv_at hl 0 rfl) ?_
  refine mG29 C V dX13_has_8 ?_
  refine lv_iload_n hx hb dX13_has_11 rfl (lv_at hl 1 rfl) ?_
  refine lv_aload_n hx hb dX13_has_12 rfl (lv_at hl 0 rfl) ?_
  refine mG22 C V dX13_has_13 ?_
  refine lv_iload_n hx hb dX13_has_16 rfl (lv_at hl 2 rfl) ?_
  refine mLd22 C V (vin (N := 8) rfl (by clear V hS hl C hts hown hx hb hml hr hlk; clear h2 h4; grind) (by clear V hS hl C hts hown hx hb hml hr hlk; clear h2 h4; grind)) dX13_has_17 ?_
  refine lv_if_eq (tgt := 30) hx hb dX13_has_18 (by decide) (fun c8 => ?_) (fun c8 => ?_)
  · refine lv_iconst (v := 1) hx hb dX13_has_30 (by decide) ?_
    refine mSt29 C V hS (vin (N := 24) rfl (by clear V hS hl C hts hown hx hb hml hr hlk; clear h2 h4; grind) (by clear V hS hl C hts hown hx hb hml hr hlk; clear h2 h4; grind)) dX13_has_31 (fun S9 H locs eS9 V hS => ?_)
    refine lv_aload_n hx hb dX13_has_32 rfl (lv_at hl 0 rfl) ?_
    refine mG22 C V dX13_has_33 ?_
    refine lv_iload_n hx hb dX13_has_36 rfl (lv_at hl 2 rfl) ?_
    refine mLd22 C V (vin (N := 8) rfl (by clear V hS hl C hts hown hx hb hml hr hlk; clear h2 h4; grind) (by clear V hS hl C hts hown hx hb hml hr hlk; clear h2 h4; grind)) dX13_has_37 ?_
    refine lv_if_eq (tgt := 53) hx hb dX13_has_38 (by decide) (fun c10 => ?_) (fun c10 => ?_)
    · refine lv_aload_n hx hb dX13_has_53 rfl (lv_at hl 0 rfl) ?_
      refine mG22 C V dX13_has_54 ?_
      refine lv_iload_n hx hb dX13_has_57 rfl (lv_at hl 2 rfl) ?_
      refine lv_iconst (v := 0) hx hb dX13_has_58 (by decide) ?_
      refine mSt22 C V hS (vin (N := 8) rfl (by clear V hS hl C hts hown hx hb hml hr hlk; clear h2 h4; grind) (by clear V hS hl C hts hown hx hb hml hr hlk; clear h2 h4; grind)) dX13_has_59 (fun S11 H locs eS11 V hS => ?_)
      exact j_has_60 l D cs o ad A S b t h1 h2 h3 h4 C hml hr hlk  S11 _ _ _ (by clear V hS hl C hts hown hx hb hml hr hlk; first | exact has_j h1 h2 h3 h4 eS7 eS9 (Or.inr ⟨_, nope9⟩) eS11 | exact has_j h1 h2 h3 h4 eS7 eS9 (Or.inl rfl) eS11) V hS (lv_sub hl [0, 1, 2] rfl)
    · refine lv_aload_n hx hb dX13_has_41 rfl (lv_at hl 0 rfl) ?_
      refine mG14 C V dX13_has_42 ?_
      refine lv_iload_n hx hb dX13_has_45 rfl (lv_at hl 2 rfl) ?_
      refine lv_aload_n hx hb dX13_has_46 rfl (lv_at hl 0 rfl) ?_
      refine mG19 C V dX13_has_47 ?_
      refine lv_iload_n hx hb dX13_has_50 rfl (lv_at hl 2 rfl) ?_
      refine mLd19 C V (vin (N := 8) rfl (by clear V hS hl C hts hown hx hb hml hr hlk; clear h2 h4; grind) (by clear V hS hl C hts hown hx hb hml hr hlk; clear h2 h4; grind)) dX13_has_51 ?_
      refine mSt14 C V hS (vin (N := 8) rfl (by clear V hS hl C hts hown hx hb hml hr hlk; clear h2 h4; grind) (by clear V hS hl C hts hown hx hb hml hr hlk; clear h2 h4; grind)) dX13_has_52 (fun S12 H locs eS12 V hS => ?_)
      refine lv_aload_n hx hb dX13_has_53 rfl (lv_at hl 0 rfl) ?_
      refine mG22 C V dX13_has_54 ?_
      refine lv_iload_n hx hb dX13_has_57 rfl (lv_at hl 2 rfl) ?_
      refine lv_iconst (v := 0) hx hb dX13_has_58 (by decide) ?_
      refine mSt22 C V hS (vin (N := 8) rfl (by clear V hS hl C hts hown hx hb hml hr hlk; clear h2 h4; grind) (by clear V hS hl C hts hown hx hb hml hr hlk; clear h2 h4; grind)) dX13_has_59 (fun S13 H locs eS13 V hS => ?_)
      exact j_has_60 l D cs o ad A S b t h1 h2 h3 h4 C hml hr hlk  S13 _ _ _ (by clear V hS hl C hts hown hx hb hml hr hlk; first | exact has_j h1 h2 h3 h4 eS7 eS9 (Or.inr ⟨_, eS12⟩) eS13 | exact has_j h1 h2 h3 h4 eS7 eS9 (Or.inl rfl) eS13) V hS (lv_sub hl [0, 1, 2] rfl)
  · refine lv_aload_n hx hb dX13_has_21 rfl (lv_at hl 0 rfl) ?_
    refine mG18 C V dX13_has_22 ?_
    refine lv_iload_n hx hb dX13_has_25 rfl (lv_at hl 2 rfl) ?_
    refine mLd18 C V (vin (N := 8) rfl (by clear V hS hl C hts hown hx hb hml hr hlk; clear h2 h4; grind) (by clear V hS hl C hts hown hx hb hml hr hlk; clear h2 h4; grind)) dX13_has_26 ?_
    refine lv_goto (tgt := 31) hx hb dX13_has_27 (by decide) ?_
    refine mSt29 C V hS (vin (N := 24) rfl (by clear V hS hl C hts hown hx hb hml hr hlk; clear h2 h4; grind) (by clear V hS hl C hts hown hx hb hml hr hlk; clear h2 h4; grind)) dX13_has_31 (fun S14 H locs eS14 V hS => ?_)
    refine lv_aload_n hx hb dX13_has_32 rfl (lv_at hl 0 rfl) ?_
    refine mG22 C V dX13_has_33 ?_
    refine lv_iload_n hx hb dX13_has_36 rfl (lv_at hl 2 rfl) ?_
    refine mLd22 C V (vin (N := 8) rfl (by clear V hS hl C hts hown hx hb hml hr hlk; clear h2 h4; grind) (by clear V hS hl C hts hown hx hb hml hr hlk; clear h2 h4; grind)) dX13_has_37 ?_
    refine lv_if_eq (tgt := 53) hx hb dX13_has_38 (by decide) (fun c15 => ?_) (fun c15 => ?_)
    · refine lv_aload_n hx hb dX13_has_53 rfl (lv_at hl 0 rfl) ?_
      refine mG22 C V dX13_has_54 ?_
      refine lv_iload_n hx hb dX13_has_57 rfl (lv_at hl 2 rfl) ?_
      refine lv_iconst (v := 0) hx hb dX13_has_58 (by decide) ?_
      refine mSt22 C V hS (vin (N := 8) rfl (by clear V hS hl C hts hown hx hb hml hr hlk; clear h2 h4; grind) (by clear V hS hl C hts hown hx hb hml hr hlk; clear h2 h4; grind)) dX13_has_59 (fun S16 H locs eS16 V hS => ?_)
      exact j_has_60 l D cs o ad A S b t h1 h2 h3 h4 C hml hr hlk  S16 _ _ _ (by clear V hS hl C hts hown hx hb hml hr hlk; first | exact has_j h1 h2 h3 h4 eS7 eS14 (Or.inr ⟨_, nope9⟩) eS16 | exact has_j h1 h2 h3 h4 eS7 eS14 (Or.inl rfl) eS16) V hS (lv_sub hl [0, 1, 2] rfl)
    · refine lv_aload_n hx hb dX13_has_41 rfl (lv_at hl 0 rfl) ?_
      refine mG14 C V dX13_has_42 ?_
      refine lv_iload_n hx hb dX13_has_45 rfl (lv_at hl 2 rfl) ?_
      refine lv_aload_n hx hb dX13_has_46 rfl (lv_at hl 0 rfl) ?_
      refine mG19 C V dX13_has_47 ?_
      refine lv_iload_n hx hb dX13_has_50 rfl (lv_at hl 2 rfl) ?_
      refine mLd19 C V (vin (N := 8) rfl (by clear V hS hl C hts hown hx hb hml hr hlk; clear h2 h4; grind) (by clear V hS hl C hts hown hx hb hml hr hlk; clear h2 h4; grind)) dX13_has_51 ?_
      refine mSt14 C V hS (vin (N := 8) rfl (by clear V hS hl C hts hown hx hb hml hr hlk; clear h2 h4; grind) (by clear V hS hl C hts hown hx hb hml hr hlk; clear h2 h4; grind)) dX13_has_52 (fun S17 H locs eS17 V hS => ?_)
      refine lv_aload_n hx hb dX13_has_53 rfl (lv_at hl 0 rfl) ?_
      refine mG22 C V dX13_has_54 ?_
      refine lv_iload_n hx hb dX13_has_57 rfl (lv_at hl 2 rfl) ?_
      refine lv_iconst (v := 0) hx hb dX13_has_58 (by decide) ?_
      refine mSt22 C V hS (vin (N := 8) rfl (by clear V hS hl C hts hown hx hb hml hr hlk; clear h2 h4; grind) (by clear V hS hl C hts hown hx hb hml hr hlk; clear h2 h4; grind)) dX13_has_59 (fun S18 H locs eS18 V hS => ?_)
      exact j_has_60 l D cs o ad A S b t h1 h2 h3 h4 C hml hr hlk  S18 _ _ _ (by clear V hS hl C hts hown hx hb hml hr hlk; first | exact has_j h1 h2 h3 h4 eS7 eS14 (Or.inr ⟨_, eS17⟩) eS18 | exact has_j h1 h2 h3 h4 eS7 eS14 (Or.inl rfl) eS18) V hS (lv_sub hl [0, 1, 2] rfl)
theorem fr_j {S S1 S2 : mS} {b : Int32} (hb : 0 ≤ b ∧ b < 24) (h : mInv S) (hk : gA S 28 b = 1) (e1 : S1 = sA S 31 b (-1)) (e2 : S2 = sA S1 29 b 0) : stp S S2 ∧ (∀ k i, k ≠ 29 → k ≠ 31 → gA S2 k i = gA S k i) := by
  have b2 : ∀ k i, k ≠ 29 → k ≠ 31 → gA S2 k i = gA S k i := fun k i k29 k31 => by rw [e2, e1]; simp [gA_sA, k29, k31]
  refine ⟨stp_ow (b := b) h (fun k => by rw [e2, e1]; rfl) ?_ (fun q => by rw [hk] at q; exact absurd q (by decide)) (fun k q _ k29 k31 _ => b2 k q k29 k31) ?_, b2⟩
  · rw [e2, e1]; simp [gA_sA]
  · intro k d hk2 hd; rw [e2, e1]; simp [gA_sA, hd]
theorem st1_stp {S S1 S2 : mS} {b t : Int32} (hb : 0 ≤ b ∧ b < 24) (h : mInv S) (hi : ∃ i, 0 ≤ i ∧ i < gA S 33 b ∧ gA S 32 (8 * b + i) = t) (hk : gA S 28 b = 1) (e1 : S1 = sA S 13 t 1) (e2 : S2 = sA S1 16 t (-1)) : stp S S2 := by
  subst e1
  have eo : ∀ k q, k ≠ 13 → k ≠ 16 → gA S2 k q = gA S k q := fun k q a1 a2 => by rw [e2]; simp [gA_sA, a1, a2]
  have hi2 := id hi
  obtain ⟨i, i0, i1, i2⟩ := hi
  refine ⟨st1_inv hb h ⟨i0, i1⟩ i2 hk e2, fun k => by rw [e2]; rfl, fun k q hk2 => by rcases hk2 with rfl | rfl | rfl <;> exact eo _ q (by decide) (by decide), fun u u0 u1 hn h21 => ?_⟩
  have hne := not_in hb hi2 hn
  refine ⟨fun d j => by rw [eo 33 d (by decide) (by decide), eo 32 _ (by decide) (by decide)]; exact hn d j, by rw [e2]; simp [gA_sA, hne], eo 15 u (by decide) (by decide), by rw [eo 21 u (by decide) (by decide)]; exact h21⟩

set_option maxHeartbeats 400000 in
set_option maxRecDepth 100000 in
theorem c_freed (l : Launch) (D : va_G) (cs : ClassId × ClassId × ClassId) (o : Nat) (ad : Nat → Nat) (A : Nat → Prop) (S : mS) (b : Int32)  (h1 : 0 ≤ b ∧ b < 24) (h2 : mInv S) (h3 : gA S 28 b = 1) : Met l yX13_freed (Cond.code yX13_freed cX13_freed 3 none :: tM) ({ frames := 2, cells := 0, slots := 0, locals := 46 }) (va_Pc [.ref o, .int b] (mB D cs o ad A S)) (va_Qv (fun S9 => stp S S9 ∧ (∀ k i, k = 34 ∨ k = 35 → gA S9 k i = gA S k i)) (mB D cs o ad A) A) 0 0 A := by
  refine mMet (by decide) rfl (Nat.le_of_ble_eq_true rfl) ?_
  intro p e s m below meth c ls C hml hr hlk V hl
  have hx := C.1
  have hb := C.2.1
  have hown := C.2.2.1
  have hts := C.2.2.2.1
  have hS : va_S A s.heap s.heap [] := va_S.rf
  have hl : lv_has ls 3 [(0, .ref o), (1, .int b)] := hl
  refine lv_aload_n hx hb dX13_freed_0 rfl (lv_at hl 0 rfl) ?_
  refine mG31 C V dX13_freed_1 ?_
  refine lv_iload_n hx hb dX13_freed_4 rfl (lv_at hl 1 rfl) ?_
  refine lv_iconst (v := (-1)) hx hb dX13_freed_5 (by decide) ?_
  refine mSt31 C V hS (vin (N := 24) rfl (by clear V hS hl C hts hown hx hb hml hr hlk; clear h2; grind) (by clear V hS hl C hts hown hx hb hml hr hlk; clear h2; grind)) dX13_freed_6 (fun S1 H locs eS1 V hS => ?_)
  refine lv_aload_n hx hb dX13_freed_7 rfl (lv_at hl 0 rfl) ?_
  refine mG29 C V dX13_freed_8 ?_
  refine lv_iload_n hx hb dX13_freed_11 rfl (lv_at hl 1 rfl) ?_
  refine lv_iconst (v := 0) hx hb dX13_freed_12 (by decide) ?_
  refine mSt29 C V hS (vin (N := 24) rfl (by clear V hS hl C hts hown hx hb hml hr hlk; clear h2; grind) (by clear V hS hl C hts hown hx hb hml hr hlk; clear h2; grind)) dX13_freed_13 (fun S2 H locs eS2 V hS => ?_)
  obtain ⟨w1, w2⟩ := fr_j h1 h2 h3 eS1 eS2
  have w33 : gA S2 33 b = gA S 33 b := w2 33 b (by decide) (by decide)
  have w28 : gA S2 28 b = 1 := (w2 28 b (by decide) (by decide)).trans h3
  have l8 := pre_lv h1 w1.1
  refine lv_aload_n hx hb dX13_freed_14 rfl (lv_at hl 0 rfl) ?_
  refine mG33 C V dX13_freed_15 ?_
  refine lv_iload_n hx hb dX13_freed_18 rfl (lv_at hl 1 rfl) ?_
  refine mLd33 C V (vin (N := 24) rfl (by clear V hS hl C hts hown hx hb hml hr hlk; clear h2 w1 w2; grind) (by clear V hS hl C hts hown hx hb hml hr hlk; clear h2 w1 w2; grind)) dX13_freed_19 ?_
  refine lv_if_ne (tgt := 24) hx hb dX13_freed_20 (by decide) (fun c3 => ?_) (fun c3 => ?_)
  · refine lv_aload_n hx hb dX13_freed_24 rfl (lv_at hl 0 rfl) ?_
    refine mG32 C V dX13_freed_25 ?_
    refine lv_bipush (v := 8) hx hb dX13_freed_28 (by decide) ?_
    refine lv_iload_n hx hb dX13_freed_30 rfl (lv_at hl 1 rfl) ?_
    refine lv_imul hx hb dX13_freed_31 ?_
    refine mLd32 C V (vin (N := 192) rfl (by clear V hS hl C hts hown hx hb hml hr hlk; clear h2 w1 w2; grind) (by clear V hS hl C hts hown hx hb hml hr hlk; clear h2 w1 w2; grind)) dX13_freed_32 ?_
    refine lv_topi (fun x4 ex4 => ?_)
    refine lv_istore_n (lv' := [(2, .int x4), (0, .ref o), (1, .int b)]) hx hb dX13_freed_33 rfl hl (by decide) rfl (fun ls hl => ?_)
    have hin : ∃ i, 0 ≤ i ∧ i < gA S2 33 b ∧ gA S2 32 (8 * b + i) = x4 := ⟨0, by decide, by clear w1 w2 h2; grind, by rw [ex4, Int32.add_zero]⟩
    have ht := (in_row h1 w1.1 hin).1
    refine lv_aload_n hx hb dX13_freed_34 rfl (lv_at hl 1 rfl) ?_
    refine mG30 C V dX13_freed_35 ?_
    refine lv_iload_n hx hb dX13_freed_38 rfl (lv_at hl 2 rfl) ?_
    refine mLd30 C V (vin (N := 24) rfl (by clear V hS hl C hts hown hx hb hml hr hlk; clear h2 w1 w2; grind) (by clear V hS hl C hts hown hx hb hml hr hlk; clear h2 w1 w2; grind)) dX13_freed_39 ?_
    refine lv_iconst (v := 1) hx hb dX13_freed_40 (by decide) ?_
    refine lv_icmp_ne (tgt := 53) hx hb dX13_freed_41 (by decide) (fun c5 => ?_) (fun c5 => ?_)
    · refine lv_aload_n hx hb dX13_freed_53 rfl (lv_at hl 1 rfl) ?_
      refine mG13 C V dX13_freed_54 ?_
      refine lv_iload_n hx hb dX13_freed_57 rfl (lv_at hl 0 rfl) ?_
      refine lv_iconst (v := 1) hx hb dX13_freed_58 (by decide) ?_
      refine mSt13 C V hS (vin (N := 8) rfl (ht.1) (ht.2)) dX13_freed_59 (fun S6 H locs eS6 V hS => ?_)
      refine lv_aload_n hx hb dX13_freed_60 rfl (lv_at hl 1 rfl) ?_
      refine mG16 C V dX13_freed_61 ?_
      refine lv_iload_n hx hb dX13_freed_64 rfl (lv_at hl 0 rfl) ?_
      refine lv_iconst (v := (-1)) hx hb dX13_freed_65 (by decide) ?_
      refine mSt16 C V hS (vin (N := 8) rfl (ht.1) (ht.2)) dX13_freed_66 (fun S7 H locs eS7 V hS => ?_)
      exact mRetV C hr hlk V hS (by clear V hS hl C hts hown hx hb hml hr hlk; first | (obtain ⟨q1, q2⟩ := nope9; exact ⟨stp_tr w1 q1, fun k i hk => (q2 k i hk).trans (by rcases hk with rfl | rfl <;> exact w2 _ i (by decide) (by decide))⟩) | exact ⟨stp_tr w1 (st1_stp h1 w1.1 hin w28 eS6 eS7), fun k i hk => by rw [eS7, eS6]; rcases hk with rfl | rfl <;> simp [gA_sA] <;> exact w2 _ i (by decide) (by decide)⟩) dX13_freed_67
    · refine lv_aload_n hx hb dX13_freed_44 rfl (lv_at hl 1 rfl) ?_
      refine lv_iload_n hx hb dX13_freed_45 rfl (lv_at hl 2 rfl) ?_
      refine lv_iload_n hx hb dX13_freed_46 rfl (lv_at hl 0 rfl) ?_
      refine mGoV (mRunV (As := [.int b, .int x4]) (rest := []) C hml V (c_has l D cs o ad A S2 b x4  (h1) (w1.1) (w28) (hin)) gM_has okM_has ⟨rfl, rfl, Nat.le_of_ble_eq_true rfl, Nat.le_of_ble_eq_true rfl⟩ hl.1 rfl (Nat.le_of_ble_eq_true rfl) dX13_freed_47 ⟨Nat.zero_le _, Nat.zero_le _⟩) hS (fun S8 H locs hq10 V hS => ?_)
      refine lv_goto (tgt := 67) hx hb dX13_freed_50 (by decide) ?_
      exact mRetV C hr hlk V hS (by clear V hS hl C hts hown hx hb hml hr hlk; first | (obtain ⟨q1, q2⟩ := hq10; exact ⟨stp_tr w1 q1, fun k i hk => (q2 k i hk).trans (by rcases hk with rfl | rfl <;> exact w2 _ i (by decide) (by decide))⟩) | exact ⟨stp_tr w1 (st1_stp h1 w1.1 hin w28 nope9 nope9), fun k i hk => by rw [nope9, nope9]; rcases hk with rfl | rfl <;> simp [gA_sA] <;> exact w2 _ i (by decide) (by decide)⟩) dX13_freed_67
  · exact mRetV C hr hlk V hS (⟨w1, fun k i hk => by rcases hk with rfl | rfl <;> exact w2 _ i (by clear V hS hl C hts hown hx hb hml hr hlk; decide) (by clear V hS hl C hts hown hx hb hml hr hlk; decide)⟩) dX13_freed_23
theorem i_lt {x y : Int32} (h : ¬ y ≤ x) : x < y := by grind
theorem rw_next {S : mS} {t x y : Int32} (e : y = x + 1) (w1 : 0 ≤ x) (hx : x < 24) (w3 : ∀ b i, 0 ≤ b → b < x → gA S 28 b = 1 → 0 ≤ i → i < gA S 33 b → gA S 32 (8 * b + i) ≠ t) (hc : gA S 28 x ≠ 1 ∨ ∀ i, 0 ≤ i → i < gA S 33 x → gA S 32 (8 * x + i) ≠ t) :
    0 ≤ y ∧ y ≤ 24 ∧ ∀ b i, 0 ≤ b → b < y → gA S 28 b = 1 → 0 ≤ i → i < gA S 33 b → gA S 32 (8 * b + i) ≠ t := by
  refine ⟨by clear w3 hc; grind, by clear w3 hc; grind, fun b i b0 b1 bk i0 i1 => ?_⟩
  rcases (show b < x ∨ b = x by clear w3 hc; grind) with q | q
  · exact w3 b i b0 q bk i0 i1
  · subst q
    rcases hc with k | k
    · exact absurd bk k
    · exact k i i0 i1
theorem rw_in {S : mS} {t x n : Int32} (h : 0 ≤ n ∧ n ≤ gA S 33 x ∧ ∀ i, 0 ≤ i → i < n → gA S 32 (8 * x + i) ≠ t) (hc : gA S 33 x ≤ n) : ∀ i, 0 ≤ i → i < gA S 33 x → gA S 32 (8 * x + i) ≠ t := fun i i0 i1 => h.2.2 i i0 (by have := h.1; clear h; grind)
theorem rw_nx {S : mS} {t x n y : Int32} (h : 0 ≤ n ∧ n ≤ gA S 33 x ∧ ∀ i, 0 ≤ i → i < n → gA S 32 (8 * x + i) ≠ t) (hc : ¬ gA S 33 x ≤ n) (e : y = n + 1) (hq : gA S 32 (8 * x + n) ≠ t) : 0 ≤ y ∧ y ≤ gA S 33 x ∧ ∀ i, 0 ≤ i → i < y → gA S 32 (8 * x + i) ≠ t := by
  obtain ⟨h1, h2, h3⟩ := h
  refine ⟨by clear h3 hq; grind, by clear h3 hq; grind, fun i i0 i1 => ?_⟩
  rcases (show i < n ∨ i = n by clear h3 hq; grind) with q | q
  · exact h3 i i0 q
  · subst q; exact hq
theorem a_ix {x n L : Int32} (h0 : 0 ≤ x) (h1 : x < 24) (n0 : 0 ≤ n) (hL : L ≤ 8) (n1 : n < L) : 0 ≤ 8 * x + n ∧ 8 * x + n < 192 := by grind
theorem a_dec {x y n : Int32} (e : y = x + 1) (h0 : 0 ≤ x) (h : x < n) : 0 ≤ n - y ∧ n - y < n - x := by grind

set_option maxHeartbeats 400000 in
set_option maxRecDepth 100000 in
theorem c_rowOf (l : Launch) (D : va_G) (cs : ClassId × ClassId × ClassId) (o : Nat) (ad : Nat → Nat) (A : Nat → Prop) (S : mS) (t : Int32)  (h1 : mInv S) : Met l yX13_rowOf (Cond.code yX13_rowOf cX13_rowOf 4 (some .int) :: tM) ({ frames := 0, cells := 0, slots := 0, locals := 0 }) (va_Pc [.ref o, .int t] (mB D cs o ad A S)) (va_Qi (fun r9 S9 => S9 = S ∧ ((r9 = -1 ∧ ∀ b i, 0 ≤ b → b < 24 → gA S 28 b = 1 → 0 ≤ i → i < gA S 33 b → gA S 32 (8 * b + i) ≠ t) ∨ (0 ≤ r9 ∧ r9 < 24 ∧ gA S 28 r9 = 1 ∧ ∃ i, 0 ≤ i ∧ i < gA S 33 r9 ∧ gA S 32 (8 * r9 + i) = t))) (mB D cs o ad A) A) 0 0 A := by
  refine mMet (by decide) rfl (Nat.le_of_ble_eq_true rfl) ?_
  intro p e s m below meth c ls C hml hr hlk V hl
  have hx := C.1
  have hb := C.2.1
  have hown := C.2.2.1
  have hts := C.2.2.2.1
  have hS : va_S A s.heap s.heap [] := va_S.rf
  have hl : lv_has ls 4 [(0, .ref o), (1, .int t)] := hl
  refine lv_iconst (v := 0) hx hb dX13_rowOf_0 (by decide) ?_
  refine lv_topi (fun x1 ex1 => ?_)
  refine lv_istore_n (lv' := [(2, .int x1), (0, .ref o), (1, .int t)]) hx hb dX13_rowOf_1 rfl hl (by decide) rfl (fun ls hl => ?_)
  have loop2 : ∀ (N2 : Nat) (v2_2 : Int32)  (H : Heap) (locs : List Loc) (ls : Array Slot), (0 ≤ v2_2 ∧ v2_2 ≤ 24 ∧ ∀ b i, 0 ≤ b → b < v2_2 → gA S 28 b = 1 → 0 ≤ i → i < gA S 33 b → gA S 32 (8 * b + i) ≠ t) → ((24 - v2_2).toInt.toNat) < N2 → mV D cs o ad A S H → va_S A s.heap H locs → lv_has ls 4 [(0, .ref o), (1, .int t), (2, .int v2_2)] → W p l e ({ frames := 0, cells := 0, slots := 0, locals := 0 } : Room) s m ([.ref o, .int t] : List Value).toArray below meth c H locs 0 0 (MQ below (va_Qi (fun r9 S9 => S9 = S ∧ ((r9 = -1 ∧ ∀ b i, 0 ≤ b → b < 24 → gA S 28 b = 1 → 0 ≤ i → i < gA S 33 b → gA S 32 (8 * b + i) ≠ t) ∨ (0 ≤ r9 ∧ r9 < 24 ∧ gA S 28 r9 = 1 ∧ ∃ i, 0 ≤ i ∧ i < gA S 33 r9 ∧ gA S 32 (8 * r9 + i) = t))) (mB D cs o ad A) A) ([.ref o, .int t] : List Value).toArray s 0 0 A) (F0 m 2 ls []) := by
    intro N2
    induction N2 with
    | zero => intro v2_2  H locs ls hi2 hm2; exact absurd hm2 (Nat.not_lt_zero _)
    | succ N2 ih2 =>
      intro v2_2  H locs ls hi2 hm2 V hS hl
      obtain ⟨w1, w2, w3⟩ := id hi2
      refine lv_iload_n hx hb dX13_rowOf_2 rfl (lv_at hl 2 rfl) ?_
      refine lv_bipush (v := 24) hx hb dX13_rowOf_3 (by decide) ?_
      refine lv_icmp_ge (tgt := 62) hx hb dX13_rowOf_5 (by decide) (fun c2 => ?_) (fun c2 => ?_)
      · refine lv_iconst (v := (-1)) hx hb dX13_rowOf_62 (by decide) ?_
        exact mRetI C hr hlk V hS (⟨rfl, Or.inl ⟨rfl, fun b i b0 b1 => w3 b i b0 (by clear V hS hl C hts hown hx hb hml hr hlk ih2 hm2; have := c2; clear w3 h1 hi2; grind)⟩⟩) dX13_rowOf_63
      · refine lv_aload_n hx hb dX13_rowOf_8 rfl (lv_at hl 0 rfl) ?_
        refine mG28 C V dX13_rowOf_9 ?_
        refine lv_iload_n hx hb dX13_rowOf_12 rfl (lv_at hl 2 rfl) ?_
        refine mLd28 C V (vin (N := 24) rfl (w1) (i_lt c2)) dX13_rowOf_13 ?_
        refine lv_iconst (v := 1) hx hb dX13_rowOf_14 (by decide) ?_
        refine lv_icmp_eq (tgt := 21) hx hb dX13_rowOf_15 (by decide) (fun c3 => ?_) (fun c3 => ?_)
        · refine lv_iconst (v := 0) hx hb dX13_rowOf_21 (by decide) ?_
          refine lv_topi (fun x4 ex4 => ?_)
          refine lv_istore_n (lv' := [(3, .int x4), (0, .ref o), (1, .int t), (2, .int v2_2)]) hx hb dX13_rowOf_22 rfl hl (by decide) rfl (fun ls hl => ?_)
          have loop23 : ∀ (N23 : Nat) (v23_3 : Int32)  (H : Heap) (locs : List Loc) (ls : Array Slot), (0 ≤ v23_3 ∧ v23_3 ≤ gA S 33 v2_2 ∧ ∀ i, 0 ≤ i → i < v23_3 → gA S 32 (8 * v2_2 + i) ≠ t) → ((gA S 33 v2_2 - v23_3).toInt.toNat) < N23 → mV D cs o ad A S H → va_S A s.heap H locs → lv_has ls 4 [(0, .ref o), (1, .int t), (2, .int v2_2), (3, .int v23_3)] → W p l e ({ frames := 0, cells := 0, slots := 0, locals := 0 } : Room) s m ([.ref o, .int t] : List Value).toArray below meth c H locs 0 0 (MQ below (va_Qi (fun r9 S9 => S9 = S ∧ ((r9 = -1 ∧ ∀ b i, 0 ≤ b → b < 24 → gA S 28 b = 1 → 0 ≤ i → i < gA S 33 b → gA S 32 (8 * b + i) ≠ t) ∨ (0 ≤ r9 ∧ r9 < 24 ∧ gA S 28 r9 = 1 ∧ ∃ i, 0 ≤ i ∧ i < gA S 33 r9 ∧ gA S 32 (8 * r9 + i) = t))) (mB D cs o ad A) A) ([.ref o, .int t] : List Value).toArray s 0 0 A) (F0 m 23 ls []) := by
            intro N23
            induction N23 with
            | zero => intro v23_3  H locs ls hi23 hm23; exact absurd hm23 (Nat.not_lt_zero _)
            | succ N23 ih23 =>
              intro v23_3  H locs ls hi23 hm23 V hS hl
              refine lv_iload_n hx hb dX13_rowOf_23 rfl (lv_at hl 3 rfl) ?_
              refine lv_aload_n hx hb dX13_rowOf_24 rfl (lv_at hl 0 rfl) ?_
              refine mG33 C V dX13_rowOf_25 ?_
              refine lv_iload_n hx hb dX13_rowOf_28 rfl (lv_at hl 2 rfl) ?_
              refine mLd33 C V (vin (N := 24) rfl (w1) (i_lt c2)) dX13_rowOf_29 ?_
              refine lv_icmp_ge (tgt := 56) hx hb dX13_rowOf_30 (by decide) (fun c5 => ?_) (fun c5 => ?_)
              · obtain ⟨x6, ex6⟩ : ∃ y : Int32, y = v2_2 + (1) := ⟨_, rfl⟩
                refine lv_iinc (v := x6) (lv' := [(2, .int x6), (0, .ref o), (1, .int t), (3, .int v23_3)]) hx hb dX13_rowOf_56 hl (k := 2) rfl (by rw [ex6]; rfl) (by decide) rfl (fun ls hl => ?_)
                refine lv_goto (tgt := 2) hx hb dX13_rowOf_59 (by decide) ?_
                exact ih2 x6  _ _ _ (by clear V hS hl C hts hown hx hb hml hr hlk ih2 ih23 hm2 hm23; first | exact rw_next ex6 w1 (i_lt c2) w3 (Or.inl c3) | exact rw_next ex6 w1 (i_lt c2) w3 (Or.inr (rw_in hi23 c5))) (msd hm2 (a_dec ex6 w1 (i_lt c2)).1 (a_dec ex6 w1 (i_lt c2)).2) V hS (lv_sub hl [1, 2, 0] rfl)
              · refine lv_aload_n hx hb dX13_rowOf_33 rfl (lv_at hl 0 rfl) ?_
                refine mG32 C V dX13_rowOf_34 ?_
                refine lv_bipush (v := 8) hx hb dX13_rowOf_37 (by decide) ?_
                refine lv_iload_n hx hb dX13_rowOf_39 rfl (lv_at hl 2 rfl) ?_
                refine lv_imul hx hb dX13_rowOf_40 ?_
                refine lv_iload_n hx hb dX13_rowOf_41 rfl (lv_at hl 3 rfl) ?_
                refine lv_iadd hx hb dX13_rowOf_42 ?_
                refine mLd32 C V (vin (N := 192) rfl ((a_ix w1 (i_lt c2) hi23.1 (pre_lv ⟨w1, i_lt c2⟩ h1).2 (i_lt c5)).1) ((a_ix w1 (i_lt c2) hi23.1 (pre_lv ⟨w1, i_lt c2⟩ h1).2 (i_lt c5)).2)) dX13_rowOf_43 ?_
                refine lv_iload_n hx hb dX13_rowOf_44 rfl (lv_at hl 1 rfl) ?_
                refine lv_icmp_ne (tgt := 50) hx hb dX13_rowOf_45 (by decide) (fun c7 => ?_) (fun c7 => ?_)
                · obtain ⟨x8, ex8⟩ : ∃ y : Int32, y = v23_3 + (1) := ⟨_, rfl⟩
                  refine lv_iinc (v := x8) (lv' := [(3, .int x8), (0, .ref o), (1, .int t), (2, .int v2_2)]) hx hb dX13_rowOf_50 hl (k := 3) rfl (by rw [ex8]; rfl) (by decide) rfl (fun ls hl => ?_)
                  refine lv_goto (tgt := 23) hx hb dX13_rowOf_53 (by decide) ?_
                  exact ih23 x8  _ _ _ (rw_nx hi23 c5 ex8 c7) (msd hm23 (a_dec ex8 hi23.1 (i_lt c5)).1 (a_dec ex8 hi23.1 (i_lt c5)).2) V hS (lv_sub hl [1, 2, 3, 0] rfl)
                · refine lv_iload_n hx hb dX13_rowOf_48 rfl (lv_at hl 2 rfl) ?_
                  exact mRetI C hr hlk V hS (⟨rfl, Or.inr ⟨w1, i_lt c2, c3, v23_3, hi23.1, i_lt c5, c7⟩⟩) dX13_rowOf_49
          exact loop23 _ x4  _ _ _ (by clear V hS hl C hts hown hx hb hml hr hlk ih2 hm2; rw [ex4]; exact ⟨by decide, (pre_lv ⟨w1, i_lt c2⟩ h1).1, fun i i0 i1 => by exfalso; clear h1 w3 hi2; grind⟩) (Nat.lt_succ_self _) V hS (lv_sub hl [1, 2, 3, 0] rfl)
        · refine lv_goto (tgt := 56) hx hb dX13_rowOf_18 (by decide) ?_
          obtain ⟨x9, ex9⟩ : ∃ y : Int32, y = v2_2 + (1) := ⟨_, rfl⟩
          refine lv_iinc (v := x9) (lv' := [(2, .int x9), (0, .ref o), (1, .int t)]) hx hb dX13_rowOf_56 hl (k := 2) rfl (by rw [ex9]; rfl) (by decide) rfl (fun ls hl => ?_)
          refine lv_goto (tgt := 2) hx hb dX13_rowOf_59 (by decide) ?_
          exact ih2 x9  _ _ _ (by clear V hS hl C hts hown hx hb hml hr hlk ih2 hm2; first | exact rw_next ex9 w1 (i_lt c2) w3 (Or.inl c3) | exact rw_next ex9 w1 (i_lt c2) w3 (Or.inr (rw_in hi23 nope9))) (msd hm2 (a_dec ex9 w1 (i_lt c2)).1 (a_dec ex9 w1 (i_lt c2)).2) V hS (lv_sub hl [1, 2, 0] rfl)
  exact loop2 _ x1  _ _ _ (by clear V hS hl C hts hown hx hb hml hr hlk; subst_vars; exact ⟨by decide, by decide, fun b i b0 b1 => by exfalso; clear h1; grind⟩) (Nat.lt_succ_self _) V hS (lv_sub hl [1, 2, 0] rfl)
theorem sg_j {S SL S1 S2 : mS} {b t n : Int32} (hb : 0 ≤ b ∧ b < 24) (h : mInv S) (ht : 0 ≤ t ∧ t < 8) (h21 : gA S 21 t ≠ 0) (h16 : gA S 16 t = b) (hi : lvI S SL 34 35 b t n (gA S 35 b)) (e1 : S1 = sA SL 35 b n) (e2 : S2 = sA S1 21 t 0) :
    stp S S2 ∧ nR S2 t ∧ gA S2 21 t = 0 ∧ (0 ≤ gA S2 15 t ∧ gA S2 15 t < gA S2 12 t ∧ gA S2 12 t ≤ 60) ∧ gA S2 28 b = 1 ∧ gA S2 35 b + 1 = gA S 35 b := by
  have en : gA S1 35 b = n := by rw [e1]; simp [gA_sA]
  have hp : lvP S S1 34 35 b t := ⟨SL, by rw [en]; exact hi, by rw [en]; exact e1⟩
  obtain ⟨s1, s2, s3⟩ := s2_inv hb ht h h21 h16 hp e2
  obtain ⟨g1, g2, g3, g4, g5, g6, g7, g8, g9, g10, g11⟩ := lvP_f (by decide) hp
  obtain ⟨t13, j, j0, j1, j2⟩ := (h.2.1 t ht.1 ht.2).2.2 h21
  rw [h16] at j1 j2
  have m := h.2.2.2.2.2.2.1 b j hb.1 hb.2 j0 j1
  have eo : ∀ k q, k ≠ 34 → k ≠ 35 → k ≠ 21 → gA S2 k q = gA S k q := fun k q a1 a2 a3 => by rw [e2, gA_sA, if_neg a3]; exact g3 k q a1 a2
  have hat := at_of h ht (Or.inr (Or.inl t13))
  refine ⟨⟨s1, fun k => by rw [e2]; exact g4 k, fun k q hk => by rcases hk with rfl | rfl | rfl <;> exact eo _ q (by decide) (by decide) (by decide), fun u u0 u1 hn hu => ?_⟩, s3, by rw [e2]; simp [gA_sA], ?_, ?_, ?_⟩
  · have hne : u ≠ t := fun q => h21 (by rw [← q]; exact hu)
    exact ⟨s2 u hn, eo 13 u (by decide) (by decide) (by decide), eo 15 u (by decide) (by decide) (by decide), by rw [e2, gA_sA, if_pos rfl, if_neg hne, g3 21 u (by decide) (by decide)]; exact hu⟩
  · rw [eo 15 t (by decide) (by decide) (by decide), eo 12 t (by decide) (by decide) (by decide)]; exact hat
  · rw [eo 28 b (by decide) (by decide) (by decide)]; exact m.2.2.2.2.2.2
  · have := g11 j j0 j1 j2
    rw [e2]; simp only [gA_sA, if_neg (show ¬ (35 = 21) by decide)]; exact this
theorem sg_w {S S2 S3 : mS} {b t : Int32} (hb : 0 ≤ b ∧ b < 24) (ht : 0 ≤ t ∧ t < 8) (h21 : gA S 21 t ≠ 0) (hj : stp S S2 ∧ nR S2 t ∧ gA S2 21 t = 0 ∧ (0 ≤ gA S2 15 t ∧ gA S2 15 t < gA S2 12 t ∧ gA S2 12 t ≤ 60) ∧ gA S2 28 b = 1 ∧ gA S2 35 b + 1 = gA S 35 b)
    (e : S3 = sA (sA (sA (sA S2 13 t 2) 16 t b) 32 (8 * b + gA S2 33 b) t) 33 b (gA S2 33 b + 1)) : stp S S3 ∧ gA S3 28 b = 1 ∧ gA S3 35 b + 1 = gA S 35 b := by
  obtain ⟨⟨j1, j2, j3, j4⟩, j5, j6, j7, j8, j9⟩ := hj
  obtain ⟨w1, w2⟩ := wF_inv hb ht j1 j5 j6 j7 e
  have eo : ∀ k q, k ≠ 13 → k ≠ 16 → k ≠ 32 → k ≠ 33 → gA S3 k q = gA S2 k q := fun k q a1 a2 a3 a4 => by rw [e]; simp [gA_sA, a1, a2, a3, a4]
  refine ⟨⟨w1, fun k => by rw [e]; exact j2 k, fun k q hk => (by rcases hk with rfl | rfl | rfl <;> exact eo _ q (by decide) (by decide) (by decide) (by decide) : gA S3 k q = gA S2 k q).trans (j3 k q hk), fun u u0 u1 hn hu => ?_⟩, (eo 28 b (by decide) (by decide) (by decide) (by decide)).trans j8, by rw [eo 35 b (by decide) (by decide) (by decide) (by decide)]; exact j9⟩
  have hne : u ≠ t := fun q => h21 (by rw [← q]; exact hu)
  obtain ⟨c1, c2, c3, c4⟩ := j4 u u0 u1 hn hu
  exact ⟨w2 u hne c1, by rw [← c2, e]; simp [gA_sA, hne], (eo 15 u (by decide) (by decide) (by decide) (by decide)).trans c3, (eo 21 u (by decide) (by decide) (by decide) (by decide)).trans c4⟩
/-- what a step of t on an object leaves: t goes on, or not -/
def pas (S S9 : mS) (t r : Int32) : Prop := mInv S9 ∧ (∀ k, gI S9 k = gI S k) ∧ (∀ k i, k = 11 ∨ k = 12 ∨ k = 28 → gA S9 k i = gA S k i) ∧ ((r = 1 ∧ fre S9 t ∧ gA S9 15 t = gA S 15 t) ∨ r = 0)
theorem pas_1 {S S9 : mS} {t : Int32} (hf : fre S t) (h : stp S S9) : pas S S9 t 1 := by
  obtain ⟨a1, a2, a3, a4⟩ := h
  obtain ⟨f1, f2, f3, f4⟩ := hf
  obtain ⟨b1, b2, b3, b4⟩ := a4 t f1.1 f1.2 f4 f3
  exact ⟨a1, a2, a3, Or.inl ⟨rfl, ⟨f1, b2.trans f2, b4, b1⟩, b3⟩⟩
theorem pas_w {S S9 : mS} {b t : Int32} (hf : fre S t) (hb : 0 ≤ b ∧ b < 24) (h : mInv S) (e : S9 = sA (sA (sA (sA S 13 t 2) 16 t b) 32 (8 * b + gA S 33 b) t) 33 b (gA S 33 b + 1)) : pas S S9 t 0 := by
  obtain ⟨f1, f2, f3, f4⟩ := hf
  obtain ⟨w1, w2⟩ := wF_inv hb f1 h f4 f3 (at_of h f1 (Or.inl f2)) e
  exact ⟨w1, fun k => by rw [e]; rfl, fun k q hk => by rw [e]; rcases hk with rfl | rfl | rfl <;> simp [gA_sA], Or.inr rfl⟩
theorem fre_stp {S S9 : mS} {t : Int32} (hf : fre S t) (h : stp S S9) : fre S9 t := by
  obtain ⟨-, -, -, h4⟩ := h
  obtain ⟨f1, f2, f3, f4⟩ := hf
  obtain ⟨b1, b2, b3, b4⟩ := h4 t f1.1 f1.2 f4 f3
  exact ⟨f1, b2.trans f2, b4, b1⟩
theorem pas_tr {S S1 S2 : mS} {t r : Int32} (hf : fre S t) (a : stp S S1) (b : pas S1 S2 t r) : pas S S2 t r := by
  obtain ⟨a1, a2, a3, a4⟩ := a
  obtain ⟨b1, b2, b3, b4⟩ := b
  obtain ⟨f1, f2, f3, f4⟩ := hf
  have c := a4 t f1.1 f1.2 f4 f3
  exact ⟨b1, fun k => (b2 k).trans (a2 k), fun k i hk => (b3 k i hk).trans (a3 k i hk), b4.imp (fun q => ⟨q.1, q.2.1, q.2.2.trans c.2.2.1⟩) id⟩

set_option maxHeartbeats 400000 in
set_option maxRecDepth 100000 in
theorem j_signalled_104 {p : Program} {e : Env} {s : State} {m : MethodId} {below : List Frame} {meth : Method} {c : Code} (l : Launch) (D : va_G) (cs : ClassId × ClassId × ClassId) (o : Nat) (ad : Nat → Nat) (A : Nat → Prop) (S : mS) (b : Int32) (t : Int32)  (h1 : 0 ≤ b ∧ b < 24) (h2 : mInv S) (h3 : 0 ≤ t ∧ t < 8) (h4 : gA S 21 t ≠ 0) (h5 : gA S 16 t = b) (C : mC p s m ([.ref o, .int b, .int t] : List Value).toArray c cX13_signalled D cs) (hml : c.maxLocals = 5) (hr : meth.sig.returnType = none) (hlk : meth.locks = false) (j104_s0 : Int32) (SJ104 : mS) (H : Heap) (locs : List Loc) (ls : Array Slot) (hj104 : stp S SJ104 ∧ nR SJ104 t ∧ gA SJ104 21 t = 0 ∧ (0 ≤ gA SJ104 15 t ∧ gA SJ104 15 t < gA SJ104 12 t ∧ gA SJ104 12 t ≤ 60) ∧ gA SJ104 28 b = 1 ∧ gA SJ104 35 b + 1 = gA S 35 b) (V : mV D cs o ad A SJ104 H) (hS : va_S A s.heap H locs) (hl : lv_has ls 5 [(0, .ref o), (1, .int b), (2, .int t)]) : W p l e ({ frames := 3, cells := 0, slots := 0, locals := 68 } : Room) s m ([.ref o, .int b, .int t] : List Value).toArray below meth c H locs 0 0 (MQ below (va_Qv (fun S9 => stp S S9 ∧ gA S9 35 b + 1 = gA S 35 b) (mB D cs o ad A) A) ([.ref o, .int b, .int t] : List Value).toArray s 0 0 A) (F0 m 104 ls [.int j104_s0]) := by
  have hx := C.1
  have hb := C.2.1
  have hown := C.2.2.1
  have hts := C.2.2.2.1
  refine lv_istore (lv' := [(4, .int j104_s0), (0, .ref o), (1, .int b), (2, .int t)]) hx hb dX13_signalled_104 hl (by decide) rfl (fun ls hl => ?_)
  refine lv_aload_n hx hb dX13_signalled_106 rfl (lv_at hl 1 rfl) ?_
  refine lv_iload_n hx hb dX13_signalled_107 rfl (lv_at hl 3 rfl) ?_
  refine lv_iload_n hx hb dX13_signalled_108 rfl (lv_at hl 2 rfl) ?_
  refine mGoV (mRunV (As := [.int t, .int b]) (rest := []) C hml V (c_waitFor l D cs o ad A SJ104 t b  (h3) (h1) (roomW h1 h3 hj104.1.1 hj104.2.1)) gM_waitFor okM_waitFor ⟨rfl, rfl, Nat.le_of_ble_eq_true rfl, Nat.le_of_ble_eq_true rfl⟩ hl.1 rfl (Nat.le_of_ble_eq_true rfl) dX13_signalled_109 ⟨Nat.zero_le _, Nat.zero_le _⟩) hS (fun S1 H locs hq3 V hS => ?_)
  obtain ⟨u1, u2, u3⟩ := sg_w h1 h3 h4 hj104 hq3
  refine lv_iload hx hb dX13_signalled_112 (lv_at hl 0 rfl) ?_
  refine lv_if_eq (tgt := 122) hx hb dX13_signalled_114 (by decide) (fun c4 => ?_) (fun c4 => ?_)
  · exact mRetV C hr hlk V hS (by clear V hS hl C hts hown hx hb hml hr hlk; first | exact ⟨stp_tr u1 nope9.1, by rw [nope9.2 35 _ (by simp)]; exact u3⟩ | exact ⟨u1, u3⟩) dX13_signalled_122
  · refine lv_aload_n hx hb dX13_signalled_117 rfl (lv_at hl 1 rfl) ?_
    refine lv_iload_n hx hb dX13_signalled_118 rfl (lv_at hl 2 rfl) ?_
    refine mGoV (mRunV (As := [.int b]) (rest := []) C hml V (c_freed l D cs o ad A S1 b  (h1) (u1.1) (u2)) gM_freed okM_freed ⟨rfl, rfl, Nat.le_of_ble_eq_true rfl, Nat.le_of_ble_eq_true rfl⟩ hl.1 rfl (Nat.le_of_ble_eq_true rfl) dX13_signalled_119 ⟨Nat.zero_le _, Nat.zero_le _⟩) hS (fun S5 H locs hq7 V hS => ?_)
    exact mRetV C hr hlk V hS (by clear V hS hl C hts hown hx hb hml hr hlk; first | exact ⟨stp_tr u1 hq7.1, by rw [hq7.2 35 _ (by simp)]; exact u3⟩ | exact ⟨u1, u3⟩) dX13_signalled_122
set_option maxHeartbeats 400000 in
set_option maxRecDepth 100000 in
theorem c_signalled (l : Launch) (D : va_G) (cs : ClassId × ClassId × ClassId) (o : Nat) (ad : Nat → Nat) (A : Nat → Prop) (S : mS) (b : Int32) (t : Int32)  (h1 : 0 ≤ b ∧ b < 24) (h2 : mInv S) (h3 : 0 ≤ t ∧ t < 8) (h4 : gA S 21 t ≠ 0) (h5 : gA S 16 t = b) : Met l yX13_signalled (Cond.code yX13_signalled cX13_signalled 5 none :: tM) ({ frames := 3, cells := 0, slots := 0, locals := 68 }) (va_Pc [.ref o, .int b, .int t] (mB D cs o ad A S)) (va_Qv (fun S9 => stp S S9 ∧ gA S9 35 b + 1 = gA S 35 b) (mB D cs o ad A) A) 0 0 A := by
  refine mMet (by decide) rfl (Nat.le_of_ble_eq_true rfl) ?_
  intro p e s m below meth c ls C hml hr hlk V hl
  have hx := C.1
  have hb := C.2.1
  have hown := C.2.2.1
  have hts := C.2.2.2.1
  have hS : va_S A s.heap s.heap [] := va_S.rf
  have hl : lv_has ls 5 [(0, .ref o), (1, .int b), (2, .int t)] := hl
  refine lv_iconst (v := 0) hx hb dX13_signalled_0 (by decide) ?_
  refine lv_topi (fun x8 ex8 => ?_)
  refine lv_istore_n (lv' := [(3, .int x8), (0, .ref o), (1, .int b), (2, .int t)]) hx hb dX13_signalled_1 rfl hl (by decide) rfl (fun ls hl => ?_)
  refine lv_iconst (v := 0) hx hb dX13_signalled_2 (by decide) ?_
  refine lv_topi (fun x9 ex9 => ?_)
  refine lv_istore (lv' := [(4, .int x9), (3, .int x8), (0, .ref o), (1, .int b), (2, .int t)]) hx hb dX13_signalled_3 hl (by decide) rfl (fun ls hl => ?_)
  have loop5 : ∀ (N5 : Nat) (v5_3 : Int32) (v5_4 : Int32) (SL5 : mS) (H : Heap) (locs : List Loc) (ls : Array Slot), (lvI S SL5 34 35 b t v5_3 v5_4) → ((gA S 35 b - v5_4).toInt.toNat) < N5 → mV D cs o ad A SL5 H → va_S A s.heap H locs → lv_has ls 5 [(0, .ref o), (1, .int b), (2, .int t), (3, .int v5_3), (4, .int v5_4)] → W p l e ({ frames := 3, cells := 0, slots := 0, locals := 68 } : Room) s m ([.ref o, .int b, .int t] : List Value).toArray below meth c H locs 0 0 (MQ below (va_Qv (fun S9 => stp S S9 ∧ gA S9 35 b + 1 = gA S 35 b) (mB D cs o ad A) A) ([.ref o, .int b, .int t] : List Value).toArray s 0 0 A) (F0 m 5 ls []) := by
    intro N5
    induction N5 with
    | zero => intro v5_3 v5_4 SL5 H locs ls hi5 hm5; exact absurd hm5 (Nat.not_lt_zero _)
    | succ N5 ih5 =>
      intro v5_3 v5_4 SL5 H locs ls hi5 hm5 V hS hl
      have hj := id hi5
      obtain ⟨⟨hj1, hj2, hj3⟩, hj4, -⟩ := hj
      have hj5 : gA SL5 35 b = gA S 35 b := hj4 35 b (by decide)
      clear hj4
      have h35 := (h2.2.2.2.1 b h1.1 h1.2).2.1
      refine lv_iload hx hb dX13_signalled_5 (lv_at hl 4 rfl) ?_
      refine lv_aload_n hx hb dX13_signalled_7 rfl (lv_at hl 0 rfl) ?_
      refine mG35 C V dX13_signalled_8 ?_
      refine lv_iload_n hx hb dX13_signalled_11 rfl (lv_at hl 1 rfl) ?_
      refine mLd35 C V (vin (N := 24) rfl (by clear V hS hl C hts hown hx hb hml hr hlk ih5 hm5; clear hi5 h2; grind) (by clear V hS hl C hts hown hx hb hml hr hlk ih5 hm5; clear hi5 h2; grind)) dX13_signalled_12 ?_
      refine lv_icmp_ge (tgt := 67) hx hb dX13_signalled_13 (by decide) (fun c10 => ?_) (fun c10 => ?_)
      · refine lv_aload_n hx hb dX13_signalled_67 rfl (lv_at hl 0 rfl) ?_
        refine mG35 C V dX13_signalled_68 ?_
        refine lv_iload_n hx hb dX13_signalled_71 rfl (lv_at hl 1 rfl) ?_
        refine lv_iload_n hx hb dX13_signalled_72 rfl (lv_at hl 3 rfl) ?_
        refine mSt35 C V hS (vin (N := 24) rfl (by clear V hS hl C hts hown hx hb hml hr hlk ih5 hm5; clear hi5 h2; grind) (by clear V hS hl C hts hown hx hb hml hr hlk ih5 hm5; clear hi5 h2; grind)) dX13_signalled_73 (fun S11 H locs eS11 V hS => ?_)
        refine lv_aload_n hx hb dX13_signalled_74 rfl (lv_at hl 0 rfl) ?_
        refine mG21 C V dX13_signalled_75 ?_
        refine lv_iload_n hx hb dX13_signalled_78 rfl (lv_at hl 2 rfl) ?_
        refine lv_iconst (v := 0) hx hb dX13_signalled_79 (by decide) ?_
        refine mSt21 C V hS (vin (N := 8) rfl (h3.1) (h3.2)) dX13_signalled_80 (fun S12 H locs eS12 V hS => ?_)
        have w9 := sg_j h1 h2 h3 h4 h5 (by rw [show v5_4 = gA S 35 b by clear hi5 h2; grind] at hi5; exact hi5) eS11 eS12
        refine lv_aload_n hx hb dX13_signalled_81 rfl (lv_at hl 0 rfl) ?_
        refine mG31 C V dX13_signalled_82 ?_
        refine lv_iload_n hx hb dX13_signalled_85 rfl (lv_at hl 1 rfl) ?_
        refine mLd31 C V (vin (N := 24) rfl (h1.1) (h1.2)) dX13_signalled_86 ?_
        refine lv_if_ge (tgt := 103) hx hb dX13_signalled_87 (by decide) (fun c13 => ?_) (fun c13 => ?_)
        · refine lv_iconst (v := 0) hx hb dX13_signalled_103 (by decide) ?_
          exact j_signalled_104 l D cs o ad A S b t h1 h2 h3 h4 h5 C hml hr hlk 0 S12 _ _ _ (w9) V hS (lv_sub hl [0, 1, 2] rfl)
        · refine lv_aload_n hx hb dX13_signalled_90 rfl (lv_at hl 0 rfl) ?_
          refine mG33 C V dX13_signalled_91 ?_
          refine lv_iload_n hx hb dX13_signalled_94 rfl (lv_at hl 1 rfl) ?_
          refine mLd33 C V (vin (N := 24) rfl (h1.1) (h1.2)) dX13_signalled_95 ?_
          refine lv_if_ne (tgt := 103) hx hb dX13_signalled_96 (by decide) (fun c14 => ?_) (fun c14 => ?_)
          · refine lv_iconst (v := 0) hx hb dX13_signalled_103 (by decide) ?_
            exact j_signalled_104 l D cs o ad A S b t h1 h2 h3 h4 h5 C hml hr hlk 0 S12 _ _ _ (w9) V hS (lv_sub hl [0, 1, 2] rfl)
          · refine lv_iconst (v := 1) hx hb dX13_signalled_99 (by decide) ?_
            refine lv_goto (tgt := 104) hx hb dX13_signalled_100 (by decide) ?_
            exact j_signalled_104 l D cs o ad A S b t h1 h2 h3 h4 h5 C hml hr hlk 1 S12 _ _ _ (w9) V hS (lv_sub hl [0, 1, 2] rfl)
      · refine lv_aload_n hx hb dX13_signalled_16 rfl (lv_at hl 0 rfl) ?_
        refine mG34 C V dX13_signalled_17 ?_
        refine lv_bipush (v := 8) hx hb dX13_signalled_20 (by decide) ?_
        refine lv_iload_n hx hb dX13_signalled_22 rfl (lv_at hl 1 rfl) ?_
        refine lv_imul hx hb dX13_signalled_23 ?_
        refine lv_iload hx hb dX13_signalled_24 (lv_at hl 4 rfl) ?_
        refine lv_iadd hx hb dX13_signalled_26 ?_
        refine mLd34 C V (vin (N := 192) rfl (by clear V hS hl C hts hown hx hb hml hr hlk ih5 hm5; clear hi5 h2; grind) (by clear V hS hl C hts hown hx hb hml hr hlk ih5 hm5; clear hi5 h2; grind)) dX13_signalled_27 ?_
        refine lv_iload_n hx hb dX13_signalled_28 rfl (lv_at hl 2 rfl) ?_
        refine lv_icmp_ne (tgt := 35) hx hb dX13_signalled_29 (by decide) (fun c15 => ?_) (fun c15 => ?_)
        · refine lv_aload_n hx hb dX13_signalled_35 rfl (lv_at hl 0 rfl) ?_
          refine mG34 C V dX13_signalled_36 ?_
          refine lv_bipush (v := 8) hx hb dX13_signalled_39 (by decide) ?_
          refine lv_iload_n hx hb dX13_signalled_41 rfl (lv_at hl 1 rfl) ?_
          refine lv_imul hx hb dX13_signalled_42 ?_
          refine lv_iload_n hx hb dX13_signalled_43 rfl (lv_at hl 3 rfl) ?_
          refine lv_iadd hx hb dX13_signalled_44 ?_
          refine lv_aload_n hx hb dX13_signalled_45 rfl (lv_at hl 0 rfl) ?_
          refine mG34 C V dX13_signalled_46 ?_
          refine lv_bipush (v := 8) hx hb dX13_signalled_49 (by decide) ?_
          refine lv_iload_n hx hb dX13_signalled_51 rfl (lv_at hl 1 rfl) ?_
          refine lv_imul hx hb dX13_signalled_52 ?_
          refine lv_iload hx hb dX13_signalled_53 (lv_at hl 4 rfl) ?_
          refine lv_iadd hx hb dX13_signalled_55 ?_
          refine mLd34 C V (vin (N := 192) rfl (by clear V hS hl C hts hown hx hb hml hr hlk ih5 hm5; clear hi5 h2; grind) (by clear V hS hl C hts hown hx hb hml hr hlk ih5 hm5; clear hi5 h2; grind)) dX13_signalled_56 ?_
          refine mSt34 C V hS (vin (N := 192) rfl (by clear V hS hl C hts hown hx hb hml hr hlk ih5 hm5; clear hi5 h2; grind) (by clear V hS hl C hts hown hx hb hml hr hlk ih5 hm5; clear hi5 h2; grind)) dX13_signalled_57 (fun S16 H locs eS16 V hS => ?_)
          obtain ⟨x17, ex17⟩ : ∃ y : Int32, y = v5_3 + (1) := ⟨_, rfl⟩
          refine lv_iinc (v := x17) (lv' := [(3, .int x17), (0, .ref o), (1, .int b), (2, .int t), (4, .int v5_4)]) hx hb dX13_signalled_58 hl (k := 3) rfl (by rw [ex17]; rfl) (by decide) rfl (fun ls hl => ?_)
          obtain ⟨x18, ex18⟩ : ∃ y : Int32, y = v5_4 + (1) := ⟨_, rfl⟩
          refine lv_iinc (v := x18) (lv' := [(4, .int x18), (3, .int x17), (0, .ref o), (1, .int b), (2, .int t)]) hx hb dX13_signalled_61 hl (k := 4) rfl (by rw [ex18]; rfl) (by decide) rfl (fun ls hl => ?_)
          refine lv_goto (tgt := 5) hx hb dX13_signalled_64 (by decide) ?_
          exact ih5 x17 x18 S16 _ _ _ (by clear V hS hl C hts hown hx hb hml hr hlk ih5 hm5; subst_vars; first | exact lvI_skip h1 h35.2 (h2.2.2.2.2.2.2.2 _ h1.1 h1.2) hi5 (by clear hi5 h2; grind) (by clear hi5 h2; grind) | exact lvI_keep h1 h35.2 (by decide) (h2.2.2.2.2.2.2.2 _ h1.1 h1.2) hi5 (by clear hi5 h2; grind) (by clear hi5 h2; grind) rfl) (msd hm5 (by clear V hS hl C hts hown hx hb hml hr hlk ih5 hm5; clear hi5 h2; subst_vars; grind) (by clear V hS hl C hts hown hx hb hml hr hlk ih5 hm5; clear hi5 h2; subst_vars; grind)) V hS (lv_sub hl [2, 3, 4, 1, 0] rfl)
        · refine lv_goto (tgt := 61) hx hb dX13_signalled_32 (by decide) ?_
          obtain ⟨x19, ex19⟩ : ∃ y : Int32, y = v5_4 + (1) := ⟨_, rfl⟩
          refine lv_iinc (v := x19) (lv' := [(4, .int x19), (0, .ref o), (1, .int b), (2, .int t), (3, .int v5_3)]) hx hb dX13_signalled_61 hl (k := 4) rfl (by rw [ex19]; rfl) (by decide) rfl (fun ls hl => ?_)
          refine lv_goto (tgt := 5) hx hb dX13_signalled_64 (by decide) ?_
          exact ih5 v5_3 x19 SL5 _ _ _ (by clear V hS hl C hts hown hx hb hml hr hlk ih5 hm5; subst_vars; first | exact lvI_skip h1 h35.2 (h2.2.2.2.2.2.2.2 _ h1.1 h1.2) hi5 (by clear hi5 h2; grind) (by clear hi5 h2; grind) | exact lvI_keep h1 h35.2 (by decide) (h2.2.2.2.2.2.2.2 _ h1.1 h1.2) hi5 (by clear hi5 h2; grind) (by clear hi5 h2; grind) rfl) (msd hm5 (by clear V hS hl C hts hown hx hb hml hr hlk ih5 hm5; clear hi5 h2; subst_vars; grind) (by clear V hS hl C hts hown hx hb hml hr hlk ih5 hm5; clear hi5 h2; subst_vars; grind)) V hS (lv_sub hl [1, 2, 3, 4, 0] rfl)
  exact loop5 _ x8 x9 S _ _ _ (by clear V hS hl C hts hown hx hb hml hr hlk; subst_vars; exact lvI_0 (h2.2.2.2.1 _ h1.1 h1.2).2.1.1) (Nat.lt_succ_self _) V hS (lv_sub hl [2, 3, 4, 1, 0] rfl)
set_option maxHeartbeats 400000 in
set_option maxRecDepth 100000 in
theorem c_passes (l : Launch) (D : va_G) (cs : ClassId × ClassId × ClassId) (o : Nat) (ad : Nat → Nat) (A : Nat → Prop) (S : mS) (t : Int32) (b : Int32)  (h1 : fre S t) (h2 : 0 ≤ b ∧ b < 24) (h3 : mInv S) : Met l yX13_passes (Cond.code yX13_passes cX13_passes 3 (some .boolean) :: tM) ({ frames := 1, cells := 0, slots := 0, locals := 22 }) (va_Pc [.ref o, .int t, .int b] (mB D cs o ad A S)) (va_Qi (fun r9 S9 => pas S S9 t r9) (mB D cs o ad A) A) 0 0 A := by
  refine mMet (by decide) rfl (Nat.le_of_ble_eq_true rfl) ?_
  intro p e s m below meth c ls C hml hr hlk V hl
  have hx := C.1
  have hb := C.2.1
  have hown := C.2.2.1
  have hts := C.2.2.2.1
  have hS : va_S A s.heap s.heap [] := va_S.rf
  have hl : lv_has ls 3 [(0, .ref o), (1, .int t), (2, .int b)] := hl
  refine lv_aload_n hx hb dX13_passes_0 rfl (lv_at hl 0 rfl) ?_
  refine mG20 C V dX13_passes_1 ?_
  refine lv_iload_n hx hb dX13_passes_4 rfl (lv_at hl 1 rfl) ?_
  refine mLd20 C V (vin (N := 8) rfl (h1.1.1) (h1.1.2)) dX13_passes_5 ?_
  refine lv_if_eq (tgt := 26) hx hb dX13_passes_6 (by decide) (fun c1 => ?_) (fun c1 => ?_)
  · refine lv_aload_n hx hb dX13_passes_26 rfl (lv_at hl 0 rfl) ?_
    refine lv_iload_n hx hb dX13_passes_27 rfl (lv_at hl 1 rfl) ?_
    refine lv_iload_n hx hb dX13_passes_28 rfl (lv_at hl 2 rfl) ?_
    refine mGoV (mRunV (As := [.int t, .int b]) (rest := []) C hml V (c_waitFor l D cs o ad A S t b  (h1.1) (h2) (roomW h2 h1.1 h3 h1.2.2.2)) gM_waitFor okM_waitFor ⟨rfl, rfl, Nat.le_of_ble_eq_true rfl, Nat.le_of_ble_eq_true rfl⟩ hl.1 rfl (Nat.le_of_ble_eq_true rfl) dX13_passes_29 ⟨Nat.zero_le _, Nat.zero_le _⟩) hS (fun S2 H locs hq4 V hS => ?_)
    refine lv_iconst (v := 0) hx hb dX13_passes_32 (by decide) ?_
    exact mRetZ C hr hlk V hS (by clear V hS hl C hts hown hx hb hml hr hlk; first | rfl | decide | (subst_vars; rfl)) (pas_w h1 h2 h3 hq4) dX13_passes_33
  · refine lv_aload_n hx hb dX13_passes_9 rfl (lv_at hl 0 rfl) ?_
    refine mG20 C V dX13_passes_10 ?_
    refine lv_iload_n hx hb dX13_passes_13 rfl (lv_at hl 1 rfl) ?_
    refine lv_iconst (v := 0) hx hb dX13_passes_14 (by decide) ?_
    refine mSt20 C V hS (vin (N := 8) rfl (h1.1.1) (h1.1.2)) dX13_passes_15 (fun S5 H locs eS5 V hS => ?_)
    refine lv_aload_n hx hb dX13_passes_16 rfl (lv_at hl 0 rfl) ?_
    refine mG14 C V dX13_passes_17 ?_
    refine lv_iload_n hx hb dX13_passes_20 rfl (lv_at hl 1 rfl) ?_
    refine lv_bipush (v := (-2)) hx hb dX13_passes_21 (by decide) ?_
    refine mSt14 C V hS (vin (N := 8) rfl (h1.1.1) (h1.1.2)) dX13_passes_23 (fun S6 H locs eS6 V hS => ?_)
    refine lv_iconst (v := 1) hx hb dX13_passes_24 (by decide) ?_
    exact mRetZ C hr hlk V hS (by clear V hS hl C hts hown hx hb hml hr hlk; first | rfl | decide | (subst_vars; rfl)) (pas_1 h1 (stp_sm h3 (fun k => by rw [eS6, eS5]; rfl) (fun k i hk => by rw [eS6, eS5]; rcases hk with rfl | rfl | rfl | rfl | rfl | rfl | rfl | rfl | rfl | rfl | rfl | rfl | rfl | rfl | rfl <;> simp [gA_sA]))) dX13_passes_25
end
section
/-! the reference: single writes that keep 'stp' -/
theorem st_irr {S S1 S2 : mS} {k : Nat} {i x : Int32} (h : stp S S1) (e : S2 = sA S1 k i x) (hk : ¬ smK k) : stp S S2 :=
  stp_tr h (stp_sm h.1 (fun j => by rw [e]; rfl) (fun j q hj => by rw [e, gA_sA, if_neg (fun z => hk (by rw [← z]; exact hj))]))
theorem st_irrL {S S1 S2 : mS} {k : Nat} {i : Int32} {x : Int64} (h : stp S S1) (e : S2 = sL S1 k i x) : stp S S2 :=
  stp_tr h (stp_sm h.1 (fun j => by rw [e]; rfl) (fun j q hj => by rw [e]; rfl))
theorem st_first {S S1 S2 : mS} {b x : Int32} (h : stp S S1) (h5 : gA S 28 b ≠ 5) (hb : 0 ≤ b ∧ b < 24) (e : S2 = sA S1 29 b x) : stp S S2 := by
  have k5 : gA S1 28 b ≠ 5 := by rw [h.2.2.1 28 b (by simp)]; exact h5
  have ob := (h.1.2.2.2.1 b hb.1 hb.2).2.2.1
  refine stp_tr h (stp_ow (b := b) h.1 (fun j => by rw [e]; rfl) ?_ (fun q => absurd q k5) (fun k q _ k29 _ _ => by rw [e, gA_sA, if_neg k29]) (fun k d _ hd => by rw [e]; simp [gA_sA, hd]))
  rw [e]; simp only [gA_sA, if_neg (show ¬ (31 = 29) by decide)]; exact ob
theorem st_owner {S S1 S2 : mS} {b x : Int32} (h : stp S S1) (hb : 0 ≤ b ∧ b < 24) (e : S2 = sA S1 31 b x) (hx : -1 ≤ x ∧ x < 8) : stp S S2 := by
  have ob := (h.1.2.2.2.1 b hb.1 hb.2).2.2.2
  refine stp_tr h (stp_ow (b := b) h.1 (fun j => by rw [e]; rfl) ?_ (fun q => ?_) (fun k q _ _ k31 _ => by rw [e, gA_sA, if_neg k31]) (fun k d _ hd => by rw [e]; simp [gA_sA, hd]))
  · rw [e]; simp only [gA_sA, if_pos]; exact hx
  · rw [e]; simp only [gA_sA, if_neg (show ¬ (37 = 31) by decide), if_neg (show ¬ (29 = 31) by decide)]; exact ob q
theorem st_qlen {S S1 S2 : mS} {b x : Int32} (h : stp S S1) (hb : 0 ≤ b ∧ b < 24) (e : S2 = sA S1 37 b x) (hx : gA S1 28 b = 5 → 0 ≤ x ∧ x ≤ gA S1 29 b) : stp S S2 := by
  have ob := (h.1.2.2.2.1 b hb.1 hb.2).2.2
  refine stp_tr h (stp_ow (b := b) h.1 (fun j => by rw [e]; rfl) ?_ (fun q => ?_) (fun k q _ _ _ k37 => by rw [e, gA_sA, if_neg k37]) (fun k d _ hd => by rw [e]; simp [gA_sA, hd]))
  · rw [e]; simp only [gA_sA, if_neg (show ¬ (31 = 37) by decide)]; exact ob.1
  · rw [e]; simp only [gA_sA, if_pos, if_neg (show ¬ (29 = 37) by decide)]; exact ⟨(hx q).1, (hx q).2, (ob.2 q).2.2⟩
theorem at60 {S S1 : mS} {t : Int32} (hf : fre S t) (w : stp S S1) : 0 ≤ gA S1 15 t ∧ gA S1 15 t < 60 := by
  have f := fre_stp hf w
  have a := at_of w.1 f.1 (Or.inl f.2.1)
  clear w f hf; grind
theorem row0 {S : mS} {b : Int32} (hb : 0 ≤ b ∧ b < 24) (h : mInv S) (hL : 0 < gA S 33 b) : (0 ≤ gA S 32 (8 * b) ∧ gA S 32 (8 * b) < 8) ∧ (0 ≤ gA S 15 (gA S 32 (8 * b)) ∧ gA S 15 (gA S 32 (8 * b)) < 60) := by
  obtain ⟨r1, r2, r3⟩ := in_row (t := gA S 32 (8 * b)) hb h ⟨0, by decide, hL, by rw [Int32.add_zero]⟩
  have a := at_of h r1 r3
  exact ⟨r1, by clear h r2 r3; grind⟩
theorem a_8b {b : Int32} (hb : 0 ≤ b ∧ b < 24) : 0 ≤ 8 * b ∧ 8 * b < 192 := by grind
theorem i_gt {x : Int32} (h : ¬ x ≤ 0) : 0 < x := by grind
theorem own8 {t : Int32} (h : 0 ≤ t ∧ t < 8) : -1 ≤ t ∧ t < 8 := by grind
/-- t fails: it stood in no row -/
theorem pas_f {S S1 S9 : mS} {t w : Int32} (hf : fre S t) (h : stp S S1) (e : S9 = sA (sA S1 13 t 5) 17 t w) : pas S S9 t 0 := by
  obtain ⟨f1, f2, f3, f4⟩ := fre_stp hf h
  have hI : ∀ k, gI S9 k = gI S1 k := fun k => by rw [e]; rfl
  have r := th_inv h.1 f1 f4 f3 hI (fun k i hk a1 a2 a3 => by rw [e]; rcases hk with rfl | rfl | rfl | rfl | rfl | rfl | rfl | rfl | rfl | rfl | rfl | rfl | rfl | rfl | rfl <;> first | exact absurd rfl a1 | exact absurd rfl a2 | exact absurd rfl a3 | simp [gA_sA]) (fun k u hk hu => by rw [e]; simp [gA_sA, hu]) (fun q1 q2 => by rw [e] at q2; simp [gA_sA] at q2) (fun q => by rw [e] at q; simp [gA_sA] at q)
  exact ⟨r.1, fun k => (hI k).trans (h.2.1 k), fun k i hk => by rw [e]; rcases hk with rfl | rfl | rfl <;> simp [gA_sA] <;> exact h.2.2.1 _ i (by simp), Or.inr rfl⟩
end
section
theorem pz {S S9 : mS} {t r : Int32} (h : pas S S9 t r) : narrow .boolean (.int r) = .int r := by
  rcases h.2.2.2 with ⟨q, -⟩ | q <;> rw [q] <;> rfl

set_option maxHeartbeats 400000 in
set_option maxRecDepth 100000 in
theorem j_atCell_129 {p : Program} {e : Env} {s : State} {m : MethodId} {below : List Frame} {meth : Method} {c : Code} (l : Launch) (D : va_G) (cs : ClassId × ClassId × ClassId) (o : Nat) (ad : Nat → Nat) (A : Nat → Prop) (S : mS) (t : Int32) (q : Int32) (b : Int32)  (h1 : fre S t) (h2 : 0 ≤ b ∧ b < 24) (h3 : mInv S) (h4 : gA S 28 b ≠ 5) (C : mC p s m ([.ref o, .int t, .int q, .int b] : List Value).toArray c cX13_atCell D cs) (hml : c.maxLocals = 5) (hr : meth.sig.returnType = (some .boolean)) (hlk : meth.locks = false) (j129_s2 : Int32) (SJ129 : mS) (H : Heap) (locs : List Loc) (ls : Array Slot) (hj129 : stp S SJ129) (V : mV D cs o ad A SJ129 H) (hS : va_S A s.heap H locs) (hl : lv_has ls 5 [(0, .ref o), (1, .int t), (2, .int q), (3, .int b)]) : W p l e ({ frames := 1, cells := 0, slots := 0, locals := 22 } : Room) s m ([.ref o, .int t, .int q, .int b] : List Value).toArray below meth c H locs 0 0 (MQ below (va_Qi (fun r9 S9 => pas S S9 t r9) (mB D cs o ad A) A) ([.ref o, .int t, .int q, .int b] : List Value).toArray s 0 0 A) (F0 m 129 ls [.int j129_s2, .int t, .ref (ad 14)]) := by
  have hx := C.1
  have hb := C.2.1
  have hown := C.2.2.1
  have hts := C.2.2.2.1
  have w1 := hj129
  refine mSt14 C V hS (vin (N := 8) rfl (h1.1.1) (h1.1.2)) dX13_atCell_129 (fun S2 H locs eS2 V hS => ?_)
  have w3 := st_irr w1 eS2 (by simp [smK])
  refine lv_iconst (v := 1) hx hb dX13_atCell_130 (by decide) ?_
  exact mRetZ C hr hlk V hS (by clear V hS hl C hts hown hx hb hml hr hlk; first | rfl | decide | (subst_vars; rfl)) (pas_1 h1 w3) dX13_atCell_131
set_option maxHeartbeats 400000 in
set_option maxRecDepth 100000 in
theorem j_atCell_114 {p : Program} {e : Env} {s : State} {m : MethodId} {below : List Frame} {meth : Method} {c : Code} (l : Launch) (D : va_G) (cs : ClassId × ClassId × ClassId) (o : Nat) (ad : Nat → Nat) (A : Nat → Prop) (S : mS) (t : Int32) (q : Int32) (b : Int32)  (h1 : fre S t) (h2 : 0 ≤ b ∧ b < 24) (h3 : mInv S) (h4 : gA S 28 b ≠ 5) (C : mC p s m ([.ref o, .int t, .int q, .int b] : List Value).toArray c cX13_atCell D cs) (hml : c.maxLocals = 5) (hr : meth.sig.returnType = (some .boolean)) (hlk : meth.locks = false) (j114_4 : Int32) (SJ114 : mS) (H : Heap) (locs : List Loc) (ls : Array Slot) (hj114 : stp S SJ114) (V : mV D cs o ad A SJ114 H) (hS : va_S A s.heap H locs) (hl : lv_has ls 5 [(0, .ref o), (1, .int t), (2, .int q), (3, .int b), (4, .int j114_4)]) : W p l e ({ frames := 1, cells := 0, slots := 0, locals := 22 } : Room) s m ([.ref o, .int t, .int q, .int b] : List Value).toArray below meth c H locs 0 0 (MQ below (va_Qi (fun r9 S9 => pas S S9 t r9) (mB D cs o ad A) A) ([.ref o, .int t, .int q, .int b] : List Value).toArray s 0 0 A) (F0 m 114 ls []) := by
  have hx := C.1
  have hb := C.2.1
  have hown := C.2.2.1
  have hts := C.2.2.2.1
  have w4 := hj114
  refine lv_aload_n hx hb dX13_atCell_114 rfl (lv_at hl 0 rfl) ?_
  refine mG14 C V dX13_atCell_115 ?_
  refine lv_iload_n hx hb dX13_atCell_118 rfl (lv_at hl 1 rfl) ?_
  refine lv_iload hx hb dX13_atCell_119 (lv_at hl 4 rfl) ?_
  refine lv_if_eq (tgt := 128) hx hb dX13_atCell_121 (by decide) (fun c5 => ?_) (fun c5 => ?_)
  · refine lv_iconst (v := 0) hx hb dX13_atCell_128 (by decide) ?_
    exact j_atCell_129 l D cs o ad A S t q b h1 h2 h3 h4 C hml hr hlk 0 SJ114 _ _ _ (w4) V hS (lv_sub hl [0, 1, 2, 3] rfl)
  · refine lv_iconst (v := 1) hx hb dX13_atCell_124 (by decide) ?_
    refine lv_goto (tgt := 129) hx hb dX13_atCell_125 (by decide) ?_
    exact j_atCell_129 l D cs o ad A S t q b h1 h2 h3 h4 C hml hr hlk 1 SJ114 _ _ _ (w4) V hS (lv_sub hl [0, 1, 2, 3] rfl)
set_option maxHeartbeats 400000 in
set_option maxRecDepth 100000 in
theorem j_atCell_95 {p : Program} {e : Env} {s : State} {m : MethodId} {below : List Frame} {meth : Method} {c : Code} (l : Launch) (D : va_G) (cs : ClassId × ClassId × ClassId) (o : Nat) (ad : Nat → Nat) (A : Nat → Prop) (S : mS) (t : Int32) (q : Int32) (b : Int32)  (h1 : fre S t) (h2 : 0 ≤ b ∧ b < 24) (h3 : mInv S) (h4 : gA S 28 b ≠ 5) (C : mC p s m ([.ref o, .int t, .int q, .int b] : List Value).toArray c cX13_atCell D cs) (hml : c.maxLocals = 5) (hr : meth.sig.returnType = (some .boolean)) (hlk : meth.locks = false) (j95_s0 : Int32) (SJ95 : mS) (H : Heap) (locs : List Loc) (ls : Array Slot) (hj95 : stp S SJ95) (V : mV D cs o ad A SJ95 H) (hS : va_S A s.heap H locs) (hl : lv_has ls 5 [(0, .ref o), (1, .int t), (2, .int q), (3, .int b)]) : W p l e ({ frames := 1, cells := 0, slots := 0, locals := 22 } : Room) s m ([.ref o, .int t, .int q, .int b] : List Value).toArray below meth c H locs 0 0 (MQ below (va_Qi (fun r9 S9 => pas S S9 t r9) (mB D cs o ad A) A) ([.ref o, .int t, .int q, .int b] : List Value).toArray s 0 0 A) (F0 m 95 ls [.int j95_s0]) := by
  have hx := C.1
  have hb := C.2.1
  have hown := C.2.2.1
  have hts := C.2.2.2.1
  have w6 := hj95
  refine lv_istore (lv' := [(4, .int j95_s0), (0, .ref o), (1, .int t), (2, .int q), (3, .int b)]) hx hb dX13_atCell_95 hl (by decide) rfl (fun ls hl => ?_)
  refine lv_iload hx hb dX13_atCell_97 (lv_at hl 0 rfl) ?_
  refine lv_if_eq (tgt := 114) hx hb dX13_atCell_99 (by decide) (fun c7 => ?_) (fun c7 => ?_)
  · exact j_atCell_114 l D cs o ad A S t q b h1 h2 h3 h4 C hml hr hlk j95_s0 SJ95 _ _ _ (w6) V hS (lv_sub hl [1, 2, 3, 4, 0] rfl)
  · refine lv_aload_n hx hb dX13_atCell_102 rfl (lv_at hl 1 rfl) ?_
    refine mG29 C V dX13_atCell_103 ?_
    refine lv_iload_n hx hb dX13_atCell_106 rfl (lv_at hl 4 rfl) ?_
    refine lv_aload_n hx hb dX13_atCell_107 rfl (lv_at hl 1 rfl) ?_
    refine lv_iload_n hx hb dX13_atCell_108 rfl (lv_at hl 2 rfl) ?_
    refine lv_iconst (v := 3) hx hb dX13_atCell_109 (by decide) ?_
    refine mGoP (mRunV (As := [.int t, .int 3]) (rest := [.int b, .ref (ad 29)]) C hml V (c_part l D cs o ad A SJ95 t 3  (h1.1) (at60 h1 w6) (by clear V hS hl C hts hown hx hb hml hr hlk; decide)) gM_part okM_part ⟨rfl, rfl, Nat.le_of_ble_eq_true rfl, Nat.le_of_ble_eq_true rfl⟩ hl.1 rfl (Nat.le_of_ble_eq_true rfl) dX13_atCell_110 ⟨Nat.zero_le _, Nat.zero_le _⟩) hS (fun r9 H locs hq10 V hS => ?_)
    refine mSt29 C V hS (vin (N := 24) rfl (h2.1) (h2.2)) dX13_atCell_113 (fun S11 H locs eS11 V hS => ?_)
    have w12 := st_first w6 h4 h2 eS11
    exact j_atCell_114 l D cs o ad A S t q b h1 h2 h3 h4 C hml hr hlk j95_s0 S11 _ _ _ (w12) V hS (lv_sub hl [1, 2, 3, 4, 0] rfl)
set_option maxHeartbeats 400000 in
set_option maxRecDepth 100000 in
theorem j_atCell_69 {p : Program} {e : Env} {s : State} {m : MethodId} {below : List Frame} {meth : Method} {c : Code} (l : Launch) (D : va_G) (cs : ClassId × ClassId × ClassId) (o : Nat) (ad : Nat → Nat) (A : Nat → Prop) (S : mS) (t : Int32) (q : Int32) (b : Int32)  (h1 : fre S t) (h2 : 0 ≤ b ∧ b < 24) (h3 : mInv S) (h4 : gA S 28 b ≠ 5) (C : mC p s m ([.ref o, .int t, .int q, .int b] : List Value).toArray c cX13_atCell D cs) (hml : c.maxLocals = 5) (hr : meth.sig.returnType = (some .boolean)) (hlk : meth.locks = false)  (SJ69 : mS) (H : Heap) (locs : List Loc) (ls : Array Slot) (hj69 : stp S SJ69) (V : mV D cs o ad A SJ69 H) (hS : va_S A s.heap H locs) (hl : lv_has ls 5 [(0, .ref o), (1, .int t), (2, .int q), (3, .int b)]) : W p l e ({ frames := 1, cells := 0, slots := 0, locals := 22 } : Room) s m ([.ref o, .int t, .int q, .int b] : List Value).toArray below meth c H locs 0 0 (MQ below (va_Qi (fun r9 S9 => pas S S9 t r9) (mB D cs o ad A) A) ([.ref o, .int t, .int q, .int b] : List Value).toArray s 0 0 A) (F0 m 69 ls []) := by
  have hx := C.1
  have hb := C.2.1
  have hown := C.2.2.1
  have hts := C.2.2.2.1
  have w13 := hj69
  refine lv_iload_n hx hb dX13_atCell_69 rfl (lv_at hl 2 rfl) ?_
  refine lv_bipush (v := 16) hx hb dX13_atCell_70 (by decide) ?_
  refine lv_icmp_ne (tgt := 130) hx hb dX13_atCell_72 (by decide) (fun c14 => ?_) (fun c14 => ?_)
  · refine lv_iconst (v := 1) hx hb dX13_atCell_130 (by decide) ?_
    exact mRetZ C hr hlk V hS (by clear V hS hl C hts hown hx hb hml hr hlk; first | rfl | decide | (subst_vars; rfl)) (pas_1 h1 w13) dX13_atCell_131
  · refine lv_aload_n hx hb dX13_atCell_75 rfl (lv_at hl 0 rfl) ?_
    refine mG29 C V dX13_atCell_76 ?_
    refine lv_iload_n hx hb dX13_atCell_79 rfl (lv_at hl 3 rfl) ?_
    refine mLd29 C V (vin (N := 24) rfl (h2.1) (h2.2)) dX13_atCell_80 ?_
    refine lv_aload_n hx hb dX13_atCell_81 rfl (lv_at hl 0 rfl) ?_
    refine lv_iload_n hx hb dX13_atCell_82 rfl (lv_at hl 1 rfl) ?_
    refine lv_iconst (v := 2) hx hb dX13_atCell_83 (by decide) ?_
    refine mGoP (mRunV (As := [.int t, .int 2]) (rest := [.int (gA SJ69 29 b)]) C hml V (c_part l D cs o ad A SJ69 t 2  (h1.1) (at60 h1 w13) (by clear V hS hl C hts hown hx hb hml hr hlk; decide)) gM_part okM_part ⟨rfl, rfl, Nat.le_of_ble_eq_true rfl, Nat.le_of_ble_eq_true rfl⟩ hl.1 rfl (Nat.le_of_ble_eq_true rfl) dX13_atCell_84 ⟨Nat.zero_le _, Nat.zero_le _⟩) hS (fun r16 H locs hq17 V hS => ?_)
    refine lv_icmp_ne (tgt := 94) hx hb dX13_atCell_87 (by decide) (fun c18 => ?_) (fun c18 => ?_)
    · refine lv_iconst (v := 0) hx hb dX13_atCell_94 (by decide) ?_
      exact j_atCell_95 l D cs o ad A S t q b h1 h2 h3 h4 C hml hr hlk 0 SJ69 _ _ _ (w13) V hS (lv_sub hl [0, 1, 2, 3] rfl)
    · refine lv_iconst (v := 1) hx hb dX13_atCell_90 (by decide) ?_
      refine lv_goto (tgt := 95) hx hb dX13_atCell_91 (by decide) ?_
      exact j_atCell_95 l D cs o ad A S t q b h1 h2 h3 h4 C hml hr hlk 1 SJ69 _ _ _ (w13) V hS (lv_sub hl [0, 1, 2, 3] rfl)
set_option maxHeartbeats 400000 in
set_option maxRecDepth 100000 in
theorem j_atCell_36 {p : Program} {e : Env} {s : State} {m : MethodId} {below : List Frame} {meth : Method} {c : Code} (l : Launch) (D : va_G) (cs : ClassId × ClassId × ClassId) (o : Nat) (ad : Nat → Nat) (A : Nat → Prop) (S : mS) (t : Int32) (q : Int32) (b : Int32)  (h1 : fre S t) (h2 : 0 ≤ b ∧ b < 24) (h3 : mInv S) (h4 : gA S 28 b ≠ 5) (C : mC p s m ([.ref o, .int t, .int q, .int b] : List Value).toArray c cX13_atCell D cs) (hml : c.maxLocals = 5) (hr : meth.sig.returnType = (some .boolean)) (hlk : meth.locks = false)  (SJ36 : mS) (H : Heap) (locs : List Loc) (ls : Array Slot) (hj36 : stp S SJ36) (V : mV D cs o ad A SJ36 H) (hS : va_S A s.heap H locs) (hl : lv_has ls 5 [(0, .ref o), (1, .int t), (2, .int q), (3, .int b)]) : W p l e ({ frames := 1, cells := 0, slots := 0, locals := 22 } : Room) s m ([.ref o, .int t, .int q, .int b] : List Value).toArray below meth c H locs 0 0 (MQ below (va_Qi (fun r9 S9 => pas S S9 t r9) (mB D cs o ad A) A) ([.ref o, .int t, .int q, .int b] : List Value).toArray s 0 0 A) (F0 m 36 ls []) := by
  have hx := C.1
  have hb := C.2.1
  have hown := C.2.2.1
  have hts := C.2.2.2.1
  have w19 := hj36
  refine lv_iload_n hx hb dX13_atCell_36 rfl (lv_at hl 2 rfl) ?_
  refine lv_bipush (v := 15) hx hb dX13_atCell_37 (by decide) ?_
  refine lv_icmp_ne (tgt := 69) hx hb dX13_atCell_39 (by decide) (fun c20 => ?_) (fun c20 => ?_)
  · exact j_atCell_69 l D cs o ad A S t q b h1 h2 h3 h4 C hml hr hlk  SJ36 _ _ _ (w19) V hS (lv_sub hl [0, 1, 2, 3] rfl)
  · refine lv_aload_n hx hb dX13_atCell_42 rfl (lv_at hl 0 rfl) ?_
    refine mG29 C V dX13_atCell_43 ?_
    refine lv_iload_n hx hb dX13_atCell_46 rfl (lv_at hl 3 rfl) ?_
    refine lv_dup2_11 hx hb dX13_atCell_47 rfl rfl ?_
    refine mLd29 C V (vin (N := 24) rfl (h2.1) (h2.2)) dX13_atCell_48 ?_
    refine lv_aload_n hx hb dX13_atCell_49 rfl (lv_at hl 0 rfl) ?_
    refine lv_iload_n hx hb dX13_atCell_50 rfl (lv_at hl 1 rfl) ?_
    refine lv_iconst (v := 2) hx hb dX13_atCell_51 (by decide) ?_
    refine mGoP (mRunV (As := [.int t, .int 2]) (rest := [.int (gA SJ36 29 b), .int b, .ref (ad 29)]) C hml V (c_part l D cs o ad A SJ36 t 2  (h1.1) (at60 h1 w19) (by clear V hS hl C hts hown hx hb hml hr hlk; decide)) gM_part okM_part ⟨rfl, rfl, Nat.le_of_ble_eq_true rfl, Nat.le_of_ble_eq_true rfl⟩ hl.1 rfl (Nat.le_of_ble_eq_true rfl) dX13_atCell_52 ⟨Nat.zero_le _, Nat.zero_le _⟩) hS (fun r22 H locs hq23 V hS => ?_)
    refine lv_iadd hx hb dX13_atCell_55 ?_
    refine mSt29 C V hS (vin (N := 24) rfl (h2.1) (h2.2)) dX13_atCell_56 (fun S24 H locs eS24 V hS => ?_)
    have w25 := st_first w19 h4 h2 eS24
    refine lv_aload_n hx hb dX13_atCell_57 rfl (lv_at hl 0 rfl) ?_
    refine mG14 C V dX13_atCell_58 ?_
    refine lv_iload_n hx hb dX13_atCell_61 rfl (lv_at hl 1 rfl) ?_
    refine lv_aload_n hx hb dX13_atCell_62 rfl (lv_at hl 0 rfl) ?_
    refine mG29 C V dX13_atCell_63 ?_
    refine lv_iload_n hx hb dX13_atCell_66 rfl (lv_at hl 3 rfl) ?_
    refine mLd29 C V (vin (N := 24) rfl (h2.1) (h2.2)) dX13_atCell_67 ?_
    refine mSt14 C V hS (vin (N := 8) rfl (h1.1.1) (h1.1.2)) dX13_atCell_68 (fun S26 H locs eS26 V hS => ?_)
    have w27 := st_irr w25 eS26 (by simp [smK])
    exact j_atCell_69 l D cs o ad A S t q b h1 h2 h3 h4 C hml hr hlk  S26 _ _ _ (w27) V hS (lv_sub hl [0, 1, 2, 3] rfl)
set_option maxHeartbeats 400000 in
set_option maxRecDepth 100000 in
theorem j_atCell_18 {p : Program} {e : Env} {s : State} {m : MethodId} {below : List Frame} {meth : Method} {c : Code} (l : Launch) (D : va_G) (cs : ClassId × ClassId × ClassId) (o : Nat) (ad : Nat → Nat) (A : Nat → Prop) (S : mS) (t : Int32) (q : Int32) (b : Int32)  (h1 : fre S t) (h2 : 0 ≤ b ∧ b < 24) (h3 : mInv S) (h4 : gA S 28 b ≠ 5) (C : mC p s m ([.ref o, .int t, .int q, .int b] : List Value).toArray c cX13_atCell D cs) (hml : c.maxLocals = 5) (hr : meth.sig.returnType = (some .boolean)) (hlk : meth.locks = false)  (SJ18 : mS) (H : Heap) (locs : List Loc) (ls : Array Slot) (hj18 : stp S SJ18) (V : mV D cs o ad A SJ18 H) (hS : va_S A s.heap H locs) (hl : lv_has ls 5 [(0, .ref o), (1, .int t), (2, .int q), (3, .int b)]) : W p l e ({ frames := 1, cells := 0, slots := 0, locals := 22 } : Room) s m ([.ref o, .int t, .int q, .int b] : List Value).toArray below meth c H locs 0 0 (MQ below (va_Qi (fun r9 S9 => pas S S9 t r9) (mB D cs o ad A) A) ([.ref o, .int t, .int q, .int b] : List Value).toArray s 0 0 A) (F0 m 18 ls []) := by
  have hx := C.1
  have hb := C.2.1
  have hown := C.2.2.1
  have hts := C.2.2.2.1
  have w28 := hj18
  refine lv_iload_n hx hb dX13_atCell_18 rfl (lv_at hl 2 rfl) ?_
  refine lv_bipush (v := 14) hx hb dX13_atCell_19 (by decide) ?_
  refine lv_icmp_ne (tgt := 36) hx hb dX13_atCell_21 (by decide) (fun c29 => ?_) (fun c29 => ?_)
  · exact j_atCell_36 l D cs o ad A S t q b h1 h2 h3 h4 C hml hr hlk  SJ18 _ _ _ (w28) V hS (lv_sub hl [0, 1, 2, 3] rfl)
  · refine lv_aload_n hx hb dX13_atCell_24 rfl (lv_at hl 0 rfl) ?_
    refine mG29 C V dX13_atCell_25 ?_
    refine lv_iload_n hx hb dX13_atCell_28 rfl (lv_at hl 3 rfl) ?_
    refine lv_aload_n hx hb dX13_atCell_29 rfl (lv_at hl 0 rfl) ?_
    refine mG14 C V dX13_atCell_30 ?_
    refine lv_iload_n hx hb dX13_atCell_33 rfl (lv_at hl 1 rfl) ?_
    refine mLd14 C V (vin (N := 8) rfl (h1.1.1) (h1.1.2)) dX13_atCell_34 ?_
    refine mSt29 C V hS (vin (N := 24) rfl (h2.1) (h2.2)) dX13_atCell_35 (fun S30 H locs eS30 V hS => ?_)
    have w31 := st_first w28 h4 h2 eS30
    exact j_atCell_36 l D cs o ad A S t q b h1 h2 h3 h4 C hml hr hlk  S30 _ _ _ (w31) V hS (lv_sub hl [0, 1, 2, 3] rfl)
set_option maxHeartbeats 400000 in
set_option maxRecDepth 100000 in
theorem c_atCell (l : Launch) (D : va_G) (cs : ClassId × ClassId × ClassId) (o : Nat) (ad : Nat → Nat) (A : Nat → Prop) (S : mS) (t : Int32) (q : Int32) (b : Int32)  (h1 : fre S t) (h2 : 0 ≤ b ∧ b < 24) (h3 : mInv S) (h4 : gA S 28 b ≠ 5) : Met l yX13_atCell (Cond.code yX13_atCell cX13_atCell 5 (some .boolean) :: tM) ({ frames := 1, cells := 0, slots := 0, locals := 22 }) (va_Pc [.ref o, .int t, .int q, .int b] (mB D cs o ad A S)) (va_Qi (fun r9 S9 => pas S S9 t r9) (mB D cs o ad A) A) 0 0 A := by
  refine mMet (by decide) rfl (Nat.le_of_ble_eq_true rfl) ?_
  intro p e s m below meth c ls C hml hr hlk V hl
  have hx := C.1
  have hb := C.2.1
  have hown := C.2.2.1
  have hts := C.2.2.2.1
  have hS : va_S A s.heap s.heap [] := va_S.rf
  have hl : lv_has ls 5 [(0, .ref o), (1, .int t), (2, .int q), (3, .int b)] := hl
  have w0 : stp S S := stp_rf h3
  refine lv_iload_n hx hb dX13_atCell_0 rfl (lv_at hl 2 rfl) ?_
  refine lv_bipush (v := 13) hx hb dX13_atCell_1 (by decide) ?_
  refine lv_icmp_ne (tgt := 18) hx hb dX13_atCell_3 (by decide) (fun c32 => ?_) (fun c32 => ?_)
  · exact j_atCell_18 l D cs o ad A S t q b h1 h2 h3 h4 C hml hr hlk  S _ _ _ (w0) V hS (lv_sub hl [0, 1, 2, 3] rfl)
  · refine lv_aload_n hx hb dX13_atCell_6 rfl (lv_at hl 0 rfl) ?_
    refine mG14 C V dX13_atCell_7 ?_
    refine lv_iload_n hx hb dX13_atCell_10 rfl (lv_at hl 1 rfl) ?_
    refine lv_aload_n hx hb dX13_atCell_11 rfl (lv_at hl 0 rfl) ?_
    refine mG29 C V dX13_atCell_12 ?_
    refine lv_iload_n hx hb dX13_atCell_15 rfl (lv_at hl 3 rfl) ?_
    refine mLd29 C V (vin (N := 24) rfl (h2.1) (h2.2)) dX13_atCell_16 ?_
    refine mSt14 C V hS (vin (N := 8) rfl (h1.1.1) (h1.1.2)) dX13_atCell_17 (fun S33 H locs eS33 V hS => ?_)
    have w34 := st_irr w0 eS33 (by simp [smK])
    exact j_atCell_18 l D cs o ad A S t q b h1 h2 h3 h4 C hml hr hlk  S33 _ _ _ (w34) V hS (lv_sub hl [0, 1, 2, 3] rfl)
set_option maxHeartbeats 400000 in
set_option maxRecDepth 100000 in
theorem c_opened (l : Launch) (D : va_G) (cs : ClassId × ClassId × ClassId) (o : Nat) (ad : Nat → Nat) (A : Nat → Prop) (S : mS) (b : Int32)  (h2 : 0 ≤ b ∧ b < 24) (h3 : mInv S) (h4 : gA S 28 b ≠ 5) : Met l yX13_opened (Cond.code yX13_opened cX13_opened 2 none :: tM) ({ frames := 2, cells := 0, slots := 0, locals := 46 }) (va_Pc [.ref o, .int b] (mB D cs o ad A S)) (va_Qv (fun S9 => stp S S9) (mB D cs o ad A) A) 0 0 A := by
  refine mMet (by decide) rfl (Nat.le_of_ble_eq_true rfl) ?_
  intro p e s m below meth c ls C hml hr hlk V hl
  have hx := C.1
  have hb := C.2.1
  have hown := C.2.2.1
  have hts := C.2.2.2.1
  have hS : va_S A s.heap s.heap [] := va_S.rf
  have hl : lv_has ls 2 [(0, .ref o), (1, .int b)] := hl
  have w0 : stp S S := stp_rf h3
  refine lv_aload_n hx hb dX13_opened_0 rfl (lv_at hl 0 rfl) ?_
  refine mG33 C V dX13_opened_1 ?_
  refine lv_iload_n hx hb dX13_opened_4 rfl (lv_at hl 1 rfl) ?_
  refine mLd33 C V (vin (N := 24) rfl (h2.1) (h2.2)) dX13_opened_5 ?_
  refine lv_if_le (tgt := 40) hx hb dX13_opened_6 (by decide) (fun c1 => ?_) (fun c1 => ?_)
  · have loop40 : ∀ (N40 : Nat)  (SL40 : mS) (H : Heap) (locs : List Loc) (ls : Array Slot), (stp S SL40) → ((gA SL40 33 b).toInt.toNat) < N40 → mV D cs o ad A SL40 H → va_S A s.heap H locs → lv_has ls 2 [(0, .ref o), (1, .int b)] → W p l e ({ frames := 2, cells := 0, slots := 0, locals := 46 } : Room) s m ([.ref o, .int b] : List Value).toArray below meth c H locs 0 0 (MQ below (va_Qv (fun S9 => stp S S9) (mB D cs o ad A) A) ([.ref o, .int b] : List Value).toArray s 0 0 A) (F0 m 40 ls []) := by
      intro N40
      induction N40 with
      | zero => intro  SL40 H locs ls hi40 hm40; exact absurd hm40 (Nat.not_lt_zero _)
      | succ N40 ih40 =>
        intro  SL40 H locs ls hi40 hm40 V hS hl
        have w2 := hi40
        refine lv_aload_n hx hb dX13_opened_40 rfl (lv_at hl 0 rfl) ?_
        refine mG33 C V dX13_opened_41 ?_
        refine lv_iload_n hx hb dX13_opened_44 rfl (lv_at hl 1 rfl) ?_
        refine mLd33 C V (vin (N := 24) rfl (h2.1) (h2.2)) dX13_opened_45 ?_
        refine lv_if_le (tgt := 87) hx hb dX13_opened_46 (by decide) (fun c3 => ?_) (fun c3 => ?_)
        · exact mRetV C hr hlk V hS (w2) dX13_opened_87
        · refine lv_aload_n hx hb dX13_opened_49 rfl (lv_at hl 0 rfl) ?_
          refine lv_aload_n hx hb dX13_opened_50 rfl (lv_at hl 0 rfl) ?_
          refine mG32 C V dX13_opened_51 ?_
          refine lv_bipush (v := 8) hx hb dX13_opened_54 (by decide) ?_
          refine lv_iload_n hx hb dX13_opened_56 rfl (lv_at hl 1 rfl) ?_
          refine lv_imul hx hb dX13_opened_57 ?_
          refine mLd32 C V (vin (N := 192) rfl ((a_8b h2).1) ((a_8b h2).2)) dX13_opened_58 ?_
          refine lv_iconst (v := 0) hx hb dX13_opened_59 (by decide) ?_
          refine mGoP (mRunV (As := [.int (gA SL40 32 (8 * b)), .int 0]) (rest := []) C hml V (c_part l D cs o ad A SL40 (gA SL40 32 (8 * b)) 0  ((row0 h2 w2.1 (i_gt c3)).1) ((row0 h2 w2.1 (i_gt c3)).2) (by clear V hS hl C hts hown hx hb hml hr hlk ih40 hm40; decide)) gM_part okM_part ⟨rfl, rfl, Nat.le_of_ble_eq_true rfl, Nat.le_of_ble_eq_true rfl⟩ hl.1 rfl (Nat.le_of_ble_eq_true rfl) dX13_opened_60 ⟨Nat.zero_le _, Nat.zero_le _⟩) hS (fun r5 H locs hq6 V hS => ?_)
          refine lv_bipush (v := 29) hx hb dX13_opened_63 (by decide) ?_
          refine lv_icmp_ne (tgt := 87) hx hb dX13_opened_65 (by decide) (fun c7 => ?_) (fun c7 => ?_)
          · exact mRetV C hr hlk V hS (w2) dX13_opened_87
          · refine lv_aload_n hx hb dX13_opened_68 rfl (lv_at hl 0 rfl) ?_
            refine lv_iload_n hx hb dX13_opened_69 rfl (lv_at hl 1 rfl) ?_
            refine mGoI (mRunV (As := [.int b]) (rest := []) C hml V (c_firstGoesOn l D cs o ad A SL40 b  (h2) (w2.1) ((i_gt c3))) gM_firstGoesOn okM_firstGoesOn ⟨rfl, rfl, Nat.le_of_ble_eq_true rfl, Nat.le_of_ble_eq_true rfl⟩ hl.1 rfl (Nat.le_of_ble_eq_true rfl) dX13_opened_70 ⟨Nat.zero_le _, Nat.zero_le _⟩) hS (fun r9 S8 H locs hq10 V hS => ?_)
            have w11 := stp_tr w2 hq10.1
            refine lv_pop hx hb dX13_opened_73 rfl ?_
            refine lv_aload_n hx hb dX13_opened_74 rfl (lv_at hl 0 rfl) ?_
            refine mG29 C V dX13_opened_75 ?_
            refine lv_iload_n hx hb dX13_opened_78 rfl (lv_at hl 1 rfl) ?_
            refine lv_dup2_11 hx hb dX13_opened_79 rfl rfl ?_
            refine mLd29 C V (vin (N := 24) rfl (h2.1) (h2.2)) dX13_opened_80 ?_
            refine lv_iconst (v := 1) hx hb dX13_opened_81 (by decide) ?_
            refine lv_iadd hx hb dX13_opened_82 ?_
            refine mSt29 C V hS (vin (N := 24) rfl (h2.1) (h2.2)) dX13_opened_83 (fun S12 H locs eS12 V hS => ?_)
            have w13 := st_first w11 h4 h2 eS12
            refine lv_goto (tgt := 40) hx hb dX13_opened_84 (by decide) ?_
            exact ih40  S12 _ _ _ (w13) (msd hm40 (by clear V hS hl C hts hown hx hb hml hr hlk ih40 hm40; rw [eS12]; simp only [gA_sA, if_neg (show ¬ (33 = 29) by decide)]; exact hq10.2.2.2.1.1) (by clear V hS hl C hts hown hx hb hml hr hlk ih40 hm40; rw [eS12]; simp only [gA_sA, if_neg (show ¬ (33 = 29) by decide)]; exact hq10.2.2.2.1.2)) V hS (lv_sub hl [0, 1] rfl)
    exact loop40 _  S _ _ _ (w0) (Nat.lt_succ_self _) V hS (lv_sub hl [0, 1] rfl)
  · refine lv_aload_n hx hb dX13_opened_9 rfl (lv_at hl 0 rfl) ?_
    refine lv_aload_n hx hb dX13_opened_10 rfl (lv_at hl 0 rfl) ?_
    refine mG32 C V dX13_opened_11 ?_
    refine lv_bipush (v := 8) hx hb dX13_opened_14 (by decide) ?_
    refine lv_iload_n hx hb dX13_opened_16 rfl (lv_at hl 1 rfl) ?_
    refine lv_imul hx hb dX13_opened_17 ?_
    refine mLd32 C V (vin (N := 192) rfl ((a_8b h2).1) ((a_8b h2).2)) dX13_opened_18 ?_
    refine lv_iconst (v := 0) hx hb dX13_opened_19 (by decide) ?_
    refine mGoP (mRunV (As := [.int (gA S 32 (8 * b)), .int 0]) (rest := []) C hml V (c_part l D cs o ad A S (gA S 32 (8 * b)) 0  ((row0 h2 w0.1 (i_gt c1)).1) ((row0 h2 w0.1 (i_gt c1)).2) (by clear V hS hl C hts hown hx hb hml hr hlk; decide)) gM_part okM_part ⟨rfl, rfl, Nat.le_of_ble_eq_true rfl, Nat.le_of_ble_eq_true rfl⟩ hl.1 rfl (Nat.le_of_ble_eq_true rfl) dX13_opened_20 ⟨Nat.zero_le _, Nat.zero_le _⟩) hS (fun r15 H locs hq16 V hS => ?_)
    refine lv_bipush (v := 31) hx hb dX13_opened_23 (by decide) ?_
    refine lv_icmp_ne (tgt := 40) hx hb dX13_opened_25 (by decide) (fun c17 => ?_) (fun c17 => ?_)
    · have loop40 : ∀ (N40 : Nat)  (SL40 : mS) (H : Heap) (locs : List Loc) (ls : Array Slot), (stp S SL40) → ((gA SL40 33 b).toInt.toNat) < N40 → mV D cs o ad A SL40 H → va_S A s.heap H locs → lv_has ls 2 [(0, .ref o), (1, .int b)] → W p l e ({ frames := 2, cells := 0, slots := 0, locals := 46 } : Room) s m ([.ref o, .int b] : List Value).toArray below meth c H locs 0 0 (MQ below (va_Qv (fun S9 => stp S S9) (mB D cs o ad A) A) ([.ref o, .int b] : List Value).toArray s 0 0 A) (F0 m 40 ls []) := by
        intro N40
        induction N40 with
        | zero => intro  SL40 H locs ls hi40 hm40; exact absurd hm40 (Nat.not_lt_zero _)
        | succ N40 ih40 =>
          intro  SL40 H locs ls hi40 hm40 V hS hl
          have w18 := hi40
          refine lv_aload_n hx hb dX13_opened_40 rfl (lv_at hl 0 rfl) ?_
          refine mG33 C V dX13_opened_41 ?_
          refine lv_iload_n hx hb dX13_opened_44 rfl (lv_at hl 1 rfl) ?_
          refine mLd33 C V (vin (N := 24) rfl (h2.1) (h2.2)) dX13_opened_45 ?_
          refine lv_if_le (tgt := 87) hx hb dX13_opened_46 (by decide) (fun c19 => ?_) (fun c19 => ?_)
          · exact mRetV C hr hlk V hS (w18) dX13_opened_87
          · refine lv_aload_n hx hb dX13_opened_49 rfl (lv_at hl 0 rfl) ?_
            refine lv_aload_n hx hb dX13_opened_50 rfl (lv_at hl 0 rfl) ?_
            refine mG32 C V dX13_opened_51 ?_
            refine lv_bipush (v := 8) hx hb dX13_opened_54 (by decide) ?_
            refine lv_iload_n hx hb dX13_opened_56 rfl (lv_at hl 1 rfl) ?_
            refine lv_imul hx hb dX13_opened_57 ?_
            refine mLd32 C V (vin (N := 192) rfl ((a_8b h2).1) ((a_8b h2).2)) dX13_opened_58 ?_
            refine lv_iconst (v := 0) hx hb dX13_opened_59 (by decide) ?_
            refine mGoP (mRunV (As := [.int (gA SL40 32 (8 * b)), .int 0]) (rest := []) C hml V (c_part l D cs o ad A SL40 (gA SL40 32 (8 * b)) 0  ((row0 h2 w18.1 (i_gt c19)).1) ((row0 h2 w18.1 (i_gt c19)).2) (by clear V hS hl C hts hown hx hb hml hr hlk ih40 hm40; decide)) gM_part okM_part ⟨rfl, rfl, Nat.le_of_ble_eq_true rfl, Nat.le_of_ble_eq_true rfl⟩ hl.1 rfl (Nat.le_of_ble_eq_true rfl) dX13_opened_60 ⟨Nat.zero_le _, Nat.zero_le _⟩) hS (fun r21 H locs hq22 V hS => ?_)
            refine lv_bipush (v := 29) hx hb dX13_opened_63 (by decide) ?_
            refine lv_icmp_ne (tgt := 87) hx hb dX13_opened_65 (by decide) (fun c23 => ?_) (fun c23 => ?_)
            · exact mRetV C hr hlk V hS (w18) dX13_opened_87
            · refine lv_aload_n hx hb dX13_opened_68 rfl (lv_at hl 0 rfl) ?_
              refine lv_iload_n hx hb dX13_opened_69 rfl (lv_at hl 1 rfl) ?_
              refine mGoI (mRunV (As := [.int b]) (rest := []) C hml V (c_firstGoesOn l D cs o ad A SL40 b  (h2) (w18.1) ((i_gt c19))) gM_firstGoesOn okM_firstGoesOn ⟨rfl, rfl, Nat.le_of_ble_eq_true rfl, Nat.le_of_ble_eq_true rfl⟩ hl.1 rfl (Nat.le_of_ble_eq_true rfl) dX13_opened_70 ⟨Nat.zero_le _, Nat.zero_le _⟩) hS (fun r25 S24 H locs hq26 V hS => ?_)
              have w27 := stp_tr w18 hq26.1
              refine lv_pop hx hb dX13_opened_73 rfl ?_
              refine lv_aload_n hx hb dX13_opened_74 rfl (lv_at hl 0 rfl) ?_
              refine mG29 C V dX13_opened_75 ?_
              refine lv_iload_n hx hb dX13_opened_78 rfl (lv_at hl 1 rfl) ?_
              refine lv_dup2_11 hx hb dX13_opened_79 rfl rfl ?_
              refine mLd29 C V (vin (N := 24) rfl (h2.1) (h2.2)) dX13_opened_80 ?_
              refine lv_iconst (v := 1) hx hb dX13_opened_81 (by decide) ?_
              refine lv_iadd hx hb dX13_opened_82 ?_
              refine mSt29 C V hS (vin (N := 24) rfl (h2.1) (h2.2)) dX13_opened_83 (fun S28 H locs eS28 V hS => ?_)
              have w29 := st_first w27 h4 h2 eS28
              refine lv_goto (tgt := 40) hx hb dX13_opened_84 (by decide) ?_
              exact ih40  S28 _ _ _ (w29) (msd hm40 (by clear V hS hl C hts hown hx hb hml hr hlk ih40 hm40; rw [eS28]; simp only [gA_sA, if_neg (show ¬ (33 = 29) by decide)]; exact hq26.2.2.2.1.1) (by clear V hS hl C hts hown hx hb hml hr hlk ih40 hm40; rw [eS28]; simp only [gA_sA, if_neg (show ¬ (33 = 29) by decide)]; exact hq26.2.2.2.1.2)) V hS (lv_sub hl [0, 1] rfl)
      exact loop40 _  S _ _ _ (w0) (Nat.lt_succ_self _) V hS (lv_sub hl [0, 1] rfl)
    · refine lv_aload_n hx hb dX13_opened_28 rfl (lv_at hl 0 rfl) ?_
      refine mG31 C V dX13_opened_29 ?_
      refine lv_iload_n hx hb dX13_opened_32 rfl (lv_at hl 1 rfl) ?_
      refine lv_aload_n hx hb dX13_opened_33 rfl (lv_at hl 0 rfl) ?_
      refine lv_iload_n hx hb dX13_opened_34 rfl (lv_at hl 1 rfl) ?_
      refine mGoI (mRunV (As := [.int b]) (rest := [.int b, .ref (ad 31)]) C hml V (c_firstGoesOn l D cs o ad A S b  (h2) (w0.1) ((i_gt c1))) gM_firstGoesOn okM_firstGoesOn ⟨rfl, rfl, Nat.le_of_ble_eq_true rfl, Nat.le_of_ble_eq_true rfl⟩ hl.1 rfl (Nat.le_of_ble_eq_true rfl) dX13_opened_35 ⟨Nat.zero_le _, Nat.zero_le _⟩) hS (fun r31 S30 H locs hq32 V hS => ?_)
      have w33 := stp_tr w0 hq32.1
      refine mSt31 C V hS (vin (N := 24) rfl (h2.1) (h2.2)) dX13_opened_38 (fun S34 H locs eS34 V hS => ?_)
      have w35 := st_owner w33 h2 eS34 (own8 hq32.2.2.1)
      exact mRetV C hr hlk V hS (w35) dX13_opened_39
set_option maxHeartbeats 400000 in
set_option maxRecDepth 100000 in
theorem j_atGate_163 {p : Program} {e : Env} {s : State} {m : MethodId} {below : List Frame} {meth : Method} {c : Code} (l : Launch) (D : va_G) (cs : ClassId × ClassId × ClassId) (o : Nat) (ad : Nat → Nat) (A : Nat → Prop) (S : mS) (t : Int32) (q : Int32) (b : Int32)  (h1 : fre S t) (h2 : 0 ≤ b ∧ b < 24) (h3 : mInv S) (h4 : gA S 28 b ≠ 5) (C : mC p s m ([.ref o, .int t, .int q, .int b] : List Value).toArray c cX13_atGate D cs) (hml : c.maxLocals = 4) (hr : meth.sig.returnType = (some .boolean)) (hlk : meth.locks = false)  (SJ163 : mS) (H : Heap) (locs : List Loc) (ls : Array Slot) (hj163 : stp S SJ163) (V : mV D cs o ad A SJ163 H) (hS : va_S A s.heap H locs) (hl : lv_has ls 4 [(0, .ref o), (1, .int t), (2, .int q), (3, .int b)]) : W p l e ({ frames := 3, cells := 0, slots := 0, locals := 67 } : Room) s m ([.ref o, .int t, .int q, .int b] : List Value).toArray below meth c H locs 0 0 (MQ below (va_Qi (fun r9 S9 => pas S S9 t r9) (mB D cs o ad A) A) ([.ref o, .int t, .int q, .int b] : List Value).toArray s 0 0 A) (F0 m 163 ls []) := by
  have hx := C.1
  have hb := C.2.1
  have hown := C.2.2.1
  have hts := C.2.2.2.1
  have w1 := hj163
  refine lv_iconst (v := 1) hx hb dX13_atGate_163 (by decide) ?_
  exact mRetZ C hr hlk V hS (by clear V hS hl C hts hown hx hb hml hr hlk; first | rfl | exact pz nope9 | exact pz nope9 | (rw [nope9.1]; rfl) | (rw [nope9.1]; rfl)) (pas_1 h1 w1) dX13_atGate_164
set_option maxHeartbeats 400000 in
set_option maxRecDepth 100000 in
theorem j_atGate_117 {p : Program} {e : Env} {s : State} {m : MethodId} {below : List Frame} {meth : Method} {c : Code} (l : Launch) (D : va_G) (cs : ClassId × ClassId × ClassId) (o : Nat) (ad : Nat → Nat) (A : Nat → Prop) (S : mS) (t : Int32) (q : Int32) (b : Int32)  (h1 : fre S t) (h2 : 0 ≤ b ∧ b < 24) (h3 : mInv S) (h4 : gA S 28 b ≠ 5) (C : mC p s m ([.ref o, .int t, .int q, .int b] : List Value).toArray c cX13_atGate D cs) (hml : c.maxLocals = 4) (hr : meth.sig.returnType = (some .boolean)) (hlk : meth.locks = false)  (SJ117 : mS) (H : Heap) (locs : List Loc) (ls : Array Slot) (hj117 : stp S SJ117) (V : mV D cs o ad A SJ117 H) (hS : va_S A s.heap H locs) (hl : lv_has ls 4 [(0, .ref o), (1, .int t), (2, .int q), (3, .int b)]) : W p l e ({ frames := 3, cells := 0, slots := 0, locals := 67 } : Room) s m ([.ref o, .int t, .int q, .int b] : List Value).toArray below meth c H locs 0 0 (MQ below (va_Qi (fun r9 S9 => pas S S9 t r9) (mB D cs o ad A) A) ([.ref o, .int t, .int q, .int b] : List Value).toArray s 0 0 A) (F0 m 117 ls []) := by
  have hx := C.1
  have hb := C.2.1
  have hown := C.2.2.1
  have hts := C.2.2.2.1
  have w2 := hj117
  refine lv_aload_n hx hb dX13_atGate_117 rfl (lv_at hl 0 rfl) ?_
  refine lv_iload_n hx hb dX13_atGate_118 rfl (lv_at hl 1 rfl) ?_
  refine lv_iload_n hx hb dX13_atGate_119 rfl (lv_at hl 3 rfl) ?_
  refine mGoI (mRunV (As := [.int t, .int b]) (rest := []) C hml V (c_passes l D cs o ad A SJ117 t b  (fre_stp h1 w2) (h2) (w2.1)) gM_passes okM_passes ⟨rfl, rfl, Nat.le_of_ble_eq_true rfl, Nat.le_of_ble_eq_true rfl⟩ hl.1 rfl (Nat.le_of_ble_eq_true rfl) dX13_atGate_120 ⟨Nat.zero_le _, Nat.zero_le _⟩) hS (fun r4 S3 H locs hq5 V hS => ?_)
  exact mRetZ C hr hlk V hS (by clear V hS hl C hts hown hx hb hml hr hlk; first | rfl | exact pz nope9 | exact pz hq5 | (rw [nope9.1]; rfl) | (rw [nope9.1]; rfl)) (pas_tr h1 hj117 hq5) dX13_atGate_123
set_option maxHeartbeats 400000 in
set_option maxRecDepth 100000 in
theorem j_atGate_24 {p : Program} {e : Env} {s : State} {m : MethodId} {below : List Frame} {meth : Method} {c : Code} (l : Launch) (D : va_G) (cs : ClassId × ClassId × ClassId) (o : Nat) (ad : Nat → Nat) (A : Nat → Prop) (S : mS) (t : Int32) (q : Int32) (b : Int32)  (h1 : fre S t) (h2 : 0 ≤ b ∧ b < 24) (h3 : mInv S) (h4 : gA S 28 b ≠ 5) (C : mC p s m ([.ref o, .int t, .int q, .int b] : List Value).toArray c cX13_atGate D cs) (hml : c.maxLocals = 4) (hr : meth.sig.returnType = (some .boolean)) (hlk : meth.locks = false)  (SJ24 : mS) (H : Heap) (locs : List Loc) (ls : Array Slot) (hj24 : stp S SJ24) (V : mV D cs o ad A SJ24 H) (hS : va_S A s.heap H locs) (hl : lv_has ls 4 [(0, .ref o), (1, .int t), (2, .int q), (3, .int b)]) : W p l e ({ frames := 3, cells := 0, slots := 0, locals := 67 } : Room) s m ([.ref o, .int t, .int q, .int b] : List Value).toArray below meth c H locs 0 0 (MQ below (va_Qi (fun r9 S9 => pas S S9 t r9) (mB D cs o ad A) A) ([.ref o, .int t, .int q, .int b] : List Value).toArray s 0 0 A) (F0 m 24 ls []) := by
  have hx := C.1
  have hb := C.2.1
  have hown := C.2.2.1
  have hts := C.2.2.2.1
  have w6 := hj24
  refine lv_aload_n hx hb dX13_atGate_24 rfl (lv_at hl 0 rfl) ?_
  refine lv_iload_n hx hb dX13_atGate_25 rfl (lv_at hl 1 rfl) ?_
  refine lv_iload_n hx hb dX13_atGate_26 rfl (lv_at hl 3 rfl) ?_
  refine mGoI (mRunV (As := [.int t, .int b]) (rest := []) C hml V (c_passes l D cs o ad A SJ24 t b  (fre_stp h1 w6) (h2) (w6.1)) gM_passes okM_passes ⟨rfl, rfl, Nat.le_of_ble_eq_true rfl, Nat.le_of_ble_eq_true rfl⟩ hl.1 rfl (Nat.le_of_ble_eq_true rfl) dX13_atGate_27 ⟨Nat.zero_le _, Nat.zero_le _⟩) hS (fun r8 S7 H locs hq9 V hS => ?_)
  exact mRetZ C hr hlk V hS (by clear V hS hl C hts hown hx hb hml hr hlk; first | rfl | exact pz hq9 | exact pz nope9 | (rw [nope9.1]; rfl) | (rw [nope9.1]; rfl)) (pas_tr h1 hj24 hq9) dX13_atGate_30
set_option maxHeartbeats 400000 in
set_option maxRecDepth 100000 in
theorem c_atGate (l : Launch) (D : va_G) (cs : ClassId × ClassId × ClassId) (o : Nat) (ad : Nat → Nat) (A : Nat → Prop) (S : mS) (t : Int32) (q : Int32) (b : Int32)  (h1 : fre S t) (h2 : 0 ≤ b ∧ b < 24) (h3 : mInv S) (h4 : gA S 28 b ≠ 5) : Met l yX13_atGate (Cond.code yX13_atGate cX13_atGate 4 (some .boolean) :: tM) ({ frames := 3, cells := 0, slots := 0, locals := 67 }) (va_Pc [.ref o, .int t, .int q, .int b] (mB D cs o ad A S)) (va_Qi (fun r9 S9 => pas S S9 t r9) (mB D cs o ad A) A) 0 0 A := by
  refine mMet (by decide) rfl (Nat.le_of_ble_eq_true rfl) ?_
  intro p e s m below meth c ls C hml hr hlk V hl
  have hx := C.1
  have hb := C.2.1
  have hown := C.2.2.1
  have hts := C.2.2.2.1
  have hS : va_S A s.heap s.heap [] := va_S.rf
  have hl : lv_has ls 4 [(0, .ref o), (1, .int t), (2, .int q), (3, .int b)] := hl
  have w0 : stp S S := stp_rf h3
  refine lv_iload_n hx hb dX13_atGate_0 rfl (lv_at hl 2 rfl) ?_
  refine lv_bipush (v := 29) hx hb dX13_atGate_1 (by decide) ?_
  refine lv_icmp_ne (tgt := 44) hx hb dX13_atGate_3 (by decide) (fun c10 => ?_) (fun c10 => ?_)
  · refine lv_iload_n hx hb dX13_atGate_44 rfl (lv_at hl 2 rfl) ?_
    refine lv_bipush (v := 30) hx hb dX13_atGate_45 (by decide) ?_
    refine lv_icmp_ne (tgt := 93) hx hb dX13_atGate_47 (by decide) (fun c11 => ?_) (fun c11 => ?_)
    · refine lv_iload_n hx hb dX13_atGate_93 rfl (lv_at hl 2 rfl) ?_
      refine lv_bipush (v := 31) hx hb dX13_atGate_94 (by decide) ?_
      refine lv_icmp_ne (tgt := 134) hx hb dX13_atGate_96 (by decide) (fun c12 => ?_) (fun c12 => ?_)
      · refine lv_aload_n hx hb dX13_atGate_134 rfl (lv_at hl 0 rfl) ?_
        refine mG31 C V dX13_atGate_135 ?_
        refine lv_iload_n hx hb dX13_atGate_138 rfl (lv_at hl 3 rfl) ?_
        refine mLd31 C V (vin (N := 24) rfl (h2.1) (h2.2)) dX13_atGate_139 ?_
        refine lv_iload_n hx hb dX13_atGate_140 rfl (lv_at hl 1 rfl) ?_
        refine lv_icmp_eq (tgt := 151) hx hb dX13_atGate_141 (by decide) (fun c13 => ?_) (fun c13 => ?_)
        · refine lv_aload_n hx hb dX13_atGate_151 rfl (lv_at hl 0 rfl) ?_
          refine mG31 C V dX13_atGate_152 ?_
          refine lv_iload_n hx hb dX13_atGate_155 rfl (lv_at hl 3 rfl) ?_
          refine lv_iconst (v := (-1)) hx hb dX13_atGate_156 (by decide) ?_
          refine mSt31 C V hS (vin (N := 24) rfl (h2.1) (h2.2)) dX13_atGate_157 (fun S14 H locs eS14 V hS => ?_)
          have w15 := st_owner w0 h2 eS14 (by decide)
          refine lv_aload_n hx hb dX13_atGate_158 rfl (lv_at hl 0 rfl) ?_
          refine lv_iload_n hx hb dX13_atGate_159 rfl (lv_at hl 3 rfl) ?_
          refine mGoV (mRunV (As := [.int b]) (rest := []) C hml V (c_opened l D cs o ad A S14 b  (h2) (w15.1) (by clear V hS hl C hts hown hx hb hml hr hlk; rw [w15.2.2.1 28 b (by simp)]; exact h4)) gM_opened okM_opened ⟨rfl, rfl, Nat.le_of_ble_eq_true rfl, Nat.le_of_ble_eq_true rfl⟩ hl.1 rfl (Nat.le_of_ble_eq_true rfl) dX13_atGate_160 ⟨Nat.zero_le _, Nat.zero_le _⟩) hS (fun S16 H locs hq18 V hS => ?_)
          have w19 := stp_tr w15 hq18
          exact j_atGate_163 l D cs o ad A S t q b h1 h2 h3 h4 C hml hr hlk  S16 _ _ _ (w19) V hS (lv_sub hl [0, 1, 2, 3] rfl)
        · refine lv_aload_n hx hb dX13_atGate_144 rfl (lv_at hl 0 rfl) ?_
          refine lv_iload_n hx hb dX13_atGate_145 rfl (lv_at hl 1 rfl) ?_
          refine lv_iconst (v := 1) hx hb dX13_atGate_146 (by decide) ?_
          refine mGoI (mRunV (As := [.int t, .int 1]) (rest := []) C hml V (c_fails l D cs o ad A S t 1  (h1.1)) gM_fails okM_fails ⟨rfl, rfl, Nat.le_of_ble_eq_true rfl, Nat.le_of_ble_eq_true rfl⟩ hl.1 rfl (Nat.le_of_ble_eq_true rfl) dX13_atGate_147 ⟨Nat.zero_le _, Nat.zero_le _⟩) hS (fun r21 S20 H locs hq22 V hS => ?_)
          exact mRetZ C hr hlk V hS (by clear V hS hl C hts hown hx hb hml hr hlk; first | rfl | exact pz nope9 | exact pz nope9 | (rw [nope9.1]; rfl) | (rw [hq22.1]; rfl)) (by clear V hS hl C hts hown hx hb hml hr hlk; obtain ⟨q1, q2⟩ := hq22; rw [q1]; exact pas_f h1 w0 q2) dX13_atGate_150
      · refine lv_aload_n hx hb dX13_atGate_99 rfl (lv_at hl 0 rfl) ?_
        refine mG31 C V dX13_atGate_100 ?_
        refine lv_iload_n hx hb dX13_atGate_103 rfl (lv_at hl 3 rfl) ?_
        refine mLd31 C V (vin (N := 24) rfl (h2.1) (h2.2)) dX13_atGate_104 ?_
        refine lv_if_ge (tgt := 117) hx hb dX13_atGate_105 (by decide) (fun c23 => ?_) (fun c23 => ?_)
        · exact j_atGate_117 l D cs o ad A S t q b h1 h2 h3 h4 C hml hr hlk  S _ _ _ (w0) V hS (lv_sub hl [0, 1, 2, 3] rfl)
        · refine lv_aload_n hx hb dX13_atGate_108 rfl (lv_at hl 0 rfl) ?_
          refine mG29 C V dX13_atGate_109 ?_
          refine lv_iload_n hx hb dX13_atGate_112 rfl (lv_at hl 3 rfl) ?_
          refine mLd29 C V (vin (N := 24) rfl (h2.1) (h2.2)) dX13_atGate_113 ?_
          refine lv_if_le (tgt := 124) hx hb dX13_atGate_114 (by decide) (fun c24 => ?_) (fun c24 => ?_)
          · refine lv_aload_n hx hb dX13_atGate_124 rfl (lv_at hl 0 rfl) ?_
            refine mG31 C V dX13_atGate_125 ?_
            refine lv_iload_n hx hb dX13_atGate_128 rfl (lv_at hl 3 rfl) ?_
            refine lv_iload_n hx hb dX13_atGate_129 rfl (lv_at hl 1 rfl) ?_
            refine mSt31 C V hS (vin (N := 24) rfl (h2.1) (h2.2)) dX13_atGate_130 (fun S25 H locs eS25 V hS => ?_)
            have w26 := st_owner w0 h2 eS25 (own8 h1.1)
            refine lv_goto (tgt := 163) hx hb dX13_atGate_131 (by decide) ?_
            exact j_atGate_163 l D cs o ad A S t q b h1 h2 h3 h4 C hml hr hlk  S25 _ _ _ (w26) V hS (lv_sub hl [0, 1, 2, 3] rfl)
          · exact j_atGate_117 l D cs o ad A S t q b h1 h2 h3 h4 C hml hr hlk  S _ _ _ (w0) V hS (lv_sub hl [0, 1, 2, 3] rfl)
    · refine lv_aload_n hx hb dX13_atGate_50 rfl (lv_at hl 0 rfl) ?_
      refine mG29 C V dX13_atGate_51 ?_
      refine lv_iload_n hx hb dX13_atGate_54 rfl (lv_at hl 3 rfl) ?_
      refine mLd29 C V (vin (N := 24) rfl (h2.1) (h2.2)) dX13_atGate_55 ?_
      refine lv_if_ne (tgt := 66) hx hb dX13_atGate_56 (by decide) (fun c27 => ?_) (fun c27 => ?_)
      · refine lv_aload_n hx hb dX13_atGate_66 rfl (lv_at hl 0 rfl) ?_
        refine mG29 C V dX13_atGate_67 ?_
        refine lv_iload_n hx hb dX13_atGate_70 rfl (lv_at hl 3 rfl) ?_
        refine lv_dup2_11 hx hb dX13_atGate_71 rfl rfl ?_
        refine mLd29 C V (vin (N := 24) rfl (h2.1) (h2.2)) dX13_atGate_72 ?_
        refine lv_iconst (v := 1) hx hb dX13_atGate_73 (by decide) ?_
        refine lv_isub hx hb dX13_atGate_74 ?_
        refine mSt29 C V hS (vin (N := 24) rfl (h2.1) (h2.2)) dX13_atGate_75 (fun S28 H locs eS28 V hS => ?_)
        have w29 := st_first w0 h4 h2 eS28
        refine lv_aload_n hx hb dX13_atGate_76 rfl (lv_at hl 0 rfl) ?_
        refine mG29 C V dX13_atGate_77 ?_
        refine lv_iload_n hx hb dX13_atGate_80 rfl (lv_at hl 3 rfl) ?_
        refine mLd29 C V (vin (N := 24) rfl (h2.1) (h2.2)) dX13_atGate_81 ?_
        refine lv_if_ne (tgt := 163) hx hb dX13_atGate_82 (by decide) (fun c30 => ?_) (fun c30 => ?_)
        · exact j_atGate_163 l D cs o ad A S t q b h1 h2 h3 h4 C hml hr hlk  S28 _ _ _ (w29) V hS (lv_sub hl [0, 1, 2, 3] rfl)
        · refine lv_aload_n hx hb dX13_atGate_85 rfl (lv_at hl 0 rfl) ?_
          refine lv_iload_n hx hb dX13_atGate_86 rfl (lv_at hl 3 rfl) ?_
          refine mGoV (mRunV (As := [.int b]) (rest := []) C hml V (c_opened l D cs o ad A S28 b  (h2) (w29.1) (by clear V hS hl C hts hown hx hb hml hr hlk; rw [w29.2.2.1 28 b (by simp)]; exact h4)) gM_opened okM_opened ⟨rfl, rfl, Nat.le_of_ble_eq_true rfl, Nat.le_of_ble_eq_true rfl⟩ hl.1 rfl (Nat.le_of_ble_eq_true rfl) dX13_atGate_87 ⟨Nat.zero_le _, Nat.zero_le _⟩) hS (fun S31 H locs hq33 V hS => ?_)
          have w34 := stp_tr w29 hq33
          refine lv_goto (tgt := 163) hx hb dX13_atGate_90 (by decide) ?_
          exact j_atGate_163 l D cs o ad A S t q b h1 h2 h3 h4 C hml hr hlk  S31 _ _ _ (w34) V hS (lv_sub hl [0, 1, 2, 3] rfl)
      · refine lv_aload_n hx hb dX13_atGate_59 rfl (lv_at hl 0 rfl) ?_
        refine lv_iload_n hx hb dX13_atGate_60 rfl (lv_at hl 1 rfl) ?_
        refine lv_iconst (v := 3) hx hb dX13_atGate_61 (by decide) ?_
        refine mGoI (mRunV (As := [.int t, .int 3]) (rest := []) C hml V (c_fails l D cs o ad A S t 3  (h1.1)) gM_fails okM_fails ⟨rfl, rfl, Nat.le_of_ble_eq_true rfl, Nat.le_of_ble_eq_true rfl⟩ hl.1 rfl (Nat.le_of_ble_eq_true rfl) dX13_atGate_62 ⟨Nat.zero_le _, Nat.zero_le _⟩) hS (fun r36 S35 H locs hq37 V hS => ?_)
        exact mRetZ C hr hlk V hS (by clear V hS hl C hts hown hx hb hml hr hlk; first | rfl | exact pz nope9 | exact pz nope9 | (rw [hq37.1]; rfl) | (rw [nope9.1]; rfl)) (by clear V hS hl C hts hown hx hb hml hr hlk; obtain ⟨q1, q2⟩ := hq37; rw [q1]; exact pas_f h1 w0 q2) dX13_atGate_65
  · refine lv_aload_n hx hb dX13_atGate_6 rfl (lv_at hl 0 rfl) ?_
    refine mG31 C V dX13_atGate_7 ?_
    refine lv_iload_n hx hb dX13_atGate_10 rfl (lv_at hl 3 rfl) ?_
    refine mLd31 C V (vin (N := 24) rfl (h2.1) (h2.2)) dX13_atGate_11 ?_
    refine lv_if_ge (tgt := 24) hx hb dX13_atGate_12 (by decide) (fun c38 => ?_) (fun c38 => ?_)
    · exact j_atGate_24 l D cs o ad A S t q b h1 h2 h3 h4 C hml hr hlk  S _ _ _ (w0) V hS (lv_sub hl [0, 1, 2, 3] rfl)
    · refine lv_aload_n hx hb dX13_atGate_15 rfl (lv_at hl 0 rfl) ?_
      refine mG33 C V dX13_atGate_16 ?_
      refine lv_iload_n hx hb dX13_atGate_19 rfl (lv_at hl 3 rfl) ?_
      refine mLd33 C V (vin (N := 24) rfl (h2.1) (h2.2)) dX13_atGate_20 ?_
      refine lv_if_le (tgt := 31) hx hb dX13_atGate_21 (by decide) (fun c39 => ?_) (fun c39 => ?_)
      · refine lv_aload_n hx hb dX13_atGate_31 rfl (lv_at hl 0 rfl) ?_
        refine mG29 C V dX13_atGate_32 ?_
        refine lv_iload_n hx hb dX13_atGate_35 rfl (lv_at hl 3 rfl) ?_
        refine lv_dup2_11 hx hb dX13_atGate_36 rfl rfl ?_
        refine mLd29 C V (vin (N := 24) rfl (h2.1) (h2.2)) dX13_atGate_37 ?_
        refine lv_iconst (v := 1) hx hb dX13_atGate_38 (by decide) ?_
        refine lv_iadd hx hb dX13_atGate_39 ?_
        refine mSt29 C V hS (vin (N := 24) rfl (h2.1) (h2.2)) dX13_atGate_40 (fun S40 H locs eS40 V hS => ?_)
        have w41 := st_first w0 h4 h2 eS40
        refine lv_goto (tgt := 163) hx hb dX13_atGate_41 (by decide) ?_
        exact j_atGate_163 l D cs o ad A S t q b h1 h2 h3 h4 C hml hr hlk  S40 _ _ _ (w41) V hS (lv_sub hl [0, 1, 2, 3] rfl)
      · exact j_atGate_24 l D cs o ad A S t q b h1 h2 h3 h4 C hml hr hlk  S _ _ _ (w0) V hS (lv_sub hl [0, 1, 2, 3] rfl)
set_option maxHeartbeats 400000 in
set_option maxRecDepth 100000 in
theorem j_atSemaphore_177 {p : Program} {e : Env} {s : State} {m : MethodId} {below : List Frame} {meth : Method} {c : Code} (l : Launch) (D : va_G) (cs : ClassId × ClassId × ClassId) (o : Nat) (ad : Nat → Nat) (A : Nat → Prop) (S : mS) (t : Int32) (q : Int32) (b : Int32)  (h1 : fre S t) (h2 : 0 ≤ b ∧ b < 24) (h3 : mInv S) (h4 : gA S 28 b ≠ 5) (C : mC p s m ([.ref o, .int t, .int q, .int b] : List Value).toArray c cX13_atSemaphore D cs) (hml : c.maxLocals = 5) (hr : meth.sig.returnType = (some .boolean)) (hlk : meth.locks = false)  (SJ177 : mS) (H : Heap) (locs : List Loc) (ls : Array Slot) (hj177 : stp S SJ177) (V : mV D cs o ad A SJ177 H) (hS : va_S A s.heap H locs) (hl : lv_has ls 5 [(0, .ref o), (1, .int t), (2, .int q), (3, .int b)]) : W p l e ({ frames := 2, cells := 0, slots := 0, locals := 46 } : Room) s m ([.ref o, .int t, .int q, .int b] : List Value).toArray below meth c H locs 0 0 (MQ below (va_Qi (fun r9 S9 => pas S S9 t r9) (mB D cs o ad A) A) ([.ref o, .int t, .int q, .int b] : List Value).toArray s 0 0 A) (F0 m 177 ls []) := by
  have hx := C.1
  have hb := C.2.1
  have hown := C.2.2.1
  have hts := C.2.2.2.1
  have w1 := hj177
  refine lv_iconst (v := 1) hx hb dX13_atSemaphore_177 (by decide) ?_
  exact mRetZ C hr hlk V hS (by clear V hS hl C hts hown hx hb hml hr hlk; first | rfl | exact pz nope9) (pas_1 h1 w1) dX13_atSemaphore_178
set_option maxHeartbeats 400000 in
set_option maxRecDepth 100000 in
theorem j_atSemaphore_160 {p : Program} {e : Env} {s : State} {m : MethodId} {below : List Frame} {meth : Method} {c : Code} (l : Launch) (D : va_G) (cs : ClassId × ClassId × ClassId) (o : Nat) (ad : Nat → Nat) (A : Nat → Prop) (S : mS) (t : Int32) (q : Int32) (b : Int32)  (h1 : fre S t) (h2 : 0 ≤ b ∧ b < 24) (h3 : mInv S) (h4 : gA S 28 b ≠ 5) (C : mC p s m ([.ref o, .int t, .int q, .int b] : List Value).toArray c cX13_atSemaphore D cs) (hml : c.maxLocals = 5) (hr : meth.sig.returnType = (some .boolean)) (hlk : meth.locks = false) (j160_s2 : Int32) (SJ160 : mS) (H : Heap) (locs : List Loc) (ls : Array Slot) (hj160 : stp S SJ160) (V : mV D cs o ad A SJ160 H) (hS : va_S A s.heap H locs) (hl : lv_has ls 5 [(0, .ref o), (1, .int t), (2, .int q), (3, .int b)]) : W p l e ({ frames := 2, cells := 0, slots := 0, locals := 46 } : Room) s m ([.ref o, .int t, .int q, .int b] : List Value).toArray below meth c H locs 0 0 (MQ below (va_Qi (fun r9 S9 => pas S S9 t r9) (mB D cs o ad A) A) ([.ref o, .int t, .int q, .int b] : List Value).toArray s 0 0 A) (F0 m 160 ls [.int j160_s2, .int t, .ref (ad 14)]) := by
  have hx := C.1
  have hb := C.2.1
  have hown := C.2.2.1
  have hts := C.2.2.2.1
  have w2 := hj160
  refine mSt14 C V hS (vin (N := 8) rfl (h1.1.1) (h1.1.2)) dX13_atSemaphore_160 (fun S3 H locs eS3 V hS => ?_)
  have w4 := st_irr w2 eS3 (by simp [smK])
  refine lv_aload_n hx hb dX13_atSemaphore_161 rfl (lv_at hl 0 rfl) ?_
  refine mG29 C V dX13_atSemaphore_162 ?_
  refine lv_iload_n hx hb dX13_atSemaphore_165 rfl (lv_at hl 3 rfl) ?_
  refine mLd29 C V (vin (N := 24) rfl (h2.1) (h2.2)) dX13_atSemaphore_166 ?_
  refine lv_if_le (tgt := 177) hx hb dX13_atSemaphore_167 (by decide) (fun c5 => ?_) (fun c5 => ?_)
  · exact j_atSemaphore_177 l D cs o ad A S t q b h1 h2 h3 h4 C hml hr hlk  S3 _ _ _ (w4) V hS (lv_sub hl [0, 1, 2, 3] rfl)
  · refine lv_aload_n hx hb dX13_atSemaphore_170 rfl (lv_at hl 0 rfl) ?_
    refine mG29 C V dX13_atSemaphore_171 ?_
    refine lv_iload_n hx hb dX13_atSemaphore_174 rfl (lv_at hl 3 rfl) ?_
    refine lv_iconst (v := 0) hx hb dX13_atSemaphore_175 (by decide) ?_
    refine mSt29 C V hS (vin (N := 24) rfl (h2.1) (h2.2)) dX13_atSemaphore_176 (fun S6 H locs eS6 V hS => ?_)
    have w7 := st_first w4 h4 h2 eS6
    exact j_atSemaphore_177 l D cs o ad A S t q b h1 h2 h3 h4 C hml hr hlk  S6 _ _ _ (w7) V hS (lv_sub hl [0, 1, 2, 3] rfl)
set_option maxHeartbeats 400000 in
set_option maxRecDepth 100000 in
theorem j_atSemaphore_34 {p : Program} {e : Env} {s : State} {m : MethodId} {below : List Frame} {meth : Method} {c : Code} (l : Launch) (D : va_G) (cs : ClassId × ClassId × ClassId) (o : Nat) (ad : Nat → Nat) (A : Nat → Prop) (S : mS) (t : Int32) (q : Int32) (b : Int32)  (h1 : fre S t) (h2 : 0 ≤ b ∧ b < 24) (h3 : mInv S) (h4 : gA S 28 b ≠ 5) (C : mC p s m ([.ref o, .int t, .int q, .int b] : List Value).toArray c cX13_atSemaphore D cs) (hml : c.maxLocals = 5) (hr : meth.sig.returnType = (some .boolean)) (hlk : meth.locks = false)  (SJ34 : mS) (H : Heap) (locs : List Loc) (ls : Array Slot) (hj34 : stp S SJ34) (V : mV D cs o ad A SJ34 H) (hS : va_S A s.heap H locs) (hl : lv_has ls 5 [(0, .ref o), (1, .int t), (2, .int q), (3, .int b)]) : W p l e ({ frames := 2, cells := 0, slots := 0, locals := 46 } : Room) s m ([.ref o, .int t, .int q, .int b] : List Value).toArray below meth c H locs 0 0 (MQ below (va_Qi (fun r9 S9 => pas S S9 t r9) (mB D cs o ad A) A) ([.ref o, .int t, .int q, .int b] : List Value).toArray s 0 0 A) (F0 m 34 ls []) := by
  have hx := C.1
  have hb := C.2.1
  have hown := C.2.2.1
  have hts := C.2.2.2.1
  have w8 := hj34
  refine lv_aload_n hx hb dX13_atSemaphore_34 rfl (lv_at hl 0 rfl) ?_
  refine lv_iload_n hx hb dX13_atSemaphore_35 rfl (lv_at hl 1 rfl) ?_
  refine lv_iload_n hx hb dX13_atSemaphore_36 rfl (lv_at hl 3 rfl) ?_
  refine mGoI (mRunV (As := [.int t, .int b]) (rest := []) C hml V (c_passes l D cs o ad A SJ34 t b  (fre_stp h1 w8) (h2) (w8.1)) gM_passes okM_passes ⟨rfl, rfl, Nat.le_of_ble_eq_true rfl, Nat.le_of_ble_eq_true rfl⟩ hl.1 rfl (Nat.le_of_ble_eq_true rfl) dX13_atSemaphore_37 ⟨Nat.zero_le _, Nat.zero_le _⟩) hS (fun r10 S9 H locs hq11 V hS => ?_)
  exact mRetZ C hr hlk V hS (by clear V hS hl C hts hown hx hb hml hr hlk; first | rfl | exact pz hq11) (pas_tr h1 hj34 hq11) dX13_atSemaphore_40
set_option maxHeartbeats 400000 in
set_option maxRecDepth 100000 in
theorem c_atSemaphore (l : Launch) (D : va_G) (cs : ClassId × ClassId × ClassId) (o : Nat) (ad : Nat → Nat) (A : Nat → Prop) (S : mS) (t : Int32) (q : Int32) (b : Int32)  (h1 : fre S t) (h2 : 0 ≤ b ∧ b < 24) (h3 : mInv S) (h4 : gA S 28 b ≠ 5) : Met l yX13_atSemaphore (Cond.code yX13_atSemaphore cX13_atSemaphore 5 (some .boolean) :: tM) ({ frames := 2, cells := 0, slots := 0, locals := 46 }) (va_Pc [.ref o, .int t, .int q, .int b] (mB D cs o ad A S)) (va_Qi (fun r9 S9 => pas S S9 t r9) (mB D cs o ad A) A) 0 0 A := by
  refine mMet (by decide) rfl (Nat.le_of_ble_eq_true rfl) ?_
  intro p e s m below meth c ls C hml hr hlk V hl
  have hx := C.1
  have hb := C.2.1
  have hown := C.2.2.1
  have hts := C.2.2.2.1
  have hS : va_S A s.heap s.heap [] := va_S.rf
  have hl : lv_has ls 5 [(0, .ref o), (1, .int t), (2, .int q), (3, .int b)] := hl
  have w0 : stp S S := stp_rf h3
  refine lv_aload_n hx hb dX13_atSemaphore_0 rfl (lv_at hl 0 rfl) ?_
  refine lv_iload_n hx hb dX13_atSemaphore_1 rfl (lv_at hl 1 rfl) ?_
  refine lv_iconst (v := 2) hx hb dX13_atSemaphore_2 (by decide) ?_
  refine mGoP (mRunV (As := [.int t, .int 2]) (rest := []) C hml V (c_part l D cs o ad A S t 2  (h1.1) (at60 h1 w0) (by clear V hS hl C hts hown hx hb hml hr hlk; decide)) gM_part okM_part ⟨rfl, rfl, Nat.le_of_ble_eq_true rfl, Nat.le_of_ble_eq_true rfl⟩ hl.1 rfl (Nat.le_of_ble_eq_true rfl) dX13_atSemaphore_3 ⟨Nat.zero_le _, Nat.zero_le _⟩) hS (fun r13 H locs hq14 V hS => ?_)
  refine lv_istore (lv' := [(4, .int r13), (0, .ref o), (1, .int t), (2, .int q), (3, .int b)]) hx hb dX13_atSemaphore_6 hl (by decide) rfl (fun ls hl => ?_)
  refine lv_iload_n hx hb dX13_atSemaphore_8 rfl (lv_at hl 3 rfl) ?_
  refine lv_bipush (v := 17) hx hb dX13_atSemaphore_9 (by decide) ?_
  refine lv_icmp_ne (tgt := 55) hx hb dX13_atSemaphore_11 (by decide) (fun c15 => ?_) (fun c15 => ?_)
  · refine lv_iload_n hx hb dX13_atSemaphore_55 rfl (lv_at hl 3 rfl) ?_
    refine lv_bipush (v := 18) hx hb dX13_atSemaphore_56 (by decide) ?_
    refine lv_icmp_ne (tgt := 136) hx hb dX13_atSemaphore_58 (by decide) (fun c16 => ?_) (fun c16 => ?_)
    · refine lv_aload_n hx hb dX13_atSemaphore_136 rfl (lv_at hl 1 rfl) ?_
      refine mG14 C V dX13_atSemaphore_137 ?_
      refine lv_iload_n hx hb dX13_atSemaphore_140 rfl (lv_at hl 2 rfl) ?_
      refine lv_aload_n hx hb dX13_atSemaphore_141 rfl (lv_at hl 1 rfl) ?_
      refine mG29 C V dX13_atSemaphore_142 ?_
      refine lv_iload_n hx hb dX13_atSemaphore_145 rfl (lv_at hl 4 rfl) ?_
      refine mLd29 C V (vin (N := 24) rfl (h2.1) (h2.2)) dX13_atSemaphore_146 ?_
      refine lv_if_le (tgt := 159) hx hb dX13_atSemaphore_147 (by decide) (fun c17 => ?_) (fun c17 => ?_)
      · refine lv_iconst (v := 0) hx hb dX13_atSemaphore_159 (by decide) ?_
        exact j_atSemaphore_160 l D cs o ad A S t q b h1 h2 h3 h4 C hml hr hlk 0 S _ _ _ (w0) V hS (lv_sub hl [1, 2, 3, 4] rfl)
      · refine lv_aload_n hx hb dX13_atSemaphore_150 rfl (lv_at hl 1 rfl) ?_
        refine mG29 C V dX13_atSemaphore_151 ?_
        refine lv_iload_n hx hb dX13_atSemaphore_154 rfl (lv_at hl 4 rfl) ?_
        refine mLd29 C V (vin (N := 24) rfl (h2.1) (h2.2)) dX13_atSemaphore_155 ?_
        refine lv_goto (tgt := 160) hx hb dX13_atSemaphore_156 (by decide) ?_
        exact j_atSemaphore_160 l D cs o ad A S t q b h1 h2 h3 h4 C hml hr hlk (gA S 29 b) S _ _ _ (w0) V hS (lv_sub hl [1, 2, 3, 4] rfl)
    · refine lv_aload_n hx hb dX13_atSemaphore_61 rfl (lv_at hl 1 rfl) ?_
      refine mG29 C V dX13_atSemaphore_62 ?_
      refine lv_iload_n hx hb dX13_atSemaphore_65 rfl (lv_at hl 4 rfl) ?_
      refine lv_dup2_11 hx hb dX13_atSemaphore_66 rfl rfl ?_
      refine mLd29 C V (vin (N := 24) rfl (h2.1) (h2.2)) dX13_atSemaphore_67 ?_
      refine lv_iload hx hb dX13_atSemaphore_68 (lv_at hl 0 rfl) ?_
      refine lv_iadd hx hb dX13_atSemaphore_70 ?_
      refine mSt29 C V hS (vin (N := 24) rfl (h2.1) (h2.2)) dX13_atSemaphore_71 (fun S18 H locs eS18 V hS => ?_)
      have w19 := st_first w0 h4 h2 eS18
      have loop72 : ∀ (N72 : Nat)  (SL72 : mS) (H : Heap) (locs : List Loc) (ls : Array Slot), (stp S SL72) → ((gA SL72 33 b).toInt.toNat) < N72 → mV D cs o ad A SL72 H → va_S A s.heap H locs → lv_has ls 5 [(0, .ref o), (1, .int t), (2, .int q), (3, .int b)] → W p l e ({ frames := 2, cells := 0, slots := 0, locals := 46 } : Room) s m ([.ref o, .int t, .int q, .int b] : List Value).toArray below meth c H locs 0 0 (MQ below (va_Qi (fun r9 S9 => pas S S9 t r9) (mB D cs o ad A) A) ([.ref o, .int t, .int q, .int b] : List Value).toArray s 0 0 A) (F0 m 72 ls []) := by
        intro N72
        induction N72 with
        | zero => intro  SL72 H locs ls hi72 hm72; exact absurd hm72 (Nat.not_lt_zero _)
        | succ N72 ih72 =>
          intro  SL72 H locs ls hi72 hm72 V hS hl
          have w20 := hi72
          refine lv_aload_n hx hb dX13_atSemaphore_72 rfl (lv_at hl 0 rfl) ?_
          refine mG33 C V dX13_atSemaphore_73 ?_
          refine lv_iload_n hx hb dX13_atSemaphore_76 rfl (lv_at hl 3 rfl) ?_
          refine mLd33 C V (vin (N := 24) rfl (h2.1) (h2.2)) dX13_atSemaphore_77 ?_
          refine lv_if_le (tgt := 177) hx hb dX13_atSemaphore_78 (by decide) (fun c21 => ?_) (fun c21 => ?_)
          · exact j_atSemaphore_177 l D cs o ad A S t q b h1 h2 h3 h4 C hml hr hlk  SL72 _ _ _ (w20) V hS (lv_sub hl [0, 1, 2, 3] rfl)
          · refine lv_aload_n hx hb dX13_atSemaphore_81 rfl (lv_at hl 0 rfl) ?_
            refine mG29 C V dX13_atSemaphore_82 ?_
            refine lv_iload_n hx hb dX13_atSemaphore_85 rfl (lv_at hl 3 rfl) ?_
            refine mLd29 C V (vin (N := 24) rfl (h2.1) (h2.2)) dX13_atSemaphore_86 ?_
            refine lv_aload_n hx hb dX13_atSemaphore_87 rfl (lv_at hl 0 rfl) ?_
            refine lv_aload_n hx hb dX13_atSemaphore_88 rfl (lv_at hl 0 rfl) ?_
            refine mG32 C V dX13_atSemaphore_89 ?_
            refine lv_bipush (v := 8) hx hb dX13_atSemaphore_92 (by decide) ?_
            refine lv_iload_n hx hb dX13_atSemaphore_94 rfl (lv_at hl 3 rfl) ?_
            refine lv_imul hx hb dX13_atSemaphore_95 ?_
            refine mLd32 C V (vin (N := 192) rfl ((a_8b h2).1) ((a_8b h2).2)) dX13_atSemaphore_96 ?_
            refine lv_iconst (v := 2) hx hb dX13_atSemaphore_97 (by decide) ?_
            refine mGoP (mRunV (As := [.int (gA SL72 32 (8 * b)), .int 2]) (rest := [.int (gA SL72 29 b)]) C hml V (c_part l D cs o ad A SL72 (gA SL72 32 (8 * b)) 2  ((row0 h2 w20.1 (i_gt c21)).1) ((row0 h2 w20.1 (i_gt c21)).2) (by clear V hS hl C hts hown hx hb hml hr hlk ih72 hm72; decide)) gM_part okM_part ⟨rfl, rfl, Nat.le_of_ble_eq_true rfl, Nat.le_of_ble_eq_true rfl⟩ hl.1 rfl (Nat.le_of_ble_eq_true rfl) dX13_atSemaphore_98 ⟨Nat.zero_le _, Nat.zero_le _⟩) hS (fun r23 H locs hq24 V hS => ?_)
            refine lv_icmp_lt (tgt := 177) hx hb dX13_atSemaphore_101 (by decide) (fun c25 => ?_) (fun c25 => ?_)
            · exact j_atSemaphore_177 l D cs o ad A S t q b h1 h2 h3 h4 C hml hr hlk  SL72 _ _ _ (w20) V hS (lv_sub hl [0, 1, 2, 3] rfl)
            · refine lv_aload_n hx hb dX13_atSemaphore_104 rfl (lv_at hl 0 rfl) ?_
              refine mG29 C V dX13_atSemaphore_105 ?_
              refine lv_iload_n hx hb dX13_atSemaphore_108 rfl (lv_at hl 3 rfl) ?_
              refine lv_dup2_11 hx hb dX13_atSemaphore_109 rfl rfl ?_
              refine mLd29 C V (vin (N := 24) rfl (h2.1) (h2.2)) dX13_atSemaphore_110 ?_
              refine lv_aload_n hx hb dX13_atSemaphore_111 rfl (lv_at hl 0 rfl) ?_
              refine lv_aload_n hx hb dX13_atSemaphore_112 rfl (lv_at hl 0 rfl) ?_
              refine mG32 C V dX13_atSemaphore_113 ?_
              refine lv_bipush (v := 8) hx hb dX13_atSemaphore_116 (by decide) ?_
              refine lv_iload_n hx hb dX13_atSemaphore_118 rfl (lv_at hl 3 rfl) ?_
              refine lv_imul hx hb dX13_atSemaphore_119 ?_
              refine mLd32 C V (vin (N := 192) rfl ((a_8b h2).1) ((a_8b h2).2)) dX13_atSemaphore_120 ?_
              refine lv_iconst (v := 2) hx hb dX13_atSemaphore_121 (by decide) ?_
              refine mGoP (mRunV (As := [.int (gA SL72 32 (8 * b)), .int 2]) (rest := [.int (gA SL72 29 b), .int b, .ref (ad 29)]) C hml V (c_part l D cs o ad A SL72 (gA SL72 32 (8 * b)) 2  ((row0 h2 w20.1 (i_gt c21)).1) ((row0 h2 w20.1 (i_gt c21)).2) (by clear V hS hl C hts hown hx hb hml hr hlk ih72 hm72; decide)) gM_part okM_part ⟨rfl, rfl, Nat.le_of_ble_eq_true rfl, Nat.le_of_ble_eq_true rfl⟩ hl.1 rfl (Nat.le_of_ble_eq_true rfl) dX13_atSemaphore_122 ⟨Nat.zero_le _, Nat.zero_le _⟩) hS (fun r27 H locs hq28 V hS => ?_)
              refine lv_isub hx hb dX13_atSemaphore_125 ?_
              refine mSt29 C V hS (vin (N := 24) rfl (h2.1) (h2.2)) dX13_atSemaphore_126 (fun S29 H locs eS29 V hS => ?_)
              have w30 := st_first w20 h4 h2 eS29
              refine lv_aload_n hx hb dX13_atSemaphore_127 rfl (lv_at hl 0 rfl) ?_
              refine lv_iload_n hx hb dX13_atSemaphore_128 rfl (lv_at hl 3 rfl) ?_
              refine mGoI (mRunV (As := [.int b]) (rest := []) C hml V (c_firstGoesOn l D cs o ad A S29 b  (h2) (w30.1) (by clear V hS hl C hts hown hx hb hml hr hlk ih72 hm72; rw [eS29]; simp only [gA_sA, if_neg (show ¬ (33 = 29) by decide)]; exact i_gt c21)) gM_firstGoesOn okM_firstGoesOn ⟨rfl, rfl, Nat.le_of_ble_eq_true rfl, Nat.le_of_ble_eq_true rfl⟩ hl.1 rfl (Nat.le_of_ble_eq_true rfl) dX13_atSemaphore_129 ⟨Nat.zero_le _, Nat.zero_le _⟩) hS (fun r32 S31 H locs hq33 V hS => ?_)
              have w34 := stp_tr w30 hq33.1
              refine lv_pop hx hb dX13_atSemaphore_132 rfl ?_
              refine lv_goto (tgt := 72) hx hb dX13_atSemaphore_133 (by decide) ?_
              exact ih72  S31 _ _ _ (w34) (msd hm72 hq33.2.2.2.1.1 (by clear V hS hl C hts hown hx hb hml hr hlk ih72 hm72; have q9 := hq33.2.2.2.1.2; rw [eS29] at q9; simp only [gA_sA, if_neg (show ¬ (33 = 29) by decide)] at q9; exact q9)) V hS (lv_sub hl [0, 1, 2, 3] rfl)
      exact loop72 _  S18 _ _ _ (w19) (Nat.lt_succ_self _) V hS (lv_sub hl [1, 2, 3, 4] rfl)
  · refine lv_aload_n hx hb dX13_atSemaphore_14 rfl (lv_at hl 1 rfl) ?_
    refine mG29 C V dX13_atSemaphore_15 ?_
    refine lv_iload_n hx hb dX13_atSemaphore_18 rfl (lv_at hl 4 rfl) ?_
    refine mLd29 C V (vin (N := 24) rfl (h2.1) (h2.2)) dX13_atSemaphore_19 ?_
    refine lv_iload hx hb dX13_atSemaphore_20 (lv_at hl 0 rfl) ?_
    refine lv_icmp_lt (tgt := 34) hx hb dX13_atSemaphore_22 (by decide) (fun c35 => ?_) (fun c35 => ?_)
    · exact j_atSemaphore_34 l D cs o ad A S t q b h1 h2 h3 h4 C hml hr hlk  S _ _ _ (w0) V hS (lv_sub hl [1, 2, 3, 4] rfl)
    · refine lv_aload_n hx hb dX13_atSemaphore_25 rfl (lv_at hl 1 rfl) ?_
      refine mG33 C V dX13_atSemaphore_26 ?_
      refine lv_iload_n hx hb dX13_atSemaphore_29 rfl (lv_at hl 4 rfl) ?_
      refine mLd33 C V (vin (N := 24) rfl (h2.1) (h2.2)) dX13_atSemaphore_30 ?_
      refine lv_if_le (tgt := 41) hx hb dX13_atSemaphore_31 (by decide) (fun c36 => ?_) (fun c36 => ?_)
      · refine lv_aload_n hx hb dX13_atSemaphore_41 rfl (lv_at hl 1 rfl) ?_
        refine mG29 C V dX13_atSemaphore_42 ?_
        refine lv_iload_n hx hb dX13_atSemaphore_45 rfl (lv_at hl 4 rfl) ?_
        refine lv_dup2_11 hx hb dX13_atSemaphore_46 rfl rfl ?_
        refine mLd29 C V (vin (N := 24) rfl (h2.1) (h2.2)) dX13_atSemaphore_47 ?_
        refine lv_iload hx hb dX13_atSemaphore_48 (lv_at hl 0 rfl) ?_
        refine lv_isub hx hb dX13_atSemaphore_50 ?_
        refine mSt29 C V hS (vin (N := 24) rfl (h2.1) (h2.2)) dX13_atSemaphore_51 (fun S37 H locs eS37 V hS => ?_)
        have w38 := st_first w0 h4 h2 eS37
        refine lv_goto (tgt := 177) hx hb dX13_atSemaphore_52 (by decide) ?_
        exact j_atSemaphore_177 l D cs o ad A S t q b h1 h2 h3 h4 C hml hr hlk  S37 _ _ _ (w38) V hS (lv_sub hl [1, 2, 3, 4] rfl)
      · exact j_atSemaphore_34 l D cs o ad A S t q b h1 h2 h3 h4 C hml hr hlk  S _ _ _ (w0) V hS (lv_sub hl [1, 2, 3, 4] rfl)
end
section
theorem a_up {x y n : Int32} (e : y = x + 1) (h0 : 0 ≤ x) (h : x < n) : 0 ≤ y ∧ y ≤ n := by grind

theorem st_app {S S1 S2 : mS} {b i v : Int32} (h : stp S S1) (hb : 0 ≤ b ∧ b < 24) (hx : 0 ≤ gA S1 37 b ∧ gA S1 37 b < gA S1 29 b ∧ gA S1 29 b ≤ 100) (e : S2 = sA (sA S1 36 i v) 37 b (gA S1 37 b + 1)) : stp S S2 :=
  st_qlen (S1 := sA S1 36 i v) (st_irr h rfl (by simp [smK])) hb e (fun _ => by
    have e29 : gA (sA S1 36 i v) 29 b = gA S1 29 b := by simp [gA_sA]
    rw [e29]; clear h e e29; grind)
theorem q_of {S S1 : mS} {b : Int32} (h : stp S S1) (hb : 0 ≤ b ∧ b < 24) (hk : gA S 28 b = 5) : 0 ≤ gA S1 37 b ∧ gA S1 37 b ≤ gA S1 29 b ∧ gA S1 29 b ≤ 100 := (h.1.2.2.2.1 b hb.1 hb.2).2.2.2 ((h.2.2.1 28 b (by simp)).trans hk)
theorem a_q {b x : Int32} (hb : 0 ≤ b ∧ b < 24) (h0 : 0 ≤ x) (h1 : x < 100) : 0 ≤ 100 * b + x ∧ 100 * b + x < 2400 := by grind
theorem a_q0 {b : Int32} (hb : 0 ≤ b ∧ b < 24) : 0 ≤ 100 * b ∧ 100 * b < 2400 := by grind
theorem a_q1 {b x n m : Int32} (hb : 0 ≤ b ∧ b < 24) (h0 : 0 ≤ x) (hn : n ≤ m) (hm : m ≤ 100) (hlt : n < m) (h1 : ¬ n ≤ x) : (0 ≤ 100 * b + x ∧ 100 * b + x < 2400) ∧ (0 ≤ 100 * b + x + 1 ∧ 100 * b + x + 1 < 2400) := by grind
end
section
theorem ne5 {S : mS} {b : Int32} (h : gA S 28 b = 1) : gA S 28 b ≠ 5 := by rw [h]; decide
theorem lk_w {S S1 S2 S3 S4 S5 S6 S7 S8 : mS} {b t x y : Int32} (hf : fre S t) (hb : 0 ≤ b ∧ b < 24) (h : mInv S) (hk : gA S 28 b = 1) (e1 : S1 = sA S 18 t x) (e2 : S2 = sA S1 19 t y) (e3 : S3 = sA S2 22 t 1) (e4 : S4 = sA S3 13 t 2) (e5 : S5 = sA S4 16 t b) (e6 : S6 = sA S5 21 t 1) (e7 : S7 = sA S6 34 (8 * b + gA S6 35 b) t) (e8 : S8 = sA S7 35 b (gA S7 35 b + 1)) :
    mInv S8 ∧ gA S8 28 b = 1 ∧ (∀ k, gI S8 k = gI S k) ∧ (∀ k i, k = 11 ∨ k = 12 ∨ k = 28 → gA S8 k i = gA S k i) := by
  have g35 : gA S6 35 b = gA S 35 b := by rw [e6, e5, e4, e3, e2, e1]; simp [gA_sA]
  have g35' : gA S7 35 b = gA S 35 b := by rw [e7]; simp only [gA_sA, if_neg (show ¬ (35 = 34) by decide)]; exact g35
  rw [g35] at e7
  rw [g35'] at e8
  have eo : ∀ k q, k ≠ 18 → k ≠ 19 → k ≠ 22 → k ≠ 13 → k ≠ 16 → k ≠ 21 → k ≠ 34 → k ≠ 35 → gA S8 k q = gA S k q := fun k q a1 a2 a3 a4 a5 a6 a7 a8 => by rw [e8, e7, e6, e5, e4, e3, e2, e1]; simp [gA_sA, a1, a2, a3, a4, a5, a6, a7, a8]
  have eu : ∀ k u, k = 13 ∨ k = 16 ∨ k = 21 ∨ k = 22 → u ≠ t → gA S8 k u = gA S k u := fun k u hk2 hu => by rw [e8, e7, e6, e5, e4, e3, e2, e1]; rcases hk2 with rfl | rfl | rfl | rfl <;> simp [gA_sA, hu]
  have eI : ∀ k, gI S8 k = gI S k := fun k => by rw [e8, e7, e6, e5, e4, e3, e2, e1]; rfl
  have r := w2_inv (S9 := S8) hb h hf hk (fun u hu => eu 13 u (by simp) hu) (by rw [e8, e7, e6, e5, e4]; simp [gA_sA]) (fun u hu => eu 16 u (by simp) hu) (by rw [e8, e7, e6, e5]; simp [gA_sA]) (fun u hu => eu 21 u (by simp) hu) (by rw [e8, e7, e6]; simp [gA_sA]) (fun u hu => eu 22 u (by simp) hu) (by rw [e8, e7, e6, e5, e4, e3]; simp [gA_sA])
    (fun q hq => by rw [e8, e7, e6, e5, e4, e3, e2, e1]; simp [gA_sA, hq]) (by rw [e8, e7]; simp [gA_sA]) (fun d hd => by rw [e8, e7, e6, e5, e4, e3, e2, e1]; simp [gA_sA, hd]) (by rw [e8]; simp [gA_sA])
    (fun k q hk2 => by rcases hk2 with rfl | rfl | rfl | rfl | rfl | rfl | rfl | rfl | rfl <;> exact eo _ q (by decide) (by decide) (by decide) (by decide) (by decide) (by decide) (by decide) (by decide)) eI
  exact ⟨r.1, by rw [eo 28 b (by decide) (by decide) (by decide) (by decide) (by decide) (by decide) (by decide) (by decide)]; exact hk, eI, fun k i hk2 => by rcases hk2 with rfl | rfl | rfl <;> exact eo _ i (by decide) (by decide) (by decide) (by decide) (by decide) (by decide) (by decide) (by decide)⟩
theorem lk_p {S S8 S9 : mS} {t : Int32} (h : (∀ k, gI S8 k = gI S k) ∧ (∀ k i, k = 11 ∨ k = 12 ∨ k = 28 → gA S8 k i = gA S k i)) (h2 : stp S8 S9) : pas S S9 t 0 :=
  ⟨h2.1, fun k => (h2.2.1 k).trans (h.1 k), fun k i hk => (h2.2.2.1 k i hk).trans (h.2 k i hk), Or.inr rfl⟩
theorem lk_m {S : mS} {b : Int32} (hb : 0 ≤ b ∧ b < 24) (h : mInv S) (hL : 0 < gA S 35 b) : (0 ≤ gA S 34 (8 * b) ∧ gA S 34 (8 * b) < 8) ∧ gA S 21 (gA S 34 (8 * b)) ≠ 0 ∧ gA S 16 (gA S 34 (8 * b)) = b := by
  have m := h.2.2.2.2.2.2.1 b 0 hb.1 hb.2 (by decide) hL
  rw [Int32.add_zero] at m
  exact ⟨⟨m.1, m.2.1⟩, m.2.2.2.2.1, m.2.2.2.1⟩
theorem a_sg {n i L : Int32} (h0 : 0 ≤ i) (hi : i < n) (hn : n ≤ L + i) (hL : 0 ≤ L ∧ L ≤ 8) (hn8 : n ≤ 8) : 0 < L := by grind
theorem a_sg2 {n i j L L1 : Int32} (e : j = i + 1) (h0 : 0 ≤ i) (hi : i < n) (hn : n ≤ L + i) (hL : 0 ≤ L ∧ L ≤ 8) (hn8 : n ≤ 8) (e1 : L1 + 1 = L) : 0 ≤ j ∧ j ≤ n ∧ n ≤ L1 + j ∧ n ≤ 8 := by
  have e2 : L1 + j = L + i := by rw [e, ← e1, Int32.add_comm i 1, ← Int32.add_assoc]
  refine ⟨by clear e1 e2 hn; grind, by clear e1 e2 hn; grind, by rw [e2]; exact hn, hn8⟩
theorem a_n0 {n L : Int32} (hL : 0 ≤ L ∧ L ≤ 8) (h : n = L ∨ (n = 1 ∧ ¬ L ≤ 0) ∨ n = 0) : 0 ≤ n ∧ n ≤ L ∧ n ≤ 8 := by grind
theorem a_n1 {n L x : Int32} (h : 0 ≤ n ∧ n ≤ L ∧ n ≤ 8) (e : x = 0) (hL : 0 ≤ L ∧ L ≤ 8) : 0 ≤ x ∧ x ≤ n ∧ n ≤ L + x ∧ n ≤ 8 := by subst e; grind
theorem lk_35 {S S1 : mS} {b : Int32} (h : stp S S1) (hb : 0 ≤ b ∧ b < 24) : 0 ≤ gA S1 35 b ∧ gA S1 35 b ≤ 8 := (h.1.2.2.2.1 b hb.1 hb.2).2.1
end
section
set_option maxHeartbeats 200000 in
set_option maxRecDepth 100000 in
theorem j_atQueue_126 {p : Program} {e : Env} {s : State} {m : MethodId} {below : List Frame} {meth : Method} {c : Code} (l : Launch) (D : va_G) (cs : ClassId × ClassId × ClassId) (o : Nat) (ad : Nat → Nat) (A : Nat → Prop) (S : mS) (t : Int32) (q : Int32) (b : Int32)  (h1 : fre S t) (h2 : 0 ≤ b ∧ b < 24) (h3 : mInv S) (h4 : gA S 28 b = 5) (C : mC p s m ([.ref o, .int t, .int q, .int b] : List Value).toArray c cX13_atQueue D cs) (hml : c.maxLocals = 6) (hr : meth.sig.returnType = (some .boolean)) (hlk : meth.locks = false)  (SJ126 : mS) (H : Heap) (locs : List Loc) (ls : Array Slot) (hj126 : stp S SJ126) (V : mV D cs o ad A SJ126 H) (hS : va_S A s.heap H locs) (hl : lv_has ls 6 [(0, .ref o), (1, .int t), (2, .int q), (3, .int b)]) : W p l e ({ frames := 2, cells := 0, slots := 0, locals := 46 } : Room) s m ([.ref o, .int t, .int q, .int b] : List Value).toArray below meth c H locs 0 0 (MQ below (va_Qi (fun r9 S9 => pas S S9 t r9) (mB D cs o ad A) A) ([.ref o, .int t, .int q, .int b] : List Value).toArray s 0 0 A) (F0 m 126 ls []) := by
  have hx := C.1
  have hb := C.2.1
  have hown := C.2.2.1
  have hts := C.2.2.2.1
  have w1 := hj126
  refine lv_iload_n hx hb dX13_atQueue_126 rfl (lv_at hl 2 rfl) ?_
  refine lv_bipush (v := 25) hx hb dX13_atQueue_127 (by decide) ?_
  refine lv_icmp_ne (tgt := 139) hx hb dX13_atQueue_129 (by decide) (fun c2 => ?_) (fun c2 => ?_)
  · refine lv_iconst (v := 1) hx hb dX13_atQueue_139 (by decide) ?_
    exact mRetZ C hr hlk V hS (by clear V hS hl C hts hown hx hb hml hr hlk; first | rfl | exact pz nope9 | exact pz nope9) (pas_1 h1 w1) dX13_atQueue_140
  · refine lv_aload_n hx hb dX13_atQueue_132 rfl (lv_at hl 0 rfl) ?_
    refine mG14 C V dX13_atQueue_133 ?_
    refine lv_iload_n hx hb dX13_atQueue_136 rfl (lv_at hl 1 rfl) ?_
    refine lv_iconst (v := 1) hx hb dX13_atQueue_137 (by decide) ?_
    refine mSt14 C V hS (vin (N := 8) rfl (h1.1.1) (h1.1.2)) dX13_atQueue_138 (fun S3 H locs eS3 V hS => ?_)
    have w4 := st_irr w1 eS3 (by simp [smK])
    refine lv_iconst (v := 1) hx hb dX13_atQueue_139 (by decide) ?_
    exact mRetZ C hr hlk V hS (by clear V hS hl C hts hown hx hb hml hr hlk; first | rfl | exact pz nope9 | exact pz nope9) (pas_1 h1 w4) dX13_atQueue_140
set_option maxHeartbeats 200000 in
set_option maxRecDepth 100000 in
theorem j_atQueue_45 {p : Program} {e : Env} {s : State} {m : MethodId} {below : List Frame} {meth : Method} {c : Code} (l : Launch) (D : va_G) (cs : ClassId × ClassId × ClassId) (o : Nat) (ad : Nat → Nat) (A : Nat → Prop) (S : mS) (t : Int32) (q : Int32) (b : Int32)  (h1 : fre S t) (h2 : 0 ≤ b ∧ b < 24) (h3 : mInv S) (h4 : gA S 28 b = 5) (C : mC p s m ([.ref o, .int t, .int q, .int b] : List Value).toArray c cX13_atQueue D cs) (hml : c.maxLocals = 6) (hr : meth.sig.returnType = (some .boolean)) (hlk : meth.locks = false) (j45_s0 : Int32)  (H : Heap) (locs : List Loc) (ls : Array Slot) (hj45 : j45_s0 ≠ 0 → 0 < gA S 33 b) (V : mV D cs o ad A S H) (hS : va_S A s.heap H locs) (hl : lv_has ls 6 [(0, .ref o), (1, .int t), (2, .int q), (3, .int b)]) : W p l e ({ frames := 2, cells := 0, slots := 0, locals := 46 } : Room) s m ([.ref o, .int t, .int q, .int b] : List Value).toArray below meth c H locs 0 0 (MQ below (va_Qi (fun r9 S9 => pas S S9 t r9) (mB D cs o ad A) A) ([.ref o, .int t, .int q, .int b] : List Value).toArray s 0 0 A) (F0 m 45 ls [.int j45_s0]) := by
  have hx := C.1
  have hb := C.2.1
  have hown := C.2.2.1
  have hts := C.2.2.2.1
  have w5 := stp_rf h3
  refine lv_istore (lv' := [(4, .int j45_s0), (0, .ref o), (1, .int t), (2, .int q), (3, .int b)]) hx hb dX13_atQueue_45 hl (by decide) rfl (fun ls hl => ?_)
  refine lv_iload hx hb dX13_atQueue_47 (lv_at hl 0 rfl) ?_
  have hz9 := hj45
  refine lv_if_eq (tgt := 75) hx hb dX13_atQueue_49 (by decide) (fun c6 => ?_) (fun c6 => ?_)
  · refine lv_aload_n hx hb dX13_atQueue_75 rfl (lv_at hl 1 rfl) ?_
    refine mG37 C V dX13_atQueue_76 ?_
    refine lv_iload_n hx hb dX13_atQueue_79 rfl (lv_at hl 4 rfl) ?_
    refine mLd37 C V (vin (N := 24) rfl (h2.1) (h2.2)) dX13_atQueue_80 ?_
    refine lv_aload_n hx hb dX13_atQueue_81 rfl (lv_at hl 1 rfl) ?_
    refine mG29 C V dX13_atQueue_82 ?_
    refine lv_iload_n hx hb dX13_atQueue_85 rfl (lv_at hl 4 rfl) ?_
    refine mLd29 C V (vin (N := 24) rfl (h2.1) (h2.2)) dX13_atQueue_86 ?_
    refine lv_icmp_ge (tgt := 104) hx hb dX13_atQueue_87 (by decide) (fun c7 => ?_) (fun c7 => ?_)
    · refine lv_iload_n hx hb dX13_atQueue_104 rfl (lv_at hl 3 rfl) ?_
      refine lv_bipush (v := 25) hx hb dX13_atQueue_105 (by decide) ?_
      refine lv_icmp_ne (tgt := 119) hx hb dX13_atQueue_107 (by decide) (fun c8 => ?_) (fun c8 => ?_)
      · refine lv_aload_n hx hb dX13_atQueue_119 rfl (lv_at hl 1 rfl) ?_
        refine lv_iload_n hx hb dX13_atQueue_120 rfl (lv_at hl 2 rfl) ?_
        refine lv_iload_n hx hb dX13_atQueue_121 rfl (lv_at hl 4 rfl) ?_
        refine mGoI (mRunV (As := [.int t, .int b]) (rest := []) C hml V (c_passes l D cs o ad A S t b  (fre_stp h1 w5) (h2) (w5.1)) gM_passes okM_passes ⟨rfl, rfl, Nat.le_of_ble_eq_true rfl, Nat.le_of_ble_eq_true rfl⟩ hl.1 rfl (Nat.le_of_ble_eq_true rfl) dX13_atQueue_122 ⟨Nat.zero_le _, Nat.zero_le _⟩) hS (fun r10 S9 H locs hq11 V hS => ?_)
        exact mRetZ C hr hlk V hS (by clear V hS hl C hts hown hx hb hml hr hlk; first | rfl | exact pz hq11 | exact pz nope9) (pas_tr h1 (stp_rf h3) hq11) dX13_atQueue_125
      · refine lv_aload_n hx hb dX13_atQueue_110 rfl (lv_at hl 1 rfl) ?_
        refine mG14 C V dX13_atQueue_111 ?_
        refine lv_iload_n hx hb dX13_atQueue_114 rfl (lv_at hl 2 rfl) ?_
        refine lv_iconst (v := 0) hx hb dX13_atQueue_115 (by decide) ?_
        refine mSt14 C V hS (vin (N := 8) rfl (h1.1.1) (h1.1.2)) dX13_atQueue_116 (fun S12 H locs eS12 V hS => ?_)
        have w13 := st_irr w5 eS12 (by simp [smK])
        refine lv_iconst (v := 1) hx hb dX13_atQueue_117 (by decide) ?_
        exact mRetZ C hr hlk V hS (by clear V hS hl C hts hown hx hb hml hr hlk; first | rfl | exact pz nope9 | exact pz nope9) (pas_1 h1 w13) dX13_atQueue_118
    · refine lv_aload_n hx hb dX13_atQueue_90 rfl (lv_at hl 1 rfl) ?_
      refine lv_iload_n hx hb dX13_atQueue_91 rfl (lv_at hl 4 rfl) ?_
      refine lv_aload_n hx hb dX13_atQueue_92 rfl (lv_at hl 1 rfl) ?_
      refine mG14 C V dX13_atQueue_93 ?_
      refine lv_iload_n hx hb dX13_atQueue_96 rfl (lv_at hl 2 rfl) ?_
      refine mLd14 C V (vin (N := 8) rfl (h1.1.1) (h1.1.2)) dX13_atQueue_97 ?_
      refine mGoV (mRunV (As := [.int b, .int (gA S 14 t)]) (rest := []) C hml V (c_append l D cs o ad A S b (gA S 14 t)  (h2) (by clear V hS hl C hts hown hx hb hml hr hlk; have q9 := q_of w5 h2 h4; have c9 := i_lt c7; clear h1 h3 w5; grind)) gM_append okM_append ⟨rfl, rfl, Nat.le_of_ble_eq_true rfl, Nat.le_of_ble_eq_true rfl⟩ hl.1 rfl (Nat.le_of_ble_eq_true rfl) dX13_atQueue_98 ⟨Nat.zero_le _, Nat.zero_le _⟩) hS (fun S14 H locs hq16 V hS => ?_)
      have w17 := st_app w5 h2 ⟨(q_of w5 h2 h4).1, i_lt c7, (q_of w5 h2 h4).2.2⟩ hq16
      refine lv_goto (tgt := 126) hx hb dX13_atQueue_101 (by decide) ?_
      exact j_atQueue_126 l D cs o ad A S t q b h1 h2 h3 h4 C hml hr hlk  S14 _ _ _ (w17) V hS (lv_sub hl [1, 2, 3, 4] rfl)
  · refine lv_aload_n hx hb dX13_atQueue_52 rfl (lv_at hl 1 rfl) ?_
    refine lv_iload_n hx hb dX13_atQueue_53 rfl (lv_at hl 4 rfl) ?_
    refine mGoI (mRunV (As := [.int b]) (rest := []) C hml V (c_firstGoesOn l D cs o ad A S b  (h2) (w5.1) (hj45 c6)) gM_firstGoesOn okM_firstGoesOn ⟨rfl, rfl, Nat.le_of_ble_eq_true rfl, Nat.le_of_ble_eq_true rfl⟩ hl.1 rfl (Nat.le_of_ble_eq_true rfl) dX13_atQueue_54 ⟨Nat.zero_le _, Nat.zero_le _⟩) hS (fun r19 S18 H locs hq20 V hS => ?_)
    have w21 := stp_tr w5 hq20.1
    refine lv_istore (lv' := [(5, .int r19), (4, .int j45_s0), (0, .ref o), (1, .int t), (2, .int q), (3, .int b)]) hx hb dX13_atQueue_57 hl (by decide) rfl (fun ls hl => ?_)
    refine lv_aload_n hx hb dX13_atQueue_59 rfl (lv_at hl 2 rfl) ?_
    refine mG14 C V dX13_atQueue_60 ?_
    refine lv_iload hx hb dX13_atQueue_63 (lv_at hl 0 rfl) ?_
    refine lv_aload_n hx hb dX13_atQueue_65 rfl (lv_at hl 2 rfl) ?_
    refine mG14 C V dX13_atQueue_66 ?_
    refine lv_iload_n hx hb dX13_atQueue_69 rfl (lv_at hl 3 rfl) ?_
    refine mLd14 C V (vin (N := 8) rfl (h1.1.1) (h1.1.2)) dX13_atQueue_70 ?_
    refine mSt14 C V hS (vin (N := 8) rfl (hq20.2.2.1.1) (hq20.2.2.1.2)) dX13_atQueue_71 (fun S22 H locs eS22 V hS => ?_)
    have w23 := st_irr w21 eS22 (by simp [smK])
    refine lv_goto (tgt := 126) hx hb dX13_atQueue_72 (by decide) ?_
    exact j_atQueue_126 l D cs o ad A S t q b h1 h2 h3 h4 C hml hr hlk  S22 _ _ _ (w23) V hS (lv_sub hl [2, 3, 4, 5] rfl)
set_option maxHeartbeats 200000 in
set_option maxRecDepth 100000 in
theorem j_atQueue_44 {p : Program} {e : Env} {s : State} {m : MethodId} {below : List Frame} {meth : Method} {c : Code} (l : Launch) (D : va_G) (cs : ClassId × ClassId × ClassId) (o : Nat) (ad : Nat → Nat) (A : Nat → Prop) (S : mS) (t : Int32) (q : Int32) (b : Int32)  (h1 : fre S t) (h2 : 0 ≤ b ∧ b < 24) (h3 : mInv S) (h4 : gA S 28 b = 5) (C : mC p s m ([.ref o, .int t, .int q, .int b] : List Value).toArray c cX13_atQueue D cs) (hml : c.maxLocals = 6) (hr : meth.sig.returnType = (some .boolean)) (hlk : meth.locks = false)   (H : Heap) (locs : List Loc) (ls : Array Slot) (hj44 : True) (V : mV D cs o ad A S H) (hS : va_S A s.heap H locs) (hl : lv_has ls 6 [(0, .ref o), (1, .int t), (2, .int q), (3, .int b)]) : W p l e ({ frames := 2, cells := 0, slots := 0, locals := 46 } : Room) s m ([.ref o, .int t, .int q, .int b] : List Value).toArray below meth c H locs 0 0 (MQ below (va_Qi (fun r9 S9 => pas S S9 t r9) (mB D cs o ad A) A) ([.ref o, .int t, .int q, .int b] : List Value).toArray s 0 0 A) (F0 m 44 ls []) := by
  have hx := C.1
  have hb := C.2.1
  have hown := C.2.2.1
  have hts := C.2.2.2.1
  have w24 := stp_rf h3
  refine lv_iconst (v := 0) hx hb dX13_atQueue_44 (by decide) ?_
  exact j_atQueue_45 l D cs o ad A S t q b h1 h2 h3 h4 C hml hr hlk 0  _ _ _ (by clear V hS hl C hts hown hx hb hml hr hlk; first | exact fun q9 => absurd rfl q9 | exact fun _ => i_gt nope9) V hS (lv_sub hl [0, 1, 2, 3] rfl)
set_option maxHeartbeats 200000 in
set_option maxRecDepth 100000 in
theorem j_atQueue_12 {p : Program} {e : Env} {s : State} {m : MethodId} {below : List Frame} {meth : Method} {c : Code} (l : Launch) (D : va_G) (cs : ClassId × ClassId × ClassId) (o : Nat) (ad : Nat → Nat) (A : Nat → Prop) (S : mS) (t : Int32) (q : Int32) (b : Int32)  (h1 : fre S t) (h2 : 0 ≤ b ∧ b < 24) (h3 : mInv S) (h4 : gA S 28 b = 5) (C : mC p s m ([.ref o, .int t, .int q, .int b] : List Value).toArray c cX13_atQueue D cs) (hml : c.maxLocals = 6) (hr : meth.sig.returnType = (some .boolean)) (hlk : meth.locks = false)   (H : Heap) (locs : List Loc) (ls : Array Slot) (hj12 : True) (V : mV D cs o ad A S H) (hS : va_S A s.heap H locs) (hl : lv_has ls 6 [(0, .ref o), (1, .int t), (2, .int q), (3, .int b)]) : W p l e ({ frames := 2, cells := 0, slots := 0, locals := 46 } : Room) s m ([.ref o, .int t, .int q, .int b] : List Value).toArray below meth c H locs 0 0 (MQ below (va_Qi (fun r9 S9 => pas S S9 t r9) (mB D cs o ad A) A) ([.ref o, .int t, .int q, .int b] : List Value).toArray s 0 0 A) (F0 m 12 ls []) := by
  have hx := C.1
  have hb := C.2.1
  have hown := C.2.2.1
  have hts := C.2.2.2.1
  have w25 := stp_rf h3
  refine lv_aload_n hx hb dX13_atQueue_12 rfl (lv_at hl 0 rfl) ?_
  refine mG33 C V dX13_atQueue_13 ?_
  refine lv_iload_n hx hb dX13_atQueue_16 rfl (lv_at hl 3 rfl) ?_
  refine mLd33 C V (vin (N := 24) rfl (h2.1) (h2.2)) dX13_atQueue_17 ?_
  refine lv_if_le (tgt := 44) hx hb dX13_atQueue_18 (by decide) (fun c26 => ?_) (fun c26 => ?_)
  · exact j_atQueue_44 l D cs o ad A S t q b h1 h2 h3 h4 C hml hr hlk   _ _ _ (trivial) V hS (lv_sub hl [0, 1, 2, 3] rfl)
  · refine lv_aload_n hx hb dX13_atQueue_21 rfl (lv_at hl 0 rfl) ?_
    refine lv_aload_n hx hb dX13_atQueue_22 rfl (lv_at hl 0 rfl) ?_
    refine mG32 C V dX13_atQueue_23 ?_
    refine lv_bipush (v := 8) hx hb dX13_atQueue_26 (by decide) ?_
    refine lv_iload_n hx hb dX13_atQueue_28 rfl (lv_at hl 3 rfl) ?_
    refine lv_imul hx hb dX13_atQueue_29 ?_
    refine mLd32 C V (vin (N := 192) rfl ((a_8b h2).1) ((a_8b h2).2)) dX13_atQueue_30 ?_
    refine lv_iconst (v := 0) hx hb dX13_atQueue_31 (by decide) ?_
    refine mGoP (mRunV (As := [.int (gA S 32 (8 * b)), .int 0]) (rest := []) C hml V (c_part l D cs o ad A S (gA S 32 (8 * b)) 0  ((row0 h2 w25.1 (i_gt c26)).1) ((row0 h2 w25.1 (i_gt c26)).2) (by clear V hS hl C hts hown hx hb hml hr hlk; decide)) gM_part okM_part ⟨rfl, rfl, Nat.le_of_ble_eq_true rfl, Nat.le_of_ble_eq_true rfl⟩ hl.1 rfl (Nat.le_of_ble_eq_true rfl) dX13_atQueue_32 ⟨Nat.zero_le _, Nat.zero_le _⟩) hS (fun r28 H locs hq29 V hS => ?_)
    refine lv_bipush (v := 23) hx hb dX13_atQueue_35 (by decide) ?_
    refine lv_icmp_eq (tgt := 44) hx hb dX13_atQueue_37 (by decide) (fun c30 => ?_) (fun c30 => ?_)
    · exact j_atQueue_44 l D cs o ad A S t q b h1 h2 h3 h4 C hml hr hlk   _ _ _ (trivial) V hS (lv_sub hl [0, 1, 2, 3] rfl)
    · refine lv_iconst (v := 1) hx hb dX13_atQueue_40 (by decide) ?_
      refine lv_goto (tgt := 45) hx hb dX13_atQueue_41 (by decide) ?_
      exact j_atQueue_45 l D cs o ad A S t q b h1 h2 h3 h4 C hml hr hlk 1  _ _ _ (by clear V hS hl C hts hown hx hb hml hr hlk; first | exact fun q9 => absurd rfl q9 | exact fun _ => i_gt c26) V hS (lv_sub hl [0, 1, 2, 3] rfl)
set_option maxHeartbeats 200000 in
set_option maxRecDepth 100000 in
theorem c_atQueue (l : Launch) (D : va_G) (cs : ClassId × ClassId × ClassId) (o : Nat) (ad : Nat → Nat) (A : Nat → Prop) (S : mS) (t : Int32) (q : Int32) (b : Int32)  (h1 : fre S t) (h2 : 0 ≤ b ∧ b < 24) (h3 : mInv S) (h4 : gA S 28 b = 5) : Met l yX13_atQueue (Cond.code yX13_atQueue cX13_atQueue 6 (some .boolean) :: tM) ({ frames := 2, cells := 0, slots := 0, locals := 46 }) (va_Pc [.ref o, .int t, .int q, .int b] (mB D cs o ad A S)) (va_Qi (fun r9 S9 => pas S S9 t r9) (mB D cs o ad A) A) 0 0 A := by
  refine mMet (by decide) rfl (Nat.le_of_ble_eq_true rfl) ?_
  intro p e s m below meth c ls C hml hr hlk V hl
  have hx := C.1
  have hb := C.2.1
  have hown := C.2.2.1
  have hts := C.2.2.2.1
  have hS : va_S A s.heap s.heap [] := va_S.rf
  have hl : lv_has ls 6 [(0, .ref o), (1, .int t), (2, .int q), (3, .int b)] := hl
  have w0 : stp S S := stp_rf h3
  refine lv_iload_n hx hb dX13_atQueue_0 rfl (lv_at hl 2 rfl) ?_
  refine lv_bipush (v := 23) hx hb dX13_atQueue_1 (by decide) ?_
  refine lv_icmp_eq (tgt := 12) hx hb dX13_atQueue_3 (by decide) (fun c31 => ?_) (fun c31 => ?_)
  · exact j_atQueue_12 l D cs o ad A S t q b h1 h2 h3 h4 C hml hr hlk   _ _ _ (trivial) V hS (lv_sub hl [0, 1, 2, 3] rfl)
  · refine lv_iload_n hx hb dX13_atQueue_6 rfl (lv_at hl 2 rfl) ?_
    refine lv_bipush (v := 25) hx hb dX13_atQueue_7 (by decide) ?_
    refine lv_icmp_ne (tgt := 141) hx hb dX13_atQueue_9 (by decide) (fun c32 => ?_) (fun c32 => ?_)
    · refine lv_aload_n hx hb dX13_atQueue_141 rfl (lv_at hl 0 rfl) ?_
      refine mG37 C V dX13_atQueue_142 ?_
      refine lv_iload_n hx hb dX13_atQueue_145 rfl (lv_at hl 3 rfl) ?_
      refine mLd37 C V (vin (N := 24) rfl (h2.1) (h2.2)) dX13_atQueue_146 ?_
      refine lv_if_ne (tgt := 172) hx hb dX13_atQueue_147 (by decide) (fun c33 => ?_) (fun c33 => ?_)
      · refine lv_aload_n hx hb dX13_atQueue_172 rfl (lv_at hl 0 rfl) ?_
        refine mG14 C V dX13_atQueue_173 ?_
        refine lv_iload_n hx hb dX13_atQueue_176 rfl (lv_at hl 1 rfl) ?_
        refine lv_aload_n hx hb dX13_atQueue_177 rfl (lv_at hl 0 rfl) ?_
        refine mG36 C V dX13_atQueue_178 ?_
        refine lv_bipush (v := 100) hx hb dX13_atQueue_181 (by decide) ?_
        refine lv_iload_n hx hb dX13_atQueue_183 rfl (lv_at hl 3 rfl) ?_
        refine lv_imul hx hb dX13_atQueue_184 ?_
        refine mLd36 C V (vin (N := 2400) rfl ((a_q0 h2).1) ((a_q0 h2).2)) dX13_atQueue_185 ?_
        refine mSt14 C V hS (vin (N := 8) rfl (h1.1.1) (h1.1.2)) dX13_atQueue_186 (fun S34 H locs eS34 V hS => ?_)
        have w35 := st_irr w0 eS34 (by simp [smK])
        have ql0 := q_of w35 h2 h4
        have ql8 : gA S34 37 b ≠ 0 := by rw [eS34]; simp only [gA_sA, if_neg (show ¬ (37 = 14) by decide)]; exact c33
        have ql9 : 0 ≤ gA S34 37 b - 1 ∧ gA S34 37 b - 1 ≤ gA S34 29 b := by clear h1 h3 w35 w0; grind
        have ql7 : gA S34 37 b - 1 < gA S34 29 b := by clear h1 h3 w35 w0; grind
        refine lv_aload_n hx hb dX13_atQueue_187 rfl (lv_at hl 0 rfl) ?_
        refine mG37 C V dX13_atQueue_188 ?_
        refine lv_iload_n hx hb dX13_atQueue_191 rfl (lv_at hl 3 rfl) ?_
        refine lv_dup2_11 hx hb dX13_atQueue_192 rfl rfl ?_
        refine mLd37 C V (vin (N := 24) rfl (h2.1) (h2.2)) dX13_atQueue_193 ?_
        refine lv_iconst (v := 1) hx hb dX13_atQueue_194 (by decide) ?_
        refine lv_isub hx hb dX13_atQueue_195 ?_
        refine mSt37 C V hS (vin (N := 24) rfl (h2.1) (h2.2)) dX13_atQueue_196 (fun S36 H locs eS36 V hS => ?_)
        have w37 := st_qlen w35 h2 eS36 (fun _ => ql9)
        refine lv_iconst (v := 0) hx hb dX13_atQueue_197 (by decide) ?_
        refine lv_topi (fun x38 ex38 => ?_)
        refine lv_istore (lv' := [(4, .int x38), (0, .ref o), (1, .int t), (2, .int q), (3, .int b)]) hx hb dX13_atQueue_198 hl (by decide) rfl (fun ls hl => ?_)
        have loop200 : ∀ (N200 : Nat) (v200_4 : Int32) (SL200 : mS) (H : Heap) (locs : List Loc) (ls : Array Slot), (stp S SL200 ∧ 0 ≤ v200_4 ∧ v200_4 ≤ gA SL200 37 b ∧ gA SL200 37 b < gA SL200 29 b ∧ gA SL200 29 b ≤ 100) → ((gA SL200 37 b - v200_4).toInt.toNat) < N200 → mV D cs o ad A SL200 H → va_S A s.heap H locs → lv_has ls 6 [(0, .ref o), (1, .int t), (2, .int q), (3, .int b), (4, .int v200_4)] → W p l e ({ frames := 2, cells := 0, slots := 0, locals := 46 } : Room) s m ([.ref o, .int t, .int q, .int b] : List Value).toArray below meth c H locs 0 0 (MQ below (va_Qi (fun r9 S9 => pas S S9 t r9) (mB D cs o ad A) A) ([.ref o, .int t, .int q, .int b] : List Value).toArray s 0 0 A) (F0 m 200 ls []) := by
          intro N200
          induction N200 with
          | zero => intro v200_4 SL200 H locs ls hi200 hm200; exact absurd hm200 (Nat.not_lt_zero _)
          | succ N200 ih200 =>
            intro v200_4 SL200 H locs ls hi200 hm200 V hS hl
            have z0 : 0 ≤ gA SL200 37 b := (q_of hi200.1 h2 h4).1
            have w39 := hi200.1
            refine lv_iload hx hb dX13_atQueue_200 (lv_at hl 4 rfl) ?_
            refine lv_aload_n hx hb dX13_atQueue_202 rfl (lv_at hl 0 rfl) ?_
            refine mG37 C V dX13_atQueue_203 ?_
            refine lv_iload_n hx hb dX13_atQueue_206 rfl (lv_at hl 3 rfl) ?_
            refine mLd37 C V (vin (N := 24) rfl (h2.1) (h2.2)) dX13_atQueue_207 ?_
            refine lv_icmp_ge (tgt := 243) hx hb dX13_atQueue_208 (by decide) (fun c40 => ?_) (fun c40 => ?_)
            · refine lv_aload_n hx hb dX13_atQueue_243 rfl (lv_at hl 0 rfl) ?_
              refine mG33 C V dX13_atQueue_244 ?_
              refine lv_iload_n hx hb dX13_atQueue_247 rfl (lv_at hl 3 rfl) ?_
              refine mLd33 C V (vin (N := 24) rfl (h2.1) (h2.2)) dX13_atQueue_248 ?_
              refine lv_if_le (tgt := 271) hx hb dX13_atQueue_249 (by decide) (fun c41 => ?_) (fun c41 => ?_)
              · refine lv_iconst (v := 1) hx hb dX13_atQueue_271 (by decide) ?_
                exact mRetZ C hr hlk V hS (by clear V hS hl C hts hown hx hb hml hr hlk ih200 hm200; first | rfl | exact pz nope9 | exact pz nope9) (pas_1 h1 w39) dX13_atQueue_272
              · refine lv_aload_n hx hb dX13_atQueue_252 rfl (lv_at hl 0 rfl) ?_
                refine lv_iload_n hx hb dX13_atQueue_253 rfl (lv_at hl 3 rfl) ?_
                refine mGoI (mRunV (As := [.int b]) (rest := []) C hml V (c_firstGoesOn l D cs o ad A SL200 b  (h2) (w39.1) (i_gt c41)) gM_firstGoesOn okM_firstGoesOn ⟨rfl, rfl, Nat.le_of_ble_eq_true rfl, Nat.le_of_ble_eq_true rfl⟩ hl.1 rfl (Nat.le_of_ble_eq_true rfl) dX13_atQueue_254 ⟨Nat.zero_le _, Nat.zero_le _⟩) hS (fun r43 S42 H locs hq44 V hS => ?_)
                have w45 := stp_tr w39 hq44.1
                refine lv_istore (lv' := [(4, .int r43), (0, .ref o), (1, .int t), (2, .int q), (3, .int b)]) hx hb dX13_atQueue_257 hl (by decide) rfl (fun ls hl => ?_)
                refine lv_aload_n hx hb dX13_atQueue_259 rfl (lv_at hl 1 rfl) ?_
                refine lv_iload_n hx hb dX13_atQueue_260 rfl (lv_at hl 4 rfl) ?_
                refine lv_aload_n hx hb dX13_atQueue_261 rfl (lv_at hl 1 rfl) ?_
                refine mG14 C V dX13_atQueue_262 ?_
                refine lv_iload hx hb dX13_atQueue_265 (lv_at hl 0 rfl) ?_
                refine mLd14 C V (vin (N := 8) rfl (hq44.2.2.1.1) (hq44.2.2.1.2)) dX13_atQueue_267 ?_
                refine mGoV (mRunV (As := [.int b, .int (gA S42 14 r43)]) (rest := []) C hml V (c_append l D cs o ad A S42 b (gA S42 14 r43)  (h2) (by clear V hS hl C hts hown hx hb hml hr hlk ih200 hm200; rw [hq44.2.2.2.2 37 _ (by decide) (by decide) (by decide) (by decide) (by decide)]; have q9 := hi200.2.2.2; clear h1 h3 w45 hq44 hi200; grind)) gM_append okM_append ⟨rfl, rfl, Nat.le_of_ble_eq_true rfl, Nat.le_of_ble_eq_true rfl⟩ hl.1 rfl (Nat.le_of_ble_eq_true rfl) dX13_atQueue_268 ⟨Nat.zero_le _, Nat.zero_le _⟩) hS (fun S46 H locs hq48 V hS => ?_)
                have w49 := st_app w45 h2 ⟨by rw [hq44.2.2.2.2 37 _ (by decide) (by decide) (by decide) (by decide) (by decide)]; exact z0, by rw [hq44.2.2.2.2 37 _ (by decide) (by decide) (by decide) (by decide) (by decide), hq44.2.2.2.2 29 _ (by decide) (by decide) (by decide) (by decide) (by decide)]; exact hi200.2.2.2.1, by rw [hq44.2.2.2.2 29 _ (by decide) (by decide) (by decide) (by decide) (by decide)]; exact hi200.2.2.2.2⟩ hq48
                refine lv_iconst (v := 1) hx hb dX13_atQueue_271 (by decide) ?_
                exact mRetZ C hr hlk V hS (by clear V hS hl C hts hown hx hb hml hr hlk ih200 hm200; first | rfl | exact pz nope9 | exact pz nope9) (pas_1 h1 w49) dX13_atQueue_272
            · refine lv_aload_n hx hb dX13_atQueue_211 rfl (lv_at hl 0 rfl) ?_
              refine mG36 C V dX13_atQueue_212 ?_
              refine lv_bipush (v := 100) hx hb dX13_atQueue_215 (by decide) ?_
              refine lv_iload_n hx hb dX13_atQueue_217 rfl (lv_at hl 3 rfl) ?_
              refine lv_imul hx hb dX13_atQueue_218 ?_
              refine lv_iload hx hb dX13_atQueue_219 (lv_at hl 4 rfl) ?_
              refine lv_iadd hx hb dX13_atQueue_221 ?_
              refine lv_aload_n hx hb dX13_atQueue_222 rfl (lv_at hl 0 rfl) ?_
              refine mG36 C V dX13_atQueue_223 ?_
              refine lv_bipush (v := 100) hx hb dX13_atQueue_226 (by decide) ?_
              refine lv_iload_n hx hb dX13_atQueue_228 rfl (lv_at hl 3 rfl) ?_
              refine lv_imul hx hb dX13_atQueue_229 ?_
              refine lv_iload hx hb dX13_atQueue_230 (lv_at hl 4 rfl) ?_
              refine lv_iadd hx hb dX13_atQueue_232 ?_
              refine lv_iconst (v := 1) hx hb dX13_atQueue_233 (by decide) ?_
              refine lv_iadd hx hb dX13_atQueue_234 ?_
              refine mLd36 C V (vin (N := 2400) rfl ((a_q1 h2 hi200.2.1 (Int32.le_of_lt hi200.2.2.2.1) hi200.2.2.2.2 hi200.2.2.2.1 c40).2.1) ((a_q1 h2 hi200.2.1 (Int32.le_of_lt hi200.2.2.2.1) hi200.2.2.2.2 hi200.2.2.2.1 c40).2.2)) dX13_atQueue_235 ?_
              refine mSt36 C V hS (vin (N := 2400) rfl ((a_q1 h2 hi200.2.1 (Int32.le_of_lt hi200.2.2.2.1) hi200.2.2.2.2 hi200.2.2.2.1 c40).1.1) ((a_q1 h2 hi200.2.1 (Int32.le_of_lt hi200.2.2.2.1) hi200.2.2.2.2 hi200.2.2.2.1 c40).1.2)) dX13_atQueue_236 (fun S50 H locs eS50 V hS => ?_)
              have w51 := st_irr w39 eS50 (by simp [smK])
              obtain ⟨x52, ex52⟩ : ∃ y : Int32, y = v200_4 + (1) := ⟨_, rfl⟩
              refine lv_iinc (v := x52) (lv' := [(4, .int x52), (0, .ref o), (1, .int t), (2, .int q), (3, .int b)]) hx hb dX13_atQueue_237 hl (k := 4) rfl (by rw [ex52]; rfl) (by decide) rfl (fun ls hl => ?_)
              refine lv_goto (tgt := 200) hx hb dX13_atQueue_240 (by decide) ?_
              exact ih200 x52 S50 _ _ _ (by clear V hS hl C hts hown hx hb hml hr hlk ih200 hm200; rw [eS50]; simp only [gA_sA, if_neg (show ¬ (37 = 36) by decide), if_neg (show ¬ (29 = 36) by decide)]; rw [← eS50]; exact ⟨w51, (a_up ex52 hi200.2.1 (i_lt c40)).1, (a_up ex52 hi200.2.1 (i_lt c40)).2, hi200.2.2.2⟩) (show _ < _ from by rw [eS50]; simp only [gA_sA, if_neg (show ¬ (37 = 36) by decide)]; exact msd hm200 (a_dec ex52 hi200.2.1 (i_lt c40)).1 (a_dec ex52 hi200.2.1 (i_lt c40)).2) V hS (lv_sub hl [1, 2, 3, 4, 0] rfl)
        exact loop200 _ x38 S36 _ _ _ (by clear V hS hl C hts hown hx hb hml hr hlk; refine ⟨w37, ?_, ?_, ?_, ?_⟩ <;> (try rw [ex38]) <;> first | decide | (rw [eS36]; simp only [gA_sA, if_pos, if_neg (show ¬ (29 = 37) by decide)]; first | exact ql9.1 | exact ql7 | exact ql0.2.2)) (Nat.lt_succ_self _) V hS (lv_sub hl [1, 2, 3, 4, 0] rfl)
      · refine lv_iload_n hx hb dX13_atQueue_150 rfl (lv_at hl 2 rfl) ?_
        refine lv_bipush (v := 24) hx hb dX13_atQueue_151 (by decide) ?_
        refine lv_icmp_ne (tgt := 163) hx hb dX13_atQueue_153 (by decide) (fun c53 => ?_) (fun c53 => ?_)
        · refine lv_aload_n hx hb dX13_atQueue_163 rfl (lv_at hl 0 rfl) ?_
          refine mG14 C V dX13_atQueue_164 ?_
          refine lv_iload_n hx hb dX13_atQueue_167 rfl (lv_at hl 1 rfl) ?_
          refine lv_iconst (v := (-1)) hx hb dX13_atQueue_168 (by decide) ?_
          refine mSt14 C V hS (vin (N := 8) rfl (h1.1.1) (h1.1.2)) dX13_atQueue_169 (fun S54 H locs eS54 V hS => ?_)
          have w55 := st_irr w0 eS54 (by simp [smK])
          refine lv_iconst (v := 1) hx hb dX13_atQueue_170 (by decide) ?_
          exact mRetZ C hr hlk V hS (by clear V hS hl C hts hown hx hb hml hr hlk; first | rfl | exact pz nope9 | exact pz nope9) (pas_1 h1 w55) dX13_atQueue_171
        · refine lv_aload_n hx hb dX13_atQueue_156 rfl (lv_at hl 0 rfl) ?_
          refine lv_iload_n hx hb dX13_atQueue_157 rfl (lv_at hl 1 rfl) ?_
          refine lv_iload_n hx hb dX13_atQueue_158 rfl (lv_at hl 3 rfl) ?_
          refine mGoI (mRunV (As := [.int t, .int b]) (rest := []) C hml V (c_passes l D cs o ad A S t b  (fre_stp h1 w0) (h2) (w0.1)) gM_passes okM_passes ⟨rfl, rfl, Nat.le_of_ble_eq_true rfl, Nat.le_of_ble_eq_true rfl⟩ hl.1 rfl (Nat.le_of_ble_eq_true rfl) dX13_atQueue_159 ⟨Nat.zero_le _, Nat.zero_le _⟩) hS (fun r57 S56 H locs hq58 V hS => ?_)
          exact mRetZ C hr hlk V hS (by clear V hS hl C hts hown hx hb hml hr hlk; first | rfl | exact pz nope9 | exact pz hq58) (pas_tr h1 w0 hq58) dX13_atQueue_162
    · exact j_atQueue_12 l D cs o ad A S t q b h1 h2 h3 h4 C hml hr hlk   _ _ _ (trivial) V hS (lv_sub hl [0, 1, 2, 3] rfl)
end
section
set_option maxHeartbeats 200000 in
set_option maxRecDepth 100000 in
theorem j_atLock_304 {p : Program} {e : Env} {s : State} {m : MethodId} {below : List Frame} {meth : Method} {c : Code} (l : Launch) (D : va_G) (cs : ClassId × ClassId × ClassId) (o : Nat) (ad : Nat → Nat) (A : Nat → Prop) (S : mS) (t : Int32) (q : Int32) (b : Int32)  (h1 : fre S t) (h2 : 0 ≤ b ∧ b < 24) (h3 : mInv S) (h4 : gA S 28 b = 1) (C : mC p s m ([.ref o, .int t, .int q, .int b] : List Value).toArray c cX13_atLock D cs) (hml : c.maxLocals = 6) (hr : meth.sig.returnType = (some .boolean)) (hlk : meth.locks = false) (j304_s0 : Int32)  (H : Heap) (locs : List Loc) (ls : Array Slot) (hj304 : 0 ≤ j304_s0 ∧ j304_s0 ≤ gA S 35 b ∧ j304_s0 ≤ 8) (V : mV D cs o ad A S H) (hS : va_S A s.heap H locs) (hl : lv_has ls 6 [(0, .ref o), (1, .int t), (2, .int q), (3, .int b)]) : W p l e ({ frames := 4, cells := 0, slots := 0, locals := 92 } : Room) s m ([.ref o, .int t, .int q, .int b] : List Value).toArray below meth c H locs 0 0 (MQ below (va_Qi (fun r9 S9 => pas S S9 t r9) (mB D cs o ad A) A) ([.ref o, .int t, .int q, .int b] : List Value).toArray s 0 0 A) (F0 m 304 ls [.int j304_s0]) := by
  have hx := C.1
  have hb := C.2.1
  have hown := C.2.2.1
  have hts := C.2.2.2.1
  have w1 := stp_rf h3
  refine lv_istore (lv' := [(4, .int j304_s0), (0, .ref o), (1, .int t), (2, .int q), (3, .int b)]) hx hb dX13_atLock_304 hl (by decide) rfl (fun ls hl => ?_)
  refine lv_iconst (v := 0) hx hb dX13_atLock_306 (by decide) ?_
  refine lv_topi (fun x2 ex2 => ?_)
  refine lv_istore (lv' := [(5, .int x2), (4, .int j304_s0), (0, .ref o), (1, .int t), (2, .int q), (3, .int b)]) hx hb dX13_atLock_307 hl (by decide) rfl (fun ls hl => ?_)
  have loop309 : ∀ (N309 : Nat) (v309_5 : Int32) (SL309 : mS) (H : Heap) (locs : List Loc) (ls : Array Slot), (stp S SL309 ∧ 0 ≤ v309_5 ∧ v309_5 ≤ j304_s0 ∧ j304_s0 ≤ gA SL309 35 b + v309_5 ∧ j304_s0 ≤ 8) → ((j304_s0 - v309_5).toInt.toNat) < N309 → mV D cs o ad A SL309 H → va_S A s.heap H locs → lv_has ls 6 [(0, .ref o), (1, .int t), (2, .int q), (3, .int b), (4, .int j304_s0), (5, .int v309_5)] → W p l e ({ frames := 4, cells := 0, slots := 0, locals := 92 } : Room) s m ([.ref o, .int t, .int q, .int b] : List Value).toArray below meth c H locs 0 0 (MQ below (va_Qi (fun r9 S9 => pas S S9 t r9) (mB D cs o ad A) A) ([.ref o, .int t, .int q, .int b] : List Value).toArray s 0 0 A) (F0 m 309 ls []) := by
    intro N309
    induction N309 with
    | zero => intro v309_5 SL309 H locs ls hi309 hm309; exact absurd hm309 (Nat.not_lt_zero _)
    | succ N309 ih309 =>
      intro v309_5 SL309 H locs ls hi309 hm309 V hS hl
      have w3 := hi309.1
      refine lv_iload hx hb dX13_atLock_309 (lv_at hl 5 rfl) ?_
      refine lv_iload hx hb dX13_atLock_311 (lv_at hl 4 rfl) ?_
      refine lv_icmp_ge (tgt := 336) hx hb dX13_atLock_313 (by decide) (fun c4 => ?_) (fun c4 => ?_)
      · refine lv_iconst (v := 1) hx hb dX13_atLock_336 (by decide) ?_
        exact mRetZ C hr hlk V hS (by clear V hS hl C hts hown hx hb hml hr hlk ih309 hm309; first | rfl | (rw [nope9.1]; rfl)) (pas_1 h1 w3) dX13_atLock_337
      · refine lv_aload_n hx hb dX13_atLock_316 rfl (lv_at hl 0 rfl) ?_
        refine lv_iload_n hx hb dX13_atLock_317 rfl (lv_at hl 3 rfl) ?_
        refine lv_aload_n hx hb dX13_atLock_318 rfl (lv_at hl 0 rfl) ?_
        refine mG34 C V dX13_atLock_319 ?_
        refine lv_bipush (v := 8) hx hb dX13_atLock_322 (by decide) ?_
        refine lv_iload_n hx hb dX13_atLock_324 rfl (lv_at hl 3 rfl) ?_
        refine lv_imul hx hb dX13_atLock_325 ?_
        refine mLd34 C V (vin (N := 192) rfl ((a_8b h2).1) ((a_8b h2).2)) dX13_atLock_326 ?_
        refine mGoV (mRunV (As := [.int b, .int (gA SL309 34 (8 * b))]) (rest := []) C hml V (c_signalled l D cs o ad A SL309 b (gA SL309 34 (8 * b))  (h2) (w3.1) ((lk_m h2 w3.1 (a_sg hi309.2.1 (i_lt c4) hi309.2.2.2.1 (lk_35 hi309.1 h2) hi309.2.2.2.2)).1) ((lk_m h2 w3.1 (a_sg hi309.2.1 (i_lt c4) hi309.2.2.2.1 (lk_35 hi309.1 h2) hi309.2.2.2.2)).2.1) ((lk_m h2 w3.1 (a_sg hi309.2.1 (i_lt c4) hi309.2.2.2.1 (lk_35 hi309.1 h2) hi309.2.2.2.2)).2.2)) gM_signalled okM_signalled ⟨rfl, rfl, Nat.le_of_ble_eq_true rfl, Nat.le_of_ble_eq_true rfl⟩ hl.1 rfl (Nat.le_of_ble_eq_true rfl) dX13_atLock_327 ⟨Nat.zero_le _, Nat.zero_le _⟩) hS (fun S5 H locs hq7 V hS => ?_)
        have w8 := stp_tr w3 hq7.1
        obtain ⟨x9, ex9⟩ : ∃ y : Int32, y = v309_5 + (1) := ⟨_, rfl⟩
        refine lv_iinc (v := x9) (lv' := [(5, .int x9), (0, .ref o), (1, .int t), (2, .int q), (3, .int b), (4, .int j304_s0)]) hx hb dX13_atLock_330 hl (k := 5) rfl (by rw [ex9]; rfl) (by decide) rfl (fun ls hl => ?_)
        refine lv_goto (tgt := 309) hx hb dX13_atLock_333 (by decide) ?_
        exact ih309 x9 S5 _ _ _ (⟨w8, a_sg2 ex9 hi309.2.1 (i_lt c4) hi309.2.2.2.1 (lk_35 hi309.1 h2) hi309.2.2.2.2 hq7.2⟩) (msd hm309 (a_dec ex9 hi309.2.1 (i_lt c4)).1 (a_dec ex9 hi309.2.1 (i_lt c4)).2) V hS (lv_sub hl [1, 2, 3, 4, 5, 0] rfl)
  exact loop309 _ x2 S _ _ _ (⟨w1, a_n1 hj304 ex2 (lk_35 w1 h2)⟩) (Nat.lt_succ_self _) V hS (lv_sub hl [2, 3, 4, 5, 1, 0] rfl)
set_option maxHeartbeats 200000 in
set_option maxRecDepth 100000 in
theorem j_atLock_160 {p : Program} {e : Env} {s : State} {m : MethodId} {below : List Frame} {meth : Method} {c : Code} (l : Launch) (D : va_G) (cs : ClassId × ClassId × ClassId) (o : Nat) (ad : Nat → Nat) (A : Nat → Prop) (S : mS) (t : Int32) (q : Int32) (b : Int32)  (h1 : fre S t) (h2 : 0 ≤ b ∧ b < 24) (h3 : mInv S) (h4 : gA S 28 b = 1) (C : mC p s m ([.ref o, .int t, .int q, .int b] : List Value).toArray c cX13_atLock D cs) (hml : c.maxLocals = 6) (hr : meth.sig.returnType = (some .boolean)) (hlk : meth.locks = false)  (SJ160 : mS) (H : Heap) (locs : List Loc) (ls : Array Slot) (hj160 : stp S SJ160) (V : mV D cs o ad A SJ160 H) (hS : va_S A s.heap H locs) (hl : lv_has ls 6 [(0, .ref o), (1, .int t), (2, .int q), (3, .int b)]) : W p l e ({ frames := 4, cells := 0, slots := 0, locals := 92 } : Room) s m ([.ref o, .int t, .int q, .int b] : List Value).toArray below meth c H locs 0 0 (MQ below (va_Qi (fun r9 S9 => pas S S9 t r9) (mB D cs o ad A) A) ([.ref o, .int t, .int q, .int b] : List Value).toArray s 0 0 A) (F0 m 160 ls []) := by
  have hx := C.1
  have hb := C.2.1
  have hown := C.2.2.1
  have hts := C.2.2.2.1
  have w10 := hj160
  refine lv_iconst (v := 1) hx hb dX13_atLock_160 (by decide) ?_
  exact mRetZ C hr hlk V hS (by clear V hS hl C hts hown hx hb hml hr hlk; first | rfl | (rw [nope9.1]; rfl)) (pas_1 h1 w10) dX13_atLock_161
set_option maxHeartbeats 200000 in
set_option maxRecDepth 100000 in
theorem j_atLock_96 {p : Program} {e : Env} {s : State} {m : MethodId} {below : List Frame} {meth : Method} {c : Code} (l : Launch) (D : va_G) (cs : ClassId × ClassId × ClassId) (o : Nat) (ad : Nat → Nat) (A : Nat → Prop) (S : mS) (t : Int32) (q : Int32) (b : Int32)  (h1 : fre S t) (h2 : 0 ≤ b ∧ b < 24) (h3 : mInv S) (h4 : gA S 28 b = 1) (C : mC p s m ([.ref o, .int t, .int q, .int b] : List Value).toArray c cX13_atLock D cs) (hml : c.maxLocals = 6) (hr : meth.sig.returnType = (some .boolean)) (hlk : meth.locks = false) (j96_4 : Int32) (SJ96 : mS) (H : Heap) (locs : List Loc) (ls : Array Slot) (hj96 : (stp S SJ96 ∧ (j96_4 ≠ 0 ∨ q = 8)) ∨ (pas S SJ96 t 0 ∧ j96_4 = 0 ∧ q ≠ 8)) (V : mV D cs o ad A SJ96 H) (hS : va_S A s.heap H locs) (hl : lv_has ls 6 [(0, .ref o), (1, .int t), (2, .int q), (3, .int b), (4, .int j96_4)]) : W p l e ({ frames := 4, cells := 0, slots := 0, locals := 92 } : Room) s m ([.ref o, .int t, .int q, .int b] : List Value).toArray below meth c H locs 0 0 (MQ below (va_Qi (fun r9 S9 => pas S S9 t r9) (mB D cs o ad A) A) ([.ref o, .int t, .int q, .int b] : List Value).toArray s 0 0 A) (F0 m 96 ls []) := by
  have hx := C.1
  have hb := C.2.1
  have hown := C.2.2.1
  have hts := C.2.2.2.1
  refine lv_iload hx hb dX13_atLock_96 (lv_at hl 4 rfl) ?_
  refine lv_if_ne (tgt := 107) hx hb dX13_atLock_98 (by decide) (fun c11 => ?_) (fun c11 => ?_)
  · refine lv_iconst (v := 1) hx hb dX13_atLock_107 (by decide) ?_
    refine lv_goto (tgt := 112) hx hb dX13_atLock_108 (by decide) ?_
    exact mRetZ C hr hlk V hS (by clear V hS hl C hts hown hx hb hml hr hlk; first | rfl | (rw [nope9.1]; rfl)) (by clear V hS hl C hts hown hx hb hml hr hlk; first | (rcases hj96 with q9 | q9; exact pas_1 h1 q9.1; exact absurd q9.2.1 c11) | (rcases hj96 with q9 | q9; exact pas_1 h1 q9.1; exact absurd nope9 q9.2.2) | (rcases hj96 with q9 | q9; exact absurd q9.2 (by rintro (z | z); exact z c11; exact nope9 z); exact q9.1)) dX13_atLock_112
  · refine lv_iload_n hx hb dX13_atLock_101 rfl (lv_at hl 2 rfl) ?_
    refine lv_bipush (v := 8) hx hb dX13_atLock_102 (by decide) ?_
    refine lv_icmp_ne (tgt := 111) hx hb dX13_atLock_104 (by decide) (fun c12 => ?_) (fun c12 => ?_)
    · refine lv_iconst (v := 0) hx hb dX13_atLock_111 (by decide) ?_
      exact mRetZ C hr hlk V hS (by clear V hS hl C hts hown hx hb hml hr hlk; first | rfl | (rw [nope9.1]; rfl)) (by clear V hS hl C hts hown hx hb hml hr hlk; first | (rcases hj96 with q9 | q9; exact pas_1 h1 q9.1; exact absurd q9.2.1 c11) | (rcases hj96 with q9 | q9; exact pas_1 h1 q9.1; exact absurd c12 q9.2.2) | (rcases hj96 with q9 | q9; exact absurd q9.2 (by rintro (z | z); exact z c11; exact c12 z); exact q9.1)) dX13_atLock_112
    · refine lv_iconst (v := 1) hx hb dX13_atLock_107 (by decide) ?_
      refine lv_goto (tgt := 112) hx hb dX13_atLock_108 (by decide) ?_
      exact mRetZ C hr hlk V hS (by clear V hS hl C hts hown hx hb hml hr hlk; first | rfl | (rw [nope9.1]; rfl)) (by clear V hS hl C hts hown hx hb hml hr hlk; first | (rcases hj96 with q9 | q9; exact pas_1 h1 q9.1; exact absurd q9.2.1 c11) | (rcases hj96 with q9 | q9; exact pas_1 h1 q9.1; exact absurd c12 q9.2.2) | (rcases hj96 with q9 | q9; exact absurd q9.2 (by rintro (z | z); exact z c11; exact c12 z); exact q9.1)) dX13_atLock_112
set_option maxHeartbeats 200000 in
set_option maxRecDepth 100000 in
theorem j_atLock_81 {p : Program} {e : Env} {s : State} {m : MethodId} {below : List Frame} {meth : Method} {c : Code} (l : Launch) (D : va_G) (cs : ClassId × ClassId × ClassId) (o : Nat) (ad : Nat → Nat) (A : Nat → Prop) (S : mS) (t : Int32) (q : Int32) (b : Int32)  (h1 : fre S t) (h2 : 0 ≤ b ∧ b < 24) (h3 : mInv S) (h4 : gA S 28 b = 1) (C : mC p s m ([.ref o, .int t, .int q, .int b] : List Value).toArray c cX13_atLock D cs) (hml : c.maxLocals = 6) (hr : meth.sig.returnType = (some .boolean)) (hlk : meth.locks = false) (j81_4 : Int32) (j81_s2 : Int32) (SJ81 : mS) (H : Heap) (locs : List Loc) (ls : Array Slot) (hj81 : stp S SJ81 ∧ q = 8) (V : mV D cs o ad A SJ81 H) (hS : va_S A s.heap H locs) (hl : lv_has ls 6 [(0, .ref o), (1, .int t), (2, .int q), (3, .int b), (4, .int j81_4)]) : W p l e ({ frames := 4, cells := 0, slots := 0, locals := 92 } : Room) s m ([.ref o, .int t, .int q, .int b] : List Value).toArray below meth c H locs 0 0 (MQ below (va_Qi (fun r9 S9 => pas S S9 t r9) (mB D cs o ad A) A) ([.ref o, .int t, .int q, .int b] : List Value).toArray s 0 0 A) (F0 m 81 ls [.int j81_s2, .int t, .ref (ad 14)]) := by
  have hx := C.1
  have hb := C.2.1
  have hown := C.2.2.1
  have hts := C.2.2.2.1
  have w13 := hj81.1
  refine mSt14 C V hS (vin (N := 8) rfl (h1.1.1) (h1.1.2)) dX13_atLock_81 (fun S14 H locs eS14 V hS => ?_)
  have w15 := st_irr w13 eS14 (by simp [smK])
  refine lv_goto (tgt := 96) hx hb dX13_atLock_82 (by decide) ?_
  exact j_atLock_96 l D cs o ad A S t q b h1 h2 h3 h4 C hml hr hlk j81_4 S14 _ _ _ (by clear V hS hl C hts hown hx hb hml hr hlk; first | exact Or.inl ⟨w15, Or.inr hj81.2⟩ | exact Or.inl ⟨w15, Or.inl nope9⟩ | exact Or.inr ⟨pas_tr h1 hj60 (pas_w (fre_stp h1 hj60) h2 hj60.1 nope9), nope9, nope9⟩) V hS (lv_sub hl [0, 1, 2, 3, 4] rfl)
set_option maxHeartbeats 200000 in
set_option maxRecDepth 100000 in
theorem j_atLock_60 {p : Program} {e : Env} {s : State} {m : MethodId} {below : List Frame} {meth : Method} {c : Code} (l : Launch) (D : va_G) (cs : ClassId × ClassId × ClassId) (o : Nat) (ad : Nat → Nat) (A : Nat → Prop) (S : mS) (t : Int32) (q : Int32) (b : Int32)  (h1 : fre S t) (h2 : 0 ≤ b ∧ b < 24) (h3 : mInv S) (h4 : gA S 28 b = 1) (C : mC p s m ([.ref o, .int t, .int q, .int b] : List Value).toArray c cX13_atLock D cs) (hml : c.maxLocals = 6) (hr : meth.sig.returnType = (some .boolean)) (hlk : meth.locks = false) (j60_4 : Int32) (SJ60 : mS) (H : Heap) (locs : List Loc) (ls : Array Slot) (hj60 : stp S SJ60) (V : mV D cs o ad A SJ60 H) (hS : va_S A s.heap H locs) (hl : lv_has ls 6 [(0, .ref o), (1, .int t), (2, .int q), (3, .int b), (4, .int j60_4)]) : W p l e ({ frames := 4, cells := 0, slots := 0, locals := 92 } : Room) s m ([.ref o, .int t, .int q, .int b] : List Value).toArray below meth c H locs 0 0 (MQ below (va_Qi (fun r9 S9 => pas S S9 t r9) (mB D cs o ad A) A) ([.ref o, .int t, .int q, .int b] : List Value).toArray s 0 0 A) (F0 m 60 ls []) := by
  have hx := C.1
  have hb := C.2.1
  have hown := C.2.2.1
  have hts := C.2.2.2.1
  have w16 := hj60
  refine lv_iload_n hx hb dX13_atLock_60 rfl (lv_at hl 2 rfl) ?_
  refine lv_bipush (v := 8) hx hb dX13_atLock_61 (by decide) ?_
  refine lv_icmp_ne (tgt := 85) hx hb dX13_atLock_63 (by decide) (fun c17 => ?_) (fun c17 => ?_)
  · refine lv_iload hx hb dX13_atLock_85 (lv_at hl 4 rfl) ?_
    refine lv_if_ne (tgt := 96) hx hb dX13_atLock_87 (by decide) (fun c18 => ?_) (fun c18 => ?_)
    · exact j_atLock_96 l D cs o ad A S t q b h1 h2 h3 h4 C hml hr hlk j60_4 SJ60 _ _ _ (by clear V hS hl C hts hown hx hb hml hr hlk; first | exact Or.inl ⟨w16, Or.inr hj81.2⟩ | exact Or.inl ⟨w16, Or.inl c18⟩ | exact Or.inr ⟨pas_tr h1 hj60 (pas_w (fre_stp h1 hj60) h2 hj60.1 nope9), c18, c17⟩) V hS (lv_sub hl [0, 1, 2, 3, 4] rfl)
    · refine lv_aload_n hx hb dX13_atLock_90 rfl (lv_at hl 0 rfl) ?_
      refine lv_iload_n hx hb dX13_atLock_91 rfl (lv_at hl 1 rfl) ?_
      refine lv_iload_n hx hb dX13_atLock_92 rfl (lv_at hl 3 rfl) ?_
      refine mGoV (mRunV (As := [.int t, .int b]) (rest := []) C hml V (c_waitFor l D cs o ad A SJ60 t b  (h1.1) (h2) (roomW h2 h1.1 hj60.1 (fre_stp h1 hj60).2.2.2)) gM_waitFor okM_waitFor ⟨rfl, rfl, Nat.le_of_ble_eq_true rfl, Nat.le_of_ble_eq_true rfl⟩ hl.1 rfl (Nat.le_of_ble_eq_true rfl) dX13_atLock_93 ⟨Nat.zero_le _, Nat.zero_le _⟩) hS (fun S19 H locs hq21 V hS => ?_)
      have w22 := hj60
      exact j_atLock_96 l D cs o ad A S t q b h1 h2 h3 h4 C hml hr hlk j60_4 S19 _ _ _ (by clear V hS hl C hts hown hx hb hml hr hlk; first | exact Or.inl ⟨w22, Or.inr hj81.2⟩ | exact Or.inl ⟨w22, Or.inl c18⟩ | exact Or.inr ⟨pas_tr h1 hj60 (pas_w (fre_stp h1 hj60) h2 hj60.1 hq21), c18, c17⟩) V hS (lv_sub hl [0, 1, 2, 3, 4] rfl)
  · refine lv_aload_n hx hb dX13_atLock_66 rfl (lv_at hl 0 rfl) ?_
    refine mG14 C V dX13_atLock_67 ?_
    refine lv_iload_n hx hb dX13_atLock_70 rfl (lv_at hl 1 rfl) ?_
    refine lv_iload hx hb dX13_atLock_71 (lv_at hl 4 rfl) ?_
    refine lv_if_eq (tgt := 80) hx hb dX13_atLock_73 (by decide) (fun c23 => ?_) (fun c23 => ?_)
    · refine lv_iconst (v := 0) hx hb dX13_atLock_80 (by decide) ?_
      exact j_atLock_81 l D cs o ad A S t q b h1 h2 h3 h4 C hml hr hlk j60_4 0 SJ60 _ _ _ (⟨w16, c17⟩) V hS (lv_sub hl [0, 1, 2, 3, 4] rfl)
    · refine lv_iconst (v := 1) hx hb dX13_atLock_76 (by decide) ?_
      refine lv_goto (tgt := 81) hx hb dX13_atLock_77 (by decide) ?_
      exact j_atLock_81 l D cs o ad A S t q b h1 h2 h3 h4 C hml hr hlk j60_4 1 SJ60 _ _ _ (⟨w16, c17⟩) V hS (lv_sub hl [0, 1, 2, 3, 4] rfl)
set_option maxHeartbeats 200000 in
set_option maxRecDepth 100000 in
theorem j_atLock_36 {p : Program} {e : Env} {s : State} {m : MethodId} {below : List Frame} {meth : Method} {c : Code} (l : Launch) (D : va_G) (cs : ClassId × ClassId × ClassId) (o : Nat) (ad : Nat → Nat) (A : Nat → Prop) (S : mS) (t : Int32) (q : Int32) (b : Int32)  (h1 : fre S t) (h2 : 0 ≤ b ∧ b < 24) (h3 : mInv S) (h4 : gA S 28 b = 1) (C : mC p s m ([.ref o, .int t, .int q, .int b] : List Value).toArray c cX13_atLock D cs) (hml : c.maxLocals = 6) (hr : meth.sig.returnType = (some .boolean)) (hlk : meth.locks = false) (j36_s0 : Int32)  (H : Heap) (locs : List Loc) (ls : Array Slot) (hj36 : True) (V : mV D cs o ad A S H) (hS : va_S A s.heap H locs) (hl : lv_has ls 6 [(0, .ref o), (1, .int t), (2, .int q), (3, .int b)]) : W p l e ({ frames := 4, cells := 0, slots := 0, locals := 92 } : Room) s m ([.ref o, .int t, .int q, .int b] : List Value).toArray below meth c H locs 0 0 (MQ below (va_Qi (fun r9 S9 => pas S S9 t r9) (mB D cs o ad A) A) ([.ref o, .int t, .int q, .int b] : List Value).toArray s 0 0 A) (F0 m 36 ls [.int j36_s0]) := by
  have hx := C.1
  have hb := C.2.1
  have hown := C.2.2.1
  have hts := C.2.2.2.1
  have w24 := stp_rf h3
  refine lv_istore (lv' := [(4, .int j36_s0), (0, .ref o), (1, .int t), (2, .int q), (3, .int b)]) hx hb dX13_atLock_36 hl (by decide) rfl (fun ls hl => ?_)
  refine lv_iload hx hb dX13_atLock_38 (lv_at hl 0 rfl) ?_
  refine lv_if_eq (tgt := 60) hx hb dX13_atLock_40 (by decide) (fun c25 => ?_) (fun c25 => ?_)
  · exact j_atLock_60 l D cs o ad A S t q b h1 h2 h3 h4 C hml hr hlk j36_s0 S _ _ _ (w24) V hS (lv_sub hl [1, 2, 3, 4, 0] rfl)
  · refine lv_aload_n hx hb dX13_atLock_43 rfl (lv_at hl 1 rfl) ?_
    refine mG31 C V dX13_atLock_44 ?_
    refine lv_iload_n hx hb dX13_atLock_47 rfl (lv_at hl 4 rfl) ?_
    refine lv_iload_n hx hb dX13_atLock_48 rfl (lv_at hl 2 rfl) ?_
    refine mSt31 C V hS (vin (N := 24) rfl (h2.1) (h2.2)) dX13_atLock_49 (fun S26 H locs eS26 V hS => ?_)
    have w27 := st_owner w24 h2 eS26 (own8 h1.1)
    refine lv_aload_n hx hb dX13_atLock_50 rfl (lv_at hl 1 rfl) ?_
    refine mG29 C V dX13_atLock_51 ?_
    refine lv_iload_n hx hb dX13_atLock_54 rfl (lv_at hl 4 rfl) ?_
    refine lv_dup2_11 hx hb dX13_atLock_55 rfl rfl ?_
    refine mLd29 C V (vin (N := 24) rfl (h2.1) (h2.2)) dX13_atLock_56 ?_
    refine lv_iconst (v := 1) hx hb dX13_atLock_57 (by decide) ?_
    refine lv_iadd hx hb dX13_atLock_58 ?_
    refine mSt29 C V hS (vin (N := 24) rfl (h2.1) (h2.2)) dX13_atLock_59 (fun S28 H locs eS28 V hS => ?_)
    have w29 := st_first w27 (ne5 h4) h2 eS28
    exact j_atLock_60 l D cs o ad A S t q b h1 h2 h3 h4 C hml hr hlk j36_s0 S28 _ _ _ (w29) V hS (lv_sub hl [1, 2, 3, 4, 0] rfl)
set_option maxHeartbeats 200000 in
set_option maxRecDepth 100000 in
theorem j_atLock_31 {p : Program} {e : Env} {s : State} {m : MethodId} {below : List Frame} {meth : Method} {c : Code} (l : Launch) (D : va_G) (cs : ClassId × ClassId × ClassId) (o : Nat) (ad : Nat → Nat) (A : Nat → Prop) (S : mS) (t : Int32) (q : Int32) (b : Int32)  (h1 : fre S t) (h2 : 0 ≤ b ∧ b < 24) (h3 : mInv S) (h4 : gA S 28 b = 1) (C : mC p s m ([.ref o, .int t, .int q, .int b] : List Value).toArray c cX13_atLock D cs) (hml : c.maxLocals = 6) (hr : meth.sig.returnType = (some .boolean)) (hlk : meth.locks = false)   (H : Heap) (locs : List Loc) (ls : Array Slot) (hj31 : True) (V : mV D cs o ad A S H) (hS : va_S A s.heap H locs) (hl : lv_has ls 6 [(0, .ref o), (1, .int t), (2, .int q), (3, .int b)]) : W p l e ({ frames := 4, cells := 0, slots := 0, locals := 92 } : Room) s m ([.ref o, .int t, .int q, .int b] : List Value).toArray below meth c H locs 0 0 (MQ below (va_Qi (fun r9 S9 => pas S S9 t r9) (mB D cs o ad A) A) ([.ref o, .int t, .int q, .int b] : List Value).toArray s 0 0 A) (F0 m 31 ls []) := by
  have hx := C.1
  have hb := C.2.1
  have hown := C.2.2.1
  have hts := C.2.2.2.1
  have w30 := stp_rf h3
  refine lv_iconst (v := 1) hx hb dX13_atLock_31 (by decide) ?_
  refine lv_goto (tgt := 36) hx hb dX13_atLock_32 (by decide) ?_
  exact j_atLock_36 l D cs o ad A S t q b h1 h2 h3 h4 C hml hr hlk 1  _ _ _ (trivial) V hS (lv_sub hl [0, 1, 2, 3] rfl)
set_option maxHeartbeats 200000 in
set_option maxRecDepth 100000 in
theorem j_atLock_12 {p : Program} {e : Env} {s : State} {m : MethodId} {below : List Frame} {meth : Method} {c : Code} (l : Launch) (D : va_G) (cs : ClassId × ClassId × ClassId) (o : Nat) (ad : Nat → Nat) (A : Nat → Prop) (S : mS) (t : Int32) (q : Int32) (b : Int32)  (h1 : fre S t) (h2 : 0 ≤ b ∧ b < 24) (h3 : mInv S) (h4 : gA S 28 b = 1) (C : mC p s m ([.ref o, .int t, .int q, .int b] : List Value).toArray c cX13_atLock D cs) (hml : c.maxLocals = 6) (hr : meth.sig.returnType = (some .boolean)) (hlk : meth.locks = false)   (H : Heap) (locs : List Loc) (ls : Array Slot) (hj12 : True) (V : mV D cs o ad A S H) (hS : va_S A s.heap H locs) (hl : lv_has ls 6 [(0, .ref o), (1, .int t), (2, .int q), (3, .int b)]) : W p l e ({ frames := 4, cells := 0, slots := 0, locals := 92 } : Room) s m ([.ref o, .int t, .int q, .int b] : List Value).toArray below meth c H locs 0 0 (MQ below (va_Qi (fun r9 S9 => pas S S9 t r9) (mB D cs o ad A) A) ([.ref o, .int t, .int q, .int b] : List Value).toArray s 0 0 A) (F0 m 12 ls []) := by
  have hx := C.1
  have hb := C.2.1
  have hown := C.2.2.1
  have hts := C.2.2.2.1
  have w31 := stp_rf h3
  refine lv_aload_n hx hb dX13_atLock_12 rfl (lv_at hl 0 rfl) ?_
  refine mG31 C V dX13_atLock_13 ?_
  refine lv_iload_n hx hb dX13_atLock_16 rfl (lv_at hl 3 rfl) ?_
  refine mLd31 C V (vin (N := 24) rfl (h2.1) (h2.2)) dX13_atLock_17 ?_
  refine lv_if_lt (tgt := 31) hx hb dX13_atLock_18 (by decide) (fun c32 => ?_) (fun c32 => ?_)
  · exact j_atLock_31 l D cs o ad A S t q b h1 h2 h3 h4 C hml hr hlk   _ _ _ (trivial) V hS (lv_sub hl [0, 1, 2, 3] rfl)
  · refine lv_aload_n hx hb dX13_atLock_21 rfl (lv_at hl 0 rfl) ?_
    refine mG31 C V dX13_atLock_22 ?_
    refine lv_iload_n hx hb dX13_atLock_25 rfl (lv_at hl 3 rfl) ?_
    refine mLd31 C V (vin (N := 24) rfl (h2.1) (h2.2)) dX13_atLock_26 ?_
    refine lv_iload_n hx hb dX13_atLock_27 rfl (lv_at hl 1 rfl) ?_
    refine lv_icmp_ne (tgt := 35) hx hb dX13_atLock_28 (by decide) (fun c33 => ?_) (fun c33 => ?_)
    · refine lv_iconst (v := 0) hx hb dX13_atLock_35 (by decide) ?_
      exact j_atLock_36 l D cs o ad A S t q b h1 h2 h3 h4 C hml hr hlk 0  _ _ _ (trivial) V hS (lv_sub hl [0, 1, 2, 3] rfl)
    · exact j_atLock_31 l D cs o ad A S t q b h1 h2 h3 h4 C hml hr hlk   _ _ _ (trivial) V hS (lv_sub hl [0, 1, 2, 3] rfl)
set_option maxHeartbeats 200000 in
set_option maxRecDepth 100000 in
theorem c_atLock (l : Launch) (D : va_G) (cs : ClassId × ClassId × ClassId) (o : Nat) (ad : Nat → Nat) (A : Nat → Prop) (S : mS) (t : Int32) (q : Int32) (b : Int32)  (h1 : fre S t) (h2 : 0 ≤ b ∧ b < 24) (h3 : mInv S) (h4 : gA S 28 b = 1) : Met l yX13_atLock (Cond.code yX13_atLock cX13_atLock 6 (some .boolean) :: tM) ({ frames := 4, cells := 0, slots := 0, locals := 92 }) (va_Pc [.ref o, .int t, .int q, .int b] (mB D cs o ad A S)) (va_Qi (fun r9 S9 => pas S S9 t r9) (mB D cs o ad A) A) 0 0 A := by
  refine mMet (by decide) rfl (Nat.le_of_ble_eq_true rfl) ?_
  intro p e s m below meth c ls C hml hr hlk V hl
  have hx := C.1
  have hb := C.2.1
  have hown := C.2.2.1
  have hts := C.2.2.2.1
  have hS : va_S A s.heap s.heap [] := va_S.rf
  have hl : lv_has ls 6 [(0, .ref o), (1, .int t), (2, .int q), (3, .int b)] := hl
  have w0 : stp S S := stp_rf h3
  refine lv_iload_n hx hb dX13_atLock_0 rfl (lv_at hl 2 rfl) ?_
  refine lv_bipush (v := 7) hx hb dX13_atLock_1 (by decide) ?_
  refine lv_icmp_eq (tgt := 12) hx hb dX13_atLock_3 (by decide) (fun c34 => ?_) (fun c34 => ?_)
  · exact j_atLock_12 l D cs o ad A S t q b h1 h2 h3 h4 C hml hr hlk   _ _ _ (trivial) V hS (lv_sub hl [0, 1, 2, 3] rfl)
  · refine lv_iload_n hx hb dX13_atLock_6 rfl (lv_at hl 2 rfl) ?_
    refine lv_bipush (v := 8) hx hb dX13_atLock_7 (by decide) ?_
    refine lv_icmp_ne (tgt := 113) hx hb dX13_atLock_9 (by decide) (fun c35 => ?_) (fun c35 => ?_)
    · refine lv_aload_n hx hb dX13_atLock_113 rfl (lv_at hl 0 rfl) ?_
      refine mG31 C V dX13_atLock_114 ?_
      refine lv_iload_n hx hb dX13_atLock_117 rfl (lv_at hl 3 rfl) ?_
      refine mLd31 C V (vin (N := 24) rfl (h2.1) (h2.2)) dX13_atLock_118 ?_
      refine lv_iload_n hx hb dX13_atLock_119 rfl (lv_at hl 1 rfl) ?_
      refine lv_icmp_eq (tgt := 130) hx hb dX13_atLock_120 (by decide) (fun c36 => ?_) (fun c36 => ?_)
      · refine lv_iload_n hx hb dX13_atLock_130 rfl (lv_at hl 2 rfl) ?_
        refine lv_bipush (v := 9) hx hb dX13_atLock_131 (by decide) ?_
        refine lv_icmp_ne (tgt := 162) hx hb dX13_atLock_133 (by decide) (fun c37 => ?_) (fun c37 => ?_)
        · refine lv_iload_n hx hb dX13_atLock_162 rfl (lv_at hl 2 rfl) ?_
          refine lv_bipush (v := 10) hx hb dX13_atLock_163 (by decide) ?_
          refine lv_icmp_ne (tgt := 275) hx hb dX13_atLock_165 (by decide) (fun c38 => ?_) (fun c38 => ?_)
          · refine lv_iload_n hx hb dX13_atLock_275 rfl (lv_at hl 2 rfl) ?_
            refine lv_bipush (v := 12) hx hb dX13_atLock_276 (by decide) ?_
            refine lv_icmp_ne (tgt := 290) hx hb dX13_atLock_278 (by decide) (fun c39 => ?_) (fun c39 => ?_)
            · refine lv_aload_n hx hb dX13_atLock_290 rfl (lv_at hl 0 rfl) ?_
              refine mG35 C V dX13_atLock_291 ?_
              refine lv_iload_n hx hb dX13_atLock_294 rfl (lv_at hl 3 rfl) ?_
              refine mLd35 C V (vin (N := 24) rfl (h2.1) (h2.2)) dX13_atLock_295 ?_
              refine lv_if_le (tgt := 303) hx hb dX13_atLock_296 (by decide) (fun c40 => ?_) (fun c40 => ?_)
              · refine lv_iconst (v := 0) hx hb dX13_atLock_303 (by decide) ?_
                exact j_atLock_304 l D cs o ad A S t q b h1 h2 h3 h4 C hml hr hlk 0  _ _ _ (a_n0 (lk_35 w0 h2) (by clear V hS hl C hts hown hx hb hml hr hlk; first | exact Or.inl rfl | exact Or.inr (Or.inl ⟨rfl, c40⟩) | exact Or.inr (Or.inr rfl))) V hS (lv_sub hl [0, 1, 2, 3] rfl)
              · refine lv_iconst (v := 1) hx hb dX13_atLock_299 (by decide) ?_
                refine lv_goto (tgt := 304) hx hb dX13_atLock_300 (by decide) ?_
                exact j_atLock_304 l D cs o ad A S t q b h1 h2 h3 h4 C hml hr hlk 1  _ _ _ (a_n0 (lk_35 w0 h2) (by clear V hS hl C hts hown hx hb hml hr hlk; first | exact Or.inl rfl | exact Or.inr (Or.inl ⟨rfl, c40⟩) | exact Or.inr (Or.inr rfl))) V hS (lv_sub hl [0, 1, 2, 3] rfl)
            · refine lv_aload_n hx hb dX13_atLock_281 rfl (lv_at hl 0 rfl) ?_
              refine mG35 C V dX13_atLock_282 ?_
              refine lv_iload_n hx hb dX13_atLock_285 rfl (lv_at hl 3 rfl) ?_
              refine mLd35 C V (vin (N := 24) rfl (h2.1) (h2.2)) dX13_atLock_286 ?_
              refine lv_goto (tgt := 304) hx hb dX13_atLock_287 (by decide) ?_
              exact j_atLock_304 l D cs o ad A S t q b h1 h2 h3 h4 C hml hr hlk (gA S 35 b)  _ _ _ (a_n0 (lk_35 w0 h2) (by clear V hS hl C hts hown hx hb hml hr hlk; first | exact Or.inl rfl | exact Or.inr (Or.inl ⟨rfl, nope9⟩) | exact Or.inr (Or.inr rfl))) V hS (lv_sub hl [0, 1, 2, 3] rfl)
          · refine lv_aload_n hx hb dX13_atLock_168 rfl (lv_at hl 0 rfl) ?_
            refine mG20 C V dX13_atLock_169 ?_
            refine lv_iload_n hx hb dX13_atLock_172 rfl (lv_at hl 1 rfl) ?_
            refine mLd20 C V (vin (N := 8) rfl (h1.1.1) (h1.1.2)) dX13_atLock_173 ?_
            refine lv_if_eq (tgt := 194) hx hb dX13_atLock_174 (by decide) (fun c41 => ?_) (fun c41 => ?_)
            · refine lv_aload_n hx hb dX13_atLock_194 rfl (lv_at hl 0 rfl) ?_
              refine mG18 C V dX13_atLock_195 ?_
              refine lv_iload_n hx hb dX13_atLock_198 rfl (lv_at hl 1 rfl) ?_
              refine lv_aload_n hx hb dX13_atLock_199 rfl (lv_at hl 0 rfl) ?_
              refine mG29 C V dX13_atLock_200 ?_
              refine lv_iload_n hx hb dX13_atLock_203 rfl (lv_at hl 3 rfl) ?_
              refine mLd29 C V (vin (N := 24) rfl (h2.1) (h2.2)) dX13_atLock_204 ?_
              refine mSt18 C V hS (vin (N := 8) rfl (h1.1.1) (h1.1.2)) dX13_atLock_205 (fun S42 H locs eS42 V hS => ?_)
              have w43 := st_irr w0 eS42 (by simp [smK])
              refine lv_aload_n hx hb dX13_atLock_206 rfl (lv_at hl 0 rfl) ?_
              refine mG19 C V dX13_atLock_207 ?_
              refine lv_iload_n hx hb dX13_atLock_210 rfl (lv_at hl 1 rfl) ?_
              refine lv_iconst (v := 1) hx hb dX13_atLock_211 (by decide) ?_
              refine mSt19 C V hS (vin (N := 8) rfl (h1.1.1) (h1.1.2)) dX13_atLock_212 (fun S44 H locs eS44 V hS => ?_)
              have w45 := st_irr w43 eS44 (by simp [smK])
              refine lv_aload_n hx hb dX13_atLock_213 rfl (lv_at hl 0 rfl) ?_
              refine mG22 C V dX13_atLock_214 ?_
              refine lv_iload_n hx hb dX13_atLock_217 rfl (lv_at hl 1 rfl) ?_
              refine lv_iconst (v := 1) hx hb dX13_atLock_218 (by decide) ?_
              refine mSt22 C V hS (vin (N := 8) rfl (h1.1.1) (h1.1.2)) dX13_atLock_219 (fun S46 H locs eS46 V hS => ?_)
              have w47 := w0
              refine lv_aload_n hx hb dX13_atLock_220 rfl (lv_at hl 0 rfl) ?_
              refine mG13 C V dX13_atLock_221 ?_
              refine lv_iload_n hx hb dX13_atLock_224 rfl (lv_at hl 1 rfl) ?_
              refine lv_iconst (v := 2) hx hb dX13_atLock_225 (by decide) ?_
              refine mSt13 C V hS (vin (N := 8) rfl (h1.1.1) (h1.1.2)) dX13_atLock_226 (fun S48 H locs eS48 V hS => ?_)
              have w49 := w0
              refine lv_aload_n hx hb dX13_atLock_227 rfl (lv_at hl 0 rfl) ?_
              refine mG16 C V dX13_atLock_228 ?_
              refine lv_iload_n hx hb dX13_atLock_231 rfl (lv_at hl 1 rfl) ?_
              refine lv_iload_n hx hb dX13_atLock_232 rfl (lv_at hl 3 rfl) ?_
              refine mSt16 C V hS (vin (N := 8) rfl (h1.1.1) (h1.1.2)) dX13_atLock_233 (fun S50 H locs eS50 V hS => ?_)
              have w51 := w0
              refine lv_aload_n hx hb dX13_atLock_234 rfl (lv_at hl 0 rfl) ?_
              refine mG21 C V dX13_atLock_235 ?_
              refine lv_iload_n hx hb dX13_atLock_238 rfl (lv_at hl 1 rfl) ?_
              refine lv_iconst (v := 1) hx hb dX13_atLock_239 (by decide) ?_
              refine mSt21 C V hS (vin (N := 8) rfl (h1.1.1) (h1.1.2)) dX13_atLock_240 (fun S52 H locs eS52 V hS => ?_)
              have w53 := w0
              have g35 : gA S52 35 b = gA S 35 b := by rw [eS52, eS50, eS48, eS46, eS44, eS42]; simp [gA_sA]
              have r35 := roomW2 h2 h1.1 h3 h1.2.2.1
              refine lv_aload_n hx hb dX13_atLock_241 rfl (lv_at hl 0 rfl) ?_
              refine mG34 C V dX13_atLock_242 ?_
              refine lv_bipush (v := 8) hx hb dX13_atLock_245 (by decide) ?_
              refine lv_iload_n hx hb dX13_atLock_247 rfl (lv_at hl 3 rfl) ?_
              refine lv_imul hx hb dX13_atLock_248 ?_
              refine lv_aload_n hx hb dX13_atLock_249 rfl (lv_at hl 0 rfl) ?_
              refine mG35 C V dX13_atLock_250 ?_
              refine lv_iload_n hx hb dX13_atLock_253 rfl (lv_at hl 3 rfl) ?_
              refine mLd35 C V (vin (N := 24) rfl (h2.1) (h2.2)) dX13_atLock_254 ?_
              refine lv_iadd hx hb dX13_atLock_255 ?_
              refine lv_iload_n hx hb dX13_atLock_256 rfl (lv_at hl 1 rfl) ?_
              refine mSt34 C V hS (vin (N := 192) rfl (by clear V hS hl C hts hown hx hb hml hr hlk; rw [g35]; exact (a_ix h2.1 h2.2 r35.1 (by decide : (8 : Int32) ≤ 8) r35.2).1) (by clear V hS hl C hts hown hx hb hml hr hlk; rw [g35]; exact (a_ix h2.1 h2.2 r35.1 (by decide : (8 : Int32) ≤ 8) r35.2).2)) dX13_atLock_257 (fun S54 H locs eS54 V hS => ?_)
              have w55 := w0
              refine lv_aload_n hx hb dX13_atLock_258 rfl (lv_at hl 0 rfl) ?_
              refine mG35 C V dX13_atLock_259 ?_
              refine lv_iload_n hx hb dX13_atLock_262 rfl (lv_at hl 3 rfl) ?_
              refine lv_dup2_11 hx hb dX13_atLock_263 rfl rfl ?_
              refine mLd35 C V (vin (N := 24) rfl (h2.1) (h2.2)) dX13_atLock_264 ?_
              refine lv_iconst (v := 1) hx hb dX13_atLock_265 (by decide) ?_
              refine lv_iadd hx hb dX13_atLock_266 ?_
              refine mSt35 C V hS (vin (N := 24) rfl (h2.1) (h2.2)) dX13_atLock_267 (fun S56 H locs eS56 V hS => ?_)
              have w57 := w0
              have lk := lk_w h1 h2 h3 h4 eS42 eS44 eS46 eS48 eS50 eS52 eS54 eS56
              refine lv_aload_n hx hb dX13_atLock_268 rfl (lv_at hl 0 rfl) ?_
              refine lv_iload_n hx hb dX13_atLock_269 rfl (lv_at hl 3 rfl) ?_
              refine mGoV (mRunV (As := [.int b]) (rest := []) C hml V (c_freed l D cs o ad A S56 b  (h2) (lk.1) (lk.2.1)) gM_freed okM_freed ⟨rfl, rfl, Nat.le_of_ble_eq_true rfl, Nat.le_of_ble_eq_true rfl⟩ hl.1 rfl (Nat.le_of_ble_eq_true rfl) dX13_atLock_270 ⟨Nat.zero_le _, Nat.zero_le _⟩) hS (fun S58 H locs hq60 V hS => ?_)
              have w61 := w0
              refine lv_iconst (v := 0) hx hb dX13_atLock_273 (by decide) ?_
              exact mRetZ C hr hlk V hS (by clear V hS hl C hts hown hx hb hml hr hlk; first | rfl | (rw [nope9.1]; rfl)) (lk_p lk.2.2 hq60.1) dX13_atLock_274
            · refine lv_aload_n hx hb dX13_atLock_177 rfl (lv_at hl 0 rfl) ?_
              refine mG20 C V dX13_atLock_178 ?_
              refine lv_iload_n hx hb dX13_atLock_181 rfl (lv_at hl 1 rfl) ?_
              refine lv_iconst (v := 0) hx hb dX13_atLock_182 (by decide) ?_
              refine mSt20 C V hS (vin (N := 8) rfl (h1.1.1) (h1.1.2)) dX13_atLock_183 (fun S62 H locs eS62 V hS => ?_)
              have w63 := st_irr w0 eS62 (by simp [smK])
              refine lv_aload_n hx hb dX13_atLock_184 rfl (lv_at hl 0 rfl) ?_
              refine mG14 C V dX13_atLock_185 ?_
              refine lv_iload_n hx hb dX13_atLock_188 rfl (lv_at hl 1 rfl) ?_
              refine lv_bipush (v := (-2)) hx hb dX13_atLock_189 (by decide) ?_
              refine mSt14 C V hS (vin (N := 8) rfl (h1.1.1) (h1.1.2)) dX13_atLock_191 (fun S64 H locs eS64 V hS => ?_)
              have w65 := st_irr w63 eS64 (by simp [smK])
              refine lv_iconst (v := 1) hx hb dX13_atLock_192 (by decide) ?_
              exact mRetZ C hr hlk V hS (by clear V hS hl C hts hown hx hb hml hr hlk; first | rfl | (rw [nope9.1]; rfl)) (pas_1 h1 w65) dX13_atLock_193
        · refine lv_aload_n hx hb dX13_atLock_136 rfl (lv_at hl 0 rfl) ?_
          refine mG29 C V dX13_atLock_137 ?_
          refine lv_iload_n hx hb dX13_atLock_140 rfl (lv_at hl 3 rfl) ?_
          refine lv_dup2_11 hx hb dX13_atLock_141 rfl rfl ?_
          refine mLd29 C V (vin (N := 24) rfl (h2.1) (h2.2)) dX13_atLock_142 ?_
          refine lv_iconst (v := 1) hx hb dX13_atLock_143 (by decide) ?_
          refine lv_isub hx hb dX13_atLock_144 ?_
          refine mSt29 C V hS (vin (N := 24) rfl (h2.1) (h2.2)) dX13_atLock_145 (fun S66 H locs eS66 V hS => ?_)
          have w67 := st_first w0 (ne5 h4) h2 eS66
          refine lv_aload_n hx hb dX13_atLock_146 rfl (lv_at hl 0 rfl) ?_
          refine mG29 C V dX13_atLock_147 ?_
          refine lv_iload_n hx hb dX13_atLock_150 rfl (lv_at hl 3 rfl) ?_
          refine mLd29 C V (vin (N := 24) rfl (h2.1) (h2.2)) dX13_atLock_151 ?_
          refine lv_if_ne (tgt := 160) hx hb dX13_atLock_152 (by decide) (fun c68 => ?_) (fun c68 => ?_)
          · exact j_atLock_160 l D cs o ad A S t q b h1 h2 h3 h4 C hml hr hlk  S66 _ _ _ (w67) V hS (lv_sub hl [0, 1, 2, 3] rfl)
          · refine lv_aload_n hx hb dX13_atLock_155 rfl (lv_at hl 0 rfl) ?_
            refine lv_iload_n hx hb dX13_atLock_156 rfl (lv_at hl 3 rfl) ?_
            refine mGoV (mRunV (As := [.int b]) (rest := []) C hml V (c_freed l D cs o ad A S66 b  (h2) (w67.1) ((w67.2.2.1 28 b (by clear V hS hl C hts hown hx hb hml hr hlk; simp)).trans h4)) gM_freed okM_freed ⟨rfl, rfl, Nat.le_of_ble_eq_true rfl, Nat.le_of_ble_eq_true rfl⟩ hl.1 rfl (Nat.le_of_ble_eq_true rfl) dX13_atLock_157 ⟨Nat.zero_le _, Nat.zero_le _⟩) hS (fun S69 H locs hq71 V hS => ?_)
            have w72 := stp_tr w67 hq71.1
            exact j_atLock_160 l D cs o ad A S t q b h1 h2 h3 h4 C hml hr hlk  S69 _ _ _ (w72) V hS (lv_sub hl [0, 1, 2, 3] rfl)
      · refine lv_aload_n hx hb dX13_atLock_123 rfl (lv_at hl 0 rfl) ?_
        refine lv_iload_n hx hb dX13_atLock_124 rfl (lv_at hl 1 rfl) ?_
        refine lv_iconst (v := 1) hx hb dX13_atLock_125 (by decide) ?_
        refine mGoI (mRunV (As := [.int t, .int 1]) (rest := []) C hml V (c_fails l D cs o ad A S t 1  (h1.1)) gM_fails okM_fails ⟨rfl, rfl, Nat.le_of_ble_eq_true rfl, Nat.le_of_ble_eq_true rfl⟩ hl.1 rfl (Nat.le_of_ble_eq_true rfl) dX13_atLock_126 ⟨Nat.zero_le _, Nat.zero_le _⟩) hS (fun r74 S73 H locs hq75 V hS => ?_)
        exact mRetZ C hr hlk V hS (by clear V hS hl C hts hown hx hb hml hr hlk; first | rfl | (rw [hq75.1]; rfl)) (by clear V hS hl C hts hown hx hb hml hr hlk; obtain ⟨q1, q2⟩ := hq75; rw [q1]; exact pas_f h1 w0 q2) dX13_atLock_129
    · exact j_atLock_12 l D cs o ad A S t q b h1 h2 h3 h4 C hml hr hlk   _ _ _ (trivial) V hS (lv_sub hl [0, 1, 2, 3] rfl)
end
section
theorem i_le {x y : Int32} (h : ¬ x < y) : y ≤ x := by grind
theorem a_16 {x : Int32} (h : ¬ 16 < x) : x ≤ 22 := by grind
theorem a_19 {x : Int32} (h : ¬ 19 < x) : x ≤ 22 := by grind
theorem a_29 {x : Int32} (h : ¬ x < 29) : 26 < x := by grind
theorem a_23 {x : Int32} (h : ¬ x < 23) : 22 < x := by grind
theorem a_22 {x : Int32} (h : x < 23) : x ≤ 22 := by grind
theorem pas_n {S S9 : mS} {t r : Int32} (h : pas S S9 t r) (hr : ¬ r = 0) : pas S S9 t 1 := by
  obtain ⟨a1, a2, a3, a4⟩ := h
  rcases a4 with q | q
  · exact ⟨a1, a2, a3, Or.inl ⟨rfl, q.2⟩⟩
  · exact absurd q hr
theorem pas_irr {S S1 S2 : mS} {t r : Int32} {k : Nat} {i x : Int32} (h : pas S S1 t r) (e : S2 = sA S1 k i x) (hk : ¬ smK k) : pas S S2 t r := by
  obtain ⟨a1, a2, a3, a4⟩ := h
  have s := stp_sm (S9 := S2) a1 (fun j => by rw [e]; rfl) (fun j q hj => by rw [e, gA_sA, if_neg (fun z => hk (by rw [← z]; exact hj))])
  refine ⟨s.1, fun k => (s.2.1 k).trans (a2 k), fun k i hk => (s.2.2.1 k i hk).trans (a3 k i hk), ?_⟩
  rcases a4 with ⟨q1, q2, q3⟩ | q
  · left
    have c := s.2.2.2 t q2.1.1 q2.1.2 q2.2.2.2 q2.2.2.1
    exact ⟨q1, fre_stp q2 s, c.2.2.1.trans q3⟩
  · exact Or.inr q

set_option maxHeartbeats 200000 in
set_option maxRecDepth 100000 in
theorem j_with_287 {p : Program} {e : Env} {s : State} {m : MethodId} {below : List Frame} {meth : Method} {c : Code} (l : Launch) (D : va_G) (cs : ClassId × ClassId × ClassId) (o : Nat) (ad : Nat → Nat) (A : Nat → Prop) (S : mS) (t : Int32) (q : Int32) (b : Int32)  (h1 : fre S t) (h3 : mInv S) (C : mC p s m ([.ref o, .int t, .int q, .int b] : List Value).toArray c cX13_with D cs) (hml : c.maxLocals = 6) (hr : meth.sig.returnType = (some .boolean)) (hlk : meth.locks = false) (j287_s0 : Int32)  (H : Heap) (locs : List Loc) (ls : Array Slot) (hj287 : (0 ≤ b ∧ b < 24) ∧ gA S 28 b ≠ 5) (V : mV D cs o ad A S H) (hS : va_S A s.heap H locs) (hl : lv_has ls 6 [(0, .ref o), (1, .int t), (2, .int q), (3, .int b)]) : W p l e ({ frames := 5, cells := 0, slots := 0, locals := 117 } : Room) s m ([.ref o, .int t, .int q, .int b] : List Value).toArray below meth c H locs 0 0 (MQ below (va_Qi (fun r9 S9 => pas S S9 t r9) (mB D cs o ad A) A) ([.ref o, .int t, .int q, .int b] : List Value).toArray s 0 0 A) (F0 m 287 ls [.int j287_s0]) := by
  have hx := C.1
  have hb := C.2.1
  have hown := C.2.2.1
  have hts := C.2.2.2.1
  obtain ⟨h2, h5⟩ := id hj287
  have w1 := stp_rf h3
  refine lv_istore (lv' := [(4, .int j287_s0), (0, .ref o), (1, .int t), (2, .int q), (3, .int b)]) hx hb dX13_with_287 hl (by decide) rfl (fun ls hl => ?_)
  refine lv_iload hx hb dX13_with_289 (lv_at hl 0 rfl) ?_
  refine lv_if_eq (tgt := 341) hx hb dX13_with_291 (by decide) (fun c2 => ?_) (fun c2 => ?_)
  · refine lv_aload_n hx hb dX13_with_341 rfl (lv_at hl 1 rfl) ?_
    refine mG14 C V dX13_with_342 ?_
    refine lv_iload_n hx hb dX13_with_345 rfl (lv_at hl 2 rfl) ?_
    refine lv_iload hx hb dX13_with_346 (lv_at hl 0 rfl) ?_
    refine lv_if_eq (tgt := 355) hx hb dX13_with_348 (by decide) (fun c3 => ?_) (fun c3 => ?_)
    · refine lv_iconst (v := 0) hx hb dX13_with_355 (by decide) ?_
      refine mSt14 C V hS (vin (N := 8) rfl (h1.1.1) (h1.1.2)) dX13_with_356 (fun S4 H locs eS4 V hS => ?_)
      have w5 := st_irr w1 eS4 (by simp [smK])
      refine lv_iconst (v := 1) hx hb dX13_with_357 (by decide) ?_
      exact mRetZ C hr hlk V hS (by clear V hS hl C hts hown hx hb hml hr hlk; first | rfl | exact pz nope9 | exact pz nope9 | exact pz nope9 | exact pz nope9 | exact pz nope9 | exact pz nope9 | exact pz nope9 | (rw [nope9.1]; rfl)) (pas_1 h1 w5) dX13_with_358
    · refine lv_iconst (v := 1) hx hb dX13_with_351 (by decide) ?_
      refine lv_goto (tgt := 356) hx hb dX13_with_352 (by decide) ?_
      refine mSt14 C V hS (vin (N := 8) rfl (h1.1.1) (h1.1.2)) dX13_with_356 (fun S6 H locs eS6 V hS => ?_)
      have w7 := st_irr w1 eS6 (by simp [smK])
      refine lv_iconst (v := 1) hx hb dX13_with_357 (by decide) ?_
      exact mRetZ C hr hlk V hS (by clear V hS hl C hts hown hx hb hml hr hlk; first | rfl | exact pz nope9 | exact pz nope9 | exact pz nope9 | exact pz nope9 | exact pz nope9 | exact pz nope9 | exact pz nope9 | (rw [nope9.1]; rfl)) (pas_1 h1 w7) dX13_with_358
  · refine lv_aload_n hx hb dX13_with_294 rfl (lv_at hl 1 rfl) ?_
    refine mG30 C V dX13_with_295 ?_
    refine lv_iload_n hx hb dX13_with_298 rfl (lv_at hl 4 rfl) ?_
    refine lv_iconst (v := 1) hx hb dX13_with_299 (by decide) ?_
    refine mSt30 C V hS (vin (N := 24) rfl (h2.1) (h2.2)) dX13_with_300 (fun S8 H locs eS8 V hS => ?_)
    have w9 := st_irr w1 eS8 (by simp [smK])
    refine lv_aload_n hx hb dX13_with_301 rfl (lv_at hl 1 rfl) ?_
    refine mG29 C V dX13_with_302 ?_
    refine lv_iload_n hx hb dX13_with_305 rfl (lv_at hl 4 rfl) ?_
    refine lv_aload_n hx hb dX13_with_306 rfl (lv_at hl 1 rfl) ?_
    refine mG14 C V dX13_with_307 ?_
    refine lv_iload_n hx hb dX13_with_310 rfl (lv_at hl 2 rfl) ?_
    refine mLd14 C V (vin (N := 8) rfl (h1.1.1) (h1.1.2)) dX13_with_311 ?_
    refine mSt29 C V hS (vin (N := 24) rfl (h2.1) (h2.2)) dX13_with_312 (fun S10 H locs eS10 V hS => ?_)
    have w11 := st_first w9 h5 h2 eS10
    have loop313 : ∀ (N313 : Nat)  (SL313 : mS) (H : Heap) (locs : List Loc) (ls : Array Slot), (stp S SL313) → ((gA SL313 33 b).toInt.toNat) < N313 → mV D cs o ad A SL313 H → va_S A s.heap H locs → lv_has ls 6 [(0, .ref o), (1, .int t), (2, .int q), (3, .int b), (4, .int j287_s0)] → W p l e ({ frames := 5, cells := 0, slots := 0, locals := 117 } : Room) s m ([.ref o, .int t, .int q, .int b] : List Value).toArray below meth c H locs 0 0 (MQ below (va_Qi (fun r9 S9 => pas S S9 t r9) (mB D cs o ad A) A) ([.ref o, .int t, .int q, .int b] : List Value).toArray s 0 0 A) (F0 m 313 ls []) := by
      intro N313
      induction N313 with
      | zero => intro  SL313 H locs ls hi313 hm313; exact absurd hm313 (Nat.not_lt_zero _)
      | succ N313 ih313 =>
        intro  SL313 H locs ls hi313 hm313 V hS hl
        have w12 := hi313
        refine lv_aload_n hx hb dX13_with_313 rfl (lv_at hl 0 rfl) ?_
        refine mG33 C V dX13_with_314 ?_
        refine lv_iload_n hx hb dX13_with_317 rfl (lv_at hl 3 rfl) ?_
        refine mLd33 C V (vin (N := 24) rfl (h2.1) (h2.2)) dX13_with_318 ?_
        refine lv_if_le (tgt := 341) hx hb dX13_with_319 (by decide) (fun c13 => ?_) (fun c13 => ?_)
        · refine lv_aload_n hx hb dX13_with_341 rfl (lv_at hl 0 rfl) ?_
          refine mG14 C V dX13_with_342 ?_
          refine lv_iload_n hx hb dX13_with_345 rfl (lv_at hl 1 rfl) ?_
          refine lv_iload hx hb dX13_with_346 (lv_at hl 4 rfl) ?_
          refine lv_if_eq (tgt := 355) hx hb dX13_with_348 (by decide) (fun c14 => ?_) (fun c14 => ?_)
          · refine lv_iconst (v := 0) hx hb dX13_with_355 (by decide) ?_
            refine mSt14 C V hS (vin (N := 8) rfl (h1.1.1) (h1.1.2)) dX13_with_356 (fun S15 H locs eS15 V hS => ?_)
            have w16 := st_irr w12 eS15 (by simp [smK])
            refine lv_iconst (v := 1) hx hb dX13_with_357 (by decide) ?_
            exact mRetZ C hr hlk V hS (by clear V hS hl C hts hown hx hb hml hr hlk ih313 hm313; first | rfl | exact pz nope9 | exact pz nope9 | exact pz nope9 | exact pz nope9 | exact pz nope9 | exact pz nope9 | exact pz nope9 | (rw [nope9.1]; rfl)) (pas_1 h1 w16) dX13_with_358
          · refine lv_iconst (v := 1) hx hb dX13_with_351 (by decide) ?_
            refine lv_goto (tgt := 356) hx hb dX13_with_352 (by decide) ?_
            refine mSt14 C V hS (vin (N := 8) rfl (h1.1.1) (h1.1.2)) dX13_with_356 (fun S17 H locs eS17 V hS => ?_)
            have w18 := st_irr w12 eS17 (by simp [smK])
            refine lv_iconst (v := 1) hx hb dX13_with_357 (by decide) ?_
            exact mRetZ C hr hlk V hS (by clear V hS hl C hts hown hx hb hml hr hlk ih313 hm313; first | rfl | exact pz nope9 | exact pz nope9 | exact pz nope9 | exact pz nope9 | exact pz nope9 | exact pz nope9 | exact pz nope9 | (rw [nope9.1]; rfl)) (pas_1 h1 w18) dX13_with_358
        · refine lv_aload_n hx hb dX13_with_322 rfl (lv_at hl 0 rfl) ?_
          refine mG14 C V dX13_with_323 ?_
          refine lv_aload_n hx hb dX13_with_326 rfl (lv_at hl 0 rfl) ?_
          refine lv_iload_n hx hb dX13_with_327 rfl (lv_at hl 3 rfl) ?_
          refine mGoI (mRunV (As := [.int b]) (rest := [.ref (ad 14)]) C hml V (c_firstGoesOn l D cs o ad A SL313 b  (h2) (w12.1) (i_gt c13)) gM_firstGoesOn okM_firstGoesOn ⟨rfl, rfl, Nat.le_of_ble_eq_true rfl, Nat.le_of_ble_eq_true rfl⟩ hl.1 rfl (Nat.le_of_ble_eq_true rfl) dX13_with_328 ⟨Nat.zero_le _, Nat.zero_le _⟩) hS (fun r20 S19 H locs hq21 V hS => ?_)
          have w22 := stp_tr w12 hq21.1
          refine lv_aload_n hx hb dX13_with_331 rfl (lv_at hl 0 rfl) ?_
          refine mG29 C V dX13_with_332 ?_
          refine lv_iload_n hx hb dX13_with_335 rfl (lv_at hl 3 rfl) ?_
          refine mLd29 C V (vin (N := 24) rfl (h2.1) (h2.2)) dX13_with_336 ?_
          refine mSt14 C V hS (vin (N := 8) rfl (hq21.2.2.1.1) (hq21.2.2.1.2)) dX13_with_337 (fun S23 H locs eS23 V hS => ?_)
          have w24 := st_irr w22 eS23 (by simp [smK])
          refine lv_goto (tgt := 313) hx hb dX13_with_338 (by decide) ?_
          exact ih313  S23 _ _ _ (w24) (show _ < _ from by rw [eS23]; simp only [gA_sA, if_neg (show ¬ (33 = 14) by decide)]; exact msd hm313 hq21.2.2.2.1.1 hq21.2.2.2.1.2) V hS (lv_sub hl [0, 1, 2, 3, 4] rfl)
    exact loop313 _  S10 _ _ _ (w11) (Nat.lt_succ_self _) V hS (lv_sub hl [1, 2, 3, 4, 0] rfl)
set_option maxHeartbeats 200000 in
set_option maxRecDepth 100000 in
theorem j_with_104 {p : Program} {e : Env} {s : State} {m : MethodId} {below : List Frame} {meth : Method} {c : Code} (l : Launch) (D : va_G) (cs : ClassId × ClassId × ClassId) (o : Nat) (ad : Nat → Nat) (A : Nat → Prop) (S : mS) (t : Int32) (q : Int32) (b : Int32)  (h1 : fre S t) (h3 : mInv S) (C : mC p s m ([.ref o, .int t, .int q, .int b] : List Value).toArray c cX13_with D cs) (hml : c.maxLocals = 6) (hr : meth.sig.returnType = (some .boolean)) (hlk : meth.locks = false)   (H : Heap) (locs : List Loc) (ls : Array Slot) (hj104 : (0 ≤ b ∧ b < 24) ∧ gA S 28 b ≠ 5) (V : mV D cs o ad A S H) (hS : va_S A s.heap H locs) (hl : lv_has ls 6 [(0, .ref o), (1, .int t), (2, .int q), (3, .int b)]) : W p l e ({ frames := 5, cells := 0, slots := 0, locals := 117 } : Room) s m ([.ref o, .int t, .int q, .int b] : List Value).toArray below meth c H locs 0 0 (MQ below (va_Qi (fun r9 S9 => pas S S9 t r9) (mB D cs o ad A) A) ([.ref o, .int t, .int q, .int b] : List Value).toArray s 0 0 A) (F0 m 104 ls []) := by
  have hx := C.1
  have hb := C.2.1
  have hown := C.2.2.1
  have hts := C.2.2.2.1
  obtain ⟨h2, h5⟩ := id hj104
  have w25 := stp_rf h3
  refine lv_iload_n hx hb dX13_with_104 rfl (lv_at hl 2 rfl) ?_
  refine lv_bipush (v := 20) hx hb dX13_with_105 (by decide) ?_
  refine lv_icmp_ne (tgt := 158) hx hb dX13_with_107 (by decide) (fun c26 => ?_) (fun c26 => ?_)
  · refine lv_iload_n hx hb dX13_with_158 rfl (lv_at hl 2 rfl) ?_
    refine lv_bipush (v := 21) hx hb dX13_with_159 (by decide) ?_
    refine lv_icmp_ne (tgt := 188) hx hb dX13_with_161 (by decide) (fun c27 => ?_) (fun c27 => ?_)
    · refine lv_iload_n hx hb dX13_with_188 rfl (lv_at hl 2 rfl) ?_
      refine lv_bipush (v := 22) hx hb dX13_with_189 (by decide) ?_
      refine lv_icmp_ne (tgt := 267) hx hb dX13_with_191 (by decide) (fun c28 => ?_) (fun c28 => ?_)
      · refine lv_iload_n hx hb dX13_with_267 rfl (lv_at hl 2 rfl) ?_
        refine lv_bipush (v := 27) hx hb dX13_with_268 (by decide) ?_
        refine lv_icmp_ne (tgt := 359) hx hb dX13_with_270 (by decide) (fun c29 => ?_) (fun c29 => ?_)
        · refine lv_aload_n hx hb dX13_with_359 rfl (lv_at hl 0 rfl) ?_
          refine mG30 C V dX13_with_360 ?_
          refine lv_iload_n hx hb dX13_with_363 rfl (lv_at hl 3 rfl) ?_
          refine mLd30 C V (vin (N := 24) rfl (h2.1) (h2.2)) dX13_with_364 ?_
          refine lv_if_ne (tgt := 375) hx hb dX13_with_365 (by decide) (fun c30 => ?_) (fun c30 => ?_)
          · refine lv_aload_n hx hb dX13_with_375 rfl (lv_at hl 0 rfl) ?_
            refine mG14 C V dX13_with_376 ?_
            refine lv_iload_n hx hb dX13_with_379 rfl (lv_at hl 1 rfl) ?_
            refine lv_aload_n hx hb dX13_with_380 rfl (lv_at hl 0 rfl) ?_
            refine mG29 C V dX13_with_381 ?_
            refine lv_iload_n hx hb dX13_with_384 rfl (lv_at hl 3 rfl) ?_
            refine mLd29 C V (vin (N := 24) rfl (h2.1) (h2.2)) dX13_with_385 ?_
            refine mSt14 C V hS (vin (N := 8) rfl (h1.1.1) (h1.1.2)) dX13_with_386 (fun S31 H locs eS31 V hS => ?_)
            have w32 := st_irr w25 eS31 (by simp [smK])
            refine lv_iconst (v := 1) hx hb dX13_with_387 (by decide) ?_
            exact mRetZ C hr hlk V hS (by clear V hS hl C hts hown hx hb hml hr hlk; first | rfl | exact pz nope9 | exact pz nope9 | exact pz nope9 | exact pz nope9 | exact pz nope9 | exact pz nope9 | exact pz nope9 | (rw [nope9.1]; rfl)) (pas_1 h1 w32) dX13_with_388
          · refine lv_aload_n hx hb dX13_with_368 rfl (lv_at hl 0 rfl) ?_
            refine lv_iload_n hx hb dX13_with_369 rfl (lv_at hl 1 rfl) ?_
            refine lv_iload_n hx hb dX13_with_370 rfl (lv_at hl 3 rfl) ?_
            refine mGoI (mRunV (As := [.int t, .int b]) (rest := []) C hml V (c_passes l D cs o ad A S t b  (fre_stp h1 w25) (h2) (w25.1)) gM_passes okM_passes ⟨rfl, rfl, Nat.le_of_ble_eq_true rfl, Nat.le_of_ble_eq_true rfl⟩ hl.1 rfl (Nat.le_of_ble_eq_true rfl) dX13_with_371 ⟨Nat.zero_le _, Nat.zero_le _⟩) hS (fun r34 S33 H locs hq35 V hS => ?_)
            exact mRetZ C hr hlk V hS (by clear V hS hl C hts hown hx hb hml hr hlk; first | rfl | exact pz nope9 | exact pz nope9 | exact pz nope9 | exact pz nope9 | exact pz nope9 | exact pz nope9 | exact pz hq35 | (rw [nope9.1]; rfl)) (hq35) dX13_with_374
        · refine lv_aload_n hx hb dX13_with_273 rfl (lv_at hl 0 rfl) ?_
          refine mG30 C V dX13_with_274 ?_
          refine lv_iload_n hx hb dX13_with_277 rfl (lv_at hl 3 rfl) ?_
          refine mLd30 C V (vin (N := 24) rfl (h2.1) (h2.2)) dX13_with_278 ?_
          refine lv_if_ne (tgt := 286) hx hb dX13_with_279 (by decide) (fun c36 => ?_) (fun c36 => ?_)
          · refine lv_iconst (v := 0) hx hb dX13_with_286 (by decide) ?_
            exact j_with_287 l D cs o ad A S t q b h1 h3 C hml hr hlk 0  _ _ _ (hj104) V hS (lv_sub hl [0, 1, 2, 3] rfl)
          · refine lv_iconst (v := 1) hx hb dX13_with_282 (by decide) ?_
            refine lv_goto (tgt := 287) hx hb dX13_with_283 (by decide) ?_
            exact j_with_287 l D cs o ad A S t q b h1 h3 C hml hr hlk 1  _ _ _ (hj104) V hS (lv_sub hl [0, 1, 2, 3] rfl)
      · refine lv_aload_n hx hb dX13_with_194 rfl (lv_at hl 0 rfl) ?_
        refine mG29 C V dX13_with_195 ?_
        refine lv_iload_n hx hb dX13_with_198 rfl (lv_at hl 3 rfl) ?_
        refine mLd29 C V (vin (N := 24) rfl (h2.1) (h2.2)) dX13_with_199 ?_
        refine lv_aload_n hx hb dX13_with_200 rfl (lv_at hl 0 rfl) ?_
        refine mG33 C V dX13_with_201 ?_
        refine lv_iload_n hx hb dX13_with_204 rfl (lv_at hl 3 rfl) ?_
        refine mLd33 C V (vin (N := 24) rfl (h2.1) (h2.2)) dX13_with_205 ?_
        refine lv_isub hx hb dX13_with_206 ?_
        refine lv_iconst (v := 1) hx hb dX13_with_207 (by decide) ?_
        refine lv_isub hx hb dX13_with_208 ?_
        refine lv_topi (fun x37 ex37 => ?_)
        refine lv_istore (lv' := [(4, .int x37), (0, .ref o), (1, .int t), (2, .int q), (3, .int b)]) hx hb dX13_with_209 hl (by decide) rfl (fun ls hl => ?_)
        refine lv_iload hx hb dX13_with_211 (lv_at hl 0 rfl) ?_
        refine lv_if_le (tgt := 240) hx hb dX13_with_213 (by decide) (fun c38 => ?_) (fun c38 => ?_)
        · refine lv_aload_n hx hb dX13_with_240 rfl (lv_at hl 1 rfl) ?_
          refine mG14 C V dX13_with_241 ?_
          refine lv_iload_n hx hb dX13_with_244 rfl (lv_at hl 2 rfl) ?_
          refine lv_iconst (v := 0) hx hb dX13_with_245 (by decide) ?_
          refine mSt14 C V hS (vin (N := 8) rfl (h1.1.1) (h1.1.2)) dX13_with_246 (fun S39 H locs eS39 V hS => ?_)
          have w40 := st_irr w25 eS39 (by simp [smK])
          have loop247 : ∀ (N247 : Nat)  (SL247 : mS) (H : Heap) (locs : List Loc) (ls : Array Slot), (stp S SL247) → ((gA SL247 33 b).toInt.toNat) < N247 → mV D cs o ad A SL247 H → va_S A s.heap H locs → lv_has ls 6 [(0, .ref o), (1, .int t), (2, .int q), (3, .int b)] → W p l e ({ frames := 5, cells := 0, slots := 0, locals := 117 } : Room) s m ([.ref o, .int t, .int q, .int b] : List Value).toArray below meth c H locs 0 0 (MQ below (va_Qi (fun r9 S9 => pas S S9 t r9) (mB D cs o ad A) A) ([.ref o, .int t, .int q, .int b] : List Value).toArray s 0 0 A) (F0 m 247 ls []) := by
            intro N247
            induction N247 with
            | zero => intro  SL247 H locs ls hi247 hm247; exact absurd hm247 (Nat.not_lt_zero _)
            | succ N247 ih247 =>
              intro  SL247 H locs ls hi247 hm247 V hS hl
              have w41 := hi247
              refine lv_aload_n hx hb dX13_with_247 rfl (lv_at hl 0 rfl) ?_
              refine mG33 C V dX13_with_248 ?_
              refine lv_iload_n hx hb dX13_with_251 rfl (lv_at hl 3 rfl) ?_
              refine mLd33 C V (vin (N := 24) rfl (h2.1) (h2.2)) dX13_with_252 ?_
              refine lv_if_le (tgt := 265) hx hb dX13_with_253 (by decide) (fun c42 => ?_) (fun c42 => ?_)
              · refine lv_iconst (v := 1) hx hb dX13_with_265 (by decide) ?_
                exact mRetZ C hr hlk V hS (by clear V hS hl C hts hown hx hb hml hr hlk ih247 hm247; first | rfl | exact pz nope9 | exact pz nope9 | exact pz nope9 | exact pz nope9 | exact pz nope9 | exact pz nope9 | exact pz nope9 | (rw [nope9.1]; rfl)) (pas_1 h1 w41) dX13_with_266
              · refine lv_aload_n hx hb dX13_with_256 rfl (lv_at hl 0 rfl) ?_
                refine lv_iload_n hx hb dX13_with_257 rfl (lv_at hl 3 rfl) ?_
                refine mGoI (mRunV (As := [.int b]) (rest := []) C hml V (c_firstGoesOn l D cs o ad A SL247 b  (h2) (w41.1) (i_gt c42)) gM_firstGoesOn okM_firstGoesOn ⟨rfl, rfl, Nat.le_of_ble_eq_true rfl, Nat.le_of_ble_eq_true rfl⟩ hl.1 rfl (Nat.le_of_ble_eq_true rfl) dX13_with_258 ⟨Nat.zero_le _, Nat.zero_le _⟩) hS (fun r44 S43 H locs hq45 V hS => ?_)
                have w46 := stp_tr w41 hq45.1
                refine lv_pop hx hb dX13_with_261 rfl ?_
                refine lv_goto (tgt := 247) hx hb dX13_with_262 (by decide) ?_
                exact ih247  S43 _ _ _ (w46) (msd hm247 hq45.2.2.2.1.1 hq45.2.2.2.1.2) V hS (lv_sub hl [0, 1, 2, 3] rfl)
          exact loop247 _  S39 _ _ _ (w40) (Nat.lt_succ_self _) V hS (lv_sub hl [1, 2, 3, 4] rfl)
        · refine lv_aload_n hx hb dX13_with_216 rfl (lv_at hl 1 rfl) ?_
          refine lv_iload_n hx hb dX13_with_217 rfl (lv_at hl 2 rfl) ?_
          refine lv_iload_n hx hb dX13_with_218 rfl (lv_at hl 4 rfl) ?_
          refine mGoI (mRunV (As := [.int t, .int b]) (rest := []) C hml V (c_passes l D cs o ad A S t b  (fre_stp h1 w25) (h2) (w25.1)) gM_passes okM_passes ⟨rfl, rfl, Nat.le_of_ble_eq_true rfl, Nat.le_of_ble_eq_true rfl⟩ hl.1 rfl (Nat.le_of_ble_eq_true rfl) dX13_with_219 ⟨Nat.zero_le _, Nat.zero_le _⟩) hS (fun r48 S47 H locs hq49 V hS => ?_)
          refine lv_istore (lv' := [(5, .int r48), (4, .int x37), (0, .ref o), (1, .int t), (2, .int q), (3, .int b)]) hx hb dX13_with_222 hl (by decide) rfl (fun ls hl => ?_)
          refine lv_iload hx hb dX13_with_224 (lv_at hl 0 rfl) ?_
          refine lv_if_ne (tgt := 237) hx hb dX13_with_226 (by decide) (fun c50 => ?_) (fun c50 => ?_)
          · refine lv_iload hx hb dX13_with_237 (lv_at hl 0 rfl) ?_
            exact mRetZ C hr hlk V hS (by clear V hS hl C hts hown hx hb hml hr hlk; first | rfl | exact pz nope9 | exact pz nope9 | exact pz nope9 | exact pz nope9 | exact pz nope9 | exact pz hq49 | exact pz nope9 | (rw [nope9.1]; rfl)) (by clear V hS hl C hts hown hx hb hml hr hlk; first | exact pas_irr hq49 nope9 (by simp [smK]) | exact hq49) dX13_with_239
          · refine lv_aload_n hx hb dX13_with_229 rfl (lv_at hl 2 rfl) ?_
            refine mG14 C V dX13_with_230 ?_
            refine lv_iload_n hx hb dX13_with_233 rfl (lv_at hl 3 rfl) ?_
            refine lv_iload hx hb dX13_with_234 (lv_at hl 1 rfl) ?_
            refine mSt14 C V hS (vin (N := 8) rfl (h1.1.1) (h1.1.2)) dX13_with_236 (fun S51 H locs eS51 V hS => ?_)
            refine lv_iload hx hb dX13_with_237 (lv_at hl 0 rfl) ?_
            exact mRetZ C hr hlk V hS (by clear V hS hl C hts hown hx hb hml hr hlk; first | rfl | exact pz nope9 | exact pz nope9 | exact pz nope9 | exact pz nope9 | exact pz nope9 | exact pz hq49 | exact pz nope9 | (rw [nope9.1]; rfl)) (by clear V hS hl C hts hown hx hb hml hr hlk; first | exact pas_irr hq49 eS51 (by simp [smK]) | exact hq49) dX13_with_239
    · refine lv_aload_n hx hb dX13_with_164 rfl (lv_at hl 0 rfl) ?_
      refine mG29 C V dX13_with_165 ?_
      refine lv_iload_n hx hb dX13_with_168 rfl (lv_at hl 3 rfl) ?_
      refine mLd29 C V (vin (N := 24) rfl (h2.1) (h2.2)) dX13_with_169 ?_
      refine lv_if_eq (tgt := 182) hx hb dX13_with_170 (by decide) (fun c52 => ?_) (fun c52 => ?_)
      · refine lv_iconst (v := 1) hx hb dX13_with_182 (by decide) ?_
        refine lv_goto (tgt := 187) hx hb dX13_with_183 (by decide) ?_
        exact mRetZ C hr hlk V hS (by clear V hS hl C hts hown hx hb hml hr hlk; first | rfl | exact pz nope9 | exact pz nope9 | exact pz nope9 | exact pz nope9 | exact pz nope9 | exact pz nope9 | exact pz nope9 | (rw [nope9.1]; rfl)) (by clear V hS hl C hts hown hx hb hml hr hlk; first | exact pas_1 h1 (stp_rf h3) | exact pas_n nope9 nope9 | (have z9 := nope9; rw [nope9] at z9; exact z9)) dX13_with_187
      · refine lv_aload_n hx hb dX13_with_173 rfl (lv_at hl 0 rfl) ?_
        refine lv_iload_n hx hb dX13_with_174 rfl (lv_at hl 1 rfl) ?_
        refine lv_iload_n hx hb dX13_with_175 rfl (lv_at hl 3 rfl) ?_
        refine mGoI (mRunV (As := [.int t, .int b]) (rest := []) C hml V (c_passes l D cs o ad A S t b  (fre_stp h1 w25) (h2) (w25.1)) gM_passes okM_passes ⟨rfl, rfl, Nat.le_of_ble_eq_true rfl, Nat.le_of_ble_eq_true rfl⟩ hl.1 rfl (Nat.le_of_ble_eq_true rfl) dX13_with_176 ⟨Nat.zero_le _, Nat.zero_le _⟩) hS (fun r54 S53 H locs hq55 V hS => ?_)
        refine lv_if_eq (tgt := 186) hx hb dX13_with_179 (by decide) (fun c56 => ?_) (fun c56 => ?_)
        · refine lv_iconst (v := 0) hx hb dX13_with_186 (by decide) ?_
          exact mRetZ C hr hlk V hS (by clear V hS hl C hts hown hx hb hml hr hlk; first | rfl | exact pz nope9 | exact pz nope9 | exact pz nope9 | exact pz nope9 | exact pz nope9 | exact pz nope9 | exact pz nope9 | (rw [nope9.1]; rfl)) (by clear V hS hl C hts hown hx hb hml hr hlk; first | exact pas_1 h1 (stp_rf h3) | exact pas_n hq55 c56 | (have z9 := hq55; rw [c56] at z9; exact z9)) dX13_with_187
        · refine lv_iconst (v := 1) hx hb dX13_with_182 (by decide) ?_
          refine lv_goto (tgt := 187) hx hb dX13_with_183 (by decide) ?_
          exact mRetZ C hr hlk V hS (by clear V hS hl C hts hown hx hb hml hr hlk; first | rfl | exact pz nope9 | exact pz nope9 | exact pz nope9 | exact pz nope9 | exact pz nope9 | exact pz nope9 | exact pz nope9 | (rw [nope9.1]; rfl)) (by clear V hS hl C hts hown hx hb hml hr hlk; first | exact pas_1 h1 (stp_rf h3) | exact pas_n hq55 c56 | (have z9 := hq55; rw [c56] at z9; exact z9)) dX13_with_187
  · refine lv_aload_n hx hb dX13_with_110 rfl (lv_at hl 0 rfl) ?_
    refine mG29 C V dX13_with_111 ?_
    refine lv_iload_n hx hb dX13_with_114 rfl (lv_at hl 3 rfl) ?_
    refine mLd29 C V (vin (N := 24) rfl (h2.1) (h2.2)) dX13_with_115 ?_
    refine lv_if_le (tgt := 156) hx hb dX13_with_116 (by decide) (fun c57 => ?_) (fun c57 => ?_)
    · refine lv_iconst (v := 1) hx hb dX13_with_156 (by decide) ?_
      exact mRetZ C hr hlk V hS (by clear V hS hl C hts hown hx hb hml hr hlk; first | rfl | exact pz nope9 | exact pz nope9 | exact pz nope9 | exact pz nope9 | exact pz nope9 | exact pz nope9 | exact pz nope9 | (rw [nope9.1]; rfl)) (pas_1 h1 w25) dX13_with_157
    · refine lv_aload_n hx hb dX13_with_119 rfl (lv_at hl 0 rfl) ?_
      refine mG29 C V dX13_with_120 ?_
      refine lv_iload_n hx hb dX13_with_123 rfl (lv_at hl 3 rfl) ?_
      refine lv_dup2_11 hx hb dX13_with_124 rfl rfl ?_
      refine mLd29 C V (vin (N := 24) rfl (h2.1) (h2.2)) dX13_with_125 ?_
      refine lv_iconst (v := 1) hx hb dX13_with_126 (by decide) ?_
      refine lv_isub hx hb dX13_with_127 ?_
      refine mSt29 C V hS (vin (N := 24) rfl (h2.1) (h2.2)) dX13_with_128 (fun S58 H locs eS58 V hS => ?_)
      have w59 := st_first w25 h5 h2 eS58
      have loop129 : ∀ (N129 : Nat)  (SL129 : mS) (H : Heap) (locs : List Loc) (ls : Array Slot), (stp S SL129) → ((gA SL129 33 b).toInt.toNat) < N129 → mV D cs o ad A SL129 H → va_S A s.heap H locs → lv_has ls 6 [(0, .ref o), (1, .int t), (2, .int q), (3, .int b)] → W p l e ({ frames := 5, cells := 0, slots := 0, locals := 117 } : Room) s m ([.ref o, .int t, .int q, .int b] : List Value).toArray below meth c H locs 0 0 (MQ below (va_Qi (fun r9 S9 => pas S S9 t r9) (mB D cs o ad A) A) ([.ref o, .int t, .int q, .int b] : List Value).toArray s 0 0 A) (F0 m 129 ls []) := by
        intro N129
        induction N129 with
        | zero => intro  SL129 H locs ls hi129 hm129; exact absurd hm129 (Nat.not_lt_zero _)
        | succ N129 ih129 =>
          intro  SL129 H locs ls hi129 hm129 V hS hl
          have w60 := hi129
          refine lv_aload_n hx hb dX13_with_129 rfl (lv_at hl 0 rfl) ?_
          refine mG29 C V dX13_with_130 ?_
          refine lv_iload_n hx hb dX13_with_133 rfl (lv_at hl 3 rfl) ?_
          refine mLd29 C V (vin (N := 24) rfl (h2.1) (h2.2)) dX13_with_134 ?_
          refine lv_if_ne (tgt := 156) hx hb dX13_with_135 (by decide) (fun c61 => ?_) (fun c61 => ?_)
          · refine lv_iconst (v := 1) hx hb dX13_with_156 (by decide) ?_
            exact mRetZ C hr hlk V hS (by clear V hS hl C hts hown hx hb hml hr hlk ih129 hm129; first | rfl | exact pz nope9 | exact pz nope9 | exact pz nope9 | exact pz nope9 | exact pz nope9 | exact pz nope9 | exact pz nope9 | (rw [nope9.1]; rfl)) (pas_1 h1 w60) dX13_with_157
          · refine lv_aload_n hx hb dX13_with_138 rfl (lv_at hl 0 rfl) ?_
            refine mG33 C V dX13_with_139 ?_
            refine lv_iload_n hx hb dX13_with_142 rfl (lv_at hl 3 rfl) ?_
            refine mLd33 C V (vin (N := 24) rfl (h2.1) (h2.2)) dX13_with_143 ?_
            refine lv_if_le (tgt := 156) hx hb dX13_with_144 (by decide) (fun c62 => ?_) (fun c62 => ?_)
            · refine lv_iconst (v := 1) hx hb dX13_with_156 (by decide) ?_
              exact mRetZ C hr hlk V hS (by clear V hS hl C hts hown hx hb hml hr hlk ih129 hm129; first | rfl | exact pz nope9 | exact pz nope9 | exact pz nope9 | exact pz nope9 | exact pz nope9 | exact pz nope9 | exact pz nope9 | (rw [nope9.1]; rfl)) (pas_1 h1 w60) dX13_with_157
            · refine lv_aload_n hx hb dX13_with_147 rfl (lv_at hl 0 rfl) ?_
              refine lv_iload_n hx hb dX13_with_148 rfl (lv_at hl 3 rfl) ?_
              refine mGoI (mRunV (As := [.int b]) (rest := []) C hml V (c_firstGoesOn l D cs o ad A SL129 b  (h2) (w60.1) (i_gt c62)) gM_firstGoesOn okM_firstGoesOn ⟨rfl, rfl, Nat.le_of_ble_eq_true rfl, Nat.le_of_ble_eq_true rfl⟩ hl.1 rfl (Nat.le_of_ble_eq_true rfl) dX13_with_149 ⟨Nat.zero_le _, Nat.zero_le _⟩) hS (fun r64 S63 H locs hq65 V hS => ?_)
              have w66 := stp_tr w60 hq65.1
              refine lv_pop hx hb dX13_with_152 rfl ?_
              refine lv_goto (tgt := 129) hx hb dX13_with_153 (by decide) ?_
              exact ih129  S63 _ _ _ (w66) (msd hm129 hq65.2.2.2.1.1 hq65.2.2.2.1.2) V hS (lv_sub hl [0, 1, 2, 3] rfl)
      exact loop129 _  S58 _ _ _ (w59) (Nat.lt_succ_self _) V hS (lv_sub hl [0, 1, 2, 3] rfl)
set_option maxHeartbeats 200000 in
set_option maxRecDepth 100000 in
theorem j_with_21 {p : Program} {e : Env} {s : State} {m : MethodId} {below : List Frame} {meth : Method} {c : Code} (l : Launch) (D : va_G) (cs : ClassId × ClassId × ClassId) (o : Nat) (ad : Nat → Nat) (A : Nat → Prop) (S : mS) (t : Int32) (q : Int32) (b : Int32)  (h1 : fre S t) (h3 : mInv S) (C : mC p s m ([.ref o, .int t, .int q, .int b] : List Value).toArray c cX13_with D cs) (hml : c.maxLocals = 6) (hr : meth.sig.returnType = (some .boolean)) (hlk : meth.locks = false)   (H : Heap) (locs : List Loc) (ls : Array Slot) (hj21 : True) (V : mV D cs o ad A S H) (hS : va_S A s.heap H locs) (hl : lv_has ls 6 [(0, .ref o), (1, .int t), (2, .int q), (3, .int b)]) : W p l e ({ frames := 5, cells := 0, slots := 0, locals := 117 } : Room) s m ([.ref o, .int t, .int q, .int b] : List Value).toArray below meth c H locs 0 0 (MQ below (va_Qi (fun r9 S9 => pas S S9 t r9) (mB D cs o ad A) A) ([.ref o, .int t, .int q, .int b] : List Value).toArray s 0 0 A) (F0 m 21 ls []) := by
  have hx := C.1
  have hb := C.2.1
  have hown := C.2.2.1
  have hts := C.2.2.2.1
  have w67 := stp_rf h3
  refine lv_aload_n hx hb dX13_with_21 rfl (lv_at hl 0 rfl) ?_
  refine lv_iload_n hx hb dX13_with_22 rfl (lv_at hl 1 rfl) ?_
  refine lv_iconst (v := 2) hx hb dX13_with_23 (by decide) ?_
  refine mGoI (mRunV (As := [.int t, .int 2]) (rest := []) C hml V (c_fails l D cs o ad A S t 2  (h1.1)) gM_fails okM_fails ⟨rfl, rfl, Nat.le_of_ble_eq_true rfl, Nat.le_of_ble_eq_true rfl⟩ hl.1 rfl (Nat.le_of_ble_eq_true rfl) dX13_with_24 ⟨Nat.zero_le _, Nat.zero_le _⟩) hS (fun r69 S68 H locs hq70 V hS => ?_)
  exact mRetZ C hr hlk V hS (by clear V hS hl C hts hown hx hb hml hr hlk; first | rfl | exact pz nope9 | exact pz nope9 | exact pz nope9 | exact pz nope9 | exact pz nope9 | exact pz nope9 | exact pz nope9 | (rw [hq70.1]; rfl)) (by clear V hS hl C hts hown hx hb hml hr hlk; obtain ⟨q1, q2⟩ := hq70; rw [q1]; exact pas_f h1 (stp_rf h3) q2) dX13_with_27
set_option maxHeartbeats 200000 in
set_option maxRecDepth 100000 in
theorem c_with (l : Launch) (D : va_G) (cs : ClassId × ClassId × ClassId) (o : Nat) (ad : Nat → Nat) (A : Nat → Prop) (S : mS) (t : Int32) (q : Int32) (b : Int32)  (h1 : fre S t) (h3 : mInv S) : Met l yX13_with (Cond.code yX13_with cX13_with 6 (some .boolean) :: tM) ({ frames := 5, cells := 0, slots := 0, locals := 117 }) (va_Pc [.ref o, .int t, .int q, .int b] (mB D cs o ad A S)) (va_Qi (fun r9 S9 => pas S S9 t r9) (mB D cs o ad A) A) 0 0 A := by
  refine mMet (by decide) rfl (Nat.le_of_ble_eq_true rfl) ?_
  intro p e s m below meth c ls C hml hr hlk V hl
  have hx := C.1
  have hb := C.2.1
  have hown := C.2.2.1
  have hts := C.2.2.2.1
  have hS : va_S A s.heap s.heap [] := va_S.rf
  have hl : lv_has ls 6 [(0, .ref o), (1, .int t), (2, .int q), (3, .int b)] := hl
  have w0 : stp S S := stp_rf h3
  refine lv_aload_n hx hb dX13_with_0 rfl (lv_at hl 0 rfl) ?_
  refine lv_iload_n hx hb dX13_with_1 rfl (lv_at hl 3 rfl) ?_
  refine mGoP (mRunV (As := [.int b]) (rest := []) C hml V (c_isThere l D cs o ad A S b  ) gM_isThere okM_isThere ⟨rfl, rfl, Nat.le_of_ble_eq_true rfl, Nat.le_of_ble_eq_true rfl⟩ hl.1 rfl (Nat.le_of_ble_eq_true rfl) dX13_with_2 ⟨Nat.zero_le _, Nat.zero_le _⟩) hS (fun r72 H locs hq73 V hS => ?_)
  refine lv_if_eq (tgt := 21) hx hb dX13_with_5 (by decide) (fun c74 => ?_) (fun c74 => ?_)
  · exact j_with_21 l D cs o ad A S t q b h1 h3 C hml hr hlk   _ _ _ (trivial) V hS (lv_sub hl [0, 1, 2, 3] rfl)
  · have h2 : 0 ≤ b ∧ b < 24 := by rcases hq73 with z | z; exact ⟨z.2.1, z.2.2.1⟩; exact absurd z.1 c74
    refine lv_aload_n hx hb dX13_with_8 rfl (lv_at hl 0 rfl) ?_
    refine mG28 C V dX13_with_9 ?_
    refine lv_iload_n hx hb dX13_with_12 rfl (lv_at hl 3 rfl) ?_
    refine mLd28 C V (vin (N := 24) rfl (h2.1) (h2.2)) dX13_with_13 ?_
    refine lv_iload_n hx hb dX13_with_14 rfl (lv_at hl 2 rfl) ?_
    refine mGoP (mRunS (As := [.int q]) (rest := [.int (gA S 28 b)]) C hml V (c_kindOf l D cs o ad A S q  ) gM_kindOf okM_kindOf ⟨rfl, rfl, Nat.le_of_ble_eq_true rfl, Nat.le_of_ble_eq_true rfl⟩ hl.1 rfl (Nat.le_of_ble_eq_true rfl) dX13_with_15 ⟨Nat.zero_le _, Nat.zero_le _⟩) hS (fun r76 H locs hq77 V hS => ?_)
    refine lv_icmp_eq (tgt := 28) hx hb dX13_with_18 (by decide) (fun c78 => ?_) (fun c78 => ?_)
    · have hk := hq77
      rw [← c78] at hk
      refine lv_iload_n hx hb dX13_with_28 rfl (lv_at hl 2 rfl) ?_
      refine lv_bipush (v := 12) hx hb dX13_with_29 (by decide) ?_
      refine lv_icmp_gt (tgt := 42) hx hb dX13_with_31 (by decide) (fun c79 => ?_) (fun c79 => ?_)
      · refine lv_iload_n hx hb dX13_with_42 rfl (lv_at hl 2 rfl) ?_
        refine lv_bipush (v := 16) hx hb dX13_with_43 (by decide) ?_
        refine lv_icmp_gt (tgt := 56) hx hb dX13_with_45 (by decide) (fun c80 => ?_) (fun c80 => ?_)
        · refine lv_iload_n hx hb dX13_with_56 rfl (lv_at hl 2 rfl) ?_
          refine lv_bipush (v := 19) hx hb dX13_with_57 (by decide) ?_
          refine lv_icmp_gt (tgt := 70) hx hb dX13_with_59 (by decide) (fun c81 => ?_) (fun c81 => ?_)
          · refine lv_iload_n hx hb dX13_with_70 rfl (lv_at hl 2 rfl) ?_
            refine lv_bipush (v := 29) hx hb dX13_with_71 (by decide) ?_
            refine lv_icmp_lt (tgt := 84) hx hb dX13_with_73 (by decide) (fun c82 => ?_) (fun c82 => ?_)
            · refine lv_iload_n hx hb dX13_with_84 rfl (lv_at hl 2 rfl) ?_
              refine lv_bipush (v := 23) hx hb dX13_with_85 (by decide) ?_
              refine lv_icmp_lt (tgt := 104) hx hb dX13_with_87 (by decide) (fun c83 => ?_) (fun c83 => ?_)
              · exact j_with_104 l D cs o ad A S t q b h1 h3 C hml hr hlk   _ _ _ (⟨h2, by first | exact hk.2.1 c79 (a_22 c83) | exact hk.2.2.2 nope9⟩) V hS (lv_sub hl [0, 1, 2, 3] rfl)
              · refine lv_iload_n hx hb dX13_with_90 rfl (lv_at hl 2 rfl) ?_
                refine lv_bipush (v := 26) hx hb dX13_with_91 (by decide) ?_
                refine lv_icmp_gt (tgt := 104) hx hb dX13_with_93 (by decide) (fun c84 => ?_) (fun c84 => ?_)
                · exact j_with_104 l D cs o ad A S t q b h1 h3 C hml hr hlk   _ _ _ (⟨h2, by first | exact hk.2.1 c79 (a_22 c83) | exact hk.2.2.2 c84⟩) V hS (lv_sub hl [0, 1, 2, 3] rfl)
                · refine lv_aload_n hx hb dX13_with_96 rfl (lv_at hl 0 rfl) ?_
                  refine lv_iload_n hx hb dX13_with_97 rfl (lv_at hl 1 rfl) ?_
                  refine lv_iload_n hx hb dX13_with_98 rfl (lv_at hl 2 rfl) ?_
                  refine lv_iload_n hx hb dX13_with_99 rfl (lv_at hl 3 rfl) ?_
                  refine mGoI (mRunV (As := [.int t, .int q, .int b]) (rest := []) C hml V (c_atQueue l D cs o ad A S t q b  (h1) (h2) (h3) (hk.2.2.1 (a_23 c83) (i_le c84))) gM_atQueue okM_atQueue ⟨rfl, rfl, Nat.le_of_ble_eq_true rfl, Nat.le_of_ble_eq_true rfl⟩ hl.1 rfl (Nat.le_of_ble_eq_true rfl) dX13_with_100 ⟨Nat.zero_le _, Nat.zero_le _⟩) hS (fun r86 S85 H locs hq87 V hS => ?_)
                  exact mRetZ C hr hlk V hS (by clear V hS hl C hts hown hx hb hml hr hlk; first | rfl | exact pz nope9 | exact pz nope9 | exact pz nope9 | exact pz nope9 | exact pz hq87 | exact pz nope9 | exact pz nope9 | (rw [nope9.1]; rfl)) (hq87) dX13_with_103
            · refine lv_aload_n hx hb dX13_with_76 rfl (lv_at hl 0 rfl) ?_
              refine lv_iload_n hx hb dX13_with_77 rfl (lv_at hl 1 rfl) ?_
              refine lv_iload_n hx hb dX13_with_78 rfl (lv_at hl 2 rfl) ?_
              refine lv_iload_n hx hb dX13_with_79 rfl (lv_at hl 3 rfl) ?_
              refine mGoI (mRunV (As := [.int t, .int q, .int b]) (rest := []) C hml V (c_atGate l D cs o ad A S t q b  (h1) (h2) (h3) (hk.2.2.2 (a_29 c82))) gM_atGate okM_atGate ⟨rfl, rfl, Nat.le_of_ble_eq_true rfl, Nat.le_of_ble_eq_true rfl⟩ hl.1 rfl (Nat.le_of_ble_eq_true rfl) dX13_with_80 ⟨Nat.zero_le _, Nat.zero_le _⟩) hS (fun r89 S88 H locs hq90 V hS => ?_)
              exact mRetZ C hr hlk V hS (by clear V hS hl C hts hown hx hb hml hr hlk; first | rfl | exact pz nope9 | exact pz nope9 | exact pz nope9 | exact pz hq90 | exact pz nope9 | exact pz nope9 | exact pz nope9 | (rw [nope9.1]; rfl)) (hq90) dX13_with_83
          · refine lv_aload_n hx hb dX13_with_62 rfl (lv_at hl 0 rfl) ?_
            refine lv_iload_n hx hb dX13_with_63 rfl (lv_at hl 1 rfl) ?_
            refine lv_iload_n hx hb dX13_with_64 rfl (lv_at hl 2 rfl) ?_
            refine lv_iload_n hx hb dX13_with_65 rfl (lv_at hl 3 rfl) ?_
            refine mGoI (mRunV (As := [.int t, .int q, .int b]) (rest := []) C hml V (c_atSemaphore l D cs o ad A S t q b  (h1) (h2) (h3) (hk.2.1 c79 (a_19 c81))) gM_atSemaphore okM_atSemaphore ⟨rfl, rfl, Nat.le_of_ble_eq_true rfl, Nat.le_of_ble_eq_true rfl⟩ hl.1 rfl (Nat.le_of_ble_eq_true rfl) dX13_with_66 ⟨Nat.zero_le _, Nat.zero_le _⟩) hS (fun r92 S91 H locs hq93 V hS => ?_)
            exact mRetZ C hr hlk V hS (by clear V hS hl C hts hown hx hb hml hr hlk; first | rfl | exact pz nope9 | exact pz nope9 | exact pz hq93 | exact pz nope9 | exact pz nope9 | exact pz nope9 | exact pz nope9 | (rw [nope9.1]; rfl)) (hq93) dX13_with_69
        · refine lv_aload_n hx hb dX13_with_48 rfl (lv_at hl 0 rfl) ?_
          refine lv_iload_n hx hb dX13_with_49 rfl (lv_at hl 1 rfl) ?_
          refine lv_iload_n hx hb dX13_with_50 rfl (lv_at hl 2 rfl) ?_
          refine lv_iload_n hx hb dX13_with_51 rfl (lv_at hl 3 rfl) ?_
          refine mGoI (mRunV (As := [.int t, .int q, .int b]) (rest := []) C hml V (c_atCell l D cs o ad A S t q b  (h1) (h2) (h3) (hk.2.1 c79 (a_16 c80))) gM_atCell okM_atCell ⟨rfl, rfl, Nat.le_of_ble_eq_true rfl, Nat.le_of_ble_eq_true rfl⟩ hl.1 rfl (Nat.le_of_ble_eq_true rfl) dX13_with_52 ⟨Nat.zero_le _, Nat.zero_le _⟩) hS (fun r95 S94 H locs hq96 V hS => ?_)
          exact mRetZ C hr hlk V hS (by clear V hS hl C hts hown hx hb hml hr hlk; first | rfl | exact pz nope9 | exact pz hq96 | exact pz nope9 | exact pz nope9 | exact pz nope9 | exact pz nope9 | exact pz nope9 | (rw [nope9.1]; rfl)) (hq96) dX13_with_55
      · refine lv_aload_n hx hb dX13_with_34 rfl (lv_at hl 0 rfl) ?_
        refine lv_iload_n hx hb dX13_with_35 rfl (lv_at hl 1 rfl) ?_
        refine lv_iload_n hx hb dX13_with_36 rfl (lv_at hl 2 rfl) ?_
        refine lv_iload_n hx hb dX13_with_37 rfl (lv_at hl 3 rfl) ?_
        refine mGoI (mRunV (As := [.int t, .int q, .int b]) (rest := []) C hml V (c_atLock l D cs o ad A S t q b  (h1) (h2) (h3) (hk.1 (i_le c79))) gM_atLock okM_atLock ⟨rfl, rfl, Nat.le_of_ble_eq_true rfl, Nat.le_of_ble_eq_true rfl⟩ hl.1 rfl (Nat.le_of_ble_eq_true rfl) dX13_with_38 ⟨Nat.zero_le _, Nat.zero_le _⟩) hS (fun r98 S97 H locs hq99 V hS => ?_)
        exact mRetZ C hr hlk V hS (by clear V hS hl C hts hown hx hb hml hr hlk; first | rfl | exact pz hq99 | exact pz nope9 | exact pz nope9 | exact pz nope9 | exact pz nope9 | exact pz nope9 | exact pz nope9 | (rw [nope9.1]; rfl)) (hq99) dX13_with_41
    · exact j_with_21 l D cs o ad A S t q b h1 h3 C hml hr hlk   _ _ _ (trivial) V hS (lv_sub hl [0, 1, 2, 3] rfl)
end
section
def onP (S S1 : mS) (t : Int32) : Prop := mInv S1 ∧ fre S1 t ∧ gI S1 2 = gI S 2
theorem one_0 {S S1 S2 : mS} {t : Int32} {x : Int64} (ht : 0 ≤ t ∧ t < 8) (h : mInv S) (e1 : S1 = sI S 26 t) (e2 : S2 = sJ S1 25 x) : mInv S2 ∧ gI S2 2 = gI S 2 ∧ (∀ k i, gA S2 k i = gA S k i) := by
  have g2 : gI S2 2 = gI S 2 := by rw [e2, e1]; rfl
  have gA2 : ∀ k i, gA S2 k i = gA S k i := fun k i => by rw [e2, e1]; rfl
  refine ⟨mInv_sm h ?_ (fun k i _ => gA2 k i), g2, gA2⟩
  unfold iT; rw [g2]
  have g26 : gI S2 26 = t := by rw [e2, e1]; rfl
  rw [g26]; exact ⟨h.1.1, h.1.2.1, ht⟩
theorem n21 {S : mS} {t : Int32} (h : mInv S) (ht : 0 ≤ t ∧ t < 8) (h13 : gA S 13 t ≠ 2) : gA S 21 t = 0 := by
  rcases Classical.em (gA S 21 t = 0) with q | q
  · exact q
  · exact absurd ((h.2.1 t ht.1 ht.2).2.2 q).1 h13
theorem one_f {S : mS} {t : Int32} (h : mInv S) (ht : 0 ≤ t ∧ t < 8) (h13 : gA S 13 t = 1) (hr : ∀ b i, 0 ≤ b → b < 24 → gA S 28 b = 1 → 0 ≤ i → i < gA S 33 b → gA S 32 (8 * b + i) ≠ t) : fre S t := by
  refine ⟨ht, h13, n21 h ht (by rw [h13]; decide), fun b i b0 b1 i0 i1 q => ?_⟩
  have m := h.2.2.2.2.1 b i b0 b1 i0 i1
  rw [q] at m
  rcases m.2.2.2 with z | z
  · rw [h13] at z; exact absurd z.1 (by decide)
  · exact hr b i b0 b1 z.2 i0 i1 q
/-- one that stands in the row of b waits there again -/
theorem one_w {S S1 S9 : mS} {b t : Int32} (hb : 0 ≤ b ∧ b < 24) (h : mInv S) (hi : ∃ i, 0 ≤ i ∧ i < gA S 33 b ∧ gA S 32 (8 * b + i) = t) (e1 : S1 = sA S 13 t 2) (e : S9 = sA S1 16 t b) : mInv S9 ∧ gI S9 2 = gI S 2 := by
  subst e1
  obtain ⟨⟨t0, t1⟩, t21, t13⟩ := in_row hb h hi
  obtain ⟨i, i0, i1, et⟩ := hi
  have hat := at_of h ⟨t0, t1⟩ t13
  obtain ⟨h1, h2, h3, h4, h5, h6, h7, h8⟩ := h
  have e13 : ∀ u, u ≠ t → gA S9 13 u = gA S 13 u := fun u hu => by rw [e]; simp [gA_sA, hu]
  have e16 : ∀ u, u ≠ t → gA S9 16 u = gA S 16 u := fun u hu => by rw [e]; simp [gA_sA, hu]
  have e13t : gA S9 13 t = 2 := by rw [e]; simp [gA_sA]
  have e16t : gA S9 16 t = b := by rw [e]; simp [gA_sA]
  have eo : ∀ k q, k ≠ 13 → k ≠ 16 → gA S9 k q = gA S k q := fun k q a1 a2 => by rw [e]; simp [gA_sA, a1, a2]
  have eI : ∀ k, gI S9 k = gI S k := fun k => by rw [e]; rfl
  clear e
  refine ⟨⟨?_, ?_, ?_, ?_, ?_, ?_, ?_, ?_⟩, eI 2⟩
  · unfold iT; rw [eI, eI]; exact h1
  · intro u u0 u1
    rw [eo 12 u (by decide) (by decide), eo 15 u (by decide) (by decide), eo 21 u (by decide) (by decide)]
    by_cases hu : u = t
    · subst hu
      exact ⟨fun _ _ => hat, fun _ => by rw [e16t]; exact hb, fun q => absurd t21 q⟩
    · rw [e13 u hu, e16 u hu]
      obtain ⟨a1, a2, a3⟩ := h2 u u0 u1
      refine ⟨a1, a2, fun q => ?_⟩
      obtain ⟨a4, j, a5, a6, a7⟩ := a3 q
      exact ⟨a4, j, a5, by rw [eo 35 _ (by decide) (by decide)]; exact a6, by rw [eo 34 _ (by decide) (by decide)]; exact a7⟩
  · intro u k; rw [eo 11 _ (by decide) (by decide), eo 11 _ (by decide) (by decide), eo 12 _ (by decide) (by decide)]; exact h3 u k
  · intro d; rw [eo 28 _ (by decide) (by decide), eo 29 _ (by decide) (by decide), eo 31 _ (by decide) (by decide), eo 33 _ (by decide) (by decide), eo 35 _ (by decide) (by decide), eo 37 _ (by decide) (by decide)]; exact h4 d
  · intro d j d0 d1 j0 j1
    rw [eo 33 _ (by decide) (by decide)] at j1
    rw [eo 32 _ (by decide) (by decide)]
    have m2 := h5 d j d0 d1 j0 j1
    by_cases hu : gA S 32 (8 * d + j) = t
    · have c := h6 d j b i d0 d1 j0 j1 hb.1 hb.2 i0 i1 (hu.trans et.symm)
      rw [hu]
      exact ⟨t0, t1, by rw [eo 21 _ (by decide) (by decide)]; exact t21, Or.inl ⟨e13t, by rw [e16t, c.1]⟩⟩
    · unfold mem1 at m2 ⊢
      rw [e13 _ hu, e16 _ hu, eo 21 _ (by decide) (by decide), eo 28 _ (by decide) (by decide)]
      exact m2
  · intro d j f q; rw [eo 33 _ (by decide) (by decide), eo 33 _ (by decide) (by decide), eo 32 _ (by decide) (by decide), eo 32 _ (by decide) (by decide)]; exact h6 d j f q
  · intro d j; rw [eo 35 _ (by decide) (by decide), eo 34 _ (by decide) (by decide)]
    intro d0 d1 j0 j1
    have m2 := h7 d j d0 d1 j0 j1
    have hu : gA S 34 (8 * d + j) ≠ t := fun q => by unfold mem2 at m2; rw [q] at m2; exact m2.2.2.2.2.1 t21
    unfold mem2 at m2 ⊢
    rw [e13 _ hu, e16 _ hu, eo 21 _ (by decide) (by decide), eo 22 _ (by decide) (by decide), eo 28 _ (by decide) (by decide)]
    exact m2
  · intro d d0 d1 x y; rw [eo 35 _ (by decide) (by decide), eo 34 _ (by decide) (by decide), eo 34 _ (by decide) (by decide)]; exact h8 d d0 d1 x y
theorem on_irr {S S1 S2 : mS} {t : Int32} {k : Nat} {i x : Int32} (h : onP S S1 t) (e : S2 = sA S1 k i x) (hk : ¬ smK k) : onP S S2 t := by
  have s := st_irr (stp_rf h.1) e hk
  exact ⟨s.1, fre_stp h.2.1 s, (s.2.1 2).trans h.2.2⟩
theorem on_pas {S S1 S2 : mS} {t r : Int32} (h : onP S S1 t) (hp : pas S1 S2 t r) (hr : ¬ r = 0) : onP S S2 t := by
  rcases hp.2.2.2 with q | q
  · exact ⟨hp.1, q.2.1, (hp.2.1 2).trans h.2.2⟩
  · exact absurd q hr
/-- state and place of the stepping one are set -/
theorem on_set {S S1 S2 : mS} {t : Int32} (h : onP S S1 t) (hI : ∀ k, gI S2 k = gI S1 k) (fo : ∀ k i, smK k → k ≠ 13 → k ≠ 15 → gA S2 k i = gA S1 k i) (ft : ∀ k u, k = 13 ∨ k = 15 → u ≠ t → gA S2 k u = gA S1 k u)
    (q1 : 1 ≤ gA S2 13 t → gA S2 13 t ≤ 3 → 0 ≤ gA S2 15 t ∧ gA S2 15 t < gA S1 12 t) (q2 : gA S2 13 t ≠ 2) : mInv S2 ∧ gI S2 2 = gI S 2 := by
  obtain ⟨h1, ⟨f1, f2, f3, f4⟩, h3⟩ := h
  have hat := at_of h1 f1 (Or.inl f2)
  have r := th_inv h1 f1 f4 f3 hI (fun k i a b c _ => fo k i a b c) (fun k u hk hu => by rcases hk with rfl | rfl | rfl; exact ft 13 u (by simp) hu; exact ft 15 u (by simp) hu; exact fo 16 u (by simp [smK]) (by decide) (by decide)) (fun a b => ⟨(q1 a b).1, (q1 a b).2, hat.2.2⟩) (fun q => absurd q q2)
  exact ⟨r.1, (hI 2).trans h3⟩
theorem on_nx {S S1 S2 : mS} {t x : Int32} (h : onP S S1 t) (h0 : 0 ≤ x) (e : S2 = sA S1 15 t x) (hc : x < gA S2 12 t) : mInv S2 ∧ gI S2 2 = gI S 2 := by
  have e13 : gA S2 13 t = 1 := by rw [e]; simp only [gA_sA, if_neg (show ¬ (13 = 15) by decide)]; exact h.2.1.2.1
  have e12 : gA S2 12 t = gA S1 12 t := by rw [e]; simp [gA_sA]
  refine on_set h (fun k => by rw [e]; rfl) (fun k i _ _ k15 => by rw [e, gA_sA, if_neg k15]) (fun k u _ hu => by rw [e]; simp [gA_sA, hu]) (fun _ _ => ?_) (by rw [e13]; decide)
  have e15 : gA S2 15 t = x := by rw [e]; simp [gA_sA]
  rw [e15, ← e12]; exact ⟨h0, hc⟩
theorem on_end {S S1 S2 S3 : mS} {t x : Int32} (h : onP S S1 t) (e : S2 = sA S1 15 t x) (e2 : S3 = sA S2 13 t 4) : mInv S3 ∧ gI S3 2 = gI S 2 := by
  have e13 : gA S3 13 t = 4 := by rw [e2]; simp [gA_sA]
  exact on_set h (fun k => by rw [e2, e]; rfl) (fun k i _ k13 k15 => by rw [e2, e]; simp [gA_sA, k13, k15]) (fun k u _ hu => by rw [e2, e]; simp [gA_sA, hu]) (fun _ q => by rw [e13] at q; exact absurd q (by decide)) (by rw [e13]; decide)
theorem on_st {S S1 S2 : mS} {t v : Int32} (h : onP S S1 t) (e : S2 = sA S1 13 t v) (hv : v = 3 ∨ v = 4) : mInv S2 ∧ gI S2 2 = gI S 2 := by
  have e13 : gA S2 13 t = v := by rw [e]; simp [gA_sA]
  have hat := at_of h.1 h.2.1.1 (Or.inl h.2.1.2.1)
  exact on_set h (fun k => by rw [e]; rfl) (fun k i _ k13 _ => by rw [e]; simp [gA_sA, k13]) (fun k u _ hu => by rw [e]; simp [gA_sA, hu]) (fun _ q => by rw [show gA S2 15 t = gA S1 15 t by rw [e]; simp [gA_sA]]; exact ⟨hat.1, hat.2.1⟩) (by rw [e13]; rcases hv with rfl | rfl <;> decide)
theorem on_L {S S1 S2 : mS} {k : Nat} {i : Int32} {x : Int64} (h : mInv S1 ∧ gI S1 2 = gI S 2) (e : S2 = sL S1 k i x) : mInv S2 ∧ gI S2 2 = gI S 2 :=
  ⟨mInv_sm h.1 (iT_of h.1 (fun j => by rw [e]; rfl)) (fun j q _ => by rw [e]; rfl), by rw [e]; exact h.2⟩
theorem on_jmp {S : mS} {t op x : Int32} (h : mInv S) (hf : fre S t) (e1 : op = gA S 11 (240 * t + 4 * gA S 15 t + 0)) (e2 : x = gA S 11 (240 * t + 4 * gA S 15 t + 1)) (ho : 2 ≤ op ∧ op ≤ 4) : 0 ≤ x := by
  have hat := at_of h hf.1 (Or.inl hf.2.1)
  rw [Int32.add_zero] at e1
  rw [e2]
  exact h.2.2.1 t (gA S 15 t) hf.1.1 hf.1.2 hat.1 (by clear e1 e2 h hf; grind) hat.2.1 (by rw [← e1]; exact ho.1) (by rw [← e1]; exact ho.2)
theorem on_at {S S1 : mS} {t : Int32} (h : onP S S1 t) : 0 ≤ gA S1 15 t ∧ gA S1 15 t < 60 := by
  have hat := at_of h.1 h.2.1.1 (Or.inl h.2.1.2.1)
  clear h; grind
theorem a_at {x y : Int32} (h : 0 ≤ x ∧ x < 60) (e : y = x + 1) : 0 ≤ y := by grind

set_option maxHeartbeats 200000 in
set_option maxRecDepth 100000 in
theorem j_one_273 {p : Program} {e : Env} {s : State} {m : MethodId} {below : List Frame} {meth : Method} {c : Code} (l : Launch) (D : va_G) (cs : ClassId × ClassId × ClassId) (o : Nat) (ad : Nat → Nat) (A : Nat → Prop) (S : mS) (t : Int32)  (h1 : 0 ≤ t ∧ t < 8) (h2 : mInv S) (h3 : gA S 13 t = 1) (C : mC p s m ([.ref o, .int t] : List Value).toArray c cX13_one D cs) (hml : c.maxLocals = 6) (hr : meth.sig.returnType = none) (hlk : meth.locks = false) (j273_5 : Int32) (SJ273 : mS) (H : Heap) (locs : List Loc) (ls : Array Slot) (hj273 : onP S SJ273 t ∧ 0 ≤ j273_5) (V : mV D cs o ad A SJ273 H) (hS : va_S A s.heap H locs) (hl : lv_has ls 6 [(0, .ref o), (1, .int t), (5, .int j273_5)]) : W p l e ({ frames := 6, cells := 0, slots := 0, locals := 142 } : Room) s m ([.ref o, .int t] : List Value).toArray below meth c H locs 0 0 (MQ below (va_Qv (fun S9 => mInv S9 ∧ gI S9 2 = gI S 2) (mB D cs o ad A) A) ([.ref o, .int t] : List Value).toArray s 0 0 A) (F0 m 273 ls []) := by
  have hx := C.1
  have hb := C.2.1
  have hown := C.2.2.1
  have hts := C.2.2.2.1
  refine lv_aload_n hx hb dX13_one_273 rfl (lv_at hl 0 rfl) ?_
  refine mG15 C V dX13_one_274 ?_
  refine lv_iload_n hx hb dX13_one_277 rfl (lv_at hl 1 rfl) ?_
  refine lv_iload hx hb dX13_one_278 (lv_at hl 2 rfl) ?_
  refine mSt15 C V hS (vin (N := 8) rfl (h1.1) (h1.2)) dX13_one_280 (fun S1 H locs eS1 V hS => ?_)
  refine lv_iload hx hb dX13_one_281 (lv_at hl 2 rfl) ?_
  refine lv_aload_n hx hb dX13_one_283 rfl (lv_at hl 0 rfl) ?_
  refine mG12 C V dX13_one_284 ?_
  refine lv_iload_n hx hb dX13_one_287 rfl (lv_at hl 1 rfl) ?_
  refine mLd12 C V (vin (N := 8) rfl (h1.1) (h1.2)) dX13_one_288 ?_
  refine lv_icmp_lt (tgt := 299) hx hb dX13_one_289 (by decide) (fun c2 => ?_) (fun c2 => ?_)
  · exact mRetV C hr hlk V hS (by clear V hS hl C hts hown hx hb hml hr hlk; first | exact on_nx hj273.1 hj273.2 eS1 c2 | exact on_end hj273.1 eS1 nope9) dX13_one_299
  · refine lv_aload_n hx hb dX13_one_292 rfl (lv_at hl 0 rfl) ?_
    refine mG13 C V dX13_one_293 ?_
    refine lv_iload_n hx hb dX13_one_296 rfl (lv_at hl 1 rfl) ?_
    refine lv_iconst (v := 4) hx hb dX13_one_297 (by decide) ?_
    refine mSt13 C V hS (vin (N := 8) rfl (h1.1) (h1.2)) dX13_one_298 (fun S3 H locs eS3 V hS => ?_)
    exact mRetV C hr hlk V hS (by clear V hS hl C hts hown hx hb hml hr hlk; first | exact on_nx hj273.1 hj273.2 eS1 c2 | exact on_end hj273.1 eS1 eS3) dX13_one_299
set_option maxHeartbeats 200000 in
set_option maxRecDepth 100000 in
theorem j_one_198 {p : Program} {e : Env} {s : State} {m : MethodId} {below : List Frame} {meth : Method} {c : Code} (l : Launch) (D : va_G) (cs : ClassId × ClassId × ClassId) (o : Nat) (ad : Nat → Nat) (A : Nat → Prop) (S : mS) (t : Int32)  (h1 : 0 ≤ t ∧ t < 8) (h2 : mInv S) (h3 : gA S 13 t = 1) (C : mC p s m ([.ref o, .int t] : List Value).toArray c cX13_one D cs) (hml : c.maxLocals = 6) (hr : meth.sig.returnType = none) (hlk : meth.locks = false) (j198_4 : Int32) (j198_5 : Int32) (SJ198 : mS) (H : Heap) (locs : List Loc) (ls : Array Slot) (hj198 : (onP S SJ198 t ∧ 0 ≤ j198_5)) (V : mV D cs o ad A SJ198 H) (hS : va_S A s.heap H locs) (hl : lv_has ls 6 [(0, .ref o), (1, .int t), (4, .int j198_4), (5, .int j198_5)]) : W p l e ({ frames := 6, cells := 0, slots := 0, locals := 142 } : Room) s m ([.ref o, .int t] : List Value).toArray below meth c H locs 0 0 (MQ below (va_Qv (fun S9 => mInv S9 ∧ gI S9 2 = gI S 2) (mB D cs o ad A) A) ([.ref o, .int t] : List Value).toArray s 0 0 A) (F0 m 198 ls []) := by
  have hx := C.1
  have hb := C.2.1
  have hown := C.2.2.1
  have hts := C.2.2.2.1
  have hj198 := And.intro hj198 trivial
  refine lv_iload hx hb dX13_one_198 (lv_at hl 2 rfl) ?_
  refine lv_if_le (tgt := 273) hx hb dX13_one_200 (by decide) (fun c4 => ?_) (fun c4 => ?_)
  · exact j_one_273 l D cs o ad A S t h1 h2 h3 C hml hr hlk j198_5 SJ198 _ _ _ (by clear V hS hl C hts hown hx hb hml hr hlk; first | exact ⟨on_irr on nope9 (by simp [smK]), o5⟩ | exact ⟨on_irr on nope9 (by simp [smK]), o5⟩ | exact ⟨on_irr (on_irr on nope9 (by simp [smK])) nope9 (by simp [smK]), o5⟩ | exact ⟨on_irr on nope9 (by simp [smK]), o5⟩ | exact ⟨on_pas on nope9 nope9, o5⟩ | exact ⟨on, o5⟩ | exact ⟨hj150.1, hj150.2⟩ | exact hj198.1 | exact ⟨on_irr (on_irr hj198.1.1 nope9 (by simp [smK])) nope9 (by simp [smK]), hj198.1.2⟩) V hS (lv_sub hl [0, 1, 3] rfl)
  · refine lv_aload_n hx hb dX13_one_203 rfl (lv_at hl 0 rfl) ?_
    refine mG20 C V dX13_one_204 ?_
    refine lv_iload_n hx hb dX13_one_207 rfl (lv_at hl 1 rfl) ?_
    refine lv_iconst (v := 0) hx hb dX13_one_208 (by decide) ?_
    refine mSt20 C V hS (vin (N := 8) rfl (h1.1) (h1.2)) dX13_one_209 (fun S5 H locs eS5 V hS => ?_)
    refine lv_aload_n hx hb dX13_one_210 rfl (lv_at hl 0 rfl) ?_
    refine mG14 C V dX13_one_211 ?_
    refine lv_iload_n hx hb dX13_one_214 rfl (lv_at hl 1 rfl) ?_
    refine lv_bipush (v := (-2)) hx hb dX13_one_215 (by decide) ?_
    refine mSt14 C V hS (vin (N := 8) rfl (h1.1) (h1.2)) dX13_one_217 (fun S6 H locs eS6 V hS => ?_)
    refine lv_goto (tgt := 273) hx hb dX13_one_218 (by decide) ?_
    exact j_one_273 l D cs o ad A S t h1 h2 h3 C hml hr hlk j198_5 S6 _ _ _ (by clear V hS hl C hts hown hx hb hml hr hlk; first | exact ⟨on_irr on nope9 (by simp [smK]), o5⟩ | exact ⟨on_irr on nope9 (by simp [smK]), o5⟩ | exact ⟨on_irr (on_irr on eS5 (by simp [smK])) eS6 (by simp [smK]), o5⟩ | exact ⟨on_irr on nope9 (by simp [smK]), o5⟩ | exact ⟨on_pas on nope9 nope9, o5⟩ | exact ⟨on, o5⟩ | exact ⟨hj150.1, hj150.2⟩ | exact hj198.1 | exact ⟨on_irr (on_irr hj198.1.1 eS5 (by simp [smK])) eS6 (by simp [smK]), hj198.1.2⟩) V hS (lv_sub hl [0, 1, 3] rfl)
set_option maxHeartbeats 200000 in
set_option maxRecDepth 100000 in
theorem j_one_150 {p : Program} {e : Env} {s : State} {m : MethodId} {below : List Frame} {meth : Method} {c : Code} (l : Launch) (D : va_G) (cs : ClassId × ClassId × ClassId) (o : Nat) (ad : Nat → Nat) (A : Nat → Prop) (S : mS) (t : Int32)  (h1 : 0 ≤ t ∧ t < 8) (h2 : mInv S) (h3 : gA S 13 t = 1) (C : mC p s m ([.ref o, .int t] : List Value).toArray c cX13_one D cs) (hml : c.maxLocals = 6) (hr : meth.sig.returnType = none) (hlk : meth.locks = false) (j150_4 : Int32) (SJ150 : mS) (H : Heap) (locs : List Loc) (ls : Array Slot) (hj150 : onP S SJ150 t ∧ 0 ≤ j150_4) (V : mV D cs o ad A SJ150 H) (hS : va_S A s.heap H locs) (hl : lv_has ls 6 [(0, .ref o), (1, .int t), (4, .int j150_4)]) : W p l e ({ frames := 6, cells := 0, slots := 0, locals := 142 } : Room) s m ([.ref o, .int t] : List Value).toArray below meth c H locs 0 0 (MQ below (va_Qv (fun S9 => mInv S9 ∧ gI S9 2 = gI S 2) (mB D cs o ad A) A) ([.ref o, .int t] : List Value).toArray s 0 0 A) (F0 m 150 ls []) := by
  have hx := C.1
  have hb := C.2.1
  have hown := C.2.2.1
  have hts := C.2.2.2.1
  refine lv_iload hx hb dX13_one_150 (lv_at hl 2 rfl) ?_
  refine lv_istore (lv' := [(5, .int j150_4), (0, .ref o), (1, .int t), (4, .int j150_4)]) hx hb dX13_one_152 hl (by decide) rfl (fun ls hl => ?_)
  refine lv_goto (tgt := 273) hx hb dX13_one_154 (by decide) ?_
  exact j_one_273 l D cs o ad A S t h1 h2 h3 C hml hr hlk j150_4 SJ150 _ _ _ (by clear V hS hl C hts hown hx hb hml hr hlk; first | exact ⟨on_irr on nope9 (by simp [smK]), o5⟩ | exact ⟨on_irr on nope9 (by simp [smK]), o5⟩ | exact ⟨on_irr (on_irr on nope9 (by simp [smK])) nope9 (by simp [smK]), o5⟩ | exact ⟨on_irr on nope9 (by simp [smK]), o5⟩ | exact ⟨on_pas on nope9 nope9, o5⟩ | exact ⟨on, o5⟩ | exact ⟨hj150.1, hj150.2⟩ | exact hj198.1 | exact ⟨on_irr (on_irr hj198.1.1 nope9 (by simp [smK])) nope9 (by simp [smK]), hj198.1.2⟩) V hS (lv_sub hl [1, 2, 0] rfl)
set_option maxHeartbeats 200000 in
set_option maxRecDepth 100000 in
theorem c_one (l : Launch) (D : va_G) (cs : ClassId × ClassId × ClassId) (o : Nat) (ad : Nat → Nat) (A : Nat → Prop) (S : mS) (t : Int32)  (h1 : 0 ≤ t ∧ t < 8) (h2 : mInv S) (h3 : gA S 13 t = 1) : Met l yX13_one (Cond.code yX13_one cX13_one 6 none :: tM) ({ frames := 6, cells := 0, slots := 0, locals := 142 }) (va_Pc [.ref o, .int t] (mB D cs o ad A S)) (va_Qv (fun S9 => mInv S9 ∧ gI S9 2 = gI S 2) (mB D cs o ad A) A) 0 0 A := by
  refine mMet (by decide) rfl (Nat.le_of_ble_eq_true rfl) ?_
  intro p e s m below meth c ls C hml hr hlk V hl
  have hx := C.1
  have hb := C.2.1
  have hown := C.2.2.1
  have hts := C.2.2.2.1
  have hS : va_S A s.heap s.heap [] := va_S.rf
  have hl : lv_has ls 6 [(0, .ref o), (1, .int t)] := hl
  refine lv_aload_n hx hb dX13_one_0 rfl (lv_at hl 0 rfl) ?_
  refine lv_iload_n hx hb dX13_one_1 rfl (lv_at hl 1 rfl) ?_
  refine mP26 C V hS dX13_one_2 (fun S7 H locs eS7 V hS => ?_)
  refine lv_aload_n hx hb dX13_one_5 rfl (lv_at hl 0 rfl) ?_
  refine lv_dup hx hb dX13_one_6 rfl ?_
  refine mG25 C V dX13_one_7 ?_
  refine lv_lconst (v := 1) hx hb dX13_one_10 (by decide) ?_
  refine lv_ladd hx hb dX13_one_11 ?_
  refine mP25 C V hS dX13_one_12 (fun S8 H locs eS8 V hS => ?_)
  obtain ⟨a1, a2, a3⟩ := one_0 h1 h2 eS7 eS8
  have a13 : gA S8 13 t = 1 := (a3 13 t).trans h3
  refine lv_aload_n hx hb dX13_one_15 rfl (lv_at hl 0 rfl) ?_
  refine lv_iload_n hx hb dX13_one_16 rfl (lv_at hl 1 rfl) ?_
  refine mGoP (mRunV (As := [.int t]) (rest := []) C hml V (c_rowOf l D cs o ad A S8 t  (a1)) gM_rowOf okM_rowOf ⟨rfl, rfl, Nat.le_of_ble_eq_true rfl, Nat.le_of_ble_eq_true rfl⟩ hl.1 rfl (Nat.le_of_ble_eq_true rfl) dX13_one_17 ⟨Nat.zero_le _, Nat.zero_le _⟩) hS (fun r10 H locs hq11 V hS => ?_)
  refine lv_istore_n (lv' := [(2, .int r10), (0, .ref o), (1, .int t)]) hx hb dX13_one_20 rfl hl (by decide) rfl (fun ls hl => ?_)
  refine lv_iload_n hx hb dX13_one_21 rfl (lv_at hl 0 rfl) ?_
  refine lv_if_lt (tgt := 58) hx hb dX13_one_22 (by decide) (fun c12 => ?_) (fun c12 => ?_)
  · have on : onP S S8 t := ⟨a1, one_f a1 h1 a13 (by rcases hq11 with q | q; exact q.2; exact absurd q.1 (by have z9 := c12; clear a3; grind)), a2⟩
    refine lv_aload_n hx hb dX13_one_58 rfl (lv_at hl 1 rfl) ?_
    refine lv_iload_n hx hb dX13_one_59 rfl (lv_at hl 2 rfl) ?_
    refine lv_iconst (v := 0) hx hb dX13_one_60 (by decide) ?_
    refine mGoP (mRunV (As := [.int t, .int 0]) (rest := []) C hml V (c_part l D cs o ad A S8 t 0  (h1) (on_at on) (by clear V hS hl C hts hown hx hb hml hr hlk; decide)) gM_part okM_part ⟨rfl, rfl, Nat.le_of_ble_eq_true rfl, Nat.le_of_ble_eq_true rfl⟩ hl.1 rfl (Nat.le_of_ble_eq_true rfl) dX13_one_61 ⟨Nat.zero_le _, Nat.zero_le _⟩) hS (fun r14 H locs hq15 V hS => ?_)
    refine lv_istore_n (lv' := [(3, .int r14), (2, .int r10), (0, .ref o), (1, .int t)]) hx hb dX13_one_64 rfl hl (by decide) rfl (fun ls hl => ?_)
    refine lv_aload_n hx hb dX13_one_65 rfl (lv_at hl 2 rfl) ?_
    refine lv_iload_n hx hb dX13_one_66 rfl (lv_at hl 3 rfl) ?_
    refine lv_iconst (v := 1) hx hb dX13_one_67 (by decide) ?_
    refine mGoP (mRunV (As := [.int t, .int 1]) (rest := []) C hml V (c_part l D cs o ad A S8 t 1  (h1) (on_at on) (by clear V hS hl C hts hown hx hb hml hr hlk; decide)) gM_part okM_part ⟨rfl, rfl, Nat.le_of_ble_eq_true rfl, Nat.le_of_ble_eq_true rfl⟩ hl.1 rfl (Nat.le_of_ble_eq_true rfl) dX13_one_68 ⟨Nat.zero_le _, Nat.zero_le _⟩) hS (fun r17 H locs hq18 V hS => ?_)
    refine lv_istore (lv' := [(4, .int r17), (3, .int r14), (2, .int r10), (0, .ref o), (1, .int t)]) hx hb dX13_one_71 hl (by decide) rfl (fun ls hl => ?_)
    refine lv_aload_n hx hb dX13_one_73 rfl (lv_at hl 3 rfl) ?_
    refine mG15 C V dX13_one_74 ?_
    refine lv_iload_n hx hb dX13_one_77 rfl (lv_at hl 4 rfl) ?_
    refine mLd15 C V (vin (N := 8) rfl (h1.1) (h1.2)) dX13_one_78 ?_
    refine lv_iconst (v := 1) hx hb dX13_one_79 (by decide) ?_
    refine lv_iadd hx hb dX13_one_80 ?_
    refine lv_topi (fun x19 ex19 => ?_)
    refine lv_istore (lv' := [(5, .int x19), (4, .int r17), (3, .int r14), (2, .int r10), (0, .ref o), (1, .int t)]) hx hb dX13_one_81 hl (by decide) rfl (fun ls hl => ?_)
    have o5 : 0 ≤ x19 := a_at (on_at on) ex19
    refine lv_iload_n hx hb dX13_one_83 rfl (lv_at hl 2 rfl) ?_
    refine lv_if_ne (tgt := 98) hx hb dX13_one_84 (by decide) (fun c20 => ?_) (fun c20 => ?_)
    · refine lv_iload_n hx hb dX13_one_98 rfl (lv_at hl 2 rfl) ?_
      refine lv_iconst (v := 1) hx hb dX13_one_99 (by decide) ?_
      refine lv_icmp_ne (tgt := 117) hx hb dX13_one_100 (by decide) (fun c21 => ?_) (fun c21 => ?_)
      · refine lv_iload_n hx hb dX13_one_117 rfl (lv_at hl 2 rfl) ?_
        refine lv_iconst (v := 2) hx hb dX13_one_118 (by decide) ?_
        refine lv_icmp_eq (tgt := 150) hx hb dX13_one_119 (by decide) (fun c22 => ?_) (fun c22 => ?_)
        · exact j_one_150 l D cs o ad A S t h1 h2 h3 C hml hr hlk r17 S8 _ _ _ (⟨on, on_jmp on.1 on.2.1 hq15 hq18 (by clear V hS hl C hts hown hx hb hml hr hlk; first | (rw [c22]; decide) | (rw [nope9]; decide) | (rw [nope9]; decide))⟩) V hS (lv_sub hl [4, 5, 1] rfl)
        · refine lv_iload_n hx hb dX13_one_122 rfl (lv_at hl 2 rfl) ?_
          refine lv_iconst (v := 3) hx hb dX13_one_123 (by decide) ?_
          refine lv_icmp_ne (tgt := 136) hx hb dX13_one_124 (by decide) (fun c23 => ?_) (fun c23 => ?_)
          · refine lv_iload_n hx hb dX13_one_136 rfl (lv_at hl 2 rfl) ?_
            refine lv_iconst (v := 4) hx hb dX13_one_137 (by decide) ?_
            refine lv_icmp_ne (tgt := 157) hx hb dX13_one_138 (by decide) (fun c24 => ?_) (fun c24 => ?_)
            · refine lv_iload_n hx hb dX13_one_157 rfl (lv_at hl 2 rfl) ?_
              refine lv_iconst (v := 5) hx hb dX13_one_158 (by decide) ?_
              refine lv_icmp_ne (tgt := 221) hx hb dX13_one_159 (by decide) (fun c25 => ?_) (fun c25 => ?_)
              · refine lv_iload_n hx hb dX13_one_221 rfl (lv_at hl 2 rfl) ?_
                refine lv_bipush (v := 6) hx hb dX13_one_222 (by decide) ?_
                refine lv_icmp_ne (tgt := 235) hx hb dX13_one_224 (by decide) (fun c26 => ?_) (fun c26 => ?_)
                · refine lv_iload_n hx hb dX13_one_235 rfl (lv_at hl 2 rfl) ?_
                  refine lv_bipush (v := 33) hx hb dX13_one_236 (by decide) ?_
                  refine lv_icmp_ne (tgt := 255) hx hb dX13_one_238 (by decide) (fun c27 => ?_) (fun c27 => ?_)
                  · refine lv_iload_n hx hb dX13_one_255 rfl (lv_at hl 2 rfl) ?_
                    refine lv_bipush (v := 6) hx hb dX13_one_256 (by decide) ?_
                    refine lv_icmp_le (tgt := 273) hx hb dX13_one_258 (by decide) (fun c28 => ?_) (fun c28 => ?_)
                    · exact j_one_273 l D cs o ad A S t h1 h2 h3 C hml hr hlk x19 S8 _ _ _ (by clear V hS hl C hts hown hx hb hml hr hlk; first | exact ⟨on_irr on nope9 (by simp [smK]), o5⟩ | exact ⟨on_irr on nope9 (by simp [smK]), o5⟩ | exact ⟨on_irr (on_irr on nope9 (by simp [smK])) nope9 (by simp [smK]), o5⟩ | exact ⟨on_irr on nope9 (by simp [smK]), o5⟩ | exact ⟨on_pas on nope9 nope9, o5⟩ | exact ⟨on, o5⟩ | exact ⟨hj150.1, hj150.2⟩ | exact hj198.1 | exact ⟨on_irr (on_irr hj198.1.1 nope9 (by simp [smK])) nope9 (by simp [smK]), hj198.1.2⟩) V hS (lv_sub hl [4, 5, 0] rfl)
                    · refine lv_aload_n hx hb dX13_one_261 rfl (lv_at hl 4 rfl) ?_
                      refine lv_iload_n hx hb dX13_one_262 rfl (lv_at hl 5 rfl) ?_
                      refine lv_iload_n hx hb dX13_one_263 rfl (lv_at hl 2 rfl) ?_
                      refine lv_iload hx hb dX13_one_264 (lv_at hl 1 rfl) ?_
                      refine mGoI (mRunV (As := [.int t, .int r14, .int r17]) (rest := []) C hml V (c_with l D cs o ad A S8 t r14 r17  (on.2.1) (on.1)) gM_with okM_with ⟨rfl, rfl, Nat.le_of_ble_eq_true rfl, Nat.le_of_ble_eq_true rfl⟩ hl.1 rfl (Nat.le_of_ble_eq_true rfl) dX13_one_266 ⟨Nat.zero_le _, Nat.zero_le _⟩) hS (fun r30 S29 H locs hq31 V hS => ?_)
                      refine lv_if_ne (tgt := 273) hx hb dX13_one_269 (by decide) (fun c32 => ?_) (fun c32 => ?_)
                      · exact j_one_273 l D cs o ad A S t h1 h2 h3 C hml hr hlk x19 S29 _ _ _ (by clear V hS hl C hts hown hx hb hml hr hlk; first | exact ⟨on_irr on nope9 (by simp [smK]), o5⟩ | exact ⟨on_irr on nope9 (by simp [smK]), o5⟩ | exact ⟨on_irr (on_irr on nope9 (by simp [smK])) nope9 (by simp [smK]), o5⟩ | exact ⟨on_irr on nope9 (by simp [smK]), o5⟩ | exact ⟨on_pas on hq31 c32, o5⟩ | exact ⟨on, o5⟩ | exact ⟨hj150.1, hj150.2⟩ | exact hj198.1 | exact ⟨on_irr (on_irr hj198.1.1 nope9 (by simp [smK])) nope9 (by simp [smK]), hj198.1.2⟩) V hS (lv_sub hl [4, 5, 0] rfl)
                      · exact mRetV C hr hlk V hS (⟨hq31.1, (hq31.2.1 2).trans on.2.2⟩) dX13_one_272
                  · refine lv_aload_n hx hb dX13_one_241 rfl (lv_at hl 4 rfl) ?_
                    refine mG14 C V dX13_one_242 ?_
                    refine lv_iload_n hx hb dX13_one_245 rfl (lv_at hl 5 rfl) ?_
                    refine lv_aload_n hx hb dX13_one_246 rfl (lv_at hl 4 rfl) ?_
                    refine mG24 C V dX13_one_247 ?_
                    refine lv_l2i hx hb dX13_one_250 rfl ?_
                    refine mSt14 C V hS (vin (N := 8) rfl (h1.1) (h1.2)) dX13_one_251 (fun S33 H locs eS33 V hS => ?_)
                    refine lv_goto (tgt := 273) hx hb dX13_one_252 (by decide) ?_
                    exact j_one_273 l D cs o ad A S t h1 h2 h3 C hml hr hlk x19 S33 _ _ _ (by clear V hS hl C hts hown hx hb hml hr hlk; first | exact ⟨on_irr on nope9 (by simp [smK]), o5⟩ | exact ⟨on_irr on nope9 (by simp [smK]), o5⟩ | exact ⟨on_irr (on_irr on nope9 (by simp [smK])) nope9 (by simp [smK]), o5⟩ | exact ⟨on_irr on eS33 (by simp [smK]), o5⟩ | exact ⟨on_pas on nope9 nope9, o5⟩ | exact ⟨on, o5⟩ | exact ⟨hj150.1, hj150.2⟩ | exact hj198.1 | exact ⟨on_irr (on_irr hj198.1.1 nope9 (by simp [smK])) nope9 (by simp [smK]), hj198.1.2⟩) V hS (lv_sub hl [4, 5, 0] rfl)
                · refine lv_aload_n hx hb dX13_one_227 rfl (lv_at hl 4 rfl) ?_
                  refine mG13 C V dX13_one_228 ?_
                  refine lv_iload_n hx hb dX13_one_231 rfl (lv_at hl 5 rfl) ?_
                  refine lv_iconst (v := 4) hx hb dX13_one_232 (by decide) ?_
                  refine mSt13 C V hS (vin (N := 8) rfl (h1.1) (h1.2)) dX13_one_233 (fun S34 H locs eS34 V hS => ?_)
                  exact mRetV C hr hlk V hS (on_st on eS34 (Or.inr rfl)) dX13_one_234
              · refine lv_iload hx hb dX13_one_162 (lv_at hl 1 rfl) ?_
                refine lv_if_le (tgt := 198) hx hb dX13_one_164 (by decide) (fun c35 => ?_) (fun c35 => ?_)
                · exact j_one_198 l D cs o ad A S t h1 h2 h3 C hml hr hlk r17 x19 S8 _ _ _ (⟨on, o5⟩) V hS (lv_sub hl [4, 5, 1, 0] rfl)
                · refine lv_aload_n hx hb dX13_one_167 rfl (lv_at hl 4 rfl) ?_
                  refine mG20 C V dX13_one_168 ?_
                  refine lv_iload_n hx hb dX13_one_171 rfl (lv_at hl 5 rfl) ?_
                  refine mLd20 C V (vin (N := 8) rfl (h1.1) (h1.2)) dX13_one_172 ?_
                  refine lv_if_ne (tgt := 198) hx hb dX13_one_173 (by decide) (fun c36 => ?_) (fun c36 => ?_)
                  · exact j_one_198 l D cs o ad A S t h1 h2 h3 C hml hr hlk r17 x19 S8 _ _ _ (⟨on, o5⟩) V hS (lv_sub hl [4, 5, 1, 0] rfl)
                  · refine lv_aload_n hx hb dX13_one_176 rfl (lv_at hl 4 rfl) ?_
                    refine mG13 C V dX13_one_177 ?_
                    refine lv_iload_n hx hb dX13_one_180 rfl (lv_at hl 5 rfl) ?_
                    refine lv_iconst (v := 3) hx hb dX13_one_181 (by decide) ?_
                    refine mSt13 C V hS (vin (N := 8) rfl (h1.1) (h1.2)) dX13_one_182 (fun S37 H locs eS37 V hS => ?_)
                    refine lv_aload_n hx hb dX13_one_183 rfl (lv_at hl 4 rfl) ?_
                    refine mG23 C V dX13_one_184 ?_
                    refine lv_iload_n hx hb dX13_one_187 rfl (lv_at hl 5 rfl) ?_
                    refine lv_aload_n hx hb dX13_one_188 rfl (lv_at hl 4 rfl) ?_
                    refine mG24 C V dX13_one_189 ?_
                    refine lv_iload hx hb dX13_one_192 (lv_at hl 1 rfl) ?_
                    refine lv_i2l hx hb dX13_one_194 rfl ?_
                    refine lv_ladd hx hb dX13_one_195 ?_
                    refine mSt23 C V hS (vin (N := 8) rfl (h1.1) (h1.2)) dX13_one_196 (fun S38 H locs eS38 V hS => ?_)
                    exact mRetV C hr hlk V hS (on_L (on_st on eS37 (Or.inl rfl)) eS38) dX13_one_197
            · refine lv_aload_n hx hb dX13_one_141 rfl (lv_at hl 4 rfl) ?_
              refine mG14 C V dX13_one_142 ?_
              refine lv_iload_n hx hb dX13_one_145 rfl (lv_at hl 5 rfl) ?_
              refine mLd14 C V (vin (N := 8) rfl (h1.1) (h1.2)) dX13_one_146 ?_
              refine lv_if_ge (tgt := 157) hx hb dX13_one_147 (by decide) (fun c39 => ?_) (fun c39 => ?_)
              · refine lv_iload_n hx hb dX13_one_157 rfl (lv_at hl 2 rfl) ?_
                refine lv_iconst (v := 5) hx hb dX13_one_158 (by decide) ?_
                refine lv_icmp_ne (tgt := 221) hx hb dX13_one_159 (by decide) (fun c40 => ?_) (fun c40 => ?_)
                · refine lv_iload_n hx hb dX13_one_221 rfl (lv_at hl 2 rfl) ?_
                  refine lv_bipush (v := 6) hx hb dX13_one_222 (by decide) ?_
                  refine lv_icmp_ne (tgt := 235) hx hb dX13_one_224 (by decide) (fun c41 => ?_) (fun c41 => ?_)
                  · refine lv_iload_n hx hb dX13_one_235 rfl (lv_at hl 2 rfl) ?_
                    refine lv_bipush (v := 33) hx hb dX13_one_236 (by decide) ?_
                    refine lv_icmp_ne (tgt := 255) hx hb dX13_one_238 (by decide) (fun c42 => ?_) (fun c42 => ?_)
                    · refine lv_iload_n hx hb dX13_one_255 rfl (lv_at hl 2 rfl) ?_
                      refine lv_bipush (v := 6) hx hb dX13_one_256 (by decide) ?_
                      refine lv_icmp_le (tgt := 273) hx hb dX13_one_258 (by decide) (fun c43 => ?_) (fun c43 => ?_)
                      · exact j_one_273 l D cs o ad A S t h1 h2 h3 C hml hr hlk x19 S8 _ _ _ (by clear V hS hl C hts hown hx hb hml hr hlk; first | exact ⟨on_irr on nope9 (by simp [smK]), o5⟩ | exact ⟨on_irr on nope9 (by simp [smK]), o5⟩ | exact ⟨on_irr (on_irr on nope9 (by simp [smK])) nope9 (by simp [smK]), o5⟩ | exact ⟨on_irr on nope9 (by simp [smK]), o5⟩ | exact ⟨on_pas on nope9 nope9, o5⟩ | exact ⟨on, o5⟩ | exact ⟨hj150.1, hj150.2⟩ | exact hj198.1 | exact ⟨on_irr (on_irr hj198.1.1 nope9 (by simp [smK])) nope9 (by simp [smK]), hj198.1.2⟩) V hS (lv_sub hl [4, 5, 0] rfl)
                      · refine lv_aload_n hx hb dX13_one_261 rfl (lv_at hl 4 rfl) ?_
                        refine lv_iload_n hx hb dX13_one_262 rfl (lv_at hl 5 rfl) ?_
                        refine lv_iload_n hx hb dX13_one_263 rfl (lv_at hl 2 rfl) ?_
                        refine lv_iload hx hb dX13_one_264 (lv_at hl 1 rfl) ?_
                        refine mGoI (mRunV (As := [.int t, .int r14, .int r17]) (rest := []) C hml V (c_with l D cs o ad A S8 t r14 r17  (on.2.1) (on.1)) gM_with okM_with ⟨rfl, rfl, Nat.le_of_ble_eq_true rfl, Nat.le_of_ble_eq_true rfl⟩ hl.1 rfl (Nat.le_of_ble_eq_true rfl) dX13_one_266 ⟨Nat.zero_le _, Nat.zero_le _⟩) hS (fun r45 S44 H locs hq46 V hS => ?_)
                        refine lv_if_ne (tgt := 273) hx hb dX13_one_269 (by decide) (fun c47 => ?_) (fun c47 => ?_)
                        · exact j_one_273 l D cs o ad A S t h1 h2 h3 C hml hr hlk x19 S44 _ _ _ (by clear V hS hl C hts hown hx hb hml hr hlk; first | exact ⟨on_irr on nope9 (by simp [smK]), o5⟩ | exact ⟨on_irr on nope9 (by simp [smK]), o5⟩ | exact ⟨on_irr (on_irr on nope9 (by simp [smK])) nope9 (by simp [smK]), o5⟩ | exact ⟨on_irr on nope9 (by simp [smK]), o5⟩ | exact ⟨on_pas on hq46 c47, o5⟩ | exact ⟨on, o5⟩ | exact ⟨hj150.1, hj150.2⟩ | exact hj198.1 | exact ⟨on_irr (on_irr hj198.1.1 nope9 (by simp [smK])) nope9 (by simp [smK]), hj198.1.2⟩) V hS (lv_sub hl [4, 5, 0] rfl)
                        · exact mRetV C hr hlk V hS (⟨hq46.1, (hq46.2.1 2).trans on.2.2⟩) dX13_one_272
                    · refine lv_aload_n hx hb dX13_one_241 rfl (lv_at hl 4 rfl) ?_
                      refine mG14 C V dX13_one_242 ?_
                      refine lv_iload_n hx hb dX13_one_245 rfl (lv_at hl 5 rfl) ?_
                      refine lv_aload_n hx hb dX13_one_246 rfl (lv_at hl 4 rfl) ?_
                      refine mG24 C V dX13_one_247 ?_
                      refine lv_l2i hx hb dX13_one_250 rfl ?_
                      refine mSt14 C V hS (vin (N := 8) rfl (h1.1) (h1.2)) dX13_one_251 (fun S48 H locs eS48 V hS => ?_)
                      refine lv_goto (tgt := 273) hx hb dX13_one_252 (by decide) ?_
                      exact j_one_273 l D cs o ad A S t h1 h2 h3 C hml hr hlk x19 S48 _ _ _ (by clear V hS hl C hts hown hx hb hml hr hlk; first | exact ⟨on_irr on nope9 (by simp [smK]), o5⟩ | exact ⟨on_irr on nope9 (by simp [smK]), o5⟩ | exact ⟨on_irr (on_irr on nope9 (by simp [smK])) nope9 (by simp [smK]), o5⟩ | exact ⟨on_irr on eS48 (by simp [smK]), o5⟩ | exact ⟨on_pas on nope9 nope9, o5⟩ | exact ⟨on, o5⟩ | exact ⟨hj150.1, hj150.2⟩ | exact hj198.1 | exact ⟨on_irr (on_irr hj198.1.1 nope9 (by simp [smK])) nope9 (by simp [smK]), hj198.1.2⟩) V hS (lv_sub hl [4, 5, 0] rfl)
                  · refine lv_aload_n hx hb dX13_one_227 rfl (lv_at hl 4 rfl) ?_
                    refine mG13 C V dX13_one_228 ?_
                    refine lv_iload_n hx hb dX13_one_231 rfl (lv_at hl 5 rfl) ?_
                    refine lv_iconst (v := 4) hx hb dX13_one_232 (by decide) ?_
                    refine mSt13 C V hS (vin (N := 8) rfl (h1.1) (h1.2)) dX13_one_233 (fun S49 H locs eS49 V hS => ?_)
                    exact mRetV C hr hlk V hS (on_st on eS49 (Or.inr rfl)) dX13_one_234
                · refine lv_iload hx hb dX13_one_162 (lv_at hl 1 rfl) ?_
                  refine lv_if_le (tgt := 198) hx hb dX13_one_164 (by decide) (fun c50 => ?_) (fun c50 => ?_)
                  · exact j_one_198 l D cs o ad A S t h1 h2 h3 C hml hr hlk r17 x19 S8 _ _ _ (⟨on, o5⟩) V hS (lv_sub hl [4, 5, 1, 0] rfl)
                  · refine lv_aload_n hx hb dX13_one_167 rfl (lv_at hl 4 rfl) ?_
                    refine mG20 C V dX13_one_168 ?_
                    refine lv_iload_n hx hb dX13_one_171 rfl (lv_at hl 5 rfl) ?_
                    refine mLd20 C V (vin (N := 8) rfl (h1.1) (h1.2)) dX13_one_172 ?_
                    refine lv_if_ne (tgt := 198) hx hb dX13_one_173 (by decide) (fun c51 => ?_) (fun c51 => ?_)
                    · exact j_one_198 l D cs o ad A S t h1 h2 h3 C hml hr hlk r17 x19 S8 _ _ _ (⟨on, o5⟩) V hS (lv_sub hl [4, 5, 1, 0] rfl)
                    · refine lv_aload_n hx hb dX13_one_176 rfl (lv_at hl 4 rfl) ?_
                      refine mG13 C V dX13_one_177 ?_
                      refine lv_iload_n hx hb dX13_one_180 rfl (lv_at hl 5 rfl) ?_
                      refine lv_iconst (v := 3) hx hb dX13_one_181 (by decide) ?_
                      refine mSt13 C V hS (vin (N := 8) rfl (h1.1) (h1.2)) dX13_one_182 (fun S52 H locs eS52 V hS => ?_)
                      refine lv_aload_n hx hb dX13_one_183 rfl (lv_at hl 4 rfl) ?_
                      refine mG23 C V dX13_one_184 ?_
                      refine lv_iload_n hx hb dX13_one_187 rfl (lv_at hl 5 rfl) ?_
                      refine lv_aload_n hx hb dX13_one_188 rfl (lv_at hl 4 rfl) ?_
                      refine mG24 C V dX13_one_189 ?_
                      refine lv_iload hx hb dX13_one_192 (lv_at hl 1 rfl) ?_
                      refine lv_i2l hx hb dX13_one_194 rfl ?_
                      refine lv_ladd hx hb dX13_one_195 ?_
                      refine mSt23 C V hS (vin (N := 8) rfl (h1.1) (h1.2)) dX13_one_196 (fun S53 H locs eS53 V hS => ?_)
                      exact mRetV C hr hlk V hS (on_L (on_st on eS52 (Or.inl rfl)) eS53) dX13_one_197
              · exact j_one_150 l D cs o ad A S t h1 h2 h3 C hml hr hlk r17 S8 _ _ _ (⟨on, on_jmp on.1 on.2.1 hq15 hq18 (by clear V hS hl C hts hown hx hb hml hr hlk; first | (rw [c22]; decide) | (rw [c23]; decide) | (rw [c24]; decide))⟩) V hS (lv_sub hl [4, 5, 1] rfl)
          · refine lv_aload_n hx hb dX13_one_127 rfl (lv_at hl 4 rfl) ?_
            refine mG14 C V dX13_one_128 ?_
            refine lv_iload_n hx hb dX13_one_131 rfl (lv_at hl 5 rfl) ?_
            refine mLd14 C V (vin (N := 8) rfl (h1.1) (h1.2)) dX13_one_132 ?_
            refine lv_if_eq (tgt := 150) hx hb dX13_one_133 (by decide) (fun c54 => ?_) (fun c54 => ?_)
            · exact j_one_150 l D cs o ad A S t h1 h2 h3 C hml hr hlk r17 S8 _ _ _ (⟨on, on_jmp on.1 on.2.1 hq15 hq18 (by clear V hS hl C hts hown hx hb hml hr hlk; first | (rw [c22]; decide) | (rw [c23]; decide) | (rw [nope9]; decide))⟩) V hS (lv_sub hl [4, 5, 1] rfl)
            · refine lv_iload_n hx hb dX13_one_136 rfl (lv_at hl 2 rfl) ?_
              refine lv_iconst (v := 4) hx hb dX13_one_137 (by decide) ?_
              refine lv_icmp_ne (tgt := 157) hx hb dX13_one_138 (by decide) (fun c55 => ?_) (fun c55 => ?_)
              · refine lv_iload_n hx hb dX13_one_157 rfl (lv_at hl 2 rfl) ?_
                refine lv_iconst (v := 5) hx hb dX13_one_158 (by decide) ?_
                refine lv_icmp_ne (tgt := 221) hx hb dX13_one_159 (by decide) (fun c56 => ?_) (fun c56 => ?_)
                · refine lv_iload_n hx hb dX13_one_221 rfl (lv_at hl 2 rfl) ?_
                  refine lv_bipush (v := 6) hx hb dX13_one_222 (by decide) ?_
                  refine lv_icmp_ne (tgt := 235) hx hb dX13_one_224 (by decide) (fun c57 => ?_) (fun c57 => ?_)
                  · refine lv_iload_n hx hb dX13_one_235 rfl (lv_at hl 2 rfl) ?_
                    refine lv_bipush (v := 33) hx hb dX13_one_236 (by decide) ?_
                    refine lv_icmp_ne (tgt := 255) hx hb dX13_one_238 (by decide) (fun c58 => ?_) (fun c58 => ?_)
                    · refine lv_iload_n hx hb dX13_one_255 rfl (lv_at hl 2 rfl) ?_
                      refine lv_bipush (v := 6) hx hb dX13_one_256 (by decide) ?_
                      refine lv_icmp_le (tgt := 273) hx hb dX13_one_258 (by decide) (fun c59 => ?_) (fun c59 => ?_)
                      · exact j_one_273 l D cs o ad A S t h1 h2 h3 C hml hr hlk x19 S8 _ _ _ (by clear V hS hl C hts hown hx hb hml hr hlk; first | exact ⟨on_irr on nope9 (by simp [smK]), o5⟩ | exact ⟨on_irr on nope9 (by simp [smK]), o5⟩ | exact ⟨on_irr (on_irr on nope9 (by simp [smK])) nope9 (by simp [smK]), o5⟩ | exact ⟨on_irr on nope9 (by simp [smK]), o5⟩ | exact ⟨on_pas on nope9 nope9, o5⟩ | exact ⟨on, o5⟩ | exact ⟨hj150.1, hj150.2⟩ | exact hj198.1 | exact ⟨on_irr (on_irr hj198.1.1 nope9 (by simp [smK])) nope9 (by simp [smK]), hj198.1.2⟩) V hS (lv_sub hl [4, 5, 0] rfl)
                      · refine lv_aload_n hx hb dX13_one_261 rfl (lv_at hl 4 rfl) ?_
                        refine lv_iload_n hx hb dX13_one_262 rfl (lv_at hl 5 rfl) ?_
                        refine lv_iload_n hx hb dX13_one_263 rfl (lv_at hl 2 rfl) ?_
                        refine lv_iload hx hb dX13_one_264 (lv_at hl 1 rfl) ?_
                        refine mGoI (mRunV (As := [.int t, .int r14, .int r17]) (rest := []) C hml V (c_with l D cs o ad A S8 t r14 r17  (on.2.1) (on.1)) gM_with okM_with ⟨rfl, rfl, Nat.le_of_ble_eq_true rfl, Nat.le_of_ble_eq_true rfl⟩ hl.1 rfl (Nat.le_of_ble_eq_true rfl) dX13_one_266 ⟨Nat.zero_le _, Nat.zero_le _⟩) hS (fun r61 S60 H locs hq62 V hS => ?_)
                        refine lv_if_ne (tgt := 273) hx hb dX13_one_269 (by decide) (fun c63 => ?_) (fun c63 => ?_)
                        · exact j_one_273 l D cs o ad A S t h1 h2 h3 C hml hr hlk x19 S60 _ _ _ (by clear V hS hl C hts hown hx hb hml hr hlk; first | exact ⟨on_irr on nope9 (by simp [smK]), o5⟩ | exact ⟨on_irr on nope9 (by simp [smK]), o5⟩ | exact ⟨on_irr (on_irr on nope9 (by simp [smK])) nope9 (by simp [smK]), o5⟩ | exact ⟨on_irr on nope9 (by simp [smK]), o5⟩ | exact ⟨on_pas on hq62 c63, o5⟩ | exact ⟨on, o5⟩ | exact ⟨hj150.1, hj150.2⟩ | exact hj198.1 | exact ⟨on_irr (on_irr hj198.1.1 nope9 (by simp [smK])) nope9 (by simp [smK]), hj198.1.2⟩) V hS (lv_sub hl [4, 5, 0] rfl)
                        · exact mRetV C hr hlk V hS (⟨hq62.1, (hq62.2.1 2).trans on.2.2⟩) dX13_one_272
                    · refine lv_aload_n hx hb dX13_one_241 rfl (lv_at hl 4 rfl) ?_
                      refine mG14 C V dX13_one_242 ?_
                      refine lv_iload_n hx hb dX13_one_245 rfl (lv_at hl 5 rfl) ?_
                      refine lv_aload_n hx hb dX13_one_246 rfl (lv_at hl 4 rfl) ?_
                      refine mG24 C V dX13_one_247 ?_
                      refine lv_l2i hx hb dX13_one_250 rfl ?_
                      refine mSt14 C V hS (vin (N := 8) rfl (h1.1) (h1.2)) dX13_one_251 (fun S64 H locs eS64 V hS => ?_)
                      refine lv_goto (tgt := 273) hx hb dX13_one_252 (by decide) ?_
                      exact j_one_273 l D cs o ad A S t h1 h2 h3 C hml hr hlk x19 S64 _ _ _ (by clear V hS hl C hts hown hx hb hml hr hlk; first | exact ⟨on_irr on nope9 (by simp [smK]), o5⟩ | exact ⟨on_irr on nope9 (by simp [smK]), o5⟩ | exact ⟨on_irr (on_irr on nope9 (by simp [smK])) nope9 (by simp [smK]), o5⟩ | exact ⟨on_irr on eS64 (by simp [smK]), o5⟩ | exact ⟨on_pas on nope9 nope9, o5⟩ | exact ⟨on, o5⟩ | exact ⟨hj150.1, hj150.2⟩ | exact hj198.1 | exact ⟨on_irr (on_irr hj198.1.1 nope9 (by simp [smK])) nope9 (by simp [smK]), hj198.1.2⟩) V hS (lv_sub hl [4, 5, 0] rfl)
                  · refine lv_aload_n hx hb dX13_one_227 rfl (lv_at hl 4 rfl) ?_
                    refine mG13 C V dX13_one_228 ?_
                    refine lv_iload_n hx hb dX13_one_231 rfl (lv_at hl 5 rfl) ?_
                    refine lv_iconst (v := 4) hx hb dX13_one_232 (by decide) ?_
                    refine mSt13 C V hS (vin (N := 8) rfl (h1.1) (h1.2)) dX13_one_233 (fun S65 H locs eS65 V hS => ?_)
                    exact mRetV C hr hlk V hS (on_st on eS65 (Or.inr rfl)) dX13_one_234
                · refine lv_iload hx hb dX13_one_162 (lv_at hl 1 rfl) ?_
                  refine lv_if_le (tgt := 198) hx hb dX13_one_164 (by decide) (fun c66 => ?_) (fun c66 => ?_)
                  · exact j_one_198 l D cs o ad A S t h1 h2 h3 C hml hr hlk r17 x19 S8 _ _ _ (⟨on, o5⟩) V hS (lv_sub hl [4, 5, 1, 0] rfl)
                  · refine lv_aload_n hx hb dX13_one_167 rfl (lv_at hl 4 rfl) ?_
                    refine mG20 C V dX13_one_168 ?_
                    refine lv_iload_n hx hb dX13_one_171 rfl (lv_at hl 5 rfl) ?_
                    refine mLd20 C V (vin (N := 8) rfl (h1.1) (h1.2)) dX13_one_172 ?_
                    refine lv_if_ne (tgt := 198) hx hb dX13_one_173 (by decide) (fun c67 => ?_) (fun c67 => ?_)
                    · exact j_one_198 l D cs o ad A S t h1 h2 h3 C hml hr hlk r17 x19 S8 _ _ _ (⟨on, o5⟩) V hS (lv_sub hl [4, 5, 1, 0] rfl)
                    · refine lv_aload_n hx hb dX13_one_176 rfl (lv_at hl 4 rfl) ?_
                      refine mG13 C V dX13_one_177 ?_
                      refine lv_iload_n hx hb dX13_one_180 rfl (lv_at hl 5 rfl) ?_
                      refine lv_iconst (v := 3) hx hb dX13_one_181 (by decide) ?_
                      refine mSt13 C V hS (vin (N := 8) rfl (h1.1) (h1.2)) dX13_one_182 (fun S68 H locs eS68 V hS => ?_)
                      refine lv_aload_n hx hb dX13_one_183 rfl (lv_at hl 4 rfl) ?_
                      refine mG23 C V dX13_one_184 ?_
                      refine lv_iload_n hx hb dX13_one_187 rfl (lv_at hl 5 rfl) ?_
                      refine lv_aload_n hx hb dX13_one_188 rfl (lv_at hl 4 rfl) ?_
                      refine mG24 C V dX13_one_189 ?_
                      refine lv_iload hx hb dX13_one_192 (lv_at hl 1 rfl) ?_
                      refine lv_i2l hx hb dX13_one_194 rfl ?_
                      refine lv_ladd hx hb dX13_one_195 ?_
                      refine mSt23 C V hS (vin (N := 8) rfl (h1.1) (h1.2)) dX13_one_196 (fun S69 H locs eS69 V hS => ?_)
                      exact mRetV C hr hlk V hS (on_L (on_st on eS68 (Or.inl rfl)) eS69) dX13_one_197
              · refine lv_aload_n hx hb dX13_one_141 rfl (lv_at hl 4 rfl) ?_
                refine mG14 C V dX13_one_142 ?_
                refine lv_iload_n hx hb dX13_one_145 rfl (lv_at hl 5 rfl) ?_
                refine mLd14 C V (vin (N := 8) rfl (h1.1) (h1.2)) dX13_one_146 ?_
                refine lv_if_ge (tgt := 157) hx hb dX13_one_147 (by decide) (fun c70 => ?_) (fun c70 => ?_)
                · refine lv_iload_n hx hb dX13_one_157 rfl (lv_at hl 2 rfl) ?_
                  refine lv_iconst (v := 5) hx hb dX13_one_158 (by decide) ?_
                  refine lv_icmp_ne (tgt := 221) hx hb dX13_one_159 (by decide) (fun c71 => ?_) (fun c71 => ?_)
                  · refine lv_iload_n hx hb dX13_one_221 rfl (lv_at hl 2 rfl) ?_
                    refine lv_bipush (v := 6) hx hb dX13_one_222 (by decide) ?_
                    refine lv_icmp_ne (tgt := 235) hx hb dX13_one_224 (by decide) (fun c72 => ?_) (fun c72 => ?_)
                    · refine lv_iload_n hx hb dX13_one_235 rfl (lv_at hl 2 rfl) ?_
                      refine lv_bipush (v := 33) hx hb dX13_one_236 (by decide) ?_
                      refine lv_icmp_ne (tgt := 255) hx hb dX13_one_238 (by decide) (fun c73 => ?_) (fun c73 => ?_)
                      · refine lv_iload_n hx hb dX13_one_255 rfl (lv_at hl 2 rfl) ?_
                        refine lv_bipush (v := 6) hx hb dX13_one_256 (by decide) ?_
                        refine lv_icmp_le (tgt := 273) hx hb dX13_one_258 (by decide) (fun c74 => ?_) (fun c74 => ?_)
                        · exact j_one_273 l D cs o ad A S t h1 h2 h3 C hml hr hlk x19 S8 _ _ _ (by clear V hS hl C hts hown hx hb hml hr hlk; first | exact ⟨on_irr on nope9 (by simp [smK]), o5⟩ | exact ⟨on_irr on nope9 (by simp [smK]), o5⟩ | exact ⟨on_irr (on_irr on nope9 (by simp [smK])) nope9 (by simp [smK]), o5⟩ | exact ⟨on_irr on nope9 (by simp [smK]), o5⟩ | exact ⟨on_pas on nope9 nope9, o5⟩ | exact ⟨on, o5⟩ | exact ⟨hj150.1, hj150.2⟩ | exact hj198.1 | exact ⟨on_irr (on_irr hj198.1.1 nope9 (by simp [smK])) nope9 (by simp [smK]), hj198.1.2⟩) V hS (lv_sub hl [4, 5, 0] rfl)
                        · refine lv_aload_n hx hb dX13_one_261 rfl (lv_at hl 4 rfl) ?_
                          refine lv_iload_n hx hb dX13_one_262 rfl (lv_at hl 5 rfl) ?_
                          refine lv_iload_n hx hb dX13_one_263 rfl (lv_at hl 2 rfl) ?_
                          refine lv_iload hx hb dX13_one_264 (lv_at hl 1 rfl) ?_
                          refine mGoI (mRunV (As := [.int t, .int r14, .int r17]) (rest := []) C hml V (c_with l D cs o ad A S8 t r14 r17  (on.2.1) (on.1)) gM_with okM_with ⟨rfl, rfl, Nat.le_of_ble_eq_true rfl, Nat.le_of_ble_eq_true rfl⟩ hl.1 rfl (Nat.le_of_ble_eq_true rfl) dX13_one_266 ⟨Nat.zero_le _, Nat.zero_le _⟩) hS (fun r76 S75 H locs hq77 V hS => ?_)
                          refine lv_if_ne (tgt := 273) hx hb dX13_one_269 (by decide) (fun c78 => ?_) (fun c78 => ?_)
                          · exact j_one_273 l D cs o ad A S t h1 h2 h3 C hml hr hlk x19 S75 _ _ _ (by clear V hS hl C hts hown hx hb hml hr hlk; first | exact ⟨on_irr on nope9 (by simp [smK]), o5⟩ | exact ⟨on_irr on nope9 (by simp [smK]), o5⟩ | exact ⟨on_irr (on_irr on nope9 (by simp [smK])) nope9 (by simp [smK]), o5⟩ | exact ⟨on_irr on nope9 (by simp [smK]), o5⟩ | exact ⟨on_pas on hq77 c78, o5⟩ | exact ⟨on, o5⟩ | exact ⟨hj150.1, hj150.2⟩ | exact hj198.1 | exact ⟨on_irr (on_irr hj198.1.1 nope9 (by simp [smK])) nope9 (by simp [smK]), hj198.1.2⟩) V hS (lv_sub hl [4, 5, 0] rfl)
                          · exact mRetV C hr hlk V hS (⟨hq77.1, (hq77.2.1 2).trans on.2.2⟩) dX13_one_272
                      · refine lv_aload_n hx hb dX13_one_241 rfl (lv_at hl 4 rfl) ?_
                        refine mG14 C V dX13_one_242 ?_
                        refine lv_iload_n hx hb dX13_one_245 rfl (lv_at hl 5 rfl) ?_
                        refine lv_aload_n hx hb dX13_one_246 rfl (lv_at hl 4 rfl) ?_
                        refine mG24 C V dX13_one_247 ?_
                        refine lv_l2i hx hb dX13_one_250 rfl ?_
                        refine mSt14 C V hS (vin (N := 8) rfl (h1.1) (h1.2)) dX13_one_251 (fun S79 H locs eS79 V hS => ?_)
                        refine lv_goto (tgt := 273) hx hb dX13_one_252 (by decide) ?_
                        exact j_one_273 l D cs o ad A S t h1 h2 h3 C hml hr hlk x19 S79 _ _ _ (by clear V hS hl C hts hown hx hb hml hr hlk; first | exact ⟨on_irr on nope9 (by simp [smK]), o5⟩ | exact ⟨on_irr on nope9 (by simp [smK]), o5⟩ | exact ⟨on_irr (on_irr on nope9 (by simp [smK])) nope9 (by simp [smK]), o5⟩ | exact ⟨on_irr on eS79 (by simp [smK]), o5⟩ | exact ⟨on_pas on nope9 nope9, o5⟩ | exact ⟨on, o5⟩ | exact ⟨hj150.1, hj150.2⟩ | exact hj198.1 | exact ⟨on_irr (on_irr hj198.1.1 nope9 (by simp [smK])) nope9 (by simp [smK]), hj198.1.2⟩) V hS (lv_sub hl [4, 5, 0] rfl)
                    · refine lv_aload_n hx hb dX13_one_227 rfl (lv_at hl 4 rfl) ?_
                      refine mG13 C V dX13_one_228 ?_
                      refine lv_iload_n hx hb dX13_one_231 rfl (lv_at hl 5 rfl) ?_
                      refine lv_iconst (v := 4) hx hb dX13_one_232 (by decide) ?_
                      refine mSt13 C V hS (vin (N := 8) rfl (h1.1) (h1.2)) dX13_one_233 (fun S80 H locs eS80 V hS => ?_)
                      exact mRetV C hr hlk V hS (on_st on eS80 (Or.inr rfl)) dX13_one_234
                  · refine lv_iload hx hb dX13_one_162 (lv_at hl 1 rfl) ?_
                    refine lv_if_le (tgt := 198) hx hb dX13_one_164 (by decide) (fun c81 => ?_) (fun c81 => ?_)
                    · exact j_one_198 l D cs o ad A S t h1 h2 h3 C hml hr hlk r17 x19 S8 _ _ _ (⟨on, o5⟩) V hS (lv_sub hl [4, 5, 1, 0] rfl)
                    · refine lv_aload_n hx hb dX13_one_167 rfl (lv_at hl 4 rfl) ?_
                      refine mG20 C V dX13_one_168 ?_
                      refine lv_iload_n hx hb dX13_one_171 rfl (lv_at hl 5 rfl) ?_
                      refine mLd20 C V (vin (N := 8) rfl (h1.1) (h1.2)) dX13_one_172 ?_
                      refine lv_if_ne (tgt := 198) hx hb dX13_one_173 (by decide) (fun c82 => ?_) (fun c82 => ?_)
                      · exact j_one_198 l D cs o ad A S t h1 h2 h3 C hml hr hlk r17 x19 S8 _ _ _ (⟨on, o5⟩) V hS (lv_sub hl [4, 5, 1, 0] rfl)
                      · refine lv_aload_n hx hb dX13_one_176 rfl (lv_at hl 4 rfl) ?_
                        refine mG13 C V dX13_one_177 ?_
                        refine lv_iload_n hx hb dX13_one_180 rfl (lv_at hl 5 rfl) ?_
                        refine lv_iconst (v := 3) hx hb dX13_one_181 (by decide) ?_
                        refine mSt13 C V hS (vin (N := 8) rfl (h1.1) (h1.2)) dX13_one_182 (fun S83 H locs eS83 V hS => ?_)
                        refine lv_aload_n hx hb dX13_one_183 rfl (lv_at hl 4 rfl) ?_
                        refine mG23 C V dX13_one_184 ?_
                        refine lv_iload_n hx hb dX13_one_187 rfl (lv_at hl 5 rfl) ?_
                        refine lv_aload_n hx hb dX13_one_188 rfl (lv_at hl 4 rfl) ?_
                        refine mG24 C V dX13_one_189 ?_
                        refine lv_iload hx hb dX13_one_192 (lv_at hl 1 rfl) ?_
                        refine lv_i2l hx hb dX13_one_194 rfl ?_
                        refine lv_ladd hx hb dX13_one_195 ?_
                        refine mSt23 C V hS (vin (N := 8) rfl (h1.1) (h1.2)) dX13_one_196 (fun S84 H locs eS84 V hS => ?_)
                        exact mRetV C hr hlk V hS (on_L (on_st on eS83 (Or.inl rfl)) eS84) dX13_one_197
                · exact j_one_150 l D cs o ad A S t h1 h2 h3 C hml hr hlk r17 S8 _ _ _ (⟨on, on_jmp on.1 on.2.1 hq15 hq18 (by clear V hS hl C hts hown hx hb hml hr hlk; first | (rw [c22]; decide) | (rw [c23]; decide) | (rw [c55]; decide))⟩) V hS (lv_sub hl [4, 5, 1] rfl)
      · refine lv_aload_n hx hb dX13_one_103 rfl (lv_at hl 4 rfl) ?_
        refine mG14 C V dX13_one_104 ?_
        refine lv_iload_n hx hb dX13_one_107 rfl (lv_at hl 5 rfl) ?_
        refine lv_dup2_11 hx hb dX13_one_108 rfl rfl ?_
        refine mLd14 C V (vin (N := 8) rfl (h1.1) (h1.2)) dX13_one_109 ?_
        refine lv_iload hx hb dX13_one_110 (lv_at hl 1 rfl) ?_
        refine lv_iadd hx hb dX13_one_112 ?_
        refine mSt14 C V hS (vin (N := 8) rfl (h1.1) (h1.2)) dX13_one_113 (fun S85 H locs eS85 V hS => ?_)
        refine lv_goto (tgt := 273) hx hb dX13_one_114 (by decide) ?_
        exact j_one_273 l D cs o ad A S t h1 h2 h3 C hml hr hlk x19 S85 _ _ _ (by clear V hS hl C hts hown hx hb hml hr hlk; first | exact ⟨on_irr on nope9 (by simp [smK]), o5⟩ | exact ⟨on_irr on eS85 (by simp [smK]), o5⟩ | exact ⟨on_irr (on_irr on nope9 (by simp [smK])) nope9 (by simp [smK]), o5⟩ | exact ⟨on_irr on nope9 (by simp [smK]), o5⟩ | exact ⟨on_pas on nope9 nope9, o5⟩ | exact ⟨on, o5⟩ | exact ⟨hj150.1, hj150.2⟩ | exact hj198.1 | exact ⟨on_irr (on_irr hj198.1.1 nope9 (by simp [smK])) nope9 (by simp [smK]), hj198.1.2⟩) V hS (lv_sub hl [4, 5, 0] rfl)
    · refine lv_aload_n hx hb dX13_one_87 rfl (lv_at hl 4 rfl) ?_
      refine mG14 C V dX13_one_88 ?_
      refine lv_iload_n hx hb dX13_one_91 rfl (lv_at hl 5 rfl) ?_
      refine lv_iload hx hb dX13_one_92 (lv_at hl 1 rfl) ?_
      refine mSt14 C V hS (vin (N := 8) rfl (h1.1) (h1.2)) dX13_one_94 (fun S86 H locs eS86 V hS => ?_)
      refine lv_goto (tgt := 273) hx hb dX13_one_95 (by decide) ?_
      exact j_one_273 l D cs o ad A S t h1 h2 h3 C hml hr hlk x19 S86 _ _ _ (by clear V hS hl C hts hown hx hb hml hr hlk; first | exact ⟨on_irr on eS86 (by simp [smK]), o5⟩ | exact ⟨on_irr on nope9 (by simp [smK]), o5⟩ | exact ⟨on_irr (on_irr on nope9 (by simp [smK])) nope9 (by simp [smK]), o5⟩ | exact ⟨on_irr on nope9 (by simp [smK]), o5⟩ | exact ⟨on_pas on nope9 nope9, o5⟩ | exact ⟨on, o5⟩ | exact ⟨hj150.1, hj150.2⟩ | exact hj198.1 | exact ⟨on_irr (on_irr hj198.1.1 nope9 (by simp [smK])) nope9 (by simp [smK]), hj198.1.2⟩) V hS (lv_sub hl [4, 5, 0] rfl)
  · have b9 : (0 ≤ r10 ∧ r10 < 24) ∧ gA S8 28 r10 = 1 ∧ ∃ i, 0 ≤ i ∧ i < gA S8 33 r10 ∧ gA S8 32 (8 * r10 + i) = t := by
      rcases hq11 with q | q
      · exact absurd (show r10 < 0 by rw [q.1]; decide) c12
      · exact ⟨⟨q.1, q.2.1⟩, q.2.2.1, q.2.2.2⟩
    refine lv_aload_n hx hb dX13_one_25 rfl (lv_at hl 1 rfl) ?_
    refine mG31 C V dX13_one_26 ?_
    refine lv_iload_n hx hb dX13_one_29 rfl (lv_at hl 0 rfl) ?_
    refine mLd31 C V (vin (N := 24) rfl (b9.1.1) (b9.1.2)) dX13_one_30 ?_
    refine lv_if_ge (tgt := 43) hx hb dX13_one_31 (by decide) (fun c87 => ?_) (fun c87 => ?_)
    · refine lv_aload_n hx hb dX13_one_43 rfl (lv_at hl 1 rfl) ?_
      refine mG13 C V dX13_one_44 ?_
      refine lv_iload_n hx hb dX13_one_47 rfl (lv_at hl 2 rfl) ?_
      refine lv_iconst (v := 2) hx hb dX13_one_48 (by decide) ?_
      refine mSt13 C V hS (vin (N := 8) rfl (h1.1) (h1.2)) dX13_one_49 (fun S88 H locs eS88 V hS => ?_)
      refine lv_aload_n hx hb dX13_one_50 rfl (lv_at hl 1 rfl) ?_
      refine mG16 C V dX13_one_51 ?_
      refine lv_iload_n hx hb dX13_one_54 rfl (lv_at hl 2 rfl) ?_
      refine lv_iload_n hx hb dX13_one_55 rfl (lv_at hl 0 rfl) ?_
      refine mSt16 C V hS (vin (N := 8) rfl (h1.1) (h1.2)) dX13_one_56 (fun S89 H locs eS89 V hS => ?_)
      exact mRetV C hr hlk V hS (by clear V hS hl C hts hown hx hb hml hr hlk; first | exact ⟨nope9.1.1, (nope9.1.2.1 2).trans a2⟩ | (obtain ⟨q1, q2⟩ := one_w b9.1 a1 b9.2.2 eS88 eS89; exact ⟨q1, q2.trans a2⟩)) dX13_one_57
    · refine lv_aload_n hx hb dX13_one_34 rfl (lv_at hl 1 rfl) ?_
      refine lv_iload_n hx hb dX13_one_35 rfl (lv_at hl 0 rfl) ?_
      refine lv_iload_n hx hb dX13_one_36 rfl (lv_at hl 2 rfl) ?_
      refine mGoV (mRunV (As := [.int r10, .int t]) (rest := []) C hml V (c_has l D cs o ad A S8 r10 t  (b9.1) (a1) (b9.2.1) (b9.2.2)) gM_has okM_has ⟨rfl, rfl, Nat.le_of_ble_eq_true rfl, Nat.le_of_ble_eq_true rfl⟩ hl.1 rfl (Nat.le_of_ble_eq_true rfl) dX13_one_37 ⟨Nat.zero_le _, Nat.zero_le _⟩) hS (fun S90 H locs hq92 V hS => ?_)
      refine lv_goto (tgt := 57) hx hb dX13_one_40 (by decide) ?_
      exact mRetV C hr hlk V hS (by clear V hS hl C hts hown hx hb hml hr hlk; first | exact ⟨hq92.1.1, (hq92.1.2.1 2).trans a2⟩ | (obtain ⟨q1, q2⟩ := one_w b9.1 a1 b9.2.2 nope9 nope9; exact ⟨q1, q2.trans a2⟩)) dX13_one_57
end
