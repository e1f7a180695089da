section
-- ===== PART A: goes FIRST, ahead of the names: the tables' words, and 'selects' of the private methods out of them =====
/-- a private method of a class that the tables say can be made, by its rows of tables_1 -/
def lw_okq (q : MethodName × Nat) : Prop := (q.1.cls ≠ "java/lang/invoke/MethodHandle" ∧ q.1.cls ≠ "java/lang/invoke/VarHandle") ∧ Cond.instantiable q.1.cls q.2 ∈ tables_1 ∧ Cond.privateMethod q.1 ∈ tables_1 ∧ Cond.instanceMethod q.1 ∈ tables_1
theorem lw_p0 : lw_okq (⟨"TurnKeeper", "blockerOf", "(I)I"⟩, 6) := ⟨⟨by decide +kernel, by decide +kernel⟩, List.mem_of_getElem? (i := 29) (by decide +kernel), List.mem_of_getElem? (i := 157) (by decide +kernel), List.mem_of_getElem? (i := 158) (by decide +kernel)⟩
theorem lw_p1 : lw_okq (⟨"java/lang/Throwable", "fillInStackTrace", "(I)Ljava/lang/Throwable;"⟩, 6) := ⟨⟨by decide +kernel, by decide +kernel⟩, List.mem_of_getElem? (i := 210) (by decide +kernel), List.mem_of_getElem? (i := 208) (by decide +kernel), List.mem_of_getElem? (i := 209) (by decide +kernel)⟩
theorem lw_p2 : lw_okq (⟨"TurnKeeper", "leastFree", "()I"⟩, 6) := ⟨⟨by decide +kernel, by decide +kernel⟩, List.mem_of_getElem? (i := 29) (by decide +kernel), List.mem_of_getElem? (i := 279) (by decide +kernel), List.mem_of_getElem? (i := 280) (by decide +kernel)⟩
theorem lw_p3 : lw_okq (⟨"TurnKeeper", "howManySyncs", "()I"⟩, 6) := ⟨⟨by decide +kernel, by decide +kernel⟩, List.mem_of_getElem? (i := 29) (by decide +kernel), List.mem_of_getElem? (i := 487) (by decide +kernel), List.mem_of_getElem? (i := 488) (by decide +kernel)⟩
theorem lw_p4 : lw_okq (⟨"TurnKeeper$Tape", "skipBlanks", "()V"⟩, 6) := ⟨⟨by decide +kernel, by decide +kernel⟩, List.mem_of_getElem? (i := 37) (by decide +kernel), List.mem_of_getElem? (i := 503) (by decide +kernel), List.mem_of_getElem? (i := 504) (by decide +kernel)⟩
theorem lw_p5 : lw_okq (⟨"TurnKeeper$Tape", "here", "()I"⟩, 6) := ⟨⟨by decide +kernel, by decide +kernel⟩, List.mem_of_getElem? (i := 37) (by decide +kernel), List.mem_of_getElem? (i := 507) (by decide +kernel), List.mem_of_getElem? (i := 508) (by decide +kernel)⟩
theorem lw_p6 : lw_okq (⟨"TurnKeeper$Tape", "readInstruction", "(I)Z"⟩, 6) := ⟨⟨by decide +kernel, by decide +kernel⟩, List.mem_of_getElem? (i := 37) (by decide +kernel), List.mem_of_getElem? (i := 511) (by decide +kernel), List.mem_of_getElem? (i := 512) (by decide +kernel)⟩
theorem lw_p7 : lw_okq (⟨"TurnKeeper$Tape", "wordAt", "(I)I"⟩, 6) := ⟨⟨by decide +kernel, by decide +kernel⟩, List.mem_of_getElem? (i := 37) (by decide +kernel), List.mem_of_getElem? (i := 515) (by decide +kernel), List.mem_of_getElem? (i := 516) (by decide +kernel)⟩
theorem lw_p8 : lw_okq (⟨"TurnKeeper$Tape", "isText", "(ILjava/lang/String;)Z"⟩, 6) := ⟨⟨by decide +kernel, by decide +kernel⟩, List.mem_of_getElem? (i := 37) (by decide +kernel), List.mem_of_getElem? (i := 521) (by decide +kernel), List.mem_of_getElem? (i := 522) (by decide +kernel)⟩
theorem lw_p9 : lw_okq (⟨"TurnKeeper$Tape", "broken", "(I)Z"⟩, 6) := ⟨⟨by decide +kernel, by decide +kernel⟩, List.mem_of_getElem? (i := 37) (by decide +kernel), List.mem_of_getElem? (i := 573) (by decide +kernel), List.mem_of_getElem? (i := 574) (by decide +kernel)⟩
theorem lw_p10 : lw_okq (⟨"TurnKeeper$Tape", "store", "(II)V"⟩, 6) := ⟨⟨by decide +kernel, by decide +kernel⟩, List.mem_of_getElem? (i := 37) (by decide +kernel), List.mem_of_getElem? (i := 577) (by decide +kernel), List.mem_of_getElem? (i := 578) (by decide +kernel)⟩
theorem lw_p11 : lw_okq (⟨"TurnKeeper$Tape", "readNumber", "(IC)Z"⟩, 6) := ⟨⟨by decide +kernel, by decide +kernel⟩, List.mem_of_getElem? (i := 37) (by decide +kernel), List.mem_of_getElem? (i := 581) (by decide +kernel), List.mem_of_getElem? (i := 582) (by decide +kernel)⟩
theorem lw_p12 : lw_okq (⟨"TurnKeeper", "strandAt", "(I)LTurnKeeper$Strand;"⟩, 6) := ⟨⟨by decide +kernel, by decide +kernel⟩, List.mem_of_getElem? (i := 29) (by decide +kernel), List.mem_of_getElem? (i := 619) (by decide +kernel), List.mem_of_getElem? (i := 620) (by decide +kernel)⟩
theorem lw_p13 : lw_okq (⟨"TurnKeeper", "takeTurn", "(LTurnKeeper$Strand;)V"⟩, 6) := ⟨⟨by decide +kernel, by decide +kernel⟩, List.mem_of_getElem? (i := 29) (by decide +kernel), List.mem_of_getElem? (i := 624) (by decide +kernel), List.mem_of_getElem? (i := 625) (by decide +kernel)⟩
theorem lw_p14 : lw_okq (⟨"TurnKeeper$Lock", "have", "(LTurnKeeper$Strand;)V"⟩, 7) := ⟨⟨by decide +kernel, by decide +kernel⟩, List.mem_of_getElem? (i := 301) (by decide +kernel), List.mem_of_getElem? (i := 632) (by decide +kernel), List.mem_of_getElem? (i := 633) (by decide +kernel)⟩
theorem lw_p15 : lw_okq (⟨"TurnKeeper$Strand", "codeAt", "(I)I"⟩, 13) := ⟨⟨by decide +kernel, by decide +kernel⟩, List.mem_of_getElem? (i := 71) (by decide +kernel), List.mem_of_getElem? (i := 652) (by decide +kernel), List.mem_of_getElem? (i := 653) (by decide +kernel)⟩
def lw_privs_1 : List (MethodName × Nat) := [(⟨"TurnKeeper", "blockerOf", "(I)I"⟩, 6), (⟨"java/lang/Throwable", "fillInStackTrace", "(I)Ljava/lang/Throwable;"⟩, 6), (⟨"TurnKeeper", "leastFree", "()I"⟩, 6), (⟨"TurnKeeper", "howManySyncs", "()I"⟩, 6), (⟨"TurnKeeper$Tape", "skipBlanks", "()V"⟩, 6), (⟨"TurnKeeper$Tape", "here", "()I"⟩, 6), (⟨"TurnKeeper$Tape", "readInstruction", "(I)Z"⟩, 6), (⟨"TurnKeeper$Tape", "wordAt", "(I)I"⟩, 6), (⟨"TurnKeeper$Tape", "isText", "(ILjava/lang/String;)Z"⟩, 6), (⟨"TurnKeeper$Tape", "broken", "(I)Z"⟩, 6), (⟨"TurnKeeper$Tape", "store", "(II)V"⟩, 6), (⟨"TurnKeeper$Tape", "readNumber", "(IC)Z"⟩, 6), (⟨"TurnKeeper", "strandAt", "(I)LTurnKeeper$Strand;"⟩, 6), (⟨"TurnKeeper", "takeTurn", "(LTurnKeeper$Strand;)V"⟩, 6), (⟨"TurnKeeper$Lock", "have", "(LTurnKeeper$Strand;)V"⟩, 7), (⟨"TurnKeeper$Strand", "codeAt", "(I)I"⟩, 13)]
theorem lw_r1 : ∀ q ∈ lw_privs_1, lw_okq q := List.forall_mem_cons.mpr ⟨lw_p0, List.forall_mem_cons.mpr ⟨lw_p1, List.forall_mem_cons.mpr ⟨lw_p2, List.forall_mem_cons.mpr ⟨lw_p3, List.forall_mem_cons.mpr ⟨lw_p4, List.forall_mem_cons.mpr ⟨lw_p5, List.forall_mem_cons.mpr ⟨lw_p6, List.forall_mem_cons.mpr ⟨lw_p7, List.forall_mem_cons.mpr ⟨lw_p8, List.forall_mem_cons.mpr ⟨lw_p9, List.forall_mem_cons.mpr ⟨lw_p10, List.forall_mem_cons.mpr ⟨lw_p11, List.forall_mem_cons.mpr ⟨lw_p12, List.forall_mem_cons.mpr ⟨lw_p13, List.forall_mem_cons.mpr ⟨lw_p14, List.forall_mem_cons.mpr ⟨lw_p15, fun _ h => absurd h List.not_mem_nil⟩⟩⟩⟩⟩⟩⟩⟩⟩⟩⟩⟩⟩⟩⟩⟩
theorem lw_p16 : lw_okq (⟨"TurnKeeper", "doAlone", "(LTurnKeeper$Strand;LTurnKeeper$Word;)V"⟩, 6) := ⟨⟨by decide +kernel, by decide +kernel⟩, List.mem_of_getElem? (i := 29) (by decide +kernel), List.mem_of_getElem? (i := 659) (by decide +kernel), List.mem_of_getElem? (i := 660) (by decide +kernel)⟩
theorem lw_p17 : lw_okq (⟨"TurnKeeper", "fallAsleep", "(LTurnKeeper$Strand;I)V"⟩, 6) := ⟨⟨by decide +kernel, by decide +kernel⟩, List.mem_of_getElem? (i := 29) (by decide +kernel), List.mem_of_getElem? (i := 681) (by decide +kernel), List.mem_of_getElem? (i := 682) (by decide +kernel)⟩
theorem lw_p18 : lw_okq (⟨"TurnKeeper", "syncAt", "(I)LTurnKeeper$Sync;"⟩, 6) := ⟨⟨by decide +kernel, by decide +kernel⟩, List.mem_of_getElem? (i := 29) (by decide +kernel), List.mem_of_getElem? (i := 690) (by decide +kernel), List.mem_of_getElem? (i := 691) (by decide +kernel)⟩
theorem lw_p19 : lw_okq (⟨"TurnKeeper$Gate", "leave", "(LTurnKeeper$Strand;)V"⟩, 5) := ⟨⟨by decide +kernel, by decide +kernel⟩, List.mem_of_getElem? (i := 421) (by decide +kernel), List.mem_of_getElem? (i := 722) (by decide +kernel), List.mem_of_getElem? (i := 723) (by decide +kernel)⟩
theorem lw_p20 : lw_okq (⟨"TurnKeeper$Gate", "rowGoesOn", "()V"⟩, 5) := ⟨⟨by decide +kernel, by decide +kernel⟩, List.mem_of_getElem? (i := 421) (by decide +kernel), List.mem_of_getElem? (i := 727) (by decide +kernel), List.mem_of_getElem? (i := 728) (by decide +kernel)⟩
theorem lw_p21 : lw_okq (⟨"TurnKeeper$Gate", "giveBack", "(LTurnKeeper$Strand;)V"⟩, 5) := ⟨⟨by decide +kernel, by decide +kernel⟩, List.mem_of_getElem? (i := 421) (by decide +kernel), List.mem_of_getElem? (i := 738) (by decide +kernel), List.mem_of_getElem? (i := 739) (by decide +kernel)⟩
theorem lw_p22 : lw_okq (⟨"TurnKeeper$Holder", "isGiven", "(I)Z"⟩, 5) := ⟨⟨by decide +kernel, by decide +kernel⟩, List.mem_of_getElem? (i := 405) (by decide +kernel), List.mem_of_getElem? (i := 750) (by decide +kernel), List.mem_of_getElem? (i := 751) (by decide +kernel)⟩
theorem lw_p23 : lw_okq (⟨"TurnKeeper$Lock", "grabOrStandIn", "(LTurnKeeper$Strand;)V"⟩, 7) := ⟨⟨by decide +kernel, by decide +kernel⟩, List.mem_of_getElem? (i := 301) (by decide +kernel), List.mem_of_getElem? (i := 780) (by decide +kernel), List.mem_of_getElem? (i := 781) (by decide +kernel)⟩
theorem lw_p24 : lw_okq (⟨"TurnKeeper$Lock", "isGrabbed", "(LTurnKeeper$Strand;)Z"⟩, 7) := ⟨⟨by decide +kernel, by decide +kernel⟩, List.mem_of_getElem? (i := 301) (by decide +kernel), List.mem_of_getElem? (i := 784) (by decide +kernel), List.mem_of_getElem? (i := 785) (by decide +kernel)⟩
theorem lw_p25 : lw_okq (⟨"TurnKeeper$Lock", "free", "()V"⟩, 7) := ⟨⟨by decide +kernel, by decide +kernel⟩, List.mem_of_getElem? (i := 301) (by decide +kernel), List.mem_of_getElem? (i := 795) (by decide +kernel), List.mem_of_getElem? (i := 796) (by decide +kernel)⟩
theorem lw_p26 : lw_okq (⟨"TurnKeeper$Lock", "callUp", "(I)V"⟩, 7) := ⟨⟨by decide +kernel, by decide +kernel⟩, List.mem_of_getElem? (i := 301) (by decide +kernel), List.mem_of_getElem? (i := 804) (by decide +kernel), List.mem_of_getElem? (i := 805) (by decide +kernel)⟩
theorem lw_p27 : lw_okq (⟨"TurnKeeper$Lock", "comeToFirst", "(LTurnKeeper$Strand;I)V"⟩, 7) := ⟨⟨by decide +kernel, by decide +kernel⟩, List.mem_of_getElem? (i := 301) (by decide +kernel), List.mem_of_getElem? (i := 808) (by decide +kernel), List.mem_of_getElem? (i := 809) (by decide +kernel)⟩
theorem lw_p28 : lw_okq (⟨"TurnKeeper$Queue", "isAccepted", "(I)Z"⟩, 6) := ⟨⟨by decide +kernel, by decide +kernel⟩, List.mem_of_getElem? (i := 386) (by decide +kernel), List.mem_of_getElem? (i := 819) (by decide +kernel), List.mem_of_getElem? (i := 820) (by decide +kernel)⟩
theorem lw_p29 : lw_okq (⟨"TurnKeeper$Queue", "append", "(I)V"⟩, 6) := ⟨⟨by decide +kernel, by decide +kernel⟩, List.mem_of_getElem? (i := 386) (by decide +kernel), List.mem_of_getElem? (i := 825) (by decide +kernel), List.mem_of_getElem? (i := 826) (by decide +kernel)⟩
theorem lw_p30 : lw_okq (⟨"TurnKeeper$Queue", "takenOut", "()I"⟩, 6) := ⟨⟨by decide +kernel, by decide +kernel⟩, List.mem_of_getElem? (i := 386) (by decide +kernel), List.mem_of_getElem? (i := 833) (by decide +kernel), List.mem_of_getElem? (i := 834) (by decide +kernel)⟩
theorem lw_p31 : lw_okq (⟨"TurnKeeper$Semaphore", "handOut", "()V"⟩, 4) := ⟨⟨by decide +kernel, by decide +kernel⟩, List.mem_of_getElem? (i := 373) (by decide +kernel), List.mem_of_getElem? (i := 847) (by decide +kernel), List.mem_of_getElem? (i := 848) (by decide +kernel)⟩
def lw_privs_2 : List (MethodName × Nat) := [(⟨"TurnKeeper", "doAlone", "(LTurnKeeper$Strand;LTurnKeeper$Word;)V"⟩, 6), (⟨"TurnKeeper", "fallAsleep", "(LTurnKeeper$Strand;I)V"⟩, 6), (⟨"TurnKeeper", "syncAt", "(I)LTurnKeeper$Sync;"⟩, 6), (⟨"TurnKeeper$Gate", "leave", "(LTurnKeeper$Strand;)V"⟩, 5), (⟨"TurnKeeper$Gate", "rowGoesOn", "()V"⟩, 5), (⟨"TurnKeeper$Gate", "giveBack", "(LTurnKeeper$Strand;)V"⟩, 5), (⟨"TurnKeeper$Holder", "isGiven", "(I)Z"⟩, 5), (⟨"TurnKeeper$Lock", "grabOrStandIn", "(LTurnKeeper$Strand;)V"⟩, 7), (⟨"TurnKeeper$Lock", "isGrabbed", "(LTurnKeeper$Strand;)Z"⟩, 7), (⟨"TurnKeeper$Lock", "free", "()V"⟩, 7), (⟨"TurnKeeper$Lock", "callUp", "(I)V"⟩, 7), (⟨"TurnKeeper$Lock", "comeToFirst", "(LTurnKeeper$Strand;I)V"⟩, 7), (⟨"TurnKeeper$Queue", "isAccepted", "(I)Z"⟩, 6), (⟨"TurnKeeper$Queue", "append", "(I)V"⟩, 6), (⟨"TurnKeeper$Queue", "takenOut", "()I"⟩, 6), (⟨"TurnKeeper$Semaphore", "handOut", "()V"⟩, 4)]
theorem lw_r2 : ∀ q ∈ lw_privs_2, lw_okq q := List.forall_mem_cons.mpr ⟨lw_p16, List.forall_mem_cons.mpr ⟨lw_p17, List.forall_mem_cons.mpr ⟨lw_p18, List.forall_mem_cons.mpr ⟨lw_p19, List.forall_mem_cons.mpr ⟨lw_p20, List.forall_mem_cons.mpr ⟨lw_p21, List.forall_mem_cons.mpr ⟨lw_p22, List.forall_mem_cons.mpr ⟨lw_p23, List.forall_mem_cons.mpr ⟨lw_p24, List.forall_mem_cons.mpr ⟨lw_p25, List.forall_mem_cons.mpr ⟨lw_p26, List.forall_mem_cons.mpr ⟨lw_p27, List.forall_mem_cons.mpr ⟨lw_p28, List.forall_mem_cons.mpr ⟨lw_p29, List.forall_mem_cons.mpr ⟨lw_p30, List.forall_mem_cons.mpr ⟨lw_p31, fun _ h => absurd h List.not_mem_nil⟩⟩⟩⟩⟩⟩⟩⟩⟩⟩⟩⟩⟩⟩⟩⟩
theorem lw_p32 : lw_okq (⟨"TurnKeeper", "howManyReady", "()I"⟩, 6) := ⟨⟨by decide +kernel, by decide +kernel⟩, List.mem_of_getElem? (i := 29) (by decide +kernel), List.mem_of_getElem? (i := 861) (by decide +kernel), List.mem_of_getElem? (i := 862) (by decide +kernel)⟩
theorem lw_p33 : lw_okq (⟨"TurnKeeper", "readyFrom", "(II)LTurnKeeper$Strand;"⟩, 6) := ⟨⟨by decide +kernel, by decide +kernel⟩, List.mem_of_getElem? (i := 29) (by decide +kernel), List.mem_of_getElem? (i := 866) (by decide +kernel), List.mem_of_getElem? (i := 867) (by decide +kernel)⟩
theorem lw_p34 : lw_okq (⟨"TurnKeeperModel", "refuse", "(I)I"⟩, 38) := ⟨⟨by decide +kernel, by decide +kernel⟩, List.mem_of_getElem? (i := 967) (by decide +kernel), List.mem_of_getElem? (i := 1132) (by decide +kernel), List.mem_of_getElem? (i := 1133) (by decide +kernel)⟩
theorem lw_p35 : lw_okq (⟨"TurnKeeperModel", "four", "(I)V"⟩, 38) := ⟨⟨by decide +kernel, by decide +kernel⟩, List.mem_of_getElem? (i := 967) (by decide +kernel), List.mem_of_getElem? (i := 1136) (by decide +kernel), List.mem_of_getElem? (i := 1137) (by decide +kernel)⟩
theorem lw_p36 : lw_okq (⟨"TurnKeeperModel", "isThere", "(I)Z"⟩, 38) := ⟨⟨by decide +kernel, by decide +kernel⟩, List.mem_of_getElem? (i := 967) (by decide +kernel), List.mem_of_getElem? (i := 1155) (by decide +kernel), List.mem_of_getElem? (i := 1156) (by decide +kernel)⟩
theorem lw_p37 : lw_okq (⟨"TurnKeeperModel", "objects", "()I"⟩, 38) := ⟨⟨by decide +kernel, by decide +kernel⟩, List.mem_of_getElem? (i := 967) (by decide +kernel), List.mem_of_getElem? (i := 1159) (by decide +kernel), List.mem_of_getElem? (i := 1160) (by decide +kernel)⟩
theorem lw_p38 : lw_okq (⟨"TurnKeeperModel", "read", "()V"⟩, 38) := ⟨⟨by decide +kernel, by decide +kernel⟩, List.mem_of_getElem? (i := 967) (by decide +kernel), List.mem_of_getElem? (i := 1167) (by decide +kernel), List.mem_of_getElem? (i := 1168) (by decide +kernel)⟩
theorem lw_p39 : lw_okq (⟨"TurnKeeperModel", "next", "()V"⟩, 38) := ⟨⟨by decide +kernel, by decide +kernel⟩, List.mem_of_getElem? (i := 967) (by decide +kernel), List.mem_of_getElem? (i := 1171) (by decide +kernel), List.mem_of_getElem? (i := 1172) (by decide +kernel)⟩
theorem lw_p40 : lw_okq (⟨"TurnKeeperModel", "byteAt", "(I)I"⟩, 38) := ⟨⟨by decide +kernel, by decide +kernel⟩, List.mem_of_getElem? (i := 967) (by decide +kernel), List.mem_of_getElem? (i := 1175) (by decide +kernel), List.mem_of_getElem? (i := 1176) (by decide +kernel)⟩
theorem lw_p41 : lw_okq (⟨"TurnKeeperModel", "line", "()V"⟩, 38) := ⟨⟨by decide +kernel, by decide +kernel⟩, List.mem_of_getElem? (i := 967) (by decide +kernel), List.mem_of_getElem? (i := 1179) (by decide +kernel), List.mem_of_getElem? (i := 1180) (by decide +kernel)⟩
theorem lw_p42 : lw_okq (⟨"TurnKeeperModel", "word", "()I"⟩, 38) := ⟨⟨by decide +kernel, by decide +kernel⟩, List.mem_of_getElem? (i := 967) (by decide +kernel), List.mem_of_getElem? (i := 1183) (by decide +kernel), List.mem_of_getElem? (i := 1184) (by decide +kernel)⟩
theorem lw_p43 : lw_okq (⟨"TurnKeeperModel", "wrong", "()I"⟩, 38) := ⟨⟨by decide +kernel, by decide +kernel⟩, List.mem_of_getElem? (i := 967) (by decide +kernel), List.mem_of_getElem? (i := 1187) (by decide +kernel), List.mem_of_getElem? (i := 1188) (by decide +kernel)⟩
theorem lw_p44 : lw_okq (⟨"TurnKeeperModel", "number", "(II)I"⟩, 38) := ⟨⟨by decide +kernel, by decide +kernel⟩, List.mem_of_getElem? (i := 967) (by decide +kernel), List.mem_of_getElem? (i := 1192) (by decide +kernel), List.mem_of_getElem? (i := 1193) (by decide +kernel)⟩
theorem lw_p45 : lw_okq (⟨"TurnKeeperModel", "one", "(I)V"⟩, 38) := ⟨⟨by decide +kernel, by decide +kernel⟩, List.mem_of_getElem? (i := 967) (by decide +kernel), List.mem_of_getElem? (i := 1200) (by decide +kernel), List.mem_of_getElem? (i := 1201) (by decide +kernel)⟩
theorem lw_p46 : lw_okq (⟨"TurnKeeperModel", "rowOf", "(I)I"⟩, 38) := ⟨⟨by decide +kernel, by decide +kernel⟩, List.mem_of_getElem? (i := 967) (by decide +kernel), List.mem_of_getElem? (i := 1204) (by decide +kernel), List.mem_of_getElem? (i := 1205) (by decide +kernel)⟩
theorem lw_p47 : lw_okq (⟨"TurnKeeperModel", "has", "(II)V"⟩, 38) := ⟨⟨by decide +kernel, by decide +kernel⟩, List.mem_of_getElem? (i := 967) (by decide +kernel), List.mem_of_getElem? (i := 1208) (by decide +kernel), List.mem_of_getElem? (i := 1209) (by decide +kernel)⟩
def lw_privs_3 : List (MethodName × Nat) := [(⟨"TurnKeeper", "howManyReady", "()I"⟩, 6), (⟨"TurnKeeper", "readyFrom", "(II)LTurnKeeper$Strand;"⟩, 6), (⟨"TurnKeeperModel", "refuse", "(I)I"⟩, 38), (⟨"TurnKeeperModel", "four", "(I)V"⟩, 38), (⟨"TurnKeeperModel", "isThere", "(I)Z"⟩, 38), (⟨"TurnKeeperModel", "objects", "()I"⟩, 38), (⟨"TurnKeeperModel", "read", "()V"⟩, 38), (⟨"TurnKeeperModel", "next", "()V"⟩, 38), (⟨"TurnKeeperModel", "byteAt", "(I)I"⟩, 38), (⟨"TurnKeeperModel", "line", "()V"⟩, 38), (⟨"TurnKeeperModel", "word", "()I"⟩, 38), (⟨"TurnKeeperModel", "wrong", "()I"⟩, 38), (⟨"TurnKeeperModel", "number", "(II)I"⟩, 38), (⟨"TurnKeeperModel", "one", "(I)V"⟩, 38), (⟨"TurnKeeperModel", "rowOf", "(I)I"⟩, 38), (⟨"TurnKeeperModel", "has", "(II)V"⟩, 38)]
theorem lw_r3 : ∀ q ∈ lw_privs_3, lw_okq q := List.forall_mem_cons.mpr ⟨lw_p32, List.forall_mem_cons.mpr ⟨lw_p33, List.forall_mem_cons.mpr ⟨lw_p34, List.forall_mem_cons.mpr ⟨lw_p35, List.forall_mem_cons.mpr ⟨lw_p36, List.forall_mem_cons.mpr ⟨lw_p37, List.forall_mem_cons.mpr ⟨lw_p38, List.forall_mem_cons.mpr ⟨lw_p39, List.forall_mem_cons.mpr ⟨lw_p40, List.forall_mem_cons.mpr ⟨lw_p41, List.forall_mem_cons.mpr ⟨lw_p42, List.forall_mem_cons.mpr ⟨lw_p43, List.forall_mem_cons.mpr ⟨lw_p44, List.forall_mem_cons.mpr ⟨lw_p45, List.forall_mem_cons.mpr ⟨lw_p46, List.forall_mem_cons.mpr ⟨lw_p47, fun _ h => absurd h List.not_mem_nil⟩⟩⟩⟩⟩⟩⟩⟩⟩⟩⟩⟩⟩⟩⟩⟩
theorem lw_p48 : lw_okq (⟨"TurnKeeperModel", "leaves", "(II)V"⟩, 38) := ⟨⟨by decide +kernel, by decide +kernel⟩, List.mem_of_getElem? (i := 967) (by decide +kernel), List.mem_of_getElem? (i := 1212) (by decide +kernel), List.mem_of_getElem? (i := 1213) (by decide +kernel)⟩
theorem lw_p49 : lw_okq (⟨"TurnKeeperModel", "goesOn", "(I)V"⟩, 38) := ⟨⟨by decide +kernel, by decide +kernel⟩, List.mem_of_getElem? (i := 967) (by decide +kernel), List.mem_of_getElem? (i := 1216) (by decide +kernel), List.mem_of_getElem? (i := 1217) (by decide +kernel)⟩
theorem lw_p50 : lw_okq (⟨"TurnKeeperModel", "part", "(II)I"⟩, 38) := ⟨⟨by decide +kernel, by decide +kernel⟩, List.mem_of_getElem? (i := 967) (by decide +kernel), List.mem_of_getElem? (i := 1220) (by decide +kernel), List.mem_of_getElem? (i := 1221) (by decide +kernel)⟩
theorem lw_p51 : lw_okq (⟨"TurnKeeperModel", "with", "(III)Z"⟩, 38) := ⟨⟨by decide +kernel, by decide +kernel⟩, List.mem_of_getElem? (i := 967) (by decide +kernel), List.mem_of_getElem? (i := 1224) (by decide +kernel), List.mem_of_getElem? (i := 1225) (by decide +kernel)⟩
theorem lw_p52 : lw_okq (⟨"TurnKeeperModel", "fails", "(II)Z"⟩, 38) := ⟨⟨by decide +kernel, by decide +kernel⟩, List.mem_of_getElem? (i := 967) (by decide +kernel), List.mem_of_getElem? (i := 1231) (by decide +kernel), List.mem_of_getElem? (i := 1232) (by decide +kernel)⟩
theorem lw_p53 : lw_okq (⟨"TurnKeeperModel", "atLock", "(III)Z"⟩, 38) := ⟨⟨by decide +kernel, by decide +kernel⟩, List.mem_of_getElem? (i := 967) (by decide +kernel), List.mem_of_getElem? (i := 1235) (by decide +kernel), List.mem_of_getElem? (i := 1236) (by decide +kernel)⟩
theorem lw_p54 : lw_okq (⟨"TurnKeeperModel", "waitFor", "(II)V"⟩, 38) := ⟨⟨by decide +kernel, by decide +kernel⟩, List.mem_of_getElem? (i := 967) (by decide +kernel), List.mem_of_getElem? (i := 1239) (by decide +kernel), List.mem_of_getElem? (i := 1240) (by decide +kernel)⟩
theorem lw_p55 : lw_okq (⟨"TurnKeeperModel", "freed", "(I)V"⟩, 38) := ⟨⟨by decide +kernel, by decide +kernel⟩, List.mem_of_getElem? (i := 967) (by decide +kernel), List.mem_of_getElem? (i := 1243) (by decide +kernel), List.mem_of_getElem? (i := 1244) (by decide +kernel)⟩
theorem lw_p56 : lw_okq (⟨"TurnKeeperModel", "signalled", "(II)V"⟩, 38) := ⟨⟨by decide +kernel, by decide +kernel⟩, List.mem_of_getElem? (i := 967) (by decide +kernel), List.mem_of_getElem? (i := 1247) (by decide +kernel), List.mem_of_getElem? (i := 1248) (by decide +kernel)⟩
theorem lw_p57 : lw_okq (⟨"TurnKeeperModel", "atCell", "(III)Z"⟩, 38) := ⟨⟨by decide +kernel, by decide +kernel⟩, List.mem_of_getElem? (i := 967) (by decide +kernel), List.mem_of_getElem? (i := 1251) (by decide +kernel), List.mem_of_getElem? (i := 1252) (by decide +kernel)⟩
theorem lw_p58 : lw_okq (⟨"TurnKeeperModel", "atSemaphore", "(III)Z"⟩, 38) := ⟨⟨by decide +kernel, by decide +kernel⟩, List.mem_of_getElem? (i := 967) (by decide +kernel), List.mem_of_getElem? (i := 1255) (by decide +kernel), List.mem_of_getElem? (i := 1256) (by decide +kernel)⟩
theorem lw_p59 : lw_okq (⟨"TurnKeeperModel", "passes", "(II)Z"⟩, 38) := ⟨⟨by decide +kernel, by decide +kernel⟩, List.mem_of_getElem? (i := 967) (by decide +kernel), List.mem_of_getElem? (i := 1259) (by decide +kernel), List.mem_of_getElem? (i := 1260) (by decide +kernel)⟩
theorem lw_p60 : lw_okq (⟨"TurnKeeperModel", "firstGoesOn", "(I)I"⟩, 38) := ⟨⟨by decide +kernel, by decide +kernel⟩, List.mem_of_getElem? (i := 967) (by decide +kernel), List.mem_of_getElem? (i := 1263) (by decide +kernel), List.mem_of_getElem? (i := 1264) (by decide +kernel)⟩
theorem lw_p61 : lw_okq (⟨"TurnKeeperModel", "atGate", "(III)Z"⟩, 38) := ⟨⟨by decide +kernel, by decide +kernel⟩, List.mem_of_getElem? (i := 967) (by decide +kernel), List.mem_of_getElem? (i := 1267) (by decide +kernel), List.mem_of_getElem? (i := 1268) (by decide +kernel)⟩
theorem lw_p62 : lw_okq (⟨"TurnKeeperModel", "opened", "(I)V"⟩, 38) := ⟨⟨by decide +kernel, by decide +kernel⟩, List.mem_of_getElem? (i := 967) (by decide +kernel), List.mem_of_getElem? (i := 1271) (by decide +kernel), List.mem_of_getElem? (i := 1272) (by decide +kernel)⟩
theorem lw_p63 : lw_okq (⟨"TurnKeeperModel", "atQueue", "(III)Z"⟩, 38) := ⟨⟨by decide +kernel, by decide +kernel⟩, List.mem_of_getElem? (i := 967) (by decide +kernel), List.mem_of_getElem? (i := 1275) (by decide +kernel), List.mem_of_getElem? (i := 1276) (by decide +kernel)⟩
def lw_privs_4 : List (MethodName × Nat) := [(⟨"TurnKeeperModel", "leaves", "(II)V"⟩, 38), (⟨"TurnKeeperModel", "goesOn", "(I)V"⟩, 38), (⟨"TurnKeeperModel", "part", "(II)I"⟩, 38), (⟨"TurnKeeperModel", "with", "(III)Z"⟩, 38), (⟨"TurnKeeperModel", "fails", "(II)Z"⟩, 38), (⟨"TurnKeeperModel", "atLock", "(III)Z"⟩, 38), (⟨"TurnKeeperModel", "waitFor", "(II)V"⟩, 38), (⟨"TurnKeeperModel", "freed", "(I)V"⟩, 38), (⟨"TurnKeeperModel", "signalled", "(II)V"⟩, 38), (⟨"TurnKeeperModel", "atCell", "(III)Z"⟩, 38), (⟨"TurnKeeperModel", "atSemaphore", "(III)Z"⟩, 38), (⟨"TurnKeeperModel", "passes", "(II)Z"⟩, 38), (⟨"TurnKeeperModel", "firstGoesOn", "(I)I"⟩, 38), (⟨"TurnKeeperModel", "atGate", "(III)Z"⟩, 38), (⟨"TurnKeeperModel", "opened", "(I)V"⟩, 38), (⟨"TurnKeeperModel", "atQueue", "(III)Z"⟩, 38)]
theorem lw_r4 : ∀ q ∈ lw_privs_4, lw_okq q := List.forall_mem_cons.mpr ⟨lw_p48, List.forall_mem_cons.mpr ⟨lw_p49, List.forall_mem_cons.mpr ⟨lw_p50, List.forall_mem_cons.mpr ⟨lw_p51, List.forall_mem_cons.mpr ⟨lw_p52, List.forall_mem_cons.mpr ⟨lw_p53, List.forall_mem_cons.mpr ⟨lw_p54, List.forall_mem_cons.mpr ⟨lw_p55, List.forall_mem_cons.mpr ⟨lw_p56, List.forall_mem_cons.mpr ⟨lw_p57, List.forall_mem_cons.mpr ⟨lw_p58, List.forall_mem_cons.mpr ⟨lw_p59, List.forall_mem_cons.mpr ⟨lw_p60, List.forall_mem_cons.mpr ⟨lw_p61, List.forall_mem_cons.mpr ⟨lw_p62, List.forall_mem_cons.mpr ⟨lw_p63, fun _ h => absurd h List.not_mem_nil⟩⟩⟩⟩⟩⟩⟩⟩⟩⟩⟩⟩⟩⟩⟩⟩
theorem lw_p64 : lw_okq (⟨"TurnKeeperModel", "append", "(II)V"⟩, 38) := ⟨⟨by decide +kernel, by decide +kernel⟩, List.mem_of_getElem? (i := 967) (by decide +kernel), List.mem_of_getElem? (i := 1279) (by decide +kernel), List.mem_of_getElem? (i := 1280) (by decide +kernel)⟩
theorem lw_p65 : lw_okq (⟨"TurnKeeperModel", "ready", "()I"⟩, 38) := ⟨⟨by decide +kernel, by decide +kernel⟩, List.mem_of_getElem? (i := 967) (by decide +kernel), List.mem_of_getElem? (i := 1287) (by decide +kernel), List.mem_of_getElem? (i := 1288) (by decide +kernel)⟩
theorem lw_p66 : lw_okq (⟨"TurnKeeperModel", "nextOf", "(I)I"⟩, 38) := ⟨⟨by decide +kernel, by decide +kernel⟩, List.mem_of_getElem? (i := 967) (by decide +kernel), List.mem_of_getElem? (i := 1308) (by decide +kernel), List.mem_of_getElem? (i := 1309) (by decide +kernel)⟩
def lw_privs_5 : List (MethodName × Nat) := [(⟨"TurnKeeperModel", "append", "(II)V"⟩, 38), (⟨"TurnKeeperModel", "ready", "()I"⟩, 38), (⟨"TurnKeeperModel", "nextOf", "(I)I"⟩, 38)]
theorem lw_r5 : ∀ q ∈ lw_privs_5, lw_okq q := List.forall_mem_cons.mpr ⟨lw_p64, List.forall_mem_cons.mpr ⟨lw_p65, List.forall_mem_cons.mpr ⟨lw_p66, fun _ h => absurd h List.not_mem_nil⟩⟩⟩
def lw_privs : List (MethodName × Nat) := lw_privs_1 ++ (lw_privs_2 ++ (lw_privs_3 ++ (lw_privs_4 ++ (lw_privs_5))))
def lw_tbl : List Cond := k2_sels lw_privs ++ tables_1
theorem lw_privs_ok : ∀ q ∈ lw_privs, lw_okq q := by
  show ∀ q ∈ lw_privs_1 ++ (lw_privs_2 ++ (lw_privs_3 ++ (lw_privs_4 ++ (lw_privs_5)))), lw_okq q
  exact List.forall_mem_append.mpr ⟨lw_r1, List.forall_mem_append.mpr ⟨lw_r2, List.forall_mem_append.mpr ⟨lw_r3, List.forall_mem_append.mpr ⟨lw_r4, lw_r5⟩⟩⟩⟩
end
section
/-! ===== BEGIN words of one list among another's, by their places ===== -/
theorem goodIn_r {big : List Cond} (ws : List Cond) (ps : List Nat) (hp : ws = ps.filterMap (fun i => big[i]?)) (h : ws.all goodWord = true) : GoodIn big ws := by
  intro w hw
  have h1 := List.all_eq_true.mp h w hw
  rw [hp] at hw
  obtain ⟨i, -, hi⟩ := List.mem_filterMap.mp hw
  have hm : w ∈ big := by first | exact List.mem_of_getElem? hi | exact List.getElem?_mem hi
  exact ⟨hm, good_of_word h1⟩
theorem goodIn_app {big a b : List Cond} (ha : GoodIn big a) (hb : GoodIn big b) : GoodIn big (a ++ b) := fun w h => (List.mem_append.mp h).elim (ha w) (hb w)
theorem goodIn_ca {big a b : List Cond} {c : Cond} (ha : GoodIn big (c :: a)) (hb : GoodIn big b) : GoodIn big (c :: (a ++ b)) := fun w h => (List.mem_cons.mp h).elim (fun e => ha w (List.mem_cons.mpr (Or.inl e))) (fun h => (List.mem_append.mp h).elim (fun h => ha w (List.mem_cons.mpr (Or.inr h))) (hb w))
theorem goodIn_sub {big ws : List Cond} (hm : ∀ w ∈ ws, w ∈ big) (h : ws.all goodWord = true) : GoodIn big ws := fun w hw => ⟨hm w hw, good_of_word (List.all_eq_true.mp h w hw)⟩
/-! ===== END ===== -/

/-! ===== BEGIN exceptions that leave a method, and their catching by the caller (launches without stack traces) ===== -/
section VXA
/-! The laws vx_back, vx_callV, vx_callS, vx_callSW, vx_throw0, vx_throwS follow proofs of the library, with one case more: JvmDerived/Free/Laws.lean (Back.of_free), Shelf42/LK1.lean (callV, callS), Shelf/KitTraced.lean (throwNew0V, throwNewS). -/
/-- where a method has thrown q: the class by its name, the cell, what was written, the world -/
def vx_T (XC : String → State → State → Prop) (st : State) (q : Addr) (t : State) (mc ms : Nat) (free : Addr → Prop) : Prop :=
  ∃ (E : String) (ce : Cell) (L : List Loc), XC E st t ∧ t.heap[q]? = some ce ∧ ce.vm = .none ∧ st.vm.findClass E = some ce.cls ∧ st.WarmedH t.vm ∧ st.sameButNew ({ t with vm := st.vm } : State) L mc ms ∧ ∀ z ∈ L, free z.base
def vx_Q (Qc : Array Value → State → Outcome → State → Prop) (XC : String → State → State → Prop) (mc ms : Nat) (free : Addr → Prop) : Array Value → State → Outcome → State → Prop := fun a st o t =>
  (Qc a st o t ∧ ∃ L, FrameEnd st o t L mc ms ∧ ∀ q ∈ L, free q.base) ∨ ∃ q, o = .threw q ∧ vx_T XC st q t mc ms free
/-- a callee that returns or throws -/
def vx_Met (l : Launch) (y : MethodName) (ws : List Cond) (rm : Room) (Pc : Array Value → State → Prop) (Qc : Array Value → State → Outcome → State → Prop) (XC : String → State → State → Prop) (mc ms : Nat) (free : Addr → Prop) : Prop :=
  MetFree l y (headSpec ws rm) Pc (fun _ _ _ _ _ => True) (vx_Q Qc XC mc ms free)
def vx_Post (XC : String → State → State → Prop) (mc ms : Nat) (free : Addr → Prop) : Pt → Array Value → Addr → Pt → Prop := fun A a q B =>
  ∃ (g : JFrame) (mk : MethodId) (t : State) (L : List Loc) (E : String) (ce : Cell), B.U.heap = t.heap ∧ B.U.vm = t.vm ∧ XC E (A.U.calling g mk a) t ∧ t.heap[q]? = some ce ∧ ce.vm = .none ∧ A.U.vm.findClass E = some ce.cls ∧ B.locs = A.locs ++ L ∧ (∀ z ∈ L, free z.base) ∧ B.cells = A.cells + mc ∧ B.slots = A.slots + ms
def vx_Back (l : Launch) (R : Room) (p : Program) (e : Env) (below : List Frame) (s : State) (sargs : Array Value) (y : MethodName) (len W9 : Nat)
    (Pre : Pt → Array Value → Prop) (Post : Pt → Array Value → Option Value → Pt → Prop) (PostX : Pt → Array Value → Addr → Pt → Prop) : Prop :=
  ∀ (m : MethodId) (meth : Method) (c : Code) (A : Pt) (g : JFrame) (ig : Instr) (mk : MethodId) (a : Array Value),
    Stand p l e R s m sargs below meth c A.U A.locs A.cells A.slots → g.method = m → g.locals.size = c.maxLocals → decode c.code g.pc = .ok (ig, len) →
    2 * g.monitorRoom + (g.stack.map fun v => v.category).sum ≤ W9 → A.U.methodNamed? y = some mk → Pre A a →
    (∃ (v : Option Value) (B : Pt), Stand p l e R s m sargs below meth c B.U B.locs B.cells B.slots ∧ Post A a v B ∧
      Steps p.tables e below (doInvoke e (A.U.setTop g) [] mk a).1 (B.U.setTop { g with pc := g.pc + len, stack := v.toList ++ g.stack })) ∨
    (∃ (q : Addr) (B : Pt), Stand p l e R s m sargs below meth c B.U B.locs B.cells B.slots ∧ PostX A a q B ∧
      Steps p.tables e below (doInvoke e (A.U.setTop g) [] mk a).1 ((B.U.setTop g).pushFrame (.throwing q)))
section Payer
variable {l : Launch} {R : Room} {p : Program} {e : Env} {below : List Frame} {s : State} {sargs : Array Value} {y : MethodName} {len W9 : Nat}
theorem vx_back {ws : List Cond} {rm : Room} {Pc : Array Value → State → Prop} {Qc : Array Value → State → Outcome → State → Prop} {XC : String → State → State → Prop} {mc ms : Nat} {free : Addr → Prop} {bytes : ByteArray} {maxL : Nat} {ret : Option FieldType}
    (hM : vx_Met l y ws rm Pc Qc XC mc ms free) (hblind : FrameBlind Pc) (hrc : rm.cells = mc) (hrs : rm.slots = ms)
    (hframes : rm.frames + 1 ≤ R.frames) (hlocals : W9 + (maxL + 11) + rm.locals ≤ R.locals)
    (hws : ∀ w ∈ ws, ∀ a' U, s.WarmedH U.vm → w.before a' U = true) (hcode : Cond.code y bytes maxL ret ∈ ws) (hinit : ∀ a' U, s.WarmedH U.vm → (Cond.initialized y.cls).before a' U = true) :
    vx_Back l R p e below s sargs y len W9 (PreOf R mc ms Pc) (PostOf Qc mc ms free) (vx_Post XC mc ms free) := by
  intro m meth c A g ig mk a X hg hsize hdg hW hn hp
  have h1 : (headSpec ws rm).pre.before a A.U = true := atoms_intro fun w hw => hws w hw _ _ X.warmed
  have h2 : (Cond.code y bytes maxL ret).before a A.U = true := hws _ hcode _ _ X.warmed
  have h3 : (Cond.initialized y.cls).before a A.U = true := hinit _ _ X.warmed
  have h4 : A.cells + (headSpec ws rm).room.cells ≤ R.cells := by rw [show (headSpec ws rm).room.cells = mc from hrc]; exact hp.1
  have h5 : A.slots + (headSpec ws rm).room.slots ≤ R.slots := by rw [show (headSpec ws rm).room.slots = ms from hrs]; exact hp.2.1
  have hPc : Pc a (A.U.calling g mk a) := hblind _ _ _ _ hp.2.2
  obtain ⟨U, Ls, c0, s0⟩ := A
  dsimp only [Pt.U, Pt.locs, Pt.cells, Pt.slots] at h1 h2 h3 h4 h5 X hn hPc ⊢
  obtain ⟨methY, cY, hmY, hcY, -, hlY, -, -, -, -⟩ := Cond.code_spec hn h2
  obtain ⟨kY, hkY, -⟩ := className_of_methodNamed hn
  have hinitY : kY.init = .initialized := Cond.initialized_spec (findClass_of_methodNamed hn) hkY h3
  have h : At U g.method c below := by rw [hg]; exact X.here
  have hlocals9 : W9 + (maxL + 11) + (headSpec ws rm).room.locals ≤ R.locals := hlocals
  have happ : (headSpec ws rm).appliesLoose y e.platform (U.calling g mk a) = true :=
    Spec.appliesLoose_calling (g := g) h hdg hn hkY hinitY
      (X.room_calling (g := g) (R' := (headSpec ws rm).room) hsize hmY hcY hframes (by rw [hlY]; omega) h4 h5) h1
  obtain ⟨mid, hmid⟩ := h.above
  have hfr : (U.setTop g).frames = (.java g :: mid) ++ below := by rw [State.frames_setTop' g h.top, hmid]; rfl
  obtain ⟨o, s₂, hsteps, -, hend, hq⟩ := Steps.callFree hM p X.admits X.cas X.clock (acts := []) hfr happ hPc trivial
  have hq' : vx_Q Qc XC mc ms free a (U.calling g mk a) o s₂ := hq
  rw [State.frames_setTop' g h.top] at hend
  obtain ⟨g₀, hg0⟩ := Option.isSome_iff_exists.mp h.top
  obtain ⟨r, hr⟩ := State.topJava?_eq_some.mp hg0
  have hr' : (({ U with heap := s₂.heap, slotsUsed := s₂.slotsUsed } : State).setVm s₂.vm).frames = .java g₀ :: r := hr
  rcases hq' with ⟨hqc, L, hfe, hL⟩ | ⟨q, rfl, E, ce, L, hx, hce, hcv, hcl, hW₂, hsm, hL⟩
  · obtain ⟨⟨v, rfl⟩, hW₂, e2, q2, q3, q4, q5, q6⟩ := id hfe
    have e3 : s₂ = ({ (U.calling g mk a).setFrames s₂.frames with heap := s₂.heap, slotsUsed := s₂.slotsUsed } : State).setVm s₂.vm := by
      have : s₂ = ({ s₂ with vm := (U.calling g mk a).vm } : State).setVm s₂.vm := rfl
      rw [e2] at this
      exact this
    obtain ⟨c₂, i₂, len₂, hc₂, hd₂, hf₂⟩ := hend
    have hW' : U.WarmedH s₂.vm := hW₂
    have hcc : c₂ = c := by
      have h1 : s₂.code? g.method = U.code? g.method := by
        rw [State.code?_eq, State.code?_eq, hW'.alike.method?]
      exact Option.some.inj (hc₂.symm.trans (h1.trans h.code))
    subst hcc
    have hlen : len₂ = len := by rw [hdg] at hd₂; cases hd₂; rfl
    subst hlen
    have hs₂ : s₂ = (({ U with heap := s₂.heap, slotsUsed := s₂.slotsUsed } : State).setVm s₂.vm).setTop { g with pc := g.pc + len₂, stack := v.toList ++ g.stack } := by
      refine e3.trans ?_
      rw [hf₂, State.calling_eq h.top, State.setFrames_setFrames, State.setTop_of_frames _ hr', hr]
      rfl
    have hsame : U.sameButNew ({ U with heap := s₂.heap, slotsUsed := s₂.slotsUsed } : State) L mc ms := by
      refine ⟨?_, q2, q3, q4, q5, q6⟩
      obtain ⟨t, ht, -⟩ := State.frames_cons hr
      show ({ U with heap := s₂.heap, slotsUsed := s₂.slotsUsed } : State) = { U.setFrames U.frames with heap := s₂.heap, slotsUsed := s₂.slotsUsed }
      rw [State.setFrames_self ht]
    subst hg
    refine Or.inl ⟨v, ⟨(({ U with heap := s₂.heap, slotsUsed := s₂.slotsUsed } : State).setVm s₂.vm), Ls ++ L, c0 + mc, s0 + ms⟩,
      ⟨X.admits, X.cas, X.clock, X.frames, X.room, X.hears, X.method, X.code, (X.here.setHeapUsed s₂.heap s₂.slotsUsed).setVm hW'.alike, X.tail, State.WarmedH.trans X.warmed hW', X.limits, X.bytes, X.same.trans (hsame.setVm s.vm)⟩,
      ⟨g, mk, s₂, L, rfl, rfl, hqc, rfl, hL, rfl, rfl⟩, ?_⟩
    show Steps p.tables e below _ ((({ U with heap := s₂.heap, slotsUsed := s₂.slotsUsed } : State).setVm s₂.vm).setTop { g with pc := g.pc + len₂, stack := v.toList ++ g.stack })
    rw [← hs₂]
    exact hsteps
  · obtain ⟨e2, q2, q3, q4, q5, q6⟩ := id hsm
    have e3 : s₂ = ({ (U.calling g mk a).setFrames s₂.frames with heap := s₂.heap, slotsUsed := s₂.slotsUsed } : State).setVm s₂.vm := by
      have : s₂ = ({ s₂ with vm := (U.calling g mk a).vm } : State).setVm s₂.vm := rfl
      rw [e2] at this
      exact this
    have hf₂ : s₂.frames = .throwing q :: .java g :: U.frames.tail := hend
    have hW' : U.WarmedH s₂.vm := hW₂
    have hs₂ : s₂ = ((({ U with heap := s₂.heap, slotsUsed := s₂.slotsUsed } : State).setVm s₂.vm).setTop g).pushFrame (.throwing q) := by
      refine e3.trans ?_
      rw [hf₂, State.calling_eq h.top, State.setFrames_setFrames, State.pushFrame, State.frames_setTop _ hr', State.setTop_of_frames _ hr', State.setFrames_setFrames, hr]
      rfl
    have hsame : U.sameButNew ({ U with heap := s₂.heap, slotsUsed := s₂.slotsUsed } : State) L mc ms := by
      refine ⟨?_, q2, q3, q4, q5, q6⟩
      obtain ⟨t, ht, -⟩ := State.frames_cons hr
      show ({ U with heap := s₂.heap, slotsUsed := s₂.slotsUsed } : State) = { U.setFrames U.frames with heap := s₂.heap, slotsUsed := s₂.slotsUsed }
      rw [State.setFrames_self ht]
    subst hg
    refine Or.inr ⟨q, ⟨(({ U with heap := s₂.heap, slotsUsed := s₂.slotsUsed } : State).setVm s₂.vm), Ls ++ L, c0 + mc, s0 + ms⟩,
      ⟨X.admits, X.cas, X.clock, X.frames, X.room, X.hears, X.method, X.code, (X.here.setHeapUsed s₂.heap s₂.slotsUsed).setVm hW'.alike, X.tail, State.WarmedH.trans X.warmed hW', X.limits, X.bytes, X.same.trans (hsame.setVm s.vm)⟩,
      ⟨g, mk, s₂, L, E, ce, rfl, rfl, hx, hce, hcv, hcl, rfl, hL, rfl, rfl⟩, ?_⟩
    show Steps p.tables e below _ (((({ U with heap := s₂.heap, slotsUsed := s₂.slotsUsed } : State).setVm s₂.vm).setTop g).pushFrame (.throwing q))
    rw [← hs₂]
    exact hsteps
end Payer
section Calls
variable {p : Program} {l : Launch} {e : Env} {R : Room} {s : State} {m : MethodId} {args : Array Value} {below : List Frame} {meth : Method} {c : Code} {T : State} {locs : List Loc} {cells slots : Nat}
theorem vx_callV (X : Stand p l e R s m args below meth c T locs cells slots) (hexec : p.tables.exec = Jvm.exec) {own C : String} {index : Nat} {y : MethodName} {bytes : ByteArray} {maxL : Nat} {ret : Option FieldType}
    (hown : s.vm.findClass own = some m.cls) (hlink : (Cond.methodLink own index y).before args s = true) (hinst : (Cond.instanceMethod y).before args s = true) (hsel : (Cond.selects C y y).before args s = true)
    (hcode : (Cond.code y bytes maxL ret).before args s = true) (hy : y.cls ≠ "java/lang/invoke/MethodHandle" ∧ y.cls ≠ "java/lang/invoke/VarHandle")
    {W9 : Nat} {Pre : Pt → Array Value → Prop} {Post : Pt → Array Value → Option Value → Pt → Prop} {PostX : Pt → Array Value → Addr → Pt → Prop} (hK : vx_Back l R p e below s args y 3 W9 Pre Post PostX)
    {b : Addr} {cellB : Cell} (hcell : T.heap[b]? = some cellB) (hobj : cellB.vm.isStatics = false) (hcls : s.vm.findClass C = some cellB.cls)
    {g : JFrame} (hg : g.method = m) (hsize : g.locals.size = c.maxLocals) {argsL rest : List Value} (hlen : ∀ sig, parseMethodDescriptor y.desc = some sig → argsL.length = sig.parameters.length)
    (hstack : g.stack = argsL.reverse ++ .ref b :: rest) (hW : 2 * g.monitorRoom + (rest.map fun v => v.category).sum ≤ W9) (hdg : decode c.code g.pc = .ok (.invokevirtual index, 3))
    (hpre : ∀ vm₁, s.WarmedH vm₁ → Pre ⟨T.setVm vm₁, locs, cells, slots⟩ (Value.ref b :: argsL).toArray) :
    (∃ (v : Option Value) (vm₁ : Vm) (B : Pt), s.WarmedH vm₁ ∧ Stand p l e R s m args below meth c B.U B.locs B.cells B.slots ∧ Post ⟨T.setVm vm₁, locs, cells, slots⟩ (Value.ref b :: argsL).toArray v B ∧
      ∀ target, Steps p.tables e below (B.U.setTop { g with pc := g.pc + 3, stack := v.toList ++ rest }) target → Steps p.tables e below (T.setTop g) target) ∨
    (∃ (q : Addr) (vm₁ : Vm) (B : Pt), s.WarmedH vm₁ ∧ Stand p l e R s m args below meth c B.U B.locs B.cells B.slots ∧ PostX ⟨T.setVm vm₁, locs, cells, slots⟩ (Value.ref b :: argsL).toArray q B ∧
      Steps p.tables e below (T.setTop g) ((B.U.setTop { g with stack := rest }).pushFrame (.throwing q))) := by
  obtain ⟨mk, methM, hnamed, hmethM, hstM, habM⟩ := Cond.instanceMethod_spec hinst
  obtain ⟨methM', cM, hmethM', -, -, -, -, -, -, hsigM⟩ := Cond.code_spec hnamed hcode
  cases hmethM.symm.trans hmethM'
  obtain ⟨c2, r2, m2, q1, q2, q3, q4, kP, hkP, hkPi⟩ := Cond.selects_spec hsel
  cases hcls.symm.trans q1
  cases (State.methodFound?_of_named hnamed hy).symm.trans q2
  cases hnamed.symm.trans q3
  have hselP : selectMethod e.platform s.vm cellB.cls mk = .method mk := by rw [Launch.admits_selectMethod X.admits]; exact q4
  obtain ⟨vm₁, X₁, hstep₁⟩ := X.invokevirtual hexec hown hlink hnamed hmethM hstM hkP hkPi hy (a := b) (cell := cellB) hcell
    (fun z h => by rw [h] at hobj; cases hobj) hselP hmethM habM hkP hkPi (g := g) hg (argsL := argsL) (rest := rest) (hlen _ hsigM) hstack hdg
  rcases hK m meth c ⟨T.setVm vm₁, locs, cells, slots⟩ { g with stack := rest } (.invokevirtual index) mk (Value.ref b :: argsL).toArray X₁ hg hsize hdg hW (X₁.named hnamed) (hpre vm₁ X₁.warmed) with ⟨v, B, X', hpost, hsteps⟩ | ⟨q, B, X', hpost, hsteps⟩
  · exact Or.inl ⟨v, vm₁, B, X₁.warmed, X', hpost, fun target h => hstep₁ _ fun acts => by rw [doInvoke_state]; exact hsteps.trans h⟩
  · exact Or.inr ⟨q, vm₁, B, X₁.warmed, X', hpost, hstep₁ _ fun acts => by rw [doInvoke_state]; exact hsteps⟩
theorem vx_callS (X : Stand p l e R s m args below meth c T locs cells slots) (hexec : p.tables.exec = Jvm.exec) {own : String} {index : Nat} {y : MethodName} {bytes : ByteArray} {maxL : Nat} {ret : Option FieldType}
    (hown : s.vm.findClass own = some m.cls) (hlink : (Cond.methodLink own index y).before args s = true) (hstat : (Cond.static y).before args s = true) (hinit : (Cond.initialized y.cls).before args s = true)
    (hcode : (Cond.code y bytes maxL ret).before args s = true) (hy : y.cls ≠ "java/lang/invoke/MethodHandle" ∧ y.cls ≠ "java/lang/invoke/VarHandle")
    {W9 : Nat} {Pre : Pt → Array Value → Prop} {Post : Pt → Array Value → Option Value → Pt → Prop} {PostX : Pt → Array Value → Addr → Pt → Prop} (hK : vx_Back l R p e below s args y 3 W9 Pre Post PostX)
    {g : JFrame} (hg : g.method = m) (hsize : g.locals.size = c.maxLocals) {argsL rest : List Value} (hlen : ∀ sig, parseMethodDescriptor y.desc = some sig → argsL.length = sig.parameters.length)
    (hstack : g.stack = argsL.reverse ++ rest) (hW : 2 * g.monitorRoom + (rest.map fun v => v.category).sum ≤ W9) (hdg : decode c.code g.pc = .ok (.invokestatic index, 3))
    (hpre : ∀ vm₁, s.WarmedH vm₁ → Pre ⟨T.setVm vm₁, locs, cells, slots⟩ argsL.toArray) :
    (∃ (v : Option Value) (vm₁ : Vm) (B : Pt), s.WarmedH vm₁ ∧ Stand p l e R s m args below meth c B.U B.locs B.cells B.slots ∧ Post ⟨T.setVm vm₁, locs, cells, slots⟩ argsL.toArray v B ∧
      ∀ target, Steps p.tables e below (B.U.setTop { g with pc := g.pc + 3, stack := v.toList ++ rest }) target → Steps p.tables e below (T.setTop g) target) ∨
    (∃ (q : Addr) (vm₁ : Vm) (B : Pt), s.WarmedH vm₁ ∧ Stand p l e R s m args below meth c B.U B.locs B.cells B.slots ∧ PostX ⟨T.setVm vm₁, locs, cells, slots⟩ argsL.toArray q B ∧
      Steps p.tables e below (T.setTop g) ((B.U.setTop { g with stack := rest }).pushFrame (.throwing q))) := by
  obtain ⟨mk, hnamed⟩ := Cond.code_named hcode
  obtain ⟨methM, cM, hmethM, -, -, -, -, -, -, hsigM⟩ := Cond.code_spec hnamed hcode
  have hstatic : methM.isStatic = true := Cond.static_spec hnamed hmethM hstat
  obtain ⟨kP, hkP, -⟩ := className_of_methodNamed hnamed
  have hinitP : kP.init = .initialized := Cond.initialized_spec (findClass_of_methodNamed hnamed) hkP hinit
  obtain ⟨vm₁, X₁, hstep₁⟩ := X.invokestatic hexec hown hlink hnamed hmethM hstatic hkP hinitP hy (g := g) hg (argsL := argsL) (rest := rest) (hlen _ hsigM) hstack hdg
  rcases hK m meth c ⟨T.setVm vm₁, locs, cells, slots⟩ { g with stack := rest } (.invokestatic index) mk argsL.toArray X₁ hg hsize hdg hW (X₁.named hnamed) (hpre vm₁ X₁.warmed) with ⟨v, B, X', hpost, hsteps⟩ | ⟨q, B, X', hpost, hsteps⟩
  · exact Or.inl ⟨v, vm₁, B, X₁.warmed, X', hpost, fun target h => hstep₁ _ fun acts => by rw [doInvoke_state]; exact hsteps.trans h⟩
  · exact Or.inr ⟨q, vm₁, B, X₁.warmed, X', hpost, hstep₁ _ fun acts => by rw [doInvoke_state]; exact hsteps⟩
end Calls
theorem vx_cls {s : State} {T : State} {vm₁ : Vm} {E : String} {k : ClassId} (hW : s.WarmedH vm₁) (h : (T.setVm vm₁).vm.findClass E = some k) : s.vm.findClass E = some k := by
  have h1 : vm₁.findClass E = some k := h
  rw [hW.alike.findClass] at h1
  exact h1
/-- the method's frame g, with q thrown over it -/
def vx_W (p : Program) (l : Launch) (e : Env) (R : Room) (s : State) (m : MethodId) (args : Array Value) (below : List Frame) (meth : Method) (c : Code) (H : Heap) (locs : List Loc) (cells slots : Nat) (Q : State → Prop) (g : JFrame) (q : Addr) : Prop :=
  ∀ T : State, T.heap = H → Stand p l e R s m args below meth c T locs cells slots → ∃ t, Steps p.tables e below ((T.setTop g).pushFrame (.throwing q)) t ∧ Q t
def vx_Run (p : Program) (l : Launch) (e : Env) (R : Room) (s : State) (m : MethodId) (args : Array Value) (below : List Frame) (meth : Method) (c : Code) (H : Heap) (locs : List Loc) (cells slots mc ms : Nat) (g : JFrame) (rest : List Value) (Qa : State → Outcome → State → Prop) (XC : String → State → State → Prop) (free : Addr → Prop) : Prop :=
  ∀ T : State, T.heap = H → Stand p l e R s m args below meth c T locs cells slots →
    (∃ (v : Option Value) (st₀ t T' : State) (L : List Loc), st₀.heap = H ∧ Stand p l e R s m args below meth c T' (locs ++ L) (cells + mc) (slots + ms) ∧ (∀ q ∈ L, free q.base) ∧ T'.heap = t.heap ∧ T'.vm = t.vm ∧ Qa st₀ (.returned v) t ∧
      Goes p e below T g T' { g with pc := g.pc + 3, stack := v.toList ++ rest }) ∨
    (∃ (q : Addr) (st₀ t T' : State) (L : List Loc) (E : String) (ce : Cell), st₀.heap = H ∧ Stand p l e R s m args below meth c T' (locs ++ L) (cells + mc) (slots + ms) ∧ (∀ z ∈ L, free z.base) ∧ T'.heap = t.heap ∧ T'.vm = t.vm ∧ XC E st₀ t ∧ t.heap[q]? = some ce ∧ ce.vm = .none ∧ s.vm.findClass E = some ce.cls ∧
      Steps p.tables e below (T.setTop g) ((T'.setTop { g with stack := rest }).pushFrame (.throwing q)))
def vx_X {S : Type} (px : S → Prop) (B : String → S → State → Prop) (A : Nat → Prop) : String → State → State → Prop := fun E st t => ∃ u : S, px u ∧ B E u t ∧ va_F A st t
section Runs
variable {p : Program} {l : Launch} {e : Env} {R : Room} {s : State} {m : MethodId} {args : Array Value} {below : List Frame} {meth : Method} {c : Code} {H : Heap} {locs : List Loc} {cells slots : Nat}
variable {y : MethodName} {bytes cc : ByteArray} {maxL nL mc ms n index : Nat} {ret : Option FieldType} {ws : List Cond} {rm : Room} {Pc : Array Value → State → Prop} {Qc : Array Value → State → Outcome → State → Prop} {XC : String → State → State → Prop} {free : Addr → Prop} {Ts : List Cond} {own C : String} {b : Addr} {As rest : List Value} {g : JFrame}
theorem vx_callBack (cb : CallB R s args own index y bytes maxL ret ws rm mc ms n) (hM : vx_Met l y ws rm Pc Qc XC mc ms free) (hbl : FrameBlind Pc) : vx_Back l R p e below s args y 3 8 (PreOf R mc ms Pc) (PostOf Qc mc ms free) (vx_Post XC mc ms free) := by
  obtain ⟨hrc, hrs, hfr, hlo, hws, hcw, -, hini, -⟩ := cb
  exact vx_back (bytes := bytes) (maxL := maxL) (ret := ret) hM hbl hrc hrs hfr hlo hws hcw (fun a' U hW => word_at hW (Or.inl (by first | rfl | simp [Cond.onTables, Cond.keeps, Cond.steady])) hini)
theorem vx_runV (S : CallFix p m c cc nL s args Ts own) (hM : vx_Met l y ws rm Pc Qc XC mc ms free) (cw : CallW R s args own C index y bytes maxL ret ws rm mc ms n) (hp : PreV s H C b Pc As)
    (hg : g.method = m) (hn : As.length = n) (hsize : g.locals.size = nL) (hstack : g.stack = As.reverse ++ .ref b :: rest) (hW : 2 * g.monitorRoom + (rest.map fun v => v.category).sum ≤ 8) (hdg : decode cc g.pc = .ok (.invokevirtual index, 3)) (hf : cells + mc ≤ R.cells ∧ slots + ms ≤ R.slots) :
    vx_Run p l e R s m args below meth c H locs cells slots mc ms g rest (Qc (Value.ref b :: As).toArray) XC free := by
  have hK : vx_Back l R p e below s args y 3 8 (PreOf R mc ms Pc) (PostOf Qc mc ms free) (vx_Post XC mc ms free) := vx_callBack cw.1 hM hp.1
  obtain ⟨⟨-, -, -, -, -, -, hcode, -, hy, hlen, hl⟩, hin, hse⟩ := cw
  obtain ⟨hx, hb, hml, ho, -⟩ := S
  obtain ⟨-, ⟨cellB, hcB, hoB, hclB⟩, hPc⟩ := hp
  intro T hT X
  rcases vx_callV X hx (C := C) (bytes := bytes) (maxL := maxL) (ret := ret) ho hl hin hse hcode hy hK (by rw [hT]; exact hcB) hoB hclB hg (hsize.trans hml.symm) (argsL := As) (rest := rest) (fun sig h => hn.trans (hlen sig h)) hstack hW (by rw [hb]; exact hdg)
    (fun vm₁ hW₁ => ⟨hf.1, hf.2, hPc (T.setVm vm₁) hT hW₁⟩) with ⟨v, vm₁, ⟨U', l2, c2, s2⟩, hW₁, X', ⟨g', mk, t, L, e1, e2, hq, h1, hL, h2, h3⟩, st⟩ | ⟨q, vm₁, ⟨U', l2, c2, s2⟩, hW₁, X', ⟨g', mk, t, L, E, ce, e1, e2, hq, hce, hcv, hcl, h1, hL, h2, h3⟩, st⟩
  · dsimp only [Pt.U, Pt.locs, Pt.cells, Pt.slots] at X' e1 e2 h1 h2 h3 st
    subst h1; subst h2; subst h3
    exact Or.inl ⟨v, (T.setVm vm₁).calling g' mk (Value.ref b :: As).toArray, t, U', L, hT, X', hL, e1, e2, hq, st⟩
  · dsimp only [Pt.U, Pt.locs, Pt.cells, Pt.slots] at X' e1 e2 h1 h2 h3 st hcl
    subst h1; subst h2; subst h3
    exact Or.inr ⟨q, (T.setVm vm₁).calling g' mk (Value.ref b :: As).toArray, t, U', L, E, ce, hT, X', hL, e1, e2, hq, hce, hcv, vx_cls hW₁ hcl, st⟩
theorem vx_runS (S : CallFix p m c cc nL s args Ts own) (hM : vx_Met l y ws rm Pc Qc XC mc ms free) (cw : CallB R s args own index y bytes maxL ret ws rm mc ms n ∧ (Cond.static y).before args s = true) (hp : PreS s H Pc As)
    (hg : g.method = m) (hn : As.length = n) (hsize : g.locals.size = nL) (hstack : g.stack = As.reverse ++ rest) (hW : 2 * g.monitorRoom + (rest.map fun v => v.category).sum ≤ 8) (hdg : decode cc g.pc = .ok (.invokestatic index, 3)) (hf : cells + mc ≤ R.cells ∧ slots + ms ≤ R.slots) :
    vx_Run p l e R s m args below meth c H locs cells slots mc ms g rest (Qc As.toArray) XC free := by
  have hK : vx_Back l R p e below s args y 3 8 (PreOf R mc ms Pc) (PostOf Qc mc ms free) (vx_Post XC mc ms free) := vx_callBack cw.1 hM hp.1
  obtain ⟨⟨-, -, -, -, -, -, hcode, hini, hy, hlen, hl⟩, hstt⟩ := cw
  obtain ⟨hx, hb, hml, ho, -⟩ := S
  intro T hT X
  rcases vx_callS X hx (bytes := bytes) (maxL := maxL) (ret := ret) ho hl hstt hini hcode hy hK hg (hsize.trans hml.symm) (argsL := As) (rest := rest) (fun sig h => hn.trans (hlen sig h)) hstack hW (by rw [hb]; exact hdg)
    (fun vm₁ hW₁ => ⟨hf.1, hf.2, hp.2 (T.setVm vm₁) hT hW₁⟩) with ⟨v, vm₁, ⟨U', l2, c2, s2⟩, hW₁, X', ⟨g', mk, t, L, e1, e2, hq, h1, hL, h2, h3⟩, st⟩ | ⟨q, vm₁, ⟨U', l2, c2, s2⟩, hW₁, X', ⟨g', mk, t, L, E, ce, e1, e2, hq, hce, hcv, hcl, h1, hL, h2, h3⟩, st⟩
  · dsimp only [Pt.U, Pt.locs, Pt.cells, Pt.slots] at X' e1 e2 h1 h2 h3 st
    subst h1; subst h2; subst h3
    exact Or.inl ⟨v, (T.setVm vm₁).calling g' mk As.toArray, t, U', L, hT, X', hL, e1, e2, hq, st⟩
  · dsimp only [Pt.U, Pt.locs, Pt.cells, Pt.slots] at X' e1 e2 h1 h2 h3 st hcl
    subst h1; subst h2; subst h3
    exact Or.inr ⟨q, (T.setVm vm₁).calling g' mk As.toArray, t, U', L, E, ce, hT, X', hL, e1, e2, hq, hce, hcv, vx_cls hW₁ hcl, st⟩
end Runs
section Rows
variable {p : Program} {l : Launch} {e : Env} {R : Room} {s : State} {m : MethodId} {args : Array Value} {below : List Frame} {meth : Method} {c : Code} {H : Heap} {locs : List Loc} {cells slots : Nat} {Q : State → Prop}
variable {mc ms : Nat} {free : Addr → Prop} {A0 A1 : Nat → Prop} {H0 : Heap} {a : Array Value} {pc : Nat} {ls : Array Slot} {st0 rest : List Value}
theorem vx_keep {st₀ t T' : State} {L : List Loc} (h0 : st₀.heap = H) (e1 : T'.heap = t.heap) (hS : va_S A0 H0 H locs) (hA : ∀ q, q < H.size → A1 q → A0 q) (hf : ∀ q, free q → A0 q) (hL : ∀ q ∈ L, free q.base) (hF : va_F A1 st₀ t) :
    H.size ≤ T'.heap.size ∧ (∀ q : Nat, q < H.size → ¬ A1 q → T'.heap[q]? = H[q]?) ∧ va_S A0 H0 T'.heap (locs ++ L) := by
  obtain ⟨hz, hk⟩ := hF
  rw [h0] at hz hk
  exact ⟨by rw [e1]; exact hz, fun q h1 h2 => by rw [e1]; exact hk q h1 h2,
    ⟨Nat.le_trans hS.1 (by rw [e1]; exact hz), fun q h1 h2 => by rw [e1, hk q (Nat.lt_of_lt_of_le h1 hS.1) (fun z => h2 (hA q (Nat.lt_of_lt_of_le h1 hS.1) z))]; exact hS.2.1 q h1 h2, fun q hq => by
      rcases List.mem_append.mp hq with h | h
      · exact hS.2.2 q h
      · exact hf _ (hL q h)⟩⟩
theorem vx_calli {S SX : Type} {post : Int32 → S → Prop} {px : SX → Prop} {B : S → State → Prop} {BX : String → SX → State → Prop} {AX : Nat → Prop} (hr : vx_Run p l e R s m args below meth c H locs cells slots mc ms (F0 m pc ls st0) rest (va_Qi post B A1 a) (vx_X px BX AX) free) (hS : va_S A0 H0 H locs) (hA : ∀ q, q < H.size → A1 q → A0 q) (hf : ∀ q, free q → A0 q) (hAX : ∀ q, q < H.size → AX q → A0 q)
    (kx : ∀ (E : String) (ce : Cell) (q9 : Addr) (u : SX) (t : State) (H1 : Heap) (locs1 : List Loc), t.heap = H1 → s.vm.Alike t.vm → px u → BX E u t → H.size ≤ H1.size → (∀ q : Nat, q < H.size → ¬ AX q → H1[q]? = H[q]?) → va_S A0 H0 H1 locs1 → H1[q9]? = some ce → ce.vm = .none → s.vm.findClass E = some ce.cls → vx_W p l e R s m args below meth c H1 locs1 (cells + mc) (slots + ms) Q (F0 m pc ls rest) q9)
    (kk : ∀ (r : Int32) (u : S) (t : State) (H1 : Heap) (locs1 : List Loc), t.heap = H1 → s.vm.Alike t.vm → post r u → B u t → H.size ≤ H1.size → (∀ q : Nat, q < H.size → ¬ A1 q → H1[q]? = H[q]?) → va_S A0 H0 H1 locs1 → W p l e R s m args below meth c H1 locs1 (cells + mc) (slots + ms) Q (F0 m (pc + 3) ls (.int r :: rest))) : W p l e R s m args below meth c H locs cells slots Q (F0 m pc ls st0) := by
  intro T hT X
  rcases hr T hT X with ⟨v, st₀, t, T', L, h0, X', hL, e1, e2, ⟨⟨r, u, hv, hp, hb⟩, hF⟩, st⟩ | ⟨q, st₀, t, T', L, E, ce, h0, X', hL, e1, e2, ⟨u, hp, hb, hF⟩, hce, hcv, hcl, st⟩
  · cases hv
    obtain ⟨k1, k2, k3⟩ := vx_keep h0 e1 hS hA hf hL hF
    obtain ⟨t2, a1, b1⟩ := kk r u t T'.heap (locs ++ L) e1.symm (by rw [← e2]; exact X'.warmed.alike) hp hb k1 k2 k3 T' rfl X'
    exact ⟨t2, st t2 a1, b1⟩
  · obtain ⟨k1, k2, k3⟩ := vx_keep h0 e1 hS hAX hf hL hF
    obtain ⟨t2, a1, b1⟩ := kx E ce q u t T'.heap (locs ++ L) e1.symm (by rw [← e2]; exact X'.warmed.alike) hp hb k1 k2 k3 (by rw [e1]; exact hce) hcv hcl T' rfl X'
    exact ⟨t2, st.trans a1, b1⟩
theorem vx_calll {S SX : Type} {post : Int64 → S → Prop} {px : SX → Prop} {B : S → State → Prop} {BX : String → SX → State → Prop} {AX : Nat → Prop} (hr : vx_Run p l e R s m args below meth c H locs cells slots mc ms (F0 m pc ls st0) rest (va_Ql post B A1 a) (vx_X px BX AX) free) (hS : va_S A0 H0 H locs) (hA : ∀ q, q < H.size → A1 q → A0 q) (hf : ∀ q, free q → A0 q) (hAX : ∀ q, q < H.size → AX q → A0 q)
    (kx : ∀ (E : String) (ce : Cell) (q9 : Addr) (u : SX) (t : State) (H1 : Heap) (locs1 : List Loc), t.heap = H1 → s.vm.Alike t.vm → px u → BX E u t → H.size ≤ H1.size → (∀ q : Nat, q < H.size → ¬ AX q → H1[q]? = H[q]?) → va_S A0 H0 H1 locs1 → H1[q9]? = some ce → ce.vm = .none → s.vm.findClass E = some ce.cls → vx_W p l e R s m args below meth c H1 locs1 (cells + mc) (slots + ms) Q (F0 m pc ls rest) q9)
    (kk : ∀ (r : Int64) (u : S) (t : State) (H1 : Heap) (locs1 : List Loc), t.heap = H1 → s.vm.Alike t.vm → post r u → B u t → H.size ≤ H1.size → (∀ q : Nat, q < H.size → ¬ A1 q → H1[q]? = H[q]?) → va_S A0 H0 H1 locs1 → W p l e R s m args below meth c H1 locs1 (cells + mc) (slots + ms) Q (F0 m (pc + 3) ls (.long r :: rest))) : W p l e R s m args below meth c H locs cells slots Q (F0 m pc ls st0) := by
  intro T hT X
  rcases hr T hT X with ⟨v, st₀, t, T', L, h0, X', hL, e1, e2, ⟨⟨r, u, hv, hp, hb⟩, hF⟩, st⟩ | ⟨q, st₀, t, T', L, E, ce, h0, X', hL, e1, e2, ⟨u, hp, hb, hF⟩, hce, hcv, hcl, st⟩
  · cases hv
    obtain ⟨k1, k2, k3⟩ := vx_keep h0 e1 hS hA hf hL hF
    obtain ⟨t2, a1, b1⟩ := kk r u t T'.heap (locs ++ L) e1.symm (by rw [← e2]; exact X'.warmed.alike) hp hb k1 k2 k3 T' rfl X'
    exact ⟨t2, st t2 a1, b1⟩
  · obtain ⟨k1, k2, k3⟩ := vx_keep h0 e1 hS hAX hf hL hF
    obtain ⟨t2, a1, b1⟩ := kx E ce q u t T'.heap (locs ++ L) e1.symm (by rw [← e2]; exact X'.warmed.alike) hp hb k1 k2 k3 (by rw [e1]; exact hce) hcv hcl T' rfl X'
    exact ⟨t2, st.trans a1, b1⟩
theorem vx_callf {S SX : Type} {post : UInt32 → S → Prop} {px : SX → Prop} {B : S → State → Prop} {BX : String → SX → State → Prop} {AX : Nat → Prop} (hr : vx_Run p l e R s m args below meth c H locs cells slots mc ms (F0 m pc ls st0) rest (va_Qf post B A1 a) (vx_X px BX AX) free) (hS : va_S A0 H0 H locs) (hA : ∀ q, q < H.size → A1 q → A0 q) (hf : ∀ q, free q → A0 q) (hAX : ∀ q, q < H.size → AX q → A0 q)
    (kx : ∀ (E : String) (ce : Cell) (q9 : Addr) (u : SX) (t : State) (H1 : Heap) (locs1 : List Loc), t.heap = H1 → s.vm.Alike t.vm → px u → BX E u t → H.size ≤ H1.size → (∀ q : Nat, q < H.size → ¬ AX q → H1[q]? = H[q]?) → va_S A0 H0 H1 locs1 → H1[q9]? = some ce → ce.vm = .none → s.vm.findClass E = some ce.cls → vx_W p l e R s m args below meth c H1 locs1 (cells + mc) (slots + ms) Q (F0 m pc ls rest) q9)
    (kk : ∀ (r : UInt32) (u : S) (t : State) (H1 : Heap) (locs1 : List Loc), t.heap = H1 → s.vm.Alike t.vm → post r u → B u t → H.size ≤ H1.size → (∀ q : Nat, q < H.size → ¬ A1 q → H1[q]? = H[q]?) → va_S A0 H0 H1 locs1 → W p l e R s m args below meth c H1 locs1 (cells + mc) (slots + ms) Q (F0 m (pc + 3) ls (.float r :: rest))) : W p l e R s m args below meth c H locs cells slots Q (F0 m pc ls st0) := by
  intro T hT X
  rcases hr T hT X with ⟨v, st₀, t, T', L, h0, X', hL, e1, e2, ⟨⟨r, u, hv, hp, hb⟩, hF⟩, st⟩ | ⟨q, st₀, t, T', L, E, ce, h0, X', hL, e1, e2, ⟨u, hp, hb, hF⟩, hce, hcv, hcl, st⟩
  · cases hv
    obtain ⟨k1, k2, k3⟩ := vx_keep h0 e1 hS hA hf hL hF
    obtain ⟨t2, a1, b1⟩ := kk r u t T'.heap (locs ++ L) e1.symm (by rw [← e2]; exact X'.warmed.alike) hp hb k1 k2 k3 T' rfl X'
    exact ⟨t2, st t2 a1, b1⟩
  · obtain ⟨k1, k2, k3⟩ := vx_keep h0 e1 hS hAX hf hL hF
    obtain ⟨t2, a1, b1⟩ := kx E ce q u t T'.heap (locs ++ L) e1.symm (by rw [← e2]; exact X'.warmed.alike) hp hb k1 k2 k3 (by rw [e1]; exact hce) hcv hcl T' rfl X'
    exact ⟨t2, st.trans a1, b1⟩
theorem vx_calld {S SX : Type} {post : UInt64 → S → Prop} {px : SX → Prop} {B : S → State → Prop} {BX : String → SX → State → Prop} {AX : Nat → Prop} (hr : vx_Run p l e R s m args below meth c H locs cells slots mc ms (F0 m pc ls st0) rest (va_Qd post B A1 a) (vx_X px BX AX) free) (hS : va_S A0 H0 H locs) (hA : ∀ q, q < H.size → A1 q → A0 q) (hf : ∀ q, free q → A0 q) (hAX : ∀ q, q < H.size → AX q → A0 q)
    (kx : ∀ (E : String) (ce : Cell) (q9 : Addr) (u : SX) (t : State) (H1 : Heap) (locs1 : List Loc), t.heap = H1 → s.vm.Alike t.vm → px u → BX E u t → H.size ≤ H1.size → (∀ q : Nat, q < H.size → ¬ AX q → H1[q]? = H[q]?) → va_S A0 H0 H1 locs1 → H1[q9]? = some ce → ce.vm = .none → s.vm.findClass E = some ce.cls → vx_W p l e R s m args below meth c H1 locs1 (cells + mc) (slots + ms) Q (F0 m pc ls rest) q9)
    (kk : ∀ (r : UInt64) (u : S) (t : State) (H1 : Heap) (locs1 : List Loc), t.heap = H1 → s.vm.Alike t.vm → post r u → B u t → H.size ≤ H1.size → (∀ q : Nat, q < H.size → ¬ A1 q → H1[q]? = H[q]?) → va_S A0 H0 H1 locs1 → W p l e R s m args below meth c H1 locs1 (cells + mc) (slots + ms) Q (F0 m (pc + 3) ls (.double r :: rest))) : W p l e R s m args below meth c H locs cells slots Q (F0 m pc ls st0) := by
  intro T hT X
  rcases hr T hT X with ⟨v, st₀, t, T', L, h0, X', hL, e1, e2, ⟨⟨r, u, hv, hp, hb⟩, hF⟩, st⟩ | ⟨q, st₀, t, T', L, E, ce, h0, X', hL, e1, e2, ⟨u, hp, hb, hF⟩, hce, hcv, hcl, st⟩
  · cases hv
    obtain ⟨k1, k2, k3⟩ := vx_keep h0 e1 hS hA hf hL hF
    obtain ⟨t2, a1, b1⟩ := kk r u t T'.heap (locs ++ L) e1.symm (by rw [← e2]; exact X'.warmed.alike) hp hb k1 k2 k3 T' rfl X'
    exact ⟨t2, st t2 a1, b1⟩
  · obtain ⟨k1, k2, k3⟩ := vx_keep h0 e1 hS hAX hf hL hF
    obtain ⟨t2, a1, b1⟩ := kx E ce q u t T'.heap (locs ++ L) e1.symm (by rw [← e2]; exact X'.warmed.alike) hp hb k1 k2 k3 (by rw [e1]; exact hce) hcv hcl T' rfl X'
    exact ⟨t2, st.trans a1, b1⟩
theorem vx_callv {S SX : Type} {post : S → Prop} {px : SX → Prop} {B : S → State → Prop} {BX : String → SX → State → Prop} {AX : Nat → Prop} (hr : vx_Run p l e R s m args below meth c H locs cells slots mc ms (F0 m pc ls st0) rest (va_Qv post B A1 a) (vx_X px BX AX) free) (hS : va_S A0 H0 H locs) (hA : ∀ q, q < H.size → A1 q → A0 q) (hf : ∀ q, free q → A0 q) (hAX : ∀ q, q < H.size → AX q → A0 q)
    (kx : ∀ (E : String) (ce : Cell) (q9 : Addr) (u : SX) (t : State) (H1 : Heap) (locs1 : List Loc), t.heap = H1 → s.vm.Alike t.vm → px u → BX E u t → H.size ≤ H1.size → (∀ q : Nat, q < H.size → ¬ AX q → H1[q]? = H[q]?) → va_S A0 H0 H1 locs1 → H1[q9]? = some ce → ce.vm = .none → s.vm.findClass E = some ce.cls → vx_W p l e R s m args below meth c H1 locs1 (cells + mc) (slots + ms) Q (F0 m pc ls rest) q9)
    (kk : ∀ (u : S) (t : State) (H1 : Heap) (locs1 : List Loc), t.heap = H1 → s.vm.Alike t.vm → post u → B u t → H.size ≤ H1.size → (∀ q : Nat, q < H.size → ¬ A1 q → H1[q]? = H[q]?) → va_S A0 H0 H1 locs1 → W p l e R s m args below meth c H1 locs1 (cells + mc) (slots + ms) Q (F0 m (pc + 3) ls (rest))) : W p l e R s m args below meth c H locs cells slots Q (F0 m pc ls st0) := by
  intro T hT X
  rcases hr T hT X with ⟨v, st₀, t, T', L, h0, X', hL, e1, e2, ⟨⟨u, hv, hp, hb⟩, hF⟩, st⟩ | ⟨q, st₀, t, T', L, E, ce, h0, X', hL, e1, e2, ⟨u, hp, hb, hF⟩, hce, hcv, hcl, st⟩
  · cases hv
    obtain ⟨k1, k2, k3⟩ := vx_keep h0 e1 hS hA hf hL hF
    obtain ⟨t2, a1, b1⟩ := kk u t T'.heap (locs ++ L) e1.symm (by rw [← e2]; exact X'.warmed.alike) hp hb k1 k2 k3 T' rfl X'
    exact ⟨t2, st t2 a1, b1⟩
  · obtain ⟨k1, k2, k3⟩ := vx_keep h0 e1 hS hAX hf hL hF
    obtain ⟨t2, a1, b1⟩ := kx E ce q u t T'.heap (locs ++ L) e1.symm (by rw [← e2]; exact X'.warmed.alike) hp hb k1 k2 k3 (by rw [e1]; exact hce) hcv hcl T' rfl X'
    exact ⟨t2, st.trans a1, b1⟩
end Rows
section Ends
variable {p : Program} {l : Launch} {e : Env} {R : Room} {s : State} {m : MethodId} {args : Array Value} {below : List Frame} {meth : Method} {c : Code} {H : Heap} {locs : List Loc} {cells slots : Nat} {Q : State → Prop}
variable {mc ms : Nat} {free : Addr → Prop} {A0 A1 : Nat → Prop} {H0 : Heap} {a : Array Value} {ls : Array Slot} {st0 rest : List Value}
variable {Qc : Array Value → State → Outcome → State → Prop} {XC : String → State → State → Prop}
/-- what a body that may throw owes at its end -/
def vx_MQ (below : List Frame) (Qc : Array Value → State → Outcome → State → Prop) (XC : String → State → State → Prop) (a : Array Value) (s : State) (mc ms : Nat) (free : Addr → Prop) : State → Prop := fun t =>
  ∃ o, t.status = .running ∧ Ended t below o ∧ vx_Q Qc XC mc ms free a s o t
theorem vx_ret {g : JFrame} {mc ms : Nat} (k : W p l e R s m args below meth c H locs cells slots (MQ below Qc args s mc ms free) g) : W p l e R s m args below meth c H locs cells slots (vx_MQ below Qc XC args s mc ms free) g := by
  intro T hT X
  obtain ⟨t, a1, o, b1, b2, b3, b4⟩ := k T hT X
  exact ⟨t, a1, o, b1, b2, Or.inl ⟨b3, b4⟩⟩
/-- not caught here: it goes on to the caller -/
theorem vx_widen {g : JFrame} {q : Addr} {k n : Nat} (h1 : cells ≤ k) (h2 : slots ≤ n) (kk : vx_W p l e R s m args below meth c H locs k n Q g q) : vx_W p l e R s m args below meth c H locs cells slots Q g q := fun T hT X => kk T hT (stand_widen X h1 h2)
theorem vx_out {pc : Nat} {E : String} {ce : Cell} {q : Addr} {mc ms : Nat} (hout : ∀ x ∈ c.exceptionTable.toList, covers x pc = false) (hlocks : meth.locks = false) (hcell : H[q]? = some ce) (hv : ce.vm = .none) (hcl : s.vm.findClass E = some ce.cls)
    (hx : ∀ t : State, t.heap = H → s.vm.Alike t.vm → XC E s t) (hf : ∀ z ∈ locs, free z.base) (hc : cells ≤ mc) (hs : slots ≤ ms) :
    vx_W p l e R s m args below meth c H locs cells slots (vx_MQ below Qc XC args s mc ms free) (F0 m pc ls rest) q := by
  intro T hT X
  obtain ⟨st1, hrun, hend, hW, hsm⟩ := X.leaveThrown q (g := F0 m pc ls rest) rfl rfl rfl hout hlocks
  have hcell9 : (T.setFrames (.throwing q :: below)).heap[q]? = some ce := by
    show T.heap[q]? = some ce
    rw [hT]; exact hcell
  exact ⟨_, st1, .threw q, hrun, hend, Or.inr ⟨q, rfl, E, ce, locs, hx _ hT hW.alike, hcell9, hv, hcl, hW, hsm.mono hc hs, hf⟩⟩
theorem vx_frame {U : State} {k n : Nat} (h : s.sameButNew ({ U with vm := s.vm } : State) locs k n) : s.heap.size ≤ U.heap.size ∧ ∀ q : Nat, q < s.heap.size → (∀ z ∈ locs, z.base ≠ q) → U.heap[q]? = s.heap[q]? := by
  obtain ⟨-, h2, -, -, -, h6⟩ := h
  refine ⟨h2, fun q hq hz => ?_⟩
  obtain ⟨c9, e1, e2, e3, e4⟩ := h6 q _ (Array.getElem?_eq_getElem hq)
  have hs : c9.slots = (s.heap[q]).slots := Array.ext_getElem? fun i => e4 i fun hm => hz _ hm rfl
  have h9 : c9 = s.heap[q] := by
    rw [hs] at e2
    exact e2
  have e5 : U.heap[q]? = some c9 := e1
  rw [e5, h9, Array.getElem?_eq_getElem hq]
/-- the words of a throw but the four that speak of the heap -/
def vx_no (w : Cond) : Bool := decide (w ≠ .isRef (.static Bundle.tN "UNASSIGNED_STACK" Bundle.steD)) && decide (w ≠ .isRef (.static Bundle.tN "SUPPRESSED_SENTINEL" Bundle.listD)) && decide (w ≠ .laysStatic Bundle.tN "UNASSIGNED_STACK" Bundle.steD) && decide (w ≠ .laysStatic Bundle.tN "SUPPRESSED_SENTINEL" Bundle.listD)
def vx_at0 (own : String) (ic : Nat) (X : String) (names : List String) : List Cond := (Bundle.ownAtoms0 own ic X names).filter vx_no
def vx_atS (own : String) (ic : Nat) (X : String) (names : List String) : List Cond := (Bundle.ownAtoms own ic X names).filter vx_no
/-- a word that the tables alone decide, or a good one -/
def vx_ot (w : Cond) : Bool := w.onTables || goodWord w
theorem vx_ot_at {args a' : Array Value} {s U : State} {w : Cond} (hW : s.WarmedH U.vm) (hvm : s.vm = U.vm) (hg : vx_ot w = true) (h : w.before args s = true) : w.before a' U = true := by
  simp only [vx_ot, Bool.or_eq_true] at hg
  rcases hg with hg | hg
  · exact va_tabs hg hvm h
  · exact word_at hW (good_of_word hg) h
/-- a list's words: the good ones out of the method's own list, the others by premises of their own -/
theorem vx_hat {args : Array Value} {s : State} {L B : List Cond} (h1 : ∀ w ∈ L.filter goodWord, w.before args s = true) (h2 : ∀ w ∈ L.filter (fun w => !goodWord w), w ∈ B) (h3 : ∀ w ∈ B, w.before args s = true) : ∀ w ∈ L, w.before args s = true := by
  intro w hw
  by_cases g : goodWord w = true
  · exact h1 w (List.mem_filter.mpr ⟨hw, g⟩)
  · refine h3 w (h2 w (List.mem_filter.mpr ⟨hw, ?_⟩))
    show (!goodWord w) = true
    cases hgw : goodWord w
    · rfl
    · exact absurd hgw g
theorem vx_c {args : Array Value} {s : State} {w : Cond} {B : List Cond} (h : w.before args s = true) (t : ∀ w ∈ B, w.before args s = true) : ∀ w' ∈ w :: B, w'.before args s = true := fun w' h' => (List.mem_cons.mp h').elim (fun e => by rw [e]; exact h) (t w')
theorem vx_n {args : Array Value} {s : State} : ∀ w ∈ ([] : List Cond), w.before args s = true := fun _ h => nomatch h
theorem vx_own {args : Array Value} {s : State} {L : List Cond} (h1 : ∀ w ∈ L.filter vx_no, w.before args s = true)
    (hU : (Cond.isRef (.static Bundle.tN "UNASSIGNED_STACK" Bundle.steD)).before args s = true) (hN : (Cond.isRef (.static Bundle.tN "SUPPRESSED_SENTINEL" Bundle.listD)).before args s = true)
    (lU : (Cond.laysStatic Bundle.tN "UNASSIGNED_STACK" Bundle.steD).before args s = true) (lN : (Cond.laysStatic Bundle.tN "SUPPRESSED_SENTINEL" Bundle.listD).before args s = true) : ∀ w ∈ L, w.before args s = true := by
  intro w hw
  by_cases e1 : w = .isRef (.static Bundle.tN "UNASSIGNED_STACK" Bundle.steD)
  · rw [e1]; exact hU
  · by_cases e2 : w = .isRef (.static Bundle.tN "SUPPRESSED_SENTINEL" Bundle.listD)
    · rw [e2]; exact hN
    · by_cases e3 : w = .laysStatic Bundle.tN "UNASSIGNED_STACK" Bundle.steD
      · rw [e3]; exact lU
      · by_cases e4 : w = .laysStatic Bundle.tN "SUPPRESSED_SENTINEL" Bundle.listD
        · rw [e4]; exact lN
        · exact h1 w (List.mem_filter.mpr ⟨hw, by unfold vx_no; rw [decide_eq_true e1, decide_eq_true e2, decide_eq_true e3, decide_eq_true e4]; rfl⟩)
/-- where a static field lies, its class's statics cell in H -/
def vx_L (C n d : String) (A : Nat → Prop) (U : State) (H : Heap) : Prop := ∃ (c : ClassId) (k : Class) (i : Nat) (f : Field) (a : Nat) (cell : Cell), U.vm.findClass C = some c ∧ U.fieldFound? C n d = some (c, k, i, f) ∧ f.isStatic = true ∧ k.statics = some a ∧ H[a]? = some cell ∧ cell.vm.isStatics = true ∧ cell.cls = c ∧ f.slot < cell.slots.size ∧ k.staticTypes[f.slot]? = some f.type ∧ ¬ A a
theorem vx_L.moved {C n d : String} {A : Nat → Prop} {u U : State} {H : Heap} (hvm : u.vm.Alike U.vm) (h : vx_L C n d A u H) : vx_L C n d A U H := by
  obtain ⟨c, k, i, f, a, cell, h1, h2, h3, h4, h5, h6, h7, h8, h9, h10⟩ := h
  obtain ⟨k', hi', he⟩ := State.fieldFound?_setVm hvm h2
  exact ⟨c, k', i, f, a, cell, by rw [hvm.findClass]; exact h1, hi', h3, by rw [he]; exact h4, h5, h6, h7, h8, by rw [he]; exact h9, h10⟩
theorem vx_L.kept {C n d : String} {A : Nat → Prop} {U : State} {H H1 : Heap} (h : vx_L C n d A U H) (hq : ∀ a : Nat, a < H.size → ¬ A a → H1[a]? = H[a]?) : vx_L C n d A U H1 := by
  obtain ⟨c, k, i, f, a, cell, h1, h2, h3, h4, h5, h6, h7, h8, h9, h10⟩ := h
  exact ⟨c, k, i, f, a, cell, h1, h2, h3, h4, by rw [hq a (Array.getElem?_eq_some_iff.mp h5).1 h10]; exact h5, h6, h7, h8, h9, h10⟩
theorem vx_L.narrow {C n d : String} {A B : Nat → Prop} {U : State} {H : Heap} (h : vx_L C n d A U H) (hAB : ∀ q, B q → A q) : vx_L C n d B U H := by
  obtain ⟨c, k, i, f, a, cell, h1, h2, h3, h4, h5, h6, h7, h8, h9, h10⟩ := h
  exact ⟨c, k, i, f, a, cell, h1, h2, h3, h4, h5, h6, h7, h8, h9, fun z => h10 (hAB _ z)⟩
theorem vx_L.word {C n d : String} {A : Nat → Prop} {s : State} {args : Array Value} (h : vx_L C n d A s s.heap) : (Cond.laysStatic C n d).before args s = true := by
  obtain ⟨c, k, i, f, a, cell, h1, h2, h3, h4, h5, h6, h7, h8, h9, -⟩ := h
  show (Cond.laysStatic C n d).holds args s none s [] = true
  exact Cond.laysStatic_of h1 h2 h3 h4 h5 h6 h7 h8 h9
/-- .. and what it holds: null or some reference -/
def vx_Zq (C n d : String) (A : Nat → Prop) (U : State) (H : Heap) : Prop := va_Zq C n d A U H ∧ vx_L C n d A U H
theorem vx_Zq.moved {C n d : String} {A : Nat → Prop} {u U : State} {H : Heap} (hvm : u.vm.Alike U.vm) (h : vx_Zq C n d A u H) : vx_Zq C n d A U H := ⟨va_Zq.moved hvm h.1, vx_L.moved hvm h.2⟩
theorem vx_Zq.kept {C n d : String} {A : Nat → Prop} {U : State} {H H1 : Heap} (h : vx_Zq C n d A U H) (hq : ∀ a : Nat, a < H.size → ¬ A a → H1[a]? = H[a]?) : vx_Zq C n d A U H1 := ⟨va_Zq.kept h.1 hq, vx_L.kept h.2 hq⟩
theorem vx_Zq.narrow {C n d : String} {A B : Nat → Prop} {U : State} {H : Heap} (h : vx_Zq C n d A U H) (hAB : ∀ q, B q → A q) : vx_Zq C n d B U H := ⟨va_Zq.narrow h.1 hAB, vx_L.narrow h.2 hAB⟩
theorem vx_Zqof {args : Array Value} {s : State} {C n d : String} {A : Nat → Prop} (hl : (Cond.laysStatic C n d).before args s = true) (hini : (Cond.initialized C).before args s = true) (h : (Cond.isRef (.static C n d)).before args s = true) (hA : ∀ a : Nat, a < s.heap.size → ¬ A a) : vx_Zq C n d A s s.heap := by
  refine ⟨va_Zqof hl hini h hA, ?_⟩
  obtain ⟨c, k, i, f, a, cell, h1, h2, h3, h4, h5, h6, h7, h8, h9⟩ := Cond.laysStatic_spec hl
  exact ⟨c, k, i, f, a, cell, h1, h2, h3, h4, h5, h6, h7, h8, h9, hA a (Array.getElem?_eq_some_iff.mp h5).1⟩
theorem vx_isRef {C n d : String} {v : Value} {A : Nat → Prop} {s : State} {args : Array Value} (h : va_Z C n d v A s s.heap) (hv : v.isRef = true) : (Cond.isRef (.static C n d)).before args s = true := by
  obtain ⟨cf, kf, fi, f, a, cell, h1, h2, h3, h4, h5, h6, h7, -⟩ := h
  have he : (Term.static C n d).eval args s none [] s = some v := by
    simp [Term.eval, State.fieldNamed?, h1, h2, h4, h5, h6, h7]
  simp only [Cond.before, Cond.holds, Cond.value, he]
  cases v <;> simp_all [Value.isRef]
theorem vx_isRefq {C n d : String} {A : Nat → Prop} {s : State} {args : Array Value} (h : va_Zq C n d A s s.heap) : (Cond.isRef (.static C n d)).before args s = true := by
  rcases h with h | ⟨t, h⟩
  · exact vx_isRef h rfl
  · exact vx_isRef h rfl
/-- the same frame, seen from here: as if the method were called anew in this heap -/
theorem vx_rebase {T : State} (X : Stand p l e R s m args below meth c T locs cells slots) {R' : Room} (hf : R'.frames ≤ R.frames) (hl : R'.locals ≤ R.locals) (hc : cells + R'.cells ≤ R.cells) (hs : slots + R'.slots ≤ R.slots) :
    Stand p l e R' ((T.setVm s.vm).setFrames (.invoking m args :: below)) m args below meth c T [] 0 0 := by
  have htop : (T.setVm s.vm).topJava?.isSome := X.here.top
  have hF : ((T.setVm s.vm).setFrames (.invoking m args :: below)).frames = .invoking m args :: below := State.frames_setFrames _ (State.cur_lt_of_top htop)
  obtain ⟨g₀, hg0⟩ := Option.isSome_iff_exists.mp htop
  obtain ⟨r, hr⟩ := State.topJava?_eq_some.mp hg0
  have hl9 : e.platform.stackLimits (T.setVm s.vm).me = e.platform.stackLimits s.me := X.limits
  have hb9 : (T.setVm s.vm).me.stackBytes = s.me.stackBytes := X.bytes
  refine ⟨X.admits, X.cas, X.clock, hF, ?_, X.hears, X.method, X.code, X.here, X.tail, X.warmed, ?_, ?_, ?_⟩
  · have h := X.room
    have hU : ((T.setVm s.vm).setFrames (.invoking m args :: below)).localsInUse = s.localsInUse := by
      rw [State.localsInUse_invoking hF (meth := meth) (c := c) X.method X.code, State.localsInUse_invoking X.frames X.method X.code]
    simp only [State.hasRoom, Bool.and_eq_true, decide_eq_true_eq] at h ⊢
    obtain ⟨⟨⟨⟨h1, h2, h3, h4, h5, h6⟩, h7⟩, h8⟩, h9⟩ := h
    rw [X.frames, List.length_cons] at h2 h3
    have q1 := X.heapSize
    have q2 := X.used
    simp only [hF, hU, List.length_cons, State.stackLimits_setFrames, State.stackBytes_setFrames, hl9, hb9]
    refine ⟨⟨⟨⟨by omega, by omega, by omega, by omega, by omega, h6⟩, ?_⟩, ?_⟩, X.book⟩
    · show T.heap.size + R'.cells ≤ e.platform.maxCells
      omega
    · show T.slotsUsed + R'.slots ≤ e.platform.maxSlots
      omega
  · rw [State.stackLimits_setFrames]; rfl
  · rw [State.stackBytes_setFrames]; rfl
  · refine ⟨?_, Nat.le_refl _, Nat.le_refl _, ?_, ?_, fun a c9 h9 => ⟨c9, h9, rfl, rfl, fun _ _ => rfl⟩⟩
    · obtain ⟨t, ht, -⟩ := State.frames_cons hr
      show T.setVm s.vm = { ((T.setVm s.vm).setFrames (.invoking m args :: below)).setFrames (T.setVm s.vm).frames with heap := T.heap, slotsUsed := T.slotsUsed }
      rw [State.setFrames_setFrames, State.setFrames_self ht]
      rfl
    · show T.slotsUsed = T.slotsUsed + ((T.heap.toList.drop T.heap.size).map (·.slots.size)).sum
      rw [List.drop_eq_nil_of_le (Nat.le_of_eq Array.length_toList)]
      rfl
    · show ((T.heap.toList.drop T.heap.size).map (·.slots.size)).sum ≤ 0
      rw [List.drop_eq_nil_of_le (Nat.le_of_eq Array.length_toList)]
      exact Nat.le_refl _
/-- 'throw new E()': new; dup; invokespecial; athrow -/
theorem vx_throw0 {cc : ByteArray} {pc : Nat} (hexec : p.tables.exec = Jvm.exec) (hb : c.code = cc) (hl : l.stackTraces = false) {own cls : String} {names : List String} {ik ic mc ms : Nat} {A : Nat → Prop}
    (hown : s.vm.findClass own = some m.cls) (hcls : Bundle.fit cls = true) (hnames : ∀ n ∈ names, Bundle.fit n = true)
    (hk : (Cond.classLink own ik cls).before args s = true) (hini : (Cond.initialized cls).before args s = true) (hat : ∀ w ∈ vx_at0 own ic cls names, w.before args s = true)
    (hgood : ∀ w ∈ Cond.classLink own ik cls :: Cond.initialized cls :: vx_at0 own ic cls names, vx_ot w = true)
    (hU : vx_Zq Bundle.tN "UNASSIGNED_STACK" Bundle.steD A s s.heap) (hN : vx_Zq Bundle.tN "SUPPRESSED_SENTINEL" Bundle.listD A s s.heap) (hS : va_S A s.heap H locs) (hsize : ls.size = c.maxLocals)
    (d0 : decode cc pc = .ok (.new ik, 3)) (d3 : decode cc (pc + 3) = .ok (.dup, 1)) (d4 : decode cc (pc + 4) = .ok (.invokespecial ic, 3)) (d7 : decode cc (pc + 7) = .ok (.athrow, 1))
    (hout : ∀ x ∈ c.exceptionTable.toList, covers x (pc + 7) = false)
    (hRframes : names.length + 3 < R.frames) (hRlocals : (rest.map fun v => v.category).sum + (13 * (names.length + 1) + 42) ≤ R.locals) (hRcells : cells + 1 ≤ R.cells) (hRslots : slots + 6 ≤ R.slots) (hlocks : meth.locks = false)
    (hx : ∀ t : State, s.vm.Alike t.vm → H.size ≤ t.heap.size → (∀ q : Nat, q < H.size → t.heap[q]? = H[q]?) → XC cls s t)
    (hf : ∀ z ∈ locs, free z.base) (hc : cells + 1 ≤ mc) (hs : slots + 6 ≤ ms) :
    W p l e R s m args below meth c H locs cells slots (vx_MQ below Qc XC args s mc ms free) (F0 m pc ls rest) := by
  intro T hT X
  have htr : e.platform.stackTraces = false := (show e.platform.stackTraces = l.stackTraces by rw [X.admits.platform]).trans hl
  have Y := vx_rebase X (R' := { frames := R.frames, locals := R.locals, cells := 1, slots := 6 }) (Nat.le_refl _) (Nat.le_refl _) hRcells hRslots
  obtain ⟨s', hA⟩ : ∃ z, z = (T.setVm s.vm).setFrames (.invoking m args :: below) := ⟨_, rfl⟩
  rw [← hA] at Y
  have hvm : s'.vm = s.vm := by rw [hA]; rfl
  have hhp : s'.heap = H := by rw [hA]; exact hT
  have hW0 : s.WarmedH s'.vm := by rw [hvm]; exact State.WarmedH.refl s
  have hat' : ∀ w ∈ vx_at0 own ic cls names, w.before args s' = true := fun w hw => vx_ot_at hW0 hvm.symm (hgood w (List.mem_cons_of_mem _ (List.mem_cons_of_mem _ hw))) (hat w hw)
  have hk' : (Cond.classLink own ik cls).before args s' = true := vx_ot_at hW0 hvm.symm (hgood _ List.mem_cons_self) hk
  have hini' : (Cond.initialized cls).before args s' = true := vx_ot_at hW0 hvm.symm (hgood _ (List.mem_cons_of_mem _ List.mem_cons_self)) hini
  have hU' : vx_Zq Bundle.tN "UNASSIGNED_STACK" Bundle.steD A s' s'.heap := by rw [hhp]; exact vx_Zq.moved hW0.alike (hU.kept hS.2.1)
  have hN' : vx_Zq Bundle.tN "SUPPRESSED_SENTINEL" Bundle.listD A s' s'.heap := by rw [hhp]; exact vx_Zq.moved hW0.alike (hN.kept hS.2.1)
  have h : ∀ w ∈ Bundle.ownAtoms0 own ic cls names, w.before args s' = true := vx_own hat' (vx_isRefq hU'.1) (vx_isRefq hN'.1) hU'.2.word hN'.2.word
  have hown' : s'.vm.findClass own = some m.cls := by rw [hvm]; exact hown
  have hins : (Cond.instantiable cls 6).before args s' = true := h _ (by simp [Bundle.ownAtoms0])
  obtain ⟨vm₁, cX, kX, hfX, hkX, -, -, X₁, st1⟩ := Y.newCold hexec (own := own) (C := cls) (index := ik) (n := 6) hown' hk' hins hini'
    (g := F0 m pc ls rest) rfl (by rw [hb]; exact d0) (Nat.le_refl _) (Nat.le_refl _)
  generalize hT1 : (T.setVm vm₁).pushCell { cls := cX, slots := kX.instanceTypes.map defaultValue, vm := .none } = T1 at X₁ st1
  have hcat : (Value.ref T.heap.size).category = 1 := rfl
  have hcellA : T1.heap[T.heap.size]? = some (freshCell cX kX) := by rw [← hT1]; exact State.heap_pushCell_size _ _
  have d3' : decode c.code (pc + 3) = .ok (.dup, 1) := by rw [hb]; exact d3
  obtain ⟨U, hsteps, hrun, hend, hW, hsame, ce, hce, hO⟩ := X₁.ctorThrow0 hexec htr (own := own) (cls := cls) (names := names) (ic := ic) hown' hcls hnames h (fun x hx => nomatch hx) hfX hkX hcellA (by rw [hhp, hT]; exact Nat.le_refl _)
    (g := { method := m, pc := pc + 4, locals := ls, stack := .ref T.heap.size :: .ref T.heap.size :: rest, locked := none }) rfl hsize rfl rfl (rest := rest) rfl
    (by rw [hb]; exact d4) (by rw [hb]; exact d7) hout hRframes (by simp only [List.map_cons, List.sum_cons, hcat]; omega) hlocks
  obtain ⟨f1, f2⟩ := vx_frame hsame
  rw [hhp] at f1 f2
  have hWs : s.WarmedH U.vm := State.WarmedH.trans hW0 hW
  have hcl : s.vm.findClass cls = some ce.cls := by
    have h9 := hO.cls
    rw [hvm] at h9
    exact h9
  have hall : s.sameButNew ({ U with vm := s.vm } : State) locs mc ms := by
    subst hA
    obtain ⟨e1, e2⟩ := hsame
    rw [State.setFrames_setFrames] at e1
    have h2 : (T.setVm s.vm).sameButNew ({ U with vm := s.vm } : State) [] (0 + 1) (0 + 6) := ⟨e1, e2⟩
    have h3 := X.same.trans h2
    rw [List.append_nil] at h3
    exact h3.mono hc hs
  refine ⟨U, ?_, .threw T.heap.size, hrun, hend, Or.inr ⟨T.heap.size, rfl, cls, ce, locs, hx U hWs.alike f1 (fun q hq => f2 q hq (fun z hz => nomatch hz)), hce, hO.vm, hcl, hWs, hall, hf⟩⟩
  refine st1 _ ?_
  show Steps p.tables e below (T1.setTop { method := m, pc := pc + 3, locals := ls, stack := .ref T.heap.size :: rest, locked := none }) _
  jvm_step X₁.here [X₁.here.top, hexec, d3', Value.category]
  exact hsteps
/-- 'throw new E("text")': new; dup; ldc; invokespecial; athrow -/
theorem vx_throwS {cc : ByteArray} {pc : Nat} (hexec : p.tables.exec = Jvm.exec) (hb : c.code = cc) (hl : l.stackTraces = false) {own cls text : String} {names : List String} {ik is ic mc ms sa : Nat} {A : Nat → Prop}
    (hown : s.vm.findClass own = some m.cls) (hcls : Bundle.fit cls = true) (hnames : ∀ n ∈ names, Bundle.fit n = true)
    (hk : (Cond.classLink own ik cls).before args s = true) (hini : (Cond.initialized cls).before args s = true) (hstr : vk_R own is text sa s) (hat : ∀ w ∈ vx_atS own ic cls names, w.before args s = true)
    (hgood : ∀ w ∈ Cond.classLink own ik cls :: Cond.initialized cls :: vx_atS own ic cls names, vx_ot w = true)
    (hU : vx_Zq Bundle.tN "UNASSIGNED_STACK" Bundle.steD A s s.heap) (hN : vx_Zq Bundle.tN "SUPPRESSED_SENTINEL" Bundle.listD A s s.heap) (hS : va_S A s.heap H locs) (hsize : ls.size = c.maxLocals)
    (d0 : decode cc pc = .ok (.new ik, 3)) (d3 : decode cc (pc + 3) = .ok (.dup, 1)) (d4 : decode cc (pc + 4) = .ok (.ldc is, 2)) (d6 : decode cc (pc + 6) = .ok (.invokespecial ic, 3)) (d9 : decode cc (pc + 9) = .ok (.athrow, 1))
    (hout : ∀ x ∈ c.exceptionTable.toList, covers x (pc + 9) = false)
    (hRframes : names.length + 3 < R.frames) (hRlocals : (rest.map fun v => v.category).sum + (13 * (names.length + 1) + 43) ≤ R.locals) (hRcells : cells + 1 ≤ R.cells) (hRslots : slots + 6 ≤ R.slots) (hlocks : meth.locks = false)
    (hx : ∀ t : State, s.vm.Alike t.vm → H.size ≤ t.heap.size → (∀ q : Nat, q < H.size → t.heap[q]? = H[q]?) → XC cls s t)
    (hf : ∀ z ∈ locs, free z.base) (hc : cells + 1 ≤ mc) (hs : slots + 6 ≤ ms) :
    W p l e R s m args below meth c H locs cells slots (vx_MQ below Qc XC args s mc ms free) (F0 m pc ls rest) := by
  intro T hT X
  have htr : e.platform.stackTraces = false := (show e.platform.stackTraces = l.stackTraces by rw [X.admits.platform]).trans hl
  have Y := vx_rebase X (R' := { frames := R.frames, locals := R.locals, cells := 1, slots := 6 }) (Nat.le_refl _) (Nat.le_refl _) hRcells hRslots
  obtain ⟨s', hA⟩ : ∃ z, z = (T.setVm s.vm).setFrames (.invoking m args :: below) := ⟨_, rfl⟩
  rw [← hA] at Y
  have hvm : s'.vm = s.vm := by rw [hA]; rfl
  have hhp : s'.heap = H := by rw [hA]; exact hT
  have hW0 : s.WarmedH s'.vm := by rw [hvm]; exact State.WarmedH.refl s
  have hat' : ∀ w ∈ vx_atS own ic cls names, w.before args s' = true := fun w hw => vx_ot_at hW0 hvm.symm (hgood w (List.mem_cons_of_mem _ (List.mem_cons_of_mem _ hw))) (hat w hw)
  have hk' : (Cond.classLink own ik cls).before args s' = true := vx_ot_at hW0 hvm.symm (hgood _ List.mem_cons_self) hk
  have hini' : (Cond.initialized cls).before args s' = true := vx_ot_at hW0 hvm.symm (hgood _ (List.mem_cons_of_mem _ List.mem_cons_self)) hini
  have hU' : vx_Zq Bundle.tN "UNASSIGNED_STACK" Bundle.steD A s' s'.heap := by rw [hhp]; exact vx_Zq.moved hW0.alike (hU.kept hS.2.1)
  have hN' : vx_Zq Bundle.tN "SUPPRESSED_SENTINEL" Bundle.listD A s' s'.heap := by rw [hhp]; exact vx_Zq.moved hW0.alike (hN.kept hS.2.1)
  have h : ∀ w ∈ Bundle.ownAtoms own ic cls names, w.before args s' = true := vx_own hat' (vx_isRefq hU'.1) (vx_isRefq hN'.1) hU'.2.word hN'.2.word
  have hown' : s'.vm.findClass own = some m.cls := by rw [hvm]; exact hown
  have hins : (Cond.instantiable cls 6).before args s' = true := h _ (by simp [Bundle.ownAtoms])
  obtain ⟨vm₁, cX, kX, hfX, hkX, -, -, X₁, st1⟩ := Y.newCold hexec (own := own) (C := cls) (index := ik) (n := 6) hown' hk' hins hini'
    (g := F0 m pc ls rest) rfl (by rw [hb]; exact d0) (Nat.le_refl _) (Nat.le_refl _)
  generalize hT1 : (T.setVm vm₁).pushCell { cls := cX, slots := kX.instanceTypes.map defaultValue, vm := .none } = T1 at X₁ st1
  have hcat : (Value.ref T.heap.size).category = 1 := rfl
  have hcellA : T1.heap[T.heap.size]? = some (freshCell cX kX) := by rw [← hT1]; exact State.heap_pushCell_size _ _
  have d3' : decode c.code (pc + 3) = .ok (.dup, 1) := by rw [hb]; exact d3
  have d4' : decode c.code (pc + 4) = .ok (.ldc is, 2) := by rw [hb]; exact d4
  have hstr' : vk_R own is text sa s' := vk_R.warm hW0 hstr
  obtain ⟨U, hsteps, hrun, hend, hW, hsame, ce, hce, hO⟩ := X₁.ctorThrowS hexec htr (own := own) (cls := cls) (names := names) (ic := ic) hown' hcls hnames h (fun x hx => nomatch hx) hfX hkX hcellA (by rw [hhp, hT]; exact Nat.le_refl _) (msg := .ref sa) rfl
    (g := { method := m, pc := pc + 6, locals := ls, stack := .ref sa :: .ref T.heap.size :: .ref T.heap.size :: rest, locked := none }) rfl hsize rfl rfl (rest := rest) rfl
    (by rw [hb]; exact d6) (by rw [hb]; exact d9) hout hRframes (by simp only [List.map_cons, List.sum_cons, hcat]; omega) hlocks
  obtain ⟨f1, f2⟩ := vx_frame hsame
  rw [hhp] at f1 f2
  have hWs : s.WarmedH U.vm := State.WarmedH.trans hW0 hW
  have hcl : s.vm.findClass cls = some ce.cls := by
    have h9 := hO.cls
    rw [hvm] at h9
    exact h9
  have hall : s.sameButNew ({ U with vm := s.vm } : State) locs mc ms := by
    subst hA
    obtain ⟨e1, e2⟩ := hsame
    rw [State.setFrames_setFrames] at e1
    have h2 : (T.setVm s.vm).sameButNew ({ U with vm := s.vm } : State) [] (0 + 1) (0 + 6) := ⟨e1, e2⟩
    have h3 := X.same.trans h2
    rw [List.append_nil] at h3
    exact h3.mono hc hs
  refine ⟨U, ?_, .threw T.heap.size, hrun, hend, Or.inr ⟨T.heap.size, rfl, cls, ce, locs, hx U hWs.alike f1 (fun q hq => f2 q hq (fun z hz => nomatch hz)), hce, hO.vm, hcl, hWs, hall, hf⟩⟩
  refine st1 _ ?_
  show Steps p.tables e below (T1.setTop { method := m, pc := pc + 3, locals := ls, stack := .ref T.heap.size :: rest, locked := none }) _
  jvm_step X₁.here [X₁.here.top, hexec, d3', Value.category]
  exact X₁.ldcString hexec (own := own) (text := text) (index := is) (a := sa) hown' hstr'.1 hstr'.2
    (g := { method := m, pc := pc + 4, locals := ls, stack := .ref T.heap.size :: .ref T.heap.size :: rest, locked := none }) rfl d4' _ hsteps
/-- 'throw new E("text")', the text by a wide index -/
theorem vx_throwSW {cc : ByteArray} {pc : Nat} (hexec : p.tables.exec = Jvm.exec) (hb : c.code = cc) (hl : l.stackTraces = false) {own cls text : String} {names : List String} {ik is ic mc ms sa : Nat} {A : Nat → Prop}
    (hown : s.vm.findClass own = some m.cls) (hcls : Bundle.fit cls = true) (hnames : ∀ n ∈ names, Bundle.fit n = true)
    (hk : (Cond.classLink own ik cls).before args s = true) (hini : (Cond.initialized cls).before args s = true) (hstr : vk_R own is text sa s) (hat : ∀ w ∈ vx_atS own ic cls names, w.before args s = true)
    (hgood : ∀ w ∈ Cond.classLink own ik cls :: Cond.initialized cls :: vx_atS own ic cls names, vx_ot w = true)
    (hU : vx_Zq Bundle.tN "UNASSIGNED_STACK" Bundle.steD A s s.heap) (hN : vx_Zq Bundle.tN "SUPPRESSED_SENTINEL" Bundle.listD A s s.heap) (hS : va_S A s.heap H locs) (hsize : ls.size = c.maxLocals)
    (d0 : decode cc pc = .ok (.new ik, 3)) (d3 : decode cc (pc + 3) = .ok (.dup, 1)) (d4 : decode cc (pc + 4) = .ok (.ldc_w is, 3)) (d7 : decode cc (pc + 7) = .ok (.invokespecial ic, 3)) (d10 : decode cc (pc + 10) = .ok (.athrow, 1))
    (hout : ∀ x ∈ c.exceptionTable.toList, covers x (pc + 10) = false)
    (hRframes : names.length + 3 < R.frames) (hRlocals : (rest.map fun v => v.category).sum + (13 * (names.length + 1) + 43) ≤ R.locals) (hRcells : cells + 1 ≤ R.cells) (hRslots : slots + 6 ≤ R.slots) (hlocks : meth.locks = false)
    (hx : ∀ t : State, s.vm.Alike t.vm → H.size ≤ t.heap.size → (∀ q : Nat, q < H.size → t.heap[q]? = H[q]?) → XC cls s t)
    (hf : ∀ z ∈ locs, free z.base) (hc : cells + 1 ≤ mc) (hs : slots + 6 ≤ ms) :
    W p l e R s m args below meth c H locs cells slots (vx_MQ below Qc XC args s mc ms free) (F0 m pc ls rest) := by
  intro T hT X
  have htr : e.platform.stackTraces = false := (show e.platform.stackTraces = l.stackTraces by rw [X.admits.platform]).trans hl
  have Y := vx_rebase X (R' := { frames := R.frames, locals := R.locals, cells := 1, slots := 6 }) (Nat.le_refl _) (Nat.le_refl _) hRcells hRslots
  obtain ⟨s', hA⟩ : ∃ z, z = (T.setVm s.vm).setFrames (.invoking m args :: below) := ⟨_, rfl⟩
  rw [← hA] at Y
  have hvm : s'.vm = s.vm := by rw [hA]; rfl
  have hhp : s'.heap = H := by rw [hA]; exact hT
  have hW0 : s.WarmedH s'.vm := by rw [hvm]; exact State.WarmedH.refl s
  have hat' : ∀ w ∈ vx_atS own ic cls names, w.before args s' = true := fun w hw => vx_ot_at hW0 hvm.symm (hgood w (List.mem_cons_of_mem _ (List.mem_cons_of_mem _ hw))) (hat w hw)
  have hk' : (Cond.classLink own ik cls).before args s' = true := vx_ot_at hW0 hvm.symm (hgood _ List.mem_cons_self) hk
  have hini' : (Cond.initialized cls).before args s' = true := vx_ot_at hW0 hvm.symm (hgood _ (List.mem_cons_of_mem _ List.mem_cons_self)) hini
  have hU' : vx_Zq Bundle.tN "UNASSIGNED_STACK" Bundle.steD A s' s'.heap := by rw [hhp]; exact vx_Zq.moved hW0.alike (hU.kept hS.2.1)
  have hN' : vx_Zq Bundle.tN "SUPPRESSED_SENTINEL" Bundle.listD A s' s'.heap := by rw [hhp]; exact vx_Zq.moved hW0.alike (hN.kept hS.2.1)
  have h : ∀ w ∈ Bundle.ownAtoms own ic cls names, w.before args s' = true := vx_own hat' (vx_isRefq hU'.1) (vx_isRefq hN'.1) hU'.2.word hN'.2.word
  have hown' : s'.vm.findClass own = some m.cls := by rw [hvm]; exact hown
  have hins : (Cond.instantiable cls 6).before args s' = true := h _ (by simp [Bundle.ownAtoms])
  obtain ⟨vm₁, cX, kX, hfX, hkX, -, -, X₁, st1⟩ := Y.newCold hexec (own := own) (C := cls) (index := ik) (n := 6) hown' hk' hins hini'
    (g := F0 m pc ls rest) rfl (by rw [hb]; exact d0) (Nat.le_refl _) (Nat.le_refl _)
  generalize hT1 : (T.setVm vm₁).pushCell { cls := cX, slots := kX.instanceTypes.map defaultValue, vm := .none } = T1 at X₁ st1
  have hcat : (Value.ref T.heap.size).category = 1 := rfl
  have hcellA : T1.heap[T.heap.size]? = some (freshCell cX kX) := by rw [← hT1]; exact State.heap_pushCell_size _ _
  have d3' : decode c.code (pc + 3) = .ok (.dup, 1) := by rw [hb]; exact d3
  have d4' : decode c.code (pc + 4) = .ok (.ldc_w is, 3) := by rw [hb]; exact d4
  have hstr' : vk_R own is text sa s' := vk_R.warm hW0 hstr
  obtain ⟨U, hsteps, hrun, hend, hW, hsame, ce, hce, hO⟩ := X₁.ctorThrowS hexec htr (own := own) (cls := cls) (names := names) (ic := ic) hown' hcls hnames h (fun x hx => nomatch hx) hfX hkX hcellA (by rw [hhp, hT]; exact Nat.le_refl _) (msg := .ref sa) rfl
    (g := { method := m, pc := pc + 7, locals := ls, stack := .ref sa :: .ref T.heap.size :: .ref T.heap.size :: rest, locked := none }) rfl hsize rfl rfl (rest := rest) rfl
    (by rw [hb]; exact d7) (by rw [hb]; exact d10) hout hRframes (by simp only [List.map_cons, List.sum_cons, hcat]; omega) hlocks
  obtain ⟨f1, f2⟩ := vx_frame hsame
  rw [hhp] at f1 f2
  have hWs : s.WarmedH U.vm := State.WarmedH.trans hW0 hW
  have hcl : s.vm.findClass cls = some ce.cls := by
    have h9 := hO.cls
    rw [hvm] at h9
    exact h9
  have hall : s.sameButNew ({ U with vm := s.vm } : State) locs mc ms := by
    subst hA
    obtain ⟨e1, e2⟩ := hsame
    rw [State.setFrames_setFrames] at e1
    have h2 : (T.setVm s.vm).sameButNew ({ U with vm := s.vm } : State) [] (0 + 1) (0 + 6) := ⟨e1, e2⟩
    have h3 := X.same.trans h2
    rw [List.append_nil] at h3
    exact h3.mono hc hs
  refine ⟨U, ?_, .threw T.heap.size, hrun, hend, Or.inr ⟨T.heap.size, rfl, cls, ce, locs, hx U hWs.alike f1 (fun q hq => f2 q hq (fun z hz => nomatch hz)), hce, hO.vm, hcl, hWs, hall, hf⟩⟩
  refine st1 _ ?_
  show Steps p.tables e below (T1.setTop { method := m, pc := pc + 3, locals := ls, stack := .ref T.heap.size :: rest, locked := none }) _
  jvm_step X₁.here [X₁.here.top, hexec, d3', Value.category]
  exact X₁.ldcStringW hexec (own := own) (text := text) (index := is) (a := sa) hown' hstr'.1 hstr'.2
    (g := { method := m, pc := pc + 4, locals := ls, stack := .ref T.heap.size :: .ref T.heap.size :: rest, locked := none }) rfl d4' _ hsteps
end Ends
section Bodies
variable {l : Launch}
theorem vx_ofW {y : MethodName} {ws ws' : List Cond} {rm : Room} {Pc : Array Value → State → Prop} {Qc : Array Value → State → Outcome → State → Prop} {XC : String → State → State → Prop} {mc ms : Nat} {free : Addr → Prop} {cc : ByteArray} {maxL : Nat} {ret : Option FieldType}
    (hy : plainName y.cls = true) (hw : ws = Cond.code y cc maxL ret :: ws')
    (body : ∀ p e s m args below meth c s₁, BodyLoose p l y (headSpec ws rm) cc maxL ret e s m args below meth c s₁ → c.maxLocals = maxL → (∀ x ∈ c.exceptionTable.toList, False) → Pc args s →
      W p l e (headSpec ws rm).room s m args below meth c s.heap [] 0 0 (vx_MQ below Qc XC args s mc ms free) (entryFrame m args maxL)) : vx_Met l y ws rm Pc Qc XC mc ms free := by
  refine MetFree.of_bodyS (code := cc) (maxLocals := maxL) (ret := ret) hy ?_ ?_
  · intro args s m h hn
    obtain ⟨meth, c, h1, h2, h3, h4, h5, h6, -, -⟩ := Cond.code_spec hn (atoms_spec (ws := ws) h _ (by rw [hw]; exact List.mem_cons_self))
    exact ⟨meth, c, h1, h2, h3, h4, h5, h6⟩
  · intro p e s m args below meth c s₁ B hml hP _
    have hh0 : s₁.heap = s.heap := by rw [B.state]; rfl
    have ht : ∀ x ∈ c.exceptionTable.toList, False := by
      obtain ⟨meth9, c9, h1, h2, -, -, -, -, h7, -⟩ := Cond.code_spec B.named (atoms_spec (ws := ws) B.pre _ (by rw [hw]; exact List.mem_cons_self))
      cases Option.some.inj (h1.symm.trans B.method)
      cases Option.some.inj (h2.symm.trans (Stand.of_body B).code)
      intro x hx
      rw [Array.isEmpty_iff.mp h7] at hx
      cases hx
    obtain ⟨t, a1, o, b1, b2, b3⟩ := body p e s m args below meth c s₁ B hml ht hP s₁ hh0 (Stand.of_body B)
    exact ⟨t, o, a1, b1, b2, b3⟩
/-- the table of a body with handlers -/
theorem vx_table {p : Program} {x y : MethodName} {S : Spec} {cc bytes : ByteArray} {maxL maxL' : Nat} {ret ret' : Option FieldType} {e : Env} {s s₁ : State} {m : MethodId} {args : Array Value} {below : List Frame} {meth : Method} {c : Code} {hh : List (Nat × Nat × Nat × Nat)}
    (B : BodyLoose p l y S cc maxL ret e s m args below meth c s₁) (h : (Cond.codeWith y bytes maxL' ret' hh).before args s = true) : c.exceptionTable.toList = tableOf hh := by
  obtain ⟨m9, meth9, c9, hn9, h1, h2, -, -, h6, -⟩ := Cond.codeWith_spec h
  cases Option.some.inj (hn9.symm.trans B.named)
  cases Option.some.inj (h1.symm.trans B.method)
  cases Option.some.inj (h2.symm.trans (Stand.of_body B).code)
  rw [← h6, table_eq]
end Bodies
end VXA
/-! ===== END ===== -/
/-! ===== BEGIN a static call of a method with an exception table ===== -/
section VXS
variable {p : Program} {l : Launch} {e : Env} {R : Room} {s : State} {m : MethodId} {args : Array Value} {below : List Frame} {meth : Method} {c : Code} {T : State} {H : Heap} {locs : List Loc} {cells slots : Nat}
abbrev vx_CSW (R : Room) (s : State) (args : Array Value) (own : String) (index : Nat) (y : MethodName) (bytes : ByteArray) (maxL : Nat) (ret : Option FieldType) (hh : List (Nat × Nat × Nat × Nat)) (ws : List Cond) (rm : Room) (mc ms n : Nat) : Prop :=
  (rm.cells = mc ∧ rm.slots = ms ∧ rm.frames + 1 ≤ R.frames ∧ 8 + (maxL + 11) + rm.locals ≤ R.locals ∧ (∀ w ∈ ws, ∀ (a' : Array Value) (U : State), s.WarmedH U.vm → w.before a' U = true) ∧ Cond.codeWith y bytes maxL ret hh ∈ ws) ∧
  (Cond.codeWith y bytes maxL ret hh).before args s = true ∧ (Cond.initialized y.cls).before args s = true ∧ (y.cls ≠ "java/lang/invoke/MethodHandle" ∧ y.cls ≠ "java/lang/invoke/VarHandle") ∧
  (∀ sig, parseMethodDescriptor y.desc = some sig → n = sig.parameters.length) ∧ (Cond.methodLink own index y).before args s = true ∧ (Cond.static y).before args s = true
theorem vx_cwSW {own : String} {index maxL mc ms : Nat} {y : MethodName} {bytes : ByteArray} {ret : Option FieldType} {hh : List (Nat × Nat × Nat × Nat)} {Ts ws ws' : List Cond} {rm : Room} (n : Nat) (ht : ∀ w ∈ Ts, w.before args s = true) (hT : GoodIn Ts (va_wsS own index y ws)) (hw : ws = Cond.codeWith y bytes maxL ret hh :: ws') (hrc : rm.cells = mc) (hrs : rm.slots = ms)
    (hd : y.cls ≠ "java/lang/invoke/MethodHandle" ∧ y.cls ≠ "java/lang/invoke/VarHandle" ∧ (parseMethodDescriptor y.desc).map (fun d => d.parameters.length) = some n) (hR : rm.frames + 1 ≤ R.frames ∧ 8 + (maxL + 11) + rm.locals ≤ R.locals) :
    vx_CSW R s args own index y bytes maxL ret hh ws rm mc ms n := by
  have ok : ∀ w ∈ va_wsS own index y ws, w.before args s = true := fun w h => ht w (hT w h).1
  have hG : GoodIn Ts ws := fun w h => hT w (by unfold va_wsS; exact List.mem_append_right _ h)
  have hc : Cond.codeWith y bytes maxL ret hh ∈ ws := by rw [hw]; exact List.mem_cons_self
  refine ⟨⟨hrc, hrs, hR.1, hR.2, pay_in ht hG, hc⟩, ht _ (hG _ hc).1, ok _ (by simp [va_wsS]), ⟨hd.1, hd.2.1⟩, fun sig h => ?_, ok _ (by simp [va_wsS]), ok _ (by simp [va_wsS])⟩
  have h2 := hd.2.2
  rw [h] at h2
  exact (Option.some.inj h2).symm
theorem vx_callSW (X : Stand p l e R s m args below meth c T locs cells slots) (hexec : p.tables.exec = Jvm.exec) {own : String} {index : Nat} {y : MethodName} {bytes : ByteArray} {maxL : Nat} {ret : Option FieldType} {hh : List (Nat × Nat × Nat × Nat)}
    (hown : s.vm.findClass own = some m.cls) (hlink : (Cond.methodLink own index y).before args s = true) (hstat : (Cond.static y).before args s = true) (hinit : (Cond.initialized y.cls).before args s = true)
    (hcode : (Cond.codeWith y bytes maxL ret hh).before args s = true) (hy : y.cls ≠ "java/lang/invoke/MethodHandle" ∧ y.cls ≠ "java/lang/invoke/VarHandle")
    {W9 : Nat} {Pre : Pt → Array Value → Prop} {Post : Pt → Array Value → Option Value → Pt → Prop} (hK : Back l R p e below s args y 3 W9 Pre Post)
    {g : JFrame} (hg : g.method = m) (hsize : g.locals.size = c.maxLocals) {argsL rest : List Value} (hlen : ∀ sig, parseMethodDescriptor y.desc = some sig → argsL.length = sig.parameters.length)
    (hstack : g.stack = argsL.reverse ++ rest) (hW : 2 * g.monitorRoom + (rest.map fun v => v.category).sum ≤ W9) (hdg : decode c.code g.pc = .ok (.invokestatic index, 3))
    (hpre : ∀ vm₁, s.WarmedH vm₁ → Pre ⟨T.setVm vm₁, locs, cells, slots⟩ argsL.toArray) :
    ∃ (v : Option Value) (vm₁ : Vm) (B : Pt), s.WarmedH vm₁ ∧ Stand p l e R s m args below meth c B.U B.locs B.cells B.slots ∧ Post ⟨T.setVm vm₁, locs, cells, slots⟩ argsL.toArray v B ∧
      ∀ target, Steps p.tables e below (B.U.setTop { g with pc := g.pc + 3, stack := v.toList ++ rest }) target → Steps p.tables e below (T.setTop g) target := by
  obtain ⟨mk, methM, cM, hnamed, hmethM, -, -, -, -, -, -, hsigM⟩ := Cond.codeWith_spec hcode
  have hstatic : methM.isStatic = true := Cond.static_spec hnamed hmethM hstat
  obtain ⟨kP, hkP, -⟩ := className_of_methodNamed hnamed
  have hinitP : kP.init = .initialized := Cond.initialized_spec (findClass_of_methodNamed hnamed) hkP hinit
  obtain ⟨vm₁, X₁, hstep₁⟩ := X.invokestatic hexec hown hlink hnamed hmethM hstatic hkP hinitP hy (g := g) hg (argsL := argsL) (rest := rest) (hlen _ hsigM) hstack hdg
  obtain ⟨v, B, X', hpost, hsteps⟩ := hK m meth c ⟨T.setVm vm₁, locs, cells, slots⟩ { g with stack := rest } (.invokestatic index) mk argsL.toArray X₁ hg hsize hdg hW (X₁.named hnamed) (hpre vm₁ X₁.warmed)
  exact ⟨v, vm₁, B, X₁.warmed, X', hpost, fun target h => hstep₁ _ fun acts => by rw [doInvoke_state]; exact hsteps.trans h⟩
theorem vx_runSW {y : MethodName} {bytes cc : ByteArray} {maxL nL mc ms n index : Nat} {ret : Option FieldType} {hh : List (Nat × Nat × Nat × Nat)} {ws : List Cond} {rm : Room} {Pc : Array Value → State → Prop} {Qc : Array Value → State → Outcome → State → Prop} {free : Addr → Prop} {Ts : List Cond} {own : String} {As rest : List Value} {g : JFrame}
    (S : CallFix p m c cc nL s args Ts own) (hM : Met l y ws rm Pc Qc mc ms free) (cw : vx_CSW R s args own index y bytes maxL ret hh ws rm mc ms n) (hp : PreS s H Pc As)
    (hg : g.method = m) (hn : As.length = n) (hsize : g.locals.size = nL) (hstack : g.stack = As.reverse ++ rest) (hW : 2 * g.monitorRoom + (rest.map fun v => v.category).sum ≤ 8) (hdg : decode cc g.pc = .ok (.invokestatic index, 3)) (hf : cells + mc ≤ R.cells ∧ slots + ms ≤ R.slots) :
    va_Run p l e R s m args below meth c H locs cells slots mc ms g rest (Qc As.toArray) (free) := by
  obtain ⟨⟨hrc, hrs, hfr, hlo, hws, hcw⟩, hcode, hini, hy, hlen, hl, hstt⟩ := cw
  have hK : Back l R p e below s args y 3 8 (PreOf R mc ms Pc) (PostOf Qc mc ms free) := va_backW (hh := hh) (bytes := bytes) (maxL := maxL) (ret := ret) hM hp.1 hrc hrs hfr hlo hws hcw (fun a' U hW => word_at hW (Or.inl (by first | rfl | simp [Cond.onTables, Cond.keeps, Cond.steady])) hini)
  obtain ⟨hx, hb, hml, ho, -⟩ := S
  intro T hT X
  obtain ⟨v, vm₁, ⟨U', l2, c2, s2⟩, hW₁, X', ⟨g', mk, t, L, e1, e2, hq, h1, hL, h2, h3⟩, st⟩ := vx_callSW X hx (hh := hh) (bytes := bytes) (maxL := maxL) (ret := ret) ho hl hstt hini hcode hy hK hg (hsize.trans hml.symm) (argsL := As) (rest := rest) (fun sig h => hn.trans (hlen sig h)) hstack hW (by rw [hb]; exact hdg)
    (fun vm₁ hW₁ => ⟨hf.1, hf.2, hp.2 (T.setVm vm₁) hT hW₁⟩)
  dsimp only [Pt.U, Pt.locs, Pt.cells, Pt.slots] at X' e1 e2 h1 h2 h3 st
  subst h1; subst h2; subst h3
  exact ⟨v, (T.setVm vm₁).calling g' mk As.toArray, t, U', L, hT, X', hL, e1, e2, hq, st⟩
/-- a thing of a world lies in the heap -/
theorem vx_lt {D : va_G} {cl : List vw_C} {ws : va_W} {H1 : Heap} (h : va_P D cl ws H1) {k : Nat} {q : Nat × va_E} (hk : ws[k]? = some q) : q.1 < H1.size := (h k q hk).lt
end VXS
/-! ===== END ===== -/
/-! ===== BEGIN methods with a table of their own: called by a name, returning or throwing ===== -/
section VXH
/-! vx_backW, vx_callVX, vx_callSX, vx_callVW, vx_runVW, vx_runVX, vx_runSX, vx_ofWH follow the same proofs as their sisters above (Free/Laws.lean, Shelf42/LK1.lean); vx_outP calls Shelf42/NT130.lean (outThrough). -/
section
variable {l : Launch} {R : Room} {p : Program} {e : Env} {below : List Frame} {s : State} {sargs : Array Value} {y : MethodName} {len W9 : Nat}
theorem vx_backW {ws : List Cond} {rm : Room} {Pc : Array Value → State → Prop} {Qc : Array Value → State → Outcome → State → Prop} {XC : String → State → State → Prop} {mc ms : Nat} {free : Addr → Prop} {bytes : ByteArray} {maxL : Nat} {ret : Option FieldType} {hh : List (Nat × Nat × Nat × Nat)}
    (hM : vx_Met l y ws rm Pc Qc XC mc ms free) (hblind : FrameBlind Pc) (hrc : rm.cells = mc) (hrs : rm.slots = ms)
    (hframes : rm.frames + 1 ≤ R.frames) (hlocals : W9 + (maxL + 11) + rm.locals ≤ R.locals)
    (hws : ∀ w ∈ ws, ∀ a' U, s.WarmedH U.vm → w.before a' U = true) (hcode : Cond.codeWith y bytes maxL ret hh ∈ ws) (hinit : ∀ a' U, s.WarmedH U.vm → (Cond.initialized y.cls).before a' U = true) :
    vx_Back l R p e below s sargs y len W9 (PreOf R mc ms Pc) (PostOf Qc mc ms free) (vx_Post XC mc ms free) := by
  intro m meth c A g ig mk a X hg hsize hdg hW hn hp
  have h1 : (headSpec ws rm).pre.before a A.U = true := atoms_intro fun w hw => hws w hw _ _ X.warmed
  have h2 : (Cond.codeWith y bytes maxL ret hh).before a A.U = true := hws _ hcode _ _ X.warmed
  have h3 : (Cond.initialized y.cls).before a A.U = true := hinit _ _ X.warmed
  have h4 : A.cells + (headSpec ws rm).room.cells ≤ R.cells := by rw [show (headSpec ws rm).room.cells = mc from hrc]; exact hp.1
  have h5 : A.slots + (headSpec ws rm).room.slots ≤ R.slots := by rw [show (headSpec ws rm).room.slots = ms from hrs]; exact hp.2.1
  have hPc : Pc a (A.U.calling g mk a) := hblind _ _ _ _ hp.2.2
  obtain ⟨U, Ls, c0, s0⟩ := A
  dsimp only [Pt.U, Pt.locs, Pt.cells, Pt.slots] at h1 h2 h3 h4 h5 X hn hPc ⊢
  obtain ⟨m9, methY, cY, hn9, hmY, hcY, -, hlY, -⟩ := Cond.codeWith_spec h2
  cases Option.some.inj (hn9.symm.trans hn)
  obtain ⟨kY, hkY, -⟩ := className_of_methodNamed hn
  have hinitY : kY.init = .initialized := Cond.initialized_spec (findClass_of_methodNamed hn) hkY h3
  have h : At U g.method c below := by rw [hg]; exact X.here
  have hlocals9 : W9 + (maxL + 11) + (headSpec ws rm).room.locals ≤ R.locals := hlocals
  have happ : (headSpec ws rm).appliesLoose y e.platform (U.calling g mk a) = true :=
    Spec.appliesLoose_calling (g := g) h hdg hn hkY hinitY
      (X.room_calling (g := g) (R' := (headSpec ws rm).room) hsize hmY hcY hframes (by rw [hlY]; omega) h4 h5) h1
  obtain ⟨mid, hmid⟩ := h.above
  have hfr : (U.setTop g).frames = (.java g :: mid) ++ below := by rw [State.frames_setTop' g h.top, hmid]; rfl
  obtain ⟨o, s₂, hsteps, -, hend, hq⟩ := Steps.callFree hM p X.admits X.cas X.clock (acts := []) hfr happ hPc trivial
  have hq' : vx_Q Qc XC mc ms free a (U.calling g mk a) o s₂ := hq
  rw [State.frames_setTop' g h.top] at hend
  obtain ⟨g₀, hg0⟩ := Option.isSome_iff_exists.mp h.top
  obtain ⟨r, hr⟩ := State.topJava?_eq_some.mp hg0
  have hr' : (({ U with heap := s₂.heap, slotsUsed := s₂.slotsUsed } : State).setVm s₂.vm).frames = .java g₀ :: r := hr
  rcases hq' with ⟨hqc, L, hfe, hL⟩ | ⟨q, rfl, E, ce, L, hx, hce, hcv, hcl, hW₂, hsm, hL⟩
  · obtain ⟨⟨v, rfl⟩, hW₂, e2, q2, q3, q4, q5, q6⟩ := id hfe
    have e3 : s₂ = ({ (U.calling g mk a).setFrames s₂.frames with heap := s₂.heap, slotsUsed := s₂.slotsUsed } : State).setVm s₂.vm := by
      have : s₂ = ({ s₂ with vm := (U.calling g mk a).vm } : State).setVm s₂.vm := rfl
      rw [e2] at this
      exact this
    obtain ⟨c₂, i₂, len₂, hc₂, hd₂, hf₂⟩ := hend
    have hW' : U.WarmedH s₂.vm := hW₂
    have hcc : c₂ = c := by
      have h1 : s₂.code? g.method = U.code? g.method := by
        rw [State.code?_eq, State.code?_eq, hW'.alike.method?]
      exact Option.some.inj (hc₂.symm.trans (h1.trans h.code))
    subst hcc
    have hlen : len₂ = len := by rw [hdg] at hd₂; cases hd₂; rfl
    subst hlen
    have hs₂ : s₂ = (({ U with heap := s₂.heap, slotsUsed := s₂.slotsUsed } : State).setVm s₂.vm).setTop { g with pc := g.pc + len₂, stack := v.toList ++ g.stack } := by
      refine e3.trans ?_
      rw [hf₂, State.calling_eq h.top, State.setFrames_setFrames, State.setTop_of_frames _ hr', hr]
      rfl
    have hsame : U.sameButNew ({ U with heap := s₂.heap, slotsUsed := s₂.slotsUsed } : State) L mc ms := by
      refine ⟨?_, q2, q3, q4, q5, q6⟩
      obtain ⟨t, ht, -⟩ := State.frames_cons hr
      show ({ U with heap := s₂.heap, slotsUsed := s₂.slotsUsed } : State) = { U.setFrames U.frames with heap := s₂.heap, slotsUsed := s₂.slotsUsed }
      rw [State.setFrames_self ht]
    subst hg
    refine Or.inl ⟨v, ⟨(({ U with heap := s₂.heap, slotsUsed := s₂.slotsUsed } : State).setVm s₂.vm), Ls ++ L, c0 + mc, s0 + ms⟩,
      ⟨X.admits, X.cas, X.clock, X.frames, X.room, X.hears, X.method, X.code, (X.here.setHeapUsed s₂.heap s₂.slotsUsed).setVm hW'.alike, X.tail, State.WarmedH.trans X.warmed hW', X.limits, X.bytes, X.same.trans (hsame.setVm s.vm)⟩,
      ⟨g, mk, s₂, L, rfl, rfl, hqc, rfl, hL, rfl, rfl⟩, ?_⟩
    show Steps p.tables e below _ ((({ U with heap := s₂.heap, slotsUsed := s₂.slotsUsed } : State).setVm s₂.vm).setTop { g with pc := g.pc + len₂, stack := v.toList ++ g.stack })
    rw [← hs₂]
    exact hsteps
  · obtain ⟨e2, q2, q3, q4, q5, q6⟩ := id hsm
    have e3 : s₂ = ({ (U.calling g mk a).setFrames s₂.frames with heap := s₂.heap, slotsUsed := s₂.slotsUsed } : State).setVm s₂.vm := by
      have : s₂ = ({ s₂ with vm := (U.calling g mk a).vm } : State).setVm s₂.vm := rfl
      rw [e2] at this
      exact this
    have hf₂ : s₂.frames = .throwing q :: .java g :: U.frames.tail := hend
    have hW' : U.WarmedH s₂.vm := hW₂
    have hs₂ : s₂ = ((({ U with heap := s₂.heap, slotsUsed := s₂.slotsUsed } : State).setVm s₂.vm).setTop g).pushFrame (.throwing q) := by
      refine e3.trans ?_
      rw [hf₂, State.calling_eq h.top, State.setFrames_setFrames, State.pushFrame, State.frames_setTop _ hr', State.setTop_of_frames _ hr', State.setFrames_setFrames, hr]
      rfl
    have hsame : U.sameButNew ({ U with heap := s₂.heap, slotsUsed := s₂.slotsUsed } : State) L mc ms := by
      refine ⟨?_, q2, q3, q4, q5, q6⟩
      obtain ⟨t, ht, -⟩ := State.frames_cons hr
      show ({ U with heap := s₂.heap, slotsUsed := s₂.slotsUsed } : State) = { U.setFrames U.frames with heap := s₂.heap, slotsUsed := s₂.slotsUsed }
      rw [State.setFrames_self ht]
    subst hg
    refine Or.inr ⟨q, ⟨(({ U with heap := s₂.heap, slotsUsed := s₂.slotsUsed } : State).setVm s₂.vm), Ls ++ L, c0 + mc, s0 + ms⟩,
      ⟨X.admits, X.cas, X.clock, X.frames, X.room, X.hears, X.method, X.code, (X.here.setHeapUsed s₂.heap s₂.slotsUsed).setVm hW'.alike, X.tail, State.WarmedH.trans X.warmed hW', X.limits, X.bytes, X.same.trans (hsame.setVm s.vm)⟩,
      ⟨g, mk, s₂, L, E, ce, rfl, rfl, hx, hce, hcv, hcl, rfl, hL, rfl, rfl⟩, ?_⟩
    show Steps p.tables e below _ (((({ U with heap := s₂.heap, slotsUsed := s₂.slotsUsed } : State).setVm s₂.vm).setTop g).pushFrame (.throwing q))
    rw [← hs₂]
    exact hsteps
end
variable {p : Program} {l : Launch} {e : Env} {R : Room} {s : State} {m : MethodId} {args : Array Value} {below : List Frame} {meth : Method} {c : Code} {T : State} {H : Heap} {locs : List Loc} {cells slots : Nat}
theorem vx_callVX (X : Stand p l e R s m args below meth c T locs cells slots) (hexec : p.tables.exec = Jvm.exec) {own C : String} {index : Nat} {y : MethodName} {bytes : ByteArray} {maxL : Nat} {ret : Option FieldType} {hh : List (Nat × Nat × Nat × Nat)}
    (hown : s.vm.findClass own = some m.cls) (hlink : (Cond.methodLink own index y).before args s = true) (hinst : (Cond.instanceMethod y).before args s = true) (hsel : (Cond.selects C y y).before args s = true)
    (hcode : (Cond.codeWith y bytes maxL ret hh).before args s = true) (hy : y.cls ≠ "java/lang/invoke/MethodHandle" ∧ y.cls ≠ "java/lang/invoke/VarHandle")
    {W9 : Nat} {Pre : Pt → Array Value → Prop} {Post : Pt → Array Value → Option Value → Pt → Prop} {PostX : Pt → Array Value → Addr → Pt → Prop} (hK : vx_Back l R p e below s args y 3 W9 Pre Post PostX)
    {b : Addr} {cellB : Cell} (hcell : T.heap[b]? = some cellB) (hobj : cellB.vm.isStatics = false) (hcls : s.vm.findClass C = some cellB.cls)
    {g : JFrame} (hg : g.method = m) (hsize : g.locals.size = c.maxLocals) {argsL rest : List Value} (hlen : ∀ sig, parseMethodDescriptor y.desc = some sig → argsL.length = sig.parameters.length)
    (hstack : g.stack = argsL.reverse ++ .ref b :: rest) (hW : 2 * g.monitorRoom + (rest.map fun v => v.category).sum ≤ W9) (hdg : decode c.code g.pc = .ok (.invokevirtual index, 3))
    (hpre : ∀ vm₁, s.WarmedH vm₁ → Pre ⟨T.setVm vm₁, locs, cells, slots⟩ (Value.ref b :: argsL).toArray) :
    (∃ (v : Option Value) (vm₁ : Vm) (B : Pt), s.WarmedH vm₁ ∧ Stand p l e R s m args below meth c B.U B.locs B.cells B.slots ∧ Post ⟨T.setVm vm₁, locs, cells, slots⟩ (Value.ref b :: argsL).toArray v B ∧
      ∀ target, Steps p.tables e below (B.U.setTop { g with pc := g.pc + 3, stack := v.toList ++ rest }) target → Steps p.tables e below (T.setTop g) target) ∨
    (∃ (q : Addr) (vm₁ : Vm) (B : Pt), s.WarmedH vm₁ ∧ Stand p l e R s m args below meth c B.U B.locs B.cells B.slots ∧ PostX ⟨T.setVm vm₁, locs, cells, slots⟩ (Value.ref b :: argsL).toArray q B ∧
      Steps p.tables e below (T.setTop g) ((B.U.setTop { g with stack := rest }).pushFrame (.throwing q))) := by
  obtain ⟨mk, methM, hnamed, hmethM, hstM, habM⟩ := Cond.instanceMethod_spec hinst
  obtain ⟨m8, methM', cM, hn8, hmethM', -, -, -, -, -, -, hsigM⟩ := Cond.codeWith_spec hcode
  cases Option.some.inj (hn8.symm.trans hnamed)
  cases hmethM.symm.trans hmethM'
  obtain ⟨c2, r2, m2, q1, q2, q3, q4, kP, hkP, hkPi⟩ := Cond.selects_spec hsel
  cases hcls.symm.trans q1
  cases (State.methodFound?_of_named hnamed hy).symm.trans q2
  cases hnamed.symm.trans q3
  have hselP : selectMethod e.platform s.vm cellB.cls mk = .method mk := by rw [Launch.admits_selectMethod X.admits]; exact q4
  obtain ⟨vm₁, X₁, hstep₁⟩ := X.invokevirtual hexec hown hlink hnamed hmethM hstM hkP hkPi hy (a := b) (cell := cellB) hcell
    (fun z h => by rw [h] at hobj; cases hobj) hselP hmethM habM hkP hkPi (g := g) hg (argsL := argsL) (rest := rest) (hlen _ hsigM) hstack hdg
  rcases hK m meth c ⟨T.setVm vm₁, locs, cells, slots⟩ { g with stack := rest } (.invokevirtual index) mk (Value.ref b :: argsL).toArray X₁ hg hsize hdg hW (X₁.named hnamed) (hpre vm₁ X₁.warmed) with ⟨v, B, X', hpost, hsteps⟩ | ⟨q, B, X', hpost, hsteps⟩
  · exact Or.inl ⟨v, vm₁, B, X₁.warmed, X', hpost, fun target h => hstep₁ _ fun acts => by rw [doInvoke_state]; exact hsteps.trans h⟩
  · exact Or.inr ⟨q, vm₁, B, X₁.warmed, X', hpost, hstep₁ _ fun acts => by rw [doInvoke_state]; exact hsteps⟩
theorem vx_callSX (X : Stand p l e R s m args below meth c T locs cells slots) (hexec : p.tables.exec = Jvm.exec) {own : String} {index : Nat} {y : MethodName} {bytes : ByteArray} {maxL : Nat} {ret : Option FieldType} {hh : List (Nat × Nat × Nat × Nat)}
    (hown : s.vm.findClass own = some m.cls) (hlink : (Cond.methodLink own index y).before args s = true) (hstat : (Cond.static y).before args s = true) (hinit : (Cond.initialized y.cls).before args s = true)
    (hcode : (Cond.codeWith y bytes maxL ret hh).before args s = true) (hy : y.cls ≠ "java/lang/invoke/MethodHandle" ∧ y.cls ≠ "java/lang/invoke/VarHandle")
    {W9 : Nat} {Pre : Pt → Array Value → Prop} {Post : Pt → Array Value → Option Value → Pt → Prop} {PostX : Pt → Array Value → Addr → Pt → Prop} (hK : vx_Back l R p e below s args y 3 W9 Pre Post PostX)
    {g : JFrame} (hg : g.method = m) (hsize : g.locals.size = c.maxLocals) {argsL rest : List Value} (hlen : ∀ sig, parseMethodDescriptor y.desc = some sig → argsL.length = sig.parameters.length)
    (hstack : g.stack = argsL.reverse ++ rest) (hW : 2 * g.monitorRoom + (rest.map fun v => v.category).sum ≤ W9) (hdg : decode c.code g.pc = .ok (.invokestatic index, 3))
    (hpre : ∀ vm₁, s.WarmedH vm₁ → Pre ⟨T.setVm vm₁, locs, cells, slots⟩ argsL.toArray) :
    (∃ (v : Option Value) (vm₁ : Vm) (B : Pt), s.WarmedH vm₁ ∧ Stand p l e R s m args below meth c B.U B.locs B.cells B.slots ∧ Post ⟨T.setVm vm₁, locs, cells, slots⟩ argsL.toArray v B ∧
      ∀ target, Steps p.tables e below (B.U.setTop { g with pc := g.pc + 3, stack := v.toList ++ rest }) target → Steps p.tables e below (T.setTop g) target) ∨
    (∃ (q : Addr) (vm₁ : Vm) (B : Pt), s.WarmedH vm₁ ∧ Stand p l e R s m args below meth c B.U B.locs B.cells B.slots ∧ PostX ⟨T.setVm vm₁, locs, cells, slots⟩ argsL.toArray q B ∧
      Steps p.tables e below (T.setTop g) ((B.U.setTop { g with stack := rest }).pushFrame (.throwing q))) := by
  obtain ⟨mk, methM, cM, hnamed, hmethM, -, -, -, -, -, -, hsigM⟩ := Cond.codeWith_spec hcode
  have hstatic : methM.isStatic = true := Cond.static_spec hnamed hmethM hstat
  obtain ⟨kP, hkP, -⟩ := className_of_methodNamed hnamed
  have hinitP : kP.init = .initialized := Cond.initialized_spec (findClass_of_methodNamed hnamed) hkP hinit
  obtain ⟨vm₁, X₁, hstep₁⟩ := X.invokestatic hexec hown hlink hnamed hmethM hstatic hkP hinitP hy (g := g) hg (argsL := argsL) (rest := rest) (hlen _ hsigM) hstack hdg
  rcases hK m meth c ⟨T.setVm vm₁, locs, cells, slots⟩ { g with stack := rest } (.invokestatic index) mk argsL.toArray X₁ hg hsize hdg hW (X₁.named hnamed) (hpre vm₁ X₁.warmed) with ⟨v, B, X', hpost, hsteps⟩ | ⟨q, B, X', hpost, hsteps⟩
  · exact Or.inl ⟨v, vm₁, B, X₁.warmed, X', hpost, fun target h => hstep₁ _ fun acts => by rw [doInvoke_state]; exact hsteps.trans h⟩
  · exact Or.inr ⟨q, vm₁, B, X₁.warmed, X', hpost, hstep₁ _ fun acts => by rw [doInvoke_state]; exact hsteps⟩
theorem vx_callVW (X : Stand p l e R s m args below meth c T locs cells slots) (hexec : p.tables.exec = Jvm.exec) {own C : String} {index : Nat} {y : MethodName} {bytes : ByteArray} {maxL : Nat} {ret : Option FieldType} {hh : List (Nat × Nat × Nat × Nat)}
    (hown : s.vm.findClass own = some m.cls) (hlink : (Cond.methodLink own index y).before args s = true) (hinst : (Cond.instanceMethod y).before args s = true) (hsel : (Cond.selects C y y).before args s = true)
    (hcode : (Cond.codeWith y bytes maxL ret hh).before args s = true) (hy : y.cls ≠ "java/lang/invoke/MethodHandle" ∧ y.cls ≠ "java/lang/invoke/VarHandle")
    {W9 : Nat} {Pre : Pt → Array Value → Prop} {Post : Pt → Array Value → Option Value → Pt → Prop} (hK : Back l R p e below s args y 3 W9 Pre Post)
    {b : Addr} {cellB : Cell} (hcell : T.heap[b]? = some cellB) (hobj : cellB.vm.isStatics = false) (hcls : s.vm.findClass C = some cellB.cls)
    {g : JFrame} (hg : g.method = m) (hsize : g.locals.size = c.maxLocals) {argsL rest : List Value} (hlen : ∀ sig, parseMethodDescriptor y.desc = some sig → argsL.length = sig.parameters.length)
    (hstack : g.stack = argsL.reverse ++ .ref b :: rest) (hW : 2 * g.monitorRoom + (rest.map fun v => v.category).sum ≤ W9) (hdg : decode c.code g.pc = .ok (.invokevirtual index, 3))
    (hpre : ∀ vm₁, s.WarmedH vm₁ → Pre ⟨T.setVm vm₁, locs, cells, slots⟩ (Value.ref b :: argsL).toArray) :
    ∃ (v : Option Value) (vm₁ : Vm) (B : Pt), s.WarmedH vm₁ ∧ Stand p l e R s m args below meth c B.U B.locs B.cells B.slots ∧ Post ⟨T.setVm vm₁, locs, cells, slots⟩ (Value.ref b :: argsL).toArray v B ∧
      ∀ target, Steps p.tables e below (B.U.setTop { g with pc := g.pc + 3, stack := v.toList ++ rest }) target → Steps p.tables e below (T.setTop g) target := by
  obtain ⟨mk, methM, hnamed, hmethM, hstM, habM⟩ := Cond.instanceMethod_spec hinst
  obtain ⟨m8, methM', cM, hn8, hmethM', -, -, -, -, -, -, hsigM⟩ := Cond.codeWith_spec hcode
  cases Option.some.inj (hn8.symm.trans hnamed)
  cases hmethM.symm.trans hmethM'
  obtain ⟨c2, r2, m2, q1, q2, q3, q4, kP, hkP, hkPi⟩ := Cond.selects_spec hsel
  cases hcls.symm.trans q1
  cases (State.methodFound?_of_named hnamed hy).symm.trans q2
  cases hnamed.symm.trans q3
  have hselP : selectMethod e.platform s.vm cellB.cls mk = .method mk := by rw [Launch.admits_selectMethod X.admits]; exact q4
  obtain ⟨vm₁, X₁, hstep₁⟩ := X.invokevirtual hexec hown hlink hnamed hmethM hstM hkP hkPi hy (a := b) (cell := cellB) hcell
    (fun z h => by rw [h] at hobj; cases hobj) hselP hmethM habM hkP hkPi (g := g) hg (argsL := argsL) (rest := rest) (hlen _ hsigM) hstack hdg
  obtain ⟨v, B, X', hpost, hsteps⟩ := hK m meth c ⟨T.setVm vm₁, locs, cells, slots⟩ { g with stack := rest } (.invokevirtual index) mk (Value.ref b :: argsL).toArray X₁ hg hsize hdg hW (X₁.named hnamed) (hpre vm₁ X₁.warmed)
  exact ⟨v, vm₁, B, X₁.warmed, X', hpost, fun target h => hstep₁ _ fun acts => by rw [doInvoke_state]; exact hsteps.trans h⟩
abbrev vx_CVW (R : Room) (s : State) (args : Array Value) (own C : String) (index : Nat) (y : MethodName) (bytes : ByteArray) (maxL : Nat) (ret : Option FieldType) (hh : List (Nat × Nat × Nat × Nat)) (ws : List Cond) (rm : Room) (mc ms n : Nat) : Prop :=
  (rm.cells = mc ∧ rm.slots = ms ∧ rm.frames + 1 ≤ R.frames ∧ 8 + (maxL + 11) + rm.locals ≤ R.locals ∧ (∀ w ∈ ws, ∀ (a' : Array Value) (U : State), s.WarmedH U.vm → w.before a' U = true) ∧ Cond.codeWith y bytes maxL ret hh ∈ ws) ∧
  (Cond.codeWith y bytes maxL ret hh).before args s = true ∧ (Cond.initialized y.cls).before args s = true ∧ (y.cls ≠ "java/lang/invoke/MethodHandle" ∧ y.cls ≠ "java/lang/invoke/VarHandle") ∧
  (∀ sig, parseMethodDescriptor y.desc = some sig → n = sig.parameters.length) ∧ (Cond.methodLink own index y).before args s = true ∧ (Cond.instanceMethod y).before args s = true ∧ (Cond.selects C y y).before args s = true
theorem vx_cwVW {own C : String} {index maxL mc ms : Nat} {y : MethodName} {bytes : ByteArray} {ret : Option FieldType} {hh : List (Nat × Nat × Nat × Nat)} {Ts ws ws' : List Cond} {rm : Room} (n : Nat) (ht : ∀ w ∈ Ts, w.before args s = true) (hT : GoodIn Ts (wsV own index C y ws)) (hw : ws = Cond.codeWith y bytes maxL ret hh :: ws') (hrc : rm.cells = mc) (hrs : rm.slots = ms)
    (hd : y.cls = C ∧ y.cls ≠ "java/lang/invoke/MethodHandle" ∧ y.cls ≠ "java/lang/invoke/VarHandle" ∧ (parseMethodDescriptor y.desc).map (fun d => d.parameters.length) = some n) (hR : rm.frames + 1 ≤ R.frames ∧ 8 + (maxL + 11) + rm.locals ≤ R.locals) :
    vx_CVW R s args own C index y bytes maxL ret hh ws rm mc ms n := by
  obtain ⟨hC, hd⟩ := hd
  subst hC
  have ok : ∀ w ∈ wsV own index y.cls y ws, w.before args s = true := fun w h => ht w (hT w h).1
  have hG : GoodIn Ts ws := fun w h => hT w (by unfold wsV; exact List.mem_append_right _ h)
  have hc : Cond.codeWith y bytes maxL ret hh ∈ ws := by rw [hw]; exact List.mem_cons_self
  refine ⟨⟨hrc, hrs, hR.1, hR.2, pay_in ht hG, hc⟩, ht _ (hG _ hc).1, ok _ (by simp [wsV]), ⟨hd.1, hd.2.1⟩, fun sig h => ?_, ok _ (by simp [wsV]), ok _ (by simp [wsV]), ok _ (by simp [wsV])⟩
  have h2 := hd.2.2
  rw [h] at h2
  exact (Option.some.inj h2).symm
theorem vx_runVW {y : MethodName} {bytes cc : ByteArray} {maxL nL mc ms n index : Nat} {ret : Option FieldType} {hh : List (Nat × Nat × Nat × Nat)} {ws : List Cond} {rm : Room} {Pc : Array Value → State → Prop} {Qc : Array Value → State → Outcome → State → Prop} {free : Addr → Prop} {Ts : List Cond} {own C : String} {b : Addr} {As rest : List Value} {g : JFrame}
    (S : CallFix p m c cc nL s args Ts own) (hM : Met l y ws rm Pc Qc mc ms free) (cw : vx_CVW R s args own C index y bytes maxL ret hh ws rm mc ms n) (hp : PreV s H C b Pc As)
    (hg : g.method = m) (hn : As.length = n) (hsize : g.locals.size = nL) (hstack : g.stack = As.reverse ++ .ref b :: rest) (hW : 2 * g.monitorRoom + (rest.map fun v => v.category).sum ≤ 8) (hdg : decode cc g.pc = .ok (.invokevirtual index, 3)) (hf : cells + mc ≤ R.cells ∧ slots + ms ≤ R.slots) :
    va_Run p l e R s m args below meth c H locs cells slots mc ms g rest (Qc (Value.ref b :: As).toArray) free := by
  obtain ⟨⟨hrc, hrs, hfr, hlo, hws, hcw⟩, hcode, hini, hy, hlen, hl, hin, hse⟩ := cw
  have hK : Back l R p e below s args y 3 8 (PreOf R mc ms Pc) (PostOf Qc mc ms free) := va_backW (hh := hh) (bytes := bytes) (maxL := maxL) (ret := ret) hM hp.1 hrc hrs hfr hlo hws hcw (fun a' U hW => word_at hW (Or.inl (by first | rfl | simp [Cond.onTables, Cond.keeps, Cond.steady])) hini)
  obtain ⟨hx, hb, hml, ho, -⟩ := S
  obtain ⟨-, ⟨cellB, hcB, hoB, hclB⟩, hPc⟩ := hp
  intro T hT X
  obtain ⟨v, vm₁, ⟨U', l2, c2, s2⟩, hW₁, X', ⟨g', mk, t, L, e1, e2, hq, h1, hL, h2, h3⟩, st⟩ := vx_callVW X hx (C := C) (hh := hh) (bytes := bytes) (maxL := maxL) (ret := ret) ho hl hin hse hcode hy hK (by rw [hT]; exact hcB) hoB hclB hg (hsize.trans hml.symm) (argsL := As) (rest := rest) (fun sig h => hn.trans (hlen sig h)) hstack hW (by rw [hb]; exact hdg)
    (fun vm₁ hW₁ => ⟨hf.1, hf.2, hPc (T.setVm vm₁) hT hW₁⟩)
  dsimp only [Pt.U, Pt.locs, Pt.cells, Pt.slots] at X' e1 e2 h1 h2 h3 st
  subst h1; subst h2; subst h3
  exact ⟨v, (T.setVm vm₁).calling g' mk (Value.ref b :: As).toArray, t, U', L, hT, X', hL, e1, e2, hq, st⟩
section
variable {y : MethodName} {bytes cc : ByteArray} {maxL nL mc ms n index : Nat} {ret : Option FieldType} {ws : List Cond} {rm : Room} {Pc : Array Value → State → Prop} {Qc : Array Value → State → Outcome → State → Prop} {XC : String → State → State → Prop} {free : Addr → Prop} {Ts : List Cond} {own C : String} {b : Addr} {As rest : List Value} {g : JFrame}
theorem vx_runVX {hh : List (Nat × Nat × Nat × Nat)} (S : CallFix p m c cc nL s args Ts own) (hM : vx_Met l y ws rm Pc Qc XC mc ms free) (cw : vx_CVW R s args own C index y bytes maxL ret hh ws rm mc ms n) (hp : PreV s H C b Pc As)
    (hg : g.method = m) (hn : As.length = n) (hsize : g.locals.size = nL) (hstack : g.stack = As.reverse ++ .ref b :: rest) (hW : 2 * g.monitorRoom + (rest.map fun v => v.category).sum ≤ 8) (hdg : decode cc g.pc = .ok (.invokevirtual index, 3)) (hf : cells + mc ≤ R.cells ∧ slots + ms ≤ R.slots) :
    vx_Run p l e R s m args below meth c H locs cells slots mc ms g rest (Qc (Value.ref b :: As).toArray) XC free := by
  obtain ⟨⟨hrc, hrs, hfr, hlo, hws, hcw⟩, hcode, hini, hy, hlen, hl, hin, hse⟩ := cw
  have hK : vx_Back l R p e below s args y 3 8 (PreOf R mc ms Pc) (PostOf Qc mc ms free) (vx_Post XC mc ms free) := vx_backW (hh := hh) (bytes := bytes) (maxL := maxL) (ret := ret) hM hp.1 hrc hrs hfr hlo hws hcw (fun a' U hW => word_at hW (Or.inl (by first | rfl | simp [Cond.onTables, Cond.keeps, Cond.steady])) hini)
  obtain ⟨hx, hb, hml, ho, -⟩ := S
  obtain ⟨-, ⟨cellB, hcB, hoB, hclB⟩, hPc⟩ := hp
  intro T hT X
  rcases vx_callVX X hx (C := C) (hh := hh) (bytes := bytes) (maxL := maxL) (ret := ret) ho hl hin hse hcode hy hK (by rw [hT]; exact hcB) hoB hclB hg (hsize.trans hml.symm) (argsL := As) (rest := rest) (fun sig h => hn.trans (hlen sig h)) hstack hW (by rw [hb]; exact hdg)
    (fun vm₁ hW₁ => ⟨hf.1, hf.2, hPc (T.setVm vm₁) hT hW₁⟩) with ⟨v, vm₁, ⟨U', l2, c2, s2⟩, hW₁, X', ⟨g', mk, t, L, e1, e2, hq, h1, hL, h2, h3⟩, st⟩ | ⟨q, vm₁, ⟨U', l2, c2, s2⟩, hW₁, X', ⟨g', mk, t, L, E, ce, e1, e2, hq, hce, hcv, hcl, h1, hL, h2, h3⟩, st⟩
  · dsimp only [Pt.U, Pt.locs, Pt.cells, Pt.slots] at X' e1 e2 h1 h2 h3 st
    subst h1; subst h2; subst h3
    exact Or.inl ⟨v, (T.setVm vm₁).calling g' mk (Value.ref b :: As).toArray, t, U', L, hT, X', hL, e1, e2, hq, st⟩
  · dsimp only [Pt.U, Pt.locs, Pt.cells, Pt.slots] at X' e1 e2 h1 h2 h3 st hcl
    subst h1; subst h2; subst h3
    exact Or.inr ⟨q, (T.setVm vm₁).calling g' mk (Value.ref b :: As).toArray, t, U', L, E, ce, hT, X', hL, e1, e2, hq, hce, hcv, vx_cls hW₁ hcl, st⟩
theorem vx_runSX {hh : List (Nat × Nat × Nat × Nat)} (S : CallFix p m c cc nL s args Ts own) (hM : vx_Met l y ws rm Pc Qc XC mc ms free) (cw : vx_CSW R s args own index y bytes maxL ret hh ws rm mc ms n) (hp : PreS s H Pc As)
    (hg : g.method = m) (hn : As.length = n) (hsize : g.locals.size = nL) (hstack : g.stack = As.reverse ++ rest) (hW : 2 * g.monitorRoom + (rest.map fun v => v.category).sum ≤ 8) (hdg : decode cc g.pc = .ok (.invokestatic index, 3)) (hf : cells + mc ≤ R.cells ∧ slots + ms ≤ R.slots) :
    vx_Run p l e R s m args below meth c H locs cells slots mc ms g rest (Qc As.toArray) XC free := by
  obtain ⟨⟨hrc, hrs, hfr, hlo, hws, hcw⟩, hcode, hini, hy, hlen, hl, hstt⟩ := cw
  have hK : vx_Back l R p e below s args y 3 8 (PreOf R mc ms Pc) (PostOf Qc mc ms free) (vx_Post XC mc ms free) := vx_backW (hh := hh) (bytes := bytes) (maxL := maxL) (ret := ret) hM hp.1 hrc hrs hfr hlo hws hcw (fun a' U hW => word_at hW (Or.inl (by first | rfl | simp [Cond.onTables, Cond.keeps, Cond.steady])) hini)
  obtain ⟨hx, hb, hml, ho, -⟩ := S
  intro T hT X
  rcases vx_callSX X hx (hh := hh) (bytes := bytes) (maxL := maxL) (ret := ret) ho hl hstt hini hcode hy hK hg (hsize.trans hml.symm) (argsL := As) (rest := rest) (fun sig h => hn.trans (hlen sig h)) hstack hW (by rw [hb]; exact hdg)
    (fun vm₁ hW₁ => ⟨hf.1, hf.2, hp.2 (T.setVm vm₁) hT hW₁⟩) with ⟨v, vm₁, ⟨U', l2, c2, s2⟩, hW₁, X', ⟨g', mk, t, L, e1, e2, hq, h1, hL, h2, h3⟩, st⟩ | ⟨q, vm₁, ⟨U', l2, c2, s2⟩, hW₁, X', ⟨g', mk, t, L, E, ce, e1, e2, hq, hce, hcv, hcl, h1, hL, h2, h3⟩, st⟩
  · dsimp only [Pt.U, Pt.locs, Pt.cells, Pt.slots] at X' e1 e2 h1 h2 h3 st
    subst h1; subst h2; subst h3
    exact Or.inl ⟨v, (T.setVm vm₁).calling g' mk As.toArray, t, U', L, hT, X', hL, e1, e2, hq, st⟩
  · dsimp only [Pt.U, Pt.locs, Pt.cells, Pt.slots] at X' e1 e2 h1 h2 h3 st hcl
    subst h1; subst h2; subst h3
    exact Or.inr ⟨q, (T.setVm vm₁).calling g' mk As.toArray, t, U', L, E, ce, hT, X', hL, e1, e2, hq, hce, hcv, vx_cls hW₁ hcl, st⟩
end
end VXH
theorem vx_ofWH {l : Launch} {y : MethodName} {ws ws' : List Cond} {rm : Room} {Pc : Array Value → State → Prop} {Qc : Array Value → State → Outcome → State → Prop} {XC : String → State → State → Prop} {mc ms : Nat} {free : Addr → Prop} {cc : ByteArray} {maxL : Nat} {ret : Option FieldType} {hh : List (Nat × Nat × Nat × Nat)}
    (hy : plainName y.cls = true) (hw : ws = Cond.codeWith y cc maxL ret hh :: ws')
    (body : ∀ p e s m args below meth c s₁, BodyLoose p l y (headSpec ws rm) cc maxL ret e s m args below meth c s₁ → c.maxLocals = maxL → Pc args s →
      W p l e (headSpec ws rm).room s m args below meth c s.heap [] 0 0 (vx_MQ below Qc XC args s mc ms free) (entryFrame m args maxL)) : vx_Met l y ws rm Pc Qc XC mc ms free := by
  refine MetFree.of_bodyS (code := cc) (maxLocals := maxL) (ret := ret) hy ?_ ?_
  · intro args s m h hn
    obtain ⟨m9, meth, c, hn9, h1, h2, h3, h4, -, h5, h6, -⟩ := Cond.codeWith_spec (atoms_spec (ws := ws) h _ (by rw [hw]; exact List.mem_cons_self))
    cases hn.symm.trans hn9
    exact ⟨meth, c, h1, h2, h3, h4, h5, h6⟩
  · intro p e s m args below meth c s₁ B hml hP _
    have hh0 : s₁.heap = s.heap := by rw [B.state]; rfl
    obtain ⟨t, a1, o, b1, b2, b3⟩ := body p e s m args below meth c s₁ B hml hP s₁ hh0 (Stand.of_body B)
    exact ⟨t, o, a1, b1, b2, b3⟩
/-! ===== END ===== -/
end
section
def RX0 : String := "TurnKeeper$1"
def TX0 : u_T := fun k => match k with
  | _ => ("", "", "", false)
def tyX0 : Nat → FieldType := fun k => match k with
  | _ => .int
abbrev wsX00 : List Cond := u_ws RX0 TX0 0
theorem nmX0 : ∀ a, a < 0 → ∀ b, b < 0 → a ≠ b → (TX0 a).2.1 ≠ (TX0 b).2.1 := by decide +kernel
theorem tyX0_ok : ∀ k, k < 0 → parseFieldDescriptor (TX0 k).2.2.1 = some (tyX0 k) := by decide +kernel
def RX1 : String := "TurnKeeper$Gate"
def TX1 : u_T := fun k => match k with
  | 0 => ("TurnKeeper$Sync", "number", "I", true)
  | 1 => ("TurnKeeper$Sync", "kind", "I", true)
  | 2 => ("TurnKeeper$Sync", "row", "LTurnKeeper$Row;", true)
  | 3 => ("TurnKeeper$Gate", "owner", "I", false)
  | _ => ("TurnKeeper$Gate", "readers", "I", false)
def tyX1 : Nat → FieldType := fun k => match k with
  | 0 => .int
  | 1 => .int
  | 2 => .object "TurnKeeper$Row"
  | 3 => .int
  | _ => .int
abbrev wsX10 : List Cond := u_ws RX1 TX1 5
theorem nmX1 : ∀ a, a < 5 → ∀ b, b < 5 → a ≠ b → (TX1 a).2.1 ≠ (TX1 b).2.1 := by decide +kernel
theorem tyX1_ok : ∀ k, k < 5 → parseFieldDescriptor (TX1 k).2.2.1 = some (tyX1 k) := by decide +kernel
abbrev cX1_init : ByteArray := prog_3_method_1_code
def yX1_init : MethodName := ⟨RX1, "<init>", "(I)V"⟩
abbrev cX1_perform : ByteArray := prog_3_method_2_code
def yX1_perform : MethodName := ⟨RX1, "perform", "(LTurnKeeper$Strand;LTurnKeeper$Word;)V"⟩
abbrev cX1_leave : ByteArray := prog_3_method_3_code
def yX1_leave : MethodName := ⟨RX1, "leave", "(LTurnKeeper$Strand;)V"⟩
abbrev cX1_giveBack : ByteArray := prog_3_method_4_code
def yX1_giveBack : MethodName := ⟨RX1, "giveBack", "(LTurnKeeper$Strand;)V"⟩
abbrev cX1_rowGoesOn : ByteArray := prog_3_method_5_code
def yX1_rowGoesOn : MethodName := ⟨RX1, "rowGoesOn", "()V"⟩
abbrev cX1_value : ByteArray := prog_3_method_6_code
def yX1_value : MethodName := ⟨RX1, "value", "()J"⟩
abbrev cX1_tells : ByteArray := prog_3_method_7_code
def yX1_tells : MethodName := ⟨RX1, "tells", "(I)Z"⟩
abbrev cX1_detail : ByteArray := prog_3_method_8_code
def yX1_detail : MethodName := ⟨RX1, "detail", "(I)J"⟩
def RX2 : String := "TurnKeeper$Holder"
def TX2 : u_T := fun k => match k with
  | 0 => ("TurnKeeper$Sync", "number", "I", true)
  | 1 => ("TurnKeeper$Sync", "kind", "I", true)
  | 2 => ("TurnKeeper$Sync", "row", "LTurnKeeper$Row;", true)
  | 3 => ("TurnKeeper$Holder", "filled", "Z", false)
  | _ => ("TurnKeeper$Holder", "held", "I", false)
def tyX2 : Nat → FieldType := fun k => match k with
  | 0 => .int
  | 1 => .int
  | 2 => .object "TurnKeeper$Row"
  | 3 => .boolean
  | _ => .int
abbrev wsX20 : List Cond := u_ws RX2 TX2 5
theorem nmX2 : ∀ a, a < 5 → ∀ b, b < 5 → a ≠ b → (TX2 a).2.1 ≠ (TX2 b).2.1 := by decide +kernel
theorem tyX2_ok : ∀ k, k < 5 → parseFieldDescriptor (TX2 k).2.2.1 = some (tyX2 k) := by decide +kernel
abbrev cX2_init : ByteArray := prog_4_method_1_code
def yX2_init : MethodName := ⟨RX2, "<init>", "(IIZI)V"⟩
abbrev cX2_perform : ByteArray := prog_4_method_2_code
def yX2_perform : MethodName := ⟨RX2, "perform", "(LTurnKeeper$Strand;LTurnKeeper$Word;)V"⟩
abbrev cX2_isGiven : ByteArray := prog_4_method_3_code
def yX2_isGiven : MethodName := ⟨RX2, "isGiven", "(I)Z"⟩
abbrev cX2_value : ByteArray := prog_4_method_4_code
def yX2_value : MethodName := ⟨RX2, "value", "()J"⟩
def RX3 : String := "TurnKeeper$Hurdle"
def TX3 : u_T := fun k => match k with
  | 0 => ("TurnKeeper$Sync", "number", "I", true)
  | 1 => ("TurnKeeper$Sync", "kind", "I", true)
  | 2 => ("TurnKeeper$Sync", "row", "LTurnKeeper$Row;", true)
  | _ => ("TurnKeeper$Hurdle", "height", "I", false)
def tyX3 : Nat → FieldType := fun k => match k with
  | 0 => .int
  | 1 => .int
  | 2 => .object "TurnKeeper$Row"
  | _ => .int
abbrev wsX30 : List Cond := u_ws RX3 TX3 4
theorem nmX3 : ∀ a, a < 4 → ∀ b, b < 4 → a ≠ b → (TX3 a).2.1 ≠ (TX3 b).2.1 := by decide +kernel
theorem tyX3_ok : ∀ k, k < 4 → parseFieldDescriptor (TX3 k).2.2.1 = some (tyX3 k) := by decide +kernel
abbrev cX3_init : ByteArray := prog_5_method_1_code
def yX3_init : MethodName := ⟨RX3, "<init>", "(III)V"⟩
abbrev cX3_perform : ByteArray := prog_5_method_2_code
def yX3_perform : MethodName := ⟨RX3, "perform", "(LTurnKeeper$Strand;LTurnKeeper$Word;)V"⟩
abbrev cX3_value : ByteArray := prog_5_method_3_code
def yX3_value : MethodName := ⟨RX3, "value", "()J"⟩
def RX4 : String := "TurnKeeper$Lock"
def TX4 : u_T := fun k => match k with
  | 0 => ("TurnKeeper$Sync", "number", "I", true)
  | 1 => ("TurnKeeper$Sync", "kind", "I", true)
  | 2 => ("TurnKeeper$Sync", "row", "LTurnKeeper$Row;", true)
  | 3 => ("TurnKeeper$Lock", "owner", "I", false)
  | 4 => ("TurnKeeper$Lock", "fair", "Z", true)
  | 5 => ("TurnKeeper$Lock", "holds", "I", false)
  | _ => ("TurnKeeper$Lock", "second", "LTurnKeeper$Row;", true)
def tyX4 : Nat → FieldType := fun k => match k with
  | 0 => .int
  | 1 => .int
  | 2 => .object "TurnKeeper$Row"
  | 3 => .int
  | 4 => .boolean
  | 5 => .int
  | _ => .object "TurnKeeper$Row"
abbrev wsX40 : List Cond := u_ws RX4 TX4 7
theorem nmX4 : ∀ a, a < 7 → ∀ b, b < 7 → a ≠ b → (TX4 a).2.1 ≠ (TX4 b).2.1 := by decide +kernel
theorem tyX4_ok : ∀ k, k < 7 → parseFieldDescriptor (TX4 k).2.2.1 = some (tyX4 k) := by decide +kernel
abbrev cX4_init : ByteArray := prog_6_method_1_code
def yX4_init : MethodName := ⟨RX4, "<init>", "(IZ)V"⟩
abbrev cX4_perform : ByteArray := prog_6_method_2_code
def yX4_perform : MethodName := ⟨RX4, "perform", "(LTurnKeeper$Strand;LTurnKeeper$Word;)V"⟩
abbrev cX4_grabOrStandIn : ByteArray := prog_6_method_3_code
def yX4_grabOrStandIn : MethodName := ⟨RX4, "grabOrStandIn", "(LTurnKeeper$Strand;)V"⟩
abbrev cX4_isGrabbed : ByteArray := prog_6_method_4_code
def yX4_isGrabbed : MethodName := ⟨RX4, "isGrabbed", "(LTurnKeeper$Strand;)Z"⟩
abbrev cX4_free : ByteArray := prog_6_method_5_code
def yX4_free : MethodName := ⟨RX4, "free", "()V"⟩
abbrev cX4_have : ByteArray := prog_6_method_6_code
def yX4_have : MethodName := ⟨RX4, "have", "(LTurnKeeper$Strand;)V"⟩
abbrev cX4_tryAgain : ByteArray := prog_6_method_7_code
def yX4_tryAgain : MethodName := ⟨RX4, "tryAgain", "(LTurnKeeper$Strand;)V"⟩
abbrev cX4_callUp : ByteArray := prog_6_method_8_code
def yX4_callUp : MethodName := ⟨RX4, "callUp", "(I)V"⟩
abbrev cX4_comeToFirst : ByteArray := prog_6_method_9_code
def yX4_comeToFirst : MethodName := ⟨RX4, "comeToFirst", "(LTurnKeeper$Strand;I)V"⟩
abbrev cX4_interruptWait : ByteArray := prog_6_method_10_code
def yX4_interruptWait : MethodName := ⟨RX4, "interruptWait", "(LTurnKeeper$Strand;)V"⟩
abbrev cX4_hasStrands : ByteArray := prog_6_method_11_code
def yX4_hasStrands : MethodName := ⟨RX4, "hasStrands", "()Z"⟩
abbrev cX4_value : ByteArray := prog_6_method_12_code
def yX4_value : MethodName := ⟨RX4, "value", "()J"⟩
abbrev cX4_tells : ByteArray := prog_6_method_13_code
def yX4_tells : MethodName := ⟨RX4, "tells", "(I)Z"⟩
abbrev cX4_detail : ByteArray := prog_6_method_14_code
def yX4_detail : MethodName := ⟨RX4, "detail", "(I)J"⟩
def RX5 : String := "TurnKeeper$Queue"
def TX5 : u_T := fun k => match k with
  | 0 => ("TurnKeeper$Sync", "number", "I", true)
  | 1 => ("TurnKeeper$Sync", "kind", "I", true)
  | 2 => ("TurnKeeper$Sync", "row", "LTurnKeeper$Row;", true)
  | 3 => ("TurnKeeper$Queue", "items", "[I", true)
  | 4 => ("TurnKeeper$Queue", "head", "I", false)
  | _ => ("TurnKeeper$Queue", "size", "I", false)
def tyX5 : Nat → FieldType := fun k => match k with
  | 0 => .int
  | 1 => .int
  | 2 => .object "TurnKeeper$Row"
  | 3 => .array .int
  | 4 => .int
  | _ => .int
abbrev wsX50 : List Cond := u_ws RX5 TX5 6
theorem nmX5 : ∀ a, a < 6 → ∀ b, b < 6 → a ≠ b → (TX5 a).2.1 ≠ (TX5 b).2.1 := by decide +kernel
theorem tyX5_ok : ∀ k, k < 6 → parseFieldDescriptor (TX5 k).2.2.1 = some (tyX5 k) := by decide +kernel
abbrev cX5_init : ByteArray := prog_7_method_1_code
def yX5_init : MethodName := ⟨RX5, "<init>", "(II)V"⟩
abbrev cX5_perform : ByteArray := prog_7_method_2_code
def yX5_perform : MethodName := ⟨RX5, "perform", "(LTurnKeeper$Strand;LTurnKeeper$Word;)V"⟩
abbrev cX5_isAccepted : ByteArray := prog_7_method_3_code
def yX5_isAccepted : MethodName := ⟨RX5, "isAccepted", "(I)Z"⟩
abbrev cX5_takenOut : ByteArray := prog_7_method_4_code
def yX5_takenOut : MethodName := ⟨RX5, "takenOut", "()I"⟩
abbrev cX5_append : ByteArray := prog_7_method_5_code
def yX5_append : MethodName := ⟨RX5, "append", "(I)V"⟩
abbrev cX5_value : ByteArray := prog_7_method_6_code
def yX5_value : MethodName := ⟨RX5, "value", "()J"⟩
abbrev cX5_tells : ByteArray := prog_7_method_7_code
def yX5_tells : MethodName := ⟨RX5, "tells", "(I)Z"⟩
abbrev cX5_detail : ByteArray := prog_7_method_8_code
def yX5_detail : MethodName := ⟨RX5, "detail", "(I)J"⟩
def RX6 : String := "TurnKeeper$Row"
def TX6 : u_T := fun k => match k with
  | 0 => ("TurnKeeper$Row", "size", "I", false)
  | _ => ("TurnKeeper$Row", "strands", "[LTurnKeeper$Strand;", true)
def tyX6 : Nat → FieldType := fun k => match k with
  | 0 => .int
  | _ => .array (.object "TurnKeeper$Strand")
abbrev wsX60 : List Cond := u_ws RX6 TX6 2
theorem nmX6 : ∀ a, a < 2 → ∀ b, b < 2 → a ≠ b → (TX6 a).2.1 ≠ (TX6 b).2.1 := by decide +kernel
theorem tyX6_ok : ∀ k, k < 2 → parseFieldDescriptor (TX6 k).2.2.1 = some (tyX6 k) := by decide +kernel
abbrev cX6_init : ByteArray := prog_8_method_1_code
def yX6_init : MethodName := ⟨RX6, "<init>", "()V"⟩
abbrev cX6_first : ByteArray := prog_8_method_2_code
def yX6_first : MethodName := ⟨RX6, "first", "()LTurnKeeper$Strand;"⟩
abbrev cX6_add : ByteArray := prog_8_method_3_code
def yX6_add : MethodName := ⟨RX6, "add", "(LTurnKeeper$Strand;)V"⟩
abbrev cX6_remove : ByteArray := prog_8_method_4_code
def yX6_remove : MethodName := ⟨RX6, "remove", "(LTurnKeeper$Strand;)V"⟩
def RX7 : String := "TurnKeeper$Semaphore"
def TX7 : u_T := fun k => match k with
  | 0 => ("TurnKeeper$Sync", "number", "I", true)
  | 1 => ("TurnKeeper$Sync", "kind", "I", true)
  | 2 => ("TurnKeeper$Sync", "row", "LTurnKeeper$Row;", true)
  | _ => ("TurnKeeper$Semaphore", "permits", "I", false)
def tyX7 : Nat → FieldType := fun k => match k with
  | 0 => .int
  | 1 => .int
  | 2 => .object "TurnKeeper$Row"
  | _ => .int
abbrev wsX70 : List Cond := u_ws RX7 TX7 4
theorem nmX7 : ∀ a, a < 4 → ∀ b, b < 4 → a ≠ b → (TX7 a).2.1 ≠ (TX7 b).2.1 := by decide +kernel
theorem tyX7_ok : ∀ k, k < 4 → parseFieldDescriptor (TX7 k).2.2.1 = some (tyX7 k) := by decide +kernel
abbrev cX7_init : ByteArray := prog_9_method_1_code
def yX7_init : MethodName := ⟨RX7, "<init>", "(II)V"⟩
abbrev cX7_perform : ByteArray := prog_9_method_2_code
def yX7_perform : MethodName := ⟨RX7, "perform", "(LTurnKeeper$Strand;LTurnKeeper$Word;)V"⟩
abbrev cX7_handOut : ByteArray := prog_9_method_3_code
def yX7_handOut : MethodName := ⟨RX7, "handOut", "()V"⟩
abbrev cX7_value : ByteArray := prog_9_method_4_code
def yX7_value : MethodName := ⟨RX7, "value", "()J"⟩
def RX8 : String := "TurnKeeper$Strand"
def TX8 : u_T := fun k => match k with
  | 0 => ("TurnKeeper$Strand", "number", "I", true)
  | 1 => ("TurnKeeper$Strand", "state", "I", false)
  | 2 => ("TurnKeeper$Strand", "a", "I", false)
  | 3 => ("TurnKeeper$Strand", "at", "I", false)
  | 4 => ("TurnKeeper$Strand", "why", "I", false)
  | 5 => ("TurnKeeper$Strand", "interrupted", "Z", false)
  | 6 => ("TurnKeeper$Strand", "wakesAt", "J", false)
  | 7 => ("TurnKeeper$Strand", "sync", "LTurnKeeper$Sync;", false)
  | 8 => ("TurnKeeper$Strand", "row", "LTurnKeeper$Row;", false)
  | 9 => ("TurnKeeper$Strand", "kept", "I", false)
  | 10 => ("TurnKeeper$Strand", "answer", "I", false)
  | 11 => ("TurnKeeper$Strand", "code", "[I", true)
  | _ => ("TurnKeeper$Strand", "size", "I", false)
def tyX8 : Nat → FieldType := fun k => match k with
  | 0 => .int
  | 1 => .int
  | 2 => .int
  | 3 => .int
  | 4 => .int
  | 5 => .boolean
  | 6 => .long
  | 7 => .object "TurnKeeper$Sync"
  | 8 => .object "TurnKeeper$Row"
  | 9 => .int
  | 10 => .int
  | 11 => .array .int
  | _ => .int
abbrev wsX80 : List Cond := u_ws RX8 TX8 13
theorem nmX8 : ∀ a, a < 13 → ∀ b, b < 13 → a ≠ b → (TX8 a).2.1 ≠ (TX8 b).2.1 := by decide +kernel
theorem tyX8_ok : ∀ k, k < 13 → parseFieldDescriptor (TX8 k).2.2.1 = some (tyX8 k) := by decide +kernel
abbrev cX8_init : ByteArray := prog_10_method_1_code
def yX8_init : MethodName := ⟨RX8, "<init>", "(I)V"⟩
abbrev cX8_isVacant : ByteArray := prog_10_method_2_code
def yX8_isVacant : MethodName := ⟨RX8, "isVacant", "()Z"⟩
abbrev cX8_start : ByteArray := prog_10_method_3_code
def yX8_start : MethodName := ⟨RX8, "start", "([II)V"⟩
abbrev cX8_word : ByteArray := prog_10_method_4_code
def yX8_word : MethodName := ⟨RX8, "word", "()LTurnKeeper$Word;"⟩
abbrev cX8_operand : ByteArray := prog_10_method_5_code
def yX8_operand : MethodName := ⟨RX8, "operand", "(I)I"⟩
abbrev cX8_codeAt : ByteArray := prog_10_method_6_code
def yX8_codeAt : MethodName := ⟨RX8, "codeAt", "(I)I"⟩
abbrev cX8_goTo : ByteArray := prog_10_method_7_code
def yX8_goTo : MethodName := ⟨RX8, "goTo", "(I)V"⟩
abbrev cX8_goOn : ByteArray := prog_10_method_8_code
def yX8_goOn : MethodName := ⟨RX8, "goOn", "()V"⟩
abbrev cX8_goOnWith : ByteArray := prog_10_method_9_code
def yX8_goOnWith : MethodName := ⟨RX8, "goOnWith", "(I)V"⟩
abbrev cX8_fail : ByteArray := prog_10_method_10_code
def yX8_fail : MethodName := ⟨RX8, "fail", "(I)V"⟩
abbrev cX8_standIn : ByteArray := prog_10_method_11_code
def yX8_standIn : MethodName := ⟨RX8, "standIn", "(LTurnKeeper$Row;LTurnKeeper$Sync;)V"⟩
abbrev cX8_refusesToWait : ByteArray := prog_10_method_12_code
def yX8_refusesToWait : MethodName := ⟨RX8, "refusesToWait", "()Z"⟩
def RX9 : String := "TurnKeeper$Sync"
def TX9 : u_T := fun k => match k with
  | _ => ("", "", "", false)
def tyX9 : Nat → FieldType := fun k => match k with
  | _ => .int
abbrev wsX90 : List Cond := u_ws RX9 TX9 0
theorem nmX9 : ∀ a, a < 0 → ∀ b, b < 0 → a ≠ b → (TX9 a).2.1 ≠ (TX9 b).2.1 := by decide +kernel
theorem tyX9_ok : ∀ k, k < 0 → parseFieldDescriptor (TX9 k).2.2.1 = some (tyX9 k) := by decide +kernel
abbrev cX9_init : ByteArray := prog_11_method_1_code
def yX9_init : MethodName := ⟨RX9, "<init>", "(II)V"⟩
abbrev cX9_hasStrands : ByteArray := prog_11_method_4_code
def yX9_hasStrands : MethodName := ⟨RX9, "hasStrands", "()Z"⟩
abbrev cX9_tells : ByteArray := prog_11_method_5_code
def yX9_tells : MethodName := ⟨RX9, "tells", "(I)Z"⟩
abbrev cX9_detail : ByteArray := prog_11_method_6_code
def yX9_detail : MethodName := ⟨RX9, "detail", "(I)J"⟩
abbrev cX9_holdUp : ByteArray := prog_11_method_7_code
def yX9_holdUp : MethodName := ⟨RX9, "holdUp", "(LTurnKeeper$Strand;)V"⟩
abbrev cX9_allGoOn : ByteArray := prog_11_method_8_code
def yX9_allGoOn : MethodName := ⟨RX9, "allGoOn", "()V"⟩
def RX10 : String := "TurnKeeper$Tape"
def TX10 : u_T := fun k => match k with
  | 0 => ("TurnKeeper$Tape", "code", "[I", true)
  | 1 => ("TurnKeeper$Tape", "size", "I", false)
  | 2 => ("TurnKeeper$Tape", "length", "I", false)
  | 3 => ("TurnKeeper$Tape", "place", "I", false)
  | 4 => ("TurnKeeper$Tape", "bytes", "[B", true)
  | _ => ("TurnKeeper$Tape", "at", "I", false)
def tyX10 : Nat → FieldType := fun k => match k with
  | 0 => .array .int
  | 1 => .int
  | 2 => .int
  | 3 => .int
  | 4 => .array .byte
  | _ => .int
abbrev wsX100 : List Cond := u_ws RX10 TX10 6
theorem nmX10 : ∀ a, a < 6 → ∀ b, b < 6 → a ≠ b → (TX10 a).2.1 ≠ (TX10 b).2.1 := by decide +kernel
theorem tyX10_ok : ∀ k, k < 6 → parseFieldDescriptor (TX10 k).2.2.1 = some (tyX10 k) := by decide +kernel
abbrev cX10_init : ByteArray := prog_12_method_1_code
def yX10_init : MethodName := ⟨RX10, "<init>", "()V"⟩
abbrev cX10_append : ByteArray := prog_12_method_2_code
def yX10_append : MethodName := ⟨RX10, "append", "(I)V"⟩
abbrev cX10_read : ByteArray := prog_12_method_3_code
def yX10_read : MethodName := ⟨RX10, "read", "()Z"⟩
abbrev cX10_readInstruction : ByteArray := prog_12_method_4_code
def yX10_readInstruction : MethodName := ⟨RX10, "readInstruction", "(I)Z"⟩
abbrev cX10_readNumber : ByteArray := prog_12_method_5_code
def yX10_readNumber : MethodName := ⟨RX10, "readNumber", "(IC)Z"⟩
abbrev cX10_inRange : ByteArray := prog_12_method_6_code
def yX10_inRange : MethodName := ⟨RX10, "inRange", "(CI)Z"⟩
abbrev cX10_wordAt : ByteArray := prog_12_method_7_code
def yX10_wordAt : MethodName := ⟨RX10, "wordAt", "(I)I"⟩
abbrev cX10_isText : ByteArray := prog_12_method_8_code
def yX10_isText : MethodName := ⟨RX10, "isText", "(ILjava/lang/String;)Z"⟩
abbrev cX10_skipBlanks : ByteArray := prog_12_method_9_code
def yX10_skipBlanks : MethodName := ⟨RX10, "skipBlanks", "()V"⟩
abbrev cX10_here : ByteArray := prog_12_method_10_code
def yX10_here : MethodName := ⟨RX10, "here", "()I"⟩
abbrev cX10_store : ByteArray := prog_12_method_11_code
def yX10_store : MethodName := ⟨RX10, "store", "(II)V"⟩
abbrev cX10_broken : ByteArray := prog_12_method_12_code
def yX10_broken : MethodName := ⟨RX10, "broken", "(I)Z"⟩
def RX11 : String := "TurnKeeper$Word"
def TX11 : u_T := fun k => match k with
  | _ => ("", "", "", false)
def tyX11 : Nat → FieldType := fun k => match k with
  | _ => .int
abbrev wsX110 : List Cond := u_ws RX11 TX11 0
theorem nmX11 : ∀ a, a < 0 → ∀ b, b < 0 → a ≠ b → (TX11 a).2.1 ≠ (TX11 b).2.1 := by decide +kernel
theorem tyX11_ok : ∀ k, k < 0 → parseFieldDescriptor (TX11 k).2.2.1 = some (tyX11 k) := by decide +kernel
def RX12 : String := "TurnKeeper"
def TX12 : u_T := fun k => match k with
  | 0 => ("TurnKeeper", "tape", "LTurnKeeper$Tape;", true)
  | 1 => ("TurnKeeper", "syncs", "[LTurnKeeper$Sync;", true)
  | 2 => ("TurnKeeper", "strands", "[LTurnKeeper$Strand;", true)
  | 3 => ("TurnKeeper", "clock", "J", false)
  | 4 => ("TurnKeeper", "steps", "J", false)
  | _ => ("TurnKeeper", "latest", "I", false)
def tyX12 : Nat → FieldType := fun k => match k with
  | 0 => .object "TurnKeeper$Tape"
  | 1 => .array (.object "TurnKeeper$Sync")
  | 2 => .array (.object "TurnKeeper$Strand")
  | 3 => .long
  | 4 => .long
  | _ => .int
abbrev wsX120 : List Cond := u_ws RX12 TX12 6
theorem nmX12 : ∀ a, a < 6 → ∀ b, b < 6 → a ≠ b → (TX12 a).2.1 ≠ (TX12 b).2.1 := by decide +kernel
theorem tyX12_ok : ∀ k, k < 6 → parseFieldDescriptor (TX12 k).2.2.1 = some (tyX12 k) := by decide +kernel
abbrev cX12_init : ByteArray := prog_1_method_1_code
def yX12_init : MethodName := ⟨RX12, "<init>", "()V"⟩
abbrev cX12_feed : ByteArray := prog_1_method_2_code
def yX12_feed : MethodName := ⟨RX12, "feed", "(IIIII)I"⟩
abbrev cX12_end : ByteArray := prog_1_method_3_code
def yX12_end : MethodName := ⟨RX12, "end", "(I)I"⟩
abbrev cX12_make : ByteArray := prog_1_method_4_code
def yX12_make : MethodName := ⟨RX12, "make", "(II)I"⟩
abbrev cX12_drop : ByteArray := prog_1_method_5_code
def yX12_drop : MethodName := ⟨RX12, "drop", "(I)I"⟩
abbrev cX12_thread : ByteArray := prog_1_method_6_code
def yX12_thread : MethodName := ⟨RX12, "thread", "()I"⟩
abbrev cX12_step : ByteArray := prog_1_method_7_code
def yX12_step : MethodName := ⟨RX12, "step", "(I)I"⟩
abbrev cX12_run : ByteArray := prog_1_method_8_code
def yX12_run : MethodName := ⟨RX12, "run", "(III)I"⟩
abbrev cX12_tick : ByteArray := prog_1_method_9_code
def yX12_tick : MethodName := ⟨RX12, "tick", "(I)I"⟩
abbrev cX12_interrupt : ByteArray := prog_1_method_10_code
def yX12_interrupt : MethodName := ⟨RX12, "interrupt", "(I)I"⟩
abbrev cX12_look : ByteArray := prog_1_method_11_code
def yX12_look : MethodName := ⟨RX12, "look", "(II)I"⟩
abbrev cX12_dead : ByteArray := prog_1_method_12_code
def yX12_dead : MethodName := ⟨RX12, "dead", "()I"⟩
abbrev cX12_sync : ByteArray := prog_1_method_13_code
def yX12_sync : MethodName := ⟨RX12, "sync", "(II)J"⟩
abbrev cX12_count : ByteArray := prog_1_method_14_code
def yX12_count : MethodName := ⟨RX12, "count", "(I)J"⟩
abbrev cX12_fits : ByteArray := prog_1_method_15_code
def yX12_fits : MethodName := ⟨RX12, "fits", "(II)Z"⟩
abbrev cX12_built : ByteArray := prog_1_method_16_code
def yX12_built : MethodName := ⟨RX12, "built", "(III)LTurnKeeper$Sync;"⟩
abbrev cX12_syncAt : ByteArray := prog_1_method_17_code
def yX12_syncAt : MethodName := ⟨RX12, "syncAt", "(I)LTurnKeeper$Sync;"⟩
abbrev cX12_leastFree : ByteArray := prog_1_method_18_code
def yX12_leastFree : MethodName := ⟨RX12, "leastFree", "()I"⟩
abbrev cX12_howManySyncs : ByteArray := prog_1_method_19_code
def yX12_howManySyncs : MethodName := ⟨RX12, "howManySyncs", "()I"⟩
abbrev cX12_strandAt : ByteArray := prog_1_method_20_code
def yX12_strandAt : MethodName := ⟨RX12, "strandAt", "(I)LTurnKeeper$Strand;"⟩
abbrev cX12_howManyReady : ByteArray := prog_1_method_21_code
def yX12_howManyReady : MethodName := ⟨RX12, "howManyReady", "()I"⟩
abbrev cX12_readyFrom : ByteArray := prog_1_method_22_code
def yX12_readyFrom : MethodName := ⟨RX12, "readyFrom", "(II)LTurnKeeper$Strand;"⟩
abbrev cX12_takeTurn : ByteArray := prog_1_method_23_code
def yX12_takeTurn : MethodName := ⟨RX12, "takeTurn", "(LTurnKeeper$Strand;)V"⟩
abbrev cX12_doAlone : ByteArray := prog_1_method_24_code
def yX12_doAlone : MethodName := ⟨RX12, "doAlone", "(LTurnKeeper$Strand;LTurnKeeper$Word;)V"⟩
abbrev cX12_fallAsleep : ByteArray := prog_1_method_25_code
def yX12_fallAsleep : MethodName := ⟨RX12, "fallAsleep", "(LTurnKeeper$Strand;I)V"⟩
abbrev cX12_blockerOf : ByteArray := prog_1_method_26_code
def yX12_blockerOf : MethodName := ⟨RX12, "blockerOf", "(I)I"⟩
def RX13 : String := "TurnKeeperModel"
def TX13 : u_T := fun k => match k with
  | 0 => ("TurnKeeperModel", "thrown", "I", false)
  | 1 => ("TurnKeeperModel", "tape", "[I", true)
  | 2 => ("TurnKeeperModel", "taped", "I", false)
  | 3 => ("TurnKeeperModel", "place", "I", false)
  | 4 => ("TurnKeeperModel", "words", "[J", true)
  | 5 => ("TurnKeeperModel", "program", "[I", true)
  | 6 => ("TurnKeeperModel", "programLong", "I", false)
  | 7 => ("TurnKeeperModel", "tapeLong", "I", false)
  | 8 => ("TurnKeeperModel", "from", "I", false)
  | 9 => ("TurnKeeperModel", "to", "I", false)
  | 10 => ("TurnKeeperModel", "fault", "I", false)
  | 11 => ("TurnKeeperModel", "lines", "[I", true)
  | 12 => ("TurnKeeperModel", "many", "[I", true)
  | 13 => ("TurnKeeperModel", "state", "[I", true)
  | 14 => ("TurnKeeperModel", "a", "[I", true)
  | 15 => ("TurnKeeperModel", "at", "[I", true)
  | 16 => ("TurnKeeperModel", "waitsFor", "[I", true)
  | 17 => ("TurnKeeperModel", "why", "[I", true)
  | 18 => ("TurnKeeperModel", "kept", "[I", true)
  | 19 => ("TurnKeeperModel", "then", "[I", true)
  | 20 => ("TurnKeeperModel", "stopped", "[Z", true)
  | 21 => ("TurnKeeperModel", "inSecond", "[Z", true)
  | 22 => ("TurnKeeperModel", "afterWait", "[Z", true)
  | 23 => ("TurnKeeperModel", "until", "[J", true)
  | 24 => ("TurnKeeperModel", "clock", "J", false)
  | 25 => ("TurnKeeperModel", "steps", "J", false)
  | 26 => ("TurnKeeperModel", "latest", "I", false)
  | 27 => ("TurnKeeperModel", "seed", "I", false)
  | 28 => ("TurnKeeperModel", "kind", "[I", true)
  | 29 => ("TurnKeeperModel", "first", "[I", true)
  | 30 => ("TurnKeeperModel", "second", "[I", true)
  | 31 => ("TurnKeeperModel", "owner", "[I", true)
  | 32 => ("TurnKeeperModel", "row", "[I", true)
  | 33 => ("TurnKeeperModel", "rowLong", "[I", true)
  | 34 => ("TurnKeeperModel", "row2", "[I", true)
  | 35 => ("TurnKeeperModel", "row2Long", "[I", true)
  | 36 => ("TurnKeeperModel", "queue", "[I", true)
  | _ => ("TurnKeeperModel", "queueLong", "[I", true)
def tyX13 : Nat → FieldType := fun k => match k with
  | 0 => .int
  | 1 => .array .int
  | 2 => .int
  | 3 => .int
  | 4 => .array .long
  | 5 => .array .int
  | 6 => .int
  | 7 => .int
  | 8 => .int
  | 9 => .int
  | 10 => .int
  | 11 => .array .int
  | 12 => .array .int
  | 13 => .array .int
  | 14 => .array .int
  | 15 => .array .int
  | 16 => .array .int
  | 17 => .array .int
  | 18 => .array .int
  | 19 => .array .int
  | 20 => .array .boolean
  | 21 => .array .boolean
  | 22 => .array .boolean
  | 23 => .array .long
  | 24 => .long
  | 25 => .long
  | 26 => .int
  | 27 => .int
  | 28 => .array .int
  | 29 => .array .int
  | 30 => .array .int
  | 31 => .array .int
  | 32 => .array .int
  | 33 => .array .int
  | 34 => .array .int
  | 35 => .array .int
  | 36 => .array .int
  | _ => .array .int
abbrev wsX130 : List Cond := u_ws RX13 TX13 38
theorem nmX13 : ∀ a, a < 38 → ∀ b, b < 38 → a ≠ b → (TX13 a).2.1 ≠ (TX13 b).2.1 := by decide +kernel
theorem tyX13_ok : ∀ k, k < 38 → parseFieldDescriptor (TX13 k).2.2.1 = some (tyX13 k) := by decide +kernel
abbrev cX13_init : ByteArray := prog_15_method_1_code
def yX13_init : MethodName := ⟨RX13, "<init>", "()V"⟩
abbrev cX13_thrown : ByteArray := prog_15_method_2_code
def yX13_thrown : MethodName := ⟨RX13, "thrown", "()I"⟩
abbrev cX13_refuse : ByteArray := prog_15_method_3_code
def yX13_refuse : MethodName := ⟨RX13, "refuse", "(I)I"⟩
abbrev cX13_in : ByteArray := prog_15_method_4_code
def yX13_in : MethodName := ⟨RX13, "in", "(III)Z"⟩
abbrev cX13_feed : ByteArray := prog_15_method_5_code
def yX13_feed : MethodName := ⟨RX13, "feed", "(IIIII)I"⟩
abbrev cX13_four : ByteArray := prog_15_method_6_code
def yX13_four : MethodName := ⟨RX13, "four", "(I)V"⟩
abbrev cX13_end : ByteArray := prog_15_method_7_code
def yX13_end : MethodName := ⟨RX13, "end", "(I)I"⟩
abbrev cX13_byteAt : ByteArray := prog_15_method_8_code
def yX13_byteAt : MethodName := ⟨RX13, "byteAt", "(I)I"⟩
abbrev cX13_wrong : ByteArray := prog_15_method_9_code
def yX13_wrong : MethodName := ⟨RX13, "wrong", "()I"⟩
abbrev cX13_next : ByteArray := prog_15_method_10_code
def yX13_next : MethodName := ⟨RX13, "next", "()V"⟩
abbrev cX13_word : ByteArray := prog_15_method_11_code
def yX13_word : MethodName := ⟨RX13, "word", "()I"⟩
abbrev cX13_number : ByteArray := prog_15_method_12_code
def yX13_number : MethodName := ⟨RX13, "number", "(II)I"⟩
abbrev cX13_line : ByteArray := prog_15_method_13_code
def yX13_line : MethodName := ⟨RX13, "line", "()V"⟩
abbrev cX13_read : ByteArray := prog_15_method_14_code
def yX13_read : MethodName := ⟨RX13, "read", "()V"⟩
abbrev cX13_isThere : ByteArray := prog_15_method_15_code
def yX13_isThere : MethodName := ⟨RX13, "isThere", "(I)Z"⟩
abbrev cX13_make : ByteArray := prog_15_method_16_code
def yX13_make : MethodName := ⟨RX13, "make", "(II)I"⟩
abbrev cX13_objects : ByteArray := prog_15_method_17_code
def yX13_objects : MethodName := ⟨RX13, "objects", "()I"⟩
abbrev cX13_drop : ByteArray := prog_15_method_18_code
def yX13_drop : MethodName := ⟨RX13, "drop", "(I)I"⟩
abbrev cX13_thread : ByteArray := prog_15_method_19_code
def yX13_thread : MethodName := ⟨RX13, "thread", "()I"⟩
abbrev cX13_part : ByteArray := prog_15_method_20_code
def yX13_part : MethodName := ⟨RX13, "part", "(II)I"⟩
abbrev cX13_waitFor : ByteArray := prog_15_method_21_code
def yX13_waitFor : MethodName := ⟨RX13, "waitFor", "(II)V"⟩
abbrev cX13_leaves : ByteArray := prog_15_method_22_code
def yX13_leaves : MethodName := ⟨RX13, "leaves", "(II)V"⟩
abbrev cX13_goesOn : ByteArray := prog_15_method_23_code
def yX13_goesOn : MethodName := ⟨RX13, "goesOn", "(I)V"⟩
abbrev cX13_firstGoesOn : ByteArray := prog_15_method_24_code
def yX13_firstGoesOn : MethodName := ⟨RX13, "firstGoesOn", "(I)I"⟩
abbrev cX13_fails : ByteArray := prog_15_method_25_code
def yX13_fails : MethodName := ⟨RX13, "fails", "(II)Z"⟩
abbrev cX13_has : ByteArray := prog_15_method_26_code
def yX13_has : MethodName := ⟨RX13, "has", "(II)V"⟩
abbrev cX13_freed : ByteArray := prog_15_method_27_code
def yX13_freed : MethodName := ⟨RX13, "freed", "(I)V"⟩
abbrev cX13_signalled : ByteArray := prog_15_method_28_code
def yX13_signalled : MethodName := ⟨RX13, "signalled", "(II)V"⟩
abbrev cX13_rowOf : ByteArray := prog_15_method_29_code
def yX13_rowOf : MethodName := ⟨RX13, "rowOf", "(I)I"⟩
abbrev cX13_kindOf : ByteArray := prog_15_method_30_code
def yX13_kindOf : MethodName := ⟨RX13, "kindOf", "(I)I"⟩
abbrev cX13_passes : ByteArray := prog_15_method_31_code
def yX13_passes : MethodName := ⟨RX13, "passes", "(II)Z"⟩
abbrev cX13_one : ByteArray := prog_15_method_32_code
def yX13_one : MethodName := ⟨RX13, "one", "(I)V"⟩
abbrev cX13_with : ByteArray := prog_15_method_33_code
def yX13_with : MethodName := ⟨RX13, "with", "(III)Z"⟩
abbrev cX13_atLock : ByteArray := prog_15_method_34_code
def yX13_atLock : MethodName := ⟨RX13, "atLock", "(III)Z"⟩
abbrev cX13_atCell : ByteArray := prog_15_method_35_code
def yX13_atCell : MethodName := ⟨RX13, "atCell", "(III)Z"⟩
abbrev cX13_atSemaphore : ByteArray := prog_15_method_36_code
def yX13_atSemaphore : MethodName := ⟨RX13, "atSemaphore", "(III)Z"⟩
abbrev cX13_append : ByteArray := prog_15_method_37_code
def yX13_append : MethodName := ⟨RX13, "append", "(II)V"⟩
abbrev cX13_atQueue : ByteArray := prog_15_method_38_code
def yX13_atQueue : MethodName := ⟨RX13, "atQueue", "(III)Z"⟩
abbrev cX13_atGate : ByteArray := prog_15_method_39_code
def yX13_atGate : MethodName := ⟨RX13, "atGate", "(III)Z"⟩
abbrev cX13_opened : ByteArray := prog_15_method_40_code
def yX13_opened : MethodName := ⟨RX13, "opened", "(I)V"⟩
abbrev cX13_step : ByteArray := prog_15_method_41_code
def yX13_step : MethodName := ⟨RX13, "step", "(I)I"⟩
abbrev cX13_ready : ByteArray := prog_15_method_42_code
def yX13_ready : MethodName := ⟨RX13, "ready", "()I"⟩
abbrev cX13_run : ByteArray := prog_15_method_43_code
def yX13_run : MethodName := ⟨RX13, "run", "(III)I"⟩
abbrev cX13_tick : ByteArray := prog_15_method_44_code
def yX13_tick : MethodName := ⟨RX13, "tick", "(I)I"⟩
abbrev cX13_interrupt : ByteArray := prog_15_method_45_code
def yX13_interrupt : MethodName := ⟨RX13, "interrupt", "(I)I"⟩
abbrev cX13_look : ByteArray := prog_15_method_46_code
def yX13_look : MethodName := ⟨RX13, "look", "(II)I"⟩
abbrev cX13_nextOf : ByteArray := prog_15_method_47_code
def yX13_nextOf : MethodName := ⟨RX13, "nextOf", "(I)I"⟩
abbrev cX13_dead : ByteArray := prog_15_method_48_code
def yX13_dead : MethodName := ⟨RX13, "dead", "()I"⟩
abbrev cX13_sync : ByteArray := prog_15_method_49_code
def yX13_sync : MethodName := ⟨RX13, "sync", "(II)J"⟩
abbrev cX13_count : ByteArray := prog_15_method_50_code
def yX13_count : MethodName := ⟨RX13, "count", "(I)J"⟩
def RJx29ce0 : String := "java/lang/Enum"
def TJx29ce0 : u_T := fun k => match k with
  | _ => ("", "", "", false)
def tyJx29ce0 : Nat → FieldType := fun k => match k with
  | _ => .int
abbrev wsJx29ce00 : List Cond := u_ws RJx29ce0 TJx29ce0 0
theorem nmJx29ce0 : ∀ a, a < 0 → ∀ b, b < 0 → a ≠ b → (TJx29ce0 a).2.1 ≠ (TJx29ce0 b).2.1 := by decide +kernel
theorem tyJx29ce0_ok : ∀ k, k < 0 → parseFieldDescriptor (TJx29ce0 k).2.2.1 = some (tyJx29ce0 k) := by decide +kernel
abbrev cJx29ce0_ordinal_8abf5 : ByteArray := prog_16_method_2_code
def yJx29ce0_ordinal_8abf5 : MethodName := ⟨RJx29ce0, "ordinal", "()I"⟩
def RJ0 : String := "java/lang/String"
def TJ0 : u_T := fun k => match k with
  | _ => ("", "", "", false)
def tyJ0 : Nat → FieldType := fun k => match k with
  | _ => .int
abbrev wsJ00 : List Cond := u_ws RJ0 TJ0 0
theorem nmJ0 : ∀ a, a < 0 → ∀ b, b < 0 → a ≠ b → (TJ0 a).2.1 ≠ (TJ0 b).2.1 := by decide +kernel
theorem tyJ0_ok : ∀ k, k < 0 → parseFieldDescriptor (TJ0 k).2.2.1 = some (tyJ0 k) := by decide +kernel
abbrev cJ0_length_8abf5 : ByteArray := prog_22_method_54_code
def yJ0_length_8abf5 : MethodName := ⟨RJ0, "length", "()I"⟩
abbrev cJ0_charAt_5068e : ByteArray := prog_22_method_56_code
def yJ0_charAt_5068e : MethodName := ⟨RJ0, "charAt", "(I)C"⟩
abbrev cJ0_coder_7d493 : ByteArray := prog_22_method_152_code
def yJ0_coder_7d493 : MethodName := ⟨RJ0, "coder", "()B"⟩
abbrev cJ0_isLatin1_aae02 : ByteArray := prog_22_method_154_code
def yJ0_isLatin1_aae02 : MethodName := ⟨RJ0, "isLatin1", "()Z"⟩
abbrev cJ0_checkIndex_df160 : ByteArray := prog_22_method_155_code
def yJ0_checkIndex_df160 : MethodName := ⟨RJ0, "checkIndex", "(II)V"⟩
def RJ1 : String := "java/lang/StringLatin1"
def TJ1 : u_T := fun k => match k with
  | _ => ("", "", "", false)
def tyJ1 : Nat → FieldType := fun k => match k with
  | _ => .int
abbrev wsJ10 : List Cond := u_ws RJ1 TJ1 0
theorem nmJ1 : ∀ a, a < 0 → ∀ b, b < 0 → a ≠ b → (TJ1 a).2.1 ≠ (TJ1 b).2.1 := by decide +kernel
theorem tyJ1_ok : ∀ k, k < 0 → parseFieldDescriptor (TJ1 k).2.2.1 = some (tyJ1 k) := by decide +kernel
abbrev cJ1_charAt_3b067 : ByteArray := prog_23_method_2_code
def yJ1_charAt_3b067 : MethodName := ⟨RJ1, "charAt", "([BI)C"⟩
def RJ2 : String := "java/lang/StringUTF16"
def TJ2 : u_T := fun k => match k with
  | _ => ("", "", "", false)
def tyJ2 : Nat → FieldType := fun k => match k with
  | _ => .int
abbrev wsJ20 : List Cond := u_ws RJ2 TJ2 0
theorem nmJ2 : ∀ a, a < 0 → ∀ b, b < 0 → a ≠ b → (TJ2 a).2.1 ≠ (TJ2 b).2.1 := by decide +kernel
theorem tyJ2_ok : ∀ k, k < 0 → parseFieldDescriptor (TJ2 k).2.2.1 = some (tyJ2 k) := by decide +kernel
abbrev cJ2_getChar_3b067 : ByteArray := prog_24_method_5_code
def yJ2_getChar_3b067 : MethodName := ⟨RJ2, "getChar", "([BI)C"⟩
abbrev cJ2_length_9d52b : ByteArray := prog_24_method_6_code
def yJ2_length_9d52b : MethodName := ⟨RJ2, "length", "([B)I"⟩
abbrev cJ2_charAt_3b067 : ByteArray := prog_24_method_83_code
def yJ2_charAt_3b067 : MethodName := ⟨RJ2, "charAt", "([BI)C"⟩
abbrev cJ2_checkIndex_2214a : ByteArray := prog_24_method_91_code
def yJ2_checkIndex_2214a : MethodName := ⟨RJ2, "checkIndex", "(I[B)V"⟩
def RJ3 : String := "jdk/internal/util/Preconditions"
def TJ3 : u_T := fun k => match k with
  | _ => ("", "", "", false)
def tyJ3 : Nat → FieldType := fun k => match k with
  | _ => .int
abbrev wsJ30 : List Cond := u_ws RJ3 TJ3 0
theorem nmJ3 : ∀ a, a < 0 → ∀ b, b < 0 → a ≠ b → (TJ3 a).2.1 ≠ (TJ3 b).2.1 := by decide +kernel
theorem tyJ3_ok : ∀ k, k < 0 → parseFieldDescriptor (TJ3 k).2.2.1 = some (tyJ3 k) := by decide +kernel
abbrev cJ3_checkIndex_8e157 : ByteArray := prog_28_method_11_code
def yJ3_checkIndex_8e157 : MethodName := ⟨RJ3, "checkIndex", "(IILjava/util/function/BiFunction;)I"⟩
def RL : String := "TurnKeeperLaw"
abbrev cL_feed : ByteArray := method_3_code
def yL_feed : MethodName := ⟨RL, "feed", "(LTurnKeeper;IIIII[J)I"⟩
abbrev cL_end : ByteArray := method_4_code
def yL_end : MethodName := ⟨RL, "end", "(LTurnKeeper;I[J)I"⟩
abbrev cL_make : ByteArray := method_5_code
def yL_make : MethodName := ⟨RL, "make", "(LTurnKeeper;II[J)I"⟩
abbrev cL_drop : ByteArray := method_6_code
def yL_drop : MethodName := ⟨RL, "drop", "(LTurnKeeper;I[J)I"⟩
abbrev cL_thread : ByteArray := method_7_code
def yL_thread : MethodName := ⟨RL, "thread", "(LTurnKeeper;[J)I"⟩
abbrev cL_step : ByteArray := method_8_code
def yL_step : MethodName := ⟨RL, "step", "(LTurnKeeper;I[J)I"⟩
abbrev cL_run : ByteArray := method_9_code
def yL_run : MethodName := ⟨RL, "run", "(LTurnKeeper;III[J)I"⟩
abbrev cL_tick : ByteArray := method_10_code
def yL_tick : MethodName := ⟨RL, "tick", "(LTurnKeeper;I[J)I"⟩
abbrev cL_interrupt : ByteArray := method_11_code
def yL_interrupt : MethodName := ⟨RL, "interrupt", "(LTurnKeeper;I[J)I"⟩
abbrev cL_look : ByteArray := method_12_code
def yL_look : MethodName := ⟨RL, "look", "(LTurnKeeper;II[J)I"⟩
abbrev cL_sync : ByteArray := method_13_code
def yL_sync : MethodName := ⟨RL, "sync", "(LTurnKeeper;II[J)I"⟩
abbrev cL_count : ByteArray := method_14_code
def yL_count : MethodName := ⟨RL, "count", "(LTurnKeeper;I[J)I"⟩
abbrev cL_law : ByteArray := code
def yL_law : MethodName := ⟨RL, "law", "([I)Z"⟩
abbrev vwCl : List vw_C := [(RX1, TX1, 5), (RX2, TX2, 5), (RX3, TX3, 4), (RX4, TX4, 7), (RX5, TX5, 6), (RX6, TX6, 2), (RX7, TX7, 4), (RX8, TX8, 13), (RX10, TX10, 6), (RX12, TX12, 6), (RX13, TX13, 38)]
end
section
/-! the reference: its words, its world, a row for each field and kind of use (laid by wip/gen_mworld.py) -/
def tM0 : List Cond := [.methodLink RX13 1 objectInit, .instanceMethod objectInit, .code objectInit ⟨#[0xb1]⟩ 1 none, .arrayClass .int, .fieldLink RX13 7 "TurnKeeperModel" "tape" "[I", .fieldLink RX13 13 "TurnKeeperModel" "place" "I", .arrayClass .long, .constantLong RX13 17 (1819238756), .constantLong RX13 19 (6382692), .constantLong RX13 21 (1786080624), .constantLong RX13 23 (2053468783), .constantLong RX13 25 (1818588019), .constantLong RX13 27 (495739823472), .constantLong RX13 29 (6647396), .constantLong RX13 31 (1819239275), .constantLong RX13 33 (7631481), .constantLong RX13 35 (129117126091627), .constantLong RX13 37 (2002872692), .constantLong RX13 39 (126896544047468), .constantLong RX13 41 (6384748), .constantLong RX13 43 (6776180), .constantLong RX13 45 (7562612), .constantLong RX13 47 (6909539), .constantLong RX13 49 (6513011), .constantLong RX13 51 (27412411693232741), .constantLong RX13 53 (32199663576773477), .constantLong RX13 55 (431415716206), .constantLong RX13 57 (1685026670), .constantLong RX13 59 (418614700404), .constantLong RX13 61 (1835361652), .constantLong RX13 63 (7370100), .constantLong RX13 65 (1952541541), .constantLong RX13 67 (478459356530), .constantLong RX13 69 (1886350444), .constantLong RX13 71 (1734964837), .constantLong RX13 73 (1785686382), .constantLong RX13 75 (26990), .constantLong RX13 77 (7304564), .constantLong RX13 79 (7305070), .constantLong RX13 81 (1650549611)]
def tM1 : List Cond := [.constantLong RX13 83 (1953066341), .fieldLink RX13 85 "TurnKeeperModel" "words" "[J", .fieldLink RX13 89 "TurnKeeperModel" "program" "[I", .fieldLink RX13 92 "TurnKeeperModel" "lines" "[I", .fieldLink RX13 95 "TurnKeeperModel" "many" "[I", .fieldLink RX13 98 "TurnKeeperModel" "state" "[I", .fieldLink RX13 101 "TurnKeeperModel" "a" "[I", .fieldLink RX13 104 "TurnKeeperModel" "at" "[I", .fieldLink RX13 107 "TurnKeeperModel" "waitsFor" "[I", .fieldLink RX13 110 "TurnKeeperModel" "why" "[I", .fieldLink RX13 113 "TurnKeeperModel" "kept" "[I", .fieldLink RX13 116 "TurnKeeperModel" "then" "[I", .arrayClass .boolean, .fieldLink RX13 119 "TurnKeeperModel" "stopped" "[Z", .fieldLink RX13 123 "TurnKeeperModel" "inSecond" "[Z", .fieldLink RX13 126 "TurnKeeperModel" "afterWait" "[Z", .fieldLink RX13 129 "TurnKeeperModel" "until" "[J", .fieldLink RX13 132 "TurnKeeperModel" "latest" "I", .fieldLink RX13 135 "TurnKeeperModel" "kind" "[I", .fieldLink RX13 138 "TurnKeeperModel" "first" "[I", .fieldLink RX13 141 "TurnKeeperModel" "second" "[I", .fieldLink RX13 144 "TurnKeeperModel" "owner" "[I", .fieldLink RX13 147 "TurnKeeperModel" "row" "[I", .fieldLink RX13 150 "TurnKeeperModel" "rowLong" "[I", .fieldLink RX13 153 "TurnKeeperModel" "row2" "[I", .fieldLink RX13 156 "TurnKeeperModel" "row2Long" "[I", .fieldLink RX13 159 "TurnKeeperModel" "queue" "[I", .fieldLink RX13 162 "TurnKeeperModel" "queueLong" "[I", .code yX13_init cX13_init 1 none, .code yX13_thrown cX13_thrown 1 (some .int), .fieldLink RX13 165 "TurnKeeperModel" "thrown" "I", .code yX13_refuse cX13_refuse 2 (some .int), .code yX13_in cX13_in 3 (some .boolean), .code yX13_four cX13_four 3 none, .fieldLink RX13 168 "TurnKeeperModel" "taped" "I", .code yX13_feed cX13_feed 6 (some .int), .methodLink RX13 171 yX13_refuse, .instanceMethod yX13_refuse, .selects RX13 yX13_refuse yX13_refuse, .initialized RX13]
def tM2 : List Cond := [.methodLink RX13 175 yX13_four, .instanceMethod yX13_four, .selects RX13 yX13_four yX13_four, .code yX13_end cX13_end 2 (some .int), .methodLink RX13 179 yX13_in, .static yX13_in, .code yX13_byteAt cX13_byteAt 2 (some .int), .fieldLink RX13 183 "TurnKeeperModel" "tapeLong" "I", .code yX13_wrong cX13_wrong 1 (some .int), .fieldLink RX13 186 "TurnKeeperModel" "fault" "I", .fieldLink RX13 189 "TurnKeeperModel" "from" "I", .code yX13_next cX13_next 1 none, .fieldLink RX13 192 "TurnKeeperModel" "to" "I", .methodLink RX13 195 yX13_byteAt, .instanceMethod yX13_byteAt, .selects RX13 yX13_byteAt yX13_byteAt, .code yX13_word cX13_word 4 (some .int), .code yX13_number cX13_number 6 (some .int), .methodLink RX13 198 yX13_wrong, .instanceMethod yX13_wrong, .selects RX13 yX13_wrong yX13_wrong, .methodLink RX13 202 yX13_next, .instanceMethod yX13_next, .selects RX13 yX13_next yX13_next, .fieldLink RX13 208 "TurnKeeperModel" "programLong" "I", .constant RX13 211 (1000000000), .methodLink RX13 205 yX13_word, .instanceMethod yX13_word, .selects RX13 yX13_word yX13_word, .methodLink RX13 212 yX13_number, .instanceMethod yX13_number, .selects RX13 yX13_number yX13_number, .code yX13_line cX13_line 7 none, .methodLink RX13 216 yX13_line, .instanceMethod yX13_line, .selects RX13 yX13_line yX13_line, .code yX13_read cX13_read 1 none, .code yX13_isThere cX13_isThere 2 (some .boolean), .code yX13_make cX13_make 5 (some .int), .code yX13_objects cX13_objects 3 (some .int)]
def tM3 : List Cond := [.code yX13_drop cX13_drop 2 (some .int), .methodLink RX13 219 yX13_isThere, .instanceMethod yX13_isThere, .selects RX13 yX13_isThere yX13_isThere, .methodLink RX13 223 yX13_objects, .instanceMethod yX13_objects, .selects RX13 yX13_objects yX13_objects, .methodLink RX13 226 yX13_read, .instanceMethod yX13_read, .selects RX13 yX13_read yX13_read, .code yX13_thread cX13_thread 3 (some .int), .code yX13_part cX13_part 3 (some .int), .code yX13_waitFor cX13_waitFor 3 none, .code yX13_leaves cX13_leaves 5 none, .code yX13_goesOn cX13_goesOn 2 none, .code yX13_firstGoesOn cX13_firstGoesOn 3 (some .int), .methodLink RX13 229 yX13_leaves, .instanceMethod yX13_leaves, .selects RX13 yX13_leaves yX13_leaves, .methodLink RX13 233 yX13_goesOn, .instanceMethod yX13_goesOn, .selects RX13 yX13_goesOn yX13_goesOn, .code yX13_fails cX13_fails 3 (some .boolean), .code yX13_has cX13_has 3 none, .methodLink RX13 236 yX13_has, .instanceMethod yX13_has, .selects RX13 yX13_has yX13_has, .code yX13_freed cX13_freed 3 none, .methodLink RX13 239 yX13_waitFor, .instanceMethod yX13_waitFor, .selects RX13 yX13_waitFor yX13_waitFor, .methodLink RX13 242 yX13_freed, .instanceMethod yX13_freed, .selects RX13 yX13_freed yX13_freed, .code yX13_signalled cX13_signalled 5 none, .code yX13_rowOf cX13_rowOf 4 (some .int), .code yX13_kindOf cX13_kindOf 1 (some .int), .code yX13_passes cX13_passes 3 (some .boolean), .methodLink RX13 264 yX13_fails, .instanceMethod yX13_fails]
def tM4 : List Cond := [.selects RX13 yX13_fails yX13_fails, .methodLink RX13 289 yX13_signalled, .instanceMethod yX13_signalled, .selects RX13 yX13_signalled yX13_signalled, .code yX13_atLock cX13_atLock 6 (some .boolean), .code yX13_atCell cX13_atCell 5 (some .boolean), .methodLink RX13 252 yX13_part, .instanceMethod yX13_part, .selects RX13 yX13_part yX13_part, .methodLink RX13 286 yX13_passes, .instanceMethod yX13_passes, .selects RX13 yX13_passes yX13_passes, .methodLink RX13 283 yX13_firstGoesOn, .instanceMethod yX13_firstGoesOn, .selects RX13 yX13_firstGoesOn yX13_firstGoesOn, .code yX13_atSemaphore cX13_atSemaphore 5 (some .boolean), .code yX13_opened cX13_opened 2 none, .methodLink RX13 295 yX13_opened, .instanceMethod yX13_opened, .selects RX13 yX13_opened yX13_opened, .code yX13_atGate cX13_atGate 4 (some .boolean), .code yX13_append cX13_append 3 none, .methodLink RX13 292 yX13_append, .instanceMethod yX13_append, .selects RX13 yX13_append yX13_append, .code yX13_atQueue cX13_atQueue 6 (some .boolean), .methodLink RX13 261 yX13_kindOf, .static yX13_kindOf, .methodLink RX13 268 yX13_atLock, .instanceMethod yX13_atLock, .selects RX13 yX13_atLock yX13_atLock, .methodLink RX13 271 yX13_atCell, .instanceMethod yX13_atCell, .selects RX13 yX13_atCell yX13_atCell, .methodLink RX13 274 yX13_atSemaphore, .instanceMethod yX13_atSemaphore, .selects RX13 yX13_atSemaphore yX13_atSemaphore, .methodLink RX13 277 yX13_atGate, .instanceMethod yX13_atGate, .selects RX13 yX13_atGate yX13_atGate]
def tM5 : List Cond := [.methodLink RX13 280 yX13_atQueue, .instanceMethod yX13_atQueue, .selects RX13 yX13_atQueue yX13_atQueue, .code yX13_with cX13_with 6 (some .boolean), .fieldLink RX13 245 "TurnKeeperModel" "steps" "J", .fieldLink RX13 255 "TurnKeeperModel" "clock" "J", .methodLink RX13 249 yX13_rowOf, .instanceMethod yX13_rowOf, .selects RX13 yX13_rowOf yX13_rowOf, .methodLink RX13 258 yX13_with, .instanceMethod yX13_with, .selects RX13 yX13_with yX13_with, .code yX13_one cX13_one 6 none, .methodLink RX13 298 yX13_one, .instanceMethod yX13_one, .selects RX13 yX13_one yX13_one, .code yX13_step cX13_step 2 (some .int), .code yX13_ready cX13_ready 3 (some .int), .fieldLink RX13 301 "TurnKeeperModel" "seed" "I", .constant RX13 307 (1103515245), .methodLink RX13 304 yX13_ready, .instanceMethod yX13_ready, .selects RX13 yX13_ready yX13_ready, .code yX13_run cX13_run 7 (some .int), .code yX13_tick cX13_tick 4 (some .int), .code yX13_interrupt cX13_interrupt 2 (some .int), .code yX13_look cX13_look 3 (some .int), .code yX13_nextOf cX13_nextOf 2 (some .int), .code yX13_dead cX13_dead 4 (some .int), .methodLink RX13 308 yX13_nextOf, .instanceMethod yX13_nextOf, .selects RX13 yX13_nextOf yX13_nextOf, .code yX13_sync cX13_sync 4 (some .long), .constantLong RX13 311 (1099511627776), .code yX13_count cX13_count 2 (some .long)]
def tM : List Cond := tM0 ++ (tM1 ++ (tM2 ++ (tM3 ++ (tM4 ++ (tM5 ++ wsX130)))))
set_option maxRecDepth 100000 in
theorem tM_good : tM.all goodWord = true := by decide +kernel
theorem tM_self : GoodIn tM tM := goodIn_sub (fun _ h => h) tM_good
theorem tM_lay : ∀ w ∈ u_ws RX13 TX13 38, w ∈ tM := fun w h => List.mem_append_right _ (List.mem_append_right _ (List.mem_append_right _ (List.mem_append_right _ (List.mem_append_right _ (List.mem_append_right _ (h))))))
theorem tMf0 : Cond.fieldLink RX13 165 "TurnKeeperModel" "thrown" "I" ∈ tM := List.mem_of_getElem? (i := 70) (by decide +kernel)
theorem tMf1 : Cond.fieldLink RX13 7 "TurnKeeperModel" "tape" "[I" ∈ tM := List.mem_of_getElem? (i := 4) (by decide +kernel)
theorem tMf2 : Cond.fieldLink RX13 168 "TurnKeeperModel" "taped" "I" ∈ tM := List.mem_of_getElem? (i := 74) (by decide +kernel)
theorem tMf3 : Cond.fieldLink RX13 13 "TurnKeeperModel" "place" "I" ∈ tM := List.mem_of_getElem? (i := 5) (by decide +kernel)
theorem tMf4 : Cond.fieldLink RX13 85 "TurnKeeperModel" "words" "[J" ∈ tM := List.mem_of_getElem? (i := 41) (by decide +kernel)
theorem tMf5 : Cond.fieldLink RX13 89 "TurnKeeperModel" "program" "[I" ∈ tM := List.mem_of_getElem? (i := 42) (by decide +kernel)
theorem tMf6 : Cond.fieldLink RX13 208 "TurnKeeperModel" "programLong" "I" ∈ tM := List.mem_of_getElem? (i := 104) (by decide +kernel)
theorem tMf7 : Cond.fieldLink RX13 183 "TurnKeeperModel" "tapeLong" "I" ∈ tM := List.mem_of_getElem? (i := 87) (by decide +kernel)
theorem tMf8 : Cond.fieldLink RX13 189 "TurnKeeperModel" "from" "I" ∈ tM := List.mem_of_getElem? (i := 90) (by decide +kernel)
theorem tMf9 : Cond.fieldLink RX13 192 "TurnKeeperModel" "to" "I" ∈ tM := List.mem_of_getElem? (i := 92) (by decide +kernel)
theorem tMf10 : Cond.fieldLink RX13 186 "TurnKeeperModel" "fault" "I" ∈ tM := List.mem_of_getElem? (i := 89) (by decide +kernel)
theorem tMf11 : Cond.fieldLink RX13 92 "TurnKeeperModel" "lines" "[I" ∈ tM := List.mem_of_getElem? (i := 43) (by decide +kernel)
theorem tMf12 : Cond.fieldLink RX13 95 "TurnKeeperModel" "many" "[I" ∈ tM := List.mem_of_getElem? (i := 44) (by decide +kernel)
theorem tMf13 : Cond.fieldLink RX13 98 "TurnKeeperModel" "state" "[I" ∈ tM := List.mem_of_getElem? (i := 45) (by decide +kernel)
theorem tMf14 : Cond.fieldLink RX13 101 "TurnKeeperModel" "a" "[I" ∈ tM := List.mem_of_getElem? (i := 46) (by decide +kernel)
theorem tMf15 : Cond.fieldLink RX13 104 "TurnKeeperModel" "at" "[I" ∈ tM := List.mem_of_getElem? (i := 47) (by decide +kernel)
theorem tMf16 : Cond.fieldLink RX13 107 "TurnKeeperModel" "waitsFor" "[I" ∈ tM := List.mem_of_getElem? (i := 48) (by decide +kernel)
theorem tMf17 : Cond.fieldLink RX13 110 "TurnKeeperModel" "why" "[I" ∈ tM := List.mem_of_getElem? (i := 49) (by decide +kernel)
theorem tMf18 : Cond.fieldLink RX13 113 "TurnKeeperModel" "kept" "[I" ∈ tM := List.mem_of_getElem? (i := 50) (by decide +kernel)
theorem tMf19 : Cond.fieldLink RX13 116 "TurnKeeperModel" "then" "[I" ∈ tM := List.mem_of_getElem? (i := 51) (by decide +kernel)
theorem tMf20 : Cond.fieldLink RX13 119 "TurnKeeperModel" "stopped" "[Z" ∈ tM := List.mem_of_getElem? (i := 53) (by decide +kernel)
theorem tMf21 : Cond.fieldLink RX13 123 "TurnKeeperModel" "inSecond" "[Z" ∈ tM := List.mem_of_getElem? (i := 54) (by decide +kernel)
theorem tMf22 : Cond.fieldLink RX13 126 "TurnKeeperModel" "afterWait" "[Z" ∈ tM := List.mem_of_getElem? (i := 55) (by decide +kernel)
theorem tMf23 : Cond.fieldLink RX13 129 "TurnKeeperModel" "until" "[J" ∈ tM := List.mem_of_getElem? (i := 56) (by decide +kernel)
theorem tMf24 : Cond.fieldLink RX13 255 "TurnKeeperModel" "clock" "J" ∈ tM := List.mem_of_getElem? (i := 205) (by decide +kernel)
theorem tMf25 : Cond.fieldLink RX13 245 "TurnKeeperModel" "steps" "J" ∈ tM := List.mem_of_getElem? (i := 204) (by decide +kernel)
theorem tMf26 : Cond.fieldLink RX13 132 "TurnKeeperModel" "latest" "I" ∈ tM := List.mem_of_getElem? (i := 57) (by decide +kernel)
theorem tMf27 : Cond.fieldLink RX13 301 "TurnKeeperModel" "seed" "I" ∈ tM := List.mem_of_getElem? (i := 218) (by decide +kernel)
theorem tMf28 : Cond.fieldLink RX13 135 "TurnKeeperModel" "kind" "[I" ∈ tM := List.mem_of_getElem? (i := 58) (by decide +kernel)
theorem tMf29 : Cond.fieldLink RX13 138 "TurnKeeperModel" "first" "[I" ∈ tM := List.mem_of_getElem? (i := 59) (by decide +kernel)
theorem tMf30 : Cond.fieldLink RX13 141 "TurnKeeperModel" "second" "[I" ∈ tM := List.mem_of_getElem? (i := 60) (by decide +kernel)
theorem tMf31 : Cond.fieldLink RX13 144 "TurnKeeperModel" "owner" "[I" ∈ tM := List.mem_of_getElem? (i := 61) (by decide +kernel)
theorem tMf32 : Cond.fieldLink RX13 147 "TurnKeeperModel" "row" "[I" ∈ tM := List.mem_of_getElem? (i := 62) (by decide +kernel)
theorem tMf33 : Cond.fieldLink RX13 150 "TurnKeeperModel" "rowLong" "[I" ∈ tM := List.mem_of_getElem? (i := 63) (by decide +kernel)
theorem tMf34 : Cond.fieldLink RX13 153 "TurnKeeperModel" "row2" "[I" ∈ tM := List.mem_of_getElem? (i := 64) (by decide +kernel)
theorem tMf35 : Cond.fieldLink RX13 156 "TurnKeeperModel" "row2Long" "[I" ∈ tM := List.mem_of_getElem? (i := 65) (by decide +kernel)
theorem tMf36 : Cond.fieldLink RX13 159 "TurnKeeperModel" "queue" "[I" ∈ tM := List.mem_of_getElem? (i := 66) (by decide +kernel)
theorem tMf37 : Cond.fieldLink RX13 162 "TurnKeeperModel" "queueLong" "[I" ∈ tM := List.mem_of_getElem? (i := 67) (by decide +kernel)
theorem gM_v {idx : Nat} {y : MethodName} {cy : Cond} (h1 : Cond.methodLink RX13 idx y ∈ tM) (h2 : Cond.instanceMethod y ∈ tM) (h3 : Cond.selects RX13 y y ∈ tM) (h4 : Cond.initialized RX13 ∈ tM) (h5 : cy ∈ tM) : GoodIn tM (wsV RX13 idx RX13 y (cy :: tM)) := by
  intro w hw
  rcases List.mem_append.mp hw with h | h
  · simp only [List.mem_cons, List.not_mem_nil, or_false] at h
    rcases h with rfl | rfl | rfl | rfl
    · exact tM_self _ h1
    · exact tM_self _ h2
    · exact tM_self _ h3
    · exact tM_self _ h4
  · rcases List.mem_cons.mp h with rfl | h
    · exact tM_self _ h5
    · exact tM_self _ h
theorem gM_s {idx : Nat} {y : MethodName} {cy : Cond} (h1 : Cond.methodLink RX13 idx y ∈ tM) (h2 : Cond.static y ∈ tM) (h4 : Cond.initialized RX13 ∈ tM) (h5 : cy ∈ tM) : GoodIn tM (wsS RX13 idx y (cy :: tM)) := by
  intro w hw
  rcases List.mem_append.mp hw with h | h
  · simp only [List.mem_cons, List.not_mem_nil, or_false] at h
    rcases h with rfl | rfl | rfl
    · exact tM_self _ h1
    · exact tM_self _ h2
    · exact tM_self _ h4
  · rcases List.mem_cons.mp h with rfl | h
    · exact tM_self _ h5
    · exact tM_self _ h
theorem tM_ini : Cond.initialized RX13 ∈ tM := List.mem_of_getElem? (i := 79) (by decide +kernel)
theorem gM_refuse : GoodIn tM (wsV RX13 171 RX13 yX13_refuse (.code yX13_refuse cX13_refuse 2 (some .int) :: tM)) := gM_v (List.mem_of_getElem? (i := 76) (by decide +kernel)) (List.mem_of_getElem? (i := 77) (by decide +kernel)) (List.mem_of_getElem? (i := 78) (by decide +kernel)) tM_ini (List.mem_of_getElem? (i := 71) (by decide +kernel))
theorem gM_four : GoodIn tM (wsV RX13 175 RX13 yX13_four (.code yX13_four cX13_four 3 none :: tM)) := gM_v (List.mem_of_getElem? (i := 80) (by decide +kernel)) (List.mem_of_getElem? (i := 81) (by decide +kernel)) (List.mem_of_getElem? (i := 82) (by decide +kernel)) tM_ini (List.mem_of_getElem? (i := 73) (by decide +kernel))
theorem gM_in : GoodIn tM (wsS RX13 179 yX13_in (.code yX13_in cX13_in 3 (some .boolean) :: tM)) := gM_s (List.mem_of_getElem? (i := 84) (by decide +kernel)) (List.mem_of_getElem? (i := 85) (by decide +kernel)) tM_ini (List.mem_of_getElem? (i := 72) (by decide +kernel))
theorem gM_byteAt : GoodIn tM (wsV RX13 195 RX13 yX13_byteAt (.code yX13_byteAt cX13_byteAt 2 (some .int) :: tM)) := gM_v (List.mem_of_getElem? (i := 93) (by decide +kernel)) (List.mem_of_getElem? (i := 94) (by decide +kernel)) (List.mem_of_getElem? (i := 95) (by decide +kernel)) tM_ini (List.mem_of_getElem? (i := 86) (by decide +kernel))
theorem gM_wrong : GoodIn tM (wsV RX13 198 RX13 yX13_wrong (.code yX13_wrong cX13_wrong 1 (some .int) :: tM)) := gM_v (List.mem_of_getElem? (i := 98) (by decide +kernel)) (List.mem_of_getElem? (i := 99) (by decide +kernel)) (List.mem_of_getElem? (i := 100) (by decide +kernel)) tM_ini (List.mem_of_getElem? (i := 88) (by decide +kernel))
theorem gM_next : GoodIn tM (wsV RX13 202 RX13 yX13_next (.code yX13_next cX13_next 1 none :: tM)) := gM_v (List.mem_of_getElem? (i := 101) (by decide +kernel)) (List.mem_of_getElem? (i := 102) (by decide +kernel)) (List.mem_of_getElem? (i := 103) (by decide +kernel)) tM_ini (List.mem_of_getElem? (i := 91) (by decide +kernel))
theorem gM_word : GoodIn tM (wsV RX13 205 RX13 yX13_word (.code yX13_word cX13_word 4 (some .int) :: tM)) := gM_v (List.mem_of_getElem? (i := 106) (by decide +kernel)) (List.mem_of_getElem? (i := 107) (by decide +kernel)) (List.mem_of_getElem? (i := 108) (by decide +kernel)) tM_ini (List.mem_of_getElem? (i := 96) (by decide +kernel))
theorem gM_number : GoodIn tM (wsV RX13 212 RX13 yX13_number (.code yX13_number cX13_number 6 (some .int) :: tM)) := gM_v (List.mem_of_getElem? (i := 109) (by decide +kernel)) (List.mem_of_getElem? (i := 110) (by decide +kernel)) (List.mem_of_getElem? (i := 111) (by decide +kernel)) tM_ini (List.mem_of_getElem? (i := 97) (by decide +kernel))
theorem gM_line : GoodIn tM (wsV RX13 216 RX13 yX13_line (.code yX13_line cX13_line 7 none :: tM)) := gM_v (List.mem_of_getElem? (i := 113) (by decide +kernel)) (List.mem_of_getElem? (i := 114) (by decide +kernel)) (List.mem_of_getElem? (i := 115) (by decide +kernel)) tM_ini (List.mem_of_getElem? (i := 112) (by decide +kernel))
theorem gM_isThere : GoodIn tM (wsV RX13 219 RX13 yX13_isThere (.code yX13_isThere cX13_isThere 2 (some .boolean) :: tM)) := gM_v (List.mem_of_getElem? (i := 121) (by decide +kernel)) (List.mem_of_getElem? (i := 122) (by decide +kernel)) (List.mem_of_getElem? (i := 123) (by decide +kernel)) tM_ini (List.mem_of_getElem? (i := 117) (by decide +kernel))
theorem gM_objects : GoodIn tM (wsV RX13 223 RX13 yX13_objects (.code yX13_objects cX13_objects 3 (some .int) :: tM)) := gM_v (List.mem_of_getElem? (i := 124) (by decide +kernel)) (List.mem_of_getElem? (i := 125) (by decide +kernel)) (List.mem_of_getElem? (i := 126) (by decide +kernel)) tM_ini (List.mem_of_getElem? (i := 119) (by decide +kernel))
theorem gM_read : GoodIn tM (wsV RX13 226 RX13 yX13_read (.code yX13_read cX13_read 1 none :: tM)) := gM_v (List.mem_of_getElem? (i := 127) (by decide +kernel)) (List.mem_of_getElem? (i := 128) (by decide +kernel)) (List.mem_of_getElem? (i := 129) (by decide +kernel)) tM_ini (List.mem_of_getElem? (i := 116) (by decide +kernel))
theorem gM_leaves : GoodIn tM (wsV RX13 229 RX13 yX13_leaves (.code yX13_leaves cX13_leaves 5 none :: tM)) := gM_v (List.mem_of_getElem? (i := 136) (by decide +kernel)) (List.mem_of_getElem? (i := 137) (by decide +kernel)) (List.mem_of_getElem? (i := 138) (by decide +kernel)) tM_ini (List.mem_of_getElem? (i := 133) (by decide +kernel))
theorem gM_goesOn : GoodIn tM (wsV RX13 233 RX13 yX13_goesOn (.code yX13_goesOn cX13_goesOn 2 none :: tM)) := gM_v (List.mem_of_getElem? (i := 139) (by decide +kernel)) (List.mem_of_getElem? (i := 140) (by decide +kernel)) (List.mem_of_getElem? (i := 141) (by decide +kernel)) tM_ini (List.mem_of_getElem? (i := 134) (by decide +kernel))
theorem gM_has : GoodIn tM (wsV RX13 236 RX13 yX13_has (.code yX13_has cX13_has 3 none :: tM)) := gM_v (List.mem_of_getElem? (i := 144) (by decide +kernel)) (List.mem_of_getElem? (i := 145) (by decide +kernel)) (List.mem_of_getElem? (i := 146) (by decide +kernel)) tM_ini (List.mem_of_getElem? (i := 143) (by decide +kernel))
theorem gM_waitFor : GoodIn tM (wsV RX13 239 RX13 yX13_waitFor (.code yX13_waitFor cX13_waitFor 3 none :: tM)) := gM_v (List.mem_of_getElem? (i := 148) (by decide +kernel)) (List.mem_of_getElem? (i := 149) (by decide +kernel)) (List.mem_of_getElem? (i := 150) (by decide +kernel)) tM_ini (List.mem_of_getElem? (i := 132) (by decide +kernel))
theorem gM_freed : GoodIn tM (wsV RX13 242 RX13 yX13_freed (.code yX13_freed cX13_freed 3 none :: tM)) := gM_v (List.mem_of_getElem? (i := 151) (by decide +kernel)) (List.mem_of_getElem? (i := 152) (by decide +kernel)) (List.mem_of_getElem? (i := 153) (by decide +kernel)) tM_ini (List.mem_of_getElem? (i := 147) (by decide +kernel))
theorem gM_fails : GoodIn tM (wsV RX13 264 RX13 yX13_fails (.code yX13_fails cX13_fails 3 (some .boolean) :: tM)) := gM_v (List.mem_of_getElem? (i := 158) (by decide +kernel)) (List.mem_of_getElem? (i := 159) (by decide +kernel)) (List.mem_of_getElem? (i := 160) (by decide +kernel)) tM_ini (List.mem_of_getElem? (i := 142) (by decide +kernel))
theorem gM_signalled : GoodIn tM (wsV RX13 289 RX13 yX13_signalled (.code yX13_signalled cX13_signalled 5 none :: tM)) := gM_v (List.mem_of_getElem? (i := 161) (by decide +kernel)) (List.mem_of_getElem? (i := 162) (by decide +kernel)) (List.mem_of_getElem? (i := 163) (by decide +kernel)) tM_ini (List.mem_of_getElem? (i := 154) (by decide +kernel))
theorem gM_part : GoodIn tM (wsV RX13 252 RX13 yX13_part (.code yX13_part cX13_part 3 (some .int) :: tM)) := gM_v (List.mem_of_getElem? (i := 166) (by decide +kernel)) (List.mem_of_getElem? (i := 167) (by decide +kernel)) (List.mem_of_getElem? (i := 168) (by decide +kernel)) tM_ini (List.mem_of_getElem? (i := 131) (by decide +kernel))
theorem gM_passes : GoodIn tM (wsV RX13 286 RX13 yX13_passes (.code yX13_passes cX13_passes 3 (some .boolean) :: tM)) := gM_v (List.mem_of_getElem? (i := 169) (by decide +kernel)) (List.mem_of_getElem? (i := 170) (by decide +kernel)) (List.mem_of_getElem? (i := 171) (by decide +kernel)) tM_ini (List.mem_of_getElem? (i := 157) (by decide +kernel))
theorem gM_firstGoesOn : GoodIn tM (wsV RX13 283 RX13 yX13_firstGoesOn (.code yX13_firstGoesOn cX13_firstGoesOn 3 (some .int) :: tM)) := gM_v (List.mem_of_getElem? (i := 172) (by decide +kernel)) (List.mem_of_getElem? (i := 173) (by decide +kernel)) (List.mem_of_getElem? (i := 174) (by decide +kernel)) tM_ini (List.mem_of_getElem? (i := 135) (by decide +kernel))
theorem gM_opened : GoodIn tM (wsV RX13 295 RX13 yX13_opened (.code yX13_opened cX13_opened 2 none :: tM)) := gM_v (List.mem_of_getElem? (i := 177) (by decide +kernel)) (List.mem_of_getElem? (i := 178) (by decide +kernel)) (List.mem_of_getElem? (i := 179) (by decide +kernel)) tM_ini (List.mem_of_getElem? (i := 176) (by decide +kernel))
theorem gM_append : GoodIn tM (wsV RX13 292 RX13 yX13_append (.code yX13_append cX13_append 3 none :: tM)) := gM_v (List.mem_of_getElem? (i := 182) (by decide +kernel)) (List.mem_of_getElem? (i := 183) (by decide +kernel)) (List.mem_of_getElem? (i := 184) (by decide +kernel)) tM_ini (List.mem_of_getElem? (i := 181) (by decide +kernel))
theorem gM_kindOf : GoodIn tM (wsS RX13 261 yX13_kindOf (.code yX13_kindOf cX13_kindOf 1 (some .int) :: tM)) := gM_s (List.mem_of_getElem? (i := 186) (by decide +kernel)) (List.mem_of_getElem? (i := 187) (by decide +kernel)) tM_ini (List.mem_of_getElem? (i := 156) (by decide +kernel))
theorem gM_atLock : GoodIn tM (wsV RX13 268 RX13 yX13_atLock (.code yX13_atLock cX13_atLock 6 (some .boolean) :: tM)) := gM_v (List.mem_of_getElem? (i := 188) (by decide +kernel)) (List.mem_of_getElem? (i := 189) (by decide +kernel)) (List.mem_of_getElem? (i := 190) (by decide +kernel)) tM_ini (List.mem_of_getElem? (i := 164) (by decide +kernel))
theorem gM_atCell : GoodIn tM (wsV RX13 271 RX13 yX13_atCell (.code yX13_atCell cX13_atCell 5 (some .boolean) :: tM)) := gM_v (List.mem_of_getElem? (i := 191) (by decide +kernel)) (List.mem_of_getElem? (i := 192) (by decide +kernel)) (List.mem_of_getElem? (i := 193) (by decide +kernel)) tM_ini (List.mem_of_getElem? (i := 165) (by decide +kernel))
theorem gM_atSemaphore : GoodIn tM (wsV RX13 274 RX13 yX13_atSemaphore (.code yX13_atSemaphore cX13_atSemaphore 5 (some .boolean) :: tM)) := gM_v (List.mem_of_getElem? (i := 194) (by decide +kernel)) (List.mem_of_getElem? (i := 195) (by decide +kernel)) (List.mem_of_getElem? (i := 196) (by decide +kernel)) tM_ini (List.mem_of_getElem? (i := 175) (by decide +kernel))
theorem gM_atGate : GoodIn tM (wsV RX13 277 RX13 yX13_atGate (.code yX13_atGate cX13_atGate 4 (some .boolean) :: tM)) := gM_v (List.mem_of_getElem? (i := 197) (by decide +kernel)) (List.mem_of_getElem? (i := 198) (by decide +kernel)) (List.mem_of_getElem? (i := 199) (by decide +kernel)) tM_ini (List.mem_of_getElem? (i := 180) (by decide +kernel))
theorem gM_atQueue : GoodIn tM (wsV RX13 280 RX13 yX13_atQueue (.code yX13_atQueue cX13_atQueue 6 (some .boolean) :: tM)) := gM_v (List.mem_of_getElem? (i := 200) (by decide +kernel)) (List.mem_of_getElem? (i := 201) (by decide +kernel)) (List.mem_of_getElem? (i := 202) (by decide +kernel)) tM_ini (List.mem_of_getElem? (i := 185) (by decide +kernel))
theorem gM_rowOf : GoodIn tM (wsV RX13 249 RX13 yX13_rowOf (.code yX13_rowOf cX13_rowOf 4 (some .int) :: tM)) := gM_v (List.mem_of_getElem? (i := 206) (by decide +kernel)) (List.mem_of_getElem? (i := 207) (by decide +kernel)) (List.mem_of_getElem? (i := 208) (by decide +kernel)) tM_ini (List.mem_of_getElem? (i := 155) (by decide +kernel))
theorem gM_with : GoodIn tM (wsV RX13 258 RX13 yX13_with (.code yX13_with cX13_with 6 (some .boolean) :: tM)) := gM_v (List.mem_of_getElem? (i := 209) (by decide +kernel)) (List.mem_of_getElem? (i := 210) (by decide +kernel)) (List.mem_of_getElem? (i := 211) (by decide +kernel)) tM_ini (List.mem_of_getElem? (i := 203) (by decide +kernel))
theorem gM_one : GoodIn tM (wsV RX13 298 RX13 yX13_one (.code yX13_one cX13_one 6 none :: tM)) := gM_v (List.mem_of_getElem? (i := 213) (by decide +kernel)) (List.mem_of_getElem? (i := 214) (by decide +kernel)) (List.mem_of_getElem? (i := 215) (by decide +kernel)) tM_ini (List.mem_of_getElem? (i := 212) (by decide +kernel))
theorem gM_ready : GoodIn tM (wsV RX13 304 RX13 yX13_ready (.code yX13_ready cX13_ready 3 (some .int) :: tM)) := gM_v (List.mem_of_getElem? (i := 220) (by decide +kernel)) (List.mem_of_getElem? (i := 221) (by decide +kernel)) (List.mem_of_getElem? (i := 222) (by decide +kernel)) tM_ini (List.mem_of_getElem? (i := 217) (by decide +kernel))
theorem gM_nextOf : GoodIn tM (wsV RX13 308 RX13 yX13_nextOf (.code yX13_nextOf cX13_nextOf 2 (some .int) :: tM)) := gM_v (List.mem_of_getElem? (i := 229) (by decide +kernel)) (List.mem_of_getElem? (i := 230) (by decide +kernel)) (List.mem_of_getElem? (i := 231) (by decide +kernel)) tM_ini (List.mem_of_getElem? (i := 227) (by decide +kernel))
theorem tMc17 : Cond.constantLong RX13 17 (1819238756) ∈ tM := List.mem_of_getElem? (i := 7) (by decide +kernel)
theorem tMc19 : Cond.constantLong RX13 19 (6382692) ∈ tM := List.mem_of_getElem? (i := 8) (by decide +kernel)
theorem tMc21 : Cond.constantLong RX13 21 (1786080624) ∈ tM := List.mem_of_getElem? (i := 9) (by decide +kernel)
theorem tMc23 : Cond.constantLong RX13 23 (2053468783) ∈ tM := List.mem_of_getElem? (i := 10) (by decide +kernel)
theorem tMc25 : Cond.constantLong RX13 25 (1818588019) ∈ tM := List.mem_of_getElem? (i := 11) (by decide +kernel)
theorem tMc27 : Cond.constantLong RX13 27 (495739823472) ∈ tM := List.mem_of_getElem? (i := 12) (by decide +kernel)
theorem tMc29 : Cond.constantLong RX13 29 (6647396) ∈ tM := List.mem_of_getElem? (i := 13) (by decide +kernel)
theorem tMc31 : Cond.constantLong RX13 31 (1819239275) ∈ tM := List.mem_of_getElem? (i := 14) (by decide +kernel)
theorem tMc33 : Cond.constantLong RX13 33 (7631481) ∈ tM := List.mem_of_getElem? (i := 15) (by decide +kernel)
theorem tMc35 : Cond.constantLong RX13 35 (129117126091627) ∈ tM := List.mem_of_getElem? (i := 16) (by decide +kernel)
theorem tMc37 : Cond.constantLong RX13 37 (2002872692) ∈ tM := List.mem_of_getElem? (i := 17) (by decide +kernel)
theorem tMc39 : Cond.constantLong RX13 39 (126896544047468) ∈ tM := List.mem_of_getElem? (i := 18) (by decide +kernel)
theorem tMc41 : Cond.constantLong RX13 41 (6384748) ∈ tM := List.mem_of_getElem? (i := 19) (by decide +kernel)
theorem tMc43 : Cond.constantLong RX13 43 (6776180) ∈ tM := List.mem_of_getElem? (i := 20) (by decide +kernel)
theorem tMc45 : Cond.constantLong RX13 45 (7562612) ∈ tM := List.mem_of_getElem? (i := 21) (by decide +kernel)
theorem tMc47 : Cond.constantLong RX13 47 (6909539) ∈ tM := List.mem_of_getElem? (i := 22) (by decide +kernel)
theorem tMc49 : Cond.constantLong RX13 49 (6513011) ∈ tM := List.mem_of_getElem? (i := 23) (by decide +kernel)
theorem tMc51 : Cond.constantLong RX13 51 (27412411693232741) ∈ tM := List.mem_of_getElem? (i := 24) (by decide +kernel)
theorem tMc53 : Cond.constantLong RX13 53 (32199663576773477) ∈ tM := List.mem_of_getElem? (i := 25) (by decide +kernel)
theorem tMc55 : Cond.constantLong RX13 55 (431415716206) ∈ tM := List.mem_of_getElem? (i := 26) (by decide +kernel)
theorem tMc57 : Cond.constantLong RX13 57 (1685026670) ∈ tM := List.mem_of_getElem? (i := 27) (by decide +kernel)
theorem tMc59 : Cond.constantLong RX13 59 (418614700404) ∈ tM := List.mem_of_getElem? (i := 28) (by decide +kernel)
theorem tMc61 : Cond.constantLong RX13 61 (1835361652) ∈ tM := List.mem_of_getElem? (i := 29) (by decide +kernel)
theorem tMc63 : Cond.constantLong RX13 63 (7370100) ∈ tM := List.mem_of_getElem? (i := 30) (by decide +kernel)
theorem tMc65 : Cond.constantLong RX13 65 (1952541541) ∈ tM := List.mem_of_getElem? (i := 31) (by decide +kernel)
theorem tMc67 : Cond.constantLong RX13 67 (478459356530) ∈ tM := List.mem_of_getElem? (i := 32) (by decide +kernel)
theorem tMc69 : Cond.constantLong RX13 69 (1886350444) ∈ tM := List.mem_of_getElem? (i := 33) (by decide +kernel)
theorem tMc71 : Cond.constantLong RX13 71 (1734964837) ∈ tM := List.mem_of_getElem? (i := 34) (by decide +kernel)
theorem tMc73 : Cond.constantLong RX13 73 (1785686382) ∈ tM := List.mem_of_getElem? (i := 35) (by decide +kernel)
theorem tMc75 : Cond.constantLong RX13 75 (26990) ∈ tM := List.mem_of_getElem? (i := 36) (by decide +kernel)
theorem tMc77 : Cond.constantLong RX13 77 (7304564) ∈ tM := List.mem_of_getElem? (i := 37) (by decide +kernel)
theorem tMc79 : Cond.constantLong RX13 79 (7305070) ∈ tM := List.mem_of_getElem? (i := 38) (by decide +kernel)
theorem tMc81 : Cond.constantLong RX13 81 (1650549611) ∈ tM := List.mem_of_getElem? (i := 39) (by decide +kernel)
theorem tMc83 : Cond.constantLong RX13 83 (1953066341) ∈ tM := List.mem_of_getElem? (i := 40) (by decide +kernel)
theorem tMc211 : Cond.constant RX13 211 (1000000000) ∈ tM := List.mem_of_getElem? (i := 105) (by decide +kernel)
theorem tMc307 : Cond.constant RX13 307 (1103515245) ∈ tM := List.mem_of_getElem? (i := 219) (by decide +kernel)
theorem tMc311 : Cond.constantLong RX13 311 (1099511627776) ∈ tM := List.mem_of_getElem? (i := 233) (by decide +kernel)
theorem tMa_int : Cond.arrayClass .int ∈ tM := List.mem_of_getElem? (i := 3) (by decide +kernel)
theorem tMa_long : Cond.arrayClass .long ∈ tM := List.mem_of_getElem? (i := 6) (by decide +kernel)
theorem tMa_boolean : Cond.arrayClass .boolean ∈ tM := List.mem_of_getElem? (i := 52) (by decide +kernel)
/-- the state of the reference: its ints and longs by the field, its arrays of ints (and booleans) and of longs by field and place -/
abbrev mS : Type := (Nat → Int32) × (Nat → Int64) × (Nat → Int32 → Int32) × (Nat → Int32 → Int64)
def gI (S : mS) (k : Nat) : Int32 := S.1 k
def gJ (S : mS) (k : Nat) : Int64 := S.2.1 k
def gA (S : mS) (k : Nat) (i : Int32) : Int32 := S.2.2.1 k i
def gL (S : mS) (k : Nat) (i : Int32) : Int64 := S.2.2.2 k i
def sI (S : mS) (k : Nat) (x : Int32) : mS := (fun j => if j = k then x else S.1 j, S.2.1, S.2.2.1, S.2.2.2)
def sJ (S : mS) (k : Nat) (x : Int64) : mS := (S.1, fun j => if j = k then x else S.2.1 j, S.2.2.1, S.2.2.2)
def sA (S : mS) (k : Nat) (i x : Int32) : mS := (S.1, S.2.1, fun j => if j = k then (fun q => if q = i then x else S.2.2.1 k q) else S.2.2.1 j, S.2.2.2)
def sL (S : mS) (k : Nat) (i : Int32) (x : Int64) : mS := (S.1, S.2.1, S.2.2.1, fun j => if j = k then (fun q => if q = i then x else S.2.2.2 k q) else S.2.2.2 j)
theorem gI_sI (S : mS) (k : Nat) (x : Int32) (j : Nat) : gI (sI S k x) j = if j = k then x else gI S j := rfl
theorem gI_sJ (S : mS) (k : Nat) (x : Int64) (j : Nat) : gI (sJ S k x) j = gI S j := rfl
theorem gI_sA (S : mS) (k : Nat) (i x : Int32) (j : Nat) : gI (sA S k i x) j = gI S j := rfl
theorem gI_sL (S : mS) (k : Nat) (i : Int32) (x : Int64) (j : Nat) : gI (sL S k i x) j = gI S j := rfl
theorem gJ_sI (S : mS) (k : Nat) (x : Int32) (j : Nat) : gJ (sI S k x) j = gJ S j := rfl
theorem gJ_sJ (S : mS) (k : Nat) (x : Int64) (j : Nat) : gJ (sJ S k x) j = if j = k then x else gJ S j := rfl
theorem gJ_sA (S : mS) (k : Nat) (i x : Int32) (j : Nat) : gJ (sA S k i x) j = gJ S j := rfl
theorem gJ_sL (S : mS) (k : Nat) (i : Int32) (x : Int64) (j : Nat) : gJ (sL S k i x) j = gJ S j := rfl
theorem gA_sI (S : mS) (k : Nat) (x : Int32) (j : Nat) (q : Int32) : gA (sI S k x) j q = gA S j q := rfl
theorem gA_sJ (S : mS) (k : Nat) (x : Int64) (j : Nat) (q : Int32) : gA (sJ S k x) j q = gA S j q := rfl
theorem gA_sA (S : mS) (k : Nat) (i x : Int32) (j : Nat) (q : Int32) : gA (sA S k i x) j q = if j = k then (if q = i then x else gA S j q) else gA S j q := by
  by_cases h : j = k
  · subst h; simp [gA, sA]
  · simp [gA, sA, h]
theorem gA_sL (S : mS) (k : Nat) (i : Int32) (x : Int64) (j : Nat) (q : Int32) : gA (sL S k i x) j q = gA S j q := rfl
theorem gL_sI (S : mS) (k : Nat) (x : Int32) (j : Nat) (q : Int32) : gL (sI S k x) j q = gL S j q := rfl
theorem gL_sJ (S : mS) (k : Nat) (x : Int64) (j : Nat) (q : Int32) : gL (sJ S k x) j q = gL S j q := rfl
theorem gL_sA (S : mS) (k : Nat) (i x : Int32) (j : Nat) (q : Int32) : gL (sA S k i x) j q = gL S j q := rfl
theorem gL_sL (S : mS) (k : Nat) (i : Int32) (x : Int64) (j : Nat) (q : Int32) : gL (sL S k i x) j q = if j = k then (if q = i then x else gL S j q) else gL S j q := by
  by_cases h : j = k
  · subst h; simp [gL, sL]
  · simp [gL, sL, h]
theorem vin {x N : Int32} {n : Nat} (hN : N.toInt = n) (h0 : 0 ≤ x) (h1 : x < N) : vp_in x n := by
  rw [vp_in_iff, ← hN]
  exact ⟨Int32.le_iff_toInt_le.mp h0, Int32.lt_iff_toInt_lt.mp h1⟩
theorem nI_back {i : Int32} {n : Nat} (h : vp_in i n) : nI i.toNatClampNeg = i := by
  have h1 := (vp_in_iff.mp h).1
  apply Int32.toInt_inj.mp
  have h2 : i.toNatClampNeg < 2 ^ 31 := by
    have := Int32.toInt_lt i
    simp only [Int32.toNatClampNeg]
    omega
  rw [nI_toInt h2]
  simp only [Int32.toNatClampNeg]
  omega
theorem nI_inj31 {a b : Nat} (ha : a < 2 ^ 31) (hb : b < 2 ^ 31) (h : nI a = nI b) : a = b := (nI_eq ha hb).mp h
/-- two rows that agree in their places are one -/
theorem arr_eq {cA : ClassId} {n : Nat} {f g : Nat → Int32} (h : ∀ j, j < n → f j = g j) : vp_cell cA (n, .inl f) = vp_cell cA (n, .inl g) := by
  rw [vp_cell_i, vp_cell_i]
  have e : (fun j : Fin n => Value.int (f j.val)) = (fun j : Fin n => Value.int (g j.val)) := funext fun j => by rw [h j.val j.isLt]
  simp only [arrV, e]
theorem arr_eqL {cA : ClassId} {n : Nat} {f g : Nat → Int64} (h : ∀ j, j < n → f j = g j) : vp_cell cA (n, .inr (.inl f)) = vp_cell cA (n, .inr (.inl g)) := by
  rw [vp_cell_l, vp_cell_l]
  have e : (fun j : Fin n => Value.long (f j.val)) = (fun j : Fin n => Value.long (g j.val)) := funext fun j => by rw [h j.val j.isLt]
  simp only [arrV, e]
theorem mSwap {D : va_G} {cl : List vw_C} {ws : va_W} {H : Heap} {q0 a : Nat} {c1 c2 : ClassId × vp_A} (h : va_P D cl (ws.set q0 (a, .inl c1)) H) (he : vp_cell c1.1 c1.2 = vp_cell c2.1 c2.2) : va_P D cl (ws.set q0 (a, .inl c2)) H := by
  intro k q hk
  by_cases hkp : k = q0
  · subst hkp
    by_cases hl : k < ws.length
    · rw [List.getElem?_set_self hl] at hk
      cases hk
      have h1 := h k (a, .inl c1) (List.getElem?_set_self hl)
      show H[a]? = some (vp_cell c2.1 c2.2)
      rw [← he]; exact h1
    · rw [List.set_eq_of_length_le (by omega)] at hk h
      exact h k q hk
  · rw [List.getElem?_set_ne (Ne.symm hkp)] at hk
    exact h k q (by rw [List.getElem?_set_ne (Ne.symm hkp)]; exact hk)
theorem upd_nI {f : Int32 → Int32} {i x : Int32} {n : Nat} (hin : vp_in i n) (hn : n < 2 ^ 31) : ∀ j, j < n → upd (fun q => f (nI q)) i.toNatClampNeg x j = (fun q => if q = i then x else f q) (nI j) := by
  intro j hj
  have hb := nI_back hin
  have hi : i.toNatClampNeg < n := Nat.not_le.mp fun q => hin (Or.inr q)
  by_cases h : j = i.toNatClampNeg
  · subst h; simp [upd, hb]
  · have h2 : ¬ nI j = i := fun e => h (nI_inj31 (by omega) (by omega) (e.trans hb.symm))
    simp [upd, h, h2]
theorem updL_nI {f : Int32 → Int64} {i : Int32} {x : Int64} {n : Nat} (hin : vp_in i n) (hn : n < 2 ^ 31) : ∀ j, j < n → vp_updL (fun q => f (nI q)) i.toNatClampNeg x j = (fun q => if q = i then x else f q) (nI j) := by
  intro j hj
  have hb := nI_back hin
  have hi : i.toNatClampNeg < n := Nat.not_le.mp fun q => hin (Or.inr q)
  by_cases h : j = i.toNatClampNeg
  · subst h; simp [vp_updL, hb]
  · have h2 : ¬ nI j = i := fun e => h (nI_inj31 (by omega) (by omega) (e.trans hb.symm))
    simp [vp_updL, h, h2]
def mfs (ad : Nat → Nat) (S : mS) : List Value := [.int (S.1 0), .ref (ad 1), .int (S.1 2), .int (S.1 3), .ref (ad 4), .ref (ad 5), .int (S.1 6), .int (S.1 7), .int (S.1 8), .int (S.1 9), .int (S.1 10), .ref (ad 11), .ref (ad 12), .ref (ad 13), .ref (ad 14), .ref (ad 15), .ref (ad 16), .ref (ad 17), .ref (ad 18), .ref (ad 19), .ref (ad 20), .ref (ad 21), .ref (ad 22), .ref (ad 23), .long (S.2.1 24), .long (S.2.1 25), .int (S.1 26), .int (S.1 27), .ref (ad 28), .ref (ad 29), .ref (ad 30), .ref (ad 31), .ref (ad 32), .ref (ad 33), .ref (ad 34), .ref (ad 35), .ref (ad 36), .ref (ad 37)]
def mws (cs : ClassId × ClassId × ClassId) (o : Nat) (ad : Nat → Nat) (S : mS) : va_W := [(o, .inr (10, mfs ad S)), (ad 1, .inl (cs.1, 1600, .inl (fun j => S.2.2.1 1 (nI j)))), (ad 4, .inl (cs.2.1, 34, .inr (.inl (fun j => S.2.2.2 4 (nI j))))), (ad 5, .inl (cs.1, 240, .inl (fun j => S.2.2.1 5 (nI j)))), (ad 11, .inl (cs.1, 1920, .inl (fun j => S.2.2.1 11 (nI j)))), (ad 12, .inl (cs.1, 8, .inl (fun j => S.2.2.1 12 (nI j)))), (ad 13, .inl (cs.1, 8, .inl (fun j => S.2.2.1 13 (nI j)))), (ad 14, .inl (cs.1, 8, .inl (fun j => S.2.2.1 14 (nI j)))), (ad 15, .inl (cs.1, 8, .inl (fun j => S.2.2.1 15 (nI j)))), (ad 16, .inl (cs.1, 8, .inl (fun j => S.2.2.1 16 (nI j)))), (ad 17, .inl (cs.1, 8, .inl (fun j => S.2.2.1 17 (nI j)))), (ad 18, .inl (cs.1, 8, .inl (fun j => S.2.2.1 18 (nI j)))), (ad 19, .inl (cs.1, 8, .inl (fun j => S.2.2.1 19 (nI j)))), (ad 20, .inl (cs.2.2, 8, .inl (fun j => S.2.2.1 20 (nI j)))), (ad 21, .inl (cs.2.2, 8, .inl (fun j => S.2.2.1 21 (nI j)))), (ad 22, .inl (cs.2.2, 8, .inl (fun j => S.2.2.1 22 (nI j)))), (ad 23, .inl (cs.2.1, 8, .inr (.inl (fun j => S.2.2.2 23 (nI j))))), (ad 28, .inl (cs.1, 24, .inl (fun j => S.2.2.1 28 (nI j)))), (ad 29, .inl (cs.1, 24, .inl (fun j => S.2.2.1 29 (nI j)))), (ad 30, .inl (cs.1, 24, .inl (fun j => S.2.2.1 30 (nI j)))), (ad 31, .inl (cs.1, 24, .inl (fun j => S.2.2.1 31 (nI j)))), (ad 32, .inl (cs.1, 192, .inl (fun j => S.2.2.1 32 (nI j)))), (ad 33, .inl (cs.1, 24, .inl (fun j => S.2.2.1 33 (nI j)))), (ad 34, .inl (cs.1, 192, .inl (fun j => S.2.2.1 34 (nI j)))), (ad 35, .inl (cs.1, 24, .inl (fun j => S.2.2.1 35 (nI j)))), (ad 36, .inl (cs.1, 2400, .inl (fun j => S.2.2.1 36 (nI j)))), (ad 37, .inl (cs.1, 24, .inl (fun j => S.2.2.1 37 (nI j))))]
abbrev mT (cs : ClassId × ClassId × ClassId) : List (ClassId × FieldType) := [(cs.1, .int), (cs.2.1, .long), (cs.2.2, .boolean)]
def mV (D : va_G) (cs : ClassId × ClassId × ClassId) (o : Nat) (ad : Nat → Nat) (A : Nat → Prop) (S : mS) (H : Heap) : Prop := va_P D vwCl (mws cs o ad S) H ∧ va_D A (mws cs o ad S)
def mB (D : va_G) (cs : ClassId × ClassId × ClassId) (o : Nat) (ad : Nat → Nat) (A : Nat → Prop) (S : mS) (U : State) : Prop := mV D cs o ad A S U.heap ∧ va_K D vwCl (mT cs) U
def mC (p : Program) (s : State) (m : MethodId) (args : Array Value) (c : Code) (cc : ByteArray) (D : va_G) (cs : ClassId × ClassId × ClassId) : Prop := p.tables.exec = Jvm.exec ∧ c.code = cc ∧ s.vm.findClass RX13 = some m.cls ∧ (∀ w ∈ tM, w.before args s = true) ∧ va_K D vwCl (mT cs) s
section MW
variable {p : Program} {l : Launch} {e : Env} {R : Room} {s : State} {m : MethodId} {args : Array Value} {below : List Frame} {meth : Method} {c : Code} {H : Heap} {locs : List Loc} {cells slots : Nat} {Q : State → Prop}
variable {cc : ByteArray} {pc : Nat} {ls : Array Slot} {rest : List Value} {D : va_G} {cs : ClassId × ClassId × ClassId} {o : Nat} {ad : Nat → Nat} {A : Nat → Prop} {S : mS} {H0 : Heap}
theorem mG0 (C : mC p s m args c cc D cs) (V : mV D cs o ad A S H) (hdg : decode cc pc = .ok (.getfield 165, 3)) (kk : W p l e R s m args below meth c H locs cells slots Q (F0 m (pc + 3) ls (.int (gI S 0) :: rest))) : W p l e R s m args below meth c H locs cells slots Q (F0 m pc ls (.ref o :: rest)) := by
  obtain ⟨hx, hb, hown, hts, hK⟩ := C
  exact va_get (own := RX13) (C := RX13) (T := TX13) (N := 38) (ci := 10) hx hb hts tM_lay hown hK V.1 0 rfl rfl 0 (by decide) (hts _ tMf0) (fun _ h => h) rfl hdg kk
theorem mP0 {x : Int32} (C : mC p s m args c cc D cs) (V : mV D cs o ad A S H) (hS : va_S A H0 H locs) (hdg : decode cc pc = .ok (.putfield 165, 3)) (kk : ∀ (S1 : mS) (H1 : Heap) (locs1 : List Loc), S1 = sI S 0 x → mV D cs o ad A S1 H1 → va_S A H0 H1 locs1 → W p l e R s m args below meth c H1 locs1 cells slots Q (F0 m (pc + 3) ls rest)) : W p l e R s m args below meth c H locs cells slots Q (F0 m pc ls (.int x :: .ref o :: rest)) := by
  obtain ⟨hx, hb, hown, hts, hK⟩ := C
  exact va_put (own := RX13) (C := RX13) (T := TX13) (N := 38) (ci := 10) (ty := .int) hx hb hts tM_lay tyX13 tyX13_ok nmX13 hown hK V.1 V.2 hS 0 rfl rfl 0 (by decide) (hts _ tMf0) (fun _ h => h) rfl (by decide +kernel) rfl rfl (Nat.le_of_ble_eq_true rfl) hdg (fun H1 locs1 hP hD hS1 => kk _ H1 locs1 rfl ⟨hP, hD⟩ hS1)
theorem mG1 (C : mC p s m args c cc D cs) (V : mV D cs o ad A S H) (hdg : decode cc pc = .ok (.getfield 7, 3)) (kk : W p l e R s m args below meth c H locs cells slots Q (F0 m (pc + 3) ls (.ref (ad 1) :: rest))) : W p l e R s m args below meth c H locs cells slots Q (F0 m pc ls (.ref o :: rest)) := by
  obtain ⟨hx, hb, hown, hts, hK⟩ := C
  exact va_get (own := RX13) (C := RX13) (T := TX13) (N := 38) (ci := 10) hx hb hts tM_lay hown hK V.1 0 rfl rfl 1 (by decide) (hts _ tMf1) (fun _ h => h) rfl hdg kk
theorem mLd1 {i : Int32} (C : mC p s m args c cc D cs) (V : mV D cs o ad A S H) (hin : vp_in i 1600) (hdg : decode cc pc = .ok (.iaload, 1)) (kk : W p l e R s m args below meth c H locs cells slots Q (F0 m (pc + 1) ls (.int (gA S 1 i) :: rest))) : W p l e R s m args below meth c H locs cells slots Q (F0 m pc ls (.int i :: .ref (ad 1) :: rest)) := by
  obtain ⟨hx, hb, hown, hts, hK⟩ := C
  refine va_iald hx hb hK V.1 1 0 rfl rfl hin hdg ?_
  have hb9 := nI_back hin
  rw [hb9]; exact kk
theorem mSt1 {i : Int32} {x : Int32} (C : mC p s m args c cc D cs) (V : mV D cs o ad A S H) (hS : va_S A H0 H locs) (hin : vp_in i 1600) (hdg : decode cc pc = .ok (.iastore, 1)) (kk : ∀ (S1 : mS) (H1 : Heap) (locs1 : List Loc), S1 = sA S 1 i (x) → mV D cs o ad A S1 H1 → va_S A H0 H1 locs1 → W p l e R s m args below meth c H1 locs1 cells slots Q (F0 m (pc + 1) ls rest)) : W p l e R s m args below meth c H locs cells slots Q (F0 m pc ls (.int x :: .int i :: .ref (ad 1) :: rest)) := by
  obtain ⟨hx, hb, hown, hts, hK⟩ := C
  exact va_iast hx hb hK V.1 V.2 hS 1 0 rfl rfl hin hdg (fun H1 locs1 hP hD hS1 => kk _ H1 locs1 rfl ⟨mSwap (c2 := (cs.1, 1600, .inl (fun j => (sA S 1 i (x)).2.2.1 1 (nI j)))) hP (arr_eq (upd_nI hin (by decide))), V.2.set (p := 1) rfl⟩ hS1)
theorem mG2 (C : mC p s m args c cc D cs) (V : mV D cs o ad A S H) (hdg : decode cc pc = .ok (.getfield 168, 3)) (kk : W p l e R s m args below meth c H locs cells slots Q (F0 m (pc + 3) ls (.int (gI S 2) :: rest))) : W p l e R s m args below meth c H locs cells slots Q (F0 m pc ls (.ref o :: rest)) := by
  obtain ⟨hx, hb, hown, hts, hK⟩ := C
  exact va_get (own := RX13) (C := RX13) (T := TX13) (N := 38) (ci := 10) hx hb hts tM_lay hown hK V.1 0 rfl rfl 2 (by decide) (hts _ tMf2) (fun _ h => h) rfl hdg kk
theorem mP2 {x : Int32} (C : mC p s m args c cc D cs) (V : mV D cs o ad A S H) (hS : va_S A H0 H locs) (hdg : decode cc pc = .ok (.putfield 168, 3)) (kk : ∀ (S1 : mS) (H1 : Heap) (locs1 : List Loc), S1 = sI S 2 x → mV D cs o ad A S1 H1 → va_S A H0 H1 locs1 → W p l e R s m args below meth c H1 locs1 cells slots Q (F0 m (pc + 3) ls rest)) : W p l e R s m args below meth c H locs cells slots Q (F0 m pc ls (.int x :: .ref o :: rest)) := by
  obtain ⟨hx, hb, hown, hts, hK⟩ := C
  exact va_put (own := RX13) (C := RX13) (T := TX13) (N := 38) (ci := 10) (ty := .int) hx hb hts tM_lay tyX13 tyX13_ok nmX13 hown hK V.1 V.2 hS 0 rfl rfl 2 (by decide) (hts _ tMf2) (fun _ h => h) rfl (by decide +kernel) rfl rfl (Nat.le_of_ble_eq_true rfl) hdg (fun H1 locs1 hP hD hS1 => kk _ H1 locs1 rfl ⟨hP, hD⟩ hS1)
theorem mG3 (C : mC p s m args c cc D cs) (V : mV D cs o ad A S H) (hdg : decode cc pc = .ok (.getfield 13, 3)) (kk : W p l e R s m args below meth c H locs cells slots Q (F0 m (pc + 3) ls (.int (gI S 3) :: rest))) : W p l e R s m args below meth c H locs cells slots Q (F0 m pc ls (.ref o :: rest)) := by
  obtain ⟨hx, hb, hown, hts, hK⟩ := C
  exact va_get (own := RX13) (C := RX13) (T := TX13) (N := 38) (ci := 10) hx hb hts tM_lay hown hK V.1 0 rfl rfl 3 (by decide) (hts _ tMf3) (fun _ h => h) rfl hdg kk
theorem mP3 {x : Int32} (C : mC p s m args c cc D cs) (V : mV D cs o ad A S H) (hS : va_S A H0 H locs) (hdg : decode cc pc = .ok (.putfield 13, 3)) (kk : ∀ (S1 : mS) (H1 : Heap) (locs1 : List Loc), S1 = sI S 3 x → mV D cs o ad A S1 H1 → va_S A H0 H1 locs1 → W p l e R s m args below meth c H1 locs1 cells slots Q (F0 m (pc + 3) ls rest)) : W p l e R s m args below meth c H locs cells slots Q (F0 m pc ls (.int x :: .ref o :: rest)) := by
  obtain ⟨hx, hb, hown, hts, hK⟩ := C
  exact va_put (own := RX13) (C := RX13) (T := TX13) (N := 38) (ci := 10) (ty := .int) hx hb hts tM_lay tyX13 tyX13_ok nmX13 hown hK V.1 V.2 hS 0 rfl rfl 3 (by decide) (hts _ tMf3) (fun _ h => h) rfl (by decide +kernel) rfl rfl (Nat.le_of_ble_eq_true rfl) hdg (fun H1 locs1 hP hD hS1 => kk _ H1 locs1 rfl ⟨hP, hD⟩ hS1)
theorem mG4 (C : mC p s m args c cc D cs) (V : mV D cs o ad A S H) (hdg : decode cc pc = .ok (.getfield 85, 3)) (kk : W p l e R s m args below meth c H locs cells slots Q (F0 m (pc + 3) ls (.ref (ad 4) :: rest))) : W p l e R s m args below meth c H locs cells slots Q (F0 m pc ls (.ref o :: rest)) := by
  obtain ⟨hx, hb, hown, hts, hK⟩ := C
  exact va_get (own := RX13) (C := RX13) (T := TX13) (N := 38) (ci := 10) hx hb hts tM_lay hown hK V.1 0 rfl rfl 4 (by decide) (hts _ tMf4) (fun _ h => h) rfl hdg kk
theorem mLd4 {i : Int32} (C : mC p s m args c cc D cs) (V : mV D cs o ad A S H) (hin : vp_in i 34) (hdg : decode cc pc = .ok (.laload, 1)) (kk : W p l e R s m args below meth c H locs cells slots Q (F0 m (pc + 1) ls (.long (gL S 4 i) :: rest))) : W p l e R s m args below meth c H locs cells slots Q (F0 m pc ls (.int i :: .ref (ad 4) :: rest)) := by
  obtain ⟨hx, hb, hown, hts, hK⟩ := C
  refine va_lald hx hb hK V.1 2 1 rfl rfl hin hdg ?_
  have hb9 := nI_back hin
  rw [hb9]; exact kk
theorem mSt4 {i : Int32} {x : Int64} (C : mC p s m args c cc D cs) (V : mV D cs o ad A S H) (hS : va_S A H0 H locs) (hin : vp_in i 34) (hdg : decode cc pc = .ok (.lastore, 1)) (kk : ∀ (S1 : mS) (H1 : Heap) (locs1 : List Loc), S1 = sL S 4 i (x) → mV D cs o ad A S1 H1 → va_S A H0 H1 locs1 → W p l e R s m args below meth c H1 locs1 cells slots Q (F0 m (pc + 1) ls rest)) : W p l e R s m args below meth c H locs cells slots Q (F0 m pc ls (.long x :: .int i :: .ref (ad 4) :: rest)) := by
  obtain ⟨hx, hb, hown, hts, hK⟩ := C
  exact va_last hx hb hK V.1 V.2 hS 2 1 rfl rfl hin hdg (fun H1 locs1 hP hD hS1 => kk _ H1 locs1 rfl ⟨mSwap (c2 := (cs.2.1, 34, .inr (.inl (fun j => (sL S 4 i x).2.2.2 4 (nI j))))) hP (arr_eqL (updL_nI hin (by decide))), V.2.set (p := 2) rfl⟩ hS1)
theorem mG5 (C : mC p s m args c cc D cs) (V : mV D cs o ad A S H) (hdg : decode cc pc = .ok (.getfield 89, 3)) (kk : W p l e R s m args below meth c H locs cells slots Q (F0 m (pc + 3) ls (.ref (ad 5) :: rest))) : W p l e R s m args below meth c H locs cells slots Q (F0 m pc ls (.ref o :: rest)) := by
  obtain ⟨hx, hb, hown, hts, hK⟩ := C
  exact va_get (own := RX13) (C := RX13) (T := TX13) (N := 38) (ci := 10) hx hb hts tM_lay hown hK V.1 0 rfl rfl 5 (by decide) (hts _ tMf5) (fun _ h => h) rfl hdg kk
theorem mLd5 {i : Int32} (C : mC p s m args c cc D cs) (V : mV D cs o ad A S H) (hin : vp_in i 240) (hdg : decode cc pc = .ok (.iaload, 1)) (kk : W p l e R s m args below meth c H locs cells slots Q (F0 m (pc + 1) ls (.int (gA S 5 i) :: rest))) : W p l e R s m args below meth c H locs cells slots Q (F0 m pc ls (.int i :: .ref (ad 5) :: rest)) := by
  obtain ⟨hx, hb, hown, hts, hK⟩ := C
  refine va_iald hx hb hK V.1 3 0 rfl rfl hin hdg ?_
  have hb9 := nI_back hin
  rw [hb9]; exact kk
theorem mSt5 {i : Int32} {x : Int32} (C : mC p s m args c cc D cs) (V : mV D cs o ad A S H) (hS : va_S A H0 H locs) (hin : vp_in i 240) (hdg : decode cc pc = .ok (.iastore, 1)) (kk : ∀ (S1 : mS) (H1 : Heap) (locs1 : List Loc), S1 = sA S 5 i (x) → mV D cs o ad A S1 H1 → va_S A H0 H1 locs1 → W p l e R s m args below meth c H1 locs1 cells slots Q (F0 m (pc + 1) ls rest)) : W p l e R s m args below meth c H locs cells slots Q (F0 m pc ls (.int x :: .int i :: .ref (ad 5) :: rest)) := by
  obtain ⟨hx, hb, hown, hts, hK⟩ := C
  exact va_iast hx hb hK V.1 V.2 hS 3 0 rfl rfl hin hdg (fun H1 locs1 hP hD hS1 => kk _ H1 locs1 rfl ⟨mSwap (c2 := (cs.1, 240, .inl (fun j => (sA S 5 i (x)).2.2.1 5 (nI j)))) hP (arr_eq (upd_nI hin (by decide))), V.2.set (p := 3) rfl⟩ hS1)
theorem mG6 (C : mC p s m args c cc D cs) (V : mV D cs o ad A S H) (hdg : decode cc pc = .ok (.getfield 208, 3)) (kk : W p l e R s m args below meth c H locs cells slots Q (F0 m (pc + 3) ls (.int (gI S 6) :: rest))) : W p l e R s m args below meth c H locs cells slots Q (F0 m pc ls (.ref o :: rest)) := by
  obtain ⟨hx, hb, hown, hts, hK⟩ := C
  exact va_get (own := RX13) (C := RX13) (T := TX13) (N := 38) (ci := 10) hx hb hts tM_lay hown hK V.1 0 rfl rfl 6 (by decide) (hts _ tMf6) (fun _ h => h) rfl hdg kk
theorem mP6 {x : Int32} (C : mC p s m args c cc D cs) (V : mV D cs o ad A S H) (hS : va_S A H0 H locs) (hdg : decode cc pc = .ok (.putfield 208, 3)) (kk : ∀ (S1 : mS) (H1 : Heap) (locs1 : List Loc), S1 = sI S 6 x → mV D cs o ad A S1 H1 → va_S A H0 H1 locs1 → W p l e R s m args below meth c H1 locs1 cells slots Q (F0 m (pc + 3) ls rest)) : W p l e R s m args below meth c H locs cells slots Q (F0 m pc ls (.int x :: .ref o :: rest)) := by
  obtain ⟨hx, hb, hown, hts, hK⟩ := C
  exact va_put (own := RX13) (C := RX13) (T := TX13) (N := 38) (ci := 10) (ty := .int) hx hb hts tM_lay tyX13 tyX13_ok nmX13 hown hK V.1 V.2 hS 0 rfl rfl 6 (by decide) (hts _ tMf6) (fun _ h => h) rfl (by decide +kernel) rfl rfl (Nat.le_of_ble_eq_true rfl) hdg (fun H1 locs1 hP hD hS1 => kk _ H1 locs1 rfl ⟨hP, hD⟩ hS1)
theorem mG7 (C : mC p s m args c cc D cs) (V : mV D cs o ad A S H) (hdg : decode cc pc = .ok (.getfield 183, 3)) (kk : W p l e R s m args below meth c H locs cells slots Q (F0 m (pc + 3) ls (.int (gI S 7) :: rest))) : W p l e R s m args below meth c H locs cells slots Q (F0 m pc ls (.ref o :: rest)) := by
  obtain ⟨hx, hb, hown, hts, hK⟩ := C
  exact va_get (own := RX13) (C := RX13) (T := TX13) (N := 38) (ci := 10) hx hb hts tM_lay hown hK V.1 0 rfl rfl 7 (by decide) (hts _ tMf7) (fun _ h => h) rfl hdg kk
theorem mP7 {x : Int32} (C : mC p s m args c cc D cs) (V : mV D cs o ad A S H) (hS : va_S A H0 H locs) (hdg : decode cc pc = .ok (.putfield 183, 3)) (kk : ∀ (S1 : mS) (H1 : Heap) (locs1 : List Loc), S1 = sI S 7 x → mV D cs o ad A S1 H1 → va_S A H0 H1 locs1 → W p l e R s m args below meth c H1 locs1 cells slots Q (F0 m (pc + 3) ls rest)) : W p l e R s m args below meth c H locs cells slots Q (F0 m pc ls (.int x :: .ref o :: rest)) := by
  obtain ⟨hx, hb, hown, hts, hK⟩ := C
  exact va_put (own := RX13) (C := RX13) (T := TX13) (N := 38) (ci := 10) (ty := .int) hx hb hts tM_lay tyX13 tyX13_ok nmX13 hown hK V.1 V.2 hS 0 rfl rfl 7 (by decide) (hts _ tMf7) (fun _ h => h) rfl (by decide +kernel) rfl rfl (Nat.le_of_ble_eq_true rfl) hdg (fun H1 locs1 hP hD hS1 => kk _ H1 locs1 rfl ⟨hP, hD⟩ hS1)
theorem mG8 (C : mC p s m args c cc D cs) (V : mV D cs o ad A S H) (hdg : decode cc pc = .ok (.getfield 189, 3)) (kk : W p l e R s m args below meth c H locs cells slots Q (F0 m (pc + 3) ls (.int (gI S 8) :: rest))) : W p l e R s m args below meth c H locs cells slots Q (F0 m pc ls (.ref o :: rest)) := by
  obtain ⟨hx, hb, hown, hts, hK⟩ := C
  exact va_get (own := RX13) (C := RX13) (T := TX13) (N := 38) (ci := 10) hx hb hts tM_lay hown hK V.1 0 rfl rfl 8 (by decide) (hts _ tMf8) (fun _ h => h) rfl hdg kk
theorem mP8 {x : Int32} (C : mC p s m args c cc D cs) (V : mV D cs o ad A S H) (hS : va_S A H0 H locs) (hdg : decode cc pc = .ok (.putfield 189, 3)) (kk : ∀ (S1 : mS) (H1 : Heap) (locs1 : List Loc), S1 = sI S 8 x → mV D cs o ad A S1 H1 → va_S A H0 H1 locs1 → W p l e R s m args below meth c H1 locs1 cells slots Q (F0 m (pc + 3) ls rest)) : W p l e R s m args below meth c H locs cells slots Q (F0 m pc ls (.int x :: .ref o :: rest)) := by
  obtain ⟨hx, hb, hown, hts, hK⟩ := C
  exact va_put (own := RX13) (C := RX13) (T := TX13) (N := 38) (ci := 10) (ty := .int) hx hb hts tM_lay tyX13 tyX13_ok nmX13 hown hK V.1 V.2 hS 0 rfl rfl 8 (by decide) (hts _ tMf8) (fun _ h => h) rfl (by decide +kernel) rfl rfl (Nat.le_of_ble_eq_true rfl) hdg (fun H1 locs1 hP hD hS1 => kk _ H1 locs1 rfl ⟨hP, hD⟩ hS1)
theorem mG9 (C : mC p s m args c cc D cs) (V : mV D cs o ad A S H) (hdg : decode cc pc = .ok (.getfield 192, 3)) (kk : W p l e R s m args below meth c H locs cells slots Q (F0 m (pc + 3) ls (.int (gI S 9) :: rest))) : W p l e R s m args below meth c H locs cells slots Q (F0 m pc ls (.ref o :: rest)) := by
  obtain ⟨hx, hb, hown, hts, hK⟩ := C
  exact va_get (own := RX13) (C := RX13) (T := TX13) (N := 38) (ci := 10) hx hb hts tM_lay hown hK V.1 0 rfl rfl 9 (by decide) (hts _ tMf9) (fun _ h => h) rfl hdg kk
theorem mP9 {x : Int32} (C : mC p s m args c cc D cs) (V : mV D cs o ad A S H) (hS : va_S A H0 H locs) (hdg : decode cc pc = .ok (.putfield 192, 3)) (kk : ∀ (S1 : mS) (H1 : Heap) (locs1 : List Loc), S1 = sI S 9 x → mV D cs o ad A S1 H1 → va_S A H0 H1 locs1 → W p l e R s m args below meth c H1 locs1 cells slots Q (F0 m (pc + 3) ls rest)) : W p l e R s m args below meth c H locs cells slots Q (F0 m pc ls (.int x :: .ref o :: rest)) := by
  obtain ⟨hx, hb, hown, hts, hK⟩ := C
  exact va_put (own := RX13) (C := RX13) (T := TX13) (N := 38) (ci := 10) (ty := .int) hx hb hts tM_lay tyX13 tyX13_ok nmX13 hown hK V.1 V.2 hS 0 rfl rfl 9 (by decide) (hts _ tMf9) (fun _ h => h) rfl (by decide +kernel) rfl rfl (Nat.le_of_ble_eq_true rfl) hdg (fun H1 locs1 hP hD hS1 => kk _ H1 locs1 rfl ⟨hP, hD⟩ hS1)
theorem mG10 (C : mC p s m args c cc D cs) (V : mV D cs o ad A S H) (hdg : decode cc pc = .ok (.getfield 186, 3)) (kk : W p l e R s m args below meth c H locs cells slots Q (F0 m (pc + 3) ls (.int (gI S 10) :: rest))) : W p l e R s m args below meth c H locs cells slots Q (F0 m pc ls (.ref o :: rest)) := by
  obtain ⟨hx, hb, hown, hts, hK⟩ := C
  exact va_get (own := RX13) (C := RX13) (T := TX13) (N := 38) (ci := 10) hx hb hts tM_lay hown hK V.1 0 rfl rfl 10 (by decide) (hts _ tMf10) (fun _ h => h) rfl hdg kk
theorem mP10 {x : Int32} (C : mC p s m args c cc D cs) (V : mV D cs o ad A S H) (hS : va_S A H0 H locs) (hdg : decode cc pc = .ok (.putfield 186, 3)) (kk : ∀ (S1 : mS) (H1 : Heap) (locs1 : List Loc), S1 = sI S 10 x → mV D cs o ad A S1 H1 → va_S A H0 H1 locs1 → W p l e R s m args below meth c H1 locs1 cells slots Q (F0 m (pc + 3) ls rest)) : W p l e R s m args below meth c H locs cells slots Q (F0 m pc ls (.int x :: .ref o :: rest)) := by
  obtain ⟨hx, hb, hown, hts, hK⟩ := C
  exact va_put (own := RX13) (C := RX13) (T := TX13) (N := 38) (ci := 10) (ty := .int) hx hb hts tM_lay tyX13 tyX13_ok nmX13 hown hK V.1 V.2 hS 0 rfl rfl 10 (by decide) (hts _ tMf10) (fun _ h => h) rfl (by decide +kernel) rfl rfl (Nat.le_of_ble_eq_true rfl) hdg (fun H1 locs1 hP hD hS1 => kk _ H1 locs1 rfl ⟨hP, hD⟩ hS1)
theorem mG11 (C : mC p s m args c cc D cs) (V : mV D cs o ad A S H) (hdg : decode cc pc = .ok (.getfield 92, 3)) (kk : W p l e R s m args below meth c H locs cells slots Q (F0 m (pc + 3) ls (.ref (ad 11) :: rest))) : W p l e R s m args below meth c H locs cells slots Q (F0 m pc ls (.ref o :: rest)) := by
  obtain ⟨hx, hb, hown, hts, hK⟩ := C
  exact va_get (own := RX13) (C := RX13) (T := TX13) (N := 38) (ci := 10) hx hb hts tM_lay hown hK V.1 0 rfl rfl 11 (by decide) (hts _ tMf11) (fun _ h => h) rfl hdg kk
theorem mLd11 {i : Int32} (C : mC p s m args c cc D cs) (V : mV D cs o ad A S H) (hin : vp_in i 1920) (hdg : decode cc pc = .ok (.iaload, 1)) (kk : W p l e R s m args below meth c H locs cells slots Q (F0 m (pc + 1) ls (.int (gA S 11 i) :: rest))) : W p l e R s m args below meth c H locs cells slots Q (F0 m pc ls (.int i :: .ref (ad 11) :: rest)) := by
  obtain ⟨hx, hb, hown, hts, hK⟩ := C
  refine va_iald hx hb hK V.1 4 0 rfl rfl hin hdg ?_
  have hb9 := nI_back hin
  rw [hb9]; exact kk
theorem mSt11 {i : Int32} {x : Int32} (C : mC p s m args c cc D cs) (V : mV D cs o ad A S H) (hS : va_S A H0 H locs) (hin : vp_in i 1920) (hdg : decode cc pc = .ok (.iastore, 1)) (kk : ∀ (S1 : mS) (H1 : Heap) (locs1 : List Loc), S1 = sA S 11 i (x) → mV D cs o ad A S1 H1 → va_S A H0 H1 locs1 → W p l e R s m args below meth c H1 locs1 cells slots Q (F0 m (pc + 1) ls rest)) : W p l e R s m args below meth c H locs cells slots Q (F0 m pc ls (.int x :: .int i :: .ref (ad 11) :: rest)) := by
  obtain ⟨hx, hb, hown, hts, hK⟩ := C
  exact va_iast hx hb hK V.1 V.2 hS 4 0 rfl rfl hin hdg (fun H1 locs1 hP hD hS1 => kk _ H1 locs1 rfl ⟨mSwap (c2 := (cs.1, 1920, .inl (fun j => (sA S 11 i (x)).2.2.1 11 (nI j)))) hP (arr_eq (upd_nI hin (by decide))), V.2.set (p := 4) rfl⟩ hS1)
theorem mG12 (C : mC p s m args c cc D cs) (V : mV D cs o ad A S H) (hdg : decode cc pc = .ok (.getfield 95, 3)) (kk : W p l e R s m args below meth c H locs cells slots Q (F0 m (pc + 3) ls (.ref (ad 12) :: rest))) : W p l e R s m args below meth c H locs cells slots Q (F0 m pc ls (.ref o :: rest)) := by
  obtain ⟨hx, hb, hown, hts, hK⟩ := C
  exact va_get (own := RX13) (C := RX13) (T := TX13) (N := 38) (ci := 10) hx hb hts tM_lay hown hK V.1 0 rfl rfl 12 (by decide) (hts _ tMf12) (fun _ h => h) rfl hdg kk
theorem mLd12 {i : Int32} (C : mC p s m args c cc D cs) (V : mV D cs o ad A S H) (hin : vp_in i 8) (hdg : decode cc pc = .ok (.iaload, 1)) (kk : W p l e R s m args below meth c H locs cells slots Q (F0 m (pc + 1) ls (.int (gA S 12 i) :: rest))) : W p l e R s m args below meth c H locs cells slots Q (F0 m pc ls (.int i :: .ref (ad 12) :: rest)) := by
  obtain ⟨hx, hb, hown, hts, hK⟩ := C
  refine va_iald hx hb hK V.1 5 0 rfl rfl hin hdg ?_
  have hb9 := nI_back hin
  rw [hb9]; exact kk
theorem mSt12 {i : Int32} {x : Int32} (C : mC p s m args c cc D cs) (V : mV D cs o ad A S H) (hS : va_S A H0 H locs) (hin : vp_in i 8) (hdg : decode cc pc = .ok (.iastore, 1)) (kk : ∀ (S1 : mS) (H1 : Heap) (locs1 : List Loc), S1 = sA S 12 i (x) → mV D cs o ad A S1 H1 → va_S A H0 H1 locs1 → W p l e R s m args below meth c H1 locs1 cells slots Q (F0 m (pc + 1) ls rest)) : W p l e R s m args below meth c H locs cells slots Q (F0 m pc ls (.int x :: .int i :: .ref (ad 12) :: rest)) := by
  obtain ⟨hx, hb, hown, hts, hK⟩ := C
  exact va_iast hx hb hK V.1 V.2 hS 5 0 rfl rfl hin hdg (fun H1 locs1 hP hD hS1 => kk _ H1 locs1 rfl ⟨mSwap (c2 := (cs.1, 8, .inl (fun j => (sA S 12 i (x)).2.2.1 12 (nI j)))) hP (arr_eq (upd_nI hin (by decide))), V.2.set (p := 5) rfl⟩ hS1)
theorem mG13 (C : mC p s m args c cc D cs) (V : mV D cs o ad A S H) (hdg : decode cc pc = .ok (.getfield 98, 3)) (kk : W p l e R s m args below meth c H locs cells slots Q (F0 m (pc + 3) ls (.ref (ad 13) :: rest))) : W p l e R s m args below meth c H locs cells slots Q (F0 m pc ls (.ref o :: rest)) := by
  obtain ⟨hx, hb, hown, hts, hK⟩ := C
  exact va_get (own := RX13) (C := RX13) (T := TX13) (N := 38) (ci := 10) hx hb hts tM_lay hown hK V.1 0 rfl rfl 13 (by decide) (hts _ tMf13) (fun _ h => h) rfl hdg kk
theorem mLd13 {i : Int32} (C : mC p s m args c cc D cs) (V : mV D cs o ad A S H) (hin : vp_in i 8) (hdg : decode cc pc = .ok (.iaload, 1)) (kk : W p l e R s m args below meth c H locs cells slots Q (F0 m (pc + 1) ls (.int (gA S 13 i) :: rest))) : W p l e R s m args below meth c H locs cells slots Q (F0 m pc ls (.int i :: .ref (ad 13) :: rest)) := by
  obtain ⟨hx, hb, hown, hts, hK⟩ := C
  refine va_iald hx hb hK V.1 6 0 rfl rfl hin hdg ?_
  have hb9 := nI_back hin
  rw [hb9]; exact kk
theorem mSt13 {i : Int32} {x : Int32} (C : mC p s m args c cc D cs) (V : mV D cs o ad A S H) (hS : va_S A H0 H locs) (hin : vp_in i 8) (hdg : decode cc pc = .ok (.iastore, 1)) (kk : ∀ (S1 : mS) (H1 : Heap) (locs1 : List Loc), S1 = sA S 13 i (x) → mV D cs o ad A S1 H1 → va_S A H0 H1 locs1 → W p l e R s m args below meth c H1 locs1 cells slots Q (F0 m (pc + 1) ls rest)) : W p l e R s m args below meth c H locs cells slots Q (F0 m pc ls (.int x :: .int i :: .ref (ad 13) :: rest)) := by
  obtain ⟨hx, hb, hown, hts, hK⟩ := C
  exact va_iast hx hb hK V.1 V.2 hS 6 0 rfl rfl hin hdg (fun H1 locs1 hP hD hS1 => kk _ H1 locs1 rfl ⟨mSwap (c2 := (cs.1, 8, .inl (fun j => (sA S 13 i (x)).2.2.1 13 (nI j)))) hP (arr_eq (upd_nI hin (by decide))), V.2.set (p := 6) rfl⟩ hS1)
theorem mG14 (C : mC p s m args c cc D cs) (V : mV D cs o ad A S H) (hdg : decode cc pc = .ok (.getfield 101, 3)) (kk : W p l e R s m args below meth c H locs cells slots Q (F0 m (pc + 3) ls (.ref (ad 14) :: rest))) : W p l e R s m args below meth c H locs cells slots Q (F0 m pc ls (.ref o :: rest)) := by
  obtain ⟨hx, hb, hown, hts, hK⟩ := C
  exact va_get (own := RX13) (C := RX13) (T := TX13) (N := 38) (ci := 10) hx hb hts tM_lay hown hK V.1 0 rfl rfl 14 (by decide) (hts _ tMf14) (fun _ h => h) rfl hdg kk
theorem mLd14 {i : Int32} (C : mC p s m args c cc D cs) (V : mV D cs o ad A S H) (hin : vp_in i 8) (hdg : decode cc pc = .ok (.iaload, 1)) (kk : W p l e R s m args below meth c H locs cells slots Q (F0 m (pc + 1) ls (.int (gA S 14 i) :: rest))) : W p l e R s m args below meth c H locs cells slots Q (F0 m pc ls (.int i :: .ref (ad 14) :: rest)) := by
  obtain ⟨hx, hb, hown, hts, hK⟩ := C
  refine va_iald hx hb hK V.1 7 0 rfl rfl hin hdg ?_
  have hb9 := nI_back hin
  rw [hb9]; exact kk
theorem mSt14 {i : Int32} {x : Int32} (C : mC p s m args c cc D cs) (V : mV D cs o ad A S H) (hS : va_S A H0 H locs) (hin : vp_in i 8) (hdg : decode cc pc = .ok (.iastore, 1)) (kk : ∀ (S1 : mS) (H1 : Heap) (locs1 : List Loc), S1 = sA S 14 i (x) → mV D cs o ad A S1 H1 → va_S A H0 H1 locs1 → W p l e R s m args below meth c H1 locs1 cells slots Q (F0 m (pc + 1) ls rest)) : W p l e R s m args below meth c H locs cells slots Q (F0 m pc ls (.int x :: .int i :: .ref (ad 14) :: rest)) := by
  obtain ⟨hx, hb, hown, hts, hK⟩ := C
  exact va_iast hx hb hK V.1 V.2 hS 7 0 rfl rfl hin hdg (fun H1 locs1 hP hD hS1 => kk _ H1 locs1 rfl ⟨mSwap (c2 := (cs.1, 8, .inl (fun j => (sA S 14 i (x)).2.2.1 14 (nI j)))) hP (arr_eq (upd_nI hin (by decide))), V.2.set (p := 7) rfl⟩ hS1)
theorem mG15 (C : mC p s m args c cc D cs) (V : mV D cs o ad A S H) (hdg : decode cc pc = .ok (.getfield 104, 3)) (kk : W p l e R s m args below meth c H locs cells slots Q (F0 m (pc + 3) ls (.ref (ad 15) :: rest))) : W p l e R s m args below meth c H locs cells slots Q (F0 m pc ls (.ref o :: rest)) := by
  obtain ⟨hx, hb, hown, hts, hK⟩ := C
  exact va_get (own := RX13) (C := RX13) (T := TX13) (N := 38) (ci := 10) hx hb hts tM_lay hown hK V.1 0 rfl rfl 15 (by decide) (hts _ tMf15) (fun _ h => h) rfl hdg kk
theorem mLd15 {i : Int32} (C : mC p s m args c cc D cs) (V : mV D cs o ad A S H) (hin : vp_in i 8) (hdg : decode cc pc = .ok (.iaload, 1)) (kk : W p l e R s m args below meth c H locs cells slots Q (F0 m (pc + 1) ls (.int (gA S 15 i) :: rest))) : W p l e R s m args below meth c H locs cells slots Q (F0 m pc ls (.int i :: .ref (ad 15) :: rest)) := by
  obtain ⟨hx, hb, hown, hts, hK⟩ := C
  refine va_iald hx hb hK V.1 8 0 rfl rfl hin hdg ?_
  have hb9 := nI_back hin
  rw [hb9]; exact kk
theorem mSt15 {i : Int32} {x : Int32} (C : mC p s m args c cc D cs) (V : mV D cs o ad A S H) (hS : va_S A H0 H locs) (hin : vp_in i 8) (hdg : decode cc pc = .ok (.iastore, 1)) (kk : ∀ (S1 : mS) (H1 : Heap) (locs1 : List Loc), S1 = sA S 15 i (x) → mV D cs o ad A S1 H1 → va_S A H0 H1 locs1 → W p l e R s m args below meth c H1 locs1 cells slots Q (F0 m (pc + 1) ls rest)) : W p l e R s m args below meth c H locs cells slots Q (F0 m pc ls (.int x :: .int i :: .ref (ad 15) :: rest)) := by
  obtain ⟨hx, hb, hown, hts, hK⟩ := C
  exact va_iast hx hb hK V.1 V.2 hS 8 0 rfl rfl hin hdg (fun H1 locs1 hP hD hS1 => kk _ H1 locs1 rfl ⟨mSwap (c2 := (cs.1, 8, .inl (fun j => (sA S 15 i (x)).2.2.1 15 (nI j)))) hP (arr_eq (upd_nI hin (by decide))), V.2.set (p := 8) rfl⟩ hS1)
theorem mG16 (C : mC p s m args c cc D cs) (V : mV D cs o ad A S H) (hdg : decode cc pc = .ok (.getfield 107, 3)) (kk : W p l e R s m args below meth c H locs cells slots Q (F0 m (pc + 3) ls (.ref (ad 16) :: rest))) : W p l e R s m args below meth c H locs cells slots Q (F0 m pc ls (.ref o :: rest)) := by
  obtain ⟨hx, hb, hown, hts, hK⟩ := C
  exact va_get (own := RX13) (C := RX13) (T := TX13) (N := 38) (ci := 10) hx hb hts tM_lay hown hK V.1 0 rfl rfl 16 (by decide) (hts _ tMf16) (fun _ h => h) rfl hdg kk
theorem mLd16 {i : Int32} (C : mC p s m args c cc D cs) (V : mV D cs o ad A S H) (hin : vp_in i 8) (hdg : decode cc pc = .ok (.iaload, 1)) (kk : W p l e R s m args below meth c H locs cells slots Q (F0 m (pc + 1) ls (.int (gA S 16 i) :: rest))) : W p l e R s m args below meth c H locs cells slots Q (F0 m pc ls (.int i :: .ref (ad 16) :: rest)) := by
  obtain ⟨hx, hb, hown, hts, hK⟩ := C
  refine va_iald hx hb hK V.1 9 0 rfl rfl hin hdg ?_
  have hb9 := nI_back hin
  rw [hb9]; exact kk
theorem mSt16 {i : Int32} {x : Int32} (C : mC p s m args c cc D cs) (V : mV D cs o ad A S H) (hS : va_S A H0 H locs) (hin : vp_in i 8) (hdg : decode cc pc = .ok (.iastore, 1)) (kk : ∀ (S1 : mS) (H1 : Heap) (locs1 : List Loc), S1 = sA S 16 i (x) → mV D cs o ad A S1 H1 → va_S A H0 H1 locs1 → W p l e R s m args below meth c H1 locs1 cells slots Q (F0 m (pc + 1) ls rest)) : W p l e R s m args below meth c H locs cells slots Q (F0 m pc ls (.int x :: .int i :: .ref (ad 16) :: rest)) := by
  obtain ⟨hx, hb, hown, hts, hK⟩ := C
  exact va_iast hx hb hK V.1 V.2 hS 9 0 rfl rfl hin hdg (fun H1 locs1 hP hD hS1 => kk _ H1 locs1 rfl ⟨mSwap (c2 := (cs.1, 8, .inl (fun j => (sA S 16 i (x)).2.2.1 16 (nI j)))) hP (arr_eq (upd_nI hin (by decide))), V.2.set (p := 9) rfl⟩ hS1)
theorem mG17 (C : mC p s m args c cc D cs) (V : mV D cs o ad A S H) (hdg : decode cc pc = .ok (.getfield 110, 3)) (kk : W p l e R s m args below meth c H locs cells slots Q (F0 m (pc + 3) ls (.ref (ad 17) :: rest))) : W p l e R s m args below meth c H locs cells slots Q (F0 m pc ls (.ref o :: rest)) := by
  obtain ⟨hx, hb, hown, hts, hK⟩ := C
  exact va_get (own := RX13) (C := RX13) (T := TX13) (N := 38) (ci := 10) hx hb hts tM_lay hown hK V.1 0 rfl rfl 17 (by decide) (hts _ tMf17) (fun _ h => h) rfl hdg kk
theorem mLd17 {i : Int32} (C : mC p s m args c cc D cs) (V : mV D cs o ad A S H) (hin : vp_in i 8) (hdg : decode cc pc = .ok (.iaload, 1)) (kk : W p l e R s m args below meth c H locs cells slots Q (F0 m (pc + 1) ls (.int (gA S 17 i) :: rest))) : W p l e R s m args below meth c H locs cells slots Q (F0 m pc ls (.int i :: .ref (ad 17) :: rest)) := by
  obtain ⟨hx, hb, hown, hts, hK⟩ := C
  refine va_iald hx hb hK V.1 10 0 rfl rfl hin hdg ?_
  have hb9 := nI_back hin
  rw [hb9]; exact kk
theorem mSt17 {i : Int32} {x : Int32} (C : mC p s m args c cc D cs) (V : mV D cs o ad A S H) (hS : va_S A H0 H locs) (hin : vp_in i 8) (hdg : decode cc pc = .ok (.iastore, 1)) (kk : ∀ (S1 : mS) (H1 : Heap) (locs1 : List Loc), S1 = sA S 17 i (x) → mV D cs o ad A S1 H1 → va_S A H0 H1 locs1 → W p l e R s m args below meth c H1 locs1 cells slots Q (F0 m (pc + 1) ls rest)) : W p l e R s m args below meth c H locs cells slots Q (F0 m pc ls (.int x :: .int i :: .ref (ad 17) :: rest)) := by
  obtain ⟨hx, hb, hown, hts, hK⟩ := C
  exact va_iast hx hb hK V.1 V.2 hS 10 0 rfl rfl hin hdg (fun H1 locs1 hP hD hS1 => kk _ H1 locs1 rfl ⟨mSwap (c2 := (cs.1, 8, .inl (fun j => (sA S 17 i (x)).2.2.1 17 (nI j)))) hP (arr_eq (upd_nI hin (by decide))), V.2.set (p := 10) rfl⟩ hS1)
theorem mG18 (C : mC p s m args c cc D cs) (V : mV D cs o ad A S H) (hdg : decode cc pc = .ok (.getfield 113, 3)) (kk : W p l e R s m args below meth c H locs cells slots Q (F0 m (pc + 3) ls (.ref (ad 18) :: rest))) : W p l e R s m args below meth c H locs cells slots Q (F0 m pc ls (.ref o :: rest)) := by
  obtain ⟨hx, hb, hown, hts, hK⟩ := C
  exact va_get (own := RX13) (C := RX13) (T := TX13) (N := 38) (ci := 10) hx hb hts tM_lay hown hK V.1 0 rfl rfl 18 (by decide) (hts _ tMf18) (fun _ h => h) rfl hdg kk
theorem mLd18 {i : Int32} (C : mC p s m args c cc D cs) (V : mV D cs o ad A S H) (hin : vp_in i 8) (hdg : decode cc pc = .ok (.iaload, 1)) (kk : W p l e R s m args below meth c H locs cells slots Q (F0 m (pc + 1) ls (.int (gA S 18 i) :: rest))) : W p l e R s m args below meth c H locs cells slots Q (F0 m pc ls (.int i :: .ref (ad 18) :: rest)) := by
  obtain ⟨hx, hb, hown, hts, hK⟩ := C
  refine va_iald hx hb hK V.1 11 0 rfl rfl hin hdg ?_
  have hb9 := nI_back hin
  rw [hb9]; exact kk
theorem mSt18 {i : Int32} {x : Int32} (C : mC p s m args c cc D cs) (V : mV D cs o ad A S H) (hS : va_S A H0 H locs) (hin : vp_in i 8) (hdg : decode cc pc = .ok (.iastore, 1)) (kk : ∀ (S1 : mS) (H1 : Heap) (locs1 : List Loc), S1 = sA S 18 i (x) → mV D cs o ad A S1 H1 → va_S A H0 H1 locs1 → W p l e R s m args below meth c H1 locs1 cells slots Q (F0 m (pc + 1) ls rest)) : W p l e R s m args below meth c H locs cells slots Q (F0 m pc ls (.int x :: .int i :: .ref (ad 18) :: rest)) := by
  obtain ⟨hx, hb, hown, hts, hK⟩ := C
  exact va_iast hx hb hK V.1 V.2 hS 11 0 rfl rfl hin hdg (fun H1 locs1 hP hD hS1 => kk _ H1 locs1 rfl ⟨mSwap (c2 := (cs.1, 8, .inl (fun j => (sA S 18 i (x)).2.2.1 18 (nI j)))) hP (arr_eq (upd_nI hin (by decide))), V.2.set (p := 11) rfl⟩ hS1)
theorem mG19 (C : mC p s m args c cc D cs) (V : mV D cs o ad A S H) (hdg : decode cc pc = .ok (.getfield 116, 3)) (kk : W p l e R s m args below meth c H locs cells slots Q (F0 m (pc + 3) ls (.ref (ad 19) :: rest))) : W p l e R s m args below meth c H locs cells slots Q (F0 m pc ls (.ref o :: rest)) := by
  obtain ⟨hx, hb, hown, hts, hK⟩ := C
  exact va_get (own := RX13) (C := RX13) (T := TX13) (N := 38) (ci := 10) hx hb hts tM_lay hown hK V.1 0 rfl rfl 19 (by decide) (hts _ tMf19) (fun _ h => h) rfl hdg kk
theorem mLd19 {i : Int32} (C : mC p s m args c cc D cs) (V : mV D cs o ad A S H) (hin : vp_in i 8) (hdg : decode cc pc = .ok (.iaload, 1)) (kk : W p l e R s m args below meth c H locs cells slots Q (F0 m (pc + 1) ls (.int (gA S 19 i) :: rest))) : W p l e R s m args below meth c H locs cells slots Q (F0 m pc ls (.int i :: .ref (ad 19) :: rest)) := by
  obtain ⟨hx, hb, hown, hts, hK⟩ := C
  refine va_iald hx hb hK V.1 12 0 rfl rfl hin hdg ?_
  have hb9 := nI_back hin
  rw [hb9]; exact kk
theorem mSt19 {i : Int32} {x : Int32} (C : mC p s m args c cc D cs) (V : mV D cs o ad A S H) (hS : va_S A H0 H locs) (hin : vp_in i 8) (hdg : decode cc pc = .ok (.iastore, 1)) (kk : ∀ (S1 : mS) (H1 : Heap) (locs1 : List Loc), S1 = sA S 19 i (x) → mV D cs o ad A S1 H1 → va_S A H0 H1 locs1 → W p l e R s m args below meth c H1 locs1 cells slots Q (F0 m (pc + 1) ls rest)) : W p l e R s m args below meth c H locs cells slots Q (F0 m pc ls (.int x :: .int i :: .ref (ad 19) :: rest)) := by
  obtain ⟨hx, hb, hown, hts, hK⟩ := C
  exact va_iast hx hb hK V.1 V.2 hS 12 0 rfl rfl hin hdg (fun H1 locs1 hP hD hS1 => kk _ H1 locs1 rfl ⟨mSwap (c2 := (cs.1, 8, .inl (fun j => (sA S 19 i (x)).2.2.1 19 (nI j)))) hP (arr_eq (upd_nI hin (by decide))), V.2.set (p := 12) rfl⟩ hS1)
theorem mG20 (C : mC p s m args c cc D cs) (V : mV D cs o ad A S H) (hdg : decode cc pc = .ok (.getfield 119, 3)) (kk : W p l e R s m args below meth c H locs cells slots Q (F0 m (pc + 3) ls (.ref (ad 20) :: rest))) : W p l e R s m args below meth c H locs cells slots Q (F0 m pc ls (.ref o :: rest)) := by
  obtain ⟨hx, hb, hown, hts, hK⟩ := C
  exact va_get (own := RX13) (C := RX13) (T := TX13) (N := 38) (ci := 10) hx hb hts tM_lay hown hK V.1 0 rfl rfl 20 (by decide) (hts _ tMf20) (fun _ h => h) rfl hdg kk
theorem mLd20 {i : Int32} (C : mC p s m args c cc D cs) (V : mV D cs o ad A S H) (hin : vp_in i 8) (hdg : decode cc pc = .ok (.baload, 1)) (kk : W p l e R s m args below meth c H locs cells slots Q (F0 m (pc + 1) ls (.int (gA S 20 i) :: rest))) : W p l e R s m args below meth c H locs cells slots Q (F0 m pc ls (.int i :: .ref (ad 20) :: rest)) := by
  obtain ⟨hx, hb, hown, hts, hK⟩ := C
  refine va_zald hx hb hK V.1 13 2 rfl rfl hin hdg ?_
  have hb9 := nI_back hin
  rw [hb9]; exact kk
theorem mSt20 {i : Int32} {x : Int32} (C : mC p s m args c cc D cs) (V : mV D cs o ad A S H) (hS : va_S A H0 H locs) (hin : vp_in i 8) (hdg : decode cc pc = .ok (.bastore, 1)) (kk : ∀ (S1 : mS) (H1 : Heap) (locs1 : List Loc), S1 = sA S 20 i (vp_nar .boolean x) → mV D cs o ad A S1 H1 → va_S A H0 H1 locs1 → W p l e R s m args below meth c H1 locs1 cells slots Q (F0 m (pc + 1) ls rest)) : W p l e R s m args below meth c H locs cells slots Q (F0 m pc ls (.int x :: .int i :: .ref (ad 20) :: rest)) := by
  obtain ⟨hx, hb, hown, hts, hK⟩ := C
  exact va_zast hx hb hK V.1 V.2 hS 13 2 rfl rfl hin hdg (fun H1 locs1 hP hD hS1 => kk _ H1 locs1 rfl ⟨mSwap (c2 := (cs.2.2, 8, .inl (fun j => (sA S 20 i (vp_nar .boolean x)).2.2.1 20 (nI j)))) hP (arr_eq (upd_nI hin (by decide))), V.2.set (p := 13) rfl⟩ hS1)
theorem mG21 (C : mC p s m args c cc D cs) (V : mV D cs o ad A S H) (hdg : decode cc pc = .ok (.getfield 123, 3)) (kk : W p l e R s m args below meth c H locs cells slots Q (F0 m (pc + 3) ls (.ref (ad 21) :: rest))) : W p l e R s m args below meth c H locs cells slots Q (F0 m pc ls (.ref o :: rest)) := by
  obtain ⟨hx, hb, hown, hts, hK⟩ := C
  exact va_get (own := RX13) (C := RX13) (T := TX13) (N := 38) (ci := 10) hx hb hts tM_lay hown hK V.1 0 rfl rfl 21 (by decide) (hts _ tMf21) (fun _ h => h) rfl hdg kk
theorem mLd21 {i : Int32} (C : mC p s m args c cc D cs) (V : mV D cs o ad A S H) (hin : vp_in i 8) (hdg : decode cc pc = .ok (.baload, 1)) (kk : W p l e R s m args below meth c H locs cells slots Q (F0 m (pc + 1) ls (.int (gA S 21 i) :: rest))) : W p l e R s m args below meth c H locs cells slots Q (F0 m pc ls (.int i :: .ref (ad 21) :: rest)) := by
  obtain ⟨hx, hb, hown, hts, hK⟩ := C
  refine va_zald hx hb hK V.1 14 2 rfl rfl hin hdg ?_
  have hb9 := nI_back hin
  rw [hb9]; exact kk
theorem mSt21 {i : Int32} {x : Int32} (C : mC p s m args c cc D cs) (V : mV D cs o ad A S H) (hS : va_S A H0 H locs) (hin : vp_in i 8) (hdg : decode cc pc = .ok (.bastore, 1)) (kk : ∀ (S1 : mS) (H1 : Heap) (locs1 : List Loc), S1 = sA S 21 i (vp_nar .boolean x) → mV D cs o ad A S1 H1 → va_S A H0 H1 locs1 → W p l e R s m args below meth c H1 locs1 cells slots Q (F0 m (pc + 1) ls rest)) : W p l e R s m args below meth c H locs cells slots Q (F0 m pc ls (.int x :: .int i :: .ref (ad 21) :: rest)) := by
  obtain ⟨hx, hb, hown, hts, hK⟩ := C
  exact va_zast hx hb hK V.1 V.2 hS 14 2 rfl rfl hin hdg (fun H1 locs1 hP hD hS1 => kk _ H1 locs1 rfl ⟨mSwap (c2 := (cs.2.2, 8, .inl (fun j => (sA S 21 i (vp_nar .boolean x)).2.2.1 21 (nI j)))) hP (arr_eq (upd_nI hin (by decide))), V.2.set (p := 14) rfl⟩ hS1)
theorem mG22 (C : mC p s m args c cc D cs) (V : mV D cs o ad A S H) (hdg : decode cc pc = .ok (.getfield 126, 3)) (kk : W p l e R s m args below meth c H locs cells slots Q (F0 m (pc + 3) ls (.ref (ad 22) :: rest))) : W p l e R s m args below meth c H locs cells slots Q (F0 m pc ls (.ref o :: rest)) := by
  obtain ⟨hx, hb, hown, hts, hK⟩ := C
  exact va_get (own := RX13) (C := RX13) (T := TX13) (N := 38) (ci := 10) hx hb hts tM_lay hown hK V.1 0 rfl rfl 22 (by decide) (hts _ tMf22) (fun _ h => h) rfl hdg kk
theorem mLd22 {i : Int32} (C : mC p s m args c cc D cs) (V : mV D cs o ad A S H) (hin : vp_in i 8) (hdg : decode cc pc = .ok (.baload, 1)) (kk : W p l e R s m args below meth c H locs cells slots Q (F0 m (pc + 1) ls (.int (gA S 22 i) :: rest))) : W p l e R s m args below meth c H locs cells slots Q (F0 m pc ls (.int i :: .ref (ad 22) :: rest)) := by
  obtain ⟨hx, hb, hown, hts, hK⟩ := C
  refine va_zald hx hb hK V.1 15 2 rfl rfl hin hdg ?_
  have hb9 := nI_back hin
  rw [hb9]; exact kk
theorem mSt22 {i : Int32} {x : Int32} (C : mC p s m args c cc D cs) (V : mV D cs o ad A S H) (hS : va_S A H0 H locs) (hin : vp_in i 8) (hdg : decode cc pc = .ok (.bastore, 1)) (kk : ∀ (S1 : mS) (H1 : Heap) (locs1 : List Loc), S1 = sA S 22 i (vp_nar .boolean x) → mV D cs o ad A S1 H1 → va_S A H0 H1 locs1 → W p l e R s m args below meth c H1 locs1 cells slots Q (F0 m (pc + 1) ls rest)) : W p l e R s m args below meth c H locs cells slots Q (F0 m pc ls (.int x :: .int i :: .ref (ad 22) :: rest)) := by
  obtain ⟨hx, hb, hown, hts, hK⟩ := C
  exact va_zast hx hb hK V.1 V.2 hS 15 2 rfl rfl hin hdg (fun H1 locs1 hP hD hS1 => kk _ H1 locs1 rfl ⟨mSwap (c2 := (cs.2.2, 8, .inl (fun j => (sA S 22 i (vp_nar .boolean x)).2.2.1 22 (nI j)))) hP (arr_eq (upd_nI hin (by decide))), V.2.set (p := 15) rfl⟩ hS1)
theorem mG23 (C : mC p s m args c cc D cs) (V : mV D cs o ad A S H) (hdg : decode cc pc = .ok (.getfield 129, 3)) (kk : W p l e R s m args below meth c H locs cells slots Q (F0 m (pc + 3) ls (.ref (ad 23) :: rest))) : W p l e R s m args below meth c H locs cells slots Q (F0 m pc ls (.ref o :: rest)) := by
  obtain ⟨hx, hb, hown, hts, hK⟩ := C
  exact va_get (own := RX13) (C := RX13) (T := TX13) (N := 38) (ci := 10) hx hb hts tM_lay hown hK V.1 0 rfl rfl 23 (by decide) (hts _ tMf23) (fun _ h => h) rfl hdg kk
theorem mLd23 {i : Int32} (C : mC p s m args c cc D cs) (V : mV D cs o ad A S H) (hin : vp_in i 8) (hdg : decode cc pc = .ok (.laload, 1)) (kk : W p l e R s m args below meth c H locs cells slots Q (F0 m (pc + 1) ls (.long (gL S 23 i) :: rest))) : W p l e R s m args below meth c H locs cells slots Q (F0 m pc ls (.int i :: .ref (ad 23) :: rest)) := by
  obtain ⟨hx, hb, hown, hts, hK⟩ := C
  refine va_lald hx hb hK V.1 16 1 rfl rfl hin hdg ?_
  have hb9 := nI_back hin
  rw [hb9]; exact kk
theorem mSt23 {i : Int32} {x : Int64} (C : mC p s m args c cc D cs) (V : mV D cs o ad A S H) (hS : va_S A H0 H locs) (hin : vp_in i 8) (hdg : decode cc pc = .ok (.lastore, 1)) (kk : ∀ (S1 : mS) (H1 : Heap) (locs1 : List Loc), S1 = sL S 23 i (x) → mV D cs o ad A S1 H1 → va_S A H0 H1 locs1 → W p l e R s m args below meth c H1 locs1 cells slots Q (F0 m (pc + 1) ls rest)) : W p l e R s m args below meth c H locs cells slots Q (F0 m pc ls (.long x :: .int i :: .ref (ad 23) :: rest)) := by
  obtain ⟨hx, hb, hown, hts, hK⟩ := C
  exact va_last hx hb hK V.1 V.2 hS 16 1 rfl rfl hin hdg (fun H1 locs1 hP hD hS1 => kk _ H1 locs1 rfl ⟨mSwap (c2 := (cs.2.1, 8, .inr (.inl (fun j => (sL S 23 i x).2.2.2 23 (nI j))))) hP (arr_eqL (updL_nI hin (by decide))), V.2.set (p := 16) rfl⟩ hS1)
theorem mG24 (C : mC p s m args c cc D cs) (V : mV D cs o ad A S H) (hdg : decode cc pc = .ok (.getfield 255, 3)) (kk : W p l e R s m args below meth c H locs cells slots Q (F0 m (pc + 3) ls (.long (gJ S 24) :: rest))) : W p l e R s m args below meth c H locs cells slots Q (F0 m pc ls (.ref o :: rest)) := by
  obtain ⟨hx, hb, hown, hts, hK⟩ := C
  exact va_get (own := RX13) (C := RX13) (T := TX13) (N := 38) (ci := 10) hx hb hts tM_lay hown hK V.1 0 rfl rfl 24 (by decide) (hts _ tMf24) (fun _ h => h) rfl hdg kk
theorem mP24 {x : Int64} (C : mC p s m args c cc D cs) (V : mV D cs o ad A S H) (hS : va_S A H0 H locs) (hdg : decode cc pc = .ok (.putfield 255, 3)) (kk : ∀ (S1 : mS) (H1 : Heap) (locs1 : List Loc), S1 = sJ S 24 x → mV D cs o ad A S1 H1 → va_S A H0 H1 locs1 → W p l e R s m args below meth c H1 locs1 cells slots Q (F0 m (pc + 3) ls rest)) : W p l e R s m args below meth c H locs cells slots Q (F0 m pc ls (.long x :: .ref o :: rest)) := by
  obtain ⟨hx, hb, hown, hts, hK⟩ := C
  exact va_put (own := RX13) (C := RX13) (T := TX13) (N := 38) (ci := 10) (ty := .long) hx hb hts tM_lay tyX13 tyX13_ok nmX13 hown hK V.1 V.2 hS 0 rfl rfl 24 (by decide) (hts _ tMf24) (fun _ h => h) rfl (by decide +kernel) rfl rfl (Nat.le_of_ble_eq_true rfl) hdg (fun H1 locs1 hP hD hS1 => kk _ H1 locs1 rfl ⟨hP, hD⟩ hS1)
theorem mG25 (C : mC p s m args c cc D cs) (V : mV D cs o ad A S H) (hdg : decode cc pc = .ok (.getfield 245, 3)) (kk : W p l e R s m args below meth c H locs cells slots Q (F0 m (pc + 3) ls (.long (gJ S 25) :: rest))) : W p l e R s m args below meth c H locs cells slots Q (F0 m pc ls (.ref o :: rest)) := by
  obtain ⟨hx, hb, hown, hts, hK⟩ := C
  exact va_get (own := RX13) (C := RX13) (T := TX13) (N := 38) (ci := 10) hx hb hts tM_lay hown hK V.1 0 rfl rfl 25 (by decide) (hts _ tMf25) (fun _ h => h) rfl hdg kk
theorem mP25 {x : Int64} (C : mC p s m args c cc D cs) (V : mV D cs o ad A S H) (hS : va_S A H0 H locs) (hdg : decode cc pc = .ok (.putfield 245, 3)) (kk : ∀ (S1 : mS) (H1 : Heap) (locs1 : List Loc), S1 = sJ S 25 x → mV D cs o ad A S1 H1 → va_S A H0 H1 locs1 → W p l e R s m args below meth c H1 locs1 cells slots Q (F0 m (pc + 3) ls rest)) : W p l e R s m args below meth c H locs cells slots Q (F0 m pc ls (.long x :: .ref o :: rest)) := by
  obtain ⟨hx, hb, hown, hts, hK⟩ := C
  exact va_put (own := RX13) (C := RX13) (T := TX13) (N := 38) (ci := 10) (ty := .long) hx hb hts tM_lay tyX13 tyX13_ok nmX13 hown hK V.1 V.2 hS 0 rfl rfl 25 (by decide) (hts _ tMf25) (fun _ h => h) rfl (by decide +kernel) rfl rfl (Nat.le_of_ble_eq_true rfl) hdg (fun H1 locs1 hP hD hS1 => kk _ H1 locs1 rfl ⟨hP, hD⟩ hS1)
theorem mG26 (C : mC p s m args c cc D cs) (V : mV D cs o ad A S H) (hdg : decode cc pc = .ok (.getfield 132, 3)) (kk : W p l e R s m args below meth c H locs cells slots Q (F0 m (pc + 3) ls (.int (gI S 26) :: rest))) : W p l e R s m args below meth c H locs cells slots Q (F0 m pc ls (.ref o :: rest)) := by
  obtain ⟨hx, hb, hown, hts, hK⟩ := C
  exact va_get (own := RX13) (C := RX13) (T := TX13) (N := 38) (ci := 10) hx hb hts tM_lay hown hK V.1 0 rfl rfl 26 (by decide) (hts _ tMf26) (fun _ h => h) rfl hdg kk
theorem mP26 {x : Int32} (C : mC p s m args c cc D cs) (V : mV D cs o ad A S H) (hS : va_S A H0 H locs) (hdg : decode cc pc = .ok (.putfield 132, 3)) (kk : ∀ (S1 : mS) (H1 : Heap) (locs1 : List Loc), S1 = sI S 26 x → mV D cs o ad A S1 H1 → va_S A H0 H1 locs1 → W p l e R s m args below meth c H1 locs1 cells slots Q (F0 m (pc + 3) ls rest)) : W p l e R s m args below meth c H locs cells slots Q (F0 m pc ls (.int x :: .ref o :: rest)) := by
  obtain ⟨hx, hb, hown, hts, hK⟩ := C
  exact va_put (own := RX13) (C := RX13) (T := TX13) (N := 38) (ci := 10) (ty := .int) hx hb hts tM_lay tyX13 tyX13_ok nmX13 hown hK V.1 V.2 hS 0 rfl rfl 26 (by decide) (hts _ tMf26) (fun _ h => h) rfl (by decide +kernel) rfl rfl (Nat.le_of_ble_eq_true rfl) hdg (fun H1 locs1 hP hD hS1 => kk _ H1 locs1 rfl ⟨hP, hD⟩ hS1)
theorem mG27 (C : mC p s m args c cc D cs) (V : mV D cs o ad A S H) (hdg : decode cc pc = .ok (.getfield 301, 3)) (kk : W p l e R s m args below meth c H locs cells slots Q (F0 m (pc + 3) ls (.int (gI S 27) :: rest))) : W p l e R s m args below meth c H locs cells slots Q (F0 m pc ls (.ref o :: rest)) := by
  obtain ⟨hx, hb, hown, hts, hK⟩ := C
  exact va_get (own := RX13) (C := RX13) (T := TX13) (N := 38) (ci := 10) hx hb hts tM_lay hown hK V.1 0 rfl rfl 27 (by decide) (hts _ tMf27) (fun _ h => h) rfl hdg kk
theorem mP27 {x : Int32} (C : mC p s m args c cc D cs) (V : mV D cs o ad A S H) (hS : va_S A H0 H locs) (hdg : decode cc pc = .ok (.putfield 301, 3)) (kk : ∀ (S1 : mS) (H1 : Heap) (locs1 : List Loc), S1 = sI S 27 x → mV D cs o ad A S1 H1 → va_S A H0 H1 locs1 → W p l e R s m args below meth c H1 locs1 cells slots Q (F0 m (pc + 3) ls rest)) : W p l e R s m args below meth c H locs cells slots Q (F0 m pc ls (.int x :: .ref o :: rest)) := by
  obtain ⟨hx, hb, hown, hts, hK⟩ := C
  exact va_put (own := RX13) (C := RX13) (T := TX13) (N := 38) (ci := 10) (ty := .int) hx hb hts tM_lay tyX13 tyX13_ok nmX13 hown hK V.1 V.2 hS 0 rfl rfl 27 (by decide) (hts _ tMf27) (fun _ h => h) rfl (by decide +kernel) rfl rfl (Nat.le_of_ble_eq_true rfl) hdg (fun H1 locs1 hP hD hS1 => kk _ H1 locs1 rfl ⟨hP, hD⟩ hS1)
theorem mG28 (C : mC p s m args c cc D cs) (V : mV D cs o ad A S H) (hdg : decode cc pc = .ok (.getfield 135, 3)) (kk : W p l e R s m args below meth c H locs cells slots Q (F0 m (pc + 3) ls (.ref (ad 28) :: rest))) : W p l e R s m args below meth c H locs cells slots Q (F0 m pc ls (.ref o :: rest)) := by
  obtain ⟨hx, hb, hown, hts, hK⟩ := C
  exact va_get (own := RX13) (C := RX13) (T := TX13) (N := 38) (ci := 10) hx hb hts tM_lay hown hK V.1 0 rfl rfl 28 (by decide) (hts _ tMf28) (fun _ h => h) rfl hdg kk
theorem mLd28 {i : Int32} (C : mC p s m args c cc D cs) (V : mV D cs o ad A S H) (hin : vp_in i 24) (hdg : decode cc pc = .ok (.iaload, 1)) (kk : W p l e R s m args below meth c H locs cells slots Q (F0 m (pc + 1) ls (.int (gA S 28 i) :: rest))) : W p l e R s m args below meth c H locs cells slots Q (F0 m pc ls (.int i :: .ref (ad 28) :: rest)) := by
  obtain ⟨hx, hb, hown, hts, hK⟩ := C
  refine va_iald hx hb hK V.1 17 0 rfl rfl hin hdg ?_
  have hb9 := nI_back hin
  rw [hb9]; exact kk
theorem mSt28 {i : Int32} {x : Int32} (C : mC p s m args c cc D cs) (V : mV D cs o ad A S H) (hS : va_S A H0 H locs) (hin : vp_in i 24) (hdg : decode cc pc = .ok (.iastore, 1)) (kk : ∀ (S1 : mS) (H1 : Heap) (locs1 : List Loc), S1 = sA S 28 i (x) → mV D cs o ad A S1 H1 → va_S A H0 H1 locs1 → W p l e R s m args below meth c H1 locs1 cells slots Q (F0 m (pc + 1) ls rest)) : W p l e R s m args below meth c H locs cells slots Q (F0 m pc ls (.int x :: .int i :: .ref (ad 28) :: rest)) := by
  obtain ⟨hx, hb, hown, hts, hK⟩ := C
  exact va_iast hx hb hK V.1 V.2 hS 17 0 rfl rfl hin hdg (fun H1 locs1 hP hD hS1 => kk _ H1 locs1 rfl ⟨mSwap (c2 := (cs.1, 24, .inl (fun j => (sA S 28 i (x)).2.2.1 28 (nI j)))) hP (arr_eq (upd_nI hin (by decide))), V.2.set (p := 17) rfl⟩ hS1)
theorem mG29 (C : mC p s m args c cc D cs) (V : mV D cs o ad A S H) (hdg : decode cc pc = .ok (.getfield 138, 3)) (kk : W p l e R s m args below meth c H locs cells slots Q (F0 m (pc + 3) ls (.ref (ad 29) :: rest))) : W p l e R s m args below meth c H locs cells slots Q (F0 m pc ls (.ref o :: rest)) := by
  obtain ⟨hx, hb, hown, hts, hK⟩ := C
  exact va_get (own := RX13) (C := RX13) (T := TX13) (N := 38) (ci := 10) hx hb hts tM_lay hown hK V.1 0 rfl rfl 29 (by decide) (hts _ tMf29) (fun _ h => h) rfl hdg kk
theorem mLd29 {i : Int32} (C : mC p s m args c cc D cs) (V : mV D cs o ad A S H) (hin : vp_in i 24) (hdg : decode cc pc = .ok (.iaload, 1)) (kk : W p l e R s m args below meth c H locs cells slots Q (F0 m (pc + 1) ls (.int (gA S 29 i) :: rest))) : W p l e R s m args below meth c H locs cells slots Q (F0 m pc ls (.int i :: .ref (ad 29) :: rest)) := by
  obtain ⟨hx, hb, hown, hts, hK⟩ := C
  refine va_iald hx hb hK V.1 18 0 rfl rfl hin hdg ?_
  have hb9 := nI_back hin
  rw [hb9]; exact kk
theorem mSt29 {i : Int32} {x : Int32} (C : mC p s m args c cc D cs) (V : mV D cs o ad A S H) (hS : va_S A H0 H locs) (hin : vp_in i 24) (hdg : decode cc pc = .ok (.iastore, 1)) (kk : ∀ (S1 : mS) (H1 : Heap) (locs1 : List Loc), S1 = sA S 29 i (x) → mV D cs o ad A S1 H1 → va_S A H0 H1 locs1 → W p l e R s m args below meth c H1 locs1 cells slots Q (F0 m (pc + 1) ls rest)) : W p l e R s m args below meth c H locs cells slots Q (F0 m pc ls (.int x :: .int i :: .ref (ad 29) :: rest)) := by
  obtain ⟨hx, hb, hown, hts, hK⟩ := C
  exact va_iast hx hb hK V.1 V.2 hS 18 0 rfl rfl hin hdg (fun H1 locs1 hP hD hS1 => kk _ H1 locs1 rfl ⟨mSwap (c2 := (cs.1, 24, .inl (fun j => (sA S 29 i (x)).2.2.1 29 (nI j)))) hP (arr_eq (upd_nI hin (by decide))), V.2.set (p := 18) rfl⟩ hS1)
theorem mG30 (C : mC p s m args c cc D cs) (V : mV D cs o ad A S H) (hdg : decode cc pc = .ok (.getfield 141, 3)) (kk : W p l e R s m args below meth c H locs cells slots Q (F0 m (pc + 3) ls (.ref (ad 30) :: rest))) : W p l e R s m args below meth c H locs cells slots Q (F0 m pc ls (.ref o :: rest)) := by
  obtain ⟨hx, hb, hown, hts, hK⟩ := C
  exact va_get (own := RX13) (C := RX13) (T := TX13) (N := 38) (ci := 10) hx hb hts tM_lay hown hK V.1 0 rfl rfl 30 (by decide) (hts _ tMf30) (fun _ h => h) rfl hdg kk
theorem mLd30 {i : Int32} (C : mC p s m args c cc D cs) (V : mV D cs o ad A S H) (hin : vp_in i 24) (hdg : decode cc pc = .ok (.iaload, 1)) (kk : W p l e R s m args below meth c H locs cells slots Q (F0 m (pc + 1) ls (.int (gA S 30 i) :: rest))) : W p l e R s m args below meth c H locs cells slots Q (F0 m pc ls (.int i :: .ref (ad 30) :: rest)) := by
  obtain ⟨hx, hb, hown, hts, hK⟩ := C
  refine va_iald hx hb hK V.1 19 0 rfl rfl hin hdg ?_
  have hb9 := nI_back hin
  rw [hb9]; exact kk
theorem mSt30 {i : Int32} {x : Int32} (C : mC p s m args c cc D cs) (V : mV D cs o ad A S H) (hS : va_S A H0 H locs) (hin : vp_in i 24) (hdg : decode cc pc = .ok (.iastore, 1)) (kk : ∀ (S1 : mS) (H1 : Heap) (locs1 : List Loc), S1 = sA S 30 i (x) → mV D cs o ad A S1 H1 → va_S A H0 H1 locs1 → W p l e R s m args below meth c H1 locs1 cells slots Q (F0 m (pc + 1) ls rest)) : W p l e R s m args below meth c H locs cells slots Q (F0 m pc ls (.int x :: .int i :: .ref (ad 30) :: rest)) := by
  obtain ⟨hx, hb, hown, hts, hK⟩ := C
  exact va_iast hx hb hK V.1 V.2 hS 19 0 rfl rfl hin hdg (fun H1 locs1 hP hD hS1 => kk _ H1 locs1 rfl ⟨mSwap (c2 := (cs.1, 24, .inl (fun j => (sA S 30 i (x)).2.2.1 30 (nI j)))) hP (arr_eq (upd_nI hin (by decide))), V.2.set (p := 19) rfl⟩ hS1)
theorem mG31 (C : mC p s m args c cc D cs) (V : mV D cs o ad A S H) (hdg : decode cc pc = .ok (.getfield 144, 3)) (kk : W p l e R s m args below meth c H locs cells slots Q (F0 m (pc + 3) ls (.ref (ad 31) :: rest))) : W p l e R s m args below meth c H locs cells slots Q (F0 m pc ls (.ref o :: rest)) := by
  obtain ⟨hx, hb, hown, hts, hK⟩ := C
  exact va_get (own := RX13) (C := RX13) (T := TX13) (N := 38) (ci := 10) hx hb hts tM_lay hown hK V.1 0 rfl rfl 31 (by decide) (hts _ tMf31) (fun _ h => h) rfl hdg kk
theorem mLd31 {i : Int32} (C : mC p s m args c cc D cs) (V : mV D cs o ad A S H) (hin : vp_in i 24) (hdg : decode cc pc = .ok (.iaload, 1)) (kk : W p l e R s m args below meth c H locs cells slots Q (F0 m (pc + 1) ls (.int (gA S 31 i) :: rest))) : W p l e R s m args below meth c H locs cells slots Q (F0 m pc ls (.int i :: .ref (ad 31) :: rest)) := by
  obtain ⟨hx, hb, hown, hts, hK⟩ := C
  refine va_iald hx hb hK V.1 20 0 rfl rfl hin hdg ?_
  have hb9 := nI_back hin
  rw [hb9]; exact kk
theorem mSt31 {i : Int32} {x : Int32} (C : mC p s m args c cc D cs) (V : mV D cs o ad A S H) (hS : va_S A H0 H locs) (hin : vp_in i 24) (hdg : decode cc pc = .ok (.iastore, 1)) (kk : ∀ (S1 : mS) (H1 : Heap) (locs1 : List Loc), S1 = sA S 31 i (x) → mV D cs o ad A S1 H1 → va_S A H0 H1 locs1 → W p l e R s m args below meth c H1 locs1 cells slots Q (F0 m (pc + 1) ls rest)) : W p l e R s m args below meth c H locs cells slots Q (F0 m pc ls (.int x :: .int i :: .ref (ad 31) :: rest)) := by
  obtain ⟨hx, hb, hown, hts, hK⟩ := C
  exact va_iast hx hb hK V.1 V.2 hS 20 0 rfl rfl hin hdg (fun H1 locs1 hP hD hS1 => kk _ H1 locs1 rfl ⟨mSwap (c2 := (cs.1, 24, .inl (fun j => (sA S 31 i (x)).2.2.1 31 (nI j)))) hP (arr_eq (upd_nI hin (by decide))), V.2.set (p := 20) rfl⟩ hS1)
theorem mG32 (C : mC p s m args c cc D cs) (V : mV D cs o ad A S H) (hdg : decode cc pc = .ok (.getfield 147, 3)) (kk : W p l e R s m args below meth c H locs cells slots Q (F0 m (pc + 3) ls (.ref (ad 32) :: rest))) : W p l e R s m args below meth c H locs cells slots Q (F0 m pc ls (.ref o :: rest)) := by
  obtain ⟨hx, hb, hown, hts, hK⟩ := C
  exact va_get (own := RX13) (C := RX13) (T := TX13) (N := 38) (ci := 10) hx hb hts tM_lay hown hK V.1 0 rfl rfl 32 (by decide) (hts _ tMf32) (fun _ h => h) rfl hdg kk
theorem mLd32 {i : Int32} (C : mC p s m args c cc D cs) (V : mV D cs o ad A S H) (hin : vp_in i 192) (hdg : decode cc pc = .ok (.iaload, 1)) (kk : W p l e R s m args below meth c H locs cells slots Q (F0 m (pc + 1) ls (.int (gA S 32 i) :: rest))) : W p l e R s m args below meth c H locs cells slots Q (F0 m pc ls (.int i :: .ref (ad 32) :: rest)) := by
  obtain ⟨hx, hb, hown, hts, hK⟩ := C
  refine va_iald hx hb hK V.1 21 0 rfl rfl hin hdg ?_
  have hb9 := nI_back hin
  rw [hb9]; exact kk
theorem mSt32 {i : Int32} {x : Int32} (C : mC p s m args c cc D cs) (V : mV D cs o ad A S H) (hS : va_S A H0 H locs) (hin : vp_in i 192) (hdg : decode cc pc = .ok (.iastore, 1)) (kk : ∀ (S1 : mS) (H1 : Heap) (locs1 : List Loc), S1 = sA S 32 i (x) → mV D cs o ad A S1 H1 → va_S A H0 H1 locs1 → W p l e R s m args below meth c H1 locs1 cells slots Q (F0 m (pc + 1) ls rest)) : W p l e R s m args below meth c H locs cells slots Q (F0 m pc ls (.int x :: .int i :: .ref (ad 32) :: rest)) := by
  obtain ⟨hx, hb, hown, hts, hK⟩ := C
  exact va_iast hx hb hK V.1 V.2 hS 21 0 rfl rfl hin hdg (fun H1 locs1 hP hD hS1 => kk _ H1 locs1 rfl ⟨mSwap (c2 := (cs.1, 192, .inl (fun j => (sA S 32 i (x)).2.2.1 32 (nI j)))) hP (arr_eq (upd_nI hin (by decide))), V.2.set (p := 21) rfl⟩ hS1)
theorem mG33 (C : mC p s m args c cc D cs) (V : mV D cs o ad A S H) (hdg : decode cc pc = .ok (.getfield 150, 3)) (kk : W p l e R s m args below meth c H locs cells slots Q (F0 m (pc + 3) ls (.ref (ad 33) :: rest))) : W p l e R s m args below meth c H locs cells slots Q (F0 m pc ls (.ref o :: rest)) := by
  obtain ⟨hx, hb, hown, hts, hK⟩ := C
  exact va_get (own := RX13) (C := RX13) (T := TX13) (N := 38) (ci := 10) hx hb hts tM_lay hown hK V.1 0 rfl rfl 33 (by decide) (hts _ tMf33) (fun _ h => h) rfl hdg kk
theorem mLd33 {i : Int32} (C : mC p s m args c cc D cs) (V : mV D cs o ad A S H) (hin : vp_in i 24) (hdg : decode cc pc = .ok (.iaload, 1)) (kk : W p l e R s m args below meth c H locs cells slots Q (F0 m (pc + 1) ls (.int (gA S 33 i) :: rest))) : W p l e R s m args below meth c H locs cells slots Q (F0 m pc ls (.int i :: .ref (ad 33) :: rest)) := by
  obtain ⟨hx, hb, hown, hts, hK⟩ := C
  refine va_iald hx hb hK V.1 22 0 rfl rfl hin hdg ?_
  have hb9 := nI_back hin
  rw [hb9]; exact kk
theorem mSt33 {i : Int32} {x : Int32} (C : mC p s m args c cc D cs) (V : mV D cs o ad A S H) (hS : va_S A H0 H locs) (hin : vp_in i 24) (hdg : decode cc pc = .ok (.iastore, 1)) (kk : ∀ (S1 : mS) (H1 : Heap) (locs1 : List Loc), S1 = sA S 33 i (x) → mV D cs o ad A S1 H1 → va_S A H0 H1 locs1 → W p l e R s m args below meth c H1 locs1 cells slots Q (F0 m (pc + 1) ls rest)) : W p l e R s m args below meth c H locs cells slots Q (F0 m pc ls (.int x :: .int i :: .ref (ad 33) :: rest)) := by
  obtain ⟨hx, hb, hown, hts, hK⟩ := C
  exact va_iast hx hb hK V.1 V.2 hS 22 0 rfl rfl hin hdg (fun H1 locs1 hP hD hS1 => kk _ H1 locs1 rfl ⟨mSwap (c2 := (cs.1, 24, .inl (fun j => (sA S 33 i (x)).2.2.1 33 (nI j)))) hP (arr_eq (upd_nI hin (by decide))), V.2.set (p := 22) rfl⟩ hS1)
theorem mG34 (C : mC p s m args c cc D cs) (V : mV D cs o ad A S H) (hdg : decode cc pc = .ok (.getfield 153, 3)) (kk : W p l e R s m args below meth c H locs cells slots Q (F0 m (pc + 3) ls (.ref (ad 34) :: rest))) : W p l e R s m args below meth c H locs cells slots Q (F0 m pc ls (.ref o :: rest)) := by
  obtain ⟨hx, hb, hown, hts, hK⟩ := C
  exact va_get (own := RX13) (C := RX13) (T := TX13) (N := 38) (ci := 10) hx hb hts tM_lay hown hK V.1 0 rfl rfl 34 (by decide) (hts _ tMf34) (fun _ h => h) rfl hdg kk
theorem mLd34 {i : Int32} (C : mC p s m args c cc D cs) (V : mV D cs o ad A S H) (hin : vp_in i 192) (hdg : decode cc pc = .ok (.iaload, 1)) (kk : W p l e R s m args below meth c H locs cells slots Q (F0 m (pc + 1) ls (.int (gA S 34 i) :: rest))) : W p l e R s m args below meth c H locs cells slots Q (F0 m pc ls (.int i :: .ref (ad 34) :: rest)) := by
  obtain ⟨hx, hb, hown, hts, hK⟩ := C
  refine va_iald hx hb hK V.1 23 0 rfl rfl hin hdg ?_
  have hb9 := nI_back hin
  rw [hb9]; exact kk
theorem mSt34 {i : Int32} {x : Int32} (C : mC p s m args c cc D cs) (V : mV D cs o ad A S H) (hS : va_S A H0 H locs) (hin : vp_in i 192) (hdg : decode cc pc = .ok (.iastore, 1)) (kk : ∀ (S1 : mS) (H1 : Heap) (locs1 : List Loc), S1 = sA S 34 i (x) → mV D cs o ad A S1 H1 → va_S A H0 H1 locs1 → W p l e R s m args below meth c H1 locs1 cells slots Q (F0 m (pc + 1) ls rest)) : W p l e R s m args below meth c H locs cells slots Q (F0 m pc ls (.int x :: .int i :: .ref (ad 34) :: rest)) := by
  obtain ⟨hx, hb, hown, hts, hK⟩ := C
  exact va_iast hx hb hK V.1 V.2 hS 23 0 rfl rfl hin hdg (fun H1 locs1 hP hD hS1 => kk _ H1 locs1 rfl ⟨mSwap (c2 := (cs.1, 192, .inl (fun j => (sA S 34 i (x)).2.2.1 34 (nI j)))) hP (arr_eq (upd_nI hin (by decide))), V.2.set (p := 23) rfl⟩ hS1)
theorem mG35 (C : mC p s m args c cc D cs) (V : mV D cs o ad A S H) (hdg : decode cc pc = .ok (.getfield 156, 3)) (kk : W p l e R s m args below meth c H locs cells slots Q (F0 m (pc + 3) ls (.ref (ad 35) :: rest))) : W p l e R s m args below meth c H locs cells slots Q (F0 m pc ls (.ref o :: rest)) := by
  obtain ⟨hx, hb, hown, hts, hK⟩ := C
  exact va_get (own := RX13) (C := RX13) (T := TX13) (N := 38) (ci := 10) hx hb hts tM_lay hown hK V.1 0 rfl rfl 35 (by decide) (hts _ tMf35) (fun _ h => h) rfl hdg kk
theorem mLd35 {i : Int32} (C : mC p s m args c cc D cs) (V : mV D cs o ad A S H) (hin : vp_in i 24) (hdg : decode cc pc = .ok (.iaload, 1)) (kk : W p l e R s m args below meth c H locs cells slots Q (F0 m (pc + 1) ls (.int (gA S 35 i) :: rest))) : W p l e R s m args below meth c H locs cells slots Q (F0 m pc ls (.int i :: .ref (ad 35) :: rest)) := by
  obtain ⟨hx, hb, hown, hts, hK⟩ := C
  refine va_iald hx hb hK V.1 24 0 rfl rfl hin hdg ?_
  have hb9 := nI_back hin
  rw [hb9]; exact kk
theorem mSt35 {i : Int32} {x : Int32} (C : mC p s m args c cc D cs) (V : mV D cs o ad A S H) (hS : va_S A H0 H locs) (hin : vp_in i 24) (hdg : decode cc pc = .ok (.iastore, 1)) (kk : ∀ (S1 : mS) (H1 : Heap) (locs1 : List Loc), S1 = sA S 35 i (x) → mV D cs o ad A S1 H1 → va_S A H0 H1 locs1 → W p l e R s m args below meth c H1 locs1 cells slots Q (F0 m (pc + 1) ls rest)) : W p l e R s m args below meth c H locs cells slots Q (F0 m pc ls (.int x :: .int i :: .ref (ad 35) :: rest)) := by
  obtain ⟨hx, hb, hown, hts, hK⟩ := C
  exact va_iast hx hb hK V.1 V.2 hS 24 0 rfl rfl hin hdg (fun H1 locs1 hP hD hS1 => kk _ H1 locs1 rfl ⟨mSwap (c2 := (cs.1, 24, .inl (fun j => (sA S 35 i (x)).2.2.1 35 (nI j)))) hP (arr_eq (upd_nI hin (by decide))), V.2.set (p := 24) rfl⟩ hS1)
theorem mG36 (C : mC p s m args c cc D cs) (V : mV D cs o ad A S H) (hdg : decode cc pc = .ok (.getfield 159, 3)) (kk : W p l e R s m args below meth c H locs cells slots Q (F0 m (pc + 3) ls (.ref (ad 36) :: rest))) : W p l e R s m args below meth c H locs cells slots Q (F0 m pc ls (.ref o :: rest)) := by
  obtain ⟨hx, hb, hown, hts, hK⟩ := C
  exact va_get (own := RX13) (C := RX13) (T := TX13) (N := 38) (ci := 10) hx hb hts tM_lay hown hK V.1 0 rfl rfl 36 (by decide) (hts _ tMf36) (fun _ h => h) rfl hdg kk
theorem mLd36 {i : Int32} (C : mC p s m args c cc D cs) (V : mV D cs o ad A S H) (hin : vp_in i 2400) (hdg : decode cc pc = .ok (.iaload, 1)) (kk : W p l e R s m args below meth c H locs cells slots Q (F0 m (pc + 1) ls (.int (gA S 36 i) :: rest))) : W p l e R s m args below meth c H locs cells slots Q (F0 m pc ls (.int i :: .ref (ad 36) :: rest)) := by
  obtain ⟨hx, hb, hown, hts, hK⟩ := C
  refine va_iald hx hb hK V.1 25 0 rfl rfl hin hdg ?_
  have hb9 := nI_back hin
  rw [hb9]; exact kk
theorem mSt36 {i : Int32} {x : Int32} (C : mC p s m args c cc D cs) (V : mV D cs o ad A S H) (hS : va_S A H0 H locs) (hin : vp_in i 2400) (hdg : decode cc pc = .ok (.iastore, 1)) (kk : ∀ (S1 : mS) (H1 : Heap) (locs1 : List Loc), S1 = sA S 36 i (x) → mV D cs o ad A S1 H1 → va_S A H0 H1 locs1 → W p l e R s m args below meth c H1 locs1 cells slots Q (F0 m (pc + 1) ls rest)) : W p l e R s m args below meth c H locs cells slots Q (F0 m pc ls (.int x :: .int i :: .ref (ad 36) :: rest)) := by
  obtain ⟨hx, hb, hown, hts, hK⟩ := C
  exact va_iast hx hb hK V.1 V.2 hS 25 0 rfl rfl hin hdg (fun H1 locs1 hP hD hS1 => kk _ H1 locs1 rfl ⟨mSwap (c2 := (cs.1, 2400, .inl (fun j => (sA S 36 i (x)).2.2.1 36 (nI j)))) hP (arr_eq (upd_nI hin (by decide))), V.2.set (p := 25) rfl⟩ hS1)
theorem mG37 (C : mC p s m args c cc D cs) (V : mV D cs o ad A S H) (hdg : decode cc pc = .ok (.getfield 162, 3)) (kk : W p l e R s m args below meth c H locs cells slots Q (F0 m (pc + 3) ls (.ref (ad 37) :: rest))) : W p l e R s m args below meth c H locs cells slots Q (F0 m pc ls (.ref o :: rest)) := by
  obtain ⟨hx, hb, hown, hts, hK⟩ := C
  exact va_get (own := RX13) (C := RX13) (T := TX13) (N := 38) (ci := 10) hx hb hts tM_lay hown hK V.1 0 rfl rfl 37 (by decide) (hts _ tMf37) (fun _ h => h) rfl hdg kk
theorem mLd37 {i : Int32} (C : mC p s m args c cc D cs) (V : mV D cs o ad A S H) (hin : vp_in i 24) (hdg : decode cc pc = .ok (.iaload, 1)) (kk : W p l e R s m args below meth c H locs cells slots Q (F0 m (pc + 1) ls (.int (gA S 37 i) :: rest))) : W p l e R s m args below meth c H locs cells slots Q (F0 m pc ls (.int i :: .ref (ad 37) :: rest)) := by
  obtain ⟨hx, hb, hown, hts, hK⟩ := C
  refine va_iald hx hb hK V.1 26 0 rfl rfl hin hdg ?_
  have hb9 := nI_back hin
  rw [hb9]; exact kk
theorem mSt37 {i : Int32} {x : Int32} (C : mC p s m args c cc D cs) (V : mV D cs o ad A S H) (hS : va_S A H0 H locs) (hin : vp_in i 24) (hdg : decode cc pc = .ok (.iastore, 1)) (kk : ∀ (S1 : mS) (H1 : Heap) (locs1 : List Loc), S1 = sA S 37 i (x) → mV D cs o ad A S1 H1 → va_S A H0 H1 locs1 → W p l e R s m args below meth c H1 locs1 cells slots Q (F0 m (pc + 1) ls rest)) : W p l e R s m args below meth c H locs cells slots Q (F0 m pc ls (.int x :: .int i :: .ref (ad 37) :: rest)) := by
  obtain ⟨hx, hb, hown, hts, hK⟩ := C
  exact va_iast hx hb hK V.1 V.2 hS 26 0 rfl rfl hin hdg (fun H1 locs1 hP hD hS1 => kk _ H1 locs1 rfl ⟨mSwap (c2 := (cs.1, 24, .inl (fun j => (sA S 37 i (x)).2.2.1 37 (nI j)))) hP (arr_eq (upd_nI hin (by decide))), V.2.set (p := 26) rfl⟩ hS1)
end MW
end
