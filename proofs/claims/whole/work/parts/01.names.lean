-- ===== PART A: goes FIRST, ahead of the names: the tables' words, and 'selects' of the private methods out of them =====
/-- a private method of a class that the tables say can be made, by its rows of tables_1 -/
def lw_okq (q : MethodName × Nat) : Prop := (q.1.cls ≠ "java/lang/invoke/MethodHandle" ∧ q.1.cls ≠ "java/lang/invoke/VarHandle") ∧ Cond.instantiable q.1.cls q.2 ∈ tables_1 ∧ Cond.privateMethod q.1 ∈ tables_1 ∧ Cond.instanceMethod q.1 ∈ tables_1
theorem lw_p0 : lw_okq (⟨"BreathStreet$Text", "skipBlanks", "()V"⟩, 5) := ⟨⟨by decide +kernel, by decide +kernel⟩, List.mem_of_getElem? (i := 26) (by decide +kernel), List.mem_of_getElem? (i := 389) (by decide +kernel), List.mem_of_getElem? (i := 390) (by decide +kernel)⟩
theorem lw_p1 : lw_okq (⟨"BreathStreet$Text", "letterHere", "()I"⟩, 5) := ⟨⟨by decide +kernel, by decide +kernel⟩, List.mem_of_getElem? (i := 26) (by decide +kernel), List.mem_of_getElem? (i := 393) (by decide +kernel), List.mem_of_getElem? (i := 394) (by decide +kernel)⟩
theorem lw_p2 : lw_okq (⟨"BreathStreet$Text", "readClause", "(LBreathStreet$Street;)V"⟩, 5) := ⟨⟨by decide +kernel, by decide +kernel⟩, List.mem_of_getElem? (i := 26) (by decide +kernel), List.mem_of_getElem? (i := 397) (by decide +kernel), List.mem_of_getElem? (i := 398) (by decide +kernel)⟩
theorem lw_p3 : lw_okq (⟨"BreathStreet$Text", "readField", "(LBreathStreet$Ground;)V"⟩, 5) := ⟨⟨by decide +kernel, by decide +kernel⟩, List.mem_of_getElem? (i := 26) (by decide +kernel), List.mem_of_getElem? (i := 401) (by decide +kernel), List.mem_of_getElem? (i := 402) (by decide +kernel)⟩
theorem lw_p4 : lw_okq (⟨"BreathStreet$Text", "readWord", "(Z)V"⟩, 5) := ⟨⟨by decide +kernel, by decide +kernel⟩, List.mem_of_getElem? (i := 26) (by decide +kernel), List.mem_of_getElem? (i := 405) (by decide +kernel), List.mem_of_getElem? (i := 406) (by decide +kernel)⟩
theorem lw_p5 : lw_okq (⟨"BreathStreet$Text", "blame", "(II)V"⟩, 5) := ⟨⟨by decide +kernel, by decide +kernel⟩, List.mem_of_getElem? (i := 26) (by decide +kernel), List.mem_of_getElem? (i := 409) (by decide +kernel), List.mem_of_getElem? (i := 410) (by decide +kernel)⟩
theorem lw_p6 : lw_okq (⟨"BreathStreet$Text", "readNumber", "(II)I"⟩, 5) := ⟨⟨by decide +kernel, by decide +kernel⟩, List.mem_of_getElem? (i := 26) (by decide +kernel), List.mem_of_getElem? (i := 413) (by decide +kernel), List.mem_of_getElem? (i := 414) (by decide +kernel)⟩
theorem lw_p7 : lw_okq (⟨"BreathStreet$Text", "readEnd", "()V"⟩, 5) := ⟨⟨by decide +kernel, by decide +kernel⟩, List.mem_of_getElem? (i := 26) (by decide +kernel), List.mem_of_getElem? (i := 421) (by decide +kernel), List.mem_of_getElem? (i := 422) (by decide +kernel)⟩
theorem lw_p8 : lw_okq (⟨"BreathStreet$Text", "readHouse", "(LBreathStreet$Street;)V"⟩, 5) := ⟨⟨by decide +kernel, by decide +kernel⟩, List.mem_of_getElem? (i := 26) (by decide +kernel), List.mem_of_getElem? (i := 432) (by decide +kernel), List.mem_of_getElem? (i := 433) (by decide +kernel)⟩
theorem lw_p9 : lw_okq (⟨"BreathStreet$Text", "readSeam", "(LBreathStreet$Seams;I)V"⟩, 5) := ⟨⟨by decide +kernel, by decide +kernel⟩, List.mem_of_getElem? (i := 26) (by decide +kernel), List.mem_of_getElem? (i := 440) (by decide +kernel), List.mem_of_getElem? (i := 441) (by decide +kernel)⟩
theorem lw_p10 : lw_okq (⟨"BreathStreet$Text", "readBarrel", "(LBreathStreet$Street;)V"⟩, 5) := ⟨⟨by decide +kernel, by decide +kernel⟩, List.mem_of_getElem? (i := 26) (by decide +kernel), List.mem_of_getElem? (i := 448) (by decide +kernel), List.mem_of_getElem? (i := 449) (by decide +kernel)⟩
theorem lw_p11 : lw_okq (⟨"BreathStreet", "forgetNotes", "()V"⟩, 13) := ⟨⟨by decide +kernel, by decide +kernel⟩, List.mem_of_getElem? (i := 18) (by decide +kernel), List.mem_of_getElem? (i := 460) (by decide +kernel), List.mem_of_getElem? (i := 461) (by decide +kernel)⟩
theorem lw_p12 : lw_okq (⟨"BreathStreet$Seams", "staysOpen", "(II)I"⟩, 5) := ⟨⟨by decide +kernel, by decide +kernel⟩, List.mem_of_getElem? (i := 97) (by decide +kernel), List.mem_of_getElem? (i := 476) (by decide +kernel), List.mem_of_getElem? (i := 477) (by decide +kernel)⟩
theorem lw_p13 : lw_okq (⟨"BreathStreet$Street", "strain", "(II)I"⟩, 6) := ⟨⟨by decide +kernel, by decide +kernel⟩, List.mem_of_getElem? (i := 51) (by decide +kernel), List.mem_of_getElem? (i := 495) (by decide +kernel), List.mem_of_getElem? (i := 496) (by decide +kernel)⟩
theorem lw_p14 : lw_okq (⟨"BreathStreet$Street", "strainRound", "(I)I"⟩, 6) := ⟨⟨by decide +kernel, by decide +kernel⟩, List.mem_of_getElem? (i := 51) (by decide +kernel), List.mem_of_getElem? (i := 551) (by decide +kernel), List.mem_of_getElem? (i := 552) (by decide +kernel)⟩
theorem lw_p15 : lw_okq (⟨"BreathStreet", "letPass", "(IZ)I"⟩, 13) := ⟨⟨by decide +kernel, by decide +kernel⟩, List.mem_of_getElem? (i := 18) (by decide +kernel), List.mem_of_getElem? (i := 569) (by decide +kernel), List.mem_of_getElem? (i := 570) (by decide +kernel)⟩
def lw_privs_1 : List (MethodName × Nat) := [(⟨"BreathStreet$Text", "skipBlanks", "()V"⟩, 5), (⟨"BreathStreet$Text", "letterHere", "()I"⟩, 5), (⟨"BreathStreet$Text", "readClause", "(LBreathStreet$Street;)V"⟩, 5), (⟨"BreathStreet$Text", "readField", "(LBreathStreet$Ground;)V"⟩, 5), (⟨"BreathStreet$Text", "readWord", "(Z)V"⟩, 5), (⟨"BreathStreet$Text", "blame", "(II)V"⟩, 5), (⟨"BreathStreet$Text", "readNumber", "(II)I"⟩, 5), (⟨"BreathStreet$Text", "readEnd", "()V"⟩, 5), (⟨"BreathStreet$Text", "readHouse", "(LBreathStreet$Street;)V"⟩, 5), (⟨"BreathStreet$Text", "readSeam", "(LBreathStreet$Seams;I)V"⟩, 5), (⟨"BreathStreet$Text", "readBarrel", "(LBreathStreet$Street;)V"⟩, 5), (⟨"BreathStreet", "forgetNotes", "()V"⟩, 13), (⟨"BreathStreet$Seams", "staysOpen", "(II)I"⟩, 5), (⟨"BreathStreet$Street", "strain", "(II)I"⟩, 6), (⟨"BreathStreet$Street", "strainRound", "(I)I"⟩, 6), (⟨"BreathStreet", "letPass", "(IZ)I"⟩, 13)]
theorem lw_r1 : ∀ q ∈ lw_privs_1, lw_okq q := List.forall_mem_cons.mpr ⟨lw_p0, List.forall_mem_cons.mpr ⟨lw_p1, List.forall_mem_cons.mpr ⟨lw_p2, List.forall_mem_cons.mpr ⟨lw_p3, List.forall_mem_cons.mpr ⟨lw_p4, List.forall_mem_cons.mpr ⟨lw_p5, List.forall_mem_cons.mpr ⟨lw_p6, List.forall_mem_cons.mpr ⟨lw_p7, List.forall_mem_cons.mpr ⟨lw_p8, List.forall_mem_cons.mpr ⟨lw_p9, List.forall_mem_cons.mpr ⟨lw_p10, List.forall_mem_cons.mpr ⟨lw_p11, List.forall_mem_cons.mpr ⟨lw_p12, List.forall_mem_cons.mpr ⟨lw_p13, List.forall_mem_cons.mpr ⟨lw_p14, List.forall_mem_cons.mpr ⟨lw_p15, fun _ h => absurd h List.not_mem_nil⟩⟩⟩⟩⟩⟩⟩⟩⟩⟩⟩⟩⟩⟩⟩⟩
theorem lw_p16 : lw_okq (⟨"BreathStreet", "draw", "(I)I"⟩, 13) := ⟨⟨by decide +kernel, by decide +kernel⟩, List.mem_of_getElem? (i := 18) (by decide +kernel), List.mem_of_getElem? (i := 625) (by decide +kernel), List.mem_of_getElem? (i := 626) (by decide +kernel)⟩
theorem lw_p17 : lw_okq (⟨"BreathStreet$Ground", "lowerBeside", "(II)I"⟩, 7) := ⟨⟨by decide +kernel, by decide +kernel⟩, List.mem_of_getElem? (i := 57) (by decide +kernel), List.mem_of_getElem? (i := 667) (by decide +kernel), List.mem_of_getElem? (i := 668) (by decide +kernel)⟩
theorem lw_p18 : lw_okq (⟨"BreathStreet$Home", "pulledBy", "(LBreathStreet$Street;LBreathStreet$Moment;III)I"⟩, 3) := ⟨⟨by decide +kernel, by decide +kernel⟩, List.mem_of_getElem? (i := 237) (by decide +kernel), List.mem_of_getElem? (i := 712) (by decide +kernel), List.mem_of_getElem? (i := 713) (by decide +kernel)⟩
theorem lw_p19 : lw_okq (⟨"BreathStreet$Home", "pulledFrom", "(II)I"⟩, 3) := ⟨⟨by decide +kernel, by decide +kernel⟩, List.mem_of_getElem? (i := 237) (by decide +kernel), List.mem_of_getElem? (i := 718) (by decide +kernel), List.mem_of_getElem? (i := 719) (by decide +kernel)⟩
theorem lw_p20 : lw_okq (⟨"BreathStreet$Home", "firstBest", "(LBreathStreet$Street;LBreathStreet$Moment;II)I"⟩, 3) := ⟨⟨by decide +kernel, by decide +kernel⟩, List.mem_of_getElem? (i := 237) (by decide +kernel), List.mem_of_getElem? (i := 733) (by decide +kernel), List.mem_of_getElem? (i := 734) (by decide +kernel)⟩
theorem lw_p21 : lw_okq (⟨"BreathStreet$Seams", "roundOf", "(I)I"⟩, 5) := ⟨⟨by decide +kernel, by decide +kernel⟩, List.mem_of_getElem? (i := 97) (by decide +kernel), List.mem_of_getElem? (i := 749) (by decide +kernel), List.mem_of_getElem? (i := 750) (by decide +kernel)⟩
theorem lw_p22 : lw_okq (⟨"BreathStreet$Seams", "someShutFor", "(II)I"⟩, 5) := ⟨⟨by decide +kernel, by decide +kernel⟩, List.mem_of_getElem? (i := 97) (by decide +kernel), List.mem_of_getElem? (i := 754) (by decide +kernel), List.mem_of_getElem? (i := 755) (by decide +kernel)⟩
theorem lw_p23 : lw_okq (⟨"BreathStreet$Seams", "staysShut", "(II)I"⟩, 5) := ⟨⟨by decide +kernel, by decide +kernel⟩, List.mem_of_getElem? (i := 97) (by decide +kernel), List.mem_of_getElem? (i := 758) (by decide +kernel), List.mem_of_getElem? (i := 759) (by decide +kernel)⟩
theorem lw_p24 : lw_okq (⟨"BreathStreet$Seams", "allOpenFor", "(II)I"⟩, 5) := ⟨⟨by decide +kernel, by decide +kernel⟩, List.mem_of_getElem? (i := 97) (by decide +kernel), List.mem_of_getElem? (i := 770) (by decide +kernel), List.mem_of_getElem? (i := 771) (by decide +kernel)⟩
theorem lw_p25 : lw_okq (⟨"BreathStreet$Cough", "explains", "(II)Z"⟩, 5) := ⟨⟨by decide +kernel, by decide +kernel⟩, List.mem_of_getElem? (i := 253) (by decide +kernel), List.mem_of_getElem? (i := 791) (by decide +kernel), List.mem_of_getElem? (i := 792) (by decide +kernel)⟩
theorem lw_p26 : lw_okq (⟨"BreathStreet$Cough", "greatestPart", "(II)I"⟩, 5) := ⟨⟨by decide +kernel, by decide +kernel⟩, List.mem_of_getElem? (i := 253) (by decide +kernel), List.mem_of_getElem? (i := 804) (by decide +kernel), List.mem_of_getElem? (i := 805) (by decide +kernel)⟩
theorem lw_p27 : lw_okq (⟨"BreathStreet$Sights", "explains", "(LBreathStreet$Ground;III)Z"⟩, 4) := ⟨⟨by decide +kernel, by decide +kernel⟩, List.mem_of_getElem? (i := 277) (by decide +kernel), List.mem_of_getElem? (i := 825) (by decide +kernel), List.mem_of_getElem? (i := 826) (by decide +kernel)⟩
theorem lw_p28 : lw_okq (⟨"BreathStreet$Ground", "shareOut", "(II)V"⟩, 7) := ⟨⟨by decide +kernel, by decide +kernel⟩, List.mem_of_getElem? (i := 57) (by decide +kernel), List.mem_of_getElem? (i := 868) (by decide +kernel), List.mem_of_getElem? (i := 869) (by decide +kernel)⟩
theorem lw_p29 : lw_okq (⟨"BreathStreet", "imageOf", "(I)LBreathStreet$Image;"⟩, 13) := ⟨⟨by decide +kernel, by decide +kernel⟩, List.mem_of_getElem? (i := 18) (by decide +kernel), List.mem_of_getElem? (i := 907) (by decide +kernel), List.mem_of_getElem? (i := 908) (by decide +kernel)⟩
theorem lw_p30 : lw_okq (⟨"BreathStreetModel", "here", "()I"⟩, 34) := ⟨⟨by decide +kernel, by decide +kernel⟩, List.mem_of_getElem? (i := 927) (by decide +kernel), List.mem_of_getElem? (i := 1051) (by decide +kernel), List.mem_of_getElem? (i := 1052) (by decide +kernel)⟩
theorem lw_p31 : lw_okq (⟨"BreathStreetModel", "takeClause", "()V"⟩, 34) := ⟨⟨by decide +kernel, by decide +kernel⟩, List.mem_of_getElem? (i := 927) (by decide +kernel), List.mem_of_getElem? (i := 1055) (by decide +kernel), List.mem_of_getElem? (i := 1056) (by decide +kernel)⟩
def lw_privs_2 : List (MethodName × Nat) := [(⟨"BreathStreet", "draw", "(I)I"⟩, 13), (⟨"BreathStreet$Ground", "lowerBeside", "(II)I"⟩, 7), (⟨"BreathStreet$Home", "pulledBy", "(LBreathStreet$Street;LBreathStreet$Moment;III)I"⟩, 3), (⟨"BreathStreet$Home", "pulledFrom", "(II)I"⟩, 3), (⟨"BreathStreet$Home", "firstBest", "(LBreathStreet$Street;LBreathStreet$Moment;II)I"⟩, 3), (⟨"BreathStreet$Seams", "roundOf", "(I)I"⟩, 5), (⟨"BreathStreet$Seams", "someShutFor", "(II)I"⟩, 5), (⟨"BreathStreet$Seams", "staysShut", "(II)I"⟩, 5), (⟨"BreathStreet$Seams", "allOpenFor", "(II)I"⟩, 5), (⟨"BreathStreet$Cough", "explains", "(II)Z"⟩, 5), (⟨"BreathStreet$Cough", "greatestPart", "(II)I"⟩, 5), (⟨"BreathStreet$Sights", "explains", "(LBreathStreet$Ground;III)Z"⟩, 4), (⟨"BreathStreet$Ground", "shareOut", "(II)V"⟩, 7), (⟨"BreathStreet", "imageOf", "(I)LBreathStreet$Image;"⟩, 13), (⟨"BreathStreetModel", "here", "()I"⟩, 34), (⟨"BreathStreetModel", "takeClause", "()V"⟩, 34)]
theorem lw_r2 : ∀ q ∈ lw_privs_2, lw_okq q := List.forall_mem_cons.mpr ⟨lw_p16, List.forall_mem_cons.mpr ⟨lw_p17, List.forall_mem_cons.mpr ⟨lw_p18, List.forall_mem_cons.mpr ⟨lw_p19, List.forall_mem_cons.mpr ⟨lw_p20, List.forall_mem_cons.mpr ⟨lw_p21, List.forall_mem_cons.mpr ⟨lw_p22, List.forall_mem_cons.mpr ⟨lw_p23, List.forall_mem_cons.mpr ⟨lw_p24, List.forall_mem_cons.mpr ⟨lw_p25, List.forall_mem_cons.mpr ⟨lw_p26, List.forall_mem_cons.mpr ⟨lw_p27, List.forall_mem_cons.mpr ⟨lw_p28, List.forall_mem_cons.mpr ⟨lw_p29, List.forall_mem_cons.mpr ⟨lw_p30, List.forall_mem_cons.mpr ⟨lw_p31, fun _ h => absurd h List.not_mem_nil⟩⟩⟩⟩⟩⟩⟩⟩⟩⟩⟩⟩⟩⟩⟩⟩
theorem lw_p32 : lw_okq (⟨"BreathStreetModel", "want", "(ZII)Z"⟩, 34) := ⟨⟨by decide +kernel, by decide +kernel⟩, List.mem_of_getElem? (i := 927) (by decide +kernel), List.mem_of_getElem? (i := 1059) (by decide +kernel), List.mem_of_getElem? (i := 1060) (by decide +kernel)⟩
theorem lw_p33 : lw_okq (⟨"BreathStreetModel", "takeField", "()V"⟩, 34) := ⟨⟨by decide +kernel, by decide +kernel⟩, List.mem_of_getElem? (i := 927) (by decide +kernel), List.mem_of_getElem? (i := 1063) (by decide +kernel), List.mem_of_getElem? (i := 1064) (by decide +kernel)⟩
theorem lw_p34 : lw_okq (⟨"BreathStreetModel", "takeNumber", "(II)I"⟩, 34) := ⟨⟨by decide +kernel, by decide +kernel⟩, List.mem_of_getElem? (i := 927) (by decide +kernel), List.mem_of_getElem? (i := 1067) (by decide +kernel), List.mem_of_getElem? (i := 1068) (by decide +kernel)⟩
theorem lw_p35 : lw_okq (⟨"BreathStreetModel", "takeHouse", "()V"⟩, 34) := ⟨⟨by decide +kernel, by decide +kernel⟩, List.mem_of_getElem? (i := 927) (by decide +kernel), List.mem_of_getElem? (i := 1074) (by decide +kernel), List.mem_of_getElem? (i := 1075) (by decide +kernel)⟩
theorem lw_p36 : lw_okq (⟨"BreathStreetModel", "takeSeam", "()V"⟩, 34) := ⟨⟨by decide +kernel, by decide +kernel⟩, List.mem_of_getElem? (i := 927) (by decide +kernel), List.mem_of_getElem? (i := 1078) (by decide +kernel), List.mem_of_getElem? (i := 1079) (by decide +kernel)⟩
theorem lw_p37 : lw_okq (⟨"BreathStreetModel", "openNow", "()I"⟩, 34) := ⟨⟨by decide +kernel, by decide +kernel⟩, List.mem_of_getElem? (i := 927) (by decide +kernel), List.mem_of_getElem? (i := 1093) (by decide +kernel), List.mem_of_getElem? (i := 1094) (by decide +kernel)⟩
theorem lw_p38 : lw_okq (⟨"BreathStreetModel", "isSeamOpen", "(II)Z"⟩, 34) := ⟨⟨by decide +kernel, by decide +kernel⟩, List.mem_of_getElem? (i := 927) (by decide +kernel), List.mem_of_getElem? (i := 1097) (by decide +kernel), List.mem_of_getElem? (i := 1098) (by decide +kernel)⟩
theorem lw_p39 : lw_okq (⟨"BreathStreetModel", "crackNow", "()I"⟩, 34) := ⟨⟨by decide +kernel, by decide +kernel⟩, List.mem_of_getElem? (i := 927) (by decide +kernel), List.mem_of_getElem? (i := 1104) (by decide +kernel), List.mem_of_getElem? (i := 1105) (by decide +kernel)⟩
theorem lw_p40 : lw_okq (⟨"BreathStreetModel", "cracksAt", "(II)Z"⟩, 34) := ⟨⟨by decide +kernel, by decide +kernel⟩, List.mem_of_getElem? (i := 927) (by decide +kernel), List.mem_of_getElem? (i := 1108) (by decide +kernel), List.mem_of_getElem? (i := 1109) (by decide +kernel)⟩
theorem lw_p41 : lw_okq (⟨"BreathStreetModel", "leanOf", "(II)I"⟩, 34) := ⟨⟨by decide +kernel, by decide +kernel⟩, List.mem_of_getElem? (i := 927) (by decide +kernel), List.mem_of_getElem? (i := 1112) (by decide +kernel), List.mem_of_getElem? (i := 1113) (by decide +kernel)⟩
theorem lw_p42 : lw_okq (⟨"BreathStreetModel", "heightOf", "(II)I"⟩, 34) := ⟨⟨by decide +kernel, by decide +kernel⟩, List.mem_of_getElem? (i := 927) (by decide +kernel), List.mem_of_getElem? (i := 1116) (by decide +kernel), List.mem_of_getElem? (i := 1117) (by decide +kernel)⟩
theorem lw_p43 : lw_okq (⟨"BreathStreetModel", "isField", "(I)Z"⟩, 34) := ⟨⟨by decide +kernel, by decide +kernel⟩, List.mem_of_getElem? (i := 927) (by decide +kernel), List.mem_of_getElem? (i := 1130) (by decide +kernel), List.mem_of_getElem? (i := 1131) (by decide +kernel)⟩
theorem lw_p44 : lw_okq (⟨"BreathStreetModel", "needs", "(I)I"⟩, 34) := ⟨⟨by decide +kernel, by decide +kernel⟩, List.mem_of_getElem? (i := 927) (by decide +kernel), List.mem_of_getElem? (i := 1145) (by decide +kernel), List.mem_of_getElem? (i := 1146) (by decide +kernel)⟩
theorem lw_p45 : lw_okq (⟨"BreathStreetModel", "pass", "(II)I"⟩, 34) := ⟨⟨by decide +kernel, by decide +kernel⟩, List.mem_of_getElem? (i := 927) (by decide +kernel), List.mem_of_getElem? (i := 1157) (by decide +kernel), List.mem_of_getElem? (i := 1158) (by decide +kernel)⟩
theorem lw_p46 : lw_okq (⟨"BreathStreetModel", "remember", "()V"⟩, 34) := ⟨⟨by decide +kernel, by decide +kernel⟩, List.mem_of_getElem? (i := 927) (by decide +kernel), List.mem_of_getElem? (i := 1163) (by decide +kernel), List.mem_of_getElem? (i := 1164) (by decide +kernel)⟩
theorem lw_p47 : lw_okq (⟨"BreathStreetModel", "to", "(III)I"⟩, 34) := ⟨⟨by decide +kernel, by decide +kernel⟩, List.mem_of_getElem? (i := 927) (by decide +kernel), List.mem_of_getElem? (i := 1176) (by decide +kernel), List.mem_of_getElem? (i := 1177) (by decide +kernel)⟩
def lw_privs_3 : List (MethodName × Nat) := [(⟨"BreathStreetModel", "want", "(ZII)Z"⟩, 34), (⟨"BreathStreetModel", "takeField", "()V"⟩, 34), (⟨"BreathStreetModel", "takeNumber", "(II)I"⟩, 34), (⟨"BreathStreetModel", "takeHouse", "()V"⟩, 34), (⟨"BreathStreetModel", "takeSeam", "()V"⟩, 34), (⟨"BreathStreetModel", "openNow", "()I"⟩, 34), (⟨"BreathStreetModel", "isSeamOpen", "(II)Z"⟩, 34), (⟨"BreathStreetModel", "crackNow", "()I"⟩, 34), (⟨"BreathStreetModel", "cracksAt", "(II)Z"⟩, 34), (⟨"BreathStreetModel", "leanOf", "(II)I"⟩, 34), (⟨"BreathStreetModel", "heightOf", "(II)I"⟩, 34), (⟨"BreathStreetModel", "isField", "(I)Z"⟩, 34), (⟨"BreathStreetModel", "needs", "(I)I"⟩, 34), (⟨"BreathStreetModel", "pass", "(II)I"⟩, 34), (⟨"BreathStreetModel", "remember", "()V"⟩, 34), (⟨"BreathStreetModel", "to", "(III)I"⟩, 34)]
theorem lw_r3 : ∀ q ∈ lw_privs_3, lw_okq q := List.forall_mem_cons.mpr ⟨lw_p32, List.forall_mem_cons.mpr ⟨lw_p33, List.forall_mem_cons.mpr ⟨lw_p34, List.forall_mem_cons.mpr ⟨lw_p35, List.forall_mem_cons.mpr ⟨lw_p36, List.forall_mem_cons.mpr ⟨lw_p37, List.forall_mem_cons.mpr ⟨lw_p38, List.forall_mem_cons.mpr ⟨lw_p39, List.forall_mem_cons.mpr ⟨lw_p40, List.forall_mem_cons.mpr ⟨lw_p41, List.forall_mem_cons.mpr ⟨lw_p42, List.forall_mem_cons.mpr ⟨lw_p43, List.forall_mem_cons.mpr ⟨lw_p44, List.forall_mem_cons.mpr ⟨lw_p45, List.forall_mem_cons.mpr ⟨lw_p46, List.forall_mem_cons.mpr ⟨lw_p47, fun _ h => absurd h List.not_mem_nil⟩⟩⟩⟩⟩⟩⟩⟩⟩⟩⟩⟩⟩⟩⟩⟩
theorem lw_p48 : lw_okq (⟨"BreathStreetModel", "rollOn", "(II)I"⟩, 34) := ⟨⟨by decide +kernel, by decide +kernel⟩, List.mem_of_getElem? (i := 927) (by decide +kernel), List.mem_of_getElem? (i := 1181) (by decide +kernel), List.mem_of_getElem? (i := 1182) (by decide +kernel)⟩
theorem lw_p49 : lw_okq (⟨"BreathStreetModel", "pulledBy", "(III)I"⟩, 34) := ⟨⟨by decide +kernel, by decide +kernel⟩, List.mem_of_getElem? (i := 927) (by decide +kernel), List.mem_of_getElem? (i := 1185) (by decide +kernel), List.mem_of_getElem? (i := 1186) (by decide +kernel)⟩
theorem lw_p50 : lw_okq (⟨"BreathStreetModel", "draw", "(I)I"⟩, 34) := ⟨⟨by decide +kernel, by decide +kernel⟩, List.mem_of_getElem? (i := 927) (by decide +kernel), List.mem_of_getElem? (i := 1198) (by decide +kernel), List.mem_of_getElem? (i := 1199) (by decide +kernel)⟩
theorem lw_p51 : lw_okq (⟨"BreathStreetModel", "flows", "(II)I"⟩, 34) := ⟨⟨by decide +kernel, by decide +kernel⟩, List.mem_of_getElem? (i := 927) (by decide +kernel), List.mem_of_getElem? (i := 1223) (by decide +kernel), List.mem_of_getElem? (i := 1224) (by decide +kernel)⟩
theorem lw_p52 : lw_okq (⟨"BreathStreetModel", "ground", "(II)I"⟩, 34) := ⟨⟨by decide +kernel, by decide +kernel⟩, List.mem_of_getElem? (i := 927) (by decide +kernel), List.mem_of_getElem? (i := 1231) (by decide +kernel), List.mem_of_getElem? (i := 1232) (by decide +kernel)⟩
theorem lw_p53 : lw_okq (⟨"BreathStreetModel", "findLeast", "(II)V"⟩, 34) := ⟨⟨by decide +kernel, by decide +kernel⟩, List.mem_of_getElem? (i := 927) (by decide +kernel), List.mem_of_getElem? (i := 1251) (by decide +kernel), List.mem_of_getElem? (i := 1252) (by decide +kernel)⟩
theorem lw_p54 : lw_okq (⟨"BreathStreetModel", "bestWay", "(III)I"⟩, 34) := ⟨⟨by decide +kernel, by decide +kernel⟩, List.mem_of_getElem? (i := 927) (by decide +kernel), List.mem_of_getElem? (i := 1256) (by decide +kernel), List.mem_of_getElem? (i := 1257) (by decide +kernel)⟩
theorem lw_p55 : lw_okq (⟨"BreathStreetModel", "leastBy", "(IIII)I"⟩, 34) := ⟨⟨by decide +kernel, by decide +kernel⟩, List.mem_of_getElem? (i := 927) (by decide +kernel), List.mem_of_getElem? (i := 1260) (by decide +kernel), List.mem_of_getElem? (i := 1261) (by decide +kernel)⟩
theorem lw_p56 : lw_okq (⟨"BreathStreetModel", "isSeamSet", "(I)Z"⟩, 34) := ⟨⟨by decide +kernel, by decide +kernel⟩, List.mem_of_getElem? (i := 927) (by decide +kernel), List.mem_of_getElem? (i := 1268) (by decide +kernel), List.mem_of_getElem? (i := 1269) (by decide +kernel)⟩
theorem lw_p57 : lw_okq (⟨"BreathStreetModel", "roundOfSeams", "(I)I"⟩, 34) := ⟨⟨by decide +kernel, by decide +kernel⟩, List.mem_of_getElem? (i := 927) (by decide +kernel), List.mem_of_getElem? (i := 1272) (by decide +kernel), List.mem_of_getElem? (i := 1273) (by decide +kernel)⟩
theorem lw_p58 : lw_okq (⟨"BreathStreetModel", "areOpen", "(II)Z"⟩, 34) := ⟨⟨by decide +kernel, by decide +kernel⟩, List.mem_of_getElem? (i := 927) (by decide +kernel), List.mem_of_getElem? (i := 1276) (by decide +kernel), List.mem_of_getElem? (i := 1277) (by decide +kernel)⟩
theorem lw_p59 : lw_okq (⟨"BreathStreetModel", "couldBegin", "(II)Z"⟩, 34) := ⟨⟨by decide +kernel, by decide +kernel⟩, List.mem_of_getElem? (i := 927) (by decide +kernel), List.mem_of_getElem? (i := 1292) (by decide +kernel), List.mem_of_getElem? (i := 1293) (by decide +kernel)⟩
theorem lw_p60 : lw_okq (⟨"BreathStreetModel", "greatestPart", "(I)I"⟩, 34) := ⟨⟨by decide +kernel, by decide +kernel⟩, List.mem_of_getElem? (i := 927) (by decide +kernel), List.mem_of_getElem? (i := 1301) (by decide +kernel), List.mem_of_getElem? (i := 1302) (by decide +kernel)⟩
theorem lw_p61 : lw_okq (⟨"BreathStreetModel", "goesRound", "(III)Z"⟩, 34) := ⟨⟨by decide +kernel, by decide +kernel⟩, List.mem_of_getElem? (i := 927) (by decide +kernel), List.mem_of_getElem? (i := 1314) (by decide +kernel), List.mem_of_getElem? (i := 1315) (by decide +kernel)⟩
theorem lw_p62 : lw_okq (⟨"BreathStreetModel", "flooded", "(II)I"⟩, 34) := ⟨⟨by decide +kernel, by decide +kernel⟩, List.mem_of_getElem? (i := 927) (by decide +kernel), List.mem_of_getElem? (i := 1322) (by decide +kernel), List.mem_of_getElem? (i := 1323) (by decide +kernel)⟩
theorem lw_p63 : lw_okq (⟨"BreathStreetModel", "copy", "(II)V"⟩, 34) := ⟨⟨by decide +kernel, by decide +kernel⟩, List.mem_of_getElem? (i := 927) (by decide +kernel), List.mem_of_getElem? (i := 1360) (by decide +kernel), List.mem_of_getElem? (i := 1361) (by decide +kernel)⟩
def lw_privs_4 : List (MethodName × Nat) := [(⟨"BreathStreetModel", "rollOn", "(II)I"⟩, 34), (⟨"BreathStreetModel", "pulledBy", "(III)I"⟩, 34), (⟨"BreathStreetModel", "draw", "(I)I"⟩, 34), (⟨"BreathStreetModel", "flows", "(II)I"⟩, 34), (⟨"BreathStreetModel", "ground", "(II)I"⟩, 34), (⟨"BreathStreetModel", "findLeast", "(II)V"⟩, 34), (⟨"BreathStreetModel", "bestWay", "(III)I"⟩, 34), (⟨"BreathStreetModel", "leastBy", "(IIII)I"⟩, 34), (⟨"BreathStreetModel", "isSeamSet", "(I)Z"⟩, 34), (⟨"BreathStreetModel", "roundOfSeams", "(I)I"⟩, 34), (⟨"BreathStreetModel", "areOpen", "(II)Z"⟩, 34), (⟨"BreathStreetModel", "couldBegin", "(II)Z"⟩, 34), (⟨"BreathStreetModel", "greatestPart", "(I)I"⟩, 34), (⟨"BreathStreetModel", "goesRound", "(III)Z"⟩, 34), (⟨"BreathStreetModel", "flooded", "(II)I"⟩, 34), (⟨"BreathStreetModel", "copy", "(II)V"⟩, 34)]
theorem lw_r4 : ∀ q ∈ lw_privs_4, lw_okq q := List.forall_mem_cons.mpr ⟨lw_p48, List.forall_mem_cons.mpr ⟨lw_p49, List.forall_mem_cons.mpr ⟨lw_p50, List.forall_mem_cons.mpr ⟨lw_p51, List.forall_mem_cons.mpr ⟨lw_p52, List.forall_mem_cons.mpr ⟨lw_p53, List.forall_mem_cons.mpr ⟨lw_p54, List.forall_mem_cons.mpr ⟨lw_p55, List.forall_mem_cons.mpr ⟨lw_p56, List.forall_mem_cons.mpr ⟨lw_p57, List.forall_mem_cons.mpr ⟨lw_p58, List.forall_mem_cons.mpr ⟨lw_p59, List.forall_mem_cons.mpr ⟨lw_p60, List.forall_mem_cons.mpr ⟨lw_p61, List.forall_mem_cons.mpr ⟨lw_p62, List.forall_mem_cons.mpr ⟨lw_p63, fun _ h => absurd h List.not_mem_nil⟩⟩⟩⟩⟩⟩⟩⟩⟩⟩⟩⟩⟩⟩⟩⟩
def lw_privs : List (MethodName × Nat) := lw_privs_1 ++ (lw_privs_2 ++ (lw_privs_3 ++ (lw_privs_4)))
def lw_tbl : List Cond := k2_sels lw_privs ++ tables_1
theorem lw_privs_ok : ∀ q ∈ lw_privs, lw_okq q := by
  show ∀ q ∈ lw_privs_1 ++ (lw_privs_2 ++ (lw_privs_3 ++ (lw_privs_4))), lw_okq q
  exact List.forall_mem_append.mpr ⟨lw_r1, List.forall_mem_append.mpr ⟨lw_r2, List.forall_mem_append.mpr ⟨lw_r3, lw_r4⟩⟩⟩
-- NAMES (printed by the task, kept: classes, fields, methods)
def RX0 : String := "BreathStreet$Book"
def TX0 : u_T := fun k => match k with
  | 0 => ("BreathStreet$Book", "ways", "[I", true)
  | 1 => ("BreathStreet$Book", "tried", "LBreathStreet$Moment;", true)
  | 2 => ("BreathStreet$Book", "lines", "I", false)
  | _ => ("BreathStreet$Book", "pulledAhead", "I", false)
def tyX0 : Nat → FieldType := fun k => match k with
  | 0 => .array .int
  | 1 => .object "BreathStreet$Moment"
  | 2 => .int
  | _ => .int
abbrev wsX00 : List Cond := u_ws RX0 TX0 4
theorem nmX0 : ∀ a, a < 4 → ∀ b, b < 4 → a ≠ b → (TX0 a).2.1 ≠ (TX0 b).2.1 := by decide +kernel
theorem tyX0_ok : ∀ k, k < 4 → parseFieldDescriptor (TX0 k).2.2.1 = some (tyX0 k) := by decide +kernel
abbrev cX0_init : ByteArray := prog_2_method_1_code
def yX0_init : MethodName := ⟨RX0, "<init>", "()V"⟩
abbrev cX0_note : ByteArray := prog_2_method_2_code
def yX0_note : MethodName := ⟨RX0, "note", "(I)I"⟩
abbrev cX0_tryFrom : ByteArray := prog_2_method_3_code
def yX0_tryFrom : MethodName := ⟨RX0, "tryFrom", "(LBreathStreet$Street;LBreathStreet$Moment;)I"⟩
def RX1 : String := "BreathStreet$Cough"
def TX1 : u_T := fun k => match k with
  | 0 => ("BreathStreet$Cough", "fields", "[I", true)
  | 1 => ("BreathStreet$Cough", "agos", "[I", true)
  | 2 => ("BreathStreet$Cough", "heard", "I", false)
  | 3 => ("BreathStreet$Cough", "origins", "[I", true)
  | _ => ("BreathStreet$Cough", "parts", "[I", true)
def tyX1 : Nat → FieldType := fun k => match k with
  | 0 => .array .int
  | 1 => .array .int
  | 2 => .int
  | 3 => .array .int
  | _ => .array .int
abbrev wsX10 : List Cond := u_ws RX1 TX1 5
theorem nmX1 : ∀ a, a < 5 → ∀ b, b < 5 → a ≠ b → (TX1 a).2.1 ≠ (TX1 b).2.1 := by decide +kernel
theorem tyX1_ok : ∀ k, k < 5 → parseFieldDescriptor (TX1 k).2.2.1 = some (tyX1 k) := by decide +kernel
abbrev cX1_init : ByteArray := prog_3_method_1_code
def yX1_init : MethodName := ⟨RX1, "<init>", "()V"⟩
abbrev cX1_note : ByteArray := prog_3_method_2_code
def yX1_note : MethodName := ⟨RX1, "note", "(II)I"⟩
abbrev cX1_gather : ByteArray := prog_3_method_3_code
def yX1_gather : MethodName := ⟨RX1, "gather", "(I)I"⟩
abbrev cX1_explains : ByteArray := prog_3_method_4_code
def yX1_explains : MethodName := ⟨RX1, "explains", "(II)Z"⟩
abbrev cX1_bestWatch : ByteArray := prog_3_method_5_code
def yX1_bestWatch : MethodName := ⟨RX1, "bestWatch", "(II)I"⟩
abbrev cX1_greatestPart : ByteArray := prog_3_method_6_code
def yX1_greatestPart : MethodName := ⟨RX1, "greatestPart", "(II)I"⟩
def RX2 : String := "BreathStreet$Ground"
def TX2 : u_T := fun k => match k with
  | 0 => ("BreathStreet$Ground", "bases", "[I", true)
  | 1 => ("BreathStreet$Ground", "turns", "[I", true)
  | 2 => ("BreathStreet$Ground", "lates", "[I", true)
  | 3 => ("BreathStreet$Ground", "swings", "[I", true)
  | 4 => ("BreathStreet$Ground", "shares", "[J", true)
  | 5 => ("BreathStreet$Ground", "count", "I", false)
  | _ => ("BreathStreet$Ground", "wholeRound", "I", false)
def tyX2 : Nat → FieldType := fun k => match k with
  | 0 => .array .int
  | 1 => .array .int
  | 2 => .array .int
  | 3 => .array .int
  | 4 => .array .long
  | 5 => .int
  | _ => .int
abbrev wsX20 : List Cond := u_ws RX2 TX2 7
theorem nmX2 : ∀ a, a < 7 → ∀ b, b < 7 → a ≠ b → (TX2 a).2.1 ≠ (TX2 b).2.1 := by decide +kernel
theorem tyX2_ok : ∀ k, k < 7 → parseFieldDescriptor (TX2 k).2.2.1 = some (tyX2 k) := by decide +kernel
abbrev cX2_init : ByteArray := prog_4_method_1_code
def yX2_init : MethodName := ⟨RX2, "<init>", "()V"⟩
abbrev cX2_clear : ByteArray := prog_4_method_2_code
def yX2_clear : MethodName := ⟨RX2, "clear", "()V"⟩
abbrev cX2_has : ByteArray := prog_4_method_3_code
def yX2_has : MethodName := ⟨RX2, "has", "(I)Z"⟩
abbrev cX2_hasGap : ByteArray := prog_4_method_4_code
def yX2_hasGap : MethodName := ⟨RX2, "hasGap", "(I)Z"⟩
abbrev cX2_add : ByteArray := prog_4_method_5_code
def yX2_add : MethodName := ⟨RX2, "add", "(IIII)V"⟩
abbrev cX2_heightAt : ByteArray := prog_4_method_6_code
def yX2_heightAt : MethodName := ⟨RX2, "heightAt", "(II)I"⟩
abbrev cX2_leanAt : ByteArray := prog_4_method_7_code
def yX2_leanAt : MethodName := ⟨RX2, "leanAt", "(II)I"⟩
abbrev cX2_climb : ByteArray := prog_4_method_8_code
def yX2_climb : MethodName := ⟨RX2, "climb", "(III)I"⟩
abbrev cX2_leanRound : ByteArray := prog_4_method_9_code
def yX2_leanRound : MethodName := ⟨RX2, "leanRound", "(I)I"⟩
abbrev cX2_flownTo : ByteArray := prog_4_method_10_code
def yX2_flownTo : MethodName := ⟨RX2, "flownTo", "(III)I"⟩
abbrev cX2_lowerBeside : ByteArray := prog_4_method_11_code
def yX2_lowerBeside : MethodName := ⟨RX2, "lowerBeside", "(II)I"⟩
abbrev cX2_milled : ByteArray := prog_4_method_12_code
def yX2_milled : MethodName := ⟨RX2, "milled", "(II)I"⟩
abbrev cX2_bestGap : ByteArray := prog_4_method_13_code
def yX2_bestGap : MethodName := ⟨RX2, "bestGap", "()I"⟩
abbrev cX2_flooded : ByteArray := prog_4_method_14_code
def yX2_flooded : MethodName := ⟨RX2, "flooded", "(III)I"⟩
abbrev cX2_fewestSluices : ByteArray := prog_4_method_15_code
def yX2_fewestSluices : MethodName := ⟨RX2, "fewestSluices", "(I)I"⟩
abbrev cX2_chanceOf : ByteArray := prog_4_method_16_code
def yX2_chanceOf : MethodName := ⟨RX2, "chanceOf", "(IIIII)I"⟩
abbrev cX2_shareOut : ByteArray := prog_4_method_17_code
def yX2_shareOut : MethodName := ⟨RX2, "shareOut", "(II)V"⟩
def RX3 : String := "BreathStreet$Home"
def TX3 : u_T := fun k => match k with
  | 0 => ("BreathStreet$Home", "pulls", "[I", true)
  | 1 => ("BreathStreet$Home", "goal", "I", false)
  | _ => ("BreathStreet$Home", "most", "I", false)
def tyX3 : Nat → FieldType := fun k => match k with
  | 0 => .array .int
  | 1 => .int
  | _ => .int
abbrev wsX30 : List Cond := u_ws RX3 TX3 3
theorem nmX3 : ∀ a, a < 3 → ∀ b, b < 3 → a ≠ b → (TX3 a).2.1 ≠ (TX3 b).2.1 := by decide +kernel
theorem tyX3_ok : ∀ k, k < 3 → parseFieldDescriptor (TX3 k).2.2.1 = some (tyX3 k) := by decide +kernel
abbrev cX3_init : ByteArray := prog_5_method_1_code
def yX3_init : MethodName := ⟨RX3, "<init>", "()V"⟩
abbrev cX3_fewestSteps : ByteArray := prog_5_method_2_code
def yX3_fewestSteps : MethodName := ⟨RX3, "fewestSteps", "(LBreathStreet$Street;LBreathStreet$Moment;II)I"⟩
abbrev cX3_weigh : ByteArray := prog_5_method_3_code
def yX3_weigh : MethodName := ⟨RX3, "weigh", "(LBreathStreet$Street;LBreathStreet$Moment;II)V"⟩
abbrev cX3_leastPulled : ByteArray := prog_5_method_4_code
def yX3_leastPulled : MethodName := ⟨RX3, "leastPulled", "(I)I"⟩
abbrev cX3_leastWay : ByteArray := prog_5_method_5_code
def yX3_leastWay : MethodName := ⟨RX3, "leastWay", "(LBreathStreet$Street;LBreathStreet$Moment;II)I"⟩
abbrev cX3_firstBest : ByteArray := prog_5_method_6_code
def yX3_firstBest : MethodName := ⟨RX3, "firstBest", "(LBreathStreet$Street;LBreathStreet$Moment;II)I"⟩
abbrev cX3_pulledBy : ByteArray := prog_5_method_7_code
def yX3_pulledBy : MethodName := ⟨RX3, "pulledBy", "(LBreathStreet$Street;LBreathStreet$Moment;III)I"⟩
abbrev cX3_pulledFrom : ByteArray := prog_5_method_8_code
def yX3_pulledFrom : MethodName := ⟨RX3, "pulledFrom", "(II)I"⟩
def RX4 : String := "BreathStreet$Image"
def TX4 : u_T := fun k => match k with
  | 0 => ("BreathStreet$Image", "kept", "Z", false)
  | 1 => ("BreathStreet$Image", "moment", "LBreathStreet$Moment;", true)
  | 2 => ("BreathStreet$Image", "slacks", "[I", true)
  | _ => ("BreathStreet$Image", "seedKept", "I", false)
def tyX4 : Nat → FieldType := fun k => match k with
  | 0 => .boolean
  | 1 => .object "BreathStreet$Moment"
  | 2 => .array .int
  | _ => .int
abbrev wsX40 : List Cond := u_ws RX4 TX4 4
theorem nmX4 : ∀ a, a < 4 → ∀ b, b < 4 → a ≠ b → (TX4 a).2.1 ≠ (TX4 b).2.1 := by decide +kernel
theorem tyX4_ok : ∀ k, k < 4 → parseFieldDescriptor (TX4 k).2.2.1 = some (tyX4 k) := by decide +kernel
abbrev cX4_init : ByteArray := prog_6_method_1_code
def yX4_init : MethodName := ⟨RX4, "<init>", "()V"⟩
abbrev cX4_take : ByteArray := prog_6_method_2_code
def yX4_take : MethodName := ⟨RX4, "take", "(LBreathStreet$Moment;LBreathStreet$Street;I)V"⟩
abbrev cX4_giveBack : ByteArray := prog_6_method_3_code
def yX4_giveBack : MethodName := ⟨RX4, "giveBack", "(LBreathStreet$Moment;LBreathStreet$Street;)V"⟩
def RX5 : String := "BreathStreet$Moment"
def TX5 : u_T := fun k => match k with
  | 0 => ("BreathStreet$Moment", "steps", "I", false)
  | 1 => ("BreathStreet$Moment", "breath", "I", false)
  | 2 => ("BreathStreet$Moment", "barrel", "I", false)
  | _ => ("BreathStreet$Moment", "pulled", "I", false)
def tyX5 : Nat → FieldType := fun k => match k with
  | 0 => .int
  | 1 => .int
  | 2 => .int
  | _ => .int
abbrev wsX50 : List Cond := u_ws RX5 TX5 4
theorem nmX5 : ∀ a, a < 4 → ∀ b, b < 4 → a ≠ b → (TX5 a).2.1 ≠ (TX5 b).2.1 := by decide +kernel
theorem tyX5_ok : ∀ k, k < 4 → parseFieldDescriptor (TX5 k).2.2.1 = some (tyX5 k) := by decide +kernel
abbrev cX5_init : ByteArray := prog_7_method_1_code
def yX5_init : MethodName := ⟨RX5, "<init>", "()V"⟩
abbrev cX5_startAt : ByteArray := prog_7_method_2_code
def yX5_startAt : MethodName := ⟨RX5, "startAt", "(I)V"⟩
abbrev cX5_become : ByteArray := prog_7_method_3_code
def yX5_become : MethodName := ⟨RX5, "become", "(LBreathStreet$Moment;)V"⟩
abbrev cX5_pass : ByteArray := prog_7_method_4_code
def yX5_pass : MethodName := ⟨RX5, "pass", "(IZ)V"⟩
abbrev cX5_canGo : ByteArray := prog_7_method_5_code
def yX5_canGo : MethodName := ⟨RX5, "canGo", "(LBreathStreet$Street;I)Z"⟩
abbrev cX5_go : ByteArray := prog_7_method_6_code
def yX5_go : MethodName := ⟨RX5, "go", "(LBreathStreet$Street;IZ)I"⟩
def RX6 : String := "BreathStreet$Seams"
def TX6 : u_T := fun k => match k with
  | 0 => ("BreathStreet$Seams", "fields", "[I", true)
  | 1 => ("BreathStreet$Seams", "turns", "[I", true)
  | 2 => ("BreathStreet$Seams", "firsts", "[I", true)
  | 3 => ("BreathStreet$Seams", "widths", "[I", true)
  | _ => ("BreathStreet$Seams", "count", "I", false)
def tyX6 : Nat → FieldType := fun k => match k with
  | 0 => .array .int
  | 1 => .array .int
  | 2 => .array .int
  | 3 => .array .int
  | _ => .int
abbrev wsX60 : List Cond := u_ws RX6 TX6 5
theorem nmX6 : ∀ a, a < 5 → ∀ b, b < 5 → a ≠ b → (TX6 a).2.1 ≠ (TX6 b).2.1 := by decide +kernel
theorem tyX6_ok : ∀ k, k < 5 → parseFieldDescriptor (TX6 k).2.2.1 = some (tyX6 k) := by decide +kernel
abbrev cX6_init : ByteArray := prog_8_method_1_code
def yX6_init : MethodName := ⟨RX6, "<init>", "()V"⟩
abbrev cX6_has : ByteArray := prog_8_method_2_code
def yX6_has : MethodName := ⟨RX6, "has", "(I)Z"⟩
abbrev cX6_hasAll : ByteArray := prog_8_method_3_code
def yX6_hasAll : MethodName := ⟨RX6, "hasAll", "(I)Z"⟩
abbrev cX6_add : ByteArray := prog_8_method_4_code
def yX6_add : MethodName := ⟨RX6, "add", "(IIII)V"⟩
abbrev cX6_staysOpen : ByteArray := prog_8_method_5_code
def yX6_staysOpen : MethodName := ⟨RX6, "staysOpen", "(II)I"⟩
abbrev cX6_staysShut : ByteArray := prog_8_method_6_code
def yX6_staysShut : MethodName := ⟨RX6, "staysShut", "(II)I"⟩
abbrev cX6_openSet : ByteArray := prog_8_method_7_code
def yX6_openSet : MethodName := ⟨RX6, "openSet", "(I)I"⟩
abbrev cX6_letsThrough : ByteArray := prog_8_method_8_code
def yX6_letsThrough : MethodName := ⟨RX6, "letsThrough", "(II)Z"⟩
abbrev cX6_roundOf : ByteArray := prog_8_method_9_code
def yX6_roundOf : MethodName := ⟨RX6, "roundOf", "(I)I"⟩
abbrev cX6_allOpenFor : ByteArray := prog_8_method_10_code
def yX6_allOpenFor : MethodName := ⟨RX6, "allOpenFor", "(II)I"⟩
abbrev cX6_someShutFor : ByteArray := prog_8_method_11_code
def yX6_someShutFor : MethodName := ⟨RX6, "someShutFor", "(II)I"⟩
abbrev cX6_waitFor : ByteArray := prog_8_method_12_code
def yX6_waitFor : MethodName := ⟨RX6, "waitFor", "(II)I"⟩
abbrev cX6_longestRun : ByteArray := prog_8_method_13_code
def yX6_longestRun : MethodName := ⟨RX6, "longestRun", "(I)I"⟩
def RX7 : String := "BreathStreet$Sights"
def TX7 : u_T := fun k => match k with
  | 0 => ("BreathStreet$Sights", "fields", "[I", true)
  | 1 => ("BreathStreet$Sights", "breaths", "[I", true)
  | 2 => ("BreathStreet$Sights", "heights", "[I", true)
  | _ => ("BreathStreet$Sights", "seen", "I", false)
def tyX7 : Nat → FieldType := fun k => match k with
  | 0 => .array .int
  | 1 => .array .int
  | 2 => .array .int
  | _ => .int
abbrev wsX70 : List Cond := u_ws RX7 TX7 4
theorem nmX7 : ∀ a, a < 4 → ∀ b, b < 4 → a ≠ b → (TX7 a).2.1 ≠ (TX7 b).2.1 := by decide +kernel
theorem tyX7_ok : ∀ k, k < 4 → parseFieldDescriptor (TX7 k).2.2.1 = some (tyX7 k) := by decide +kernel
abbrev cX7_init : ByteArray := prog_9_method_1_code
def yX7_init : MethodName := ⟨RX7, "<init>", "()V"⟩
abbrev cX7_note : ByteArray := prog_9_method_2_code
def yX7_note : MethodName := ⟨RX7, "note", "(III)I"⟩
abbrev cX7_countTurns : ByteArray := prog_9_method_3_code
def yX7_countTurns : MethodName := ⟨RX7, "countTurns", "(LBreathStreet$Ground;I)I"⟩
abbrev cX7_findTurn : ByteArray := prog_9_method_4_code
def yX7_findTurn : MethodName := ⟨RX7, "findTurn", "(LBreathStreet$Ground;II)I"⟩
abbrev cX7_explains : ByteArray := prog_9_method_5_code
def yX7_explains : MethodName := ⟨RX7, "explains", "(LBreathStreet$Ground;III)Z"⟩
def RX8 : String := "BreathStreet$Street"
def TX8 : u_T := fun k => match k with
  | 0 => ("BreathStreet$Street", "ground", "LBreathStreet$Ground;", true)
  | 1 => ("BreathStreet$Street", "seams", "LBreathStreet$Seams;", true)
  | 2 => ("BreathStreet$Street", "houseFields", "[I", true)
  | 3 => ("BreathStreet$Street", "slacks", "[I", true)
  | 4 => ("BreathStreet$Street", "houses", "I", false)
  | _ => ("BreathStreet$Street", "barrelTold", "I", false)
def tyX8 : Nat → FieldType := fun k => match k with
  | 0 => .object "BreathStreet$Ground"
  | 1 => .object "BreathStreet$Seams"
  | 2 => .array .int
  | 3 => .array .int
  | 4 => .int
  | _ => .int
abbrev wsX80 : List Cond := u_ws RX8 TX8 6
theorem nmX8 : ∀ a, a < 6 → ∀ b, b < 6 → a ≠ b → (TX8 a).2.1 ≠ (TX8 b).2.1 := by decide +kernel
theorem tyX8_ok : ∀ k, k < 6 → parseFieldDescriptor (TX8 k).2.2.1 = some (tyX8 k) := by decide +kernel
abbrev cX8_init : ByteArray := prog_10_method_1_code
def yX8_init : MethodName := ⟨RX8, "<init>", "()V"⟩
abbrev cX8_clear : ByteArray := prog_10_method_2_code
def yX8_clear : MethodName := ⟨RX8, "clear", "()V"⟩
abbrev cX8_barrelStart : ByteArray := prog_10_method_3_code
def yX8_barrelStart : MethodName := ⟨RX8, "barrelStart", "()I"⟩
abbrev cX8_hasHouse : ByteArray := prog_10_method_4_code
def yX8_hasHouse : MethodName := ⟨RX8, "hasHouse", "(I)Z"⟩
abbrev cX8_addHouse : ByteArray := prog_10_method_5_code
def yX8_addHouse : MethodName := ⟨RX8, "addHouse", "(II)V"⟩
abbrev cX8_strain : ByteArray := prog_10_method_6_code
def yX8_strain : MethodName := ⟨RX8, "strain", "(II)I"⟩
abbrev cX8_strainRound : ByteArray := prog_10_method_7_code
def yX8_strainRound : MethodName := ⟨RX8, "strainRound", "(I)I"⟩
abbrev cX8_crackedSet : ByteArray := prog_10_method_8_code
def yX8_crackedSet : MethodName := ⟨RX8, "crackedSet", "(I)I"⟩
abbrev cX8_firstCrack : ByteArray := prog_10_method_9_code
def yX8_firstCrack : MethodName := ⟨RX8, "firstCrack", "(II)I"⟩
abbrev cX8_slackNeeded : ByteArray := prog_10_method_10_code
def yX8_slackNeeded : MethodName := ⟨RX8, "slackNeeded", "(I)I"⟩
abbrev cX8_neediestHouse : ByteArray := prog_10_method_11_code
def yX8_neediestHouse : MethodName := ⟨RX8, "neediestHouse", "()I"⟩
def RX9 : String := "BreathStreet$Text"
def TX9 : u_T := fun k => match k with
  | 0 => ("BreathStreet$Text", "letters", "[I", true)
  | 1 => ("BreathStreet$Text", "length", "I", false)
  | 2 => ("BreathStreet$Text", "at", "I", false)
  | 3 => ("BreathStreet$Text", "faultKind", "I", false)
  | _ => ("BreathStreet$Text", "faultAt", "I", false)
def tyX9 : Nat → FieldType := fun k => match k with
  | 0 => .array .int
  | 1 => .int
  | 2 => .int
  | 3 => .int
  | _ => .int
abbrev wsX90 : List Cond := u_ws RX9 TX9 5
theorem nmX9 : ∀ a, a < 5 → ∀ b, b < 5 → a ≠ b → (TX9 a).2.1 ≠ (TX9 b).2.1 := by decide +kernel
theorem tyX9_ok : ∀ k, k < 5 → parseFieldDescriptor (TX9 k).2.2.1 = some (tyX9 k) := by decide +kernel
abbrev cX9_init : ByteArray := prog_11_method_1_code
def yX9_init : MethodName := ⟨RX9, "<init>", "()V"⟩
abbrev cX9_add : ByteArray := prog_11_method_2_code
def yX9_add : MethodName := ⟨RX9, "add", "(I)I"⟩
abbrev cX9_readInto : ByteArray := prog_11_method_3_code
def yX9_readInto : MethodName := ⟨RX9, "readInto", "(LBreathStreet$Street;)I"⟩
abbrev cX9_readClause : ByteArray := prog_11_method_4_code
def yX9_readClause : MethodName := ⟨RX9, "readClause", "(LBreathStreet$Street;)V"⟩
abbrev cX9_readField : ByteArray := prog_11_method_5_code
def yX9_readField : MethodName := ⟨RX9, "readField", "(LBreathStreet$Ground;)V"⟩
abbrev cX9_readHouse : ByteArray := prog_11_method_6_code
def yX9_readHouse : MethodName := ⟨RX9, "readHouse", "(LBreathStreet$Street;)V"⟩
abbrev cX9_readSeam : ByteArray := prog_11_method_7_code
def yX9_readSeam : MethodName := ⟨RX9, "readSeam", "(LBreathStreet$Seams;I)V"⟩
abbrev cX9_readBarrel : ByteArray := prog_11_method_8_code
def yX9_readBarrel : MethodName := ⟨RX9, "readBarrel", "(LBreathStreet$Street;)V"⟩
abbrev cX9_readWord : ByteArray := prog_11_method_9_code
def yX9_readWord : MethodName := ⟨RX9, "readWord", "(Z)V"⟩
abbrev cX9_readNumber : ByteArray := prog_11_method_10_code
def yX9_readNumber : MethodName := ⟨RX9, "readNumber", "(II)I"⟩
abbrev cX9_readEnd : ByteArray := prog_11_method_11_code
def yX9_readEnd : MethodName := ⟨RX9, "readEnd", "()V"⟩
abbrev cX9_skipBlanks : ByteArray := prog_11_method_12_code
def yX9_skipBlanks : MethodName := ⟨RX9, "skipBlanks", "()V"⟩
abbrev cX9_letterHere : ByteArray := prog_11_method_13_code
def yX9_letterHere : MethodName := ⟨RX9, "letterHere", "()I"⟩
abbrev cX9_isFigure : ByteArray := prog_11_method_14_code
def yX9_isFigure : MethodName := ⟨RX9, "isFigure", "(I)Z"⟩
abbrev cX9_blame : ByteArray := prog_11_method_15_code
def yX9_blame : MethodName := ⟨RX9, "blame", "(II)V"⟩
def RX10 : String := "BreathStreet$Trail"
def TX10 : u_T := fun k => match k with
  | 0 => ("BreathStreet$Trail", "steps", "[I", true)
  | 1 => ("BreathStreet$Trail", "breaths", "[I", true)
  | 2 => ("BreathStreet$Trail", "barrels", "[I", true)
  | 3 => ("BreathStreet$Trail", "pulls", "[I", true)
  | 4 => ("BreathStreet$Trail", "next", "I", false)
  | _ => ("BreathStreet$Trail", "count", "I", false)
def tyX10 : Nat → FieldType := fun k => match k with
  | 0 => .array .int
  | 1 => .array .int
  | 2 => .array .int
  | 3 => .array .int
  | 4 => .int
  | _ => .int
abbrev wsX100 : List Cond := u_ws RX10 TX10 6
theorem nmX10 : ∀ a, a < 6 → ∀ b, b < 6 → a ≠ b → (TX10 a).2.1 ≠ (TX10 b).2.1 := by decide +kernel
theorem tyX10_ok : ∀ k, k < 6 → parseFieldDescriptor (TX10 k).2.2.1 = some (tyX10 k) := by decide +kernel
abbrev cX10_init : ByteArray := prog_12_method_1_code
def yX10_init : MethodName := ⟨RX10, "<init>", "()V"⟩
abbrev cX10_note : ByteArray := prog_12_method_2_code
def yX10_note : MethodName := ⟨RX10, "note", "(LBreathStreet$Moment;)V"⟩
abbrev cX10_takeBack : ByteArray := prog_12_method_3_code
def yX10_takeBack : MethodName := ⟨RX10, "takeBack", "(LBreathStreet$Moment;I)V"⟩
def RX11 : String := "BreathStreet"
def TX11 : u_T := fun k => match k with
  | 0 => ("BreathStreet", "text", "LBreathStreet$Text;", true)
  | 1 => ("BreathStreet", "theStreet", "LBreathStreet$Street;", false)
  | 2 => ("BreathStreet", "spare", "LBreathStreet$Street;", false)
  | 3 => ("BreathStreet", "faultAt", "I", false)
  | 4 => ("BreathStreet", "now", "LBreathStreet$Moment;", true)
  | 5 => ("BreathStreet", "trail", "LBreathStreet$Trail;", true)
  | 6 => ("BreathStreet", "firstImage", "LBreathStreet$Image;", true)
  | 7 => ("BreathStreet", "secondImage", "LBreathStreet$Image;", true)
  | 8 => ("BreathStreet", "home", "LBreathStreet$Home;", true)
  | 9 => ("BreathStreet", "cough", "LBreathStreet$Cough;", true)
  | 10 => ("BreathStreet", "sights", "LBreathStreet$Sights;", true)
  | 11 => ("BreathStreet", "book", "LBreathStreet$Book;", true)
  | _ => ("BreathStreet", "theSeed", "I", false)
def tyX11 : Nat → FieldType := fun k => match k with
  | 0 => .object "BreathStreet$Text"
  | 1 => .object "BreathStreet$Street"
  | 2 => .object "BreathStreet$Street"
  | 3 => .int
  | 4 => .object "BreathStreet$Moment"
  | 5 => .object "BreathStreet$Trail"
  | 6 => .object "BreathStreet$Image"
  | 7 => .object "BreathStreet$Image"
  | 8 => .object "BreathStreet$Home"
  | 9 => .object "BreathStreet$Cough"
  | 10 => .object "BreathStreet$Sights"
  | 11 => .object "BreathStreet$Book"
  | _ => .int
abbrev wsX110 : List Cond := u_ws RX11 TX11 13
theorem nmX11 : ∀ a, a < 13 → ∀ b, b < 13 → a ≠ b → (TX11 a).2.1 ≠ (TX11 b).2.1 := by decide +kernel
theorem tyX11_ok : ∀ k, k < 13 → parseFieldDescriptor (TX11 k).2.2.1 = some (tyX11 k) := by decide +kernel
abbrev cX11_init : ByteArray := prog_1_method_1_code
def yX11_init : MethodName := ⟨RX11, "<init>", "()V"⟩
abbrev cX11_feed : ByteArray := prog_1_method_2_code
def yX11_feed : MethodName := ⟨RX11, "feed", "(I)I"⟩
abbrev cX11_street : ByteArray := prog_1_method_3_code
def yX11_street : MethodName := ⟨RX11, "street", "()I"⟩
abbrev cX11_fault : ByteArray := prog_1_method_4_code
def yX11_fault : MethodName := ⟨RX11, "fault", "()I"⟩
abbrev cX11_told : ByteArray := prog_1_method_5_code
def yX11_told : MethodName := ⟨RX11, "told", "(I)I"⟩
abbrev cX11_field : ByteArray := prog_1_method_6_code
def yX11_field : MethodName := ⟨RX11, "field", "(II)I"⟩
abbrev cX11_height : ByteArray := prog_1_method_7_code
def yX11_height : MethodName := ⟨RX11, "height", "(II)I"⟩
abbrev cX11_house : ByteArray := prog_1_method_8_code
def yX11_house : MethodName := ⟨RX11, "house", "(II)I"⟩
abbrev cX11_seam : ByteArray := prog_1_method_9_code
def yX11_seam : MethodName := ⟨RX11, "seam", "(II)I"⟩
abbrev cX11_step : ByteArray := prog_1_method_10_code
def yX11_step : MethodName := ⟨RX11, "step", "(I)I"⟩
abbrev cX11_hold : ByteArray := prog_1_method_11_code
def yX11_hold : MethodName := ⟨RX11, "hold", "(I)I"⟩
abbrev cX11_roll : ByteArray := prog_1_method_12_code
def yX11_roll : MethodName := ⟨RX11, "roll", "(I)I"⟩
abbrev cX11_slack : ByteArray := prog_1_method_13_code
def yX11_slack : MethodName := ⟨RX11, "slack", "(II)I"⟩
abbrev cX11_drift : ByteArray := prog_1_method_14_code
def yX11_drift : MethodName := ⟨RX11, "drift", "(I)I"⟩
abbrev cX11_undo : ByteArray := prog_1_method_15_code
def yX11_undo : MethodName := ⟨RX11, "undo", "(I)I"⟩
abbrev cX11_cracks : ByteArray := prog_1_method_16_code
def yX11_cracks : MethodName := ⟨RX11, "cracks", "(I)I"⟩
abbrev cX11_worst : ByteArray := prog_1_method_17_code
def yX11_worst : MethodName := ⟨RX11, "worst", "()I"⟩
abbrev cX11_water : ByteArray := prog_1_method_18_code
def yX11_water : MethodName := ⟨RX11, "water", "(II)I"⟩
abbrev cX11_mill : ByteArray := prog_1_method_19_code
def yX11_mill : MethodName := ⟨RX11, "mill", "(II)I"⟩
abbrev cX11_bestMill : ByteArray := prog_1_method_20_code
def yX11_bestMill : MethodName := ⟨RX11, "bestMill", "()I"⟩
abbrev cX11_soonest : ByteArray := prog_1_method_21_code
def yX11_soonest : MethodName := ⟨RX11, "soonest", "(II)I"⟩
abbrev cX11_least : ByteArray := prog_1_method_22_code
def yX11_least : MethodName := ⟨RX11, "least", "(IIII)I"⟩
abbrev cX11_open : ByteArray := prog_1_method_23_code
def yX11_open : MethodName := ⟨RX11, "open", "(I)I"⟩
abbrev cX11_longest : ByteArray := prog_1_method_24_code
def yX11_longest : MethodName := ⟨RX11, "longest", "(I)I"⟩
abbrev cX11_hear : ByteArray := prog_1_method_25_code
def yX11_hear : MethodName := ⟨RX11, "hear", "(II)I"⟩
abbrev cX11_began : ByteArray := prog_1_method_26_code
def yX11_began : MethodName := ⟨RX11, "began", "(I)I"⟩
abbrev cX11_watch : ByteArray := prog_1_method_27_code
def yX11_watch : MethodName := ⟨RX11, "watch", "()I"⟩
abbrev cX11_see : ByteArray := prog_1_method_28_code
def yX11_see : MethodName := ⟨RX11, "see", "(III)I"⟩
abbrev cX11_rounds : ByteArray := prog_1_method_29_code
def yX11_rounds : MethodName := ⟨RX11, "rounds", "(II)I"⟩
abbrev cX11_cellars : ByteArray := prog_1_method_30_code
def yX11_cellars : MethodName := ⟨RX11, "cellars", "(II)I"⟩
abbrev cX11_sluices : ByteArray := prog_1_method_31_code
def yX11_sluices : MethodName := ⟨RX11, "sluices", "(III)I"⟩
abbrev cX11_odds : ByteArray := prog_1_method_32_code
def yX11_odds : MethodName := ⟨RX11, "odds", "(IIII)I"⟩
abbrev cX11_write : ByteArray := prog_1_method_33_code
def yX11_write : MethodName := ⟨RX11, "write", "(I)I"⟩
abbrev cX11_judge : ByteArray := prog_1_method_34_code
def yX11_judge : MethodName := ⟨RX11, "judge", "(I)I"⟩
abbrev cX11_tear : ByteArray := prog_1_method_35_code
def yX11_tear : MethodName := ⟨RX11, "tear", "()I"⟩
abbrev cX11_seed : ByteArray := prog_1_method_36_code
def yX11_seed : MethodName := ⟨RX11, "seed", "(I)I"⟩
abbrev cX11_keep : ByteArray := prog_1_method_37_code
def yX11_keep : MethodName := ⟨RX11, "keep", "(I)I"⟩
abbrev cX11_goBack : ByteArray := prog_1_method_38_code
def yX11_goBack : MethodName := ⟨RX11, "goBack", "(I)I"⟩
abbrev cX11_letPass : ByteArray := prog_1_method_39_code
def yX11_letPass : MethodName := ⟨RX11, "letPass", "(IZ)I"⟩
abbrev cX11_draw : ByteArray := prog_1_method_40_code
def yX11_draw : MethodName := ⟨RX11, "draw", "(I)I"⟩
abbrev cX11_forgetNotes : ByteArray := prog_1_method_41_code
def yX11_forgetNotes : MethodName := ⟨RX11, "forgetNotes", "()V"⟩
abbrev cX11_imageOf : ByteArray := prog_1_method_42_code
def yX11_imageOf : MethodName := ⟨RX11, "imageOf", "(I)LBreathStreet$Image;"⟩
abbrev cX11_isOutside : ByteArray := prog_1_method_43_code
def yX11_isOutside : MethodName := ⟨RX11, "isOutside", "(III)Z"⟩
abbrev cX11_leastCommon : ByteArray := prog_1_method_44_code
def yX11_leastCommon : MethodName := ⟨RX11, "leastCommon", "(II)I"⟩
abbrev cX11_swell : ByteArray := prog_1_method_45_code
def yX11_swell : MethodName := ⟨RX11, "swell", "(II)I"⟩
abbrev cX11_besideOf : ByteArray := prog_1_method_46_code
def yX11_besideOf : MethodName := ⟨RX11, "besideOf", "(II)I"⟩
def RX12 : String := "BreathStreetModel"
def TX12 : u_T := fun k => match k with
  | 0 => ("BreathStreetModel", "w", "[I", true)
  | 1 => ("BreathStreetModel", "isKept", "[Z", true)
  | 2 => ("BreathStreetModel", "field", "[I", true)
  | 3 => ("BreathStreetModel", "house", "[I", true)
  | 4 => ("BreathStreetModel", "seam", "[I", true)
  | 5 => ("BreathStreetModel", "fields", "I", false)
  | 6 => ("BreathStreetModel", "houses", "I", false)
  | 7 => ("BreathStreetModel", "seams", "I", false)
  | 8 => ("BreathStreetModel", "newFields", "I", false)
  | 9 => ("BreathStreetModel", "newHouses", "I", false)
  | 10 => ("BreathStreetModel", "newSeams", "I", false)
  | 11 => ("BreathStreetModel", "newBarrel", "I", false)
  | 12 => ("BreathStreetModel", "isBarrel", "Z", false)
  | 13 => ("BreathStreetModel", "text", "[I", true)
  | 14 => ("BreathStreetModel", "textSize", "I", false)
  | 15 => ("BreathStreetModel", "at", "I", false)
  | 16 => ("BreathStreetModel", "first", "I", false)
  | 17 => ("BreathStreetModel", "faultOf", "I", false)
  | 18 => ("BreathStreetModel", "fault", "I", false)
  | 19 => ("BreathStreetModel", "round", "I", false)
  | 20 => ("BreathStreetModel", "undos", "[I", true)
  | 21 => ("BreathStreetModel", "undoMany", "I", false)
  | 22 => ("BreathStreetModel", "least", "[I", true)
  | 23 => ("BreathStreetModel", "heardField", "[I", true)
  | 24 => ("BreathStreetModel", "heardAgo", "[I", true)
  | 25 => ("BreathStreetModel", "heardMany", "I", false)
  | 26 => ("BreathStreetModel", "parts", "[I", true)
  | 27 => ("BreathStreetModel", "seenField", "[I", true)
  | 28 => ("BreathStreetModel", "seenBreath", "[I", true)
  | 29 => ("BreathStreetModel", "seenHeight", "[I", true)
  | 30 => ("BreathStreetModel", "seenMany", "I", false)
  | 31 => ("BreathStreetModel", "part", "[I", true)
  | 32 => ("BreathStreetModel", "book", "[I", true)
  | _ => ("BreathStreetModel", "written", "I", false)
def tyX12 : Nat → FieldType := fun k => match k with
  | 0 => .array .int
  | 1 => .array .boolean
  | 2 => .array .int
  | 3 => .array .int
  | 4 => .array .int
  | 5 => .int
  | 6 => .int
  | 7 => .int
  | 8 => .int
  | 9 => .int
  | 10 => .int
  | 11 => .int
  | 12 => .boolean
  | 13 => .array .int
  | 14 => .int
  | 15 => .int
  | 16 => .int
  | 17 => .int
  | 18 => .int
  | 19 => .int
  | 20 => .array .int
  | 21 => .int
  | 22 => .array .int
  | 23 => .array .int
  | 24 => .array .int
  | 25 => .int
  | 26 => .array .int
  | 27 => .array .int
  | 28 => .array .int
  | 29 => .array .int
  | 30 => .int
  | 31 => .array .int
  | 32 => .array .int
  | _ => .int
abbrev wsX120 : List Cond := u_ws RX12 TX12 34
theorem nmX12 : ∀ a, a < 34 → ∀ b, b < 34 → a ≠ b → (TX12 a).2.1 ≠ (TX12 b).2.1 := by decide +kernel
theorem tyX12_ok : ∀ k, k < 34 → parseFieldDescriptor (TX12 k).2.2.1 = some (tyX12 k) := by decide +kernel
abbrev cX12_init : ByteArray := prog_14_method_1_code
def yX12_init : MethodName := ⟨RX12, "<init>", "()V"⟩
abbrev cX12_in : ByteArray := prog_14_method_3_code
def yX12_in : MethodName := ⟨RX12, "in", "(JJJ)Z"⟩
abbrev cX12_one : ByteArray := prog_14_method_4_code
def yX12_one : MethodName := ⟨RX12, "one", "(Z)I"⟩
abbrev cX12_has : ByteArray := prog_14_method_5_code
def yX12_has : MethodName := ⟨RX12, "has", "(II)Z"⟩
abbrev cX12_ones : ByteArray := prog_14_method_6_code
def yX12_ones : MethodName := ⟨RX12, "ones", "(I)I"⟩
abbrev cX12_common : ByteArray := prog_14_method_7_code
def yX12_common : MethodName := ⟨RX12, "common", "(II)I"⟩
abbrev cX12_feed : ByteArray := prog_14_method_8_code
def yX12_feed : MethodName := ⟨RX12, "feed", "(I)I"⟩
abbrev cX12_here : ByteArray := prog_14_method_9_code
def yX12_here : MethodName := ⟨RX12, "here", "()I"⟩
abbrev cX12_want : ByteArray := prog_14_method_10_code
def yX12_want : MethodName := ⟨RX12, "want", "(ZII)Z"⟩
abbrev cX12_takeNumber : ByteArray := prog_14_method_11_code
def yX12_takeNumber : MethodName := ⟨RX12, "takeNumber", "(II)I"⟩
abbrev cX12_takeField : ByteArray := prog_14_method_12_code
def yX12_takeField : MethodName := ⟨RX12, "takeField", "()V"⟩
abbrev cX12_takeHouse : ByteArray := prog_14_method_13_code
def yX12_takeHouse : MethodName := ⟨RX12, "takeHouse", "()V"⟩
abbrev cX12_takeSeam : ByteArray := prog_14_method_14_code
def yX12_takeSeam : MethodName := ⟨RX12, "takeSeam", "()V"⟩
abbrev cX12_takeClause : ByteArray := prog_14_method_15_code
def yX12_takeClause : MethodName := ⟨RX12, "takeClause", "()V"⟩
abbrev cX12_street : ByteArray := prog_14_method_16_code
def yX12_street : MethodName := ⟨RX12, "street", "()I"⟩
abbrev cX12_fault : ByteArray := prog_14_method_17_code
def yX12_fault : MethodName := ⟨RX12, "fault", "()I"⟩
abbrev cX12_isField : ByteArray := prog_14_method_18_code
def yX12_isField : MethodName := ⟨RX12, "isField", "(I)Z"⟩
abbrev cX12_heightBy : ByteArray := prog_14_method_19_code
def yX12_heightBy : MethodName := ⟨RX12, "heightBy", "(IIIII)I"⟩
abbrev cX12_heightOf : ByteArray := prog_14_method_20_code
def yX12_heightOf : MethodName := ⟨RX12, "heightOf", "(II)I"⟩
abbrev cX12_leanOf : ByteArray := prog_14_method_21_code
def yX12_leanOf : MethodName := ⟨RX12, "leanOf", "(II)I"⟩
abbrev cX12_size : ByteArray := prog_14_method_22_code
def yX12_size : MethodName := ⟨RX12, "size", "(I)I"⟩
abbrev cX12_isSeamOpen : ByteArray := prog_14_method_23_code
def yX12_isSeamOpen : MethodName := ⟨RX12, "isSeamOpen", "(II)Z"⟩
abbrev cX12_cracksAt : ByteArray := prog_14_method_24_code
def yX12_cracksAt : MethodName := ⟨RX12, "cracksAt", "(II)Z"⟩
abbrev cX12_openNow : ByteArray := prog_14_method_25_code
def yX12_openNow : MethodName := ⟨RX12, "openNow", "()I"⟩
abbrev cX12_crackNow : ByteArray := prog_14_method_26_code
def yX12_crackNow : MethodName := ⟨RX12, "crackNow", "()I"⟩
abbrev cX12_told : ByteArray := prog_14_method_27_code
def yX12_told : MethodName := ⟨RX12, "told", "(I)I"⟩
abbrev cX12_field : ByteArray := prog_14_method_28_code
def yX12_field : MethodName := ⟨RX12, "field", "(II)I"⟩
abbrev cX12_height : ByteArray := prog_14_method_29_code
def yX12_height : MethodName := ⟨RX12, "height", "(II)I"⟩
abbrev cX12_needs : ByteArray := prog_14_method_30_code
def yX12_needs : MethodName := ⟨RX12, "needs", "(I)I"⟩
abbrev cX12_house : ByteArray := prog_14_method_31_code
def yX12_house : MethodName := ⟨RX12, "house", "(II)I"⟩
abbrev cX12_seam : ByteArray := prog_14_method_32_code
def yX12_seam : MethodName := ⟨RX12, "seam", "(II)I"⟩
abbrev cX12_remember : ByteArray := prog_14_method_33_code
def yX12_remember : MethodName := ⟨RX12, "remember", "()V"⟩
abbrev cX12_pass : ByteArray := prog_14_method_34_code
def yX12_pass : MethodName := ⟨RX12, "pass", "(II)I"⟩
abbrev cX12_step : ByteArray := prog_14_method_35_code
def yX12_step : MethodName := ⟨RX12, "step", "(I)I"⟩
abbrev cX12_hold : ByteArray := prog_14_method_36_code
def yX12_hold : MethodName := ⟨RX12, "hold", "(I)I"⟩
abbrev cX12_to : ByteArray := prog_14_method_37_code
def yX12_to : MethodName := ⟨RX12, "to", "(III)I"⟩
abbrev cX12_pulledBy : ByteArray := prog_14_method_38_code
def yX12_pulledBy : MethodName := ⟨RX12, "pulledBy", "(III)I"⟩
abbrev cX12_rollOn : ByteArray := prog_14_method_39_code
def yX12_rollOn : MethodName := ⟨RX12, "rollOn", "(II)I"⟩
abbrev cX12_roll : ByteArray := prog_14_method_40_code
def yX12_roll : MethodName := ⟨RX12, "roll", "(I)I"⟩
abbrev cX12_slack : ByteArray := prog_14_method_41_code
def yX12_slack : MethodName := ⟨RX12, "slack", "(II)I"⟩
abbrev cX12_draw : ByteArray := prog_14_method_42_code
def yX12_draw : MethodName := ⟨RX12, "draw", "(I)I"⟩
abbrev cX12_drift : ByteArray := prog_14_method_43_code
def yX12_drift : MethodName := ⟨RX12, "drift", "(I)I"⟩
abbrev cX12_undo : ByteArray := prog_14_method_44_code
def yX12_undo : MethodName := ⟨RX12, "undo", "(I)I"⟩
abbrev cX12_cracks : ByteArray := prog_14_method_45_code
def yX12_cracks : MethodName := ⟨RX12, "cracks", "(I)I"⟩
abbrev cX12_worst : ByteArray := prog_14_method_46_code
def yX12_worst : MethodName := ⟨RX12, "worst", "()I"⟩
abbrev cX12_flows : ByteArray := prog_14_method_47_code
def yX12_flows : MethodName := ⟨RX12, "flows", "(II)I"⟩
abbrev cX12_water : ByteArray := prog_14_method_48_code
def yX12_water : MethodName := ⟨RX12, "water", "(II)I"⟩
abbrev cX12_ground : ByteArray := prog_14_method_49_code
def yX12_ground : MethodName := ⟨RX12, "ground", "(II)I"⟩
abbrev cX12_mill : ByteArray := prog_14_method_50_code
def yX12_mill : MethodName := ⟨RX12, "mill", "(II)I"⟩
abbrev cX12_bestMill : ByteArray := prog_14_method_51_code
def yX12_bestMill : MethodName := ⟨RX12, "bestMill", "()I"⟩
abbrev cX12_soonest : ByteArray := prog_14_method_52_code
def yX12_soonest : MethodName := ⟨RX12, "soonest", "(II)I"⟩
abbrev cX12_leastBy : ByteArray := prog_14_method_53_code
def yX12_leastBy : MethodName := ⟨RX12, "leastBy", "(IIII)I"⟩
abbrev cX12_bestWay : ByteArray := prog_14_method_54_code
def yX12_bestWay : MethodName := ⟨RX12, "bestWay", "(III)I"⟩
abbrev cX12_findLeast : ByteArray := prog_14_method_55_code
def yX12_findLeast : MethodName := ⟨RX12, "findLeast", "(II)V"⟩
abbrev cX12_least : ByteArray := prog_14_method_56_code
def yX12_least : MethodName := ⟨RX12, "least", "(IIII)I"⟩
abbrev cX12_isSeamSet : ByteArray := prog_14_method_57_code
def yX12_isSeamSet : MethodName := ⟨RX12, "isSeamSet", "(I)Z"⟩
abbrev cX12_roundOfSeams : ByteArray := prog_14_method_58_code
def yX12_roundOfSeams : MethodName := ⟨RX12, "roundOfSeams", "(I)I"⟩
abbrev cX12_areOpen : ByteArray := prog_14_method_59_code
def yX12_areOpen : MethodName := ⟨RX12, "areOpen", "(II)Z"⟩
abbrev cX12_open : ByteArray := prog_14_method_60_code
def yX12_open : MethodName := ⟨RX12, "open", "(I)I"⟩
abbrev cX12_longest : ByteArray := prog_14_method_61_code
def yX12_longest : MethodName := ⟨RX12, "longest", "(I)I"⟩
abbrev cX12_hear : ByteArray := prog_14_method_62_code
def yX12_hear : MethodName := ⟨RX12, "hear", "(II)I"⟩
abbrev cX12_couldBegin : ByteArray := prog_14_method_63_code
def yX12_couldBegin : MethodName := ⟨RX12, "couldBegin", "(II)Z"⟩
abbrev cX12_began : ByteArray := prog_14_method_64_code
def yX12_began : MethodName := ⟨RX12, "began", "(I)I"⟩
abbrev cX12_greatestPart : ByteArray := prog_14_method_65_code
def yX12_greatestPart : MethodName := ⟨RX12, "greatestPart", "(I)I"⟩
abbrev cX12_watch : ByteArray := prog_14_method_66_code
def yX12_watch : MethodName := ⟨RX12, "watch", "()I"⟩
abbrev cX12_see : ByteArray := prog_14_method_67_code
def yX12_see : MethodName := ⟨RX12, "see", "(III)I"⟩
abbrev cX12_goesRound : ByteArray := prog_14_method_68_code
def yX12_goesRound : MethodName := ⟨RX12, "goesRound", "(III)Z"⟩
abbrev cX12_rounds : ByteArray := prog_14_method_69_code
def yX12_rounds : MethodName := ⟨RX12, "rounds", "(II)I"⟩
abbrev cX12_flooded : ByteArray := prog_14_method_70_code
def yX12_flooded : MethodName := ⟨RX12, "flooded", "(II)I"⟩
abbrev cX12_cellars : ByteArray := prog_14_method_71_code
def yX12_cellars : MethodName := ⟨RX12, "cellars", "(II)I"⟩
abbrev cX12_sluices : ByteArray := prog_14_method_72_code
def yX12_sluices : MethodName := ⟨RX12, "sluices", "(III)I"⟩
abbrev cX12_odds : ByteArray := prog_14_method_73_code
def yX12_odds : MethodName := ⟨RX12, "odds", "(IIII)I"⟩
abbrev cX12_write : ByteArray := prog_14_method_74_code
def yX12_write : MethodName := ⟨RX12, "write", "(I)I"⟩
abbrev cX12_judge : ByteArray := prog_14_method_75_code
def yX12_judge : MethodName := ⟨RX12, "judge", "(I)I"⟩
abbrev cX12_tear : ByteArray := prog_14_method_76_code
def yX12_tear : MethodName := ⟨RX12, "tear", "()I"⟩
abbrev cX12_seed : ByteArray := prog_14_method_77_code
def yX12_seed : MethodName := ⟨RX12, "seed", "(I)I"⟩
abbrev cX12_copy : ByteArray := prog_14_method_78_code
def yX12_copy : MethodName := ⟨RX12, "copy", "(II)V"⟩
abbrev cX12_keep : ByteArray := prog_14_method_79_code
def yX12_keep : MethodName := ⟨RX12, "keep", "(I)I"⟩
abbrev cX12_goBack : ByteArray := prog_14_method_80_code
def yX12_goBack : MethodName := ⟨RX12, "goBack", "(I)I"⟩
def RJ6 : String := "java/lang/Integer"
def TJ6 : u_T := fun k => match k with
  | _ => ("", "", "", false)
def tyJ6 : Nat → FieldType := fun k => match k with
  | _ => .int
abbrev wsJ60 : List Cond := u_ws RJ6 TJ6 0
theorem nmJ6 : ∀ a, a < 0 → ∀ b, b < 0 → a ≠ b → (TJ6 a).2.1 ≠ (TJ6 b).2.1 := by decide +kernel
theorem tyJ6_ok : ∀ k, k < 0 → parseFieldDescriptor (TJ6 k).2.2.1 = some (tyJ6 k) := by decide +kernel
abbrev cJ6_bitCount_0f7a4 : ByteArray := prog_15_method_49_code
def yJ6_bitCount_0f7a4 : MethodName := ⟨RJ6, "bitCount", "(I)I"⟩
def RJ9 : String := "java/lang/Math"
def TJ9 : u_T := fun k => match k with
  | _ => ("", "", "", false)
def tyJ9 : Nat → FieldType := fun k => match k with
  | _ => .int
abbrev wsJ90 : List Cond := u_ws RJ9 TJ9 0
theorem nmJ9 : ∀ a, a < 0 → ∀ b, b < 0 → a ≠ b → (TJ9 a).2.1 ≠ (TJ9 b).2.1 := by decide +kernel
theorem tyJ9_ok : ∀ k, k < 0 → parseFieldDescriptor (TJ9 k).2.2.1 = some (tyJ9 k) := by decide +kernel
abbrev cJ9_floorMod_7cf53 : ByteArray := prog_16_method_50_code
def yJ9_floorMod_7cf53 : MethodName := ⟨RJ9, "floorMod", "(II)I"⟩
abbrev cJ9_abs_0f7a4 : ByteArray := prog_16_method_59_code
def yJ9_abs_0f7a4 : MethodName := ⟨RJ9, "abs", "(I)I"⟩
abbrev cJ9_max_7cf53 : ByteArray := prog_16_method_65_code
def yJ9_max_7cf53 : MethodName := ⟨RJ9, "max", "(II)I"⟩
abbrev cJ9_min_7cf53 : ByteArray := prog_16_method_69_code
def yJ9_min_7cf53 : MethodName := ⟨RJ9, "min", "(II)I"⟩
def RJ10 : String := "java/lang/System"
def TJ10 : u_T := fun k => match k with
  | _ => ("", "", "", false)
def tyJ10 : Nat → FieldType := fun k => match k with
  | _ => .int
abbrev wsJ100 : List Cond := u_ws RJ10 TJ10 0
theorem nmJ10 : ∀ a, a < 0 → ∀ b, b < 0 → a ≠ b → (TJ10 a).2.1 ≠ (TJ10 b).2.1 := by decide +kernel
theorem tyJ10_ok : ∀ k, k < 0 → parseFieldDescriptor (TJ10 k).2.2.1 = some (tyJ10 k) := by decide +kernel
def RL : String := "BreathStreetLaw"
abbrev cL_law : ByteArray := code
def yL_law : MethodName := ⟨RL, "law", "([I)Z"⟩
abbrev vwCl : List vw_C := [(RX0, TX0, 4), (RX1, TX1, 5), (RX2, TX2, 7), (RX3, TX3, 3), (RX4, TX4, 4), (RX5, TX5, 4), (RX6, TX6, 5), (RX7, TX7, 4), (RX8, TX8, 6), (RX9, TX9, 5), (RX10, TX10, 6), (RX11, TX11, 13), (RX12, TX12, 34)]
theorem tw_0 : (Jvm.Cond.initialized "BreathStreetLaw") ∈ lw_tbl := List.mem_append_right _ (List.mem_of_getElem? (i := 0) (by decide +kernel))
theorem tw_1 : (Jvm.Cond.initialized "BreathStreet") ∈ lw_tbl := List.mem_append_right _ (List.mem_of_getElem? (i := 1) (by decide +kernel))
theorem tw_2 : (Jvm.Cond.initialized "BreathStreet$Text") ∈ lw_tbl := List.mem_append_right _ (List.mem_of_getElem? (i := 2) (by decide +kernel))
theorem tw_3 : (Jvm.Cond.initialized "BreathStreet$Street") ∈ lw_tbl := List.mem_append_right _ (List.mem_of_getElem? (i := 3) (by decide +kernel))
theorem tw_4 : (Jvm.Cond.initialized "BreathStreet$Ground") ∈ lw_tbl := List.mem_append_right _ (List.mem_of_getElem? (i := 4) (by decide +kernel))
theorem tw_5 : (Jvm.Cond.initialized "BreathStreet$Seams") ∈ lw_tbl := List.mem_append_right _ (List.mem_of_getElem? (i := 5) (by decide +kernel))
theorem tw_6 : (Jvm.Cond.initialized "BreathStreet$Moment") ∈ lw_tbl := List.mem_append_right _ (List.mem_of_getElem? (i := 6) (by decide +kernel))
theorem tw_7 : (Jvm.Cond.initialized "BreathStreet$Trail") ∈ lw_tbl := List.mem_append_right _ (List.mem_of_getElem? (i := 7) (by decide +kernel))
theorem tw_8 : (Jvm.Cond.initialized "BreathStreet$Image") ∈ lw_tbl := List.mem_append_right _ (List.mem_of_getElem? (i := 8) (by decide +kernel))
theorem tw_9 : (Jvm.Cond.initialized "BreathStreet$Home") ∈ lw_tbl := List.mem_append_right _ (List.mem_of_getElem? (i := 9) (by decide +kernel))
theorem tw_10 : (Jvm.Cond.initialized "BreathStreet$Cough") ∈ lw_tbl := List.mem_append_right _ (List.mem_of_getElem? (i := 10) (by decide +kernel))
theorem tw_11 : (Jvm.Cond.initialized "BreathStreet$Sights") ∈ lw_tbl := List.mem_append_right _ (List.mem_of_getElem? (i := 11) (by decide +kernel))
theorem tw_12 : (Jvm.Cond.initialized "BreathStreet$Book") ∈ lw_tbl := List.mem_append_right _ (List.mem_of_getElem? (i := 12) (by decide +kernel))
theorem tw_13 : (Jvm.Cond.initialized "BreathStreetModel") ∈ lw_tbl := List.mem_append_right _ (List.mem_of_getElem? (i := 13) (by decide +kernel))
theorem tw_14 : (Jvm.Cond.initialized "java/lang/Math") ∈ lw_tbl := List.mem_append_right _ (List.mem_of_getElem? (i := 14) (by decide +kernel))
theorem tw_15 : (Jvm.Cond.initialized "java/lang/Integer") ∈ lw_tbl := List.mem_append_right _ (List.mem_of_getElem? (i := 15) (by decide +kernel))
theorem tw_16 : (Jvm.Cond.initialized "java/lang/System") ∈ lw_tbl := List.mem_append_right _ (List.mem_of_getElem? (i := 16) (by decide +kernel))
theorem tw_17 : (Jvm.Cond.classLink "BreathStreetLaw" (7 : Nat) "BreathStreet") ∈ lw_tbl := List.mem_append_right _ (List.mem_of_getElem? (i := 17) (by decide +kernel))
theorem tw_18 : (Jvm.Cond.instantiable "BreathStreet" (13 : Nat)) ∈ lw_tbl := List.mem_append_right _ (List.mem_of_getElem? (i := 18) (by decide +kernel))
theorem tw_19 : (Jvm.Cond.methodLink "BreathStreetLaw" (9 : Nat) ({ cls := "BreathStreet", name := "<init>", desc := "()V" } : Jvm.MethodName)) ∈ lw_tbl := List.mem_append_right _ (List.mem_of_getElem? (i := 19) (by decide +kernel))
theorem tw_20 : (Jvm.Cond.instanceMethod ({ cls := "BreathStreet", name := "<init>", desc := "()V" } : Jvm.MethodName)) ∈ lw_tbl := List.mem_append_right _ (List.mem_of_getElem? (i := 20) (by decide +kernel))
theorem tw_21 : (Jvm.Cond.code ({ cls := "BreathStreet", name := "<init>", desc := "()V" } : Jvm.MethodName) prog_1_method_1_code (1 : Nat) (Option.none : Option Jvm.ClassFile.FieldType)) ∈ lw_tbl := List.mem_append_right _ (List.mem_of_getElem? (i := 21) (by decide +kernel))
theorem tw_22 : (Jvm.Cond.methodLink "BreathStreet" (1 : Nat) ({ cls := "java/lang/Object", name := "<init>", desc := "()V" } : Jvm.MethodName)) ∈ lw_tbl := List.mem_append_right _ (List.mem_of_getElem? (i := 22) (by decide +kernel))
theorem tw_23 : (Jvm.Cond.instanceMethod ({ cls := "java/lang/Object", name := "<init>", desc := "()V" } : Jvm.MethodName)) ∈ lw_tbl := List.mem_append_right _ (List.mem_of_getElem? (i := 23) (by decide +kernel))
theorem tw_24 : (Jvm.Cond.code ({ cls := "java/lang/Object", name := "<init>", desc := "()V" } : Jvm.MethodName) object_method_1_code (1 : Nat) (Option.none : Option Jvm.ClassFile.FieldType)) ∈ lw_tbl := List.mem_append_right _ (List.mem_of_getElem? (i := 24) (by decide +kernel))
theorem tw_25 : (Jvm.Cond.classLink "BreathStreet" (7 : Nat) "BreathStreet$Text") ∈ lw_tbl := List.mem_append_right _ (List.mem_of_getElem? (i := 25) (by decide +kernel))
theorem tw_26 : (Jvm.Cond.instantiable "BreathStreet$Text" (5 : Nat)) ∈ lw_tbl := List.mem_append_right _ (List.mem_of_getElem? (i := 26) (by decide +kernel))
theorem tw_27 : (Jvm.Cond.methodLinkNest "BreathStreet" (9 : Nat) ({ cls := "BreathStreet$Text", name := "<init>", desc := "()V" } : Jvm.MethodName) "BreathStreet") ∈ lw_tbl := List.mem_append_right _ (List.mem_of_getElem? (i := 27) (by decide +kernel))
theorem tw_28 : (Jvm.Cond.instanceMethod ({ cls := "BreathStreet$Text", name := "<init>", desc := "()V" } : Jvm.MethodName)) ∈ lw_tbl := List.mem_append_right _ (List.mem_of_getElem? (i := 28) (by decide +kernel))
theorem tw_29 : (Jvm.Cond.code ({ cls := "BreathStreet$Text", name := "<init>", desc := "()V" } : Jvm.MethodName) prog_11_method_1_code (1 : Nat) (Option.none : Option Jvm.ClassFile.FieldType)) ∈ lw_tbl := List.mem_append_right _ (List.mem_of_getElem? (i := 29) (by decide +kernel))
theorem tw_30 : (Jvm.Cond.methodLink "BreathStreet$Text" (3 : Nat) ({ cls := "java/lang/Object", name := "<init>", desc := "()V" } : Jvm.MethodName)) ∈ lw_tbl := List.mem_append_right _ (List.mem_of_getElem? (i := 30) (by decide +kernel))
theorem tw_31 : (Jvm.Cond.fieldLink "BreathStreet$Text" (9 : Nat) "BreathStreet$Text" "letters" "[I") ∈ lw_tbl := List.mem_append_right _ (List.mem_of_getElem? (i := 31) (by decide +kernel))
theorem tw_32 : (Jvm.Cond.fieldLink "BreathStreet$Text" (15 : Nat) "BreathStreet$Text" "length" "I") ∈ lw_tbl := List.mem_append_right _ (List.mem_of_getElem? (i := 32) (by decide +kernel))
theorem tw_33 : (Jvm.Cond.fieldLink "BreathStreet" (90 : Nat) "BreathStreet$Text" "length" "I") ∈ lw_tbl := List.mem_append_right _ (List.mem_of_getElem? (i := 33) (by decide +kernel))
theorem tw_34 : (Jvm.Cond.fieldLink "BreathStreet$Text" (19 : Nat) "BreathStreet$Text" "at" "I") ∈ lw_tbl := List.mem_append_right _ (List.mem_of_getElem? (i := 34) (by decide +kernel))
theorem tw_35 : (Jvm.Cond.fieldLink "BreathStreet$Text" (22 : Nat) "BreathStreet$Text" "faultKind" "I") ∈ lw_tbl := List.mem_append_right _ (List.mem_of_getElem? (i := 35) (by decide +kernel))
theorem tw_36 : (Jvm.Cond.fieldLink "BreathStreet$Text" (25 : Nat) "BreathStreet$Text" "faultAt" "I") ∈ lw_tbl := List.mem_append_right _ (List.mem_of_getElem? (i := 36) (by decide +kernel))
theorem tw_37 : (Jvm.Cond.fieldLink "BreathStreet" (102 : Nat) "BreathStreet$Text" "faultAt" "I") ∈ lw_tbl := List.mem_append_right _ (List.mem_of_getElem? (i := 37) (by decide +kernel))
theorem tw_38 : (Jvm.Cond.laysFinal "BreathStreet$Text" "BreathStreet$Text" "letters" "[I") ∈ lw_tbl := List.mem_append_right _ (List.mem_of_getElem? (i := 38) (by decide +kernel))
theorem tw_39 : (Jvm.Cond.soleField "BreathStreet$Text" "letters") ∈ lw_tbl := List.mem_append_right _ (List.mem_of_getElem? (i := 39) (by decide +kernel))
theorem tw_40 : (Jvm.Cond.lays "BreathStreet$Text" "BreathStreet$Text" "length" "I") ∈ lw_tbl := List.mem_append_right _ (List.mem_of_getElem? (i := 40) (by decide +kernel))
theorem tw_41 : (Jvm.Cond.soleField "BreathStreet$Text" "length") ∈ lw_tbl := List.mem_append_right _ (List.mem_of_getElem? (i := 41) (by decide +kernel))
theorem tw_42 : (Jvm.Cond.lays "BreathStreet$Text" "BreathStreet$Text" "at" "I") ∈ lw_tbl := List.mem_append_right _ (List.mem_of_getElem? (i := 42) (by decide +kernel))
theorem tw_43 : (Jvm.Cond.soleField "BreathStreet$Text" "at") ∈ lw_tbl := List.mem_append_right _ (List.mem_of_getElem? (i := 43) (by decide +kernel))
theorem tw_44 : (Jvm.Cond.lays "BreathStreet$Text" "BreathStreet$Text" "faultKind" "I") ∈ lw_tbl := List.mem_append_right _ (List.mem_of_getElem? (i := 44) (by decide +kernel))
theorem tw_45 : (Jvm.Cond.soleField "BreathStreet$Text" "faultKind") ∈ lw_tbl := List.mem_append_right _ (List.mem_of_getElem? (i := 45) (by decide +kernel))
theorem tw_46 : (Jvm.Cond.lays "BreathStreet$Text" "BreathStreet$Text" "faultAt" "I") ∈ lw_tbl := List.mem_append_right _ (List.mem_of_getElem? (i := 46) (by decide +kernel))
theorem tw_47 : (Jvm.Cond.soleField "BreathStreet$Text" "faultAt") ∈ lw_tbl := List.mem_append_right _ (List.mem_of_getElem? (i := 47) (by decide +kernel))
theorem tw_48 : (Jvm.Cond.superclass "BreathStreet$Text" "java/lang/Object") ∈ lw_tbl := List.mem_append_right _ (List.mem_of_getElem? (i := 48) (by decide +kernel))
theorem tw_49 : (Jvm.Cond.arrayClass Jvm.ClassFile.FieldType.int) ∈ lw_tbl := List.mem_append_right _ (List.mem_of_getElem? (i := 49) (by decide +kernel))
theorem tw_50 : (Jvm.Cond.classLink "BreathStreet" (16 : Nat) "BreathStreet$Street") ∈ lw_tbl := List.mem_append_right _ (List.mem_of_getElem? (i := 50) (by decide +kernel))
theorem tw_51 : (Jvm.Cond.instantiable "BreathStreet$Street" (6 : Nat)) ∈ lw_tbl := List.mem_append_right _ (List.mem_of_getElem? (i := 51) (by decide +kernel))
theorem tw_52 : (Jvm.Cond.methodLinkNest "BreathStreet" (18 : Nat) ({ cls := "BreathStreet$Street", name := "<init>", desc := "()V" } : Jvm.MethodName) "BreathStreet") ∈ lw_tbl := List.mem_append_right _ (List.mem_of_getElem? (i := 52) (by decide +kernel))
theorem tw_53 : (Jvm.Cond.instanceMethod ({ cls := "BreathStreet$Street", name := "<init>", desc := "()V" } : Jvm.MethodName)) ∈ lw_tbl := List.mem_append_right _ (List.mem_of_getElem? (i := 53) (by decide +kernel))
theorem tw_54 : (Jvm.Cond.code ({ cls := "BreathStreet$Street", name := "<init>", desc := "()V" } : Jvm.MethodName) prog_10_method_1_code (1 : Nat) (Option.none : Option Jvm.ClassFile.FieldType)) ∈ lw_tbl := List.mem_append_right _ (List.mem_of_getElem? (i := 54) (by decide +kernel))
theorem tw_55 : (Jvm.Cond.methodLink "BreathStreet$Street" (3 : Nat) ({ cls := "java/lang/Object", name := "<init>", desc := "()V" } : Jvm.MethodName)) ∈ lw_tbl := List.mem_append_right _ (List.mem_of_getElem? (i := 55) (by decide +kernel))
theorem tw_56 : (Jvm.Cond.classLink "BreathStreet$Street" (9 : Nat) "BreathStreet$Ground") ∈ lw_tbl := List.mem_append_right _ (List.mem_of_getElem? (i := 56) (by decide +kernel))
theorem tw_57 : (Jvm.Cond.instantiable "BreathStreet$Ground" (7 : Nat)) ∈ lw_tbl := List.mem_append_right _ (List.mem_of_getElem? (i := 57) (by decide +kernel))
theorem tw_58 : (Jvm.Cond.methodLinkNest "BreathStreet$Street" (11 : Nat) ({ cls := "BreathStreet$Ground", name := "<init>", desc := "()V" } : Jvm.MethodName) "BreathStreet") ∈ lw_tbl := List.mem_append_right _ (List.mem_of_getElem? (i := 58) (by decide +kernel))
theorem tw_59 : (Jvm.Cond.instanceMethod ({ cls := "BreathStreet$Ground", name := "<init>", desc := "()V" } : Jvm.MethodName)) ∈ lw_tbl := List.mem_append_right _ (List.mem_of_getElem? (i := 59) (by decide +kernel))
theorem tw_60 : (Jvm.Cond.code ({ cls := "BreathStreet$Ground", name := "<init>", desc := "()V" } : Jvm.MethodName) prog_4_method_1_code (1 : Nat) (Option.none : Option Jvm.ClassFile.FieldType)) ∈ lw_tbl := List.mem_append_right _ (List.mem_of_getElem? (i := 60) (by decide +kernel))
theorem tw_61 : (Jvm.Cond.methodLink "BreathStreet$Ground" (3 : Nat) ({ cls := "java/lang/Object", name := "<init>", desc := "()V" } : Jvm.MethodName)) ∈ lw_tbl := List.mem_append_right _ (List.mem_of_getElem? (i := 61) (by decide +kernel))
theorem tw_62 : (Jvm.Cond.fieldLink "BreathStreet$Ground" (9 : Nat) "BreathStreet$Ground" "bases" "[I") ∈ lw_tbl := List.mem_append_right _ (List.mem_of_getElem? (i := 62) (by decide +kernel))
theorem tw_63 : (Jvm.Cond.fieldLink "BreathStreet$Sights" (35 : Nat) "BreathStreet$Ground" "bases" "[I") ∈ lw_tbl := List.mem_append_right _ (List.mem_of_getElem? (i := 63) (by decide +kernel))
theorem tw_64 : (Jvm.Cond.fieldLink "BreathStreet" (173 : Nat) "BreathStreet$Ground" "bases" "[I") ∈ lw_tbl := List.mem_append_right _ (List.mem_of_getElem? (i := 64) (by decide +kernel))
theorem tw_65 : (Jvm.Cond.fieldLink "BreathStreet$Ground" (15 : Nat) "BreathStreet$Ground" "turns" "[I") ∈ lw_tbl := List.mem_append_right _ (List.mem_of_getElem? (i := 65) (by decide +kernel))
theorem tw_66 : (Jvm.Cond.fieldLink "BreathStreet" (177 : Nat) "BreathStreet$Ground" "turns" "[I") ∈ lw_tbl := List.mem_append_right _ (List.mem_of_getElem? (i := 66) (by decide +kernel))
theorem tw_67 : (Jvm.Cond.fieldLink "BreathStreet$Ground" (18 : Nat) "BreathStreet$Ground" "lates" "[I") ∈ lw_tbl := List.mem_append_right _ (List.mem_of_getElem? (i := 67) (by decide +kernel))
theorem tw_68 : (Jvm.Cond.fieldLink "BreathStreet" (180 : Nat) "BreathStreet$Ground" "lates" "[I") ∈ lw_tbl := List.mem_append_right _ (List.mem_of_getElem? (i := 68) (by decide +kernel))
theorem tw_69 : (Jvm.Cond.fieldLink "BreathStreet$Ground" (21 : Nat) "BreathStreet$Ground" "swings" "[I") ∈ lw_tbl := List.mem_append_right _ (List.mem_of_getElem? (i := 69) (by decide +kernel))
theorem tw_70 : (Jvm.Cond.fieldLink "BreathStreet$Sights" (38 : Nat) "BreathStreet$Ground" "swings" "[I") ∈ lw_tbl := List.mem_append_right _ (List.mem_of_getElem? (i := 70) (by decide +kernel))
theorem tw_71 : (Jvm.Cond.fieldLink "BreathStreet" (183 : Nat) "BreathStreet$Ground" "swings" "[I") ∈ lw_tbl := List.mem_append_right _ (List.mem_of_getElem? (i := 71) (by decide +kernel))
theorem tw_72 : (Jvm.Cond.fieldLink "BreathStreet$Ground" (24 : Nat) "BreathStreet$Ground" "shares" "[J") ∈ lw_tbl := List.mem_append_right _ (List.mem_of_getElem? (i := 72) (by decide +kernel))
theorem tw_73 : (Jvm.Cond.fieldLink "BreathStreet$Ground" (28 : Nat) "BreathStreet$Ground" "count" "I") ∈ lw_tbl := List.mem_append_right _ (List.mem_of_getElem? (i := 73) (by decide +kernel))
theorem tw_74 : (Jvm.Cond.fieldLink "BreathStreet$Street" (45 : Nat) "BreathStreet$Ground" "count" "I") ∈ lw_tbl := List.mem_append_right _ (List.mem_of_getElem? (i := 74) (by decide +kernel))
theorem tw_75 : (Jvm.Cond.fieldLink "BreathStreet$Home" (52 : Nat) "BreathStreet$Ground" "count" "I") ∈ lw_tbl := List.mem_append_right _ (List.mem_of_getElem? (i := 75) (by decide +kernel))
theorem tw_76 : (Jvm.Cond.fieldLink "BreathStreet" (125 : Nat) "BreathStreet$Ground" "count" "I") ∈ lw_tbl := List.mem_append_right _ (List.mem_of_getElem? (i := 76) (by decide +kernel))
theorem tw_77 : (Jvm.Cond.fieldLink "BreathStreet$Text" (59 : Nat) "BreathStreet$Ground" "count" "I") ∈ lw_tbl := List.mem_append_right _ (List.mem_of_getElem? (i := 77) (by decide +kernel))
theorem tw_78 : (Jvm.Cond.fieldLink "BreathStreet$Ground" (32 : Nat) "BreathStreet$Ground" "wholeRound" "I") ∈ lw_tbl := List.mem_append_right _ (List.mem_of_getElem? (i := 78) (by decide +kernel))
theorem tw_79 : (Jvm.Cond.fieldLink "BreathStreet" (150 : Nat) "BreathStreet$Ground" "wholeRound" "I") ∈ lw_tbl := List.mem_append_right _ (List.mem_of_getElem? (i := 79) (by decide +kernel))
theorem tw_80 : (Jvm.Cond.laysFinal "BreathStreet$Ground" "BreathStreet$Ground" "bases" "[I") ∈ lw_tbl := List.mem_append_right _ (List.mem_of_getElem? (i := 80) (by decide +kernel))
theorem tw_81 : (Jvm.Cond.soleField "BreathStreet$Ground" "bases") ∈ lw_tbl := List.mem_append_right _ (List.mem_of_getElem? (i := 81) (by decide +kernel))
theorem tw_82 : (Jvm.Cond.laysFinal "BreathStreet$Ground" "BreathStreet$Ground" "turns" "[I") ∈ lw_tbl := List.mem_append_right _ (List.mem_of_getElem? (i := 82) (by decide +kernel))
theorem tw_83 : (Jvm.Cond.soleField "BreathStreet$Ground" "turns") ∈ lw_tbl := List.mem_append_right _ (List.mem_of_getElem? (i := 83) (by decide +kernel))
theorem tw_84 : (Jvm.Cond.laysFinal "BreathStreet$Ground" "BreathStreet$Ground" "lates" "[I") ∈ lw_tbl := List.mem_append_right _ (List.mem_of_getElem? (i := 84) (by decide +kernel))
theorem tw_85 : (Jvm.Cond.soleField "BreathStreet$Ground" "lates") ∈ lw_tbl := List.mem_append_right _ (List.mem_of_getElem? (i := 85) (by decide +kernel))
theorem tw_86 : (Jvm.Cond.laysFinal "BreathStreet$Ground" "BreathStreet$Ground" "swings" "[I") ∈ lw_tbl := List.mem_append_right _ (List.mem_of_getElem? (i := 86) (by decide +kernel))
theorem tw_87 : (Jvm.Cond.soleField "BreathStreet$Ground" "swings") ∈ lw_tbl := List.mem_append_right _ (List.mem_of_getElem? (i := 87) (by decide +kernel))
theorem tw_88 : (Jvm.Cond.laysFinal "BreathStreet$Ground" "BreathStreet$Ground" "shares" "[J") ∈ lw_tbl := List.mem_append_right _ (List.mem_of_getElem? (i := 88) (by decide +kernel))
theorem tw_89 : (Jvm.Cond.soleField "BreathStreet$Ground" "shares") ∈ lw_tbl := List.mem_append_right _ (List.mem_of_getElem? (i := 89) (by decide +kernel))
theorem tw_90 : (Jvm.Cond.lays "BreathStreet$Ground" "BreathStreet$Ground" "count" "I") ∈ lw_tbl := List.mem_append_right _ (List.mem_of_getElem? (i := 90) (by decide +kernel))
theorem tw_91 : (Jvm.Cond.soleField "BreathStreet$Ground" "count") ∈ lw_tbl := List.mem_append_right _ (List.mem_of_getElem? (i := 91) (by decide +kernel))
theorem tw_92 : (Jvm.Cond.lays "BreathStreet$Ground" "BreathStreet$Ground" "wholeRound" "I") ∈ lw_tbl := List.mem_append_right _ (List.mem_of_getElem? (i := 92) (by decide +kernel))
theorem tw_93 : (Jvm.Cond.soleField "BreathStreet$Ground" "wholeRound") ∈ lw_tbl := List.mem_append_right _ (List.mem_of_getElem? (i := 93) (by decide +kernel))
theorem tw_94 : (Jvm.Cond.superclass "BreathStreet$Ground" "java/lang/Object") ∈ lw_tbl := List.mem_append_right _ (List.mem_of_getElem? (i := 94) (by decide +kernel))
theorem tw_95 : (Jvm.Cond.arrayClass Jvm.ClassFile.FieldType.long) ∈ lw_tbl := List.mem_append_right _ (List.mem_of_getElem? (i := 95) (by decide +kernel))
theorem tw_96 : (Jvm.Cond.classLink "BreathStreet$Street" (18 : Nat) "BreathStreet$Seams") ∈ lw_tbl := List.mem_append_right _ (List.mem_of_getElem? (i := 96) (by decide +kernel))
theorem tw_97 : (Jvm.Cond.instantiable "BreathStreet$Seams" (5 : Nat)) ∈ lw_tbl := List.mem_append_right _ (List.mem_of_getElem? (i := 97) (by decide +kernel))
theorem tw_98 : (Jvm.Cond.methodLinkNest "BreathStreet$Street" (20 : Nat) ({ cls := "BreathStreet$Seams", name := "<init>", desc := "()V" } : Jvm.MethodName) "BreathStreet") ∈ lw_tbl := List.mem_append_right _ (List.mem_of_getElem? (i := 98) (by decide +kernel))
theorem tw_99 : (Jvm.Cond.instanceMethod ({ cls := "BreathStreet$Seams", name := "<init>", desc := "()V" } : Jvm.MethodName)) ∈ lw_tbl := List.mem_append_right _ (List.mem_of_getElem? (i := 99) (by decide +kernel))
theorem tw_100 : (Jvm.Cond.code ({ cls := "BreathStreet$Seams", name := "<init>", desc := "()V" } : Jvm.MethodName) prog_8_method_1_code (1 : Nat) (Option.none : Option Jvm.ClassFile.FieldType)) ∈ lw_tbl := List.mem_append_right _ (List.mem_of_getElem? (i := 100) (by decide +kernel))
theorem tw_101 : (Jvm.Cond.methodLink "BreathStreet$Seams" (3 : Nat) ({ cls := "java/lang/Object", name := "<init>", desc := "()V" } : Jvm.MethodName)) ∈ lw_tbl := List.mem_append_right _ (List.mem_of_getElem? (i := 101) (by decide +kernel))
theorem tw_102 : (Jvm.Cond.fieldLink "BreathStreet$Seams" (9 : Nat) "BreathStreet$Seams" "fields" "[I") ∈ lw_tbl := List.mem_append_right _ (List.mem_of_getElem? (i := 102) (by decide +kernel))
theorem tw_103 : (Jvm.Cond.fieldLink "BreathStreet" (207 : Nat) "BreathStreet$Seams" "fields" "[I") ∈ lw_tbl := List.mem_append_right _ (List.mem_of_getElem? (i := 103) (by decide +kernel))
theorem tw_104 : (Jvm.Cond.fieldLink "BreathStreet$Seams" (15 : Nat) "BreathStreet$Seams" "turns" "[I") ∈ lw_tbl := List.mem_append_right _ (List.mem_of_getElem? (i := 104) (by decide +kernel))
theorem tw_105 : (Jvm.Cond.fieldLink "BreathStreet" (210 : Nat) "BreathStreet$Seams" "turns" "[I") ∈ lw_tbl := List.mem_append_right _ (List.mem_of_getElem? (i := 105) (by decide +kernel))
theorem tw_106 : (Jvm.Cond.fieldLink "BreathStreet$Seams" (18 : Nat) "BreathStreet$Seams" "firsts" "[I") ∈ lw_tbl := List.mem_append_right _ (List.mem_of_getElem? (i := 106) (by decide +kernel))
theorem tw_107 : (Jvm.Cond.fieldLink "BreathStreet" (211 : Nat) "BreathStreet$Seams" "firsts" "[I") ∈ lw_tbl := List.mem_append_right _ (List.mem_of_getElem? (i := 107) (by decide +kernel))
theorem tw_108 : (Jvm.Cond.fieldLink "BreathStreet$Seams" (21 : Nat) "BreathStreet$Seams" "widths" "[I") ∈ lw_tbl := List.mem_append_right _ (List.mem_of_getElem? (i := 108) (by decide +kernel))
theorem tw_109 : (Jvm.Cond.fieldLink "BreathStreet" (214 : Nat) "BreathStreet$Seams" "widths" "[I") ∈ lw_tbl := List.mem_append_right _ (List.mem_of_getElem? (i := 109) (by decide +kernel))
theorem tw_110 : (Jvm.Cond.fieldLink "BreathStreet$Seams" (24 : Nat) "BreathStreet$Seams" "count" "I") ∈ lw_tbl := List.mem_append_right _ (List.mem_of_getElem? (i := 110) (by decide +kernel))
theorem tw_111 : (Jvm.Cond.fieldLink "BreathStreet$Street" (42 : Nat) "BreathStreet$Seams" "count" "I") ∈ lw_tbl := List.mem_append_right _ (List.mem_of_getElem? (i := 111) (by decide +kernel))
theorem tw_112 : (Jvm.Cond.fieldLink "BreathStreet" (135 : Nat) "BreathStreet$Seams" "count" "I") ∈ lw_tbl := List.mem_append_right _ (List.mem_of_getElem? (i := 112) (by decide +kernel))
theorem tw_113 : (Jvm.Cond.fieldLink "BreathStreet$Text" (96 : Nat) "BreathStreet$Seams" "count" "I") ∈ lw_tbl := List.mem_append_right _ (List.mem_of_getElem? (i := 113) (by decide +kernel))
theorem tw_114 : (Jvm.Cond.laysFinal "BreathStreet$Seams" "BreathStreet$Seams" "fields" "[I") ∈ lw_tbl := List.mem_append_right _ (List.mem_of_getElem? (i := 114) (by decide +kernel))
theorem tw_115 : (Jvm.Cond.soleField "BreathStreet$Seams" "fields") ∈ lw_tbl := List.mem_append_right _ (List.mem_of_getElem? (i := 115) (by decide +kernel))
theorem tw_116 : (Jvm.Cond.laysFinal "BreathStreet$Seams" "BreathStreet$Seams" "turns" "[I") ∈ lw_tbl := List.mem_append_right _ (List.mem_of_getElem? (i := 116) (by decide +kernel))
theorem tw_117 : (Jvm.Cond.soleField "BreathStreet$Seams" "turns") ∈ lw_tbl := List.mem_append_right _ (List.mem_of_getElem? (i := 117) (by decide +kernel))
theorem tw_118 : (Jvm.Cond.laysFinal "BreathStreet$Seams" "BreathStreet$Seams" "firsts" "[I") ∈ lw_tbl := List.mem_append_right _ (List.mem_of_getElem? (i := 118) (by decide +kernel))
theorem tw_119 : (Jvm.Cond.soleField "BreathStreet$Seams" "firsts") ∈ lw_tbl := List.mem_append_right _ (List.mem_of_getElem? (i := 119) (by decide +kernel))
theorem tw_120 : (Jvm.Cond.laysFinal "BreathStreet$Seams" "BreathStreet$Seams" "widths" "[I") ∈ lw_tbl := List.mem_append_right _ (List.mem_of_getElem? (i := 120) (by decide +kernel))
theorem tw_121 : (Jvm.Cond.soleField "BreathStreet$Seams" "widths") ∈ lw_tbl := List.mem_append_right _ (List.mem_of_getElem? (i := 121) (by decide +kernel))
theorem tw_122 : (Jvm.Cond.lays "BreathStreet$Seams" "BreathStreet$Seams" "count" "I") ∈ lw_tbl := List.mem_append_right _ (List.mem_of_getElem? (i := 122) (by decide +kernel))
theorem tw_123 : (Jvm.Cond.soleField "BreathStreet$Seams" "count") ∈ lw_tbl := List.mem_append_right _ (List.mem_of_getElem? (i := 123) (by decide +kernel))
theorem tw_124 : (Jvm.Cond.superclass "BreathStreet$Seams" "java/lang/Object") ∈ lw_tbl := List.mem_append_right _ (List.mem_of_getElem? (i := 124) (by decide +kernel))
theorem tw_125 : (Jvm.Cond.fieldLink "BreathStreet$Street" (12 : Nat) "BreathStreet$Street" "ground" "LBreathStreet$Ground;") ∈ lw_tbl := List.mem_append_right _ (List.mem_of_getElem? (i := 125) (by decide +kernel))
theorem tw_126 : (Jvm.Cond.fieldLink "BreathStreet$Home" (48 : Nat) "BreathStreet$Street" "ground" "LBreathStreet$Ground;") ∈ lw_tbl := List.mem_append_right _ (List.mem_of_getElem? (i := 126) (by decide +kernel))
theorem tw_127 : (Jvm.Cond.fieldLink "BreathStreet" (121 : Nat) "BreathStreet$Street" "ground" "LBreathStreet$Ground;") ∈ lw_tbl := List.mem_append_right _ (List.mem_of_getElem? (i := 127) (by decide +kernel))
theorem tw_128 : (Jvm.Cond.fieldLink "BreathStreet$Text" (44 : Nat) "BreathStreet$Street" "ground" "LBreathStreet$Ground;") ∈ lw_tbl := List.mem_append_right _ (List.mem_of_getElem? (i := 128) (by decide +kernel))
theorem tw_129 : (Jvm.Cond.fieldLink "BreathStreet$Moment" (28 : Nat) "BreathStreet$Street" "ground" "LBreathStreet$Ground;") ∈ lw_tbl := List.mem_append_right _ (List.mem_of_getElem? (i := 129) (by decide +kernel))
theorem tw_130 : (Jvm.Cond.fieldLink "BreathStreet$Street" (21 : Nat) "BreathStreet$Street" "seams" "LBreathStreet$Seams;") ∈ lw_tbl := List.mem_append_right _ (List.mem_of_getElem? (i := 130) (by decide +kernel))
theorem tw_131 : (Jvm.Cond.fieldLink "BreathStreet$Home" (22 : Nat) "BreathStreet$Street" "seams" "LBreathStreet$Seams;") ∈ lw_tbl := List.mem_append_right _ (List.mem_of_getElem? (i := 131) (by decide +kernel))
theorem tw_132 : (Jvm.Cond.fieldLink "BreathStreet$Text" (55 : Nat) "BreathStreet$Street" "seams" "LBreathStreet$Seams;") ∈ lw_tbl := List.mem_append_right _ (List.mem_of_getElem? (i := 132) (by decide +kernel))
theorem tw_133 : (Jvm.Cond.fieldLink "BreathStreet$Moment" (40 : Nat) "BreathStreet$Street" "seams" "LBreathStreet$Seams;") ∈ lw_tbl := List.mem_append_right _ (List.mem_of_getElem? (i := 133) (by decide +kernel))
theorem tw_134 : (Jvm.Cond.fieldLink "BreathStreet" (131 : Nat) "BreathStreet$Street" "seams" "LBreathStreet$Seams;") ∈ lw_tbl := List.mem_append_right _ (List.mem_of_getElem? (i := 134) (by decide +kernel))
theorem tw_135 : (Jvm.Cond.fieldLink "BreathStreet$Street" (25 : Nat) "BreathStreet$Street" "houseFields" "[I") ∈ lw_tbl := List.mem_append_right _ (List.mem_of_getElem? (i := 135) (by decide +kernel))
theorem tw_136 : (Jvm.Cond.fieldLink "BreathStreet" (197 : Nat) "BreathStreet$Street" "houseFields" "[I") ∈ lw_tbl := List.mem_append_right _ (List.mem_of_getElem? (i := 136) (by decide +kernel))
theorem tw_137 : (Jvm.Cond.fieldLink "BreathStreet$Street" (29 : Nat) "BreathStreet$Street" "slacks" "[I") ∈ lw_tbl := List.mem_append_right _ (List.mem_of_getElem? (i := 137) (by decide +kernel))
theorem tw_138 : (Jvm.Cond.fieldLink "BreathStreet$Image" (34 : Nat) "BreathStreet$Street" "slacks" "[I") ∈ lw_tbl := List.mem_append_right _ (List.mem_of_getElem? (i := 138) (by decide +kernel))
theorem tw_139 : (Jvm.Cond.fieldLink "BreathStreet" (200 : Nat) "BreathStreet$Street" "slacks" "[I") ∈ lw_tbl := List.mem_append_right _ (List.mem_of_getElem? (i := 139) (by decide +kernel))
theorem tw_140 : (Jvm.Cond.fieldLink "BreathStreet$Street" (32 : Nat) "BreathStreet$Street" "houses" "I") ∈ lw_tbl := List.mem_append_right _ (List.mem_of_getElem? (i := 140) (by decide +kernel))
theorem tw_141 : (Jvm.Cond.fieldLink "BreathStreet" (128 : Nat) "BreathStreet$Street" "houses" "I") ∈ lw_tbl := List.mem_append_right _ (List.mem_of_getElem? (i := 141) (by decide +kernel))
theorem tw_142 : (Jvm.Cond.fieldLink "BreathStreet$Text" (90 : Nat) "BreathStreet$Street" "houses" "I") ∈ lw_tbl := List.mem_append_right _ (List.mem_of_getElem? (i := 142) (by decide +kernel))
theorem tw_143 : (Jvm.Cond.fieldLink "BreathStreet$Street" (36 : Nat) "BreathStreet$Street" "barrelTold" "I") ∈ lw_tbl := List.mem_append_right _ (List.mem_of_getElem? (i := 143) (by decide +kernel))
theorem tw_144 : (Jvm.Cond.fieldLink "BreathStreet$Text" (100 : Nat) "BreathStreet$Street" "barrelTold" "I") ∈ lw_tbl := List.mem_append_right _ (List.mem_of_getElem? (i := 144) (by decide +kernel))
theorem tw_145 : (Jvm.Cond.laysFinal "BreathStreet$Street" "BreathStreet$Street" "ground" "LBreathStreet$Ground;") ∈ lw_tbl := List.mem_append_right _ (List.mem_of_getElem? (i := 145) (by decide +kernel))
theorem tw_146 : (Jvm.Cond.soleField "BreathStreet$Street" "ground") ∈ lw_tbl := List.mem_append_right _ (List.mem_of_getElem? (i := 146) (by decide +kernel))
theorem tw_147 : (Jvm.Cond.laysFinal "BreathStreet$Street" "BreathStreet$Street" "seams" "LBreathStreet$Seams;") ∈ lw_tbl := List.mem_append_right _ (List.mem_of_getElem? (i := 147) (by decide +kernel))
theorem tw_148 : (Jvm.Cond.soleField "BreathStreet$Street" "seams") ∈ lw_tbl := List.mem_append_right _ (List.mem_of_getElem? (i := 148) (by decide +kernel))
theorem tw_149 : (Jvm.Cond.laysFinal "BreathStreet$Street" "BreathStreet$Street" "houseFields" "[I") ∈ lw_tbl := List.mem_append_right _ (List.mem_of_getElem? (i := 149) (by decide +kernel))
theorem tw_150 : (Jvm.Cond.soleField "BreathStreet$Street" "houseFields") ∈ lw_tbl := List.mem_append_right _ (List.mem_of_getElem? (i := 150) (by decide +kernel))
theorem tw_151 : (Jvm.Cond.laysFinal "BreathStreet$Street" "BreathStreet$Street" "slacks" "[I") ∈ lw_tbl := List.mem_append_right _ (List.mem_of_getElem? (i := 151) (by decide +kernel))
theorem tw_152 : (Jvm.Cond.soleField "BreathStreet$Street" "slacks") ∈ lw_tbl := List.mem_append_right _ (List.mem_of_getElem? (i := 152) (by decide +kernel))
theorem tw_153 : (Jvm.Cond.lays "BreathStreet$Street" "BreathStreet$Street" "houses" "I") ∈ lw_tbl := List.mem_append_right _ (List.mem_of_getElem? (i := 153) (by decide +kernel))
theorem tw_154 : (Jvm.Cond.soleField "BreathStreet$Street" "houses") ∈ lw_tbl := List.mem_append_right _ (List.mem_of_getElem? (i := 154) (by decide +kernel))
theorem tw_155 : (Jvm.Cond.lays "BreathStreet$Street" "BreathStreet$Street" "barrelTold" "I") ∈ lw_tbl := List.mem_append_right _ (List.mem_of_getElem? (i := 155) (by decide +kernel))
theorem tw_156 : (Jvm.Cond.soleField "BreathStreet$Street" "barrelTold") ∈ lw_tbl := List.mem_append_right _ (List.mem_of_getElem? (i := 156) (by decide +kernel))
theorem tw_157 : (Jvm.Cond.superclass "BreathStreet$Street" "java/lang/Object") ∈ lw_tbl := List.mem_append_right _ (List.mem_of_getElem? (i := 157) (by decide +kernel))
theorem tw_158 : (Jvm.Cond.classLink "BreathStreet" (30 : Nat) "BreathStreet$Moment") ∈ lw_tbl := List.mem_append_right _ (List.mem_of_getElem? (i := 158) (by decide +kernel))
theorem tw_159 : (Jvm.Cond.instantiable "BreathStreet$Moment" (4 : Nat)) ∈ lw_tbl := List.mem_append_right _ (List.mem_of_getElem? (i := 159) (by decide +kernel))
theorem tw_160 : (Jvm.Cond.methodLinkNest "BreathStreet" (32 : Nat) ({ cls := "BreathStreet$Moment", name := "<init>", desc := "()V" } : Jvm.MethodName) "BreathStreet") ∈ lw_tbl := List.mem_append_right _ (List.mem_of_getElem? (i := 160) (by decide +kernel))
theorem tw_161 : (Jvm.Cond.instanceMethod ({ cls := "BreathStreet$Moment", name := "<init>", desc := "()V" } : Jvm.MethodName)) ∈ lw_tbl := List.mem_append_right _ (List.mem_of_getElem? (i := 161) (by decide +kernel))
theorem tw_162 : (Jvm.Cond.code ({ cls := "BreathStreet$Moment", name := "<init>", desc := "()V" } : Jvm.MethodName) prog_7_method_1_code (1 : Nat) (Option.none : Option Jvm.ClassFile.FieldType)) ∈ lw_tbl := List.mem_append_right _ (List.mem_of_getElem? (i := 162) (by decide +kernel))
theorem tw_163 : (Jvm.Cond.methodLink "BreathStreet$Moment" (3 : Nat) ({ cls := "java/lang/Object", name := "<init>", desc := "()V" } : Jvm.MethodName)) ∈ lw_tbl := List.mem_append_right _ (List.mem_of_getElem? (i := 163) (by decide +kernel))
theorem tw_164 : (Jvm.Cond.fieldLink "BreathStreet$Moment" (9 : Nat) "BreathStreet$Moment" "steps" "I") ∈ lw_tbl := List.mem_append_right _ (List.mem_of_getElem? (i := 164) (by decide +kernel))
theorem tw_165 : (Jvm.Cond.fieldLink "BreathStreet$Trail" (35 : Nat) "BreathStreet$Moment" "steps" "I") ∈ lw_tbl := List.mem_append_right _ (List.mem_of_getElem? (i := 165) (by decide +kernel))
theorem tw_166 : (Jvm.Cond.fieldLink "BreathStreet$Home" (34 : Nat) "BreathStreet$Moment" "steps" "I") ∈ lw_tbl := List.mem_append_right _ (List.mem_of_getElem? (i := 166) (by decide +kernel))
theorem tw_167 : (Jvm.Cond.fieldLink "BreathStreet" (138 : Nat) "BreathStreet$Moment" "steps" "I") ∈ lw_tbl := List.mem_append_right _ (List.mem_of_getElem? (i := 167) (by decide +kernel))
theorem tw_168 : (Jvm.Cond.fieldLink "BreathStreet$Moment" (15 : Nat) "BreathStreet$Moment" "breath" "I") ∈ lw_tbl := List.mem_append_right _ (List.mem_of_getElem? (i := 168) (by decide +kernel))
theorem tw_169 : (Jvm.Cond.fieldLink "BreathStreet$Trail" (39 : Nat) "BreathStreet$Moment" "breath" "I") ∈ lw_tbl := List.mem_append_right _ (List.mem_of_getElem? (i := 169) (by decide +kernel))
theorem tw_170 : (Jvm.Cond.fieldLink "BreathStreet" (141 : Nat) "BreathStreet$Moment" "breath" "I") ∈ lw_tbl := List.mem_append_right _ (List.mem_of_getElem? (i := 170) (by decide +kernel))
theorem tw_171 : (Jvm.Cond.fieldLink "BreathStreet$Home" (80 : Nat) "BreathStreet$Moment" "breath" "I") ∈ lw_tbl := List.mem_append_right _ (List.mem_of_getElem? (i := 171) (by decide +kernel))
theorem tw_172 : (Jvm.Cond.fieldLink "BreathStreet$Moment" (18 : Nat) "BreathStreet$Moment" "barrel" "I") ∈ lw_tbl := List.mem_append_right _ (List.mem_of_getElem? (i := 172) (by decide +kernel))
theorem tw_173 : (Jvm.Cond.fieldLink "BreathStreet$Trail" (42 : Nat) "BreathStreet$Moment" "barrel" "I") ∈ lw_tbl := List.mem_append_right _ (List.mem_of_getElem? (i := 173) (by decide +kernel))
theorem tw_174 : (Jvm.Cond.fieldLink "BreathStreet" (144 : Nat) "BreathStreet$Moment" "barrel" "I") ∈ lw_tbl := List.mem_append_right _ (List.mem_of_getElem? (i := 174) (by decide +kernel))
theorem tw_175 : (Jvm.Cond.fieldLink "BreathStreet$Moment" (21 : Nat) "BreathStreet$Moment" "pulled" "I") ∈ lw_tbl := List.mem_append_right _ (List.mem_of_getElem? (i := 175) (by decide +kernel))
theorem tw_176 : (Jvm.Cond.fieldLink "BreathStreet$Trail" (45 : Nat) "BreathStreet$Moment" "pulled" "I") ∈ lw_tbl := List.mem_append_right _ (List.mem_of_getElem? (i := 176) (by decide +kernel))
theorem tw_177 : (Jvm.Cond.fieldLink "BreathStreet" (147 : Nat) "BreathStreet$Moment" "pulled" "I") ∈ lw_tbl := List.mem_append_right _ (List.mem_of_getElem? (i := 177) (by decide +kernel))
theorem tw_178 : (Jvm.Cond.lays "BreathStreet$Moment" "BreathStreet$Moment" "steps" "I") ∈ lw_tbl := List.mem_append_right _ (List.mem_of_getElem? (i := 178) (by decide +kernel))
theorem tw_179 : (Jvm.Cond.soleField "BreathStreet$Moment" "steps") ∈ lw_tbl := List.mem_append_right _ (List.mem_of_getElem? (i := 179) (by decide +kernel))
theorem tw_180 : (Jvm.Cond.lays "BreathStreet$Moment" "BreathStreet$Moment" "breath" "I") ∈ lw_tbl := List.mem_append_right _ (List.mem_of_getElem? (i := 180) (by decide +kernel))
theorem tw_181 : (Jvm.Cond.soleField "BreathStreet$Moment" "breath") ∈ lw_tbl := List.mem_append_right _ (List.mem_of_getElem? (i := 181) (by decide +kernel))
theorem tw_182 : (Jvm.Cond.lays "BreathStreet$Moment" "BreathStreet$Moment" "barrel" "I") ∈ lw_tbl := List.mem_append_right _ (List.mem_of_getElem? (i := 182) (by decide +kernel))
theorem tw_183 : (Jvm.Cond.soleField "BreathStreet$Moment" "barrel") ∈ lw_tbl := List.mem_append_right _ (List.mem_of_getElem? (i := 183) (by decide +kernel))
theorem tw_184 : (Jvm.Cond.lays "BreathStreet$Moment" "BreathStreet$Moment" "pulled" "I") ∈ lw_tbl := List.mem_append_right _ (List.mem_of_getElem? (i := 184) (by decide +kernel))
theorem tw_185 : (Jvm.Cond.soleField "BreathStreet$Moment" "pulled") ∈ lw_tbl := List.mem_append_right _ (List.mem_of_getElem? (i := 185) (by decide +kernel))
theorem tw_186 : (Jvm.Cond.superclass "BreathStreet$Moment" "java/lang/Object") ∈ lw_tbl := List.mem_append_right _ (List.mem_of_getElem? (i := 186) (by decide +kernel))
theorem tw_187 : (Jvm.Cond.classLink "BreathStreet" (37 : Nat) "BreathStreet$Trail") ∈ lw_tbl := List.mem_append_right _ (List.mem_of_getElem? (i := 187) (by decide +kernel))
theorem tw_188 : (Jvm.Cond.instantiable "BreathStreet$Trail" (6 : Nat)) ∈ lw_tbl := List.mem_append_right _ (List.mem_of_getElem? (i := 188) (by decide +kernel))
theorem tw_189 : (Jvm.Cond.methodLinkNest "BreathStreet" (39 : Nat) ({ cls := "BreathStreet$Trail", name := "<init>", desc := "()V" } : Jvm.MethodName) "BreathStreet") ∈ lw_tbl := List.mem_append_right _ (List.mem_of_getElem? (i := 189) (by decide +kernel))
theorem tw_190 : (Jvm.Cond.instanceMethod ({ cls := "BreathStreet$Trail", name := "<init>", desc := "()V" } : Jvm.MethodName)) ∈ lw_tbl := List.mem_append_right _ (List.mem_of_getElem? (i := 190) (by decide +kernel))
theorem tw_191 : (Jvm.Cond.code ({ cls := "BreathStreet$Trail", name := "<init>", desc := "()V" } : Jvm.MethodName) prog_12_method_1_code (1 : Nat) (Option.none : Option Jvm.ClassFile.FieldType)) ∈ lw_tbl := List.mem_append_right _ (List.mem_of_getElem? (i := 191) (by decide +kernel))
theorem tw_192 : (Jvm.Cond.methodLink "BreathStreet$Trail" (3 : Nat) ({ cls := "java/lang/Object", name := "<init>", desc := "()V" } : Jvm.MethodName)) ∈ lw_tbl := List.mem_append_right _ (List.mem_of_getElem? (i := 192) (by decide +kernel))
theorem tw_193 : (Jvm.Cond.fieldLink "BreathStreet$Trail" (9 : Nat) "BreathStreet$Trail" "steps" "[I") ∈ lw_tbl := List.mem_append_right _ (List.mem_of_getElem? (i := 193) (by decide +kernel))
theorem tw_194 : (Jvm.Cond.fieldLink "BreathStreet$Trail" (15 : Nat) "BreathStreet$Trail" "breaths" "[I") ∈ lw_tbl := List.mem_append_right _ (List.mem_of_getElem? (i := 194) (by decide +kernel))
theorem tw_195 : (Jvm.Cond.fieldLink "BreathStreet$Trail" (18 : Nat) "BreathStreet$Trail" "barrels" "[I") ∈ lw_tbl := List.mem_append_right _ (List.mem_of_getElem? (i := 195) (by decide +kernel))
theorem tw_196 : (Jvm.Cond.fieldLink "BreathStreet$Trail" (21 : Nat) "BreathStreet$Trail" "pulls" "[I") ∈ lw_tbl := List.mem_append_right _ (List.mem_of_getElem? (i := 196) (by decide +kernel))
theorem tw_197 : (Jvm.Cond.fieldLink "BreathStreet$Trail" (24 : Nat) "BreathStreet$Trail" "next" "I") ∈ lw_tbl := List.mem_append_right _ (List.mem_of_getElem? (i := 197) (by decide +kernel))
theorem tw_198 : (Jvm.Cond.fieldLink "BreathStreet$Trail" (28 : Nat) "BreathStreet$Trail" "count" "I") ∈ lw_tbl := List.mem_append_right _ (List.mem_of_getElem? (i := 198) (by decide +kernel))
theorem tw_199 : (Jvm.Cond.fieldLink "BreathStreet" (111 : Nat) "BreathStreet$Trail" "count" "I") ∈ lw_tbl := List.mem_append_right _ (List.mem_of_getElem? (i := 199) (by decide +kernel))
theorem tw_200 : (Jvm.Cond.laysFinal "BreathStreet$Trail" "BreathStreet$Trail" "steps" "[I") ∈ lw_tbl := List.mem_append_right _ (List.mem_of_getElem? (i := 200) (by decide +kernel))
theorem tw_201 : (Jvm.Cond.soleField "BreathStreet$Trail" "steps") ∈ lw_tbl := List.mem_append_right _ (List.mem_of_getElem? (i := 201) (by decide +kernel))
theorem tw_202 : (Jvm.Cond.laysFinal "BreathStreet$Trail" "BreathStreet$Trail" "breaths" "[I") ∈ lw_tbl := List.mem_append_right _ (List.mem_of_getElem? (i := 202) (by decide +kernel))
theorem tw_203 : (Jvm.Cond.soleField "BreathStreet$Trail" "breaths") ∈ lw_tbl := List.mem_append_right _ (List.mem_of_getElem? (i := 203) (by decide +kernel))
theorem tw_204 : (Jvm.Cond.laysFinal "BreathStreet$Trail" "BreathStreet$Trail" "barrels" "[I") ∈ lw_tbl := List.mem_append_right _ (List.mem_of_getElem? (i := 204) (by decide +kernel))
theorem tw_205 : (Jvm.Cond.soleField "BreathStreet$Trail" "barrels") ∈ lw_tbl := List.mem_append_right _ (List.mem_of_getElem? (i := 205) (by decide +kernel))
theorem tw_206 : (Jvm.Cond.laysFinal "BreathStreet$Trail" "BreathStreet$Trail" "pulls" "[I") ∈ lw_tbl := List.mem_append_right _ (List.mem_of_getElem? (i := 206) (by decide +kernel))
theorem tw_207 : (Jvm.Cond.soleField "BreathStreet$Trail" "pulls") ∈ lw_tbl := List.mem_append_right _ (List.mem_of_getElem? (i := 207) (by decide +kernel))
theorem tw_208 : (Jvm.Cond.lays "BreathStreet$Trail" "BreathStreet$Trail" "next" "I") ∈ lw_tbl := List.mem_append_right _ (List.mem_of_getElem? (i := 208) (by decide +kernel))
theorem tw_209 : (Jvm.Cond.soleField "BreathStreet$Trail" "next") ∈ lw_tbl := List.mem_append_right _ (List.mem_of_getElem? (i := 209) (by decide +kernel))
theorem tw_210 : (Jvm.Cond.lays "BreathStreet$Trail" "BreathStreet$Trail" "count" "I") ∈ lw_tbl := List.mem_append_right _ (List.mem_of_getElem? (i := 210) (by decide +kernel))
theorem tw_211 : (Jvm.Cond.soleField "BreathStreet$Trail" "count") ∈ lw_tbl := List.mem_append_right _ (List.mem_of_getElem? (i := 211) (by decide +kernel))
theorem tw_212 : (Jvm.Cond.superclass "BreathStreet$Trail" "java/lang/Object") ∈ lw_tbl := List.mem_append_right _ (List.mem_of_getElem? (i := 212) (by decide +kernel))
theorem tw_213 : (Jvm.Cond.classLink "BreathStreet" (44 : Nat) "BreathStreet$Image") ∈ lw_tbl := List.mem_append_right _ (List.mem_of_getElem? (i := 213) (by decide +kernel))
theorem tw_214 : (Jvm.Cond.instantiable "BreathStreet$Image" (4 : Nat)) ∈ lw_tbl := List.mem_append_right _ (List.mem_of_getElem? (i := 214) (by decide +kernel))
theorem tw_215 : (Jvm.Cond.methodLinkNest "BreathStreet" (46 : Nat) ({ cls := "BreathStreet$Image", name := "<init>", desc := "()V" } : Jvm.MethodName) "BreathStreet") ∈ lw_tbl := List.mem_append_right _ (List.mem_of_getElem? (i := 215) (by decide +kernel))
theorem tw_216 : (Jvm.Cond.instanceMethod ({ cls := "BreathStreet$Image", name := "<init>", desc := "()V" } : Jvm.MethodName)) ∈ lw_tbl := List.mem_append_right _ (List.mem_of_getElem? (i := 216) (by decide +kernel))
theorem tw_217 : (Jvm.Cond.code ({ cls := "BreathStreet$Image", name := "<init>", desc := "()V" } : Jvm.MethodName) prog_6_method_1_code (1 : Nat) (Option.none : Option Jvm.ClassFile.FieldType)) ∈ lw_tbl := List.mem_append_right _ (List.mem_of_getElem? (i := 217) (by decide +kernel))
theorem tw_218 : (Jvm.Cond.methodLink "BreathStreet$Image" (3 : Nat) ({ cls := "java/lang/Object", name := "<init>", desc := "()V" } : Jvm.MethodName)) ∈ lw_tbl := List.mem_append_right _ (List.mem_of_getElem? (i := 218) (by decide +kernel))
theorem tw_219 : (Jvm.Cond.classLink "BreathStreet$Image" (15 : Nat) "BreathStreet$Moment") ∈ lw_tbl := List.mem_append_right _ (List.mem_of_getElem? (i := 219) (by decide +kernel))
theorem tw_220 : (Jvm.Cond.methodLinkNest "BreathStreet$Image" (17 : Nat) ({ cls := "BreathStreet$Moment", name := "<init>", desc := "()V" } : Jvm.MethodName) "BreathStreet") ∈ lw_tbl := List.mem_append_right _ (List.mem_of_getElem? (i := 220) (by decide +kernel))
theorem tw_221 : (Jvm.Cond.fieldLink "BreathStreet$Image" (9 : Nat) "BreathStreet$Image" "kept" "Z") ∈ lw_tbl := List.mem_append_right _ (List.mem_of_getElem? (i := 221) (by decide +kernel))
theorem tw_222 : (Jvm.Cond.fieldLink "BreathStreet" (114 : Nat) "BreathStreet$Image" "kept" "Z") ∈ lw_tbl := List.mem_append_right _ (List.mem_of_getElem? (i := 222) (by decide +kernel))
theorem tw_223 : (Jvm.Cond.fieldLink "BreathStreet$Image" (18 : Nat) "BreathStreet$Image" "moment" "LBreathStreet$Moment;") ∈ lw_tbl := List.mem_append_right _ (List.mem_of_getElem? (i := 223) (by decide +kernel))
theorem tw_224 : (Jvm.Cond.fieldLink "BreathStreet$Image" (22 : Nat) "BreathStreet$Image" "slacks" "[I") ∈ lw_tbl := List.mem_append_right _ (List.mem_of_getElem? (i := 224) (by decide +kernel))
theorem tw_225 : (Jvm.Cond.fieldLink "BreathStreet$Image" (26 : Nat) "BreathStreet$Image" "seedKept" "I") ∈ lw_tbl := List.mem_append_right _ (List.mem_of_getElem? (i := 225) (by decide +kernel))
theorem tw_226 : (Jvm.Cond.fieldLink "BreathStreet" (341 : Nat) "BreathStreet$Image" "seedKept" "I") ∈ lw_tbl := List.mem_append_right _ (List.mem_of_getElem? (i := 226) (by decide +kernel))
theorem tw_227 : (Jvm.Cond.lays "BreathStreet$Image" "BreathStreet$Image" "kept" "Z") ∈ lw_tbl := List.mem_append_right _ (List.mem_of_getElem? (i := 227) (by decide +kernel))
theorem tw_228 : (Jvm.Cond.soleField "BreathStreet$Image" "kept") ∈ lw_tbl := List.mem_append_right _ (List.mem_of_getElem? (i := 228) (by decide +kernel))
theorem tw_229 : (Jvm.Cond.laysFinal "BreathStreet$Image" "BreathStreet$Image" "moment" "LBreathStreet$Moment;") ∈ lw_tbl := List.mem_append_right _ (List.mem_of_getElem? (i := 229) (by decide +kernel))
theorem tw_230 : (Jvm.Cond.soleField "BreathStreet$Image" "moment") ∈ lw_tbl := List.mem_append_right _ (List.mem_of_getElem? (i := 230) (by decide +kernel))
theorem tw_231 : (Jvm.Cond.laysFinal "BreathStreet$Image" "BreathStreet$Image" "slacks" "[I") ∈ lw_tbl := List.mem_append_right _ (List.mem_of_getElem? (i := 231) (by decide +kernel))
theorem tw_232 : (Jvm.Cond.soleField "BreathStreet$Image" "slacks") ∈ lw_tbl := List.mem_append_right _ (List.mem_of_getElem? (i := 232) (by decide +kernel))
theorem tw_233 : (Jvm.Cond.lays "BreathStreet$Image" "BreathStreet$Image" "seedKept" "I") ∈ lw_tbl := List.mem_append_right _ (List.mem_of_getElem? (i := 233) (by decide +kernel))
theorem tw_234 : (Jvm.Cond.soleField "BreathStreet$Image" "seedKept") ∈ lw_tbl := List.mem_append_right _ (List.mem_of_getElem? (i := 234) (by decide +kernel))
theorem tw_235 : (Jvm.Cond.superclass "BreathStreet$Image" "java/lang/Object") ∈ lw_tbl := List.mem_append_right _ (List.mem_of_getElem? (i := 235) (by decide +kernel))
theorem tw_236 : (Jvm.Cond.classLink "BreathStreet" (54 : Nat) "BreathStreet$Home") ∈ lw_tbl := List.mem_append_right _ (List.mem_of_getElem? (i := 236) (by decide +kernel))
theorem tw_237 : (Jvm.Cond.instantiable "BreathStreet$Home" (3 : Nat)) ∈ lw_tbl := List.mem_append_right _ (List.mem_of_getElem? (i := 237) (by decide +kernel))
theorem tw_238 : (Jvm.Cond.methodLinkNest "BreathStreet" (56 : Nat) ({ cls := "BreathStreet$Home", name := "<init>", desc := "()V" } : Jvm.MethodName) "BreathStreet") ∈ lw_tbl := List.mem_append_right _ (List.mem_of_getElem? (i := 238) (by decide +kernel))
theorem tw_239 : (Jvm.Cond.instanceMethod ({ cls := "BreathStreet$Home", name := "<init>", desc := "()V" } : Jvm.MethodName)) ∈ lw_tbl := List.mem_append_right _ (List.mem_of_getElem? (i := 239) (by decide +kernel))
theorem tw_240 : (Jvm.Cond.code ({ cls := "BreathStreet$Home", name := "<init>", desc := "()V" } : Jvm.MethodName) prog_5_method_1_code (1 : Nat) (Option.none : Option Jvm.ClassFile.FieldType)) ∈ lw_tbl := List.mem_append_right _ (List.mem_of_getElem? (i := 240) (by decide +kernel))
theorem tw_241 : (Jvm.Cond.methodLink "BreathStreet$Home" (3 : Nat) ({ cls := "java/lang/Object", name := "<init>", desc := "()V" } : Jvm.MethodName)) ∈ lw_tbl := List.mem_append_right _ (List.mem_of_getElem? (i := 241) (by decide +kernel))
theorem tw_242 : (Jvm.Cond.fieldLink "BreathStreet$Home" (9 : Nat) "BreathStreet$Home" "pulls" "[I") ∈ lw_tbl := List.mem_append_right _ (List.mem_of_getElem? (i := 242) (by decide +kernel))
theorem tw_243 : (Jvm.Cond.fieldLink "BreathStreet$Home" (15 : Nat) "BreathStreet$Home" "goal" "I") ∈ lw_tbl := List.mem_append_right _ (List.mem_of_getElem? (i := 243) (by decide +kernel))
theorem tw_244 : (Jvm.Cond.fieldLink "BreathStreet$Home" (19 : Nat) "BreathStreet$Home" "most" "I") ∈ lw_tbl := List.mem_append_right _ (List.mem_of_getElem? (i := 244) (by decide +kernel))
theorem tw_245 : (Jvm.Cond.laysFinal "BreathStreet$Home" "BreathStreet$Home" "pulls" "[I") ∈ lw_tbl := List.mem_append_right _ (List.mem_of_getElem? (i := 245) (by decide +kernel))
theorem tw_246 : (Jvm.Cond.soleField "BreathStreet$Home" "pulls") ∈ lw_tbl := List.mem_append_right _ (List.mem_of_getElem? (i := 246) (by decide +kernel))
theorem tw_247 : (Jvm.Cond.lays "BreathStreet$Home" "BreathStreet$Home" "goal" "I") ∈ lw_tbl := List.mem_append_right _ (List.mem_of_getElem? (i := 247) (by decide +kernel))
theorem tw_248 : (Jvm.Cond.soleField "BreathStreet$Home" "goal") ∈ lw_tbl := List.mem_append_right _ (List.mem_of_getElem? (i := 248) (by decide +kernel))
theorem tw_249 : (Jvm.Cond.lays "BreathStreet$Home" "BreathStreet$Home" "most" "I") ∈ lw_tbl := List.mem_append_right _ (List.mem_of_getElem? (i := 249) (by decide +kernel))
theorem tw_250 : (Jvm.Cond.soleField "BreathStreet$Home" "most") ∈ lw_tbl := List.mem_append_right _ (List.mem_of_getElem? (i := 250) (by decide +kernel))
theorem tw_251 : (Jvm.Cond.superclass "BreathStreet$Home" "java/lang/Object") ∈ lw_tbl := List.mem_append_right _ (List.mem_of_getElem? (i := 251) (by decide +kernel))
theorem tw_252 : (Jvm.Cond.classLink "BreathStreet" (61 : Nat) "BreathStreet$Cough") ∈ lw_tbl := List.mem_append_right _ (List.mem_of_getElem? (i := 252) (by decide +kernel))
theorem tw_253 : (Jvm.Cond.instantiable "BreathStreet$Cough" (5 : Nat)) ∈ lw_tbl := List.mem_append_right _ (List.mem_of_getElem? (i := 253) (by decide +kernel))
theorem tw_254 : (Jvm.Cond.methodLinkNest "BreathStreet" (63 : Nat) ({ cls := "BreathStreet$Cough", name := "<init>", desc := "()V" } : Jvm.MethodName) "BreathStreet") ∈ lw_tbl := List.mem_append_right _ (List.mem_of_getElem? (i := 254) (by decide +kernel))
theorem tw_255 : (Jvm.Cond.instanceMethod ({ cls := "BreathStreet$Cough", name := "<init>", desc := "()V" } : Jvm.MethodName)) ∈ lw_tbl := List.mem_append_right _ (List.mem_of_getElem? (i := 255) (by decide +kernel))
theorem tw_256 : (Jvm.Cond.code ({ cls := "BreathStreet$Cough", name := "<init>", desc := "()V" } : Jvm.MethodName) prog_3_method_1_code (1 : Nat) (Option.none : Option Jvm.ClassFile.FieldType)) ∈ lw_tbl := List.mem_append_right _ (List.mem_of_getElem? (i := 256) (by decide +kernel))
theorem tw_257 : (Jvm.Cond.methodLink "BreathStreet$Cough" (3 : Nat) ({ cls := "java/lang/Object", name := "<init>", desc := "()V" } : Jvm.MethodName)) ∈ lw_tbl := List.mem_append_right _ (List.mem_of_getElem? (i := 257) (by decide +kernel))
theorem tw_258 : (Jvm.Cond.fieldLink "BreathStreet$Cough" (9 : Nat) "BreathStreet$Cough" "fields" "[I") ∈ lw_tbl := List.mem_append_right _ (List.mem_of_getElem? (i := 258) (by decide +kernel))
theorem tw_259 : (Jvm.Cond.fieldLink "BreathStreet$Cough" (15 : Nat) "BreathStreet$Cough" "agos" "[I") ∈ lw_tbl := List.mem_append_right _ (List.mem_of_getElem? (i := 259) (by decide +kernel))
theorem tw_260 : (Jvm.Cond.fieldLink "BreathStreet$Cough" (18 : Nat) "BreathStreet$Cough" "heard" "I") ∈ lw_tbl := List.mem_append_right _ (List.mem_of_getElem? (i := 260) (by decide +kernel))
theorem tw_261 : (Jvm.Cond.fieldLink "BreathStreet" (153 : Nat) "BreathStreet$Cough" "heard" "I") ∈ lw_tbl := List.mem_append_right _ (List.mem_of_getElem? (i := 261) (by decide +kernel))
theorem tw_262 : (Jvm.Cond.fieldLink "BreathStreet$Cough" (22 : Nat) "BreathStreet$Cough" "origins" "[I") ∈ lw_tbl := List.mem_append_right _ (List.mem_of_getElem? (i := 262) (by decide +kernel))
theorem tw_263 : (Jvm.Cond.fieldLink "BreathStreet" (289 : Nat) "BreathStreet$Cough" "origins" "[I") ∈ lw_tbl := List.mem_append_right _ (List.mem_of_getElem? (i := 263) (by decide +kernel))
theorem tw_264 : (Jvm.Cond.fieldLink "BreathStreet$Cough" (25 : Nat) "BreathStreet$Cough" "parts" "[I") ∈ lw_tbl := List.mem_append_right _ (List.mem_of_getElem? (i := 264) (by decide +kernel))
theorem tw_265 : (Jvm.Cond.laysFinal "BreathStreet$Cough" "BreathStreet$Cough" "fields" "[I") ∈ lw_tbl := List.mem_append_right _ (List.mem_of_getElem? (i := 265) (by decide +kernel))
theorem tw_266 : (Jvm.Cond.soleField "BreathStreet$Cough" "fields") ∈ lw_tbl := List.mem_append_right _ (List.mem_of_getElem? (i := 266) (by decide +kernel))
theorem tw_267 : (Jvm.Cond.laysFinal "BreathStreet$Cough" "BreathStreet$Cough" "agos" "[I") ∈ lw_tbl := List.mem_append_right _ (List.mem_of_getElem? (i := 267) (by decide +kernel))
theorem tw_268 : (Jvm.Cond.soleField "BreathStreet$Cough" "agos") ∈ lw_tbl := List.mem_append_right _ (List.mem_of_getElem? (i := 268) (by decide +kernel))
theorem tw_269 : (Jvm.Cond.lays "BreathStreet$Cough" "BreathStreet$Cough" "heard" "I") ∈ lw_tbl := List.mem_append_right _ (List.mem_of_getElem? (i := 269) (by decide +kernel))
theorem tw_270 : (Jvm.Cond.soleField "BreathStreet$Cough" "heard") ∈ lw_tbl := List.mem_append_right _ (List.mem_of_getElem? (i := 270) (by decide +kernel))
theorem tw_271 : (Jvm.Cond.laysFinal "BreathStreet$Cough" "BreathStreet$Cough" "origins" "[I") ∈ lw_tbl := List.mem_append_right _ (List.mem_of_getElem? (i := 271) (by decide +kernel))
theorem tw_272 : (Jvm.Cond.soleField "BreathStreet$Cough" "origins") ∈ lw_tbl := List.mem_append_right _ (List.mem_of_getElem? (i := 272) (by decide +kernel))
theorem tw_273 : (Jvm.Cond.laysFinal "BreathStreet$Cough" "BreathStreet$Cough" "parts" "[I") ∈ lw_tbl := List.mem_append_right _ (List.mem_of_getElem? (i := 273) (by decide +kernel))
theorem tw_274 : (Jvm.Cond.soleField "BreathStreet$Cough" "parts") ∈ lw_tbl := List.mem_append_right _ (List.mem_of_getElem? (i := 274) (by decide +kernel))
theorem tw_275 : (Jvm.Cond.superclass "BreathStreet$Cough" "java/lang/Object") ∈ lw_tbl := List.mem_append_right _ (List.mem_of_getElem? (i := 275) (by decide +kernel))
theorem tw_276 : (Jvm.Cond.classLink "BreathStreet" (68 : Nat) "BreathStreet$Sights") ∈ lw_tbl := List.mem_append_right _ (List.mem_of_getElem? (i := 276) (by decide +kernel))
theorem tw_277 : (Jvm.Cond.instantiable "BreathStreet$Sights" (4 : Nat)) ∈ lw_tbl := List.mem_append_right _ (List.mem_of_getElem? (i := 277) (by decide +kernel))
theorem tw_278 : (Jvm.Cond.methodLinkNest "BreathStreet" (70 : Nat) ({ cls := "BreathStreet$Sights", name := "<init>", desc := "()V" } : Jvm.MethodName) "BreathStreet") ∈ lw_tbl := List.mem_append_right _ (List.mem_of_getElem? (i := 278) (by decide +kernel))
theorem tw_279 : (Jvm.Cond.instanceMethod ({ cls := "BreathStreet$Sights", name := "<init>", desc := "()V" } : Jvm.MethodName)) ∈ lw_tbl := List.mem_append_right _ (List.mem_of_getElem? (i := 279) (by decide +kernel))
theorem tw_280 : (Jvm.Cond.code ({ cls := "BreathStreet$Sights", name := "<init>", desc := "()V" } : Jvm.MethodName) prog_9_method_1_code (1 : Nat) (Option.none : Option Jvm.ClassFile.FieldType)) ∈ lw_tbl := List.mem_append_right _ (List.mem_of_getElem? (i := 280) (by decide +kernel))
theorem tw_281 : (Jvm.Cond.methodLink "BreathStreet$Sights" (3 : Nat) ({ cls := "java/lang/Object", name := "<init>", desc := "()V" } : Jvm.MethodName)) ∈ lw_tbl := List.mem_append_right _ (List.mem_of_getElem? (i := 281) (by decide +kernel))
theorem tw_282 : (Jvm.Cond.fieldLink "BreathStreet$Sights" (9 : Nat) "BreathStreet$Sights" "fields" "[I") ∈ lw_tbl := List.mem_append_right _ (List.mem_of_getElem? (i := 282) (by decide +kernel))
theorem tw_283 : (Jvm.Cond.fieldLink "BreathStreet$Sights" (15 : Nat) "BreathStreet$Sights" "breaths" "[I") ∈ lw_tbl := List.mem_append_right _ (List.mem_of_getElem? (i := 283) (by decide +kernel))
theorem tw_284 : (Jvm.Cond.fieldLink "BreathStreet$Sights" (18 : Nat) "BreathStreet$Sights" "heights" "[I") ∈ lw_tbl := List.mem_append_right _ (List.mem_of_getElem? (i := 284) (by decide +kernel))
theorem tw_285 : (Jvm.Cond.fieldLink "BreathStreet$Sights" (21 : Nat) "BreathStreet$Sights" "seen" "I") ∈ lw_tbl := List.mem_append_right _ (List.mem_of_getElem? (i := 285) (by decide +kernel))
theorem tw_286 : (Jvm.Cond.fieldLink "BreathStreet" (156 : Nat) "BreathStreet$Sights" "seen" "I") ∈ lw_tbl := List.mem_append_right _ (List.mem_of_getElem? (i := 286) (by decide +kernel))
theorem tw_287 : (Jvm.Cond.laysFinal "BreathStreet$Sights" "BreathStreet$Sights" "fields" "[I") ∈ lw_tbl := List.mem_append_right _ (List.mem_of_getElem? (i := 287) (by decide +kernel))
theorem tw_288 : (Jvm.Cond.soleField "BreathStreet$Sights" "fields") ∈ lw_tbl := List.mem_append_right _ (List.mem_of_getElem? (i := 288) (by decide +kernel))
theorem tw_289 : (Jvm.Cond.laysFinal "BreathStreet$Sights" "BreathStreet$Sights" "breaths" "[I") ∈ lw_tbl := List.mem_append_right _ (List.mem_of_getElem? (i := 289) (by decide +kernel))
theorem tw_290 : (Jvm.Cond.soleField "BreathStreet$Sights" "breaths") ∈ lw_tbl := List.mem_append_right _ (List.mem_of_getElem? (i := 290) (by decide +kernel))
theorem tw_291 : (Jvm.Cond.laysFinal "BreathStreet$Sights" "BreathStreet$Sights" "heights" "[I") ∈ lw_tbl := List.mem_append_right _ (List.mem_of_getElem? (i := 291) (by decide +kernel))
theorem tw_292 : (Jvm.Cond.soleField "BreathStreet$Sights" "heights") ∈ lw_tbl := List.mem_append_right _ (List.mem_of_getElem? (i := 292) (by decide +kernel))
theorem tw_293 : (Jvm.Cond.lays "BreathStreet$Sights" "BreathStreet$Sights" "seen" "I") ∈ lw_tbl := List.mem_append_right _ (List.mem_of_getElem? (i := 293) (by decide +kernel))
theorem tw_294 : (Jvm.Cond.soleField "BreathStreet$Sights" "seen") ∈ lw_tbl := List.mem_append_right _ (List.mem_of_getElem? (i := 294) (by decide +kernel))
theorem tw_295 : (Jvm.Cond.superclass "BreathStreet$Sights" "java/lang/Object") ∈ lw_tbl := List.mem_append_right _ (List.mem_of_getElem? (i := 295) (by decide +kernel))
theorem tw_296 : (Jvm.Cond.classLink "BreathStreet" (75 : Nat) "BreathStreet$Book") ∈ lw_tbl := List.mem_append_right _ (List.mem_of_getElem? (i := 296) (by decide +kernel))
theorem tw_297 : (Jvm.Cond.instantiable "BreathStreet$Book" (4 : Nat)) ∈ lw_tbl := List.mem_append_right _ (List.mem_of_getElem? (i := 297) (by decide +kernel))
theorem tw_298 : (Jvm.Cond.methodLinkNest "BreathStreet" (77 : Nat) ({ cls := "BreathStreet$Book", name := "<init>", desc := "()V" } : Jvm.MethodName) "BreathStreet") ∈ lw_tbl := List.mem_append_right _ (List.mem_of_getElem? (i := 298) (by decide +kernel))
theorem tw_299 : (Jvm.Cond.instanceMethod ({ cls := "BreathStreet$Book", name := "<init>", desc := "()V" } : Jvm.MethodName)) ∈ lw_tbl := List.mem_append_right _ (List.mem_of_getElem? (i := 299) (by decide +kernel))
theorem tw_300 : (Jvm.Cond.code ({ cls := "BreathStreet$Book", name := "<init>", desc := "()V" } : Jvm.MethodName) prog_2_method_1_code (1 : Nat) (Option.none : Option Jvm.ClassFile.FieldType)) ∈ lw_tbl := List.mem_append_right _ (List.mem_of_getElem? (i := 300) (by decide +kernel))
theorem tw_301 : (Jvm.Cond.methodLink "BreathStreet$Book" (3 : Nat) ({ cls := "java/lang/Object", name := "<init>", desc := "()V" } : Jvm.MethodName)) ∈ lw_tbl := List.mem_append_right _ (List.mem_of_getElem? (i := 301) (by decide +kernel))
theorem tw_302 : (Jvm.Cond.classLink "BreathStreet$Book" (15 : Nat) "BreathStreet$Moment") ∈ lw_tbl := List.mem_append_right _ (List.mem_of_getElem? (i := 302) (by decide +kernel))
theorem tw_303 : (Jvm.Cond.methodLinkNest "BreathStreet$Book" (17 : Nat) ({ cls := "BreathStreet$Moment", name := "<init>", desc := "()V" } : Jvm.MethodName) "BreathStreet") ∈ lw_tbl := List.mem_append_right _ (List.mem_of_getElem? (i := 303) (by decide +kernel))
theorem tw_304 : (Jvm.Cond.fieldLink "BreathStreet$Book" (9 : Nat) "BreathStreet$Book" "ways" "[I") ∈ lw_tbl := List.mem_append_right _ (List.mem_of_getElem? (i := 304) (by decide +kernel))
theorem tw_305 : (Jvm.Cond.fieldLink "BreathStreet$Book" (18 : Nat) "BreathStreet$Book" "tried" "LBreathStreet$Moment;") ∈ lw_tbl := List.mem_append_right _ (List.mem_of_getElem? (i := 305) (by decide +kernel))
theorem tw_306 : (Jvm.Cond.fieldLink "BreathStreet$Book" (22 : Nat) "BreathStreet$Book" "lines" "I") ∈ lw_tbl := List.mem_append_right _ (List.mem_of_getElem? (i := 306) (by decide +kernel))
theorem tw_307 : (Jvm.Cond.fieldLink "BreathStreet" (159 : Nat) "BreathStreet$Book" "lines" "I") ∈ lw_tbl := List.mem_append_right _ (List.mem_of_getElem? (i := 307) (by decide +kernel))
theorem tw_308 : (Jvm.Cond.fieldLink "BreathStreet$Book" (26 : Nat) "BreathStreet$Book" "pulledAhead" "I") ∈ lw_tbl := List.mem_append_right _ (List.mem_of_getElem? (i := 308) (by decide +kernel))
theorem tw_309 : (Jvm.Cond.fieldLink "BreathStreet" (326 : Nat) "BreathStreet$Book" "pulledAhead" "I") ∈ lw_tbl := List.mem_append_right _ (List.mem_of_getElem? (i := 309) (by decide +kernel))
theorem tw_310 : (Jvm.Cond.laysFinal "BreathStreet$Book" "BreathStreet$Book" "ways" "[I") ∈ lw_tbl := List.mem_append_right _ (List.mem_of_getElem? (i := 310) (by decide +kernel))
theorem tw_311 : (Jvm.Cond.soleField "BreathStreet$Book" "ways") ∈ lw_tbl := List.mem_append_right _ (List.mem_of_getElem? (i := 311) (by decide +kernel))
theorem tw_312 : (Jvm.Cond.laysFinal "BreathStreet$Book" "BreathStreet$Book" "tried" "LBreathStreet$Moment;") ∈ lw_tbl := List.mem_append_right _ (List.mem_of_getElem? (i := 312) (by decide +kernel))
theorem tw_313 : (Jvm.Cond.soleField "BreathStreet$Book" "tried") ∈ lw_tbl := List.mem_append_right _ (List.mem_of_getElem? (i := 313) (by decide +kernel))
theorem tw_314 : (Jvm.Cond.lays "BreathStreet$Book" "BreathStreet$Book" "lines" "I") ∈ lw_tbl := List.mem_append_right _ (List.mem_of_getElem? (i := 314) (by decide +kernel))
theorem tw_315 : (Jvm.Cond.soleField "BreathStreet$Book" "lines") ∈ lw_tbl := List.mem_append_right _ (List.mem_of_getElem? (i := 315) (by decide +kernel))
theorem tw_316 : (Jvm.Cond.lays "BreathStreet$Book" "BreathStreet$Book" "pulledAhead" "I") ∈ lw_tbl := List.mem_append_right _ (List.mem_of_getElem? (i := 316) (by decide +kernel))
theorem tw_317 : (Jvm.Cond.soleField "BreathStreet$Book" "pulledAhead") ∈ lw_tbl := List.mem_append_right _ (List.mem_of_getElem? (i := 317) (by decide +kernel))
theorem tw_318 : (Jvm.Cond.superclass "BreathStreet$Book" "java/lang/Object") ∈ lw_tbl := List.mem_append_right _ (List.mem_of_getElem? (i := 318) (by decide +kernel))
theorem tw_319 : (Jvm.Cond.fieldLink "BreathStreet" (10 : Nat) "BreathStreet" "text" "LBreathStreet$Text;") ∈ lw_tbl := List.mem_append_right _ (List.mem_of_getElem? (i := 319) (by decide +kernel))
theorem tw_320 : (Jvm.Cond.fieldLink "BreathStreet" (19 : Nat) "BreathStreet" "theStreet" "LBreathStreet$Street;") ∈ lw_tbl := List.mem_append_right _ (List.mem_of_getElem? (i := 320) (by decide +kernel))
theorem tw_321 : (Jvm.Cond.fieldLink "BreathStreet" (23 : Nat) "BreathStreet" "spare" "LBreathStreet$Street;") ∈ lw_tbl := List.mem_append_right _ (List.mem_of_getElem? (i := 321) (by decide +kernel))
theorem tw_322 : (Jvm.Cond.fieldLink "BreathStreet" (26 : Nat) "BreathStreet" "faultAt" "I") ∈ lw_tbl := List.mem_append_right _ (List.mem_of_getElem? (i := 322) (by decide +kernel))
theorem tw_323 : (Jvm.Cond.fieldLink "BreathStreet" (33 : Nat) "BreathStreet" "now" "LBreathStreet$Moment;") ∈ lw_tbl := List.mem_append_right _ (List.mem_of_getElem? (i := 323) (by decide +kernel))
theorem tw_324 : (Jvm.Cond.fieldLink "BreathStreet" (40 : Nat) "BreathStreet" "trail" "LBreathStreet$Trail;") ∈ lw_tbl := List.mem_append_right _ (List.mem_of_getElem? (i := 324) (by decide +kernel))
theorem tw_325 : (Jvm.Cond.fieldLink "BreathStreet" (47 : Nat) "BreathStreet" "firstImage" "LBreathStreet$Image;") ∈ lw_tbl := List.mem_append_right _ (List.mem_of_getElem? (i := 325) (by decide +kernel))
theorem tw_326 : (Jvm.Cond.fieldLink "BreathStreet" (51 : Nat) "BreathStreet" "secondImage" "LBreathStreet$Image;") ∈ lw_tbl := List.mem_append_right _ (List.mem_of_getElem? (i := 326) (by decide +kernel))
theorem tw_327 : (Jvm.Cond.fieldLink "BreathStreet" (57 : Nat) "BreathStreet" "home" "LBreathStreet$Home;") ∈ lw_tbl := List.mem_append_right _ (List.mem_of_getElem? (i := 327) (by decide +kernel))
theorem tw_328 : (Jvm.Cond.fieldLink "BreathStreet" (64 : Nat) "BreathStreet" "cough" "LBreathStreet$Cough;") ∈ lw_tbl := List.mem_append_right _ (List.mem_of_getElem? (i := 328) (by decide +kernel))
theorem tw_329 : (Jvm.Cond.fieldLink "BreathStreet" (71 : Nat) "BreathStreet" "sights" "LBreathStreet$Sights;") ∈ lw_tbl := List.mem_append_right _ (List.mem_of_getElem? (i := 329) (by decide +kernel))
theorem tw_330 : (Jvm.Cond.fieldLink "BreathStreet" (78 : Nat) "BreathStreet" "book" "LBreathStreet$Book;") ∈ lw_tbl := List.mem_append_right _ (List.mem_of_getElem? (i := 330) (by decide +kernel))
theorem tw_331 : (Jvm.Cond.fieldLink "BreathStreet" (82 : Nat) "BreathStreet" "theSeed" "I") ∈ lw_tbl := List.mem_append_right _ (List.mem_of_getElem? (i := 331) (by decide +kernel))
theorem tw_332 : (Jvm.Cond.laysFinal "BreathStreet" "BreathStreet" "text" "LBreathStreet$Text;") ∈ lw_tbl := List.mem_append_right _ (List.mem_of_getElem? (i := 332) (by decide +kernel))
theorem tw_333 : (Jvm.Cond.soleField "BreathStreet" "text") ∈ lw_tbl := List.mem_append_right _ (List.mem_of_getElem? (i := 333) (by decide +kernel))
theorem tw_334 : (Jvm.Cond.lays "BreathStreet" "BreathStreet" "theStreet" "LBreathStreet$Street;") ∈ lw_tbl := List.mem_append_right _ (List.mem_of_getElem? (i := 334) (by decide +kernel))
theorem tw_335 : (Jvm.Cond.soleField "BreathStreet" "theStreet") ∈ lw_tbl := List.mem_append_right _ (List.mem_of_getElem? (i := 335) (by decide +kernel))
theorem tw_336 : (Jvm.Cond.lays "BreathStreet" "BreathStreet" "spare" "LBreathStreet$Street;") ∈ lw_tbl := List.mem_append_right _ (List.mem_of_getElem? (i := 336) (by decide +kernel))
theorem tw_337 : (Jvm.Cond.soleField "BreathStreet" "spare") ∈ lw_tbl := List.mem_append_right _ (List.mem_of_getElem? (i := 337) (by decide +kernel))
theorem tw_338 : (Jvm.Cond.lays "BreathStreet" "BreathStreet" "faultAt" "I") ∈ lw_tbl := List.mem_append_right _ (List.mem_of_getElem? (i := 338) (by decide +kernel))
theorem tw_339 : (Jvm.Cond.soleField "BreathStreet" "faultAt") ∈ lw_tbl := List.mem_append_right _ (List.mem_of_getElem? (i := 339) (by decide +kernel))
theorem tw_340 : (Jvm.Cond.laysFinal "BreathStreet" "BreathStreet" "now" "LBreathStreet$Moment;") ∈ lw_tbl := List.mem_append_right _ (List.mem_of_getElem? (i := 340) (by decide +kernel))
theorem tw_341 : (Jvm.Cond.soleField "BreathStreet" "now") ∈ lw_tbl := List.mem_append_right _ (List.mem_of_getElem? (i := 341) (by decide +kernel))
theorem tw_342 : (Jvm.Cond.laysFinal "BreathStreet" "BreathStreet" "trail" "LBreathStreet$Trail;") ∈ lw_tbl := List.mem_append_right _ (List.mem_of_getElem? (i := 342) (by decide +kernel))
theorem tw_343 : (Jvm.Cond.soleField "BreathStreet" "trail") ∈ lw_tbl := List.mem_append_right _ (List.mem_of_getElem? (i := 343) (by decide +kernel))
theorem tw_344 : (Jvm.Cond.laysFinal "BreathStreet" "BreathStreet" "firstImage" "LBreathStreet$Image;") ∈ lw_tbl := List.mem_append_right _ (List.mem_of_getElem? (i := 344) (by decide +kernel))
theorem tw_345 : (Jvm.Cond.soleField "BreathStreet" "firstImage") ∈ lw_tbl := List.mem_append_right _ (List.mem_of_getElem? (i := 345) (by decide +kernel))
theorem tw_346 : (Jvm.Cond.laysFinal "BreathStreet" "BreathStreet" "secondImage" "LBreathStreet$Image;") ∈ lw_tbl := List.mem_append_right _ (List.mem_of_getElem? (i := 346) (by decide +kernel))
theorem tw_347 : (Jvm.Cond.soleField "BreathStreet" "secondImage") ∈ lw_tbl := List.mem_append_right _ (List.mem_of_getElem? (i := 347) (by decide +kernel))
theorem tw_348 : (Jvm.Cond.laysFinal "BreathStreet" "BreathStreet" "home" "LBreathStreet$Home;") ∈ lw_tbl := List.mem_append_right _ (List.mem_of_getElem? (i := 348) (by decide +kernel))
theorem tw_349 : (Jvm.Cond.soleField "BreathStreet" "home") ∈ lw_tbl := List.mem_append_right _ (List.mem_of_getElem? (i := 349) (by decide +kernel))
theorem tw_350 : (Jvm.Cond.laysFinal "BreathStreet" "BreathStreet" "cough" "LBreathStreet$Cough;") ∈ lw_tbl := List.mem_append_right _ (List.mem_of_getElem? (i := 350) (by decide +kernel))
theorem tw_351 : (Jvm.Cond.soleField "BreathStreet" "cough") ∈ lw_tbl := List.mem_append_right _ (List.mem_of_getElem? (i := 351) (by decide +kernel))
theorem tw_352 : (Jvm.Cond.laysFinal "BreathStreet" "BreathStreet" "sights" "LBreathStreet$Sights;") ∈ lw_tbl := List.mem_append_right _ (List.mem_of_getElem? (i := 352) (by decide +kernel))
theorem tw_353 : (Jvm.Cond.soleField "BreathStreet" "sights") ∈ lw_tbl := List.mem_append_right _ (List.mem_of_getElem? (i := 353) (by decide +kernel))
theorem tw_354 : (Jvm.Cond.laysFinal "BreathStreet" "BreathStreet" "book" "LBreathStreet$Book;") ∈ lw_tbl := List.mem_append_right _ (List.mem_of_getElem? (i := 354) (by decide +kernel))
theorem tw_355 : (Jvm.Cond.soleField "BreathStreet" "book") ∈ lw_tbl := List.mem_append_right _ (List.mem_of_getElem? (i := 355) (by decide +kernel))
theorem tw_356 : (Jvm.Cond.lays "BreathStreet" "BreathStreet" "theSeed" "I") ∈ lw_tbl := List.mem_append_right _ (List.mem_of_getElem? (i := 356) (by decide +kernel))
theorem tw_357 : (Jvm.Cond.soleField "BreathStreet" "theSeed") ∈ lw_tbl := List.mem_append_right _ (List.mem_of_getElem? (i := 357) (by decide +kernel))
theorem tw_358 : (Jvm.Cond.superclass "BreathStreet" "java/lang/Object") ∈ lw_tbl := List.mem_append_right _ (List.mem_of_getElem? (i := 358) (by decide +kernel))
theorem tw_359 : (Jvm.Cond.methodLink "BreathStreetLaw" (13 : Nat) ({ cls := "BreathStreet", name := "feed", desc := "(I)I" } : Jvm.MethodName)) ∈ lw_tbl := List.mem_append_right _ (List.mem_of_getElem? (i := 359) (by decide +kernel))
theorem tw_360 : (Jvm.Cond.instanceMethod ({ cls := "BreathStreet", name := "feed", desc := "(I)I" } : Jvm.MethodName)) ∈ lw_tbl := List.mem_append_right _ (List.mem_of_getElem? (i := 360) (by decide +kernel))
theorem tw_361 : (Jvm.Cond.selects "BreathStreet" ({ cls := "BreathStreet", name := "feed", desc := "(I)I" } : Jvm.MethodName) ({ cls := "BreathStreet", name := "feed", desc := "(I)I" } : Jvm.MethodName)) ∈ lw_tbl := List.mem_append_right _ (List.mem_of_getElem? (i := 361) (by decide +kernel))
theorem tw_362 : (Jvm.Cond.code ({ cls := "BreathStreet", name := "feed", desc := "(I)I" } : Jvm.MethodName) prog_1_method_2_code (2 : Nat) (Option.some Jvm.ClassFile.FieldType.int)) ∈ lw_tbl := List.mem_append_right _ (List.mem_of_getElem? (i := 362) (by decide +kernel))
theorem tw_363 : (Jvm.Cond.methodLink "BreathStreet" (85 : Nat) ({ cls := "BreathStreet", name := "isOutside", desc := "(III)Z" } : Jvm.MethodName)) ∈ lw_tbl := List.mem_append_right _ (List.mem_of_getElem? (i := 363) (by decide +kernel))
theorem tw_364 : (Jvm.Cond.static ({ cls := "BreathStreet", name := "isOutside", desc := "(III)Z" } : Jvm.MethodName)) ∈ lw_tbl := List.mem_append_right _ (List.mem_of_getElem? (i := 364) (by decide +kernel))
theorem tw_365 : (Jvm.Cond.code ({ cls := "BreathStreet", name := "isOutside", desc := "(III)Z" } : Jvm.MethodName) prog_1_method_43_code (3 : Nat) (Option.some Jvm.ClassFile.FieldType.boolean)) ∈ lw_tbl := List.mem_append_right _ (List.mem_of_getElem? (i := 365) (by decide +kernel))
theorem tw_366 : (Jvm.Cond.constant "BreathStreet" (89 : Nat) (-1000000002 : Int32)) ∈ lw_tbl := List.mem_append_right _ (List.mem_of_getElem? (i := 366) (by decide +kernel))
theorem tw_367 : (Jvm.Cond.constant "BreathStreet" (93 : Nat) (-1000000004 : Int32)) ∈ lw_tbl := List.mem_append_right _ (List.mem_of_getElem? (i := 367) (by decide +kernel))
theorem tw_368 : (Jvm.Cond.methodLink "BreathStreet" (94 : Nat) ({ cls := "BreathStreet$Text", name := "add", desc := "(I)I" } : Jvm.MethodName)) ∈ lw_tbl := List.mem_append_right _ (List.mem_of_getElem? (i := 368) (by decide +kernel))
theorem tw_369 : (Jvm.Cond.instanceMethod ({ cls := "BreathStreet$Text", name := "add", desc := "(I)I" } : Jvm.MethodName)) ∈ lw_tbl := List.mem_append_right _ (List.mem_of_getElem? (i := 369) (by decide +kernel))
theorem tw_370 : (Jvm.Cond.selects "BreathStreet$Text" ({ cls := "BreathStreet$Text", name := "add", desc := "(I)I" } : Jvm.MethodName) ({ cls := "BreathStreet$Text", name := "add", desc := "(I)I" } : Jvm.MethodName)) ∈ lw_tbl := List.mem_append_right _ (List.mem_of_getElem? (i := 370) (by decide +kernel))
theorem tw_371 : (Jvm.Cond.code ({ cls := "BreathStreet$Text", name := "add", desc := "(I)I" } : Jvm.MethodName) prog_11_method_2_code (2 : Nat) (Option.some Jvm.ClassFile.FieldType.int)) ∈ lw_tbl := List.mem_append_right _ (List.mem_of_getElem? (i := 371) (by decide +kernel))
theorem tw_372 : (Jvm.Cond.methodLink "BreathStreetLaw" (18 : Nat) ({ cls := "BreathStreet", name := "street", desc := "()I" } : Jvm.MethodName)) ∈ lw_tbl := List.mem_append_right _ (List.mem_of_getElem? (i := 372) (by decide +kernel))
theorem tw_373 : (Jvm.Cond.instanceMethod ({ cls := "BreathStreet", name := "street", desc := "()I" } : Jvm.MethodName)) ∈ lw_tbl := List.mem_append_right _ (List.mem_of_getElem? (i := 373) (by decide +kernel))
theorem tw_374 : (Jvm.Cond.selects "BreathStreet" ({ cls := "BreathStreet", name := "street", desc := "()I" } : Jvm.MethodName) ({ cls := "BreathStreet", name := "street", desc := "()I" } : Jvm.MethodName)) ∈ lw_tbl := List.mem_append_right _ (List.mem_of_getElem? (i := 374) (by decide +kernel))
theorem tw_375 : (Jvm.Cond.code ({ cls := "BreathStreet", name := "street", desc := "()I" } : Jvm.MethodName) prog_1_method_3_code (3 : Nat) (Option.some Jvm.ClassFile.FieldType.int)) ∈ lw_tbl := List.mem_append_right _ (List.mem_of_getElem? (i := 375) (by decide +kernel))
theorem tw_376 : (Jvm.Cond.methodLink "BreathStreet" (98 : Nat) ({ cls := "BreathStreet$Text", name := "readInto", desc := "(LBreathStreet$Street;)I" } : Jvm.MethodName)) ∈ lw_tbl := List.mem_append_right _ (List.mem_of_getElem? (i := 376) (by decide +kernel))
theorem tw_377 : (Jvm.Cond.instanceMethod ({ cls := "BreathStreet$Text", name := "readInto", desc := "(LBreathStreet$Street;)I" } : Jvm.MethodName)) ∈ lw_tbl := List.mem_append_right _ (List.mem_of_getElem? (i := 377) (by decide +kernel))
theorem tw_378 : (Jvm.Cond.selects "BreathStreet$Text" ({ cls := "BreathStreet$Text", name := "readInto", desc := "(LBreathStreet$Street;)I" } : Jvm.MethodName) ({ cls := "BreathStreet$Text", name := "readInto", desc := "(LBreathStreet$Street;)I" } : Jvm.MethodName)) ∈ lw_tbl := List.mem_append_right _ (List.mem_of_getElem? (i := 378) (by decide +kernel))
theorem tw_379 : (Jvm.Cond.code ({ cls := "BreathStreet$Text", name := "readInto", desc := "(LBreathStreet$Street;)I" } : Jvm.MethodName) prog_11_method_3_code (3 : Nat) (Option.some Jvm.ClassFile.FieldType.int)) ∈ lw_tbl := List.mem_append_right _ (List.mem_of_getElem? (i := 379) (by decide +kernel))
theorem tw_380 : (Jvm.Cond.methodLink "BreathStreet$Text" (28 : Nat) ({ cls := "BreathStreet$Street", name := "clear", desc := "()V" } : Jvm.MethodName)) ∈ lw_tbl := List.mem_append_right _ (List.mem_of_getElem? (i := 380) (by decide +kernel))
theorem tw_381 : (Jvm.Cond.instanceMethod ({ cls := "BreathStreet$Street", name := "clear", desc := "()V" } : Jvm.MethodName)) ∈ lw_tbl := List.mem_append_right _ (List.mem_of_getElem? (i := 381) (by decide +kernel))
theorem tw_382 : (Jvm.Cond.selects "BreathStreet$Street" ({ cls := "BreathStreet$Street", name := "clear", desc := "()V" } : Jvm.MethodName) ({ cls := "BreathStreet$Street", name := "clear", desc := "()V" } : Jvm.MethodName)) ∈ lw_tbl := List.mem_append_right _ (List.mem_of_getElem? (i := 382) (by decide +kernel))
theorem tw_383 : (Jvm.Cond.code ({ cls := "BreathStreet$Street", name := "clear", desc := "()V" } : Jvm.MethodName) prog_10_method_2_code (1 : Nat) (Option.none : Option Jvm.ClassFile.FieldType)) ∈ lw_tbl := List.mem_append_right _ (List.mem_of_getElem? (i := 383) (by decide +kernel))
theorem tw_384 : (Jvm.Cond.methodLink "BreathStreet$Street" (39 : Nat) ({ cls := "BreathStreet$Ground", name := "clear", desc := "()V" } : Jvm.MethodName)) ∈ lw_tbl := List.mem_append_right _ (List.mem_of_getElem? (i := 384) (by decide +kernel))
theorem tw_385 : (Jvm.Cond.instanceMethod ({ cls := "BreathStreet$Ground", name := "clear", desc := "()V" } : Jvm.MethodName)) ∈ lw_tbl := List.mem_append_right _ (List.mem_of_getElem? (i := 385) (by decide +kernel))
theorem tw_386 : (Jvm.Cond.selects "BreathStreet$Ground" ({ cls := "BreathStreet$Ground", name := "clear", desc := "()V" } : Jvm.MethodName) ({ cls := "BreathStreet$Ground", name := "clear", desc := "()V" } : Jvm.MethodName)) ∈ lw_tbl := List.mem_append_right _ (List.mem_of_getElem? (i := 386) (by decide +kernel))
theorem tw_387 : (Jvm.Cond.code ({ cls := "BreathStreet$Ground", name := "clear", desc := "()V" } : Jvm.MethodName) prog_4_method_2_code (1 : Nat) (Option.none : Option Jvm.ClassFile.FieldType)) ∈ lw_tbl := List.mem_append_right _ (List.mem_of_getElem? (i := 387) (by decide +kernel))
theorem tw_388 : (Jvm.Cond.methodLink "BreathStreet$Text" (33 : Nat) ({ cls := "BreathStreet$Text", name := "skipBlanks", desc := "()V" } : Jvm.MethodName)) ∈ lw_tbl := List.mem_append_right _ (List.mem_of_getElem? (i := 388) (by decide +kernel))
theorem tw_389 : (Jvm.Cond.privateMethod ({ cls := "BreathStreet$Text", name := "skipBlanks", desc := "()V" } : Jvm.MethodName)) ∈ lw_tbl := List.mem_append_right _ (List.mem_of_getElem? (i := 389) (by decide +kernel))
theorem tw_390 : (Jvm.Cond.instanceMethod ({ cls := "BreathStreet$Text", name := "skipBlanks", desc := "()V" } : Jvm.MethodName)) ∈ lw_tbl := List.mem_append_right _ (List.mem_of_getElem? (i := 390) (by decide +kernel))
theorem tw_391 : (Jvm.Cond.code ({ cls := "BreathStreet$Text", name := "skipBlanks", desc := "()V" } : Jvm.MethodName) prog_11_method_12_code (1 : Nat) (Option.none : Option Jvm.ClassFile.FieldType)) ∈ lw_tbl := List.mem_append_right _ (List.mem_of_getElem? (i := 391) (by decide +kernel))
theorem tw_392 : (Jvm.Cond.methodLink "BreathStreet$Text" (40 : Nat) ({ cls := "BreathStreet$Text", name := "letterHere", desc := "()I" } : Jvm.MethodName)) ∈ lw_tbl := List.mem_append_right _ (List.mem_of_getElem? (i := 392) (by decide +kernel))
theorem tw_393 : (Jvm.Cond.privateMethod ({ cls := "BreathStreet$Text", name := "letterHere", desc := "()I" } : Jvm.MethodName)) ∈ lw_tbl := List.mem_append_right _ (List.mem_of_getElem? (i := 393) (by decide +kernel))
theorem tw_394 : (Jvm.Cond.instanceMethod ({ cls := "BreathStreet$Text", name := "letterHere", desc := "()I" } : Jvm.MethodName)) ∈ lw_tbl := List.mem_append_right _ (List.mem_of_getElem? (i := 394) (by decide +kernel))
theorem tw_395 : (Jvm.Cond.code ({ cls := "BreathStreet$Text", name := "letterHere", desc := "()I" } : Jvm.MethodName) prog_11_method_13_code (1 : Nat) (Option.some Jvm.ClassFile.FieldType.int)) ∈ lw_tbl := List.mem_append_right _ (List.mem_of_getElem? (i := 395) (by decide +kernel))
theorem tw_396 : (Jvm.Cond.methodLink "BreathStreet$Text" (36 : Nat) ({ cls := "BreathStreet$Text", name := "readClause", desc := "(LBreathStreet$Street;)V" } : Jvm.MethodName)) ∈ lw_tbl := List.mem_append_right _ (List.mem_of_getElem? (i := 396) (by decide +kernel))
theorem tw_397 : (Jvm.Cond.privateMethod ({ cls := "BreathStreet$Text", name := "readClause", desc := "(LBreathStreet$Street;)V" } : Jvm.MethodName)) ∈ lw_tbl := List.mem_append_right _ (List.mem_of_getElem? (i := 397) (by decide +kernel))
theorem tw_398 : (Jvm.Cond.instanceMethod ({ cls := "BreathStreet$Text", name := "readClause", desc := "(LBreathStreet$Street;)V" } : Jvm.MethodName)) ∈ lw_tbl := List.mem_append_right _ (List.mem_of_getElem? (i := 398) (by decide +kernel))
theorem tw_399 : (Jvm.Cond.code ({ cls := "BreathStreet$Text", name := "readClause", desc := "(LBreathStreet$Street;)V" } : Jvm.MethodName) prog_11_method_4_code (2 : Nat) (Option.none : Option Jvm.ClassFile.FieldType)) ∈ lw_tbl := List.mem_append_right _ (List.mem_of_getElem? (i := 399) (by decide +kernel))
theorem tw_400 : (Jvm.Cond.methodLink "BreathStreet$Text" (48 : Nat) ({ cls := "BreathStreet$Text", name := "readField", desc := "(LBreathStreet$Ground;)V" } : Jvm.MethodName)) ∈ lw_tbl := List.mem_append_right _ (List.mem_of_getElem? (i := 400) (by decide +kernel))
theorem tw_401 : (Jvm.Cond.privateMethod ({ cls := "BreathStreet$Text", name := "readField", desc := "(LBreathStreet$Ground;)V" } : Jvm.MethodName)) ∈ lw_tbl := List.mem_append_right _ (List.mem_of_getElem? (i := 401) (by decide +kernel))
theorem tw_402 : (Jvm.Cond.instanceMethod ({ cls := "BreathStreet$Text", name := "readField", desc := "(LBreathStreet$Ground;)V" } : Jvm.MethodName)) ∈ lw_tbl := List.mem_append_right _ (List.mem_of_getElem? (i := 402) (by decide +kernel))
theorem tw_403 : (Jvm.Cond.code ({ cls := "BreathStreet$Text", name := "readField", desc := "(LBreathStreet$Ground;)V" } : Jvm.MethodName) prog_11_method_5_code (6 : Nat) (Option.none : Option Jvm.ClassFile.FieldType)) ∈ lw_tbl := List.mem_append_right _ (List.mem_of_getElem? (i := 403) (by decide +kernel))
theorem tw_404 : (Jvm.Cond.methodLink "BreathStreet$Text" (75 : Nat) ({ cls := "BreathStreet$Text", name := "readWord", desc := "(Z)V" } : Jvm.MethodName)) ∈ lw_tbl := List.mem_append_right _ (List.mem_of_getElem? (i := 404) (by decide +kernel))
theorem tw_405 : (Jvm.Cond.privateMethod ({ cls := "BreathStreet$Text", name := "readWord", desc := "(Z)V" } : Jvm.MethodName)) ∈ lw_tbl := List.mem_append_right _ (List.mem_of_getElem? (i := 405) (by decide +kernel))
theorem tw_406 : (Jvm.Cond.instanceMethod ({ cls := "BreathStreet$Text", name := "readWord", desc := "(Z)V" } : Jvm.MethodName)) ∈ lw_tbl := List.mem_append_right _ (List.mem_of_getElem? (i := 406) (by decide +kernel))
theorem tw_407 : (Jvm.Cond.code ({ cls := "BreathStreet$Text", name := "readWord", desc := "(Z)V" } : Jvm.MethodName) prog_11_method_9_code (2 : Nat) (Option.none : Option Jvm.ClassFile.FieldType)) ∈ lw_tbl := List.mem_append_right _ (List.mem_of_getElem? (i := 407) (by decide +kernel))
theorem tw_408 : (Jvm.Cond.methodLink "BreathStreet$Text" (71 : Nat) ({ cls := "BreathStreet$Text", name := "blame", desc := "(II)V" } : Jvm.MethodName)) ∈ lw_tbl := List.mem_append_right _ (List.mem_of_getElem? (i := 408) (by decide +kernel))
theorem tw_409 : (Jvm.Cond.privateMethod ({ cls := "BreathStreet$Text", name := "blame", desc := "(II)V" } : Jvm.MethodName)) ∈ lw_tbl := List.mem_append_right _ (List.mem_of_getElem? (i := 409) (by decide +kernel))
theorem tw_410 : (Jvm.Cond.instanceMethod ({ cls := "BreathStreet$Text", name := "blame", desc := "(II)V" } : Jvm.MethodName)) ∈ lw_tbl := List.mem_append_right _ (List.mem_of_getElem? (i := 410) (by decide +kernel))
theorem tw_411 : (Jvm.Cond.code ({ cls := "BreathStreet$Text", name := "blame", desc := "(II)V" } : Jvm.MethodName) prog_11_method_15_code (3 : Nat) (Option.none : Option Jvm.ClassFile.FieldType)) ∈ lw_tbl := List.mem_append_right _ (List.mem_of_getElem? (i := 411) (by decide +kernel))
theorem tw_412 : (Jvm.Cond.methodLink "BreathStreet$Text" (79 : Nat) ({ cls := "BreathStreet$Text", name := "readNumber", desc := "(II)I" } : Jvm.MethodName)) ∈ lw_tbl := List.mem_append_right _ (List.mem_of_getElem? (i := 412) (by decide +kernel))
theorem tw_413 : (Jvm.Cond.privateMethod ({ cls := "BreathStreet$Text", name := "readNumber", desc := "(II)I" } : Jvm.MethodName)) ∈ lw_tbl := List.mem_append_right _ (List.mem_of_getElem? (i := 413) (by decide +kernel))
theorem tw_414 : (Jvm.Cond.instanceMethod ({ cls := "BreathStreet$Text", name := "readNumber", desc := "(II)I" } : Jvm.MethodName)) ∈ lw_tbl := List.mem_append_right _ (List.mem_of_getElem? (i := 414) (by decide +kernel))
theorem tw_415 : (Jvm.Cond.code ({ cls := "BreathStreet$Text", name := "readNumber", desc := "(II)I" } : Jvm.MethodName) prog_11_method_10_code (5 : Nat) (Option.some Jvm.ClassFile.FieldType.int)) ∈ lw_tbl := List.mem_append_right _ (List.mem_of_getElem? (i := 415) (by decide +kernel))
theorem tw_416 : (Jvm.Cond.methodLink "BreathStreet$Text" (103 : Nat) ({ cls := "BreathStreet$Text", name := "isFigure", desc := "(I)Z" } : Jvm.MethodName)) ∈ lw_tbl := List.mem_append_right _ (List.mem_of_getElem? (i := 416) (by decide +kernel))
theorem tw_417 : (Jvm.Cond.static ({ cls := "BreathStreet$Text", name := "isFigure", desc := "(I)Z" } : Jvm.MethodName)) ∈ lw_tbl := List.mem_append_right _ (List.mem_of_getElem? (i := 417) (by decide +kernel))
theorem tw_418 : (Jvm.Cond.code ({ cls := "BreathStreet$Text", name := "isFigure", desc := "(I)Z" } : Jvm.MethodName) prog_11_method_14_code (1 : Nat) (Option.some Jvm.ClassFile.FieldType.boolean)) ∈ lw_tbl := List.mem_append_right _ (List.mem_of_getElem? (i := 418) (by decide +kernel))
theorem tw_419 : (Jvm.Cond.methodLinkNest "BreathStreet$Text" (107 : Nat) ({ cls := "BreathStreet", name := "isOutside", desc := "(III)Z" } : Jvm.MethodName) "BreathStreet") ∈ lw_tbl := List.mem_append_right _ (List.mem_of_getElem? (i := 419) (by decide +kernel))
theorem tw_420 : (Jvm.Cond.methodLink "BreathStreet$Text" (83 : Nat) ({ cls := "BreathStreet$Text", name := "readEnd", desc := "()V" } : Jvm.MethodName)) ∈ lw_tbl := List.mem_append_right _ (List.mem_of_getElem? (i := 420) (by decide +kernel))
theorem tw_421 : (Jvm.Cond.privateMethod ({ cls := "BreathStreet$Text", name := "readEnd", desc := "()V" } : Jvm.MethodName)) ∈ lw_tbl := List.mem_append_right _ (List.mem_of_getElem? (i := 421) (by decide +kernel))
theorem tw_422 : (Jvm.Cond.instanceMethod ({ cls := "BreathStreet$Text", name := "readEnd", desc := "()V" } : Jvm.MethodName)) ∈ lw_tbl := List.mem_append_right _ (List.mem_of_getElem? (i := 422) (by decide +kernel))
theorem tw_423 : (Jvm.Cond.code ({ cls := "BreathStreet$Text", name := "readEnd", desc := "()V" } : Jvm.MethodName) prog_11_method_11_code (1 : Nat) (Option.none : Option Jvm.ClassFile.FieldType)) ∈ lw_tbl := List.mem_append_right _ (List.mem_of_getElem? (i := 423) (by decide +kernel))
theorem tw_424 : (Jvm.Cond.methodLink "BreathStreet$Text" (86 : Nat) ({ cls := "BreathStreet$Ground", name := "add", desc := "(IIII)V" } : Jvm.MethodName)) ∈ lw_tbl := List.mem_append_right _ (List.mem_of_getElem? (i := 424) (by decide +kernel))
theorem tw_425 : (Jvm.Cond.instanceMethod ({ cls := "BreathStreet$Ground", name := "add", desc := "(IIII)V" } : Jvm.MethodName)) ∈ lw_tbl := List.mem_append_right _ (List.mem_of_getElem? (i := 425) (by decide +kernel))
theorem tw_426 : (Jvm.Cond.selects "BreathStreet$Ground" ({ cls := "BreathStreet$Ground", name := "add", desc := "(IIII)V" } : Jvm.MethodName) ({ cls := "BreathStreet$Ground", name := "add", desc := "(IIII)V" } : Jvm.MethodName)) ∈ lw_tbl := List.mem_append_right _ (List.mem_of_getElem? (i := 426) (by decide +kernel))
theorem tw_427 : (Jvm.Cond.code ({ cls := "BreathStreet$Ground", name := "add", desc := "(IIII)V" } : Jvm.MethodName) prog_4_method_5_code (5 : Nat) (Option.none : Option Jvm.ClassFile.FieldType)) ∈ lw_tbl := List.mem_append_right _ (List.mem_of_getElem? (i := 427) (by decide +kernel))
theorem tw_428 : (Jvm.Cond.methodLinkNest "BreathStreet$Ground" (35 : Nat) ({ cls := "BreathStreet", name := "leastCommon", desc := "(II)I" } : Jvm.MethodName) "BreathStreet") ∈ lw_tbl := List.mem_append_right _ (List.mem_of_getElem? (i := 428) (by decide +kernel))
theorem tw_429 : (Jvm.Cond.static ({ cls := "BreathStreet", name := "leastCommon", desc := "(II)I" } : Jvm.MethodName)) ∈ lw_tbl := List.mem_append_right _ (List.mem_of_getElem? (i := 429) (by decide +kernel))
theorem tw_430 : (Jvm.Cond.code ({ cls := "BreathStreet", name := "leastCommon", desc := "(II)I" } : Jvm.MethodName) prog_1_method_44_code (3 : Nat) (Option.some Jvm.ClassFile.FieldType.int)) ∈ lw_tbl := List.mem_append_right _ (List.mem_of_getElem? (i := 430) (by decide +kernel))
theorem tw_431 : (Jvm.Cond.methodLink "BreathStreet$Text" (52 : Nat) ({ cls := "BreathStreet$Text", name := "readHouse", desc := "(LBreathStreet$Street;)V" } : Jvm.MethodName)) ∈ lw_tbl := List.mem_append_right _ (List.mem_of_getElem? (i := 431) (by decide +kernel))
theorem tw_432 : (Jvm.Cond.privateMethod ({ cls := "BreathStreet$Text", name := "readHouse", desc := "(LBreathStreet$Street;)V" } : Jvm.MethodName)) ∈ lw_tbl := List.mem_append_right _ (List.mem_of_getElem? (i := 432) (by decide +kernel))
theorem tw_433 : (Jvm.Cond.instanceMethod ({ cls := "BreathStreet$Text", name := "readHouse", desc := "(LBreathStreet$Street;)V" } : Jvm.MethodName)) ∈ lw_tbl := List.mem_append_right _ (List.mem_of_getElem? (i := 433) (by decide +kernel))
theorem tw_434 : (Jvm.Cond.code ({ cls := "BreathStreet$Text", name := "readHouse", desc := "(LBreathStreet$Street;)V" } : Jvm.MethodName) prog_11_method_6_code (4 : Nat) (Option.none : Option Jvm.ClassFile.FieldType)) ∈ lw_tbl := List.mem_append_right _ (List.mem_of_getElem? (i := 434) (by decide +kernel))
theorem tw_435 : (Jvm.Cond.methodLink "BreathStreet$Text" (93 : Nat) ({ cls := "BreathStreet$Street", name := "addHouse", desc := "(II)V" } : Jvm.MethodName)) ∈ lw_tbl := List.mem_append_right _ (List.mem_of_getElem? (i := 435) (by decide +kernel))
theorem tw_436 : (Jvm.Cond.instanceMethod ({ cls := "BreathStreet$Street", name := "addHouse", desc := "(II)V" } : Jvm.MethodName)) ∈ lw_tbl := List.mem_append_right _ (List.mem_of_getElem? (i := 436) (by decide +kernel))
theorem tw_437 : (Jvm.Cond.selects "BreathStreet$Street" ({ cls := "BreathStreet$Street", name := "addHouse", desc := "(II)V" } : Jvm.MethodName) ({ cls := "BreathStreet$Street", name := "addHouse", desc := "(II)V" } : Jvm.MethodName)) ∈ lw_tbl := List.mem_append_right _ (List.mem_of_getElem? (i := 437) (by decide +kernel))
theorem tw_438 : (Jvm.Cond.code ({ cls := "BreathStreet$Street", name := "addHouse", desc := "(II)V" } : Jvm.MethodName) prog_10_method_5_code (3 : Nat) (Option.none : Option Jvm.ClassFile.FieldType)) ∈ lw_tbl := List.mem_append_right _ (List.mem_of_getElem? (i := 438) (by decide +kernel))
theorem tw_439 : (Jvm.Cond.methodLink "BreathStreet$Text" (64 : Nat) ({ cls := "BreathStreet$Text", name := "readSeam", desc := "(LBreathStreet$Seams;I)V" } : Jvm.MethodName)) ∈ lw_tbl := List.mem_append_right _ (List.mem_of_getElem? (i := 439) (by decide +kernel))
theorem tw_440 : (Jvm.Cond.privateMethod ({ cls := "BreathStreet$Text", name := "readSeam", desc := "(LBreathStreet$Seams;I)V" } : Jvm.MethodName)) ∈ lw_tbl := List.mem_append_right _ (List.mem_of_getElem? (i := 440) (by decide +kernel))
theorem tw_441 : (Jvm.Cond.instanceMethod ({ cls := "BreathStreet$Text", name := "readSeam", desc := "(LBreathStreet$Seams;I)V" } : Jvm.MethodName)) ∈ lw_tbl := List.mem_append_right _ (List.mem_of_getElem? (i := 441) (by decide +kernel))
theorem tw_442 : (Jvm.Cond.code ({ cls := "BreathStreet$Text", name := "readSeam", desc := "(LBreathStreet$Seams;I)V" } : Jvm.MethodName) prog_11_method_7_code (7 : Nat) (Option.none : Option Jvm.ClassFile.FieldType)) ∈ lw_tbl := List.mem_append_right _ (List.mem_of_getElem? (i := 442) (by decide +kernel))
theorem tw_443 : (Jvm.Cond.methodLink "BreathStreet$Text" (99 : Nat) ({ cls := "BreathStreet$Seams", name := "add", desc := "(IIII)V" } : Jvm.MethodName)) ∈ lw_tbl := List.mem_append_right _ (List.mem_of_getElem? (i := 443) (by decide +kernel))
theorem tw_444 : (Jvm.Cond.instanceMethod ({ cls := "BreathStreet$Seams", name := "add", desc := "(IIII)V" } : Jvm.MethodName)) ∈ lw_tbl := List.mem_append_right _ (List.mem_of_getElem? (i := 444) (by decide +kernel))
theorem tw_445 : (Jvm.Cond.selects "BreathStreet$Seams" ({ cls := "BreathStreet$Seams", name := "add", desc := "(IIII)V" } : Jvm.MethodName) ({ cls := "BreathStreet$Seams", name := "add", desc := "(IIII)V" } : Jvm.MethodName)) ∈ lw_tbl := List.mem_append_right _ (List.mem_of_getElem? (i := 445) (by decide +kernel))
theorem tw_446 : (Jvm.Cond.code ({ cls := "BreathStreet$Seams", name := "add", desc := "(IIII)V" } : Jvm.MethodName) prog_8_method_4_code (5 : Nat) (Option.none : Option Jvm.ClassFile.FieldType)) ∈ lw_tbl := List.mem_append_right _ (List.mem_of_getElem? (i := 446) (by decide +kernel))
theorem tw_447 : (Jvm.Cond.methodLink "BreathStreet$Text" (68 : Nat) ({ cls := "BreathStreet$Text", name := "readBarrel", desc := "(LBreathStreet$Street;)V" } : Jvm.MethodName)) ∈ lw_tbl := List.mem_append_right _ (List.mem_of_getElem? (i := 447) (by decide +kernel))
theorem tw_448 : (Jvm.Cond.privateMethod ({ cls := "BreathStreet$Text", name := "readBarrel", desc := "(LBreathStreet$Street;)V" } : Jvm.MethodName)) ∈ lw_tbl := List.mem_append_right _ (List.mem_of_getElem? (i := 448) (by decide +kernel))
theorem tw_449 : (Jvm.Cond.instanceMethod ({ cls := "BreathStreet$Text", name := "readBarrel", desc := "(LBreathStreet$Street;)V" } : Jvm.MethodName)) ∈ lw_tbl := List.mem_append_right _ (List.mem_of_getElem? (i := 449) (by decide +kernel))
theorem tw_450 : (Jvm.Cond.code ({ cls := "BreathStreet$Text", name := "readBarrel", desc := "(LBreathStreet$Street;)V" } : Jvm.MethodName) prog_11_method_8_code (3 : Nat) (Option.none : Option Jvm.ClassFile.FieldType)) ∈ lw_tbl := List.mem_append_right _ (List.mem_of_getElem? (i := 450) (by decide +kernel))
theorem tw_451 : (Jvm.Cond.methodLink "BreathStreet" (103 : Nat) ({ cls := "BreathStreet$Street", name := "barrelStart", desc := "()I" } : Jvm.MethodName)) ∈ lw_tbl := List.mem_append_right _ (List.mem_of_getElem? (i := 451) (by decide +kernel))
theorem tw_452 : (Jvm.Cond.instanceMethod ({ cls := "BreathStreet$Street", name := "barrelStart", desc := "()I" } : Jvm.MethodName)) ∈ lw_tbl := List.mem_append_right _ (List.mem_of_getElem? (i := 452) (by decide +kernel))
theorem tw_453 : (Jvm.Cond.selects "BreathStreet$Street" ({ cls := "BreathStreet$Street", name := "barrelStart", desc := "()I" } : Jvm.MethodName) ({ cls := "BreathStreet$Street", name := "barrelStart", desc := "()I" } : Jvm.MethodName)) ∈ lw_tbl := List.mem_append_right _ (List.mem_of_getElem? (i := 453) (by decide +kernel))
theorem tw_454 : (Jvm.Cond.code ({ cls := "BreathStreet$Street", name := "barrelStart", desc := "()I" } : Jvm.MethodName) prog_10_method_3_code (1 : Nat) (Option.some Jvm.ClassFile.FieldType.int)) ∈ lw_tbl := List.mem_append_right _ (List.mem_of_getElem? (i := 454) (by decide +kernel))
theorem tw_455 : (Jvm.Cond.methodLink "BreathStreet" (107 : Nat) ({ cls := "BreathStreet$Moment", name := "startAt", desc := "(I)V" } : Jvm.MethodName)) ∈ lw_tbl := List.mem_append_right _ (List.mem_of_getElem? (i := 455) (by decide +kernel))
theorem tw_456 : (Jvm.Cond.instanceMethod ({ cls := "BreathStreet$Moment", name := "startAt", desc := "(I)V" } : Jvm.MethodName)) ∈ lw_tbl := List.mem_append_right _ (List.mem_of_getElem? (i := 456) (by decide +kernel))
theorem tw_457 : (Jvm.Cond.selects "BreathStreet$Moment" ({ cls := "BreathStreet$Moment", name := "startAt", desc := "(I)V" } : Jvm.MethodName) ({ cls := "BreathStreet$Moment", name := "startAt", desc := "(I)V" } : Jvm.MethodName)) ∈ lw_tbl := List.mem_append_right _ (List.mem_of_getElem? (i := 457) (by decide +kernel))
theorem tw_458 : (Jvm.Cond.code ({ cls := "BreathStreet$Moment", name := "startAt", desc := "(I)V" } : Jvm.MethodName) prog_7_method_2_code (2 : Nat) (Option.none : Option Jvm.ClassFile.FieldType)) ∈ lw_tbl := List.mem_append_right _ (List.mem_of_getElem? (i := 458) (by decide +kernel))
theorem tw_459 : (Jvm.Cond.methodLink "BreathStreet" (118 : Nat) ({ cls := "BreathStreet", name := "forgetNotes", desc := "()V" } : Jvm.MethodName)) ∈ lw_tbl := List.mem_append_right _ (List.mem_of_getElem? (i := 459) (by decide +kernel))
theorem tw_460 : (Jvm.Cond.privateMethod ({ cls := "BreathStreet", name := "forgetNotes", desc := "()V" } : Jvm.MethodName)) ∈ lw_tbl := List.mem_append_right _ (List.mem_of_getElem? (i := 460) (by decide +kernel))
theorem tw_461 : (Jvm.Cond.instanceMethod ({ cls := "BreathStreet", name := "forgetNotes", desc := "()V" } : Jvm.MethodName)) ∈ lw_tbl := List.mem_append_right _ (List.mem_of_getElem? (i := 461) (by decide +kernel))
theorem tw_462 : (Jvm.Cond.code ({ cls := "BreathStreet", name := "forgetNotes", desc := "()V" } : Jvm.MethodName) prog_1_method_41_code (1 : Nat) (Option.none : Option Jvm.ClassFile.FieldType)) ∈ lw_tbl := List.mem_append_right _ (List.mem_of_getElem? (i := 462) (by decide +kernel))
theorem tw_463 : (Jvm.Cond.methodLink "BreathStreetLaw" (23 : Nat) ({ cls := "BreathStreet", name := "fault", desc := "()I" } : Jvm.MethodName)) ∈ lw_tbl := List.mem_append_right _ (List.mem_of_getElem? (i := 463) (by decide +kernel))
theorem tw_464 : (Jvm.Cond.instanceMethod ({ cls := "BreathStreet", name := "fault", desc := "()I" } : Jvm.MethodName)) ∈ lw_tbl := List.mem_append_right _ (List.mem_of_getElem? (i := 464) (by decide +kernel))
theorem tw_465 : (Jvm.Cond.selects "BreathStreet" ({ cls := "BreathStreet", name := "fault", desc := "()I" } : Jvm.MethodName) ({ cls := "BreathStreet", name := "fault", desc := "()I" } : Jvm.MethodName)) ∈ lw_tbl := List.mem_append_right _ (List.mem_of_getElem? (i := 465) (by decide +kernel))
theorem tw_466 : (Jvm.Cond.code ({ cls := "BreathStreet", name := "fault", desc := "()I" } : Jvm.MethodName) prog_1_method_4_code (1 : Nat) (Option.some Jvm.ClassFile.FieldType.int)) ∈ lw_tbl := List.mem_append_right _ (List.mem_of_getElem? (i := 466) (by decide +kernel))
theorem tw_467 : (Jvm.Cond.methodLink "BreathStreetLaw" (27 : Nat) ({ cls := "BreathStreet", name := "told", desc := "(I)I" } : Jvm.MethodName)) ∈ lw_tbl := List.mem_append_right _ (List.mem_of_getElem? (i := 467) (by decide +kernel))
theorem tw_468 : (Jvm.Cond.instanceMethod ({ cls := "BreathStreet", name := "told", desc := "(I)I" } : Jvm.MethodName)) ∈ lw_tbl := List.mem_append_right _ (List.mem_of_getElem? (i := 468) (by decide +kernel))
theorem tw_469 : (Jvm.Cond.selects "BreathStreet" ({ cls := "BreathStreet", name := "told", desc := "(I)I" } : Jvm.MethodName) ({ cls := "BreathStreet", name := "told", desc := "(I)I" } : Jvm.MethodName)) ∈ lw_tbl := List.mem_append_right _ (List.mem_of_getElem? (i := 469) (by decide +kernel))
theorem tw_470 : (Jvm.Cond.code ({ cls := "BreathStreet", name := "told", desc := "(I)I" } : Jvm.MethodName) prog_1_method_5_code (2 : Nat) (Option.some Jvm.ClassFile.FieldType.int)) ∈ lw_tbl := List.mem_append_right _ (List.mem_of_getElem? (i := 470) (by decide +kernel))
theorem tw_471 : (Jvm.Cond.methodLink "BreathStreet" (162 : Nat) ({ cls := "BreathStreet$Seams", name := "openSet", desc := "(I)I" } : Jvm.MethodName)) ∈ lw_tbl := List.mem_append_right _ (List.mem_of_getElem? (i := 471) (by decide +kernel))
theorem tw_472 : (Jvm.Cond.instanceMethod ({ cls := "BreathStreet$Seams", name := "openSet", desc := "(I)I" } : Jvm.MethodName)) ∈ lw_tbl := List.mem_append_right _ (List.mem_of_getElem? (i := 472) (by decide +kernel))
theorem tw_473 : (Jvm.Cond.selects "BreathStreet$Seams" ({ cls := "BreathStreet$Seams", name := "openSet", desc := "(I)I" } : Jvm.MethodName) ({ cls := "BreathStreet$Seams", name := "openSet", desc := "(I)I" } : Jvm.MethodName)) ∈ lw_tbl := List.mem_append_right _ (List.mem_of_getElem? (i := 473) (by decide +kernel))
theorem tw_474 : (Jvm.Cond.code ({ cls := "BreathStreet$Seams", name := "openSet", desc := "(I)I" } : Jvm.MethodName) prog_8_method_7_code (4 : Nat) (Option.some Jvm.ClassFile.FieldType.int)) ∈ lw_tbl := List.mem_append_right _ (List.mem_of_getElem? (i := 474) (by decide +kernel))
theorem tw_475 : (Jvm.Cond.methodLink "BreathStreet$Seams" (42 : Nat) ({ cls := "BreathStreet$Seams", name := "staysOpen", desc := "(II)I" } : Jvm.MethodName)) ∈ lw_tbl := List.mem_append_right _ (List.mem_of_getElem? (i := 475) (by decide +kernel))
theorem tw_476 : (Jvm.Cond.privateMethod ({ cls := "BreathStreet$Seams", name := "staysOpen", desc := "(II)I" } : Jvm.MethodName)) ∈ lw_tbl := List.mem_append_right _ (List.mem_of_getElem? (i := 476) (by decide +kernel))
theorem tw_477 : (Jvm.Cond.instanceMethod ({ cls := "BreathStreet$Seams", name := "staysOpen", desc := "(II)I" } : Jvm.MethodName)) ∈ lw_tbl := List.mem_append_right _ (List.mem_of_getElem? (i := 477) (by decide +kernel))
theorem tw_478 : (Jvm.Cond.code ({ cls := "BreathStreet$Seams", name := "staysOpen", desc := "(II)I" } : Jvm.MethodName) prog_8_method_5_code (3 : Nat) (Option.some Jvm.ClassFile.FieldType.int)) ∈ lw_tbl := List.mem_append_right _ (List.mem_of_getElem? (i := 478) (by decide +kernel))
theorem tw_479 : (Jvm.Cond.methodLink "BreathStreet$Seams" (28 : Nat) ({ cls := "BreathStreet$Seams", name := "has", desc := "(I)Z" } : Jvm.MethodName)) ∈ lw_tbl := List.mem_append_right _ (List.mem_of_getElem? (i := 479) (by decide +kernel))
theorem tw_480 : (Jvm.Cond.instanceMethod ({ cls := "BreathStreet$Seams", name := "has", desc := "(I)Z" } : Jvm.MethodName)) ∈ lw_tbl := List.mem_append_right _ (List.mem_of_getElem? (i := 480) (by decide +kernel))
theorem tw_481 : (Jvm.Cond.selects "BreathStreet$Seams" ({ cls := "BreathStreet$Seams", name := "has", desc := "(I)Z" } : Jvm.MethodName) ({ cls := "BreathStreet$Seams", name := "has", desc := "(I)Z" } : Jvm.MethodName)) ∈ lw_tbl := List.mem_append_right _ (List.mem_of_getElem? (i := 481) (by decide +kernel))
theorem tw_482 : (Jvm.Cond.code ({ cls := "BreathStreet$Seams", name := "has", desc := "(I)Z" } : Jvm.MethodName) prog_8_method_2_code (2 : Nat) (Option.some Jvm.ClassFile.FieldType.boolean)) ∈ lw_tbl := List.mem_append_right _ (List.mem_of_getElem? (i := 482) (by decide +kernel))
theorem tw_483 : (Jvm.Cond.constant "BreathStreet$Seams" (32 : Nat) (1000000 : Int32)) ∈ lw_tbl := List.mem_append_right _ (List.mem_of_getElem? (i := 483) (by decide +kernel))
theorem tw_484 : (Jvm.Cond.methodLink "BreathStreet$Seams" (33 : Nat) ({ cls := "java/lang/Math", name := "floorMod", desc := "(II)I" } : Jvm.MethodName)) ∈ lw_tbl := List.mem_append_right _ (List.mem_of_getElem? (i := 484) (by decide +kernel))
theorem tw_485 : (Jvm.Cond.static ({ cls := "java/lang/Math", name := "floorMod", desc := "(II)I" } : Jvm.MethodName)) ∈ lw_tbl := List.mem_append_right _ (List.mem_of_getElem? (i := 485) (by decide +kernel))
theorem tw_486 : (Jvm.Cond.code ({ cls := "java/lang/Math", name := "floorMod", desc := "(II)I" } : Jvm.MethodName) prog_16_method_50_code (3 : Nat) (Option.some Jvm.ClassFile.FieldType.int)) ∈ lw_tbl := List.mem_append_right _ (List.mem_of_getElem? (i := 486) (by decide +kernel))
theorem tw_487 : (Jvm.Cond.methodLink "BreathStreet$Seams" (39 : Nat) ({ cls := "java/lang/Math", name := "max", desc := "(II)I" } : Jvm.MethodName)) ∈ lw_tbl := List.mem_append_right _ (List.mem_of_getElem? (i := 487) (by decide +kernel))
theorem tw_488 : (Jvm.Cond.static ({ cls := "java/lang/Math", name := "max", desc := "(II)I" } : Jvm.MethodName)) ∈ lw_tbl := List.mem_append_right _ (List.mem_of_getElem? (i := 488) (by decide +kernel))
theorem tw_489 : (Jvm.Cond.code ({ cls := "java/lang/Math", name := "max", desc := "(II)I" } : Jvm.MethodName) prog_16_method_65_code (2 : Nat) (Option.some Jvm.ClassFile.FieldType.int)) ∈ lw_tbl := List.mem_append_right _ (List.mem_of_getElem? (i := 489) (by decide +kernel))
theorem tw_490 : (Jvm.Cond.methodLink "BreathStreet" (165 : Nat) ({ cls := "BreathStreet$Street", name := "crackedSet", desc := "(I)I" } : Jvm.MethodName)) ∈ lw_tbl := List.mem_append_right _ (List.mem_of_getElem? (i := 490) (by decide +kernel))
theorem tw_491 : (Jvm.Cond.instanceMethod ({ cls := "BreathStreet$Street", name := "crackedSet", desc := "(I)I" } : Jvm.MethodName)) ∈ lw_tbl := List.mem_append_right _ (List.mem_of_getElem? (i := 491) (by decide +kernel))
theorem tw_492 : (Jvm.Cond.selects "BreathStreet$Street" ({ cls := "BreathStreet$Street", name := "crackedSet", desc := "(I)I" } : Jvm.MethodName) ({ cls := "BreathStreet$Street", name := "crackedSet", desc := "(I)I" } : Jvm.MethodName)) ∈ lw_tbl := List.mem_append_right _ (List.mem_of_getElem? (i := 492) (by decide +kernel))
theorem tw_493 : (Jvm.Cond.code ({ cls := "BreathStreet$Street", name := "crackedSet", desc := "(I)I" } : Jvm.MethodName) prog_10_method_8_code (4 : Nat) (Option.some Jvm.ClassFile.FieldType.int)) ∈ lw_tbl := List.mem_append_right _ (List.mem_of_getElem? (i := 493) (by decide +kernel))
theorem tw_494 : (Jvm.Cond.methodLink "BreathStreet$Street" (63 : Nat) ({ cls := "BreathStreet$Street", name := "strain", desc := "(II)I" } : Jvm.MethodName)) ∈ lw_tbl := List.mem_append_right _ (List.mem_of_getElem? (i := 494) (by decide +kernel))
theorem tw_495 : (Jvm.Cond.privateMethod ({ cls := "BreathStreet$Street", name := "strain", desc := "(II)I" } : Jvm.MethodName)) ∈ lw_tbl := List.mem_append_right _ (List.mem_of_getElem? (i := 495) (by decide +kernel))
theorem tw_496 : (Jvm.Cond.instanceMethod ({ cls := "BreathStreet$Street", name := "strain", desc := "(II)I" } : Jvm.MethodName)) ∈ lw_tbl := List.mem_append_right _ (List.mem_of_getElem? (i := 496) (by decide +kernel))
theorem tw_497 : (Jvm.Cond.code ({ cls := "BreathStreet$Street", name := "strain", desc := "(II)I" } : Jvm.MethodName) prog_10_method_6_code (3 : Nat) (Option.some Jvm.ClassFile.FieldType.int)) ∈ lw_tbl := List.mem_append_right _ (List.mem_of_getElem? (i := 497) (by decide +kernel))
theorem tw_498 : (Jvm.Cond.methodLink "BreathStreet$Street" (46 : Nat) ({ cls := "BreathStreet$Street", name := "hasHouse", desc := "(I)Z" } : Jvm.MethodName)) ∈ lw_tbl := List.mem_append_right _ (List.mem_of_getElem? (i := 498) (by decide +kernel))
theorem tw_499 : (Jvm.Cond.instanceMethod ({ cls := "BreathStreet$Street", name := "hasHouse", desc := "(I)Z" } : Jvm.MethodName)) ∈ lw_tbl := List.mem_append_right _ (List.mem_of_getElem? (i := 499) (by decide +kernel))
theorem tw_500 : (Jvm.Cond.selects "BreathStreet$Street" ({ cls := "BreathStreet$Street", name := "hasHouse", desc := "(I)Z" } : Jvm.MethodName) ({ cls := "BreathStreet$Street", name := "hasHouse", desc := "(I)Z" } : Jvm.MethodName)) ∈ lw_tbl := List.mem_append_right _ (List.mem_of_getElem? (i := 500) (by decide +kernel))
theorem tw_501 : (Jvm.Cond.code ({ cls := "BreathStreet$Street", name := "hasHouse", desc := "(I)Z" } : Jvm.MethodName) prog_10_method_4_code (2 : Nat) (Option.some Jvm.ClassFile.FieldType.boolean)) ∈ lw_tbl := List.mem_append_right _ (List.mem_of_getElem? (i := 501) (by decide +kernel))
theorem tw_502 : (Jvm.Cond.methodLink "BreathStreet$Street" (50 : Nat) ({ cls := "BreathStreet$Ground", name := "leanAt", desc := "(II)I" } : Jvm.MethodName)) ∈ lw_tbl := List.mem_append_right _ (List.mem_of_getElem? (i := 502) (by decide +kernel))
theorem tw_503 : (Jvm.Cond.instanceMethod ({ cls := "BreathStreet$Ground", name := "leanAt", desc := "(II)I" } : Jvm.MethodName)) ∈ lw_tbl := List.mem_append_right _ (List.mem_of_getElem? (i := 503) (by decide +kernel))
theorem tw_504 : (Jvm.Cond.selects "BreathStreet$Ground" ({ cls := "BreathStreet$Ground", name := "leanAt", desc := "(II)I" } : Jvm.MethodName) ({ cls := "BreathStreet$Ground", name := "leanAt", desc := "(II)I" } : Jvm.MethodName)) ∈ lw_tbl := List.mem_append_right _ (List.mem_of_getElem? (i := 504) (by decide +kernel))
theorem tw_505 : (Jvm.Cond.code ({ cls := "BreathStreet$Ground", name := "leanAt", desc := "(II)I" } : Jvm.MethodName) prog_4_method_7_code (3 : Nat) (Option.some Jvm.ClassFile.FieldType.int)) ∈ lw_tbl := List.mem_append_right _ (List.mem_of_getElem? (i := 505) (by decide +kernel))
theorem tw_506 : (Jvm.Cond.methodLink "BreathStreet$Ground" (46 : Nat) ({ cls := "BreathStreet$Ground", name := "hasGap", desc := "(I)Z" } : Jvm.MethodName)) ∈ lw_tbl := List.mem_append_right _ (List.mem_of_getElem? (i := 506) (by decide +kernel))
theorem tw_507 : (Jvm.Cond.instanceMethod ({ cls := "BreathStreet$Ground", name := "hasGap", desc := "(I)Z" } : Jvm.MethodName)) ∈ lw_tbl := List.mem_append_right _ (List.mem_of_getElem? (i := 507) (by decide +kernel))
theorem tw_508 : (Jvm.Cond.selects "BreathStreet$Ground" ({ cls := "BreathStreet$Ground", name := "hasGap", desc := "(I)Z" } : Jvm.MethodName) ({ cls := "BreathStreet$Ground", name := "hasGap", desc := "(I)Z" } : Jvm.MethodName)) ∈ lw_tbl := List.mem_append_right _ (List.mem_of_getElem? (i := 508) (by decide +kernel))
theorem tw_509 : (Jvm.Cond.code ({ cls := "BreathStreet$Ground", name := "hasGap", desc := "(I)Z" } : Jvm.MethodName) prog_4_method_4_code (2 : Nat) (Option.some Jvm.ClassFile.FieldType.boolean)) ∈ lw_tbl := List.mem_append_right _ (List.mem_of_getElem? (i := 509) (by decide +kernel))
theorem tw_510 : (Jvm.Cond.methodLink "BreathStreet$Ground" (49 : Nat) ({ cls := "BreathStreet$Ground", name := "heightAt", desc := "(II)I" } : Jvm.MethodName)) ∈ lw_tbl := List.mem_append_right _ (List.mem_of_getElem? (i := 510) (by decide +kernel))
theorem tw_511 : (Jvm.Cond.instanceMethod ({ cls := "BreathStreet$Ground", name := "heightAt", desc := "(II)I" } : Jvm.MethodName)) ∈ lw_tbl := List.mem_append_right _ (List.mem_of_getElem? (i := 511) (by decide +kernel))
theorem tw_512 : (Jvm.Cond.selects "BreathStreet$Ground" ({ cls := "BreathStreet$Ground", name := "heightAt", desc := "(II)I" } : Jvm.MethodName) ({ cls := "BreathStreet$Ground", name := "heightAt", desc := "(II)I" } : Jvm.MethodName)) ∈ lw_tbl := List.mem_append_right _ (List.mem_of_getElem? (i := 512) (by decide +kernel))
theorem tw_513 : (Jvm.Cond.code ({ cls := "BreathStreet$Ground", name := "heightAt", desc := "(II)I" } : Jvm.MethodName) prog_4_method_6_code (3 : Nat) (Option.some Jvm.ClassFile.FieldType.int)) ∈ lw_tbl := List.mem_append_right _ (List.mem_of_getElem? (i := 513) (by decide +kernel))
theorem tw_514 : (Jvm.Cond.methodLink "BreathStreet$Ground" (39 : Nat) ({ cls := "BreathStreet$Ground", name := "has", desc := "(I)Z" } : Jvm.MethodName)) ∈ lw_tbl := List.mem_append_right _ (List.mem_of_getElem? (i := 514) (by decide +kernel))
theorem tw_515 : (Jvm.Cond.instanceMethod ({ cls := "BreathStreet$Ground", name := "has", desc := "(I)Z" } : Jvm.MethodName)) ∈ lw_tbl := List.mem_append_right _ (List.mem_of_getElem? (i := 515) (by decide +kernel))
theorem tw_516 : (Jvm.Cond.selects "BreathStreet$Ground" ({ cls := "BreathStreet$Ground", name := "has", desc := "(I)Z" } : Jvm.MethodName) ({ cls := "BreathStreet$Ground", name := "has", desc := "(I)Z" } : Jvm.MethodName)) ∈ lw_tbl := List.mem_append_right _ (List.mem_of_getElem? (i := 516) (by decide +kernel))
theorem tw_517 : (Jvm.Cond.code ({ cls := "BreathStreet$Ground", name := "has", desc := "(I)Z" } : Jvm.MethodName) prog_4_method_3_code (2 : Nat) (Option.some Jvm.ClassFile.FieldType.boolean)) ∈ lw_tbl := List.mem_append_right _ (List.mem_of_getElem? (i := 517) (by decide +kernel))
theorem tw_518 : (Jvm.Cond.methodLinkNest "BreathStreet$Ground" (43 : Nat) ({ cls := "BreathStreet", name := "swell", desc := "(II)I" } : Jvm.MethodName) "BreathStreet") ∈ lw_tbl := List.mem_append_right _ (List.mem_of_getElem? (i := 518) (by decide +kernel))
theorem tw_519 : (Jvm.Cond.static ({ cls := "BreathStreet", name := "swell", desc := "(II)I" } : Jvm.MethodName)) ∈ lw_tbl := List.mem_append_right _ (List.mem_of_getElem? (i := 519) (by decide +kernel))
theorem tw_520 : (Jvm.Cond.code ({ cls := "BreathStreet", name := "swell", desc := "(II)I" } : Jvm.MethodName) prog_1_method_45_code (3 : Nat) (Option.some Jvm.ClassFile.FieldType.int)) ∈ lw_tbl := List.mem_append_right _ (List.mem_of_getElem? (i := 520) (by decide +kernel))
theorem tw_521 : (Jvm.Cond.methodLink "BreathStreet" (360 : Nat) ({ cls := "java/lang/Math", name := "floorMod", desc := "(II)I" } : Jvm.MethodName)) ∈ lw_tbl := List.mem_append_right _ (List.mem_of_getElem? (i := 521) (by decide +kernel))
theorem tw_522 : (Jvm.Cond.methodLink "BreathStreet" (363 : Nat) ({ cls := "java/lang/Math", name := "min", desc := "(II)I" } : Jvm.MethodName)) ∈ lw_tbl := List.mem_append_right _ (List.mem_of_getElem? (i := 522) (by decide +kernel))
theorem tw_523 : (Jvm.Cond.static ({ cls := "java/lang/Math", name := "min", desc := "(II)I" } : Jvm.MethodName)) ∈ lw_tbl := List.mem_append_right _ (List.mem_of_getElem? (i := 523) (by decide +kernel))
theorem tw_524 : (Jvm.Cond.code ({ cls := "java/lang/Math", name := "min", desc := "(II)I" } : Jvm.MethodName) prog_16_method_69_code (2 : Nat) (Option.some Jvm.ClassFile.FieldType.int)) ∈ lw_tbl := List.mem_append_right _ (List.mem_of_getElem? (i := 524) (by decide +kernel))
theorem tw_525 : (Jvm.Cond.methodLink "BreathStreet$Street" (54 : Nat) ({ cls := "java/lang/Math", name := "abs", desc := "(I)I" } : Jvm.MethodName)) ∈ lw_tbl := List.mem_append_right _ (List.mem_of_getElem? (i := 525) (by decide +kernel))
theorem tw_526 : (Jvm.Cond.static ({ cls := "java/lang/Math", name := "abs", desc := "(I)I" } : Jvm.MethodName)) ∈ lw_tbl := List.mem_append_right _ (List.mem_of_getElem? (i := 526) (by decide +kernel))
theorem tw_527 : (Jvm.Cond.code ({ cls := "java/lang/Math", name := "abs", desc := "(I)I" } : Jvm.MethodName) prog_16_method_59_code (1 : Nat) (Option.some Jvm.ClassFile.FieldType.int)) ∈ lw_tbl := List.mem_append_right _ (List.mem_of_getElem? (i := 527) (by decide +kernel))
theorem tw_528 : (Jvm.Cond.methodLink "BreathStreetLaw" (31 : Nat) ({ cls := "BreathStreet", name := "field", desc := "(II)I" } : Jvm.MethodName)) ∈ lw_tbl := List.mem_append_right _ (List.mem_of_getElem? (i := 528) (by decide +kernel))
theorem tw_529 : (Jvm.Cond.instanceMethod ({ cls := "BreathStreet", name := "field", desc := "(II)I" } : Jvm.MethodName)) ∈ lw_tbl := List.mem_append_right _ (List.mem_of_getElem? (i := 529) (by decide +kernel))
theorem tw_530 : (Jvm.Cond.selects "BreathStreet" ({ cls := "BreathStreet", name := "field", desc := "(II)I" } : Jvm.MethodName) ({ cls := "BreathStreet", name := "field", desc := "(II)I" } : Jvm.MethodName)) ∈ lw_tbl := List.mem_append_right _ (List.mem_of_getElem? (i := 530) (by decide +kernel))
theorem tw_531 : (Jvm.Cond.code ({ cls := "BreathStreet", name := "field", desc := "(II)I" } : Jvm.MethodName) prog_1_method_6_code (4 : Nat) (Option.some Jvm.ClassFile.FieldType.int)) ∈ lw_tbl := List.mem_append_right _ (List.mem_of_getElem? (i := 531) (by decide +kernel))
theorem tw_532 : (Jvm.Cond.methodLink "BreathStreet" (168 : Nat) ({ cls := "BreathStreet$Ground", name := "has", desc := "(I)Z" } : Jvm.MethodName)) ∈ lw_tbl := List.mem_append_right _ (List.mem_of_getElem? (i := 532) (by decide +kernel))
theorem tw_533 : (Jvm.Cond.constant "BreathStreet" (172 : Nat) (-1000000001 : Int32)) ∈ lw_tbl := List.mem_append_right _ (List.mem_of_getElem? (i := 533) (by decide +kernel))
theorem tw_534 : (Jvm.Cond.methodLink "BreathStreet" (186 : Nat) ({ cls := "BreathStreet$Ground", name := "heightAt", desc := "(II)I" } : Jvm.MethodName)) ∈ lw_tbl := List.mem_append_right _ (List.mem_of_getElem? (i := 534) (by decide +kernel))
theorem tw_535 : (Jvm.Cond.methodLink "BreathStreet" (190 : Nat) ({ cls := "BreathStreet$Ground", name := "leanAt", desc := "(II)I" } : Jvm.MethodName)) ∈ lw_tbl := List.mem_append_right _ (List.mem_of_getElem? (i := 535) (by decide +kernel))
theorem tw_536 : (Jvm.Cond.methodLink "BreathStreetLaw" (36 : Nat) ({ cls := "BreathStreet", name := "height", desc := "(II)I" } : Jvm.MethodName)) ∈ lw_tbl := List.mem_append_right _ (List.mem_of_getElem? (i := 536) (by decide +kernel))
theorem tw_537 : (Jvm.Cond.instanceMethod ({ cls := "BreathStreet", name := "height", desc := "(II)I" } : Jvm.MethodName)) ∈ lw_tbl := List.mem_append_right _ (List.mem_of_getElem? (i := 537) (by decide +kernel))
theorem tw_538 : (Jvm.Cond.selects "BreathStreet" ({ cls := "BreathStreet", name := "height", desc := "(II)I" } : Jvm.MethodName) ({ cls := "BreathStreet", name := "height", desc := "(II)I" } : Jvm.MethodName)) ∈ lw_tbl := List.mem_append_right _ (List.mem_of_getElem? (i := 538) (by decide +kernel))
theorem tw_539 : (Jvm.Cond.code ({ cls := "BreathStreet", name := "height", desc := "(II)I" } : Jvm.MethodName) prog_1_method_7_code (3 : Nat) (Option.some Jvm.ClassFile.FieldType.int)) ∈ lw_tbl := List.mem_append_right _ (List.mem_of_getElem? (i := 539) (by decide +kernel))
theorem tw_540 : (Jvm.Cond.constant "BreathStreet" (193 : Nat) (1000000 : Int32)) ∈ lw_tbl := List.mem_append_right _ (List.mem_of_getElem? (i := 540) (by decide +kernel))
theorem tw_541 : (Jvm.Cond.methodLink "BreathStreetLaw" (40 : Nat) ({ cls := "BreathStreet", name := "house", desc := "(II)I" } : Jvm.MethodName)) ∈ lw_tbl := List.mem_append_right _ (List.mem_of_getElem? (i := 541) (by decide +kernel))
theorem tw_542 : (Jvm.Cond.instanceMethod ({ cls := "BreathStreet", name := "house", desc := "(II)I" } : Jvm.MethodName)) ∈ lw_tbl := List.mem_append_right _ (List.mem_of_getElem? (i := 542) (by decide +kernel))
theorem tw_543 : (Jvm.Cond.selects "BreathStreet" ({ cls := "BreathStreet", name := "house", desc := "(II)I" } : Jvm.MethodName) ({ cls := "BreathStreet", name := "house", desc := "(II)I" } : Jvm.MethodName)) ∈ lw_tbl := List.mem_append_right _ (List.mem_of_getElem? (i := 543) (by decide +kernel))
theorem tw_544 : (Jvm.Cond.code ({ cls := "BreathStreet", name := "house", desc := "(II)I" } : Jvm.MethodName) prog_1_method_8_code (3 : Nat) (Option.some Jvm.ClassFile.FieldType.int)) ∈ lw_tbl := List.mem_append_right _ (List.mem_of_getElem? (i := 544) (by decide +kernel))
theorem tw_545 : (Jvm.Cond.methodLink "BreathStreet" (194 : Nat) ({ cls := "BreathStreet$Street", name := "hasHouse", desc := "(I)Z" } : Jvm.MethodName)) ∈ lw_tbl := List.mem_append_right _ (List.mem_of_getElem? (i := 545) (by decide +kernel))
theorem tw_546 : (Jvm.Cond.methodLink "BreathStreet" (203 : Nat) ({ cls := "BreathStreet$Street", name := "slackNeeded", desc := "(I)I" } : Jvm.MethodName)) ∈ lw_tbl := List.mem_append_right _ (List.mem_of_getElem? (i := 546) (by decide +kernel))
theorem tw_547 : (Jvm.Cond.instanceMethod ({ cls := "BreathStreet$Street", name := "slackNeeded", desc := "(I)I" } : Jvm.MethodName)) ∈ lw_tbl := List.mem_append_right _ (List.mem_of_getElem? (i := 547) (by decide +kernel))
theorem tw_548 : (Jvm.Cond.selects "BreathStreet$Street" ({ cls := "BreathStreet$Street", name := "slackNeeded", desc := "(I)I" } : Jvm.MethodName) ({ cls := "BreathStreet$Street", name := "slackNeeded", desc := "(I)I" } : Jvm.MethodName)) ∈ lw_tbl := List.mem_append_right _ (List.mem_of_getElem? (i := 548) (by decide +kernel))
theorem tw_549 : (Jvm.Cond.code ({ cls := "BreathStreet$Street", name := "slackNeeded", desc := "(I)I" } : Jvm.MethodName) prog_10_method_10_code (5 : Nat) (Option.some Jvm.ClassFile.FieldType.int)) ∈ lw_tbl := List.mem_append_right _ (List.mem_of_getElem? (i := 549) (by decide +kernel))
theorem tw_550 : (Jvm.Cond.methodLink "BreathStreet$Street" (66 : Nat) ({ cls := "BreathStreet$Street", name := "strainRound", desc := "(I)I" } : Jvm.MethodName)) ∈ lw_tbl := List.mem_append_right _ (List.mem_of_getElem? (i := 550) (by decide +kernel))
theorem tw_551 : (Jvm.Cond.privateMethod ({ cls := "BreathStreet$Street", name := "strainRound", desc := "(I)I" } : Jvm.MethodName)) ∈ lw_tbl := List.mem_append_right _ (List.mem_of_getElem? (i := 551) (by decide +kernel))
theorem tw_552 : (Jvm.Cond.instanceMethod ({ cls := "BreathStreet$Street", name := "strainRound", desc := "(I)I" } : Jvm.MethodName)) ∈ lw_tbl := List.mem_append_right _ (List.mem_of_getElem? (i := 552) (by decide +kernel))
theorem tw_553 : (Jvm.Cond.code ({ cls := "BreathStreet$Street", name := "strainRound", desc := "(I)I" } : Jvm.MethodName) prog_10_method_7_code (2 : Nat) (Option.some Jvm.ClassFile.FieldType.int)) ∈ lw_tbl := List.mem_append_right _ (List.mem_of_getElem? (i := 553) (by decide +kernel))
theorem tw_554 : (Jvm.Cond.methodLink "BreathStreet$Street" (60 : Nat) ({ cls := "BreathStreet$Ground", name := "leanRound", desc := "(I)I" } : Jvm.MethodName)) ∈ lw_tbl := List.mem_append_right _ (List.mem_of_getElem? (i := 554) (by decide +kernel))
theorem tw_555 : (Jvm.Cond.instanceMethod ({ cls := "BreathStreet$Ground", name := "leanRound", desc := "(I)I" } : Jvm.MethodName)) ∈ lw_tbl := List.mem_append_right _ (List.mem_of_getElem? (i := 555) (by decide +kernel))
theorem tw_556 : (Jvm.Cond.selects "BreathStreet$Ground" ({ cls := "BreathStreet$Ground", name := "leanRound", desc := "(I)I" } : Jvm.MethodName) ({ cls := "BreathStreet$Ground", name := "leanRound", desc := "(I)I" } : Jvm.MethodName)) ∈ lw_tbl := List.mem_append_right _ (List.mem_of_getElem? (i := 556) (by decide +kernel))
theorem tw_557 : (Jvm.Cond.code ({ cls := "BreathStreet$Ground", name := "leanRound", desc := "(I)I" } : Jvm.MethodName) prog_4_method_9_code (2 : Nat) (Option.some Jvm.ClassFile.FieldType.int)) ∈ lw_tbl := List.mem_append_right _ (List.mem_of_getElem? (i := 557) (by decide +kernel))
theorem tw_558 : (Jvm.Cond.methodLink "BreathStreet$Street" (69 : Nat) ({ cls := "java/lang/Math", name := "max", desc := "(II)I" } : Jvm.MethodName)) ∈ lw_tbl := List.mem_append_right _ (List.mem_of_getElem? (i := 558) (by decide +kernel))
theorem tw_559 : (Jvm.Cond.methodLink "BreathStreetLaw" (44 : Nat) ({ cls := "BreathStreet", name := "seam", desc := "(II)I" } : Jvm.MethodName)) ∈ lw_tbl := List.mem_append_right _ (List.mem_of_getElem? (i := 559) (by decide +kernel))
theorem tw_560 : (Jvm.Cond.instanceMethod ({ cls := "BreathStreet", name := "seam", desc := "(II)I" } : Jvm.MethodName)) ∈ lw_tbl := List.mem_append_right _ (List.mem_of_getElem? (i := 560) (by decide +kernel))
theorem tw_561 : (Jvm.Cond.selects "BreathStreet" ({ cls := "BreathStreet", name := "seam", desc := "(II)I" } : Jvm.MethodName) ({ cls := "BreathStreet", name := "seam", desc := "(II)I" } : Jvm.MethodName)) ∈ lw_tbl := List.mem_append_right _ (List.mem_of_getElem? (i := 561) (by decide +kernel))
theorem tw_562 : (Jvm.Cond.code ({ cls := "BreathStreet", name := "seam", desc := "(II)I" } : Jvm.MethodName) prog_1_method_9_code (4 : Nat) (Option.some Jvm.ClassFile.FieldType.int)) ∈ lw_tbl := List.mem_append_right _ (List.mem_of_getElem? (i := 562) (by decide +kernel))
theorem tw_563 : (Jvm.Cond.methodLink "BreathStreet" (206 : Nat) ({ cls := "BreathStreet$Seams", name := "has", desc := "(I)Z" } : Jvm.MethodName)) ∈ lw_tbl := List.mem_append_right _ (List.mem_of_getElem? (i := 563) (by decide +kernel))
theorem tw_564 : (Jvm.Cond.methodLink "BreathStreetLaw" (48 : Nat) ({ cls := "BreathStreet", name := "step", desc := "(I)I" } : Jvm.MethodName)) ∈ lw_tbl := List.mem_append_right _ (List.mem_of_getElem? (i := 564) (by decide +kernel))
theorem tw_565 : (Jvm.Cond.instanceMethod ({ cls := "BreathStreet", name := "step", desc := "(I)I" } : Jvm.MethodName)) ∈ lw_tbl := List.mem_append_right _ (List.mem_of_getElem? (i := 565) (by decide +kernel))
theorem tw_566 : (Jvm.Cond.selects "BreathStreet" ({ cls := "BreathStreet", name := "step", desc := "(I)I" } : Jvm.MethodName) ({ cls := "BreathStreet", name := "step", desc := "(I)I" } : Jvm.MethodName)) ∈ lw_tbl := List.mem_append_right _ (List.mem_of_getElem? (i := 566) (by decide +kernel))
theorem tw_567 : (Jvm.Cond.code ({ cls := "BreathStreet", name := "step", desc := "(I)I" } : Jvm.MethodName) prog_1_method_10_code (2 : Nat) (Option.some Jvm.ClassFile.FieldType.int)) ∈ lw_tbl := List.mem_append_right _ (List.mem_of_getElem? (i := 567) (by decide +kernel))
theorem tw_568 : (Jvm.Cond.methodLink "BreathStreet" (217 : Nat) ({ cls := "BreathStreet", name := "letPass", desc := "(IZ)I" } : Jvm.MethodName)) ∈ lw_tbl := List.mem_append_right _ (List.mem_of_getElem? (i := 568) (by decide +kernel))
theorem tw_569 : (Jvm.Cond.privateMethod ({ cls := "BreathStreet", name := "letPass", desc := "(IZ)I" } : Jvm.MethodName)) ∈ lw_tbl := List.mem_append_right _ (List.mem_of_getElem? (i := 569) (by decide +kernel))
theorem tw_570 : (Jvm.Cond.instanceMethod ({ cls := "BreathStreet", name := "letPass", desc := "(IZ)I" } : Jvm.MethodName)) ∈ lw_tbl := List.mem_append_right _ (List.mem_of_getElem? (i := 570) (by decide +kernel))
theorem tw_571 : (Jvm.Cond.code ({ cls := "BreathStreet", name := "letPass", desc := "(IZ)I" } : Jvm.MethodName) prog_1_method_39_code (5 : Nat) (Option.some Jvm.ClassFile.FieldType.int)) ∈ lw_tbl := List.mem_append_right _ (List.mem_of_getElem? (i := 571) (by decide +kernel))
theorem tw_572 : (Jvm.Cond.constant "BreathStreet" (226 : Nat) (900000 : Int32)) ∈ lw_tbl := List.mem_append_right _ (List.mem_of_getElem? (i := 572) (by decide +kernel))
theorem tw_573 : (Jvm.Cond.methodLink "BreathStreet" (344 : Nat) ({ cls := "java/lang/Math", name := "max", desc := "(II)I" } : Jvm.MethodName)) ∈ lw_tbl := List.mem_append_right _ (List.mem_of_getElem? (i := 573) (by decide +kernel))
theorem tw_574 : (Jvm.Cond.methodLink "BreathStreet" (349 : Nat) ({ cls := "BreathStreet$Moment", name := "pass", desc := "(IZ)V" } : Jvm.MethodName)) ∈ lw_tbl := List.mem_append_right _ (List.mem_of_getElem? (i := 574) (by decide +kernel))
theorem tw_575 : (Jvm.Cond.instanceMethod ({ cls := "BreathStreet$Moment", name := "pass", desc := "(IZ)V" } : Jvm.MethodName)) ∈ lw_tbl := List.mem_append_right _ (List.mem_of_getElem? (i := 575) (by decide +kernel))
theorem tw_576 : (Jvm.Cond.selects "BreathStreet$Moment" ({ cls := "BreathStreet$Moment", name := "pass", desc := "(IZ)V" } : Jvm.MethodName) ({ cls := "BreathStreet$Moment", name := "pass", desc := "(IZ)V" } : Jvm.MethodName)) ∈ lw_tbl := List.mem_append_right _ (List.mem_of_getElem? (i := 576) (by decide +kernel))
theorem tw_577 : (Jvm.Cond.code ({ cls := "BreathStreet$Moment", name := "pass", desc := "(IZ)V" } : Jvm.MethodName) prog_7_method_4_code (3 : Nat) (Option.none : Option Jvm.ClassFile.FieldType)) ∈ lw_tbl := List.mem_append_right _ (List.mem_of_getElem? (i := 577) (by decide +kernel))
theorem tw_578 : (Jvm.Cond.methodLink "BreathStreet" (227 : Nat) ({ cls := "BreathStreet$Trail", name := "note", desc := "(LBreathStreet$Moment;)V" } : Jvm.MethodName)) ∈ lw_tbl := List.mem_append_right _ (List.mem_of_getElem? (i := 578) (by decide +kernel))
theorem tw_579 : (Jvm.Cond.instanceMethod ({ cls := "BreathStreet$Trail", name := "note", desc := "(LBreathStreet$Moment;)V" } : Jvm.MethodName)) ∈ lw_tbl := List.mem_append_right _ (List.mem_of_getElem? (i := 579) (by decide +kernel))
theorem tw_580 : (Jvm.Cond.selects "BreathStreet$Trail" ({ cls := "BreathStreet$Trail", name := "note", desc := "(LBreathStreet$Moment;)V" } : Jvm.MethodName) ({ cls := "BreathStreet$Trail", name := "note", desc := "(LBreathStreet$Moment;)V" } : Jvm.MethodName)) ∈ lw_tbl := List.mem_append_right _ (List.mem_of_getElem? (i := 580) (by decide +kernel))
theorem tw_581 : (Jvm.Cond.code ({ cls := "BreathStreet$Trail", name := "note", desc := "(LBreathStreet$Moment;)V" } : Jvm.MethodName) prog_12_method_2_code (2 : Nat) (Option.none : Option Jvm.ClassFile.FieldType)) ∈ lw_tbl := List.mem_append_right _ (List.mem_of_getElem? (i := 581) (by decide +kernel))
theorem tw_582 : (Jvm.Cond.methodLinkNest "BreathStreet$Trail" (31 : Nat) ({ cls := "BreathStreet", name := "isOutside", desc := "(III)Z" } : Jvm.MethodName) "BreathStreet") ∈ lw_tbl := List.mem_append_right _ (List.mem_of_getElem? (i := 582) (by decide +kernel))
theorem tw_583 : (Jvm.Cond.methodLink "BreathStreet$Trail" (48 : Nat) ({ cls := "java/lang/Math", name := "min", desc := "(II)I" } : Jvm.MethodName)) ∈ lw_tbl := List.mem_append_right _ (List.mem_of_getElem? (i := 583) (by decide +kernel))
theorem tw_584 : (Jvm.Cond.methodLink "BreathStreetLaw" (52 : Nat) ({ cls := "BreathStreet", name := "hold", desc := "(I)I" } : Jvm.MethodName)) ∈ lw_tbl := List.mem_append_right _ (List.mem_of_getElem? (i := 584) (by decide +kernel))
theorem tw_585 : (Jvm.Cond.instanceMethod ({ cls := "BreathStreet", name := "hold", desc := "(I)I" } : Jvm.MethodName)) ∈ lw_tbl := List.mem_append_right _ (List.mem_of_getElem? (i := 585) (by decide +kernel))
theorem tw_586 : (Jvm.Cond.selects "BreathStreet" ({ cls := "BreathStreet", name := "hold", desc := "(I)I" } : Jvm.MethodName) ({ cls := "BreathStreet", name := "hold", desc := "(I)I" } : Jvm.MethodName)) ∈ lw_tbl := List.mem_append_right _ (List.mem_of_getElem? (i := 586) (by decide +kernel))
theorem tw_587 : (Jvm.Cond.code ({ cls := "BreathStreet", name := "hold", desc := "(I)I" } : Jvm.MethodName) prog_1_method_11_code (2 : Nat) (Option.some Jvm.ClassFile.FieldType.int)) ∈ lw_tbl := List.mem_append_right _ (List.mem_of_getElem? (i := 587) (by decide +kernel))
theorem tw_588 : (Jvm.Cond.methodLink "BreathStreetLaw" (56 : Nat) ({ cls := "BreathStreet", name := "roll", desc := "(I)I" } : Jvm.MethodName)) ∈ lw_tbl := List.mem_append_right _ (List.mem_of_getElem? (i := 588) (by decide +kernel))
theorem tw_589 : (Jvm.Cond.instanceMethod ({ cls := "BreathStreet", name := "roll", desc := "(I)I" } : Jvm.MethodName)) ∈ lw_tbl := List.mem_append_right _ (List.mem_of_getElem? (i := 589) (by decide +kernel))
theorem tw_590 : (Jvm.Cond.selects "BreathStreet" ({ cls := "BreathStreet", name := "roll", desc := "(I)I" } : Jvm.MethodName) ({ cls := "BreathStreet", name := "roll", desc := "(I)I" } : Jvm.MethodName)) ∈ lw_tbl := List.mem_append_right _ (List.mem_of_getElem? (i := 590) (by decide +kernel))
theorem tw_591 : (Jvm.Cond.code ({ cls := "BreathStreet", name := "roll", desc := "(I)I" } : Jvm.MethodName) prog_1_method_12_code (2 : Nat) (Option.some Jvm.ClassFile.FieldType.int)) ∈ lw_tbl := List.mem_append_right _ (List.mem_of_getElem? (i := 591) (by decide +kernel))
theorem tw_592 : (Jvm.Cond.methodLink "BreathStreet" (221 : Nat) ({ cls := "BreathStreet$Moment", name := "canGo", desc := "(LBreathStreet$Street;I)Z" } : Jvm.MethodName)) ∈ lw_tbl := List.mem_append_right _ (List.mem_of_getElem? (i := 592) (by decide +kernel))
theorem tw_593 : (Jvm.Cond.instanceMethod ({ cls := "BreathStreet$Moment", name := "canGo", desc := "(LBreathStreet$Street;I)Z" } : Jvm.MethodName)) ∈ lw_tbl := List.mem_append_right _ (List.mem_of_getElem? (i := 593) (by decide +kernel))
theorem tw_594 : (Jvm.Cond.selects "BreathStreet$Moment" ({ cls := "BreathStreet$Moment", name := "canGo", desc := "(LBreathStreet$Street;I)Z" } : Jvm.MethodName) ({ cls := "BreathStreet$Moment", name := "canGo", desc := "(LBreathStreet$Street;I)Z" } : Jvm.MethodName)) ∈ lw_tbl := List.mem_append_right _ (List.mem_of_getElem? (i := 594) (by decide +kernel))
theorem tw_595 : (Jvm.Cond.code ({ cls := "BreathStreet$Moment", name := "canGo", desc := "(LBreathStreet$Street;I)Z" } : Jvm.MethodName) prog_7_method_5_code (4 : Nat) (Option.some Jvm.ClassFile.FieldType.boolean)) ∈ lw_tbl := List.mem_append_right _ (List.mem_of_getElem? (i := 595) (by decide +kernel))
theorem tw_596 : (Jvm.Cond.methodLinkNest "BreathStreet$Moment" (24 : Nat) ({ cls := "BreathStreet", name := "besideOf", desc := "(II)I" } : Jvm.MethodName) "BreathStreet") ∈ lw_tbl := List.mem_append_right _ (List.mem_of_getElem? (i := 596) (by decide +kernel))
theorem tw_597 : (Jvm.Cond.static ({ cls := "BreathStreet", name := "besideOf", desc := "(II)I" } : Jvm.MethodName)) ∈ lw_tbl := List.mem_append_right _ (List.mem_of_getElem? (i := 597) (by decide +kernel))
theorem tw_598 : (Jvm.Cond.code ({ cls := "BreathStreet", name := "besideOf", desc := "(II)I" } : Jvm.MethodName) prog_1_method_46_code (2 : Nat) (Option.some Jvm.ClassFile.FieldType.int)) ∈ lw_tbl := List.mem_append_right _ (List.mem_of_getElem? (i := 598) (by decide +kernel))
theorem tw_599 : (Jvm.Cond.methodLink "BreathStreet$Moment" (34 : Nat) ({ cls := "BreathStreet$Ground", name := "has", desc := "(I)Z" } : Jvm.MethodName)) ∈ lw_tbl := List.mem_append_right _ (List.mem_of_getElem? (i := 599) (by decide +kernel))
theorem tw_600 : (Jvm.Cond.methodLink "BreathStreet$Moment" (44 : Nat) ({ cls := "java/lang/Math", name := "min", desc := "(II)I" } : Jvm.MethodName)) ∈ lw_tbl := List.mem_append_right _ (List.mem_of_getElem? (i := 600) (by decide +kernel))
theorem tw_601 : (Jvm.Cond.methodLink "BreathStreet$Moment" (49 : Nat) ({ cls := "BreathStreet$Seams", name := "letsThrough", desc := "(II)Z" } : Jvm.MethodName)) ∈ lw_tbl := List.mem_append_right _ (List.mem_of_getElem? (i := 601) (by decide +kernel))
theorem tw_602 : (Jvm.Cond.instanceMethod ({ cls := "BreathStreet$Seams", name := "letsThrough", desc := "(II)Z" } : Jvm.MethodName)) ∈ lw_tbl := List.mem_append_right _ (List.mem_of_getElem? (i := 602) (by decide +kernel))
theorem tw_603 : (Jvm.Cond.selects "BreathStreet$Seams" ({ cls := "BreathStreet$Seams", name := "letsThrough", desc := "(II)Z" } : Jvm.MethodName) ({ cls := "BreathStreet$Seams", name := "letsThrough", desc := "(II)Z" } : Jvm.MethodName)) ∈ lw_tbl := List.mem_append_right _ (List.mem_of_getElem? (i := 603) (by decide +kernel))
theorem tw_604 : (Jvm.Cond.code ({ cls := "BreathStreet$Seams", name := "letsThrough", desc := "(II)Z" } : Jvm.MethodName) prog_8_method_8_code (4 : Nat) (Option.some Jvm.ClassFile.FieldType.boolean)) ∈ lw_tbl := List.mem_append_right _ (List.mem_of_getElem? (i := 604) (by decide +kernel))
theorem tw_605 : (Jvm.Cond.constant "BreathStreet" (225 : Nat) (-1000000003 : Int32)) ∈ lw_tbl := List.mem_append_right _ (List.mem_of_getElem? (i := 605) (by decide +kernel))
theorem tw_606 : (Jvm.Cond.methodLink "BreathStreet" (231 : Nat) ({ cls := "BreathStreet$Moment", name := "go", desc := "(LBreathStreet$Street;IZ)I" } : Jvm.MethodName)) ∈ lw_tbl := List.mem_append_right _ (List.mem_of_getElem? (i := 606) (by decide +kernel))
theorem tw_607 : (Jvm.Cond.instanceMethod ({ cls := "BreathStreet$Moment", name := "go", desc := "(LBreathStreet$Street;IZ)I" } : Jvm.MethodName)) ∈ lw_tbl := List.mem_append_right _ (List.mem_of_getElem? (i := 607) (by decide +kernel))
theorem tw_608 : (Jvm.Cond.selects "BreathStreet$Moment" ({ cls := "BreathStreet$Moment", name := "go", desc := "(LBreathStreet$Street;IZ)I" } : Jvm.MethodName) ({ cls := "BreathStreet$Moment", name := "go", desc := "(LBreathStreet$Street;IZ)I" } : Jvm.MethodName)) ∈ lw_tbl := List.mem_append_right _ (List.mem_of_getElem? (i := 608) (by decide +kernel))
theorem tw_609 : (Jvm.Cond.code ({ cls := "BreathStreet$Moment", name := "go", desc := "(LBreathStreet$Street;IZ)I" } : Jvm.MethodName) prog_7_method_6_code (6 : Nat) (Option.some Jvm.ClassFile.FieldType.int)) ∈ lw_tbl := List.mem_append_right _ (List.mem_of_getElem? (i := 609) (by decide +kernel))
theorem tw_610 : (Jvm.Cond.methodLink "BreathStreet$Moment" (55 : Nat) ({ cls := "BreathStreet$Moment", name := "pass", desc := "(IZ)V" } : Jvm.MethodName)) ∈ lw_tbl := List.mem_append_right _ (List.mem_of_getElem? (i := 610) (by decide +kernel))
theorem tw_611 : (Jvm.Cond.methodLink "BreathStreet$Moment" (59 : Nat) ({ cls := "BreathStreet$Ground", name := "climb", desc := "(III)I" } : Jvm.MethodName)) ∈ lw_tbl := List.mem_append_right _ (List.mem_of_getElem? (i := 611) (by decide +kernel))
theorem tw_612 : (Jvm.Cond.instanceMethod ({ cls := "BreathStreet$Ground", name := "climb", desc := "(III)I" } : Jvm.MethodName)) ∈ lw_tbl := List.mem_append_right _ (List.mem_of_getElem? (i := 612) (by decide +kernel))
theorem tw_613 : (Jvm.Cond.selects "BreathStreet$Ground" ({ cls := "BreathStreet$Ground", name := "climb", desc := "(III)I" } : Jvm.MethodName) ({ cls := "BreathStreet$Ground", name := "climb", desc := "(III)I" } : Jvm.MethodName)) ∈ lw_tbl := List.mem_append_right _ (List.mem_of_getElem? (i := 613) (by decide +kernel))
theorem tw_614 : (Jvm.Cond.code ({ cls := "BreathStreet$Ground", name := "climb", desc := "(III)I" } : Jvm.MethodName) prog_4_method_8_code (4 : Nat) (Option.some Jvm.ClassFile.FieldType.int)) ∈ lw_tbl := List.mem_append_right _ (List.mem_of_getElem? (i := 614) (by decide +kernel))
theorem tw_615 : (Jvm.Cond.methodLink "BreathStreet$Ground" (52 : Nat) ({ cls := "java/lang/Math", name := "max", desc := "(II)I" } : Jvm.MethodName)) ∈ lw_tbl := List.mem_append_right _ (List.mem_of_getElem? (i := 615) (by decide +kernel))
theorem tw_616 : (Jvm.Cond.methodLink "BreathStreetLaw" (60 : Nat) ({ cls := "BreathStreet", name := "slack", desc := "(II)I" } : Jvm.MethodName)) ∈ lw_tbl := List.mem_append_right _ (List.mem_of_getElem? (i := 616) (by decide +kernel))
theorem tw_617 : (Jvm.Cond.instanceMethod ({ cls := "BreathStreet", name := "slack", desc := "(II)I" } : Jvm.MethodName)) ∈ lw_tbl := List.mem_append_right _ (List.mem_of_getElem? (i := 617) (by decide +kernel))
theorem tw_618 : (Jvm.Cond.selects "BreathStreet" ({ cls := "BreathStreet", name := "slack", desc := "(II)I" } : Jvm.MethodName) ({ cls := "BreathStreet", name := "slack", desc := "(II)I" } : Jvm.MethodName)) ∈ lw_tbl := List.mem_append_right _ (List.mem_of_getElem? (i := 618) (by decide +kernel))
theorem tw_619 : (Jvm.Cond.code ({ cls := "BreathStreet", name := "slack", desc := "(II)I" } : Jvm.MethodName) prog_1_method_13_code (4 : Nat) (Option.some Jvm.ClassFile.FieldType.int)) ∈ lw_tbl := List.mem_append_right _ (List.mem_of_getElem? (i := 619) (by decide +kernel))
theorem tw_620 : (Jvm.Cond.methodLink "BreathStreetLaw" (64 : Nat) ({ cls := "BreathStreet", name := "drift", desc := "(I)I" } : Jvm.MethodName)) ∈ lw_tbl := List.mem_append_right _ (List.mem_of_getElem? (i := 620) (by decide +kernel))
theorem tw_621 : (Jvm.Cond.instanceMethod ({ cls := "BreathStreet", name := "drift", desc := "(I)I" } : Jvm.MethodName)) ∈ lw_tbl := List.mem_append_right _ (List.mem_of_getElem? (i := 621) (by decide +kernel))
theorem tw_622 : (Jvm.Cond.selects "BreathStreet" ({ cls := "BreathStreet", name := "drift", desc := "(I)I" } : Jvm.MethodName) ({ cls := "BreathStreet", name := "drift", desc := "(I)I" } : Jvm.MethodName)) ∈ lw_tbl := List.mem_append_right _ (List.mem_of_getElem? (i := 622) (by decide +kernel))
theorem tw_623 : (Jvm.Cond.code ({ cls := "BreathStreet", name := "drift", desc := "(I)I" } : Jvm.MethodName) prog_1_method_14_code (5 : Nat) (Option.some Jvm.ClassFile.FieldType.int)) ∈ lw_tbl := List.mem_append_right _ (List.mem_of_getElem? (i := 623) (by decide +kernel))
theorem tw_624 : (Jvm.Cond.methodLink "BreathStreet" (235 : Nat) ({ cls := "BreathStreet", name := "draw", desc := "(I)I" } : Jvm.MethodName)) ∈ lw_tbl := List.mem_append_right _ (List.mem_of_getElem? (i := 624) (by decide +kernel))
theorem tw_625 : (Jvm.Cond.privateMethod ({ cls := "BreathStreet", name := "draw", desc := "(I)I" } : Jvm.MethodName)) ∈ lw_tbl := List.mem_append_right _ (List.mem_of_getElem? (i := 625) (by decide +kernel))
theorem tw_626 : (Jvm.Cond.instanceMethod ({ cls := "BreathStreet", name := "draw", desc := "(I)I" } : Jvm.MethodName)) ∈ lw_tbl := List.mem_append_right _ (List.mem_of_getElem? (i := 626) (by decide +kernel))
theorem tw_627 : (Jvm.Cond.code ({ cls := "BreathStreet", name := "draw", desc := "(I)I" } : Jvm.MethodName) prog_1_method_40_code (2 : Nat) (Option.some Jvm.ClassFile.FieldType.int)) ∈ lw_tbl := List.mem_append_right _ (List.mem_of_getElem? (i := 627) (by decide +kernel))
theorem tw_628 : (Jvm.Cond.constantLong "BreathStreet" (353 : Nat) (1103515245 : Int64)) ∈ lw_tbl := List.mem_append_right _ (List.mem_of_getElem? (i := 628) (by decide +kernel))
theorem tw_629 : (Jvm.Cond.constantLong "BreathStreet" (355 : Nat) (12345 : Int64)) ∈ lw_tbl := List.mem_append_right _ (List.mem_of_getElem? (i := 629) (by decide +kernel))
theorem tw_630 : (Jvm.Cond.constantLong "BreathStreet" (357 : Nat) (2147483647 : Int64)) ∈ lw_tbl := List.mem_append_right _ (List.mem_of_getElem? (i := 630) (by decide +kernel))
theorem tw_631 : (Jvm.Cond.constant "BreathStreet" (359 : Nat) (65536 : Int32)) ∈ lw_tbl := List.mem_append_right _ (List.mem_of_getElem? (i := 631) (by decide +kernel))
theorem tw_632 : (Jvm.Cond.methodLink "BreathStreetLaw" (68 : Nat) ({ cls := "BreathStreet", name := "undo", desc := "(I)I" } : Jvm.MethodName)) ∈ lw_tbl := List.mem_append_right _ (List.mem_of_getElem? (i := 632) (by decide +kernel))
theorem tw_633 : (Jvm.Cond.instanceMethod ({ cls := "BreathStreet", name := "undo", desc := "(I)I" } : Jvm.MethodName)) ∈ lw_tbl := List.mem_append_right _ (List.mem_of_getElem? (i := 633) (by decide +kernel))
theorem tw_634 : (Jvm.Cond.selects "BreathStreet" ({ cls := "BreathStreet", name := "undo", desc := "(I)I" } : Jvm.MethodName) ({ cls := "BreathStreet", name := "undo", desc := "(I)I" } : Jvm.MethodName)) ∈ lw_tbl := List.mem_append_right _ (List.mem_of_getElem? (i := 634) (by decide +kernel))
theorem tw_635 : (Jvm.Cond.code ({ cls := "BreathStreet", name := "undo", desc := "(I)I" } : Jvm.MethodName) prog_1_method_15_code (2 : Nat) (Option.some Jvm.ClassFile.FieldType.int)) ∈ lw_tbl := List.mem_append_right _ (List.mem_of_getElem? (i := 635) (by decide +kernel))
theorem tw_636 : (Jvm.Cond.methodLink "BreathStreet" (238 : Nat) ({ cls := "BreathStreet$Trail", name := "takeBack", desc := "(LBreathStreet$Moment;I)V" } : Jvm.MethodName)) ∈ lw_tbl := List.mem_append_right _ (List.mem_of_getElem? (i := 636) (by decide +kernel))
theorem tw_637 : (Jvm.Cond.instanceMethod ({ cls := "BreathStreet$Trail", name := "takeBack", desc := "(LBreathStreet$Moment;I)V" } : Jvm.MethodName)) ∈ lw_tbl := List.mem_append_right _ (List.mem_of_getElem? (i := 637) (by decide +kernel))
theorem tw_638 : (Jvm.Cond.selects "BreathStreet$Trail" ({ cls := "BreathStreet$Trail", name := "takeBack", desc := "(LBreathStreet$Moment;I)V" } : Jvm.MethodName) ({ cls := "BreathStreet$Trail", name := "takeBack", desc := "(LBreathStreet$Moment;I)V" } : Jvm.MethodName)) ∈ lw_tbl := List.mem_append_right _ (List.mem_of_getElem? (i := 638) (by decide +kernel))
theorem tw_639 : (Jvm.Cond.code ({ cls := "BreathStreet$Trail", name := "takeBack", desc := "(LBreathStreet$Moment;I)V" } : Jvm.MethodName) prog_12_method_3_code (3 : Nat) (Option.none : Option Jvm.ClassFile.FieldType)) ∈ lw_tbl := List.mem_append_right _ (List.mem_of_getElem? (i := 639) (by decide +kernel))
theorem tw_640 : (Jvm.Cond.methodLink "BreathStreet$Trail" (54 : Nat) ({ cls := "java/lang/Math", name := "floorMod", desc := "(II)I" } : Jvm.MethodName)) ∈ lw_tbl := List.mem_append_right _ (List.mem_of_getElem? (i := 640) (by decide +kernel))
theorem tw_641 : (Jvm.Cond.methodLink "BreathStreetLaw" (72 : Nat) ({ cls := "BreathStreet", name := "cracks", desc := "(I)I" } : Jvm.MethodName)) ∈ lw_tbl := List.mem_append_right _ (List.mem_of_getElem? (i := 641) (by decide +kernel))
theorem tw_642 : (Jvm.Cond.instanceMethod ({ cls := "BreathStreet", name := "cracks", desc := "(I)I" } : Jvm.MethodName)) ∈ lw_tbl := List.mem_append_right _ (List.mem_of_getElem? (i := 642) (by decide +kernel))
theorem tw_643 : (Jvm.Cond.selects "BreathStreet" ({ cls := "BreathStreet", name := "cracks", desc := "(I)I" } : Jvm.MethodName) ({ cls := "BreathStreet", name := "cracks", desc := "(I)I" } : Jvm.MethodName)) ∈ lw_tbl := List.mem_append_right _ (List.mem_of_getElem? (i := 643) (by decide +kernel))
theorem tw_644 : (Jvm.Cond.code ({ cls := "BreathStreet", name := "cracks", desc := "(I)I" } : Jvm.MethodName) prog_1_method_16_code (2 : Nat) (Option.some Jvm.ClassFile.FieldType.int)) ∈ lw_tbl := List.mem_append_right _ (List.mem_of_getElem? (i := 644) (by decide +kernel))
theorem tw_645 : (Jvm.Cond.methodLink "BreathStreet" (242 : Nat) ({ cls := "BreathStreet$Street", name := "firstCrack", desc := "(II)I" } : Jvm.MethodName)) ∈ lw_tbl := List.mem_append_right _ (List.mem_of_getElem? (i := 645) (by decide +kernel))
theorem tw_646 : (Jvm.Cond.instanceMethod ({ cls := "BreathStreet$Street", name := "firstCrack", desc := "(II)I" } : Jvm.MethodName)) ∈ lw_tbl := List.mem_append_right _ (List.mem_of_getElem? (i := 646) (by decide +kernel))
theorem tw_647 : (Jvm.Cond.selects "BreathStreet$Street" ({ cls := "BreathStreet$Street", name := "firstCrack", desc := "(II)I" } : Jvm.MethodName) ({ cls := "BreathStreet$Street", name := "firstCrack", desc := "(II)I" } : Jvm.MethodName)) ∈ lw_tbl := List.mem_append_right _ (List.mem_of_getElem? (i := 647) (by decide +kernel))
theorem tw_648 : (Jvm.Cond.code ({ cls := "BreathStreet$Street", name := "firstCrack", desc := "(II)I" } : Jvm.MethodName) prog_10_method_9_code (5 : Nat) (Option.some Jvm.ClassFile.FieldType.int)) ∈ lw_tbl := List.mem_append_right _ (List.mem_of_getElem? (i := 648) (by decide +kernel))
theorem tw_649 : (Jvm.Cond.methodLink "BreathStreetLaw" (76 : Nat) ({ cls := "BreathStreet", name := "worst", desc := "()I" } : Jvm.MethodName)) ∈ lw_tbl := List.mem_append_right _ (List.mem_of_getElem? (i := 649) (by decide +kernel))
theorem tw_650 : (Jvm.Cond.instanceMethod ({ cls := "BreathStreet", name := "worst", desc := "()I" } : Jvm.MethodName)) ∈ lw_tbl := List.mem_append_right _ (List.mem_of_getElem? (i := 650) (by decide +kernel))
theorem tw_651 : (Jvm.Cond.selects "BreathStreet" ({ cls := "BreathStreet", name := "worst", desc := "()I" } : Jvm.MethodName) ({ cls := "BreathStreet", name := "worst", desc := "()I" } : Jvm.MethodName)) ∈ lw_tbl := List.mem_append_right _ (List.mem_of_getElem? (i := 651) (by decide +kernel))
theorem tw_652 : (Jvm.Cond.code ({ cls := "BreathStreet", name := "worst", desc := "()I" } : Jvm.MethodName) prog_1_method_17_code (1 : Nat) (Option.some Jvm.ClassFile.FieldType.int)) ∈ lw_tbl := List.mem_append_right _ (List.mem_of_getElem? (i := 652) (by decide +kernel))
theorem tw_653 : (Jvm.Cond.methodLink "BreathStreet" (245 : Nat) ({ cls := "BreathStreet$Street", name := "neediestHouse", desc := "()I" } : Jvm.MethodName)) ∈ lw_tbl := List.mem_append_right _ (List.mem_of_getElem? (i := 653) (by decide +kernel))
theorem tw_654 : (Jvm.Cond.instanceMethod ({ cls := "BreathStreet$Street", name := "neediestHouse", desc := "()I" } : Jvm.MethodName)) ∈ lw_tbl := List.mem_append_right _ (List.mem_of_getElem? (i := 654) (by decide +kernel))
theorem tw_655 : (Jvm.Cond.selects "BreathStreet$Street" ({ cls := "BreathStreet$Street", name := "neediestHouse", desc := "()I" } : Jvm.MethodName) ({ cls := "BreathStreet$Street", name := "neediestHouse", desc := "()I" } : Jvm.MethodName)) ∈ lw_tbl := List.mem_append_right _ (List.mem_of_getElem? (i := 655) (by decide +kernel))
theorem tw_656 : (Jvm.Cond.code ({ cls := "BreathStreet$Street", name := "neediestHouse", desc := "()I" } : Jvm.MethodName) prog_10_method_11_code (5 : Nat) (Option.some Jvm.ClassFile.FieldType.int)) ∈ lw_tbl := List.mem_append_right _ (List.mem_of_getElem? (i := 656) (by decide +kernel))
theorem tw_657 : (Jvm.Cond.methodLink "BreathStreet$Street" (72 : Nat) ({ cls := "BreathStreet$Street", name := "slackNeeded", desc := "(I)I" } : Jvm.MethodName)) ∈ lw_tbl := List.mem_append_right _ (List.mem_of_getElem? (i := 657) (by decide +kernel))
theorem tw_658 : (Jvm.Cond.methodLink "BreathStreetLaw" (80 : Nat) ({ cls := "BreathStreet", name := "water", desc := "(II)I" } : Jvm.MethodName)) ∈ lw_tbl := List.mem_append_right _ (List.mem_of_getElem? (i := 658) (by decide +kernel))
theorem tw_659 : (Jvm.Cond.instanceMethod ({ cls := "BreathStreet", name := "water", desc := "(II)I" } : Jvm.MethodName)) ∈ lw_tbl := List.mem_append_right _ (List.mem_of_getElem? (i := 659) (by decide +kernel))
theorem tw_660 : (Jvm.Cond.selects "BreathStreet" ({ cls := "BreathStreet", name := "water", desc := "(II)I" } : Jvm.MethodName) ({ cls := "BreathStreet", name := "water", desc := "(II)I" } : Jvm.MethodName)) ∈ lw_tbl := List.mem_append_right _ (List.mem_of_getElem? (i := 660) (by decide +kernel))
theorem tw_661 : (Jvm.Cond.code ({ cls := "BreathStreet", name := "water", desc := "(II)I" } : Jvm.MethodName) prog_1_method_18_code (3 : Nat) (Option.some Jvm.ClassFile.FieldType.int)) ∈ lw_tbl := List.mem_append_right _ (List.mem_of_getElem? (i := 661) (by decide +kernel))
theorem tw_662 : (Jvm.Cond.methodLink "BreathStreet" (248 : Nat) ({ cls := "BreathStreet$Ground", name := "flownTo", desc := "(III)I" } : Jvm.MethodName)) ∈ lw_tbl := List.mem_append_right _ (List.mem_of_getElem? (i := 662) (by decide +kernel))
theorem tw_663 : (Jvm.Cond.instanceMethod ({ cls := "BreathStreet$Ground", name := "flownTo", desc := "(III)I" } : Jvm.MethodName)) ∈ lw_tbl := List.mem_append_right _ (List.mem_of_getElem? (i := 663) (by decide +kernel))
theorem tw_664 : (Jvm.Cond.selects "BreathStreet$Ground" ({ cls := "BreathStreet$Ground", name := "flownTo", desc := "(III)I" } : Jvm.MethodName) ({ cls := "BreathStreet$Ground", name := "flownTo", desc := "(III)I" } : Jvm.MethodName)) ∈ lw_tbl := List.mem_append_right _ (List.mem_of_getElem? (i := 664) (by decide +kernel))
theorem tw_665 : (Jvm.Cond.code ({ cls := "BreathStreet$Ground", name := "flownTo", desc := "(III)I" } : Jvm.MethodName) prog_4_method_10_code (6 : Nat) (Option.some Jvm.ClassFile.FieldType.int)) ∈ lw_tbl := List.mem_append_right _ (List.mem_of_getElem? (i := 665) (by decide +kernel))
theorem tw_666 : (Jvm.Cond.methodLink "BreathStreet$Ground" (57 : Nat) ({ cls := "BreathStreet$Ground", name := "lowerBeside", desc := "(II)I" } : Jvm.MethodName)) ∈ lw_tbl := List.mem_append_right _ (List.mem_of_getElem? (i := 666) (by decide +kernel))
theorem tw_667 : (Jvm.Cond.privateMethod ({ cls := "BreathStreet$Ground", name := "lowerBeside", desc := "(II)I" } : Jvm.MethodName)) ∈ lw_tbl := List.mem_append_right _ (List.mem_of_getElem? (i := 667) (by decide +kernel))
theorem tw_668 : (Jvm.Cond.instanceMethod ({ cls := "BreathStreet$Ground", name := "lowerBeside", desc := "(II)I" } : Jvm.MethodName)) ∈ lw_tbl := List.mem_append_right _ (List.mem_of_getElem? (i := 668) (by decide +kernel))
theorem tw_669 : (Jvm.Cond.code ({ cls := "BreathStreet$Ground", name := "lowerBeside", desc := "(II)I" } : Jvm.MethodName) prog_4_method_11_code (4 : Nat) (Option.some Jvm.ClassFile.FieldType.int)) ∈ lw_tbl := List.mem_append_right _ (List.mem_of_getElem? (i := 669) (by decide +kernel))
theorem tw_670 : (Jvm.Cond.methodLink "BreathStreetLaw" (84 : Nat) ({ cls := "BreathStreet", name := "mill", desc := "(II)I" } : Jvm.MethodName)) ∈ lw_tbl := List.mem_append_right _ (List.mem_of_getElem? (i := 670) (by decide +kernel))
theorem tw_671 : (Jvm.Cond.instanceMethod ({ cls := "BreathStreet", name := "mill", desc := "(II)I" } : Jvm.MethodName)) ∈ lw_tbl := List.mem_append_right _ (List.mem_of_getElem? (i := 671) (by decide +kernel))
theorem tw_672 : (Jvm.Cond.selects "BreathStreet" ({ cls := "BreathStreet", name := "mill", desc := "(II)I" } : Jvm.MethodName) ({ cls := "BreathStreet", name := "mill", desc := "(II)I" } : Jvm.MethodName)) ∈ lw_tbl := List.mem_append_right _ (List.mem_of_getElem? (i := 672) (by decide +kernel))
theorem tw_673 : (Jvm.Cond.code ({ cls := "BreathStreet", name := "mill", desc := "(II)I" } : Jvm.MethodName) prog_1_method_19_code (3 : Nat) (Option.some Jvm.ClassFile.FieldType.int)) ∈ lw_tbl := List.mem_append_right _ (List.mem_of_getElem? (i := 673) (by decide +kernel))
theorem tw_674 : (Jvm.Cond.methodLink "BreathStreet" (252 : Nat) ({ cls := "BreathStreet$Ground", name := "hasGap", desc := "(I)Z" } : Jvm.MethodName)) ∈ lw_tbl := List.mem_append_right _ (List.mem_of_getElem? (i := 674) (by decide +kernel))
theorem tw_675 : (Jvm.Cond.methodLink "BreathStreet" (255 : Nat) ({ cls := "BreathStreet$Ground", name := "milled", desc := "(II)I" } : Jvm.MethodName)) ∈ lw_tbl := List.mem_append_right _ (List.mem_of_getElem? (i := 675) (by decide +kernel))
theorem tw_676 : (Jvm.Cond.instanceMethod ({ cls := "BreathStreet$Ground", name := "milled", desc := "(II)I" } : Jvm.MethodName)) ∈ lw_tbl := List.mem_append_right _ (List.mem_of_getElem? (i := 676) (by decide +kernel))
theorem tw_677 : (Jvm.Cond.selects "BreathStreet$Ground" ({ cls := "BreathStreet$Ground", name := "milled", desc := "(II)I" } : Jvm.MethodName) ({ cls := "BreathStreet$Ground", name := "milled", desc := "(II)I" } : Jvm.MethodName)) ∈ lw_tbl := List.mem_append_right _ (List.mem_of_getElem? (i := 677) (by decide +kernel))
theorem tw_678 : (Jvm.Cond.code ({ cls := "BreathStreet$Ground", name := "milled", desc := "(II)I" } : Jvm.MethodName) prog_4_method_12_code (7 : Nat) (Option.some Jvm.ClassFile.FieldType.int)) ∈ lw_tbl := List.mem_append_right _ (List.mem_of_getElem? (i := 678) (by decide +kernel))
theorem tw_679 : (Jvm.Cond.methodLink "BreathStreet$Ground" (60 : Nat) ({ cls := "BreathStreet$Ground", name := "leanRound", desc := "(I)I" } : Jvm.MethodName)) ∈ lw_tbl := List.mem_append_right _ (List.mem_of_getElem? (i := 679) (by decide +kernel))
theorem tw_680 : (Jvm.Cond.methodLink "BreathStreet$Ground" (64 : Nat) ({ cls := "BreathStreet$Ground", name := "leanAt", desc := "(II)I" } : Jvm.MethodName)) ∈ lw_tbl := List.mem_append_right _ (List.mem_of_getElem? (i := 680) (by decide +kernel))
theorem tw_681 : (Jvm.Cond.methodLink "BreathStreet$Ground" (67 : Nat) ({ cls := "java/lang/Math", name := "abs", desc := "(I)I" } : Jvm.MethodName)) ∈ lw_tbl := List.mem_append_right _ (List.mem_of_getElem? (i := 681) (by decide +kernel))
theorem tw_682 : (Jvm.Cond.methodLink "BreathStreetLaw" (88 : Nat) ({ cls := "BreathStreet", name := "bestMill", desc := "()I" } : Jvm.MethodName)) ∈ lw_tbl := List.mem_append_right _ (List.mem_of_getElem? (i := 682) (by decide +kernel))
theorem tw_683 : (Jvm.Cond.instanceMethod ({ cls := "BreathStreet", name := "bestMill", desc := "()I" } : Jvm.MethodName)) ∈ lw_tbl := List.mem_append_right _ (List.mem_of_getElem? (i := 683) (by decide +kernel))
theorem tw_684 : (Jvm.Cond.selects "BreathStreet" ({ cls := "BreathStreet", name := "bestMill", desc := "()I" } : Jvm.MethodName) ({ cls := "BreathStreet", name := "bestMill", desc := "()I" } : Jvm.MethodName)) ∈ lw_tbl := List.mem_append_right _ (List.mem_of_getElem? (i := 684) (by decide +kernel))
theorem tw_685 : (Jvm.Cond.code ({ cls := "BreathStreet", name := "bestMill", desc := "()I" } : Jvm.MethodName) prog_1_method_20_code (1 : Nat) (Option.some Jvm.ClassFile.FieldType.int)) ∈ lw_tbl := List.mem_append_right _ (List.mem_of_getElem? (i := 685) (by decide +kernel))
theorem tw_686 : (Jvm.Cond.methodLink "BreathStreet" (258 : Nat) ({ cls := "BreathStreet$Ground", name := "bestGap", desc := "()I" } : Jvm.MethodName)) ∈ lw_tbl := List.mem_append_right _ (List.mem_of_getElem? (i := 686) (by decide +kernel))
theorem tw_687 : (Jvm.Cond.instanceMethod ({ cls := "BreathStreet$Ground", name := "bestGap", desc := "()I" } : Jvm.MethodName)) ∈ lw_tbl := List.mem_append_right _ (List.mem_of_getElem? (i := 687) (by decide +kernel))
theorem tw_688 : (Jvm.Cond.selects "BreathStreet$Ground" ({ cls := "BreathStreet$Ground", name := "bestGap", desc := "()I" } : Jvm.MethodName) ({ cls := "BreathStreet$Ground", name := "bestGap", desc := "()I" } : Jvm.MethodName)) ∈ lw_tbl := List.mem_append_right _ (List.mem_of_getElem? (i := 688) (by decide +kernel))
theorem tw_689 : (Jvm.Cond.code ({ cls := "BreathStreet$Ground", name := "bestGap", desc := "()I" } : Jvm.MethodName) prog_4_method_13_code (5 : Nat) (Option.some Jvm.ClassFile.FieldType.int)) ∈ lw_tbl := List.mem_append_right _ (List.mem_of_getElem? (i := 689) (by decide +kernel))
theorem tw_690 : (Jvm.Cond.methodLink "BreathStreet$Ground" (70 : Nat) ({ cls := "BreathStreet$Ground", name := "milled", desc := "(II)I" } : Jvm.MethodName)) ∈ lw_tbl := List.mem_append_right _ (List.mem_of_getElem? (i := 690) (by decide +kernel))
theorem tw_691 : (Jvm.Cond.methodLink "BreathStreetLaw" (92 : Nat) ({ cls := "BreathStreet", name := "soonest", desc := "(II)I" } : Jvm.MethodName)) ∈ lw_tbl := List.mem_append_right _ (List.mem_of_getElem? (i := 691) (by decide +kernel))
theorem tw_692 : (Jvm.Cond.instanceMethod ({ cls := "BreathStreet", name := "soonest", desc := "(II)I" } : Jvm.MethodName)) ∈ lw_tbl := List.mem_append_right _ (List.mem_of_getElem? (i := 692) (by decide +kernel))
theorem tw_693 : (Jvm.Cond.selects "BreathStreet" ({ cls := "BreathStreet", name := "soonest", desc := "(II)I" } : Jvm.MethodName) ({ cls := "BreathStreet", name := "soonest", desc := "(II)I" } : Jvm.MethodName)) ∈ lw_tbl := List.mem_append_right _ (List.mem_of_getElem? (i := 693) (by decide +kernel))
theorem tw_694 : (Jvm.Cond.code ({ cls := "BreathStreet", name := "soonest", desc := "(II)I" } : Jvm.MethodName) prog_1_method_21_code (3 : Nat) (Option.some Jvm.ClassFile.FieldType.int)) ∈ lw_tbl := List.mem_append_right _ (List.mem_of_getElem? (i := 694) (by decide +kernel))
theorem tw_695 : (Jvm.Cond.methodLink "BreathStreet" (261 : Nat) ({ cls := "BreathStreet$Home", name := "fewestSteps", desc := "(LBreathStreet$Street;LBreathStreet$Moment;II)I" } : Jvm.MethodName)) ∈ lw_tbl := List.mem_append_right _ (List.mem_of_getElem? (i := 695) (by decide +kernel))
theorem tw_696 : (Jvm.Cond.instanceMethod ({ cls := "BreathStreet$Home", name := "fewestSteps", desc := "(LBreathStreet$Street;LBreathStreet$Moment;II)I" } : Jvm.MethodName)) ∈ lw_tbl := List.mem_append_right _ (List.mem_of_getElem? (i := 696) (by decide +kernel))
theorem tw_697 : (Jvm.Cond.selects "BreathStreet$Home" ({ cls := "BreathStreet$Home", name := "fewestSteps", desc := "(LBreathStreet$Street;LBreathStreet$Moment;II)I" } : Jvm.MethodName) ({ cls := "BreathStreet$Home", name := "fewestSteps", desc := "(LBreathStreet$Street;LBreathStreet$Moment;II)I" } : Jvm.MethodName)) ∈ lw_tbl := List.mem_append_right _ (List.mem_of_getElem? (i := 697) (by decide +kernel))
theorem tw_698 : (Jvm.Cond.code ({ cls := "BreathStreet$Home", name := "fewestSteps", desc := "(LBreathStreet$Street;LBreathStreet$Moment;II)I" } : Jvm.MethodName) prog_5_method_2_code (8 : Nat) (Option.some Jvm.ClassFile.FieldType.int)) ∈ lw_tbl := List.mem_append_right _ (List.mem_of_getElem? (i := 698) (by decide +kernel))
theorem tw_699 : (Jvm.Cond.methodLink "BreathStreet$Home" (28 : Nat) ({ cls := "java/lang/Math", name := "min", desc := "(II)I" } : Jvm.MethodName)) ∈ lw_tbl := List.mem_append_right _ (List.mem_of_getElem? (i := 699) (by decide +kernel))
theorem tw_700 : (Jvm.Cond.methodLink "BreathStreet$Home" (39 : Nat) ({ cls := "BreathStreet$Seams", name := "letsThrough", desc := "(II)Z" } : Jvm.MethodName)) ∈ lw_tbl := List.mem_append_right _ (List.mem_of_getElem? (i := 700) (by decide +kernel))
theorem tw_701 : (Jvm.Cond.methodLink "BreathStreetLaw" (96 : Nat) ({ cls := "BreathStreet", name := "least", desc := "(IIII)I" } : Jvm.MethodName)) ∈ lw_tbl := List.mem_append_right _ (List.mem_of_getElem? (i := 701) (by decide +kernel))
theorem tw_702 : (Jvm.Cond.instanceMethod ({ cls := "BreathStreet", name := "least", desc := "(IIII)I" } : Jvm.MethodName)) ∈ lw_tbl := List.mem_append_right _ (List.mem_of_getElem? (i := 702) (by decide +kernel))
theorem tw_703 : (Jvm.Cond.selects "BreathStreet" ({ cls := "BreathStreet", name := "least", desc := "(IIII)I" } : Jvm.MethodName) ({ cls := "BreathStreet", name := "least", desc := "(IIII)I" } : Jvm.MethodName)) ∈ lw_tbl := List.mem_append_right _ (List.mem_of_getElem? (i := 703) (by decide +kernel))
theorem tw_704 : (Jvm.Cond.code ({ cls := "BreathStreet", name := "least", desc := "(IIII)I" } : Jvm.MethodName) prog_1_method_22_code (5 : Nat) (Option.some Jvm.ClassFile.FieldType.int)) ∈ lw_tbl := List.mem_append_right _ (List.mem_of_getElem? (i := 704) (by decide +kernel))
theorem tw_705 : (Jvm.Cond.methodLink "BreathStreet" (265 : Nat) ({ cls := "BreathStreet$Home", name := "weigh", desc := "(LBreathStreet$Street;LBreathStreet$Moment;II)V" } : Jvm.MethodName)) ∈ lw_tbl := List.mem_append_right _ (List.mem_of_getElem? (i := 705) (by decide +kernel))
theorem tw_706 : (Jvm.Cond.instanceMethod ({ cls := "BreathStreet$Home", name := "weigh", desc := "(LBreathStreet$Street;LBreathStreet$Moment;II)V" } : Jvm.MethodName)) ∈ lw_tbl := List.mem_append_right _ (List.mem_of_getElem? (i := 706) (by decide +kernel))
theorem tw_707 : (Jvm.Cond.selects "BreathStreet$Home" ({ cls := "BreathStreet$Home", name := "weigh", desc := "(LBreathStreet$Street;LBreathStreet$Moment;II)V" } : Jvm.MethodName) ({ cls := "BreathStreet$Home", name := "weigh", desc := "(LBreathStreet$Street;LBreathStreet$Moment;II)V" } : Jvm.MethodName)) ∈ lw_tbl := List.mem_append_right _ (List.mem_of_getElem? (i := 707) (by decide +kernel))
theorem tw_708 : (Jvm.Cond.code ({ cls := "BreathStreet$Home", name := "weigh", desc := "(LBreathStreet$Street;LBreathStreet$Moment;II)V" } : Jvm.MethodName) prog_5_method_3_code (9 : Nat) (Option.none : Option Jvm.ClassFile.FieldType)) ∈ lw_tbl := List.mem_append_right _ (List.mem_of_getElem? (i := 708) (by decide +kernel))
theorem tw_709 : (Jvm.Cond.methodLink "BreathStreet$Home" (45 : Nat) ({ cls := "java/lang/Math", name := "max", desc := "(II)I" } : Jvm.MethodName)) ∈ lw_tbl := List.mem_append_right _ (List.mem_of_getElem? (i := 709) (by decide +kernel))
theorem tw_710 : (Jvm.Cond.constant "BreathStreet$Home" (57 : Nat) (1000000 : Int32)) ∈ lw_tbl := List.mem_append_right _ (List.mem_of_getElem? (i := 710) (by decide +kernel))
theorem tw_711 : (Jvm.Cond.methodLink "BreathStreet$Home" (58 : Nat) ({ cls := "BreathStreet$Home", name := "pulledBy", desc := "(LBreathStreet$Street;LBreathStreet$Moment;III)I" } : Jvm.MethodName)) ∈ lw_tbl := List.mem_append_right _ (List.mem_of_getElem? (i := 711) (by decide +kernel))
theorem tw_712 : (Jvm.Cond.privateMethod ({ cls := "BreathStreet$Home", name := "pulledBy", desc := "(LBreathStreet$Street;LBreathStreet$Moment;III)I" } : Jvm.MethodName)) ∈ lw_tbl := List.mem_append_right _ (List.mem_of_getElem? (i := 712) (by decide +kernel))
theorem tw_713 : (Jvm.Cond.instanceMethod ({ cls := "BreathStreet$Home", name := "pulledBy", desc := "(LBreathStreet$Street;LBreathStreet$Moment;III)I" } : Jvm.MethodName)) ∈ lw_tbl := List.mem_append_right _ (List.mem_of_getElem? (i := 713) (by decide +kernel))
theorem tw_714 : (Jvm.Cond.code ({ cls := "BreathStreet$Home", name := "pulledBy", desc := "(LBreathStreet$Street;LBreathStreet$Moment;III)I" } : Jvm.MethodName) prog_5_method_7_code (8 : Nat) (Option.some Jvm.ClassFile.FieldType.int)) ∈ lw_tbl := List.mem_append_right _ (List.mem_of_getElem? (i := 714) (by decide +kernel))
theorem tw_715 : (Jvm.Cond.methodLinkNest "BreathStreet$Home" (73 : Nat) ({ cls := "BreathStreet", name := "besideOf", desc := "(II)I" } : Jvm.MethodName) "BreathStreet") ∈ lw_tbl := List.mem_append_right _ (List.mem_of_getElem? (i := 715) (by decide +kernel))
theorem tw_716 : (Jvm.Cond.methodLink "BreathStreet$Home" (76 : Nat) ({ cls := "BreathStreet$Ground", name := "has", desc := "(I)Z" } : Jvm.MethodName)) ∈ lw_tbl := List.mem_append_right _ (List.mem_of_getElem? (i := 716) (by decide +kernel))
theorem tw_717 : (Jvm.Cond.methodLink "BreathStreet$Home" (62 : Nat) ({ cls := "BreathStreet$Home", name := "pulledFrom", desc := "(II)I" } : Jvm.MethodName)) ∈ lw_tbl := List.mem_append_right _ (List.mem_of_getElem? (i := 717) (by decide +kernel))
theorem tw_718 : (Jvm.Cond.privateMethod ({ cls := "BreathStreet$Home", name := "pulledFrom", desc := "(II)I" } : Jvm.MethodName)) ∈ lw_tbl := List.mem_append_right _ (List.mem_of_getElem? (i := 718) (by decide +kernel))
theorem tw_719 : (Jvm.Cond.instanceMethod ({ cls := "BreathStreet$Home", name := "pulledFrom", desc := "(II)I" } : Jvm.MethodName)) ∈ lw_tbl := List.mem_append_right _ (List.mem_of_getElem? (i := 719) (by decide +kernel))
theorem tw_720 : (Jvm.Cond.code ({ cls := "BreathStreet$Home", name := "pulledFrom", desc := "(II)I" } : Jvm.MethodName) prog_5_method_8_code (3 : Nat) (Option.some Jvm.ClassFile.FieldType.int)) ∈ lw_tbl := List.mem_append_right _ (List.mem_of_getElem? (i := 720) (by decide +kernel))
theorem tw_721 : (Jvm.Cond.methodLinkNest "BreathStreet$Home" (87 : Nat) ({ cls := "BreathStreet", name := "isOutside", desc := "(III)Z" } : Jvm.MethodName) "BreathStreet") ∈ lw_tbl := List.mem_append_right _ (List.mem_of_getElem? (i := 721) (by decide +kernel))
theorem tw_722 : (Jvm.Cond.methodLink "BreathStreet$Home" (83 : Nat) ({ cls := "BreathStreet$Ground", name := "climb", desc := "(III)I" } : Jvm.MethodName)) ∈ lw_tbl := List.mem_append_right _ (List.mem_of_getElem? (i := 722) (by decide +kernel))
theorem tw_723 : (Jvm.Cond.methodLink "BreathStreet" (269 : Nat) ({ cls := "BreathStreet$Home", name := "leastPulled", desc := "(I)I" } : Jvm.MethodName)) ∈ lw_tbl := List.mem_append_right _ (List.mem_of_getElem? (i := 723) (by decide +kernel))
theorem tw_724 : (Jvm.Cond.instanceMethod ({ cls := "BreathStreet$Home", name := "leastPulled", desc := "(I)I" } : Jvm.MethodName)) ∈ lw_tbl := List.mem_append_right _ (List.mem_of_getElem? (i := 724) (by decide +kernel))
theorem tw_725 : (Jvm.Cond.selects "BreathStreet$Home" ({ cls := "BreathStreet$Home", name := "leastPulled", desc := "(I)I" } : Jvm.MethodName) ({ cls := "BreathStreet$Home", name := "leastPulled", desc := "(I)I" } : Jvm.MethodName)) ∈ lw_tbl := List.mem_append_right _ (List.mem_of_getElem? (i := 725) (by decide +kernel))
theorem tw_726 : (Jvm.Cond.code ({ cls := "BreathStreet$Home", name := "leastPulled", desc := "(I)I" } : Jvm.MethodName) prog_5_method_4_code (3 : Nat) (Option.some Jvm.ClassFile.FieldType.int)) ∈ lw_tbl := List.mem_append_right _ (List.mem_of_getElem? (i := 726) (by decide +kernel))
theorem tw_727 : (Jvm.Cond.methodLink "BreathStreet" (272 : Nat) ({ cls := "BreathStreet$Home", name := "leastWay", desc := "(LBreathStreet$Street;LBreathStreet$Moment;II)I" } : Jvm.MethodName)) ∈ lw_tbl := List.mem_append_right _ (List.mem_of_getElem? (i := 727) (by decide +kernel))
theorem tw_728 : (Jvm.Cond.instanceMethod ({ cls := "BreathStreet$Home", name := "leastWay", desc := "(LBreathStreet$Street;LBreathStreet$Moment;II)I" } : Jvm.MethodName)) ∈ lw_tbl := List.mem_append_right _ (List.mem_of_getElem? (i := 728) (by decide +kernel))
theorem tw_729 : (Jvm.Cond.selects "BreathStreet$Home" ({ cls := "BreathStreet$Home", name := "leastWay", desc := "(LBreathStreet$Street;LBreathStreet$Moment;II)I" } : Jvm.MethodName) ({ cls := "BreathStreet$Home", name := "leastWay", desc := "(LBreathStreet$Street;LBreathStreet$Moment;II)I" } : Jvm.MethodName)) ∈ lw_tbl := List.mem_append_right _ (List.mem_of_getElem? (i := 729) (by decide +kernel))
theorem tw_730 : (Jvm.Cond.code ({ cls := "BreathStreet$Home", name := "leastWay", desc := "(LBreathStreet$Street;LBreathStreet$Moment;II)I" } : Jvm.MethodName) prog_5_method_5_code (8 : Nat) (Option.some Jvm.ClassFile.FieldType.int)) ∈ lw_tbl := List.mem_append_right _ (List.mem_of_getElem? (i := 730) (by decide +kernel))
theorem tw_731 : (Jvm.Cond.methodLink "BreathStreet$Home" (65 : Nat) ({ cls := "BreathStreet$Home", name := "leastPulled", desc := "(I)I" } : Jvm.MethodName)) ∈ lw_tbl := List.mem_append_right _ (List.mem_of_getElem? (i := 731) (by decide +kernel))
theorem tw_732 : (Jvm.Cond.methodLink "BreathStreet$Home" (69 : Nat) ({ cls := "BreathStreet$Home", name := "firstBest", desc := "(LBreathStreet$Street;LBreathStreet$Moment;II)I" } : Jvm.MethodName)) ∈ lw_tbl := List.mem_append_right _ (List.mem_of_getElem? (i := 732) (by decide +kernel))
theorem tw_733 : (Jvm.Cond.privateMethod ({ cls := "BreathStreet$Home", name := "firstBest", desc := "(LBreathStreet$Street;LBreathStreet$Moment;II)I" } : Jvm.MethodName)) ∈ lw_tbl := List.mem_append_right _ (List.mem_of_getElem? (i := 733) (by decide +kernel))
theorem tw_734 : (Jvm.Cond.instanceMethod ({ cls := "BreathStreet$Home", name := "firstBest", desc := "(LBreathStreet$Street;LBreathStreet$Moment;II)I" } : Jvm.MethodName)) ∈ lw_tbl := List.mem_append_right _ (List.mem_of_getElem? (i := 734) (by decide +kernel))
theorem tw_735 : (Jvm.Cond.code ({ cls := "BreathStreet$Home", name := "firstBest", desc := "(LBreathStreet$Street;LBreathStreet$Moment;II)I" } : Jvm.MethodName) prog_5_method_6_code (7 : Nat) (Option.some Jvm.ClassFile.FieldType.int)) ∈ lw_tbl := List.mem_append_right _ (List.mem_of_getElem? (i := 735) (by decide +kernel))
theorem tw_736 : (Jvm.Cond.methodLink "BreathStreetLaw" (101 : Nat) ({ cls := "BreathStreet", name := "open", desc := "(I)I" } : Jvm.MethodName)) ∈ lw_tbl := List.mem_append_right _ (List.mem_of_getElem? (i := 736) (by decide +kernel))
theorem tw_737 : (Jvm.Cond.instanceMethod ({ cls := "BreathStreet", name := "open", desc := "(I)I" } : Jvm.MethodName)) ∈ lw_tbl := List.mem_append_right _ (List.mem_of_getElem? (i := 737) (by decide +kernel))
theorem tw_738 : (Jvm.Cond.selects "BreathStreet" ({ cls := "BreathStreet", name := "open", desc := "(I)I" } : Jvm.MethodName) ({ cls := "BreathStreet", name := "open", desc := "(I)I" } : Jvm.MethodName)) ∈ lw_tbl := List.mem_append_right _ (List.mem_of_getElem? (i := 738) (by decide +kernel))
theorem tw_739 : (Jvm.Cond.code ({ cls := "BreathStreet", name := "open", desc := "(I)I" } : Jvm.MethodName) prog_1_method_23_code (2 : Nat) (Option.some Jvm.ClassFile.FieldType.int)) ∈ lw_tbl := List.mem_append_right _ (List.mem_of_getElem? (i := 739) (by decide +kernel))
theorem tw_740 : (Jvm.Cond.methodLink "BreathStreet" (275 : Nat) ({ cls := "BreathStreet$Seams", name := "hasAll", desc := "(I)Z" } : Jvm.MethodName)) ∈ lw_tbl := List.mem_append_right _ (List.mem_of_getElem? (i := 740) (by decide +kernel))
theorem tw_741 : (Jvm.Cond.instanceMethod ({ cls := "BreathStreet$Seams", name := "hasAll", desc := "(I)Z" } : Jvm.MethodName)) ∈ lw_tbl := List.mem_append_right _ (List.mem_of_getElem? (i := 741) (by decide +kernel))
theorem tw_742 : (Jvm.Cond.selects "BreathStreet$Seams" ({ cls := "BreathStreet$Seams", name := "hasAll", desc := "(I)Z" } : Jvm.MethodName) ({ cls := "BreathStreet$Seams", name := "hasAll", desc := "(I)Z" } : Jvm.MethodName)) ∈ lw_tbl := List.mem_append_right _ (List.mem_of_getElem? (i := 742) (by decide +kernel))
theorem tw_743 : (Jvm.Cond.code ({ cls := "BreathStreet$Seams", name := "hasAll", desc := "(I)Z" } : Jvm.MethodName) prog_8_method_3_code (2 : Nat) (Option.some Jvm.ClassFile.FieldType.boolean)) ∈ lw_tbl := List.mem_append_right _ (List.mem_of_getElem? (i := 743) (by decide +kernel))
theorem tw_744 : (Jvm.Cond.methodLink "BreathStreet" (278 : Nat) ({ cls := "BreathStreet$Seams", name := "waitFor", desc := "(II)I" } : Jvm.MethodName)) ∈ lw_tbl := List.mem_append_right _ (List.mem_of_getElem? (i := 744) (by decide +kernel))
theorem tw_745 : (Jvm.Cond.instanceMethod ({ cls := "BreathStreet$Seams", name := "waitFor", desc := "(II)I" } : Jvm.MethodName)) ∈ lw_tbl := List.mem_append_right _ (List.mem_of_getElem? (i := 745) (by decide +kernel))
theorem tw_746 : (Jvm.Cond.selects "BreathStreet$Seams" ({ cls := "BreathStreet$Seams", name := "waitFor", desc := "(II)I" } : Jvm.MethodName) ({ cls := "BreathStreet$Seams", name := "waitFor", desc := "(II)I" } : Jvm.MethodName)) ∈ lw_tbl := List.mem_append_right _ (List.mem_of_getElem? (i := 746) (by decide +kernel))
theorem tw_747 : (Jvm.Cond.code ({ cls := "BreathStreet$Seams", name := "waitFor", desc := "(II)I" } : Jvm.MethodName) prog_8_method_12_code (6 : Nat) (Option.some Jvm.ClassFile.FieldType.int)) ∈ lw_tbl := List.mem_append_right _ (List.mem_of_getElem? (i := 747) (by decide +kernel))
theorem tw_748 : (Jvm.Cond.methodLink "BreathStreet$Seams" (54 : Nat) ({ cls := "BreathStreet$Seams", name := "roundOf", desc := "(I)I" } : Jvm.MethodName)) ∈ lw_tbl := List.mem_append_right _ (List.mem_of_getElem? (i := 748) (by decide +kernel))
theorem tw_749 : (Jvm.Cond.privateMethod ({ cls := "BreathStreet$Seams", name := "roundOf", desc := "(I)I" } : Jvm.MethodName)) ∈ lw_tbl := List.mem_append_right _ (List.mem_of_getElem? (i := 749) (by decide +kernel))
theorem tw_750 : (Jvm.Cond.instanceMethod ({ cls := "BreathStreet$Seams", name := "roundOf", desc := "(I)I" } : Jvm.MethodName)) ∈ lw_tbl := List.mem_append_right _ (List.mem_of_getElem? (i := 750) (by decide +kernel))
theorem tw_751 : (Jvm.Cond.code ({ cls := "BreathStreet$Seams", name := "roundOf", desc := "(I)I" } : Jvm.MethodName) prog_8_method_9_code (4 : Nat) (Option.some Jvm.ClassFile.FieldType.int)) ∈ lw_tbl := List.mem_append_right _ (List.mem_of_getElem? (i := 751) (by decide +kernel))
theorem tw_752 : (Jvm.Cond.methodLinkNest "BreathStreet$Seams" (45 : Nat) ({ cls := "BreathStreet", name := "leastCommon", desc := "(II)I" } : Jvm.MethodName) "BreathStreet") ∈ lw_tbl := List.mem_append_right _ (List.mem_of_getElem? (i := 752) (by decide +kernel))
theorem tw_753 : (Jvm.Cond.methodLink "BreathStreet$Seams" (58 : Nat) ({ cls := "BreathStreet$Seams", name := "someShutFor", desc := "(II)I" } : Jvm.MethodName)) ∈ lw_tbl := List.mem_append_right _ (List.mem_of_getElem? (i := 753) (by decide +kernel))
theorem tw_754 : (Jvm.Cond.privateMethod ({ cls := "BreathStreet$Seams", name := "someShutFor", desc := "(II)I" } : Jvm.MethodName)) ∈ lw_tbl := List.mem_append_right _ (List.mem_of_getElem? (i := 754) (by decide +kernel))
theorem tw_755 : (Jvm.Cond.instanceMethod ({ cls := "BreathStreet$Seams", name := "someShutFor", desc := "(II)I" } : Jvm.MethodName)) ∈ lw_tbl := List.mem_append_right _ (List.mem_of_getElem? (i := 755) (by decide +kernel))
theorem tw_756 : (Jvm.Cond.code ({ cls := "BreathStreet$Seams", name := "someShutFor", desc := "(II)I" } : Jvm.MethodName) prog_8_method_11_code (5 : Nat) (Option.some Jvm.ClassFile.FieldType.int)) ∈ lw_tbl := List.mem_append_right _ (List.mem_of_getElem? (i := 756) (by decide +kernel))
theorem tw_757 : (Jvm.Cond.methodLink "BreathStreet$Seams" (51 : Nat) ({ cls := "BreathStreet$Seams", name := "staysShut", desc := "(II)I" } : Jvm.MethodName)) ∈ lw_tbl := List.mem_append_right _ (List.mem_of_getElem? (i := 757) (by decide +kernel))
theorem tw_758 : (Jvm.Cond.privateMethod ({ cls := "BreathStreet$Seams", name := "staysShut", desc := "(II)I" } : Jvm.MethodName)) ∈ lw_tbl := List.mem_append_right _ (List.mem_of_getElem? (i := 758) (by decide +kernel))
theorem tw_759 : (Jvm.Cond.instanceMethod ({ cls := "BreathStreet$Seams", name := "staysShut", desc := "(II)I" } : Jvm.MethodName)) ∈ lw_tbl := List.mem_append_right _ (List.mem_of_getElem? (i := 759) (by decide +kernel))
theorem tw_760 : (Jvm.Cond.code ({ cls := "BreathStreet$Seams", name := "staysShut", desc := "(II)I" } : Jvm.MethodName) prog_8_method_6_code (3 : Nat) (Option.some Jvm.ClassFile.FieldType.int)) ∈ lw_tbl := List.mem_append_right _ (List.mem_of_getElem? (i := 760) (by decide +kernel))
theorem tw_761 : (Jvm.Cond.methodLink "BreathStreetLaw" (105 : Nat) ({ cls := "BreathStreet", name := "longest", desc := "(I)I" } : Jvm.MethodName)) ∈ lw_tbl := List.mem_append_right _ (List.mem_of_getElem? (i := 761) (by decide +kernel))
theorem tw_762 : (Jvm.Cond.instanceMethod ({ cls := "BreathStreet", name := "longest", desc := "(I)I" } : Jvm.MethodName)) ∈ lw_tbl := List.mem_append_right _ (List.mem_of_getElem? (i := 762) (by decide +kernel))
theorem tw_763 : (Jvm.Cond.selects "BreathStreet" ({ cls := "BreathStreet", name := "longest", desc := "(I)I" } : Jvm.MethodName) ({ cls := "BreathStreet", name := "longest", desc := "(I)I" } : Jvm.MethodName)) ∈ lw_tbl := List.mem_append_right _ (List.mem_of_getElem? (i := 763) (by decide +kernel))
theorem tw_764 : (Jvm.Cond.code ({ cls := "BreathStreet", name := "longest", desc := "(I)I" } : Jvm.MethodName) prog_1_method_24_code (2 : Nat) (Option.some Jvm.ClassFile.FieldType.int)) ∈ lw_tbl := List.mem_append_right _ (List.mem_of_getElem? (i := 764) (by decide +kernel))
theorem tw_765 : (Jvm.Cond.methodLink "BreathStreet" (281 : Nat) ({ cls := "BreathStreet$Seams", name := "longestRun", desc := "(I)I" } : Jvm.MethodName)) ∈ lw_tbl := List.mem_append_right _ (List.mem_of_getElem? (i := 765) (by decide +kernel))
theorem tw_766 : (Jvm.Cond.instanceMethod ({ cls := "BreathStreet$Seams", name := "longestRun", desc := "(I)I" } : Jvm.MethodName)) ∈ lw_tbl := List.mem_append_right _ (List.mem_of_getElem? (i := 766) (by decide +kernel))
theorem tw_767 : (Jvm.Cond.selects "BreathStreet$Seams" ({ cls := "BreathStreet$Seams", name := "longestRun", desc := "(I)I" } : Jvm.MethodName) ({ cls := "BreathStreet$Seams", name := "longestRun", desc := "(I)I" } : Jvm.MethodName)) ∈ lw_tbl := List.mem_append_right _ (List.mem_of_getElem? (i := 767) (by decide +kernel))
theorem tw_768 : (Jvm.Cond.code ({ cls := "BreathStreet$Seams", name := "longestRun", desc := "(I)I" } : Jvm.MethodName) prog_8_method_13_code (6 : Nat) (Option.some Jvm.ClassFile.FieldType.int)) ∈ lw_tbl := List.mem_append_right _ (List.mem_of_getElem? (i := 768) (by decide +kernel))
theorem tw_769 : (Jvm.Cond.methodLink "BreathStreet$Seams" (61 : Nat) ({ cls := "BreathStreet$Seams", name := "allOpenFor", desc := "(II)I" } : Jvm.MethodName)) ∈ lw_tbl := List.mem_append_right _ (List.mem_of_getElem? (i := 769) (by decide +kernel))
theorem tw_770 : (Jvm.Cond.privateMethod ({ cls := "BreathStreet$Seams", name := "allOpenFor", desc := "(II)I" } : Jvm.MethodName)) ∈ lw_tbl := List.mem_append_right _ (List.mem_of_getElem? (i := 770) (by decide +kernel))
theorem tw_771 : (Jvm.Cond.instanceMethod ({ cls := "BreathStreet$Seams", name := "allOpenFor", desc := "(II)I" } : Jvm.MethodName)) ∈ lw_tbl := List.mem_append_right _ (List.mem_of_getElem? (i := 771) (by decide +kernel))
theorem tw_772 : (Jvm.Cond.code ({ cls := "BreathStreet$Seams", name := "allOpenFor", desc := "(II)I" } : Jvm.MethodName) prog_8_method_10_code (5 : Nat) (Option.some Jvm.ClassFile.FieldType.int)) ∈ lw_tbl := List.mem_append_right _ (List.mem_of_getElem? (i := 772) (by decide +kernel))
theorem tw_773 : (Jvm.Cond.methodLink "BreathStreet$Seams" (48 : Nat) ({ cls := "java/lang/Math", name := "min", desc := "(II)I" } : Jvm.MethodName)) ∈ lw_tbl := List.mem_append_right _ (List.mem_of_getElem? (i := 773) (by decide +kernel))
theorem tw_774 : (Jvm.Cond.methodLink "BreathStreetLaw" (109 : Nat) ({ cls := "BreathStreet", name := "hear", desc := "(II)I" } : Jvm.MethodName)) ∈ lw_tbl := List.mem_append_right _ (List.mem_of_getElem? (i := 774) (by decide +kernel))
theorem tw_775 : (Jvm.Cond.instanceMethod ({ cls := "BreathStreet", name := "hear", desc := "(II)I" } : Jvm.MethodName)) ∈ lw_tbl := List.mem_append_right _ (List.mem_of_getElem? (i := 775) (by decide +kernel))
theorem tw_776 : (Jvm.Cond.selects "BreathStreet" ({ cls := "BreathStreet", name := "hear", desc := "(II)I" } : Jvm.MethodName) ({ cls := "BreathStreet", name := "hear", desc := "(II)I" } : Jvm.MethodName)) ∈ lw_tbl := List.mem_append_right _ (List.mem_of_getElem? (i := 776) (by decide +kernel))
theorem tw_777 : (Jvm.Cond.code ({ cls := "BreathStreet", name := "hear", desc := "(II)I" } : Jvm.MethodName) prog_1_method_25_code (3 : Nat) (Option.some Jvm.ClassFile.FieldType.int)) ∈ lw_tbl := List.mem_append_right _ (List.mem_of_getElem? (i := 777) (by decide +kernel))
theorem tw_778 : (Jvm.Cond.methodLink "BreathStreet" (284 : Nat) ({ cls := "BreathStreet$Cough", name := "note", desc := "(II)I" } : Jvm.MethodName)) ∈ lw_tbl := List.mem_append_right _ (List.mem_of_getElem? (i := 778) (by decide +kernel))
theorem tw_779 : (Jvm.Cond.instanceMethod ({ cls := "BreathStreet$Cough", name := "note", desc := "(II)I" } : Jvm.MethodName)) ∈ lw_tbl := List.mem_append_right _ (List.mem_of_getElem? (i := 779) (by decide +kernel))
theorem tw_780 : (Jvm.Cond.selects "BreathStreet$Cough" ({ cls := "BreathStreet$Cough", name := "note", desc := "(II)I" } : Jvm.MethodName) ({ cls := "BreathStreet$Cough", name := "note", desc := "(II)I" } : Jvm.MethodName)) ∈ lw_tbl := List.mem_append_right _ (List.mem_of_getElem? (i := 780) (by decide +kernel))
theorem tw_781 : (Jvm.Cond.code ({ cls := "BreathStreet$Cough", name := "note", desc := "(II)I" } : Jvm.MethodName) prog_3_method_2_code (3 : Nat) (Option.some Jvm.ClassFile.FieldType.int)) ∈ lw_tbl := List.mem_append_right _ (List.mem_of_getElem? (i := 781) (by decide +kernel))
theorem tw_782 : (Jvm.Cond.methodLink "BreathStreetLaw" (113 : Nat) ({ cls := "BreathStreet", name := "began", desc := "(I)I" } : Jvm.MethodName)) ∈ lw_tbl := List.mem_append_right _ (List.mem_of_getElem? (i := 782) (by decide +kernel))
theorem tw_783 : (Jvm.Cond.instanceMethod ({ cls := "BreathStreet", name := "began", desc := "(I)I" } : Jvm.MethodName)) ∈ lw_tbl := List.mem_append_right _ (List.mem_of_getElem? (i := 783) (by decide +kernel))
theorem tw_784 : (Jvm.Cond.selects "BreathStreet" ({ cls := "BreathStreet", name := "began", desc := "(I)I" } : Jvm.MethodName) ({ cls := "BreathStreet", name := "began", desc := "(I)I" } : Jvm.MethodName)) ∈ lw_tbl := List.mem_append_right _ (List.mem_of_getElem? (i := 784) (by decide +kernel))
theorem tw_785 : (Jvm.Cond.code ({ cls := "BreathStreet", name := "began", desc := "(I)I" } : Jvm.MethodName) prog_1_method_26_code (3 : Nat) (Option.some Jvm.ClassFile.FieldType.int)) ∈ lw_tbl := List.mem_append_right _ (List.mem_of_getElem? (i := 785) (by decide +kernel))
theorem tw_786 : (Jvm.Cond.methodLink "BreathStreet" (286 : Nat) ({ cls := "BreathStreet$Cough", name := "gather", desc := "(I)I" } : Jvm.MethodName)) ∈ lw_tbl := List.mem_append_right _ (List.mem_of_getElem? (i := 786) (by decide +kernel))
theorem tw_787 : (Jvm.Cond.instanceMethod ({ cls := "BreathStreet$Cough", name := "gather", desc := "(I)I" } : Jvm.MethodName)) ∈ lw_tbl := List.mem_append_right _ (List.mem_of_getElem? (i := 787) (by decide +kernel))
theorem tw_788 : (Jvm.Cond.selects "BreathStreet$Cough" ({ cls := "BreathStreet$Cough", name := "gather", desc := "(I)I" } : Jvm.MethodName) ({ cls := "BreathStreet$Cough", name := "gather", desc := "(I)I" } : Jvm.MethodName)) ∈ lw_tbl := List.mem_append_right _ (List.mem_of_getElem? (i := 788) (by decide +kernel))
theorem tw_789 : (Jvm.Cond.code ({ cls := "BreathStreet$Cough", name := "gather", desc := "(I)I" } : Jvm.MethodName) prog_3_method_3_code (5 : Nat) (Option.some Jvm.ClassFile.FieldType.int)) ∈ lw_tbl := List.mem_append_right _ (List.mem_of_getElem? (i := 789) (by decide +kernel))
theorem tw_790 : (Jvm.Cond.methodLink "BreathStreet$Cough" (28 : Nat) ({ cls := "BreathStreet$Cough", name := "explains", desc := "(II)Z" } : Jvm.MethodName)) ∈ lw_tbl := List.mem_append_right _ (List.mem_of_getElem? (i := 790) (by decide +kernel))
theorem tw_791 : (Jvm.Cond.privateMethod ({ cls := "BreathStreet$Cough", name := "explains", desc := "(II)Z" } : Jvm.MethodName)) ∈ lw_tbl := List.mem_append_right _ (List.mem_of_getElem? (i := 791) (by decide +kernel))
theorem tw_792 : (Jvm.Cond.instanceMethod ({ cls := "BreathStreet$Cough", name := "explains", desc := "(II)Z" } : Jvm.MethodName)) ∈ lw_tbl := List.mem_append_right _ (List.mem_of_getElem? (i := 792) (by decide +kernel))
theorem tw_793 : (Jvm.Cond.code ({ cls := "BreathStreet$Cough", name := "explains", desc := "(II)Z" } : Jvm.MethodName) prog_3_method_4_code (4 : Nat) (Option.some Jvm.ClassFile.FieldType.boolean)) ∈ lw_tbl := List.mem_append_right _ (List.mem_of_getElem? (i := 793) (by decide +kernel))
theorem tw_794 : (Jvm.Cond.methodLink "BreathStreet$Cough" (32 : Nat) ({ cls := "java/lang/Math", name := "abs", desc := "(I)I" } : Jvm.MethodName)) ∈ lw_tbl := List.mem_append_right _ (List.mem_of_getElem? (i := 794) (by decide +kernel))
theorem tw_795 : (Jvm.Cond.methodLink "BreathStreetLaw" (117 : Nat) ({ cls := "BreathStreet", name := "watch", desc := "()I" } : Jvm.MethodName)) ∈ lw_tbl := List.mem_append_right _ (List.mem_of_getElem? (i := 795) (by decide +kernel))
theorem tw_796 : (Jvm.Cond.instanceMethod ({ cls := "BreathStreet", name := "watch", desc := "()I" } : Jvm.MethodName)) ∈ lw_tbl := List.mem_append_right _ (List.mem_of_getElem? (i := 796) (by decide +kernel))
theorem tw_797 : (Jvm.Cond.selects "BreathStreet" ({ cls := "BreathStreet", name := "watch", desc := "()I" } : Jvm.MethodName) ({ cls := "BreathStreet", name := "watch", desc := "()I" } : Jvm.MethodName)) ∈ lw_tbl := List.mem_append_right _ (List.mem_of_getElem? (i := 797) (by decide +kernel))
theorem tw_798 : (Jvm.Cond.code ({ cls := "BreathStreet", name := "watch", desc := "()I" } : Jvm.MethodName) prog_1_method_27_code (2 : Nat) (Option.some Jvm.ClassFile.FieldType.int)) ∈ lw_tbl := List.mem_append_right _ (List.mem_of_getElem? (i := 798) (by decide +kernel))
theorem tw_799 : (Jvm.Cond.methodLink "BreathStreet" (292 : Nat) ({ cls := "BreathStreet$Cough", name := "bestWatch", desc := "(II)I" } : Jvm.MethodName)) ∈ lw_tbl := List.mem_append_right _ (List.mem_of_getElem? (i := 799) (by decide +kernel))
theorem tw_800 : (Jvm.Cond.instanceMethod ({ cls := "BreathStreet$Cough", name := "bestWatch", desc := "(II)I" } : Jvm.MethodName)) ∈ lw_tbl := List.mem_append_right _ (List.mem_of_getElem? (i := 800) (by decide +kernel))
theorem tw_801 : (Jvm.Cond.selects "BreathStreet$Cough" ({ cls := "BreathStreet$Cough", name := "bestWatch", desc := "(II)I" } : Jvm.MethodName) ({ cls := "BreathStreet$Cough", name := "bestWatch", desc := "(II)I" } : Jvm.MethodName)) ∈ lw_tbl := List.mem_append_right _ (List.mem_of_getElem? (i := 801) (by decide +kernel))
theorem tw_802 : (Jvm.Cond.code ({ cls := "BreathStreet$Cough", name := "bestWatch", desc := "(II)I" } : Jvm.MethodName) prog_3_method_5_code (7 : Nat) (Option.some Jvm.ClassFile.FieldType.int)) ∈ lw_tbl := List.mem_append_right _ (List.mem_of_getElem? (i := 802) (by decide +kernel))
theorem tw_803 : (Jvm.Cond.methodLink "BreathStreet$Cough" (38 : Nat) ({ cls := "BreathStreet$Cough", name := "greatestPart", desc := "(II)I" } : Jvm.MethodName)) ∈ lw_tbl := List.mem_append_right _ (List.mem_of_getElem? (i := 803) (by decide +kernel))
theorem tw_804 : (Jvm.Cond.privateMethod ({ cls := "BreathStreet$Cough", name := "greatestPart", desc := "(II)I" } : Jvm.MethodName)) ∈ lw_tbl := List.mem_append_right _ (List.mem_of_getElem? (i := 804) (by decide +kernel))
theorem tw_805 : (Jvm.Cond.instanceMethod ({ cls := "BreathStreet$Cough", name := "greatestPart", desc := "(II)I" } : Jvm.MethodName)) ∈ lw_tbl := List.mem_append_right _ (List.mem_of_getElem? (i := 805) (by decide +kernel))
theorem tw_806 : (Jvm.Cond.code ({ cls := "BreathStreet$Cough", name := "greatestPart", desc := "(II)I" } : Jvm.MethodName) prog_3_method_6_code (6 : Nat) (Option.some Jvm.ClassFile.FieldType.int)) ∈ lw_tbl := List.mem_append_right _ (List.mem_of_getElem? (i := 806) (by decide +kernel))
theorem tw_807 : (Jvm.Cond.methodLink "BreathStreet$Cough" (42 : Nat) ({ cls := "java/lang/Math", name := "max", desc := "(II)I" } : Jvm.MethodName)) ∈ lw_tbl := List.mem_append_right _ (List.mem_of_getElem? (i := 807) (by decide +kernel))
theorem tw_808 : (Jvm.Cond.methodLink "BreathStreetLaw" (121 : Nat) ({ cls := "BreathStreet", name := "see", desc := "(III)I" } : Jvm.MethodName)) ∈ lw_tbl := List.mem_append_right _ (List.mem_of_getElem? (i := 808) (by decide +kernel))
theorem tw_809 : (Jvm.Cond.instanceMethod ({ cls := "BreathStreet", name := "see", desc := "(III)I" } : Jvm.MethodName)) ∈ lw_tbl := List.mem_append_right _ (List.mem_of_getElem? (i := 809) (by decide +kernel))
theorem tw_810 : (Jvm.Cond.selects "BreathStreet" ({ cls := "BreathStreet", name := "see", desc := "(III)I" } : Jvm.MethodName) ({ cls := "BreathStreet", name := "see", desc := "(III)I" } : Jvm.MethodName)) ∈ lw_tbl := List.mem_append_right _ (List.mem_of_getElem? (i := 810) (by decide +kernel))
theorem tw_811 : (Jvm.Cond.code ({ cls := "BreathStreet", name := "see", desc := "(III)I" } : Jvm.MethodName) prog_1_method_28_code (4 : Nat) (Option.some Jvm.ClassFile.FieldType.int)) ∈ lw_tbl := List.mem_append_right _ (List.mem_of_getElem? (i := 811) (by decide +kernel))
theorem tw_812 : (Jvm.Cond.methodLink "BreathStreet" (295 : Nat) ({ cls := "BreathStreet$Sights", name := "note", desc := "(III)I" } : Jvm.MethodName)) ∈ lw_tbl := List.mem_append_right _ (List.mem_of_getElem? (i := 812) (by decide +kernel))
theorem tw_813 : (Jvm.Cond.instanceMethod ({ cls := "BreathStreet$Sights", name := "note", desc := "(III)I" } : Jvm.MethodName)) ∈ lw_tbl := List.mem_append_right _ (List.mem_of_getElem? (i := 813) (by decide +kernel))
theorem tw_814 : (Jvm.Cond.selects "BreathStreet$Sights" ({ cls := "BreathStreet$Sights", name := "note", desc := "(III)I" } : Jvm.MethodName) ({ cls := "BreathStreet$Sights", name := "note", desc := "(III)I" } : Jvm.MethodName)) ∈ lw_tbl := List.mem_append_right _ (List.mem_of_getElem? (i := 814) (by decide +kernel))
theorem tw_815 : (Jvm.Cond.code ({ cls := "BreathStreet$Sights", name := "note", desc := "(III)I" } : Jvm.MethodName) prog_9_method_2_code (4 : Nat) (Option.some Jvm.ClassFile.FieldType.int)) ∈ lw_tbl := List.mem_append_right _ (List.mem_of_getElem? (i := 815) (by decide +kernel))
theorem tw_816 : (Jvm.Cond.methodLink "BreathStreetLaw" (126 : Nat) ({ cls := "BreathStreet", name := "rounds", desc := "(II)I" } : Jvm.MethodName)) ∈ lw_tbl := List.mem_append_right _ (List.mem_of_getElem? (i := 816) (by decide +kernel))
theorem tw_817 : (Jvm.Cond.instanceMethod ({ cls := "BreathStreet", name := "rounds", desc := "(II)I" } : Jvm.MethodName)) ∈ lw_tbl := List.mem_append_right _ (List.mem_of_getElem? (i := 817) (by decide +kernel))
theorem tw_818 : (Jvm.Cond.selects "BreathStreet" ({ cls := "BreathStreet", name := "rounds", desc := "(II)I" } : Jvm.MethodName) ({ cls := "BreathStreet", name := "rounds", desc := "(II)I" } : Jvm.MethodName)) ∈ lw_tbl := List.mem_append_right _ (List.mem_of_getElem? (i := 818) (by decide +kernel))
theorem tw_819 : (Jvm.Cond.code ({ cls := "BreathStreet", name := "rounds", desc := "(II)I" } : Jvm.MethodName) prog_1_method_29_code (3 : Nat) (Option.some Jvm.ClassFile.FieldType.int)) ∈ lw_tbl := List.mem_append_right _ (List.mem_of_getElem? (i := 819) (by decide +kernel))
theorem tw_820 : (Jvm.Cond.methodLink "BreathStreet" (297 : Nat) ({ cls := "BreathStreet$Sights", name := "countTurns", desc := "(LBreathStreet$Ground;I)I" } : Jvm.MethodName)) ∈ lw_tbl := List.mem_append_right _ (List.mem_of_getElem? (i := 820) (by decide +kernel))
theorem tw_821 : (Jvm.Cond.instanceMethod ({ cls := "BreathStreet$Sights", name := "countTurns", desc := "(LBreathStreet$Ground;I)I" } : Jvm.MethodName)) ∈ lw_tbl := List.mem_append_right _ (List.mem_of_getElem? (i := 821) (by decide +kernel))
theorem tw_822 : (Jvm.Cond.selects "BreathStreet$Sights" ({ cls := "BreathStreet$Sights", name := "countTurns", desc := "(LBreathStreet$Ground;I)I" } : Jvm.MethodName) ({ cls := "BreathStreet$Sights", name := "countTurns", desc := "(LBreathStreet$Ground;I)I" } : Jvm.MethodName)) ∈ lw_tbl := List.mem_append_right _ (List.mem_of_getElem? (i := 822) (by decide +kernel))
theorem tw_823 : (Jvm.Cond.code ({ cls := "BreathStreet$Sights", name := "countTurns", desc := "(LBreathStreet$Ground;I)I" } : Jvm.MethodName) prog_9_method_3_code (6 : Nat) (Option.some Jvm.ClassFile.FieldType.int)) ∈ lw_tbl := List.mem_append_right _ (List.mem_of_getElem? (i := 823) (by decide +kernel))
theorem tw_824 : (Jvm.Cond.methodLink "BreathStreet$Sights" (25 : Nat) ({ cls := "BreathStreet$Sights", name := "explains", desc := "(LBreathStreet$Ground;III)Z" } : Jvm.MethodName)) ∈ lw_tbl := List.mem_append_right _ (List.mem_of_getElem? (i := 824) (by decide +kernel))
theorem tw_825 : (Jvm.Cond.privateMethod ({ cls := "BreathStreet$Sights", name := "explains", desc := "(LBreathStreet$Ground;III)Z" } : Jvm.MethodName)) ∈ lw_tbl := List.mem_append_right _ (List.mem_of_getElem? (i := 825) (by decide +kernel))
theorem tw_826 : (Jvm.Cond.instanceMethod ({ cls := "BreathStreet$Sights", name := "explains", desc := "(LBreathStreet$Ground;III)Z" } : Jvm.MethodName)) ∈ lw_tbl := List.mem_append_right _ (List.mem_of_getElem? (i := 826) (by decide +kernel))
theorem tw_827 : (Jvm.Cond.code ({ cls := "BreathStreet$Sights", name := "explains", desc := "(LBreathStreet$Ground;III)Z" } : Jvm.MethodName) prog_9_method_5_code (7 : Nat) (Option.some Jvm.ClassFile.FieldType.boolean)) ∈ lw_tbl := List.mem_append_right _ (List.mem_of_getElem? (i := 827) (by decide +kernel))
theorem tw_828 : (Jvm.Cond.methodLink "BreathStreet$Sights" (29 : Nat) ({ cls := "BreathStreet$Ground", name := "has", desc := "(I)Z" } : Jvm.MethodName)) ∈ lw_tbl := List.mem_append_right _ (List.mem_of_getElem? (i := 828) (by decide +kernel))
theorem tw_829 : (Jvm.Cond.methodLinkNest "BreathStreet$Sights" (41 : Nat) ({ cls := "BreathStreet", name := "swell", desc := "(II)I" } : Jvm.MethodName) "BreathStreet") ∈ lw_tbl := List.mem_append_right _ (List.mem_of_getElem? (i := 829) (by decide +kernel))
theorem tw_830 : (Jvm.Cond.methodLink "BreathStreet" (301 : Nat) ({ cls := "BreathStreet$Sights", name := "findTurn", desc := "(LBreathStreet$Ground;II)I" } : Jvm.MethodName)) ∈ lw_tbl := List.mem_append_right _ (List.mem_of_getElem? (i := 830) (by decide +kernel))
theorem tw_831 : (Jvm.Cond.instanceMethod ({ cls := "BreathStreet$Sights", name := "findTurn", desc := "(LBreathStreet$Ground;II)I" } : Jvm.MethodName)) ∈ lw_tbl := List.mem_append_right _ (List.mem_of_getElem? (i := 831) (by decide +kernel))
theorem tw_832 : (Jvm.Cond.selects "BreathStreet$Sights" ({ cls := "BreathStreet$Sights", name := "findTurn", desc := "(LBreathStreet$Ground;II)I" } : Jvm.MethodName) ({ cls := "BreathStreet$Sights", name := "findTurn", desc := "(LBreathStreet$Ground;II)I" } : Jvm.MethodName)) ∈ lw_tbl := List.mem_append_right _ (List.mem_of_getElem? (i := 832) (by decide +kernel))
theorem tw_833 : (Jvm.Cond.code ({ cls := "BreathStreet$Sights", name := "findTurn", desc := "(LBreathStreet$Ground;II)I" } : Jvm.MethodName) prog_9_method_4_code (7 : Nat) (Option.some Jvm.ClassFile.FieldType.int)) ∈ lw_tbl := List.mem_append_right _ (List.mem_of_getElem? (i := 833) (by decide +kernel))
theorem tw_834 : (Jvm.Cond.methodLink "BreathStreetLaw" (130 : Nat) ({ cls := "BreathStreet", name := "cellars", desc := "(II)I" } : Jvm.MethodName)) ∈ lw_tbl := List.mem_append_right _ (List.mem_of_getElem? (i := 834) (by decide +kernel))
theorem tw_835 : (Jvm.Cond.instanceMethod ({ cls := "BreathStreet", name := "cellars", desc := "(II)I" } : Jvm.MethodName)) ∈ lw_tbl := List.mem_append_right _ (List.mem_of_getElem? (i := 835) (by decide +kernel))
theorem tw_836 : (Jvm.Cond.selects "BreathStreet" ({ cls := "BreathStreet", name := "cellars", desc := "(II)I" } : Jvm.MethodName) ({ cls := "BreathStreet", name := "cellars", desc := "(II)I" } : Jvm.MethodName)) ∈ lw_tbl := List.mem_append_right _ (List.mem_of_getElem? (i := 836) (by decide +kernel))
theorem tw_837 : (Jvm.Cond.code ({ cls := "BreathStreet", name := "cellars", desc := "(II)I" } : Jvm.MethodName) prog_1_method_30_code (3 : Nat) (Option.some Jvm.ClassFile.FieldType.int)) ∈ lw_tbl := List.mem_append_right _ (List.mem_of_getElem? (i := 837) (by decide +kernel))
theorem tw_838 : (Jvm.Cond.methodLink "BreathStreet" (305 : Nat) ({ cls := "BreathStreet$Ground", name := "flooded", desc := "(III)I" } : Jvm.MethodName)) ∈ lw_tbl := List.mem_append_right _ (List.mem_of_getElem? (i := 838) (by decide +kernel))
theorem tw_839 : (Jvm.Cond.instanceMethod ({ cls := "BreathStreet$Ground", name := "flooded", desc := "(III)I" } : Jvm.MethodName)) ∈ lw_tbl := List.mem_append_right _ (List.mem_of_getElem? (i := 839) (by decide +kernel))
theorem tw_840 : (Jvm.Cond.selects "BreathStreet$Ground" ({ cls := "BreathStreet$Ground", name := "flooded", desc := "(III)I" } : Jvm.MethodName) ({ cls := "BreathStreet$Ground", name := "flooded", desc := "(III)I" } : Jvm.MethodName)) ∈ lw_tbl := List.mem_append_right _ (List.mem_of_getElem? (i := 840) (by decide +kernel))
theorem tw_841 : (Jvm.Cond.code ({ cls := "BreathStreet$Ground", name := "flooded", desc := "(III)I" } : Jvm.MethodName) prog_4_method_14_code (7 : Nat) (Option.some Jvm.ClassFile.FieldType.int)) ∈ lw_tbl := List.mem_append_right _ (List.mem_of_getElem? (i := 841) (by decide +kernel))
theorem tw_842 : (Jvm.Cond.methodLink "BreathStreetLaw" (134 : Nat) ({ cls := "BreathStreet", name := "sluices", desc := "(III)I" } : Jvm.MethodName)) ∈ lw_tbl := List.mem_append_right _ (List.mem_of_getElem? (i := 842) (by decide +kernel))
theorem tw_843 : (Jvm.Cond.instanceMethod ({ cls := "BreathStreet", name := "sluices", desc := "(III)I" } : Jvm.MethodName)) ∈ lw_tbl := List.mem_append_right _ (List.mem_of_getElem? (i := 843) (by decide +kernel))
theorem tw_844 : (Jvm.Cond.selects "BreathStreet" ({ cls := "BreathStreet", name := "sluices", desc := "(III)I" } : Jvm.MethodName) ({ cls := "BreathStreet", name := "sluices", desc := "(III)I" } : Jvm.MethodName)) ∈ lw_tbl := List.mem_append_right _ (List.mem_of_getElem? (i := 844) (by decide +kernel))
theorem tw_845 : (Jvm.Cond.code ({ cls := "BreathStreet", name := "sluices", desc := "(III)I" } : Jvm.MethodName) prog_1_method_31_code (5 : Nat) (Option.some Jvm.ClassFile.FieldType.int)) ∈ lw_tbl := List.mem_append_right _ (List.mem_of_getElem? (i := 845) (by decide +kernel))
theorem tw_846 : (Jvm.Cond.methodLink "BreathStreet" (308 : Nat) ({ cls := "BreathStreet$Ground", name := "fewestSluices", desc := "(I)I" } : Jvm.MethodName)) ∈ lw_tbl := List.mem_append_right _ (List.mem_of_getElem? (i := 846) (by decide +kernel))
theorem tw_847 : (Jvm.Cond.instanceMethod ({ cls := "BreathStreet$Ground", name := "fewestSluices", desc := "(I)I" } : Jvm.MethodName)) ∈ lw_tbl := List.mem_append_right _ (List.mem_of_getElem? (i := 847) (by decide +kernel))
theorem tw_848 : (Jvm.Cond.selects "BreathStreet$Ground" ({ cls := "BreathStreet$Ground", name := "fewestSluices", desc := "(I)I" } : Jvm.MethodName) ({ cls := "BreathStreet$Ground", name := "fewestSluices", desc := "(I)I" } : Jvm.MethodName)) ∈ lw_tbl := List.mem_append_right _ (List.mem_of_getElem? (i := 848) (by decide +kernel))
theorem tw_849 : (Jvm.Cond.code ({ cls := "BreathStreet$Ground", name := "fewestSluices", desc := "(I)I" } : Jvm.MethodName) prog_4_method_15_code (6 : Nat) (Option.some Jvm.ClassFile.FieldType.int)) ∈ lw_tbl := List.mem_append_right _ (List.mem_of_getElem? (i := 849) (by decide +kernel))
theorem tw_850 : (Jvm.Cond.methodLink "BreathStreet$Ground" (73 : Nat) ({ cls := "java/lang/Math", name := "min", desc := "(II)I" } : Jvm.MethodName)) ∈ lw_tbl := List.mem_append_right _ (List.mem_of_getElem? (i := 850) (by decide +kernel))
theorem tw_851 : (Jvm.Cond.methodLink "BreathStreet$Ground" (76 : Nat) ({ cls := "java/lang/Integer", name := "bitCount", desc := "(I)I" } : Jvm.MethodName)) ∈ lw_tbl := List.mem_append_right _ (List.mem_of_getElem? (i := 851) (by decide +kernel))
theorem tw_852 : (Jvm.Cond.static ({ cls := "java/lang/Integer", name := "bitCount", desc := "(I)I" } : Jvm.MethodName)) ∈ lw_tbl := List.mem_append_right _ (List.mem_of_getElem? (i := 852) (by decide +kernel))
theorem tw_853 : (Jvm.Cond.code ({ cls := "java/lang/Integer", name := "bitCount", desc := "(I)I" } : Jvm.MethodName) prog_15_method_49_code (1 : Nat) (Option.some Jvm.ClassFile.FieldType.int)) ∈ lw_tbl := List.mem_append_right _ (List.mem_of_getElem? (i := 853) (by decide +kernel))
theorem tw_854 : (Jvm.Cond.constant "java/lang/Integer" (265 : Nat) (1431655765 : Int32)) ∈ lw_tbl := List.mem_append_right _ (List.mem_of_getElem? (i := 854) (by decide +kernel))
theorem tw_855 : (Jvm.Cond.constant "java/lang/Integer" (266 : Nat) (858993459 : Int32)) ∈ lw_tbl := List.mem_append_right _ (List.mem_of_getElem? (i := 855) (by decide +kernel))
theorem tw_856 : (Jvm.Cond.constant "java/lang/Integer" (267 : Nat) (252645135 : Int32)) ∈ lw_tbl := List.mem_append_right _ (List.mem_of_getElem? (i := 856) (by decide +kernel))
theorem tw_857 : (Jvm.Cond.methodLink "BreathStreet" (311 : Nat) ({ cls := "java/lang/Integer", name := "bitCount", desc := "(I)I" } : Jvm.MethodName)) ∈ lw_tbl := List.mem_append_right _ (List.mem_of_getElem? (i := 857) (by decide +kernel))
theorem tw_858 : (Jvm.Cond.methodLink "BreathStreetLaw" (138 : Nat) ({ cls := "BreathStreet", name := "odds", desc := "(IIII)I" } : Jvm.MethodName)) ∈ lw_tbl := List.mem_append_right _ (List.mem_of_getElem? (i := 858) (by decide +kernel))
theorem tw_859 : (Jvm.Cond.instanceMethod ({ cls := "BreathStreet", name := "odds", desc := "(IIII)I" } : Jvm.MethodName)) ∈ lw_tbl := List.mem_append_right _ (List.mem_of_getElem? (i := 859) (by decide +kernel))
theorem tw_860 : (Jvm.Cond.selects "BreathStreet" ({ cls := "BreathStreet", name := "odds", desc := "(IIII)I" } : Jvm.MethodName) ({ cls := "BreathStreet", name := "odds", desc := "(IIII)I" } : Jvm.MethodName)) ∈ lw_tbl := List.mem_append_right _ (List.mem_of_getElem? (i := 860) (by decide +kernel))
theorem tw_861 : (Jvm.Cond.code ({ cls := "BreathStreet", name := "odds", desc := "(IIII)I" } : Jvm.MethodName) prog_1_method_32_code (5 : Nat) (Option.some Jvm.ClassFile.FieldType.int)) ∈ lw_tbl := List.mem_append_right _ (List.mem_of_getElem? (i := 861) (by decide +kernel))
theorem tw_862 : (Jvm.Cond.methodLink "BreathStreet" (316 : Nat) ({ cls := "BreathStreet$Ground", name := "chanceOf", desc := "(IIIII)I" } : Jvm.MethodName)) ∈ lw_tbl := List.mem_append_right _ (List.mem_of_getElem? (i := 862) (by decide +kernel))
theorem tw_863 : (Jvm.Cond.instanceMethod ({ cls := "BreathStreet$Ground", name := "chanceOf", desc := "(IIIII)I" } : Jvm.MethodName)) ∈ lw_tbl := List.mem_append_right _ (List.mem_of_getElem? (i := 863) (by decide +kernel))
theorem tw_864 : (Jvm.Cond.selects "BreathStreet$Ground" ({ cls := "BreathStreet$Ground", name := "chanceOf", desc := "(IIIII)I" } : Jvm.MethodName) ({ cls := "BreathStreet$Ground", name := "chanceOf", desc := "(IIIII)I" } : Jvm.MethodName)) ∈ lw_tbl := List.mem_append_right _ (List.mem_of_getElem? (i := 864) (by decide +kernel))
theorem tw_865 : (Jvm.Cond.code ({ cls := "BreathStreet$Ground", name := "chanceOf", desc := "(IIIII)I" } : Jvm.MethodName) prog_4_method_16_code (10 : Nat) (Option.some Jvm.ClassFile.FieldType.int)) ∈ lw_tbl := List.mem_append_right _ (List.mem_of_getElem? (i := 865) (by decide +kernel))
theorem tw_866 : (Jvm.Cond.constantLong "BreathStreet$Ground" (81 : Nat) (1000000000 : Int64)) ∈ lw_tbl := List.mem_append_right _ (List.mem_of_getElem? (i := 866) (by decide +kernel))
theorem tw_867 : (Jvm.Cond.methodLink "BreathStreet$Ground" (83 : Nat) ({ cls := "BreathStreet$Ground", name := "shareOut", desc := "(II)V" } : Jvm.MethodName)) ∈ lw_tbl := List.mem_append_right _ (List.mem_of_getElem? (i := 867) (by decide +kernel))
theorem tw_868 : (Jvm.Cond.privateMethod ({ cls := "BreathStreet$Ground", name := "shareOut", desc := "(II)V" } : Jvm.MethodName)) ∈ lw_tbl := List.mem_append_right _ (List.mem_of_getElem? (i := 868) (by decide +kernel))
theorem tw_869 : (Jvm.Cond.instanceMethod ({ cls := "BreathStreet$Ground", name := "shareOut", desc := "(II)V" } : Jvm.MethodName)) ∈ lw_tbl := List.mem_append_right _ (List.mem_of_getElem? (i := 869) (by decide +kernel))
theorem tw_870 : (Jvm.Cond.code ({ cls := "BreathStreet$Ground", name := "shareOut", desc := "(II)V" } : Jvm.MethodName) prog_4_method_17_code (6 : Nat) (Option.none : Option Jvm.ClassFile.FieldType)) ∈ lw_tbl := List.mem_append_right _ (List.mem_of_getElem? (i := 870) (by decide +kernel))
theorem tw_871 : (Jvm.Cond.constantLong "BreathStreet$Ground" (87 : Nat) (100 : Int64)) ∈ lw_tbl := List.mem_append_right _ (List.mem_of_getElem? (i := 871) (by decide +kernel))
theorem tw_872 : (Jvm.Cond.methodLink "BreathStreetLaw" (142 : Nat) ({ cls := "BreathStreet", name := "write", desc := "(I)I" } : Jvm.MethodName)) ∈ lw_tbl := List.mem_append_right _ (List.mem_of_getElem? (i := 872) (by decide +kernel))
theorem tw_873 : (Jvm.Cond.instanceMethod ({ cls := "BreathStreet", name := "write", desc := "(I)I" } : Jvm.MethodName)) ∈ lw_tbl := List.mem_append_right _ (List.mem_of_getElem? (i := 873) (by decide +kernel))
theorem tw_874 : (Jvm.Cond.selects "BreathStreet" ({ cls := "BreathStreet", name := "write", desc := "(I)I" } : Jvm.MethodName) ({ cls := "BreathStreet", name := "write", desc := "(I)I" } : Jvm.MethodName)) ∈ lw_tbl := List.mem_append_right _ (List.mem_of_getElem? (i := 874) (by decide +kernel))
theorem tw_875 : (Jvm.Cond.code ({ cls := "BreathStreet", name := "write", desc := "(I)I" } : Jvm.MethodName) prog_1_method_33_code (2 : Nat) (Option.some Jvm.ClassFile.FieldType.int)) ∈ lw_tbl := List.mem_append_right _ (List.mem_of_getElem? (i := 875) (by decide +kernel))
theorem tw_876 : (Jvm.Cond.methodLink "BreathStreet" (320 : Nat) ({ cls := "BreathStreet$Book", name := "note", desc := "(I)I" } : Jvm.MethodName)) ∈ lw_tbl := List.mem_append_right _ (List.mem_of_getElem? (i := 876) (by decide +kernel))
theorem tw_877 : (Jvm.Cond.instanceMethod ({ cls := "BreathStreet$Book", name := "note", desc := "(I)I" } : Jvm.MethodName)) ∈ lw_tbl := List.mem_append_right _ (List.mem_of_getElem? (i := 877) (by decide +kernel))
theorem tw_878 : (Jvm.Cond.selects "BreathStreet$Book" ({ cls := "BreathStreet$Book", name := "note", desc := "(I)I" } : Jvm.MethodName) ({ cls := "BreathStreet$Book", name := "note", desc := "(I)I" } : Jvm.MethodName)) ∈ lw_tbl := List.mem_append_right _ (List.mem_of_getElem? (i := 878) (by decide +kernel))
theorem tw_879 : (Jvm.Cond.code ({ cls := "BreathStreet$Book", name := "note", desc := "(I)I" } : Jvm.MethodName) prog_2_method_2_code (2 : Nat) (Option.some Jvm.ClassFile.FieldType.int)) ∈ lw_tbl := List.mem_append_right _ (List.mem_of_getElem? (i := 879) (by decide +kernel))
theorem tw_880 : (Jvm.Cond.methodLink "BreathStreetLaw" (146 : Nat) ({ cls := "BreathStreet", name := "judge", desc := "(I)I" } : Jvm.MethodName)) ∈ lw_tbl := List.mem_append_right _ (List.mem_of_getElem? (i := 880) (by decide +kernel))
theorem tw_881 : (Jvm.Cond.instanceMethod ({ cls := "BreathStreet", name := "judge", desc := "(I)I" } : Jvm.MethodName)) ∈ lw_tbl := List.mem_append_right _ (List.mem_of_getElem? (i := 881) (by decide +kernel))
theorem tw_882 : (Jvm.Cond.selects "BreathStreet" ({ cls := "BreathStreet", name := "judge", desc := "(I)I" } : Jvm.MethodName) ({ cls := "BreathStreet", name := "judge", desc := "(I)I" } : Jvm.MethodName)) ∈ lw_tbl := List.mem_append_right _ (List.mem_of_getElem? (i := 882) (by decide +kernel))
theorem tw_883 : (Jvm.Cond.code ({ cls := "BreathStreet", name := "judge", desc := "(I)I" } : Jvm.MethodName) prog_1_method_34_code (3 : Nat) (Option.some Jvm.ClassFile.FieldType.int)) ∈ lw_tbl := List.mem_append_right _ (List.mem_of_getElem? (i := 883) (by decide +kernel))
theorem tw_884 : (Jvm.Cond.methodLink "BreathStreet" (322 : Nat) ({ cls := "BreathStreet$Book", name := "tryFrom", desc := "(LBreathStreet$Street;LBreathStreet$Moment;)I" } : Jvm.MethodName)) ∈ lw_tbl := List.mem_append_right _ (List.mem_of_getElem? (i := 884) (by decide +kernel))
theorem tw_885 : (Jvm.Cond.instanceMethod ({ cls := "BreathStreet$Book", name := "tryFrom", desc := "(LBreathStreet$Street;LBreathStreet$Moment;)I" } : Jvm.MethodName)) ∈ lw_tbl := List.mem_append_right _ (List.mem_of_getElem? (i := 885) (by decide +kernel))
theorem tw_886 : (Jvm.Cond.selects "BreathStreet$Book" ({ cls := "BreathStreet$Book", name := "tryFrom", desc := "(LBreathStreet$Street;LBreathStreet$Moment;)I" } : Jvm.MethodName) ({ cls := "BreathStreet$Book", name := "tryFrom", desc := "(LBreathStreet$Street;LBreathStreet$Moment;)I" } : Jvm.MethodName)) ∈ lw_tbl := List.mem_append_right _ (List.mem_of_getElem? (i := 886) (by decide +kernel))
theorem tw_887 : (Jvm.Cond.code ({ cls := "BreathStreet$Book", name := "tryFrom", desc := "(LBreathStreet$Street;LBreathStreet$Moment;)I" } : Jvm.MethodName) prog_2_method_3_code (4 : Nat) (Option.some Jvm.ClassFile.FieldType.int)) ∈ lw_tbl := List.mem_append_right _ (List.mem_of_getElem? (i := 887) (by decide +kernel))
theorem tw_888 : (Jvm.Cond.methodLink "BreathStreet$Book" (29 : Nat) ({ cls := "BreathStreet$Moment", name := "become", desc := "(LBreathStreet$Moment;)V" } : Jvm.MethodName)) ∈ lw_tbl := List.mem_append_right _ (List.mem_of_getElem? (i := 888) (by decide +kernel))
theorem tw_889 : (Jvm.Cond.instanceMethod ({ cls := "BreathStreet$Moment", name := "become", desc := "(LBreathStreet$Moment;)V" } : Jvm.MethodName)) ∈ lw_tbl := List.mem_append_right _ (List.mem_of_getElem? (i := 889) (by decide +kernel))
theorem tw_890 : (Jvm.Cond.selects "BreathStreet$Moment" ({ cls := "BreathStreet$Moment", name := "become", desc := "(LBreathStreet$Moment;)V" } : Jvm.MethodName) ({ cls := "BreathStreet$Moment", name := "become", desc := "(LBreathStreet$Moment;)V" } : Jvm.MethodName)) ∈ lw_tbl := List.mem_append_right _ (List.mem_of_getElem? (i := 890) (by decide +kernel))
theorem tw_891 : (Jvm.Cond.code ({ cls := "BreathStreet$Moment", name := "become", desc := "(LBreathStreet$Moment;)V" } : Jvm.MethodName) prog_7_method_3_code (2 : Nat) (Option.none : Option Jvm.ClassFile.FieldType)) ∈ lw_tbl := List.mem_append_right _ (List.mem_of_getElem? (i := 891) (by decide +kernel))
theorem tw_892 : (Jvm.Cond.methodLink "BreathStreet$Book" (33 : Nat) ({ cls := "BreathStreet$Moment", name := "canGo", desc := "(LBreathStreet$Street;I)Z" } : Jvm.MethodName)) ∈ lw_tbl := List.mem_append_right _ (List.mem_of_getElem? (i := 892) (by decide +kernel))
theorem tw_893 : (Jvm.Cond.methodLink "BreathStreet$Book" (37 : Nat) ({ cls := "BreathStreet$Moment", name := "go", desc := "(LBreathStreet$Street;IZ)I" } : Jvm.MethodName)) ∈ lw_tbl := List.mem_append_right _ (List.mem_of_getElem? (i := 893) (by decide +kernel))
theorem tw_894 : (Jvm.Cond.methodLink "BreathStreetLaw" (150 : Nat) ({ cls := "BreathStreet", name := "tear", desc := "()I" } : Jvm.MethodName)) ∈ lw_tbl := List.mem_append_right _ (List.mem_of_getElem? (i := 894) (by decide +kernel))
theorem tw_895 : (Jvm.Cond.instanceMethod ({ cls := "BreathStreet", name := "tear", desc := "()I" } : Jvm.MethodName)) ∈ lw_tbl := List.mem_append_right _ (List.mem_of_getElem? (i := 895) (by decide +kernel))
theorem tw_896 : (Jvm.Cond.selects "BreathStreet" ({ cls := "BreathStreet", name := "tear", desc := "()I" } : Jvm.MethodName) ({ cls := "BreathStreet", name := "tear", desc := "()I" } : Jvm.MethodName)) ∈ lw_tbl := List.mem_append_right _ (List.mem_of_getElem? (i := 896) (by decide +kernel))
theorem tw_897 : (Jvm.Cond.code ({ cls := "BreathStreet", name := "tear", desc := "()I" } : Jvm.MethodName) prog_1_method_35_code (2 : Nat) (Option.some Jvm.ClassFile.FieldType.int)) ∈ lw_tbl := List.mem_append_right _ (List.mem_of_getElem? (i := 897) (by decide +kernel))
theorem tw_898 : (Jvm.Cond.methodLink "BreathStreetLaw" (154 : Nat) ({ cls := "BreathStreet", name := "seed", desc := "(I)I" } : Jvm.MethodName)) ∈ lw_tbl := List.mem_append_right _ (List.mem_of_getElem? (i := 898) (by decide +kernel))
theorem tw_899 : (Jvm.Cond.instanceMethod ({ cls := "BreathStreet", name := "seed", desc := "(I)I" } : Jvm.MethodName)) ∈ lw_tbl := List.mem_append_right _ (List.mem_of_getElem? (i := 899) (by decide +kernel))
theorem tw_900 : (Jvm.Cond.selects "BreathStreet" ({ cls := "BreathStreet", name := "seed", desc := "(I)I" } : Jvm.MethodName) ({ cls := "BreathStreet", name := "seed", desc := "(I)I" } : Jvm.MethodName)) ∈ lw_tbl := List.mem_append_right _ (List.mem_of_getElem? (i := 900) (by decide +kernel))
theorem tw_901 : (Jvm.Cond.code ({ cls := "BreathStreet", name := "seed", desc := "(I)I" } : Jvm.MethodName) prog_1_method_36_code (3 : Nat) (Option.some Jvm.ClassFile.FieldType.int)) ∈ lw_tbl := List.mem_append_right _ (List.mem_of_getElem? (i := 901) (by decide +kernel))
theorem tw_902 : (Jvm.Cond.methodLink "BreathStreetLaw" (158 : Nat) ({ cls := "BreathStreet", name := "keep", desc := "(I)I" } : Jvm.MethodName)) ∈ lw_tbl := List.mem_append_right _ (List.mem_of_getElem? (i := 902) (by decide +kernel))
theorem tw_903 : (Jvm.Cond.instanceMethod ({ cls := "BreathStreet", name := "keep", desc := "(I)I" } : Jvm.MethodName)) ∈ lw_tbl := List.mem_append_right _ (List.mem_of_getElem? (i := 903) (by decide +kernel))
theorem tw_904 : (Jvm.Cond.selects "BreathStreet" ({ cls := "BreathStreet", name := "keep", desc := "(I)I" } : Jvm.MethodName) ({ cls := "BreathStreet", name := "keep", desc := "(I)I" } : Jvm.MethodName)) ∈ lw_tbl := List.mem_append_right _ (List.mem_of_getElem? (i := 904) (by decide +kernel))
theorem tw_905 : (Jvm.Cond.code ({ cls := "BreathStreet", name := "keep", desc := "(I)I" } : Jvm.MethodName) prog_1_method_37_code (2 : Nat) (Option.some Jvm.ClassFile.FieldType.int)) ∈ lw_tbl := List.mem_append_right _ (List.mem_of_getElem? (i := 905) (by decide +kernel))
theorem tw_906 : (Jvm.Cond.methodLink "BreathStreet" (329 : Nat) ({ cls := "BreathStreet", name := "imageOf", desc := "(I)LBreathStreet$Image;" } : Jvm.MethodName)) ∈ lw_tbl := List.mem_append_right _ (List.mem_of_getElem? (i := 906) (by decide +kernel))
theorem tw_907 : (Jvm.Cond.privateMethod ({ cls := "BreathStreet", name := "imageOf", desc := "(I)LBreathStreet$Image;" } : Jvm.MethodName)) ∈ lw_tbl := List.mem_append_right _ (List.mem_of_getElem? (i := 907) (by decide +kernel))
theorem tw_908 : (Jvm.Cond.instanceMethod ({ cls := "BreathStreet", name := "imageOf", desc := "(I)LBreathStreet$Image;" } : Jvm.MethodName)) ∈ lw_tbl := List.mem_append_right _ (List.mem_of_getElem? (i := 908) (by decide +kernel))
theorem tw_909 : (Jvm.Cond.code ({ cls := "BreathStreet", name := "imageOf", desc := "(I)LBreathStreet$Image;" } : Jvm.MethodName) prog_1_method_42_code (2 : Nat) (Option.some (Jvm.ClassFile.FieldType.object "BreathStreet$Image"))) ∈ lw_tbl := List.mem_append_right _ (List.mem_of_getElem? (i := 909) (by decide +kernel))
theorem tw_910 : (Jvm.Cond.methodLink "BreathStreet" (333 : Nat) ({ cls := "BreathStreet$Image", name := "take", desc := "(LBreathStreet$Moment;LBreathStreet$Street;I)V" } : Jvm.MethodName)) ∈ lw_tbl := List.mem_append_right _ (List.mem_of_getElem? (i := 910) (by decide +kernel))
theorem tw_911 : (Jvm.Cond.instanceMethod ({ cls := "BreathStreet$Image", name := "take", desc := "(LBreathStreet$Moment;LBreathStreet$Street;I)V" } : Jvm.MethodName)) ∈ lw_tbl := List.mem_append_right _ (List.mem_of_getElem? (i := 911) (by decide +kernel))
theorem tw_912 : (Jvm.Cond.selects "BreathStreet$Image" ({ cls := "BreathStreet$Image", name := "take", desc := "(LBreathStreet$Moment;LBreathStreet$Street;I)V" } : Jvm.MethodName) ({ cls := "BreathStreet$Image", name := "take", desc := "(LBreathStreet$Moment;LBreathStreet$Street;I)V" } : Jvm.MethodName)) ∈ lw_tbl := List.mem_append_right _ (List.mem_of_getElem? (i := 912) (by decide +kernel))
theorem tw_913 : (Jvm.Cond.code ({ cls := "BreathStreet$Image", name := "take", desc := "(LBreathStreet$Moment;LBreathStreet$Street;I)V" } : Jvm.MethodName) prog_6_method_2_code (4 : Nat) (Option.none : Option Jvm.ClassFile.FieldType)) ∈ lw_tbl := List.mem_append_right _ (List.mem_of_getElem? (i := 913) (by decide +kernel))
theorem tw_914 : (Jvm.Cond.methodLink "BreathStreet$Image" (30 : Nat) ({ cls := "BreathStreet$Moment", name := "become", desc := "(LBreathStreet$Moment;)V" } : Jvm.MethodName)) ∈ lw_tbl := List.mem_append_right _ (List.mem_of_getElem? (i := 914) (by decide +kernel))
theorem tw_915 : (Jvm.Cond.methodLink "BreathStreet$Image" (37 : Nat) ({ cls := "java/lang/System", name := "arraycopy", desc := "(Ljava/lang/Object;ILjava/lang/Object;II)V" } : Jvm.MethodName)) ∈ lw_tbl := List.mem_append_right _ (List.mem_of_getElem? (i := 915) (by decide +kernel))
theorem tw_916 : (Jvm.Cond.static ({ cls := "java/lang/System", name := "arraycopy", desc := "(Ljava/lang/Object;ILjava/lang/Object;II)V" } : Jvm.MethodName)) ∈ lw_tbl := List.mem_append_right _ (List.mem_of_getElem? (i := 916) (by decide +kernel))
theorem tw_917 : (Jvm.Cond.native ({ cls := "java/lang/System", name := "arraycopy", desc := "(Ljava/lang/Object;ILjava/lang/Object;II)V" } : Jvm.MethodName)) ∈ lw_tbl := List.mem_append_right _ (List.mem_of_getElem? (i := 917) (by decide +kernel))
theorem tw_918 : (Jvm.Cond.methodLink "BreathStreetLaw" (162 : Nat) ({ cls := "BreathStreet", name := "goBack", desc := "(I)I" } : Jvm.MethodName)) ∈ lw_tbl := List.mem_append_right _ (List.mem_of_getElem? (i := 918) (by decide +kernel))
theorem tw_919 : (Jvm.Cond.instanceMethod ({ cls := "BreathStreet", name := "goBack", desc := "(I)I" } : Jvm.MethodName)) ∈ lw_tbl := List.mem_append_right _ (List.mem_of_getElem? (i := 919) (by decide +kernel))
theorem tw_920 : (Jvm.Cond.selects "BreathStreet" ({ cls := "BreathStreet", name := "goBack", desc := "(I)I" } : Jvm.MethodName) ({ cls := "BreathStreet", name := "goBack", desc := "(I)I" } : Jvm.MethodName)) ∈ lw_tbl := List.mem_append_right _ (List.mem_of_getElem? (i := 920) (by decide +kernel))
theorem tw_921 : (Jvm.Cond.code ({ cls := "BreathStreet", name := "goBack", desc := "(I)I" } : Jvm.MethodName) prog_1_method_38_code (3 : Nat) (Option.some Jvm.ClassFile.FieldType.int)) ∈ lw_tbl := List.mem_append_right _ (List.mem_of_getElem? (i := 921) (by decide +kernel))
theorem tw_922 : (Jvm.Cond.methodLink "BreathStreet" (337 : Nat) ({ cls := "BreathStreet$Image", name := "giveBack", desc := "(LBreathStreet$Moment;LBreathStreet$Street;)V" } : Jvm.MethodName)) ∈ lw_tbl := List.mem_append_right _ (List.mem_of_getElem? (i := 922) (by decide +kernel))
theorem tw_923 : (Jvm.Cond.instanceMethod ({ cls := "BreathStreet$Image", name := "giveBack", desc := "(LBreathStreet$Moment;LBreathStreet$Street;)V" } : Jvm.MethodName)) ∈ lw_tbl := List.mem_append_right _ (List.mem_of_getElem? (i := 923) (by decide +kernel))
theorem tw_924 : (Jvm.Cond.selects "BreathStreet$Image" ({ cls := "BreathStreet$Image", name := "giveBack", desc := "(LBreathStreet$Moment;LBreathStreet$Street;)V" } : Jvm.MethodName) ({ cls := "BreathStreet$Image", name := "giveBack", desc := "(LBreathStreet$Moment;LBreathStreet$Street;)V" } : Jvm.MethodName)) ∈ lw_tbl := List.mem_append_right _ (List.mem_of_getElem? (i := 924) (by decide +kernel))
theorem tw_925 : (Jvm.Cond.code ({ cls := "BreathStreet$Image", name := "giveBack", desc := "(LBreathStreet$Moment;LBreathStreet$Street;)V" } : Jvm.MethodName) prog_6_method_3_code (3 : Nat) (Option.none : Option Jvm.ClassFile.FieldType)) ∈ lw_tbl := List.mem_append_right _ (List.mem_of_getElem? (i := 925) (by decide +kernel))
theorem tw_926 : (Jvm.Cond.classLink "BreathStreetLaw" (10 : Nat) "BreathStreetModel") ∈ lw_tbl := List.mem_append_right _ (List.mem_of_getElem? (i := 926) (by decide +kernel))
theorem tw_927 : (Jvm.Cond.instantiable "BreathStreetModel" (34 : Nat)) ∈ lw_tbl := List.mem_append_right _ (List.mem_of_getElem? (i := 927) (by decide +kernel))
theorem tw_928 : (Jvm.Cond.methodLink "BreathStreetLaw" (12 : Nat) ({ cls := "BreathStreetModel", name := "<init>", desc := "()V" } : Jvm.MethodName)) ∈ lw_tbl := List.mem_append_right _ (List.mem_of_getElem? (i := 928) (by decide +kernel))
theorem tw_929 : (Jvm.Cond.instanceMethod ({ cls := "BreathStreetModel", name := "<init>", desc := "()V" } : Jvm.MethodName)) ∈ lw_tbl := List.mem_append_right _ (List.mem_of_getElem? (i := 929) (by decide +kernel))
theorem tw_930 : (Jvm.Cond.code ({ cls := "BreathStreetModel", name := "<init>", desc := "()V" } : Jvm.MethodName) prog_14_method_1_code (1 : Nat) (Option.none : Option Jvm.ClassFile.FieldType)) ∈ lw_tbl := List.mem_append_right _ (List.mem_of_getElem? (i := 930) (by decide +kernel))
theorem tw_931 : (Jvm.Cond.methodLink "BreathStreetModel" (1 : Nat) ({ cls := "java/lang/Object", name := "<init>", desc := "()V" } : Jvm.MethodName)) ∈ lw_tbl := List.mem_append_right _ (List.mem_of_getElem? (i := 931) (by decide +kernel))
theorem tw_932 : (Jvm.Cond.fieldLink "BreathStreetModel" (7 : Nat) "BreathStreetModel" "w" "[I") ∈ lw_tbl := List.mem_append_right _ (List.mem_of_getElem? (i := 932) (by decide +kernel))
theorem tw_933 : (Jvm.Cond.fieldLink "BreathStreetModel" (13 : Nat) "BreathStreetModel" "isKept" "[Z") ∈ lw_tbl := List.mem_append_right _ (List.mem_of_getElem? (i := 933) (by decide +kernel))
theorem tw_934 : (Jvm.Cond.fieldLink "BreathStreetModel" (17 : Nat) "BreathStreetModel" "field" "[I") ∈ lw_tbl := List.mem_append_right _ (List.mem_of_getElem? (i := 934) (by decide +kernel))
theorem tw_935 : (Jvm.Cond.fieldLink "BreathStreetModel" (20 : Nat) "BreathStreetModel" "house" "[I") ∈ lw_tbl := List.mem_append_right _ (List.mem_of_getElem? (i := 935) (by decide +kernel))
theorem tw_936 : (Jvm.Cond.fieldLink "BreathStreetModel" (23 : Nat) "BreathStreetModel" "seam" "[I") ∈ lw_tbl := List.mem_append_right _ (List.mem_of_getElem? (i := 936) (by decide +kernel))
theorem tw_937 : (Jvm.Cond.fieldLink "BreathStreetModel" (131 : Nat) "BreathStreetModel" "fields" "I") ∈ lw_tbl := List.mem_append_right _ (List.mem_of_getElem? (i := 937) (by decide +kernel))
theorem tw_938 : (Jvm.Cond.fieldLink "BreathStreetModel" (134 : Nat) "BreathStreetModel" "houses" "I") ∈ lw_tbl := List.mem_append_right _ (List.mem_of_getElem? (i := 938) (by decide +kernel))
theorem tw_939 : (Jvm.Cond.fieldLink "BreathStreetModel" (137 : Nat) "BreathStreetModel" "seams" "I") ∈ lw_tbl := List.mem_append_right _ (List.mem_of_getElem? (i := 939) (by decide +kernel))
theorem tw_940 : (Jvm.Cond.fieldLink "BreathStreetModel" (99 : Nat) "BreathStreetModel" "newFields" "I") ∈ lw_tbl := List.mem_append_right _ (List.mem_of_getElem? (i := 940) (by decide +kernel))
theorem tw_941 : (Jvm.Cond.fieldLink "BreathStreetModel" (106 : Nat) "BreathStreetModel" "newHouses" "I") ∈ lw_tbl := List.mem_append_right _ (List.mem_of_getElem? (i := 941) (by decide +kernel))
theorem tw_942 : (Jvm.Cond.fieldLink "BreathStreetModel" (109 : Nat) "BreathStreetModel" "newSeams" "I") ∈ lw_tbl := List.mem_append_right _ (List.mem_of_getElem? (i := 942) (by decide +kernel))
theorem tw_943 : (Jvm.Cond.fieldLink "BreathStreetModel" (125 : Nat) "BreathStreetModel" "newBarrel" "I") ∈ lw_tbl := List.mem_append_right _ (List.mem_of_getElem? (i := 943) (by decide +kernel))
theorem tw_944 : (Jvm.Cond.fieldLink "BreathStreetModel" (121 : Nat) "BreathStreetModel" "isBarrel" "Z") ∈ lw_tbl := List.mem_append_right _ (List.mem_of_getElem? (i := 944) (by decide +kernel))
theorem tw_945 : (Jvm.Cond.fieldLink "BreathStreetModel" (26 : Nat) "BreathStreetModel" "text" "[I") ∈ lw_tbl := List.mem_append_right _ (List.mem_of_getElem? (i := 945) (by decide +kernel))
theorem tw_946 : (Jvm.Cond.fieldLink "BreathStreetModel" (73 : Nat) "BreathStreetModel" "textSize" "I") ∈ lw_tbl := List.mem_append_right _ (List.mem_of_getElem? (i := 946) (by decide +kernel))
theorem tw_947 : (Jvm.Cond.fieldLink "BreathStreetModel" (77 : Nat) "BreathStreetModel" "at" "I") ∈ lw_tbl := List.mem_append_right _ (List.mem_of_getElem? (i := 947) (by decide +kernel))
theorem tw_948 : (Jvm.Cond.fieldLink "BreathStreetModel" (87 : Nat) "BreathStreetModel" "first" "I") ∈ lw_tbl := List.mem_append_right _ (List.mem_of_getElem? (i := 948) (by decide +kernel))
theorem tw_949 : (Jvm.Cond.fieldLink "BreathStreetModel" (80 : Nat) "BreathStreetModel" "faultOf" "I") ∈ lw_tbl := List.mem_append_right _ (List.mem_of_getElem? (i := 949) (by decide +kernel))
theorem tw_950 : (Jvm.Cond.fieldLink "BreathStreetModel" (29 : Nat) "BreathStreetModel" "fault" "I") ∈ lw_tbl := List.mem_append_right _ (List.mem_of_getElem? (i := 950) (by decide +kernel))
theorem tw_951 : (Jvm.Cond.fieldLink "BreathStreetModel" (33 : Nat) "BreathStreetModel" "round" "I") ∈ lw_tbl := List.mem_append_right _ (List.mem_of_getElem? (i := 951) (by decide +kernel))
theorem tw_952 : (Jvm.Cond.fieldLink "BreathStreetModel" (36 : Nat) "BreathStreetModel" "undos" "[I") ∈ lw_tbl := List.mem_append_right _ (List.mem_of_getElem? (i := 952) (by decide +kernel))
theorem tw_953 : (Jvm.Cond.fieldLink "BreathStreetModel" (149 : Nat) "BreathStreetModel" "undoMany" "I") ∈ lw_tbl := List.mem_append_right _ (List.mem_of_getElem? (i := 953) (by decide +kernel))
theorem tw_954 : (Jvm.Cond.fieldLink "BreathStreetModel" (39 : Nat) "BreathStreetModel" "least" "[I") ∈ lw_tbl := List.mem_append_right _ (List.mem_of_getElem? (i := 954) (by decide +kernel))
theorem tw_955 : (Jvm.Cond.fieldLink "BreathStreetModel" (42 : Nat) "BreathStreetModel" "heardField" "[I") ∈ lw_tbl := List.mem_append_right _ (List.mem_of_getElem? (i := 955) (by decide +kernel))
theorem tw_956 : (Jvm.Cond.fieldLink "BreathStreetModel" (45 : Nat) "BreathStreetModel" "heardAgo" "[I") ∈ lw_tbl := List.mem_append_right _ (List.mem_of_getElem? (i := 956) (by decide +kernel))
theorem tw_957 : (Jvm.Cond.fieldLink "BreathStreetModel" (140 : Nat) "BreathStreetModel" "heardMany" "I") ∈ lw_tbl := List.mem_append_right _ (List.mem_of_getElem? (i := 957) (by decide +kernel))
theorem tw_958 : (Jvm.Cond.fieldLink "BreathStreetModel" (48 : Nat) "BreathStreetModel" "parts" "[I") ∈ lw_tbl := List.mem_append_right _ (List.mem_of_getElem? (i := 958) (by decide +kernel))
theorem tw_959 : (Jvm.Cond.fieldLink "BreathStreetModel" (51 : Nat) "BreathStreetModel" "seenField" "[I") ∈ lw_tbl := List.mem_append_right _ (List.mem_of_getElem? (i := 959) (by decide +kernel))
theorem tw_960 : (Jvm.Cond.fieldLink "BreathStreetModel" (54 : Nat) "BreathStreetModel" "seenBreath" "[I") ∈ lw_tbl := List.mem_append_right _ (List.mem_of_getElem? (i := 960) (by decide +kernel))
theorem tw_961 : (Jvm.Cond.fieldLink "BreathStreetModel" (57 : Nat) "BreathStreetModel" "seenHeight" "[I") ∈ lw_tbl := List.mem_append_right _ (List.mem_of_getElem? (i := 961) (by decide +kernel))
theorem tw_962 : (Jvm.Cond.fieldLink "BreathStreetModel" (143 : Nat) "BreathStreetModel" "seenMany" "I") ∈ lw_tbl := List.mem_append_right _ (List.mem_of_getElem? (i := 962) (by decide +kernel))
theorem tw_963 : (Jvm.Cond.fieldLink "BreathStreetModel" (60 : Nat) "BreathStreetModel" "part" "[I") ∈ lw_tbl := List.mem_append_right _ (List.mem_of_getElem? (i := 963) (by decide +kernel))
theorem tw_964 : (Jvm.Cond.fieldLink "BreathStreetModel" (63 : Nat) "BreathStreetModel" "book" "[I") ∈ lw_tbl := List.mem_append_right _ (List.mem_of_getElem? (i := 964) (by decide +kernel))
theorem tw_965 : (Jvm.Cond.fieldLink "BreathStreetModel" (146 : Nat) "BreathStreetModel" "written" "I") ∈ lw_tbl := List.mem_append_right _ (List.mem_of_getElem? (i := 965) (by decide +kernel))
theorem tw_966 : (Jvm.Cond.laysFinal "BreathStreetModel" "BreathStreetModel" "w" "[I") ∈ lw_tbl := List.mem_append_right _ (List.mem_of_getElem? (i := 966) (by decide +kernel))
theorem tw_967 : (Jvm.Cond.soleField "BreathStreetModel" "w") ∈ lw_tbl := List.mem_append_right _ (List.mem_of_getElem? (i := 967) (by decide +kernel))
theorem tw_968 : (Jvm.Cond.laysFinal "BreathStreetModel" "BreathStreetModel" "isKept" "[Z") ∈ lw_tbl := List.mem_append_right _ (List.mem_of_getElem? (i := 968) (by decide +kernel))
theorem tw_969 : (Jvm.Cond.soleField "BreathStreetModel" "isKept") ∈ lw_tbl := List.mem_append_right _ (List.mem_of_getElem? (i := 969) (by decide +kernel))
theorem tw_970 : (Jvm.Cond.laysFinal "BreathStreetModel" "BreathStreetModel" "field" "[I") ∈ lw_tbl := List.mem_append_right _ (List.mem_of_getElem? (i := 970) (by decide +kernel))
theorem tw_971 : (Jvm.Cond.soleField "BreathStreetModel" "field") ∈ lw_tbl := List.mem_append_right _ (List.mem_of_getElem? (i := 971) (by decide +kernel))
theorem tw_972 : (Jvm.Cond.laysFinal "BreathStreetModel" "BreathStreetModel" "house" "[I") ∈ lw_tbl := List.mem_append_right _ (List.mem_of_getElem? (i := 972) (by decide +kernel))
theorem tw_973 : (Jvm.Cond.soleField "BreathStreetModel" "house") ∈ lw_tbl := List.mem_append_right _ (List.mem_of_getElem? (i := 973) (by decide +kernel))
theorem tw_974 : (Jvm.Cond.laysFinal "BreathStreetModel" "BreathStreetModel" "seam" "[I") ∈ lw_tbl := List.mem_append_right _ (List.mem_of_getElem? (i := 974) (by decide +kernel))
theorem tw_975 : (Jvm.Cond.soleField "BreathStreetModel" "seam") ∈ lw_tbl := List.mem_append_right _ (List.mem_of_getElem? (i := 975) (by decide +kernel))
theorem tw_976 : (Jvm.Cond.lays "BreathStreetModel" "BreathStreetModel" "fields" "I") ∈ lw_tbl := List.mem_append_right _ (List.mem_of_getElem? (i := 976) (by decide +kernel))
theorem tw_977 : (Jvm.Cond.soleField "BreathStreetModel" "fields") ∈ lw_tbl := List.mem_append_right _ (List.mem_of_getElem? (i := 977) (by decide +kernel))
theorem tw_978 : (Jvm.Cond.lays "BreathStreetModel" "BreathStreetModel" "houses" "I") ∈ lw_tbl := List.mem_append_right _ (List.mem_of_getElem? (i := 978) (by decide +kernel))
theorem tw_979 : (Jvm.Cond.soleField "BreathStreetModel" "houses") ∈ lw_tbl := List.mem_append_right _ (List.mem_of_getElem? (i := 979) (by decide +kernel))
theorem tw_980 : (Jvm.Cond.lays "BreathStreetModel" "BreathStreetModel" "seams" "I") ∈ lw_tbl := List.mem_append_right _ (List.mem_of_getElem? (i := 980) (by decide +kernel))
theorem tw_981 : (Jvm.Cond.soleField "BreathStreetModel" "seams") ∈ lw_tbl := List.mem_append_right _ (List.mem_of_getElem? (i := 981) (by decide +kernel))
theorem tw_982 : (Jvm.Cond.lays "BreathStreetModel" "BreathStreetModel" "newFields" "I") ∈ lw_tbl := List.mem_append_right _ (List.mem_of_getElem? (i := 982) (by decide +kernel))
theorem tw_983 : (Jvm.Cond.soleField "BreathStreetModel" "newFields") ∈ lw_tbl := List.mem_append_right _ (List.mem_of_getElem? (i := 983) (by decide +kernel))
theorem tw_984 : (Jvm.Cond.lays "BreathStreetModel" "BreathStreetModel" "newHouses" "I") ∈ lw_tbl := List.mem_append_right _ (List.mem_of_getElem? (i := 984) (by decide +kernel))
theorem tw_985 : (Jvm.Cond.soleField "BreathStreetModel" "newHouses") ∈ lw_tbl := List.mem_append_right _ (List.mem_of_getElem? (i := 985) (by decide +kernel))
theorem tw_986 : (Jvm.Cond.lays "BreathStreetModel" "BreathStreetModel" "newSeams" "I") ∈ lw_tbl := List.mem_append_right _ (List.mem_of_getElem? (i := 986) (by decide +kernel))
theorem tw_987 : (Jvm.Cond.soleField "BreathStreetModel" "newSeams") ∈ lw_tbl := List.mem_append_right _ (List.mem_of_getElem? (i := 987) (by decide +kernel))
theorem tw_988 : (Jvm.Cond.lays "BreathStreetModel" "BreathStreetModel" "newBarrel" "I") ∈ lw_tbl := List.mem_append_right _ (List.mem_of_getElem? (i := 988) (by decide +kernel))
theorem tw_989 : (Jvm.Cond.soleField "BreathStreetModel" "newBarrel") ∈ lw_tbl := List.mem_append_right _ (List.mem_of_getElem? (i := 989) (by decide +kernel))
theorem tw_990 : (Jvm.Cond.lays "BreathStreetModel" "BreathStreetModel" "isBarrel" "Z") ∈ lw_tbl := List.mem_append_right _ (List.mem_of_getElem? (i := 990) (by decide +kernel))
theorem tw_991 : (Jvm.Cond.soleField "BreathStreetModel" "isBarrel") ∈ lw_tbl := List.mem_append_right _ (List.mem_of_getElem? (i := 991) (by decide +kernel))
theorem tw_992 : (Jvm.Cond.laysFinal "BreathStreetModel" "BreathStreetModel" "text" "[I") ∈ lw_tbl := List.mem_append_right _ (List.mem_of_getElem? (i := 992) (by decide +kernel))
theorem tw_993 : (Jvm.Cond.soleField "BreathStreetModel" "text") ∈ lw_tbl := List.mem_append_right _ (List.mem_of_getElem? (i := 993) (by decide +kernel))
theorem tw_994 : (Jvm.Cond.lays "BreathStreetModel" "BreathStreetModel" "textSize" "I") ∈ lw_tbl := List.mem_append_right _ (List.mem_of_getElem? (i := 994) (by decide +kernel))
theorem tw_995 : (Jvm.Cond.soleField "BreathStreetModel" "textSize") ∈ lw_tbl := List.mem_append_right _ (List.mem_of_getElem? (i := 995) (by decide +kernel))
theorem tw_996 : (Jvm.Cond.lays "BreathStreetModel" "BreathStreetModel" "at" "I") ∈ lw_tbl := List.mem_append_right _ (List.mem_of_getElem? (i := 996) (by decide +kernel))
theorem tw_997 : (Jvm.Cond.soleField "BreathStreetModel" "at") ∈ lw_tbl := List.mem_append_right _ (List.mem_of_getElem? (i := 997) (by decide +kernel))
theorem tw_998 : (Jvm.Cond.lays "BreathStreetModel" "BreathStreetModel" "first" "I") ∈ lw_tbl := List.mem_append_right _ (List.mem_of_getElem? (i := 998) (by decide +kernel))
theorem tw_999 : (Jvm.Cond.soleField "BreathStreetModel" "first") ∈ lw_tbl := List.mem_append_right _ (List.mem_of_getElem? (i := 999) (by decide +kernel))
theorem tw_1000 : (Jvm.Cond.lays "BreathStreetModel" "BreathStreetModel" "faultOf" "I") ∈ lw_tbl := List.mem_append_right _ (List.mem_of_getElem? (i := 1000) (by decide +kernel))
theorem tw_1001 : (Jvm.Cond.soleField "BreathStreetModel" "faultOf") ∈ lw_tbl := List.mem_append_right _ (List.mem_of_getElem? (i := 1001) (by decide +kernel))
theorem tw_1002 : (Jvm.Cond.lays "BreathStreetModel" "BreathStreetModel" "fault" "I") ∈ lw_tbl := List.mem_append_right _ (List.mem_of_getElem? (i := 1002) (by decide +kernel))
theorem tw_1003 : (Jvm.Cond.soleField "BreathStreetModel" "fault") ∈ lw_tbl := List.mem_append_right _ (List.mem_of_getElem? (i := 1003) (by decide +kernel))
theorem tw_1004 : (Jvm.Cond.lays "BreathStreetModel" "BreathStreetModel" "round" "I") ∈ lw_tbl := List.mem_append_right _ (List.mem_of_getElem? (i := 1004) (by decide +kernel))
theorem tw_1005 : (Jvm.Cond.soleField "BreathStreetModel" "round") ∈ lw_tbl := List.mem_append_right _ (List.mem_of_getElem? (i := 1005) (by decide +kernel))
theorem tw_1006 : (Jvm.Cond.laysFinal "BreathStreetModel" "BreathStreetModel" "undos" "[I") ∈ lw_tbl := List.mem_append_right _ (List.mem_of_getElem? (i := 1006) (by decide +kernel))
theorem tw_1007 : (Jvm.Cond.soleField "BreathStreetModel" "undos") ∈ lw_tbl := List.mem_append_right _ (List.mem_of_getElem? (i := 1007) (by decide +kernel))
theorem tw_1008 : (Jvm.Cond.lays "BreathStreetModel" "BreathStreetModel" "undoMany" "I") ∈ lw_tbl := List.mem_append_right _ (List.mem_of_getElem? (i := 1008) (by decide +kernel))
theorem tw_1009 : (Jvm.Cond.soleField "BreathStreetModel" "undoMany") ∈ lw_tbl := List.mem_append_right _ (List.mem_of_getElem? (i := 1009) (by decide +kernel))
theorem tw_1010 : (Jvm.Cond.laysFinal "BreathStreetModel" "BreathStreetModel" "least" "[I") ∈ lw_tbl := List.mem_append_right _ (List.mem_of_getElem? (i := 1010) (by decide +kernel))
theorem tw_1011 : (Jvm.Cond.soleField "BreathStreetModel" "least") ∈ lw_tbl := List.mem_append_right _ (List.mem_of_getElem? (i := 1011) (by decide +kernel))
theorem tw_1012 : (Jvm.Cond.laysFinal "BreathStreetModel" "BreathStreetModel" "heardField" "[I") ∈ lw_tbl := List.mem_append_right _ (List.mem_of_getElem? (i := 1012) (by decide +kernel))
theorem tw_1013 : (Jvm.Cond.soleField "BreathStreetModel" "heardField") ∈ lw_tbl := List.mem_append_right _ (List.mem_of_getElem? (i := 1013) (by decide +kernel))
theorem tw_1014 : (Jvm.Cond.laysFinal "BreathStreetModel" "BreathStreetModel" "heardAgo" "[I") ∈ lw_tbl := List.mem_append_right _ (List.mem_of_getElem? (i := 1014) (by decide +kernel))
theorem tw_1015 : (Jvm.Cond.soleField "BreathStreetModel" "heardAgo") ∈ lw_tbl := List.mem_append_right _ (List.mem_of_getElem? (i := 1015) (by decide +kernel))
theorem tw_1016 : (Jvm.Cond.lays "BreathStreetModel" "BreathStreetModel" "heardMany" "I") ∈ lw_tbl := List.mem_append_right _ (List.mem_of_getElem? (i := 1016) (by decide +kernel))
theorem tw_1017 : (Jvm.Cond.soleField "BreathStreetModel" "heardMany") ∈ lw_tbl := List.mem_append_right _ (List.mem_of_getElem? (i := 1017) (by decide +kernel))
theorem tw_1018 : (Jvm.Cond.laysFinal "BreathStreetModel" "BreathStreetModel" "parts" "[I") ∈ lw_tbl := List.mem_append_right _ (List.mem_of_getElem? (i := 1018) (by decide +kernel))
theorem tw_1019 : (Jvm.Cond.soleField "BreathStreetModel" "parts") ∈ lw_tbl := List.mem_append_right _ (List.mem_of_getElem? (i := 1019) (by decide +kernel))
theorem tw_1020 : (Jvm.Cond.laysFinal "BreathStreetModel" "BreathStreetModel" "seenField" "[I") ∈ lw_tbl := List.mem_append_right _ (List.mem_of_getElem? (i := 1020) (by decide +kernel))
theorem tw_1021 : (Jvm.Cond.soleField "BreathStreetModel" "seenField") ∈ lw_tbl := List.mem_append_right _ (List.mem_of_getElem? (i := 1021) (by decide +kernel))
theorem tw_1022 : (Jvm.Cond.laysFinal "BreathStreetModel" "BreathStreetModel" "seenBreath" "[I") ∈ lw_tbl := List.mem_append_right _ (List.mem_of_getElem? (i := 1022) (by decide +kernel))
theorem tw_1023 : (Jvm.Cond.soleField "BreathStreetModel" "seenBreath") ∈ lw_tbl := List.mem_append_right _ (List.mem_of_getElem? (i := 1023) (by decide +kernel))
theorem tw_1024 : (Jvm.Cond.laysFinal "BreathStreetModel" "BreathStreetModel" "seenHeight" "[I") ∈ lw_tbl := List.mem_append_right _ (List.mem_of_getElem? (i := 1024) (by decide +kernel))
theorem tw_1025 : (Jvm.Cond.soleField "BreathStreetModel" "seenHeight") ∈ lw_tbl := List.mem_append_right _ (List.mem_of_getElem? (i := 1025) (by decide +kernel))
theorem tw_1026 : (Jvm.Cond.lays "BreathStreetModel" "BreathStreetModel" "seenMany" "I") ∈ lw_tbl := List.mem_append_right _ (List.mem_of_getElem? (i := 1026) (by decide +kernel))
theorem tw_1027 : (Jvm.Cond.soleField "BreathStreetModel" "seenMany") ∈ lw_tbl := List.mem_append_right _ (List.mem_of_getElem? (i := 1027) (by decide +kernel))
theorem tw_1028 : (Jvm.Cond.laysFinal "BreathStreetModel" "BreathStreetModel" "part" "[I") ∈ lw_tbl := List.mem_append_right _ (List.mem_of_getElem? (i := 1028) (by decide +kernel))
theorem tw_1029 : (Jvm.Cond.soleField "BreathStreetModel" "part") ∈ lw_tbl := List.mem_append_right _ (List.mem_of_getElem? (i := 1029) (by decide +kernel))
theorem tw_1030 : (Jvm.Cond.laysFinal "BreathStreetModel" "BreathStreetModel" "book" "[I") ∈ lw_tbl := List.mem_append_right _ (List.mem_of_getElem? (i := 1030) (by decide +kernel))
theorem tw_1031 : (Jvm.Cond.soleField "BreathStreetModel" "book") ∈ lw_tbl := List.mem_append_right _ (List.mem_of_getElem? (i := 1031) (by decide +kernel))
theorem tw_1032 : (Jvm.Cond.lays "BreathStreetModel" "BreathStreetModel" "written" "I") ∈ lw_tbl := List.mem_append_right _ (List.mem_of_getElem? (i := 1032) (by decide +kernel))
theorem tw_1033 : (Jvm.Cond.soleField "BreathStreetModel" "written") ∈ lw_tbl := List.mem_append_right _ (List.mem_of_getElem? (i := 1033) (by decide +kernel))
theorem tw_1034 : (Jvm.Cond.superclass "BreathStreetModel" "java/lang/Object") ∈ lw_tbl := List.mem_append_right _ (List.mem_of_getElem? (i := 1034) (by decide +kernel))
theorem tw_1035 : (Jvm.Cond.arrayClass Jvm.ClassFile.FieldType.boolean) ∈ lw_tbl := List.mem_append_right _ (List.mem_of_getElem? (i := 1035) (by decide +kernel))
theorem tw_1036 : (Jvm.Cond.methodLink "BreathStreetLaw" (17 : Nat) ({ cls := "BreathStreetModel", name := "feed", desc := "(I)I" } : Jvm.MethodName)) ∈ lw_tbl := List.mem_append_right _ (List.mem_of_getElem? (i := 1036) (by decide +kernel))
theorem tw_1037 : (Jvm.Cond.instanceMethod ({ cls := "BreathStreetModel", name := "feed", desc := "(I)I" } : Jvm.MethodName)) ∈ lw_tbl := List.mem_append_right _ (List.mem_of_getElem? (i := 1037) (by decide +kernel))
theorem tw_1038 : (Jvm.Cond.selects "BreathStreetModel" ({ cls := "BreathStreetModel", name := "feed", desc := "(I)I" } : Jvm.MethodName) ({ cls := "BreathStreetModel", name := "feed", desc := "(I)I" } : Jvm.MethodName)) ∈ lw_tbl := List.mem_append_right _ (List.mem_of_getElem? (i := 1038) (by decide +kernel))
theorem tw_1039 : (Jvm.Cond.code ({ cls := "BreathStreetModel", name := "feed", desc := "(I)I" } : Jvm.MethodName) prog_14_method_8_code (2 : Nat) (Option.some Jvm.ClassFile.FieldType.int)) ∈ lw_tbl := List.mem_append_right _ (List.mem_of_getElem? (i := 1039) (by decide +kernel))
theorem tw_1040 : (Jvm.Cond.constantLong "BreathStreetModel" (66 : Nat) (255 : Int64)) ∈ lw_tbl := List.mem_append_right _ (List.mem_of_getElem? (i := 1040) (by decide +kernel))
theorem tw_1041 : (Jvm.Cond.methodLink "BreathStreetModel" (68 : Nat) ({ cls := "BreathStreetModel", name := "in", desc := "(JJJ)Z" } : Jvm.MethodName)) ∈ lw_tbl := List.mem_append_right _ (List.mem_of_getElem? (i := 1041) (by decide +kernel))
theorem tw_1042 : (Jvm.Cond.static ({ cls := "BreathStreetModel", name := "in", desc := "(JJJ)Z" } : Jvm.MethodName)) ∈ lw_tbl := List.mem_append_right _ (List.mem_of_getElem? (i := 1042) (by decide +kernel))
theorem tw_1043 : (Jvm.Cond.code ({ cls := "BreathStreetModel", name := "in", desc := "(JJJ)Z" } : Jvm.MethodName) prog_14_method_3_code (6 : Nat) (Option.some Jvm.ClassFile.FieldType.boolean)) ∈ lw_tbl := List.mem_append_right _ (List.mem_of_getElem? (i := 1043) (by decide +kernel))
theorem tw_1044 : (Jvm.Cond.constant "BreathStreetModel" (72 : Nat) (-1000000002 : Int32)) ∈ lw_tbl := List.mem_append_right _ (List.mem_of_getElem? (i := 1044) (by decide +kernel))
theorem tw_1045 : (Jvm.Cond.constant "BreathStreetModel" (76 : Nat) (-1000000004 : Int32)) ∈ lw_tbl := List.mem_append_right _ (List.mem_of_getElem? (i := 1045) (by decide +kernel))
theorem tw_1046 : (Jvm.Cond.methodLink "BreathStreetLaw" (22 : Nat) ({ cls := "BreathStreetModel", name := "street", desc := "()I" } : Jvm.MethodName)) ∈ lw_tbl := List.mem_append_right _ (List.mem_of_getElem? (i := 1046) (by decide +kernel))
theorem tw_1047 : (Jvm.Cond.instanceMethod ({ cls := "BreathStreetModel", name := "street", desc := "()I" } : Jvm.MethodName)) ∈ lw_tbl := List.mem_append_right _ (List.mem_of_getElem? (i := 1047) (by decide +kernel))
theorem tw_1048 : (Jvm.Cond.selects "BreathStreetModel" ({ cls := "BreathStreetModel", name := "street", desc := "()I" } : Jvm.MethodName) ({ cls := "BreathStreetModel", name := "street", desc := "()I" } : Jvm.MethodName)) ∈ lw_tbl := List.mem_append_right _ (List.mem_of_getElem? (i := 1048) (by decide +kernel))
theorem tw_1049 : (Jvm.Cond.code ({ cls := "BreathStreetModel", name := "street", desc := "()I" } : Jvm.MethodName) prog_14_method_16_code (2 : Nat) (Option.some Jvm.ClassFile.FieldType.int)) ∈ lw_tbl := List.mem_append_right _ (List.mem_of_getElem? (i := 1049) (by decide +kernel))
theorem tw_1050 : (Jvm.Cond.methodLink "BreathStreetModel" (83 : Nat) ({ cls := "BreathStreetModel", name := "here", desc := "()I" } : Jvm.MethodName)) ∈ lw_tbl := List.mem_append_right _ (List.mem_of_getElem? (i := 1050) (by decide +kernel))
theorem tw_1051 : (Jvm.Cond.privateMethod ({ cls := "BreathStreetModel", name := "here", desc := "()I" } : Jvm.MethodName)) ∈ lw_tbl := List.mem_append_right _ (List.mem_of_getElem? (i := 1051) (by decide +kernel))
theorem tw_1052 : (Jvm.Cond.instanceMethod ({ cls := "BreathStreetModel", name := "here", desc := "()I" } : Jvm.MethodName)) ∈ lw_tbl := List.mem_append_right _ (List.mem_of_getElem? (i := 1052) (by decide +kernel))
theorem tw_1053 : (Jvm.Cond.code ({ cls := "BreathStreetModel", name := "here", desc := "()I" } : Jvm.MethodName) prog_14_method_9_code (1 : Nat) (Option.some Jvm.ClassFile.FieldType.int)) ∈ lw_tbl := List.mem_append_right _ (List.mem_of_getElem? (i := 1053) (by decide +kernel))
theorem tw_1054 : (Jvm.Cond.methodLink "BreathStreetModel" (128 : Nat) ({ cls := "BreathStreetModel", name := "takeClause", desc := "()V" } : Jvm.MethodName)) ∈ lw_tbl := List.mem_append_right _ (List.mem_of_getElem? (i := 1054) (by decide +kernel))
theorem tw_1055 : (Jvm.Cond.privateMethod ({ cls := "BreathStreetModel", name := "takeClause", desc := "()V" } : Jvm.MethodName)) ∈ lw_tbl := List.mem_append_right _ (List.mem_of_getElem? (i := 1055) (by decide +kernel))
theorem tw_1056 : (Jvm.Cond.instanceMethod ({ cls := "BreathStreetModel", name := "takeClause", desc := "()V" } : Jvm.MethodName)) ∈ lw_tbl := List.mem_append_right _ (List.mem_of_getElem? (i := 1056) (by decide +kernel))
theorem tw_1057 : (Jvm.Cond.code ({ cls := "BreathStreetModel", name := "takeClause", desc := "()V" } : Jvm.MethodName) prog_14_method_15_code (3 : Nat) (Option.none : Option Jvm.ClassFile.FieldType)) ∈ lw_tbl := List.mem_append_right _ (List.mem_of_getElem? (i := 1057) (by decide +kernel))
theorem tw_1058 : (Jvm.Cond.methodLink "BreathStreetModel" (94 : Nat) ({ cls := "BreathStreetModel", name := "want", desc := "(ZII)Z" } : Jvm.MethodName)) ∈ lw_tbl := List.mem_append_right _ (List.mem_of_getElem? (i := 1058) (by decide +kernel))
theorem tw_1059 : (Jvm.Cond.privateMethod ({ cls := "BreathStreetModel", name := "want", desc := "(ZII)Z" } : Jvm.MethodName)) ∈ lw_tbl := List.mem_append_right _ (List.mem_of_getElem? (i := 1059) (by decide +kernel))
theorem tw_1060 : (Jvm.Cond.instanceMethod ({ cls := "BreathStreetModel", name := "want", desc := "(ZII)Z" } : Jvm.MethodName)) ∈ lw_tbl := List.mem_append_right _ (List.mem_of_getElem? (i := 1060) (by decide +kernel))
theorem tw_1061 : (Jvm.Cond.code ({ cls := "BreathStreetModel", name := "want", desc := "(ZII)Z" } : Jvm.MethodName) prog_14_method_10_code (4 : Nat) (Option.some Jvm.ClassFile.FieldType.boolean)) ∈ lw_tbl := List.mem_append_right _ (List.mem_of_getElem? (i := 1061) (by decide +kernel))
theorem tw_1062 : (Jvm.Cond.methodLink "BreathStreetModel" (112 : Nat) ({ cls := "BreathStreetModel", name := "takeField", desc := "()V" } : Jvm.MethodName)) ∈ lw_tbl := List.mem_append_right _ (List.mem_of_getElem? (i := 1062) (by decide +kernel))
theorem tw_1063 : (Jvm.Cond.privateMethod ({ cls := "BreathStreetModel", name := "takeField", desc := "()V" } : Jvm.MethodName)) ∈ lw_tbl := List.mem_append_right _ (List.mem_of_getElem? (i := 1063) (by decide +kernel))
theorem tw_1064 : (Jvm.Cond.instanceMethod ({ cls := "BreathStreetModel", name := "takeField", desc := "()V" } : Jvm.MethodName)) ∈ lw_tbl := List.mem_append_right _ (List.mem_of_getElem? (i := 1064) (by decide +kernel))
theorem tw_1065 : (Jvm.Cond.code ({ cls := "BreathStreetModel", name := "takeField", desc := "()V" } : Jvm.MethodName) prog_14_method_12_code (2 : Nat) (Option.none : Option Jvm.ClassFile.FieldType)) ∈ lw_tbl := List.mem_append_right _ (List.mem_of_getElem? (i := 1065) (by decide +kernel))
theorem tw_1066 : (Jvm.Cond.methodLink "BreathStreetModel" (102 : Nat) ({ cls := "BreathStreetModel", name := "takeNumber", desc := "(II)I" } : Jvm.MethodName)) ∈ lw_tbl := List.mem_append_right _ (List.mem_of_getElem? (i := 1066) (by decide +kernel))
theorem tw_1067 : (Jvm.Cond.privateMethod ({ cls := "BreathStreetModel", name := "takeNumber", desc := "(II)I" } : Jvm.MethodName)) ∈ lw_tbl := List.mem_append_right _ (List.mem_of_getElem? (i := 1067) (by decide +kernel))
theorem tw_1068 : (Jvm.Cond.instanceMethod ({ cls := "BreathStreetModel", name := "takeNumber", desc := "(II)I" } : Jvm.MethodName)) ∈ lw_tbl := List.mem_append_right _ (List.mem_of_getElem? (i := 1068) (by decide +kernel))
theorem tw_1069 : (Jvm.Cond.code ({ cls := "BreathStreetModel", name := "takeNumber", desc := "(II)I" } : Jvm.MethodName) prog_14_method_11_code (6 : Nat) (Option.some Jvm.ClassFile.FieldType.int)) ∈ lw_tbl := List.mem_append_right _ (List.mem_of_getElem? (i := 1069) (by decide +kernel))
theorem tw_1070 : (Jvm.Cond.constantLong "BreathStreetModel" (90 : Nat) (48 : Int64)) ∈ lw_tbl := List.mem_append_right _ (List.mem_of_getElem? (i := 1070) (by decide +kernel))
theorem tw_1071 : (Jvm.Cond.constantLong "BreathStreetModel" (92 : Nat) (57 : Int64)) ∈ lw_tbl := List.mem_append_right _ (List.mem_of_getElem? (i := 1071) (by decide +kernel))
theorem tw_1072 : (Jvm.Cond.constant "BreathStreetModel" (98 : Nat) (99999 : Int32)) ∈ lw_tbl := List.mem_append_right _ (List.mem_of_getElem? (i := 1072) (by decide +kernel))
theorem tw_1073 : (Jvm.Cond.methodLink "BreathStreetModel" (115 : Nat) ({ cls := "BreathStreetModel", name := "takeHouse", desc := "()V" } : Jvm.MethodName)) ∈ lw_tbl := List.mem_append_right _ (List.mem_of_getElem? (i := 1073) (by decide +kernel))
theorem tw_1074 : (Jvm.Cond.privateMethod ({ cls := "BreathStreetModel", name := "takeHouse", desc := "()V" } : Jvm.MethodName)) ∈ lw_tbl := List.mem_append_right _ (List.mem_of_getElem? (i := 1074) (by decide +kernel))
theorem tw_1075 : (Jvm.Cond.instanceMethod ({ cls := "BreathStreetModel", name := "takeHouse", desc := "()V" } : Jvm.MethodName)) ∈ lw_tbl := List.mem_append_right _ (List.mem_of_getElem? (i := 1075) (by decide +kernel))
theorem tw_1076 : (Jvm.Cond.code ({ cls := "BreathStreetModel", name := "takeHouse", desc := "()V" } : Jvm.MethodName) prog_14_method_13_code (2 : Nat) (Option.none : Option Jvm.ClassFile.FieldType)) ∈ lw_tbl := List.mem_append_right _ (List.mem_of_getElem? (i := 1076) (by decide +kernel))
theorem tw_1077 : (Jvm.Cond.methodLink "BreathStreetModel" (118 : Nat) ({ cls := "BreathStreetModel", name := "takeSeam", desc := "()V" } : Jvm.MethodName)) ∈ lw_tbl := List.mem_append_right _ (List.mem_of_getElem? (i := 1077) (by decide +kernel))
theorem tw_1078 : (Jvm.Cond.privateMethod ({ cls := "BreathStreetModel", name := "takeSeam", desc := "()V" } : Jvm.MethodName)) ∈ lw_tbl := List.mem_append_right _ (List.mem_of_getElem? (i := 1078) (by decide +kernel))
theorem tw_1079 : (Jvm.Cond.instanceMethod ({ cls := "BreathStreetModel", name := "takeSeam", desc := "()V" } : Jvm.MethodName)) ∈ lw_tbl := List.mem_append_right _ (List.mem_of_getElem? (i := 1079) (by decide +kernel))
theorem tw_1080 : (Jvm.Cond.code ({ cls := "BreathStreetModel", name := "takeSeam", desc := "()V" } : Jvm.MethodName) prog_14_method_14_code (2 : Nat) (Option.none : Option Jvm.ClassFile.FieldType)) ∈ lw_tbl := List.mem_append_right _ (List.mem_of_getElem? (i := 1080) (by decide +kernel))
theorem tw_1081 : (Jvm.Cond.methodLink "BreathStreetModel" (152 : Nat) ({ cls := "BreathStreetModel", name := "common", desc := "(II)I" } : Jvm.MethodName)) ∈ lw_tbl := List.mem_append_right _ (List.mem_of_getElem? (i := 1081) (by decide +kernel))
theorem tw_1082 : (Jvm.Cond.static ({ cls := "BreathStreetModel", name := "common", desc := "(II)I" } : Jvm.MethodName)) ∈ lw_tbl := List.mem_append_right _ (List.mem_of_getElem? (i := 1082) (by decide +kernel))
theorem tw_1083 : (Jvm.Cond.code ({ cls := "BreathStreetModel", name := "common", desc := "(II)I" } : Jvm.MethodName) prog_14_method_7_code (5 : Nat) (Option.some Jvm.ClassFile.FieldType.int)) ∈ lw_tbl := List.mem_append_right _ (List.mem_of_getElem? (i := 1083) (by decide +kernel))
theorem tw_1084 : (Jvm.Cond.methodLink "BreathStreetLaw" (26 : Nat) ({ cls := "BreathStreetModel", name := "fault", desc := "()I" } : Jvm.MethodName)) ∈ lw_tbl := List.mem_append_right _ (List.mem_of_getElem? (i := 1084) (by decide +kernel))
theorem tw_1085 : (Jvm.Cond.instanceMethod ({ cls := "BreathStreetModel", name := "fault", desc := "()I" } : Jvm.MethodName)) ∈ lw_tbl := List.mem_append_right _ (List.mem_of_getElem? (i := 1085) (by decide +kernel))
theorem tw_1086 : (Jvm.Cond.selects "BreathStreetModel" ({ cls := "BreathStreetModel", name := "fault", desc := "()I" } : Jvm.MethodName) ({ cls := "BreathStreetModel", name := "fault", desc := "()I" } : Jvm.MethodName)) ∈ lw_tbl := List.mem_append_right _ (List.mem_of_getElem? (i := 1086) (by decide +kernel))
theorem tw_1087 : (Jvm.Cond.code ({ cls := "BreathStreetModel", name := "fault", desc := "()I" } : Jvm.MethodName) prog_14_method_17_code (1 : Nat) (Option.some Jvm.ClassFile.FieldType.int)) ∈ lw_tbl := List.mem_append_right _ (List.mem_of_getElem? (i := 1087) (by decide +kernel))
theorem tw_1088 : (Jvm.Cond.methodLink "BreathStreetLaw" (30 : Nat) ({ cls := "BreathStreetModel", name := "told", desc := "(I)I" } : Jvm.MethodName)) ∈ lw_tbl := List.mem_append_right _ (List.mem_of_getElem? (i := 1088) (by decide +kernel))
theorem tw_1089 : (Jvm.Cond.instanceMethod ({ cls := "BreathStreetModel", name := "told", desc := "(I)I" } : Jvm.MethodName)) ∈ lw_tbl := List.mem_append_right _ (List.mem_of_getElem? (i := 1089) (by decide +kernel))
theorem tw_1090 : (Jvm.Cond.selects "BreathStreetModel" ({ cls := "BreathStreetModel", name := "told", desc := "(I)I" } : Jvm.MethodName) ({ cls := "BreathStreetModel", name := "told", desc := "(I)I" } : Jvm.MethodName)) ∈ lw_tbl := List.mem_append_right _ (List.mem_of_getElem? (i := 1090) (by decide +kernel))
theorem tw_1091 : (Jvm.Cond.code ({ cls := "BreathStreetModel", name := "told", desc := "(I)I" } : Jvm.MethodName) prog_14_method_27_code (2 : Nat) (Option.some Jvm.ClassFile.FieldType.int)) ∈ lw_tbl := List.mem_append_right _ (List.mem_of_getElem? (i := 1091) (by decide +kernel))
theorem tw_1092 : (Jvm.Cond.methodLink "BreathStreetModel" (180 : Nat) ({ cls := "BreathStreetModel", name := "openNow", desc := "()I" } : Jvm.MethodName)) ∈ lw_tbl := List.mem_append_right _ (List.mem_of_getElem? (i := 1092) (by decide +kernel))
theorem tw_1093 : (Jvm.Cond.privateMethod ({ cls := "BreathStreetModel", name := "openNow", desc := "()I" } : Jvm.MethodName)) ∈ lw_tbl := List.mem_append_right _ (List.mem_of_getElem? (i := 1093) (by decide +kernel))
theorem tw_1094 : (Jvm.Cond.instanceMethod ({ cls := "BreathStreetModel", name := "openNow", desc := "()I" } : Jvm.MethodName)) ∈ lw_tbl := List.mem_append_right _ (List.mem_of_getElem? (i := 1094) (by decide +kernel))
theorem tw_1095 : (Jvm.Cond.code ({ cls := "BreathStreetModel", name := "openNow", desc := "()I" } : Jvm.MethodName) prog_14_method_25_code (3 : Nat) (Option.some Jvm.ClassFile.FieldType.int)) ∈ lw_tbl := List.mem_append_right _ (List.mem_of_getElem? (i := 1095) (by decide +kernel))
theorem tw_1096 : (Jvm.Cond.methodLink "BreathStreetModel" (169 : Nat) ({ cls := "BreathStreetModel", name := "isSeamOpen", desc := "(II)Z" } : Jvm.MethodName)) ∈ lw_tbl := List.mem_append_right _ (List.mem_of_getElem? (i := 1096) (by decide +kernel))
theorem tw_1097 : (Jvm.Cond.privateMethod ({ cls := "BreathStreetModel", name := "isSeamOpen", desc := "(II)Z" } : Jvm.MethodName)) ∈ lw_tbl := List.mem_append_right _ (List.mem_of_getElem? (i := 1097) (by decide +kernel))
theorem tw_1098 : (Jvm.Cond.instanceMethod ({ cls := "BreathStreetModel", name := "isSeamOpen", desc := "(II)Z" } : Jvm.MethodName)) ∈ lw_tbl := List.mem_append_right _ (List.mem_of_getElem? (i := 1098) (by decide +kernel))
theorem tw_1099 : (Jvm.Cond.code ({ cls := "BreathStreetModel", name := "isSeamOpen", desc := "(II)Z" } : Jvm.MethodName) prog_14_method_23_code (4 : Nat) (Option.some Jvm.ClassFile.FieldType.boolean)) ∈ lw_tbl := List.mem_append_right _ (List.mem_of_getElem? (i := 1099) (by decide +kernel))
theorem tw_1100 : (Jvm.Cond.methodLink "BreathStreetModel" (173 : Nat) ({ cls := "BreathStreetModel", name := "one", desc := "(Z)I" } : Jvm.MethodName)) ∈ lw_tbl := List.mem_append_right _ (List.mem_of_getElem? (i := 1100) (by decide +kernel))
theorem tw_1101 : (Jvm.Cond.static ({ cls := "BreathStreetModel", name := "one", desc := "(Z)I" } : Jvm.MethodName)) ∈ lw_tbl := List.mem_append_right _ (List.mem_of_getElem? (i := 1101) (by decide +kernel))
theorem tw_1102 : (Jvm.Cond.code ({ cls := "BreathStreetModel", name := "one", desc := "(Z)I" } : Jvm.MethodName) prog_14_method_4_code (1 : Nat) (Option.some Jvm.ClassFile.FieldType.int)) ∈ lw_tbl := List.mem_append_right _ (List.mem_of_getElem? (i := 1102) (by decide +kernel))
theorem tw_1103 : (Jvm.Cond.methodLink "BreathStreetModel" (183 : Nat) ({ cls := "BreathStreetModel", name := "crackNow", desc := "()I" } : Jvm.MethodName)) ∈ lw_tbl := List.mem_append_right _ (List.mem_of_getElem? (i := 1103) (by decide +kernel))
theorem tw_1104 : (Jvm.Cond.privateMethod ({ cls := "BreathStreetModel", name := "crackNow", desc := "()I" } : Jvm.MethodName)) ∈ lw_tbl := List.mem_append_right _ (List.mem_of_getElem? (i := 1104) (by decide +kernel))
theorem tw_1105 : (Jvm.Cond.instanceMethod ({ cls := "BreathStreetModel", name := "crackNow", desc := "()I" } : Jvm.MethodName)) ∈ lw_tbl := List.mem_append_right _ (List.mem_of_getElem? (i := 1105) (by decide +kernel))
theorem tw_1106 : (Jvm.Cond.code ({ cls := "BreathStreetModel", name := "crackNow", desc := "()I" } : Jvm.MethodName) prog_14_method_26_code (3 : Nat) (Option.some Jvm.ClassFile.FieldType.int)) ∈ lw_tbl := List.mem_append_right _ (List.mem_of_getElem? (i := 1106) (by decide +kernel))
theorem tw_1107 : (Jvm.Cond.methodLink "BreathStreetModel" (177 : Nat) ({ cls := "BreathStreetModel", name := "cracksAt", desc := "(II)Z" } : Jvm.MethodName)) ∈ lw_tbl := List.mem_append_right _ (List.mem_of_getElem? (i := 1107) (by decide +kernel))
theorem tw_1108 : (Jvm.Cond.privateMethod ({ cls := "BreathStreetModel", name := "cracksAt", desc := "(II)Z" } : Jvm.MethodName)) ∈ lw_tbl := List.mem_append_right _ (List.mem_of_getElem? (i := 1108) (by decide +kernel))
theorem tw_1109 : (Jvm.Cond.instanceMethod ({ cls := "BreathStreetModel", name := "cracksAt", desc := "(II)Z" } : Jvm.MethodName)) ∈ lw_tbl := List.mem_append_right _ (List.mem_of_getElem? (i := 1109) (by decide +kernel))
theorem tw_1110 : (Jvm.Cond.code ({ cls := "BreathStreetModel", name := "cracksAt", desc := "(II)Z" } : Jvm.MethodName) prog_14_method_24_code (3 : Nat) (Option.some Jvm.ClassFile.FieldType.boolean)) ∈ lw_tbl := List.mem_append_right _ (List.mem_of_getElem? (i := 1110) (by decide +kernel))
theorem tw_1111 : (Jvm.Cond.methodLink "BreathStreetModel" (162 : Nat) ({ cls := "BreathStreetModel", name := "leanOf", desc := "(II)I" } : Jvm.MethodName)) ∈ lw_tbl := List.mem_append_right _ (List.mem_of_getElem? (i := 1111) (by decide +kernel))
theorem tw_1112 : (Jvm.Cond.privateMethod ({ cls := "BreathStreetModel", name := "leanOf", desc := "(II)I" } : Jvm.MethodName)) ∈ lw_tbl := List.mem_append_right _ (List.mem_of_getElem? (i := 1112) (by decide +kernel))
theorem tw_1113 : (Jvm.Cond.instanceMethod ({ cls := "BreathStreetModel", name := "leanOf", desc := "(II)I" } : Jvm.MethodName)) ∈ lw_tbl := List.mem_append_right _ (List.mem_of_getElem? (i := 1113) (by decide +kernel))
theorem tw_1114 : (Jvm.Cond.code ({ cls := "BreathStreetModel", name := "leanOf", desc := "(II)I" } : Jvm.MethodName) prog_14_method_21_code (3 : Nat) (Option.some Jvm.ClassFile.FieldType.int)) ∈ lw_tbl := List.mem_append_right _ (List.mem_of_getElem? (i := 1114) (by decide +kernel))
theorem tw_1115 : (Jvm.Cond.methodLink "BreathStreetModel" (159 : Nat) ({ cls := "BreathStreetModel", name := "heightOf", desc := "(II)I" } : Jvm.MethodName)) ∈ lw_tbl := List.mem_append_right _ (List.mem_of_getElem? (i := 1115) (by decide +kernel))
theorem tw_1116 : (Jvm.Cond.privateMethod ({ cls := "BreathStreetModel", name := "heightOf", desc := "(II)I" } : Jvm.MethodName)) ∈ lw_tbl := List.mem_append_right _ (List.mem_of_getElem? (i := 1116) (by decide +kernel))
theorem tw_1117 : (Jvm.Cond.instanceMethod ({ cls := "BreathStreetModel", name := "heightOf", desc := "(II)I" } : Jvm.MethodName)) ∈ lw_tbl := List.mem_append_right _ (List.mem_of_getElem? (i := 1117) (by decide +kernel))
theorem tw_1118 : (Jvm.Cond.code ({ cls := "BreathStreetModel", name := "heightOf", desc := "(II)I" } : Jvm.MethodName) prog_14_method_20_code (3 : Nat) (Option.some Jvm.ClassFile.FieldType.int)) ∈ lw_tbl := List.mem_append_right _ (List.mem_of_getElem? (i := 1118) (by decide +kernel))
theorem tw_1119 : (Jvm.Cond.methodLink "BreathStreetModel" (155 : Nat) ({ cls := "BreathStreetModel", name := "heightBy", desc := "(IIIII)I" } : Jvm.MethodName)) ∈ lw_tbl := List.mem_append_right _ (List.mem_of_getElem? (i := 1119) (by decide +kernel))
theorem tw_1120 : (Jvm.Cond.static ({ cls := "BreathStreetModel", name := "heightBy", desc := "(IIIII)I" } : Jvm.MethodName)) ∈ lw_tbl := List.mem_append_right _ (List.mem_of_getElem? (i := 1120) (by decide +kernel))
theorem tw_1121 : (Jvm.Cond.code ({ cls := "BreathStreetModel", name := "heightBy", desc := "(IIIII)I" } : Jvm.MethodName) prog_14_method_19_code (6 : Nat) (Option.some Jvm.ClassFile.FieldType.int)) ∈ lw_tbl := List.mem_append_right _ (List.mem_of_getElem? (i := 1121) (by decide +kernel))
theorem tw_1122 : (Jvm.Cond.methodLink "BreathStreetModel" (165 : Nat) ({ cls := "BreathStreetModel", name := "size", desc := "(I)I" } : Jvm.MethodName)) ∈ lw_tbl := List.mem_append_right _ (List.mem_of_getElem? (i := 1122) (by decide +kernel))
theorem tw_1123 : (Jvm.Cond.static ({ cls := "BreathStreetModel", name := "size", desc := "(I)I" } : Jvm.MethodName)) ∈ lw_tbl := List.mem_append_right _ (List.mem_of_getElem? (i := 1123) (by decide +kernel))
theorem tw_1124 : (Jvm.Cond.code ({ cls := "BreathStreetModel", name := "size", desc := "(I)I" } : Jvm.MethodName) prog_14_method_22_code (1 : Nat) (Option.some Jvm.ClassFile.FieldType.int)) ∈ lw_tbl := List.mem_append_right _ (List.mem_of_getElem? (i := 1124) (by decide +kernel))
theorem tw_1125 : (Jvm.Cond.methodLink "BreathStreetLaw" (35 : Nat) ({ cls := "BreathStreetModel", name := "field", desc := "(II)I" } : Jvm.MethodName)) ∈ lw_tbl := List.mem_append_right _ (List.mem_of_getElem? (i := 1125) (by decide +kernel))
theorem tw_1126 : (Jvm.Cond.instanceMethod ({ cls := "BreathStreetModel", name := "field", desc := "(II)I" } : Jvm.MethodName)) ∈ lw_tbl := List.mem_append_right _ (List.mem_of_getElem? (i := 1126) (by decide +kernel))
theorem tw_1127 : (Jvm.Cond.selects "BreathStreetModel" ({ cls := "BreathStreetModel", name := "field", desc := "(II)I" } : Jvm.MethodName) ({ cls := "BreathStreetModel", name := "field", desc := "(II)I" } : Jvm.MethodName)) ∈ lw_tbl := List.mem_append_right _ (List.mem_of_getElem? (i := 1127) (by decide +kernel))
theorem tw_1128 : (Jvm.Cond.code ({ cls := "BreathStreetModel", name := "field", desc := "(II)I" } : Jvm.MethodName) prog_14_method_28_code (3 : Nat) (Option.some Jvm.ClassFile.FieldType.int)) ∈ lw_tbl := List.mem_append_right _ (List.mem_of_getElem? (i := 1128) (by decide +kernel))
theorem tw_1129 : (Jvm.Cond.methodLink "BreathStreetModel" (186 : Nat) ({ cls := "BreathStreetModel", name := "isField", desc := "(I)Z" } : Jvm.MethodName)) ∈ lw_tbl := List.mem_append_right _ (List.mem_of_getElem? (i := 1129) (by decide +kernel))
theorem tw_1130 : (Jvm.Cond.privateMethod ({ cls := "BreathStreetModel", name := "isField", desc := "(I)Z" } : Jvm.MethodName)) ∈ lw_tbl := List.mem_append_right _ (List.mem_of_getElem? (i := 1130) (by decide +kernel))
theorem tw_1131 : (Jvm.Cond.instanceMethod ({ cls := "BreathStreetModel", name := "isField", desc := "(I)Z" } : Jvm.MethodName)) ∈ lw_tbl := List.mem_append_right _ (List.mem_of_getElem? (i := 1131) (by decide +kernel))
theorem tw_1132 : (Jvm.Cond.code ({ cls := "BreathStreetModel", name := "isField", desc := "(I)Z" } : Jvm.MethodName) prog_14_method_18_code (2 : Nat) (Option.some Jvm.ClassFile.FieldType.boolean)) ∈ lw_tbl := List.mem_append_right _ (List.mem_of_getElem? (i := 1132) (by decide +kernel))
theorem tw_1133 : (Jvm.Cond.constant "BreathStreetModel" (190 : Nat) (-1000000001 : Int32)) ∈ lw_tbl := List.mem_append_right _ (List.mem_of_getElem? (i := 1133) (by decide +kernel))
theorem tw_1134 : (Jvm.Cond.constantLong "BreathStreetModel" (191 : Nat) (3 : Int64)) ∈ lw_tbl := List.mem_append_right _ (List.mem_of_getElem? (i := 1134) (by decide +kernel))
theorem tw_1135 : (Jvm.Cond.methodLink "BreathStreetLaw" (39 : Nat) ({ cls := "BreathStreetModel", name := "height", desc := "(II)I" } : Jvm.MethodName)) ∈ lw_tbl := List.mem_append_right _ (List.mem_of_getElem? (i := 1135) (by decide +kernel))
theorem tw_1136 : (Jvm.Cond.instanceMethod ({ cls := "BreathStreetModel", name := "height", desc := "(II)I" } : Jvm.MethodName)) ∈ lw_tbl := List.mem_append_right _ (List.mem_of_getElem? (i := 1136) (by decide +kernel))
theorem tw_1137 : (Jvm.Cond.selects "BreathStreetModel" ({ cls := "BreathStreetModel", name := "height", desc := "(II)I" } : Jvm.MethodName) ({ cls := "BreathStreetModel", name := "height", desc := "(II)I" } : Jvm.MethodName)) ∈ lw_tbl := List.mem_append_right _ (List.mem_of_getElem? (i := 1137) (by decide +kernel))
theorem tw_1138 : (Jvm.Cond.code ({ cls := "BreathStreetModel", name := "height", desc := "(II)I" } : Jvm.MethodName) prog_14_method_29_code (3 : Nat) (Option.some Jvm.ClassFile.FieldType.int)) ∈ lw_tbl := List.mem_append_right _ (List.mem_of_getElem? (i := 1138) (by decide +kernel))
theorem tw_1139 : (Jvm.Cond.constantLong "BreathStreetModel" (193 : Nat) (1000000 : Int64)) ∈ lw_tbl := List.mem_append_right _ (List.mem_of_getElem? (i := 1139) (by decide +kernel))
theorem tw_1140 : (Jvm.Cond.methodLink "BreathStreetLaw" (43 : Nat) ({ cls := "BreathStreetModel", name := "house", desc := "(II)I" } : Jvm.MethodName)) ∈ lw_tbl := List.mem_append_right _ (List.mem_of_getElem? (i := 1140) (by decide +kernel))
theorem tw_1141 : (Jvm.Cond.instanceMethod ({ cls := "BreathStreetModel", name := "house", desc := "(II)I" } : Jvm.MethodName)) ∈ lw_tbl := List.mem_append_right _ (List.mem_of_getElem? (i := 1141) (by decide +kernel))
theorem tw_1142 : (Jvm.Cond.selects "BreathStreetModel" ({ cls := "BreathStreetModel", name := "house", desc := "(II)I" } : Jvm.MethodName) ({ cls := "BreathStreetModel", name := "house", desc := "(II)I" } : Jvm.MethodName)) ∈ lw_tbl := List.mem_append_right _ (List.mem_of_getElem? (i := 1142) (by decide +kernel))
theorem tw_1143 : (Jvm.Cond.code ({ cls := "BreathStreetModel", name := "house", desc := "(II)I" } : Jvm.MethodName) prog_14_method_31_code (3 : Nat) (Option.some Jvm.ClassFile.FieldType.int)) ∈ lw_tbl := List.mem_append_right _ (List.mem_of_getElem? (i := 1143) (by decide +kernel))
theorem tw_1144 : (Jvm.Cond.methodLink "BreathStreetModel" (195 : Nat) ({ cls := "BreathStreetModel", name := "needs", desc := "(I)I" } : Jvm.MethodName)) ∈ lw_tbl := List.mem_append_right _ (List.mem_of_getElem? (i := 1144) (by decide +kernel))
theorem tw_1145 : (Jvm.Cond.privateMethod ({ cls := "BreathStreetModel", name := "needs", desc := "(I)I" } : Jvm.MethodName)) ∈ lw_tbl := List.mem_append_right _ (List.mem_of_getElem? (i := 1145) (by decide +kernel))
theorem tw_1146 : (Jvm.Cond.instanceMethod ({ cls := "BreathStreetModel", name := "needs", desc := "(I)I" } : Jvm.MethodName)) ∈ lw_tbl := List.mem_append_right _ (List.mem_of_getElem? (i := 1146) (by decide +kernel))
theorem tw_1147 : (Jvm.Cond.code ({ cls := "BreathStreetModel", name := "needs", desc := "(I)I" } : Jvm.MethodName) prog_14_method_30_code (5 : Nat) (Option.some Jvm.ClassFile.FieldType.int)) ∈ lw_tbl := List.mem_append_right _ (List.mem_of_getElem? (i := 1147) (by decide +kernel))
theorem tw_1148 : (Jvm.Cond.methodLink "BreathStreetLaw" (47 : Nat) ({ cls := "BreathStreetModel", name := "seam", desc := "(II)I" } : Jvm.MethodName)) ∈ lw_tbl := List.mem_append_right _ (List.mem_of_getElem? (i := 1148) (by decide +kernel))
theorem tw_1149 : (Jvm.Cond.instanceMethod ({ cls := "BreathStreetModel", name := "seam", desc := "(II)I" } : Jvm.MethodName)) ∈ lw_tbl := List.mem_append_right _ (List.mem_of_getElem? (i := 1149) (by decide +kernel))
theorem tw_1150 : (Jvm.Cond.selects "BreathStreetModel" ({ cls := "BreathStreetModel", name := "seam", desc := "(II)I" } : Jvm.MethodName) ({ cls := "BreathStreetModel", name := "seam", desc := "(II)I" } : Jvm.MethodName)) ∈ lw_tbl := List.mem_append_right _ (List.mem_of_getElem? (i := 1150) (by decide +kernel))
theorem tw_1151 : (Jvm.Cond.code ({ cls := "BreathStreetModel", name := "seam", desc := "(II)I" } : Jvm.MethodName) prog_14_method_32_code (3 : Nat) (Option.some Jvm.ClassFile.FieldType.int)) ∈ lw_tbl := List.mem_append_right _ (List.mem_of_getElem? (i := 1151) (by decide +kernel))
theorem tw_1152 : (Jvm.Cond.methodLink "BreathStreetLaw" (51 : Nat) ({ cls := "BreathStreetModel", name := "step", desc := "(I)I" } : Jvm.MethodName)) ∈ lw_tbl := List.mem_append_right _ (List.mem_of_getElem? (i := 1152) (by decide +kernel))
theorem tw_1153 : (Jvm.Cond.instanceMethod ({ cls := "BreathStreetModel", name := "step", desc := "(I)I" } : Jvm.MethodName)) ∈ lw_tbl := List.mem_append_right _ (List.mem_of_getElem? (i := 1153) (by decide +kernel))
theorem tw_1154 : (Jvm.Cond.selects "BreathStreetModel" ({ cls := "BreathStreetModel", name := "step", desc := "(I)I" } : Jvm.MethodName) ({ cls := "BreathStreetModel", name := "step", desc := "(I)I" } : Jvm.MethodName)) ∈ lw_tbl := List.mem_append_right _ (List.mem_of_getElem? (i := 1154) (by decide +kernel))
theorem tw_1155 : (Jvm.Cond.code ({ cls := "BreathStreetModel", name := "step", desc := "(I)I" } : Jvm.MethodName) prog_14_method_35_code (2 : Nat) (Option.some Jvm.ClassFile.FieldType.int)) ∈ lw_tbl := List.mem_append_right _ (List.mem_of_getElem? (i := 1155) (by decide +kernel))
theorem tw_1156 : (Jvm.Cond.methodLink "BreathStreetModel" (204 : Nat) ({ cls := "BreathStreetModel", name := "pass", desc := "(II)I" } : Jvm.MethodName)) ∈ lw_tbl := List.mem_append_right _ (List.mem_of_getElem? (i := 1156) (by decide +kernel))
theorem tw_1157 : (Jvm.Cond.privateMethod ({ cls := "BreathStreetModel", name := "pass", desc := "(II)I" } : Jvm.MethodName)) ∈ lw_tbl := List.mem_append_right _ (List.mem_of_getElem? (i := 1157) (by decide +kernel))
theorem tw_1158 : (Jvm.Cond.instanceMethod ({ cls := "BreathStreetModel", name := "pass", desc := "(II)I" } : Jvm.MethodName)) ∈ lw_tbl := List.mem_append_right _ (List.mem_of_getElem? (i := 1158) (by decide +kernel))
theorem tw_1159 : (Jvm.Cond.code ({ cls := "BreathStreetModel", name := "pass", desc := "(II)I" } : Jvm.MethodName) prog_14_method_34_code (4 : Nat) (Option.some Jvm.ClassFile.FieldType.int)) ∈ lw_tbl := List.mem_append_right _ (List.mem_of_getElem? (i := 1159) (by decide +kernel))
theorem tw_1160 : (Jvm.Cond.constantLong "BreathStreetModel" (198 : Nat) (999 : Int64)) ∈ lw_tbl := List.mem_append_right _ (List.mem_of_getElem? (i := 1160) (by decide +kernel))
theorem tw_1161 : (Jvm.Cond.constant "BreathStreetModel" (200 : Nat) (900000 : Int32)) ∈ lw_tbl := List.mem_append_right _ (List.mem_of_getElem? (i := 1161) (by decide +kernel))
theorem tw_1162 : (Jvm.Cond.methodLink "BreathStreetModel" (201 : Nat) ({ cls := "BreathStreetModel", name := "remember", desc := "()V" } : Jvm.MethodName)) ∈ lw_tbl := List.mem_append_right _ (List.mem_of_getElem? (i := 1162) (by decide +kernel))
theorem tw_1163 : (Jvm.Cond.privateMethod ({ cls := "BreathStreetModel", name := "remember", desc := "()V" } : Jvm.MethodName)) ∈ lw_tbl := List.mem_append_right _ (List.mem_of_getElem? (i := 1163) (by decide +kernel))
theorem tw_1164 : (Jvm.Cond.instanceMethod ({ cls := "BreathStreetModel", name := "remember", desc := "()V" } : Jvm.MethodName)) ∈ lw_tbl := List.mem_append_right _ (List.mem_of_getElem? (i := 1164) (by decide +kernel))
theorem tw_1165 : (Jvm.Cond.code ({ cls := "BreathStreetModel", name := "remember", desc := "()V" } : Jvm.MethodName) prog_14_method_33_code (2 : Nat) (Option.none : Option Jvm.ClassFile.FieldType)) ∈ lw_tbl := List.mem_append_right _ (List.mem_of_getElem? (i := 1165) (by decide +kernel))
theorem tw_1166 : (Jvm.Cond.methodLink "BreathStreetLaw" (55 : Nat) ({ cls := "BreathStreetModel", name := "hold", desc := "(I)I" } : Jvm.MethodName)) ∈ lw_tbl := List.mem_append_right _ (List.mem_of_getElem? (i := 1166) (by decide +kernel))
theorem tw_1167 : (Jvm.Cond.instanceMethod ({ cls := "BreathStreetModel", name := "hold", desc := "(I)I" } : Jvm.MethodName)) ∈ lw_tbl := List.mem_append_right _ (List.mem_of_getElem? (i := 1167) (by decide +kernel))
theorem tw_1168 : (Jvm.Cond.selects "BreathStreetModel" ({ cls := "BreathStreetModel", name := "hold", desc := "(I)I" } : Jvm.MethodName) ({ cls := "BreathStreetModel", name := "hold", desc := "(I)I" } : Jvm.MethodName)) ∈ lw_tbl := List.mem_append_right _ (List.mem_of_getElem? (i := 1168) (by decide +kernel))
theorem tw_1169 : (Jvm.Cond.code ({ cls := "BreathStreetModel", name := "hold", desc := "(I)I" } : Jvm.MethodName) prog_14_method_36_code (2 : Nat) (Option.some Jvm.ClassFile.FieldType.int)) ∈ lw_tbl := List.mem_append_right _ (List.mem_of_getElem? (i := 1169) (by decide +kernel))
theorem tw_1170 : (Jvm.Cond.methodLink "BreathStreetLaw" (59 : Nat) ({ cls := "BreathStreetModel", name := "roll", desc := "(I)I" } : Jvm.MethodName)) ∈ lw_tbl := List.mem_append_right _ (List.mem_of_getElem? (i := 1170) (by decide +kernel))
theorem tw_1171 : (Jvm.Cond.instanceMethod ({ cls := "BreathStreetModel", name := "roll", desc := "(I)I" } : Jvm.MethodName)) ∈ lw_tbl := List.mem_append_right _ (List.mem_of_getElem? (i := 1171) (by decide +kernel))
theorem tw_1172 : (Jvm.Cond.selects "BreathStreetModel" ({ cls := "BreathStreetModel", name := "roll", desc := "(I)I" } : Jvm.MethodName) ({ cls := "BreathStreetModel", name := "roll", desc := "(I)I" } : Jvm.MethodName)) ∈ lw_tbl := List.mem_append_right _ (List.mem_of_getElem? (i := 1172) (by decide +kernel))
theorem tw_1173 : (Jvm.Cond.code ({ cls := "BreathStreetModel", name := "roll", desc := "(I)I" } : Jvm.MethodName) prog_14_method_40_code (2 : Nat) (Option.some Jvm.ClassFile.FieldType.int)) ∈ lw_tbl := List.mem_append_right _ (List.mem_of_getElem? (i := 1173) (by decide +kernel))
theorem tw_1174 : (Jvm.Cond.constantLong "BreathStreetModel" (214 : Nat) (2 : Int64)) ∈ lw_tbl := List.mem_append_right _ (List.mem_of_getElem? (i := 1174) (by decide +kernel))
theorem tw_1175 : (Jvm.Cond.methodLink "BreathStreetModel" (207 : Nat) ({ cls := "BreathStreetModel", name := "to", desc := "(III)I" } : Jvm.MethodName)) ∈ lw_tbl := List.mem_append_right _ (List.mem_of_getElem? (i := 1175) (by decide +kernel))
theorem tw_1176 : (Jvm.Cond.privateMethod ({ cls := "BreathStreetModel", name := "to", desc := "(III)I" } : Jvm.MethodName)) ∈ lw_tbl := List.mem_append_right _ (List.mem_of_getElem? (i := 1176) (by decide +kernel))
theorem tw_1177 : (Jvm.Cond.instanceMethod ({ cls := "BreathStreetModel", name := "to", desc := "(III)I" } : Jvm.MethodName)) ∈ lw_tbl := List.mem_append_right _ (List.mem_of_getElem? (i := 1177) (by decide +kernel))
theorem tw_1178 : (Jvm.Cond.code ({ cls := "BreathStreetModel", name := "to", desc := "(III)I" } : Jvm.MethodName) prog_14_method_37_code (8 : Nat) (Option.some Jvm.ClassFile.FieldType.int)) ∈ lw_tbl := List.mem_append_right _ (List.mem_of_getElem? (i := 1178) (by decide +kernel))
theorem tw_1179 : (Jvm.Cond.constant "BreathStreetModel" (216 : Nat) (-1000000003 : Int32)) ∈ lw_tbl := List.mem_append_right _ (List.mem_of_getElem? (i := 1179) (by decide +kernel))
theorem tw_1180 : (Jvm.Cond.methodLink "BreathStreetModel" (217 : Nat) ({ cls := "BreathStreetModel", name := "rollOn", desc := "(II)I" } : Jvm.MethodName)) ∈ lw_tbl := List.mem_append_right _ (List.mem_of_getElem? (i := 1180) (by decide +kernel))
theorem tw_1181 : (Jvm.Cond.privateMethod ({ cls := "BreathStreetModel", name := "rollOn", desc := "(II)I" } : Jvm.MethodName)) ∈ lw_tbl := List.mem_append_right _ (List.mem_of_getElem? (i := 1181) (by decide +kernel))
theorem tw_1182 : (Jvm.Cond.instanceMethod ({ cls := "BreathStreetModel", name := "rollOn", desc := "(II)I" } : Jvm.MethodName)) ∈ lw_tbl := List.mem_append_right _ (List.mem_of_getElem? (i := 1182) (by decide +kernel))
theorem tw_1183 : (Jvm.Cond.code ({ cls := "BreathStreetModel", name := "rollOn", desc := "(II)I" } : Jvm.MethodName) prog_14_method_39_code (5 : Nat) (Option.some Jvm.ClassFile.FieldType.int)) ∈ lw_tbl := List.mem_append_right _ (List.mem_of_getElem? (i := 1183) (by decide +kernel))
theorem tw_1184 : (Jvm.Cond.methodLink "BreathStreetModel" (211 : Nat) ({ cls := "BreathStreetModel", name := "pulledBy", desc := "(III)I" } : Jvm.MethodName)) ∈ lw_tbl := List.mem_append_right _ (List.mem_of_getElem? (i := 1184) (by decide +kernel))
theorem tw_1185 : (Jvm.Cond.privateMethod ({ cls := "BreathStreetModel", name := "pulledBy", desc := "(III)I" } : Jvm.MethodName)) ∈ lw_tbl := List.mem_append_right _ (List.mem_of_getElem? (i := 1185) (by decide +kernel))
theorem tw_1186 : (Jvm.Cond.instanceMethod ({ cls := "BreathStreetModel", name := "pulledBy", desc := "(III)I" } : Jvm.MethodName)) ∈ lw_tbl := List.mem_append_right _ (List.mem_of_getElem? (i := 1186) (by decide +kernel))
theorem tw_1187 : (Jvm.Cond.code ({ cls := "BreathStreetModel", name := "pulledBy", desc := "(III)I" } : Jvm.MethodName) prog_14_method_38_code (5 : Nat) (Option.some Jvm.ClassFile.FieldType.int)) ∈ lw_tbl := List.mem_append_right _ (List.mem_of_getElem? (i := 1187) (by decide +kernel))
theorem tw_1188 : (Jvm.Cond.methodLink "BreathStreetLaw" (63 : Nat) ({ cls := "BreathStreetModel", name := "slack", desc := "(II)I" } : Jvm.MethodName)) ∈ lw_tbl := List.mem_append_right _ (List.mem_of_getElem? (i := 1188) (by decide +kernel))
theorem tw_1189 : (Jvm.Cond.instanceMethod ({ cls := "BreathStreetModel", name := "slack", desc := "(II)I" } : Jvm.MethodName)) ∈ lw_tbl := List.mem_append_right _ (List.mem_of_getElem? (i := 1189) (by decide +kernel))
theorem tw_1190 : (Jvm.Cond.selects "BreathStreetModel" ({ cls := "BreathStreetModel", name := "slack", desc := "(II)I" } : Jvm.MethodName) ({ cls := "BreathStreetModel", name := "slack", desc := "(II)I" } : Jvm.MethodName)) ∈ lw_tbl := List.mem_append_right _ (List.mem_of_getElem? (i := 1190) (by decide +kernel))
theorem tw_1191 : (Jvm.Cond.code ({ cls := "BreathStreetModel", name := "slack", desc := "(II)I" } : Jvm.MethodName) prog_14_method_41_code (4 : Nat) (Option.some Jvm.ClassFile.FieldType.int)) ∈ lw_tbl := List.mem_append_right _ (List.mem_of_getElem? (i := 1191) (by decide +kernel))
theorem tw_1192 : (Jvm.Cond.methodLink "BreathStreetLaw" (67 : Nat) ({ cls := "BreathStreetModel", name := "drift", desc := "(I)I" } : Jvm.MethodName)) ∈ lw_tbl := List.mem_append_right _ (List.mem_of_getElem? (i := 1192) (by decide +kernel))
theorem tw_1193 : (Jvm.Cond.instanceMethod ({ cls := "BreathStreetModel", name := "drift", desc := "(I)I" } : Jvm.MethodName)) ∈ lw_tbl := List.mem_append_right _ (List.mem_of_getElem? (i := 1193) (by decide +kernel))
theorem tw_1194 : (Jvm.Cond.selects "BreathStreetModel" ({ cls := "BreathStreetModel", name := "drift", desc := "(I)I" } : Jvm.MethodName) ({ cls := "BreathStreetModel", name := "drift", desc := "(I)I" } : Jvm.MethodName)) ∈ lw_tbl := List.mem_append_right _ (List.mem_of_getElem? (i := 1194) (by decide +kernel))
theorem tw_1195 : (Jvm.Cond.code ({ cls := "BreathStreetModel", name := "drift", desc := "(I)I" } : Jvm.MethodName) prog_14_method_43_code (6 : Nat) (Option.some Jvm.ClassFile.FieldType.int)) ∈ lw_tbl := List.mem_append_right _ (List.mem_of_getElem? (i := 1195) (by decide +kernel))
theorem tw_1196 : (Jvm.Cond.constantLong "BreathStreetModel" (227 : Nat) (99 : Int64)) ∈ lw_tbl := List.mem_append_right _ (List.mem_of_getElem? (i := 1196) (by decide +kernel))
theorem tw_1197 : (Jvm.Cond.methodLink "BreathStreetModel" (229 : Nat) ({ cls := "BreathStreetModel", name := "draw", desc := "(I)I" } : Jvm.MethodName)) ∈ lw_tbl := List.mem_append_right _ (List.mem_of_getElem? (i := 1197) (by decide +kernel))
theorem tw_1198 : (Jvm.Cond.privateMethod ({ cls := "BreathStreetModel", name := "draw", desc := "(I)I" } : Jvm.MethodName)) ∈ lw_tbl := List.mem_append_right _ (List.mem_of_getElem? (i := 1198) (by decide +kernel))
theorem tw_1199 : (Jvm.Cond.instanceMethod ({ cls := "BreathStreetModel", name := "draw", desc := "(I)I" } : Jvm.MethodName)) ∈ lw_tbl := List.mem_append_right _ (List.mem_of_getElem? (i := 1199) (by decide +kernel))
theorem tw_1200 : (Jvm.Cond.code ({ cls := "BreathStreetModel", name := "draw", desc := "(I)I" } : Jvm.MethodName) prog_14_method_42_code (2 : Nat) (Option.some Jvm.ClassFile.FieldType.int)) ∈ lw_tbl := List.mem_append_right _ (List.mem_of_getElem? (i := 1200) (by decide +kernel))
theorem tw_1201 : (Jvm.Cond.constantLong "BreathStreetModel" (220 : Nat) (1103515245 : Int64)) ∈ lw_tbl := List.mem_append_right _ (List.mem_of_getElem? (i := 1201) (by decide +kernel))
theorem tw_1202 : (Jvm.Cond.constantLong "BreathStreetModel" (222 : Nat) (12345 : Int64)) ∈ lw_tbl := List.mem_append_right _ (List.mem_of_getElem? (i := 1202) (by decide +kernel))
theorem tw_1203 : (Jvm.Cond.constantLong "BreathStreetModel" (224 : Nat) (2147483648 : Int64)) ∈ lw_tbl := List.mem_append_right _ (List.mem_of_getElem? (i := 1203) (by decide +kernel))
theorem tw_1204 : (Jvm.Cond.constant "BreathStreetModel" (226 : Nat) (65536 : Int32)) ∈ lw_tbl := List.mem_append_right _ (List.mem_of_getElem? (i := 1204) (by decide +kernel))
theorem tw_1205 : (Jvm.Cond.methodLink "BreathStreetLaw" (71 : Nat) ({ cls := "BreathStreetModel", name := "undo", desc := "(I)I" } : Jvm.MethodName)) ∈ lw_tbl := List.mem_append_right _ (List.mem_of_getElem? (i := 1205) (by decide +kernel))
theorem tw_1206 : (Jvm.Cond.instanceMethod ({ cls := "BreathStreetModel", name := "undo", desc := "(I)I" } : Jvm.MethodName)) ∈ lw_tbl := List.mem_append_right _ (List.mem_of_getElem? (i := 1206) (by decide +kernel))
theorem tw_1207 : (Jvm.Cond.selects "BreathStreetModel" ({ cls := "BreathStreetModel", name := "undo", desc := "(I)I" } : Jvm.MethodName) ({ cls := "BreathStreetModel", name := "undo", desc := "(I)I" } : Jvm.MethodName)) ∈ lw_tbl := List.mem_append_right _ (List.mem_of_getElem? (i := 1207) (by decide +kernel))
theorem tw_1208 : (Jvm.Cond.code ({ cls := "BreathStreetModel", name := "undo", desc := "(I)I" } : Jvm.MethodName) prog_14_method_44_code (3 : Nat) (Option.some Jvm.ClassFile.FieldType.int)) ∈ lw_tbl := List.mem_append_right _ (List.mem_of_getElem? (i := 1208) (by decide +kernel))
theorem tw_1209 : (Jvm.Cond.constantLong "BreathStreetModel" (232 : Nat) (40 : Int64)) ∈ lw_tbl := List.mem_append_right _ (List.mem_of_getElem? (i := 1209) (by decide +kernel))
theorem tw_1210 : (Jvm.Cond.methodLink "BreathStreetLaw" (75 : Nat) ({ cls := "BreathStreetModel", name := "cracks", desc := "(I)I" } : Jvm.MethodName)) ∈ lw_tbl := List.mem_append_right _ (List.mem_of_getElem? (i := 1210) (by decide +kernel))
theorem tw_1211 : (Jvm.Cond.instanceMethod ({ cls := "BreathStreetModel", name := "cracks", desc := "(I)I" } : Jvm.MethodName)) ∈ lw_tbl := List.mem_append_right _ (List.mem_of_getElem? (i := 1211) (by decide +kernel))
theorem tw_1212 : (Jvm.Cond.selects "BreathStreetModel" ({ cls := "BreathStreetModel", name := "cracks", desc := "(I)I" } : Jvm.MethodName) ({ cls := "BreathStreetModel", name := "cracks", desc := "(I)I" } : Jvm.MethodName)) ∈ lw_tbl := List.mem_append_right _ (List.mem_of_getElem? (i := 1212) (by decide +kernel))
theorem tw_1213 : (Jvm.Cond.code ({ cls := "BreathStreetModel", name := "cracks", desc := "(I)I" } : Jvm.MethodName) prog_14_method_45_code (3 : Nat) (Option.some Jvm.ClassFile.FieldType.int)) ∈ lw_tbl := List.mem_append_right _ (List.mem_of_getElem? (i := 1213) (by decide +kernel))
theorem tw_1214 : (Jvm.Cond.methodLink "BreathStreetLaw" (79 : Nat) ({ cls := "BreathStreetModel", name := "worst", desc := "()I" } : Jvm.MethodName)) ∈ lw_tbl := List.mem_append_right _ (List.mem_of_getElem? (i := 1214) (by decide +kernel))
theorem tw_1215 : (Jvm.Cond.instanceMethod ({ cls := "BreathStreetModel", name := "worst", desc := "()I" } : Jvm.MethodName)) ∈ lw_tbl := List.mem_append_right _ (List.mem_of_getElem? (i := 1215) (by decide +kernel))
theorem tw_1216 : (Jvm.Cond.selects "BreathStreetModel" ({ cls := "BreathStreetModel", name := "worst", desc := "()I" } : Jvm.MethodName) ({ cls := "BreathStreetModel", name := "worst", desc := "()I" } : Jvm.MethodName)) ∈ lw_tbl := List.mem_append_right _ (List.mem_of_getElem? (i := 1216) (by decide +kernel))
theorem tw_1217 : (Jvm.Cond.code ({ cls := "BreathStreetModel", name := "worst", desc := "()I" } : Jvm.MethodName) prog_14_method_46_code (5 : Nat) (Option.some Jvm.ClassFile.FieldType.int)) ∈ lw_tbl := List.mem_append_right _ (List.mem_of_getElem? (i := 1217) (by decide +kernel))
theorem tw_1218 : (Jvm.Cond.methodLink "BreathStreetLaw" (83 : Nat) ({ cls := "BreathStreetModel", name := "water", desc := "(II)I" } : Jvm.MethodName)) ∈ lw_tbl := List.mem_append_right _ (List.mem_of_getElem? (i := 1218) (by decide +kernel))
theorem tw_1219 : (Jvm.Cond.instanceMethod ({ cls := "BreathStreetModel", name := "water", desc := "(II)I" } : Jvm.MethodName)) ∈ lw_tbl := List.mem_append_right _ (List.mem_of_getElem? (i := 1219) (by decide +kernel))
theorem tw_1220 : (Jvm.Cond.selects "BreathStreetModel" ({ cls := "BreathStreetModel", name := "water", desc := "(II)I" } : Jvm.MethodName) ({ cls := "BreathStreetModel", name := "water", desc := "(II)I" } : Jvm.MethodName)) ∈ lw_tbl := List.mem_append_right _ (List.mem_of_getElem? (i := 1220) (by decide +kernel))
theorem tw_1221 : (Jvm.Cond.code ({ cls := "BreathStreetModel", name := "water", desc := "(II)I" } : Jvm.MethodName) prog_14_method_48_code (5 : Nat) (Option.some Jvm.ClassFile.FieldType.int)) ∈ lw_tbl := List.mem_append_right _ (List.mem_of_getElem? (i := 1221) (by decide +kernel))
theorem tw_1222 : (Jvm.Cond.methodLink "BreathStreetModel" (234 : Nat) ({ cls := "BreathStreetModel", name := "flows", desc := "(II)I" } : Jvm.MethodName)) ∈ lw_tbl := List.mem_append_right _ (List.mem_of_getElem? (i := 1222) (by decide +kernel))
theorem tw_1223 : (Jvm.Cond.privateMethod ({ cls := "BreathStreetModel", name := "flows", desc := "(II)I" } : Jvm.MethodName)) ∈ lw_tbl := List.mem_append_right _ (List.mem_of_getElem? (i := 1223) (by decide +kernel))
theorem tw_1224 : (Jvm.Cond.instanceMethod ({ cls := "BreathStreetModel", name := "flows", desc := "(II)I" } : Jvm.MethodName)) ∈ lw_tbl := List.mem_append_right _ (List.mem_of_getElem? (i := 1224) (by decide +kernel))
theorem tw_1225 : (Jvm.Cond.code ({ cls := "BreathStreetModel", name := "flows", desc := "(II)I" } : Jvm.MethodName) prog_14_method_47_code (6 : Nat) (Option.some Jvm.ClassFile.FieldType.int)) ∈ lw_tbl := List.mem_append_right _ (List.mem_of_getElem? (i := 1225) (by decide +kernel))
theorem tw_1226 : (Jvm.Cond.methodLink "BreathStreetLaw" (87 : Nat) ({ cls := "BreathStreetModel", name := "mill", desc := "(II)I" } : Jvm.MethodName)) ∈ lw_tbl := List.mem_append_right _ (List.mem_of_getElem? (i := 1226) (by decide +kernel))
theorem tw_1227 : (Jvm.Cond.instanceMethod ({ cls := "BreathStreetModel", name := "mill", desc := "(II)I" } : Jvm.MethodName)) ∈ lw_tbl := List.mem_append_right _ (List.mem_of_getElem? (i := 1227) (by decide +kernel))
theorem tw_1228 : (Jvm.Cond.selects "BreathStreetModel" ({ cls := "BreathStreetModel", name := "mill", desc := "(II)I" } : Jvm.MethodName) ({ cls := "BreathStreetModel", name := "mill", desc := "(II)I" } : Jvm.MethodName)) ∈ lw_tbl := List.mem_append_right _ (List.mem_of_getElem? (i := 1228) (by decide +kernel))
theorem tw_1229 : (Jvm.Cond.code ({ cls := "BreathStreetModel", name := "mill", desc := "(II)I" } : Jvm.MethodName) prog_14_method_50_code (3 : Nat) (Option.some Jvm.ClassFile.FieldType.int)) ∈ lw_tbl := List.mem_append_right _ (List.mem_of_getElem? (i := 1229) (by decide +kernel))
theorem tw_1230 : (Jvm.Cond.methodLink "BreathStreetModel" (237 : Nat) ({ cls := "BreathStreetModel", name := "ground", desc := "(II)I" } : Jvm.MethodName)) ∈ lw_tbl := List.mem_append_right _ (List.mem_of_getElem? (i := 1230) (by decide +kernel))
theorem tw_1231 : (Jvm.Cond.privateMethod ({ cls := "BreathStreetModel", name := "ground", desc := "(II)I" } : Jvm.MethodName)) ∈ lw_tbl := List.mem_append_right _ (List.mem_of_getElem? (i := 1231) (by decide +kernel))
theorem tw_1232 : (Jvm.Cond.instanceMethod ({ cls := "BreathStreetModel", name := "ground", desc := "(II)I" } : Jvm.MethodName)) ∈ lw_tbl := List.mem_append_right _ (List.mem_of_getElem? (i := 1232) (by decide +kernel))
theorem tw_1233 : (Jvm.Cond.code ({ cls := "BreathStreetModel", name := "ground", desc := "(II)I" } : Jvm.MethodName) prog_14_method_49_code (6 : Nat) (Option.some Jvm.ClassFile.FieldType.int)) ∈ lw_tbl := List.mem_append_right _ (List.mem_of_getElem? (i := 1233) (by decide +kernel))
theorem tw_1234 : (Jvm.Cond.methodLink "BreathStreetLaw" (91 : Nat) ({ cls := "BreathStreetModel", name := "bestMill", desc := "()I" } : Jvm.MethodName)) ∈ lw_tbl := List.mem_append_right _ (List.mem_of_getElem? (i := 1234) (by decide +kernel))
theorem tw_1235 : (Jvm.Cond.instanceMethod ({ cls := "BreathStreetModel", name := "bestMill", desc := "()I" } : Jvm.MethodName)) ∈ lw_tbl := List.mem_append_right _ (List.mem_of_getElem? (i := 1235) (by decide +kernel))
theorem tw_1236 : (Jvm.Cond.selects "BreathStreetModel" ({ cls := "BreathStreetModel", name := "bestMill", desc := "()I" } : Jvm.MethodName) ({ cls := "BreathStreetModel", name := "bestMill", desc := "()I" } : Jvm.MethodName)) ∈ lw_tbl := List.mem_append_right _ (List.mem_of_getElem? (i := 1236) (by decide +kernel))
theorem tw_1237 : (Jvm.Cond.code ({ cls := "BreathStreetModel", name := "bestMill", desc := "()I" } : Jvm.MethodName) prog_14_method_51_code (5 : Nat) (Option.some Jvm.ClassFile.FieldType.int)) ∈ lw_tbl := List.mem_append_right _ (List.mem_of_getElem? (i := 1237) (by decide +kernel))
theorem tw_1238 : (Jvm.Cond.methodLink "BreathStreetLaw" (95 : Nat) ({ cls := "BreathStreetModel", name := "soonest", desc := "(II)I" } : Jvm.MethodName)) ∈ lw_tbl := List.mem_append_right _ (List.mem_of_getElem? (i := 1238) (by decide +kernel))
theorem tw_1239 : (Jvm.Cond.instanceMethod ({ cls := "BreathStreetModel", name := "soonest", desc := "(II)I" } : Jvm.MethodName)) ∈ lw_tbl := List.mem_append_right _ (List.mem_of_getElem? (i := 1239) (by decide +kernel))
theorem tw_1240 : (Jvm.Cond.selects "BreathStreetModel" ({ cls := "BreathStreetModel", name := "soonest", desc := "(II)I" } : Jvm.MethodName) ({ cls := "BreathStreetModel", name := "soonest", desc := "(II)I" } : Jvm.MethodName)) ∈ lw_tbl := List.mem_append_right _ (List.mem_of_getElem? (i := 1240) (by decide +kernel))
theorem tw_1241 : (Jvm.Cond.code ({ cls := "BreathStreetModel", name := "soonest", desc := "(II)I" } : Jvm.MethodName) prog_14_method_52_code (9 : Nat) (Option.some Jvm.ClassFile.FieldType.int)) ∈ lw_tbl := List.mem_append_right _ (List.mem_of_getElem? (i := 1241) (by decide +kernel))
theorem tw_1242 : (Jvm.Cond.methodLink "BreathStreetModel" (240 : Nat) ({ cls := "BreathStreetModel", name := "has", desc := "(II)Z" } : Jvm.MethodName)) ∈ lw_tbl := List.mem_append_right _ (List.mem_of_getElem? (i := 1242) (by decide +kernel))
theorem tw_1243 : (Jvm.Cond.static ({ cls := "BreathStreetModel", name := "has", desc := "(II)Z" } : Jvm.MethodName)) ∈ lw_tbl := List.mem_append_right _ (List.mem_of_getElem? (i := 1243) (by decide +kernel))
theorem tw_1244 : (Jvm.Cond.code ({ cls := "BreathStreetModel", name := "has", desc := "(II)Z" } : Jvm.MethodName) prog_14_method_5_code (2 : Nat) (Option.some Jvm.ClassFile.FieldType.boolean)) ∈ lw_tbl := List.mem_append_right _ (List.mem_of_getElem? (i := 1244) (by decide +kernel))
theorem tw_1245 : (Jvm.Cond.methodLink "BreathStreetLaw" (100 : Nat) ({ cls := "BreathStreetModel", name := "least", desc := "(IIII)I" } : Jvm.MethodName)) ∈ lw_tbl := List.mem_append_right _ (List.mem_of_getElem? (i := 1245) (by decide +kernel))
theorem tw_1246 : (Jvm.Cond.instanceMethod ({ cls := "BreathStreetModel", name := "least", desc := "(IIII)I" } : Jvm.MethodName)) ∈ lw_tbl := List.mem_append_right _ (List.mem_of_getElem? (i := 1246) (by decide +kernel))
theorem tw_1247 : (Jvm.Cond.selects "BreathStreetModel" ({ cls := "BreathStreetModel", name := "least", desc := "(IIII)I" } : Jvm.MethodName) ({ cls := "BreathStreetModel", name := "least", desc := "(IIII)I" } : Jvm.MethodName)) ∈ lw_tbl := List.mem_append_right _ (List.mem_of_getElem? (i := 1247) (by decide +kernel))
theorem tw_1248 : (Jvm.Cond.code ({ cls := "BreathStreetModel", name := "least", desc := "(IIII)I" } : Jvm.MethodName) prog_14_method_56_code (9 : Nat) (Option.some Jvm.ClassFile.FieldType.int)) ∈ lw_tbl := List.mem_append_right _ (List.mem_of_getElem? (i := 1248) (by decide +kernel))
theorem tw_1249 : (Jvm.Cond.constantLong "BreathStreetModel" (251 : Nat) (30 : Int64)) ∈ lw_tbl := List.mem_append_right _ (List.mem_of_getElem? (i := 1249) (by decide +kernel))
theorem tw_1250 : (Jvm.Cond.methodLink "BreathStreetModel" (253 : Nat) ({ cls := "BreathStreetModel", name := "findLeast", desc := "(II)V" } : Jvm.MethodName)) ∈ lw_tbl := List.mem_append_right _ (List.mem_of_getElem? (i := 1250) (by decide +kernel))
theorem tw_1251 : (Jvm.Cond.privateMethod ({ cls := "BreathStreetModel", name := "findLeast", desc := "(II)V" } : Jvm.MethodName)) ∈ lw_tbl := List.mem_append_right _ (List.mem_of_getElem? (i := 1251) (by decide +kernel))
theorem tw_1252 : (Jvm.Cond.instanceMethod ({ cls := "BreathStreetModel", name := "findLeast", desc := "(II)V" } : Jvm.MethodName)) ∈ lw_tbl := List.mem_append_right _ (List.mem_of_getElem? (i := 1252) (by decide +kernel))
theorem tw_1253 : (Jvm.Cond.code ({ cls := "BreathStreetModel", name := "findLeast", desc := "(II)V" } : Jvm.MethodName) prog_14_method_55_code (5 : Nat) (Option.none : Option Jvm.ClassFile.FieldType)) ∈ lw_tbl := List.mem_append_right _ (List.mem_of_getElem? (i := 1253) (by decide +kernel))
theorem tw_1254 : (Jvm.Cond.constant "BreathStreetModel" (243 : Nat) (99999999 : Int32)) ∈ lw_tbl := List.mem_append_right _ (List.mem_of_getElem? (i := 1254) (by decide +kernel))
theorem tw_1255 : (Jvm.Cond.methodLink "BreathStreetModel" (248 : Nat) ({ cls := "BreathStreetModel", name := "bestWay", desc := "(III)I" } : Jvm.MethodName)) ∈ lw_tbl := List.mem_append_right _ (List.mem_of_getElem? (i := 1255) (by decide +kernel))
theorem tw_1256 : (Jvm.Cond.privateMethod ({ cls := "BreathStreetModel", name := "bestWay", desc := "(III)I" } : Jvm.MethodName)) ∈ lw_tbl := List.mem_append_right _ (List.mem_of_getElem? (i := 1256) (by decide +kernel))
theorem tw_1257 : (Jvm.Cond.instanceMethod ({ cls := "BreathStreetModel", name := "bestWay", desc := "(III)I" } : Jvm.MethodName)) ∈ lw_tbl := List.mem_append_right _ (List.mem_of_getElem? (i := 1257) (by decide +kernel))
theorem tw_1258 : (Jvm.Cond.code ({ cls := "BreathStreetModel", name := "bestWay", desc := "(III)I" } : Jvm.MethodName) prog_14_method_54_code (6 : Nat) (Option.some Jvm.ClassFile.FieldType.int)) ∈ lw_tbl := List.mem_append_right _ (List.mem_of_getElem? (i := 1258) (by decide +kernel))
theorem tw_1259 : (Jvm.Cond.methodLink "BreathStreetModel" (244 : Nat) ({ cls := "BreathStreetModel", name := "leastBy", desc := "(IIII)I" } : Jvm.MethodName)) ∈ lw_tbl := List.mem_append_right _ (List.mem_of_getElem? (i := 1259) (by decide +kernel))
theorem tw_1260 : (Jvm.Cond.privateMethod ({ cls := "BreathStreetModel", name := "leastBy", desc := "(IIII)I" } : Jvm.MethodName)) ∈ lw_tbl := List.mem_append_right _ (List.mem_of_getElem? (i := 1260) (by decide +kernel))
theorem tw_1261 : (Jvm.Cond.instanceMethod ({ cls := "BreathStreetModel", name := "leastBy", desc := "(IIII)I" } : Jvm.MethodName)) ∈ lw_tbl := List.mem_append_right _ (List.mem_of_getElem? (i := 1261) (by decide +kernel))
theorem tw_1262 : (Jvm.Cond.code ({ cls := "BreathStreetModel", name := "leastBy", desc := "(IIII)I" } : Jvm.MethodName) prog_14_method_53_code (7 : Nat) (Option.some Jvm.ClassFile.FieldType.int)) ∈ lw_tbl := List.mem_append_right _ (List.mem_of_getElem? (i := 1262) (by decide +kernel))
theorem tw_1263 : (Jvm.Cond.methodLink "BreathStreetLaw" (104 : Nat) ({ cls := "BreathStreetModel", name := "open", desc := "(I)I" } : Jvm.MethodName)) ∈ lw_tbl := List.mem_append_right _ (List.mem_of_getElem? (i := 1263) (by decide +kernel))
theorem tw_1264 : (Jvm.Cond.instanceMethod ({ cls := "BreathStreetModel", name := "open", desc := "(I)I" } : Jvm.MethodName)) ∈ lw_tbl := List.mem_append_right _ (List.mem_of_getElem? (i := 1264) (by decide +kernel))
theorem tw_1265 : (Jvm.Cond.selects "BreathStreetModel" ({ cls := "BreathStreetModel", name := "open", desc := "(I)I" } : Jvm.MethodName) ({ cls := "BreathStreetModel", name := "open", desc := "(I)I" } : Jvm.MethodName)) ∈ lw_tbl := List.mem_append_right _ (List.mem_of_getElem? (i := 1265) (by decide +kernel))
theorem tw_1266 : (Jvm.Cond.code ({ cls := "BreathStreetModel", name := "open", desc := "(I)I" } : Jvm.MethodName) prog_14_method_60_code (4 : Nat) (Option.some Jvm.ClassFile.FieldType.int)) ∈ lw_tbl := List.mem_append_right _ (List.mem_of_getElem? (i := 1266) (by decide +kernel))
theorem tw_1267 : (Jvm.Cond.methodLink "BreathStreetModel" (257 : Nat) ({ cls := "BreathStreetModel", name := "isSeamSet", desc := "(I)Z" } : Jvm.MethodName)) ∈ lw_tbl := List.mem_append_right _ (List.mem_of_getElem? (i := 1267) (by decide +kernel))
theorem tw_1268 : (Jvm.Cond.privateMethod ({ cls := "BreathStreetModel", name := "isSeamSet", desc := "(I)Z" } : Jvm.MethodName)) ∈ lw_tbl := List.mem_append_right _ (List.mem_of_getElem? (i := 1268) (by decide +kernel))
theorem tw_1269 : (Jvm.Cond.instanceMethod ({ cls := "BreathStreetModel", name := "isSeamSet", desc := "(I)Z" } : Jvm.MethodName)) ∈ lw_tbl := List.mem_append_right _ (List.mem_of_getElem? (i := 1269) (by decide +kernel))
theorem tw_1270 : (Jvm.Cond.code ({ cls := "BreathStreetModel", name := "isSeamSet", desc := "(I)Z" } : Jvm.MethodName) prog_14_method_57_code (2 : Nat) (Option.some Jvm.ClassFile.FieldType.boolean)) ∈ lw_tbl := List.mem_append_right _ (List.mem_of_getElem? (i := 1270) (by decide +kernel))
theorem tw_1271 : (Jvm.Cond.methodLink "BreathStreetModel" (260 : Nat) ({ cls := "BreathStreetModel", name := "roundOfSeams", desc := "(I)I" } : Jvm.MethodName)) ∈ lw_tbl := List.mem_append_right _ (List.mem_of_getElem? (i := 1271) (by decide +kernel))
theorem tw_1272 : (Jvm.Cond.privateMethod ({ cls := "BreathStreetModel", name := "roundOfSeams", desc := "(I)I" } : Jvm.MethodName)) ∈ lw_tbl := List.mem_append_right _ (List.mem_of_getElem? (i := 1272) (by decide +kernel))
theorem tw_1273 : (Jvm.Cond.instanceMethod ({ cls := "BreathStreetModel", name := "roundOfSeams", desc := "(I)I" } : Jvm.MethodName)) ∈ lw_tbl := List.mem_append_right _ (List.mem_of_getElem? (i := 1273) (by decide +kernel))
theorem tw_1274 : (Jvm.Cond.code ({ cls := "BreathStreetModel", name := "roundOfSeams", desc := "(I)I" } : Jvm.MethodName) prog_14_method_58_code (5 : Nat) (Option.some Jvm.ClassFile.FieldType.int)) ∈ lw_tbl := List.mem_append_right _ (List.mem_of_getElem? (i := 1274) (by decide +kernel))
theorem tw_1275 : (Jvm.Cond.methodLink "BreathStreetModel" (263 : Nat) ({ cls := "BreathStreetModel", name := "areOpen", desc := "(II)Z" } : Jvm.MethodName)) ∈ lw_tbl := List.mem_append_right _ (List.mem_of_getElem? (i := 1275) (by decide +kernel))
theorem tw_1276 : (Jvm.Cond.privateMethod ({ cls := "BreathStreetModel", name := "areOpen", desc := "(II)Z" } : Jvm.MethodName)) ∈ lw_tbl := List.mem_append_right _ (List.mem_of_getElem? (i := 1276) (by decide +kernel))
theorem tw_1277 : (Jvm.Cond.instanceMethod ({ cls := "BreathStreetModel", name := "areOpen", desc := "(II)Z" } : Jvm.MethodName)) ∈ lw_tbl := List.mem_append_right _ (List.mem_of_getElem? (i := 1277) (by decide +kernel))
theorem tw_1278 : (Jvm.Cond.code ({ cls := "BreathStreetModel", name := "areOpen", desc := "(II)Z" } : Jvm.MethodName) prog_14_method_59_code (5 : Nat) (Option.some Jvm.ClassFile.FieldType.boolean)) ∈ lw_tbl := List.mem_append_right _ (List.mem_of_getElem? (i := 1278) (by decide +kernel))
theorem tw_1279 : (Jvm.Cond.methodLink "BreathStreetLaw" (108 : Nat) ({ cls := "BreathStreetModel", name := "longest", desc := "(I)I" } : Jvm.MethodName)) ∈ lw_tbl := List.mem_append_right _ (List.mem_of_getElem? (i := 1279) (by decide +kernel))
theorem tw_1280 : (Jvm.Cond.instanceMethod ({ cls := "BreathStreetModel", name := "longest", desc := "(I)I" } : Jvm.MethodName)) ∈ lw_tbl := List.mem_append_right _ (List.mem_of_getElem? (i := 1280) (by decide +kernel))
theorem tw_1281 : (Jvm.Cond.selects "BreathStreetModel" ({ cls := "BreathStreetModel", name := "longest", desc := "(I)I" } : Jvm.MethodName) ({ cls := "BreathStreetModel", name := "longest", desc := "(I)I" } : Jvm.MethodName)) ∈ lw_tbl := List.mem_append_right _ (List.mem_of_getElem? (i := 1281) (by decide +kernel))
theorem tw_1282 : (Jvm.Cond.code ({ cls := "BreathStreetModel", name := "longest", desc := "(I)I" } : Jvm.MethodName) prog_14_method_61_code (6 : Nat) (Option.some Jvm.ClassFile.FieldType.int)) ∈ lw_tbl := List.mem_append_right _ (List.mem_of_getElem? (i := 1282) (by decide +kernel))
theorem tw_1283 : (Jvm.Cond.methodLink "BreathStreetLaw" (112 : Nat) ({ cls := "BreathStreetModel", name := "hear", desc := "(II)I" } : Jvm.MethodName)) ∈ lw_tbl := List.mem_append_right _ (List.mem_of_getElem? (i := 1283) (by decide +kernel))
theorem tw_1284 : (Jvm.Cond.instanceMethod ({ cls := "BreathStreetModel", name := "hear", desc := "(II)I" } : Jvm.MethodName)) ∈ lw_tbl := List.mem_append_right _ (List.mem_of_getElem? (i := 1284) (by decide +kernel))
theorem tw_1285 : (Jvm.Cond.selects "BreathStreetModel" ({ cls := "BreathStreetModel", name := "hear", desc := "(II)I" } : Jvm.MethodName) ({ cls := "BreathStreetModel", name := "hear", desc := "(II)I" } : Jvm.MethodName)) ∈ lw_tbl := List.mem_append_right _ (List.mem_of_getElem? (i := 1285) (by decide +kernel))
theorem tw_1286 : (Jvm.Cond.code ({ cls := "BreathStreetModel", name := "hear", desc := "(II)I" } : Jvm.MethodName) prog_14_method_62_code (3 : Nat) (Option.some Jvm.ClassFile.FieldType.int)) ∈ lw_tbl := List.mem_append_right _ (List.mem_of_getElem? (i := 1286) (by decide +kernel))
theorem tw_1287 : (Jvm.Cond.methodLink "BreathStreetLaw" (116 : Nat) ({ cls := "BreathStreetModel", name := "began", desc := "(I)I" } : Jvm.MethodName)) ∈ lw_tbl := List.mem_append_right _ (List.mem_of_getElem? (i := 1287) (by decide +kernel))
theorem tw_1288 : (Jvm.Cond.instanceMethod ({ cls := "BreathStreetModel", name := "began", desc := "(I)I" } : Jvm.MethodName)) ∈ lw_tbl := List.mem_append_right _ (List.mem_of_getElem? (i := 1288) (by decide +kernel))
theorem tw_1289 : (Jvm.Cond.selects "BreathStreetModel" ({ cls := "BreathStreetModel", name := "began", desc := "(I)I" } : Jvm.MethodName) ({ cls := "BreathStreetModel", name := "began", desc := "(I)I" } : Jvm.MethodName)) ∈ lw_tbl := List.mem_append_right _ (List.mem_of_getElem? (i := 1289) (by decide +kernel))
theorem tw_1290 : (Jvm.Cond.code ({ cls := "BreathStreetModel", name := "began", desc := "(I)I" } : Jvm.MethodName) prog_14_method_64_code (5 : Nat) (Option.some Jvm.ClassFile.FieldType.int)) ∈ lw_tbl := List.mem_append_right _ (List.mem_of_getElem? (i := 1290) (by decide +kernel))
theorem tw_1291 : (Jvm.Cond.methodLink "BreathStreetModel" (266 : Nat) ({ cls := "BreathStreetModel", name := "couldBegin", desc := "(II)Z" } : Jvm.MethodName)) ∈ lw_tbl := List.mem_append_right _ (List.mem_of_getElem? (i := 1291) (by decide +kernel))
theorem tw_1292 : (Jvm.Cond.privateMethod ({ cls := "BreathStreetModel", name := "couldBegin", desc := "(II)Z" } : Jvm.MethodName)) ∈ lw_tbl := List.mem_append_right _ (List.mem_of_getElem? (i := 1292) (by decide +kernel))
theorem tw_1293 : (Jvm.Cond.instanceMethod ({ cls := "BreathStreetModel", name := "couldBegin", desc := "(II)Z" } : Jvm.MethodName)) ∈ lw_tbl := List.mem_append_right _ (List.mem_of_getElem? (i := 1293) (by decide +kernel))
theorem tw_1294 : (Jvm.Cond.code ({ cls := "BreathStreetModel", name := "couldBegin", desc := "(II)Z" } : Jvm.MethodName) prog_14_method_63_code (5 : Nat) (Option.some Jvm.ClassFile.FieldType.boolean)) ∈ lw_tbl := List.mem_append_right _ (List.mem_of_getElem? (i := 1294) (by decide +kernel))
theorem tw_1295 : (Jvm.Cond.methodLink "BreathStreetLaw" (120 : Nat) ({ cls := "BreathStreetModel", name := "watch", desc := "()I" } : Jvm.MethodName)) ∈ lw_tbl := List.mem_append_right _ (List.mem_of_getElem? (i := 1295) (by decide +kernel))
theorem tw_1296 : (Jvm.Cond.instanceMethod ({ cls := "BreathStreetModel", name := "watch", desc := "()I" } : Jvm.MethodName)) ∈ lw_tbl := List.mem_append_right _ (List.mem_of_getElem? (i := 1296) (by decide +kernel))
theorem tw_1297 : (Jvm.Cond.selects "BreathStreetModel" ({ cls := "BreathStreetModel", name := "watch", desc := "()I" } : Jvm.MethodName) ({ cls := "BreathStreetModel", name := "watch", desc := "()I" } : Jvm.MethodName)) ∈ lw_tbl := List.mem_append_right _ (List.mem_of_getElem? (i := 1297) (by decide +kernel))
theorem tw_1298 : (Jvm.Cond.code ({ cls := "BreathStreetModel", name := "watch", desc := "()I" } : Jvm.MethodName) prog_14_method_66_code (5 : Nat) (Option.some Jvm.ClassFile.FieldType.int)) ∈ lw_tbl := List.mem_append_right _ (List.mem_of_getElem? (i := 1298) (by decide +kernel))
theorem tw_1299 : (Jvm.Cond.methodLink "BreathStreetModel" (269 : Nat) ({ cls := "BreathStreetModel", name := "began", desc := "(I)I" } : Jvm.MethodName)) ∈ lw_tbl := List.mem_append_right _ (List.mem_of_getElem? (i := 1299) (by decide +kernel))
theorem tw_1300 : (Jvm.Cond.methodLink "BreathStreetModel" (272 : Nat) ({ cls := "BreathStreetModel", name := "greatestPart", desc := "(I)I" } : Jvm.MethodName)) ∈ lw_tbl := List.mem_append_right _ (List.mem_of_getElem? (i := 1300) (by decide +kernel))
theorem tw_1301 : (Jvm.Cond.privateMethod ({ cls := "BreathStreetModel", name := "greatestPart", desc := "(I)I" } : Jvm.MethodName)) ∈ lw_tbl := List.mem_append_right _ (List.mem_of_getElem? (i := 1301) (by decide +kernel))
theorem tw_1302 : (Jvm.Cond.instanceMethod ({ cls := "BreathStreetModel", name := "greatestPart", desc := "(I)I" } : Jvm.MethodName)) ∈ lw_tbl := List.mem_append_right _ (List.mem_of_getElem? (i := 1302) (by decide +kernel))
theorem tw_1303 : (Jvm.Cond.code ({ cls := "BreathStreetModel", name := "greatestPart", desc := "(I)I" } : Jvm.MethodName) prog_14_method_65_code (6 : Nat) (Option.some Jvm.ClassFile.FieldType.int)) ∈ lw_tbl := List.mem_append_right _ (List.mem_of_getElem? (i := 1303) (by decide +kernel))
theorem tw_1304 : (Jvm.Cond.methodLink "BreathStreetLaw" (125 : Nat) ({ cls := "BreathStreetModel", name := "see", desc := "(III)I" } : Jvm.MethodName)) ∈ lw_tbl := List.mem_append_right _ (List.mem_of_getElem? (i := 1304) (by decide +kernel))
theorem tw_1305 : (Jvm.Cond.instanceMethod ({ cls := "BreathStreetModel", name := "see", desc := "(III)I" } : Jvm.MethodName)) ∈ lw_tbl := List.mem_append_right _ (List.mem_of_getElem? (i := 1305) (by decide +kernel))
theorem tw_1306 : (Jvm.Cond.selects "BreathStreetModel" ({ cls := "BreathStreetModel", name := "see", desc := "(III)I" } : Jvm.MethodName) ({ cls := "BreathStreetModel", name := "see", desc := "(III)I" } : Jvm.MethodName)) ∈ lw_tbl := List.mem_append_right _ (List.mem_of_getElem? (i := 1306) (by decide +kernel))
theorem tw_1307 : (Jvm.Cond.code ({ cls := "BreathStreetModel", name := "see", desc := "(III)I" } : Jvm.MethodName) prog_14_method_67_code (4 : Nat) (Option.some Jvm.ClassFile.FieldType.int)) ∈ lw_tbl := List.mem_append_right _ (List.mem_of_getElem? (i := 1307) (by decide +kernel))
theorem tw_1308 : (Jvm.Cond.constantLong "BreathStreetModel" (275 : Nat) (9999 : Int64)) ∈ lw_tbl := List.mem_append_right _ (List.mem_of_getElem? (i := 1308) (by decide +kernel))
theorem tw_1309 : (Jvm.Cond.methodLink "BreathStreetLaw" (129 : Nat) ({ cls := "BreathStreetModel", name := "rounds", desc := "(II)I" } : Jvm.MethodName)) ∈ lw_tbl := List.mem_append_right _ (List.mem_of_getElem? (i := 1309) (by decide +kernel))
theorem tw_1310 : (Jvm.Cond.instanceMethod ({ cls := "BreathStreetModel", name := "rounds", desc := "(II)I" } : Jvm.MethodName)) ∈ lw_tbl := List.mem_append_right _ (List.mem_of_getElem? (i := 1310) (by decide +kernel))
theorem tw_1311 : (Jvm.Cond.selects "BreathStreetModel" ({ cls := "BreathStreetModel", name := "rounds", desc := "(II)I" } : Jvm.MethodName) ({ cls := "BreathStreetModel", name := "rounds", desc := "(II)I" } : Jvm.MethodName)) ∈ lw_tbl := List.mem_append_right _ (List.mem_of_getElem? (i := 1311) (by decide +kernel))
theorem tw_1312 : (Jvm.Cond.code ({ cls := "BreathStreetModel", name := "rounds", desc := "(II)I" } : Jvm.MethodName) prog_14_method_69_code (6 : Nat) (Option.some Jvm.ClassFile.FieldType.int)) ∈ lw_tbl := List.mem_append_right _ (List.mem_of_getElem? (i := 1312) (by decide +kernel))
theorem tw_1313 : (Jvm.Cond.methodLink "BreathStreetModel" (277 : Nat) ({ cls := "BreathStreetModel", name := "goesRound", desc := "(III)Z" } : Jvm.MethodName)) ∈ lw_tbl := List.mem_append_right _ (List.mem_of_getElem? (i := 1313) (by decide +kernel))
theorem tw_1314 : (Jvm.Cond.privateMethod ({ cls := "BreathStreetModel", name := "goesRound", desc := "(III)Z" } : Jvm.MethodName)) ∈ lw_tbl := List.mem_append_right _ (List.mem_of_getElem? (i := 1314) (by decide +kernel))
theorem tw_1315 : (Jvm.Cond.instanceMethod ({ cls := "BreathStreetModel", name := "goesRound", desc := "(III)Z" } : Jvm.MethodName)) ∈ lw_tbl := List.mem_append_right _ (List.mem_of_getElem? (i := 1315) (by decide +kernel))
theorem tw_1316 : (Jvm.Cond.code ({ cls := "BreathStreetModel", name := "goesRound", desc := "(III)Z" } : Jvm.MethodName) prog_14_method_68_code (6 : Nat) (Option.some Jvm.ClassFile.FieldType.boolean)) ∈ lw_tbl := List.mem_append_right _ (List.mem_of_getElem? (i := 1316) (by decide +kernel))
theorem tw_1317 : (Jvm.Cond.methodLink "BreathStreetLaw" (133 : Nat) ({ cls := "BreathStreetModel", name := "cellars", desc := "(II)I" } : Jvm.MethodName)) ∈ lw_tbl := List.mem_append_right _ (List.mem_of_getElem? (i := 1317) (by decide +kernel))
theorem tw_1318 : (Jvm.Cond.instanceMethod ({ cls := "BreathStreetModel", name := "cellars", desc := "(II)I" } : Jvm.MethodName)) ∈ lw_tbl := List.mem_append_right _ (List.mem_of_getElem? (i := 1318) (by decide +kernel))
theorem tw_1319 : (Jvm.Cond.selects "BreathStreetModel" ({ cls := "BreathStreetModel", name := "cellars", desc := "(II)I" } : Jvm.MethodName) ({ cls := "BreathStreetModel", name := "cellars", desc := "(II)I" } : Jvm.MethodName)) ∈ lw_tbl := List.mem_append_right _ (List.mem_of_getElem? (i := 1319) (by decide +kernel))
theorem tw_1320 : (Jvm.Cond.code ({ cls := "BreathStreetModel", name := "cellars", desc := "(II)I" } : Jvm.MethodName) prog_14_method_71_code (3 : Nat) (Option.some Jvm.ClassFile.FieldType.int)) ∈ lw_tbl := List.mem_append_right _ (List.mem_of_getElem? (i := 1320) (by decide +kernel))
theorem tw_1321 : (Jvm.Cond.methodLink "BreathStreetModel" (281 : Nat) ({ cls := "BreathStreetModel", name := "flooded", desc := "(II)I" } : Jvm.MethodName)) ∈ lw_tbl := List.mem_append_right _ (List.mem_of_getElem? (i := 1321) (by decide +kernel))
theorem tw_1322 : (Jvm.Cond.privateMethod ({ cls := "BreathStreetModel", name := "flooded", desc := "(II)I" } : Jvm.MethodName)) ∈ lw_tbl := List.mem_append_right _ (List.mem_of_getElem? (i := 1322) (by decide +kernel))
theorem tw_1323 : (Jvm.Cond.instanceMethod ({ cls := "BreathStreetModel", name := "flooded", desc := "(II)I" } : Jvm.MethodName)) ∈ lw_tbl := List.mem_append_right _ (List.mem_of_getElem? (i := 1323) (by decide +kernel))
theorem tw_1324 : (Jvm.Cond.code ({ cls := "BreathStreetModel", name := "flooded", desc := "(II)I" } : Jvm.MethodName) prog_14_method_70_code (6 : Nat) (Option.some Jvm.ClassFile.FieldType.int)) ∈ lw_tbl := List.mem_append_right _ (List.mem_of_getElem? (i := 1324) (by decide +kernel))
theorem tw_1325 : (Jvm.Cond.methodLink "BreathStreetLaw" (137 : Nat) ({ cls := "BreathStreetModel", name := "sluices", desc := "(III)I" } : Jvm.MethodName)) ∈ lw_tbl := List.mem_append_right _ (List.mem_of_getElem? (i := 1325) (by decide +kernel))
theorem tw_1326 : (Jvm.Cond.instanceMethod ({ cls := "BreathStreetModel", name := "sluices", desc := "(III)I" } : Jvm.MethodName)) ∈ lw_tbl := List.mem_append_right _ (List.mem_of_getElem? (i := 1326) (by decide +kernel))
theorem tw_1327 : (Jvm.Cond.selects "BreathStreetModel" ({ cls := "BreathStreetModel", name := "sluices", desc := "(III)I" } : Jvm.MethodName) ({ cls := "BreathStreetModel", name := "sluices", desc := "(III)I" } : Jvm.MethodName)) ∈ lw_tbl := List.mem_append_right _ (List.mem_of_getElem? (i := 1327) (by decide +kernel))
theorem tw_1328 : (Jvm.Cond.code ({ cls := "BreathStreetModel", name := "sluices", desc := "(III)I" } : Jvm.MethodName) prog_14_method_72_code (8 : Nat) (Option.some Jvm.ClassFile.FieldType.int)) ∈ lw_tbl := List.mem_append_right _ (List.mem_of_getElem? (i := 1328) (by decide +kernel))
theorem tw_1329 : (Jvm.Cond.methodLink "BreathStreetModel" (284 : Nat) ({ cls := "BreathStreetModel", name := "ones", desc := "(I)I" } : Jvm.MethodName)) ∈ lw_tbl := List.mem_append_right _ (List.mem_of_getElem? (i := 1329) (by decide +kernel))
theorem tw_1330 : (Jvm.Cond.static ({ cls := "BreathStreetModel", name := "ones", desc := "(I)I" } : Jvm.MethodName)) ∈ lw_tbl := List.mem_append_right _ (List.mem_of_getElem? (i := 1330) (by decide +kernel))
theorem tw_1331 : (Jvm.Cond.code ({ cls := "BreathStreetModel", name := "ones", desc := "(I)I" } : Jvm.MethodName) prog_14_method_6_code (3 : Nat) (Option.some Jvm.ClassFile.FieldType.int)) ∈ lw_tbl := List.mem_append_right _ (List.mem_of_getElem? (i := 1331) (by decide +kernel))
theorem tw_1332 : (Jvm.Cond.methodLink "BreathStreetLaw" (141 : Nat) ({ cls := "BreathStreetModel", name := "odds", desc := "(IIII)I" } : Jvm.MethodName)) ∈ lw_tbl := List.mem_append_right _ (List.mem_of_getElem? (i := 1332) (by decide +kernel))
theorem tw_1333 : (Jvm.Cond.instanceMethod ({ cls := "BreathStreetModel", name := "odds", desc := "(IIII)I" } : Jvm.MethodName)) ∈ lw_tbl := List.mem_append_right _ (List.mem_of_getElem? (i := 1333) (by decide +kernel))
theorem tw_1334 : (Jvm.Cond.selects "BreathStreetModel" ({ cls := "BreathStreetModel", name := "odds", desc := "(IIII)I" } : Jvm.MethodName) ({ cls := "BreathStreetModel", name := "odds", desc := "(IIII)I" } : Jvm.MethodName)) ∈ lw_tbl := List.mem_append_right _ (List.mem_of_getElem? (i := 1334) (by decide +kernel))
theorem tw_1335 : (Jvm.Cond.code ({ cls := "BreathStreetModel", name := "odds", desc := "(IIII)I" } : Jvm.MethodName) prog_14_method_73_code (8 : Nat) (Option.some Jvm.ClassFile.FieldType.int)) ∈ lw_tbl := List.mem_append_right _ (List.mem_of_getElem? (i := 1335) (by decide +kernel))
theorem tw_1336 : (Jvm.Cond.constantLong "BreathStreetModel" (287 : Nat) (20 : Int64)) ∈ lw_tbl := List.mem_append_right _ (List.mem_of_getElem? (i := 1336) (by decide +kernel))
theorem tw_1337 : (Jvm.Cond.constantLong "BreathStreetModel" (289 : Nat) (100 : Int64)) ∈ lw_tbl := List.mem_append_right _ (List.mem_of_getElem? (i := 1337) (by decide +kernel))
theorem tw_1338 : (Jvm.Cond.constant "BreathStreetModel" (291 : Nat) (1000000000 : Int32)) ∈ lw_tbl := List.mem_append_right _ (List.mem_of_getElem? (i := 1338) (by decide +kernel))
theorem tw_1339 : (Jvm.Cond.methodLink "BreathStreetLaw" (145 : Nat) ({ cls := "BreathStreetModel", name := "write", desc := "(I)I" } : Jvm.MethodName)) ∈ lw_tbl := List.mem_append_right _ (List.mem_of_getElem? (i := 1339) (by decide +kernel))
theorem tw_1340 : (Jvm.Cond.instanceMethod ({ cls := "BreathStreetModel", name := "write", desc := "(I)I" } : Jvm.MethodName)) ∈ lw_tbl := List.mem_append_right _ (List.mem_of_getElem? (i := 1340) (by decide +kernel))
theorem tw_1341 : (Jvm.Cond.selects "BreathStreetModel" ({ cls := "BreathStreetModel", name := "write", desc := "(I)I" } : Jvm.MethodName) ({ cls := "BreathStreetModel", name := "write", desc := "(I)I" } : Jvm.MethodName)) ∈ lw_tbl := List.mem_append_right _ (List.mem_of_getElem? (i := 1341) (by decide +kernel))
theorem tw_1342 : (Jvm.Cond.code ({ cls := "BreathStreetModel", name := "write", desc := "(I)I" } : Jvm.MethodName) prog_14_method_74_code (2 : Nat) (Option.some Jvm.ClassFile.FieldType.int)) ∈ lw_tbl := List.mem_append_right _ (List.mem_of_getElem? (i := 1342) (by decide +kernel))
theorem tw_1343 : (Jvm.Cond.methodLink "BreathStreetLaw" (149 : Nat) ({ cls := "BreathStreetModel", name := "judge", desc := "(I)I" } : Jvm.MethodName)) ∈ lw_tbl := List.mem_append_right _ (List.mem_of_getElem? (i := 1343) (by decide +kernel))
theorem tw_1344 : (Jvm.Cond.instanceMethod ({ cls := "BreathStreetModel", name := "judge", desc := "(I)I" } : Jvm.MethodName)) ∈ lw_tbl := List.mem_append_right _ (List.mem_of_getElem? (i := 1344) (by decide +kernel))
theorem tw_1345 : (Jvm.Cond.selects "BreathStreetModel" ({ cls := "BreathStreetModel", name := "judge", desc := "(I)I" } : Jvm.MethodName) ({ cls := "BreathStreetModel", name := "judge", desc := "(I)I" } : Jvm.MethodName)) ∈ lw_tbl := List.mem_append_right _ (List.mem_of_getElem? (i := 1345) (by decide +kernel))
theorem tw_1346 : (Jvm.Cond.code ({ cls := "BreathStreetModel", name := "judge", desc := "(I)I" } : Jvm.MethodName) prog_14_method_75_code (6 : Nat) (Option.some Jvm.ClassFile.FieldType.int)) ∈ lw_tbl := List.mem_append_right _ (List.mem_of_getElem? (i := 1346) (by decide +kernel))
theorem tw_1347 : (Jvm.Cond.methodLink "BreathStreetLaw" (153 : Nat) ({ cls := "BreathStreetModel", name := "tear", desc := "()I" } : Jvm.MethodName)) ∈ lw_tbl := List.mem_append_right _ (List.mem_of_getElem? (i := 1347) (by decide +kernel))
theorem tw_1348 : (Jvm.Cond.instanceMethod ({ cls := "BreathStreetModel", name := "tear", desc := "()I" } : Jvm.MethodName)) ∈ lw_tbl := List.mem_append_right _ (List.mem_of_getElem? (i := 1348) (by decide +kernel))
theorem tw_1349 : (Jvm.Cond.selects "BreathStreetModel" ({ cls := "BreathStreetModel", name := "tear", desc := "()I" } : Jvm.MethodName) ({ cls := "BreathStreetModel", name := "tear", desc := "()I" } : Jvm.MethodName)) ∈ lw_tbl := List.mem_append_right _ (List.mem_of_getElem? (i := 1349) (by decide +kernel))
theorem tw_1350 : (Jvm.Cond.code ({ cls := "BreathStreetModel", name := "tear", desc := "()I" } : Jvm.MethodName) prog_14_method_76_code (2 : Nat) (Option.some Jvm.ClassFile.FieldType.int)) ∈ lw_tbl := List.mem_append_right _ (List.mem_of_getElem? (i := 1350) (by decide +kernel))
theorem tw_1351 : (Jvm.Cond.methodLink "BreathStreetLaw" (157 : Nat) ({ cls := "BreathStreetModel", name := "seed", desc := "(I)I" } : Jvm.MethodName)) ∈ lw_tbl := List.mem_append_right _ (List.mem_of_getElem? (i := 1351) (by decide +kernel))
theorem tw_1352 : (Jvm.Cond.instanceMethod ({ cls := "BreathStreetModel", name := "seed", desc := "(I)I" } : Jvm.MethodName)) ∈ lw_tbl := List.mem_append_right _ (List.mem_of_getElem? (i := 1352) (by decide +kernel))
theorem tw_1353 : (Jvm.Cond.selects "BreathStreetModel" ({ cls := "BreathStreetModel", name := "seed", desc := "(I)I" } : Jvm.MethodName) ({ cls := "BreathStreetModel", name := "seed", desc := "(I)I" } : Jvm.MethodName)) ∈ lw_tbl := List.mem_append_right _ (List.mem_of_getElem? (i := 1353) (by decide +kernel))
theorem tw_1354 : (Jvm.Cond.code ({ cls := "BreathStreetModel", name := "seed", desc := "(I)I" } : Jvm.MethodName) prog_14_method_77_code (3 : Nat) (Option.some Jvm.ClassFile.FieldType.int)) ∈ lw_tbl := List.mem_append_right _ (List.mem_of_getElem? (i := 1354) (by decide +kernel))
theorem tw_1355 : (Jvm.Cond.methodLink "BreathStreetLaw" (161 : Nat) ({ cls := "BreathStreetModel", name := "keep", desc := "(I)I" } : Jvm.MethodName)) ∈ lw_tbl := List.mem_append_right _ (List.mem_of_getElem? (i := 1355) (by decide +kernel))
theorem tw_1356 : (Jvm.Cond.instanceMethod ({ cls := "BreathStreetModel", name := "keep", desc := "(I)I" } : Jvm.MethodName)) ∈ lw_tbl := List.mem_append_right _ (List.mem_of_getElem? (i := 1356) (by decide +kernel))
theorem tw_1357 : (Jvm.Cond.selects "BreathStreetModel" ({ cls := "BreathStreetModel", name := "keep", desc := "(I)I" } : Jvm.MethodName) ({ cls := "BreathStreetModel", name := "keep", desc := "(I)I" } : Jvm.MethodName)) ∈ lw_tbl := List.mem_append_right _ (List.mem_of_getElem? (i := 1357) (by decide +kernel))
theorem tw_1358 : (Jvm.Cond.code ({ cls := "BreathStreetModel", name := "keep", desc := "(I)I" } : Jvm.MethodName) prog_14_method_79_code (2 : Nat) (Option.some Jvm.ClassFile.FieldType.int)) ∈ lw_tbl := List.mem_append_right _ (List.mem_of_getElem? (i := 1358) (by decide +kernel))
theorem tw_1359 : (Jvm.Cond.methodLink "BreathStreetModel" (292 : Nat) ({ cls := "BreathStreetModel", name := "copy", desc := "(II)V" } : Jvm.MethodName)) ∈ lw_tbl := List.mem_append_right _ (List.mem_of_getElem? (i := 1359) (by decide +kernel))
theorem tw_1360 : (Jvm.Cond.privateMethod ({ cls := "BreathStreetModel", name := "copy", desc := "(II)V" } : Jvm.MethodName)) ∈ lw_tbl := List.mem_append_right _ (List.mem_of_getElem? (i := 1360) (by decide +kernel))
theorem tw_1361 : (Jvm.Cond.instanceMethod ({ cls := "BreathStreetModel", name := "copy", desc := "(II)V" } : Jvm.MethodName)) ∈ lw_tbl := List.mem_append_right _ (List.mem_of_getElem? (i := 1361) (by decide +kernel))
theorem tw_1362 : (Jvm.Cond.code ({ cls := "BreathStreetModel", name := "copy", desc := "(II)V" } : Jvm.MethodName) prog_14_method_78_code (4 : Nat) (Option.none : Option Jvm.ClassFile.FieldType)) ∈ lw_tbl := List.mem_append_right _ (List.mem_of_getElem? (i := 1362) (by decide +kernel))
theorem tw_1363 : (Jvm.Cond.methodLink "BreathStreetLaw" (165 : Nat) ({ cls := "BreathStreetModel", name := "goBack", desc := "(I)I" } : Jvm.MethodName)) ∈ lw_tbl := List.mem_append_right _ (List.mem_of_getElem? (i := 1363) (by decide +kernel))
theorem tw_1364 : (Jvm.Cond.instanceMethod ({ cls := "BreathStreetModel", name := "goBack", desc := "(I)I" } : Jvm.MethodName)) ∈ lw_tbl := List.mem_append_right _ (List.mem_of_getElem? (i := 1364) (by decide +kernel))
theorem tw_1365 : (Jvm.Cond.selects "BreathStreetModel" ({ cls := "BreathStreetModel", name := "goBack", desc := "(I)I" } : Jvm.MethodName) ({ cls := "BreathStreetModel", name := "goBack", desc := "(I)I" } : Jvm.MethodName)) ∈ lw_tbl := List.mem_append_right _ (List.mem_of_getElem? (i := 1365) (by decide +kernel))
theorem tw_1366 : (Jvm.Cond.code ({ cls := "BreathStreetModel", name := "goBack", desc := "(I)I" } : Jvm.MethodName) prog_14_method_80_code (2 : Nat) (Option.some Jvm.ClassFile.FieldType.int)) ∈ lw_tbl := List.mem_append_right _ (List.mem_of_getElem? (i := 1366) (by decide +kernel))
