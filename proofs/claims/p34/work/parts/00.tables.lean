section
-- ===== PART A: goes FIRST, ahead of the names: the tables' words, and 'selects' of the private methods out of them =====
/-- a private method of a class that the tables say can be made, by its rows of tables_1 -/
def lw_okq (q : MethodName × Nat) : Prop := (q.1.cls ≠ "java/lang/invoke/MethodHandle" ∧ q.1.cls ≠ "java/lang/invoke/VarHandle") ∧ Cond.instantiable q.1.cls q.2 ∈ tables_1 ∧ Cond.privateMethod q.1 ∈ tables_1 ∧ Cond.instanceMethod q.1 ∈ tables_1
theorem lw_nq_0 : ("HiredEnemy" ≠ "java/lang/invoke/MethodHandle" ∧ "HiredEnemy" ≠ "java/lang/invoke/VarHandle") := ⟨by decide +kernel, by decide +kernel⟩
theorem lw_iq_27 : Cond.instantiable "HiredEnemy" 13 ∈ tables_1 := List.mem_of_getElem? (i := 27) (by decide +kernel)
theorem lw_p0 : lw_okq (⟨"HiredEnemy", "putOnTape", "(I)V"⟩, 13) := ⟨lw_nq_0, lw_iq_27, List.mem_of_getElem? (i := 298) (by decide +kernel), List.mem_of_getElem? (i := 299) (by decide +kernel)⟩
theorem lw_nq_1 : ("HiredEnemy$Bids" ≠ "java/lang/invoke/MethodHandle" ∧ "HiredEnemy$Bids" ≠ "java/lang/invoke/VarHandle") := ⟨by decide +kernel, by decide +kernel⟩
theorem lw_iq_174 : Cond.instantiable "HiredEnemy$Bids" 2 ∈ tables_1 := List.mem_of_getElem? (i := 174) (by decide +kernel)
theorem lw_p1 : lw_okq (⟨"HiredEnemy$Bids", "mostFrom", "(II)I"⟩, 2) := ⟨lw_nq_1, lw_iq_174, List.mem_of_getElem? (i := 314) (by decide +kernel), List.mem_of_getElem? (i := 315) (by decide +kernel)⟩
theorem lw_p2 : lw_okq (⟨"HiredEnemy$Bids", "through", "(II)I"⟩, 2) := ⟨lw_nq_1, lw_iq_174, List.mem_of_getElem? (i := 321) (by decide +kernel), List.mem_of_getElem? (i := 322) (by decide +kernel)⟩
theorem lw_p3 : lw_okq (⟨"HiredEnemy", "demand", "(Z)V"⟩, 13) := ⟨lw_nq_0, lw_iq_27, List.mem_of_getElem? (i := 382) (by decide +kernel), List.mem_of_getElem? (i := 383) (by decide +kernel)⟩
theorem lw_nq_2 : ("java/lang/Throwable" ≠ "java/lang/invoke/MethodHandle" ∧ "java/lang/Throwable" ≠ "java/lang/invoke/VarHandle") := ⟨by decide +kernel, by decide +kernel⟩
theorem lw_iq_424 : Cond.instantiable "java/lang/Throwable" 6 ∈ tables_1 := List.mem_of_getElem? (i := 424) (by decide +kernel)
theorem lw_p4 : lw_okq (⟨"java/lang/Throwable", "fillInStackTrace", "(I)Ljava/lang/Throwable;"⟩, 6) := ⟨lw_nq_2, lw_iq_424, List.mem_of_getElem? (i := 422) (by decide +kernel), List.mem_of_getElem? (i := 423) (by decide +kernel)⟩
theorem lw_nq_3 : ("HiredEnemy$Reader" ≠ "java/lang/invoke/MethodHandle" ∧ "HiredEnemy$Reader" ≠ "java/lang/invoke/VarHandle") := ⟨by decide +kernel, by decide +kernel⟩
theorem lw_iq_35 : Cond.instantiable "HiredEnemy$Reader" 6 ∈ tables_1 := List.mem_of_getElem? (i := 35) (by decide +kernel)
theorem lw_p5 : lw_okq (⟨"HiredEnemy$Reader", "skipBlanks", "()V"⟩, 6) := ⟨lw_nq_3, lw_iq_35, List.mem_of_getElem? (i := 470) (by decide +kernel), List.mem_of_getElem? (i := 471) (by decide +kernel)⟩
theorem lw_p6 : lw_okq (⟨"HiredEnemy$Reader", "readPart", "(LHiredEnemy$Telling;I)Z"⟩, 6) := ⟨lw_nq_3, lw_iq_35, List.mem_of_getElem? (i := 474) (by decide +kernel), List.mem_of_getElem? (i := 475) (by decide +kernel)⟩
theorem lw_p7 : lw_okq (⟨"HiredEnemy$Reader", "skipLetters", "()V"⟩, 6) := ⟨lw_nq_3, lw_iq_35, List.mem_of_getElem? (i := 478) (by decide +kernel), List.mem_of_getElem? (i := 479) (by decide +kernel)⟩
theorem lw_p8 : lw_okq (⟨"HiredEnemy$Reader", "kindOf", "(Ljava/lang/String;I)I"⟩, 6) := ⟨lw_nq_3, lw_iq_35, List.mem_of_getElem? (i := 493) (by decide +kernel), List.mem_of_getElem? (i := 494) (by decide +kernel)⟩
theorem lw_p9 : lw_okq (⟨"HiredEnemy$Reader", "isSame", "(Ljava/lang/String;III)Z"⟩, 6) := ⟨lw_nq_3, lw_iq_35, List.mem_of_getElem? (i := 545) (by decide +kernel), List.mem_of_getElem? (i := 546) (by decide +kernel)⟩
theorem lw_p10 : lw_okq (⟨"HiredEnemy$Reader", "fail", "(II)Z"⟩, 6) := ⟨lw_nq_3, lw_iq_35, List.mem_of_getElem? (i := 549) (by decide +kernel), List.mem_of_getElem? (i := 550) (by decide +kernel)⟩
theorem lw_p11 : lw_okq (⟨"HiredEnemy$Reader", "readNumber", "(III)Z"⟩, 6) := ⟨lw_nq_3, lw_iq_35, List.mem_of_getElem? (i := 597) (by decide +kernel), List.mem_of_getElem? (i := 598) (by decide +kernel)⟩
theorem lw_nq_4 : ("HiredEnemy$Plan" ≠ "java/lang/invoke/MethodHandle" ∧ "HiredEnemy$Plan" ≠ "java/lang/invoke/VarHandle") := ⟨by decide +kernel, by decide +kernel⟩
theorem lw_iq_63 : Cond.instantiable "HiredEnemy$Plan" 5 ∈ tables_1 := List.mem_of_getElem? (i := 63) (by decide +kernel)
theorem lw_p12 : lw_okq (⟨"HiredEnemy$Plan", "addWall", "(II)V"⟩, 5) := ⟨lw_nq_4, lw_iq_63, List.mem_of_getElem? (i := 612) (by decide +kernel), List.mem_of_getElem? (i := 613) (by decide +kernel)⟩
theorem lw_p13 : lw_okq (⟨"HiredEnemy", "demandWall", "(I)V"⟩, 13) := ⟨lw_nq_0, lw_iq_27, List.mem_of_getElem? (i := 658) (by decide +kernel), List.mem_of_getElem? (i := 659) (by decide +kernel)⟩
theorem lw_p14 : lw_okq (⟨"HiredEnemy", "demandContract", "(I)V"⟩, 13) := ⟨lw_nq_0, lw_iq_27, List.mem_of_getElem? (i := 686) (by decide +kernel), List.mem_of_getElem? (i := 687) (by decide +kernel)⟩
theorem lw_nq_5 : ("HiredEnemy$Pact" ≠ "java/lang/invoke/MethodHandle" ∧ "HiredEnemy$Pact" ≠ "java/lang/invoke/VarHandle") := ⟨by decide +kernel, by decide +kernel⟩
theorem lw_iq_230 : Cond.instantiable "HiredEnemy$Pact" 3 ∈ tables_1 := List.mem_of_getElem? (i := 230) (by decide +kernel)
theorem lw_p15 : lw_okq (⟨"HiredEnemy$Pact", "breachesTold", "()I"⟩, 3) := ⟨lw_nq_5, lw_iq_230, List.mem_of_getElem? (i := 710) (by decide +kernel), List.mem_of_getElem? (i := 711) (by decide +kernel)⟩
def lw_privs_1 : List (MethodName × Nat) := [(⟨"HiredEnemy", "putOnTape", "(I)V"⟩, 13), (⟨"HiredEnemy$Bids", "mostFrom", "(II)I"⟩, 2), (⟨"HiredEnemy$Bids", "through", "(II)I"⟩, 2), (⟨"HiredEnemy", "demand", "(Z)V"⟩, 13), (⟨"java/lang/Throwable", "fillInStackTrace", "(I)Ljava/lang/Throwable;"⟩, 6), (⟨"HiredEnemy$Reader", "skipBlanks", "()V"⟩, 6), (⟨"HiredEnemy$Reader", "readPart", "(LHiredEnemy$Telling;I)Z"⟩, 6), (⟨"HiredEnemy$Reader", "skipLetters", "()V"⟩, 6), (⟨"HiredEnemy$Reader", "kindOf", "(Ljava/lang/String;I)I"⟩, 6), (⟨"HiredEnemy$Reader", "isSame", "(Ljava/lang/String;III)Z"⟩, 6), (⟨"HiredEnemy$Reader", "fail", "(II)Z"⟩, 6), (⟨"HiredEnemy$Reader", "readNumber", "(III)Z"⟩, 6), (⟨"HiredEnemy$Plan", "addWall", "(II)V"⟩, 5), (⟨"HiredEnemy", "demandWall", "(I)V"⟩, 13), (⟨"HiredEnemy", "demandContract", "(I)V"⟩, 13), (⟨"HiredEnemy$Pact", "breachesTold", "()I"⟩, 3)]
theorem lw_r1 : ∀ q ∈ lw_privs_1, lw_okq q := List.forall_mem_cons.mpr ⟨lw_p0, List.forall_mem_cons.mpr ⟨lw_p1, List.forall_mem_cons.mpr ⟨lw_p2, List.forall_mem_cons.mpr ⟨lw_p3, List.forall_mem_cons.mpr ⟨lw_p4, List.forall_mem_cons.mpr ⟨lw_p5, List.forall_mem_cons.mpr ⟨lw_p6, List.forall_mem_cons.mpr ⟨lw_p7, List.forall_mem_cons.mpr ⟨lw_p8, List.forall_mem_cons.mpr ⟨lw_p9, List.forall_mem_cons.mpr ⟨lw_p10, List.forall_mem_cons.mpr ⟨lw_p11, List.forall_mem_cons.mpr ⟨lw_p12, List.forall_mem_cons.mpr ⟨lw_p13, List.forall_mem_cons.mpr ⟨lw_p14, List.forall_mem_cons.mpr ⟨lw_p15, fun _ h => absurd h List.not_mem_nil⟩⟩⟩⟩⟩⟩⟩⟩⟩⟩⟩⟩⟩⟩⟩⟩
theorem lw_p16 : lw_okq (⟨"HiredEnemy$Pact", "winterPay", "()I"⟩, 3) := ⟨lw_nq_5, lw_iq_230, List.mem_of_getElem? (i := 714) (by decide +kernel), List.mem_of_getElem? (i := 715) (by decide +kernel)⟩
theorem lw_p17 : lw_okq (⟨"HiredEnemy", "demandContractOrNone", "(I)V"⟩, 13) := ⟨lw_nq_0, lw_iq_27, List.mem_of_getElem? (i := 736) (by decide +kernel), List.mem_of_getElem? (i := 737) (by decide +kernel)⟩
theorem lw_p18 : lw_okq (⟨"HiredEnemy", "inForce", "(LHiredEnemy$Course;)LHiredEnemy$Pact;"⟩, 13) := ⟨lw_nq_0, lw_iq_27, List.mem_of_getElem? (i := 755) (by decide +kernel), List.mem_of_getElem? (i := 756) (by decide +kernel)⟩
theorem lw_nq_6 : ("HiredEnemy$Course" ≠ "java/lang/invoke/MethodHandle" ∧ "HiredEnemy$Course" ≠ "java/lang/invoke/VarHandle") := ⟨by decide +kernel, by decide +kernel⟩
theorem lw_iq_111 : Cond.instantiable "HiredEnemy$Course" 3 ∈ tables_1 := List.mem_of_getElem? (i := 111) (by decide +kernel)
theorem lw_p19 : lw_okq (⟨"HiredEnemy$Course", "move", "(III)V"⟩, 3) := ⟨lw_nq_6, lw_iq_111, List.mem_of_getElem? (i := 763) (by decide +kernel), List.mem_of_getElem? (i := 764) (by decide +kernel)⟩
theorem lw_p20 : lw_okq (⟨"HiredEnemy$Course", "isPaid", "(LHiredEnemy$Pact;)Z"⟩, 3) := ⟨lw_nq_6, lw_iq_111, List.mem_of_getElem? (i := 768) (by decide +kernel), List.mem_of_getElem? (i := 769) (by decide +kernel)⟩
theorem lw_p21 : lw_okq (⟨"HiredEnemy$Course", "shoot", "(LHiredEnemy$Plan;LHiredEnemy$Pact;)V"⟩, 3) := ⟨lw_nq_6, lw_iq_111, List.mem_of_getElem? (i := 776) (by decide +kernel), List.mem_of_getElem? (i := 777) (by decide +kernel)⟩
theorem lw_p22 : lw_okq (⟨"HiredEnemy$Course", "weakest", "(I)I"⟩, 3) := ⟨lw_nq_6, lw_iq_111, List.mem_of_getElem? (i := 784) (by decide +kernel), List.mem_of_getElem? (i := 785) (by decide +kernel)⟩
theorem lw_p23 : lw_okq (⟨"HiredEnemy$Course", "breach", "(LHiredEnemy$Plan;LHiredEnemy$Pact;I)V"⟩, 3) := ⟨lw_nq_6, lw_iq_111, List.mem_of_getElem? (i := 788) (by decide +kernel), List.mem_of_getElem? (i := 789) (by decide +kernel)⟩
theorem lw_p24 : lw_okq (⟨"HiredEnemy$Course", "frighten", "(I)V"⟩, 3) := ⟨lw_nq_6, lw_iq_111, List.mem_of_getElem? (i := 792) (by decide +kernel), List.mem_of_getElem? (i := 793) (by decide +kernel)⟩
theorem lw_p25 : lw_okq (⟨"HiredEnemy$Course", "mend", "(LHiredEnemy$Plan;)V"⟩, 3) := ⟨lw_nq_6, lw_iq_111, List.mem_of_getElem? (i := 801) (by decide +kernel), List.mem_of_getElem? (i := 802) (by decide +kernel)⟩
theorem lw_p26 : lw_okq (⟨"HiredEnemy$Course", "desert", "(I)V"⟩, 3) := ⟨lw_nq_6, lw_iq_111, List.mem_of_getElem? (i := 805) (by decide +kernel), List.mem_of_getElem? (i := 806) (by decide +kernel)⟩
theorem lw_p27 : lw_okq (⟨"HiredEnemy", "trySigned", "(II)I"⟩, 13) := ⟨lw_nq_0, lw_iq_27, List.mem_of_getElem? (i := 853) (by decide +kernel), List.mem_of_getElem? (i := 854) (by decide +kernel)⟩
theorem lw_p28 : lw_okq (⟨"HiredEnemy", "passTried", "(I)V"⟩, 13) := ⟨lw_nq_0, lw_iq_27, List.mem_of_getElem? (i := 858) (by decide +kernel), List.mem_of_getElem? (i := 859) (by decide +kernel)⟩
theorem lw_nq_7 : ("HiredEnemy$Battle" ≠ "java/lang/invoke/MethodHandle" ∧ "HiredEnemy$Battle" ≠ "java/lang/invoke/VarHandle") := ⟨by decide +kernel, by decide +kernel⟩
theorem lw_iq_207 : Cond.instantiable "HiredEnemy$Battle" 5 ∈ tables_1 := List.mem_of_getElem? (i := 207) (by decide +kernel)
theorem lw_p29 : lw_okq (⟨"HiredEnemy$Battle", "place", "(IIII)Z"⟩, 5) := ⟨lw_nq_7, lw_iq_207, List.mem_of_getElem? (i := 963) (by decide +kernel), List.mem_of_getElem? (i := 964) (by decide +kernel)⟩
theorem lw_p30 : lw_okq (⟨"HiredEnemy$Battle", "mostFelled", "(II)I"⟩, 5) := ⟨lw_nq_7, lw_iq_207, List.mem_of_getElem? (i := 967) (by decide +kernel), List.mem_of_getElem? (i := 968) (by decide +kernel)⟩
theorem lw_p31 : lw_okq (⟨"HiredEnemy$Battle", "menToFell", "(I)I"⟩, 5) := ⟨lw_nq_7, lw_iq_207, List.mem_of_getElem? (i := 971) (by decide +kernel), List.mem_of_getElem? (i := 972) (by decide +kernel)⟩
def lw_privs_2 : List (MethodName × Nat) := [(⟨"HiredEnemy$Pact", "winterPay", "()I"⟩, 3), (⟨"HiredEnemy", "demandContractOrNone", "(I)V"⟩, 13), (⟨"HiredEnemy", "inForce", "(LHiredEnemy$Course;)LHiredEnemy$Pact;"⟩, 13), (⟨"HiredEnemy$Course", "move", "(III)V"⟩, 3), (⟨"HiredEnemy$Course", "isPaid", "(LHiredEnemy$Pact;)Z"⟩, 3), (⟨"HiredEnemy$Course", "shoot", "(LHiredEnemy$Plan;LHiredEnemy$Pact;)V"⟩, 3), (⟨"HiredEnemy$Course", "weakest", "(I)I"⟩, 3), (⟨"HiredEnemy$Course", "breach", "(LHiredEnemy$Plan;LHiredEnemy$Pact;I)V"⟩, 3), (⟨"HiredEnemy$Course", "frighten", "(I)V"⟩, 3), (⟨"HiredEnemy$Course", "mend", "(LHiredEnemy$Plan;)V"⟩, 3), (⟨"HiredEnemy$Course", "desert", "(I)V"⟩, 3), (⟨"HiredEnemy", "trySigned", "(II)I"⟩, 13), (⟨"HiredEnemy", "passTried", "(I)V"⟩, 13), (⟨"HiredEnemy$Battle", "place", "(IIII)Z"⟩, 5), (⟨"HiredEnemy$Battle", "mostFelled", "(II)I"⟩, 5), (⟨"HiredEnemy$Battle", "menToFell", "(I)I"⟩, 5)]
theorem lw_r2 : ∀ q ∈ lw_privs_2, lw_okq q := List.forall_mem_cons.mpr ⟨lw_p16, List.forall_mem_cons.mpr ⟨lw_p17, List.forall_mem_cons.mpr ⟨lw_p18, List.forall_mem_cons.mpr ⟨lw_p19, List.forall_mem_cons.mpr ⟨lw_p20, List.forall_mem_cons.mpr ⟨lw_p21, List.forall_mem_cons.mpr ⟨lw_p22, List.forall_mem_cons.mpr ⟨lw_p23, List.forall_mem_cons.mpr ⟨lw_p24, List.forall_mem_cons.mpr ⟨lw_p25, List.forall_mem_cons.mpr ⟨lw_p26, List.forall_mem_cons.mpr ⟨lw_p27, List.forall_mem_cons.mpr ⟨lw_p28, List.forall_mem_cons.mpr ⟨lw_p29, List.forall_mem_cons.mpr ⟨lw_p30, List.forall_mem_cons.mpr ⟨lw_p31, fun _ h => absurd h List.not_mem_nil⟩⟩⟩⟩⟩⟩⟩⟩⟩⟩⟩⟩⟩⟩⟩⟩
theorem lw_p32 : lw_okq (⟨"HiredEnemy$Battle", "worthOf", "(I)I"⟩, 5) := ⟨lw_nq_7, lw_iq_207, List.mem_of_getElem? (i := 975) (by decide +kernel), List.mem_of_getElem? (i := 976) (by decide +kernel)⟩
theorem lw_p33 : lw_okq (⟨"HiredEnemy$Battle", "digits", "()I"⟩, 5) := ⟨lw_nq_7, lw_iq_207, List.mem_of_getElem? (i := 980) (by decide +kernel), List.mem_of_getElem? (i := 981) (by decide +kernel)⟩
theorem lw_p34 : lw_okq (⟨"HiredEnemy$Battle", "leastFelled", "(I)I"⟩, 5) := ⟨lw_nq_7, lw_iq_207, List.mem_of_getElem? (i := 989) (by decide +kernel), List.mem_of_getElem? (i := 990) (by decide +kernel)⟩
theorem lw_p35 : lw_okq (⟨"HiredEnemy$Battle", "menToHold", "(I)I"⟩, 5) := ⟨lw_nq_7, lw_iq_207, List.mem_of_getElem? (i := 993) (by decide +kernel), List.mem_of_getElem? (i := 994) (by decide +kernel)⟩
theorem lw_p36 : lw_okq (⟨"HiredEnemy$Bids", "firstWay", "(II)I"⟩, 2) := ⟨lw_nq_1, lw_iq_174, List.mem_of_getElem? (i := 1034) (by decide +kernel), List.mem_of_getElem? (i := 1035) (by decide +kernel)⟩
theorem lw_nq_8 : ("HiredEnemyModel" ≠ "java/lang/invoke/MethodHandle" ∧ "HiredEnemyModel" ≠ "java/lang/invoke/VarHandle") := ⟨by decide +kernel, by decide +kernel⟩
theorem lw_iq_1038 : Cond.instantiable "HiredEnemyModel" 35 ∈ tables_1 := List.mem_of_getElem? (i := 1038) (by decide +kernel)
theorem lw_p37 : lw_okq (⟨"HiredEnemyModel", "tellsNothing", "()V"⟩, 35) := ⟨lw_nq_8, lw_iq_1038, List.mem_of_getElem? (i := 1046) (by decide +kernel), List.mem_of_getElem? (i := 1047) (by decide +kernel)⟩
theorem lw_p38 : lw_okq (⟨"HiredEnemyModel", "stands0", "()V"⟩, 35) := ⟨lw_nq_8, lw_iq_1038, List.mem_of_getElem? (i := 1050) (by decide +kernel), List.mem_of_getElem? (i := 1051) (by decide +kernel)⟩
theorem lw_p39 : lw_okq (⟨"HiredEnemyModel", "bad", "(ZII)Z"⟩, 35) := ⟨lw_nq_8, lw_iq_1038, List.mem_of_getElem? (i := 1171) (by decide +kernel), List.mem_of_getElem? (i := 1172) (by decide +kernel)⟩
theorem lw_p40 : lw_okq (⟨"HiredEnemyModel", "starts", "(I)V"⟩, 35) := ⟨lw_nq_8, lw_iq_1038, List.mem_of_getElem? (i := 1175) (by decide +kernel), List.mem_of_getElem? (i := 1176) (by decide +kernel)⟩
theorem lw_p41 : lw_okq (⟨"HiredEnemyModel", "blanks", "()V"⟩, 35) := ⟨lw_nq_8, lw_iq_1038, List.mem_of_getElem? (i := 1179) (by decide +kernel), List.mem_of_getElem? (i := 1180) (by decide +kernel)⟩
theorem lw_p42 : lw_okq (⟨"HiredEnemyModel", "byteAt", "(I)I"⟩, 35) := ⟨lw_nq_8, lw_iq_1038, List.mem_of_getElem? (i := 1183) (by decide +kernel), List.mem_of_getElem? (i := 1184) (by decide +kernel)⟩
theorem lw_p43 : lw_okq (⟨"HiredEnemyModel", "clause", "()V"⟩, 35) := ⟨lw_nq_8, lw_iq_1038, List.mem_of_getElem? (i := 1187) (by decide +kernel), List.mem_of_getElem? (i := 1188) (by decide +kernel)⟩
theorem lw_p44 : lw_okq (⟨"HiredEnemyModel", "kindHere", "()I"⟩, 35) := ⟨lw_nq_8, lw_iq_1038, List.mem_of_getElem? (i := 1191) (by decide +kernel), List.mem_of_getElem? (i := 1192) (by decide +kernel)⟩
theorem lw_p45 : lw_okq (⟨"HiredEnemyModel", "isWord", "(IIIIII)Z"⟩, 35) := ⟨lw_nq_8, lw_iq_1038, List.mem_of_getElem? (i := 1195) (by decide +kernel), List.mem_of_getElem? (i := 1196) (by decide +kernel)⟩
theorem lw_p46 : lw_okq (⟨"HiredEnemyModel", "wordHere", "()I"⟩, 35) := ⟨lw_nq_8, lw_iq_1038, List.mem_of_getElem? (i := 1199) (by decide +kernel), List.mem_of_getElem? (i := 1200) (by decide +kernel)⟩
theorem lw_p47 : lw_okq (⟨"HiredEnemyModel", "wrong", "(II)V"⟩, 35) := ⟨lw_nq_8, lw_iq_1038, List.mem_of_getElem? (i := 1206) (by decide +kernel), List.mem_of_getElem? (i := 1207) (by decide +kernel)⟩
def lw_privs_3 : List (MethodName × Nat) := [(⟨"HiredEnemy$Battle", "worthOf", "(I)I"⟩, 5), (⟨"HiredEnemy$Battle", "digits", "()I"⟩, 5), (⟨"HiredEnemy$Battle", "leastFelled", "(I)I"⟩, 5), (⟨"HiredEnemy$Battle", "menToHold", "(I)I"⟩, 5), (⟨"HiredEnemy$Bids", "firstWay", "(II)I"⟩, 2), (⟨"HiredEnemyModel", "tellsNothing", "()V"⟩, 35), (⟨"HiredEnemyModel", "stands0", "()V"⟩, 35), (⟨"HiredEnemyModel", "bad", "(ZII)Z"⟩, 35), (⟨"HiredEnemyModel", "starts", "(I)V"⟩, 35), (⟨"HiredEnemyModel", "blanks", "()V"⟩, 35), (⟨"HiredEnemyModel", "byteAt", "(I)I"⟩, 35), (⟨"HiredEnemyModel", "clause", "()V"⟩, 35), (⟨"HiredEnemyModel", "kindHere", "()I"⟩, 35), (⟨"HiredEnemyModel", "isWord", "(IIIIII)Z"⟩, 35), (⟨"HiredEnemyModel", "wordHere", "()I"⟩, 35), (⟨"HiredEnemyModel", "wrong", "(II)V"⟩, 35)]
theorem lw_r3 : ∀ q ∈ lw_privs_3, lw_okq q := List.forall_mem_cons.mpr ⟨lw_p32, List.forall_mem_cons.mpr ⟨lw_p33, List.forall_mem_cons.mpr ⟨lw_p34, List.forall_mem_cons.mpr ⟨lw_p35, List.forall_mem_cons.mpr ⟨lw_p36, List.forall_mem_cons.mpr ⟨lw_p37, List.forall_mem_cons.mpr ⟨lw_p38, List.forall_mem_cons.mpr ⟨lw_p39, List.forall_mem_cons.mpr ⟨lw_p40, List.forall_mem_cons.mpr ⟨lw_p41, List.forall_mem_cons.mpr ⟨lw_p42, List.forall_mem_cons.mpr ⟨lw_p43, List.forall_mem_cons.mpr ⟨lw_p44, List.forall_mem_cons.mpr ⟨lw_p45, List.forall_mem_cons.mpr ⟨lw_p46, List.forall_mem_cons.mpr ⟨lw_p47, fun _ h => absurd h List.not_mem_nil⟩⟩⟩⟩⟩⟩⟩⟩⟩⟩⟩⟩⟩⟩⟩⟩
theorem lw_p48 : lw_okq (⟨"HiredEnemyModel", "skipWord", "()V"⟩, 35) := ⟨lw_nq_8, lw_iq_1038, List.mem_of_getElem? (i := 1210) (by decide +kernel), List.mem_of_getElem? (i := 1211) (by decide +kernel)⟩
theorem lw_p49 : lw_okq (⟨"HiredEnemyModel", "number", "(II)I"⟩, 35) := ⟨lw_nq_8, lw_iq_1038, List.mem_of_getElem? (i := 1214) (by decide +kernel), List.mem_of_getElem? (i := 1215) (by decide +kernel)⟩
theorem lw_p50 : lw_okq (⟨"HiredEnemyModel", "closes", "()V"⟩, 35) := ⟨lw_nq_8, lw_iq_1038, List.mem_of_getElem? (i := 1222) (by decide +kernel), List.mem_of_getElem? (i := 1223) (by decide +kernel)⟩
theorem lw_p51 : lw_okq (⟨"HiredEnemyModel", "rules", "()V"⟩, 35) := ⟨lw_nq_8, lw_iq_1038, List.mem_of_getElem? (i := 1230) (by decide +kernel), List.mem_of_getElem? (i := 1231) (by decide +kernel)⟩
theorem lw_p52 : lw_okq (⟨"HiredEnemyModel", "isWall", "(I)Z"⟩, 35) := ⟨lw_nq_8, lw_iq_1038, List.mem_of_getElem? (i := 1246) (by decide +kernel), List.mem_of_getElem? (i := 1247) (by decide +kernel)⟩
theorem lw_p53 : lw_okq (⟨"HiredEnemyModel", "isContract", "(I)Z"⟩, 35) := ⟨lw_nq_8, lw_iq_1038, List.mem_of_getElem? (i := 1254) (by decide +kernel), List.mem_of_getElem? (i := 1255) (by decide +kernel)⟩
theorem lw_p54 : lw_okq (⟨"HiredEnemyModel", "wantsFor", "(II)I"⟩, 35) := ⟨lw_nq_8, lw_iq_1038, List.mem_of_getElem? (i := 1262) (by decide +kernel), List.mem_of_getElem? (i := 1263) (by decide +kernel)⟩
theorem lw_p55 : lw_okq (⟨"HiredEnemyModel", "signs", "(I)V"⟩, 35) := ⟨lw_nq_8, lw_iq_1038, List.mem_of_getElem? (i := 1270) (by decide +kernel), List.mem_of_getElem? (i := 1271) (by decide +kernel)⟩
theorem lw_p56 : lw_okq (⟨"HiredEnemyModel", "monthGoes", "()V"⟩, 35) := ⟨lw_nq_8, lw_iq_1038, List.mem_of_getElem? (i := 1278) (by decide +kernel), List.mem_of_getElem? (i := 1279) (by decide +kernel)⟩
theorem lw_p57 : lw_okq (⟨"HiredEnemyModel", "pays", "(III)V"⟩, 35) := ⟨lw_nq_8, lw_iq_1038, List.mem_of_getElem? (i := 1282) (by decide +kernel), List.mem_of_getElem? (i := 1283) (by decide +kernel)⟩
theorem lw_p58 : lw_okq (⟨"HiredEnemyModel", "underContract", "()V"⟩, 35) := ⟨lw_nq_8, lw_iq_1038, List.mem_of_getElem? (i := 1289) (by decide +kernel), List.mem_of_getElem? (i := 1290) (by decide +kernel)⟩
theorem lw_p59 : lw_okq (⟨"HiredEnemyModel", "shoots", "([I[I)V"⟩, 35) := ⟨lw_nq_8, lw_iq_1038, List.mem_of_getElem? (i := 1293) (by decide +kernel), List.mem_of_getElem? (i := 1294) (by decide +kernel)⟩
theorem lw_p60 : lw_okq (⟨"HiredEnemyModel", "weakest", "()I"⟩, 35) := ⟨lw_nq_8, lw_iq_1038, List.mem_of_getElem? (i := 1297) (by decide +kernel), List.mem_of_getElem? (i := 1298) (by decide +kernel)⟩
theorem lw_p61 : lw_okq (⟨"HiredEnemyModel", "fears", "(I)V"⟩, 35) := ⟨lw_nq_8, lw_iq_1038, List.mem_of_getElem? (i := 1301) (by decide +kernel), List.mem_of_getElem? (i := 1302) (by decide +kernel)⟩
theorem lw_p62 : lw_okq (⟨"HiredEnemyModel", "mends", "()V"⟩, 35) := ⟨lw_nq_8, lw_iq_1038, List.mem_of_getElem? (i := 1305) (by decide +kernel), List.mem_of_getElem? (i := 1306) (by decide +kernel)⟩
theorem lw_p63 : lw_okq (⟨"HiredEnemyModel", "deserts", "()V"⟩, 35) := ⟨lw_nq_8, lw_iq_1038, List.mem_of_getElem? (i := 1309) (by decide +kernel), List.mem_of_getElem? (i := 1310) (by decide +kernel)⟩
def lw_privs_4 : List (MethodName × Nat) := [(⟨"HiredEnemyModel", "skipWord", "()V"⟩, 35), (⟨"HiredEnemyModel", "number", "(II)I"⟩, 35), (⟨"HiredEnemyModel", "closes", "()V"⟩, 35), (⟨"HiredEnemyModel", "rules", "()V"⟩, 35), (⟨"HiredEnemyModel", "isWall", "(I)Z"⟩, 35), (⟨"HiredEnemyModel", "isContract", "(I)Z"⟩, 35), (⟨"HiredEnemyModel", "wantsFor", "(II)I"⟩, 35), (⟨"HiredEnemyModel", "signs", "(I)V"⟩, 35), (⟨"HiredEnemyModel", "monthGoes", "()V"⟩, 35), (⟨"HiredEnemyModel", "pays", "(III)V"⟩, 35), (⟨"HiredEnemyModel", "underContract", "()V"⟩, 35), (⟨"HiredEnemyModel", "shoots", "([I[I)V"⟩, 35), (⟨"HiredEnemyModel", "weakest", "()I"⟩, 35), (⟨"HiredEnemyModel", "fears", "(I)V"⟩, 35), (⟨"HiredEnemyModel", "mends", "()V"⟩, 35), (⟨"HiredEnemyModel", "deserts", "()V"⟩, 35)]
theorem lw_r4 : ∀ q ∈ lw_privs_4, lw_okq q := List.forall_mem_cons.mpr ⟨lw_p48, List.forall_mem_cons.mpr ⟨lw_p49, List.forall_mem_cons.mpr ⟨lw_p50, List.forall_mem_cons.mpr ⟨lw_p51, List.forall_mem_cons.mpr ⟨lw_p52, List.forall_mem_cons.mpr ⟨lw_p53, List.forall_mem_cons.mpr ⟨lw_p54, List.forall_mem_cons.mpr ⟨lw_p55, List.forall_mem_cons.mpr ⟨lw_p56, List.forall_mem_cons.mpr ⟨lw_p57, List.forall_mem_cons.mpr ⟨lw_p58, List.forall_mem_cons.mpr ⟨lw_p59, List.forall_mem_cons.mpr ⟨lw_p60, List.forall_mem_cons.mpr ⟨lw_p61, List.forall_mem_cons.mpr ⟨lw_p62, List.forall_mem_cons.mpr ⟨lw_p63, fun _ h => absurd h List.not_mem_nil⟩⟩⟩⟩⟩⟩⟩⟩⟩⟩⟩⟩⟩⟩⟩⟩
theorem lw_p64 : lw_okq (⟨"HiredEnemyModel", "by", "(III)I"⟩, 35) := ⟨lw_nq_8, lw_iq_1038, List.mem_of_getElem? (i := 1332) (by decide +kernel), List.mem_of_getElem? (i := 1333) (by decide +kernel)⟩
theorem lw_p65 : lw_okq (⟨"HiredEnemyModel", "puts", "()V"⟩, 35) := ⟨lw_nq_8, lw_iq_1038, List.mem_of_getElem? (i := 1336) (by decide +kernel), List.mem_of_getElem? (i := 1337) (by decide +kernel)⟩
theorem lw_p66 : lw_okq (⟨"HiredEnemyModel", "goesOn", "(I)V"⟩, 35) := ⟨lw_nq_8, lw_iq_1038, List.mem_of_getElem? (i := 1340) (by decide +kernel), List.mem_of_getElem? (i := 1341) (by decide +kernel)⟩
theorem lw_p67 : lw_okq (⟨"HiredEnemyModel", "takes", "()V"⟩, 35) := ⟨lw_nq_8, lw_iq_1038, List.mem_of_getElem? (i := 1344) (by decide +kernel), List.mem_of_getElem? (i := 1345) (by decide +kernel)⟩
theorem lw_p68 : lw_okq (⟨"HiredEnemyModel", "byOffer", "(I)I"⟩, 35) := ⟨lw_nq_8, lw_iq_1038, List.mem_of_getElem? (i := 1356) (by decide +kernel), List.mem_of_getElem? (i := 1357) (by decide +kernel)⟩
theorem lw_p69 : lw_okq (⟨"HiredEnemyModel", "isSeen", "(II)I"⟩, 35) := ⟨lw_nq_8, lw_iq_1038, List.mem_of_getElem? (i := 1380) (by decide +kernel), List.mem_of_getElem? (i := 1381) (by decide +kernel)⟩
theorem lw_p70 : lw_okq (⟨"HiredEnemyModel", "firstWalls", "()I"⟩, 35) := ⟨lw_nq_8, lw_iq_1038, List.mem_of_getElem? (i := 1399) (by decide +kernel), List.mem_of_getElem? (i := 1400) (by decide +kernel)⟩
theorem lw_p71 : lw_okq (⟨"HiredEnemyModel", "safeBy", "(III)I"⟩, 35) := ⟨lw_nq_8, lw_iq_1038, List.mem_of_getElem? (i := 1403) (by decide +kernel), List.mem_of_getElem? (i := 1404) (by decide +kernel)⟩
theorem lw_p72 : lw_okq (⟨"HiredEnemyModel", "falls", "(III)I"⟩, 35) := ⟨lw_nq_8, lw_iq_1038, List.mem_of_getElem? (i := 1413) (by decide +kernel), List.mem_of_getElem? (i := 1414) (by decide +kernel)⟩
theorem lw_p73 : lw_okq (⟨"HiredEnemyModel", "sureBy", "(III)I"⟩, 35) := ⟨lw_nq_8, lw_iq_1038, List.mem_of_getElem? (i := 1417) (by decide +kernel), List.mem_of_getElem? (i := 1418) (by decide +kernel)⟩
theorem lw_p74 : lw_okq (⟨"HiredEnemyModel", "mostNow", "()I"⟩, 35) := ⟨lw_nq_8, lw_iq_1038, List.mem_of_getElem? (i := 1437) (by decide +kernel), List.mem_of_getElem? (i := 1438) (by decide +kernel)⟩
theorem lw_p75 : lw_okq (⟨"HiredEnemyModel", "laysRest", "()V"⟩, 35) := ⟨lw_nq_8, lw_iq_1038, List.mem_of_getElem? (i := 1441) (by decide +kernel), List.mem_of_getElem? (i := 1442) (by decide +kernel)⟩
theorem lw_p76 : lw_okq (⟨"HiredEnemyModel", "movesAll", "([IZ)V"⟩, 35) := ⟨lw_nq_8, lw_iq_1038, List.mem_of_getElem? (i := 1456) (by decide +kernel), List.mem_of_getElem? (i := 1457) (by decide +kernel)⟩
theorem lw_p77 : lw_okq (⟨"HiredEnemyModel", "moves", "([IIZ)I"⟩, 35) := ⟨lw_nq_8, lw_iq_1038, List.mem_of_getElem? (i := 1460) (by decide +kernel), List.mem_of_getElem? (i := 1461) (by decide +kernel)⟩
def lw_privs_5 : List (MethodName × Nat) := [(⟨"HiredEnemyModel", "by", "(III)I"⟩, 35), (⟨"HiredEnemyModel", "puts", "()V"⟩, 35), (⟨"HiredEnemyModel", "goesOn", "(I)V"⟩, 35), (⟨"HiredEnemyModel", "takes", "()V"⟩, 35), (⟨"HiredEnemyModel", "byOffer", "(I)I"⟩, 35), (⟨"HiredEnemyModel", "isSeen", "(II)I"⟩, 35), (⟨"HiredEnemyModel", "firstWalls", "()I"⟩, 35), (⟨"HiredEnemyModel", "safeBy", "(III)I"⟩, 35), (⟨"HiredEnemyModel", "falls", "(III)I"⟩, 35), (⟨"HiredEnemyModel", "sureBy", "(III)I"⟩, 35), (⟨"HiredEnemyModel", "mostNow", "()I"⟩, 35), (⟨"HiredEnemyModel", "laysRest", "()V"⟩, 35), (⟨"HiredEnemyModel", "movesAll", "([IZ)V"⟩, 35), (⟨"HiredEnemyModel", "moves", "([IIZ)I"⟩, 35)]
theorem lw_r5 : ∀ q ∈ lw_privs_5, lw_okq q := List.forall_mem_cons.mpr ⟨lw_p64, List.forall_mem_cons.mpr ⟨lw_p65, List.forall_mem_cons.mpr ⟨lw_p66, List.forall_mem_cons.mpr ⟨lw_p67, List.forall_mem_cons.mpr ⟨lw_p68, List.forall_mem_cons.mpr ⟨lw_p69, List.forall_mem_cons.mpr ⟨lw_p70, List.forall_mem_cons.mpr ⟨lw_p71, List.forall_mem_cons.mpr ⟨lw_p72, List.forall_mem_cons.mpr ⟨lw_p73, List.forall_mem_cons.mpr ⟨lw_p74, List.forall_mem_cons.mpr ⟨lw_p75, List.forall_mem_cons.mpr ⟨lw_p76, List.forall_mem_cons.mpr ⟨lw_p77, fun _ h => absurd h List.not_mem_nil⟩⟩⟩⟩⟩⟩⟩⟩⟩⟩⟩⟩⟩⟩
def lw_privs : List (MethodName × Nat) := lw_privs_1 ++ (lw_privs_2 ++ (lw_privs_3 ++ (lw_privs_4 ++ (lw_privs_5))))
def lw_tbl : List Cond := k2_sels lw_privs ++ tables_1
theorem lw_privs_ok : ∀ q ∈ lw_privs, lw_okq q := by
  show ∀ q ∈ lw_privs_1 ++ (lw_privs_2 ++ (lw_privs_3 ++ (lw_privs_4 ++ (lw_privs_5)))), lw_okq q
  exact List.forall_mem_append.mpr ⟨lw_r1, List.forall_mem_append.mpr ⟨lw_r2, List.forall_mem_append.mpr ⟨lw_r3, List.forall_mem_append.mpr ⟨lw_r4, lw_r5⟩⟩⟩⟩
-- ===== end of PART A; then your names; then what follows =====
end
section
def va_AOA (t : FieldType) (U : State) : Prop := (Cond.arrayOver (.array t)).before #[] U = true
theorem va_AOA.use {t : FieldType} {A : Array Value} {U : State} (h : va_AOA t U) : (Cond.arrayOver (.array t)).before A U = true := h
/-! ===== BEGIN words of one list among another's, by their places ===== -/
theorem goodIn_app {big a b : List Cond} (ha : GoodIn big a) (hb : GoodIn big b) : GoodIn big (a ++ b) := fun w h => (List.mem_append.mp h).elim (ha w) (hb w)
/-! ===== END ===== -/

/-! ===== BEGIN new T[n][m]: the outer array a place, the inner ones among the pooled ===== -/
/-- f, but v at every address of l -/
def vr_up {α : Type} (f : Nat → α) (l : List Nat) (v : α) : Nat → α := fun a => if a ∈ l then v else f a
theorem vr_up_in {α : Type} {f : Nat → α} {l : List Nat} {v : α} {a : Nat} (h : a ∈ l) : vr_up f l v a = v := if_pos h
theorem vr_up_ne {α : Type} {f : Nat → α} {l : List Nat} {v : α} {a : Nat} (h : a ∉ l) : vr_up f l v a = f a := if_neg h
theorem vr_rows {L l : List Nat} {f : Nat → va_E} {e : va_E} (h : ∀ a, a ∈ l → a ∉ L) : va_pl L f ++ l.map (fun a => (a, e)) = va_pl (L ++ l) (vr_up f l e) := by
  unfold va_pl
  rw [List.map_append]
  congr 1
  · apply List.map_congr_left
    intro a ha
    rw [vr_up_ne (fun q => h a q ha)]
  · apply List.map_congr_left
    intro a ha
    rw [vr_up_in ha]
theorem vr_lay {X rows : va_W} {x : Nat × va_E} {pl : va_W} {D : va_G} {cl : List vw_C} {H : Heap} (hP : va_P D cl (((X ++ pl) ++ [x]) ++ rows) H) : va_P D cl ((X ++ [x]) ++ (pl ++ rows)) H := by
  rw [List.append_assoc (X ++ pl)] at hP
  have h := va_P.swap hP
  rw [← List.append_assoc X] at h
  have h2 := va_P.swap h
  rw [List.append_assoc (X ++ [x])] at h2
  exact h2
theorem vr_layD {X rows : va_W} {x : Nat × va_E} {pl : va_W} {A : Nat → Prop} (hD : va_D A (((X ++ pl) ++ [x]) ++ rows)) : va_D A ((X ++ [x]) ++ (pl ++ rows)) := by
  rw [List.append_assoc (X ++ pl)] at hD
  have h := va_D.swap hD
  rw [← List.append_assoc X] at h
  have h2 := va_D.swap h
  rw [List.append_assoc (X ++ [x])] at h2
  exact h2
theorem vr_outer (c : ClassId) (N h0 : Nat) : ∀ i : Nat, Jvm.Free.Multi.outerC c N h0 i = arrV c N (fun j => va_rf (if j < i then some (h0 + 1 + j) else none))
  | 0 => by
    show ({ cls := c, slots := Array.replicate N .null, vm := .none } : Cell) = _
    rw [arrV_new]
    refine congrArg (arrV c N) (funext fun j => ?_)
    simp [va_rf]
  | i + 1 => by
    show (Jvm.Free.Multi.outerC c N h0 i).setSlot i (.ref (h0 + 1 + i)) = _
    rw [vr_outer c N h0 i, arrV_store]
    refine congrArg (arrV c N) (funext fun j => ?_)
    by_cases e : j = i
    · subst e
      simp [updV, va_rf]
    · by_cases h : j < i
      · simp [updV, e, h, Nat.lt_succ_of_lt h]
      · simp [updV, e, h, show ¬ j < i + 1 by omega]
section VGM
variable {p : Program} {l : Launch} {e : Env} {R : Room} {s : State} {m : MethodId} {args : Array Value} {below : List Frame} {meth : Method} {c : Code} {H : Heap} {locs : List Loc} {cells slots : Nat} {Q : State → Prop}
variable {cc : ByteArray} {pc : Nat} {ls : Array Slot} {rest : List Value} {D : va_G} {cl : List vw_C} {A : Nat → Prop} {a : Nat} {tys : List (ClassId × FieldType)} {ws : va_W} {H0 : Heap}
theorem va_mna {X : va_W} {L : List Nat} {f : Nat → va_E} {cc : ByteArray} (hexec : p.tables.exec = Jvm.exec) (hb : c.code = cc) {own : String} {index : Nat} {ty : FieldType} {cy : ClassId} (hown : s.vm.findClass own = some m.cls) (hclink : (Cond.classLink own index ("[" ++ (FieldType.array ty).toString)).before args s = true) (hover : va_AOA ty s) (harr : (Cond.arrayClass ty).before args s = true) (hcy : s.vm.findClass (FieldType.array ty).toString = some cy)
    (hK : va_K D cl tys s) (hP : va_P D cl (X ++ va_pl L f) H) (hD : va_D A (X ++ va_pl L f)) (hS : va_S A H0 H locs) (hA : ∀ q, H0.size ≤ q → A q) {n k : Int32} {N' K' : Nat} {z : vp_A} (hn : ¬ n < 0) (hk : ¬ k < 0) (hN : n.toNatClampNeg = N') (hM : k.toNatClampNeg = K')
    (hb1 : N' * 4 ≤ 536870912) (hb2 : K' * componentBytes ty ≤ 536870912) (hb3 : K' ≤ 536870912) (hdf : fits ty (defaultValue ty) = true) (hdd : (defaultValue ty).isDefault = true) (hcells : cells + (1 + N') ≤ R.cells) (hslots : slots + (N' + N' * K') ≤ R.slots) (hz : ∀ c : ClassId, Jvm.Free.Multi.innerC c K' (defaultValue ty) = vp_cell c z) (hdg : decode cc pc = .ok (.multianewarray index 2, 4))
    (kk : ∀ (q : Nat) (r : Nat → Nat) (cA : ClassId) (H1 : Heap), (∀ i j : Nat, i < N' → j < N' → r i = r j → i = j) → (∀ i : Nat, i < N' → r i ∉ L) → va_K D cl (tys ++ [(cA, .array ty)]) s →
      va_P D cl ((X ++ [(q, .inl (cA, N', .inr (.inr (.inr (.inr (fun i => if i < N' then some (r i) else none))))))]) ++ va_pl (L ++ (List.range N').map r) (vr_up f ((List.range N').map r) (.inl (cy, z)))) H1 → va_D A ((X ++ [(q, .inl (cA, N', .inr (.inr (.inr (.inr (fun i => if i < N' then some (r i) else none))))))]) ++ va_pl (L ++ (List.range N').map r) (vr_up f ((List.range N').map r) (.inl (cy, z)))) → va_S A H0 H1 locs →
      W p l e R s m args below meth c H1 locs (cells + 1 + N') (slots + N' + N' * K') Q (F0 m (pc + 4) ls (.ref q :: rest))) : W p l e R s m args below meth c H locs cells slots Q (F0 m pc ls (.int k :: .int n :: rest)) := by
  subst hN
  subst hM
  intro T hT Xs
  obtain ⟨vm₁, cA, comp, -, fA, fC, hO, -, X', step⟩ := Xs.multianewarray2F hexec hown hclink (va_AOA.use hover) harr (g := F0 m pc ls (.int k :: .int n :: rest)) rfl (by rw [hb]; exact hdg) rfl hn hk hb1 hb2 hb3 hdf hdd hcells hslots
  have ec : some cy = some comp := hcy.symm.trans fC
  cases ec
  generalize hF : Jvm.Free.Multi.fill (T.setVm vm₁) cA cy n.toNatClampNeg k.toNatClampNeg (defaultValue ty) n.toNatClampNeg = F at X' step
  have hTh : (T.setVm vm₁).heap = H := hT
  obtain ⟨f1, f2, -, -⟩ := Jvm.Free.Multi.fill_facts (T.setVm vm₁) cA cy n.toNatClampNeg k.toNatClampNeg (defaultValue ty) n.toNatClampNeg
  rw [hF, hTh] at f1 f2
  have hold : ∀ x : Nat, x < H.size → F.heap[x]? = H[x]? := fun x hx => by
    have := Jvm.Free.Multi.fill_old (T.setVm vm₁) cA cy n.toNatClampNeg k.toNatClampNeg (defaultValue ty) (a := x) (by rw [hTh]; exact hx) n.toNatClampNeg
    rw [hF, hTh] at this
    exact this
  have hrow : ∀ j : Nat, j < n.toNatClampNeg → F.heap[H.size + 1 + j]? = some (vp_cell cy z) := fun j hj => by
    have := Jvm.Free.Multi.fill_inner (T.setVm vm₁) cA cy n.toNatClampNeg k.toNatClampNeg (defaultValue ty) n.toNatClampNeg j hj
    rw [hF, hTh, hz] at this
    exact this
  have hout : Jvm.Free.Multi.outerC cA n.toNatClampNeg H.size n.toNatClampNeg = vp_cell cA (n.toNatClampNeg, .inr (.inr (.inr (.inr (fun i => if i < n.toNatClampNeg then some (H.size + 1 + i) else none))))) := by
    rw [vp_cell_q]
    exact vr_outer cA n.toNatClampNeg H.size n.toNatClampNeg
  rw [hout] at f2
  have hlt : ∀ a, a ∈ L → a < H.size := fun a ha => by
    obtain ⟨k9, hk9⟩ := va_pl_get (X := X) (f := f) ha
    exact (hP k9 _ hk9).lt
  have hnl : ∀ i : Nat, i < n.toNatClampNeg → H.size + 1 + i ∉ L := fun i _ h => by
    have := hlt _ h
    omega
  have hnm : ∀ a, a ∈ (List.range n.toNatClampNeg).map (fun i => H.size + 1 + i) → a ∉ L := fun a ha h => by
    obtain ⟨i, -, rfl⟩ := List.mem_map.mp ha
    have := hlt _ h
    omega
  have hP0 : va_P D cl (X ++ va_pl L f) F.heap := hP.kept (fun k9 x hx => hold x.1 ((hP k9 x hx).lt))
  have hP1 : va_P D cl ((X ++ va_pl L f) ++ [(H.size, .inl (cA, n.toNatClampNeg, .inr (.inr (.inr (.inr (fun i => if i < n.toNatClampNeg then some (H.size + 1 + i) else none))))))]) F.heap := hP0.app (fun k9 x hx => by
    have h0 : k9 < 1 := (List.getElem?_eq_some_iff.mp hx).1
    rw [show k9 = 0 by omega] at hx
    cases hx
    exact f2)
  have hP2 : va_P D cl (((X ++ va_pl L f) ++ [(H.size, .inl (cA, n.toNatClampNeg, .inr (.inr (.inr (.inr (fun i => if i < n.toNatClampNeg then some (H.size + 1 + i) else none))))))]) ++ ((List.range n.toNatClampNeg).map (fun i => H.size + 1 + i)).map (fun a => (a, .inl (cy, z)))) F.heap := hP1.app (fun k9 x hx => by
    obtain ⟨a, ha, rfl⟩ := List.mem_map.mp (List.mem_of_getElem? hx)
    obtain ⟨i, hi, rfl⟩ := List.mem_map.mp ha
    exact hrow i (List.mem_range.mp hi))
  have hD2 : va_D A (((X ++ va_pl L f) ++ [(H.size, .inl (cA, n.toNatClampNeg, .inr (.inr (.inr (.inr (fun i => if i < n.toNatClampNeg then some (H.size + 1 + i) else none))))))]) ++ ((List.range n.toNatClampNeg).map (fun i => H.size + 1 + i)).map (fun a => (a, .inl (cy, z)))) := by
    have hD1 := hD.push (e := .inl (cA, n.toNatClampNeg, .inr (.inr (.inr (.inr (fun i => if i < n.toNatClampNeg then some (H.size + 1 + i) else none)))))) hP rfl (hA _ hS.1)
    generalize hW1 : (X ++ va_pl L f) ++ [(H.size, .inl (cA, n.toNatClampNeg, .inr (.inr (.inr (.inr (fun i => if i < n.toNatClampNeg then some (H.size + 1 + i) else none))))))] = W1 at hD1 hP1 ⊢
    have hle : ∀ (k9 : Nat) (x : Nat × va_E), W1[k9]? = some x → x.1 ≤ H.size := fun k9 x hx => by
      rw [← hW1] at hx
      by_cases hl : k9 < (X ++ va_pl L f).length
      · rw [List.getElem?_append_left hl] at hx
        exact Nat.le_of_lt ((hP k9 x hx).lt)
      · rw [List.getElem?_append_right (by omega)] at hx
        have h0 : k9 - (X ++ va_pl L f).length < 1 := (List.getElem?_eq_some_iff.mp hx).1
        rw [show k9 - (X ++ va_pl L f).length = 0 by omega] at hx
        cases hx
        exact Nat.le_refl _
    have hr : ∀ (k9 : Nat) (x : Nat × va_E), (((List.range n.toNatClampNeg).map (fun i => H.size + 1 + i)).map (fun a => ((a, .inl (cy, z)) : Nat × va_E)))[k9]? = some x → x.1 = H.size + 1 + k9 := fun k9 x hx => by
      rw [List.getElem?_map, List.getElem?_map] at hx
      by_cases h9 : k9 < n.toNatClampNeg
      · rw [List.getElem?_range h9] at hx
        cases hx
        rfl
      · have hn0 : (List.range n.toNatClampNeg)[k9]? = none := List.getElem?_eq_none (by rw [List.length_range]; omega)
        rw [hn0] at hx
        cases hx
    refine ⟨fun i j x y hi hj hxy => ?_, fun k9 x hx => ?_⟩
    · by_cases h1 : i < W1.length <;> by_cases h2 : j < W1.length
      · rw [List.getElem?_append_left h1] at hi
        rw [List.getElem?_append_left h2] at hj
        exact hD1.1 i j x y hi hj hxy
      · rw [List.getElem?_append_left h1] at hi
        rw [List.getElem?_append_right (by omega)] at hj
        have := hle _ _ hi
        have := hr _ _ hj
        omega
      · rw [List.getElem?_append_right (by omega)] at hi
        rw [List.getElem?_append_left h2] at hj
        have := hle _ _ hj
        have := hr _ _ hi
        omega
      · rw [List.getElem?_append_right (by omega)] at hi hj
        have := hr _ _ hi
        have := hr _ _ hj
        omega
    · by_cases h1 : k9 < W1.length
      · rw [List.getElem?_append_left h1] at hx
        exact hD1.2 k9 x hx
      · rw [List.getElem?_append_right (by omega)] at hx
        have := hr _ _ hx
        exact hA _ (by have := hS.1; omega)
  have hAr : ArrOfT s cA (.array ty) := fun N9 z9 => by
    obtain ⟨-, k9, hk9, cm9, hkk9⟩ := (hO 0 0 0).1
    exact ⟨(fun q hq => by cases hq), k9, hk9, cm9, hkk9⟩
  have hK2 : va_K D cl (tys ++ [(cA, .array ty)]) s := ⟨hK.1, fun k9 x hx => by
    by_cases hl : k9 < tys.length
    · rw [List.getElem?_append_left hl] at hx
      exact hK.2 k9 x hx
    · rw [List.getElem?_append_right (by omega)] at hx
      have h0 : k9 - tys.length < 1 := (List.getElem?_eq_some_iff.mp hx).1
      rw [show k9 - tys.length = 0 by omega] at hx
      cases hx
      exact ⟨hAr, fA⟩⟩
  obtain ⟨t, a1, b1⟩ := kk H.size (fun i => H.size + 1 + i) cA F.heap (fun i j _ _ h => by have h9 : H.size + 1 + i = H.size + 1 + j := h; omega) hnl hK2 (by rw [← vr_rows hnm]; exact vr_lay hP2) (by rw [← vr_rows hnm]; exact vr_layD hD2) ⟨by rw [f1]; have := hS.1; omega, fun x h1 h2 => (hold x (Nat.lt_of_lt_of_le h1 hS.1)).trans (hS.2.1 x h1 h2), hS.2.2⟩ F rfl X'
  refine ⟨t, step t ?_, b1⟩
  have e : T.heap.size = H.size := by rw [hT]
  rw [e]
  exact a1
end VGM
/-! ===== END ===== -/

/-! ===== BEGIN exceptions that leave a method, and their catching by the caller (launches without stack traces) ===== -/
section VXA
/-! The laws vx_back, vx_callV, vx_callS, vx_callSW, vx_throw0, vx_throwS follow proofs of the library, with one case more: JvmDerived/Free/Laws.lean (Back.of_free), Shelf42/LK1.lean (callV, callS), Shelf/KitTraced.lean (throwNew0V, throwNewS). -/
/-- where a method has thrown q: the class by its name, the cell, what was written, the world -/
def vx_T (XC : String → State → State → Prop) (st : State) (q : Addr) (t : State) (mc ms : Nat) (free : Addr → Prop) : Prop :=
  ∃ (E : String) (ce : Cell) (L : List Loc), XC E st t ∧ t.heap[q]? = some ce ∧ ce.vm = .none ∧ st.vm.findClass E = some ce.cls ∧ st.WarmedH t.vm ∧ st.sameButNew ({ t with vm := st.vm } : State) L mc ms ∧ ∀ z ∈ L, free z.base
def vx_Q (Qc : Array Value → State → Outcome → State → Prop) (XC : String → State → State → Prop) (mc ms : Nat) (free : Addr → Prop) : Array Value → State → Outcome → State → Prop := fun a st o t =>
  (Qc a st o t ∧ ∃ L, FrameEnd st o t L mc ms ∧ ∀ q ∈ L, free q.base) ∨ ∃ q, o = .threw q ∧ vx_T XC st q t mc ms free
/-- a callee that returns or throws -/
def vx_Met (l : Launch) (y : MethodName) (ws : List Cond) (rm : Room) (Pc : Array Value → State → Prop) (Qc : Array Value → State → Outcome → State → Prop) (XC : String → State → State → Prop) (mc ms : Nat) (free : Addr → Prop) : Prop :=
  MetFree l y (headSpec ws rm) Pc (fun _ _ _ _ _ => True) (vx_Q Qc XC mc ms free)
def vx_Post (XC : String → State → State → Prop) (mc ms : Nat) (free : Addr → Prop) : Pt → Array Value → Addr → Pt → Prop := fun A a q B =>
  ∃ (g : JFrame) (mk : MethodId) (t : State) (L : List Loc) (E : String) (ce : Cell), B.U.heap = t.heap ∧ B.U.vm = t.vm ∧ XC E (A.U.calling g mk a) t ∧ t.heap[q]? = some ce ∧ ce.vm = .none ∧ A.U.vm.findClass E = some ce.cls ∧ B.locs = A.locs ++ L ∧ (∀ z ∈ L, free z.base) ∧ B.cells = A.cells + mc ∧ B.slots = A.slots + ms
def vx_Back (l : Launch) (R : Room) (p : Program) (e : Env) (below : List Frame) (s : State) (sargs : Array Value) (y : MethodName) (len W9 : Nat)
    (Pre : Pt → Array Value → Prop) (Post : Pt → Array Value → Option Value → Pt → Prop) (PostX : Pt → Array Value → Addr → Pt → Prop) : Prop :=
  ∀ (m : MethodId) (meth : Method) (c : Code) (A : Pt) (g : JFrame) (ig : Instr) (mk : MethodId) (a : Array Value),
    Stand p l e R s m sargs below meth c A.U A.locs A.cells A.slots → g.method = m → g.locals.size = c.maxLocals → decode c.code g.pc = .ok (ig, len) →
    2 * g.monitorRoom + (g.stack.map fun v => v.category).sum ≤ W9 → A.U.methodNamed? y = some mk → Pre A a →
    (∃ (v : Option Value) (B : Pt), Stand p l e R s m sargs below meth c B.U B.locs B.cells B.slots ∧ Post A a v B ∧
      Steps p.tables e below (doInvoke e (A.U.setTop g) [] mk a).1 (B.U.setTop { g with pc := g.pc + len, stack := v.toList ++ g.stack })) ∨
    (∃ (q : Addr) (B : Pt), Stand p l e R s m sargs below meth c B.U B.locs B.cells B.slots ∧ PostX A a q B ∧
      Steps p.tables e below (doInvoke e (A.U.setTop g) [] mk a).1 ((B.U.setTop g).pushFrame (.throwing q)))
section Payer
variable {l : Launch} {R : Room} {p : Program} {e : Env} {below : List Frame} {s : State} {sargs : Array Value} {y : MethodName} {len W9 : Nat}
theorem vx_back {ws : List Cond} {rm : Room} {Pc : Array Value → State → Prop} {Qc : Array Value → State → Outcome → State → Prop} {XC : String → State → State → Prop} {mc ms : Nat} {free : Addr → Prop} {bytes : ByteArray} {maxL : Nat} {ret : Option FieldType}
    (hM : vx_Met l y ws rm Pc Qc XC mc ms free) (hblind : FrameBlind Pc) (hrc : rm.cells = mc) (hrs : rm.slots = ms)
    (hframes : rm.frames + 1 ≤ R.frames) (hlocals : W9 + (maxL + 11) + rm.locals ≤ R.locals)
    (hws : ∀ w ∈ ws, ∀ a' U, s.WarmedH U.vm → w.before a' U = true) (hcode : Cond.code y bytes maxL ret ∈ ws) (hinit : ∀ a' U, s.WarmedH U.vm → (Cond.initialized y.cls).before a' U = true) :
    vx_Back l R p e below s sargs y len W9 (PreOf R mc ms Pc) (PostOf Qc mc ms free) (vx_Post XC mc ms free) := by
  intro m meth c A g ig mk a X hg hsize hdg hW hn hp
  have h1 : (headSpec ws rm).pre.before a A.U = true := atoms_intro fun w hw => hws w hw _ _ X.warmed
  have h2 : (Cond.code y bytes maxL ret).before a A.U = true := hws _ hcode _ _ X.warmed
  have h3 : (Cond.initialized y.cls).before a A.U = true := hinit _ _ X.warmed
  have h4 : A.cells + (headSpec ws rm).room.cells ≤ R.cells := by rw [show (headSpec ws rm).room.cells = mc from hrc]; exact hp.1
  have h5 : A.slots + (headSpec ws rm).room.slots ≤ R.slots := by rw [show (headSpec ws rm).room.slots = ms from hrs]; exact hp.2.1
  have hPc : Pc a (A.U.calling g mk a) := hblind _ _ _ _ hp.2.2
  obtain ⟨U, Ls, c0, s0⟩ := A
  dsimp only [Pt.U, Pt.locs, Pt.cells, Pt.slots] at h1 h2 h3 h4 h5 X hn hPc ⊢
  obtain ⟨methY, cY, hmY, hcY, -, hlY, -, -, -, -⟩ := Cond.code_spec hn h2
  obtain ⟨kY, hkY, -⟩ := className_of_methodNamed hn
  have hinitY : kY.init = .initialized := Cond.initialized_spec (findClass_of_methodNamed hn) hkY h3
  have h : At U g.method c below := by rw [hg]; exact X.here
  have hlocals9 : W9 + (maxL + 11) + (headSpec ws rm).room.locals ≤ R.locals := hlocals
  have happ : (headSpec ws rm).appliesLoose y e.platform (U.calling g mk a) = true :=
    Spec.appliesLoose_calling (g := g) h hdg hn hkY hinitY
      (X.room_calling (g := g) (R' := (headSpec ws rm).room) hsize hmY hcY hframes (by rw [hlY]; omega) h4 h5) h1
  obtain ⟨mid, hmid⟩ := h.above
  have hfr : (U.setTop g).frames = (.java g :: mid) ++ below := by rw [State.frames_setTop' g h.top, hmid]; rfl
  obtain ⟨o, s₂, hsteps, -, hend, hq⟩ := Steps.callFree hM p X.admits X.cas X.clock (acts := []) hfr happ hPc trivial
  have hq' : vx_Q Qc XC mc ms free a (U.calling g mk a) o s₂ := hq
  rw [State.frames_setTop' g h.top] at hend
  obtain ⟨g₀, hg0⟩ := Option.isSome_iff_exists.mp h.top
  obtain ⟨r, hr⟩ := State.topJava?_eq_some.mp hg0
  have hr' : (({ U with heap := s₂.heap, slotsUsed := s₂.slotsUsed } : State).setVm s₂.vm).frames = .java g₀ :: r := hr
  rcases hq' with ⟨hqc, L, hfe, hL⟩ | ⟨q, rfl, E, ce, L, hx, hce, hcv, hcl, hW₂, hsm, hL⟩
  · obtain ⟨⟨v, rfl⟩, hW₂, e2, q2, q3, q4, q5, q6⟩ := id hfe
    have e3 : s₂ = ({ (U.calling g mk a).setFrames s₂.frames with heap := s₂.heap, slotsUsed := s₂.slotsUsed } : State).setVm s₂.vm := by
      have : s₂ = ({ s₂ with vm := (U.calling g mk a).vm } : State).setVm s₂.vm := rfl
      rw [e2] at this
      exact this
    obtain ⟨c₂, i₂, len₂, hc₂, hd₂, hf₂⟩ := hend
    have hW' : U.WarmedH s₂.vm := hW₂
    have hcc : c₂ = c := by
      have h1 : s₂.code? g.method = U.code? g.method := by
        rw [State.code?_eq, State.code?_eq, hW'.alike.method?]
      exact Option.some.inj (hc₂.symm.trans (h1.trans h.code))
    subst hcc
    have hlen : len₂ = len := by rw [hdg] at hd₂; cases hd₂; rfl
    subst hlen
    have hs₂ : s₂ = (({ U with heap := s₂.heap, slotsUsed := s₂.slotsUsed } : State).setVm s₂.vm).setTop { g with pc := g.pc + len₂, stack := v.toList ++ g.stack } := by
      refine e3.trans ?_
      rw [hf₂, State.calling_eq h.top, State.setFrames_setFrames, State.setTop_of_frames _ hr', hr]
      rfl
    have hsame : U.sameButNew ({ U with heap := s₂.heap, slotsUsed := s₂.slotsUsed } : State) L mc ms := by
      refine ⟨?_, q2, q3, q4, q5, q6⟩
      obtain ⟨t, ht, -⟩ := State.frames_cons hr
      show ({ U with heap := s₂.heap, slotsUsed := s₂.slotsUsed } : State) = { U.setFrames U.frames with heap := s₂.heap, slotsUsed := s₂.slotsUsed }
      rw [State.setFrames_self ht]
    subst hg
    refine Or.inl ⟨v, ⟨(({ U with heap := s₂.heap, slotsUsed := s₂.slotsUsed } : State).setVm s₂.vm), Ls ++ L, c0 + mc, s0 + ms⟩,
      ⟨X.admits, X.cas, X.clock, X.frames, X.room, X.hears, X.method, X.code, (X.here.setHeapUsed s₂.heap s₂.slotsUsed).setVm hW'.alike, X.tail, State.WarmedH.trans X.warmed hW', X.limits, X.bytes, X.same.trans (hsame.setVm s.vm)⟩,
      ⟨g, mk, s₂, L, rfl, rfl, hqc, rfl, hL, rfl, rfl⟩, ?_⟩
    show Steps p.tables e below _ ((({ U with heap := s₂.heap, slotsUsed := s₂.slotsUsed } : State).setVm s₂.vm).setTop { g with pc := g.pc + len₂, stack := v.toList ++ g.stack })
    rw [← hs₂]
    exact hsteps
  · obtain ⟨e2, q2, q3, q4, q5, q6⟩ := id hsm
    have e3 : s₂ = ({ (U.calling g mk a).setFrames s₂.frames with heap := s₂.heap, slotsUsed := s₂.slotsUsed } : State).setVm s₂.vm := by
      have : s₂ = ({ s₂ with vm := (U.calling g mk a).vm } : State).setVm s₂.vm := rfl
      rw [e2] at this
      exact this
    have hf₂ : s₂.frames = .throwing q :: .java g :: U.frames.tail := hend
    have hW' : U.WarmedH s₂.vm := hW₂
    have hs₂ : s₂ = ((({ U with heap := s₂.heap, slotsUsed := s₂.slotsUsed } : State).setVm s₂.vm).setTop g).pushFrame (.throwing q) := by
      refine e3.trans ?_
      rw [hf₂, State.calling_eq h.top, State.setFrames_setFrames, State.pushFrame, State.frames_setTop _ hr', State.setTop_of_frames _ hr', State.setFrames_setFrames, hr]
      rfl
    have hsame : U.sameButNew ({ U with heap := s₂.heap, slotsUsed := s₂.slotsUsed } : State) L mc ms := by
      refine ⟨?_, q2, q3, q4, q5, q6⟩
      obtain ⟨t, ht, -⟩ := State.frames_cons hr
      show ({ U with heap := s₂.heap, slotsUsed := s₂.slotsUsed } : State) = { U.setFrames U.frames with heap := s₂.heap, slotsUsed := s₂.slotsUsed }
      rw [State.setFrames_self ht]
    subst hg
    refine Or.inr ⟨q, ⟨(({ U with heap := s₂.heap, slotsUsed := s₂.slotsUsed } : State).setVm s₂.vm), Ls ++ L, c0 + mc, s0 + ms⟩,
      ⟨X.admits, X.cas, X.clock, X.frames, X.room, X.hears, X.method, X.code, (X.here.setHeapUsed s₂.heap s₂.slotsUsed).setVm hW'.alike, X.tail, State.WarmedH.trans X.warmed hW', X.limits, X.bytes, X.same.trans (hsame.setVm s.vm)⟩,
      ⟨g, mk, s₂, L, E, ce, rfl, rfl, hx, hce, hcv, hcl, rfl, hL, rfl, rfl⟩, ?_⟩
    show Steps p.tables e below _ (((({ U with heap := s₂.heap, slotsUsed := s₂.slotsUsed } : State).setVm s₂.vm).setTop g).pushFrame (.throwing q))
    rw [← hs₂]
    exact hsteps
end Payer
section Calls
variable {p : Program} {l : Launch} {e : Env} {R : Room} {s : State} {m : MethodId} {args : Array Value} {below : List Frame} {meth : Method} {c : Code} {T : State} {locs : List Loc} {cells slots : Nat}
theorem vx_callV (X : Stand p l e R s m args below meth c T locs cells slots) (hexec : p.tables.exec = Jvm.exec) {own C : String} {index : Nat} {y : MethodName} {bytes : ByteArray} {maxL : Nat} {ret : Option FieldType}
    (hown : s.vm.findClass own = some m.cls) (hlink : (Cond.methodLink own index y).before args s = true) (hinst : (Cond.instanceMethod y).before args s = true) (hsel : (Cond.selects C y y).before args s = true)
    (hcode : (Cond.code y bytes maxL ret).before args s = true) (hy : y.cls ≠ "java/lang/invoke/MethodHandle" ∧ y.cls ≠ "java/lang/invoke/VarHandle")
    {W9 : Nat} {Pre : Pt → Array Value → Prop} {Post : Pt → Array Value → Option Value → Pt → Prop} {PostX : Pt → Array Value → Addr → Pt → Prop} (hK : vx_Back l R p e below s args y 3 W9 Pre Post PostX)
    {b : Addr} {cellB : Cell} (hcell : T.heap[b]? = some cellB) (hobj : cellB.vm.isStatics = false) (hcls : s.vm.findClass C = some cellB.cls)
    {g : JFrame} (hg : g.method = m) (hsize : g.locals.size = c.maxLocals) {argsL rest : List Value} (hlen : ∀ sig, parseMethodDescriptor y.desc = some sig → argsL.length = sig.parameters.length)
    (hstack : g.stack = argsL.reverse ++ .ref b :: rest) (hW : 2 * g.monitorRoom + (rest.map fun v => v.category).sum ≤ W9) (hdg : decode c.code g.pc = .ok (.invokevirtual index, 3))
    (hpre : ∀ vm₁, s.WarmedH vm₁ → Pre ⟨T.setVm vm₁, locs, cells, slots⟩ (Value.ref b :: argsL).toArray) :
    (∃ (v : Option Value) (vm₁ : Vm) (B : Pt), s.WarmedH vm₁ ∧ Stand p l e R s m args below meth c B.U B.locs B.cells B.slots ∧ Post ⟨T.setVm vm₁, locs, cells, slots⟩ (Value.ref b :: argsL).toArray v B ∧
      ∀ target, Steps p.tables e below (B.U.setTop { g with pc := g.pc + 3, stack := v.toList ++ rest }) target → Steps p.tables e below (T.setTop g) target) ∨
    (∃ (q : Addr) (vm₁ : Vm) (B : Pt), s.WarmedH vm₁ ∧ Stand p l e R s m args below meth c B.U B.locs B.cells B.slots ∧ PostX ⟨T.setVm vm₁, locs, cells, slots⟩ (Value.ref b :: argsL).toArray q B ∧
      Steps p.tables e below (T.setTop g) ((B.U.setTop { g with stack := rest }).pushFrame (.throwing q))) := by
  obtain ⟨mk, methM, hnamed, hmethM, hstM, habM⟩ := Cond.instanceMethod_spec hinst
  obtain ⟨methM', cM, hmethM', -, -, -, -, -, -, hsigM⟩ := Cond.code_spec hnamed hcode
  cases hmethM.symm.trans hmethM'
  obtain ⟨c2, r2, m2, q1, q2, q3, q4, kP, hkP, hkPi⟩ := Cond.selects_spec hsel
  cases hcls.symm.trans q1
  cases (State.methodFound?_of_named hnamed hy).symm.trans q2
  cases hnamed.symm.trans q3
  have hselP : selectMethod e.platform s.vm cellB.cls mk = .method mk := by rw [Launch.admits_selectMethod X.admits]; exact q4
  obtain ⟨vm₁, X₁, hstep₁⟩ := X.invokevirtual hexec hown hlink hnamed hmethM hstM hkP hkPi hy (a := b) (cell := cellB) hcell
    (fun z h => by rw [h] at hobj; cases hobj) hselP hmethM habM hkP hkPi (g := g) hg (argsL := argsL) (rest := rest) (hlen _ hsigM) hstack hdg
  rcases hK m meth c ⟨T.setVm vm₁, locs, cells, slots⟩ { g with stack := rest } (.invokevirtual index) mk (Value.ref b :: argsL).toArray X₁ hg hsize hdg hW (X₁.named hnamed) (hpre vm₁ X₁.warmed) with ⟨v, B, X', hpost, hsteps⟩ | ⟨q, B, X', hpost, hsteps⟩
  · exact Or.inl ⟨v, vm₁, B, X₁.warmed, X', hpost, fun target h => hstep₁ _ fun acts => by rw [doInvoke_state]; exact hsteps.trans h⟩
  · exact Or.inr ⟨q, vm₁, B, X₁.warmed, X', hpost, hstep₁ _ fun acts => by rw [doInvoke_state]; exact hsteps⟩
theorem vx_callS (X : Stand p l e R s m args below meth c T locs cells slots) (hexec : p.tables.exec = Jvm.exec) {own : String} {index : Nat} {y : MethodName} {bytes : ByteArray} {maxL : Nat} {ret : Option FieldType}
    (hown : s.vm.findClass own = some m.cls) (hlink : (Cond.methodLink own index y).before args s = true) (hstat : (Cond.static y).before args s = true) (hinit : (Cond.initialized y.cls).before args s = true)
    (hcode : (Cond.code y bytes maxL ret).before args s = true) (hy : y.cls ≠ "java/lang/invoke/MethodHandle" ∧ y.cls ≠ "java/lang/invoke/VarHandle")
    {W9 : Nat} {Pre : Pt → Array Value → Prop} {Post : Pt → Array Value → Option Value → Pt → Prop} {PostX : Pt → Array Value → Addr → Pt → Prop} (hK : vx_Back l R p e below s args y 3 W9 Pre Post PostX)
    {g : JFrame} (hg : g.method = m) (hsize : g.locals.size = c.maxLocals) {argsL rest : List Value} (hlen : ∀ sig, parseMethodDescriptor y.desc = some sig → argsL.length = sig.parameters.length)
    (hstack : g.stack = argsL.reverse ++ rest) (hW : 2 * g.monitorRoom + (rest.map fun v => v.category).sum ≤ W9) (hdg : decode c.code g.pc = .ok (.invokestatic index, 3))
    (hpre : ∀ vm₁, s.WarmedH vm₁ → Pre ⟨T.setVm vm₁, locs, cells, slots⟩ argsL.toArray) :
    (∃ (v : Option Value) (vm₁ : Vm) (B : Pt), s.WarmedH vm₁ ∧ Stand p l e R s m args below meth c B.U B.locs B.cells B.slots ∧ Post ⟨T.setVm vm₁, locs, cells, slots⟩ argsL.toArray v B ∧
      ∀ target, Steps p.tables e below (B.U.setTop { g with pc := g.pc + 3, stack := v.toList ++ rest }) target → Steps p.tables e below (T.setTop g) target) ∨
    (∃ (q : Addr) (vm₁ : Vm) (B : Pt), s.WarmedH vm₁ ∧ Stand p l e R s m args below meth c B.U B.locs B.cells B.slots ∧ PostX ⟨T.setVm vm₁, locs, cells, slots⟩ argsL.toArray q B ∧
      Steps p.tables e below (T.setTop g) ((B.U.setTop { g with stack := rest }).pushFrame (.throwing q))) := by
  obtain ⟨mk, hnamed⟩ := Cond.code_named hcode
  obtain ⟨methM, cM, hmethM, -, -, -, -, -, -, hsigM⟩ := Cond.code_spec hnamed hcode
  have hstatic : methM.isStatic = true := Cond.static_spec hnamed hmethM hstat
  obtain ⟨kP, hkP, -⟩ := className_of_methodNamed hnamed
  have hinitP : kP.init = .initialized := Cond.initialized_spec (findClass_of_methodNamed hnamed) hkP hinit
  obtain ⟨vm₁, X₁, hstep₁⟩ := X.invokestatic hexec hown hlink hnamed hmethM hstatic hkP hinitP hy (g := g) hg (argsL := argsL) (rest := rest) (hlen _ hsigM) hstack hdg
  rcases hK m meth c ⟨T.setVm vm₁, locs, cells, slots⟩ { g with stack := rest } (.invokestatic index) mk argsL.toArray X₁ hg hsize hdg hW (X₁.named hnamed) (hpre vm₁ X₁.warmed) with ⟨v, B, X', hpost, hsteps⟩ | ⟨q, B, X', hpost, hsteps⟩
  · exact Or.inl ⟨v, vm₁, B, X₁.warmed, X', hpost, fun target h => hstep₁ _ fun acts => by rw [doInvoke_state]; exact hsteps.trans h⟩
  · exact Or.inr ⟨q, vm₁, B, X₁.warmed, X', hpost, hstep₁ _ fun acts => by rw [doInvoke_state]; exact hsteps⟩
end Calls
theorem vx_cls {s : State} {T : State} {vm₁ : Vm} {E : String} {k : ClassId} (hW : s.WarmedH vm₁) (h : (T.setVm vm₁).vm.findClass E = some k) : s.vm.findClass E = some k := by
  have h1 : vm₁.findClass E = some k := h
  rw [hW.alike.findClass] at h1
  exact h1
/-- the method's frame g, with q thrown over it -/
def vx_W (p : Program) (l : Launch) (e : Env) (R : Room) (s : State) (m : MethodId) (args : Array Value) (below : List Frame) (meth : Method) (c : Code) (H : Heap) (locs : List Loc) (cells slots : Nat) (Q : State → Prop) (g : JFrame) (q : Addr) : Prop :=
  ∀ T : State, T.heap = H → Stand p l e R s m args below meth c T locs cells slots → ∃ t, Steps p.tables e below ((T.setTop g).pushFrame (.throwing q)) t ∧ Q t
def vx_Run (p : Program) (l : Launch) (e : Env) (R : Room) (s : State) (m : MethodId) (args : Array Value) (below : List Frame) (meth : Method) (c : Code) (H : Heap) (locs : List Loc) (cells slots mc ms : Nat) (g : JFrame) (rest : List Value) (Qa : State → Outcome → State → Prop) (XC : String → State → State → Prop) (free : Addr → Prop) : Prop :=
  ∀ T : State, T.heap = H → Stand p l e R s m args below meth c T locs cells slots →
    (∃ (v : Option Value) (st₀ t T' : State) (L : List Loc), st₀.heap = H ∧ Stand p l e R s m args below meth c T' (locs ++ L) (cells + mc) (slots + ms) ∧ (∀ q ∈ L, free q.base) ∧ T'.heap = t.heap ∧ T'.vm = t.vm ∧ Qa st₀ (.returned v) t ∧
      Goes p e below T g T' { g with pc := g.pc + 3, stack := v.toList ++ rest }) ∨
    (∃ (q : Addr) (st₀ t T' : State) (L : List Loc) (E : String) (ce : Cell), st₀.heap = H ∧ Stand p l e R s m args below meth c T' (locs ++ L) (cells + mc) (slots + ms) ∧ (∀ z ∈ L, free z.base) ∧ T'.heap = t.heap ∧ T'.vm = t.vm ∧ XC E st₀ t ∧ t.heap[q]? = some ce ∧ ce.vm = .none ∧ s.vm.findClass E = some ce.cls ∧
      Steps p.tables e below (T.setTop g) ((T'.setTop { g with stack := rest }).pushFrame (.throwing q)))
def vx_X {S : Type} (px : S → Prop) (B : String → S → State → Prop) (A : Nat → Prop) : String → State → State → Prop := fun E st t => ∃ u : S, px u ∧ B E u t ∧ va_F A st t
section Runs
variable {p : Program} {l : Launch} {e : Env} {R : Room} {s : State} {m : MethodId} {args : Array Value} {below : List Frame} {meth : Method} {c : Code} {H : Heap} {locs : List Loc} {cells slots : Nat}
variable {y : MethodName} {bytes cc : ByteArray} {maxL nL mc ms n index : Nat} {ret : Option FieldType} {ws : List Cond} {rm : Room} {Pc : Array Value → State → Prop} {Qc : Array Value → State → Outcome → State → Prop} {XC : String → State → State → Prop} {free : Addr → Prop} {Ts : List Cond} {own C : String} {b : Addr} {As rest : List Value} {g : JFrame}
theorem vx_callBack (cb : CallB R s args own index y bytes maxL ret ws rm mc ms n) (hM : vx_Met l y ws rm Pc Qc XC mc ms free) (hbl : FrameBlind Pc) : vx_Back l R p e below s args y 3 8 (PreOf R mc ms Pc) (PostOf Qc mc ms free) (vx_Post XC mc ms free) := by
  obtain ⟨hrc, hrs, hfr, hlo, hws, hcw, -, hini, -⟩ := cb
  exact vx_back (bytes := bytes) (maxL := maxL) (ret := ret) hM hbl hrc hrs hfr hlo hws hcw (fun a' U hW => word_at hW (Or.inl (by first | rfl | simp [Cond.onTables, Cond.keeps, Cond.steady])) hini)
theorem vx_runV (S : CallFix p m c cc nL s args Ts own) (hM : vx_Met l y ws rm Pc Qc XC mc ms free) (cw : CallW R s args own C index y bytes maxL ret ws rm mc ms n) (hp : PreV s H C b Pc As)
    (hg : g.method = m) (hn : As.length = n) (hsize : g.locals.size = nL) (hstack : g.stack = As.reverse ++ .ref b :: rest) (hW : 2 * g.monitorRoom + (rest.map fun v => v.category).sum ≤ 8) (hdg : decode cc g.pc = .ok (.invokevirtual index, 3)) (hf : cells + mc ≤ R.cells ∧ slots + ms ≤ R.slots) :
    vx_Run p l e R s m args below meth c H locs cells slots mc ms g rest (Qc (Value.ref b :: As).toArray) XC free := by
  have hK : vx_Back l R p e below s args y 3 8 (PreOf R mc ms Pc) (PostOf Qc mc ms free) (vx_Post XC mc ms free) := vx_callBack cw.1 hM hp.1
  obtain ⟨⟨-, -, -, -, -, -, hcode, -, hy, hlen, hl⟩, hin, hse⟩ := cw
  obtain ⟨hx, hb, hml, ho, -⟩ := S
  obtain ⟨-, ⟨cellB, hcB, hoB, hclB⟩, hPc⟩ := hp
  intro T hT X
  rcases vx_callV X hx (C := C) (bytes := bytes) (maxL := maxL) (ret := ret) ho hl hin hse hcode hy hK (by rw [hT]; exact hcB) hoB hclB hg (hsize.trans hml.symm) (argsL := As) (rest := rest) (fun sig h => hn.trans (hlen sig h)) hstack hW (by rw [hb]; exact hdg)
    (fun vm₁ hW₁ => ⟨hf.1, hf.2, hPc (T.setVm vm₁) hT hW₁⟩) with ⟨v, vm₁, ⟨U', l2, c2, s2⟩, hW₁, X', ⟨g', mk, t, L, e1, e2, hq, h1, hL, h2, h3⟩, st⟩ | ⟨q, vm₁, ⟨U', l2, c2, s2⟩, hW₁, X', ⟨g', mk, t, L, E, ce, e1, e2, hq, hce, hcv, hcl, h1, hL, h2, h3⟩, st⟩
  · dsimp only [Pt.U, Pt.locs, Pt.cells, Pt.slots] at X' e1 e2 h1 h2 h3 st
    subst h1; subst h2; subst h3
    exact Or.inl ⟨v, (T.setVm vm₁).calling g' mk (Value.ref b :: As).toArray, t, U', L, hT, X', hL, e1, e2, hq, st⟩
  · dsimp only [Pt.U, Pt.locs, Pt.cells, Pt.slots] at X' e1 e2 h1 h2 h3 st hcl
    subst h1; subst h2; subst h3
    exact Or.inr ⟨q, (T.setVm vm₁).calling g' mk (Value.ref b :: As).toArray, t, U', L, E, ce, hT, X', hL, e1, e2, hq, hce, hcv, vx_cls hW₁ hcl, st⟩
end Runs
section Rows
variable {p : Program} {l : Launch} {e : Env} {R : Room} {s : State} {m : MethodId} {args : Array Value} {below : List Frame} {meth : Method} {c : Code} {H : Heap} {locs : List Loc} {cells slots : Nat} {Q : State → Prop}
variable {mc ms : Nat} {free : Addr → Prop} {A0 A1 : Nat → Prop} {H0 : Heap} {a : Array Value} {pc : Nat} {ls : Array Slot} {st0 rest : List Value}
theorem vx_keep {st₀ t T' : State} {L : List Loc} (h0 : st₀.heap = H) (e1 : T'.heap = t.heap) (hS : va_S A0 H0 H locs) (hA : ∀ q, q < H.size → A1 q → A0 q) (hf : ∀ q, free q → A0 q) (hL : ∀ q ∈ L, free q.base) (hF : va_F A1 st₀ t) :
    H.size ≤ T'.heap.size ∧ (∀ q : Nat, q < H.size → ¬ A1 q → T'.heap[q]? = H[q]?) ∧ va_S A0 H0 T'.heap (locs ++ L) := by
  obtain ⟨hz, hk⟩ := hF
  rw [h0] at hz hk
  exact ⟨by rw [e1]; exact hz, fun q h1 h2 => by rw [e1]; exact hk q h1 h2,
    ⟨Nat.le_trans hS.1 (by rw [e1]; exact hz), fun q h1 h2 => by rw [e1, hk q (Nat.lt_of_lt_of_le h1 hS.1) (fun z => h2 (hA q (Nat.lt_of_lt_of_le h1 hS.1) z))]; exact hS.2.1 q h1 h2, fun q hq => by
      rcases List.mem_append.mp hq with h | h
      · exact hS.2.2 q h
      · exact hf _ (hL q h)⟩⟩
theorem vx_calli {S SX : Type} {post : Int32 → S → Prop} {px : SX → Prop} {B : S → State → Prop} {BX : String → SX → State → Prop} {AX : Nat → Prop} (hr : vx_Run p l e R s m args below meth c H locs cells slots mc ms (F0 m pc ls st0) rest (va_Qi post B A1 a) (vx_X px BX AX) free) (hS : va_S A0 H0 H locs) (hA : ∀ q, q < H.size → A1 q → A0 q) (hf : ∀ q, free q → A0 q) (hAX : ∀ q, q < H.size → AX q → A0 q)
    (kx : ∀ (E : String) (ce : Cell) (q9 : Addr) (u : SX) (t : State) (H1 : Heap) (locs1 : List Loc), t.heap = H1 → s.vm.Alike t.vm → px u → BX E u t → H.size ≤ H1.size → (∀ q : Nat, q < H.size → ¬ AX q → H1[q]? = H[q]?) → va_S A0 H0 H1 locs1 → H1[q9]? = some ce → ce.vm = .none → s.vm.findClass E = some ce.cls → vx_W p l e R s m args below meth c H1 locs1 (cells + mc) (slots + ms) Q (F0 m pc ls rest) q9)
    (kk : ∀ (r : Int32) (u : S) (t : State) (H1 : Heap) (locs1 : List Loc), t.heap = H1 → s.vm.Alike t.vm → post r u → B u t → H.size ≤ H1.size → (∀ q : Nat, q < H.size → ¬ A1 q → H1[q]? = H[q]?) → va_S A0 H0 H1 locs1 → W p l e R s m args below meth c H1 locs1 (cells + mc) (slots + ms) Q (F0 m (pc + 3) ls (.int r :: rest))) : W p l e R s m args below meth c H locs cells slots Q (F0 m pc ls st0) := by
  intro T hT X
  rcases hr T hT X with ⟨v, st₀, t, T', L, h0, X', hL, e1, e2, ⟨⟨r, u, hv, hp, hb⟩, hF⟩, st⟩ | ⟨q, st₀, t, T', L, E, ce, h0, X', hL, e1, e2, ⟨u, hp, hb, hF⟩, hce, hcv, hcl, st⟩
  · cases hv
    obtain ⟨k1, k2, k3⟩ := vx_keep h0 e1 hS hA hf hL hF
    obtain ⟨t2, a1, b1⟩ := kk r u t T'.heap (locs ++ L) e1.symm (by rw [← e2]; exact X'.warmed.alike) hp hb k1 k2 k3 T' rfl X'
    exact ⟨t2, st t2 a1, b1⟩
  · obtain ⟨k1, k2, k3⟩ := vx_keep h0 e1 hS hAX hf hL hF
    obtain ⟨t2, a1, b1⟩ := kx E ce q u t T'.heap (locs ++ L) e1.symm (by rw [← e2]; exact X'.warmed.alike) hp hb k1 k2 k3 (by rw [e1]; exact hce) hcv hcl T' rfl X'
    exact ⟨t2, st.trans a1, b1⟩
theorem vx_calll {S SX : Type} {post : Int64 → S → Prop} {px : SX → Prop} {B : S → State → Prop} {BX : String → SX → State → Prop} {AX : Nat → Prop} (hr : vx_Run p l e R s m args below meth c H locs cells slots mc ms (F0 m pc ls st0) rest (va_Ql post B A1 a) (vx_X px BX AX) free) (hS : va_S A0 H0 H locs) (hA : ∀ q, q < H.size → A1 q → A0 q) (hf : ∀ q, free q → A0 q) (hAX : ∀ q, q < H.size → AX q → A0 q)
    (kx : ∀ (E : String) (ce : Cell) (q9 : Addr) (u : SX) (t : State) (H1 : Heap) (locs1 : List Loc), t.heap = H1 → s.vm.Alike t.vm → px u → BX E u t → H.size ≤ H1.size → (∀ q : Nat, q < H.size → ¬ AX q → H1[q]? = H[q]?) → va_S A0 H0 H1 locs1 → H1[q9]? = some ce → ce.vm = .none → s.vm.findClass E = some ce.cls → vx_W p l e R s m args below meth c H1 locs1 (cells + mc) (slots + ms) Q (F0 m pc ls rest) q9)
    (kk : ∀ (r : Int64) (u : S) (t : State) (H1 : Heap) (locs1 : List Loc), t.heap = H1 → s.vm.Alike t.vm → post r u → B u t → H.size ≤ H1.size → (∀ q : Nat, q < H.size → ¬ A1 q → H1[q]? = H[q]?) → va_S A0 H0 H1 locs1 → W p l e R s m args below meth c H1 locs1 (cells + mc) (slots + ms) Q (F0 m (pc + 3) ls (.long r :: rest))) : W p l e R s m args below meth c H locs cells slots Q (F0 m pc ls st0) := by
  intro T hT X
  rcases hr T hT X with ⟨v, st₀, t, T', L, h0, X', hL, e1, e2, ⟨⟨r, u, hv, hp, hb⟩, hF⟩, st⟩ | ⟨q, st₀, t, T', L, E, ce, h0, X', hL, e1, e2, ⟨u, hp, hb, hF⟩, hce, hcv, hcl, st⟩
  · cases hv
    obtain ⟨k1, k2, k3⟩ := vx_keep h0 e1 hS hA hf hL hF
    obtain ⟨t2, a1, b1⟩ := kk r u t T'.heap (locs ++ L) e1.symm (by rw [← e2]; exact X'.warmed.alike) hp hb k1 k2 k3 T' rfl X'
    exact ⟨t2, st t2 a1, b1⟩
  · obtain ⟨k1, k2, k3⟩ := vx_keep h0 e1 hS hAX hf hL hF
    obtain ⟨t2, a1, b1⟩ := kx E ce q u t T'.heap (locs ++ L) e1.symm (by rw [← e2]; exact X'.warmed.alike) hp hb k1 k2 k3 (by rw [e1]; exact hce) hcv hcl T' rfl X'
    exact ⟨t2, st.trans a1, b1⟩
theorem vx_callv {S SX : Type} {post : S → Prop} {px : SX → Prop} {B : S → State → Prop} {BX : String → SX → State → Prop} {AX : Nat → Prop} (hr : vx_Run p l e R s m args below meth c H locs cells slots mc ms (F0 m pc ls st0) rest (va_Qv post B A1 a) (vx_X px BX AX) free) (hS : va_S A0 H0 H locs) (hA : ∀ q, q < H.size → A1 q → A0 q) (hf : ∀ q, free q → A0 q) (hAX : ∀ q, q < H.size → AX q → A0 q)
    (kx : ∀ (E : String) (ce : Cell) (q9 : Addr) (u : SX) (t : State) (H1 : Heap) (locs1 : List Loc), t.heap = H1 → s.vm.Alike t.vm → px u → BX E u t → H.size ≤ H1.size → (∀ q : Nat, q < H.size → ¬ AX q → H1[q]? = H[q]?) → va_S A0 H0 H1 locs1 → H1[q9]? = some ce → ce.vm = .none → s.vm.findClass E = some ce.cls → vx_W p l e R s m args below meth c H1 locs1 (cells + mc) (slots + ms) Q (F0 m pc ls rest) q9)
    (kk : ∀ (u : S) (t : State) (H1 : Heap) (locs1 : List Loc), t.heap = H1 → s.vm.Alike t.vm → post u → B u t → H.size ≤ H1.size → (∀ q : Nat, q < H.size → ¬ A1 q → H1[q]? = H[q]?) → va_S A0 H0 H1 locs1 → W p l e R s m args below meth c H1 locs1 (cells + mc) (slots + ms) Q (F0 m (pc + 3) ls (rest))) : W p l e R s m args below meth c H locs cells slots Q (F0 m pc ls st0) := by
  intro T hT X
  rcases hr T hT X with ⟨v, st₀, t, T', L, h0, X', hL, e1, e2, ⟨⟨u, hv, hp, hb⟩, hF⟩, st⟩ | ⟨q, st₀, t, T', L, E, ce, h0, X', hL, e1, e2, ⟨u, hp, hb, hF⟩, hce, hcv, hcl, st⟩
  · cases hv
    obtain ⟨k1, k2, k3⟩ := vx_keep h0 e1 hS hA hf hL hF
    obtain ⟨t2, a1, b1⟩ := kk u t T'.heap (locs ++ L) e1.symm (by rw [← e2]; exact X'.warmed.alike) hp hb k1 k2 k3 T' rfl X'
    exact ⟨t2, st t2 a1, b1⟩
  · obtain ⟨k1, k2, k3⟩ := vx_keep h0 e1 hS hAX hf hL hF
    obtain ⟨t2, a1, b1⟩ := kx E ce q u t T'.heap (locs ++ L) e1.symm (by rw [← e2]; exact X'.warmed.alike) hp hb k1 k2 k3 (by rw [e1]; exact hce) hcv hcl T' rfl X'
    exact ⟨t2, st.trans a1, b1⟩
/-- caught by the row x of this method's table; the rows ahead don't take it -/
theorem vx_catch {own name : String} {E : String} {ce : Cell} {q : Addr} (hown : s.vm.findClass own = some m.cls) (pre : List ExceptionTableEntry) (x : ExceptionTableEntry) (suf : List ExceptionTableEntry) (hsplit : c.exceptionTable.toList = pre ++ x :: suf)
    (hpass : ∀ z ∈ pre, covers z pc = false ∨ (z.catchType ≠ 0 ∧ ∃ nm : String, (Cond.classLink own z.catchType nm).before args s = true ∧ va_Nc E nm s)) (hx : covers x pc = true) (h0 : x.catchType ≠ 0)
    (hlink : (Cond.classLink own x.catchType name).before args s = true) (hcast : (Cond.castable E name).before args s = true) (hcell : H[q]? = some ce) (hv : ce.vm = .none) (hcl : s.vm.findClass E = some ce.cls)
    (kk : W p l e R s m args below meth c H locs cells slots Q (F0 m x.handlerPc ls [.ref q])) : vx_W p l e R s m args below meth c H locs cells slots Q (F0 m pc ls rest) q := by
  intro T hT X
  have hpl : e.platform.magicAccessors = ({} : Platform).magicAccessors := by rw [X.admits.platform]
  obtain ⟨c3, c4, hc3, hc4, hasg⟩ := Cond.castable_spec hcast
  cases Option.some.inj (hc3.symm.trans hcl)
  obtain ⟨c5, hc5, hcl5⟩ := Cond.classLink_spec hown hlink e.platform hpl
  cases Option.some.inj (hc4.symm.trans hc5)
  obtain ⟨vm', X', st⟩ := X.thenCaughtThrough q (g := F0 m pc ls rest) rfl (Steps.refl _) (by rw [hT]; exact hcell) (by rw [hv]; rfl) (by obtain ⟨k9, h9, -⟩ := Vm.findClass_spec hcl; exact ⟨k9, h9⟩) pre x suf hsplit
    (fun z hz => by
      rcases hpass z hz with h | ⟨hz0, nm, hl1, hn1⟩
      · exact Or.inl h
      · obtain ⟨c6, hc6, hcl6⟩ := Cond.classLink_spec hown hl1 e.platform hpl
        obtain ⟨a8, b8, h1, h2, h3⟩ := hn1
        cases Option.some.inj (h1.symm.trans hcl)
        cases Option.some.inj (h2.symm.trans hc6)
        exact Or.inr ⟨hz0, _, hcl6, h3⟩) hx (Or.inr ⟨h0, c4, hcl5, hasg⟩)
  obtain ⟨t, a1, b1⟩ := kk (T.setVm vm') hT X'
  exact ⟨t, st.trans a1, b1⟩
end Rows
section Ends
variable {p : Program} {l : Launch} {e : Env} {R : Room} {s : State} {m : MethodId} {args : Array Value} {below : List Frame} {meth : Method} {c : Code} {H : Heap} {locs : List Loc} {cells slots : Nat} {Q : State → Prop}
variable {mc ms : Nat} {free : Addr → Prop} {A0 A1 : Nat → Prop} {H0 : Heap} {a : Array Value} {ls : Array Slot} {st0 rest : List Value}
variable {Qc : Array Value → State → Outcome → State → Prop} {XC : String → State → State → Prop}
/-- what a body that may throw owes at its end -/
def vx_MQ (below : List Frame) (Qc : Array Value → State → Outcome → State → Prop) (XC : String → State → State → Prop) (a : Array Value) (s : State) (mc ms : Nat) (free : Addr → Prop) : State → Prop := fun t =>
  ∃ o, t.status = .running ∧ Ended t below o ∧ vx_Q Qc XC mc ms free a s o t
theorem vx_out {pc : Nat} {E : String} {ce : Cell} {q : Addr} {mc ms : Nat} (hout : ∀ x ∈ c.exceptionTable.toList, covers x pc = false) (hlocks : meth.locks = false) (hcell : H[q]? = some ce) (hv : ce.vm = .none) (hcl : s.vm.findClass E = some ce.cls)
    (hx : ∀ t : State, t.heap = H → s.vm.Alike t.vm → XC E s t) (hf : ∀ z ∈ locs, free z.base) (hc : cells ≤ mc) (hs : slots ≤ ms) :
    vx_W p l e R s m args below meth c H locs cells slots (vx_MQ below Qc XC args s mc ms free) (F0 m pc ls rest) q := by
  intro T hT X
  obtain ⟨st1, hrun, hend, hW, hsm⟩ := X.leaveThrown q (g := F0 m pc ls rest) rfl rfl rfl hout hlocks
  have hcell9 : (T.setFrames (.throwing q :: below)).heap[q]? = some ce := by
    show T.heap[q]? = some ce
    rw [hT]; exact hcell
  exact ⟨_, st1, .threw q, hrun, hend, Or.inr ⟨q, rfl, E, ce, locs, hx _ hT hW.alike, hcell9, hv, hcl, hW, hsm.mono hc hs, hf⟩⟩
theorem vx_frame {U : State} {k n : Nat} (h : s.sameButNew ({ U with vm := s.vm } : State) locs k n) : s.heap.size ≤ U.heap.size ∧ ∀ q : Nat, q < s.heap.size → (∀ z ∈ locs, z.base ≠ q) → U.heap[q]? = s.heap[q]? := by
  obtain ⟨-, h2, -, -, -, h6⟩ := h
  refine ⟨h2, fun q hq hz => ?_⟩
  obtain ⟨c9, e1, e2, e3, e4⟩ := h6 q _ (Array.getElem?_eq_getElem hq)
  have hs : c9.slots = (s.heap[q]).slots := Array.ext_getElem? fun i => e4 i fun hm => hz _ hm rfl
  have h9 : c9 = s.heap[q] := by
    rw [hs] at e2
    exact e2
  have e5 : U.heap[q]? = some c9 := e1
  rw [e5, h9, Array.getElem?_eq_getElem hq]
/-- the words of a throw but the four that speak of the heap -/
def vx_no (w : Cond) : Bool := decide (w ≠ .isRef (.static Bundle.tN "UNASSIGNED_STACK" Bundle.steD)) && decide (w ≠ .isRef (.static Bundle.tN "SUPPRESSED_SENTINEL" Bundle.listD)) && decide (w ≠ .laysStatic Bundle.tN "UNASSIGNED_STACK" Bundle.steD) && decide (w ≠ .laysStatic Bundle.tN "SUPPRESSED_SENTINEL" Bundle.listD)
def vx_at0 (own : String) (ic : Nat) (X : String) (names : List String) : List Cond := (Bundle.ownAtoms0 own ic X names).filter vx_no
def vx_atS (own : String) (ic : Nat) (X : String) (names : List String) : List Cond := (Bundle.ownAtoms own ic X names).filter vx_no
/-- a word that the tables alone decide, or a good one -/
def vx_ot (w : Cond) : Bool := w.onTables || goodWord w
theorem vx_ot_at {args a' : Array Value} {s U : State} {w : Cond} (hW : s.WarmedH U.vm) (hvm : s.vm = U.vm) (hg : vx_ot w = true) (h : w.before args s = true) : w.before a' U = true := by
  simp only [vx_ot, Bool.or_eq_true] at hg
  rcases hg with hg | hg
  · exact va_tabs hg hvm h
  · exact word_at hW (good_of_word hg) h
/-- a list's words: the good ones out of the method's own list, the others by premises of their own -/
theorem vx_hat {args : Array Value} {s : State} {L B : List Cond} (h1 : ∀ w ∈ L.filter goodWord, w.before args s = true) (h2 : ∀ w ∈ L.filter (fun w => !goodWord w), w ∈ B) (h3 : ∀ w ∈ B, w.before args s = true) : ∀ w ∈ L, w.before args s = true := by
  intro w hw
  by_cases g : goodWord w = true
  · exact h1 w (List.mem_filter.mpr ⟨hw, g⟩)
  · refine h3 w (h2 w (List.mem_filter.mpr ⟨hw, ?_⟩))
    show (!goodWord w) = true
    cases hgw : goodWord w
    · rfl
    · exact absurd hgw g
theorem vx_own {args : Array Value} {s : State} {L : List Cond} (h1 : ∀ w ∈ L.filter vx_no, w.before args s = true)
    (hU : (Cond.isRef (.static Bundle.tN "UNASSIGNED_STACK" Bundle.steD)).before args s = true) (hN : (Cond.isRef (.static Bundle.tN "SUPPRESSED_SENTINEL" Bundle.listD)).before args s = true)
    (lU : (Cond.laysStatic Bundle.tN "UNASSIGNED_STACK" Bundle.steD).before args s = true) (lN : (Cond.laysStatic Bundle.tN "SUPPRESSED_SENTINEL" Bundle.listD).before args s = true) : ∀ w ∈ L, w.before args s = true := by
  intro w hw
  by_cases e1 : w = .isRef (.static Bundle.tN "UNASSIGNED_STACK" Bundle.steD)
  · rw [e1]; exact hU
  · by_cases e2 : w = .isRef (.static Bundle.tN "SUPPRESSED_SENTINEL" Bundle.listD)
    · rw [e2]; exact hN
    · by_cases e3 : w = .laysStatic Bundle.tN "UNASSIGNED_STACK" Bundle.steD
      · rw [e3]; exact lU
      · by_cases e4 : w = .laysStatic Bundle.tN "SUPPRESSED_SENTINEL" Bundle.listD
        · rw [e4]; exact lN
        · exact h1 w (List.mem_filter.mpr ⟨hw, by unfold vx_no; rw [decide_eq_true e1, decide_eq_true e2, decide_eq_true e3, decide_eq_true e4]; rfl⟩)
/-- where a static field lies, its class's statics cell in H -/
def vx_L (C n d : String) (A : Nat → Prop) (U : State) (H : Heap) : Prop := ∃ (c : ClassId) (k : Class) (i : Nat) (f : Field) (a : Nat) (cell : Cell), U.vm.findClass C = some c ∧ U.fieldFound? C n d = some (c, k, i, f) ∧ f.isStatic = true ∧ k.statics = some a ∧ H[a]? = some cell ∧ cell.vm.isStatics = true ∧ cell.cls = c ∧ f.slot < cell.slots.size ∧ k.staticTypes[f.slot]? = some f.type ∧ ¬ A a
theorem vx_L.moved {C n d : String} {A : Nat → Prop} {u U : State} {H : Heap} (hvm : u.vm.Alike U.vm) (h : vx_L C n d A u H) : vx_L C n d A U H := by
  obtain ⟨c, k, i, f, a, cell, h1, h2, h3, h4, h5, h6, h7, h8, h9, h10⟩ := h
  obtain ⟨k', hi', he⟩ := State.fieldFound?_setVm hvm h2
  exact ⟨c, k', i, f, a, cell, by rw [hvm.findClass]; exact h1, hi', h3, by rw [he]; exact h4, h5, h6, h7, h8, by rw [he]; exact h9, h10⟩
theorem vx_L.kept {C n d : String} {A : Nat → Prop} {U : State} {H H1 : Heap} (h : vx_L C n d A U H) (hq : ∀ a : Nat, a < H.size → ¬ A a → H1[a]? = H[a]?) : vx_L C n d A U H1 := by
  obtain ⟨c, k, i, f, a, cell, h1, h2, h3, h4, h5, h6, h7, h8, h9, h10⟩ := h
  exact ⟨c, k, i, f, a, cell, h1, h2, h3, h4, by rw [hq a (Array.getElem?_eq_some_iff.mp h5).1 h10]; exact h5, h6, h7, h8, h9, h10⟩
theorem vx_L.narrow {C n d : String} {A B : Nat → Prop} {U : State} {H : Heap} (h : vx_L C n d A U H) (hAB : ∀ q, B q → A q) : vx_L C n d B U H := by
  obtain ⟨c, k, i, f, a, cell, h1, h2, h3, h4, h5, h6, h7, h8, h9, h10⟩ := h
  exact ⟨c, k, i, f, a, cell, h1, h2, h3, h4, h5, h6, h7, h8, h9, fun z => h10 (hAB _ z)⟩
theorem vx_L.word {C n d : String} {A : Nat → Prop} {s : State} {args : Array Value} (h : vx_L C n d A s s.heap) : (Cond.laysStatic C n d).before args s = true := by
  obtain ⟨c, k, i, f, a, cell, h1, h2, h3, h4, h5, h6, h7, h8, h9, -⟩ := h
  show (Cond.laysStatic C n d).holds args s none s [] = true
  exact Cond.laysStatic_of h1 h2 h3 h4 h5 h6 h7 h8 h9
/-- .. and what it holds: null or some reference -/
def vx_Zq (C n d : String) (A : Nat → Prop) (U : State) (H : Heap) : Prop := va_Zq C n d A U H ∧ vx_L C n d A U H
theorem vx_Zq.moved {C n d : String} {A : Nat → Prop} {u U : State} {H : Heap} (hvm : u.vm.Alike U.vm) (h : vx_Zq C n d A u H) : vx_Zq C n d A U H := ⟨va_Zq.moved hvm h.1, vx_L.moved hvm h.2⟩
theorem vx_Zq.kept {C n d : String} {A : Nat → Prop} {U : State} {H H1 : Heap} (h : vx_Zq C n d A U H) (hq : ∀ a : Nat, a < H.size → ¬ A a → H1[a]? = H[a]?) : vx_Zq C n d A U H1 := ⟨va_Zq.kept h.1 hq, vx_L.kept h.2 hq⟩
theorem vx_Zq.narrow {C n d : String} {A B : Nat → Prop} {U : State} {H : Heap} (h : vx_Zq C n d A U H) (hAB : ∀ q, B q → A q) : vx_Zq C n d B U H := ⟨va_Zq.narrow h.1 hAB, vx_L.narrow h.2 hAB⟩
theorem vx_Zqof {args : Array Value} {s : State} {C n d : String} {A : Nat → Prop} (hl : (Cond.laysStatic C n d).before args s = true) (hini : (Cond.initialized C).before args s = true) (h : (Cond.isRef (.static C n d)).before args s = true) (hA : ∀ a : Nat, a < s.heap.size → ¬ A a) : vx_Zq C n d A s s.heap := by
  refine ⟨va_Zqof hl hini h hA, ?_⟩
  obtain ⟨c, k, i, f, a, cell, h1, h2, h3, h4, h5, h6, h7, h8, h9⟩ := Cond.laysStatic_spec hl
  exact ⟨c, k, i, f, a, cell, h1, h2, h3, h4, h5, h6, h7, h8, h9, hA a (Array.getElem?_eq_some_iff.mp h5).1⟩
theorem vx_isRef {C n d : String} {v : Value} {A : Nat → Prop} {s : State} {args : Array Value} (h : va_Z C n d v A s s.heap) (hv : v.isRef = true) : (Cond.isRef (.static C n d)).before args s = true := by
  obtain ⟨cf, kf, fi, f, a, cell, h1, h2, h3, h4, h5, h6, h7, -⟩ := h
  have he : (Term.static C n d).eval args s none [] s = some v := by
    simp [Term.eval, State.fieldNamed?, h1, h2, h4, h5, h6, h7]
  simp only [Cond.before, Cond.holds, Cond.value, he]
  cases v <;> simp_all [Value.isRef]
theorem vx_isRefq {C n d : String} {A : Nat → Prop} {s : State} {args : Array Value} (h : va_Zq C n d A s s.heap) : (Cond.isRef (.static C n d)).before args s = true := by
  rcases h with h | ⟨t, h⟩
  · exact vx_isRef h rfl
  · exact vx_isRef h rfl
/-- the same frame, seen from here: as if the method were called anew in this heap -/
theorem vx_rebase {T : State} (X : Stand p l e R s m args below meth c T locs cells slots) {R' : Room} (hf : R'.frames ≤ R.frames) (hl : R'.locals ≤ R.locals) (hc : cells + R'.cells ≤ R.cells) (hs : slots + R'.slots ≤ R.slots) :
    Stand p l e R' ((T.setVm s.vm).setFrames (.invoking m args :: below)) m args below meth c T [] 0 0 := by
  have htop : (T.setVm s.vm).topJava?.isSome := X.here.top
  have hF : ((T.setVm s.vm).setFrames (.invoking m args :: below)).frames = .invoking m args :: below := State.frames_setFrames _ (State.cur_lt_of_top htop)
  obtain ⟨g₀, hg0⟩ := Option.isSome_iff_exists.mp htop
  obtain ⟨r, hr⟩ := State.topJava?_eq_some.mp hg0
  have hl9 : e.platform.stackLimits (T.setVm s.vm).me = e.platform.stackLimits s.me := X.limits
  have hb9 : (T.setVm s.vm).me.stackBytes = s.me.stackBytes := X.bytes
  refine ⟨X.admits, X.cas, X.clock, hF, ?_, X.hears, X.method, X.code, X.here, X.tail, X.warmed, ?_, ?_, ?_⟩
  · have h := X.room
    have hU : ((T.setVm s.vm).setFrames (.invoking m args :: below)).localsInUse = s.localsInUse := by
      rw [State.localsInUse_invoking hF (meth := meth) (c := c) X.method X.code, State.localsInUse_invoking X.frames X.method X.code]
    simp only [State.hasRoom, Bool.and_eq_true, decide_eq_true_eq] at h ⊢
    obtain ⟨⟨⟨⟨h1, h2, h3, h4, h5, h6⟩, h7⟩, h8⟩, h9⟩ := h
    rw [X.frames, List.length_cons] at h2 h3
    have q1 := X.heapSize
    have q2 := X.used
    simp only [hF, hU, List.length_cons, State.stackLimits_setFrames, State.stackBytes_setFrames, hl9, hb9]
    refine ⟨⟨⟨⟨by omega, by omega, by omega, by omega, by omega, h6⟩, ?_⟩, ?_⟩, X.book⟩
    · show T.heap.size + R'.cells ≤ e.platform.maxCells
      omega
    · show T.slotsUsed + R'.slots ≤ e.platform.maxSlots
      omega
  · rw [State.stackLimits_setFrames]; rfl
  · rw [State.stackBytes_setFrames]; rfl
  · refine ⟨?_, Nat.le_refl _, Nat.le_refl _, ?_, ?_, fun a c9 h9 => ⟨c9, h9, rfl, rfl, fun _ _ => rfl⟩⟩
    · obtain ⟨t, ht, -⟩ := State.frames_cons hr
      show T.setVm s.vm = { ((T.setVm s.vm).setFrames (.invoking m args :: below)).setFrames (T.setVm s.vm).frames with heap := T.heap, slotsUsed := T.slotsUsed }
      rw [State.setFrames_setFrames, State.setFrames_self ht]
      rfl
    · show T.slotsUsed = T.slotsUsed + ((T.heap.toList.drop T.heap.size).map (·.slots.size)).sum
      rw [List.drop_eq_nil_of_le (Nat.le_of_eq Array.length_toList)]
      rfl
    · show ((T.heap.toList.drop T.heap.size).map (·.slots.size)).sum ≤ 0
      rw [List.drop_eq_nil_of_le (Nat.le_of_eq Array.length_toList)]
      exact Nat.le_refl _
/-- 'throw new E()': new; dup; invokespecial; athrow -/
theorem vx_throw0 {cc : ByteArray} {pc : Nat} (hexec : p.tables.exec = Jvm.exec) (hb : c.code = cc) (hl : l.stackTraces = false) {own cls : String} {names : List String} {ik ic mc ms : Nat} {A : Nat → Prop}
    (hown : s.vm.findClass own = some m.cls) (hcls : Bundle.fit cls = true) (hnames : ∀ n ∈ names, Bundle.fit n = true)
    (hk : (Cond.classLink own ik cls).before args s = true) (hini : (Cond.initialized cls).before args s = true) (hat : ∀ w ∈ vx_at0 own ic cls names, w.before args s = true)
    (hgood : ∀ w ∈ Cond.classLink own ik cls :: Cond.initialized cls :: vx_at0 own ic cls names, vx_ot w = true)
    (hU : vx_Zq Bundle.tN "UNASSIGNED_STACK" Bundle.steD A s s.heap) (hN : vx_Zq Bundle.tN "SUPPRESSED_SENTINEL" Bundle.listD A s s.heap) (hS : va_S A s.heap H locs) (hsize : ls.size = c.maxLocals)
    (d0 : decode cc pc = .ok (.new ik, 3)) (d3 : decode cc (pc + 3) = .ok (.dup, 1)) (d4 : decode cc (pc + 4) = .ok (.invokespecial ic, 3)) (d7 : decode cc (pc + 7) = .ok (.athrow, 1))
    (hout : ∀ x ∈ c.exceptionTable.toList, covers x (pc + 7) = false)
    (hRframes : names.length + 3 < R.frames) (hRlocals : (rest.map fun v => v.category).sum + (13 * (names.length + 1) + 42) ≤ R.locals) (hRcells : cells + 1 ≤ R.cells) (hRslots : slots + 6 ≤ R.slots) (hlocks : meth.locks = false)
    (hx : ∀ t : State, s.vm.Alike t.vm → H.size ≤ t.heap.size → (∀ q : Nat, q < H.size → t.heap[q]? = H[q]?) → XC cls s t)
    (hf : ∀ z ∈ locs, free z.base) (hc : cells + 1 ≤ mc) (hs : slots + 6 ≤ ms) :
    W p l e R s m args below meth c H locs cells slots (vx_MQ below Qc XC args s mc ms free) (F0 m pc ls rest) := by
  intro T hT X
  have htr : e.platform.stackTraces = false := (show e.platform.stackTraces = l.stackTraces by rw [X.admits.platform]).trans hl
  have Y := vx_rebase X (R' := { frames := R.frames, locals := R.locals, cells := 1, slots := 6 }) (Nat.le_refl _) (Nat.le_refl _) hRcells hRslots
  obtain ⟨s', hA⟩ : ∃ z, z = (T.setVm s.vm).setFrames (.invoking m args :: below) := ⟨_, rfl⟩
  rw [← hA] at Y
  have hvm : s'.vm = s.vm := by rw [hA]; rfl
  have hhp : s'.heap = H := by rw [hA]; exact hT
  have hW0 : s.WarmedH s'.vm := by rw [hvm]; exact State.WarmedH.refl s
  have hat' : ∀ w ∈ vx_at0 own ic cls names, w.before args s' = true := fun w hw => vx_ot_at hW0 hvm.symm (hgood w (List.mem_cons_of_mem _ (List.mem_cons_of_mem _ hw))) (hat w hw)
  have hk' : (Cond.classLink own ik cls).before args s' = true := vx_ot_at hW0 hvm.symm (hgood _ List.mem_cons_self) hk
  have hini' : (Cond.initialized cls).before args s' = true := vx_ot_at hW0 hvm.symm (hgood _ (List.mem_cons_of_mem _ List.mem_cons_self)) hini
  have hU' : vx_Zq Bundle.tN "UNASSIGNED_STACK" Bundle.steD A s' s'.heap := by rw [hhp]; exact vx_Zq.moved hW0.alike (hU.kept hS.2.1)
  have hN' : vx_Zq Bundle.tN "SUPPRESSED_SENTINEL" Bundle.listD A s' s'.heap := by rw [hhp]; exact vx_Zq.moved hW0.alike (hN.kept hS.2.1)
  have h : ∀ w ∈ Bundle.ownAtoms0 own ic cls names, w.before args s' = true := vx_own hat' (vx_isRefq hU'.1) (vx_isRefq hN'.1) hU'.2.word hN'.2.word
  have hown' : s'.vm.findClass own = some m.cls := by rw [hvm]; exact hown
  have hins : (Cond.instantiable cls 6).before args s' = true := h _ (by simp [Bundle.ownAtoms0])
  obtain ⟨vm₁, cX, kX, hfX, hkX, -, -, X₁, st1⟩ := Y.newCold hexec (own := own) (C := cls) (index := ik) (n := 6) hown' hk' hins hini'
    (g := F0 m pc ls rest) rfl (by rw [hb]; exact d0) (Nat.le_refl _) (Nat.le_refl _)
  generalize hT1 : (T.setVm vm₁).pushCell { cls := cX, slots := kX.instanceTypes.map defaultValue, vm := .none } = T1 at X₁ st1
  have hcat : (Value.ref T.heap.size).category = 1 := rfl
  have hcellA : T1.heap[T.heap.size]? = some (freshCell cX kX) := by rw [← hT1]; exact State.heap_pushCell_size _ _
  have d3' : decode c.code (pc + 3) = .ok (.dup, 1) := by rw [hb]; exact d3
  obtain ⟨U, hsteps, hrun, hend, hW, hsame, ce, hce, hO⟩ := X₁.ctorThrow0 hexec htr (own := own) (cls := cls) (names := names) (ic := ic) hown' hcls hnames h (fun x hx => nomatch hx) hfX hkX hcellA (by rw [hhp, hT]; exact Nat.le_refl _)
    (g := { method := m, pc := pc + 4, locals := ls, stack := .ref T.heap.size :: .ref T.heap.size :: rest, locked := none }) rfl hsize rfl rfl (rest := rest) rfl
    (by rw [hb]; exact d4) (by rw [hb]; exact d7) hout hRframes (by simp only [List.map_cons, List.sum_cons, hcat]; omega) hlocks
  obtain ⟨f1, f2⟩ := vx_frame hsame
  rw [hhp] at f1 f2
  have hWs : s.WarmedH U.vm := State.WarmedH.trans hW0 hW
  have hcl : s.vm.findClass cls = some ce.cls := by
    have h9 := hO.cls
    rw [hvm] at h9
    exact h9
  have hall : s.sameButNew ({ U with vm := s.vm } : State) locs mc ms := by
    subst hA
    obtain ⟨e1, e2⟩ := hsame
    rw [State.setFrames_setFrames] at e1
    have h2 : (T.setVm s.vm).sameButNew ({ U with vm := s.vm } : State) [] (0 + 1) (0 + 6) := ⟨e1, e2⟩
    have h3 := X.same.trans h2
    rw [List.append_nil] at h3
    exact h3.mono hc hs
  refine ⟨U, ?_, .threw T.heap.size, hrun, hend, Or.inr ⟨T.heap.size, rfl, cls, ce, locs, hx U hWs.alike f1 (fun q hq => f2 q hq (fun z hz => nomatch hz)), hce, hO.vm, hcl, hWs, hall, hf⟩⟩
  refine st1 _ ?_
  show Steps p.tables e below (T1.setTop { method := m, pc := pc + 3, locals := ls, stack := .ref T.heap.size :: rest, locked := none }) _
  jvm_step X₁.here [X₁.here.top, hexec, d3', Value.category]
  exact hsteps
/-- 'throw new E("text")': new; dup; ldc; invokespecial; athrow -/
theorem vx_throwS {cc : ByteArray} {pc : Nat} (hexec : p.tables.exec = Jvm.exec) (hb : c.code = cc) (hl : l.stackTraces = false) {own cls text : String} {names : List String} {ik is ic mc ms sa : Nat} {A : Nat → Prop}
    (hown : s.vm.findClass own = some m.cls) (hcls : Bundle.fit cls = true) (hnames : ∀ n ∈ names, Bundle.fit n = true)
    (hk : (Cond.classLink own ik cls).before args s = true) (hini : (Cond.initialized cls).before args s = true) (hstr : vk_R own is text sa s) (hat : ∀ w ∈ vx_atS own ic cls names, w.before args s = true)
    (hgood : ∀ w ∈ Cond.classLink own ik cls :: Cond.initialized cls :: vx_atS own ic cls names, vx_ot w = true)
    (hU : vx_Zq Bundle.tN "UNASSIGNED_STACK" Bundle.steD A s s.heap) (hN : vx_Zq Bundle.tN "SUPPRESSED_SENTINEL" Bundle.listD A s s.heap) (hS : va_S A s.heap H locs) (hsize : ls.size = c.maxLocals)
    (d0 : decode cc pc = .ok (.new ik, 3)) (d3 : decode cc (pc + 3) = .ok (.dup, 1)) (d4 : decode cc (pc + 4) = .ok (.ldc is, 2)) (d6 : decode cc (pc + 6) = .ok (.invokespecial ic, 3)) (d9 : decode cc (pc + 9) = .ok (.athrow, 1))
    (hout : ∀ x ∈ c.exceptionTable.toList, covers x (pc + 9) = false)
    (hRframes : names.length + 3 < R.frames) (hRlocals : (rest.map fun v => v.category).sum + (13 * (names.length + 1) + 43) ≤ R.locals) (hRcells : cells + 1 ≤ R.cells) (hRslots : slots + 6 ≤ R.slots) (hlocks : meth.locks = false)
    (hx : ∀ t : State, s.vm.Alike t.vm → H.size ≤ t.heap.size → (∀ q : Nat, q < H.size → t.heap[q]? = H[q]?) → XC cls s t)
    (hf : ∀ z ∈ locs, free z.base) (hc : cells + 1 ≤ mc) (hs : slots + 6 ≤ ms) :
    W p l e R s m args below meth c H locs cells slots (vx_MQ below Qc XC args s mc ms free) (F0 m pc ls rest) := by
  intro T hT X
  have htr : e.platform.stackTraces = false := (show e.platform.stackTraces = l.stackTraces by rw [X.admits.platform]).trans hl
  have Y := vx_rebase X (R' := { frames := R.frames, locals := R.locals, cells := 1, slots := 6 }) (Nat.le_refl _) (Nat.le_refl _) hRcells hRslots
  obtain ⟨s', hA⟩ : ∃ z, z = (T.setVm s.vm).setFrames (.invoking m args :: below) := ⟨_, rfl⟩
  rw [← hA] at Y
  have hvm : s'.vm = s.vm := by rw [hA]; rfl
  have hhp : s'.heap = H := by rw [hA]; exact hT
  have hW0 : s.WarmedH s'.vm := by rw [hvm]; exact State.WarmedH.refl s
  have hat' : ∀ w ∈ vx_atS own ic cls names, w.before args s' = true := fun w hw => vx_ot_at hW0 hvm.symm (hgood w (List.mem_cons_of_mem _ (List.mem_cons_of_mem _ hw))) (hat w hw)
  have hk' : (Cond.classLink own ik cls).before args s' = true := vx_ot_at hW0 hvm.symm (hgood _ List.mem_cons_self) hk
  have hini' : (Cond.initialized cls).before args s' = true := vx_ot_at hW0 hvm.symm (hgood _ (List.mem_cons_of_mem _ List.mem_cons_self)) hini
  have hU' : vx_Zq Bundle.tN "UNASSIGNED_STACK" Bundle.steD A s' s'.heap := by rw [hhp]; exact vx_Zq.moved hW0.alike (hU.kept hS.2.1)
  have hN' : vx_Zq Bundle.tN "SUPPRESSED_SENTINEL" Bundle.listD A s' s'.heap := by rw [hhp]; exact vx_Zq.moved hW0.alike (hN.kept hS.2.1)
  have h : ∀ w ∈ Bundle.ownAtoms own ic cls names, w.before args s' = true := vx_own hat' (vx_isRefq hU'.1) (vx_isRefq hN'.1) hU'.2.word hN'.2.word
  have hown' : s'.vm.findClass own = some m.cls := by rw [hvm]; exact hown
  have hins : (Cond.instantiable cls 6).before args s' = true := h _ (by simp [Bundle.ownAtoms])
  obtain ⟨vm₁, cX, kX, hfX, hkX, -, -, X₁, st1⟩ := Y.newCold hexec (own := own) (C := cls) (index := ik) (n := 6) hown' hk' hins hini'
    (g := F0 m pc ls rest) rfl (by rw [hb]; exact d0) (Nat.le_refl _) (Nat.le_refl _)
  generalize hT1 : (T.setVm vm₁).pushCell { cls := cX, slots := kX.instanceTypes.map defaultValue, vm := .none } = T1 at X₁ st1
  have hcat : (Value.ref T.heap.size).category = 1 := rfl
  have hcellA : T1.heap[T.heap.size]? = some (freshCell cX kX) := by rw [← hT1]; exact State.heap_pushCell_size _ _
  have d3' : decode c.code (pc + 3) = .ok (.dup, 1) := by rw [hb]; exact d3
  have d4' : decode c.code (pc + 4) = .ok (.ldc is, 2) := by rw [hb]; exact d4
  have hstr' : vk_R own is text sa s' := vk_R.warm hW0 hstr
  obtain ⟨U, hsteps, hrun, hend, hW, hsame, ce, hce, hO⟩ := X₁.ctorThrowS hexec htr (own := own) (cls := cls) (names := names) (ic := ic) hown' hcls hnames h (fun x hx => nomatch hx) hfX hkX hcellA (by rw [hhp, hT]; exact Nat.le_refl _) (msg := .ref sa) rfl
    (g := { method := m, pc := pc + 6, locals := ls, stack := .ref sa :: .ref T.heap.size :: .ref T.heap.size :: rest, locked := none }) rfl hsize rfl rfl (rest := rest) rfl
    (by rw [hb]; exact d6) (by rw [hb]; exact d9) hout hRframes (by simp only [List.map_cons, List.sum_cons, hcat]; omega) hlocks
  obtain ⟨f1, f2⟩ := vx_frame hsame
  rw [hhp] at f1 f2
  have hWs : s.WarmedH U.vm := State.WarmedH.trans hW0 hW
  have hcl : s.vm.findClass cls = some ce.cls := by
    have h9 := hO.cls
    rw [hvm] at h9
    exact h9
  have hall : s.sameButNew ({ U with vm := s.vm } : State) locs mc ms := by
    subst hA
    obtain ⟨e1, e2⟩ := hsame
    rw [State.setFrames_setFrames] at e1
    have h2 : (T.setVm s.vm).sameButNew ({ U with vm := s.vm } : State) [] (0 + 1) (0 + 6) := ⟨e1, e2⟩
    have h3 := X.same.trans h2
    rw [List.append_nil] at h3
    exact h3.mono hc hs
  refine ⟨U, ?_, .threw T.heap.size, hrun, hend, Or.inr ⟨T.heap.size, rfl, cls, ce, locs, hx U hWs.alike f1 (fun q hq => f2 q hq (fun z hz => nomatch hz)), hce, hO.vm, hcl, hWs, hall, hf⟩⟩
  refine st1 _ ?_
  show Steps p.tables e below (T1.setTop { method := m, pc := pc + 3, locals := ls, stack := .ref T.heap.size :: rest, locked := none }) _
  jvm_step X₁.here [X₁.here.top, hexec, d3', Value.category]
  exact X₁.ldcString hexec (own := own) (text := text) (index := is) (a := sa) hown' hstr'.1 hstr'.2
    (g := { method := m, pc := pc + 4, locals := ls, stack := .ref T.heap.size :: .ref T.heap.size :: rest, locked := none }) rfl d4' _ hsteps
/-- 'throw new E("text")', the text by a wide index -/
theorem vx_throwSW {cc : ByteArray} {pc : Nat} (hexec : p.tables.exec = Jvm.exec) (hb : c.code = cc) (hl : l.stackTraces = false) {own cls text : String} {names : List String} {ik is ic mc ms sa : Nat} {A : Nat → Prop}
    (hown : s.vm.findClass own = some m.cls) (hcls : Bundle.fit cls = true) (hnames : ∀ n ∈ names, Bundle.fit n = true)
    (hk : (Cond.classLink own ik cls).before args s = true) (hini : (Cond.initialized cls).before args s = true) (hstr : vk_R own is text sa s) (hat : ∀ w ∈ vx_atS own ic cls names, w.before args s = true)
    (hgood : ∀ w ∈ Cond.classLink own ik cls :: Cond.initialized cls :: vx_atS own ic cls names, vx_ot w = true)
    (hU : vx_Zq Bundle.tN "UNASSIGNED_STACK" Bundle.steD A s s.heap) (hN : vx_Zq Bundle.tN "SUPPRESSED_SENTINEL" Bundle.listD A s s.heap) (hS : va_S A s.heap H locs) (hsize : ls.size = c.maxLocals)
    (d0 : decode cc pc = .ok (.new ik, 3)) (d3 : decode cc (pc + 3) = .ok (.dup, 1)) (d4 : decode cc (pc + 4) = .ok (.ldc_w is, 3)) (d7 : decode cc (pc + 7) = .ok (.invokespecial ic, 3)) (d10 : decode cc (pc + 10) = .ok (.athrow, 1))
    (hout : ∀ x ∈ c.exceptionTable.toList, covers x (pc + 10) = false)
    (hRframes : names.length + 3 < R.frames) (hRlocals : (rest.map fun v => v.category).sum + (13 * (names.length + 1) + 43) ≤ R.locals) (hRcells : cells + 1 ≤ R.cells) (hRslots : slots + 6 ≤ R.slots) (hlocks : meth.locks = false)
    (hx : ∀ t : State, s.vm.Alike t.vm → H.size ≤ t.heap.size → (∀ q : Nat, q < H.size → t.heap[q]? = H[q]?) → XC cls s t)
    (hf : ∀ z ∈ locs, free z.base) (hc : cells + 1 ≤ mc) (hs : slots + 6 ≤ ms) :
    W p l e R s m args below meth c H locs cells slots (vx_MQ below Qc XC args s mc ms free) (F0 m pc ls rest) := by
  intro T hT X
  have htr : e.platform.stackTraces = false := (show e.platform.stackTraces = l.stackTraces by rw [X.admits.platform]).trans hl
  have Y := vx_rebase X (R' := { frames := R.frames, locals := R.locals, cells := 1, slots := 6 }) (Nat.le_refl _) (Nat.le_refl _) hRcells hRslots
  obtain ⟨s', hA⟩ : ∃ z, z = (T.setVm s.vm).setFrames (.invoking m args :: below) := ⟨_, rfl⟩
  rw [← hA] at Y
  have hvm : s'.vm = s.vm := by rw [hA]; rfl
  have hhp : s'.heap = H := by rw [hA]; exact hT
  have hW0 : s.WarmedH s'.vm := by rw [hvm]; exact State.WarmedH.refl s
  have hat' : ∀ w ∈ vx_atS own ic cls names, w.before args s' = true := fun w hw => vx_ot_at hW0 hvm.symm (hgood w (List.mem_cons_of_mem _ (List.mem_cons_of_mem _ hw))) (hat w hw)
  have hk' : (Cond.classLink own ik cls).before args s' = true := vx_ot_at hW0 hvm.symm (hgood _ List.mem_cons_self) hk
  have hini' : (Cond.initialized cls).before args s' = true := vx_ot_at hW0 hvm.symm (hgood _ (List.mem_cons_of_mem _ List.mem_cons_self)) hini
  have hU' : vx_Zq Bundle.tN "UNASSIGNED_STACK" Bundle.steD A s' s'.heap := by rw [hhp]; exact vx_Zq.moved hW0.alike (hU.kept hS.2.1)
  have hN' : vx_Zq Bundle.tN "SUPPRESSED_SENTINEL" Bundle.listD A s' s'.heap := by rw [hhp]; exact vx_Zq.moved hW0.alike (hN.kept hS.2.1)
  have h : ∀ w ∈ Bundle.ownAtoms own ic cls names, w.before args s' = true := vx_own hat' (vx_isRefq hU'.1) (vx_isRefq hN'.1) hU'.2.word hN'.2.word
  have hown' : s'.vm.findClass own = some m.cls := by rw [hvm]; exact hown
  have hins : (Cond.instantiable cls 6).before args s' = true := h _ (by simp [Bundle.ownAtoms])
  obtain ⟨vm₁, cX, kX, hfX, hkX, -, -, X₁, st1⟩ := Y.newCold hexec (own := own) (C := cls) (index := ik) (n := 6) hown' hk' hins hini'
    (g := F0 m pc ls rest) rfl (by rw [hb]; exact d0) (Nat.le_refl _) (Nat.le_refl _)
  generalize hT1 : (T.setVm vm₁).pushCell { cls := cX, slots := kX.instanceTypes.map defaultValue, vm := .none } = T1 at X₁ st1
  have hcat : (Value.ref T.heap.size).category = 1 := rfl
  have hcellA : T1.heap[T.heap.size]? = some (freshCell cX kX) := by rw [← hT1]; exact State.heap_pushCell_size _ _
  have d3' : decode c.code (pc + 3) = .ok (.dup, 1) := by rw [hb]; exact d3
  have d4' : decode c.code (pc + 4) = .ok (.ldc_w is, 3) := by rw [hb]; exact d4
  have hstr' : vk_R own is text sa s' := vk_R.warm hW0 hstr
  obtain ⟨U, hsteps, hrun, hend, hW, hsame, ce, hce, hO⟩ := X₁.ctorThrowS hexec htr (own := own) (cls := cls) (names := names) (ic := ic) hown' hcls hnames h (fun x hx => nomatch hx) hfX hkX hcellA (by rw [hhp, hT]; exact Nat.le_refl _) (msg := .ref sa) rfl
    (g := { method := m, pc := pc + 7, locals := ls, stack := .ref sa :: .ref T.heap.size :: .ref T.heap.size :: rest, locked := none }) rfl hsize rfl rfl (rest := rest) rfl
    (by rw [hb]; exact d7) (by rw [hb]; exact d10) hout hRframes (by simp only [List.map_cons, List.sum_cons, hcat]; omega) hlocks
  obtain ⟨f1, f2⟩ := vx_frame hsame
  rw [hhp] at f1 f2
  have hWs : s.WarmedH U.vm := State.WarmedH.trans hW0 hW
  have hcl : s.vm.findClass cls = some ce.cls := by
    have h9 := hO.cls
    rw [hvm] at h9
    exact h9
  have hall : s.sameButNew ({ U with vm := s.vm } : State) locs mc ms := by
    subst hA
    obtain ⟨e1, e2⟩ := hsame
    rw [State.setFrames_setFrames] at e1
    have h2 : (T.setVm s.vm).sameButNew ({ U with vm := s.vm } : State) [] (0 + 1) (0 + 6) := ⟨e1, e2⟩
    have h3 := X.same.trans h2
    rw [List.append_nil] at h3
    exact h3.mono hc hs
  refine ⟨U, ?_, .threw T.heap.size, hrun, hend, Or.inr ⟨T.heap.size, rfl, cls, ce, locs, hx U hWs.alike f1 (fun q hq => f2 q hq (fun z hz => nomatch hz)), hce, hO.vm, hcl, hWs, hall, hf⟩⟩
  refine st1 _ ?_
  show Steps p.tables e below (T1.setTop { method := m, pc := pc + 3, locals := ls, stack := .ref T.heap.size :: rest, locked := none }) _
  jvm_step X₁.here [X₁.here.top, hexec, d3', Value.category]
  exact X₁.ldcStringW hexec (own := own) (text := text) (index := is) (a := sa) hown' hstr'.1 hstr'.2
    (g := { method := m, pc := pc + 4, locals := ls, stack := .ref T.heap.size :: .ref T.heap.size :: rest, locked := none }) rfl d4' _ hsteps
end Ends
section Bodies
variable {l : Launch}
theorem vx_ofW {y : MethodName} {ws ws' : List Cond} {rm : Room} {Pc : Array Value → State → Prop} {Qc : Array Value → State → Outcome → State → Prop} {XC : String → State → State → Prop} {mc ms : Nat} {free : Addr → Prop} {cc : ByteArray} {maxL : Nat} {ret : Option FieldType}
    (hy : plainName y.cls = true) (hw : ws = Cond.code y cc maxL ret :: ws')
    (body : ∀ p e s m args below meth c s₁, BodyLoose p l y (headSpec ws rm) cc maxL ret e s m args below meth c s₁ → c.maxLocals = maxL → (∀ x ∈ c.exceptionTable.toList, False) → Pc args s →
      W p l e (headSpec ws rm).room s m args below meth c s.heap [] 0 0 (vx_MQ below Qc XC args s mc ms free) (entryFrame m args maxL)) : vx_Met l y ws rm Pc Qc XC mc ms free := by
  refine MetFree.of_bodyS (code := cc) (maxLocals := maxL) (ret := ret) hy ?_ ?_
  · intro args s m h hn
    obtain ⟨meth, c, h1, h2, h3, h4, h5, h6, -, -⟩ := Cond.code_spec hn (atoms_spec (ws := ws) h _ (by rw [hw]; exact List.mem_cons_self))
    exact ⟨meth, c, h1, h2, h3, h4, h5, h6⟩
  · intro p e s m args below meth c s₁ B hml hP _
    have hh0 : s₁.heap = s.heap := by rw [B.state]; rfl
    have ht : ∀ x ∈ c.exceptionTable.toList, False := by
      obtain ⟨meth9, c9, h1, h2, -, -, -, -, h7, -⟩ := Cond.code_spec B.named (atoms_spec (ws := ws) B.pre _ (by rw [hw]; exact List.mem_cons_self))
      cases Option.some.inj (h1.symm.trans B.method)
      cases Option.some.inj (h2.symm.trans (Stand.of_body B).code)
      intro x hx
      rw [Array.isEmpty_iff.mp h7] at hx
      cases hx
    obtain ⟨t, a1, o, b1, b2, b3⟩ := body p e s m args below meth c s₁ B hml ht hP s₁ hh0 (Stand.of_body B)
    exact ⟨t, o, a1, b1, b2, b3⟩
/-- the table of a body with handlers -/
theorem vx_table {p : Program} {x y : MethodName} {S : Spec} {cc bytes : ByteArray} {maxL maxL' : Nat} {ret ret' : Option FieldType} {e : Env} {s s₁ : State} {m : MethodId} {args : Array Value} {below : List Frame} {meth : Method} {c : Code} {hh : List (Nat × Nat × Nat × Nat)}
    (B : BodyLoose p l y S cc maxL ret e s m args below meth c s₁) (h : (Cond.codeWith y bytes maxL' ret' hh).before args s = true) : c.exceptionTable.toList = tableOf hh := by
  obtain ⟨m9, meth9, c9, hn9, h1, h2, -, -, h6, -⟩ := Cond.codeWith_spec h
  cases Option.some.inj (hn9.symm.trans B.named)
  cases Option.some.inj (h1.symm.trans B.method)
  cases Option.some.inj (h2.symm.trans (Stand.of_body B).code)
  rw [← h6, table_eq]
end Bodies
end VXA
/-! ===== END ===== -/
/-! ===== BEGIN a static call of a method with an exception table ===== -/
section VXS
variable {p : Program} {l : Launch} {e : Env} {R : Room} {s : State} {m : MethodId} {args : Array Value} {below : List Frame} {meth : Method} {c : Code} {T : State} {H : Heap} {locs : List Loc} {cells slots : Nat}
abbrev vx_CSW (R : Room) (s : State) (args : Array Value) (own : String) (index : Nat) (y : MethodName) (bytes : ByteArray) (maxL : Nat) (ret : Option FieldType) (hh : List (Nat × Nat × Nat × Nat)) (ws : List Cond) (rm : Room) (mc ms n : Nat) : Prop :=
  (rm.cells = mc ∧ rm.slots = ms ∧ rm.frames + 1 ≤ R.frames ∧ 8 + (maxL + 11) + rm.locals ≤ R.locals ∧ (∀ w ∈ ws, ∀ (a' : Array Value) (U : State), s.WarmedH U.vm → w.before a' U = true) ∧ Cond.codeWith y bytes maxL ret hh ∈ ws) ∧
  (Cond.codeWith y bytes maxL ret hh).before args s = true ∧ (Cond.initialized y.cls).before args s = true ∧ (y.cls ≠ "java/lang/invoke/MethodHandle" ∧ y.cls ≠ "java/lang/invoke/VarHandle") ∧
  (∀ sig, parseMethodDescriptor y.desc = some sig → n = sig.parameters.length) ∧ (Cond.methodLink own index y).before args s = true ∧ (Cond.static y).before args s = true
theorem vx_cwSW {own : String} {index maxL mc ms : Nat} {y : MethodName} {bytes : ByteArray} {ret : Option FieldType} {hh : List (Nat × Nat × Nat × Nat)} {Ts ws ws' : List Cond} {rm : Room} (n : Nat) (ht : ∀ w ∈ Ts, w.before args s = true) (hT : GoodIn Ts (va_wsS own index y ws)) (hw : ws = Cond.codeWith y bytes maxL ret hh :: ws') (hrc : rm.cells = mc) (hrs : rm.slots = ms)
    (hd : y.cls ≠ "java/lang/invoke/MethodHandle" ∧ y.cls ≠ "java/lang/invoke/VarHandle" ∧ (parseMethodDescriptor y.desc).map (fun d => d.parameters.length) = some n) (hR : rm.frames + 1 ≤ R.frames ∧ 8 + (maxL + 11) + rm.locals ≤ R.locals) :
    vx_CSW R s args own index y bytes maxL ret hh ws rm mc ms n := by
  have ok : ∀ w ∈ va_wsS own index y ws, w.before args s = true := fun w h => ht w (hT w h).1
  have hG : GoodIn Ts ws := fun w h => hT w (by unfold va_wsS; exact List.mem_append_right _ h)
  have hc : Cond.codeWith y bytes maxL ret hh ∈ ws := by rw [hw]; exact List.mem_cons_self
  refine ⟨⟨hrc, hrs, hR.1, hR.2, pay_in ht hG, hc⟩, ht _ (hG _ hc).1, ok _ (by simp [va_wsS]), ⟨hd.1, hd.2.1⟩, fun sig h => ?_, ok _ (by simp [va_wsS]), ok _ (by simp [va_wsS])⟩
  have h2 := hd.2.2
  rw [h] at h2
  exact (Option.some.inj h2).symm
theorem vx_callSW (X : Stand p l e R s m args below meth c T locs cells slots) (hexec : p.tables.exec = Jvm.exec) {own : String} {index : Nat} {y : MethodName} {bytes : ByteArray} {maxL : Nat} {ret : Option FieldType} {hh : List (Nat × Nat × Nat × Nat)}
    (hown : s.vm.findClass own = some m.cls) (hlink : (Cond.methodLink own index y).before args s = true) (hstat : (Cond.static y).before args s = true) (hinit : (Cond.initialized y.cls).before args s = true)
    (hcode : (Cond.codeWith y bytes maxL ret hh).before args s = true) (hy : y.cls ≠ "java/lang/invoke/MethodHandle" ∧ y.cls ≠ "java/lang/invoke/VarHandle")
    {W9 : Nat} {Pre : Pt → Array Value → Prop} {Post : Pt → Array Value → Option Value → Pt → Prop} (hK : Back l R p e below s args y 3 W9 Pre Post)
    {g : JFrame} (hg : g.method = m) (hsize : g.locals.size = c.maxLocals) {argsL rest : List Value} (hlen : ∀ sig, parseMethodDescriptor y.desc = some sig → argsL.length = sig.parameters.length)
    (hstack : g.stack = argsL.reverse ++ rest) (hW : 2 * g.monitorRoom + (rest.map fun v => v.category).sum ≤ W9) (hdg : decode c.code g.pc = .ok (.invokestatic index, 3))
    (hpre : ∀ vm₁, s.WarmedH vm₁ → Pre ⟨T.setVm vm₁, locs, cells, slots⟩ argsL.toArray) :
    ∃ (v : Option Value) (vm₁ : Vm) (B : Pt), s.WarmedH vm₁ ∧ Stand p l e R s m args below meth c B.U B.locs B.cells B.slots ∧ Post ⟨T.setVm vm₁, locs, cells, slots⟩ argsL.toArray v B ∧
      ∀ target, Steps p.tables e below (B.U.setTop { g with pc := g.pc + 3, stack := v.toList ++ rest }) target → Steps p.tables e below (T.setTop g) target := by
  obtain ⟨mk, methM, cM, hnamed, hmethM, -, -, -, -, -, -, hsigM⟩ := Cond.codeWith_spec hcode
  have hstatic : methM.isStatic = true := Cond.static_spec hnamed hmethM hstat
  obtain ⟨kP, hkP, -⟩ := className_of_methodNamed hnamed
  have hinitP : kP.init = .initialized := Cond.initialized_spec (findClass_of_methodNamed hnamed) hkP hinit
  obtain ⟨vm₁, X₁, hstep₁⟩ := X.invokestatic hexec hown hlink hnamed hmethM hstatic hkP hinitP hy (g := g) hg (argsL := argsL) (rest := rest) (hlen _ hsigM) hstack hdg
  obtain ⟨v, B, X', hpost, hsteps⟩ := hK m meth c ⟨T.setVm vm₁, locs, cells, slots⟩ { g with stack := rest } (.invokestatic index) mk argsL.toArray X₁ hg hsize hdg hW (X₁.named hnamed) (hpre vm₁ X₁.warmed)
  exact ⟨v, vm₁, B, X₁.warmed, X', hpost, fun target h => hstep₁ _ fun acts => by rw [doInvoke_state]; exact hsteps.trans h⟩
theorem vx_runSW {y : MethodName} {bytes cc : ByteArray} {maxL nL mc ms n index : Nat} {ret : Option FieldType} {hh : List (Nat × Nat × Nat × Nat)} {ws : List Cond} {rm : Room} {Pc : Array Value → State → Prop} {Qc : Array Value → State → Outcome → State → Prop} {free : Addr → Prop} {Ts : List Cond} {own : String} {As rest : List Value} {g : JFrame}
    (S : CallFix p m c cc nL s args Ts own) (hM : Met l y ws rm Pc Qc mc ms free) (cw : vx_CSW R s args own index y bytes maxL ret hh ws rm mc ms n) (hp : PreS s H Pc As)
    (hg : g.method = m) (hn : As.length = n) (hsize : g.locals.size = nL) (hstack : g.stack = As.reverse ++ rest) (hW : 2 * g.monitorRoom + (rest.map fun v => v.category).sum ≤ 8) (hdg : decode cc g.pc = .ok (.invokestatic index, 3)) (hf : cells + mc ≤ R.cells ∧ slots + ms ≤ R.slots) :
    va_Run p l e R s m args below meth c H locs cells slots mc ms g rest (Qc As.toArray) (free) := by
  obtain ⟨⟨hrc, hrs, hfr, hlo, hws, hcw⟩, hcode, hini, hy, hlen, hl, hstt⟩ := cw
  have hK : Back l R p e below s args y 3 8 (PreOf R mc ms Pc) (PostOf Qc mc ms free) := va_backW (hh := hh) (bytes := bytes) (maxL := maxL) (ret := ret) hM hp.1 hrc hrs hfr hlo hws hcw (fun a' U hW => word_at hW (Or.inl (by first | rfl | simp [Cond.onTables, Cond.keeps, Cond.steady])) hini)
  obtain ⟨hx, hb, hml, ho, -⟩ := S
  intro T hT X
  obtain ⟨v, vm₁, ⟨U', l2, c2, s2⟩, hW₁, X', ⟨g', mk, t, L, e1, e2, hq, h1, hL, h2, h3⟩, st⟩ := vx_callSW X hx (hh := hh) (bytes := bytes) (maxL := maxL) (ret := ret) ho hl hstt hini hcode hy hK hg (hsize.trans hml.symm) (argsL := As) (rest := rest) (fun sig h => hn.trans (hlen sig h)) hstack hW (by rw [hb]; exact hdg)
    (fun vm₁ hW₁ => ⟨hf.1, hf.2, hp.2 (T.setVm vm₁) hT hW₁⟩)
  dsimp only [Pt.U, Pt.locs, Pt.cells, Pt.slots] at X' e1 e2 h1 h2 h3 st
  subst h1; subst h2; subst h3
  exact ⟨v, (T.setVm vm₁).calling g' mk As.toArray, t, U', L, hT, X', hL, e1, e2, hq, st⟩
/-- not caught here, past rows that name other classes: it goes on to the caller -/
theorem vx_outP {p : Program} {l : Launch} {e : Env} {R : Room} {s : State} {m : MethodId} {args : Array Value} {below : List Frame} {meth : Method} {c : Code} {H : Heap} {locs : List Loc} {cells slots : Nat} {free : Addr → Prop} {ls : Array Slot} {rest : List Value} {Qc : Array Value → State → Outcome → State → Prop} {XC : String → State → State → Prop}
    {pc : Nat} {own E : String} {ce : Cell} {q : Addr} {mc ms : Nat} (hown : s.vm.findClass own = some m.cls) (hlocks : meth.locks = false)
    (hpass : ∀ z ∈ c.exceptionTable.toList, covers z pc = false ∨ (z.catchType ≠ 0 ∧ ∃ nm : String, (Cond.classLink own z.catchType nm).before args s = true ∧ va_Nc E nm s)) (hcell : H[q]? = some ce) (hv : ce.vm = .none) (hcl : s.vm.findClass E = some ce.cls)
    (hx : ∀ t : State, t.heap = H → s.vm.Alike t.vm → XC E s t) (hf : ∀ z ∈ locs, free z.base) (hc : cells ≤ mc) (hs : slots ≤ ms) :
    vx_W p l e R s m args below meth c H locs cells slots (vx_MQ below Qc XC args s mc ms free) (F0 m pc ls rest) q := by
  intro T hT X
  have hpl : e.platform.magicAccessors = ({} : Platform).magicAccessors := by rw [X.admits.platform]
  obtain ⟨vm', hW', X', st⟩ := X.outThrough hlocks q (g := F0 m pc ls rest) rfl rfl rfl (cell := ce) (by rw [hT]; exact hcell) (by rw [hv]; rfl)
    (by obtain ⟨k9, h9, -⟩ := Vm.findClass_spec hcl; exact ⟨k9, h9⟩) (fun z hz => by
      rcases hpass z hz with h | ⟨hz0, nm, hl1, hn1⟩
      · exact Or.inl h
      · obtain ⟨c6, hc6, hcl6⟩ := Cond.classLink_spec hown hl1 e.platform hpl
        obtain ⟨a8, b8, h1, h2, h3⟩ := hn1
        cases Option.some.inj (h1.symm.trans hcl)
        cases Option.some.inj (h2.symm.trans hc6)
        exact Or.inr ⟨hz0, _, hcl6, h3⟩)
  obtain ⟨g₀, hfr⟩ := X'.frames_eq
  have hcell9 : ((T.setVm vm').setFrames (.throwing q :: below)).heap[q]? = some ce := by
    show T.heap[q]? = some ce
    rw [hT]; exact hcell
  have hend : Ended ((T.setVm vm').setFrames (.throwing q :: below)) below (.threw q) := State.frames_setFrames _ (State.cur_lt_of_frames hfr)
  refine ⟨(T.setVm vm').setFrames (.throwing q :: below), ?_, .threw q, X'.here.running, hend, Or.inr ⟨q, rfl, E, ce, locs, hx _ hT (X'.ends _).1.alike, hcell9, hv, hcl, (X'.ends _).1, (X'.ends _).2.mono hc hs, hf⟩⟩
  rw [X.pushThrowing_eq]
  exact st
end VXS
/-! ===== END ===== -/
/-! ===== BEGIN methods with a table of their own: called by a name, returning or throwing ===== -/
section VXH
/-! vx_backW, vx_callVX, vx_callSX, vx_callVW, vx_runVW, vx_runVX, vx_runSX, vx_ofWH follow the same proofs as their sisters above (Free/Laws.lean, Shelf42/LK1.lean); vx_outP calls Shelf42/NT130.lean (outThrough). -/
section
variable {l : Launch} {R : Room} {p : Program} {e : Env} {below : List Frame} {s : State} {sargs : Array Value} {y : MethodName} {len W9 : Nat}
theorem vx_backW {ws : List Cond} {rm : Room} {Pc : Array Value → State → Prop} {Qc : Array Value → State → Outcome → State → Prop} {XC : String → State → State → Prop} {mc ms : Nat} {free : Addr → Prop} {bytes : ByteArray} {maxL : Nat} {ret : Option FieldType} {hh : List (Nat × Nat × Nat × Nat)}
    (hM : vx_Met l y ws rm Pc Qc XC mc ms free) (hblind : FrameBlind Pc) (hrc : rm.cells = mc) (hrs : rm.slots = ms)
    (hframes : rm.frames + 1 ≤ R.frames) (hlocals : W9 + (maxL + 11) + rm.locals ≤ R.locals)
    (hws : ∀ w ∈ ws, ∀ a' U, s.WarmedH U.vm → w.before a' U = true) (hcode : Cond.codeWith y bytes maxL ret hh ∈ ws) (hinit : ∀ a' U, s.WarmedH U.vm → (Cond.initialized y.cls).before a' U = true) :
    vx_Back l R p e below s sargs y len W9 (PreOf R mc ms Pc) (PostOf Qc mc ms free) (vx_Post XC mc ms free) := by
  intro m meth c A g ig mk a X hg hsize hdg hW hn hp
  have h1 : (headSpec ws rm).pre.before a A.U = true := atoms_intro fun w hw => hws w hw _ _ X.warmed
  have h2 : (Cond.codeWith y bytes maxL ret hh).before a A.U = true := hws _ hcode _ _ X.warmed
  have h3 : (Cond.initialized y.cls).before a A.U = true := hinit _ _ X.warmed
  have h4 : A.cells + (headSpec ws rm).room.cells ≤ R.cells := by rw [show (headSpec ws rm).room.cells = mc from hrc]; exact hp.1
  have h5 : A.slots + (headSpec ws rm).room.slots ≤ R.slots := by rw [show (headSpec ws rm).room.slots = ms from hrs]; exact hp.2.1
  have hPc : Pc a (A.U.calling g mk a) := hblind _ _ _ _ hp.2.2
  obtain ⟨U, Ls, c0, s0⟩ := A
  dsimp only [Pt.U, Pt.locs, Pt.cells, Pt.slots] at h1 h2 h3 h4 h5 X hn hPc ⊢
  obtain ⟨m9, methY, cY, hn9, hmY, hcY, -, hlY, -⟩ := Cond.codeWith_spec h2
  cases Option.some.inj (hn9.symm.trans hn)
  obtain ⟨kY, hkY, -⟩ := className_of_methodNamed hn
  have hinitY : kY.init = .initialized := Cond.initialized_spec (findClass_of_methodNamed hn) hkY h3
  have h : At U g.method c below := by rw [hg]; exact X.here
  have hlocals9 : W9 + (maxL + 11) + (headSpec ws rm).room.locals ≤ R.locals := hlocals
  have happ : (headSpec ws rm).appliesLoose y e.platform (U.calling g mk a) = true :=
    Spec.appliesLoose_calling (g := g) h hdg hn hkY hinitY
      (X.room_calling (g := g) (R' := (headSpec ws rm).room) hsize hmY hcY hframes (by rw [hlY]; omega) h4 h5) h1
  obtain ⟨mid, hmid⟩ := h.above
  have hfr : (U.setTop g).frames = (.java g :: mid) ++ below := by rw [State.frames_setTop' g h.top, hmid]; rfl
  obtain ⟨o, s₂, hsteps, -, hend, hq⟩ := Steps.callFree hM p X.admits X.cas X.clock (acts := []) hfr happ hPc trivial
  have hq' : vx_Q Qc XC mc ms free a (U.calling g mk a) o s₂ := hq
  rw [State.frames_setTop' g h.top] at hend
  obtain ⟨g₀, hg0⟩ := Option.isSome_iff_exists.mp h.top
  obtain ⟨r, hr⟩ := State.topJava?_eq_some.mp hg0
  have hr' : (({ U with heap := s₂.heap, slotsUsed := s₂.slotsUsed } : State).setVm s₂.vm).frames = .java g₀ :: r := hr
  rcases hq' with ⟨hqc, L, hfe, hL⟩ | ⟨q, rfl, E, ce, L, hx, hce, hcv, hcl, hW₂, hsm, hL⟩
  · obtain ⟨⟨v, rfl⟩, hW₂, e2, q2, q3, q4, q5, q6⟩ := id hfe
    have e3 : s₂ = ({ (U.calling g mk a).setFrames s₂.frames with heap := s₂.heap, slotsUsed := s₂.slotsUsed } : State).setVm s₂.vm := by
      have : s₂ = ({ s₂ with vm := (U.calling g mk a).vm } : State).setVm s₂.vm := rfl
      rw [e2] at this
      exact this
    obtain ⟨c₂, i₂, len₂, hc₂, hd₂, hf₂⟩ := hend
    have hW' : U.WarmedH s₂.vm := hW₂
    have hcc : c₂ = c := by
      have h1 : s₂.code? g.method = U.code? g.method := by
        rw [State.code?_eq, State.code?_eq, hW'.alike.method?]
      exact Option.some.inj (hc₂.symm.trans (h1.trans h.code))
    subst hcc
    have hlen : len₂ = len := by rw [hdg] at hd₂; cases hd₂; rfl
    subst hlen
    have hs₂ : s₂ = (({ U with heap := s₂.heap, slotsUsed := s₂.slotsUsed } : State).setVm s₂.vm).setTop { g with pc := g.pc + len₂, stack := v.toList ++ g.stack } := by
      refine e3.trans ?_
      rw [hf₂, State.calling_eq h.top, State.setFrames_setFrames, State.setTop_of_frames _ hr', hr]
      rfl
    have hsame : U.sameButNew ({ U with heap := s₂.heap, slotsUsed := s₂.slotsUsed } : State) L mc ms := by
      refine ⟨?_, q2, q3, q4, q5, q6⟩
      obtain ⟨t, ht, -⟩ := State.frames_cons hr
      show ({ U with heap := s₂.heap, slotsUsed := s₂.slotsUsed } : State) = { U.setFrames U.frames with heap := s₂.heap, slotsUsed := s₂.slotsUsed }
      rw [State.setFrames_self ht]
    subst hg
    refine Or.inl ⟨v, ⟨(({ U with heap := s₂.heap, slotsUsed := s₂.slotsUsed } : State).setVm s₂.vm), Ls ++ L, c0 + mc, s0 + ms⟩,
      ⟨X.admits, X.cas, X.clock, X.frames, X.room, X.hears, X.method, X.code, (X.here.setHeapUsed s₂.heap s₂.slotsUsed).setVm hW'.alike, X.tail, State.WarmedH.trans X.warmed hW', X.limits, X.bytes, X.same.trans (hsame.setVm s.vm)⟩,
      ⟨g, mk, s₂, L, rfl, rfl, hqc, rfl, hL, rfl, rfl⟩, ?_⟩
    show Steps p.tables e below _ ((({ U with heap := s₂.heap, slotsUsed := s₂.slotsUsed } : State).setVm s₂.vm).setTop { g with pc := g.pc + len₂, stack := v.toList ++ g.stack })
    rw [← hs₂]
    exact hsteps
  · obtain ⟨e2, q2, q3, q4, q5, q6⟩ := id hsm
    have e3 : s₂ = ({ (U.calling g mk a).setFrames s₂.frames with heap := s₂.heap, slotsUsed := s₂.slotsUsed } : State).setVm s₂.vm := by
      have : s₂ = ({ s₂ with vm := (U.calling g mk a).vm } : State).setVm s₂.vm := rfl
      rw [e2] at this
      exact this
    have hf₂ : s₂.frames = .throwing q :: .java g :: U.frames.tail := hend
    have hW' : U.WarmedH s₂.vm := hW₂
    have hs₂ : s₂ = ((({ U with heap := s₂.heap, slotsUsed := s₂.slotsUsed } : State).setVm s₂.vm).setTop g).pushFrame (.throwing q) := by
      refine e3.trans ?_
      rw [hf₂, State.calling_eq h.top, State.setFrames_setFrames, State.pushFrame, State.frames_setTop _ hr', State.setTop_of_frames _ hr', State.setFrames_setFrames, hr]
      rfl
    have hsame : U.sameButNew ({ U with heap := s₂.heap, slotsUsed := s₂.slotsUsed } : State) L mc ms := by
      refine ⟨?_, q2, q3, q4, q5, q6⟩
      obtain ⟨t, ht, -⟩ := State.frames_cons hr
      show ({ U with heap := s₂.heap, slotsUsed := s₂.slotsUsed } : State) = { U.setFrames U.frames with heap := s₂.heap, slotsUsed := s₂.slotsUsed }
      rw [State.setFrames_self ht]
    subst hg
    refine Or.inr ⟨q, ⟨(({ U with heap := s₂.heap, slotsUsed := s₂.slotsUsed } : State).setVm s₂.vm), Ls ++ L, c0 + mc, s0 + ms⟩,
      ⟨X.admits, X.cas, X.clock, X.frames, X.room, X.hears, X.method, X.code, (X.here.setHeapUsed s₂.heap s₂.slotsUsed).setVm hW'.alike, X.tail, State.WarmedH.trans X.warmed hW', X.limits, X.bytes, X.same.trans (hsame.setVm s.vm)⟩,
      ⟨g, mk, s₂, L, E, ce, rfl, rfl, hx, hce, hcv, hcl, rfl, hL, rfl, rfl⟩, ?_⟩
    show Steps p.tables e below _ (((({ U with heap := s₂.heap, slotsUsed := s₂.slotsUsed } : State).setVm s₂.vm).setTop g).pushFrame (.throwing q))
    rw [← hs₂]
    exact hsteps
end
variable {p : Program} {l : Launch} {e : Env} {R : Room} {s : State} {m : MethodId} {args : Array Value} {below : List Frame} {meth : Method} {c : Code} {T : State} {H : Heap} {locs : List Loc} {cells slots : Nat}
theorem vx_callVX (X : Stand p l e R s m args below meth c T locs cells slots) (hexec : p.tables.exec = Jvm.exec) {own C : String} {index : Nat} {y : MethodName} {bytes : ByteArray} {maxL : Nat} {ret : Option FieldType} {hh : List (Nat × Nat × Nat × Nat)}
    (hown : s.vm.findClass own = some m.cls) (hlink : (Cond.methodLink own index y).before args s = true) (hinst : (Cond.instanceMethod y).before args s = true) (hsel : (Cond.selects C y y).before args s = true)
    (hcode : (Cond.codeWith y bytes maxL ret hh).before args s = true) (hy : y.cls ≠ "java/lang/invoke/MethodHandle" ∧ y.cls ≠ "java/lang/invoke/VarHandle")
    {W9 : Nat} {Pre : Pt → Array Value → Prop} {Post : Pt → Array Value → Option Value → Pt → Prop} {PostX : Pt → Array Value → Addr → Pt → Prop} (hK : vx_Back l R p e below s args y 3 W9 Pre Post PostX)
    {b : Addr} {cellB : Cell} (hcell : T.heap[b]? = some cellB) (hobj : cellB.vm.isStatics = false) (hcls : s.vm.findClass C = some cellB.cls)
    {g : JFrame} (hg : g.method = m) (hsize : g.locals.size = c.maxLocals) {argsL rest : List Value} (hlen : ∀ sig, parseMethodDescriptor y.desc = some sig → argsL.length = sig.parameters.length)
    (hstack : g.stack = argsL.reverse ++ .ref b :: rest) (hW : 2 * g.monitorRoom + (rest.map fun v => v.category).sum ≤ W9) (hdg : decode c.code g.pc = .ok (.invokevirtual index, 3))
    (hpre : ∀ vm₁, s.WarmedH vm₁ → Pre ⟨T.setVm vm₁, locs, cells, slots⟩ (Value.ref b :: argsL).toArray) :
    (∃ (v : Option Value) (vm₁ : Vm) (B : Pt), s.WarmedH vm₁ ∧ Stand p l e R s m args below meth c B.U B.locs B.cells B.slots ∧ Post ⟨T.setVm vm₁, locs, cells, slots⟩ (Value.ref b :: argsL).toArray v B ∧
      ∀ target, Steps p.tables e below (B.U.setTop { g with pc := g.pc + 3, stack := v.toList ++ rest }) target → Steps p.tables e below (T.setTop g) target) ∨
    (∃ (q : Addr) (vm₁ : Vm) (B : Pt), s.WarmedH vm₁ ∧ Stand p l e R s m args below meth c B.U B.locs B.cells B.slots ∧ PostX ⟨T.setVm vm₁, locs, cells, slots⟩ (Value.ref b :: argsL).toArray q B ∧
      Steps p.tables e below (T.setTop g) ((B.U.setTop { g with stack := rest }).pushFrame (.throwing q))) := by
  obtain ⟨mk, methM, hnamed, hmethM, hstM, habM⟩ := Cond.instanceMethod_spec hinst
  obtain ⟨m8, methM', cM, hn8, hmethM', -, -, -, -, -, -, hsigM⟩ := Cond.codeWith_spec hcode
  cases Option.some.inj (hn8.symm.trans hnamed)
  cases hmethM.symm.trans hmethM'
  obtain ⟨c2, r2, m2, q1, q2, q3, q4, kP, hkP, hkPi⟩ := Cond.selects_spec hsel
  cases hcls.symm.trans q1
  cases (State.methodFound?_of_named hnamed hy).symm.trans q2
  cases hnamed.symm.trans q3
  have hselP : selectMethod e.platform s.vm cellB.cls mk = .method mk := by rw [Launch.admits_selectMethod X.admits]; exact q4
  obtain ⟨vm₁, X₁, hstep₁⟩ := X.invokevirtual hexec hown hlink hnamed hmethM hstM hkP hkPi hy (a := b) (cell := cellB) hcell
    (fun z h => by rw [h] at hobj; cases hobj) hselP hmethM habM hkP hkPi (g := g) hg (argsL := argsL) (rest := rest) (hlen _ hsigM) hstack hdg
  rcases hK m meth c ⟨T.setVm vm₁, locs, cells, slots⟩ { g with stack := rest } (.invokevirtual index) mk (Value.ref b :: argsL).toArray X₁ hg hsize hdg hW (X₁.named hnamed) (hpre vm₁ X₁.warmed) with ⟨v, B, X', hpost, hsteps⟩ | ⟨q, B, X', hpost, hsteps⟩
  · exact Or.inl ⟨v, vm₁, B, X₁.warmed, X', hpost, fun target h => hstep₁ _ fun acts => by rw [doInvoke_state]; exact hsteps.trans h⟩
  · exact Or.inr ⟨q, vm₁, B, X₁.warmed, X', hpost, hstep₁ _ fun acts => by rw [doInvoke_state]; exact hsteps⟩
theorem vx_callSX (X : Stand p l e R s m args below meth c T locs cells slots) (hexec : p.tables.exec = Jvm.exec) {own : String} {index : Nat} {y : MethodName} {bytes : ByteArray} {maxL : Nat} {ret : Option FieldType} {hh : List (Nat × Nat × Nat × Nat)}
    (hown : s.vm.findClass own = some m.cls) (hlink : (Cond.methodLink own index y).before args s = true) (hstat : (Cond.static y).before args s = true) (hinit : (Cond.initialized y.cls).before args s = true)
    (hcode : (Cond.codeWith y bytes maxL ret hh).before args s = true) (hy : y.cls ≠ "java/lang/invoke/MethodHandle" ∧ y.cls ≠ "java/lang/invoke/VarHandle")
    {W9 : Nat} {Pre : Pt → Array Value → Prop} {Post : Pt → Array Value → Option Value → Pt → Prop} {PostX : Pt → Array Value → Addr → Pt → Prop} (hK : vx_Back l R p e below s args y 3 W9 Pre Post PostX)
    {g : JFrame} (hg : g.method = m) (hsize : g.locals.size = c.maxLocals) {argsL rest : List Value} (hlen : ∀ sig, parseMethodDescriptor y.desc = some sig → argsL.length = sig.parameters.length)
    (hstack : g.stack = argsL.reverse ++ rest) (hW : 2 * g.monitorRoom + (rest.map fun v => v.category).sum ≤ W9) (hdg : decode c.code g.pc = .ok (.invokestatic index, 3))
    (hpre : ∀ vm₁, s.WarmedH vm₁ → Pre ⟨T.setVm vm₁, locs, cells, slots⟩ argsL.toArray) :
    (∃ (v : Option Value) (vm₁ : Vm) (B : Pt), s.WarmedH vm₁ ∧ Stand p l e R s m args below meth c B.U B.locs B.cells B.slots ∧ Post ⟨T.setVm vm₁, locs, cells, slots⟩ argsL.toArray v B ∧
      ∀ target, Steps p.tables e below (B.U.setTop { g with pc := g.pc + 3, stack := v.toList ++ rest }) target → Steps p.tables e below (T.setTop g) target) ∨
    (∃ (q : Addr) (vm₁ : Vm) (B : Pt), s.WarmedH vm₁ ∧ Stand p l e R s m args below meth c B.U B.locs B.cells B.slots ∧ PostX ⟨T.setVm vm₁, locs, cells, slots⟩ argsL.toArray q B ∧
      Steps p.tables e below (T.setTop g) ((B.U.setTop { g with stack := rest }).pushFrame (.throwing q))) := by
  obtain ⟨mk, methM, cM, hnamed, hmethM, -, -, -, -, -, -, hsigM⟩ := Cond.codeWith_spec hcode
  have hstatic : methM.isStatic = true := Cond.static_spec hnamed hmethM hstat
  obtain ⟨kP, hkP, -⟩ := className_of_methodNamed hnamed
  have hinitP : kP.init = .initialized := Cond.initialized_spec (findClass_of_methodNamed hnamed) hkP hinit
  obtain ⟨vm₁, X₁, hstep₁⟩ := X.invokestatic hexec hown hlink hnamed hmethM hstatic hkP hinitP hy (g := g) hg (argsL := argsL) (rest := rest) (hlen _ hsigM) hstack hdg
  rcases hK m meth c ⟨T.setVm vm₁, locs, cells, slots⟩ { g with stack := rest } (.invokestatic index) mk argsL.toArray X₁ hg hsize hdg hW (X₁.named hnamed) (hpre vm₁ X₁.warmed) with ⟨v, B, X', hpost, hsteps⟩ | ⟨q, B, X', hpost, hsteps⟩
  · exact Or.inl ⟨v, vm₁, B, X₁.warmed, X', hpost, fun target h => hstep₁ _ fun acts => by rw [doInvoke_state]; exact hsteps.trans h⟩
  · exact Or.inr ⟨q, vm₁, B, X₁.warmed, X', hpost, hstep₁ _ fun acts => by rw [doInvoke_state]; exact hsteps⟩
theorem vx_callVW (X : Stand p l e R s m args below meth c T locs cells slots) (hexec : p.tables.exec = Jvm.exec) {own C : String} {index : Nat} {y : MethodName} {bytes : ByteArray} {maxL : Nat} {ret : Option FieldType} {hh : List (Nat × Nat × Nat × Nat)}
    (hown : s.vm.findClass own = some m.cls) (hlink : (Cond.methodLink own index y).before args s = true) (hinst : (Cond.instanceMethod y).before args s = true) (hsel : (Cond.selects C y y).before args s = true)
    (hcode : (Cond.codeWith y bytes maxL ret hh).before args s = true) (hy : y.cls ≠ "java/lang/invoke/MethodHandle" ∧ y.cls ≠ "java/lang/invoke/VarHandle")
    {W9 : Nat} {Pre : Pt → Array Value → Prop} {Post : Pt → Array Value → Option Value → Pt → Prop} (hK : Back l R p e below s args y 3 W9 Pre Post)
    {b : Addr} {cellB : Cell} (hcell : T.heap[b]? = some cellB) (hobj : cellB.vm.isStatics = false) (hcls : s.vm.findClass C = some cellB.cls)
    {g : JFrame} (hg : g.method = m) (hsize : g.locals.size = c.maxLocals) {argsL rest : List Value} (hlen : ∀ sig, parseMethodDescriptor y.desc = some sig → argsL.length = sig.parameters.length)
    (hstack : g.stack = argsL.reverse ++ .ref b :: rest) (hW : 2 * g.monitorRoom + (rest.map fun v => v.category).sum ≤ W9) (hdg : decode c.code g.pc = .ok (.invokevirtual index, 3))
    (hpre : ∀ vm₁, s.WarmedH vm₁ → Pre ⟨T.setVm vm₁, locs, cells, slots⟩ (Value.ref b :: argsL).toArray) :
    ∃ (v : Option Value) (vm₁ : Vm) (B : Pt), s.WarmedH vm₁ ∧ Stand p l e R s m args below meth c B.U B.locs B.cells B.slots ∧ Post ⟨T.setVm vm₁, locs, cells, slots⟩ (Value.ref b :: argsL).toArray v B ∧
      ∀ target, Steps p.tables e below (B.U.setTop { g with pc := g.pc + 3, stack := v.toList ++ rest }) target → Steps p.tables e below (T.setTop g) target := by
  obtain ⟨mk, methM, hnamed, hmethM, hstM, habM⟩ := Cond.instanceMethod_spec hinst
  obtain ⟨m8, methM', cM, hn8, hmethM', -, -, -, -, -, -, hsigM⟩ := Cond.codeWith_spec hcode
  cases Option.some.inj (hn8.symm.trans hnamed)
  cases hmethM.symm.trans hmethM'
  obtain ⟨c2, r2, m2, q1, q2, q3, q4, kP, hkP, hkPi⟩ := Cond.selects_spec hsel
  cases hcls.symm.trans q1
  cases (State.methodFound?_of_named hnamed hy).symm.trans q2
  cases hnamed.symm.trans q3
  have hselP : selectMethod e.platform s.vm cellB.cls mk = .method mk := by rw [Launch.admits_selectMethod X.admits]; exact q4
  obtain ⟨vm₁, X₁, hstep₁⟩ := X.invokevirtual hexec hown hlink hnamed hmethM hstM hkP hkPi hy (a := b) (cell := cellB) hcell
    (fun z h => by rw [h] at hobj; cases hobj) hselP hmethM habM hkP hkPi (g := g) hg (argsL := argsL) (rest := rest) (hlen _ hsigM) hstack hdg
  obtain ⟨v, B, X', hpost, hsteps⟩ := hK m meth c ⟨T.setVm vm₁, locs, cells, slots⟩ { g with stack := rest } (.invokevirtual index) mk (Value.ref b :: argsL).toArray X₁ hg hsize hdg hW (X₁.named hnamed) (hpre vm₁ X₁.warmed)
  exact ⟨v, vm₁, B, X₁.warmed, X', hpost, fun target h => hstep₁ _ fun acts => by rw [doInvoke_state]; exact hsteps.trans h⟩
abbrev vx_CVW (R : Room) (s : State) (args : Array Value) (own C : String) (index : Nat) (y : MethodName) (bytes : ByteArray) (maxL : Nat) (ret : Option FieldType) (hh : List (Nat × Nat × Nat × Nat)) (ws : List Cond) (rm : Room) (mc ms n : Nat) : Prop :=
  (rm.cells = mc ∧ rm.slots = ms ∧ rm.frames + 1 ≤ R.frames ∧ 8 + (maxL + 11) + rm.locals ≤ R.locals ∧ (∀ w ∈ ws, ∀ (a' : Array Value) (U : State), s.WarmedH U.vm → w.before a' U = true) ∧ Cond.codeWith y bytes maxL ret hh ∈ ws) ∧
  (Cond.codeWith y bytes maxL ret hh).before args s = true ∧ (Cond.initialized y.cls).before args s = true ∧ (y.cls ≠ "java/lang/invoke/MethodHandle" ∧ y.cls ≠ "java/lang/invoke/VarHandle") ∧
  (∀ sig, parseMethodDescriptor y.desc = some sig → n = sig.parameters.length) ∧ (Cond.methodLink own index y).before args s = true ∧ (Cond.instanceMethod y).before args s = true ∧ (Cond.selects C y y).before args s = true
theorem vx_runVW {y : MethodName} {bytes cc : ByteArray} {maxL nL mc ms n index : Nat} {ret : Option FieldType} {hh : List (Nat × Nat × Nat × Nat)} {ws : List Cond} {rm : Room} {Pc : Array Value → State → Prop} {Qc : Array Value → State → Outcome → State → Prop} {free : Addr → Prop} {Ts : List Cond} {own C : String} {b : Addr} {As rest : List Value} {g : JFrame}
    (S : CallFix p m c cc nL s args Ts own) (hM : Met l y ws rm Pc Qc mc ms free) (cw : vx_CVW R s args own C index y bytes maxL ret hh ws rm mc ms n) (hp : PreV s H C b Pc As)
    (hg : g.method = m) (hn : As.length = n) (hsize : g.locals.size = nL) (hstack : g.stack = As.reverse ++ .ref b :: rest) (hW : 2 * g.monitorRoom + (rest.map fun v => v.category).sum ≤ 8) (hdg : decode cc g.pc = .ok (.invokevirtual index, 3)) (hf : cells + mc ≤ R.cells ∧ slots + ms ≤ R.slots) :
    va_Run p l e R s m args below meth c H locs cells slots mc ms g rest (Qc (Value.ref b :: As).toArray) free := by
  obtain ⟨⟨hrc, hrs, hfr, hlo, hws, hcw⟩, hcode, hini, hy, hlen, hl, hin, hse⟩ := cw
  have hK : Back l R p e below s args y 3 8 (PreOf R mc ms Pc) (PostOf Qc mc ms free) := va_backW (hh := hh) (bytes := bytes) (maxL := maxL) (ret := ret) hM hp.1 hrc hrs hfr hlo hws hcw (fun a' U hW => word_at hW (Or.inl (by first | rfl | simp [Cond.onTables, Cond.keeps, Cond.steady])) hini)
  obtain ⟨hx, hb, hml, ho, -⟩ := S
  obtain ⟨-, ⟨cellB, hcB, hoB, hclB⟩, hPc⟩ := hp
  intro T hT X
  obtain ⟨v, vm₁, ⟨U', l2, c2, s2⟩, hW₁, X', ⟨g', mk, t, L, e1, e2, hq, h1, hL, h2, h3⟩, st⟩ := vx_callVW X hx (C := C) (hh := hh) (bytes := bytes) (maxL := maxL) (ret := ret) ho hl hin hse hcode hy hK (by rw [hT]; exact hcB) hoB hclB hg (hsize.trans hml.symm) (argsL := As) (rest := rest) (fun sig h => hn.trans (hlen sig h)) hstack hW (by rw [hb]; exact hdg)
    (fun vm₁ hW₁ => ⟨hf.1, hf.2, hPc (T.setVm vm₁) hT hW₁⟩)
  dsimp only [Pt.U, Pt.locs, Pt.cells, Pt.slots] at X' e1 e2 h1 h2 h3 st
  subst h1; subst h2; subst h3
  exact ⟨v, (T.setVm vm₁).calling g' mk (Value.ref b :: As).toArray, t, U', L, hT, X', hL, e1, e2, hq, st⟩
section
variable {y : MethodName} {bytes cc : ByteArray} {maxL nL mc ms n index : Nat} {ret : Option FieldType} {ws : List Cond} {rm : Room} {Pc : Array Value → State → Prop} {Qc : Array Value → State → Outcome → State → Prop} {XC : String → State → State → Prop} {free : Addr → Prop} {Ts : List Cond} {own C : String} {b : Addr} {As rest : List Value} {g : JFrame}
theorem vx_runVX {hh : List (Nat × Nat × Nat × Nat)} (S : CallFix p m c cc nL s args Ts own) (hM : vx_Met l y ws rm Pc Qc XC mc ms free) (cw : vx_CVW R s args own C index y bytes maxL ret hh ws rm mc ms n) (hp : PreV s H C b Pc As)
    (hg : g.method = m) (hn : As.length = n) (hsize : g.locals.size = nL) (hstack : g.stack = As.reverse ++ .ref b :: rest) (hW : 2 * g.monitorRoom + (rest.map fun v => v.category).sum ≤ 8) (hdg : decode cc g.pc = .ok (.invokevirtual index, 3)) (hf : cells + mc ≤ R.cells ∧ slots + ms ≤ R.slots) :
    vx_Run p l e R s m args below meth c H locs cells slots mc ms g rest (Qc (Value.ref b :: As).toArray) XC free := by
  obtain ⟨⟨hrc, hrs, hfr, hlo, hws, hcw⟩, hcode, hini, hy, hlen, hl, hin, hse⟩ := cw
  have hK : vx_Back l R p e below s args y 3 8 (PreOf R mc ms Pc) (PostOf Qc mc ms free) (vx_Post XC mc ms free) := vx_backW (hh := hh) (bytes := bytes) (maxL := maxL) (ret := ret) hM hp.1 hrc hrs hfr hlo hws hcw (fun a' U hW => word_at hW (Or.inl (by first | rfl | simp [Cond.onTables, Cond.keeps, Cond.steady])) hini)
  obtain ⟨hx, hb, hml, ho, -⟩ := S
  obtain ⟨-, ⟨cellB, hcB, hoB, hclB⟩, hPc⟩ := hp
  intro T hT X
  rcases vx_callVX X hx (C := C) (hh := hh) (bytes := bytes) (maxL := maxL) (ret := ret) ho hl hin hse hcode hy hK (by rw [hT]; exact hcB) hoB hclB hg (hsize.trans hml.symm) (argsL := As) (rest := rest) (fun sig h => hn.trans (hlen sig h)) hstack hW (by rw [hb]; exact hdg)
    (fun vm₁ hW₁ => ⟨hf.1, hf.2, hPc (T.setVm vm₁) hT hW₁⟩) with ⟨v, vm₁, ⟨U', l2, c2, s2⟩, hW₁, X', ⟨g', mk, t, L, e1, e2, hq, h1, hL, h2, h3⟩, st⟩ | ⟨q, vm₁, ⟨U', l2, c2, s2⟩, hW₁, X', ⟨g', mk, t, L, E, ce, e1, e2, hq, hce, hcv, hcl, h1, hL, h2, h3⟩, st⟩
  · dsimp only [Pt.U, Pt.locs, Pt.cells, Pt.slots] at X' e1 e2 h1 h2 h3 st
    subst h1; subst h2; subst h3
    exact Or.inl ⟨v, (T.setVm vm₁).calling g' mk (Value.ref b :: As).toArray, t, U', L, hT, X', hL, e1, e2, hq, st⟩
  · dsimp only [Pt.U, Pt.locs, Pt.cells, Pt.slots] at X' e1 e2 h1 h2 h3 st hcl
    subst h1; subst h2; subst h3
    exact Or.inr ⟨q, (T.setVm vm₁).calling g' mk (Value.ref b :: As).toArray, t, U', L, E, ce, hT, X', hL, e1, e2, hq, hce, hcv, vx_cls hW₁ hcl, st⟩
theorem vx_runSX {hh : List (Nat × Nat × Nat × Nat)} (S : CallFix p m c cc nL s args Ts own) (hM : vx_Met l y ws rm Pc Qc XC mc ms free) (cw : vx_CSW R s args own index y bytes maxL ret hh ws rm mc ms n) (hp : PreS s H Pc As)
    (hg : g.method = m) (hn : As.length = n) (hsize : g.locals.size = nL) (hstack : g.stack = As.reverse ++ rest) (hW : 2 * g.monitorRoom + (rest.map fun v => v.category).sum ≤ 8) (hdg : decode cc g.pc = .ok (.invokestatic index, 3)) (hf : cells + mc ≤ R.cells ∧ slots + ms ≤ R.slots) :
    vx_Run p l e R s m args below meth c H locs cells slots mc ms g rest (Qc As.toArray) XC free := by
  obtain ⟨⟨hrc, hrs, hfr, hlo, hws, hcw⟩, hcode, hini, hy, hlen, hl, hstt⟩ := cw
  have hK : vx_Back l R p e below s args y 3 8 (PreOf R mc ms Pc) (PostOf Qc mc ms free) (vx_Post XC mc ms free) := vx_backW (hh := hh) (bytes := bytes) (maxL := maxL) (ret := ret) hM hp.1 hrc hrs hfr hlo hws hcw (fun a' U hW => word_at hW (Or.inl (by first | rfl | simp [Cond.onTables, Cond.keeps, Cond.steady])) hini)
  obtain ⟨hx, hb, hml, ho, -⟩ := S
  intro T hT X
  rcases vx_callSX X hx (hh := hh) (bytes := bytes) (maxL := maxL) (ret := ret) ho hl hstt hini hcode hy hK hg (hsize.trans hml.symm) (argsL := As) (rest := rest) (fun sig h => hn.trans (hlen sig h)) hstack hW (by rw [hb]; exact hdg)
    (fun vm₁ hW₁ => ⟨hf.1, hf.2, hp.2 (T.setVm vm₁) hT hW₁⟩) with ⟨v, vm₁, ⟨U', l2, c2, s2⟩, hW₁, X', ⟨g', mk, t, L, e1, e2, hq, h1, hL, h2, h3⟩, st⟩ | ⟨q, vm₁, ⟨U', l2, c2, s2⟩, hW₁, X', ⟨g', mk, t, L, E, ce, e1, e2, hq, hce, hcv, hcl, h1, hL, h2, h3⟩, st⟩
  · dsimp only [Pt.U, Pt.locs, Pt.cells, Pt.slots] at X' e1 e2 h1 h2 h3 st
    subst h1; subst h2; subst h3
    exact Or.inl ⟨v, (T.setVm vm₁).calling g' mk As.toArray, t, U', L, hT, X', hL, e1, e2, hq, st⟩
  · dsimp only [Pt.U, Pt.locs, Pt.cells, Pt.slots] at X' e1 e2 h1 h2 h3 st hcl
    subst h1; subst h2; subst h3
    exact Or.inr ⟨q, (T.setVm vm₁).calling g' mk As.toArray, t, U', L, E, ce, hT, X', hL, e1, e2, hq, hce, hcv, vx_cls hW₁ hcl, st⟩
end
end VXH
theorem vx_ofWH {l : Launch} {y : MethodName} {ws ws' : List Cond} {rm : Room} {Pc : Array Value → State → Prop} {Qc : Array Value → State → Outcome → State → Prop} {XC : String → State → State → Prop} {mc ms : Nat} {free : Addr → Prop} {cc : ByteArray} {maxL : Nat} {ret : Option FieldType} {hh : List (Nat × Nat × Nat × Nat)}
    (hy : plainName y.cls = true) (hw : ws = Cond.codeWith y cc maxL ret hh :: ws')
    (body : ∀ p e s m args below meth c s₁, BodyLoose p l y (headSpec ws rm) cc maxL ret e s m args below meth c s₁ → c.maxLocals = maxL → Pc args s →
      W p l e (headSpec ws rm).room s m args below meth c s.heap [] 0 0 (vx_MQ below Qc XC args s mc ms free) (entryFrame m args maxL)) : vx_Met l y ws rm Pc Qc XC mc ms free := by
  refine MetFree.of_bodyS (code := cc) (maxLocals := maxL) (ret := ret) hy ?_ ?_
  · intro args s m h hn
    obtain ⟨m9, meth, c, hn9, h1, h2, h3, h4, -, h5, h6, -⟩ := Cond.codeWith_spec (atoms_spec (ws := ws) h _ (by rw [hw]; exact List.mem_cons_self))
    cases hn.symm.trans hn9
    exact ⟨meth, c, h1, h2, h3, h4, h5, h6⟩
  · intro p e s m args below meth c s₁ B hml hP _
    have hh0 : s₁.heap = s.heap := by rw [B.state]; rfl
    obtain ⟨t, a1, o, b1, b2, b3⟩ := body p e s m args below meth c s₁ B hml hP s₁ hh0 (Stand.of_body B)
    exact ⟨t, o, a1, b1, b2, b3⟩
/-! ===== END ===== -/

end
section
/-! NoSuchElementException: its constructor names its superclass's by entry 13 (the others' by 7), so the law of a throw is told again for it, after the library's for the others (Stand.ctorThrowS), of which only what is wanted here is kept -/
abbrev nz_X : String := "java/util/NoSuchElementException"
abbrev nz_Y : String := "java/lang/RuntimeException"
def nz_rx : ByteArray := ⟨#[0x2a, 0x2b, 0xb7, 0x00, 0x0d, 0xb1]⟩
theorem nz_0 : decode nz_rx 0 = .ok (.aload_n 0, 1) := by decide +kernel
theorem nz_1 : decode nz_rx 1 = .ok (.aload_n 1, 1) := by decide +kernel
theorem nz_2 : decode nz_rx 2 = .ok (.invokespecial 13, 3) := by decide +kernel
theorem nz_5 : decode nz_rx 5 = .ok (.return_, 1) := by decide +kernel
def nz_own (own : String) (ic : Nat) : List Cond :=
  Bundle.throwableAtoms ++ Bundle.throwableSAtoms ++ (Bundle.passSAtoms nz_X nz_Y 13 nz_rx ++ Bundle.chainSAtoms nz_Y ["java/lang/Exception"]) ++
  [.methodLink own ic (Bundle.initS nz_X), .instantiable nz_X 6, .castable nz_X nz_X, .selects nz_X Bundle.tFill0 Bundle.tFill0, .selects nz_X Bundle.tFill Bundle.tFill,
   .lays nz_X Bundle.tN "cause" "Ljava/lang/Throwable;", .lays nz_X Bundle.tN "stackTrace" Bundle.steD, .lays nz_X Bundle.tN "suppressedExceptions" Bundle.listD, .lays nz_X Bundle.tN "detailMessage" "Ljava/lang/String;",
   .isRef (.static Bundle.tN "UNASSIGNED_STACK" Bundle.steD), .isRef (.static Bundle.tN "SUPPRESSED_SENTINEL" Bundle.listD),
   .fieldLink Bundle.tN 198 Bundle.tN "backtrace" "Ljava/lang/Object;", .lays Bundle.tN Bundle.tN "backtrace" "Ljava/lang/Object;", .lays nz_X Bundle.tN "backtrace" "Ljava/lang/Object;"]
def nz_at (own : String) (ic : Nat) : List Cond := (nz_own own ic).filter vx_no
section NZ
variable {p : Program} {l : Launch} {e : Env} {R : Room} {s : State} {m₀ : MethodId} {args : Array Value} {below : List Frame} {meth : Method} {c : Code} {V0 : State} {locs : List Loc} {cells slots : Nat}
set_option maxHeartbeats 2000000 in
theorem nz_ctor (X : Stand p l e R s m₀ args below meth c V0 locs cells slots) (hexec : p.tables.exec = Jvm.exec) (htr : e.platform.stackTraces = false) {own : String} {ic : Nat}
    (hown : s.vm.findClass own = some m₀.cls) (h : ∀ a ∈ nz_own own ic, a.before args s = true)
    (hlocs : ∀ x ∈ locs, ∀ cell, s.heap[x.base]? = some cell → cell.vm.isStatics = false)
    {a : Addr} {cX : ClassId} {kX : Class} (hfoundX : s.vm.findClass nz_X = some cX) (hkX : s.vm.classes[cX]? = some kX) (hcell : V0.heap[a]? = some (freshCell cX kX)) (hnew : s.heap.size ≤ a)
    {msg : Value} (hmsg : msg.isRef = true)
    {g : JFrame} (hg : g.method = m₀) (hsize : g.locals.size = c.maxLocals) (hlocked : g.locked = none) (hentered : g.entered = []) {rest : List Value} (hstack : g.stack = msg :: .ref a :: .ref a :: rest)
    (hd6 : decode c.code g.pc = .ok (.invokespecial ic, 3)) (hd9 : decode c.code (g.pc + 3) = .ok (.athrow, 1)) (hout : ∀ x ∈ c.exceptionTable.toList, covers x (g.pc + 3) = false)
    (hRframes : 2 + 3 < R.frames) (hRlocals : 2 * g.monitorRoom + ((Value.ref a :: rest).map fun v => v.category).sum + (13 * (2 + 1) + 42) ≤ R.locals) (hlocks : meth.locks = false) :
    ∃ U : State, Steps p.tables e below (V0.setTop g) U ∧ U.status = .running ∧ Ended U below (.threw a) ∧ s.WarmedH U.vm ∧ s.sameButNew ({ U with vm := s.vm } : State) locs cells slots ∧
      ∃ ce, U.heap[a]? = some ce ∧ s.vm.findClass nz_X = some ce.cls ∧ ce.vm = .none := by
  have hfX : Bundle.fit nz_X = true := by decide
  have hfY : Bundle.fit nz_Y = true := by decide
  have hnm : ∀ n ∈ ["java/lang/Exception"], Bundle.fit n = true := by decide
  have howns : e.platform.frameOwnsMonitors = true := by rw [X.admits.platform]
  have hfin : e.platform.finalization = false := by rw [X.admits.platform]
  have hpl : e.platform.magicAccessors = ({} : Platform).magicAccessors := by rw [X.admits.platform]
  have a' : ∀ x, x ∈ nz_own own ic → x.holds args s none s [] = true := fun x hx => h x hx
  obtain ⟨T, Z0, L, -, Y⟩ := ThrowableC.of_atoms (args := args) howns hfin hpl (fun x hx => h x (by simp [nz_own, hx]))
  obtain ⟨Z, M, LZ, LM, hnZ⟩ := Init0T.ofS_atoms (args := args) hpl L Y (fun x hx => h x (by simp [nz_own, hx]))
  obtain ⟨P1, L1, hP1m, hs1⟩ := PassC.ofS_atoms (args := args) (s := s) hpl (X := nz_X) (Y := nz_Y) (Bundle.fit_spec hfX).1 (Bundle.fit_spec hfY).2 nz_0 nz_1 nz_2 nz_5 (fun x hx => h x (by simp [nz_own, hx]))
  obtain ⟨P', Ps', hlen', L', hL', hm', hsup', hpass'⟩ := Bundle.chainS (args := args) hpl hnZ ["java/lang/Exception"] nz_Y hfY hnm (fun x hx => h x (by simp [nz_own, hx]))
  obtain ⟨Ps, hPs⟩ : ∃ z, z = P' :: Ps' := ⟨_, rfl⟩
  have hlen : Ps.length = 2 := by rw [hPs]; simp [hlen']
  have hL : ∀ P, P ∈ Ps → P.LinksS e.platform s := by
    intro P hP
    rw [hPs] at hP
    rcases List.mem_cons.mp hP with rfl | hP
    · exact L'
    · exact hL' P hP
  have hlink1 : P1.sup = firstOf (Z.m T.toThrowableT) (Ps.map (·.toPassT)) := by
    rw [hPs]
    exact Option.some.inj (hs1.symm.trans hm')
  have hlink : PassesOn (Z.m T.toThrowableT) (Ps.map (·.toPassT)) := by
    rw [hPs]
    exact ⟨hsup', hpass'⟩
  have hfound : s.vm.findClass nz_X = some P1.m.cls := findClass_of_methodNamed hP1m
  cases Option.some.inj (hfoundX.symm.trans hfound)
  obtain ⟨c1, kX', hc1, hk, hord, -, -, hn6⟩ := Cond.instantiable_spec (a' (.instantiable nz_X 6) (by simp [nz_own]))
  cases Option.some.inj (hc1.symm.trans hfound)
  cases Option.some.inj (hkX.symm.trans hk)
  have hsel0 : selectMethod e.platform s.vm P1.m.cls T.fill0 = .method T.fill0 := by
    obtain ⟨c2, r2, m2, q1, q2, q3, q4, -⟩ := Cond.selects_spec (a' (.selects nz_X Bundle.tFill0 Bundle.tFill0) (by simp [nz_own]))
    cases Option.some.inj (q1.symm.trans hfound)
    cases Option.some.inj (q2.symm.trans (State.methodFound?_of_named Y.fill0 (by decide)))
    cases Option.some.inj (q3.symm.trans Y.fill0)
    rw [Launch.admits_selectMethod X.admits]; exact q4
  have hselF : selectMethod e.platform s.vm P1.m.cls T.fill = .method T.fill := by
    obtain ⟨c2, r2, m2, q1, q2, q3, q4, -⟩ := Cond.selects_spec (a' (.selects nz_X Bundle.tFill Bundle.tFill) (by simp [nz_own]))
    cases Option.some.inj (q1.symm.trans hfound)
    cases Option.some.inj (q2.symm.trans (State.methodFound?_of_named Y.fill (by decide)))
    cases Option.some.inj (q3.symm.trans Y.fill)
    rw [Launch.admits_selectMethod X.admits]; exact q4
  obtain ⟨cellS0, hcS0, hiss⟩ := Y.statics
  obtain ⟨u0, hu0⟩ := Cond.staticRefV Y.unassigned L.unassignedStatic L.statics hcS0 hiss (a' (.isRef (.static Bundle.tN "UNASSIGNED_STACK" Bundle.steD)) (by simp [nz_own]))
  obtain ⟨sen, hsen⟩ := Cond.staticRefV Y.sentinel L.sentinelStatic L.statics hcS0 hiss (a' (.isRef (.static Bundle.tN "SUPPRESSED_SENTINEL" Bundle.listD)) (by simp [nz_own]))
  obtain ⟨ci198, i198, fB, hk198, hg198, ha198, hsB, -, hnB, htB, hffB⟩ := Cond.ownField (t := .object "java/lang/Object") Y.found L.cls (by decide +kernel) (a' (.fieldLink Bundle.tN 198 Bundle.tN "backtrace" "Ljava/lang/Object;") (by simp [nz_own])) (a' (.lays Bundle.tN Bundle.tN "backtrace" "Ljava/lang/Object;") (by simp [nz_own])) e.platform hpl
  obtain ⟨cellS, hcS', heS, -, hkeep⟩ := X.same.2.2.2.2.2 T.aS cellS0 hcS0
  have hcellS : V0.heap[T.aS]? = some cellS := hcS'
  have hout' : ∀ i, (⟨T.aS, i⟩ : Loc) ∉ locs := fun i hmem => by
    have := hlocs _ hmem cellS0 hcS0
    rw [hiss] at this; cases this
  have hknownS : cellS.vm ≠ .unknown := by
    rw [heS]; intro hu
    rw [show cellS0.vm = .unknown from hu] at hiss
    cases hiss
  have hneS : T.aS ≠ a := Nat.ne_of_lt (Nat.lt_of_lt_of_le (Array.getElem?_eq_some_iff.mp hcS0).1 hnew)
  obtain ⟨iM, hffM⟩ := Y.msg
  obtain ⟨tyC, dC, hdC, hdnC⟩ := Cond.laysAt hfound hk Y.cause (a' (.lays nz_X Bundle.tN "cause" "Ljava/lang/Throwable;") (by simp [nz_own]))
  obtain ⟨tyS, dS, hdS, hdnS⟩ := Cond.laysAt hfound hk Y.stack (a' (.lays nz_X Bundle.tN "stackTrace" Bundle.steD) (by simp [nz_own]))
  obtain ⟨tyP, dP, hdP, hdnP⟩ := Cond.laysAt hfound hk Y.supp (a' (.lays nz_X Bundle.tN "suppressedExceptions" Bundle.listD) (by simp [nz_own]))
  obtain ⟨tyM, dM, hdM, hdnM⟩ := Cond.laysAt hfound hk hffM (a' (.lays nz_X Bundle.tN "detailMessage" "Ljava/lang/String;") (by simp [nz_own]))
  obtain ⟨tyB, dB, hdB, hdnB⟩ := Cond.laysAt hfound hk hffB (a' (.lays nz_X Bundle.tN "backtrace" "Ljava/lang/Object;") (by simp [nz_own]))
  have bC := Cond.laysApart hdB hdC hdnB hdnC (by rw [hnB, Y.causeName]; decide)
  have bS := Cond.laysApart hdB hdS hdnB hdnS (by rw [hnB, Y.stackName]; decide)
  have bP := Cond.laysApart hdB hdP hdnB hdnP (by rw [hnB, Y.suppName]; decide)
  have hskip : SkipFacts T e.platform s (fun u => u) u0 ((preparedCellV T.toThrowableT (freshCell P1.m.cls kX) a u0 sen).withEntry V0.cur) :=
    ⟨{ ci198 := ci198, i198 := i198, fBack := fB }, ⟨hk198, hg198, ha198, hsB⟩, by
      have := fresh_default (c := P1.m.cls) tyB
      rw [htB] at this
      simpa [preparedCellV, Cell.setSlot, Cell.withEntry, Array.getElem?_setIfInBounds, bC, bS, bP, bC.symm, bS.symm, bP.symm, defaultValue] using this, fun _ _ => rfl⟩
  obtain ⟨tm, methC, cdC, kC, vm₁, hnC, -, -, -, -, -, -, -, hW₁, st1⟩ := Steps.initColdS (tb := p.tables) (e := e) (below := below) (s := s) (U := V0) X.here hexec X.warmed hpl hown (t := Bundle.initS nz_X) rfl rfl (Bundle.fit_spec hfX).2
    (a' (.methodLink own ic (Bundle.initS nz_X)) (by simp [nz_own])) (h (.instanceMethod (Bundle.initS nz_X)) (by simp [nz_own, Bundle.passSAtoms])) (bytes := nz_rx) (maxL := 2) (h (.code (Bundle.initS nz_X) nz_rx 2 none) (by simp [nz_own, Bundle.passSAtoms]))
    (f := g) hg (a := a) (msg := msg) (rest := .ref a :: rest) hstack hd6
  cases Option.some.inj (hnC.symm.trans hP1m)
  have X₁ := X.noted hW₁
  obtain ⟨vm₂, X₂, st2⟩ := X₁.ctorMessageOffV hexec (g := { g with stack := .ref a :: rest }) hg hsize T L Z LZ M LM (P1 :: Ps)
    (fun P hP => by rcases List.mem_cons.mp hP with rfl | hP; exact L1; exact hL P hP) ⟨hlink1, hlink⟩ (u0 := u0) (sen := sen) (self := a) hmsg (cell := freshCell P1.m.cls kX) (cellS := cellS)
    hcell (fun _ => by simp) (by simp) rfl rfl hsel0 hselF hcellS hneS hknownS (by rw [hkeep _ (hout' _)]; exact hu0) (by rw [hkeep _ (hout' _)]; exact hsen)
    (Takes.of_laid hk hord tyC (by rw [Y.causeType]; rfl)) (Takes.of_laid hk hord tyS (by rw [Y.stackType]; exact fits_refV_array _ u0)) (Takes.of_laid hk hord tyP (by rw [Y.suppType]; exact fits_refV_object _ sen))
    (Takes.of_laid hk hord tyM (by rw [Y.msgType]; exact fits_refV_object _ ⟨msg, hmsg⟩)) Y.objLocals hskip htr [] hd6
    (by simp only [List.length_cons, hlen]; omega) (by simp only [List.length_cons, hlen]; exact hRlocals)
  obtain ⟨hwalk, hrun, hended, hWU, hsame⟩ := X₂.athrowLeaves hexec (g := { g with stack := .ref a :: rest, pc := g.pc + 3 }) hg hlocked hentered hout (a := a) (rest := rest) rfl hd9
  have hlt : a < ((V0.setVm vm₁).setVm vm₂).heap.size := (Array.getElem?_eq_some_iff.mp hcell).1
  have hU := heapAt_setCell_self (s := (V0.setVm vm₁).setVm vm₂) (plainBareV T.toThrowableT (freshCell P1.m.cls kX) a u0 sen msg) hlt
  refine ⟨_, st1 _ (fun acts => ?_), hrun, hended, hWU, hsame.weaken (fun y hy hlt' => ?_) (Nat.le_refl _) (Nat.le_refl _), _, hU, hfound, rfl⟩
  · rw [doInvoke_state]
    exact st2 _ hwalk
  · rcases List.mem_append.mp hy with h1 | h1
    · exact h1
    · exfalso
      have hb : y.base = a := by
        simp only [List.mem_cons, List.not_mem_nil, or_false] at h1
        rcases h1 with rfl | rfl | rfl | rfl | rfl <;> rfl
      rw [hb] at hlt'
      exact Nat.not_lt.mpr hnew hlt'
end NZ
section NZE
variable {p : Program} {l : Launch} {e : Env} {R : Room} {s : State} {m : MethodId} {args : Array Value} {below : List Frame} {meth : Method} {c : Code} {H : Heap} {locs : List Loc} {cells slots : Nat} {Q : State → Prop}
variable {mc ms : Nat} {free : Addr → Prop} {A0 A1 : Nat → Prop} {H0 : Heap} {a : Array Value} {ls : Array Slot} {st0 rest : List Value}
variable {Qc : Array Value → State → Outcome → State → Prop} {XC : String → State → State → Prop}
theorem nz_throwW {cc : ByteArray} {pc : Nat} (hexec : p.tables.exec = Jvm.exec) (hb : c.code = cc) (hl : l.stackTraces = false) {own text : String} {ik is ic mc ms sa : Nat} {A : Nat → Prop}
    (hown : s.vm.findClass own = some m.cls) 
    (hk : (Cond.classLink own ik nz_X).before args s = true) (hini : (Cond.initialized nz_X).before args s = true) (hstr : vk_R own is text sa s) (hat : ∀ w ∈ nz_at own ic, w.before args s = true)
    (hgood : ∀ w ∈ Cond.classLink own ik nz_X :: Cond.initialized nz_X :: nz_at own ic, vx_ot w = true)
    (hU : vx_Zq Bundle.tN "UNASSIGNED_STACK" Bundle.steD A s s.heap) (hN : vx_Zq Bundle.tN "SUPPRESSED_SENTINEL" Bundle.listD A s s.heap) (hS : va_S A s.heap H locs) (hsize : ls.size = c.maxLocals)
    (d0 : decode cc pc = .ok (.new ik, 3)) (d3 : decode cc (pc + 3) = .ok (.dup, 1)) (d4 : decode cc (pc + 4) = .ok (.ldc_w is, 3)) (d7 : decode cc (pc + 7) = .ok (.invokespecial ic, 3)) (d10 : decode cc (pc + 10) = .ok (.athrow, 1))
    (hout : ∀ x ∈ c.exceptionTable.toList, covers x (pc + 10) = false)
    (hRframes : 2 + 3 < R.frames) (hRlocals : (rest.map fun v => v.category).sum + (13 * (2 + 1) + 43) ≤ R.locals) (hRcells : cells + 1 ≤ R.cells) (hRslots : slots + 6 ≤ R.slots) (hlocks : meth.locks = false)
    (hx : ∀ t : State, s.vm.Alike t.vm → H.size ≤ t.heap.size → (∀ q : Nat, q < H.size → t.heap[q]? = H[q]?) → XC nz_X s t)
    (hf : ∀ z ∈ locs, free z.base) (hc : cells + 1 ≤ mc) (hs : slots + 6 ≤ ms) :
    W p l e R s m args below meth c H locs cells slots (vx_MQ below Qc XC args s mc ms free) (F0 m pc ls rest) := by
  intro T hT X
  have htr : e.platform.stackTraces = false := (show e.platform.stackTraces = l.stackTraces by rw [X.admits.platform]).trans hl
  have Y := vx_rebase X (R' := { frames := R.frames, locals := R.locals, cells := 1, slots := 6 }) (Nat.le_refl _) (Nat.le_refl _) hRcells hRslots
  obtain ⟨s', hA⟩ : ∃ z, z = (T.setVm s.vm).setFrames (.invoking m args :: below) := ⟨_, rfl⟩
  rw [← hA] at Y
  have hvm : s'.vm = s.vm := by rw [hA]; rfl
  have hhp : s'.heap = H := by rw [hA]; exact hT
  have hW0 : s.WarmedH s'.vm := by rw [hvm]; exact State.WarmedH.refl s
  have hat' : ∀ w ∈ nz_at own ic, w.before args s' = true := fun w hw => vx_ot_at hW0 hvm.symm (hgood w (List.mem_cons_of_mem _ (List.mem_cons_of_mem _ hw))) (hat w hw)
  have hk' : (Cond.classLink own ik nz_X).before args s' = true := vx_ot_at hW0 hvm.symm (hgood _ List.mem_cons_self) hk
  have hini' : (Cond.initialized nz_X).before args s' = true := vx_ot_at hW0 hvm.symm (hgood _ (List.mem_cons_of_mem _ List.mem_cons_self)) hini
  have hU' : vx_Zq Bundle.tN "UNASSIGNED_STACK" Bundle.steD A s' s'.heap := by rw [hhp]; exact vx_Zq.moved hW0.alike (hU.kept hS.2.1)
  have hN' : vx_Zq Bundle.tN "SUPPRESSED_SENTINEL" Bundle.listD A s' s'.heap := by rw [hhp]; exact vx_Zq.moved hW0.alike (hN.kept hS.2.1)
  have h : ∀ w ∈ nz_own own ic, w.before args s' = true := vx_own hat' (vx_isRefq hU'.1) (vx_isRefq hN'.1) hU'.2.word hN'.2.word
  have hown' : s'.vm.findClass own = some m.cls := by rw [hvm]; exact hown
  have hins : (Cond.instantiable nz_X 6).before args s' = true := h _ (by simp [nz_own])
  obtain ⟨vm₁, cX, kX, hfX, hkX, -, -, X₁, st1⟩ := Y.newCold hexec (own := own) (C := nz_X) (index := ik) (n := 6) hown' hk' hins hini'
    (g := F0 m pc ls rest) rfl (by rw [hb]; exact d0) (Nat.le_refl _) (Nat.le_refl _)
  generalize hT1 : (T.setVm vm₁).pushCell { cls := cX, slots := kX.instanceTypes.map defaultValue, vm := .none } = T1 at X₁ st1
  have hcat : (Value.ref T.heap.size).category = 1 := rfl
  have hcellA : T1.heap[T.heap.size]? = some (freshCell cX kX) := by rw [← hT1]; exact State.heap_pushCell_size _ _
  have d3' : decode c.code (pc + 3) = .ok (.dup, 1) := by rw [hb]; exact d3
  have d4' : decode c.code (pc + 4) = .ok (.ldc_w is, 3) := by rw [hb]; exact d4
  have hstr' : vk_R own is text sa s' := vk_R.warm hW0 hstr
  obtain ⟨U, hsteps, hrun, hend, hW, hsame, ce, hce, hO⟩ := nz_ctor X₁ hexec htr (own := own) (ic := ic) hown' h (fun x hx => nomatch hx) hfX hkX hcellA (by rw [hhp, hT]; exact Nat.le_refl _) (msg := .ref sa) rfl
    (g := { method := m, pc := pc + 7, locals := ls, stack := .ref sa :: .ref T.heap.size :: .ref T.heap.size :: rest, locked := none }) rfl hsize rfl rfl (rest := rest) rfl
    (by rw [hb]; exact d7) (by rw [hb]; exact d10) hout hRframes (by simp only [List.map_cons, List.sum_cons, hcat]; omega) hlocks
  obtain ⟨f1, f2⟩ := vx_frame hsame
  rw [hhp] at f1 f2
  have hWs : s.WarmedH U.vm := State.WarmedH.trans hW0 hW
  have hcl : s.vm.findClass nz_X = some ce.cls := by
    have h9 := hO.1
    rw [hvm] at h9
    exact h9
  have hall : s.sameButNew ({ U with vm := s.vm } : State) locs mc ms := by
    subst hA
    obtain ⟨e1, e2⟩ := hsame
    rw [State.setFrames_setFrames] at e1
    have h2 : (T.setVm s.vm).sameButNew ({ U with vm := s.vm } : State) [] (0 + 1) (0 + 6) := ⟨e1, e2⟩
    have h3 := X.same.trans h2
    rw [List.append_nil] at h3
    exact h3.mono hc hs
  refine ⟨U, ?_, .threw T.heap.size, hrun, hend, Or.inr ⟨T.heap.size, rfl, nz_X, ce, locs, hx U hWs.alike f1 (fun q hq => f2 q hq (fun z hz => nomatch hz)), hce, hO.2, hcl, hWs, hall, hf⟩⟩
  refine st1 _ ?_
  show Steps p.tables e below (T1.setTop { method := m, pc := pc + 3, locals := ls, stack := .ref T.heap.size :: rest, locked := none }) _
  jvm_step X₁.here [X₁.here.top, hexec, d3', Value.category]
  exact X₁.ldcStringW hexec (own := own) (text := text) (index := is) (a := sa) hown' hstr'.1 hstr'.2
    (g := { method := m, pc := pc + 4, locals := ls, stack := .ref T.heap.size :: .ref T.heap.size :: rest, locked := none }) rfl d4' _ hsteps
end NZE
end
section
/-! decode rows by stretches, over the library's own law of a stretch (Shelf42/DecodeLinear) -/
def fac (code : ByteArray) : List (Nat × Instr × Nat) → Prop
  | [] => True
  | (pc, i, n) :: t => decode code pc = .ok (i, n) ∧ fac code t
def facC : Nat → List (Nat × Instr × Nat) → Bool
  | _, [] => true
  | a, (pc, _, n) :: t => (pc == a) && facC (a + n) t
def facL (t : List (Nat × Instr × Nat)) : List (Instr × Nat) := t.map (fun q => q.2)
theorem fac_of {code : ByteArray} : ∀ (t : List (Nat × Instr × Nat)) (a : Nat), facC a t = true → Jvm.Free.DS.Facts code a (facL t) → fac code t
  | [], _, _, _ => trivial
  | (pc, i, n) :: t, a, h, hf => by
    have h1 : ((pc == a) && facC (a + n) t) = true := h
    rw [Bool.and_eq_true, beq_iff_eq] at h1
    have h2 : decode code a = .ok (i, n) ∧ Jvm.Free.DS.Facts code (a + n) (facL t) := hf
    refine ⟨?_, fac_of t _ h1.2 h2.2⟩
    rw [h1.1]
    exact h2.1
theorem fac_all {code : ByteArray} (a : Nat) (t : List (Nat × Instr × Nat)) (h : (facC a t && (Jvm.Free.DS.chk (code.data.toList.drop a) a (facL t) && decide (a + ((facL t).map (fun q => q.2)).sum ≤ code.size))) = true) : fac code t := by
  rw [Bool.and_eq_true, Bool.and_eq_true, decide_eq_true_eq] at h
  exact fac_of t a h.1 (Jvm.Free.DS.facts a (facL t) h.2.1 h.2.2)
/-! ===== BEGIN printed: names, fields, word lists, decode rows ===== -/
def RX0 : String := "HiredEnemy$Annals"
def TX0 : u_T := fun k => match k with
  | _ => ("HiredEnemy$Annals", "lines", "[I", true)
def tyX0 : Nat → FieldType := fun k => match k with
  | _ => .array .int
abbrev wsX00 : List Cond := u_ws RX0 TX0 1
theorem nmX0 : ∀ a, a < 1 → ∀ b, b < 1 → a ≠ b → (TX0 a).2.1 ≠ (TX0 b).2.1 := by decide +kernel
theorem tyX0_ok : ∀ k, k < 1 → parseFieldDescriptor (TX0 k).2.2.1 = some (tyX0 k) := by decide +kernel
abbrev cX0_init : ByteArray := prog_2_method_1_code
def yX0_init : MethodName := ⟨RX0, "<init>", "()V"⟩
abbrev cX0_keep : ByteArray := prog_2_method_2_code
def yX0_keep : MethodName := ⟨RX0, "keep", "(LHiredEnemy$Course;)V"⟩
abbrev cX0_lead : ByteArray := prog_2_method_3_code
def yX0_lead : MethodName := ⟨RX0, "lead", "(LHiredEnemy$Course;)V"⟩
abbrev cX0_giveBack : ByteArray := prog_2_method_4_code
def yX0_giveBack : MethodName := ⟨RX0, "giveBack", "(LHiredEnemy$Course;I)V"⟩
abbrev cX0_shotAt : ByteArray := prog_2_method_5_code
def yX0_shotAt : MethodName := ⟨RX0, "shotAt", "(II)I"⟩
abbrev cX0_take : ByteArray := prog_2_method_6_code
def yX0_take : MethodName := ⟨RX0, "take", "(LHiredEnemy$Annals;I)V"⟩
def RX1 : String := "HiredEnemy$Battle"
def TX1 : u_T := fun k => match k with
  | 0 => ("HiredEnemy$Battle", "worth", "[I", true)
  | 1 => ("HiredEnemy$Battle", "held", "[I", true)
  | 2 => ("HiredEnemy$Battle", "put", "[I", true)
  | 3 => ("HiredEnemy$Battle", "walls", "I", false)
  | _ => ("HiredEnemy$Battle", "safeDigits", "I", false)
def tyX1 : Nat → FieldType := fun k => match k with
  | 0 => .array .int
  | 1 => .array .int
  | 2 => .array .int
  | 3 => .int
  | _ => .int
abbrev wsX10 : List Cond := u_ws RX1 TX1 5
theorem nmX1 : ∀ a, a < 5 → ∀ b, b < 5 → a ≠ b → (TX1 a).2.1 ≠ (TX1 b).2.1 := by decide +kernel
theorem tyX1_ok : ∀ k, k < 5 → parseFieldDescriptor (TX1 k).2.2.1 = some (tyX1 k) := by decide +kernel
abbrev cX1_init : ByteArray := prog_3_method_1_code
def yX1_init : MethodName := ⟨RX1, "<init>", "()V"⟩
abbrev cX1_prepare : ByteArray := prog_3_method_2_code
def yX1_prepare : MethodName := ⟨RX1, "prepare", "(LHiredEnemy$Plan;)V"⟩
abbrev cX1_all : ByteArray := prog_3_method_3_code
def yX1_all : MethodName := ⟨RX1, "all", "()I"⟩
abbrev cX1_safe : ByteArray := prog_3_method_4_code
def yX1_safe : MethodName := ⟨RX1, "safe", "(III)I"⟩
abbrev cX1_sure : ByteArray := prog_3_method_5_code
def yX1_sure : MethodName := ⟨RX1, "sure", "(II)I"⟩
abbrev cX1_place : ByteArray := prog_3_method_6_code
def yX1_place : MethodName := ⟨RX1, "place", "(IIII)Z"⟩
abbrev cX1_digits : ByteArray := prog_3_method_7_code
def yX1_digits : MethodName := ⟨RX1, "digits", "()I"⟩
abbrev cX1_mostFelled : ByteArray := prog_3_method_8_code
def yX1_mostFelled : MethodName := ⟨RX1, "mostFelled", "(II)I"⟩
abbrev cX1_leastFelled : ByteArray := prog_3_method_9_code
def yX1_leastFelled : MethodName := ⟨RX1, "leastFelled", "(I)I"⟩
abbrev cX1_menToFell : ByteArray := prog_3_method_10_code
def yX1_menToFell : MethodName := ⟨RX1, "menToFell", "(I)I"⟩
abbrev cX1_menToHold : ByteArray := prog_3_method_11_code
def yX1_menToHold : MethodName := ⟨RX1, "menToHold", "(I)I"⟩
abbrev cX1_worthOf : ByteArray := prog_3_method_12_code
def yX1_worthOf : MethodName := ⟨RX1, "worthOf", "(I)I"⟩
def RX2 : String := "HiredEnemy$Belief"
def TX2 : u_T := fun k => match k with
  | 0 => ("HiredEnemy$Belief", "ifReal", "[I", true)
  | 1 => ("HiredEnemy$Belief", "ifHired", "[I", true)
  | 2 => ("HiredEnemy$Belief", "firstReal", "I", false)
  | 3 => ("HiredEnemy$Belief", "firstHired", "I", false)
  | 4 => ("HiredEnemy$Belief", "real", "J", false)
  | 5 => ("HiredEnemy$Belief", "hired", "J", false)
  | _ => ("HiredEnemy$Belief", "things", "I", false)
def tyX2 : Nat → FieldType := fun k => match k with
  | 0 => .array .int
  | 1 => .array .int
  | 2 => .int
  | 3 => .int
  | 4 => .long
  | 5 => .long
  | _ => .int
abbrev wsX20 : List Cond := u_ws RX2 TX2 7
theorem nmX2 : ∀ a, a < 7 → ∀ b, b < 7 → a ≠ b → (TX2 a).2.1 ≠ (TX2 b).2.1 := by decide +kernel
theorem tyX2_ok : ∀ k, k < 7 → parseFieldDescriptor (TX2 k).2.2.1 = some (tyX2 k) := by decide +kernel
abbrev cX2_init : ByteArray := prog_4_method_1_code
def yX2_init : MethodName := ⟨RX2, "<init>", "()V"⟩
abbrev cX2_start : ByteArray := prog_4_method_2_code
def yX2_start : MethodName := ⟨RX2, "start", "(II)V"⟩
abbrev cX2_forget : ByteArray := prog_4_method_3_code
def yX2_forget : MethodName := ⟨RX2, "forget", "()V"⟩
abbrev cX2_add : ByteArray := prog_4_method_4_code
def yX2_add : MethodName := ⟨RX2, "add", "(II)I"⟩
abbrev cX2_leastTerm : ByteArray := prog_4_method_5_code
def yX2_leastTerm : MethodName := ⟨RX2, "leastTerm", "(Z)J"⟩
abbrev cX2_take : ByteArray := prog_4_method_6_code
def yX2_take : MethodName := ⟨RX2, "take", "(LHiredEnemy$Belief;)V"⟩
def RX3 : String := "HiredEnemy$Bids"
def TX3 : u_T := fun k => match k with
  | 0 => ("HiredEnemy$Bids", "coins", "[I", true)
  | _ => ("HiredEnemy$Bids", "rest", "[I", true)
def tyX3 : Nat → FieldType := fun k => match k with
  | 0 => .array .int
  | _ => .array .int
abbrev wsX30 : List Cond := u_ws RX3 TX3 2
theorem nmX3 : ∀ a, a < 2 → ∀ b, b < 2 → a ≠ b → (TX3 a).2.1 ≠ (TX3 b).2.1 := by decide +kernel
theorem tyX3_ok : ∀ k, k < 2 → parseFieldDescriptor (TX3 k).2.2.1 = some (tyX3 k) := by decide +kernel
abbrev cX3_init : ByteArray := prog_5_method_1_code
def yX3_init : MethodName := ⟨RX3, "<init>", "()V"⟩
abbrev cX3_clear : ByteArray := prog_5_method_2_code
def yX3_clear : MethodName := ⟨RX3, "clear", "()V"⟩
abbrev cX3_bid : ByteArray := prog_5_method_3_code
def yX3_bid : MethodName := ⟨RX3, "bid", "(III)I"⟩
abbrev cX3_mostCoin : ByteArray := prog_5_method_4_code
def yX3_mostCoin : MethodName := ⟨RX3, "mostCoin", "()I"⟩
abbrev cX3_mostFrom : ByteArray := prog_5_method_5_code
def yX3_mostFrom : MethodName := ⟨RX3, "mostFrom", "(II)I"⟩
abbrev cX3_through : ByteArray := prog_5_method_6_code
def yX3_through : MethodName := ⟨RX3, "through", "(II)I"⟩
abbrev cX3_mayFollow : ByteArray := prog_5_method_7_code
def yX3_mayFollow : MethodName := ⟨RX3, "mayFollow", "(II)Z"⟩
abbrev cX3_served : ByteArray := prog_5_method_8_code
def yX3_served : MethodName := ⟨RX3, "served", "(I)I"⟩
abbrev cX3_firstWay : ByteArray := prog_5_method_9_code
def yX3_firstWay : MethodName := ⟨RX3, "firstWay", "(II)I"⟩
abbrev cX3_take : ByteArray := prog_5_method_10_code
def yX3_take : MethodName := ⟨RX3, "take", "(LHiredEnemy$Bids;)V"⟩
def RX4 : String := "HiredEnemy$Course"
def TX4 : u_T := fun k => match k with
  | 0 => ("HiredEnemy$Course", "now", "[I", true)
  | 1 => ("HiredEnemy$Course", "shot", "[I", true)
  | _ => ("HiredEnemy$Course", "month", "I", false)
def tyX4 : Nat → FieldType := fun k => match k with
  | 0 => .array .int
  | 1 => .array .int
  | _ => .int
abbrev wsX40 : List Cond := u_ws RX4 TX4 3
theorem nmX4 : ∀ a, a < 3 → ∀ b, b < 3 → a ≠ b → (TX4 a).2.1 ≠ (TX4 b).2.1 := by decide +kernel
theorem tyX4_ok : ∀ k, k < 3 → parseFieldDescriptor (TX4 k).2.2.1 = some (tyX4 k) := by decide +kernel
abbrev cX4_init : ByteArray := prog_6_method_1_code
def yX4_init : MethodName := ⟨RX4, "<init>", "()V"⟩
abbrev cX4_begin : ByteArray := prog_6_method_2_code
def yX4_begin : MethodName := ⟨RX4, "begin", "(LHiredEnemy$Plan;)V"⟩
abbrev cX4_take : ByteArray := prog_6_method_3_code
def yX4_take : MethodName := ⟨RX4, "take", "(LHiredEnemy$Course;)V"⟩
abbrev cX4_pledge : ByteArray := prog_6_method_4_code
def yX4_pledge : MethodName := ⟨RX4, "pledge", "(I)V"⟩
abbrev cX4_pass : ByteArray := prog_6_method_5_code
def yX4_pass : MethodName := ⟨RX4, "pass", "(LHiredEnemy$Plan;LHiredEnemy$Pact;)V"⟩
abbrev cX4_move : ByteArray := prog_6_method_6_code
def yX4_move : MethodName := ⟨RX4, "move", "(III)V"⟩
abbrev cX4_isPaid : ByteArray := prog_6_method_7_code
def yX4_isPaid : MethodName := ⟨RX4, "isPaid", "(LHiredEnemy$Pact;)Z"⟩
abbrev cX4_shoot : ByteArray := prog_6_method_8_code
def yX4_shoot : MethodName := ⟨RX4, "shoot", "(LHiredEnemy$Plan;LHiredEnemy$Pact;)V"⟩
abbrev cX4_weakest : ByteArray := prog_6_method_9_code
def yX4_weakest : MethodName := ⟨RX4, "weakest", "(I)I"⟩
abbrev cX4_breach : ByteArray := prog_6_method_10_code
def yX4_breach : MethodName := ⟨RX4, "breach", "(LHiredEnemy$Plan;LHiredEnemy$Pact;I)V"⟩
abbrev cX4_frighten : ByteArray := prog_6_method_11_code
def yX4_frighten : MethodName := ⟨RX4, "frighten", "(I)V"⟩
abbrev cX4_mend : ByteArray := prog_6_method_12_code
def yX4_mend : MethodName := ⟨RX4, "mend", "(LHiredEnemy$Plan;)V"⟩
abbrev cX4_desert : ByteArray := prog_6_method_13_code
def yX4_desert : MethodName := ⟨RX4, "desert", "(I)V"⟩
def RX5 : String := "HiredEnemy$Pact"
def TX5 : u_T := fun k => match k with
  | 0 => ("HiredEnemy$Pact", "said", "[I", true)
  | 1 => ("HiredEnemy$Pact", "wallByMonth", "[I", true)
  | _ => ("HiredEnemy$Pact", "walls", "I", false)
def tyX5 : Nat → FieldType := fun k => match k with
  | 0 => .array .int
  | 1 => .array .int
  | _ => .int
abbrev wsX50 : List Cond := u_ws RX5 TX5 3
theorem nmX5 : ∀ a, a < 3 → ∀ b, b < 3 → a ≠ b → (TX5 a).2.1 ≠ (TX5 b).2.1 := by decide +kernel
theorem tyX5_ok : ∀ k, k < 3 → parseFieldDescriptor (TX5 k).2.2.1 = some (tyX5 k) := by decide +kernel
abbrev cX5_init : ByteArray := prog_7_method_1_code
def yX5_init : MethodName := ⟨RX5, "<init>", "()V"⟩
abbrev cX5_clear : ByteArray := prog_7_method_2_code
def yX5_clear : MethodName := ⟨RX5, "clear", "(I)V"⟩
abbrev cX5_propose : ByteArray := prog_7_method_3_code
def yX5_propose : MethodName := ⟨RX5, "propose", "(IIII)V"⟩
abbrev cX5_words : ByteArray := prog_7_method_4_code
def yX5_words : MethodName := ⟨RX5, "words", "()Ljava/lang/String;"⟩
abbrev cX5_mostParts : ByteArray := prog_7_method_5_code
def yX5_mostParts : MethodName := ⟨RX5, "mostParts", "()I"⟩
abbrev cX5_isFull : ByteArray := prog_7_method_6_code
def yX5_isFull : MethodName := ⟨RX5, "isFull", "(I)Z"⟩
abbrev cX5_numbers : ByteArray := prog_7_method_7_code
def yX5_numbers : MethodName := ⟨RX5, "numbers", "(I)I"⟩
abbrev cX5_low : ByteArray := prog_7_method_8_code
def yX5_low : MethodName := ⟨RX5, "low", "(II)I"⟩
abbrev cX5_high : ByteArray := prog_7_method_9_code
def yX5_high : MethodName := ⟨RX5, "high", "(II)I"⟩
abbrev cX5_store : ByteArray := prog_7_method_10_code
def yX5_store : MethodName := ⟨RX5, "store", "(I[I)V"⟩
abbrev cX5_answer : ByteArray := prog_7_method_11_code
def yX5_answer : MethodName := ⟨RX5, "answer", "(I)I"⟩
abbrev cX5_winterPay : ByteArray := prog_7_method_12_code
def yX5_winterPay : MethodName := ⟨RX5, "winterPay", "()I"⟩
abbrev cX5_breachesTold : ByteArray := prog_7_method_13_code
def yX5_breachesTold : MethodName := ⟨RX5, "breachesTold", "()I"⟩
abbrev cX5_payIn : ByteArray := prog_7_method_14_code
def yX5_payIn : MethodName := ⟨RX5, "payIn", "(I)I"⟩
abbrev cX5_wallDue : ByteArray := prog_7_method_15_code
def yX5_wallDue : MethodName := ⟨RX5, "wallDue", "(II)I"⟩
def RX6 : String := "HiredEnemy$Plan"
def TX6 : u_T := fun k => match k with
  | 0 => ("HiredEnemy$Plan", "said", "[I", true)
  | 1 => ("HiredEnemy$Plan", "fearByNear", "[I", true)
  | 2 => ("HiredEnemy$Plan", "strength", "[I", true)
  | 3 => ("HiredEnemy$Plan", "mended", "[I", true)
  | _ => ("HiredEnemy$Plan", "walls", "I", false)
def tyX6 : Nat → FieldType := fun k => match k with
  | 0 => .array .int
  | 1 => .array .int
  | 2 => .array .int
  | 3 => .array .int
  | _ => .int
abbrev wsX60 : List Cond := u_ws RX6 TX6 5
theorem nmX6 : ∀ a, a < 5 → ∀ b, b < 5 → a ≠ b → (TX6 a).2.1 ≠ (TX6 b).2.1 := by decide +kernel
theorem tyX6_ok : ∀ k, k < 5 → parseFieldDescriptor (TX6 k).2.2.1 = some (tyX6 k) := by decide +kernel
abbrev cX6_init : ByteArray := prog_8_method_1_code
def yX6_init : MethodName := ⟨RX6, "<init>", "()V"⟩
abbrev cX6_clear : ByteArray := prog_8_method_2_code
def yX6_clear : MethodName := ⟨RX6, "clear", "()V"⟩
abbrev cX6_words : ByteArray := prog_8_method_3_code
def yX6_words : MethodName := ⟨RX6, "words", "()Ljava/lang/String;"⟩
abbrev cX6_mostParts : ByteArray := prog_8_method_4_code
def yX6_mostParts : MethodName := ⟨RX6, "mostParts", "()I"⟩
abbrev cX6_isFull : ByteArray := prog_8_method_5_code
def yX6_isFull : MethodName := ⟨RX6, "isFull", "(I)Z"⟩
abbrev cX6_numbers : ByteArray := prog_8_method_6_code
def yX6_numbers : MethodName := ⟨RX6, "numbers", "(I)I"⟩
abbrev cX6_low : ByteArray := prog_8_method_7_code
def yX6_low : MethodName := ⟨RX6, "low", "(II)I"⟩
abbrev cX6_high : ByteArray := prog_8_method_8_code
def yX6_high : MethodName := ⟨RX6, "high", "(II)I"⟩
abbrev cX6_store : ByteArray := prog_8_method_9_code
def yX6_store : MethodName := ⟨RX6, "store", "(I[I)V"⟩
abbrev cX6_addWall : ByteArray := prog_8_method_10_code
def yX6_addWall : MethodName := ⟨RX6, "addWall", "(II)V"⟩
abbrev cX6_fearAt : ByteArray := prog_8_method_11_code
def yX6_fearAt : MethodName := ⟨RX6, "fearAt", "(I)I"⟩
abbrev cX6_wanted : ByteArray := prog_8_method_12_code
def yX6_wanted : MethodName := ⟨RX6, "wanted", "(II)I"⟩
def RX7 : String := "HiredEnemy$Reader"
def TX7 : u_T := fun k => match k with
  | 0 => ("HiredEnemy$Reader", "bytes", "[B", false)
  | 1 => ("HiredEnemy$Reader", "length", "I", false)
  | 2 => ("HiredEnemy$Reader", "at", "I", false)
  | 3 => ("HiredEnemy$Reader", "fault", "I", false)
  | 4 => ("HiredEnemy$Reader", "place", "I", false)
  | _ => ("HiredEnemy$Reader", "numbers", "[I", true)
def tyX7 : Nat → FieldType := fun k => match k with
  | 0 => .array .byte
  | 1 => .int
  | 2 => .int
  | 3 => .int
  | 4 => .int
  | _ => .array .int
abbrev wsX70 : List Cond := u_ws RX7 TX7 6
theorem nmX7 : ∀ a, a < 6 → ∀ b, b < 6 → a ≠ b → (TX7 a).2.1 ≠ (TX7 b).2.1 := by decide +kernel
theorem tyX7_ok : ∀ k, k < 6 → parseFieldDescriptor (TX7 k).2.2.1 = some (tyX7 k) := by decide +kernel
abbrev cX7_init : ByteArray := prog_9_method_1_code
def yX7_init : MethodName := ⟨RX7, "<init>", "()V"⟩
abbrev cX7_read : ByteArray := prog_9_method_2_code
def yX7_read : MethodName := ⟨RX7, "read", "([BILHiredEnemy$Telling;)I"⟩
abbrev cX7_readPart : ByteArray := prog_9_method_3_code
def yX7_readPart : MethodName := ⟨RX7, "readPart", "(LHiredEnemy$Telling;I)Z"⟩
abbrev cX7_readNumber : ByteArray := prog_9_method_4_code
def yX7_readNumber : MethodName := ⟨RX7, "readNumber", "(III)Z"⟩
abbrev cX7_fail : ByteArray := prog_9_method_5_code
def yX7_fail : MethodName := ⟨RX7, "fail", "(II)Z"⟩
abbrev cX7_skipBlanks : ByteArray := prog_9_method_6_code
def yX7_skipBlanks : MethodName := ⟨RX7, "skipBlanks", "()V"⟩
abbrev cX7_skipLetters : ByteArray := prog_9_method_7_code
def yX7_skipLetters : MethodName := ⟨RX7, "skipLetters", "()V"⟩
abbrev cX7_kindOf : ByteArray := prog_9_method_8_code
def yX7_kindOf : MethodName := ⟨RX7, "kindOf", "(Ljava/lang/String;I)I"⟩
abbrev cX7_isSame : ByteArray := prog_9_method_9_code
def yX7_isSame : MethodName := ⟨RX7, "isSame", "(Ljava/lang/String;III)Z"⟩
def RX8 : String := "HiredEnemy$Scene"
def TX8 : u_T := fun k => match k with
  | 0 => ("HiredEnemy$Scene", "course", "LHiredEnemy$Course;", true)
  | 1 => ("HiredEnemy$Scene", "annals", "LHiredEnemy$Annals;", true)
  | 2 => ("HiredEnemy$Scene", "belief", "LHiredEnemy$Belief;", true)
  | _ => ("HiredEnemy$Scene", "bids", "LHiredEnemy$Bids;", true)
def tyX8 : Nat → FieldType := fun k => match k with
  | 0 => .object "HiredEnemy$Course"
  | 1 => .object "HiredEnemy$Annals"
  | 2 => .object "HiredEnemy$Belief"
  | _ => .object "HiredEnemy$Bids"
abbrev wsX80 : List Cond := u_ws RX8 TX8 4
theorem nmX8 : ∀ a, a < 4 → ∀ b, b < 4 → a ≠ b → (TX8 a).2.1 ≠ (TX8 b).2.1 := by decide +kernel
theorem tyX8_ok : ∀ k, k < 4 → parseFieldDescriptor (TX8 k).2.2.1 = some (tyX8 k) := by decide +kernel
abbrev cX8_init : ByteArray := prog_10_method_1_code
def yX8_init : MethodName := ⟨RX8, "<init>", "()V"⟩
abbrev cX8_begin : ByteArray := prog_10_method_2_code
def yX8_begin : MethodName := ⟨RX8, "begin", "(LHiredEnemy$Plan;)V"⟩
abbrev cX8_take : ByteArray := prog_10_method_3_code
def yX8_take : MethodName := ⟨RX8, "take", "(LHiredEnemy$Scene;)V"⟩
def RX9 : String := "HiredEnemy$Telling"
abbrev cX9_init : ByteArray := prog_11_method_1_code
def yX9_init : MethodName := ⟨RX9, "<init>", "()V"⟩
def RX10 : String := "HiredEnemy"
def TX10 : u_T := fun k => match k with
  | 0 => ("HiredEnemy", "tape", "[B", true)
  | 1 => ("HiredEnemy", "taped", "I", false)
  | 2 => ("HiredEnemy", "reader", "LHiredEnemy$Reader;", true)
  | 3 => ("HiredEnemy", "plan", "LHiredEnemy$Plan;", false)
  | 4 => ("HiredEnemy", "draft", "LHiredEnemy$Plan;", false)
  | 5 => ("HiredEnemy", "pacts", "[LHiredEnemy$Pact;", true)
  | 6 => ("HiredEnemy", "pactsTold", "I", false)
  | 7 => ("HiredEnemy", "scene", "LHiredEnemy$Scene;", true)
  | 8 => ("HiredEnemy", "images", "[LHiredEnemy$Scene;", true)
  | 9 => ("HiredEnemy", "imagesKept", "I", false)
  | 10 => ("HiredEnemy", "trial", "LHiredEnemy$Course;", true)
  | 11 => ("HiredEnemy", "battle", "LHiredEnemy$Battle;", true)
  | _ => ("HiredEnemy", "refused", "[I", true)
def tyX10 : Nat → FieldType := fun k => match k with
  | 0 => .array .byte
  | 1 => .int
  | 2 => .object "HiredEnemy$Reader"
  | 3 => .object "HiredEnemy$Plan"
  | 4 => .object "HiredEnemy$Plan"
  | 5 => .array (.object "HiredEnemy$Pact")
  | 6 => .int
  | 7 => .object "HiredEnemy$Scene"
  | 8 => .array (.object "HiredEnemy$Scene")
  | 9 => .int
  | 10 => .object "HiredEnemy$Course"
  | 11 => .object "HiredEnemy$Battle"
  | _ => .array .int
abbrev wsX100 : List Cond := u_ws RX10 TX10 13
theorem nmX10 : ∀ a, a < 13 → ∀ b, b < 13 → a ≠ b → (TX10 a).2.1 ≠ (TX10 b).2.1 := by decide +kernel
theorem tyX10_ok : ∀ k, k < 13 → parseFieldDescriptor (TX10 k).2.2.1 = some (tyX10 k) := by decide +kernel
abbrev cX10_init : ByteArray := prog_1_method_1_code
def yX10_init : MethodName := ⟨RX10, "<init>", "()V"⟩
abbrev cX10_feed : ByteArray := prog_1_method_2_code
def yX10_feed : MethodName := ⟨RX10, "feed", "(IIIII)I"⟩
abbrev cX10_putOnTape : ByteArray := prog_1_method_3_code
def yX10_putOnTape : MethodName := ⟨RX10, "putOnTape", "(I)V"⟩
abbrev cX10_siege : ByteArray := prog_1_method_4_code
def yX10_siege : MethodName := ⟨RX10, "siege", "(I)I"⟩
abbrev cX10_contract : ByteArray := prog_1_method_5_code
def yX10_contract : MethodName := ⟨RX10, "contract", "(I)I"⟩
abbrev cX10_fault : ByteArray := prog_1_method_6_code
def yX10_fault : MethodName := ⟨RX10, "fault", "()I"⟩
abbrev cX10_told : ByteArray := prog_1_method_7_code
def yX10_told : MethodName := ⟨RX10, "told", "(I)I"⟩
abbrev cX10_wall : ByteArray := prog_1_method_8_code
def yX10_wall : MethodName := ⟨RX10, "wall", "(II)I"⟩
abbrev cX10_rule : ByteArray := prog_1_method_9_code
def yX10_rule : MethodName := ⟨RX10, "rule", "(II)I"⟩
abbrev cX10_wants : ByteArray := prog_1_method_10_code
def yX10_wants : MethodName := ⟨RX10, "wants", "(II)I"⟩
abbrev cX10_sign : ByteArray := prog_1_method_11_code
def yX10_sign : MethodName := ⟨RX10, "sign", "(I)I"⟩
abbrev cX10_months : ByteArray := prog_1_method_12_code
def yX10_months : MethodName := ⟨RX10, "months", "(I)I"⟩
abbrev cX10_undo : ByteArray := prog_1_method_13_code
def yX10_undo : MethodName := ⟨RX10, "undo", "(I)I"⟩
abbrev cX10_sums : ByteArray := prog_1_method_14_code
def yX10_sums : MethodName := ⟨RX10, "sums", "(I)I"⟩
abbrev cX10_corks : ByteArray := prog_1_method_15_code
def yX10_corks : MethodName := ⟨RX10, "corks", "(II)I"⟩
abbrev cX10_would : ByteArray := prog_1_method_16_code
def yX10_would : MethodName := ⟨RX10, "would", "(III)I"⟩
abbrev cX10_best : ByteArray := prog_1_method_17_code
def yX10_best : MethodName := ⟨RX10, "best", "(II)I"⟩
abbrev cX10_offer : ByteArray := prog_1_method_18_code
def yX10_offer : MethodName := ⟨RX10, "offer", "(II)I"⟩
abbrev cX10_nearest : ByteArray := prog_1_method_19_code
def yX10_nearest : MethodName := ⟨RX10, "nearest", "(II)I"⟩
abbrev cX10_stop : ByteArray := prog_1_method_20_code
def yX10_stop : MethodName := ⟨RX10, "stop", "(II)I"⟩
abbrev cX10_odds : ByteArray := prog_1_method_21_code
def yX10_odds : MethodName := ⟨RX10, "odds", "(II)V"⟩
abbrev cX10_kind : ByteArray := prog_1_method_22_code
def yX10_kind : MethodName := ⟨RX10, "kind", "(III)V"⟩
abbrev cX10_seen : ByteArray := prog_1_method_23_code
def yX10_seen : MethodName := ⟨RX10, "seen", "(I)I"⟩
abbrev cX10_spy : ByteArray := prog_1_method_24_code
def yX10_spy : MethodName := ⟨RX10, "spy", "(ZI)I"⟩
abbrev cX10_believed : ByteArray := prog_1_method_25_code
def yX10_believed : MethodName := ⟨RX10, "believed", "(I)J"⟩
abbrev cX10_earnest : ByteArray := prog_1_method_26_code
def yX10_earnest : MethodName := ⟨RX10, "earnest", "(III)I"⟩
abbrev cX10_stands : ByteArray := prog_1_method_27_code
def yX10_stands : MethodName := ⟨RX10, "stands", "(II)I"⟩
abbrev cX10_show : ByteArray := prog_1_method_28_code
def yX10_show : MethodName := ⟨RX10, "show", "(II)I"⟩
abbrev cX10_offers : ByteArray := prog_1_method_29_code
def yX10_offers : MethodName := ⟨RX10, "offers", "(III)I"⟩
abbrev cX10_most : ByteArray := prog_1_method_30_code
def yX10_most : MethodName := ⟨RX10, "most", "()I"⟩
abbrev cX10_serves : ByteArray := prog_1_method_31_code
def yX10_serves : MethodName := ⟨RX10, "serves", "(I)I"⟩
abbrev cX10_image : ByteArray := prog_1_method_32_code
def yX10_image : MethodName := ⟨RX10, "image", "()I"⟩
abbrev cX10_restore : ByteArray := prog_1_method_33_code
def yX10_restore : MethodName := ⟨RX10, "restore", "()I"⟩
abbrev cX10_status : ByteArray := prog_1_method_34_code
def yX10_status : MethodName := ⟨RX10, "status", "(I)I"⟩
abbrev cX10_count : ByteArray := prog_1_method_35_code
def yX10_count : MethodName := ⟨RX10, "count", "(I)I"⟩
abbrev cX10_within : ByteArray := prog_1_method_36_code
def yX10_within : MethodName := ⟨RX10, "within", "(III)Z"⟩
abbrev cX10_demand : ByteArray := prog_1_method_37_code
def yX10_demand : MethodName := ⟨RX10, "demand", "(Z)V"⟩
abbrev cX10_demandWall : ByteArray := prog_1_method_38_code
def yX10_demandWall : MethodName := ⟨RX10, "demandWall", "(I)V"⟩
abbrev cX10_demandContract : ByteArray := prog_1_method_39_code
def yX10_demandContract : MethodName := ⟨RX10, "demandContract", "(I)V"⟩
abbrev cX10_demandContractOrNone : ByteArray := prog_1_method_40_code
def yX10_demandContractOrNone : MethodName := ⟨RX10, "demandContractOrNone", "(I)V"⟩
abbrev cX10_inForce : ByteArray := prog_1_method_41_code
def yX10_inForce : MethodName := ⟨RX10, "inForce", "(LHiredEnemy$Course;)LHiredEnemy$Pact;"⟩
abbrev cX10_passTried : ByteArray := prog_1_method_42_code
def yX10_passTried : MethodName := ⟨RX10, "passTried", "(I)V"⟩
abbrev cX10_trySigned : ByteArray := prog_1_method_43_code
def yX10_trySigned : MethodName := ⟨RX10, "trySigned", "(II)I"⟩
def RX11 : String := "HiredEnemyModel"
def TX11 : u_T := fun k => match k with
  | 0 => ("HiredEnemyModel", "thrown", "I", false)
  | 1 => ("HiredEnemyModel", "tape", "I", false)
  | 2 => ("HiredEnemyModel", "size", "I", false)
  | 3 => ("HiredEnemyModel", "place", "I", false)
  | 4 => ("HiredEnemyModel", "at", "I", false)
  | 5 => ("HiredEnemyModel", "fault", "I", false)
  | 6 => ("HiredEnemyModel", "faultAt", "I", false)
  | 7 => ("HiredEnemyModel", "clauses", "I", false)
  | 8 => ("HiredEnemyModel", "fed", "[I", true)
  | 9 => ("HiredEnemyModel", "refused", "[I", true)
  | 10 => ("HiredEnemyModel", "readTold", "[I", true)
  | 11 => ("HiredEnemyModel", "told", "[I", true)
  | 12 => ("HiredEnemyModel", "readWall", "[[I", true)
  | 13 => ("HiredEnemyModel", "wall", "[[I", true)
  | 14 => ("HiredEnemyModel", "contracts", "I", false)
  | 15 => ("HiredEnemyModel", "readContract", "[I", true)
  | 16 => ("HiredEnemyModel", "readBreach", "[I", true)
  | 17 => ("HiredEnemyModel", "contract", "[[I", true)
  | 18 => ("HiredEnemyModel", "breach", "[[I", true)
  | 19 => ("HiredEnemyModel", "s", "[I", true)
  | 20 => ("HiredEnemyModel", "aside", "[I", true)
  | 21 => ("HiredEnemyModel", "gone", "[[I", true)
  | 22 => ("HiredEnemyModel", "shot", "[[I", true)
  | 23 => ("HiredEnemyModel", "isReal", "Z", false)
  | 24 => ("HiredEnemyModel", "oddsA", "I", false)
  | 25 => ("HiredEnemyModel", "oddsB", "I", false)
  | 26 => ("HiredEnemyModel", "things", "I", false)
  | 27 => ("HiredEnemyModel", "images", "I", false)
  | 28 => ("HiredEnemyModel", "spot", "I", false)
  | 29 => ("HiredEnemyModel", "kind", "[[I", true)
  | 30 => ("HiredEnemyModel", "thing", "[[I", true)
  | 31 => ("HiredEnemyModel", "offered", "[[I", true)
  | 32 => ("HiredEnemyModel", "kept", "[[I", true)
  | 33 => ("HiredEnemyModel", "safeRow", "I", false)
  | _ => ("HiredEnemyModel", "rest", "[[I", true)
def tyX11 : Nat → FieldType := fun k => match k with
  | 0 => .int
  | 1 => .int
  | 2 => .int
  | 3 => .int
  | 4 => .int
  | 5 => .int
  | 6 => .int
  | 7 => .int
  | 8 => .array .int
  | 9 => .array .int
  | 10 => .array .int
  | 11 => .array .int
  | 12 => .array (.array .int)
  | 13 => .array (.array .int)
  | 14 => .int
  | 15 => .array .int
  | 16 => .array .int
  | 17 => .array (.array .int)
  | 18 => .array (.array .int)
  | 19 => .array .int
  | 20 => .array .int
  | 21 => .array (.array .int)
  | 22 => .array (.array .int)
  | 23 => .boolean
  | 24 => .int
  | 25 => .int
  | 26 => .int
  | 27 => .int
  | 28 => .int
  | 29 => .array (.array .int)
  | 30 => .array (.array .int)
  | 31 => .array (.array .int)
  | 32 => .array (.array .int)
  | 33 => .int
  | _ => .array (.array .int)
abbrev wsX110 : List Cond := u_ws RX11 TX11 35
theorem nmX11 : ∀ a, a < 35 → ∀ b, b < 35 → a ≠ b → (TX11 a).2.1 ≠ (TX11 b).2.1 := by decide +kernel
theorem tyX11_ok : ∀ k, k < 35 → parseFieldDescriptor (TX11 k).2.2.1 = some (tyX11 k) := by decide +kernel
abbrev cX11_init : ByteArray := prog_13_method_1_code
def yX11_init : MethodName := ⟨RX11, "<init>", "()V"⟩
abbrev cX11_tellsNothing : ByteArray := prog_13_method_2_code
def yX11_tellsNothing : MethodName := ⟨RX11, "tellsNothing", "()V"⟩
abbrev cX11_bad : ByteArray := prog_13_method_4_code
def yX11_bad : MethodName := ⟨RX11, "bad", "(ZII)Z"⟩
abbrev cX11_in : ByteArray := prog_13_method_5_code
def yX11_in : MethodName := ⟨RX11, "in", "(III)Z"⟩
abbrev cX11_feed : ByteArray := prog_13_method_6_code
def yX11_feed : MethodName := ⟨RX11, "feed", "(IIIII)I"⟩
abbrev cX11_byteAt : ByteArray := prog_13_method_7_code
def yX11_byteAt : MethodName := ⟨RX11, "byteAt", "(I)I"⟩
abbrev cX11_blanks : ByteArray := prog_13_method_8_code
def yX11_blanks : MethodName := ⟨RX11, "blanks", "()V"⟩
abbrev cX11_wrong : ByteArray := prog_13_method_9_code
def yX11_wrong : MethodName := ⟨RX11, "wrong", "(II)V"⟩
abbrev cX11_isDigit : ByteArray := prog_13_method_10_code
def yX11_isDigit : MethodName := ⟨RX11, "isDigit", "(I)Z"⟩
abbrev cX11_number : ByteArray := prog_13_method_11_code
def yX11_number : MethodName := ⟨RX11, "number", "(II)I"⟩
abbrev cX11_wordHere : ByteArray := prog_13_method_12_code
def yX11_wordHere : MethodName := ⟨RX11, "wordHere", "()I"⟩
abbrev cX11_six : ByteArray := prog_13_method_13_code
def yX11_six : MethodName := ⟨RX11, "six", "(IIIIII)I"⟩
abbrev cX11_isWord : ByteArray := prog_13_method_14_code
def yX11_isWord : MethodName := ⟨RX11, "isWord", "(IIIIII)Z"⟩
abbrev cX11_skipWord : ByteArray := prog_13_method_15_code
def yX11_skipWord : MethodName := ⟨RX11, "skipWord", "()V"⟩
abbrev cX11_closes : ByteArray := prog_13_method_16_code
def yX11_closes : MethodName := ⟨RX11, "closes", "()V"⟩
abbrev cX11_starts : ByteArray := prog_13_method_17_code
def yX11_starts : MethodName := ⟨RX11, "starts", "(I)V"⟩
abbrev cX11_kindHere : ByteArray := prog_13_method_18_code
def yX11_kindHere : MethodName := ⟨RX11, "kindHere", "()I"⟩
abbrev cX11_clause : ByteArray := prog_13_method_19_code
def yX11_clause : MethodName := ⟨RX11, "clause", "()V"⟩
abbrev cX11_siege : ByteArray := prog_13_method_20_code
def yX11_siege : MethodName := ⟨RX11, "siege", "(I)I"⟩
abbrev cX11_stands0 : ByteArray := prog_13_method_21_code
def yX11_stands0 : MethodName := ⟨RX11, "stands0", "()V"⟩
abbrev cX11_rules : ByteArray := prog_13_method_22_code
def yX11_rules : MethodName := ⟨RX11, "rules", "()V"⟩
abbrev cX11_contract : ByteArray := prog_13_method_23_code
def yX11_contract : MethodName := ⟨RX11, "contract", "(I)I"⟩
abbrev cX11_fault : ByteArray := prog_13_method_24_code
def yX11_fault : MethodName := ⟨RX11, "fault", "()I"⟩
abbrev cX11_told : ByteArray := prog_13_method_25_code
def yX11_told : MethodName := ⟨RX11, "told", "(I)I"⟩
abbrev cX11_isWall : ByteArray := prog_13_method_26_code
def yX11_isWall : MethodName := ⟨RX11, "isWall", "(I)Z"⟩
abbrev cX11_wall : ByteArray := prog_13_method_27_code
def yX11_wall : MethodName := ⟨RX11, "wall", "(II)I"⟩
abbrev cX11_isContract : ByteArray := prog_13_method_28_code
def yX11_isContract : MethodName := ⟨RX11, "isContract", "(I)Z"⟩
abbrev cX11_rule : ByteArray := prog_13_method_29_code
def yX11_rule : MethodName := ⟨RX11, "rule", "(II)I"⟩
abbrev cX11_wantsFor : ByteArray := prog_13_method_30_code
def yX11_wantsFor : MethodName := ⟨RX11, "wantsFor", "(II)I"⟩
abbrev cX11_wants : ByteArray := prog_13_method_31_code
def yX11_wants : MethodName := ⟨RX11, "wants", "(II)I"⟩
abbrev cX11_signs : ByteArray := prog_13_method_32_code
def yX11_signs : MethodName := ⟨RX11, "signs", "(I)V"⟩
abbrev cX11_sign : ByteArray := prog_13_method_33_code
def yX11_sign : MethodName := ⟨RX11, "sign", "(I)I"⟩
abbrev cX11_less : ByteArray := prog_13_method_34_code
def yX11_less : MethodName := ⟨RX11, "less", "(II)I"⟩
abbrev cX11_pays : ByteArray := prog_13_method_35_code
def yX11_pays : MethodName := ⟨RX11, "pays", "(III)V"⟩
abbrev cX11_fears : ByteArray := prog_13_method_36_code
def yX11_fears : MethodName := ⟨RX11, "fears", "(I)V"⟩
abbrev cX11_weakest : ByteArray := prog_13_method_37_code
def yX11_weakest : MethodName := ⟨RX11, "weakest", "()I"⟩
abbrev cX11_shoots : ByteArray := prog_13_method_38_code
def yX11_shoots : MethodName := ⟨RX11, "shoots", "([I[I)V"⟩
abbrev cX11_underContract : ByteArray := prog_13_method_39_code
def yX11_underContract : MethodName := ⟨RX11, "underContract", "()V"⟩
abbrev cX11_mends : ByteArray := prog_13_method_40_code
def yX11_mends : MethodName := ⟨RX11, "mends", "()V"⟩
abbrev cX11_monthGoes : ByteArray := prog_13_method_41_code
def yX11_monthGoes : MethodName := ⟨RX11, "monthGoes", "()V"⟩
abbrev cX11_deserts : ByteArray := prog_13_method_42_code
def yX11_deserts : MethodName := ⟨RX11, "deserts", "()V"⟩
abbrev cX11_puts : ByteArray := prog_13_method_43_code
def yX11_puts : MethodName := ⟨RX11, "puts", "()V"⟩
abbrev cX11_takes : ByteArray := prog_13_method_44_code
def yX11_takes : MethodName := ⟨RX11, "takes", "()V"⟩
abbrev cX11_goesOn : ByteArray := prog_13_method_45_code
def yX11_goesOn : MethodName := ⟨RX11, "goesOn", "(I)V"⟩
abbrev cX11_months : ByteArray := prog_13_method_46_code
def yX11_months : MethodName := ⟨RX11, "months", "(I)I"⟩
abbrev cX11_undo : ByteArray := prog_13_method_47_code
def yX11_undo : MethodName := ⟨RX11, "undo", "(I)I"⟩
abbrev cX11_sums : ByteArray := prog_13_method_48_code
def yX11_sums : MethodName := ⟨RX11, "sums", "(I)I"⟩
abbrev cX11_corks : ByteArray := prog_13_method_49_code
def yX11_corks : MethodName := ⟨RX11, "corks", "(II)I"⟩
abbrev cX11_areMonths : ByteArray := prog_13_method_50_code
def yX11_areMonths : MethodName := ⟨RX11, "areMonths", "(I)Z"⟩
abbrev cX11_by : ByteArray := prog_13_method_51_code
def yX11_by : MethodName := ⟨RX11, "by", "(III)I"⟩
abbrev cX11_would : ByteArray := prog_13_method_52_code
def yX11_would : MethodName := ⟨RX11, "would", "(III)I"⟩
abbrev cX11_best : ByteArray := prog_13_method_53_code
def yX11_best : MethodName := ⟨RX11, "best", "(II)I"⟩
abbrev cX11_offer : ByteArray := prog_13_method_54_code
def yX11_offer : MethodName := ⟨RX11, "offer", "(II)I"⟩
abbrev cX11_byOffer : ByteArray := prog_13_method_55_code
def yX11_byOffer : MethodName := ⟨RX11, "byOffer", "(I)I"⟩
abbrev cX11_nearest : ByteArray := prog_13_method_56_code
def yX11_nearest : MethodName := ⟨RX11, "nearest", "(II)I"⟩
abbrev cX11_stop : ByteArray := prog_13_method_57_code
def yX11_stop : MethodName := ⟨RX11, "stop", "(II)I"⟩
abbrev cX11_odds : ByteArray := prog_13_method_58_code
def yX11_odds : MethodName := ⟨RX11, "odds", "(II)V"⟩
abbrev cX11_kind : ByteArray := prog_13_method_59_code
def yX11_kind : MethodName := ⟨RX11, "kind", "(III)V"⟩
abbrev cX11_isSeen : ByteArray := prog_13_method_60_code
def yX11_isSeen : MethodName := ⟨RX11, "isSeen", "(II)I"⟩
abbrev cX11_seen : ByteArray := prog_13_method_61_code
def yX11_seen : MethodName := ⟨RX11, "seen", "(I)I"⟩
abbrev cX11_spy : ByteArray := prog_13_method_62_code
def yX11_spy : MethodName := ⟨RX11, "spy", "(ZI)I"⟩
abbrev cX11_believed : ByteArray := prog_13_method_63_code
def yX11_believed : MethodName := ⟨RX11, "believed", "(I)J"⟩
abbrev cX11_digit : ByteArray := prog_13_method_64_code
def yX11_digit : MethodName := ⟨RX11, "digit", "(II)I"⟩
abbrev cX11_puts0 : ByteArray := prog_13_method_65_code
def yX11_puts0 : MethodName := ⟨RX11, "puts0", "(III)Z"⟩
abbrev cX11_falls : ByteArray := prog_13_method_66_code
def yX11_falls : MethodName := ⟨RX11, "falls", "(III)I"⟩
abbrev cX11_firstWalls : ByteArray := prog_13_method_67_code
def yX11_firstWalls : MethodName := ⟨RX11, "firstWalls", "()I"⟩
abbrev cX11_safeBy : ByteArray := prog_13_method_68_code
def yX11_safeBy : MethodName := ⟨RX11, "safeBy", "(III)I"⟩
abbrev cX11_sureBy : ByteArray := prog_13_method_69_code
def yX11_sureBy : MethodName := ⟨RX11, "sureBy", "(III)I"⟩
abbrev cX11_areTens : ByteArray := prog_13_method_70_code
def yX11_areTens : MethodName := ⟨RX11, "areTens", "(II)Z"⟩
abbrev cX11_earnest : ByteArray := prog_13_method_71_code
def yX11_earnest : MethodName := ⟨RX11, "earnest", "(III)I"⟩
abbrev cX11_stands : ByteArray := prog_13_method_72_code
def yX11_stands : MethodName := ⟨RX11, "stands", "(II)I"⟩
abbrev cX11_show : ByteArray := prog_13_method_73_code
def yX11_show : MethodName := ⟨RX11, "show", "(II)I"⟩
abbrev cX11_offers : ByteArray := prog_13_method_74_code
def yX11_offers : MethodName := ⟨RX11, "offers", "(III)I"⟩
abbrev cX11_laysRest : ByteArray := prog_13_method_75_code
def yX11_laysRest : MethodName := ⟨RX11, "laysRest", "()V"⟩
abbrev cX11_mayServe : ByteArray := prog_13_method_76_code
def yX11_mayServe : MethodName := ⟨RX11, "mayServe", "(II)Z"⟩
abbrev cX11_mostNow : ByteArray := prog_13_method_77_code
def yX11_mostNow : MethodName := ⟨RX11, "mostNow", "()I"⟩
abbrev cX11_most : ByteArray := prog_13_method_78_code
def yX11_most : MethodName := ⟨RX11, "most", "()I"⟩
abbrev cX11_serves : ByteArray := prog_13_method_79_code
def yX11_serves : MethodName := ⟨RX11, "serves", "(I)I"⟩
abbrev cX11_moves : ByteArray := prog_13_method_80_code
def yX11_moves : MethodName := ⟨RX11, "moves", "([IIZ)I"⟩
abbrev cX11_movesAll : ByteArray := prog_13_method_81_code
def yX11_movesAll : MethodName := ⟨RX11, "movesAll", "([IZ)V"⟩
abbrev cX11_image : ByteArray := prog_13_method_82_code
def yX11_image : MethodName := ⟨RX11, "image", "()I"⟩
abbrev cX11_restore : ByteArray := prog_13_method_83_code
def yX11_restore : MethodName := ⟨RX11, "restore", "()I"⟩
abbrev cX11_status : ByteArray := prog_13_method_84_code
def yX11_status : MethodName := ⟨RX11, "status", "(I)I"⟩
abbrev cX11_count : ByteArray := prog_13_method_85_code
def yX11_count : MethodName := ⟨RX11, "count", "(I)I"⟩
def RJ0 : String := "java/lang/String"
abbrev cJ0_length_8abf5 : ByteArray := prog_22_method_54_code
def yJ0_length_8abf5 : MethodName := ⟨RJ0, "length", "()I"⟩
abbrev cJ0_charAt_5068e : ByteArray := prog_22_method_56_code
def yJ0_charAt_5068e : MethodName := ⟨RJ0, "charAt", "(I)C"⟩
abbrev cJ0_coder_7d493 : ByteArray := prog_22_method_152_code
def yJ0_coder_7d493 : MethodName := ⟨RJ0, "coder", "()B"⟩
abbrev cJ0_isLatin1_aae02 : ByteArray := prog_22_method_154_code
def yJ0_isLatin1_aae02 : MethodName := ⟨RJ0, "isLatin1", "()Z"⟩
abbrev cJ0_checkIndex_df160 : ByteArray := prog_22_method_155_code
def yJ0_checkIndex_df160 : MethodName := ⟨RJ0, "checkIndex", "(II)V"⟩
def RJ1 : String := "java/lang/StringLatin1"
abbrev cJ1_charAt_3b067 : ByteArray := prog_23_method_2_code
def yJ1_charAt_3b067 : MethodName := ⟨RJ1, "charAt", "([BI)C"⟩
def RJ2 : String := "java/lang/StringUTF16"
abbrev cJ2_getChar_3b067 : ByteArray := prog_24_method_5_code
def yJ2_getChar_3b067 : MethodName := ⟨RJ2, "getChar", "([BI)C"⟩
abbrev cJ2_length_9d52b : ByteArray := prog_24_method_6_code
def yJ2_length_9d52b : MethodName := ⟨RJ2, "length", "([B)I"⟩
abbrev cJ2_charAt_3b067 : ByteArray := prog_24_method_83_code
def yJ2_charAt_3b067 : MethodName := ⟨RJ2, "charAt", "([BI)C"⟩
abbrev cJ2_checkIndex_2214a : ByteArray := prog_24_method_91_code
def yJ2_checkIndex_2214a : MethodName := ⟨RJ2, "checkIndex", "(I[B)V"⟩
def RJ7 : String := "java/util/Arrays"
abbrev cJ7_fill_53178 : ByteArray := prog_29_method_103_code
def yJ7_fill_53178 : MethodName := ⟨RJ7, "fill", "([II)V"⟩
def RJ3 : String := "jdk/internal/util/Preconditions"
abbrev cJ3_checkIndex_8e157 : ByteArray := prog_31_method_11_code
def yJ3_checkIndex_8e157 : MethodName := ⟨RJ3, "checkIndex", "(IILjava/util/function/BiFunction;)I"⟩
/-! words of methods: their own, then their callees' -/
def gW (ws : List Cond) : Prop := ∀ w ∈ ws, ((w.onTables && w.keeps) = true ∨ ∃ ty, w = .arrayClass ty)
theorem gW_nil : gW [] := fun _ h => nomatch h
theorem gW_of {ws : List Cond} (h : ws.all goodWord = true) : gW ws := fun w hw => good_of_word (List.all_eq_true.mp h w hw)
theorem gW_app {a b : List Cond} (ha : gW a) (hb : gW b) : gW (a ++ b) := fun w h => (List.mem_append.mp h).elim (ha w) (hb w)
theorem gW_cons {c : Cond} {a : List Cond} (hc : goodWord c = true) (ha : gW a) : gW (c :: a) := fun w h => (List.mem_cons.mp h).elim (fun e => e ▸ good_of_word hc) (ha w)
theorem gW_in {big ws : List Cond} (hg : gW ws) (hm : ∀ w ∈ ws, w ∈ big) : GoodIn big ws := fun w h => ⟨hm w h, hg w h⟩
def woX0_init : List Cond := [Cond.methodLink RX0 3 objectInit, Cond.instanceMethod objectInit, Cond.code objectInit ⟨#[0xb1]⟩ 1 none, Cond.arrayClass .int, Cond.fieldLink RX0 11 "HiredEnemy$Annals" "lines" "[I"]
def wsX0_init : List Cond := .code yX0_init cX0_init 1 none :: (woX0_init ++ (wsX00))
theorem gwoX0_init : gW woX0_init := gW_of (by decide +kernel)
theorem gwn_0 : gW wsX00 := gW_of (by decide +kernel)
theorem gwX0_init : gW wsX0_init := gW_cons (by decide) (gW_app gwoX0_init gwn_0)
def wsX10_within : List Cond := .code yX10_within cX10_within 3 (some .boolean) :: ([])
theorem gwX10_within : gW wsX10_within := gW_cons (by decide) gW_nil
def woX0_keep : List Cond := [Cond.fieldLink RX0 15 "HiredEnemy$Course" "month" "I", Cond.fieldLink RX0 25 "HiredEnemy$Course" "now" "[I", Cond.fieldLink RX0 11 "HiredEnemy$Annals" "lines" "[I", Cond.methodLink RX0 28 arraycopyName, Cond.native arraycopyName, Cond.static arraycopyName, Cond.initialized "java/lang/System", Cond.static yX10_within, Cond.initialized RX10]
def wsX0_keep : List Cond := .code yX0_keep cX0_keep 2 none :: (woX0_keep ++ (wsX40 ++ (wsX00 ++ (wsX10_within))))
theorem gwoX0_keep : gW woX0_keep := gW_of (by decide +kernel)
theorem gwn_1 : gW wsX40 := gW_of (by decide +kernel)
theorem gwX0_keep : gW wsX0_keep := gW_cons (by decide) (gW_app gwoX0_keep (gW_app gwn_1 (gW_app gwn_0 gwX10_within)))
def woX0_lead : List Cond := [Cond.fieldLink RX0 15 "HiredEnemy$Course" "month" "I", Cond.fieldLink RX0 34 "HiredEnemy$Course" "shot" "[I", Cond.fieldLink RX0 11 "HiredEnemy$Annals" "lines" "[I", Cond.methodLink RX0 28 arraycopyName, Cond.native arraycopyName, Cond.static arraycopyName, Cond.initialized "java/lang/System", Cond.static yX10_within, Cond.initialized RX10]
def wsX0_lead : List Cond := .code yX0_lead cX0_lead 2 none :: (woX0_lead ++ (wsX40 ++ (wsX00 ++ (wsX10_within))))
theorem gwoX0_lead : gW woX0_lead := gW_of (by decide +kernel)
theorem gwX0_lead : gW wsX0_lead := gW_cons (by decide) (gW_app gwoX0_lead (gW_app gwn_1 (gW_app gwn_0 gwX10_within)))
def woX0_giveBack : List Cond := [Cond.fieldLink RX0 11 "HiredEnemy$Annals" "lines" "[I", Cond.fieldLink RX0 25 "HiredEnemy$Course" "now" "[I", Cond.methodLink RX0 28 arraycopyName, Cond.native arraycopyName, Cond.static arraycopyName, Cond.initialized "java/lang/System", Cond.fieldLink RX0 15 "HiredEnemy$Course" "month" "I", Cond.static yX10_within, Cond.initialized RX10]
def wsX0_giveBack : List Cond := .code yX0_giveBack cX0_giveBack 3 none :: (woX0_giveBack ++ (wsX00 ++ (wsX40 ++ (wsX10_within))))
theorem gwoX0_giveBack : gW woX0_giveBack := gW_of (by decide +kernel)
theorem gwX0_giveBack : gW wsX0_giveBack := gW_cons (by decide) (gW_app gwoX0_giveBack (gW_app gwn_0 (gW_app gwn_1 gwX10_within)))
def woX0_shotAt : List Cond := [Cond.fieldLink RX0 11 "HiredEnemy$Annals" "lines" "[I"]
def wsX0_shotAt : List Cond := .code yX0_shotAt cX0_shotAt 3 (some .int) :: (woX0_shotAt ++ (wsX00))
theorem gwoX0_shotAt : gW woX0_shotAt := gW_of (by decide +kernel)
theorem gwX0_shotAt : gW wsX0_shotAt := gW_cons (by decide) (gW_app gwoX0_shotAt gwn_0)
def woX0_take : List Cond := [Cond.fieldLink RX0 11 "HiredEnemy$Annals" "lines" "[I", Cond.methodLink RX0 28 arraycopyName, Cond.native arraycopyName, Cond.static arraycopyName, Cond.initialized "java/lang/System", Cond.static yX10_within, Cond.initialized RX10]
def wsX0_take : List Cond := .code yX0_take cX0_take 3 none :: (woX0_take ++ (wsX00 ++ (wsX10_within)))
theorem gwoX0_take : gW woX0_take := gW_of (by decide +kernel)
theorem gwX0_take : gW wsX0_take := gW_cons (by decide) (gW_app gwoX0_take (gW_app gwn_0 gwX10_within))
def woX1_init : List Cond := [Cond.methodLink RX1 5 objectInit, Cond.instanceMethod objectInit, Cond.code objectInit ⟨#[0xb1]⟩ 1 none, Cond.arrayClass .int, Cond.fieldLink RX1 11 "HiredEnemy$Battle" "worth" "[I", Cond.fieldLink RX1 15 "HiredEnemy$Battle" "held" "[I", Cond.fieldLink RX1 18 "HiredEnemy$Battle" "put" "[I"]
def wsX1_init : List Cond := .code yX1_init cX1_init 1 none :: (woX1_init ++ (wsX10))
theorem gwoX1_init : gW woX1_init := gW_of (by decide +kernel)
theorem gwn_2 : gW wsX10 := gW_of (by decide +kernel)
theorem gwX1_init : gW wsX1_init := gW_cons (by decide) (gW_app gwoX1_init gwn_2)
def woX1_prepare : List Cond := [Cond.fieldLink RX1 21 "HiredEnemy$Plan" "walls" "I", Cond.methodLink RX1 27 Lib.Math.min.name, Cond.static Lib.Math.min.name, Cond.initialized "java/lang/Math", Cond.code Lib.Math.min.name Lib.Math.min.code 2 (some .int), Cond.fieldLink RX1 33 "HiredEnemy$Battle" "walls" "I", Cond.fieldLink RX1 11 "HiredEnemy$Battle" "worth" "[I", Cond.fieldLink RX1 34 "HiredEnemy$Plan" "strength" "[I", Cond.fieldLink RX1 15 "HiredEnemy$Battle" "held" "[I"]
def wsX1_prepare : List Cond := .code yX1_prepare cX1_prepare 3 none :: (woX1_prepare ++ (wsX60 ++ (wsX10)))
theorem gwoX1_prepare : gW woX1_prepare := gW_of (by decide +kernel)
theorem gwn_3 : gW wsX60 := gW_of (by decide +kernel)
theorem gwX1_prepare : gW wsX1_prepare := gW_cons (by decide) (gW_app gwoX1_prepare (gW_app gwn_3 gwn_2))
def woX1_all : List Cond := [Cond.fieldLink RX1 33 "HiredEnemy$Battle" "walls" "I"]
def wsX1_all : List Cond := .code yX1_all cX1_all 1 (some .int) :: (woX1_all ++ (wsX10))
theorem gwoX1_all : gW woX1_all := gW_of (by decide +kernel)
theorem gwX1_all : gW wsX1_all := gW_cons (by decide) (gW_app gwoX1_all gwn_2)
def woX1_place : List Cond := [Cond.fieldLink RX1 18 "HiredEnemy$Battle" "put" "[I"]
def wsX1_place : List Cond := .code yX1_place cX1_place 6 (some .boolean) :: (woX1_place ++ (wsX10))
theorem gwoX1_place : gW woX1_place := gW_of (by decide +kernel)
theorem gwX1_place : gW wsX1_place := gW_cons (by decide) (gW_app gwoX1_place gwn_2)
def woX1_menToFell : List Cond := [Cond.fieldLink RX1 18 "HiredEnemy$Battle" "put" "[I", Cond.fieldLink RX1 15 "HiredEnemy$Battle" "held" "[I"]
def wsX1_menToFell : List Cond := .code yX1_menToFell cX1_menToFell 4 (some .int) :: (woX1_menToFell ++ (wsX10))
theorem gwoX1_menToFell : gW woX1_menToFell := gW_of (by decide +kernel)
theorem gwX1_menToFell : gW wsX1_menToFell := gW_cons (by decide) (gW_app gwoX1_menToFell gwn_2)
def woX1_worthOf : List Cond := [Cond.fieldLink RX1 11 "HiredEnemy$Battle" "worth" "[I"]
def wsX1_worthOf : List Cond := .code yX1_worthOf cX1_worthOf 4 (some .int) :: (woX1_worthOf ++ (wsX10))
theorem gwoX1_worthOf : gW woX1_worthOf := gW_of (by decide +kernel)
theorem gwX1_worthOf : gW wsX1_worthOf := gW_cons (by decide) (gW_app gwoX1_worthOf gwn_2)
def woX1_mostFelled : List Cond := [Cond.methodLink RX1 51 Lib.Math.max.name, Cond.static Lib.Math.max.name, Cond.initialized "java/lang/Math", Cond.code Lib.Math.max.name Lib.Math.max.code 2 (some .int), Cond.methodLink RX1 61 yX1_menToFell, Cond.instanceMethod yX1_menToFell, Cond.selects RX1 yX1_menToFell yX1_menToFell, Cond.initialized RX1, Cond.methodLink RX1 64 yX1_worthOf, Cond.instanceMethod yX1_worthOf, Cond.selects RX1 yX1_worthOf yX1_worthOf]
def wsX1_mostFelled : List Cond := .code yX1_mostFelled cX1_mostFelled 5 (some .int) :: (woX1_mostFelled ++ (wsX10 ++ (wsX1_menToFell ++ (wsX1_worthOf))))
theorem gwoX1_mostFelled : gW woX1_mostFelled := gW_of (by decide +kernel)
theorem gwX1_mostFelled : gW wsX1_mostFelled := gW_cons (by decide) (gW_app gwoX1_mostFelled (gW_app gwn_2 (gW_app gwX1_menToFell gwX1_worthOf)))
def woX1_digits : List Cond := [Cond.fieldLink RX1 33 "HiredEnemy$Battle" "walls" "I", Cond.fieldLink RX1 18 "HiredEnemy$Battle" "put" "[I"]
def wsX1_digits : List Cond := .code yX1_digits cX1_digits 3 (some .int) :: (woX1_digits ++ (wsX10))
theorem gwoX1_digits : gW woX1_digits := gW_of (by decide +kernel)
theorem gwX1_digits : gW wsX1_digits := gW_cons (by decide) (gW_app gwoX1_digits gwn_2)
def woX1_safe : List Cond := [Cond.fieldLink RX1 37 "HiredEnemy$Battle" "safeDigits" "I", Cond.methodLink RX1 51 Lib.Math.max.name, Cond.static Lib.Math.max.name, Cond.initialized "java/lang/Math", Cond.methodLink RX1 40 yX1_place, Cond.instanceMethod yX1_place, Cond.selects RX1 yX1_place yX1_place, Cond.initialized RX1, Cond.methodLink RX1 44 yX1_mostFelled, Cond.instanceMethod yX1_mostFelled, Cond.selects RX1 yX1_mostFelled yX1_mostFelled, Cond.methodLink RX1 47 yX1_digits, Cond.instanceMethod yX1_digits, Cond.selects RX1 yX1_digits yX1_digits]
def wsX1_safe : List Cond := .code yX1_safe cX1_safe 8 (some .int) :: (woX1_safe ++ (wsX10 ++ (wsX1_place ++ (wsX1_mostFelled ++ (wsX1_digits)))))
theorem gwoX1_safe : gW woX1_safe := gW_of (by decide +kernel)
theorem gwX1_safe : gW wsX1_safe := gW_cons (by decide) (gW_app gwoX1_safe (gW_app gwn_2 (gW_app gwX1_place (gW_app gwX1_mostFelled gwX1_digits))))
def woX1_menToHold : List Cond := [Cond.fieldLink RX1 18 "HiredEnemy$Battle" "put" "[I", Cond.fieldLink RX1 15 "HiredEnemy$Battle" "held" "[I", Cond.methodLink RX1 51 Lib.Math.max.name, Cond.static Lib.Math.max.name, Cond.initialized "java/lang/Math", Cond.code Lib.Math.max.name Lib.Math.max.code 2 (some .int)]
def wsX1_menToHold : List Cond := .code yX1_menToHold cX1_menToHold 4 (some .int) :: (woX1_menToHold ++ (wsX10))
theorem gwoX1_menToHold : gW woX1_menToHold := gW_of (by decide +kernel)
theorem gwX1_menToHold : gW wsX1_menToHold := gW_cons (by decide) (gW_app gwoX1_menToHold gwn_2)
def woX1_leastFelled : List Cond := [Cond.methodLink RX1 51 Lib.Math.max.name, Cond.static Lib.Math.max.name, Cond.initialized "java/lang/Math", Cond.methodLink RX1 54 yX1_all, Cond.instanceMethod yX1_all, Cond.selects RX1 yX1_all yX1_all, Cond.initialized RX1, Cond.methodLink RX1 67 yX1_menToHold, Cond.instanceMethod yX1_menToHold, Cond.selects RX1 yX1_menToHold yX1_menToHold, Cond.methodLink RX1 64 yX1_worthOf, Cond.instanceMethod yX1_worthOf, Cond.selects RX1 yX1_worthOf yX1_worthOf]
def wsX1_leastFelled : List Cond := .code yX1_leastFelled cX1_leastFelled 4 (some .int) :: (woX1_leastFelled ++ (wsX10 ++ (wsX1_all ++ (wsX1_menToHold ++ (wsX1_worthOf)))))
theorem gwoX1_leastFelled : gW woX1_leastFelled := gW_of (by decide +kernel)
theorem gwX1_leastFelled : gW wsX1_leastFelled := gW_cons (by decide) (gW_app gwoX1_leastFelled (gW_app gwn_2 (gW_app gwX1_all (gW_app gwX1_menToHold gwX1_worthOf))))
def woX1_sure : List Cond := [Cond.methodLink RX1 51 Lib.Math.max.name, Cond.static Lib.Math.max.name, Cond.initialized "java/lang/Math", Cond.methodLink RX1 54 yX1_all, Cond.instanceMethod yX1_all, Cond.selects RX1 yX1_all yX1_all, Cond.initialized RX1, Cond.methodLink RX1 40 yX1_place, Cond.instanceMethod yX1_place, Cond.selects RX1 yX1_place yX1_place, Cond.methodLink RX1 57 yX1_leastFelled, Cond.instanceMethod yX1_leastFelled, Cond.selects RX1 yX1_leastFelled yX1_leastFelled]
def wsX1_sure : List Cond := .code yX1_sure cX1_sure 6 (some .int) :: (woX1_sure ++ (wsX10 ++ (wsX1_all ++ (wsX1_place ++ (wsX1_leastFelled)))))
theorem gwoX1_sure : gW woX1_sure := gW_of (by decide +kernel)
theorem gwX1_sure : gW wsX1_sure := gW_cons (by decide) (gW_app gwoX1_sure (gW_app gwn_2 (gW_app gwX1_all (gW_app gwX1_place gwX1_leastFelled))))
def woX2_init : List Cond := [Cond.methodLink RX2 1 objectInit, Cond.instanceMethod objectInit, Cond.code objectInit ⟨#[0xb1]⟩ 1 none, Cond.arrayClass .int, Cond.fieldLink RX2 7 "HiredEnemy$Belief" "ifReal" "[I", Cond.fieldLink RX2 13 "HiredEnemy$Belief" "ifHired" "[I", Cond.fieldLink RX2 16 "HiredEnemy$Belief" "firstReal" "I", Cond.fieldLink RX2 20 "HiredEnemy$Belief" "firstHired" "I", Cond.fieldLink RX2 23 "HiredEnemy$Belief" "real" "J", Cond.fieldLink RX2 27 "HiredEnemy$Belief" "hired" "J"]
def wsX2_init : List Cond := .code yX2_init cX2_init 1 none :: (woX2_init ++ (wsX20))
theorem gwoX2_init : gW woX2_init := gW_of (by decide +kernel)
theorem gwn_4 : gW wsX20 := gW_of (by decide +kernel)
theorem gwX2_init : gW wsX2_init := gW_cons (by decide) (gW_app gwoX2_init gwn_4)
def woX2_forget : List Cond := [Cond.fieldLink RX2 16 "HiredEnemy$Belief" "firstReal" "I", Cond.fieldLink RX2 23 "HiredEnemy$Belief" "real" "J", Cond.fieldLink RX2 20 "HiredEnemy$Belief" "firstHired" "I", Cond.fieldLink RX2 27 "HiredEnemy$Belief" "hired" "J", Cond.fieldLink RX2 33 "HiredEnemy$Belief" "things" "I"]
def wsX2_forget : List Cond := .code yX2_forget cX2_forget 1 none :: (woX2_forget ++ (wsX20))
theorem gwoX2_forget : gW woX2_forget := gW_of (by decide +kernel)
theorem gwX2_forget : gW wsX2_forget := gW_cons (by decide) (gW_app gwoX2_forget gwn_4)
def woX2_start : List Cond := [Cond.fieldLink RX2 16 "HiredEnemy$Belief" "firstReal" "I", Cond.fieldLink RX2 20 "HiredEnemy$Belief" "firstHired" "I", Cond.methodLink RX2 30 yX2_forget, Cond.instanceMethod yX2_forget, Cond.selects RX2 yX2_forget yX2_forget, Cond.initialized RX2]
def wsX2_start : List Cond := .code yX2_start cX2_start 3 none :: (woX2_start ++ (wsX20 ++ (wsX2_forget)))
theorem gwoX2_start : gW woX2_start := gW_of (by decide +kernel)
theorem gwX2_start : gW wsX2_start := gW_cons (by decide) (gW_app gwoX2_start (gW_app gwn_4 gwX2_forget))
def woX2_add : List Cond := [Cond.fieldLink RX2 33 "HiredEnemy$Belief" "things" "I", Cond.fieldLink RX2 23 "HiredEnemy$Belief" "real" "J", Cond.fieldLink RX2 27 "HiredEnemy$Belief" "hired" "J"]
def wsX2_add : List Cond := .code yX2_add cX2_add 3 (some .int) :: (woX2_add ++ (wsX20))
theorem gwoX2_add : gW woX2_add := gW_of (by decide +kernel)
theorem gwX2_add : gW wsX2_add := gW_cons (by decide) (gW_app gwoX2_add gwn_4)
def woX2_leastTerm : List Cond := [Cond.fieldLink RX2 23 "HiredEnemy$Belief" "real" "J", Cond.fieldLink RX2 27 "HiredEnemy$Belief" "hired" "J"]
def wsX2_leastTerm : List Cond := .code yX2_leastTerm cX2_leastTerm 9 (some .long) :: (woX2_leastTerm ++ (wsX20))
theorem gwoX2_leastTerm : gW woX2_leastTerm := gW_of (by decide +kernel)
theorem gwX2_leastTerm : gW wsX2_leastTerm := gW_cons (by decide) (gW_app gwoX2_leastTerm gwn_4)
def woX2_take : List Cond := [Cond.fieldLink RX2 7 "HiredEnemy$Belief" "ifReal" "[I", Cond.methodLink RX2 36 arraycopyName, Cond.native arraycopyName, Cond.static arraycopyName, Cond.initialized "java/lang/System", Cond.fieldLink RX2 13 "HiredEnemy$Belief" "ifHired" "[I", Cond.fieldLink RX2 16 "HiredEnemy$Belief" "firstReal" "I", Cond.fieldLink RX2 20 "HiredEnemy$Belief" "firstHired" "I", Cond.fieldLink RX2 23 "HiredEnemy$Belief" "real" "J", Cond.fieldLink RX2 27 "HiredEnemy$Belief" "hired" "J", Cond.fieldLink RX2 33 "HiredEnemy$Belief" "things" "I"]
def wsX2_take : List Cond := .code yX2_take cX2_take 2 none :: (woX2_take ++ (wsX20))
theorem gwoX2_take : gW woX2_take := gW_of (by decide +kernel)
theorem gwX2_take : gW wsX2_take := gW_cons (by decide) (gW_app gwoX2_take gwn_4)
def woX3_init : List Cond := [Cond.methodLink RX3 1 objectInit, Cond.instanceMethod objectInit, Cond.code objectInit ⟨#[0xb1]⟩ 1 none, Cond.arrayClass .int, Cond.fieldLink RX3 9 "HiredEnemy$Bids" "coins" "[I", Cond.fieldLink RX3 13 "HiredEnemy$Bids" "rest" "[I"]
def wsX3_init : List Cond := .code yX3_init cX3_init 1 none :: (woX3_init ++ (wsX30))
theorem gwoX3_init : gW woX3_init := gW_of (by decide +kernel)
theorem gwn_5 : gW wsX30 := gW_of (by decide +kernel)
theorem gwX3_init : gW wsX3_init := gW_cons (by decide) (gW_app gwoX3_init gwn_5)
def wsJ7_fill_53178 : List Cond := .code yJ7_fill_53178 cJ7_fill_53178 4 none :: ([])
theorem gwJ7_fill_53178 : gW wsJ7_fill_53178 := gW_cons (by decide) gW_nil
def woX3_clear : List Cond := [Cond.fieldLink RX3 9 "HiredEnemy$Bids" "coins" "[I", Cond.methodLink RX3 16 yJ7_fill_53178, Cond.static yJ7_fill_53178, Cond.initialized RJ7]
def wsX3_clear : List Cond := .code yX3_clear cX3_clear 1 none :: (woX3_clear ++ (wsX30 ++ (wsJ7_fill_53178)))
theorem gwoX3_clear : gW woX3_clear := gW_of (by decide +kernel)
theorem gwX3_clear : gW wsX3_clear := gW_cons (by decide) (gW_app gwoX3_clear (gW_app gwn_5 gwJ7_fill_53178))
def woX3_bid : List Cond := [Cond.fieldLink RX3 9 "HiredEnemy$Bids" "coins" "[I"]
def wsX3_bid : List Cond := .code yX3_bid cX3_bid 6 (some .int) :: (woX3_bid ++ (wsX30))
theorem gwoX3_bid : gW woX3_bid := gW_of (by decide +kernel)
theorem gwX3_bid : gW wsX3_bid := gW_cons (by decide) (gW_app gwoX3_bid gwn_5)
def wsX3_mayFollow : List Cond := .code yX3_mayFollow cX3_mayFollow 2 (some .boolean) :: ([])
theorem gwX3_mayFollow : gW wsX3_mayFollow := gW_cons (by decide) gW_nil
def woX3_through : List Cond := [Cond.fieldLink RX3 9 "HiredEnemy$Bids" "coins" "[I", Cond.fieldLink RX3 13 "HiredEnemy$Bids" "rest" "[I"]
def wsX3_through : List Cond := .code yX3_through cX3_through 3 (some .int) :: (woX3_through ++ (wsX30))
theorem gwoX3_through : gW woX3_through := gW_of (by decide +kernel)
theorem gwX3_through : gW wsX3_through := gW_cons (by decide) (gW_app gwoX3_through gwn_5)
def woX3_mostFrom : List Cond := [Cond.methodLink RX3 33 Lib.Math.max.name, Cond.static Lib.Math.max.name, Cond.initialized "java/lang/Math", Cond.code Lib.Math.max.name Lib.Math.max.code 2 (some .int), Cond.methodLink RX3 26 yX3_mayFollow, Cond.static yX3_mayFollow, Cond.initialized RX3, Cond.methodLink RX3 30 yX3_through, Cond.instanceMethod yX3_through, Cond.selects RX3 yX3_through yX3_through]
def wsX3_mostFrom : List Cond := .code yX3_mostFrom cX3_mostFrom 5 (some .int) :: (woX3_mostFrom ++ (wsX30 ++ (wsX3_mayFollow ++ (wsX3_through))))
theorem gwoX3_mostFrom : gW woX3_mostFrom := gW_of (by decide +kernel)
theorem gwX3_mostFrom : gW wsX3_mostFrom := gW_cons (by decide) (gW_app gwoX3_mostFrom (gW_app gwn_5 (gW_app gwX3_mayFollow gwX3_through)))
def woX3_mostCoin : List Cond := [Cond.fieldLink RX3 13 "HiredEnemy$Bids" "rest" "[I", Cond.methodLink RX3 22 yX3_mostFrom, Cond.instanceMethod yX3_mostFrom, Cond.selects RX3 yX3_mostFrom yX3_mostFrom, Cond.initialized RX3, Cond.static Lib.Math.max.name, Cond.initialized "java/lang/Math"]
def wsX3_mostCoin : List Cond := .code yX3_mostCoin cX3_mostCoin 3 (some .int) :: (woX3_mostCoin ++ (wsX30 ++ (wsX3_mostFrom)))
theorem gwoX3_mostCoin : gW woX3_mostCoin := gW_of (by decide +kernel)
theorem gwX3_mostCoin : gW wsX3_mostCoin := gW_cons (by decide) (gW_app gwoX3_mostCoin (gW_app gwn_5 gwX3_mostFrom))
def woX3_firstWay : List Cond := [Cond.fieldLink RX3 13 "HiredEnemy$Bids" "rest" "[I", Cond.methodLink RX3 26 yX3_mayFollow, Cond.static yX3_mayFollow, Cond.initialized RX3, Cond.methodLink RX3 30 yX3_through, Cond.instanceMethod yX3_through, Cond.selects RX3 yX3_through yX3_through]
def wsX3_firstWay : List Cond := .code yX3_firstWay cX3_firstWay 4 (some .int) :: (woX3_firstWay ++ (wsX30 ++ (wsX3_mayFollow ++ (wsX3_through))))
theorem gwoX3_firstWay : gW woX3_firstWay := gW_of (by decide +kernel)
theorem gwX3_firstWay : gW wsX3_firstWay := gW_cons (by decide) (gW_app gwoX3_firstWay (gW_app gwn_5 (gW_app gwX3_mayFollow gwX3_through)))
def woX3_served : List Cond := [Cond.methodLink RX3 38 yX3_mostCoin, Cond.instanceMethod yX3_mostCoin, Cond.selects RX3 yX3_mostCoin yX3_mostCoin, Cond.initialized RX3, Cond.static Lib.Math.max.name, Cond.initialized "java/lang/Math", Cond.methodLink RX3 42 yX3_firstWay, Cond.instanceMethod yX3_firstWay, Cond.selects RX3 yX3_firstWay yX3_firstWay]
def wsX3_served : List Cond := .code yX3_served cX3_served 4 (some .int) :: (woX3_served ++ (wsX30 ++ (wsX3_mostCoin ++ (wsX3_firstWay))))
theorem gwoX3_served : gW woX3_served := gW_of (by decide +kernel)
theorem gwX3_served : gW wsX3_served := gW_cons (by decide) (gW_app gwoX3_served (gW_app gwn_5 (gW_app gwX3_mostCoin gwX3_firstWay)))
def woX3_take : List Cond := [Cond.fieldLink RX3 9 "HiredEnemy$Bids" "coins" "[I", Cond.methodLink RX3 45 arraycopyName, Cond.native arraycopyName, Cond.static arraycopyName, Cond.initialized "java/lang/System"]
def wsX3_take : List Cond := .code yX3_take cX3_take 2 none :: (woX3_take ++ (wsX30))
theorem gwoX3_take : gW woX3_take := gW_of (by decide +kernel)
theorem gwX3_take : gW wsX3_take := gW_cons (by decide) (gW_app gwoX3_take gwn_5)
def woX4_init : List Cond := [Cond.methodLink RX4 3 objectInit, Cond.instanceMethod objectInit, Cond.code objectInit ⟨#[0xb1]⟩ 1 none, Cond.arrayClass .int, Cond.fieldLink RX4 9 "HiredEnemy$Course" "now" "[I", Cond.fieldLink RX4 15 "HiredEnemy$Course" "shot" "[I"]
def wsX4_init : List Cond := .code yX4_init cX4_init 1 none :: (woX4_init ++ (wsX40))
theorem gwoX4_init : gW woX4_init := gW_of (by decide +kernel)
theorem gwX4_init : gW wsX4_init := gW_cons (by decide) (gW_app gwoX4_init gwn_1)
def woX4_begin : List Cond := [Cond.fieldLink RX4 18 "HiredEnemy$Course" "month" "I", Cond.fieldLink RX4 9 "HiredEnemy$Course" "now" "[I", Cond.fieldLink RX4 28 "HiredEnemy$Plan" "said" "[I", Cond.fieldLink RX4 33 "HiredEnemy$Plan" "walls" "I", Cond.fieldLink RX4 36 "HiredEnemy$Plan" "strength" "[I", Cond.methodLink RX4 22 yJ7_fill_53178, Cond.static yJ7_fill_53178, Cond.initialized RJ7]
def wsX4_begin : List Cond := .code yX4_begin cX4_begin 3 none :: (woX4_begin ++ (wsX40 ++ (wsX60 ++ (wsJ7_fill_53178))))
theorem gwoX4_begin : gW woX4_begin := gW_of (by decide +kernel)
theorem gwX4_begin : gW wsX4_begin := gW_cons (by decide) (gW_app gwoX4_begin (gW_app gwn_1 (gW_app gwn_3 gwJ7_fill_53178)))
def woX4_take : List Cond := [Cond.fieldLink RX4 9 "HiredEnemy$Course" "now" "[I", Cond.methodLink RX4 39 arraycopyName, Cond.native arraycopyName, Cond.static arraycopyName, Cond.initialized "java/lang/System", Cond.fieldLink RX4 18 "HiredEnemy$Course" "month" "I"]
def wsX4_take : List Cond := .code yX4_take cX4_take 2 none :: (woX4_take ++ (wsX40))
theorem gwoX4_take : gW woX4_take := gW_of (by decide +kernel)
theorem gwX4_take : gW wsX4_take := gW_cons (by decide) (gW_app gwoX4_take gwn_1)
def woX4_pledge : List Cond := [Cond.fieldLink RX4 9 "HiredEnemy$Course" "now" "[I", Cond.fieldLink RX4 18 "HiredEnemy$Course" "month" "I"]
def wsX4_pledge : List Cond := .code yX4_pledge cX4_pledge 2 none :: (woX4_pledge ++ (wsX40))
theorem gwoX4_pledge : gW woX4_pledge := gW_of (by decide +kernel)
theorem gwX4_pledge : gW wsX4_pledge := gW_cons (by decide) (gW_app gwoX4_pledge gwn_1)
def woX4_move : List Cond := [Cond.fieldLink RX4 9 "HiredEnemy$Course" "now" "[I", Cond.methodLink RX4 81 Lib.Math.min.name, Cond.static Lib.Math.min.name, Cond.initialized "java/lang/Math", Cond.code Lib.Math.min.name Lib.Math.min.code 2 (some .int)]
def wsX4_move : List Cond := .code yX4_move cX4_move 5 none :: (woX4_move ++ (wsX40))
theorem gwoX4_move : gW woX4_move := gW_of (by decide +kernel)
theorem gwX4_move : gW wsX4_move := gW_cons (by decide) (gW_app gwoX4_move gwn_1)
def woX5_winterPay : List Cond := [Cond.fieldLink RX5 11 "HiredEnemy$Pact" "said" "[I"]
def wsX5_winterPay : List Cond := .code yX5_winterPay cX5_winterPay 1 (some .int) :: (woX5_winterPay ++ (wsX50))
theorem gwoX5_winterPay : gW woX5_winterPay := gW_of (by decide +kernel)
theorem gwn_6 : gW wsX50 := gW_of (by decide +kernel)
theorem gwX5_winterPay : gW wsX5_winterPay := gW_cons (by decide) (gW_app gwoX5_winterPay gwn_6)
def woX5_payIn : List Cond := [Cond.fieldLink RX5 11 "HiredEnemy$Pact" "said" "[I", Cond.methodLink RX5 45 yX5_winterPay, Cond.instanceMethod yX5_winterPay, Cond.selects RX5 yX5_winterPay yX5_winterPay, Cond.initialized RX5]
def wsX5_payIn : List Cond := .code yX5_payIn cX5_payIn 3 (some .int) :: (woX5_payIn ++ (wsX50 ++ (wsX5_winterPay)))
theorem gwoX5_payIn : gW woX5_payIn := gW_of (by decide +kernel)
theorem gwX5_payIn : gW wsX5_payIn := gW_cons (by decide) (gW_app gwoX5_payIn (gW_app gwn_6 gwX5_winterPay))
def woX4_isPaid : List Cond := [Cond.fieldLink RX4 18 "HiredEnemy$Course" "month" "I", Cond.fieldLink RX4 9 "HiredEnemy$Course" "now" "[I", Cond.methodLink RX4 84 yX5_payIn, Cond.instanceMethod yX5_payIn, Cond.selects RX5 yX5_payIn yX5_payIn, Cond.initialized RX5, Cond.methodLink RX4 45 yX4_move, Cond.instanceMethod yX4_move, Cond.selects RX4 yX4_move yX4_move, Cond.initialized RX4, Cond.static Lib.Math.min.name, Cond.initialized "java/lang/Math"]
def wsX4_isPaid : List Cond := .code yX4_isPaid cX4_isPaid 3 (some .boolean) :: (woX4_isPaid ++ (wsX40 ++ (wsX50 ++ (wsX5_payIn ++ (wsX4_move)))))
theorem gwoX4_isPaid : gW woX4_isPaid := gW_of (by decide +kernel)
theorem gwX4_isPaid : gW wsX4_isPaid := gW_cons (by decide) (gW_app gwoX4_isPaid (gW_app gwn_1 (gW_app gwn_6 (gW_app gwX5_payIn gwX4_move))))
def woX5_wallDue : List Cond := [Cond.fieldLink RX5 15 "HiredEnemy$Pact" "wallByMonth" "[I", Cond.static yX10_within, Cond.initialized RX10]
def wsX5_wallDue : List Cond := .code yX5_wallDue cX5_wallDue 4 (some .int) :: (woX5_wallDue ++ (wsX50 ++ (wsX10_within)))
theorem gwoX5_wallDue : gW woX5_wallDue := gW_of (by decide +kernel)
theorem gwX5_wallDue : gW wsX5_wallDue := gW_cons (by decide) (gW_app gwoX5_wallDue (gW_app gwn_6 gwX10_within))
def woX4_weakest : List Cond := [Cond.fieldLink RX4 9 "HiredEnemy$Course" "now" "[I"]
def wsX4_weakest : List Cond := .code yX4_weakest cX4_weakest 4 (some .int) :: (woX4_weakest ++ (wsX40))
theorem gwoX4_weakest : gW woX4_weakest := gW_of (by decide +kernel)
theorem gwX4_weakest : gW wsX4_weakest := gW_cons (by decide) (gW_app gwoX4_weakest gwn_1)
def woX4_frighten : List Cond := [Cond.fieldLink RX4 9 "HiredEnemy$Course" "now" "[I", Cond.methodLink RX4 81 Lib.Math.min.name, Cond.static Lib.Math.min.name, Cond.initialized "java/lang/Math", Cond.code Lib.Math.min.name Lib.Math.min.code 2 (some .int)]
def wsX4_frighten : List Cond := .code yX4_frighten cX4_frighten 2 none :: (woX4_frighten ++ (wsX40))
theorem gwoX4_frighten : gW woX4_frighten := gW_of (by decide +kernel)
theorem gwX4_frighten : gW wsX4_frighten := gW_cons (by decide) (gW_app gwoX4_frighten gwn_1)
def woX4_breach : List Cond := [Cond.fieldLink RX4 9 "HiredEnemy$Course" "now" "[I", Cond.fieldLink RX4 36 "HiredEnemy$Plan" "strength" "[I", Cond.fieldLink RX4 28 "HiredEnemy$Plan" "said" "[I", Cond.fieldLink RX4 57 "HiredEnemy$Pact" "said" "[I", Cond.methodLink RX4 64 yX4_frighten, Cond.instanceMethod yX4_frighten, Cond.selects RX4 yX4_frighten yX4_frighten, Cond.initialized RX4, Cond.static Lib.Math.min.name, Cond.initialized "java/lang/Math", Cond.methodLink RX4 45 yX4_move, Cond.instanceMethod yX4_move, Cond.selects RX4 yX4_move yX4_move]
def wsX4_breach : List Cond := .code yX4_breach cX4_breach 4 none :: (woX4_breach ++ (wsX40 ++ (wsX60 ++ (wsX50 ++ (wsX4_frighten ++ (wsX4_move))))))
theorem gwoX4_breach : gW woX4_breach := gW_of (by decide +kernel)
theorem gwX4_breach : gW wsX4_breach := gW_cons (by decide) (gW_app gwoX4_breach (gW_app gwn_1 (gW_app gwn_3 (gW_app gwn_6 (gW_app gwX4_frighten gwX4_move)))))
def woX4_shoot : List Cond := [Cond.fieldLink RX4 18 "HiredEnemy$Course" "month" "I", Cond.fieldLink RX4 9 "HiredEnemy$Course" "now" "[I", Cond.fieldLink RX4 33 "HiredEnemy$Plan" "walls" "I", Cond.fieldLink RX4 57 "HiredEnemy$Pact" "said" "[I", Cond.fieldLink RX4 15 "HiredEnemy$Course" "shot" "[I", Cond.methodLink RX4 87 yX5_wallDue, Cond.instanceMethod yX5_wallDue, Cond.selects RX5 yX5_wallDue yX5_wallDue, Cond.initialized RX5, Cond.initialized RX10, Cond.methodLink RX4 90 yX4_weakest, Cond.instanceMethod yX4_weakest, Cond.selects RX4 yX4_weakest yX4_weakest, Cond.initialized RX4, Cond.methodLink RX4 93 yX4_breach, Cond.instanceMethod yX4_breach, Cond.selects RX4 yX4_breach yX4_breach, Cond.static Lib.Math.min.name, Cond.initialized "java/lang/Math"]
def wsX4_shoot : List Cond := .code yX4_shoot cX4_shoot 9 none :: (woX4_shoot ++ (wsX40 ++ (wsX60 ++ (wsX50 ++ (wsX5_wallDue ++ (wsX4_weakest ++ (wsX4_breach)))))))
theorem gwoX4_shoot : gW woX4_shoot := gW_of (by decide +kernel)
theorem gwX4_shoot : gW wsX4_shoot := gW_cons (by decide) (gW_app gwoX4_shoot (gW_app gwn_1 (gW_app gwn_3 (gW_app gwn_6 (gW_app gwX5_wallDue (gW_app gwX4_weakest gwX4_breach))))))
def woX6_fearAt : List Cond := [Cond.fieldLink RX6 18 "HiredEnemy$Plan" "fearByNear" "[I", Cond.static yX10_within, Cond.initialized RX10]
def wsX6_fearAt : List Cond := .code yX6_fearAt cX6_fearAt 2 (some .int) :: (woX6_fearAt ++ (wsX60 ++ (wsX10_within)))
theorem gwoX6_fearAt : gW woX6_fearAt := gW_of (by decide +kernel)
theorem gwX6_fearAt : gW wsX6_fearAt := gW_cons (by decide) (gW_app gwoX6_fearAt (gW_app gwn_3 gwX10_within))
def woX4_mend : List Cond := [Cond.fieldLink RX4 28 "HiredEnemy$Plan" "said" "[I", Cond.fieldLink RX4 33 "HiredEnemy$Plan" "walls" "I", Cond.fieldLink RX4 97 "HiredEnemy$Plan" "mended" "[I", Cond.fieldLink RX4 36 "HiredEnemy$Plan" "strength" "[I", Cond.fieldLink RX4 9 "HiredEnemy$Course" "now" "[I", Cond.methodLink RX4 81 Lib.Math.min.name, Cond.static Lib.Math.min.name, Cond.initialized "java/lang/Math", Cond.methodLink RX4 45 yX4_move, Cond.instanceMethod yX4_move, Cond.selects RX4 yX4_move yX4_move, Cond.initialized RX4]
def wsX4_mend : List Cond := .code yX4_mend cX4_mend 5 none :: (woX4_mend ++ (wsX60 ++ (wsX40 ++ (wsX4_move))))
theorem gwoX4_mend : gW woX4_mend := gW_of (by decide +kernel)
theorem gwX4_mend : gW wsX4_mend := gW_cons (by decide) (gW_app gwoX4_mend (gW_app gwn_3 (gW_app gwn_1 gwX4_move)))
def woX4_desert : List Cond := [Cond.fieldLink RX4 9 "HiredEnemy$Course" "now" "[I", Cond.methodLink RX4 100 Lib.Math.abs.name, Cond.static Lib.Math.abs.name, Cond.initialized "java/lang/Math", Cond.code Lib.Math.abs.name Lib.Math.abs.code 1 (some .int)]
def wsX4_desert : List Cond := .code yX4_desert cX4_desert 5 none :: (woX4_desert ++ (wsX40))
theorem gwoX4_desert : gW woX4_desert := gW_of (by decide +kernel)
theorem gwX4_desert : gW wsX4_desert := gW_cons (by decide) (gW_app gwoX4_desert gwn_1)
def woX4_pass : List Cond := [Cond.fieldLink RX4 15 "HiredEnemy$Course" "shot" "[I", Cond.fieldLink RX4 9 "HiredEnemy$Course" "now" "[I", Cond.fieldLink RX4 28 "HiredEnemy$Plan" "said" "[I", Cond.fieldLink RX4 57 "HiredEnemy$Pact" "said" "[I", Cond.methodLink RX4 68 Lib.Math.max.name, Cond.static Lib.Math.max.name, Cond.initialized "java/lang/Math", Cond.code Lib.Math.max.name Lib.Math.max.code 2 (some .int), Cond.fieldLink RX4 18 "HiredEnemy$Course" "month" "I", Cond.methodLink RX4 22 yJ7_fill_53178, Cond.static yJ7_fill_53178, Cond.initialized RJ7, Cond.methodLink RX4 45 yX4_move, Cond.instanceMethod yX4_move, Cond.selects RX4 yX4_move yX4_move, Cond.initialized RX4, Cond.static Lib.Math.min.name, Cond.methodLink RX4 49 yX4_isPaid, Cond.instanceMethod yX4_isPaid, Cond.selects RX4 yX4_isPaid yX4_isPaid, Cond.initialized RX5, Cond.methodLink RX4 53 yX4_shoot, Cond.instanceMethod yX4_shoot, Cond.selects RX4 yX4_shoot yX4_shoot, Cond.initialized RX10, Cond.methodLink RX4 64 yX4_frighten, Cond.instanceMethod yX4_frighten, Cond.selects RX4 yX4_frighten yX4_frighten, Cond.methodLink RX4 60 yX6_fearAt, Cond.instanceMethod yX6_fearAt, Cond.selects RX6 yX6_fearAt yX6_fearAt, Cond.initialized RX6, Cond.methodLink RX4 74 yX4_mend, Cond.instanceMethod yX4_mend, Cond.selects RX4 yX4_mend yX4_mend, Cond.methodLink RX4 78 yX4_desert, Cond.instanceMethod yX4_desert, Cond.selects RX4 yX4_desert yX4_desert, Cond.static Lib.Math.abs.name]
def wsX4_pass : List Cond := .code yX4_pass cX4_pass 3 none :: (woX4_pass ++ (wsX40 ++ (wsX60 ++ (wsX50 ++ (wsJ7_fill_53178 ++ (wsX4_move ++ (wsX4_isPaid ++ (wsX4_shoot ++ (wsX6_fearAt ++ (wsX4_frighten ++ (wsX4_mend ++ (wsX4_desert))))))))))))
theorem gwoX4_pass : gW woX4_pass := gW_of (by decide +kernel)
theorem gwX4_pass : gW wsX4_pass := gW_cons (by decide) (gW_app gwoX4_pass (gW_app gwn_1 (gW_app gwn_3 (gW_app gwn_6 (gW_app gwJ7_fill_53178 (gW_app gwX4_move (gW_app gwX4_isPaid (gW_app gwX4_shoot (gW_app gwX6_fearAt (gW_app gwX4_frighten (gW_app gwX4_mend gwX4_desert)))))))))))
def woX9_init : List Cond := [Cond.methodLink RX9 1 objectInit, Cond.instanceMethod objectInit, Cond.code objectInit ⟨#[0xb1]⟩ 1 none]
def wsX9_init : List Cond := .code yX9_init cX9_init 1 none :: (woX9_init)
theorem gwoX9_init : gW woX9_init := gW_of (by decide +kernel)
theorem gwX9_init : gW wsX9_init := gW_cons (by decide) gwoX9_init
def woX5_init : List Cond := [Cond.arrayClass .int, Cond.fieldLink RX5 11 "HiredEnemy$Pact" "said" "[I", Cond.fieldLink RX5 15 "HiredEnemy$Pact" "wallByMonth" "[I", Cond.instanceMethod yX9_init, Cond.initialized RX9, Cond.instanceMethod objectInit]
def wsX5_init : List Cond := .code yX5_init cX5_init 1 none :: (woX5_init ++ (wsX50 ++ (wsX9_init)))
theorem gwoX5_init : gW woX5_init := gW_of (by decide +kernel)
theorem gwX5_init : gW wsX5_init := gW_cons (by decide) (gW_app gwoX5_init (gW_app gwn_6 gwX9_init))
def woX5_clear : List Cond := [Cond.fieldLink RX5 18 "HiredEnemy$Pact" "walls" "I", Cond.fieldLink RX5 11 "HiredEnemy$Pact" "said" "[I", Cond.fieldLink RX5 15 "HiredEnemy$Pact" "wallByMonth" "[I", Cond.methodLink RX5 22 yJ7_fill_53178, Cond.static yJ7_fill_53178, Cond.initialized RJ7]
def wsX5_clear : List Cond := .code yX5_clear cX5_clear 2 none :: (woX5_clear ++ (wsX50 ++ (wsJ7_fill_53178)))
theorem gwoX5_clear : gW woX5_clear := gW_of (by decide +kernel)
theorem gwX5_clear : gW wsX5_clear := gW_cons (by decide) (gW_app gwoX5_clear (gW_app gwn_6 gwJ7_fill_53178))
def woX5_propose : List Cond := [Cond.fieldLink RX5 11 "HiredEnemy$Pact" "said" "[I", Cond.methodLink RX5 28 yX5_clear, Cond.instanceMethod yX5_clear, Cond.selects RX5 yX5_clear yX5_clear, Cond.initialized RX5, Cond.initialized RJ7]
def wsX5_propose : List Cond := .code yX5_propose cX5_propose 5 none :: (woX5_propose ++ (wsX50 ++ (wsX5_clear)))
theorem gwoX5_propose : gW woX5_propose := gW_of (by decide +kernel)
theorem gwX5_propose : gW wsX5_propose := gW_cons (by decide) (gW_app gwoX5_propose (gW_app gwn_6 gwX5_clear))
def wsX5_words : List Cond := .code yX5_words cX5_words 1 (some (.object "java/lang/String")) :: ([])
theorem gwX5_words : gW wsX5_words := gW_cons (by decide) gW_nil
def wsX5_mostParts : List Cond := .code yX5_mostParts cX5_mostParts 1 (some .int) :: ([])
theorem gwX5_mostParts : gW wsX5_mostParts := gW_cons (by decide) gW_nil
def wsX5_isFull : List Cond := .code yX5_isFull cX5_isFull 2 (some .boolean) :: ([])
theorem gwX5_isFull : gW wsX5_isFull := gW_cons (by decide) gW_nil
def wsX5_numbers : List Cond := .code yX5_numbers cX5_numbers 2 (some .int) :: ([])
theorem gwX5_numbers : gW wsX5_numbers := gW_cons (by decide) gW_nil
def wsX5_low : List Cond := .code yX5_low cX5_low 3 (some .int) :: ([])
theorem gwX5_low : gW wsX5_low := gW_cons (by decide) gW_nil
def woX5_high : List Cond := [Cond.fieldLink RX5 18 "HiredEnemy$Pact" "walls" "I", Cond.fieldLink RX5 34 "HiredEnemy$Pact" "HIGH" "[I", Cond.static yX10_within, Cond.initialized RX10]
def wsX5_high : List Cond := .code yX5_high cX5_high 3 (some .int) :: (woX5_high ++ (wsX50 ++ (wsX10_within)))
theorem gwoX5_high : gW woX5_high := gW_of (by decide +kernel)
theorem gwX5_high : gW wsX5_high := gW_cons (by decide) (gW_app gwoX5_high (gW_app gwn_6 gwX10_within))
def woX5_store : List Cond := [Cond.fieldLink RX5 15 "HiredEnemy$Pact" "wallByMonth" "[I", Cond.fieldLink RX5 11 "HiredEnemy$Pact" "said" "[I", Cond.static yX10_within, Cond.initialized RX10]
def wsX5_store : List Cond := .code yX5_store cX5_store 3 none :: (woX5_store ++ (wsX50 ++ (wsX10_within)))
theorem gwoX5_store : gW woX5_store := gW_of (by decide +kernel)
theorem gwX5_store : gW wsX5_store := gW_cons (by decide) (gW_app gwoX5_store (gW_app gwn_6 gwX10_within))
def woX5_breachesTold : List Cond := [Cond.fieldLink RX5 15 "HiredEnemy$Pact" "wallByMonth" "[I"]
def wsX5_breachesTold : List Cond := .code yX5_breachesTold cX5_breachesTold 6 (some .int) :: (woX5_breachesTold ++ (wsX50))
theorem gwoX5_breachesTold : gW woX5_breachesTold := gW_of (by decide +kernel)
theorem gwX5_breachesTold : gW wsX5_breachesTold := gW_cons (by decide) (gW_app gwoX5_breachesTold gwn_6)
def woX5_answer : List Cond := [Cond.fieldLink RX5 11 "HiredEnemy$Pact" "said" "[I", Cond.methodLink RX5 41 yX5_breachesTold, Cond.instanceMethod yX5_breachesTold, Cond.selects RX5 yX5_breachesTold yX5_breachesTold, Cond.initialized RX5, Cond.methodLink RX5 45 yX5_winterPay, Cond.instanceMethod yX5_winterPay, Cond.selects RX5 yX5_winterPay yX5_winterPay]
def wsX5_answer : List Cond := .code yX5_answer cX5_answer 2 (some .int) :: (woX5_answer ++ (wsX50 ++ (wsX5_breachesTold ++ (wsX5_winterPay))))
theorem gwoX5_answer : gW woX5_answer := gW_of (by decide +kernel)
theorem gwX5_answer : gW wsX5_answer := gW_cons (by decide) (gW_app gwoX5_answer (gW_app gwn_6 (gW_app gwX5_breachesTold gwX5_winterPay)))
def woX6_clear : List Cond := [Cond.fieldLink RX6 30 "HiredEnemy$Plan" "walls" "I", Cond.fieldLink RX6 15 "HiredEnemy$Plan" "said" "[I", Cond.fieldLink RX6 9 "HiredEnemy$Plan" "UNTOLD" "[I", Cond.fieldLink RX6 18 "HiredEnemy$Plan" "fearByNear" "[I"]
def wsX6_clear : List Cond := .code yX6_clear cX6_clear 2 none :: (woX6_clear ++ (wsX60))
theorem gwoX6_clear : gW woX6_clear := gW_of (by decide +kernel)
theorem gwX6_clear : gW wsX6_clear := gW_cons (by decide) (gW_app gwoX6_clear gwn_3)
def woX6_init : List Cond := [Cond.fieldLink RX6 9 "HiredEnemy$Plan" "UNTOLD" "[I", Cond.arrayClass .int, Cond.fieldLink RX6 15 "HiredEnemy$Plan" "said" "[I", Cond.fieldLink RX6 18 "HiredEnemy$Plan" "fearByNear" "[I", Cond.fieldLink RX6 21 "HiredEnemy$Plan" "strength" "[I", Cond.fieldLink RX6 24 "HiredEnemy$Plan" "mended" "[I", Cond.instanceMethod yX9_init, Cond.initialized RX9, Cond.instanceMethod objectInit, Cond.methodLink RX6 27 yX6_clear, Cond.instanceMethod yX6_clear, Cond.selects RX6 yX6_clear yX6_clear, Cond.initialized RX6]
def wsX6_init : List Cond := .code yX6_init cX6_init 1 none :: (woX6_init ++ (wsX60 ++ (wsX9_init ++ (wsX6_clear))))
theorem gwoX6_init : gW woX6_init := gW_of (by decide +kernel)
theorem gwX6_init : gW wsX6_init := gW_cons (by decide) (gW_app gwoX6_init (gW_app gwn_3 (gW_app gwX9_init gwX6_clear)))
def wsX6_words : List Cond := .code yX6_words cX6_words 1 (some (.object "java/lang/String")) :: ([])
theorem gwX6_words : gW wsX6_words := gW_cons (by decide) gW_nil
def wsX6_mostParts : List Cond := .code yX6_mostParts cX6_mostParts 1 (some .int) :: ([])
theorem gwX6_mostParts : gW wsX6_mostParts := gW_cons (by decide) gW_nil
def woX6_isFull : List Cond := [Cond.fieldLink RX6 30 "HiredEnemy$Plan" "walls" "I"]
def wsX6_isFull : List Cond := .code yX6_isFull cX6_isFull 2 (some .boolean) :: (woX6_isFull ++ (wsX60))
theorem gwoX6_isFull : gW woX6_isFull := gW_of (by decide +kernel)
theorem gwX6_isFull : gW wsX6_isFull := gW_cons (by decide) (gW_app gwoX6_isFull gwn_3)
def woX6_numbers : List Cond := [Cond.fieldLink RX6 36 "HiredEnemy$Plan" "NUMBERS" "[I", Cond.static yX10_within, Cond.initialized RX10]
def wsX6_numbers : List Cond := .code yX6_numbers cX6_numbers 2 (some .int) :: (woX6_numbers ++ (wsX10_within))
theorem gwoX6_numbers : gW woX6_numbers := gW_of (by decide +kernel)
theorem gwX6_numbers : gW wsX6_numbers := gW_cons (by decide) (gW_app gwoX6_numbers gwX10_within)
def wsX6_low : List Cond := .code yX6_low cX6_low 3 (some .int) :: ([])
theorem gwX6_low : gW wsX6_low := gW_cons (by decide) gW_nil
def woX6_high : List Cond := [Cond.fieldLink RX6 43 "HiredEnemy$Plan" "HIGH" "[I", Cond.static yX10_within, Cond.initialized RX10]
def wsX6_high : List Cond := .code yX6_high cX6_high 4 (some .int) :: (woX6_high ++ (wsX10_within))
theorem gwoX6_high : gW woX6_high := gW_of (by decide +kernel)
theorem gwX6_high : gW wsX6_high := gW_cons (by decide) (gW_app gwoX6_high gwX10_within)
def woX6_addWall : List Cond := [Cond.fieldLink RX6 30 "HiredEnemy$Plan" "walls" "I", Cond.fieldLink RX6 21 "HiredEnemy$Plan" "strength" "[I", Cond.fieldLink RX6 24 "HiredEnemy$Plan" "mended" "[I"]
def wsX6_addWall : List Cond := .code yX6_addWall cX6_addWall 3 none :: (woX6_addWall ++ (wsX60))
theorem gwoX6_addWall : gW woX6_addWall := gW_of (by decide +kernel)
theorem gwX6_addWall : gW wsX6_addWall := gW_cons (by decide) (gW_app gwoX6_addWall gwn_3)
def woX6_store : List Cond := [Cond.fieldLink RX6 18 "HiredEnemy$Plan" "fearByNear" "[I", Cond.fieldLink RX6 15 "HiredEnemy$Plan" "said" "[I", Cond.methodLink RX6 46 yX6_addWall, Cond.instanceMethod yX6_addWall, Cond.selects RX6 yX6_addWall yX6_addWall, Cond.initialized RX6, Cond.static yX10_within, Cond.initialized RX10, Cond.methodLink RX6 50 yX6_numbers, Cond.instanceMethod yX6_numbers, Cond.selects RX6 yX6_numbers yX6_numbers]
def wsX6_store : List Cond := .code yX6_store cX6_store 4 none :: (woX6_store ++ (wsX60 ++ (wsX6_addWall ++ (wsX10_within ++ (wsX6_numbers)))))
theorem gwoX6_store : gW woX6_store := gW_of (by decide +kernel)
theorem gwX6_store : gW wsX6_store := gW_cons (by decide) (gW_app gwoX6_store (gW_app gwn_3 (gW_app gwX6_addWall (gW_app gwX10_within gwX6_numbers))))
def woX6_wanted : List Cond := [Cond.fieldLink RX6 15 "HiredEnemy$Plan" "said" "[I"]
def wsX6_wanted : List Cond := .code yX6_wanted cX6_wanted 3 (some .int) :: (woX6_wanted ++ (wsX60))
theorem gwoX6_wanted : gW woX6_wanted := gW_of (by decide +kernel)
theorem gwX6_wanted : gW wsX6_wanted := gW_cons (by decide) (gW_app gwoX6_wanted gwn_3)
def woX7_init : List Cond := [Cond.methodLink RX7 3 objectInit, Cond.instanceMethod objectInit, Cond.code objectInit ⟨#[0xb1]⟩ 1 none, Cond.arrayClass .byte, Cond.fieldLink RX7 9 "HiredEnemy$Reader" "bytes" "[B", Cond.fieldLink RX7 15 "HiredEnemy$Reader" "place" "I", Cond.arrayClass .int, Cond.fieldLink RX7 19 "HiredEnemy$Reader" "numbers" "[I"]
def wsX7_init : List Cond := .code yX7_init cX7_init 1 none :: (woX7_init ++ (wsX70))
theorem gwoX7_init : gW woX7_init := gW_of (by decide +kernel)
theorem gwn_7 : gW wsX70 := gW_of (by decide +kernel)
theorem gwX7_init : gW wsX7_init := gW_cons (by decide) (gW_app gwoX7_init gwn_7)
def woX7_skipBlanks : List Cond := [Cond.fieldLink RX7 32 "HiredEnemy$Reader" "at" "I", Cond.fieldLink RX7 29 "HiredEnemy$Reader" "length" "I", Cond.fieldLink RX7 9 "HiredEnemy$Reader" "bytes" "[B"]
def wsX7_skipBlanks : List Cond := .code yX7_skipBlanks cX7_skipBlanks 1 none :: (woX7_skipBlanks ++ (wsX70))
theorem gwoX7_skipBlanks : gW woX7_skipBlanks := gW_of (by decide +kernel)
theorem gwX7_skipBlanks : gW wsX7_skipBlanks := gW_cons (by decide) (gW_app gwoX7_skipBlanks gwn_7)
def woX7_skipLetters : List Cond := [Cond.fieldLink RX7 32 "HiredEnemy$Reader" "at" "I", Cond.fieldLink RX7 29 "HiredEnemy$Reader" "length" "I", Cond.fieldLink RX7 9 "HiredEnemy$Reader" "bytes" "[B"]
def wsX7_skipLetters : List Cond := .code yX7_skipLetters cX7_skipLetters 1 none :: (woX7_skipLetters ++ (wsX70))
theorem gwoX7_skipLetters : gW woX7_skipLetters := gW_of (by decide +kernel)
theorem gwX7_skipLetters : gW wsX7_skipLetters := gW_cons (by decide) (gW_app gwoX7_skipLetters gwn_7)
def woJ0_coder_7d493 : List Cond := [Cond.fieldLink RJ0 38 "java/lang/String" "COMPACT_STRINGS" "Z", Cond.fieldLink RJ0 15 "java/lang/String" "coder" "B"]
def wsJ0_coder_7d493 : List Cond := .code yJ0_coder_7d493 cJ0_coder_7d493 1 (some .byte) :: (woJ0_coder_7d493)
theorem gwoJ0_coder_7d493 : gW woJ0_coder_7d493 := gW_of (by decide +kernel)
theorem gwJ0_coder_7d493 : gW wsJ0_coder_7d493 := gW_cons (by decide) gwoJ0_coder_7d493
def woJ0_length_8abf5 : List Cond := [Cond.fieldLink RJ0 9 "java/lang/String" "value" "[B", Cond.methodLink RJ0 335 yJ0_coder_7d493, Cond.instanceMethod yJ0_coder_7d493, Cond.selects RJ0 yJ0_coder_7d493 yJ0_coder_7d493, Cond.initialized RJ0]
def wsJ0_length_8abf5 : List Cond := .code yJ0_length_8abf5 cJ0_length_8abf5 1 (some .int) :: (woJ0_length_8abf5 ++ (wsJ0_coder_7d493))
theorem gwoJ0_length_8abf5 : gW woJ0_length_8abf5 := gW_of (by decide +kernel)
theorem gwJ0_length_8abf5 : gW wsJ0_length_8abf5 := gW_cons (by decide) (gW_app gwoJ0_length_8abf5 gwJ0_coder_7d493)
def woJ0_isLatin1_aae02 : List Cond := [Cond.fieldLink RJ0 38 "java/lang/String" "COMPACT_STRINGS" "Z", Cond.fieldLink RJ0 15 "java/lang/String" "coder" "B"]
def wsJ0_isLatin1_aae02 : List Cond := .code yJ0_isLatin1_aae02 cJ0_isLatin1_aae02 1 (some .boolean) :: (woJ0_isLatin1_aae02)
theorem gwoJ0_isLatin1_aae02 : gW woJ0_isLatin1_aae02 := gW_of (by decide +kernel)
theorem gwJ0_isLatin1_aae02 : gW wsJ0_isLatin1_aae02 := gW_cons (by decide) gwoJ0_isLatin1_aae02
def wsJ3_checkIndex_8e157 : List Cond := .code yJ3_checkIndex_8e157 cJ3_checkIndex_8e157 3 (some .int) :: ([])
theorem gwJ3_checkIndex_8e157 : gW wsJ3_checkIndex_8e157 := gW_cons (by decide) gW_nil
def woJ0_checkIndex_df160 : List Cond := [Cond.fieldLink RJ0 1053 "jdk/internal/util/Preconditions" "SIOOBE_FORMATTER" "Ljava/util/function/BiFunction;", Cond.methodLink RJ0 1059 yJ3_checkIndex_8e157, Cond.static yJ3_checkIndex_8e157, Cond.initialized RJ3]
def wsJ0_checkIndex_df160 : List Cond := .code yJ0_checkIndex_df160 cJ0_checkIndex_df160 2 none :: (woJ0_checkIndex_df160 ++ (wsJ3_checkIndex_8e157))
theorem gwoJ0_checkIndex_df160 : gW woJ0_checkIndex_df160 := gW_of (by decide +kernel)
theorem gwJ0_checkIndex_df160 : gW wsJ0_checkIndex_df160 := gW_cons (by decide) (gW_app gwoJ0_checkIndex_df160 gwJ3_checkIndex_8e157)
def woJ1_charAt_3b067 : List Cond := [Cond.methodLink RJ1 9 yJ0_checkIndex_df160, Cond.static yJ0_checkIndex_df160, Cond.initialized RJ0, Cond.initialized RJ3]
def wsJ1_charAt_3b067 : List Cond := .code yJ1_charAt_3b067 cJ1_charAt_3b067 2 (some .char) :: (woJ1_charAt_3b067 ++ (wsJ0_checkIndex_df160))
theorem gwoJ1_charAt_3b067 : gW woJ1_charAt_3b067 := gW_of (by decide +kernel)
theorem gwJ1_charAt_3b067 : gW wsJ1_charAt_3b067 := gW_cons (by decide) (gW_app gwoJ1_charAt_3b067 gwJ0_checkIndex_df160)
def wsJ2_length_9d52b : List Cond := .code yJ2_length_9d52b cJ2_length_9d52b 1 (some .int) :: ([])
theorem gwJ2_length_9d52b : gW wsJ2_length_9d52b := gW_cons (by decide) gW_nil
def woJ2_checkIndex_2214a : List Cond := [Cond.methodLink RJ2 48 yJ2_length_9d52b, Cond.static yJ2_length_9d52b, Cond.initialized RJ2, Cond.methodLink RJ2 414 yJ0_checkIndex_df160, Cond.static yJ0_checkIndex_df160, Cond.initialized RJ0, Cond.initialized RJ3]
def wsJ2_checkIndex_2214a : List Cond := .code yJ2_checkIndex_2214a cJ2_checkIndex_2214a 2 none :: (woJ2_checkIndex_2214a ++ (wsJ2_length_9d52b ++ (wsJ0_checkIndex_df160)))
theorem gwoJ2_checkIndex_2214a : gW woJ2_checkIndex_2214a := gW_of (by decide +kernel)
theorem gwJ2_checkIndex_2214a : gW wsJ2_checkIndex_2214a := gW_cons (by decide) (gW_app gwoJ2_checkIndex_2214a (gW_app gwJ2_length_9d52b gwJ0_checkIndex_df160))
def woJ2_getChar_3b067 : List Cond := [Cond.fieldLink RJ2 44 "java/lang/StringUTF16" "$assertionsDisabled" "Z", Cond.fieldLink RJ2 59 "java/lang/StringUTF16" "HI_BYTE_SHIFT" "I", Cond.fieldLink RJ2 63 "java/lang/StringUTF16" "LO_BYTE_SHIFT" "I", Cond.methodLink RJ2 48 yJ2_length_9d52b, Cond.static yJ2_length_9d52b, Cond.initialized RJ2]
def wsJ2_getChar_3b067 : List Cond := .code yJ2_getChar_3b067 cJ2_getChar_3b067 2 (some .char) :: (woJ2_getChar_3b067 ++ (wsJ2_length_9d52b))
theorem gwoJ2_getChar_3b067 : gW woJ2_getChar_3b067 := gW_of (by decide +kernel)
theorem gwJ2_getChar_3b067 : gW wsJ2_getChar_3b067 := gW_cons (by decide) (gW_app gwoJ2_getChar_3b067 gwJ2_length_9d52b)
def woJ2_charAt_3b067 : List Cond := [Cond.methodLink RJ2 67 yJ2_checkIndex_2214a, Cond.static yJ2_checkIndex_2214a, Cond.initialized RJ2, Cond.initialized RJ0, Cond.initialized RJ3, Cond.methodLink RJ2 71 yJ2_getChar_3b067, Cond.static yJ2_getChar_3b067]
def wsJ2_charAt_3b067 : List Cond := .code yJ2_charAt_3b067 cJ2_charAt_3b067 2 (some .char) :: (woJ2_charAt_3b067 ++ (wsJ2_checkIndex_2214a ++ (wsJ2_getChar_3b067)))
theorem gwoJ2_charAt_3b067 : gW woJ2_charAt_3b067 := gW_of (by decide +kernel)
theorem gwJ2_charAt_3b067 : gW wsJ2_charAt_3b067 := gW_cons (by decide) (gW_app gwoJ2_charAt_3b067 (gW_app gwJ2_checkIndex_2214a gwJ2_getChar_3b067))
def woJ0_charAt_5068e : List Cond := [Cond.fieldLink RJ0 9 "java/lang/String" "value" "[B", Cond.methodLink RJ0 492 yJ0_isLatin1_aae02, Cond.instanceMethod yJ0_isLatin1_aae02, Cond.selects RJ0 yJ0_isLatin1_aae02 yJ0_isLatin1_aae02, Cond.initialized RJ0, Cond.methodLink RJ0 495 yJ1_charAt_3b067, Cond.static yJ1_charAt_3b067, Cond.initialized RJ1, Cond.initialized RJ3, Cond.methodLink RJ0 498 yJ2_charAt_3b067, Cond.static yJ2_charAt_3b067, Cond.initialized RJ2]
def wsJ0_charAt_5068e : List Cond := .code yJ0_charAt_5068e cJ0_charAt_5068e 2 (some .char) :: (woJ0_charAt_5068e ++ (wsJ0_isLatin1_aae02 ++ (wsJ1_charAt_3b067 ++ (wsJ2_charAt_3b067))))
theorem gwoJ0_charAt_5068e : gW woJ0_charAt_5068e := gW_of (by decide +kernel)
theorem gwJ0_charAt_5068e : gW wsJ0_charAt_5068e := gW_cons (by decide) (gW_app gwoJ0_charAt_5068e (gW_app gwJ0_isLatin1_aae02 (gW_app gwJ1_charAt_3b067 gwJ2_charAt_3b067)))
def woX7_isSame : List Cond := [Cond.fieldLink RX7 32 "HiredEnemy$Reader" "at" "I", Cond.fieldLink RX7 9 "HiredEnemy$Reader" "bytes" "[B", Cond.methodLink RX7 95 yJ0_charAt_5068e, Cond.instanceMethod yJ0_charAt_5068e, Cond.selects RJ0 yJ0_charAt_5068e yJ0_charAt_5068e, Cond.initialized RJ0, Cond.initialized RJ1, Cond.initialized RJ3, Cond.initialized RJ2]
def wsX7_isSame : List Cond := .code yX7_isSame cX7_isSame 6 (some .boolean) :: (woX7_isSame ++ (wsX70 ++ (wsJ0_charAt_5068e)))
theorem gwoX7_isSame : gW woX7_isSame := gW_of (by decide +kernel)
theorem gwX7_isSame : gW wsX7_isSame := gW_cons (by decide) (gW_app gwoX7_isSame (gW_app gwn_7 gwJ0_charAt_5068e))
def woX7_kindOf : List Cond := [Cond.methodLink RX7 91 yJ0_length_8abf5, Cond.instanceMethod yJ0_length_8abf5, Cond.selects RJ0 yJ0_length_8abf5 yJ0_length_8abf5, Cond.initialized RJ0, Cond.methodLink RX7 95 yJ0_charAt_5068e, Cond.instanceMethod yJ0_charAt_5068e, Cond.selects RJ0 yJ0_charAt_5068e yJ0_charAt_5068e, Cond.initialized RJ1, Cond.initialized RJ3, Cond.initialized RJ2, Cond.methodLink RX7 99 yX7_isSame, Cond.instanceMethod yX7_isSame, Cond.selects RX7 yX7_isSame yX7_isSame, Cond.initialized RX7]
def wsX7_kindOf : List Cond := .code yX7_kindOf cX7_kindOf 6 (some .int) :: (woX7_kindOf ++ (wsX70 ++ (wsJ0_length_8abf5 ++ (wsJ0_charAt_5068e ++ (wsX7_isSame)))))
theorem gwoX7_kindOf : gW woX7_kindOf := gW_of (by decide +kernel)
theorem gwX7_kindOf : gW wsX7_kindOf := gW_cons (by decide) (gW_app gwoX7_kindOf (gW_app gwn_7 (gW_app gwJ0_length_8abf5 (gW_app gwJ0_charAt_5068e gwX7_isSame))))
def woX7_fail : List Cond := [Cond.fieldLink RX7 35 "HiredEnemy$Reader" "fault" "I", Cond.fieldLink RX7 15 "HiredEnemy$Reader" "place" "I"]
def wsX7_fail : List Cond := .code yX7_fail cX7_fail 3 (some .boolean) :: (woX7_fail ++ (wsX70))
theorem gwoX7_fail : gW woX7_fail := gW_of (by decide +kernel)
theorem gwX7_fail : gW wsX7_fail := gW_cons (by decide) (gW_app gwoX7_fail gwn_7)
def woX7_readNumber : List Cond := [Cond.fieldLink RX7 32 "HiredEnemy$Reader" "at" "I", Cond.fieldLink RX7 29 "HiredEnemy$Reader" "length" "I", Cond.fieldLink RX7 9 "HiredEnemy$Reader" "bytes" "[B", Cond.constant RX7 87 (100000), Cond.methodLink RX7 23 Lib.Math.min.name, Cond.static Lib.Math.min.name, Cond.initialized "java/lang/Math", Cond.code Lib.Math.min.name Lib.Math.min.code 2 (some .int), Cond.fieldLink RX7 19 "HiredEnemy$Reader" "numbers" "[I", Cond.methodLink RX7 44 yX7_skipBlanks, Cond.instanceMethod yX7_skipBlanks, Cond.selects RX7 yX7_skipBlanks yX7_skipBlanks, Cond.initialized RX7, Cond.methodLink RX7 62 yX7_fail, Cond.instanceMethod yX7_fail, Cond.selects RX7 yX7_fail yX7_fail, Cond.static yX10_within, Cond.initialized RX10]
def wsX7_readNumber : List Cond := .code yX7_readNumber cX7_readNumber 6 (some .boolean) :: (woX7_readNumber ++ (wsX70 ++ (wsX7_skipBlanks ++ (wsX7_fail ++ (wsX10_within)))))
theorem gwoX7_readNumber : gW woX7_readNumber := gW_of (by decide +kernel)
theorem gwX7_readNumber : gW wsX7_readNumber := gW_cons (by decide) (gW_app gwoX7_readNumber (gW_app gwn_7 (gW_app gwX7_skipBlanks (gW_app gwX7_fail gwX10_within))))
def woX7_readPart : List Cond := [Cond.fieldLink RX7 32 "HiredEnemy$Reader" "at" "I", Cond.fieldLink RX7 19 "HiredEnemy$Reader" "numbers" "[I", Cond.methodLink RX7 23 Lib.Math.min.name, Cond.static Lib.Math.min.name, Cond.initialized "java/lang/Math", Cond.fieldLink RX7 29 "HiredEnemy$Reader" "length" "I", Cond.fieldLink RX7 9 "HiredEnemy$Reader" "bytes" "[B", Cond.methodLink RX7 51 yX7_skipLetters, Cond.instanceMethod yX7_skipLetters, Cond.selects RX7 yX7_skipLetters yX7_skipLetters, Cond.initialized RX7, Cond.methodLink RX7 54 ⟨"HiredEnemy$Telling", "words", "()Ljava/lang/String;"⟩, Cond.sameMethod "HiredEnemy$Telling" "HiredEnemy$Telling" "words" "()Ljava/lang/String;", Cond.selects RX5 ⟨"HiredEnemy$Telling", "words", "()Ljava/lang/String;"⟩ yX5_words, Cond.instanceMethod yX5_words, Cond.initialized RX5, Cond.selects RX6 ⟨"HiredEnemy$Telling", "words", "()Ljava/lang/String;"⟩ yX6_words, Cond.instanceMethod yX6_words, Cond.initialized RX6, Cond.methodLink RX7 58 yX7_kindOf, Cond.instanceMethod yX7_kindOf, Cond.selects RX7 yX7_kindOf yX7_kindOf, Cond.initialized RJ0, Cond.initialized RJ1, Cond.initialized RJ3, Cond.initialized RJ2, Cond.methodLink RX7 62 yX7_fail, Cond.instanceMethod yX7_fail, Cond.selects RX7 yX7_fail yX7_fail, Cond.methodLink RX7 38 ⟨"HiredEnemy$Telling", "mostParts", "()I"⟩, Cond.sameMethod "HiredEnemy$Telling" "HiredEnemy$Telling" "mostParts" "()I", Cond.selects RX5 ⟨"HiredEnemy$Telling", "mostParts", "()I"⟩ yX5_mostParts, Cond.instanceMethod yX5_mostParts, Cond.selects RX6 ⟨"HiredEnemy$Telling", "mostParts", "()I"⟩ yX6_mostParts, Cond.instanceMethod yX6_mostParts, Cond.methodLink RX7 66 ⟨"HiredEnemy$Telling", "isFull", "(I)Z"⟩, Cond.sameMethod "HiredEnemy$Telling" "HiredEnemy$Telling" "isFull" "(I)Z", Cond.selects RX5 ⟨"HiredEnemy$Telling", "isFull", "(I)Z"⟩ yX5_isFull, Cond.instanceMethod yX5_isFull, Cond.selects RX6 ⟨"HiredEnemy$Telling", "isFull", "(I)Z"⟩ yX6_isFull, Cond.instanceMethod yX6_isFull, Cond.methodLink RX7 70 ⟨"HiredEnemy$Telling", "numbers", "(I)I"⟩, Cond.sameMethod "HiredEnemy$Telling" "HiredEnemy$Telling" "numbers" "(I)I", Cond.selects RX5 ⟨"HiredEnemy$Telling", "numbers", "(I)I"⟩ yX5_numbers, Cond.instanceMethod yX5_numbers, Cond.selects RX6 ⟨"HiredEnemy$Telling", "numbers", "(I)I"⟩ yX6_numbers, Cond.instanceMethod yX6_numbers, Cond.initialized RX10, Cond.methodLink RX7 73 ⟨"HiredEnemy$Telling", "low", "(II)I"⟩, Cond.sameMethod "HiredEnemy$Telling" "HiredEnemy$Telling" "low" "(II)I", Cond.selects RX5 ⟨"HiredEnemy$Telling", "low", "(II)I"⟩ yX5_low, Cond.instanceMethod yX5_low, Cond.selects RX6 ⟨"HiredEnemy$Telling", "low", "(II)I"⟩ yX6_low, Cond.instanceMethod yX6_low, Cond.methodLink RX7 76 ⟨"HiredEnemy$Telling", "high", "(II)I"⟩, Cond.sameMethod "HiredEnemy$Telling" "HiredEnemy$Telling" "high" "(II)I", Cond.selects RX5 ⟨"HiredEnemy$Telling", "high", "(II)I"⟩ yX5_high, Cond.instanceMethod yX5_high, Cond.selects RX6 ⟨"HiredEnemy$Telling", "high", "(II)I"⟩ yX6_high, Cond.instanceMethod yX6_high, Cond.methodLink RX7 79 yX7_readNumber, Cond.instanceMethod yX7_readNumber, Cond.selects RX7 yX7_readNumber yX7_readNumber, Cond.methodLink RX7 44 yX7_skipBlanks, Cond.instanceMethod yX7_skipBlanks, Cond.selects RX7 yX7_skipBlanks yX7_skipBlanks, Cond.methodLink RX7 83 ⟨"HiredEnemy$Telling", "store", "(I[I)V"⟩, Cond.sameMethod "HiredEnemy$Telling" "HiredEnemy$Telling" "store" "(I[I)V", Cond.selects RX5 ⟨"HiredEnemy$Telling", "store", "(I[I)V"⟩ yX5_store, Cond.instanceMethod yX5_store, Cond.selects RX6 ⟨"HiredEnemy$Telling", "store", "(I[I)V"⟩ yX6_store, Cond.instanceMethod yX6_store, Cond.selects RX6 yX6_numbers yX6_numbers]
def wsX7_readPart : List Cond := .code yX7_readPart cX7_readPart 7 (some .boolean) :: (woX7_readPart ++ (wsX70 ++ (wsX60 ++ (wsX50 ++ (wsX7_skipLetters ++ (wsX5_words ++ (wsX6_words ++ (wsX7_kindOf ++ (wsX7_fail ++ (wsX5_mostParts ++ (wsX6_mostParts ++ (wsX5_isFull ++ (wsX6_isFull ++ (wsX5_numbers ++ (wsX6_numbers ++ (wsX5_low ++ (wsX6_low ++ (wsX5_high ++ (wsX6_high ++ (wsX7_readNumber ++ (wsX7_skipBlanks ++ (wsX5_store ++ (wsX6_store)))))))))))))))))))))))
theorem gwoX7_readPart : gW woX7_readPart := gW_of (by decide +kernel)
theorem gwX7_readPart : gW wsX7_readPart := gW_cons (by decide) (gW_app gwoX7_readPart (gW_app gwn_7 (gW_app gwn_3 (gW_app gwn_6 (gW_app gwX7_skipLetters (gW_app gwX5_words (gW_app gwX6_words (gW_app gwX7_kindOf (gW_app gwX7_fail (gW_app gwX5_mostParts (gW_app gwX6_mostParts (gW_app gwX5_isFull (gW_app gwX6_isFull (gW_app gwX5_numbers (gW_app gwX6_numbers (gW_app gwX5_low (gW_app gwX6_low (gW_app gwX5_high (gW_app gwX6_high (gW_app gwX7_readNumber (gW_app gwX7_skipBlanks (gW_app gwX5_store gwX6_store))))))))))))))))))))))
def woX7_read : List Cond := [Cond.fieldLink RX7 9 "HiredEnemy$Reader" "bytes" "[B", Cond.methodLink RX7 23 Lib.Math.min.name, Cond.static Lib.Math.min.name, Cond.initialized "java/lang/Math", Cond.fieldLink RX7 29 "HiredEnemy$Reader" "length" "I", Cond.fieldLink RX7 32 "HiredEnemy$Reader" "at" "I", Cond.fieldLink RX7 35 "HiredEnemy$Reader" "fault" "I", Cond.fieldLink RX7 15 "HiredEnemy$Reader" "place" "I", Cond.methodLink RX7 38 ⟨"HiredEnemy$Telling", "mostParts", "()I"⟩, Cond.sameMethod "HiredEnemy$Telling" "HiredEnemy$Telling" "mostParts" "()I", Cond.selects RX5 ⟨"HiredEnemy$Telling", "mostParts", "()I"⟩ yX5_mostParts, Cond.instanceMethod yX5_mostParts, Cond.initialized RX5, Cond.selects RX6 ⟨"HiredEnemy$Telling", "mostParts", "()I"⟩ yX6_mostParts, Cond.instanceMethod yX6_mostParts, Cond.initialized RX6, Cond.methodLink RX7 44 yX7_skipBlanks, Cond.instanceMethod yX7_skipBlanks, Cond.selects RX7 yX7_skipBlanks yX7_skipBlanks, Cond.initialized RX7, Cond.methodLink RX7 47 yX7_readPart, Cond.instanceMethod yX7_readPart, Cond.selects RX7 yX7_readPart yX7_readPart, Cond.sameMethod "HiredEnemy$Telling" "HiredEnemy$Telling" "words" "()Ljava/lang/String;", Cond.initialized RJ0, Cond.initialized RJ1, Cond.initialized RJ3, Cond.initialized RJ2, Cond.sameMethod "HiredEnemy$Telling" "HiredEnemy$Telling" "isFull" "(I)Z", Cond.sameMethod "HiredEnemy$Telling" "HiredEnemy$Telling" "numbers" "(I)I", Cond.initialized RX10, Cond.sameMethod "HiredEnemy$Telling" "HiredEnemy$Telling" "low" "(II)I", Cond.sameMethod "HiredEnemy$Telling" "HiredEnemy$Telling" "high" "(II)I", Cond.sameMethod "HiredEnemy$Telling" "HiredEnemy$Telling" "store" "(I[I)V"]
def wsX7_read : List Cond := .code yX7_read cX7_read 5 (some .int) :: (woX7_read ++ (wsX70 ++ (wsX60 ++ (wsX50 ++ (wsX5_mostParts ++ (wsX6_mostParts ++ (wsX7_skipBlanks ++ (wsX7_readPart))))))))
theorem gwoX7_read : gW woX7_read := gW_of (by decide +kernel)
theorem gwX7_read : gW wsX7_read := gW_cons (by decide) (gW_app gwoX7_read (gW_app gwn_7 (gW_app gwn_3 (gW_app gwn_6 (gW_app gwX5_mostParts (gW_app gwX6_mostParts (gW_app gwX7_skipBlanks gwX7_readPart)))))))
def woX8_init : List Cond := [Cond.methodLink RX8 1 objectInit, Cond.instanceMethod objectInit, Cond.classLink RX8 7 RX4, Cond.instantiable RX4 3, Cond.initialized RX4, Cond.fieldLink RX8 10 "HiredEnemy$Scene" "course" "LHiredEnemy$Course;", Cond.classLink RX8 16 RX0, Cond.instantiable RX0 1, Cond.initialized RX0, Cond.fieldLink RX8 19 "HiredEnemy$Scene" "annals" "LHiredEnemy$Annals;", Cond.classLink RX8 23 RX2, Cond.instantiable RX2 7, Cond.initialized RX2, Cond.fieldLink RX8 26 "HiredEnemy$Scene" "belief" "LHiredEnemy$Belief;", Cond.classLink RX8 30 RX3, Cond.instantiable RX3 2, Cond.initialized RX3, Cond.fieldLink RX8 33 "HiredEnemy$Scene" "bids" "LHiredEnemy$Bids;", Cond.instanceMethod yX4_init, Cond.arrayClass .int, Cond.instanceMethod yX0_init, Cond.instanceMethod yX2_init, Cond.instanceMethod yX3_init]
def wsX8_init : List Cond := .code yX8_init cX8_init 1 none :: (woX8_init ++ (wsX40 ++ (wsX80 ++ (wsX00 ++ (wsX20 ++ (wsX30 ++ (wsX4_init ++ (wsX0_init ++ (wsX2_init ++ (wsX3_init))))))))))
theorem gwoX8_init : gW woX8_init := gW_of (by decide +kernel)
theorem gwn_8 : gW wsX80 := gW_of (by decide +kernel)
theorem gwX8_init : gW wsX8_init := gW_cons (by decide) (gW_app gwoX8_init (gW_app gwn_1 (gW_app gwn_8 (gW_app gwn_0 (gW_app gwn_4 (gW_app gwn_5 (gW_app gwX4_init (gW_app gwX0_init (gW_app gwX2_init gwX3_init)))))))))
def woX8_begin : List Cond := [Cond.fieldLink RX8 10 "HiredEnemy$Scene" "course" "LHiredEnemy$Course;", Cond.fieldLink RX8 26 "HiredEnemy$Scene" "belief" "LHiredEnemy$Belief;", Cond.fieldLink RX8 33 "HiredEnemy$Scene" "bids" "LHiredEnemy$Bids;", Cond.methodLink RX8 37 yX4_begin, Cond.instanceMethod yX4_begin, Cond.selects RX4 yX4_begin yX4_begin, Cond.initialized RX4, Cond.initialized RJ7, Cond.methodLink RX8 41 yX2_forget, Cond.instanceMethod yX2_forget, Cond.selects RX2 yX2_forget yX2_forget, Cond.initialized RX2, Cond.methodLink RX8 44 yX3_clear, Cond.instanceMethod yX3_clear, Cond.selects RX3 yX3_clear yX3_clear, Cond.initialized RX3]
end
