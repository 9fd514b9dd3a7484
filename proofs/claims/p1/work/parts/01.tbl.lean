/-! the tables' words, the names of the classes and of their methods (begun from the printed texts) -/
/-- a private method of a class that the tables say can be made, by its rows of tables_1 -/
def lw_okq (q : MethodName × Nat) : Prop := (q.1.cls ≠ "java/lang/invoke/MethodHandle" ∧ q.1.cls ≠ "java/lang/invoke/VarHandle") ∧ Cond.instantiable q.1.cls q.2 ∈ tables_1 ∧ Cond.privateMethod q.1 ∈ tables_1 ∧ Cond.instanceMethod q.1 ∈ tables_1
theorem lw_p0 : lw_okq (⟨"java/lang/Throwable", "fillInStackTrace", "(I)Ljava/lang/Throwable;"⟩, 6) := ⟨⟨by decide +kernel, by decide +kernel⟩, List.mem_of_getElem? (i := 352) (by decide +kernel), List.mem_of_getElem? (i := 350) (by decide +kernel), List.mem_of_getElem? (i := 351) (by decide +kernel)⟩
theorem lw_p1 : lw_okq (⟨"WarnWave", "checkGroup", "(I)V"⟩, 2) := ⟨⟨by decide +kernel, by decide +kernel⟩, List.mem_of_getElem? (i := 19) (by decide +kernel), List.mem_of_getElem? (i := 390) (by decide +kernel), List.mem_of_getElem? (i := 391) (by decide +kernel)⟩
theorem lw_p2 : lw_okq (⟨"WarnWave$Land", "chooseCalls", "()V"⟩, 14) := ⟨⟨by decide +kernel, by decide +kernel⟩, List.mem_of_getElem? (i := 27) (by decide +kernel), List.mem_of_getElem? (i := 447) (by decide +kernel), List.mem_of_getElem? (i := 448) (by decide +kernel)⟩
theorem lw_p3 : lw_okq (⟨"WarnWave$Land", "firstToCall", "(I)I"⟩, 14) := ⟨⟨by decide +kernel, by decide +kernel⟩, List.mem_of_getElem? (i := 27) (by decide +kernel), List.mem_of_getElem? (i := 451) (by decide +kernel), List.mem_of_getElem? (i := 452) (by decide +kernel)⟩
theorem lw_p4 : lw_okq (⟨"WarnWave$Land", "hearAll", "()V"⟩, 14) := ⟨⟨by decide +kernel, by decide +kernel⟩, List.mem_of_getElem? (i := 27) (by decide +kernel), List.mem_of_getElem? (i := 458) (by decide +kernel), List.mem_of_getElem? (i := 459) (by decide +kernel)⟩
theorem lw_p5 : lw_okq (⟨"WarnWave$Land", "publicWays", "(LWarnWave$Group;LWarnWave$Warning;ZZZ)I"⟩, 14) := ⟨⟨by decide +kernel, by decide +kernel⟩, List.mem_of_getElem? (i := 27) (by decide +kernel), List.mem_of_getElem? (i := 472) (by decide +kernel), List.mem_of_getElem? (i := 473) (by decide +kernel)⟩
theorem lw_p6 : lw_okq (⟨"WarnWave$Land", "hearOne", "(III)V"⟩, 14) := ⟨⟨by decide +kernel, by decide +kernel⟩, List.mem_of_getElem? (i := 27) (by decide +kernel), List.mem_of_getElem? (i := 476) (by decide +kernel), List.mem_of_getElem? (i := 477) (by decide +kernel)⟩
theorem lw_p7 : lw_okq (⟨"WarnWave$Land", "believingNeighbour", "(II)I"⟩, 14) := ⟨⟨by decide +kernel, by decide +kernel⟩, List.mem_of_getElem? (i := 27) (by decide +kernel), List.mem_of_getElem? (i := 480) (by decide +kernel), List.mem_of_getElem? (i := 481) (by decide +kernel)⟩
theorem lw_p8 : lw_okq (⟨"WarnWave$Land", "believeAll", "()I"⟩, 14) := ⟨⟨by decide +kernel, by decide +kernel⟩, List.mem_of_getElem? (i := 27) (by decide +kernel), List.mem_of_getElem? (i := 490) (by decide +kernel), List.mem_of_getElem? (i := 491) (by decide +kernel)⟩
theorem lw_p9 : lw_okq (⟨"WarnWave$Land", "believeOne", "(LWarnWave$Group;)I"⟩, 14) := ⟨⟨by decide +kernel, by decide +kernel⟩, List.mem_of_getElem? (i := 27) (by decide +kernel), List.mem_of_getElem? (i := 494) (by decide +kernel), List.mem_of_getElem? (i := 495) (by decide +kernel)⟩
theorem lw_p10 : lw_okq (⟨"WarnWave$Land", "goAll", "()V"⟩, 14) := ⟨⟨by decide +kernel, by decide +kernel⟩, List.mem_of_getElem? (i := 27) (by decide +kernel), List.mem_of_getElem? (i := 511) (by decide +kernel), List.mem_of_getElem? (i := 512) (by decide +kernel)⟩
theorem lw_p11 : lw_okq (⟨"WarnWave$Land", "goOne", "(LWarnWave$Group;)V"⟩, 14) := ⟨⟨by decide +kernel, by decide +kernel⟩, List.mem_of_getElem? (i := 27) (by decide +kernel), List.mem_of_getElem? (i := 515) (by decide +kernel), List.mem_of_getElem? (i := 516) (by decide +kernel)⟩
theorem lw_p12 : lw_okq (⟨"WarnWave$Land", "nearestWithRoom", "(LWarnWave$Group;)I"⟩, 14) := ⟨⟨by decide +kernel, by decide +kernel⟩, List.mem_of_getElem? (i := 27) (by decide +kernel), List.mem_of_getElem? (i := 519) (by decide +kernel), List.mem_of_getElem? (i := 520) (by decide +kernel)⟩
theorem lw_p13 : lw_okq (⟨"WarnWave$Land", "harmAll", "()V"⟩, 14) := ⟨⟨by decide +kernel, by decide +kernel⟩, List.mem_of_getElem? (i := 27) (by decide +kernel), List.mem_of_getElem? (i := 526) (by decide +kernel), List.mem_of_getElem? (i := 527) (by decide +kernel)⟩
theorem lw_p14 : lw_okq (⟨"WarnWave", "mixHeard", "(JI)J"⟩, 2) := ⟨⟨by decide +kernel, by decide +kernel⟩, List.mem_of_getElem? (i := 19) (by decide +kernel), List.mem_of_getElem? (i := 530) (by decide +kernel), List.mem_of_getElem? (i := 531) (by decide +kernel)⟩
theorem lw_p15 : lw_okq (⟨"WarnWave", "checkWarning", "(I)V"⟩, 2) := ⟨⟨by decide +kernel, by decide +kernel⟩, List.mem_of_getElem? (i := 19) (by decide +kernel), List.mem_of_getElem? (i := 538) (by decide +kernel), List.mem_of_getElem? (i := 539) (by decide +kernel)⟩
def lw_privs_1 : List (MethodName × Nat) := [(⟨"java/lang/Throwable", "fillInStackTrace", "(I)Ljava/lang/Throwable;"⟩, 6), (⟨"WarnWave", "checkGroup", "(I)V"⟩, 2), (⟨"WarnWave$Land", "chooseCalls", "()V"⟩, 14), (⟨"WarnWave$Land", "firstToCall", "(I)I"⟩, 14), (⟨"WarnWave$Land", "hearAll", "()V"⟩, 14), (⟨"WarnWave$Land", "publicWays", "(LWarnWave$Group;LWarnWave$Warning;ZZZ)I"⟩, 14), (⟨"WarnWave$Land", "hearOne", "(III)V"⟩, 14), (⟨"WarnWave$Land", "believingNeighbour", "(II)I"⟩, 14), (⟨"WarnWave$Land", "believeAll", "()I"⟩, 14), (⟨"WarnWave$Land", "believeOne", "(LWarnWave$Group;)I"⟩, 14), (⟨"WarnWave$Land", "goAll", "()V"⟩, 14), (⟨"WarnWave$Land", "goOne", "(LWarnWave$Group;)V"⟩, 14), (⟨"WarnWave$Land", "nearestWithRoom", "(LWarnWave$Group;)I"⟩, 14), (⟨"WarnWave$Land", "harmAll", "()V"⟩, 14), (⟨"WarnWave", "mixHeard", "(JI)J"⟩, 2), (⟨"WarnWave", "checkWarning", "(I)V"⟩, 2)]
theorem lw_r1 : ∀ q ∈ lw_privs_1, lw_okq q := List.forall_mem_cons.mpr ⟨lw_p0, List.forall_mem_cons.mpr ⟨lw_p1, List.forall_mem_cons.mpr ⟨lw_p2, List.forall_mem_cons.mpr ⟨lw_p3, List.forall_mem_cons.mpr ⟨lw_p4, List.forall_mem_cons.mpr ⟨lw_p5, List.forall_mem_cons.mpr ⟨lw_p6, List.forall_mem_cons.mpr ⟨lw_p7, List.forall_mem_cons.mpr ⟨lw_p8, List.forall_mem_cons.mpr ⟨lw_p9, List.forall_mem_cons.mpr ⟨lw_p10, List.forall_mem_cons.mpr ⟨lw_p11, List.forall_mem_cons.mpr ⟨lw_p12, List.forall_mem_cons.mpr ⟨lw_p13, List.forall_mem_cons.mpr ⟨lw_p14, List.forall_mem_cons.mpr ⟨lw_p15, fun _ h => absurd h List.not_mem_nil⟩⟩⟩⟩⟩⟩⟩⟩⟩⟩⟩⟩⟩⟩⟩⟩
theorem lw_p16 : lw_okq (⟨"WarnWave", "draft", "(IIIII)I"⟩, 2) := ⟨⟨by decide +kernel, by decide +kernel⟩, List.mem_of_getElem? (i := 19) (by decide +kernel), List.mem_of_getElem? (i := 686) (by decide +kernel), List.mem_of_getElem? (i := 687) (by decide +kernel)⟩
theorem lw_p17 : lw_okq (⟨"WarnWave", "checkInForce", "(I)V"⟩, 2) := ⟨⟨by decide +kernel, by decide +kernel⟩, List.mem_of_getElem? (i := 19) (by decide +kernel), List.mem_of_getElem? (i := 698) (by decide +kernel), List.mem_of_getElem? (i := 699) (by decide +kernel)⟩
theorem lw_p18 : lw_okq (⟨"WarnWave$Land", "isStillAbout", "(LWarnWave$Warning;)Z"⟩, 14) := ⟨⟨by decide +kernel, by decide +kernel⟩, List.mem_of_getElem? (i := 27) (by decide +kernel), List.mem_of_getElem? (i := 736) (by decide +kernel), List.mem_of_getElem? (i := 737) (by decide +kernel)⟩
theorem lw_p19 : lw_okq (⟨"WarnWave$Land", "judge", "(I)V"⟩, 14) := ⟨⟨by decide +kernel, by decide +kernel⟩, List.mem_of_getElem? (i := 27) (by decide +kernel), List.mem_of_getElem? (i := 745) (by decide +kernel), List.mem_of_getElem? (i := 746) (by decide +kernel)⟩
theorem lw_p20 : lw_okq (⟨"WarnWave$Land", "letOut", "()V"⟩, 14) := ⟨⟨by decide +kernel, by decide +kernel⟩, List.mem_of_getElem? (i := 27) (by decide +kernel), List.mem_of_getElem? (i := 753) (by decide +kernel), List.mem_of_getElem? (i := 754) (by decide +kernel)⟩
theorem lw_p21 : lw_okq (⟨"WarnWaveModel", "no", "(I)I"⟩, 3) := ⟨⟨by decide +kernel, by decide +kernel⟩, List.mem_of_getElem? (i := 823) (by decide +kernel), List.mem_of_getElem? (i := 924) (by decide +kernel), List.mem_of_getElem? (i := 925) (by decide +kernel)⟩
theorem lw_p22 : lw_okq (⟨"WarnWaveModel", "clear", "(II)V"⟩, 3) := ⟨⟨by decide +kernel, by decide +kernel⟩, List.mem_of_getElem? (i := 823) (by decide +kernel), List.mem_of_getElem? (i := 929) (by decide +kernel), List.mem_of_getElem? (i := 930) (by decide +kernel)⟩
theorem lw_p23 : lw_okq (⟨"WarnWaveModel", "isGroup", "(I)Z"⟩, 3) := ⟨⟨by decide +kernel, by decide +kernel⟩, List.mem_of_getElem? (i := 823) (by decide +kernel), List.mem_of_getElem? (i := 941) (by decide +kernel), List.mem_of_getElem? (i := 942) (by decide +kernel)⟩
theorem lw_p24 : lw_okq (⟨"WarnWaveModel", "draft", "(IIIII)I"⟩, 3) := ⟨⟨by decide +kernel, by decide +kernel⟩, List.mem_of_getElem? (i := 823) (by decide +kernel), List.mem_of_getElem? (i := 987) (by decide +kernel), List.mem_of_getElem? (i := 988) (by decide +kernel)⟩
theorem lw_p25 : lw_okq (⟨"WarnWaveModel", "isWarning", "(I)Z"⟩, 3) := ⟨⟨by decide +kernel, by decide +kernel⟩, List.mem_of_getElem? (i := 823) (by decide +kernel), List.mem_of_getElem? (i := 995) (by decide +kernel), List.mem_of_getElem? (i := 996) (by decide +kernel)⟩
theorem lw_p26 : lw_okq (⟨"WarnWaveModel", "lacking", "(I)I"⟩, 3) := ⟨⟨by decide +kernel, by decide +kernel⟩, List.mem_of_getElem? (i := 823) (by decide +kernel), List.mem_of_getElem? (i := 1011) (by decide +kernel), List.mem_of_getElem? (i := 1012) (by decide +kernel)⟩
theorem lw_p27 : lw_okq (⟨"WarnWaveModel", "cancelled", "([I)V"⟩, 3) := ⟨⟨by decide +kernel, by decide +kernel⟩, List.mem_of_getElem? (i := 823) (by decide +kernel), List.mem_of_getElem? (i := 1020) (by decide +kernel), List.mem_of_getElem? (i := 1021) (by decide +kernel)⟩
theorem lw_p28 : lw_okq (⟨"WarnWaveModel$Land", "toCall", "(I)I"⟩, 16) := ⟨⟨by decide +kernel, by decide +kernel⟩, List.mem_of_getElem? (i := 829) (by decide +kernel), List.mem_of_getElem? (i := 1061) (by decide +kernel), List.mem_of_getElem? (i := 1062) (by decide +kernel)⟩
theorem lw_p29 : lw_okq (⟨"WarnWaveModel$Land", "isMeant", "(II)Z"⟩, 16) := ⟨⟨by decide +kernel, by decide +kernel⟩, List.mem_of_getElem? (i := 829) (by decide +kernel), List.mem_of_getElem? (i := 1065) (by decide +kernel), List.mem_of_getElem? (i := 1066) (by decide +kernel)⟩
theorem lw_p30 : lw_okq (⟨"WarnWaveModel$Land", "isIn", "(II)Z"⟩, 16) := ⟨⟨by decide +kernel, by decide +kernel⟩, List.mem_of_getElem? (i := 829) (by decide +kernel), List.mem_of_getElem? (i := 1069) (by decide +kernel), List.mem_of_getElem? (i := 1070) (by decide +kernel)⟩
theorem lw_p31 : lw_okq (⟨"WarnWaveModel$Land", "hear", "(IIZZ)V"⟩, 16) := ⟨⟨by decide +kernel, by decide +kernel⟩, List.mem_of_getElem? (i := 829) (by decide +kernel), List.mem_of_getElem? (i := 1073) (by decide +kernel), List.mem_of_getElem? (i := 1074) (by decide +kernel)⟩
def lw_privs_2 : List (MethodName × Nat) := [(⟨"WarnWave", "draft", "(IIIII)I"⟩, 2), (⟨"WarnWave", "checkInForce", "(I)V"⟩, 2), (⟨"WarnWave$Land", "isStillAbout", "(LWarnWave$Warning;)Z"⟩, 14), (⟨"WarnWave$Land", "judge", "(I)V"⟩, 14), (⟨"WarnWave$Land", "letOut", "()V"⟩, 14), (⟨"WarnWaveModel", "no", "(I)I"⟩, 3), (⟨"WarnWaveModel", "clear", "(II)V"⟩, 3), (⟨"WarnWaveModel", "isGroup", "(I)Z"⟩, 3), (⟨"WarnWaveModel", "draft", "(IIIII)I"⟩, 3), (⟨"WarnWaveModel", "isWarning", "(I)Z"⟩, 3), (⟨"WarnWaveModel", "lacking", "(I)I"⟩, 3), (⟨"WarnWaveModel", "cancelled", "([I)V"⟩, 3), (⟨"WarnWaveModel$Land", "toCall", "(I)I"⟩, 16), (⟨"WarnWaveModel$Land", "isMeant", "(II)Z"⟩, 16), (⟨"WarnWaveModel$Land", "isIn", "(II)Z"⟩, 16), (⟨"WarnWaveModel$Land", "hear", "(IIZZ)V"⟩, 16)]
theorem lw_r2 : ∀ q ∈ lw_privs_2, lw_okq q := List.forall_mem_cons.mpr ⟨lw_p16, List.forall_mem_cons.mpr ⟨lw_p17, List.forall_mem_cons.mpr ⟨lw_p18, List.forall_mem_cons.mpr ⟨lw_p19, List.forall_mem_cons.mpr ⟨lw_p20, List.forall_mem_cons.mpr ⟨lw_p21, List.forall_mem_cons.mpr ⟨lw_p22, List.forall_mem_cons.mpr ⟨lw_p23, List.forall_mem_cons.mpr ⟨lw_p24, List.forall_mem_cons.mpr ⟨lw_p25, List.forall_mem_cons.mpr ⟨lw_p26, List.forall_mem_cons.mpr ⟨lw_p27, List.forall_mem_cons.mpr ⟨lw_p28, List.forall_mem_cons.mpr ⟨lw_p29, List.forall_mem_cons.mpr ⟨lw_p30, List.forall_mem_cons.mpr ⟨lw_p31, fun _ h => absurd h List.not_mem_nil⟩⟩⟩⟩⟩⟩⟩⟩⟩⟩⟩⟩⟩⟩⟩⟩
theorem lw_p32 : lw_okq (⟨"WarnWaveModel$Land", "neighbour", "(II)I"⟩, 16) := ⟨⟨by decide +kernel, by decide +kernel⟩, List.mem_of_getElem? (i := 829) (by decide +kernel), List.mem_of_getElem? (i := 1077) (by decide +kernel), List.mem_of_getElem? (i := 1078) (by decide +kernel)⟩
theorem lw_p33 : lw_okq (⟨"WarnWaveModel$Land", "believe", "(II)I"⟩, 16) := ⟨⟨by decide +kernel, by decide +kernel⟩, List.mem_of_getElem? (i := 829) (by decide +kernel), List.mem_of_getElem? (i := 1088) (by decide +kernel), List.mem_of_getElem? (i := 1089) (by decide +kernel)⟩
theorem lw_p34 : lw_okq (⟨"WarnWaveModel$Land", "go", "([II)V"⟩, 16) := ⟨⟨by decide +kernel, by decide +kernel⟩, List.mem_of_getElem? (i := 829) (by decide +kernel), List.mem_of_getElem? (i := 1093) (by decide +kernel), List.mem_of_getElem? (i := 1094) (by decide +kernel)⟩
theorem lw_p35 : lw_okq (⟨"WarnWaveModel", "inForceNow", "()I"⟩, 3) := ⟨⟨by decide +kernel, by decide +kernel⟩, List.mem_of_getElem? (i := 823) (by decide +kernel), List.mem_of_getElem? (i := 1102) (by decide +kernel), List.mem_of_getElem? (i := 1103) (by decide +kernel)⟩
theorem lw_p36 : lw_okq (⟨"WarnWaveModel", "groupNow", "(II)I"⟩, 3) := ⟨⟨by decide +kernel, by decide +kernel⟩, List.mem_of_getElem? (i := 823) (by decide +kernel), List.mem_of_getElem? (i := 1110) (by decide +kernel), List.mem_of_getElem? (i := 1111) (by decide +kernel)⟩
theorem lw_p37 : lw_okq (⟨"WarnWaveModel", "warningNow", "(II)I"⟩, 3) := ⟨⟨by decide +kernel, by decide +kernel⟩, List.mem_of_getElem? (i := 823) (by decide +kernel), List.mem_of_getElem? (i := 1123) (by decide +kernel), List.mem_of_getElem? (i := 1124) (by decide +kernel)⟩
theorem lw_p38 : lw_okq (⟨"WarnWaveModel", "forceNow", "(I)I"⟩, 3) := ⟨⟨by decide +kernel, by decide +kernel⟩, List.mem_of_getElem? (i := 823) (by decide +kernel), List.mem_of_getElem? (i := 1131) (by decide +kernel), List.mem_of_getElem? (i := 1132) (by decide +kernel)⟩
theorem lw_p39 : lw_okq (⟨"WarnWaveModel", "chainNow", "(II)I"⟩, 3) := ⟨⟨by decide +kernel, by decide +kernel⟩, List.mem_of_getElem? (i := 823) (by decide +kernel), List.mem_of_getElem? (i := 1143) (by decide +kernel), List.mem_of_getElem? (i := 1144) (by decide +kernel)⟩
theorem lw_p40 : lw_okq (⟨"WarnWaveModel", "manyNow", "(I)I"⟩, 3) := ⟨⟨by decide +kernel, by decide +kernel⟩, List.mem_of_getElem? (i := 823) (by decide +kernel), List.mem_of_getElem? (i := 1151) (by decide +kernel), List.mem_of_getElem? (i := 1152) (by decide +kernel)⟩
theorem lw_p41 : lw_okq (⟨"WarnWaveModel", "safeNow", "(II)I"⟩, 3) := ⟨⟨by decide +kernel, by decide +kernel⟩, List.mem_of_getElem? (i := 823) (by decide +kernel), List.mem_of_getElem? (i := 1163) (by decide +kernel), List.mem_of_getElem? (i := 1164) (by decide +kernel)⟩
theorem lw_p42 : lw_okq (⟨"WarnWaveModel", "sirenNow", "(III)I"⟩, 3) := ⟨⟨by decide +kernel, by decide +kernel⟩, List.mem_of_getElem? (i := 823) (by decide +kernel), List.mem_of_getElem? (i := 1178) (by decide +kernel), List.mem_of_getElem? (i := 1179) (by decide +kernel)⟩
def lw_privs_3 : List (MethodName × Nat) := [(⟨"WarnWaveModel$Land", "neighbour", "(II)I"⟩, 16), (⟨"WarnWaveModel$Land", "believe", "(II)I"⟩, 16), (⟨"WarnWaveModel$Land", "go", "([II)V"⟩, 16), (⟨"WarnWaveModel", "inForceNow", "()I"⟩, 3), (⟨"WarnWaveModel", "groupNow", "(II)I"⟩, 3), (⟨"WarnWaveModel", "warningNow", "(II)I"⟩, 3), (⟨"WarnWaveModel", "forceNow", "(I)I"⟩, 3), (⟨"WarnWaveModel", "chainNow", "(II)I"⟩, 3), (⟨"WarnWaveModel", "manyNow", "(I)I"⟩, 3), (⟨"WarnWaveModel", "safeNow", "(II)I"⟩, 3), (⟨"WarnWaveModel", "sirenNow", "(III)I"⟩, 3)]
theorem lw_r3 : ∀ q ∈ lw_privs_3, lw_okq q := List.forall_mem_cons.mpr ⟨lw_p32, List.forall_mem_cons.mpr ⟨lw_p33, List.forall_mem_cons.mpr ⟨lw_p34, List.forall_mem_cons.mpr ⟨lw_p35, List.forall_mem_cons.mpr ⟨lw_p36, List.forall_mem_cons.mpr ⟨lw_p37, List.forall_mem_cons.mpr ⟨lw_p38, List.forall_mem_cons.mpr ⟨lw_p39, List.forall_mem_cons.mpr ⟨lw_p40, List.forall_mem_cons.mpr ⟨lw_p41, List.forall_mem_cons.mpr ⟨lw_p42, fun _ h => absurd h List.not_mem_nil⟩⟩⟩⟩⟩⟩⟩⟩⟩⟩⟩
def lw_privs : List (MethodName × Nat) := lw_privs_1 ++ (lw_privs_2 ++ (lw_privs_3))
def lw_tbl : List Cond := k2_sels lw_privs ++ tables_1
theorem lw_privs_ok : ∀ q ∈ lw_privs, lw_okq q := by
  show ∀ q ∈ lw_privs_1 ++ (lw_privs_2 ++ (lw_privs_3)), lw_okq q
  exact List.forall_mem_append.mpr ⟨lw_r1, List.forall_mem_append.mpr ⟨lw_r2, lw_r3⟩⟩
/-- the streams that the claim lets the run draw from -/
abbrev lw_cs : List Choice := [Jvm.Choice.named "NaN.bits"]
theorem lw_bits : nanBits ∈ lw_cs := by first | decide | exact List.mem_cons_self | simp [lw_cs, nanBits]
def RX0 : String := "WarnWave$Group"
def TX0 : u_T := fun k => match k with
  | 0 => ("WarnWave$Group", "cell", "I", false)
  | 1 => ("WarnWave$Group", "people", "I", false)
  | 2 => ("WarnWave$Group", "tongue", "I", false)
  | 3 => ("WarnWave$Group", "trust", "I", false)
  | 4 => ("WarnWave$Group", "isDeaf", "Z", false)
  | 5 => ("WarnWave$Group", "hasRadio", "Z", false)
  | 6 => ("WarnWave$Group", "shelter", "I", false)
  | 7 => ("WarnWave$Group", "harm", "I", false)
  | 8 => ("WarnWave$Group", "ways", "[I", true)
  | 9 => ("WarnWave$Group", "heardAt", "[I", true)
  | 10 => ("WarnWave$Group", "heardBy", "[I", true)
  | 11 => ("WarnWave$Group", "heardFrom", "[I", true)
  | _ => ("WarnWave$Group", "believedAt", "[I", true)
def tyX0 : Nat → FieldType := fun k => match k with
  | 0 => .int
  | 1 => .int
  | 2 => .int
  | 3 => .int
  | 4 => .boolean
  | 5 => .boolean
  | 6 => .int
  | 7 => .int
  | 8 => .array .int
  | 9 => .array .int
  | 10 => .array .int
  | 11 => .array .int
  | _ => .array .int
abbrev wsX00 : List Cond := u_ws RX0 TX0 13
theorem nmX0 : ∀ a, a < 13 → ∀ b, b < 13 → a ≠ b → (TX0 a).2.1 ≠ (TX0 b).2.1 := by decide +kernel
theorem tyX0_ok : ∀ k, k < 13 → parseFieldDescriptor (TX0 k).2.2.1 = some (tyX0 k) := by decide +kernel
abbrev cX0_init : ByteArray := prog_2_method_1_code
def yX0_init : MethodName := ⟨RX0, "<init>", "()V"⟩
abbrev cX0_becomeLike : ByteArray := prog_2_method_2_code
def yX0_becomeLike : MethodName := ⟨RX0, "becomeLike", "(LWarnWave$Group;)V"⟩
abbrev cX0_isGone : ByteArray := prog_2_method_3_code
def yX0_isGone : MethodName := ⟨RX0, "isGone", "()Z"⟩
abbrev cX0_isSafe : ByteArray := prog_2_method_4_code
def yX0_isSafe : MethodName := ⟨RX0, "isSafe", "()Z"⟩
abbrev cX0_waysNeeded : ByteArray := prog_2_method_5_code
def yX0_waysNeeded : MethodName := ⟨RX0, "waysNeeded", "()I"⟩
abbrev cX0_noteWays : ByteArray := prog_2_method_6_code
def yX0_noteWays : MethodName := ⟨RX0, "noteWays", "(IIII)V"⟩
def RX1 : String := "WarnWave$Land"
def TX1 : u_T := fun k => match k with
  | 0 => ("WarnWave$Land", "now", "I", false)
  | 1 => ("WarnWave$Land", "lines", "I", false)
  | 2 => ("WarnWave$Land", "keys", "I", false)
  | 3 => ("WarnWave$Land", "callsMade", "I", false)
  | 4 => ("WarnWave$Land", "groupCount", "I", false)
  | 5 => ("WarnWave$Land", "shelterCount", "I", false)
  | 6 => ("WarnWave$Land", "warningCount", "I", false)
  | 7 => ("WarnWave$Land", "groups", "[LWarnWave$Group;", true)
  | 8 => ("WarnWave$Land", "shelters", "[LWarnWave$Shelter;", true)
  | 9 => ("WarnWave$Land", "warnings", "[LWarnWave$Warning;", true)
  | 10 => ("WarnWave$Land", "sirens", "LWarnWave$Senders;", true)
  | 11 => ("WarnWave$Land", "masts", "LWarnWave$Senders;", true)
  | 12 => ("WarnWave$Land", "dangerFrom", "[I", true)
  | _ => ("WarnWave$Land", "called", "[I", true)
def tyX1 : Nat → FieldType := fun k => match k with
  | 0 => .int
  | 1 => .int
  | 2 => .int
  | 3 => .int
  | 4 => .int
  | 5 => .int
  | 6 => .int
  | 7 => .array (.object "WarnWave$Group")
  | 8 => .array (.object "WarnWave$Shelter")
  | 9 => .array (.object "WarnWave$Warning")
  | 10 => .object "WarnWave$Senders"
  | 11 => .object "WarnWave$Senders"
  | 12 => .array .int
  | _ => .array .int
abbrev wsX10 : List Cond := u_ws RX1 TX1 14
theorem nmX1 : ∀ a, a < 14 → ∀ b, b < 14 → a ≠ b → (TX1 a).2.1 ≠ (TX1 b).2.1 := by decide +kernel
theorem tyX1_ok : ∀ k, k < 14 → parseFieldDescriptor (TX1 k).2.2.1 = some (tyX1 k) := by decide +kernel
abbrev cX1_init : ByteArray := prog_3_method_1_code
def yX1_init : MethodName := ⟨RX1, "<init>", "()V"⟩
abbrev cX1_becomeLike : ByteArray := prog_3_method_2_code
def yX1_becomeLike : MethodName := ⟨RX1, "becomeLike", "(LWarnWave$Land;)V"⟩
abbrev cX1_hourNow : ByteArray := prog_3_method_3_code
def yX1_hourNow : MethodName := ⟨RX1, "hourNow", "()I"⟩
abbrev cX1_isNight : ByteArray := prog_3_method_4_code
def yX1_isNight : MethodName := ⟨RX1, "isNight", "()Z"⟩
abbrev cX1_isAsleep : ByteArray := prog_3_method_5_code
def yX1_isAsleep : MethodName := ⟨RX1, "isAsleep", "(LWarnWave$Group;)Z"⟩
abbrev cX1_isInDanger : ByteArray := prog_3_method_6_code
def yX1_isInDanger : MethodName := ⟨RX1, "isInDanger", "(I)Z"⟩
abbrev cX1_cellsInDanger : ByteArray := prog_3_method_7_code
def yX1_cellsInDanger : MethodName := ⟨RX1, "cellsInDanger", "()I"⟩
abbrev cX1_latestBelieved : ByteArray := prog_3_method_8_code
def yX1_latestBelieved : MethodName := ⟨RX1, "latestBelieved", "(LWarnWave$Group;)I"⟩
abbrev cX1_countInForce : ByteArray := prog_3_method_9_code
def yX1_countInForce : MethodName := ⟨RX1, "countInForce", "()I"⟩
abbrev cX1_countAsleep : ByteArray := prog_3_method_10_code
def yX1_countAsleep : MethodName := ⟨RX1, "countAsleep", "()I"⟩
abbrev cX1_countBelievers : ByteArray := prog_3_method_11_code
def yX1_countBelievers : MethodName := ⟨RX1, "countBelievers", "(I)I"⟩
abbrev cX1_peopleOfAll : ByteArray := prog_3_method_12_code
def yX1_peopleOfAll : MethodName := ⟨RX1, "peopleOfAll", "()I"⟩
abbrev cX1_peopleSafe : ByteArray := prog_3_method_13_code
def yX1_peopleSafe : MethodName := ⟨RX1, "peopleSafe", "()I"⟩
abbrev cX1_peopleGone : ByteArray := prog_3_method_14_code
def yX1_peopleGone : MethodName := ⟨RX1, "peopleGone", "()I"⟩
abbrev cX1_peopleIn : ByteArray := prog_3_method_15_code
def yX1_peopleIn : MethodName := ⟨RX1, "peopleIn", "(I)I"⟩
abbrev cX1_peopleBelieving : ByteArray := prog_3_method_16_code
def yX1_peopleBelieving : MethodName := ⟨RX1, "peopleBelieving", "()I"⟩
abbrev cX1_keysLacking : ByteArray := prog_3_method_17_code
def yX1_keysLacking : MethodName := ⟨RX1, "keysLacking", "(LWarnWave$Warning;)I"⟩
abbrev cX1_isSendable : ByteArray := prog_3_method_18_code
def yX1_isSendable : MethodName := ⟨RX1, "isSendable", "(LWarnWave$Warning;)Z"⟩
abbrev cX1_isStillAbout : ByteArray := prog_3_method_19_code
def yX1_isStillAbout : MethodName := ⟨RX1, "isStillAbout", "(LWarnWave$Warning;)Z"⟩
abbrev cX1_sendOut : ByteArray := prog_3_method_20_code
def yX1_sendOut : MethodName := ⟨RX1, "sendOut", "(LWarnWave$Warning;)V"⟩
abbrev cX1_judge : ByteArray := prog_3_method_21_code
def yX1_judge : MethodName := ⟨RX1, "judge", "(I)V"⟩
abbrev cX1_letOut : ByteArray := prog_3_method_22_code
def yX1_letOut : MethodName := ⟨RX1, "letOut", "()V"⟩
abbrev cX1_playMinutes : ByteArray := prog_3_method_23_code
def yX1_playMinutes : MethodName := ⟨RX1, "playMinutes", "(I)I"⟩
abbrev cX1_chooseCalls : ByteArray := prog_3_method_24_code
def yX1_chooseCalls : MethodName := ⟨RX1, "chooseCalls", "()V"⟩
abbrev cX1_firstToCall : ByteArray := prog_3_method_25_code
def yX1_firstToCall : MethodName := ⟨RX1, "firstToCall", "(I)I"⟩
abbrev cX1_hearAll : ByteArray := prog_3_method_26_code
def yX1_hearAll : MethodName := ⟨RX1, "hearAll", "()V"⟩
abbrev cX1_publicWays : ByteArray := prog_3_method_27_code
def yX1_publicWays : MethodName := ⟨RX1, "publicWays", "(LWarnWave$Group;LWarnWave$Warning;ZZZ)I"⟩
abbrev cX1_hearOne : ByteArray := prog_3_method_28_code
def yX1_hearOne : MethodName := ⟨RX1, "hearOne", "(III)V"⟩
abbrev cX1_believingNeighbour : ByteArray := prog_3_method_29_code
def yX1_believingNeighbour : MethodName := ⟨RX1, "believingNeighbour", "(II)I"⟩
abbrev cX1_believeAll : ByteArray := prog_3_method_30_code
def yX1_believeAll : MethodName := ⟨RX1, "believeAll", "()I"⟩
abbrev cX1_believeOne : ByteArray := prog_3_method_31_code
def yX1_believeOne : MethodName := ⟨RX1, "believeOne", "(LWarnWave$Group;)I"⟩
abbrev cX1_goAll : ByteArray := prog_3_method_32_code
def yX1_goAll : MethodName := ⟨RX1, "goAll", "()V"⟩
abbrev cX1_goOne : ByteArray := prog_3_method_33_code
def yX1_goOne : MethodName := ⟨RX1, "goOne", "(LWarnWave$Group;)V"⟩
abbrev cX1_nearestWithRoom : ByteArray := prog_3_method_34_code
def yX1_nearestWithRoom : MethodName := ⟨RX1, "nearestWithRoom", "(LWarnWave$Group;)I"⟩
abbrev cX1_harmAll : ByteArray := prog_3_method_35_code
def yX1_harmAll : MethodName := ⟨RX1, "harmAll", "()V"⟩
def RX2 : String := "WarnWave$Senders"
def TX2 : u_T := fun k => match k with
  | 0 => ("WarnWave$Senders", "cells", "[I", true)
  | 1 => ("WarnWave$Senders", "reaches", "[I", true)
  | 2 => ("WarnWave$Senders", "hasPower", "[Z", true)
  | _ => ("WarnWave$Senders", "count", "I", false)
def tyX2 : Nat → FieldType := fun k => match k with
  | 0 => .array .int
  | 1 => .array .int
  | 2 => .array .boolean
  | _ => .int
abbrev wsX20 : List Cond := u_ws RX2 TX2 4
theorem nmX2 : ∀ a, a < 4 → ∀ b, b < 4 → a ≠ b → (TX2 a).2.1 ≠ (TX2 b).2.1 := by decide +kernel
theorem tyX2_ok : ∀ k, k < 4 → parseFieldDescriptor (TX2 k).2.2.1 = some (tyX2 k) := by decide +kernel
abbrev cX2_init : ByteArray := prog_4_method_1_code
def yX2_init : MethodName := ⟨RX2, "<init>", "()V"⟩
abbrev cX2_add : ByteArray := prog_4_method_2_code
def yX2_add : MethodName := ⟨RX2, "add", "(II)I"⟩
abbrev cX2_setPower : ByteArray := prog_4_method_3_code
def yX2_setPower : MethodName := ⟨RX2, "setPower", "(IZ)I"⟩
abbrev cX2_cellsReached : ByteArray := prog_4_method_4_code
def yX2_cellsReached : MethodName := ⟨RX2, "cellsReached", "()I"⟩
abbrev cX2_becomeLike : ByteArray := prog_4_method_5_code
def yX2_becomeLike : MethodName := ⟨RX2, "becomeLike", "(LWarnWave$Senders;)V"⟩
def RX3 : String := "WarnWave$Shelter"
def TX3 : u_T := fun k => match k with
  | 0 => ("WarnWave$Shelter", "cell", "I", false)
  | _ => ("WarnWave$Shelter", "room", "I", false)
def tyX3 : Nat → FieldType := fun k => match k with
  | 0 => .int
  | _ => .int
abbrev wsX30 : List Cond := u_ws RX3 TX3 2
theorem nmX3 : ∀ a, a < 2 → ∀ b, b < 2 → a ≠ b → (TX3 a).2.1 ≠ (TX3 b).2.1 := by decide +kernel
theorem tyX3_ok : ∀ k, k < 2 → parseFieldDescriptor (TX3 k).2.2.1 = some (tyX3 k) := by decide +kernel
abbrev cX3_init : ByteArray := prog_5_method_1_code
def yX3_init : MethodName := ⟨RX3, "<init>", "()V"⟩
def RX4 : String := "WarnWave$Warning"
def TX4 : u_T := fun k => match k with
  | 0 => ("WarnWave$Warning", "kind", "I", false)
  | 1 => ("WarnWave$Warning", "other", "I", false)
  | 2 => ("WarnWave$Warning", "area", "I", false)
  | 3 => ("WarnWave$Warning", "advice", "I", false)
  | 4 => ("WarnWave$Warning", "tongues", "I", false)
  | 5 => ("WarnWave$Warning", "approvals", "I", false)
  | 6 => ("WarnWave$Warning", "sentAt", "I", false)
  | _ => ("WarnWave$Warning", "isInForce", "Z", false)
def tyX4 : Nat → FieldType := fun k => match k with
  | 0 => .int
  | 1 => .int
  | 2 => .int
  | 3 => .int
  | 4 => .int
  | 5 => .int
  | 6 => .int
  | _ => .boolean
abbrev wsX40 : List Cond := u_ws RX4 TX4 8
theorem nmX4 : ∀ a, a < 8 → ∀ b, b < 8 → a ≠ b → (TX4 a).2.1 ≠ (TX4 b).2.1 := by decide +kernel
theorem tyX4_ok : ∀ k, k < 8 → parseFieldDescriptor (TX4 k).2.2.1 = some (tyX4 k) := by decide +kernel
abbrev cX4_init : ByteArray := prog_6_method_1_code
def yX4_init : MethodName := ⟨RX4, "<init>", "()V"⟩
abbrev cX4_becomeLike : ByteArray := prog_6_method_2_code
def yX4_becomeLike : MethodName := ⟨RX4, "becomeLike", "(LWarnWave$Warning;)V"⟩
def RX5 : String := "WarnWave"
def TX5 : u_T := fun k => match k with
  | 0 => ("WarnWave", "land", "LWarnWave$Land;", true)
  | _ => ("WarnWave", "trial", "LWarnWave$Land;", true)
def tyX5 : Nat → FieldType := fun k => match k with
  | 0 => .object "WarnWave$Land"
  | _ => .object "WarnWave$Land"
abbrev wsX50 : List Cond := u_ws RX5 TX5 2
theorem nmX5 : ∀ a, a < 2 → ∀ b, b < 2 → a ≠ b → (TX5 a).2.1 ≠ (TX5 b).2.1 := by decide +kernel
theorem tyX5_ok : ∀ k, k < 2 → parseFieldDescriptor (TX5 k).2.2.1 = some (tyX5 k) := by decide +kernel
abbrev cX5_init : ByteArray := prog_1_method_1_code
def yX5_init : MethodName := ⟨RX5, "<init>", "()V"⟩
abbrev cX5_group : ByteArray := prog_1_method_2_code
def yX5_group : MethodName := ⟨RX5, "group", "(IIIZZ)I"⟩
abbrev cX5_trust : ByteArray := prog_1_method_3_code
def yX5_trust : MethodName := ⟨RX5, "trust", "(II)I"⟩
abbrev cX5_shelter : ByteArray := prog_1_method_4_code
def yX5_shelter : MethodName := ⟨RX5, "shelter", "(II)I"⟩
abbrev cX5_siren : ByteArray := prog_1_method_5_code
def yX5_siren : MethodName := ⟨RX5, "siren", "(II)I"⟩
abbrev cX5_mast : ByteArray := prog_1_method_6_code
def yX5_mast : MethodName := ⟨RX5, "mast", "(II)I"⟩
abbrev cX5_power : ByteArray := prog_1_method_7_code
def yX5_power : MethodName := ⟨RX5, "power", "(IZ)I"⟩
abbrev cX5_lines : ByteArray := prog_1_method_8_code
def yX5_lines : MethodName := ⟨RX5, "lines", "(I)I"⟩
abbrev cX5_danger : ByteArray := prog_1_method_9_code
def yX5_danger : MethodName := ⟨RX5, "danger", "(II)I"⟩
abbrev cX5_key : ByteArray := prog_1_method_10_code
def yX5_key : MethodName := ⟨RX5, "key", "(IZ)Z"⟩
abbrev cX5_alert : ByteArray := prog_1_method_11_code
def yX5_alert : MethodName := ⟨RX5, "alert", "(III)I"⟩
abbrev cX5_update : ByteArray := prog_1_method_12_code
def yX5_update : MethodName := ⟨RX5, "update", "(IIII)I"⟩
abbrev cX5_cancel : ByteArray := prog_1_method_13_code
def yX5_cancel : MethodName := ⟨RX5, "cancel", "(I)I"⟩
abbrev cX5_approve : ByteArray := prog_1_method_14_code
def yX5_approve : MethodName := ⟨RX5, "approve", "(II)I"⟩
abbrev cX5_send : ByteArray := prog_1_method_15_code
def yX5_send : MethodName := ⟨RX5, "send", "(I)I"⟩
abbrev cX5_pass : ByteArray := prog_1_method_16_code
def yX5_pass : MethodName := ⟨RX5, "pass", "(I)I"⟩
abbrev cX5_until : ByteArray := prog_1_method_17_code
def yX5_until : MethodName := ⟨RX5, "until", "(I)I"⟩
abbrev cX5_ofGroup : ByteArray := prog_1_method_18_code
def yX5_ofGroup : MethodName := ⟨RX5, "ofGroup", "(II)I"⟩
abbrev cX5_heard : ByteArray := prog_1_method_19_code
def yX5_heard : MethodName := ⟨RX5, "heard", "(III)I"⟩
abbrev cX5_ofWarning : ByteArray := prog_1_method_20_code
def yX5_ofWarning : MethodName := ⟨RX5, "ofWarning", "(II)I"⟩
abbrev cX5_inForce : ByteArray := prog_1_method_21_code
def yX5_inForce : MethodName := ⟨RX5, "inForce", "(I)I"⟩
abbrev cX5_roomIn : ByteArray := prog_1_method_22_code
def yX5_roomIn : MethodName := ⟨RX5, "roomIn", "(I)I"⟩
abbrev cX5_chain : ByteArray := prog_1_method_23_code
def yX5_chain : MethodName := ⟨RX5, "chain", "(II)I"⟩
abbrev cX5_many : ByteArray := prog_1_method_24_code
def yX5_many : MethodName := ⟨RX5, "many", "(I)I"⟩
abbrev cX5_meanDelay : ByteArray := prog_1_method_25_code
def yX5_meanDelay : MethodName := ⟨RX5, "meanDelay", "(I)D"⟩
abbrev cX5_safeIn : ByteArray := prog_1_method_26_code
def yX5_safeIn : MethodName := ⟨RX5, "safeIn", "(II)I"⟩
abbrev cX5_sirenWould : ByteArray := prog_1_method_27_code
def yX5_sirenWould : MethodName := ⟨RX5, "sirenWould", "(III)I"⟩
abbrev cX5_digest : ByteArray := prog_1_method_28_code
def yX5_digest : MethodName := ⟨RX5, "digest", "()J"⟩
abbrev cX5_mixHeard : ByteArray := prog_1_method_29_code
def yX5_mixHeard : MethodName := ⟨RX5, "mixHeard", "(JI)J"⟩
abbrev cX5_mix : ByteArray := prog_1_method_30_code
def yX5_mix : MethodName := ⟨RX5, "mix", "(JI)J"⟩
abbrev cX5_draft : ByteArray := prog_1_method_31_code
def yX5_draft : MethodName := ⟨RX5, "draft", "(IIIII)I"⟩
abbrev cX5_checkCell : ByteArray := prog_1_method_32_code
def yX5_checkCell : MethodName := ⟨RX5, "checkCell", "(I)V"⟩
abbrev cX5_checkOfficer : ByteArray := prog_1_method_33_code
def yX5_checkOfficer : MethodName := ⟨RX5, "checkOfficer", "(I)V"⟩
abbrev cX5_checkGroup : ByteArray := prog_1_method_34_code
def yX5_checkGroup : MethodName := ⟨RX5, "checkGroup", "(I)V"⟩
abbrev cX5_checkWarning : ByteArray := prog_1_method_35_code
def yX5_checkWarning : MethodName := ⟨RX5, "checkWarning", "(I)V"⟩
abbrev cX5_checkInForce : ByteArray := prog_1_method_36_code
def yX5_checkInForce : MethodName := ⟨RX5, "checkInForce", "(I)V"⟩
abbrev cX5_checkWords : ByteArray := prog_1_method_37_code
def yX5_checkWords : MethodName := ⟨RX5, "checkWords", "(III)V"⟩
abbrev cX5_checkRange : ByteArray := prog_1_method_38_code
def yX5_checkRange : MethodName := ⟨RX5, "checkRange", "(III)V"⟩
abbrev cX5_isIn : ByteArray := prog_1_method_39_code
def yX5_isIn : MethodName := ⟨RX5, "isIn", "(II)Z"⟩
abbrev cX5_distance : ByteArray := prog_1_method_40_code
def yX5_distance : MethodName := ⟨RX5, "distance", "(II)I"⟩
abbrev cX5_stepTowards : ByteArray := prog_1_method_41_code
def yX5_stepTowards : MethodName := ⟨RX5, "stepTowards", "(II)I"⟩
def RX6 : String := "WarnWaveModel$Land"
def TX6 : u_T := fun k => match k with
  | 0 => ("WarnWaveModel$Land", "groups", "[[I", true)
  | 1 => ("WarnWaveModel$Land", "warnings", "[[I", true)
  | 2 => ("WarnWaveModel$Land", "heard", "[[I", true)
  | 3 => ("WarnWaveModel$Land", "shelters", "[[I", true)
  | 4 => ("WarnWaveModel$Land", "sirens", "[[I", true)
  | 5 => ("WarnWaveModel$Land", "masts", "[[I", true)
  | 6 => ("WarnWaveModel$Land", "danger", "[I", true)
  | 7 => ("WarnWaveModel$Land", "believed", "[Z", true)
  | 8 => ("WarnWaveModel$Land", "now", "I", false)
  | 9 => ("WarnWaveModel$Land", "groupCount", "I", false)
  | 10 => ("WarnWaveModel$Land", "warningCount", "I", false)
  | 11 => ("WarnWaveModel$Land", "shelterCount", "I", false)
  | 12 => ("WarnWaveModel$Land", "sirenCount", "I", false)
  | 13 => ("WarnWaveModel$Land", "mastCount", "I", false)
  | 14 => ("WarnWaveModel$Land", "lines", "I", false)
  | _ => ("WarnWaveModel$Land", "calls", "I", false)
def tyX6 : Nat → FieldType := fun k => match k with
  | 0 => .array (.array .int)
  | 1 => .array (.array .int)
  | 2 => .array (.array .int)
  | 3 => .array (.array .int)
  | 4 => .array (.array .int)
  | 5 => .array (.array .int)
  | 6 => .array .int
  | 7 => .array .boolean
  | 8 => .int
  | 9 => .int
  | 10 => .int
  | 11 => .int
  | 12 => .int
  | 13 => .int
  | 14 => .int
  | _ => .int
abbrev wsX60 : List Cond := u_ws RX6 TX6 16
theorem nmX6 : ∀ a, a < 16 → ∀ b, b < 16 → a ≠ b → (TX6 a).2.1 ≠ (TX6 b).2.1 := by decide +kernel
theorem tyX6_ok : ∀ k, k < 16 → parseFieldDescriptor (TX6 k).2.2.1 = some (tyX6 k) := by decide +kernel
abbrev cX6_init : ByteArray := prog_9_method_1_code
def yX6_init : MethodName := ⟨RX6, "<init>", "()V"⟩
abbrev cX6_copy : ByteArray := prog_9_method_2_code
def yX6_copy : MethodName := ⟨RX6, "copy", "()LWarnWaveModel$Land;"⟩
abbrev cX6_isInForce : ByteArray := prog_9_method_3_code
def yX6_isInForce : MethodName := ⟨RX6, "isInForce", "(I)Z"⟩
abbrev cX6_isGone : ByteArray := prog_9_method_4_code
def yX6_isGone : MethodName := ⟨RX6, "isGone", "(I)Z"⟩
abbrev cX6_of : ByteArray := prog_9_method_5_code
def yX6_of : MethodName := ⟨RX6, "of", "(II)[I"⟩
abbrev cX6_believes : ByteArray := prog_9_method_6_code
def yX6_believes : MethodName := ⟨RX6, "believes", "(II)Z"⟩
abbrev cX6_latest : ByteArray := prog_9_method_7_code
def yX6_latest : MethodName := ⟨RX6, "latest", "(I)I"⟩
abbrev cX6_sleeps : ByteArray := prog_9_method_8_code
def yX6_sleeps : MethodName := ⟨RX6, "sleeps", "(I)Z"⟩
abbrev cX6_isDanger : ByteArray := prog_9_method_9_code
def yX6_isDanger : MethodName := ⟨RX6, "isDanger", "(I)Z"⟩
abbrev cX6_reaches : ByteArray := prog_9_method_10_code
def yX6_reaches : MethodName := ⟨RX6, "reaches", "([[III)Z"⟩
abbrev cX6_minute : ByteArray := prog_9_method_11_code
def yX6_minute : MethodName := ⟨RX6, "minute", "()I"⟩
abbrev cX6_isMeant : ByteArray := prog_9_method_12_code
def yX6_isMeant : MethodName := ⟨RX6, "isMeant", "(II)Z"⟩
abbrev cX6_isIn : ByteArray := prog_9_method_13_code
def yX6_isIn : MethodName := ⟨RX6, "isIn", "(II)Z"⟩
abbrev cX6_toCall : ByteArray := prog_9_method_14_code
def yX6_toCall : MethodName := ⟨RX6, "toCall", "(I)I"⟩
abbrev cX6_neighbour : ByteArray := prog_9_method_15_code
def yX6_neighbour : MethodName := ⟨RX6, "neighbour", "(II)I"⟩
abbrev cX6_hear : ByteArray := prog_9_method_16_code
def yX6_hear : MethodName := ⟨RX6, "hear", "(IIZZ)V"⟩
abbrev cX6_believe : ByteArray := prog_9_method_17_code
def yX6_believe : MethodName := ⟨RX6, "believe", "(II)I"⟩
abbrev cX6_go : ByteArray := prog_9_method_18_code
def yX6_go : MethodName := ⟨RX6, "go", "([II)V"⟩
abbrev cX6_believers : ByteArray := prog_9_method_19_code
def yX6_believers : MethodName := ⟨RX6, "believers", "()I"⟩
def RX7 : String := "WarnWaveModel"
def TX7 : u_T := fun k => match k with
  | 0 => ("WarnWaveModel", "thrown", "I", false)
  | 1 => ("WarnWaveModel", "land", "LWarnWaveModel$Land;", true)
  | _ => ("WarnWaveModel", "keys", "I", false)
def tyX7 : Nat → FieldType := fun k => match k with
  | 0 => .int
  | 1 => .object "WarnWaveModel$Land"
  | _ => .int
abbrev wsX70 : List Cond := u_ws RX7 TX7 3
theorem nmX7 : ∀ a, a < 3 → ∀ b, b < 3 → a ≠ b → (TX7 a).2.1 ≠ (TX7 b).2.1 := by decide +kernel
theorem tyX7_ok : ∀ k, k < 3 → parseFieldDescriptor (TX7 k).2.2.1 = some (tyX7 k) := by decide +kernel
abbrev cX7_init : ByteArray := prog_8_method_1_code
def yX7_init : MethodName := ⟨RX7, "<init>", "()V"⟩
abbrev cX7_thrown : ByteArray := prog_8_method_2_code
def yX7_thrown : MethodName := ⟨RX7, "thrown", "()I"⟩
abbrev cX7_no : ByteArray := prog_8_method_3_code
def yX7_no : MethodName := ⟨RX7, "no", "(I)I"⟩
abbrev cX7_in : ByteArray := prog_8_method_4_code
def yX7_in : MethodName := ⟨RX7, "in", "(III)Z"⟩
abbrev cX7_far : ByteArray := prog_8_method_5_code
def yX7_far : MethodName := ⟨RX7, "far", "(II)I"⟩
abbrev cX7_isNight : ByteArray := prog_8_method_6_code
def yX7_isNight : MethodName := ⟨RX7, "isNight", "(I)Z"⟩
abbrev cX7_isCell : ByteArray := prog_8_method_7_code
def yX7_isCell : MethodName := ⟨RX7, "isCell", "(I)Z"⟩
abbrev cX7_isGroup : ByteArray := prog_8_method_8_code
def yX7_isGroup : MethodName := ⟨RX7, "isGroup", "(I)Z"⟩
abbrev cX7_isWarning : ByteArray := prog_8_method_9_code
def yX7_isWarning : MethodName := ⟨RX7, "isWarning", "(I)Z"⟩
abbrev cX7_group : ByteArray := prog_8_method_10_code
def yX7_group : MethodName := ⟨RX7, "group", "(IIIZZ)I"⟩
abbrev cX7_clear : ByteArray := prog_8_method_11_code
def yX7_clear : MethodName := ⟨RX7, "clear", "(II)V"⟩
abbrev cX7_trust : ByteArray := prog_8_method_12_code
def yX7_trust : MethodName := ⟨RX7, "trust", "(II)I"⟩
abbrev cX7_shelter : ByteArray := prog_8_method_13_code
def yX7_shelter : MethodName := ⟨RX7, "shelter", "(II)I"⟩
abbrev cX7_lay : ByteArray := prog_8_method_14_code
def yX7_lay : MethodName := ⟨RX7, "lay", "([III)V"⟩
abbrev cX7_siren : ByteArray := prog_8_method_15_code
def yX7_siren : MethodName := ⟨RX7, "siren", "(II)I"⟩
abbrev cX7_mast : ByteArray := prog_8_method_16_code
def yX7_mast : MethodName := ⟨RX7, "mast", "(II)I"⟩
abbrev cX7_power : ByteArray := prog_8_method_17_code
def yX7_power : MethodName := ⟨RX7, "power", "([[IIII)I"⟩
abbrev cX7_power_ : ByteArray := prog_8_method_18_code
def yX7_power_ : MethodName := ⟨RX7, "power", "(IZ)I"⟩
abbrev cX7_lines : ByteArray := prog_8_method_19_code
def yX7_lines : MethodName := ⟨RX7, "lines", "(I)I"⟩
abbrev cX7_danger : ByteArray := prog_8_method_20_code
def yX7_danger : MethodName := ⟨RX7, "danger", "(II)I"⟩
abbrev cX7_key : ByteArray := prog_8_method_21_code
def yX7_key : MethodName := ⟨RX7, "key", "(IZ)Z"⟩
abbrev cX7_isText : ByteArray := prog_8_method_22_code
def yX7_isText : MethodName := ⟨RX7, "isText", "(III)Z"⟩
abbrev cX7_draft : ByteArray := prog_8_method_23_code
def yX7_draft : MethodName := ⟨RX7, "draft", "(IIIII)I"⟩
abbrev cX7_alert : ByteArray := prog_8_method_24_code
def yX7_alert : MethodName := ⟨RX7, "alert", "(III)I"⟩
abbrev cX7_update : ByteArray := prog_8_method_25_code
def yX7_update : MethodName := ⟨RX7, "update", "(IIII)I"⟩
abbrev cX7_cancel : ByteArray := prog_8_method_26_code
def yX7_cancel : MethodName := ⟨RX7, "cancel", "(I)I"⟩
abbrev cX7_lacking : ByteArray := prog_8_method_27_code
def yX7_lacking : MethodName := ⟨RX7, "lacking", "(I)I"⟩
abbrev cX7_approve : ByteArray := prog_8_method_28_code
def yX7_approve : MethodName := ⟨RX7, "approve", "(II)I"⟩
abbrev cX7_send : ByteArray := prog_8_method_29_code
def yX7_send : MethodName := ⟨RX7, "send", "(I)I"⟩
abbrev cX7_cancelled : ByteArray := prog_8_method_30_code
def yX7_cancelled : MethodName := ⟨RX7, "cancelled", "([I)V"⟩
abbrev cX7_pass : ByteArray := prog_8_method_31_code
def yX7_pass : MethodName := ⟨RX7, "pass", "(I)I"⟩
abbrev cX7_inForceNow : ByteArray := prog_8_method_32_code
def yX7_inForceNow : MethodName := ⟨RX7, "inForceNow", "()I"⟩
abbrev cX7_until : ByteArray := prog_8_method_33_code
def yX7_until : MethodName := ⟨RX7, "until", "(I)I"⟩
abbrev cX7_groupNow : ByteArray := prog_8_method_34_code
def yX7_groupNow : MethodName := ⟨RX7, "groupNow", "(II)I"⟩
abbrev cX7_ofGroup : ByteArray := prog_8_method_35_code
def yX7_ofGroup : MethodName := ⟨RX7, "ofGroup", "(II)I"⟩
abbrev cX7_heard : ByteArray := prog_8_method_36_code
def yX7_heard : MethodName := ⟨RX7, "heard", "(III)I"⟩
abbrev cX7_warningNow : ByteArray := prog_8_method_37_code
def yX7_warningNow : MethodName := ⟨RX7, "warningNow", "(II)I"⟩
abbrev cX7_ofWarning : ByteArray := prog_8_method_38_code
def yX7_ofWarning : MethodName := ⟨RX7, "ofWarning", "(II)I"⟩
abbrev cX7_forceNow : ByteArray := prog_8_method_39_code
def yX7_forceNow : MethodName := ⟨RX7, "forceNow", "(I)I"⟩
abbrev cX7_inForce : ByteArray := prog_8_method_40_code
def yX7_inForce : MethodName := ⟨RX7, "inForce", "(I)I"⟩
abbrev cX7_roomIn : ByteArray := prog_8_method_41_code
def yX7_roomIn : MethodName := ⟨RX7, "roomIn", "(I)I"⟩
abbrev cX7_chainNow : ByteArray := prog_8_method_42_code
def yX7_chainNow : MethodName := ⟨RX7, "chainNow", "(II)I"⟩
abbrev cX7_chain : ByteArray := prog_8_method_43_code
def yX7_chain : MethodName := ⟨RX7, "chain", "(II)I"⟩
abbrev cX7_manyNow : ByteArray := prog_8_method_44_code
def yX7_manyNow : MethodName := ⟨RX7, "manyNow", "(I)I"⟩
abbrev cX7_many : ByteArray := prog_8_method_45_code
def yX7_many : MethodName := ⟨RX7, "many", "(I)I"⟩
abbrev cX7_meanDelay : ByteArray := prog_8_method_46_code
def yX7_meanDelay : MethodName := ⟨RX7, "meanDelay", "(I)D"⟩
abbrev cX7_safeNow : ByteArray := prog_8_method_47_code
def yX7_safeNow : MethodName := ⟨RX7, "safeNow", "(II)I"⟩
abbrev cX7_safeIn : ByteArray := prog_8_method_48_code
def yX7_safeIn : MethodName := ⟨RX7, "safeIn", "(II)I"⟩
abbrev cX7_sirenNow : ByteArray := prog_8_method_49_code
def yX7_sirenNow : MethodName := ⟨RX7, "sirenNow", "(III)I"⟩
abbrev cX7_sirenWould : ByteArray := prog_8_method_50_code
def yX7_sirenWould : MethodName := ⟨RX7, "sirenWould", "(III)I"⟩
abbrev cX7_digest : ByteArray := prog_8_method_51_code
def yX7_digest : MethodName := ⟨RX7, "digest", "()J"⟩
def RJ6 : String := "java/lang/Integer"
abbrev cJ6_bitCount_0f7a4 : ByteArray := prog_14_method_49_code
def yJ6_bitCount_0f7a4 : MethodName := ⟨RJ6, "bitCount", "(I)I"⟩
def RJ9 : String := "java/lang/Math"
abbrev cJ9_floorMod_7cf53 : ByteArray := prog_15_method_50_code
def yJ9_floorMod_7cf53 : MethodName := ⟨RJ9, "floorMod", "(II)I"⟩
abbrev cJ9_abs_0f7a4 : ByteArray := prog_15_method_59_code
def yJ9_abs_0f7a4 : MethodName := ⟨RJ9, "abs", "(I)I"⟩
abbrev cJ9_max_7cf53 : ByteArray := prog_15_method_65_code
def yJ9_max_7cf53 : MethodName := ⟨RJ9, "max", "(II)I"⟩
abbrev cJ9_min_7cf53 : ByteArray := prog_15_method_69_code
def yJ9_min_7cf53 : MethodName := ⟨RJ9, "min", "(II)I"⟩
def RJ0 : String := "java/lang/String"
def RJ10 : String := "java/lang/System"
def RL : String := "WarnWaveLaw"
abbrev cL_group : ByteArray := method_3_code
def yL_group : MethodName := ⟨RL, "group", "(LWarnWave;IIIZZ[J)I"⟩
abbrev cL_trust : ByteArray := method_4_code
def yL_trust : MethodName := ⟨RL, "trust", "(LWarnWave;II[J)I"⟩
abbrev cL_shelter : ByteArray := method_5_code
def yL_shelter : MethodName := ⟨RL, "shelter", "(LWarnWave;II[J)I"⟩
abbrev cL_siren : ByteArray := method_6_code
def yL_siren : MethodName := ⟨RL, "siren", "(LWarnWave;II[J)I"⟩
abbrev cL_mast : ByteArray := method_7_code
def yL_mast : MethodName := ⟨RL, "mast", "(LWarnWave;II[J)I"⟩
abbrev cL_power : ByteArray := method_8_code
def yL_power : MethodName := ⟨RL, "power", "(LWarnWave;IZ[J)I"⟩
abbrev cL_lines : ByteArray := method_9_code
def yL_lines : MethodName := ⟨RL, "lines", "(LWarnWave;I[J)I"⟩
abbrev cL_danger : ByteArray := method_10_code
def yL_danger : MethodName := ⟨RL, "danger", "(LWarnWave;II[J)I"⟩
abbrev cL_key : ByteArray := method_11_code
def yL_key : MethodName := ⟨RL, "key", "(LWarnWave;IZ[J)I"⟩
abbrev cL_alert : ByteArray := method_12_code
def yL_alert : MethodName := ⟨RL, "alert", "(LWarnWave;III[J)I"⟩
abbrev cL_update : ByteArray := method_13_code
def yL_update : MethodName := ⟨RL, "update", "(LWarnWave;IIII[J)I"⟩
abbrev cL_cancel : ByteArray := method_14_code
def yL_cancel : MethodName := ⟨RL, "cancel", "(LWarnWave;I[J)I"⟩
abbrev cL_approve : ByteArray := method_15_code
def yL_approve : MethodName := ⟨RL, "approve", "(LWarnWave;II[J)I"⟩
abbrev cL_send : ByteArray := method_16_code
def yL_send : MethodName := ⟨RL, "send", "(LWarnWave;I[J)I"⟩
abbrev cL_pass : ByteArray := method_17_code
def yL_pass : MethodName := ⟨RL, "pass", "(LWarnWave;I[J)I"⟩
abbrev cL_until : ByteArray := method_18_code
def yL_until : MethodName := ⟨RL, "until", "(LWarnWave;I[J)I"⟩
abbrev cL_ofGroup : ByteArray := method_19_code
def yL_ofGroup : MethodName := ⟨RL, "ofGroup", "(LWarnWave;II[J)I"⟩
abbrev cL_heard : ByteArray := method_20_code
def yL_heard : MethodName := ⟨RL, "heard", "(LWarnWave;III[J)I"⟩
abbrev cL_ofWarning : ByteArray := method_21_code
def yL_ofWarning : MethodName := ⟨RL, "ofWarning", "(LWarnWave;II[J)I"⟩
abbrev cL_inForce : ByteArray := method_22_code
def yL_inForce : MethodName := ⟨RL, "inForce", "(LWarnWave;I[J)I"⟩
abbrev cL_roomIn : ByteArray := method_23_code
def yL_roomIn : MethodName := ⟨RL, "roomIn", "(LWarnWave;I[J)I"⟩
abbrev cL_chain : ByteArray := method_24_code
def yL_chain : MethodName := ⟨RL, "chain", "(LWarnWave;II[J)I"⟩
abbrev cL_many : ByteArray := method_25_code
def yL_many : MethodName := ⟨RL, "many", "(LWarnWave;I[J)I"⟩
abbrev cL_meanDelay : ByteArray := method_26_code
def yL_meanDelay : MethodName := ⟨RL, "meanDelay", "(LWarnWave;I[D)I"⟩
abbrev cL_safeIn : ByteArray := method_27_code
def yL_safeIn : MethodName := ⟨RL, "safeIn", "(LWarnWave;II[J)I"⟩
abbrev cL_sirenWould : ByteArray := method_28_code
def yL_sirenWould : MethodName := ⟨RL, "sirenWould", "(LWarnWave;III[J)I"⟩
abbrev cL_law : ByteArray := code
def yL_law : MethodName := ⟨RL, "law", "([I)Z"⟩
