section
/-! the tables' words, the names of the classes and of their methods (begun from the printed texts) -/
/-- a private method of a class that the tables say can be made, by its rows of tables_1 -/
def lw_okq (q : MethodName × Nat) : Prop := (q.1.cls ≠ "java/lang/invoke/MethodHandle" ∧ q.1.cls ≠ "java/lang/invoke/VarHandle") ∧ Cond.instantiable q.1.cls q.2 ∈ tables_1 ∧ Cond.privateMethod q.1 ∈ tables_1 ∧ Cond.instanceMethod q.1 ∈ tables_1
theorem lw_p0 : lw_okq (⟨"java/lang/Throwable", "fillInStackTrace", "(I)Ljava/lang/Throwable;"⟩, 6) := ⟨⟨by decide +kernel, by decide +kernel⟩, List.mem_of_getElem? (i := 352) (by decide +kernel), List.mem_of_getElem? (i := 350) (by decide +kernel), List.mem_of_getElem? (i := 351) (by decide +kernel)⟩
theorem lw_p1 : lw_okq (⟨"WarnWave", "checkGroup", "(I)V"⟩, 2) := ⟨⟨by decide +kernel, by decide +kernel⟩, List.mem_of_getElem? (i := 19) (by decide +kernel), List.mem_of_getElem? (i := 390) (by decide +kernel), List.mem_of_getElem? (i := 391) (by decide +kernel)⟩
theorem lw_p2 : lw_okq (⟨"WarnWave$Land", "chooseCalls", "()V"⟩, 14) := ⟨⟨by decide +kernel, by decide +kernel⟩, List.mem_of_getElem? (i := 27) (by decide +kernel), List.mem_of_getElem? (i := 447) (by decide +kernel), List.mem_of_getElem? (i := 448) (by decide +kernel)⟩
theorem lw_p3 : lw_okq (⟨"WarnWave$Land", "firstToCall", "(I)I"⟩, 14) := ⟨⟨by decide +kernel, by decide +kernel⟩, List.mem_of_getElem? (i := 27) (by decide +kernel), List.mem_of_getElem? (i := 451) (by decide +kernel), List.mem_of_getElem? (i := 452) (by decide +kernel)⟩
theorem lw_p4 : lw_okq (⟨"WarnWave$Land", "hearAll", "()V"⟩, 14) := ⟨⟨by decide +kernel, by decide +kernel⟩, List.mem_of_getElem? (i := 27) (by decide +kernel), List.mem_of_getElem? (i := 458) (by decide +kernel), List.mem_of_getElem? (i := 459) (by decide +kernel)⟩
theorem lw_p5 : lw_okq (⟨"WarnWave$Land", "publicWays", "(LWarnWave$Group;LWarnWave$Warning;ZZZ)I"⟩, 14) := ⟨⟨by decide +kernel, by decide +kernel⟩, List.mem_of_getElem? (i := 27) (by decide +kernel), List.mem_of_getElem? (i := 472) (by decide +kernel), List.mem_of_getElem? (i := 473) (by decide +kernel)⟩
theorem lw_p6 : lw_okq (⟨"WarnWave$Land", "hearOne", "(III)V"⟩, 14) := ⟨⟨by decide +kernel, by decide +kernel⟩, List.mem_of_getElem? (i := 27) (by decide +kernel), List.mem_of_getElem? (i := 476) (by decide +kernel), List.mem_of_getElem? (i := 477) (by decide +kernel)⟩
theorem lw_p7 : lw_okq (⟨"WarnWave$Land", "believingNeighbour", "(II)I"⟩, 14) := ⟨⟨by decide +kernel, by decide +kernel⟩, List.mem_of_getElem? (i := 27) (by decide +kernel), List.mem_of_getElem? (i := 480) (by decide +kernel), List.mem_of_getElem? (i := 481) (by decide +kernel)⟩
theorem lw_p8 : lw_okq (⟨"WarnWave$Land", "believeAll", "()I"⟩, 14) := ⟨⟨by decide +kernel, by decide +kernel⟩, List.mem_of_getElem? (i := 27) (by decide +kernel), List.mem_of_getElem? (i := 490) (by decide +kernel), List.mem_of_getElem? (i := 491) (by decide +kernel)⟩
theorem lw_p9 : lw_okq (⟨"WarnWave$Land", "believeOne", "(LWarnWave$Group;)I"⟩, 14) := ⟨⟨by decide +kernel, by decide +kernel⟩, List.mem_of_getElem? (i := 27) (by decide +kernel), List.mem_of_getElem? (i := 494) (by decide +kernel), List.mem_of_getElem? (i := 495) (by decide +kernel)⟩
theorem lw_p10 : lw_okq (⟨"WarnWave$Land", "goAll", "()V"⟩, 14) := ⟨⟨by decide +kernel, by decide +kernel⟩, List.mem_of_getElem? (i := 27) (by decide +kernel), List.mem_of_getElem? (i := 511) (by decide +kernel), List.mem_of_getElem? (i := 512) (by decide +kernel)⟩
theorem lw_p11 : lw_okq (⟨"WarnWave$Land", "goOne", "(LWarnWave$Group;)V"⟩, 14) := ⟨⟨by decide +kernel, by decide +kernel⟩, List.mem_of_getElem? (i := 27) (by decide +kernel), List.mem_of_getElem? (i := 515) (by decide +kernel), List.mem_of_getElem? (i := 516) (by decide +kernel)⟩
theorem lw_p12 : lw_okq (⟨"WarnWave$Land", "nearestWithRoom", "(LWarnWave$Group;)I"⟩, 14) := ⟨⟨by decide +kernel, by decide +kernel⟩, List.mem_of_getElem? (i := 27) (by decide +kernel), List.mem_of_getElem? (i := 519) (by decide +kernel), List.mem_of_getElem? (i := 520) (by decide +kernel)⟩
theorem lw_p13 : lw_okq (⟨"WarnWave$Land", "harmAll", "()V"⟩, 14) := ⟨⟨by decide +kernel, by decide +kernel⟩, List.mem_of_getElem? (i := 27) (by decide +kernel), List.mem_of_getElem? (i := 526) (by decide +kernel), List.mem_of_getElem? (i := 527) (by decide +kernel)⟩
theorem lw_p14 : lw_okq (⟨"WarnWave", "mixHeard", "(JI)J"⟩, 2) := ⟨⟨by decide +kernel, by decide +kernel⟩, List.mem_of_getElem? (i := 19) (by decide +kernel), List.mem_of_getElem? (i := 530) (by decide +kernel), List.mem_of_getElem? (i := 531) (by decide +kernel)⟩
theorem lw_p15 : lw_okq (⟨"WarnWave", "checkWarning", "(I)V"⟩, 2) := ⟨⟨by decide +kernel, by decide +kernel⟩, List.mem_of_getElem? (i := 19) (by decide +kernel), List.mem_of_getElem? (i := 538) (by decide +kernel), List.mem_of_getElem? (i := 539) (by decide +kernel)⟩
def lw_privs_1 : List (MethodName × Nat) := [(⟨"java/lang/Throwable", "fillInStackTrace", "(I)Ljava/lang/Throwable;"⟩, 6), (⟨"WarnWave", "checkGroup", "(I)V"⟩, 2), (⟨"WarnWave$Land", "chooseCalls", "()V"⟩, 14), (⟨"WarnWave$Land", "firstToCall", "(I)I"⟩, 14), (⟨"WarnWave$Land", "hearAll", "()V"⟩, 14), (⟨"WarnWave$Land", "publicWays", "(LWarnWave$Group;LWarnWave$Warning;ZZZ)I"⟩, 14), (⟨"WarnWave$Land", "hearOne", "(III)V"⟩, 14), (⟨"WarnWave$Land", "believingNeighbour", "(II)I"⟩, 14), (⟨"WarnWave$Land", "believeAll", "()I"⟩, 14), (⟨"WarnWave$Land", "believeOne", "(LWarnWave$Group;)I"⟩, 14), (⟨"WarnWave$Land", "goAll", "()V"⟩, 14), (⟨"WarnWave$Land", "goOne", "(LWarnWave$Group;)V"⟩, 14), (⟨"WarnWave$Land", "nearestWithRoom", "(LWarnWave$Group;)I"⟩, 14), (⟨"WarnWave$Land", "harmAll", "()V"⟩, 14), (⟨"WarnWave", "mixHeard", "(JI)J"⟩, 2), (⟨"WarnWave", "checkWarning", "(I)V"⟩, 2)]
theorem lw_r1 : ∀ q ∈ lw_privs_1, lw_okq q := List.forall_mem_cons.mpr ⟨lw_p0, List.forall_mem_cons.mpr ⟨lw_p1, List.forall_mem_cons.mpr ⟨lw_p2, List.forall_mem_cons.mpr ⟨lw_p3, List.forall_mem_cons.mpr ⟨lw_p4, List.forall_mem_cons.mpr ⟨lw_p5, List.forall_mem_cons.mpr ⟨lw_p6, List.forall_mem_cons.mpr ⟨lw_p7, List.forall_mem_cons.mpr ⟨lw_p8, List.forall_mem_cons.mpr ⟨lw_p9, List.forall_mem_cons.mpr ⟨lw_p10, List.forall_mem_cons.mpr ⟨lw_p11, List.forall_mem_cons.mpr ⟨lw_p12, List.forall_mem_cons.mpr ⟨lw_p13, List.forall_mem_cons.mpr ⟨lw_p14, List.forall_mem_cons.mpr ⟨lw_p15, fun _ h => absurd h List.not_mem_nil⟩⟩⟩⟩⟩⟩⟩⟩⟩⟩⟩⟩⟩⟩⟩⟩
theorem lw_p16 : lw_okq (⟨"WarnWave", "draft", "(IIIII)I"⟩, 2) := ⟨⟨by decide +kernel, by decide +kernel⟩, List.mem_of_getElem? (i := 19) (by decide +kernel), List.mem_of_getElem? (i := 686) (by decide +kernel), List.mem_of_getElem? (i := 687) (by decide +kernel)⟩
theorem lw_p17 : lw_okq (⟨"WarnWave", "checkInForce", "(I)V"⟩, 2) := ⟨⟨by decide +kernel, by decide +kernel⟩, List.mem_of_getElem? (i := 19) (by decide +kernel), List.mem_of_getElem? (i := 698) (by decide +kernel), List.mem_of_getElem? (i := 699) (by decide +kernel)⟩
theorem lw_p18 : lw_okq (⟨"WarnWave$Land", "isStillAbout", "(LWarnWave$Warning;)Z"⟩, 14) := ⟨⟨by decide +kernel, by decide +kernel⟩, List.mem_of_getElem? (i := 27) (by decide +kernel), List.mem_of_getElem? (i := 736) (by decide +kernel), List.mem_of_getElem? (i := 737) (by decide +kernel)⟩
theorem lw_p19 : lw_okq (⟨"WarnWave$Land", "judge", "(I)V"⟩, 14) := ⟨⟨by decide +kernel, by decide +kernel⟩, List.mem_of_getElem? (i := 27) (by decide +kernel), List.mem_of_getElem? (i := 745) (by decide +kernel), List.mem_of_getElem? (i := 746) (by decide +kernel)⟩
theorem lw_p20 : lw_okq (⟨"WarnWave$Land", "letOut", "()V"⟩, 14) := ⟨⟨by decide +kernel, by decide +kernel⟩, List.mem_of_getElem? (i := 27) (by decide +kernel), List.mem_of_getElem? (i := 753) (by decide +kernel), List.mem_of_getElem? (i := 754) (by decide +kernel)⟩
theorem lw_p21 : lw_okq (⟨"WarnWaveModel", "no", "(I)I"⟩, 3) := ⟨⟨by decide +kernel, by decide +kernel⟩, List.mem_of_getElem? (i := 823) (by decide +kernel), List.mem_of_getElem? (i := 924) (by decide +kernel), List.mem_of_getElem? (i := 925) (by decide +kernel)⟩
theorem lw_p22 : lw_okq (⟨"WarnWaveModel", "clear", "(II)V"⟩, 3) := ⟨⟨by decide +kernel, by decide +kernel⟩, List.mem_of_getElem? (i := 823) (by decide +kernel), List.mem_of_getElem? (i := 929) (by decide +kernel), List.mem_of_getElem? (i := 930) (by decide +kernel)⟩
theorem lw_p23 : lw_okq (⟨"WarnWaveModel", "isGroup", "(I)Z"⟩, 3) := ⟨⟨by decide +kernel, by decide +kernel⟩, List.mem_of_getElem? (i := 823) (by decide +kernel), List.mem_of_getElem? (i := 941) (by decide +kernel), List.mem_of_getElem? (i := 942) (by decide +kernel)⟩
theorem lw_p24 : lw_okq (⟨"WarnWaveModel", "draft", "(IIIII)I"⟩, 3) := ⟨⟨by decide +kernel, by decide +kernel⟩, List.mem_of_getElem? (i := 823) (by decide +kernel), List.mem_of_getElem? (i := 987) (by decide +kernel), List.mem_of_getElem? (i := 988) (by decide +kernel)⟩
theorem lw_p25 : lw_okq (⟨"WarnWaveModel", "isWarning", "(I)Z"⟩, 3) := ⟨⟨by decide +kernel, by decide +kernel⟩, List.mem_of_getElem? (i := 823) (by decide +kernel), List.mem_of_getElem? (i := 995) (by decide +kernel), List.mem_of_getElem? (i := 996) (by decide +kernel)⟩
theorem lw_p26 : lw_okq (⟨"WarnWaveModel", "lacking", "(I)I"⟩, 3) := ⟨⟨by decide +kernel, by decide +kernel⟩, List.mem_of_getElem? (i := 823) (by decide +kernel), List.mem_of_getElem? (i := 1011) (by decide +kernel), List.mem_of_getElem? (i := 1012) (by decide +kernel)⟩
theorem lw_p27 : lw_okq (⟨"WarnWaveModel", "cancelled", "([I)V"⟩, 3) := ⟨⟨by decide +kernel, by decide +kernel⟩, List.mem_of_getElem? (i := 823) (by decide +kernel), List.mem_of_getElem? (i := 1020) (by decide +kernel), List.mem_of_getElem? (i := 1021) (by decide +kernel)⟩
theorem lw_p28 : lw_okq (⟨"WarnWaveModel$Land", "toCall", "(I)I"⟩, 16) := ⟨⟨by decide +kernel, by decide +kernel⟩, List.mem_of_getElem? (i := 829) (by decide +kernel), List.mem_of_getElem? (i := 1061) (by decide +kernel), List.mem_of_getElem? (i := 1062) (by decide +kernel)⟩
theorem lw_p29 : lw_okq (⟨"WarnWaveModel$Land", "isMeant", "(II)Z"⟩, 16) := ⟨⟨by decide +kernel, by decide +kernel⟩, List.mem_of_getElem? (i := 829) (by decide +kernel), List.mem_of_getElem? (i := 1065) (by decide +kernel), List.mem_of_getElem? (i := 1066) (by decide +kernel)⟩
theorem lw_p30 : lw_okq (⟨"WarnWaveModel$Land", "isIn", "(II)Z"⟩, 16) := ⟨⟨by decide +kernel, by decide +kernel⟩, List.mem_of_getElem? (i := 829) (by decide +kernel), List.mem_of_getElem? (i := 1069) (by decide +kernel), List.mem_of_getElem? (i := 1070) (by decide +kernel)⟩
theorem lw_p31 : lw_okq (⟨"WarnWaveModel$Land", "hear", "(IIZZ)V"⟩, 16) := ⟨⟨by decide +kernel, by decide +kernel⟩, List.mem_of_getElem? (i := 829) (by decide +kernel), List.mem_of_getElem? (i := 1073) (by decide +kernel), List.mem_of_getElem? (i := 1074) (by decide +kernel)⟩
def lw_privs_2 : List (MethodName × Nat) := [(⟨"WarnWave", "draft", "(IIIII)I"⟩, 2), (⟨"WarnWave", "checkInForce", "(I)V"⟩, 2), (⟨"WarnWave$Land", "isStillAbout", "(LWarnWave$Warning;)Z"⟩, 14), (⟨"WarnWave$Land", "judge", "(I)V"⟩, 14), (⟨"WarnWave$Land", "letOut", "()V"⟩, 14), (⟨"WarnWaveModel", "no", "(I)I"⟩, 3), (⟨"WarnWaveModel", "clear", "(II)V"⟩, 3), (⟨"WarnWaveModel", "isGroup", "(I)Z"⟩, 3), (⟨"WarnWaveModel", "draft", "(IIIII)I"⟩, 3), (⟨"WarnWaveModel", "isWarning", "(I)Z"⟩, 3), (⟨"WarnWaveModel", "lacking", "(I)I"⟩, 3), (⟨"WarnWaveModel", "cancelled", "([I)V"⟩, 3), (⟨"WarnWaveModel$Land", "toCall", "(I)I"⟩, 16), (⟨"WarnWaveModel$Land", "isMeant", "(II)Z"⟩, 16), (⟨"WarnWaveModel$Land", "isIn", "(II)Z"⟩, 16), (⟨"WarnWaveModel$Land", "hear", "(IIZZ)V"⟩, 16)]
theorem lw_r2 : ∀ q ∈ lw_privs_2, lw_okq q := List.forall_mem_cons.mpr ⟨lw_p16, List.forall_mem_cons.mpr ⟨lw_p17, List.forall_mem_cons.mpr ⟨lw_p18, List.forall_mem_cons.mpr ⟨lw_p19, List.forall_mem_cons.mpr ⟨lw_p20, List.forall_mem_cons.mpr ⟨lw_p21, List.forall_mem_cons.mpr ⟨lw_p22, List.forall_mem_cons.mpr ⟨lw_p23, List.forall_mem_cons.mpr ⟨lw_p24, List.forall_mem_cons.mpr ⟨lw_p25, List.forall_mem_cons.mpr ⟨lw_p26, List.forall_mem_cons.mpr ⟨lw_p27, List.forall_mem_cons.mpr ⟨lw_p28, List.forall_mem_cons.mpr ⟨lw_p29, List.forall_mem_cons.mpr ⟨lw_p30, List.forall_mem_cons.mpr ⟨lw_p31, fun _ h => absurd h List.not_mem_nil⟩⟩⟩⟩⟩⟩⟩⟩⟩⟩⟩⟩⟩⟩⟩⟩
theorem lw_p32 : lw_okq (⟨"WarnWaveModel$Land", "neighbour", "(II)I"⟩, 16) := ⟨⟨by decide +kernel, by decide +kernel⟩, List.mem_of_getElem? (i := 829) (by decide +kernel), List.mem_of_getElem? (i := 1077) (by decide +kernel), List.mem_of_getElem? (i := 1078) (by decide +kernel)⟩
theorem lw_p33 : lw_okq (⟨"WarnWaveModel$Land", "believe", "(II)I"⟩, 16) := ⟨⟨by decide +kernel, by decide +kernel⟩, List.mem_of_getElem? (i := 829) (by decide +kernel), List.mem_of_getElem? (i := 1088) (by decide +kernel), List.mem_of_getElem? (i := 1089) (by decide +kernel)⟩
theorem lw_p34 : lw_okq (⟨"WarnWaveModel$Land", "go", "([II)V"⟩, 16) := ⟨⟨by decide +kernel, by decide +kernel⟩, List.mem_of_getElem? (i := 829) (by decide +kernel), List.mem_of_getElem? (i := 1093) (by decide +kernel), List.mem_of_getElem? (i := 1094) (by decide +kernel)⟩
theorem lw_p35 : lw_okq (⟨"WarnWaveModel", "inForceNow", "()I"⟩, 3) := ⟨⟨by decide +kernel, by decide +kernel⟩, List.mem_of_getElem? (i := 823) (by decide +kernel), List.mem_of_getElem? (i := 1102) (by decide +kernel), List.mem_of_getElem? (i := 1103) (by decide +kernel)⟩
theorem lw_p36 : lw_okq (⟨"WarnWaveModel", "groupNow", "(II)I"⟩, 3) := ⟨⟨by decide +kernel, by decide +kernel⟩, List.mem_of_getElem? (i := 823) (by decide +kernel), List.mem_of_getElem? (i := 1110) (by decide +kernel), List.mem_of_getElem? (i := 1111) (by decide +kernel)⟩
theorem lw_p37 : lw_okq (⟨"WarnWaveModel", "warningNow", "(II)I"⟩, 3) := ⟨⟨by decide +kernel, by decide +kernel⟩, List.mem_of_getElem? (i := 823) (by decide +kernel), List.mem_of_getElem? (i := 1123) (by decide +kernel), List.mem_of_getElem? (i := 1124) (by decide +kernel)⟩
theorem lw_p38 : lw_okq (⟨"WarnWaveModel", "forceNow", "(I)I"⟩, 3) := ⟨⟨by decide +kernel, by decide +kernel⟩, List.mem_of_getElem? (i := 823) (by decide +kernel), List.mem_of_getElem? (i := 1131) (by decide +kernel), List.mem_of_getElem? (i := 1132) (by decide +kernel)⟩
theorem lw_p39 : lw_okq (⟨"WarnWaveModel", "chainNow", "(II)I"⟩, 3) := ⟨⟨by decide +kernel, by decide +kernel⟩, List.mem_of_getElem? (i := 823) (by decide +kernel), List.mem_of_getElem? (i := 1143) (by decide +kernel), List.mem_of_getElem? (i := 1144) (by decide +kernel)⟩
theorem lw_p40 : lw_okq (⟨"WarnWaveModel", "manyNow", "(I)I"⟩, 3) := ⟨⟨by decide +kernel, by decide +kernel⟩, List.mem_of_getElem? (i := 823) (by decide +kernel), List.mem_of_getElem? (i := 1151) (by decide +kernel), List.mem_of_getElem? (i := 1152) (by decide +kernel)⟩
theorem lw_p41 : lw_okq (⟨"WarnWaveModel", "safeNow", "(II)I"⟩, 3) := ⟨⟨by decide +kernel, by decide +kernel⟩, List.mem_of_getElem? (i := 823) (by decide +kernel), List.mem_of_getElem? (i := 1163) (by decide +kernel), List.mem_of_getElem? (i := 1164) (by decide +kernel)⟩
theorem lw_p42 : lw_okq (⟨"WarnWaveModel", "sirenNow", "(III)I"⟩, 3) := ⟨⟨by decide +kernel, by decide +kernel⟩, List.mem_of_getElem? (i := 823) (by decide +kernel), List.mem_of_getElem? (i := 1178) (by decide +kernel), List.mem_of_getElem? (i := 1179) (by decide +kernel)⟩
def lw_privs_3 : List (MethodName × Nat) := [(⟨"WarnWaveModel$Land", "neighbour", "(II)I"⟩, 16), (⟨"WarnWaveModel$Land", "believe", "(II)I"⟩, 16), (⟨"WarnWaveModel$Land", "go", "([II)V"⟩, 16), (⟨"WarnWaveModel", "inForceNow", "()I"⟩, 3), (⟨"WarnWaveModel", "groupNow", "(II)I"⟩, 3), (⟨"WarnWaveModel", "warningNow", "(II)I"⟩, 3), (⟨"WarnWaveModel", "forceNow", "(I)I"⟩, 3), (⟨"WarnWaveModel", "chainNow", "(II)I"⟩, 3), (⟨"WarnWaveModel", "manyNow", "(I)I"⟩, 3), (⟨"WarnWaveModel", "safeNow", "(II)I"⟩, 3), (⟨"WarnWaveModel", "sirenNow", "(III)I"⟩, 3)]
theorem lw_r3 : ∀ q ∈ lw_privs_3, lw_okq q := List.forall_mem_cons.mpr ⟨lw_p32, List.forall_mem_cons.mpr ⟨lw_p33, List.forall_mem_cons.mpr ⟨lw_p34, List.forall_mem_cons.mpr ⟨lw_p35, List.forall_mem_cons.mpr ⟨lw_p36, List.forall_mem_cons.mpr ⟨lw_p37, List.forall_mem_cons.mpr ⟨lw_p38, List.forall_mem_cons.mpr ⟨lw_p39, List.forall_mem_cons.mpr ⟨lw_p40, List.forall_mem_cons.mpr ⟨lw_p41, List.forall_mem_cons.mpr ⟨lw_p42, fun _ h => absurd h List.not_mem_nil⟩⟩⟩⟩⟩⟩⟩⟩⟩⟩⟩
def lw_privs : List (MethodName × Nat) := lw_privs_1 ++ (lw_privs_2 ++ (lw_privs_3))
def lw_tbl : List Cond := k2_sels lw_privs ++ tables_1
theorem lw_privs_ok : ∀ q ∈ lw_privs, lw_okq q := by
  show ∀ q ∈ lw_privs_1 ++ (lw_privs_2 ++ (lw_privs_3)), lw_okq q
  exact List.forall_mem_append.mpr ⟨lw_r1, List.forall_mem_append.mpr ⟨lw_r2, lw_r3⟩⟩
/-- the streams that the claim lets the run draw from -/
abbrev lw_cs : List Choice := [Jvm.Choice.named "NaN.bits"]
theorem lw_bits : nanBits ∈ lw_cs := by first | decide | exact List.mem_cons_self | simp [lw_cs, nanBits]
def RX0 : String := "WarnWave$Group"
def TX0 : u_T := fun k => match k with
  | 0 => ("WarnWave$Group", "cell", "I", false)
  | 1 => ("WarnWave$Group", "people", "I", false)
  | 2 => ("WarnWave$Group", "tongue", "I", false)
  | 3 => ("WarnWave$Group", "trust", "I", false)
  | 4 => ("WarnWave$Group", "isDeaf", "Z", false)
  | 5 => ("WarnWave$Group", "hasRadio", "Z", false)
  | 6 => ("WarnWave$Group", "shelter", "I", false)
  | 7 => ("WarnWave$Group", "harm", "I", false)
  | 8 => ("WarnWave$Group", "ways", "[I", true)
  | 9 => ("WarnWave$Group", "heardAt", "[I", true)
  | 10 => ("WarnWave$Group", "heardBy", "[I", true)
  | 11 => ("WarnWave$Group", "heardFrom", "[I", true)
  | _ => ("WarnWave$Group", "believedAt", "[I", true)
def tyX0 : Nat → FieldType := fun k => match k with
  | 0 => .int
  | 1 => .int
  | 2 => .int
  | 3 => .int
  | 4 => .boolean
  | 5 => .boolean
  | 6 => .int
  | 7 => .int
  | 8 => .array .int
  | 9 => .array .int
  | 10 => .array .int
  | 11 => .array .int
  | _ => .array .int
abbrev wsX00 : List Cond := u_ws RX0 TX0 13
theorem nmX0 : ∀ a, a < 13 → ∀ b, b < 13 → a ≠ b → (TX0 a).2.1 ≠ (TX0 b).2.1 := by decide +kernel
theorem tyX0_ok : ∀ k, k < 13 → parseFieldDescriptor (TX0 k).2.2.1 = some (tyX0 k) := by decide +kernel
abbrev cX0_init : ByteArray := prog_2_method_1_code
def yX0_init : MethodName := ⟨RX0, "<init>", "()V"⟩
abbrev cX0_becomeLike : ByteArray := prog_2_method_2_code
def yX0_becomeLike : MethodName := ⟨RX0, "becomeLike", "(LWarnWave$Group;)V"⟩
abbrev cX0_isGone : ByteArray := prog_2_method_3_code
def yX0_isGone : MethodName := ⟨RX0, "isGone", "()Z"⟩
abbrev cX0_isSafe : ByteArray := prog_2_method_4_code
def yX0_isSafe : MethodName := ⟨RX0, "isSafe", "()Z"⟩
abbrev cX0_waysNeeded : ByteArray := prog_2_method_5_code
def yX0_waysNeeded : MethodName := ⟨RX0, "waysNeeded", "()I"⟩
abbrev cX0_noteWays : ByteArray := prog_2_method_6_code
def yX0_noteWays : MethodName := ⟨RX0, "noteWays", "(IIII)V"⟩
def RX1 : String := "WarnWave$Land"
def TX1 : u_T := fun k => match k with
  | 0 => ("WarnWave$Land", "now", "I", false)
  | 1 => ("WarnWave$Land", "lines", "I", false)
  | 2 => ("WarnWave$Land", "keys", "I", false)
  | 3 => ("WarnWave$Land", "callsMade", "I", false)
  | 4 => ("WarnWave$Land", "groupCount", "I", false)
  | 5 => ("WarnWave$Land", "shelterCount", "I", false)
  | 6 => ("WarnWave$Land", "warningCount", "I", false)
  | 7 => ("WarnWave$Land", "groups", "[LWarnWave$Group;", true)
  | 8 => ("WarnWave$Land", "shelters", "[LWarnWave$Shelter;", true)
  | 9 => ("WarnWave$Land", "warnings", "[LWarnWave$Warning;", true)
  | 10 => ("WarnWave$Land", "sirens", "LWarnWave$Senders;", true)
  | 11 => ("WarnWave$Land", "masts", "LWarnWave$Senders;", true)
  | 12 => ("WarnWave$Land", "dangerFrom", "[I", true)
  | _ => ("WarnWave$Land", "called", "[I", true)
def tyX1 : Nat → FieldType := fun k => match k with
  | 0 => .int
  | 1 => .int
  | 2 => .int
  | 3 => .int
  | 4 => .int
  | 5 => .int
  | 6 => .int
  | 7 => .array (.object "WarnWave$Group")
  | 8 => .array (.object "WarnWave$Shelter")
  | 9 => .array (.object "WarnWave$Warning")
  | 10 => .object "WarnWave$Senders"
  | 11 => .object "WarnWave$Senders"
  | 12 => .array .int
  | _ => .array .int
abbrev wsX10 : List Cond := u_ws RX1 TX1 14
theorem nmX1 : ∀ a, a < 14 → ∀ b, b < 14 → a ≠ b → (TX1 a).2.1 ≠ (TX1 b).2.1 := by decide +kernel
theorem tyX1_ok : ∀ k, k < 14 → parseFieldDescriptor (TX1 k).2.2.1 = some (tyX1 k) := by decide +kernel
abbrev cX1_init : ByteArray := prog_3_method_1_code
def yX1_init : MethodName := ⟨RX1, "<init>", "()V"⟩
abbrev cX1_becomeLike : ByteArray := prog_3_method_2_code
def yX1_becomeLike : MethodName := ⟨RX1, "becomeLike", "(LWarnWave$Land;)V"⟩
abbrev cX1_hourNow : ByteArray := prog_3_method_3_code
def yX1_hourNow : MethodName := ⟨RX1, "hourNow", "()I"⟩
abbrev cX1_isNight : ByteArray := prog_3_method_4_code
def yX1_isNight : MethodName := ⟨RX1, "isNight", "()Z"⟩
abbrev cX1_isAsleep : ByteArray := prog_3_method_5_code
def yX1_isAsleep : MethodName := ⟨RX1, "isAsleep", "(LWarnWave$Group;)Z"⟩
abbrev cX1_isInDanger : ByteArray := prog_3_method_6_code
def yX1_isInDanger : MethodName := ⟨RX1, "isInDanger", "(I)Z"⟩
abbrev cX1_cellsInDanger : ByteArray := prog_3_method_7_code
def yX1_cellsInDanger : MethodName := ⟨RX1, "cellsInDanger", "()I"⟩
abbrev cX1_latestBelieved : ByteArray := prog_3_method_8_code
def yX1_latestBelieved : MethodName := ⟨RX1, "latestBelieved", "(LWarnWave$Group;)I"⟩
abbrev cX1_countInForce : ByteArray := prog_3_method_9_code
def yX1_countInForce : MethodName := ⟨RX1, "countInForce", "()I"⟩
abbrev cX1_countAsleep : ByteArray := prog_3_method_10_code
def yX1_countAsleep : MethodName := ⟨RX1, "countAsleep", "()I"⟩
abbrev cX1_countBelievers : ByteArray := prog_3_method_11_code
def yX1_countBelievers : MethodName := ⟨RX1, "countBelievers", "(I)I"⟩
abbrev cX1_peopleOfAll : ByteArray := prog_3_method_12_code
def yX1_peopleOfAll : MethodName := ⟨RX1, "peopleOfAll", "()I"⟩
abbrev cX1_peopleSafe : ByteArray := prog_3_method_13_code
def yX1_peopleSafe : MethodName := ⟨RX1, "peopleSafe", "()I"⟩
abbrev cX1_peopleGone : ByteArray := prog_3_method_14_code
def yX1_peopleGone : MethodName := ⟨RX1, "peopleGone", "()I"⟩
abbrev cX1_peopleIn : ByteArray := prog_3_method_15_code
def yX1_peopleIn : MethodName := ⟨RX1, "peopleIn", "(I)I"⟩
abbrev cX1_peopleBelieving : ByteArray := prog_3_method_16_code
def yX1_peopleBelieving : MethodName := ⟨RX1, "peopleBelieving", "()I"⟩
abbrev cX1_keysLacking : ByteArray := prog_3_method_17_code
def yX1_keysLacking : MethodName := ⟨RX1, "keysLacking", "(LWarnWave$Warning;)I"⟩
abbrev cX1_isSendable : ByteArray := prog_3_method_18_code
def yX1_isSendable : MethodName := ⟨RX1, "isSendable", "(LWarnWave$Warning;)Z"⟩
abbrev cX1_isStillAbout : ByteArray := prog_3_method_19_code
def yX1_isStillAbout : MethodName := ⟨RX1, "isStillAbout", "(LWarnWave$Warning;)Z"⟩
abbrev cX1_sendOut : ByteArray := prog_3_method_20_code
def yX1_sendOut : MethodName := ⟨RX1, "sendOut", "(LWarnWave$Warning;)V"⟩
abbrev cX1_judge : ByteArray := prog_3_method_21_code
def yX1_judge : MethodName := ⟨RX1, "judge", "(I)V"⟩
abbrev cX1_letOut : ByteArray := prog_3_method_22_code
def yX1_letOut : MethodName := ⟨RX1, "letOut", "()V"⟩
abbrev cX1_playMinutes : ByteArray := prog_3_method_23_code
def yX1_playMinutes : MethodName := ⟨RX1, "playMinutes", "(I)I"⟩
abbrev cX1_chooseCalls : ByteArray := prog_3_method_24_code
def yX1_chooseCalls : MethodName := ⟨RX1, "chooseCalls", "()V"⟩
abbrev cX1_firstToCall : ByteArray := prog_3_method_25_code
def yX1_firstToCall : MethodName := ⟨RX1, "firstToCall", "(I)I"⟩
abbrev cX1_hearAll : ByteArray := prog_3_method_26_code
def yX1_hearAll : MethodName := ⟨RX1, "hearAll", "()V"⟩
abbrev cX1_publicWays : ByteArray := prog_3_method_27_code
def yX1_publicWays : MethodName := ⟨RX1, "publicWays", "(LWarnWave$Group;LWarnWave$Warning;ZZZ)I"⟩
abbrev cX1_hearOne : ByteArray := prog_3_method_28_code
def yX1_hearOne : MethodName := ⟨RX1, "hearOne", "(III)V"⟩
abbrev cX1_believingNeighbour : ByteArray := prog_3_method_29_code
def yX1_believingNeighbour : MethodName := ⟨RX1, "believingNeighbour", "(II)I"⟩
abbrev cX1_believeAll : ByteArray := prog_3_method_30_code
def yX1_believeAll : MethodName := ⟨RX1, "believeAll", "()I"⟩
abbrev cX1_believeOne : ByteArray := prog_3_method_31_code
def yX1_believeOne : MethodName := ⟨RX1, "believeOne", "(LWarnWave$Group;)I"⟩
abbrev cX1_goAll : ByteArray := prog_3_method_32_code
def yX1_goAll : MethodName := ⟨RX1, "goAll", "()V"⟩
abbrev cX1_goOne : ByteArray := prog_3_method_33_code
def yX1_goOne : MethodName := ⟨RX1, "goOne", "(LWarnWave$Group;)V"⟩
abbrev cX1_nearestWithRoom : ByteArray := prog_3_method_34_code
def yX1_nearestWithRoom : MethodName := ⟨RX1, "nearestWithRoom", "(LWarnWave$Group;)I"⟩
abbrev cX1_harmAll : ByteArray := prog_3_method_35_code
def yX1_harmAll : MethodName := ⟨RX1, "harmAll", "()V"⟩
def RX2 : String := "WarnWave$Senders"
def TX2 : u_T := fun k => match k with
  | 0 => ("WarnWave$Senders", "cells", "[I", true)
  | 1 => ("WarnWave$Senders", "reaches", "[I", true)
  | 2 => ("WarnWave$Senders", "hasPower", "[Z", true)
  | _ => ("WarnWave$Senders", "count", "I", false)
def tyX2 : Nat → FieldType := fun k => match k with
  | 0 => .array .int
  | 1 => .array .int
  | 2 => .array .boolean
  | _ => .int
abbrev wsX20 : List Cond := u_ws RX2 TX2 4
theorem nmX2 : ∀ a, a < 4 → ∀ b, b < 4 → a ≠ b → (TX2 a).2.1 ≠ (TX2 b).2.1 := by decide +kernel
theorem tyX2_ok : ∀ k, k < 4 → parseFieldDescriptor (TX2 k).2.2.1 = some (tyX2 k) := by decide +kernel
abbrev cX2_init : ByteArray := prog_4_method_1_code
def yX2_init : MethodName := ⟨RX2, "<init>", "()V"⟩
abbrev cX2_add : ByteArray := prog_4_method_2_code
def yX2_add : MethodName := ⟨RX2, "add", "(II)I"⟩
abbrev cX2_setPower : ByteArray := prog_4_method_3_code
def yX2_setPower : MethodName := ⟨RX2, "setPower", "(IZ)I"⟩
abbrev cX2_cellsReached : ByteArray := prog_4_method_4_code
def yX2_cellsReached : MethodName := ⟨RX2, "cellsReached", "()I"⟩
abbrev cX2_becomeLike : ByteArray := prog_4_method_5_code
def yX2_becomeLike : MethodName := ⟨RX2, "becomeLike", "(LWarnWave$Senders;)V"⟩
def RX3 : String := "WarnWave$Shelter"
def TX3 : u_T := fun k => match k with
  | 0 => ("WarnWave$Shelter", "cell", "I", false)
  | _ => ("WarnWave$Shelter", "room", "I", false)
def tyX3 : Nat → FieldType := fun k => match k with
  | 0 => .int
  | _ => .int
abbrev wsX30 : List Cond := u_ws RX3 TX3 2
theorem nmX3 : ∀ a, a < 2 → ∀ b, b < 2 → a ≠ b → (TX3 a).2.1 ≠ (TX3 b).2.1 := by decide +kernel
theorem tyX3_ok : ∀ k, k < 2 → parseFieldDescriptor (TX3 k).2.2.1 = some (tyX3 k) := by decide +kernel
abbrev cX3_init : ByteArray := prog_5_method_1_code
def yX3_init : MethodName := ⟨RX3, "<init>", "()V"⟩
def RX4 : String := "WarnWave$Warning"
def TX4 : u_T := fun k => match k with
  | 0 => ("WarnWave$Warning", "kind", "I", false)
  | 1 => ("WarnWave$Warning", "other", "I", false)
  | 2 => ("WarnWave$Warning", "area", "I", false)
  | 3 => ("WarnWave$Warning", "advice", "I", false)
  | 4 => ("WarnWave$Warning", "tongues", "I", false)
  | 5 => ("WarnWave$Warning", "approvals", "I", false)
  | 6 => ("WarnWave$Warning", "sentAt", "I", false)
  | _ => ("WarnWave$Warning", "isInForce", "Z", false)
def tyX4 : Nat → FieldType := fun k => match k with
  | 0 => .int
  | 1 => .int
  | 2 => .int
  | 3 => .int
  | 4 => .int
  | 5 => .int
  | 6 => .int
  | _ => .boolean
abbrev wsX40 : List Cond := u_ws RX4 TX4 8
theorem nmX4 : ∀ a, a < 8 → ∀ b, b < 8 → a ≠ b → (TX4 a).2.1 ≠ (TX4 b).2.1 := by decide +kernel
theorem tyX4_ok : ∀ k, k < 8 → parseFieldDescriptor (TX4 k).2.2.1 = some (tyX4 k) := by decide +kernel
abbrev cX4_init : ByteArray := prog_6_method_1_code
def yX4_init : MethodName := ⟨RX4, "<init>", "()V"⟩
abbrev cX4_becomeLike : ByteArray := prog_6_method_2_code
def yX4_becomeLike : MethodName := ⟨RX4, "becomeLike", "(LWarnWave$Warning;)V"⟩
def RX5 : String := "WarnWave"
def TX5 : u_T := fun k => match k with
  | 0 => ("WarnWave", "land", "LWarnWave$Land;", true)
  | _ => ("WarnWave", "trial", "LWarnWave$Land;", true)
def tyX5 : Nat → FieldType := fun k => match k with
  | 0 => .object "WarnWave$Land"
  | _ => .object "WarnWave$Land"
abbrev wsX50 : List Cond := u_ws RX5 TX5 2
theorem nmX5 : ∀ a, a < 2 → ∀ b, b < 2 → a ≠ b → (TX5 a).2.1 ≠ (TX5 b).2.1 := by decide +kernel
theorem tyX5_ok : ∀ k, k < 2 → parseFieldDescriptor (TX5 k).2.2.1 = some (tyX5 k) := by decide +kernel
abbrev cX5_init : ByteArray := prog_1_method_1_code
def yX5_init : MethodName := ⟨RX5, "<init>", "()V"⟩
abbrev cX5_group : ByteArray := prog_1_method_2_code
def yX5_group : MethodName := ⟨RX5, "group", "(IIIZZ)I"⟩
abbrev cX5_trust : ByteArray := prog_1_method_3_code
def yX5_trust : MethodName := ⟨RX5, "trust", "(II)I"⟩
abbrev cX5_shelter : ByteArray := prog_1_method_4_code
def yX5_shelter : MethodName := ⟨RX5, "shelter", "(II)I"⟩
abbrev cX5_siren : ByteArray := prog_1_method_5_code
def yX5_siren : MethodName := ⟨RX5, "siren", "(II)I"⟩
abbrev cX5_mast : ByteArray := prog_1_method_6_code
def yX5_mast : MethodName := ⟨RX5, "mast", "(II)I"⟩
abbrev cX5_power : ByteArray := prog_1_method_7_code
def yX5_power : MethodName := ⟨RX5, "power", "(IZ)I"⟩
abbrev cX5_lines : ByteArray := prog_1_method_8_code
def yX5_lines : MethodName := ⟨RX5, "lines", "(I)I"⟩
abbrev cX5_danger : ByteArray := prog_1_method_9_code
def yX5_danger : MethodName := ⟨RX5, "danger", "(II)I"⟩
abbrev cX5_key : ByteArray := prog_1_method_10_code
def yX5_key : MethodName := ⟨RX5, "key", "(IZ)Z"⟩
abbrev cX5_alert : ByteArray := prog_1_method_11_code
def yX5_alert : MethodName := ⟨RX5, "alert", "(III)I"⟩
abbrev cX5_update : ByteArray := prog_1_method_12_code
def yX5_update : MethodName := ⟨RX5, "update", "(IIII)I"⟩
abbrev cX5_cancel : ByteArray := prog_1_method_13_code
def yX5_cancel : MethodName := ⟨RX5, "cancel", "(I)I"⟩
abbrev cX5_approve : ByteArray := prog_1_method_14_code
def yX5_approve : MethodName := ⟨RX5, "approve", "(II)I"⟩
abbrev cX5_send : ByteArray := prog_1_method_15_code
def yX5_send : MethodName := ⟨RX5, "send", "(I)I"⟩
abbrev cX5_pass : ByteArray := prog_1_method_16_code
def yX5_pass : MethodName := ⟨RX5, "pass", "(I)I"⟩
abbrev cX5_until : ByteArray := prog_1_method_17_code
def yX5_until : MethodName := ⟨RX5, "until", "(I)I"⟩
abbrev cX5_ofGroup : ByteArray := prog_1_method_18_code
def yX5_ofGroup : MethodName := ⟨RX5, "ofGroup", "(II)I"⟩
abbrev cX5_heard : ByteArray := prog_1_method_19_code
def yX5_heard : MethodName := ⟨RX5, "heard", "(III)I"⟩
abbrev cX5_ofWarning : ByteArray := prog_1_method_20_code
def yX5_ofWarning : MethodName := ⟨RX5, "ofWarning", "(II)I"⟩
abbrev cX5_inForce : ByteArray := prog_1_method_21_code
def yX5_inForce : MethodName := ⟨RX5, "inForce", "(I)I"⟩
abbrev cX5_roomIn : ByteArray := prog_1_method_22_code
def yX5_roomIn : MethodName := ⟨RX5, "roomIn", "(I)I"⟩
abbrev cX5_chain : ByteArray := prog_1_method_23_code
def yX5_chain : MethodName := ⟨RX5, "chain", "(II)I"⟩
abbrev cX5_many : ByteArray := prog_1_method_24_code
def yX5_many : MethodName := ⟨RX5, "many", "(I)I"⟩
abbrev cX5_meanDelay : ByteArray := prog_1_method_25_code
def yX5_meanDelay : MethodName := ⟨RX5, "meanDelay", "(I)D"⟩
abbrev cX5_safeIn : ByteArray := prog_1_method_26_code
def yX5_safeIn : MethodName := ⟨RX5, "safeIn", "(II)I"⟩
abbrev cX5_sirenWould : ByteArray := prog_1_method_27_code
def yX5_sirenWould : MethodName := ⟨RX5, "sirenWould", "(III)I"⟩
abbrev cX5_digest : ByteArray := prog_1_method_28_code
def yX5_digest : MethodName := ⟨RX5, "digest", "()J"⟩
abbrev cX5_mixHeard : ByteArray := prog_1_method_29_code
def yX5_mixHeard : MethodName := ⟨RX5, "mixHeard", "(JI)J"⟩
abbrev cX5_mix : ByteArray := prog_1_method_30_code
def yX5_mix : MethodName := ⟨RX5, "mix", "(JI)J"⟩
abbrev cX5_draft : ByteArray := prog_1_method_31_code
def yX5_draft : MethodName := ⟨RX5, "draft", "(IIIII)I"⟩
abbrev cX5_checkCell : ByteArray := prog_1_method_32_code
def yX5_checkCell : MethodName := ⟨RX5, "checkCell", "(I)V"⟩
abbrev cX5_checkOfficer : ByteArray := prog_1_method_33_code
def yX5_checkOfficer : MethodName := ⟨RX5, "checkOfficer", "(I)V"⟩
abbrev cX5_checkGroup : ByteArray := prog_1_method_34_code
def yX5_checkGroup : MethodName := ⟨RX5, "checkGroup", "(I)V"⟩
abbrev cX5_checkWarning : ByteArray := prog_1_method_35_code
def yX5_checkWarning : MethodName := ⟨RX5, "checkWarning", "(I)V"⟩
abbrev cX5_checkInForce : ByteArray := prog_1_method_36_code
def yX5_checkInForce : MethodName := ⟨RX5, "checkInForce", "(I)V"⟩
abbrev cX5_checkWords : ByteArray := prog_1_method_37_code
def yX5_checkWords : MethodName := ⟨RX5, "checkWords", "(III)V"⟩
abbrev cX5_checkRange : ByteArray := prog_1_method_38_code
def yX5_checkRange : MethodName := ⟨RX5, "checkRange", "(III)V"⟩
abbrev cX5_isIn : ByteArray := prog_1_method_39_code
def yX5_isIn : MethodName := ⟨RX5, "isIn", "(II)Z"⟩
abbrev cX5_distance : ByteArray := prog_1_method_40_code
def yX5_distance : MethodName := ⟨RX5, "distance", "(II)I"⟩
abbrev cX5_stepTowards : ByteArray := prog_1_method_41_code
def yX5_stepTowards : MethodName := ⟨RX5, "stepTowards", "(II)I"⟩
def RJ6 : String := "java/lang/Integer"
abbrev cJ6_bitCount_0f7a4 : ByteArray := prog_14_method_49_code
def yJ6_bitCount_0f7a4 : MethodName := ⟨RJ6, "bitCount", "(I)I"⟩
def RJ9 : String := "java/lang/Math"
abbrev cJ9_floorMod_7cf53 : ByteArray := prog_15_method_50_code
def yJ9_floorMod_7cf53 : MethodName := ⟨RJ9, "floorMod", "(II)I"⟩
abbrev cJ9_abs_0f7a4 : ByteArray := prog_15_method_59_code
def yJ9_abs_0f7a4 : MethodName := ⟨RJ9, "abs", "(I)I"⟩
abbrev cJ9_max_7cf53 : ByteArray := prog_15_method_65_code
def yJ9_max_7cf53 : MethodName := ⟨RJ9, "max", "(II)I"⟩
abbrev cJ9_min_7cf53 : ByteArray := prog_15_method_69_code
def yJ9_min_7cf53 : MethodName := ⟨RJ9, "min", "(II)I"⟩
def RJ0 : String := "java/lang/String"
def RJ10 : String := "java/lang/System"
def RL : String := "WarnWaveLaw"
end
section
/-! A small machine over names: what a method does to a world of fixed shape, as a pure predicate (vg_Go), and that the machine does it (vg_met). A name stands for a cell; a world is the ints of all cells. -/
abbrev vgN : Type := Nat × Nat × Nat
abbrev vgV : Type := Value ⊕ vgN
abbrev vgL : Type := List (Nat × vgV)
abbrev vgT : Type := List vgV
abbrev vgS : Type := vgN → Nat → Int32
abbrev vgH : Type := (Nat × List (Option vgN)) ⊕ ((Nat × Nat) ⊕ (Nat × Nat × (Nat → vgN)))
abbrev vgK : Type := Nat → vgL → vgT → vgS → Prop
abbrev vgO : Type := Option vgV → vgS → Prop
abbrev vgF : Type := vgO → vgK → vgL → vgT → vgS → Prop
def vg_look {α : Type} : List (Nat × α) → Nat → Option α
  | [], _ => none
  | q :: t, i => bif Nat.beq q.1 i then some q.2 else vg_look t i
theorem vg_look_mem {α : Type} {i : Nat} {a : α} : ∀ {l : List (Nat × α)}, vg_look l i = some a → (i, a) ∈ l
  | [], h => by cases h
  | q :: t, h => by
    unfold vg_look at h
    cases hq : Nat.beq q.1 i with
    | true =>
      rw [hq] at h
      cases h
      have e : q.1 = i := Nat.eq_of_beq_eq_true hq
      rw [← e]
      exact List.mem_cons_self
    | false =>
      rw [hq] at h
      exact List.mem_cons_of_mem _ (vg_look_mem h)
/-- a name's address, a value's -/
def vg_cv (ad : vgN → Nat) : vgV → Value
  | .inl v => v
  | .inr n => .ref (ad n)
def vg_ok (nm : List vgN) : vgV → Prop
  | .inl _ => True
  | .inr n => n ∈ nm
def vg_c2 : vgV → Bool
  | .inl (.long _) => true
  | .inl (.double _) => true
  | _ => false
theorem vg_c2_eq (ad : vgN → Nat) (v : vgV) : ((vg_cv ad v).category == 2) = vg_c2 v := by
  cases v with
  | inl v => cases v <;> rfl
  | inr n => rfl
def vg_put (lv : vgL) (i : Nat) (v : vgV) : vgL := (i, v) :: lv.filter (fun q => !(q.1 == i) && !(q.1 + 1 == i && vg_c2 q.2))
def vg_put2 (lv : vgL) (i : Nat) (v : vgV) : vgL := (i, v) :: lv.filter (fun q => !(q.1 == i) && (!(q.1 == i + 1) && !(q.1 + 1 == i && vg_c2 q.2)))
def vg_lm (ad : vgN → Nat) (lv : vgL) : List (Nat × Value) := lv.map (fun q => (q.1, vg_cv ad q.2))
theorem vg_lm_put (ad : vgN → Nat) (lv : vgL) (i : Nat) (v : vgV) : (i, vg_cv ad v) :: (vg_lm ad lv).filter (fun q => !(q.1 == i) && !(q.1 + 1 == i && q.2.category == 2)) = vg_lm ad (vg_put lv i v) := by
  unfold vg_lm vg_put
  rw [List.map_cons, List.filter_map]
  congr 2
  apply List.filter_congr
  intro q _
  show (!(q.1 == i) && !(q.1 + 1 == i && (vg_cv ad q.2).category == 2)) = _
  rw [vg_c2_eq]
theorem vg_lm_put2 (ad : vgN → Nat) (lv : vgL) (i : Nat) (v : vgV) : (i, vg_cv ad v) :: (vg_lm ad lv).filter (fun q => !(q.1 == i) && (!(q.1 == i + 1) && !(q.1 + 1 == i && q.2.category == 2))) = vg_lm ad (vg_put2 lv i v) := by
  unfold vg_lm vg_put2
  rw [List.map_cons, List.filter_map]
  congr 2
  apply List.filter_congr
  intro q _
  show (!(q.1 == i) && (!(q.1 == i + 1) && !(q.1 + 1 == i && (vg_cv ad q.2).category == 2))) = _
  rw [vg_c2_eq]
theorem vg_ok_put {nm : List vgN} {lv : vgL} {i : Nat} {v : vgV} (h : ∀ q ∈ lv, vg_ok nm q.2) (hv : vg_ok nm v) : ∀ q ∈ vg_put lv i v, vg_ok nm q.2 := by
  intro q hq
  rcases List.mem_cons.mp hq with rfl | hq
  · exact hv
  · exact h q (List.mem_filter.mp hq).1
theorem vg_ok_put2 {nm : List vgN} {lv : vgL} {i : Nat} {v : vgV} (h : ∀ q ∈ lv, vg_ok nm q.2) (hv : vg_ok nm v) : ∀ q ∈ vg_put2 lv i v, vg_ok nm q.2 := by
  intro q hq
  rcases List.mem_cons.mp hq with rfl | hq
  · exact hv
  · exact h q (List.mem_filter.mp hq).1
theorem vg_lm_at {ad : vgN → Nat} {lv : vgL} {ls : Array Slot} {nL i : Nat} {v : vgV} (h : lv_has ls nL (vg_lm ad lv)) (hv : vg_look lv i = some v) : ls[i]? = some (.val (vg_cv ad v)) :=
  h.2.2 (i, vg_cv ad v) (List.mem_map.mpr ⟨(i, v), vg_look_mem hv, rfl⟩)
/-- the cells of a world -/
def vg_fs (ad : vgN → Nat) (f : Nat → Int32) : Nat → List (Option vgN) → List Value
  | _, [] => []
  | k, none :: t => .int (f k) :: vg_fs ad f (k + 1) t
  | k, some n :: t => .ref (ad n) :: vg_fs ad f (k + 1) t
def vg_ty (tys : List (ClassId × FieldType)) (t : Nat) : ClassId := match tys[t]? with
  | some q => q.1
  | none => 0
def vg_e (ad : vgN → Nat) (tys : List (ClassId × FieldType)) (h : vgH) (f : Nat → Int32) : va_E := match h with
  | .inl q => .inr (q.1, vg_fs ad f 0 q.2)
  | .inr (.inl q) => .inl (vg_ty tys q.1, q.2, .inl f)
  | .inr (.inr q) => .inl (vg_ty tys q.1, q.2.1, .inr (.inr (.inr (.inr (fun i => some (ad (q.2.2 i)))))))
def vg_ws (shp : vgN → vgH) (nm : List vgN) (ad : vgN → Nat) (tys : List (ClassId × FieldType)) (σ : vgS) : va_W := nm.map (fun n => (ad n, vg_e ad tys (shp n) (σ n)))
def vg_st (σ : vgS) (n : vgN) (k : Nat) (x : Int32) : vgS := fun n' j => if n' = n ∧ j = k then x else σ n' j
def vg_cp (σ : vgS) (m d : vgN) (len : Nat) : vgS := fun n' j => if n' = d ∧ j < len then σ m j else σ n' j
theorem vg_fs_get (ad : vgN → Nat) (f : Nat → Int32) : ∀ (sl : List (Option vgN)) (b k : Nat), (vg_fs ad f b sl)[k]? = (sl[k]?).map (fun o => match o with | none => Value.int (f (b + k)) | some n => .ref (ad n))
  | [], b, k => by simp [vg_fs]
  | none :: t, b, 0 => by simp [vg_fs]
  | some n :: t, b, 0 => by simp [vg_fs]
  | none :: t, b, k + 1 => by
    show (vg_fs ad f (b + 1) t)[k]? = _
    rw [vg_fs_get ad f t (b + 1) k, show b + 1 + k = b + (k + 1) by omega]
    rfl
  | some n :: t, b, k + 1 => by
    show (vg_fs ad f (b + 1) t)[k]? = _
    rw [vg_fs_get ad f t (b + 1) k, show b + 1 + k = b + (k + 1) by omega]
    rfl
theorem vg_fs_len (ad : vgN → Nat) (f : Nat → Int32) : ∀ (sl : List (Option vgN)) (b : Nat), (vg_fs ad f b sl).length = sl.length
  | [], b => rfl
  | none :: t, b => by simp [vg_fs, vg_fs_len ad f t]
  | some n :: t, b => by simp [vg_fs, vg_fs_len ad f t]
theorem vg_fs_set (ad : vgN → Nat) (f : Nat → Int32) (x : Int32) (sl : List (Option vgN)) (k : Nat) (h : sl[k]? = some none) : (vg_fs ad f 0 sl).set k (.int x) = vg_fs ad (fun j => if j = k then x else f j) 0 sl := by
  apply List.ext_getElem?
  intro j
  rw [List.getElem?_set, vg_fs_get, vg_fs_len, vg_fs_get]
  have hl : k < sl.length := (List.getElem?_eq_some_iff.mp h).1
  by_cases hj : k = j
  · subst hj
    rw [if_pos rfl, if_pos hl, h]
    simp
  · rw [if_neg hj]
    cases hs : sl[j]? with
    | none => rfl
    | some o =>
      cases o with
      | none => simp [Ne.symm hj]
      | some n => rfl
theorem vg_ws_get {shp : vgN → vgH} {nm : List vgN} {ad : vgN → Nat} {tys : List (ClassId × FieldType)} {σ : vgS} {n : vgN} (h : n ∈ nm) : ∃ q : Nat, nm[q]? = some n ∧ (vg_ws shp nm ad tys σ)[q]? = some (ad n, vg_e ad tys (shp n) (σ n)) := by
  obtain ⟨q, hq⟩ := List.getElem?_of_mem h
  exact ⟨q, hq, by unfold vg_ws; rw [List.getElem?_map, hq]; rfl⟩
theorem vg_ws_set {shp : vgN → vgH} {nm : List vgN} {ad : vgN → Nat} {tys : List (ClassId × FieldType)} {σ σ' : vgS} {A : Nat → Prop} {n : vgN} {q : Nat} {e : va_E} (hD : va_D A (vg_ws shp nm ad tys σ)) (hq : nm[q]? = some n) (he : e = vg_e ad tys (shp n) (σ' n)) (ho : ∀ n', n' ≠ n → σ' n' = σ n') : (vg_ws shp nm ad tys σ).set q (ad n, e) = vg_ws shp nm ad tys σ' := by
  apply List.ext_getElem?
  intro j
  have hl : q < nm.length := (List.getElem?_eq_some_iff.mp hq).1
  have hw : ∀ (σ : vgS) (j : Nat), (vg_ws shp nm ad tys σ)[j]? = (nm[j]?).map (fun n => (ad n, vg_e ad tys (shp n) (σ n))) := fun σ j => by unfold vg_ws; rw [List.getElem?_map]
  rw [List.getElem?_set]
  by_cases hj : q = j
  · subst hj
    rw [if_pos rfl, if_pos (by unfold vg_ws; rw [List.length_map]; exact hl), hw, hq, he]
    rfl
  · rw [if_neg hj, hw, hw]
    cases hn : nm[j]? with
    | none => rfl
    | some n' =>
      have hne : n' ≠ n := fun z => by
        subst z
        exact hj (hD.1 q j (ad n', vg_e ad tys (shp n') (σ n')) (ad n', vg_e ad tys (shp n') (σ n')) (by rw [hw, hq]; rfl) (by rw [hw, hn]; rfl) rfl)
      show some (ad n', vg_e ad tys (shp n') (σ n')) = some (ad n', vg_e ad tys (shp n') (σ' n'))
      rw [ho n' hne]
theorem vg_ws_D {shp : vgN → vgH} {nm : List vgN} {ad : vgN → Nat} {tys : List (ClassId × FieldType)} {σ : vgS} {A : Nat → Prop} (hD : va_D A (vg_ws shp nm ad tys σ)) (σ' : vgS) : va_D A (vg_ws shp nm ad tys σ') := by
  have key : ∀ (k : Nat) (q : Nat × va_E), (vg_ws shp nm ad tys σ')[k]? = some q → ∃ q', (vg_ws shp nm ad tys σ)[k]? = some q' ∧ q'.1 = q.1 := by
    intro k q hk
    unfold vg_ws at hk ⊢
    rw [List.getElem?_map] at hk ⊢
    cases hn : nm[k]? with
    | none => rw [hn] at hk; cases hk
    | some n => rw [hn] at hk; cases hk; exact ⟨_, rfl, rfl⟩
  refine ⟨fun i j p q hi hj he => ?_, fun k q hk => ?_⟩
  · obtain ⟨p', h1, h2⟩ := key i p hi
    obtain ⟨q', h3, h4⟩ := key j q hj
    exact hD.1 i j p' q' h1 h3 (h2.trans (he.trans h4.symm))
  · obtain ⟨q', h1, h2⟩ := key k q hk
    rw [← h2]
    exact hD.2 k q' h1
/-- the names in a shape are names of the world -/
def vg_closed (shp : vgN → vgH) (nm : List vgN) : Prop := ∀ n ∈ nm, match shp n with
  | .inl q => ∀ m, some m ∈ q.2 → m ∈ nm
  | .inr (.inl _) => True
  | .inr (.inr q) => ∀ i, i < q.2.1 → q.2.2 i ∈ nm
def vg_nw (nw : List (String × Nat × MethodName × String)) (s : State) : Prop := ∀ q ∈ nw, va_Nw (.methodLinkNest q.1 q.2.1 q.2.2.1 q.2.2.2) s
def vg_rm (d : Nat) : Room := { frames := d, cells := 0, slots := 0, locals := 32 * d }
/-- which cells a method may change -/
def vg_A (nm : List vgN) (ad : vgN → Nat) (sz : Nat) : Nat → Prop := fun q => (∃ n, n ∈ nm ∧ ad n = q) ∨ sz ≤ q
/-- a method's end -/
def vg_Q (shp : vgN → vgH) (nm : List vgN) (cl : List vw_C) (D : va_G) (tys : List (ClassId × FieldType)) (ad : vgN → Nat) (A : Nat → Prop) (P : vgO) : Array Value → State → Outcome → State → Prop := fun _ st oc t =>
  (∃ (r : Option vgV) (σ : vgS), oc = .returned (r.map (vg_cv ad)) ∧ P r σ ∧ (∀ v, r = some v → vg_ok nm v) ∧ va_P D cl (vg_ws shp nm ad tys σ) t.heap) ∧ va_F A st t
/-- what stands fast in a method's walk -/
def vg_C (tb : List Cond) (nw : List (String × Nat × MethodName × String)) (shp : vgN → vgH) (nm : List vgN) (cl : List vw_C) (tyl : List FieldType) (cc : ByteArray) (nL : Nat) (own : String) (ret : Option FieldType) (d : Nat) (p : Program) (R : Room) (s : State) (m : MethodId) (args : Array Value) (meth : Method) (c : Code) (D : va_G) (tys : List (ClassId × FieldType)) (ad : vgN → Nat) (A : Nat → Prop) : Prop :=
  p.tables.exec = Jvm.exec ∧ c.code = cc ∧ c.maxLocals = nL ∧ s.vm.findClass own = some m.cls ∧ (∀ w ∈ tb, w.before args s = true) ∧ va_K D cl tys s ∧ tys.map (fun q => q.2) = tyl ∧ meth.sig.returnType = ret ∧ meth.locks = false ∧ R = vg_rm d ∧ (∀ q, s.heap.size ≤ q → A q) ∧ (∀ σ, va_D A (vg_ws shp nm ad tys σ)) ∧ vg_closed shp nm ∧ vg_nw nw s
/-- the machine, from here on -/
def vg_X (shp : vgN → vgH) (nm : List vgN) (cl : List vw_C) (nL : Nat) (p : Program) (l : Launch) (e : Env) (R : Room) (s : State) (m : MethodId) (args : Array Value) (below : List Frame) (meth : Method) (c : Code) (D : va_G) (tys : List (ClassId × FieldType)) (ad : vgN → Nat) (A : Nat → Prop) (P : vgO) : vgK := fun pc lv st σ =>
  ∀ (H : Heap) (locs : List Loc) (ls : Array Slot), lv_has ls nL (vg_lm ad lv) → (∀ q ∈ lv, vg_ok nm q.2) → (∀ v ∈ st, vg_ok nm v) → va_P D cl (vg_ws shp nm ad tys σ) H → va_S A s.heap H locs →
    W p l e R s m args below meth c H locs 0 0 (MQ below (vg_Q shp nm cl D tys ad A P) args s 0 0 A) (F0 m pc ls (st.map (vg_cv ad)))
def vg_Mono (F : vgF) : Prop := ∀ (P : vgO) (K K' : vgK), (∀ pc lv st σ, K pc lv st σ → K' pc lv st σ) → ∀ lv st σ, F P K lv st σ → F P K' lv st σ
/-- an instruction's row -/
def vg_Snd (tb : List Cond) (nw : List (String × Nat × MethodName × String)) (shp : vgN → vgH) (nm : List vgN) (cl : List vw_C) (tyl : List FieldType) (cc : ByteArray) (nL : Nat) (own : String) (ret : Option FieldType) (d : Nat) (pc : Nat) (F : vgF) : Prop :=
  vg_Mono F ∧ ∀ (p : Program) (l : Launch) (e : Env) (R : Room) (s : State) (m : MethodId) (args : Array Value) (below : List Frame) (meth : Method) (c : Code) (D : va_G) (tys : List (ClassId × FieldType)) (ad : vgN → Nat) (A : Nat → Prop) (P : vgO),
    vg_C tb nw shp nm cl tyl cc nL own ret d p R s m args meth c D tys ad A → ∀ lv st σ, F P (vg_X shp nm cl nL p l e R s m args below meth c D tys ad A P) lv st σ → vg_X shp nm cl nL p l e R s m args below meth c D tys ad A P pc lv st σ
/-- the locals of some numbers alone -/
def vg_sel (ks : List Nat) (lv : vgL) : vgL := match ks with
  | [] => []
  | i :: r => match vg_look lv i with
    | some v => (i, v) :: vg_sel r lv
    | none => vg_sel r lv
theorem vg_sel_in {lv : vgL} : ∀ (ks : List Nat) (q : Nat × vgV), q ∈ vg_sel ks lv → q ∈ lv
  | [], q, h => by cases h
  | i :: r, q, h => by
    unfold vg_sel at h
    split at h
    next v hv =>
      rcases List.mem_cons.mp h with rfl | h
      · exact vg_look_mem hv
      · exact vg_sel_in r q h
    next => exact vg_sel_in r q h
/-- from here the method comes to an end with P: the least such predicate -/
def vg_Go (code : List (Nat × vgF)) (P : vgO) : vgK := fun pc lv st σ =>
  ∀ X : vgK, (∀ pc lv st σ, (match vg_look code pc with | some F => F P X lv st σ | none => False) → X pc lv st σ) → (∀ pc lv lv' st σ, (∀ q : Nat × vgV, q ∈ lv' → q ∈ lv) → X pc lv' st σ → X pc lv st σ) → X pc lv st σ
def vg_Code (code : List (Nat × vgF)) : Prop := ∀ q ∈ code, vg_Mono q.2
theorem vg_step {code : List (Nat × vgF)} (hm : vg_Code code) {P : vgO} {pc : Nat} {lv : vgL} {st : vgT} {σ : vgS} (h : match vg_look code pc with | some F => F P (vg_Go code P) lv st σ | none => False) : vg_Go code P pc lv st σ := by
  intro X hX hW
  refine hX pc lv st σ ?_
  cases hF : vg_look code pc with
  | none => rw [hF] at h; exact h
  | some F =>
    rw [hF] at h
    exact hm _ (vg_look_mem hF) P _ _ (fun pc lv st σ g => g X hX hW) lv st σ h
theorem vg_weak {code : List (Nat × vgF)} {P : vgO} {pc : Nat} {lv lv' : vgL} {st : vgT} {σ : vgS} (hs : ∀ q : Nat × vgV, q ∈ lv' → q ∈ lv) (h : vg_Go code P pc lv' st σ) : vg_Go code P pc lv st σ :=
  fun X hX hW => hW pc lv lv' st σ hs (h X hX hW)
/-- some steps on end; at a cut the walk stops, with the locals named there -/
def vg_R (cuts : List (Nat × List Nat)) (code : List (Nat × vgF)) (P : vgO) : Nat → vgK
  | 0 => vg_Go code P
  | n + 1 => fun pc lv st σ => match vg_look code pc with
    | some F => F P (fun pc' lv' st' σ' => match vg_look cuts pc' with
      | some ks => vg_Go code P pc' (vg_sel ks lv') st' σ'
      | none => vg_R cuts code P n pc' lv' st' σ') lv st σ
    | none => False
theorem vg_run {cuts : List (Nat × List Nat)} {code : List (Nat × vgF)} (hm : vg_Code code) {P : vgO} : ∀ (n : Nat) {pc : Nat} {lv : vgL} {st : vgT} {σ : vgS}, vg_R cuts code P n pc lv st σ → vg_Go code P pc lv st σ
  | 0, _, _, _, _, h => h
  | n + 1, pc, lv, st, σ, h => by
    refine vg_step hm ?_
    unfold vg_R at h
    cases hF : vg_look code pc with
    | none => rw [hF] at h; exact h
    | some F =>
      rw [hF] at h
      refine hm _ (vg_look_mem hF) P _ _ (fun pc' lv' st' σ' g => ?_) lv st σ h
      cases hc : vg_look cuts pc' with
      | some ks => rw [hc] at g; exact vg_weak (fun q hq => vg_sel_in ks q hq) g
      | none => rw [hc] at g; exact vg_run hm n g
/-- the machine does it -/
theorem vg_sound {tb : List Cond} {nw : List (String × Nat × MethodName × String)} {shp : vgN → vgH} {nm : List vgN} {cl : List vw_C} {tyl : List FieldType} {cc : ByteArray} {nL : Nat} {own : String} {ret : Option FieldType} {d : Nat} {code : List (Nat × vgF)} (hs : ∀ q ∈ code, vg_Snd tb nw shp nm cl tyl cc nL own ret d q.1 q.2)
    {p : Program} {l : Launch} {e : Env} {R : Room} {s : State} {m : MethodId} {args : Array Value} {below : List Frame} {meth : Method} {c : Code} {D : va_G} {tys : List (ClassId × FieldType)} {ad : vgN → Nat} {A : Nat → Prop} {P : vgO}
    (C0 : vg_C tb nw shp nm cl tyl cc nL own ret d p R s m args meth c D tys ad A) {pc : Nat} {lv : vgL} {st : vgT} {σ : vgS} (h : vg_Go code P pc lv st σ) : vg_X shp nm cl nL p l e R s m args below meth c D tys ad A P pc lv st σ := by
  refine h _ (fun pc lv st σ g => ?_) (fun pc lv lv' st σ hsub g H locs ls hl ho hs hP hS => g H locs ls ⟨hl.1, hl.2.1, fun q hq => ?_⟩ (fun q hq => ho q (hsub q hq)) hs hP hS)
  · cases hL : vg_look code pc with
    | none => rw [hL] at g; exact g.elim
    | some F =>
      rw [hL] at g
      exact (hs _ (vg_look_mem hL)).2 p l e R s m args below meth c D tys ad A P C0 lv st σ g
  · obtain ⟨q', hq', rfl⟩ := List.mem_map.mp hq
    exact hl.2.2 _ (List.mem_map.mpr ⟨q', hsub q' hq', rfl⟩)
/-- a contract: from every world of the shape, with arguments for which 'pre' holds, the method ends with 'post' -/
def vg_Met (tb : List Cond) (nw : List (String × Nat × MethodName × String)) (shp : vgN → vgH) (nm : List vgN) (cl : List vw_C) (tyl : List FieldType) (y : MethodName) (cc : ByteArray) (nL : Nat) (ret : Option FieldType) (d : Nat) (pre : vgT → vgS → Prop) (post : vgT → vgS → vgO) : Prop :=
  ∀ (l : Launch) (D : va_G) (tys : List (ClassId × FieldType)) (ad : vgN → Nat) (sz : Nat) (av : vgT) (σ : vgS), tys.map (fun q => q.2) = tyl → (∀ v ∈ av, vg_ok nm v) → pre av σ →
    Met l y (.code y cc nL ret :: tb) (vg_rm d) (va_Pc (av.map (vg_cv ad)) (fun U => U.heap.size = sz ∧ va_P D cl (vg_ws shp nm ad tys σ) U.heap ∧ va_K D cl tys U ∧ va_D (fun _ => True) (vg_ws shp nm ad tys σ) ∧ vg_nw nw U)) (vg_Q shp nm cl D tys ad (vg_A nm ad sz) (post av σ)) 0 0 (vg_A nm ad sz)
def vg_args : Nat → vgT → vgL
  | _, [] => []
  | i, v :: vs => (i, v) :: vg_args (if vg_c2 v then i + 2 else i + 1) vs
theorem vg_args_eq (ad : vgN → Nat) : ∀ (vs : vgT) (i : Nat), lv_args i (vs.map (vg_cv ad)) = vg_lm ad (vg_args i vs)
  | [], i => rfl
  | v :: vs, i => by
    show (i, vg_cv ad v) :: lv_args (if (vg_cv ad v).category = 2 then i + 2 else i + 1) (vs.map (vg_cv ad)) = (i, vg_cv ad v) :: vg_lm ad (vg_args (if vg_c2 v then i + 2 else i + 1) vs)
    have e : (if (vg_cv ad v).category = 2 then i + 2 else i + 1) = (if vg_c2 v then i + 2 else i + 1) := by
      have h := vg_c2_eq ad v
      cases hc : vg_c2 v with
      | true =>
        rw [hc] at h
        simp [beq_iff_eq.mp h]
      | false =>
        rw [hc] at h
        have h2 : ¬ (vg_cv ad v).category = 2 := fun z => by rw [z] at h; cases h
        simp [h2]
    rw [e, vg_args_eq ad vs]
theorem vg_args_ok {nm : List vgN} : ∀ (vs : vgT) (i : Nat), (∀ v ∈ vs, vg_ok nm v) → ∀ q ∈ vg_args i vs, vg_ok nm q.2
  | [], i, _, q, hq => by cases hq
  | v :: vs, i, h, q, hq => by
    rcases List.mem_cons.mp hq with rfl | hq
    · exact h v List.mem_cons_self
    · exact vg_args_ok vs _ (fun w hw => h w (List.mem_cons_of_mem _ hw)) q hq
def vg_wd (vs : vgT) : Nat := (vs.map (fun v => if vg_c2 v then 2 else 1)).sum
theorem vg_wd_eq (ad : vgN → Nat) : ∀ vs : vgT, (lg_sl (vs.map (vg_cv ad))).length = vg_wd vs
  | [] => rfl
  | v :: vs => by
    have ih := vg_wd_eq ad vs
    have e : (lg_sl ((v :: vs).map (vg_cv ad))).length = (if (vg_cv ad v).category = 2 then 2 else 1) + (lg_sl (vs.map (vg_cv ad))).length := by
      by_cases hc : (vg_cv ad v).category = 2 <;> simp [lg_sl, hc] <;> omega
    have h := vg_c2_eq ad v
    rw [e, ih]
    show _ = (if vg_c2 v then 2 else 1) + vg_wd vs
    cases hc : vg_c2 v with
    | true => rw [hc] at h; simp [beq_iff_eq.mp h]
    | false =>
      rw [hc] at h
      have h2 : ¬ (vg_cv ad v).category = 2 := fun z => by rw [z] at h; cases h
      simp [h2]
theorem vg_met {tb : List Cond} {nw : List (String × Nat × MethodName × String)} {shp : vgN → vgH} {nm : List vgN} {cl : List vw_C} {tyl : List FieldType} {y : MethodName} {cc : ByteArray} {nL : Nat} {own : String} {ret : Option FieldType} {d : Nat} {pre : vgT → vgS → Prop} {post : vgT → vgS → vgO} {code : List (Nat × vgF)}
    (hcl : vg_closed shp nm) (hy : plainName y.cls = true) (hown : y.cls = own) (hs : ∀ q ∈ code, vg_Snd tb nw shp nm cl tyl cc nL own ret d q.1 q.2)
    (hw : ∀ av σ, pre av σ → vg_wd av ≤ nL) (go : ∀ av σ, pre av σ → vg_Go code (post av σ) 0 (vg_args 0 av) [] σ) : vg_Met tb nw shp nm cl tyl y cc nL ret d pre post := by
  intro l D tys ad sz av σ hty hok hpre
  refine Met.ofW (cc := cc) (maxL := nL) (ret := ret) hy rfl ?_
  intro p e s m args below meth c s₁ B hml hv
  obtain ⟨rfl, hsz, hP, hK, hD, hnw⟩ := hv
  have hx := B.exec
  have hb := B.bytes
  have hr := B.returns
  have hts : ∀ w ∈ tb, w.before (av.map (vg_cv ad)).toArray s = true := fun w h => atoms_spec (ws := .code y cc nL ret :: tb) B.pre w (List.mem_cons_of_mem _ h)
  have ho : s.vm.findClass own = some m.cls := by rw [← hown]; exact findClass_of_methodNamed B.named
  have hlocks := B.notSynchronized
  subst hsz
  have hDA : ∀ σ', va_D (vg_A nm ad s.heap.size) (vg_ws shp nm ad tys σ') := fun σ' => (vg_ws_D hD σ').weaken (fun k q hk _ => by
    unfold vg_ws at hk
    rw [List.getElem?_map] at hk
    cases hn : nm[k]? with
    | none => rw [hn] at hk; cases hk
    | some n => rw [hn] at hk; cases hk; exact Or.inl ⟨n, List.mem_of_getElem? hn, rfl⟩)
  have C0 : vg_C tb nw shp nm cl tyl cc nL own ret d p (vg_rm d) s m (av.map (vg_cv ad)).toArray meth c D tys ad (vg_A nm ad s.heap.size) := ⟨hx, hb, hml, ho, hts, hK, hty, hr, hlocks, rfl, fun q h => Or.inr h, hDA, hcl, hnw⟩
  have hl := lv_entry (av.map (vg_cv ad)) (n := nL) (by rw [vg_wd_eq]; exact hw av σ hpre)
  rw [vg_args_eq] at hl
  rw [lg_entry_eq]
  exact vg_sound hs C0 (go av σ hpre) s.heap [] _ hl (vg_args_ok av 0 hok) (fun v h => by cases h) hP va_S.rf
end
section
/-! the instructions: what each does to names and ints, and its row over the machine -/
def vi_no : vgF := fun _ _ _ _ _ => False
def vi_icst (v : Int32) (n : Nat) : vgF := fun _ K lv st σ => K n lv (.inl (.int v) :: st) σ
def vi_lcst (v : Int64) (n : Nat) : vgF := fun _ K lv st σ => K n lv (.inl (.long v) :: st) σ
def vi_iload (i n : Nat) : vgF := fun _ K lv st σ => match vg_look lv i with
  | some (.inl (.int x)) => K n lv (.inl (.int x) :: st) σ
  | _ => False
def vi_lload (i n : Nat) : vgF := fun _ K lv st σ => match vg_look lv i with
  | some (.inl (.long x)) => K n lv (.inl (.long x) :: st) σ
  | _ => False
def vi_aload (i n : Nat) : vgF := fun _ K lv st σ => match vg_look lv i with
  | some (.inr x) => K n lv (.inr x :: st) σ
  | _ => False
def vi_istore (i n : Nat) : vgF := fun _ K lv st σ => match st with
  | .inl (.int x) :: t => K n (vg_put lv i (.inl (.int x))) t σ
  | _ => False
def vi_lstore (i n : Nat) : vgF := fun _ K lv st σ => match st with
  | .inl (.long x) :: t => K n (vg_put2 lv i (.inl (.long x))) t σ
  | _ => False
def vi_astore (i n : Nat) : vgF := fun _ K lv st σ => match st with
  | .inr x :: t => K n (vg_put lv i (.inr x)) t σ
  | _ => False
def vi_iinc (i : Nat) (v : Int32) (n : Nat) : vgF := fun _ K lv st σ => match vg_look lv i with
  | some (.inl (.int x)) => K n (vg_put lv i (.inl (.int (x + v)))) st σ
  | _ => False
def vi_bin (f : Int32 → Int32 → Int32) (n : Nat) : vgF := fun _ K lv st σ => match st with
  | .inl (.int y) :: .inl (.int x) :: t => K n lv (.inl (.int (f x y)) :: t) σ
  | _ => False
def vi_div (f : Int32 → Int32 → Int32) (n : Nat) : vgF := fun _ K lv st σ => match st with
  | .inl (.int y) :: .inl (.int x) :: t => ¬ y = 0 ∧ K n lv (.inl (.int (f x y)) :: t) σ
  | _ => False
def vi_un (f : Int32 → Int32) (n : Nat) : vgF := fun _ K lv st σ => match st with
  | .inl (.int x) :: t => K n lv (.inl (.int (f x)) :: t) σ
  | _ => False
def vi_lbin (f : Int64 → Int64 → Int64) (n : Nat) : vgF := fun _ K lv st σ => match st with
  | .inl (.long y) :: .inl (.long x) :: t => K n lv (.inl (.long (f x y)) :: t) σ
  | _ => False
def vi_i2l (n : Nat) : vgF := fun _ K lv st σ => match st with
  | .inl (.int x) :: t => K n lv (.inl (.long x.toInt64) :: t) σ
  | _ => False
def vi_if (c : Int32 → Prop) (g n : Nat) : vgF := fun _ K lv st σ => match st with
  | .inl (.int x) :: t => (c x → K g lv t σ) ∧ (¬ c x → K n lv t σ)
  | _ => False
def vi_cmp (c : Int32 → Int32 → Prop) (g n : Nat) : vgF := fun _ K lv st σ => match st with
  | .inl (.int y) :: .inl (.int x) :: t => (c x y → K g lv t σ) ∧ (¬ c x y → K n lv t σ)
  | _ => False
def vi_goto (g : Nat) : vgF := fun _ K lv st σ => K g lv st σ
def vi_sw0 (x : Int32) (d : Prop) : List (Int32 × Prop) → Prop
  | [] => d
  | q :: r => (x = q.1 → q.2) ∧ (¬ x = q.1 → vi_sw0 x d r)
def vi_sw (cs : List (Int32 × Nat)) (d : Nat) : vgF := fun _ K lv st σ => match st with
  | .inl (.int x) :: t => vi_sw0 x (K d lv t σ) (cs.map (fun q => (q.1, K q.2 lv t σ)))
  | _ => False
def vi_dup (n : Nat) : vgF := fun _ K lv st σ => match st with
  | a :: t => vg_c2 a = false ∧ K n lv (a :: a :: t) σ
  | _ => False
def vi_pop (n : Nat) : vgF := fun _ K lv st σ => match st with
  | a :: t => vg_c2 a = false ∧ K n lv t σ
  | _ => False
def vi_dupx1 (n : Nat) : vgF := fun _ K lv st σ => match st with
  | a :: b :: t => (vg_c2 a = false ∧ vg_c2 b = false) ∧ K n lv (a :: b :: a :: t) σ
  | _ => False
def vi_dup2 (n : Nat) : vgF := fun _ K lv st σ => match st with
  | a :: b :: t => (vg_c2 a = false ∧ vg_c2 b = false) ∧ K n lv (a :: b :: a :: b :: t) σ
  | _ => False
def vg_nth : List (Option vgN) → Nat → Option (Option vgN)
  | [], _ => none
  | a :: _, 0 => some a
  | _ :: t, k + 1 => vg_nth t k
theorem vg_nth_eq : ∀ (l : List (Option vgN)) (k : Nat), vg_nth l k = l[k]?
  | [], k => by simp [vg_nth]
  | a :: t, 0 => by simp [vg_nth]
  | a :: t, k + 1 => by simp [vg_nth, vg_nth_eq t k]
def vi_get (shp : vgN → vgH) (ci k n : Nat) : vgF := fun _ K lv st σ => match st with
  | .inr m :: t => (match shp m with
    | .inl q => bif Nat.beq q.1 ci then (match vg_nth q.2 k with
      | some none => K n lv (.inl (.int (σ m k)) :: t) σ
      | some (some z) => K n lv (.inr z :: t) σ
      | none => False) else False
    | _ => False)
  | _ => False
def vi_put (shp : vgN → vgH) (ci k n : Nat) : vgF := fun _ K lv st σ => match st with
  | .inl (.int x) :: .inr m :: t => (match shp m with
    | .inl q => bif Nat.beq q.1 ci then (match vg_nth q.2 k with
      | some none => K n lv t (vg_st σ m k x)
      | _ => False) else False
    | _ => False)
  | _ => False
def vi_putZ (shp : vgN → vgH) (ci k n : Nat) : vgF := fun _ K lv st σ => match st with
  | .inl (.int x) :: .inr m :: t => (match shp m with
    | .inl q => bif Nat.beq q.1 ci then (match vg_nth q.2 k with
      | some none => (x = 0 ∨ x = 1) ∧ K n lv t (vg_st σ m k x)
      | _ => False) else False
    | _ => False)
  | _ => False
def vi_ald (shp : vgN → vgH) (t0 n : Nat) : vgF := fun _ K lv st σ => match st with
  | .inl (.int i) :: .inr m :: t => (match shp m with
    | .inr (.inl q) => bif Nat.beq q.1 t0 then (vp_in i q.2 ∧ K n lv (.inl (.int (σ m i.toNatClampNeg)) :: t) σ) else False
    | _ => False)
  | _ => False
def vi_ast (shp : vgN → vgH) (t0 n : Nat) : vgF := fun _ K lv st σ => match st with
  | .inl (.int x) :: .inl (.int i) :: .inr m :: t => (match shp m with
    | .inr (.inl q) => bif Nat.beq q.1 t0 then (vp_in i q.2 ∧ K n lv t (vg_st σ m i.toNatClampNeg x)) else False
    | _ => False)
  | _ => False
def vi_astZ (shp : vgN → vgH) (t0 n : Nat) : vgF := fun _ K lv st σ => match st with
  | .inl (.int x) :: .inl (.int i) :: .inr m :: t => (match shp m with
    | .inr (.inl q) => bif Nat.beq q.1 t0 then ((vp_in i q.2 ∧ (x = 0 ∨ x = 1)) ∧ K n lv t (vg_st σ m i.toNatClampNeg x)) else False
    | _ => False)
  | _ => False
def vi_aald (shp : vgN → vgH) (t0 n : Nat) : vgF := fun _ K lv st σ => match st with
  | .inl (.int i) :: .inr m :: t => (match shp m with
    | .inr (.inr q) => bif Nat.beq q.1 t0 then (vp_in i q.2.1 ∧ K n lv (.inr (q.2.2 i.toNatClampNeg) :: t) σ) else False
    | _ => False)
  | _ => False
/-- System.arraycopy of a whole row of ints -/
def vi_cpy (shp : vgN → vgH) (t0 n : Nat) : vgF := fun _ K lv st σ => match st with
  | .inl (.int len) :: .inl (.int dp) :: .inr d :: .inl (.int sp) :: .inr m :: t => (match shp m, shp d with
    | .inr (.inl q), .inr (.inl r) => bif Nat.beq q.1 t0 && Nat.beq r.1 t0 && Nat.ble (vg_wd t) 8 then ((sp = 0 ∧ dp = 0 ∧ ¬ len < 0 ∧ len.toNatClampNeg ≤ q.2 ∧ len.toNatClampNeg ≤ r.2) ∧ K n lv t (vg_cp σ m d len.toNatClampNeg)) else False
    | _, _ => False)
  | _ => False
def vg_pop : Nat → vgT → vgT → Option (vgT × vgT)
  | 0, acc, st => some (acc, st)
  | k + 1, acc, v :: st => vg_pop k (v :: acc) st
  | _ + 1, _, [] => none
abbrev vgC : Type := vgT → vgS → Prop × Option vgV × vgS
def vg_k (K : vgK) (n : Nat) (lv : vgL) (st : vgT) (r : Option vgV) (σ : vgS) : Prop := match r with
  | none => K n lv st σ
  | some v => K n lv (v :: st) σ
/-- a call of a static method by its contract -/
def vi_callS (sp : vgC) (k n : Nat) : vgF := fun _ K lv st σ => match vg_pop k [] st with
  | some q => bif Nat.ble (vg_wd q.2) 8 then (match sp q.1 σ with | (pr, r, σ1) => pr ∧ vg_k K n lv q.2 r σ1) else False
  | none => False
/-- a call of an object's method -/
def vi_callV (shp : vgN → vgH) (ci : Nat) (sp : vgC) (k n : Nat) : vgF := fun _ K lv st σ => match vg_pop (k + 1) [] st with
  | some (.inr m :: as, t) => (match shp m with
    | .inl o => bif Nat.beq o.1 ci && Nat.ble (vg_wd t) 8 then (match sp (.inr m :: as) σ with | (pr, r, σ1) => pr ∧ vg_k K n lv t r σ1) else False
    | _ => False)
  | _ => False
def vi_max (n : Nat) : vgF := fun _ K lv st σ => match st with
  | .inl (.int y) :: .inl (.int x) :: t => bif Nat.ble (vg_wd t) 8 then K n lv (.inl (.int (if x < y then y else x)) :: t) σ else False
  | _ => False
def vi_min (n : Nat) : vgF := fun _ K lv st σ => match st with
  | .inl (.int y) :: .inl (.int x) :: t => bif Nat.ble (vg_wd t) 8 then K n lv (.inl (.int (if y < x then y else x)) :: t) σ else False
  | _ => False
def vi_abs (n : Nat) : vgF := fun _ K lv st σ => match st with
  | .inl (.int x) :: t => bif Nat.ble (vg_wd t) 8 then K n lv (.inl (.int (if 0 ≤ x then x else 0 - x)) :: t) σ else False
  | _ => False
def vi_ret : vgF := fun P _ _ st σ => match st with
  | [.inl (.int x)] => P (some (.inl (.int x))) σ
  | _ => False
def vi_retZ : vgF := fun P _ _ st σ => match st with
  | [.inl (.int x)] => (x = 0 ∨ x = 1) ∧ P (some (.inl (.int x))) σ
  | _ => False
def vi_retL : vgF := fun P _ _ st σ => match st with
  | [.inl (.long x)] => P (some (.inl (.long x))) σ
  | _ => False
def vi_retV : vgF := fun P _ _ st σ => match st with
  | [] => P none σ
  | _ => False
section VS
variable {tb : List Cond} {nw : List (String × Nat × MethodName × String)} {shp : vgN → vgH} {nm : List vgN} {cl : List vw_C} {tyl : List FieldType} {cc : ByteArray} {nL : Nat} {own : String} {ret : Option FieldType} {d pc n : Nat}
theorem vg_okc {v : vgV} {t : vgT} (hv : vg_ok nm v) (h : ∀ w ∈ t, vg_ok nm w) : ∀ w ∈ v :: t, vg_ok nm w := fun w hw => (List.mem_cons.mp hw).elim (fun e => e ▸ hv) (h w)
theorem vg_okt {v : vgV} {t : vgT} (h : ∀ w ∈ v :: t, vg_ok nm w) : ∀ w ∈ t, vg_ok nm w := fun w hw => h w (List.mem_cons_of_mem _ hw)
theorem vg_okh {v : vgV} {t : vgT} (h : ∀ w ∈ v :: t, vg_ok nm w) : vg_ok nm v := h v List.mem_cons_self
theorem vg_okl {lv : vgL} {i : Nat} {v : vgV} (h : ∀ q ∈ lv, vg_ok nm q.2) (hv : vg_look lv i = some v) : vg_ok nm v := h (i, v) (vg_look_mem hv)
theorem vg_lms {ad : vgN → Nat} {lv : vgL} {ls : Array Slot} {nL i : Nat} (h : lv_has ls nL (vg_lm ad lv)) {v : vgV} (hv : vg_look lv i = some v) : i < nL := by
  have := vg_lm_at h hv
  rw [← h.1]
  exact (Array.getElem?_eq_some_iff.mp this).1
theorem vs_no : vg_Snd tb nw shp nm cl tyl cc nL own ret d pc vi_no := ⟨fun _ _ _ _ _ _ _ h => h, fun _ _ _ _ _ _ _ _ _ _ _ _ _ _ _ _ _ _ _ h => h.elim⟩
theorem vs_iconst {z : Int} {v : Int32} (hd : decode cc pc = .ok (.iconst z, 1)) (hv : Int32.ofInt z = v) (hn : pc + 1 = n) : vg_Snd tb nw shp nm cl tyl cc nL own ret d pc (vi_icst v n) := by
  subst hn
  refine ⟨fun P K K' h lv st σ g => h _ _ _ _ g, ?_⟩
  intro p l e R s m args below meth c D tys ad A P C0 lv st σ h H locs ls hl ho hs hP hS
  exact lv_iconst C0.1 C0.2.1 hd hv (h H locs ls hl ho (vg_okc trivial hs) hP hS)
theorem vs_bipush {z : Int} {v : Int32} (hd : decode cc pc = .ok (.bipush z, 2)) (hv : (Int8.ofInt z).toInt32 = v) (hn : pc + 2 = n) : vg_Snd tb nw shp nm cl tyl cc nL own ret d pc (vi_icst v n) := by
  subst hn
  refine ⟨fun P K K' h lv st σ g => h _ _ _ _ g, ?_⟩
  intro p l e R s m args below meth c D tys ad A P C0 lv st σ h H locs ls hl ho hs hP hS
  exact lv_bipush C0.1 C0.2.1 hd hv (h H locs ls hl ho (vg_okc trivial hs) hP hS)
theorem vs_sipush {z : Int} {v : Int32} (hd : decode cc pc = .ok (.sipush z, 3)) (hv : (Int16.ofInt z).toInt32 = v) (hn : pc + 3 = n) : vg_Snd tb nw shp nm cl tyl cc nL own ret d pc (vi_icst v n) := by
  subst hn
  refine ⟨fun P K K' h lv st σ g => h _ _ _ _ g, ?_⟩
  intro p l e R s m args below meth c D tys ad A P C0 lv st σ h H locs ls hl ho hs hP hS
  exact lv_sipush C0.1 C0.2.1 hd hv (h H locs ls hl ho (vg_okc trivial hs) hP hS)
theorem vs_ldc {ix : Nat} {v : Int32} (hd : decode cc pc = .ok (.ldc ix, 2)) (hw : Cond.constant own ix v ∈ tb) (hn : pc + 2 = n) : vg_Snd tb nw shp nm cl tyl cc nL own ret d pc (vi_icst v n) := by
  subst hn
  refine ⟨fun P K K' h lv st σ g => h _ _ _ _ g, ?_⟩
  intro p l e R s m args below meth c D tys ad A P C0 lv st σ h H locs ls hl ho hs hP hS
  exact lv_ldc C0.1 C0.2.1 C0.2.2.2.1 (C0.2.2.2.2.1 _ hw) hd (h H locs ls hl ho (vg_okc trivial hs) hP hS)
theorem vs_ldcw {ix : Nat} {v : Int32} (hd : decode cc pc = .ok (.ldc_w ix, 3)) (hw : Cond.constant own ix v ∈ tb) (hn : pc + 3 = n) : vg_Snd tb nw shp nm cl tyl cc nL own ret d pc (vi_icst v n) := by
  subst hn
  refine ⟨fun P K K' h lv st σ g => h _ _ _ _ g, ?_⟩
  intro p l e R s m args below meth c D tys ad A P C0 lv st σ h H locs ls hl ho hs hP hS
  exact lv_ldcw C0.1 C0.2.1 C0.2.2.2.1 (C0.2.2.2.2.1 _ hw) hd (h H locs ls hl ho (vg_okc trivial hs) hP hS)
theorem vs_ldc2 {ix : Nat} {v : Int64} (hd : decode cc pc = .ok (.ldc2_w ix, 3)) (hw : Cond.constantLong own ix v ∈ tb) (hn : pc + 3 = n) : vg_Snd tb nw shp nm cl tyl cc nL own ret d pc (vi_lcst v n) := by
  subst hn
  refine ⟨fun P K K' h lv st σ g => h _ _ _ _ g, ?_⟩
  intro p l e R s m args below meth c D tys ad A P C0 lv st σ h H locs ls hl ho hs hP hS
  exact lv_ldc2 C0.1 C0.2.1 C0.2.2.2.1 (C0.2.2.2.2.1 _ hw) hd (h H locs ls hl ho (vg_okc trivial hs) hP hS)
theorem vs_m1 {F : (vgK → vgL → vgT → vgS → Prop)} (h : ∀ (K K' : vgK), (∀ pc lv st σ, K pc lv st σ → K' pc lv st σ) → ∀ lv st σ, F K lv st σ → F K' lv st σ) : vg_Mono (fun _ => F) := fun _ K K' => h K K'
theorem vs_iload_n {k : Fin 4} {i : Nat} (hd : decode cc pc = .ok (.iload_n k, 1)) (hi : (k : Nat) = i) (hn : pc + 1 = n) : vg_Snd tb nw shp nm cl tyl cc nL own ret d pc (vi_iload i n) := by
  subst hn
  refine ⟨vs_m1 fun K K' h lv st σ g => ?_, ?_⟩
  · split at g
    · exact h _ _ _ _ g
    · exact g
  intro p l e R s m args below meth c D tys ad A P C0 lv st σ h H locs ls hl ho hs hP hS
  unfold vi_iload at h
  split at h
  next x hx => exact lv_iload_n C0.1 C0.2.1 hd hi (vg_lm_at hl hx) (h H locs ls hl ho (vg_okc trivial hs) hP hS)
  next => exact h.elim
theorem vs_iload {i : Nat} (hd : decode cc pc = .ok (.iload i, 2)) (hn : pc + 2 = n) : vg_Snd tb nw shp nm cl tyl cc nL own ret d pc (vi_iload i n) := by
  subst hn
  refine ⟨vs_m1 fun K K' h lv st σ g => ?_, ?_⟩
  · split at g
    · exact h _ _ _ _ g
    · exact g
  intro p l e R s m args below meth c D tys ad A P C0 lv st σ h H locs ls hl ho hs hP hS
  unfold vi_iload at h
  split at h
  next x hx => exact lv_iload C0.1 C0.2.1 hd (vg_lm_at hl hx) (h H locs ls hl ho (vg_okc trivial hs) hP hS)
  next => exact h.elim
theorem vs_lload_n {k : Fin 4} {i : Nat} (hd : decode cc pc = .ok (.lload_n k, 1)) (hi : (k : Nat) = i) (hn : pc + 1 = n) : vg_Snd tb nw shp nm cl tyl cc nL own ret d pc (vi_lload i n) := by
  subst hn
  refine ⟨vs_m1 fun K K' h lv st σ g => ?_, ?_⟩
  · split at g
    · exact h _ _ _ _ g
    · exact g
  intro p l e R s m args below meth c D tys ad A P C0 lv st σ h H locs ls hl ho hs hP hS
  unfold vi_lload at h
  split at h
  next x hx => exact lv_lload_n C0.1 C0.2.1 hd hi (vg_lm_at hl hx) (h H locs ls hl ho (vg_okc trivial hs) hP hS)
  next => exact h.elim
theorem vs_lload {i : Nat} (hd : decode cc pc = .ok (.lload i, 2)) (hn : pc + 2 = n) : vg_Snd tb nw shp nm cl tyl cc nL own ret d pc (vi_lload i n) := by
  subst hn
  refine ⟨vs_m1 fun K K' h lv st σ g => ?_, ?_⟩
  · split at g
    · exact h _ _ _ _ g
    · exact g
  intro p l e R s m args below meth c D tys ad A P C0 lv st σ h H locs ls hl ho hs hP hS
  unfold vi_lload at h
  split at h
  next x hx => exact lv_lload C0.1 C0.2.1 hd (vg_lm_at hl hx) (h H locs ls hl ho (vg_okc trivial hs) hP hS)
  next => exact h.elim
theorem vs_aload_n {k : Fin 4} {i : Nat} (hd : decode cc pc = .ok (.aload_n k, 1)) (hi : (k : Nat) = i) (hn : pc + 1 = n) : vg_Snd tb nw shp nm cl tyl cc nL own ret d pc (vi_aload i n) := by
  subst hn
  refine ⟨vs_m1 fun K K' h lv st σ g => ?_, ?_⟩
  · split at g
    · exact h _ _ _ _ g
    · exact g
  intro p l e R s m args below meth c D tys ad A P C0 lv st σ h H locs ls hl ho hs hP hS
  unfold vi_aload at h
  split at h
  next x hx => exact lv_aload_n C0.1 C0.2.1 hd hi (vg_lm_at hl hx) (h H locs ls hl ho (vg_okc (vg_okl ho hx) hs) hP hS)
  next => exact h.elim
theorem vs_aload {i : Nat} (hd : decode cc pc = .ok (.aload i, 2)) (hn : pc + 2 = n) : vg_Snd tb nw shp nm cl tyl cc nL own ret d pc (vi_aload i n) := by
  subst hn
  refine ⟨vs_m1 fun K K' h lv st σ g => ?_, ?_⟩
  · split at g
    · exact h _ _ _ _ g
    · exact g
  intro p l e R s m args below meth c D tys ad A P C0 lv st σ h H locs ls hl ho hs hP hS
  unfold vi_aload at h
  split at h
  next x hx => exact lv_aload C0.1 C0.2.1 hd (vg_lm_at hl hx) (h H locs ls hl ho (vg_okc (vg_okl ho hx) hs) hP hS)
  next => exact h.elim
theorem vs_istore_n {k : Fin 4} {i : Nat} (hd : decode cc pc = .ok (.istore_n k, 1)) (hi : (k : Nat) = i) (hL : i < nL) (hn : pc + 1 = n) : vg_Snd tb nw shp nm cl tyl cc nL own ret d pc (vi_istore i n) := by
  subst hn
  refine ⟨vs_m1 fun K K' h lv st σ g => ?_, ?_⟩
  · split at g
    · exact h _ _ _ _ g
    · exact g
  intro p l e R s m args below meth c D tys ad A P C0 lv st σ h H locs ls hl ho hs hP hS
  unfold vi_istore at h
  split at h
  next x t => exact lv_istore_n C0.1 C0.2.1 hd hi hl hL (vg_lm_put ad lv i (.inl (.int x))) (fun ls' hl' => h H locs ls' hl' (vg_ok_put ho trivial) (vg_okt hs) hP hS)
  next => exact h.elim
theorem vs_istore {i : Nat} (hd : decode cc pc = .ok (.istore i, 2)) (hL : i < nL) (hn : pc + 2 = n) : vg_Snd tb nw shp nm cl tyl cc nL own ret d pc (vi_istore i n) := by
  subst hn
  refine ⟨vs_m1 fun K K' h lv st σ g => ?_, ?_⟩
  · split at g
    · exact h _ _ _ _ g
    · exact g
  intro p l e R s m args below meth c D tys ad A P C0 lv st σ h H locs ls hl ho hs hP hS
  unfold vi_istore at h
  split at h
  next x t => exact lv_istore C0.1 C0.2.1 hd hl hL (vg_lm_put ad lv i (.inl (.int x))) (fun ls' hl' => h H locs ls' hl' (vg_ok_put ho trivial) (vg_okt hs) hP hS)
  next => exact h.elim
theorem vs_lstore_n {k : Fin 4} {i : Nat} (hd : decode cc pc = .ok (.lstore_n k, 1)) (hi : (k : Nat) = i) (hL : i + 1 < nL) (hn : pc + 1 = n) : vg_Snd tb nw shp nm cl tyl cc nL own ret d pc (vi_lstore i n) := by
  subst hn
  refine ⟨vs_m1 fun K K' h lv st σ g => ?_, ?_⟩
  · split at g
    · exact h _ _ _ _ g
    · exact g
  intro p l e R s m args below meth c D tys ad A P C0 lv st σ h H locs ls hl ho hs hP hS
  unfold vi_lstore at h
  split at h
  next x t => exact lv_lstore_n C0.1 C0.2.1 hd hi hl hL (vg_lm_put2 ad lv i (.inl (.long x))) (fun ls' hl' => h H locs ls' hl' (vg_ok_put2 ho trivial) (vg_okt hs) hP hS)
  next => exact h.elim
theorem vs_lstore {i : Nat} (hd : decode cc pc = .ok (.lstore i, 2)) (hL : i + 1 < nL) (hn : pc + 2 = n) : vg_Snd tb nw shp nm cl tyl cc nL own ret d pc (vi_lstore i n) := by
  subst hn
  refine ⟨vs_m1 fun K K' h lv st σ g => ?_, ?_⟩
  · split at g
    · exact h _ _ _ _ g
    · exact g
  intro p l e R s m args below meth c D tys ad A P C0 lv st σ h H locs ls hl ho hs hP hS
  unfold vi_lstore at h
  split at h
  next x t => exact lv_lstore C0.1 C0.2.1 hd hl hL (vg_lm_put2 ad lv i (.inl (.long x))) (fun ls' hl' => h H locs ls' hl' (vg_ok_put2 ho trivial) (vg_okt hs) hP hS)
  next => exact h.elim
theorem vs_astore_n {k : Fin 4} {i : Nat} (hd : decode cc pc = .ok (.astore_n k, 1)) (hi : (k : Nat) = i) (hL : i < nL) (hn : pc + 1 = n) : vg_Snd tb nw shp nm cl tyl cc nL own ret d pc (vi_astore i n) := by
  subst hn
  refine ⟨vs_m1 fun K K' h lv st σ g => ?_, ?_⟩
  · split at g
    · exact h _ _ _ _ g
    · exact g
  intro p l e R s m args below meth c D tys ad A P C0 lv st σ h H locs ls hl ho hs hP hS
  unfold vi_astore at h
  split at h
  next x t => exact lv_astore_n C0.1 C0.2.1 hd hi hl hL (vg_lm_put ad lv i (.inr x)) (fun ls' hl' => h H locs ls' hl' (vg_ok_put ho (vg_okh hs)) (vg_okt hs) hP hS)
  next => exact h.elim
theorem vs_astore {i : Nat} (hd : decode cc pc = .ok (.astore i, 2)) (hL : i < nL) (hn : pc + 2 = n) : vg_Snd tb nw shp nm cl tyl cc nL own ret d pc (vi_astore i n) := by
  subst hn
  refine ⟨vs_m1 fun K K' h lv st σ g => ?_, ?_⟩
  · split at g
    · exact h _ _ _ _ g
    · exact g
  intro p l e R s m args below meth c D tys ad A P C0 lv st σ h H locs ls hl ho hs hP hS
  unfold vi_astore at h
  split at h
  next x t => exact lv_astore C0.1 C0.2.1 hd hl hL (vg_lm_put ad lv i (.inr x)) (fun ls' hl' => h H locs ls' hl' (vg_ok_put ho (vg_okh hs)) (vg_okt hs) hP hS)
  next => exact h.elim
theorem vs_iinc {i : Nat} {z : Int} {v : Int32} (hd : decode cc pc = .ok (.iinc i z, 3)) (hv : Int32.ofInt z = v) (hn : pc + 3 = n) : vg_Snd tb nw shp nm cl tyl cc nL own ret d pc (vi_iinc i v n) := by
  subst hn
  refine ⟨vs_m1 fun K K' h lv st σ g => ?_, ?_⟩
  · split at g
    · exact h _ _ _ _ g
    · exact g
  intro p l e R s m args below meth c D tys ad A P C0 lv st σ h H locs ls hl ho hs hP hS
  unfold vi_iinc at h
  split at h
  next x hx =>
    obtain ⟨k, hk⟩ := List.getElem?_of_mem (vg_look_mem hx)
    exact lv_iinc (k := k) C0.1 C0.2.1 hd hl (by unfold vg_lm; rw [List.getElem?_map, hk]; rfl) (by rw [hv]) (vg_lms hl hx) (vg_lm_put ad lv i (.inl (.int (x + v)))) (fun ls' hl' => h H locs ls' hl' (vg_ok_put ho trivial) hs hP hS)
  next => exact h.elim
theorem vs_iadd (hd : decode cc pc = .ok (.iadd, 1)) (hn : pc + 1 = n) : vg_Snd tb nw shp nm cl tyl cc nL own ret d pc (vi_bin (fun x y => x + y) n) := by
  subst hn
  refine ⟨vs_m1 fun K K' h lv st σ g => ?_, ?_⟩
  · split at g
    · exact h _ _ _ _ g
    · exact g
  intro p l e R s m args below meth c D tys ad A P C0 lv st σ h H locs ls hl ho hs hP hS
  unfold vi_bin at h
  split at h
  next y x t => exact lv_iadd C0.1 C0.2.1 hd (h H locs ls hl ho (vg_okc trivial (vg_okt (vg_okt hs))) hP hS)
  next => exact h.elim
theorem vs_isub (hd : decode cc pc = .ok (.isub, 1)) (hn : pc + 1 = n) : vg_Snd tb nw shp nm cl tyl cc nL own ret d pc (vi_bin (fun x y => x - y) n) := by
  subst hn
  refine ⟨vs_m1 fun K K' h lv st σ g => ?_, ?_⟩
  · split at g
    · exact h _ _ _ _ g
    · exact g
  intro p l e R s m args below meth c D tys ad A P C0 lv st σ h H locs ls hl ho hs hP hS
  unfold vi_bin at h
  split at h
  next y x t => exact lv_isub C0.1 C0.2.1 hd (h H locs ls hl ho (vg_okc trivial (vg_okt (vg_okt hs))) hP hS)
  next => exact h.elim
theorem vs_imul (hd : decode cc pc = .ok (.imul, 1)) (hn : pc + 1 = n) : vg_Snd tb nw shp nm cl tyl cc nL own ret d pc (vi_bin (fun x y => x * y) n) := by
  subst hn
  refine ⟨vs_m1 fun K K' h lv st σ g => ?_, ?_⟩
  · split at g
    · exact h _ _ _ _ g
    · exact g
  intro p l e R s m args below meth c D tys ad A P C0 lv st σ h H locs ls hl ho hs hP hS
  unfold vi_bin at h
  split at h
  next y x t => exact lv_imul C0.1 C0.2.1 hd (h H locs ls hl ho (vg_okc trivial (vg_okt (vg_okt hs))) hP hS)
  next => exact h.elim
theorem vs_iand (hd : decode cc pc = .ok (.iand, 1)) (hn : pc + 1 = n) : vg_Snd tb nw shp nm cl tyl cc nL own ret d pc (vi_bin (fun x y => x &&& y) n) := by
  subst hn
  refine ⟨vs_m1 fun K K' h lv st σ g => ?_, ?_⟩
  · split at g
    · exact h _ _ _ _ g
    · exact g
  intro p l e R s m args below meth c D tys ad A P C0 lv st σ h H locs ls hl ho hs hP hS
  unfold vi_bin at h
  split at h
  next y x t => exact lv_iand C0.1 C0.2.1 hd (h H locs ls hl ho (vg_okc trivial (vg_okt (vg_okt hs))) hP hS)
  next => exact h.elim
theorem vs_ior (hd : decode cc pc = .ok (.ior, 1)) (hn : pc + 1 = n) : vg_Snd tb nw shp nm cl tyl cc nL own ret d pc (vi_bin (fun x y => x ||| y) n) := by
  subst hn
  refine ⟨vs_m1 fun K K' h lv st σ g => ?_, ?_⟩
  · split at g
    · exact h _ _ _ _ g
    · exact g
  intro p l e R s m args below meth c D tys ad A P C0 lv st σ h H locs ls hl ho hs hP hS
  unfold vi_bin at h
  split at h
  next y x t => exact lv_ior C0.1 C0.2.1 hd (h H locs ls hl ho (vg_okc trivial (vg_okt (vg_okt hs))) hP hS)
  next => exact h.elim
theorem vs_ixor (hd : decode cc pc = .ok (.ixor, 1)) (hn : pc + 1 = n) : vg_Snd tb nw shp nm cl tyl cc nL own ret d pc (vi_bin (fun x y => x ^^^ y) n) := by
  subst hn
  refine ⟨vs_m1 fun K K' h lv st σ g => ?_, ?_⟩
  · split at g
    · exact h _ _ _ _ g
    · exact g
  intro p l e R s m args below meth c D tys ad A P C0 lv st σ h H locs ls hl ho hs hP hS
  unfold vi_bin at h
  split at h
  next y x t => exact lv_ixor C0.1 C0.2.1 hd (h H locs ls hl ho (vg_okc trivial (vg_okt (vg_okt hs))) hP hS)
  next => exact h.elim
theorem vs_ishl (hd : decode cc pc = .ok (.ishl, 1)) (hn : pc + 1 = n) : vg_Snd tb nw shp nm cl tyl cc nL own ret d pc (vi_bin (fun x y => x <<< (y &&& 31)) n) := by
  subst hn
  refine ⟨vs_m1 fun K K' h lv st σ g => ?_, ?_⟩
  · split at g
    · exact h _ _ _ _ g
    · exact g
  intro p l e R s m args below meth c D tys ad A P C0 lv st σ h H locs ls hl ho hs hP hS
  unfold vi_bin at h
  split at h
  next y x t => exact lv_ishl C0.1 C0.2.1 hd (h H locs ls hl ho (vg_okc trivial (vg_okt (vg_okt hs))) hP hS)
  next => exact h.elim
theorem vs_ishr (hd : decode cc pc = .ok (.ishr, 1)) (hn : pc + 1 = n) : vg_Snd tb nw shp nm cl tyl cc nL own ret d pc (vi_bin (fun x y => x >>> (y &&& 31)) n) := by
  subst hn
  refine ⟨vs_m1 fun K K' h lv st σ g => ?_, ?_⟩
  · split at g
    · exact h _ _ _ _ g
    · exact g
  intro p l e R s m args below meth c D tys ad A P C0 lv st σ h H locs ls hl ho hs hP hS
  unfold vi_bin at h
  split at h
  next y x t => exact lv_ishr C0.1 C0.2.1 hd (h H locs ls hl ho (vg_okc trivial (vg_okt (vg_okt hs))) hP hS)
  next => exact h.elim
theorem vs_idiv (hd : decode cc pc = .ok (.idiv, 1)) (hn : pc + 1 = n) : vg_Snd tb nw shp nm cl tyl cc nL own ret d pc (vi_div (fun x y => x / y) n) := by
  subst hn
  refine ⟨vs_m1 fun K K' h lv st σ g => ?_, ?_⟩
  · split at g
    · exact ⟨g.1, h _ _ _ _ g.2⟩
    · exact g
  intro p l e R s m args below meth c D tys ad A P C0 lv st σ h H locs ls hl ho hs hP hS
  unfold vi_div at h
  split at h
  next y x t => exact lv_idiv C0.1 C0.2.1 hd h.1 (h.2 H locs ls hl ho (vg_okc trivial (vg_okt (vg_okt hs))) hP hS)
  next => exact h.elim
theorem vs_irem (hd : decode cc pc = .ok (.irem, 1)) (hn : pc + 1 = n) : vg_Snd tb nw shp nm cl tyl cc nL own ret d pc (vi_div (fun x y => x - x / y * y) n) := by
  subst hn
  refine ⟨vs_m1 fun K K' h lv st σ g => ?_, ?_⟩
  · split at g
    · exact ⟨g.1, h _ _ _ _ g.2⟩
    · exact g
  intro p l e R s m args below meth c D tys ad A P C0 lv st σ h H locs ls hl ho hs hP hS
  unfold vi_div at h
  split at h
  next y x t => exact lv_irem C0.1 C0.2.1 hd h.1 (h.2 H locs ls hl ho (vg_okc trivial (vg_okt (vg_okt hs))) hP hS)
  next => exact h.elim
theorem vs_ladd (hd : decode cc pc = .ok (.ladd, 1)) (hn : pc + 1 = n) : vg_Snd tb nw shp nm cl tyl cc nL own ret d pc (vi_lbin (fun x y => x + y) n) := by
  subst hn
  refine ⟨vs_m1 fun K K' h lv st σ g => ?_, ?_⟩
  · split at g
    · exact h _ _ _ _ g
    · exact g
  intro p l e R s m args below meth c D tys ad A P C0 lv st σ h H locs ls hl ho hs hP hS
  unfold vi_lbin at h
  split at h
  next y x t => exact lv_ladd C0.1 C0.2.1 hd (h H locs ls hl ho (vg_okc trivial (vg_okt (vg_okt hs))) hP hS)
  next => exact h.elim
theorem vs_lmul (hd : decode cc pc = .ok (.lmul, 1)) (hn : pc + 1 = n) : vg_Snd tb nw shp nm cl tyl cc nL own ret d pc (vi_lbin (fun x y => x * y) n) := by
  subst hn
  refine ⟨vs_m1 fun K K' h lv st σ g => ?_, ?_⟩
  · split at g
    · exact h _ _ _ _ g
    · exact g
  intro p l e R s m args below meth c D tys ad A P C0 lv st σ h H locs ls hl ho hs hP hS
  unfold vi_lbin at h
  split at h
  next y x t => exact lv_lmul C0.1 C0.2.1 hd (h H locs ls hl ho (vg_okc trivial (vg_okt (vg_okt hs))) hP hS)
  next => exact h.elim
theorem vs_i2l (hd : decode cc pc = .ok (.i2l, 1)) (hn : pc + 1 = n) : vg_Snd tb nw shp nm cl tyl cc nL own ret d pc (vi_i2l n) := by
  subst hn
  refine ⟨vs_m1 fun K K' h lv st σ g => ?_, ?_⟩
  · split at g
    · exact h _ _ _ _ g
    · exact g
  intro p l e R s m args below meth c D tys ad A P C0 lv st σ h H locs ls hl ho hs hP hS
  unfold vi_i2l at h
  split at h
  next x t => exact lv_i2l C0.1 C0.2.1 hd rfl (h H locs ls hl ho (vg_okc trivial (vg_okt hs)) hP hS)
  next => exact h.elim
theorem vs_if_eq {off : Int} {g : Nat} (hd : decode cc pc = .ok (.ifCond .eq off, 3)) (ht : (pc : Int) + off = (g : Int)) (hn : pc + 3 = n) : vg_Snd tb nw shp nm cl tyl cc nL own ret d pc (vi_if (fun x => x = 0) g n) := by
  subst hn
  refine ⟨vs_m1 fun K K' h lv st σ g => ?_, ?_⟩
  · split at g
    · exact ⟨fun q => h _ _ _ _ (g.1 q), fun q => h _ _ _ _ (g.2 q)⟩
    · exact g
  intro p l e R s m args below meth c D tys ad A P C0 lv st σ h H locs ls hl ho hs hP hS
  unfold vi_if at h
  split at h
  next x t => exact lv_if_eq C0.1 C0.2.1 hd ht (fun q => h.1 q H locs ls hl ho (vg_okt hs) hP hS) (fun q => h.2 q H locs ls hl ho (vg_okt hs) hP hS)
  next => exact h.elim
theorem vs_if_ne {off : Int} {g : Nat} (hd : decode cc pc = .ok (.ifCond .ne off, 3)) (ht : (pc : Int) + off = (g : Int)) (hn : pc + 3 = n) : vg_Snd tb nw shp nm cl tyl cc nL own ret d pc (vi_if (fun x => x = 0) n g) := by
  subst hn
  refine ⟨vs_m1 fun K K' h lv st σ g => ?_, ?_⟩
  · split at g
    · exact ⟨fun q => h _ _ _ _ (g.1 q), fun q => h _ _ _ _ (g.2 q)⟩
    · exact g
  intro p l e R s m args below meth c D tys ad A P C0 lv st σ h H locs ls hl ho hs hP hS
  unfold vi_if at h
  split at h
  next x t => exact lv_if_ne C0.1 C0.2.1 hd ht (fun q => h.2 q H locs ls hl ho (vg_okt hs) hP hS) (fun q => h.1 q H locs ls hl ho (vg_okt hs) hP hS)
  next => exact h.elim
theorem vs_if_lt {off : Int} {g : Nat} (hd : decode cc pc = .ok (.ifCond .lt off, 3)) (ht : (pc : Int) + off = (g : Int)) (hn : pc + 3 = n) : vg_Snd tb nw shp nm cl tyl cc nL own ret d pc (vi_if (fun x => x < 0) g n) := by
  subst hn
  refine ⟨vs_m1 fun K K' h lv st σ g => ?_, ?_⟩
  · split at g
    · exact ⟨fun q => h _ _ _ _ (g.1 q), fun q => h _ _ _ _ (g.2 q)⟩
    · exact g
  intro p l e R s m args below meth c D tys ad A P C0 lv st σ h H locs ls hl ho hs hP hS
  unfold vi_if at h
  split at h
  next x t => exact lv_if_lt C0.1 C0.2.1 hd ht (fun q => h.1 q H locs ls hl ho (vg_okt hs) hP hS) (fun q => h.2 q H locs ls hl ho (vg_okt hs) hP hS)
  next => exact h.elim
theorem vs_if_ge {off : Int} {g : Nat} (hd : decode cc pc = .ok (.ifCond .ge off, 3)) (ht : (pc : Int) + off = (g : Int)) (hn : pc + 3 = n) : vg_Snd tb nw shp nm cl tyl cc nL own ret d pc (vi_if (fun x => 0 ≤ x) g n) := by
  subst hn
  refine ⟨vs_m1 fun K K' h lv st σ g => ?_, ?_⟩
  · split at g
    · exact ⟨fun q => h _ _ _ _ (g.1 q), fun q => h _ _ _ _ (g.2 q)⟩
    · exact g
  intro p l e R s m args below meth c D tys ad A P C0 lv st σ h H locs ls hl ho hs hP hS
  unfold vi_if at h
  split at h
  next x t => exact lv_if_ge C0.1 C0.2.1 hd ht (fun q => h.1 q H locs ls hl ho (vg_okt hs) hP hS) (fun q => h.2 q H locs ls hl ho (vg_okt hs) hP hS)
  next => exact h.elim
theorem vs_if_gt {off : Int} {g : Nat} (hd : decode cc pc = .ok (.ifCond .gt off, 3)) (ht : (pc : Int) + off = (g : Int)) (hn : pc + 3 = n) : vg_Snd tb nw shp nm cl tyl cc nL own ret d pc (vi_if (fun x => 0 < x) g n) := by
  subst hn
  refine ⟨vs_m1 fun K K' h lv st σ g => ?_, ?_⟩
  · split at g
    · exact ⟨fun q => h _ _ _ _ (g.1 q), fun q => h _ _ _ _ (g.2 q)⟩
    · exact g
  intro p l e R s m args below meth c D tys ad A P C0 lv st σ h H locs ls hl ho hs hP hS
  unfold vi_if at h
  split at h
  next x t => exact lv_if_gt C0.1 C0.2.1 hd ht (fun q => h.1 q H locs ls hl ho (vg_okt hs) hP hS) (fun q => h.2 q H locs ls hl ho (vg_okt hs) hP hS)
  next => exact h.elim
theorem vs_if_le {off : Int} {g : Nat} (hd : decode cc pc = .ok (.ifCond .le off, 3)) (ht : (pc : Int) + off = (g : Int)) (hn : pc + 3 = n) : vg_Snd tb nw shp nm cl tyl cc nL own ret d pc (vi_if (fun x => x ≤ 0) g n) := by
  subst hn
  refine ⟨vs_m1 fun K K' h lv st σ g => ?_, ?_⟩
  · split at g
    · exact ⟨fun q => h _ _ _ _ (g.1 q), fun q => h _ _ _ _ (g.2 q)⟩
    · exact g
  intro p l e R s m args below meth c D tys ad A P C0 lv st σ h H locs ls hl ho hs hP hS
  unfold vi_if at h
  split at h
  next x t => exact lv_if_le C0.1 C0.2.1 hd ht (fun q => h.1 q H locs ls hl ho (vg_okt hs) hP hS) (fun q => h.2 q H locs ls hl ho (vg_okt hs) hP hS)
  next => exact h.elim
theorem vs_cmp_eq {off : Int} {g : Nat} (hd : decode cc pc = .ok (.if_icmp .eq off, 3)) (ht : (pc : Int) + off = (g : Int)) (hn : pc + 3 = n) : vg_Snd tb nw shp nm cl tyl cc nL own ret d pc (vi_cmp (fun x y => x = y) g n) := by
  subst hn
  refine ⟨vs_m1 fun K K' h lv st σ g => ?_, ?_⟩
  · split at g
    · exact ⟨fun q => h _ _ _ _ (g.1 q), fun q => h _ _ _ _ (g.2 q)⟩
    · exact g
  intro p l e R s m args below meth c D tys ad A P C0 lv st σ h H locs ls hl ho hs hP hS
  unfold vi_cmp at h
  split at h
  next y x t => exact lv_icmp_eq C0.1 C0.2.1 hd ht (fun q => h.1 q H locs ls hl ho (vg_okt (vg_okt hs)) hP hS) (fun q => h.2 q H locs ls hl ho (vg_okt (vg_okt hs)) hP hS)
  next => exact h.elim
theorem vs_cmp_ne {off : Int} {g : Nat} (hd : decode cc pc = .ok (.if_icmp .ne off, 3)) (ht : (pc : Int) + off = (g : Int)) (hn : pc + 3 = n) : vg_Snd tb nw shp nm cl tyl cc nL own ret d pc (vi_cmp (fun x y => x = y) n g) := by
  subst hn
  refine ⟨vs_m1 fun K K' h lv st σ g => ?_, ?_⟩
  · split at g
    · exact ⟨fun q => h _ _ _ _ (g.1 q), fun q => h _ _ _ _ (g.2 q)⟩
    · exact g
  intro p l e R s m args below meth c D tys ad A P C0 lv st σ h H locs ls hl ho hs hP hS
  unfold vi_cmp at h
  split at h
  next y x t => exact lv_icmp_ne C0.1 C0.2.1 hd ht (fun q => h.2 q H locs ls hl ho (vg_okt (vg_okt hs)) hP hS) (fun q => h.1 q H locs ls hl ho (vg_okt (vg_okt hs)) hP hS)
  next => exact h.elim
theorem vs_cmp_lt {off : Int} {g : Nat} (hd : decode cc pc = .ok (.if_icmp .lt off, 3)) (ht : (pc : Int) + off = (g : Int)) (hn : pc + 3 = n) : vg_Snd tb nw shp nm cl tyl cc nL own ret d pc (vi_cmp (fun x y => x < y) g n) := by
  subst hn
  refine ⟨vs_m1 fun K K' h lv st σ g => ?_, ?_⟩
  · split at g
    · exact ⟨fun q => h _ _ _ _ (g.1 q), fun q => h _ _ _ _ (g.2 q)⟩
    · exact g
  intro p l e R s m args below meth c D tys ad A P C0 lv st σ h H locs ls hl ho hs hP hS
  unfold vi_cmp at h
  split at h
  next y x t => exact lv_icmp_lt C0.1 C0.2.1 hd ht (fun q => h.1 q H locs ls hl ho (vg_okt (vg_okt hs)) hP hS) (fun q => h.2 q H locs ls hl ho (vg_okt (vg_okt hs)) hP hS)
  next => exact h.elim
theorem vs_cmp_ge {off : Int} {g : Nat} (hd : decode cc pc = .ok (.if_icmp .ge off, 3)) (ht : (pc : Int) + off = (g : Int)) (hn : pc + 3 = n) : vg_Snd tb nw shp nm cl tyl cc nL own ret d pc (vi_cmp (fun x y => y ≤ x) g n) := by
  subst hn
  refine ⟨vs_m1 fun K K' h lv st σ g => ?_, ?_⟩
  · split at g
    · exact ⟨fun q => h _ _ _ _ (g.1 q), fun q => h _ _ _ _ (g.2 q)⟩
    · exact g
  intro p l e R s m args below meth c D tys ad A P C0 lv st σ h H locs ls hl ho hs hP hS
  unfold vi_cmp at h
  split at h
  next y x t => exact lv_icmp_ge C0.1 C0.2.1 hd ht (fun q => h.1 q H locs ls hl ho (vg_okt (vg_okt hs)) hP hS) (fun q => h.2 q H locs ls hl ho (vg_okt (vg_okt hs)) hP hS)
  next => exact h.elim
theorem vs_cmp_gt {off : Int} {g : Nat} (hd : decode cc pc = .ok (.if_icmp .gt off, 3)) (ht : (pc : Int) + off = (g : Int)) (hn : pc + 3 = n) : vg_Snd tb nw shp nm cl tyl cc nL own ret d pc (vi_cmp (fun x y => y < x) g n) := by
  subst hn
  refine ⟨vs_m1 fun K K' h lv st σ g => ?_, ?_⟩
  · split at g
    · exact ⟨fun q => h _ _ _ _ (g.1 q), fun q => h _ _ _ _ (g.2 q)⟩
    · exact g
  intro p l e R s m args below meth c D tys ad A P C0 lv st σ h H locs ls hl ho hs hP hS
  unfold vi_cmp at h
  split at h
  next y x t => exact lv_icmp_gt C0.1 C0.2.1 hd ht (fun q => h.1 q H locs ls hl ho (vg_okt (vg_okt hs)) hP hS) (fun q => h.2 q H locs ls hl ho (vg_okt (vg_okt hs)) hP hS)
  next => exact h.elim
theorem vs_cmp_le {off : Int} {g : Nat} (hd : decode cc pc = .ok (.if_icmp .le off, 3)) (ht : (pc : Int) + off = (g : Int)) (hn : pc + 3 = n) : vg_Snd tb nw shp nm cl tyl cc nL own ret d pc (vi_cmp (fun x y => x ≤ y) g n) := by
  subst hn
  refine ⟨vs_m1 fun K K' h lv st σ g => ?_, ?_⟩
  · split at g
    · exact ⟨fun q => h _ _ _ _ (g.1 q), fun q => h _ _ _ _ (g.2 q)⟩
    · exact g
  intro p l e R s m args below meth c D tys ad A P C0 lv st σ h H locs ls hl ho hs hP hS
  unfold vi_cmp at h
  split at h
  next y x t => exact lv_icmp_le C0.1 C0.2.1 hd ht (fun q => h.1 q H locs ls hl ho (vg_okt (vg_okt hs)) hP hS) (fun q => h.2 q H locs ls hl ho (vg_okt (vg_okt hs)) hP hS)
  next => exact h.elim
theorem vs_goto {off : Int} {g : Nat} (hd : decode cc pc = .ok (.goto off, 3)) (ht : (pc : Int) + off = (g : Int)) : vg_Snd tb nw shp nm cl tyl cc nL own ret d pc (vi_goto g) := by
  refine ⟨vs_m1 fun K K' h lv st σ g => h _ _ _ _ g, ?_⟩
  intro p l e R s m args below meth c D tys ad A P C0 lv st σ h H locs ls hl ho hs hP hS
  exact lv_goto C0.1 C0.2.1 hd ht (h H locs ls hl ho hs hP hS)
theorem vi_sw0_mono {x : Int32} {d d' : Prop} (hd : d → d') {α : Type} {f f' : α → Prop} (hf : ∀ a, f a → f' a) : ∀ (l : List (Int32 × α)), vi_sw0 x d (l.map (fun q => (q.1, f q.2))) → vi_sw0 x d' (l.map (fun q => (q.1, f' q.2)))
  | [], h => hd h
  | q :: r, h => ⟨fun z => hf _ (h.1 z), fun z => vi_sw0_mono hd hf r (h.2 z)⟩
theorem vs_tsw0 {x : Int32} {dP : Prop} {α : Type} {f : α → Prop} : ∀ (cs : List (Int32 × α)), vi_sw0 x dP (cs.map (fun q => (q.1, f q.2))) → (∃ (i : Nat) (q : Int32 × α), cs[i]? = some q ∧ x = q.1 ∧ f q.2) ∨ ((∀ (i : Nat) (q : Int32 × α), cs[i]? = some q → ¬ x = q.1) ∧ dP)
  | [], h => Or.inr ⟨fun i q hq => by simp at hq, h⟩
  | q :: r, h => by
    by_cases hx : x = q.1
    · exact Or.inl ⟨0, q, rfl, hx, h.1 hx⟩
    · rcases vs_tsw0 r (h.2 hx) with ⟨i, a, h1, h2, h3⟩ | ⟨h1, h2⟩
      · exact Or.inl ⟨i + 1, a, h1, h2, h3⟩
      · refine Or.inr ⟨fun i a ha => ?_, h2⟩
        cases i with
        | zero => cases ha; exact hx
        | succ i => exact h1 i a ha
/-- a tableswitch from 0: its targets in a row -/
theorem vs_tsw {dflt hi : Int} {offs : Array Int} {len g : Nat} {cs : List (Int32 × Nat)} (hd : decode cc pc = .ok (.tableswitch dflt 0 hi offs, len)) (hg : (pc : Int) + dflt = (g : Int)) (hh : hi + 1 = (cs.length : Int))
    (hc : ∀ i : Nat, i < cs.length → ∃ q off, cs[i]? = some q ∧ offs[i]? = some off ∧ q.1.toInt = (i : Int) ∧ (pc : Int) + off = (q.2 : Int)) : vg_Snd tb nw shp nm cl tyl cc nL own ret d pc (vi_sw cs g) := by
  refine ⟨vs_m1 fun K K' h lv st σ g => ?_, ?_⟩
  · split at g
    · exact vi_sw0_mono (h _ _ _ _) (f := fun q => K q lv _ σ) (f' := fun q => K' q lv _ σ) (fun q => h _ _ _ _) cs g
    · exact g
  intro p l e R s m args below meth c D tys ad A P C0 lv st σ h H locs ls hl ho hs hP hS
  unfold vi_sw at h
  split at h
  next x t =>
    rcases vs_tsw0 (f := fun q => vg_X shp nm cl nL p l e R s m args below meth c D tys ad A P q lv t σ) cs h with ⟨i, q, h1, h2, h3⟩ | ⟨h1, h2⟩
    · have hi := (List.getElem?_eq_some_iff.mp h1).1
      obtain ⟨q', off, e1, e2, e3, e4⟩ := hc i hi
      cases e1.symm.trans h1
      refine lv_tableIn C0.1 C0.2.1 hd (by rw [h2, e3]; omega) (by rw [h2, e3]; omega) (off := off) ?_ e4 (h3 H locs ls hl ho (vg_okt hs) hP hS)
      rw [h2, e3, Int.sub_zero, Int.toNat_natCast]
      exact e2
    · refine lv_tableOut C0.1 C0.2.1 hd ?_ hg (h2 H locs ls hl ho (vg_okt hs) hP hS)
      rcases Int.lt_or_le x.toInt 0 with z | z
      · exact Or.inl z
      · refine Or.inr (Int.not_le.mp fun y => ?_)
        have hi : x.toInt.toNat < cs.length := by omega
        obtain ⟨q', off, e1, e2, e3, e4⟩ := hc _ hi
        exact h1 _ q' e1 (Int32.toInt_inj.mp (by rw [e3]; omega))
  next => exact h.elim
theorem vg_cat1 {ad : vgN → Nat} {v : vgV} (h : vg_c2 v = false) : (vg_cv ad v).category = 1 := by
  cases v with
  | inl v => cases v <;> first | rfl | cases h
  | inr n => rfl
theorem vg_wd_sum (ad : vgN → Nat) : ∀ t : vgT, ((t.map (vg_cv ad)).map fun v => v.category).sum = vg_wd t
  | [] => rfl
  | v :: t => by
    have ih := vg_wd_sum ad t
    have h := vg_c2_eq ad v
    show (vg_cv ad v).category + ((t.map (vg_cv ad)).map fun v => v.category).sum = (if vg_c2 v then 2 else 1) + vg_wd t
    rw [ih]
    cases hc : vg_c2 v with
    | true => rw [hc] at h; simp [beq_iff_eq.mp h]
    | false => simp [vg_cat1 hc]
theorem vs_dup (hd : decode cc pc = .ok (.dup, 1)) (hn : pc + 1 = n) : vg_Snd tb nw shp nm cl tyl cc nL own ret d pc (vi_dup n) := by
  subst hn
  refine ⟨vs_m1 fun K K' h lv st σ g => ?_, ?_⟩
  · split at g
    · exact ⟨g.1, h _ _ _ _ g.2⟩
    · exact g
  intro p l e R s m args below meth c D tys ad A P C0 lv st σ h H locs ls hl ho hs hP hS
  unfold vi_dup at h
  split at h
  next a t => exact lv_dup C0.1 C0.2.1 hd (vg_cat1 h.1) (h.2 H locs ls hl ho (vg_okc (vg_okh hs) hs) hP hS)
  next => exact h.elim
theorem vs_pop (hd : decode cc pc = .ok (.pop, 1)) (hn : pc + 1 = n) : vg_Snd tb nw shp nm cl tyl cc nL own ret d pc (vi_pop n) := by
  subst hn
  refine ⟨vs_m1 fun K K' h lv st σ g => ?_, ?_⟩
  · split at g
    · exact ⟨g.1, h _ _ _ _ g.2⟩
    · exact g
  intro p l e R s m args below meth c D tys ad A P C0 lv st σ h H locs ls hl ho hs hP hS
  unfold vi_pop at h
  split at h
  next a t => exact lv_pop C0.1 C0.2.1 hd (vg_cat1 h.1) (h.2 H locs ls hl ho (vg_okt hs) hP hS)
  next => exact h.elim
theorem vs_dup_x1 (hd : decode cc pc = .ok (.dup_x1, 1)) (hn : pc + 1 = n) : vg_Snd tb nw shp nm cl tyl cc nL own ret d pc (vi_dupx1 n) := by
  subst hn
  refine ⟨vs_m1 fun K K' h lv st σ g => ?_, ?_⟩
  · split at g
    · exact ⟨g.1, h _ _ _ _ g.2⟩
    · exact g
  intro p l e R s m args below meth c D tys ad A P C0 lv st σ h H locs ls hl ho hs hP hS
  unfold vi_dupx1 at h
  split at h
  next a b t => exact lv_dup_x1 C0.1 C0.2.1 hd (vg_cat1 h.1.1) (vg_cat1 h.1.2) (h.2 H locs ls hl ho (vg_okc (vg_okh hs) (vg_okc (vg_okh (vg_okt hs)) (vg_okc (vg_okh hs) (vg_okt (vg_okt hs))))) hP hS)
  next => exact h.elim
theorem vs_dup2 (hd : decode cc pc = .ok (.dup2, 1)) (hn : pc + 1 = n) : vg_Snd tb nw shp nm cl tyl cc nL own ret d pc (vi_dup2 n) := by
  subst hn
  refine ⟨vs_m1 fun K K' h lv st σ g => ?_, ?_⟩
  · split at g
    · exact ⟨g.1, h _ _ _ _ g.2⟩
    · exact g
  intro p l e R s m args below meth c D tys ad A P C0 lv st σ h H locs ls hl ho hs hP hS
  unfold vi_dup2 at h
  split at h
  next a b t => exact lv_dup2_11 C0.1 C0.2.1 hd (vg_cat1 h.1.1) (vg_cat1 h.1.2) (h.2 H locs ls hl ho (vg_okc (vg_okh hs) (vg_okc (vg_okh (vg_okt hs)) hs)) hP hS)
  next => exact h.elim
theorem vs_ireturn (hd : decode cc pc = .ok (.ireturn, 1)) (hr : ret = some .int) : vg_Snd tb nw shp nm cl tyl cc nL own ret d pc vi_ret := by
  refine ⟨fun P K K' h lv st σ g => g, ?_⟩
  intro p l e R s m args below meth c D tys ad A P C0 lv st σ h H locs ls hl ho hs hP hS
  unfold vi_ret at h
  split at h
  next x => exact W.iret (v := x) C0.1 C0.2.1 (C0.2.2.2.2.2.2.2.1.trans hr) (fun t ht hW => ⟨⟨some (.inl (.int x)), σ, rfl, h, fun v hv => by cases hv; exact trivial, by rw [ht]; exact hP⟩, hS.F ht⟩) hS.2.2 hd C0.2.2.2.2.2.2.2.2.1
  next => exact h.elim
theorem vs_zreturn (hd : decode cc pc = .ok (.ireturn, 1)) (hr : ret = some .boolean) : vg_Snd tb nw shp nm cl tyl cc nL own ret d pc vi_retZ := by
  refine ⟨fun P K K' h lv st σ g => g, ?_⟩
  intro p l e R s m args below meth c D tys ad A P C0 lv st σ h H locs ls hl ho hs hP hS
  unfold vi_retZ at h
  split at h
  next x => exact W.zret (v := x) C0.1 C0.2.1 (C0.2.2.2.2.2.2.2.1.trans hr) (by rcases h.1 with rfl | rfl <;> rfl) (fun t ht hW => ⟨⟨some (.inl (.int x)), σ, rfl, h.2, fun v hv => by cases hv; exact trivial, by rw [ht]; exact hP⟩, hS.F ht⟩) hS.2.2 hd C0.2.2.2.2.2.2.2.2.1
  next => exact h.elim
theorem vs_lreturn (hd : decode cc pc = .ok (.lreturn, 1)) (hr : ret = some .long) : vg_Snd tb nw shp nm cl tyl cc nL own ret d pc vi_retL := by
  refine ⟨fun P K K' h lv st σ g => g, ?_⟩
  intro p l e R s m args below meth c D tys ad A P C0 lv st σ h H locs ls hl ho hs hP hS
  unfold vi_retL at h
  split at h
  next x => exact W.lret (v := x) C0.1 C0.2.1 (C0.2.2.2.2.2.2.2.1.trans hr) (fun t ht hW => ⟨⟨some (.inl (.long x)), σ, rfl, h, fun v hv => by cases hv; exact trivial, by rw [ht]; exact hP⟩, hS.F ht⟩) hS.2.2 hd C0.2.2.2.2.2.2.2.2.1
  next => exact h.elim
theorem vs_return (hd : decode cc pc = .ok (.return_, 1)) (hr : ret = none) : vg_Snd tb nw shp nm cl tyl cc nL own ret d pc vi_retV := by
  refine ⟨fun P K K' h lv st σ g => g, ?_⟩
  intro p l e R s m args below meth c D tys ad A P C0 lv st σ h H locs ls hl ho hs hP hS
  unfold vi_retV at h
  split at h
  next => exact W.vret C0.1 C0.2.1 (C0.2.2.2.2.2.2.2.1.trans hr) (fun t ht hW => ⟨⟨none, σ, rfl, h, fun v hv => (by cases hv), by rw [ht]; exact hP⟩, hS.F ht⟩) hS.2.2 hd C0.2.2.2.2.2.2.2.2.1
  next => exact h.elim
end VS
end
section
/-! rows that read and write cells, and calls -/
section VS2
variable {tb : List Cond} {nw : List (String × Nat × MethodName × String)} {shp : vgN → vgH} {nm : List vgN} {cl : List vw_C} {tyl : List FieldType} {cc : ByteArray} {nL : Nat} {own : String} {ret : Option FieldType} {d pc n : Nat}
theorem vg_tys {tys : List (ClassId × FieldType)} {tyl : List FieldType} {t : Nat} {ty : FieldType} (h : tys.map (fun q => q.2) = tyl) (ht : tyl[t]? = some ty) : tys[t]? = some (vg_ty tys t, ty) := by
  subst h
  rw [List.getElem?_map] at ht
  unfold vg_ty
  cases hq : tys[t]? with
  | none => rw [hq] at ht; cases ht
  | some q => rw [hq] at ht; cases ht; rfl
theorem vs_getfield {ci k ix : Nat} {C : String} {T : u_T} {N : Nat} (hd : decode cc pc = .ok (.getfield ix, 3)) (hc : cl[ci]? = some (C, T, N)) (hk : k < N) (hin : ∀ w ∈ u_ws C T N, w ∈ tb) (hw : Cond.fieldLink own ix (T k).1 (T k).2.1 (T k).2.2.1 ∈ tb) (hn : pc + 3 = n) : vg_Snd tb nw shp nm cl tyl cc nL own ret d pc (vi_get shp ci k n) := by
  subst hn
  refine ⟨vs_m1 fun K K' h lv st σ g => ?_, ?_⟩
  · split at g
    · split at g
      next q _ =>
        cases hb : Nat.beq q.1 ci with
        | false => rw [hb] at g; exact g.elim
        | true =>
          rw [hb] at g
          show (match vg_nth q.2 k with | some none => _ | some (some z) => _ | none => False)
          have g' : (match vg_nth q.2 k with | some none => _ | some (some z) => _ | none => False) := g
          split at g'
          · exact h _ _ _ _ g'
          · exact h _ _ _ _ g'
          · exact g'
      next => exact g
    · exact g
  intro p l e R s m args below meth c D tys ad A P C0 lv st σ h H locs ls hl ho hs hP hS
  unfold vi_get at h
  split at h
  next m0 t =>
    split at h
    next q hq =>
      cases hb : Nat.beq q.1 ci with
      | false => rw [hb] at h; exact h.elim
      | true =>
        rw [hb] at h
        have e : q.1 = ci := Nat.eq_of_beq_eq_true hb
        have h' : (match vg_nth q.2 k with | some none => _ | some (some z) => _ | none => False) := h
        obtain ⟨q0, hq0, hws⟩ := vg_ws_get (shp := shp) (ad := ad) (tys := tys) (σ := σ) (show m0 ∈ nm from vg_okh hs)
        rw [hq] at hws
        have hws2 : (vg_ws shp nm ad tys σ)[q0]? = some (ad m0, .inr (ci, vg_fs ad (σ m0) 0 q.2)) := by rw [hws]; show some (ad m0, Sum.inr (q.1, _)) = _; rw [e]
        have hg := vg_fs_get ad (σ m0) q.2 0 k
        rw [← vg_nth_eq, Nat.zero_add] at hg
        split at h'
        next hz =>
          rw [hz] at hg
          exact va_get (D := D) C0.1 C0.2.1 C0.2.2.2.2.1 hin C0.2.2.2.1 C0.2.2.2.2.2.1 hP q0 hws2 hc k hk (C0.2.2.2.2.1 _ hw) (fun _ z => z) hg hd (h' H locs ls hl ho (vg_okc trivial (vg_okt hs)) hP hS)
        next z hz =>
          rw [hz] at hg
          have hcl := C0.2.2.2.2.2.2.2.2.2.2.2.2.1 m0 (vg_okh hs)
          rw [hq] at hcl
          have hm : z ∈ nm := hcl z (by rw [vg_nth_eq] at hz; exact List.mem_of_getElem? hz)
          exact va_get (D := D) C0.1 C0.2.1 C0.2.2.2.2.1 hin C0.2.2.2.1 C0.2.2.2.2.2.1 hP q0 hws2 hc k hk (C0.2.2.2.2.1 _ hw) (fun _ z => z) hg hd (h' H locs ls hl ho (vg_okc hm (vg_okt hs)) hP hS)
        next => exact h'.elim
    next => exact h.elim
  next => exact h.elim
theorem vg_put_ws {σ : vgS} {ad : vgN → Nat} {tys : List (ClassId × FieldType)} {A : Nat → Prop} {m0 : vgN} {q0 ci k : Nat} {sl : List (Option vgN)} {x : Int32} (hD : va_D A (vg_ws shp nm ad tys σ)) (hq0 : nm[q0]? = some m0) (hq : shp m0 = .inl (ci, sl)) (hz : sl[k]? = some none) : (vg_ws shp nm ad tys σ).set q0 (ad m0, .inr (ci, (vg_fs ad (σ m0) 0 sl).set k (.int x))) = vg_ws shp nm ad tys (vg_st σ m0 k x) := by
  refine vg_ws_set hD hq0 ?_ (fun n' hn' => ?_)
  · rw [hq, vg_fs_set ad (σ m0) x sl k hz]
    show _ = Sum.inr (ci, vg_fs ad (vg_st σ m0 k x m0) 0 sl)
    congr 3
    funext j
    unfold vg_st
    simp
  · funext j
    unfold vg_st
    simp [hn']
theorem vs_putfield {ci k ix : Nat} {C : String} {T : u_T} {N : Nat} (ty0 : Nat → FieldType) (hd : decode cc pc = .ok (.putfield ix, 3)) (hc : cl[ci]? = some (C, T, N)) (hk : k < N) (hin : ∀ w ∈ u_ws C T N, w ∈ tb) (hty : ∀ k, k < N → parseFieldDescriptor (T k).2.2.1 = some (ty0 k)) (hnm : ∀ a, a < N → ∀ b, b < N → a ≠ b → (T a).2.1 ≠ (T b).2.1) (hfin : (T k).2.2.2 = false) (hti : ty0 k = .int)
    (hw : Cond.fieldLink own ix (T k).1 (T k).2.1 (T k).2.2.1 ∈ tb) (hn : pc + 3 = n) : vg_Snd tb nw shp nm cl tyl cc nL own ret d pc (vi_put shp ci k n) := by
  subst hn
  refine ⟨vs_m1 fun K K' h lv st σ g => ?_, ?_⟩
  · split at g
    · split at g
      next q _ =>
        cases hb : Nat.beq q.1 ci with
        | false => rw [hb] at g; exact g.elim
        | true =>
          rw [hb] at g
          show (match vg_nth q.2 k with | some none => _ | _ => False)
          have g' : (match vg_nth q.2 k with | some none => _ | _ => False) := g
          split at g'
          · exact h _ _ _ _ g'
          · exact g'
      next => exact g
    · exact g
  intro p l e R s m args below meth c D tys ad A P C0 lv st σ h H locs ls hl ho hs hP hS
  unfold vi_put at h
  split at h
  next x m0 t =>
    split at h
    next q hq =>
      cases hb : Nat.beq q.1 ci with
      | false => rw [hb] at h; exact h.elim
      | true =>
        rw [hb] at h
        have e : q.1 = ci := Nat.eq_of_beq_eq_true hb
        have h' : (match vg_nth q.2 k with | some none => _ | _ => False) := h
        obtain ⟨q0, hq0, hws⟩ := vg_ws_get (shp := shp) (ad := ad) (tys := tys) (σ := σ) (show m0 ∈ nm from vg_okh (vg_okt hs))
        rw [hq] at hws
        have hws2 : (vg_ws shp nm ad tys σ)[q0]? = some (ad m0, .inr (ci, vg_fs ad (σ m0) 0 q.2)) := by rw [hws]; show some (ad m0, Sum.inr (q.1, _)) = _; rw [e]
        have hDA := C0.2.2.2.2.2.2.2.2.2.2.2.1
        split at h'
        next hz =>
          rw [vg_nth_eq] at hz
          have hl2 : k < q.2.length := (List.getElem?_eq_some_iff.mp hz).1
          refine va_put (D := D) (A := A) C0.1 C0.2.1 C0.2.2.2.2.1 hin ty0 hty hnm C0.2.2.2.1 C0.2.2.2.2.2.1 hP (hDA σ) hS q0 hws2 hc k hk (C0.2.2.2.2.1 _ hw) (fun _ z => z) hfin (ty := .int) (v := .int x) (by rw [hty k hk, hti]) rfl rfl (by rw [vg_fs_len]; exact hl2) hd (fun H1 locs1 hP1 _ hS1 => ?_)
          rw [vg_put_ws (hDA σ) hq0 (by rw [hq, ← e]) hz] at hP1
          exact h' H1 locs1 ls hl ho (vg_okt (vg_okt hs)) hP1 hS1
        next => exact h'.elim
    next => exact h.elim
  next => exact h.elim
theorem vs_putfieldZ {ci k ix : Nat} {C : String} {T : u_T} {N : Nat} (ty0 : Nat → FieldType) (hd : decode cc pc = .ok (.putfield ix, 3)) (hc : cl[ci]? = some (C, T, N)) (hk : k < N) (hin : ∀ w ∈ u_ws C T N, w ∈ tb) (hty : ∀ k, k < N → parseFieldDescriptor (T k).2.2.1 = some (ty0 k)) (hnm : ∀ a, a < N → ∀ b, b < N → a ≠ b → (T a).2.1 ≠ (T b).2.1) (hfin : (T k).2.2.2 = false) (hti : ty0 k = .boolean)
    (hw : Cond.fieldLink own ix (T k).1 (T k).2.1 (T k).2.2.1 ∈ tb) (hn : pc + 3 = n) : vg_Snd tb nw shp nm cl tyl cc nL own ret d pc (vi_putZ shp ci k n) := by
  subst hn
  refine ⟨vs_m1 fun K K' h lv st σ g => ?_, ?_⟩
  · split at g
    · split at g
      next q _ =>
        cases hb : Nat.beq q.1 ci with
        | false => rw [hb] at g; exact g.elim
        | true =>
          rw [hb] at g
          show (match vg_nth q.2 k with | some none => _ | _ => False)
          have g' : (match vg_nth q.2 k with | some none => _ | _ => False) := g
          split at g'
          · exact ⟨g'.1, h _ _ _ _ g'.2⟩
          · exact g'
      next => exact g
    · exact g
  intro p l e R s m args below meth c D tys ad A P C0 lv st σ h H locs ls hl ho hs hP hS
  unfold vi_putZ at h
  split at h
  next x m0 t =>
    split at h
    next q hq =>
      cases hb : Nat.beq q.1 ci with
      | false => rw [hb] at h; exact h.elim
      | true =>
        rw [hb] at h
        have e : q.1 = ci := Nat.eq_of_beq_eq_true hb
        have h' : (match vg_nth q.2 k with | some none => _ | _ => False) := h
        obtain ⟨q0, hq0, hws⟩ := vg_ws_get (shp := shp) (ad := ad) (tys := tys) (σ := σ) (show m0 ∈ nm from vg_okh (vg_okt hs))
        rw [hq] at hws
        have hws2 : (vg_ws shp nm ad tys σ)[q0]? = some (ad m0, .inr (ci, vg_fs ad (σ m0) 0 q.2)) := by rw [hws]; show some (ad m0, Sum.inr (q.1, _)) = _; rw [e]
        have hDA := C0.2.2.2.2.2.2.2.2.2.2.2.1
        split at h'
        next hz =>
          rw [vg_nth_eq] at hz
          have hl2 : k < q.2.length := (List.getElem?_eq_some_iff.mp hz).1
          refine va_put (D := D) (A := A) C0.1 C0.2.1 C0.2.2.2.2.1 hin ty0 hty hnm C0.2.2.2.1 C0.2.2.2.2.2.1 hP (hDA σ) hS q0 hws2 hc k hk (C0.2.2.2.2.1 _ hw) (fun _ z => z) hfin (ty := .boolean) (v := .int x) (by rw [hty k hk, hti]) (by rcases h'.1 with rfl | rfl <;> rfl) (by rcases h'.1 with rfl | rfl <;> rfl) (by rw [vg_fs_len]; exact hl2) hd (fun H1 locs1 hP1 _ hS1 => ?_)
          rw [vg_put_ws (hDA σ) hq0 (by rw [hq, ← e]) hz] at hP1
          exact h'.2 H1 locs1 ls hl ho (vg_okt (vg_okt hs)) hP1 hS1
        next => exact h'.elim
    next => exact h.elim
  next => exact h.elim
theorem vs_iaload {t0 : Nat} (hd : decode cc pc = .ok (.iaload, 1)) (ht : tyl[t0]? = some .int) (hn : pc + 1 = n) : vg_Snd tb nw shp nm cl tyl cc nL own ret d pc (vi_ald shp t0 n) := by
  subst hn
  refine ⟨vs_m1 fun K K' h lv st σ g => ?_, ?_⟩
  · split at g
    · split at g
      next q _ =>
        cases hb : Nat.beq q.1 t0 with
        | false => rw [hb] at g; exact g.elim
        | true =>
          rw [hb] at g
          exact ⟨g.1, h _ _ _ _ g.2⟩
      next => exact g
    · exact g
  intro p l e R s m args below meth c D tys ad A P C0 lv st σ h H locs ls hl ho hs hP hS
  unfold vi_ald at h
  split at h
  next i m0 t =>
    split at h
    next q hq =>
      cases hb : Nat.beq q.1 t0 with
      | false => rw [hb] at h; exact h.elim
      | true =>
        rw [hb] at h
        have e : q.1 = t0 := Nat.eq_of_beq_eq_true hb
        obtain ⟨q0, hq0, hws⟩ := vg_ws_get (shp := shp) (ad := ad) (tys := tys) (σ := σ) (show m0 ∈ nm from vg_okh (vg_okt hs))
        rw [hq] at hws
        exact va_iald (D := D) C0.1 C0.2.1 C0.2.2.2.2.2.1 hP q0 t0 (by rw [← e]; exact hws) (vg_tys C0.2.2.2.2.2.2.1 ht) h.1 hd (h.2 H locs ls hl ho (vg_okc trivial (vg_okt (vg_okt hs))) hP hS)
    next => exact h.elim
  next => exact h.elim
theorem vs_zaload {t0 : Nat} (hd : decode cc pc = .ok (.baload, 1)) (ht : tyl[t0]? = some .boolean) (hn : pc + 1 = n) : vg_Snd tb nw shp nm cl tyl cc nL own ret d pc (vi_ald shp t0 n) := by
  subst hn
  refine ⟨vs_m1 fun K K' h lv st σ g => ?_, ?_⟩
  · split at g
    · split at g
      next q _ =>
        cases hb : Nat.beq q.1 t0 with
        | false => rw [hb] at g; exact g.elim
        | true =>
          rw [hb] at g
          exact ⟨g.1, h _ _ _ _ g.2⟩
      next => exact g
    · exact g
  intro p l e R s m args below meth c D tys ad A P C0 lv st σ h H locs ls hl ho hs hP hS
  unfold vi_ald at h
  split at h
  next i m0 t =>
    split at h
    next q hq =>
      cases hb : Nat.beq q.1 t0 with
      | false => rw [hb] at h; exact h.elim
      | true =>
        rw [hb] at h
        have e : q.1 = t0 := Nat.eq_of_beq_eq_true hb
        obtain ⟨q0, hq0, hws⟩ := vg_ws_get (shp := shp) (ad := ad) (tys := tys) (σ := σ) (show m0 ∈ nm from vg_okh (vg_okt hs))
        rw [hq] at hws
        exact va_zald (D := D) C0.1 C0.2.1 C0.2.2.2.2.2.1 hP q0 t0 (by rw [← e]; exact hws) (vg_tys C0.2.2.2.2.2.2.1 ht) h.1 hd (h.2 H locs ls hl ho (vg_okc trivial (vg_okt (vg_okt hs))) hP hS)
    next => exact h.elim
  next => exact h.elim
theorem vg_ast_ws {σ : vgS} {ad : vgN → Nat} {tys : List (ClassId × FieldType)} {A : Nat → Prop} {m0 : vgN} {q0 t0 len k : Nat} {x : Int32} (hD : va_D A (vg_ws shp nm ad tys σ)) (hq0 : nm[q0]? = some m0) (hq : shp m0 = .inr (.inl (t0, len))) : (vg_ws shp nm ad tys σ).set q0 (ad m0, .inl (vg_ty tys t0, len, .inl (upd (σ m0) k x))) = vg_ws shp nm ad tys (vg_st σ m0 k x) := by
  refine vg_ws_set hD hq0 ?_ (fun n' hn' => ?_)
  · rw [hq]
    show _ = Sum.inl (vg_ty tys t0, len, Sum.inl (vg_st σ m0 k x m0))
    congr 4
    funext j
    unfold vg_st upd
    simp
  · funext j
    unfold vg_st
    simp [hn']
theorem vs_iastore {t0 : Nat} (hd : decode cc pc = .ok (.iastore, 1)) (ht : tyl[t0]? = some .int) (hn : pc + 1 = n) : vg_Snd tb nw shp nm cl tyl cc nL own ret d pc (vi_ast shp t0 n) := by
  subst hn
  refine ⟨vs_m1 fun K K' h lv st σ g => ?_, ?_⟩
  · split at g
    · split at g
      next q _ =>
        cases hb : Nat.beq q.1 t0 with
        | false => rw [hb] at g; exact g.elim
        | true =>
          rw [hb] at g
          exact ⟨g.1, h _ _ _ _ g.2⟩
      next => exact g
    · exact g
  intro p l e R s m args below meth c D tys ad A P C0 lv st σ h H locs ls hl ho hs hP hS
  unfold vi_ast at h
  split at h
  next x i m0 t =>
    split at h
    next q hq =>
      cases hb : Nat.beq q.1 t0 with
      | false => rw [hb] at h; exact h.elim
      | true =>
        rw [hb] at h
        have e : q.1 = t0 := Nat.eq_of_beq_eq_true hb
        obtain ⟨q0, hq0, hws⟩ := vg_ws_get (shp := shp) (ad := ad) (tys := tys) (σ := σ) (show m0 ∈ nm from vg_okh (vg_okt (vg_okt hs)))
        rw [hq] at hws
        have hDA := C0.2.2.2.2.2.2.2.2.2.2.2.1
        refine va_iast (D := D) (A := A) C0.1 C0.2.1 C0.2.2.2.2.2.1 hP (hDA σ) hS q0 t0 (by rw [← e]; exact hws) (vg_tys C0.2.2.2.2.2.2.1 ht) h.1 hd (fun H1 locs1 hP1 _ hS1 => ?_)
        rw [vg_ast_ws (hDA σ) hq0 (by rw [hq, ← e])] at hP1
        exact h.2 H1 locs1 ls hl ho (vg_okt (vg_okt (vg_okt hs))) hP1 hS1
    next => exact h.elim
  next => exact h.elim
theorem vs_zastore {t0 : Nat} (hd : decode cc pc = .ok (.bastore, 1)) (ht : tyl[t0]? = some .boolean) (hn : pc + 1 = n) : vg_Snd tb nw shp nm cl tyl cc nL own ret d pc (vi_astZ shp t0 n) := by
  subst hn
  refine ⟨vs_m1 fun K K' h lv st σ g => ?_, ?_⟩
  · split at g
    · split at g
      next q _ =>
        cases hb : Nat.beq q.1 t0 with
        | false => rw [hb] at g; exact g.elim
        | true =>
          rw [hb] at g
          exact ⟨g.1, h _ _ _ _ g.2⟩
      next => exact g
    · exact g
  intro p l e R s m args below meth c D tys ad A P C0 lv st σ h H locs ls hl ho hs hP hS
  unfold vi_astZ at h
  split at h
  next x i m0 t =>
    split at h
    next q hq =>
      cases hb : Nat.beq q.1 t0 with
      | false => rw [hb] at h; exact h.elim
      | true =>
        rw [hb] at h
        have e : q.1 = t0 := Nat.eq_of_beq_eq_true hb
        obtain ⟨q0, hq0, hws⟩ := vg_ws_get (shp := shp) (ad := ad) (tys := tys) (σ := σ) (show m0 ∈ nm from vg_okh (vg_okt (vg_okt hs)))
        rw [hq] at hws
        have hDA := C0.2.2.2.2.2.2.2.2.2.2.2.1
        refine va_zast (D := D) (A := A) C0.1 C0.2.1 C0.2.2.2.2.2.1 hP (hDA σ) hS q0 t0 (by rw [← e]; exact hws) (vg_tys C0.2.2.2.2.2.2.1 ht) h.1.1 hd (fun H1 locs1 hP1 _ hS1 => ?_)
        have hx : vp_nar .boolean x = x := by rcases h.1.2 with rfl | rfl <;> rfl
        rw [hx, vg_ast_ws (hDA σ) hq0 (by rw [hq, ← e])] at hP1
        exact h.2 H1 locs1 ls hl ho (vg_okt (vg_okt (vg_okt hs))) hP1 hS1
    next => exact h.elim
  next => exact h.elim
theorem vs_aaload {t0 : Nat} {C : String} (hd : decode cc pc = .ok (.aaload, 1)) (ht : tyl[t0]? = some (.object C)) (hn : pc + 1 = n) : vg_Snd tb nw shp nm cl tyl cc nL own ret d pc (vi_aald shp t0 n) := by
  subst hn
  refine ⟨vs_m1 fun K K' h lv st σ g => ?_, ?_⟩
  · split at g
    · split at g
      next q _ =>
        cases hb : Nat.beq q.1 t0 with
        | false => rw [hb] at g; exact g.elim
        | true =>
          rw [hb] at g
          exact ⟨g.1, h _ _ _ _ g.2⟩
      next => exact g
    · exact g
  intro p l e R s m args below meth c D tys ad A P C0 lv st σ h H locs ls hl ho hs hP hS
  unfold vi_aald at h
  split at h
  next i m0 t =>
    split at h
    next q hq =>
      cases hb : Nat.beq q.1 t0 with
      | false => rw [hb] at h; exact h.elim
      | true =>
        rw [hb] at h
        have e : q.1 = t0 := Nat.eq_of_beq_eq_true hb
        obtain ⟨q0, hq0, hws⟩ := vg_ws_get (shp := shp) (ad := ad) (tys := tys) (σ := σ) (show m0 ∈ nm from vg_okh (vg_okt hs))
        rw [hq] at hws
        have hcl := C0.2.2.2.2.2.2.2.2.2.2.2.2.1 m0 (vg_okh (vg_okt hs))
        rw [hq] at hcl
        have hm : q.2.2 i.toNatClampNeg ∈ nm := hcl _ (Nat.not_le.mp fun z => h.1 (Or.inr z))
        exact va_aldq (D := D) C0.1 C0.2.1 C0.2.2.2.2.2.1 hP q0 t0 (f := fun i => some (ad (q.2.2 i))) (by rw [← e]; exact hws) (vg_tys C0.2.2.2.2.2.2.1 ht) h.1 hd (h.2 H locs ls hl ho (vg_okc hm (vg_okt (vg_okt hs))) hP hS)
    next => exact h.elim
  next => exact h.elim
theorem vs_acopy {t0 ix : Nat} (hd : decode cc pc = .ok (.invokestatic ix, 3)) (ht : tyl[t0]? = some .int) (h1 : Cond.methodLink own ix arraycopyName ∈ tb) (h2 : Cond.native arraycopyName ∈ tb) (h3 : Cond.static arraycopyName ∈ tb) (h4 : Cond.initialized "java/lang/System" ∈ tb) (hdd : 1 ≤ d) (hn : pc + 3 = n) : vg_Snd tb nw shp nm cl tyl cc nL own ret d pc (vi_cpy shp t0 n) := by
  subst hn
  refine ⟨vs_m1 fun K K' h lv st σ g => ?_, ?_⟩
  · split at g
    · split at g
      next q r _ _ =>
        cases hb : Nat.beq q.1 t0 && Nat.beq r.1 t0 && Nat.ble (vg_wd _) 8 with
        | false => rw [hb] at g; exact g.elim
        | true =>
          rw [hb] at g
          exact ⟨g.1, h _ _ _ _ g.2⟩
      next => exact g
    · exact g
  intro p l e R s m args below meth c D tys ad A P C0 lv st σ h H locs ls hl ho hs hP hS
  have hts := C0.2.2.2.2.1
  unfold vi_cpy at h
  split at h
  next len dp dn sp mn t =>
    split at h
    next q r hq hr =>
      cases hb : Nat.beq q.1 t0 && Nat.beq r.1 t0 && Nat.ble (vg_wd t) 8 with
      | false => rw [hb] at h; exact h.elim
      | true =>
        rw [hb] at h
        simp only [Bool.and_eq_true] at hb
        have e : q.1 = t0 := Nat.eq_of_beq_eq_true hb.1.1
        have e' : r.1 = t0 := Nat.eq_of_beq_eq_true hb.1.2
        have hwd : vg_wd t ≤ 8 := Nat.le_of_ble_eq_true hb.2
        obtain ⟨⟨rfl, rfl, hlen, hl1, hl2⟩, hk⟩ := h
        obtain ⟨q0, hq0, hws⟩ := vg_ws_get (shp := shp) (ad := ad) (tys := tys) (σ := σ) (show mn ∈ nm from vg_okh (vg_okt (vg_okt (vg_okt (vg_okt hs)))))
        obtain ⟨q1, hq1, hws1⟩ := vg_ws_get (shp := shp) (ad := ad) (tys := tys) (σ := σ) (show dn ∈ nm from vg_okh (vg_okt (vg_okt hs)))
        rw [hq] at hws
        rw [hr] at hws1
        have hDA := C0.2.2.2.2.2.2.2.2.2.2.2.1
        have hR := C0.2.2.2.2.2.2.2.2.2.1
        have z0 : (0 : Int32).toNatClampNeg = 0 := by decide
        refine va_copyi (D := D) (A := A) C0.1 C0.2.1 (C0.2.2.1.trans hl.1.symm) C0.2.2.2.1 (hts _ h1) (hts _ h2) (hts _ h3) (hts _ h4) C0.2.2.2.2.2.1 hP (hDA σ) hS q0 q1 t0 t0 (by rw [← e]; exact hws) (by rw [← e']; exact hws1) (vg_tys C0.2.2.2.2.2.2.1 ht) (vg_tys C0.2.2.2.2.2.2.1 ht) rfl (by decide) (by decide) hlen (by rw [z0, Nat.zero_add]; exact hl1) (by rw [z0, Nat.zero_add]; exact hl2) (fun _ _ => rfl) (by rw [hR]; exact hdd) ?_ hd (fun H1 locs1 hP1 _ hS1 => ?_)
        · rw [vg_wd_sum, hR]
          have : nativeFrameWords "java/lang/System" "arraycopy" 5 + 11 ≤ 24 := by decide
          show vg_wd t + _ ≤ 32 * d
          omega
        · have e9 : (vg_ws shp nm ad tys σ).set q1 (ad dn, .inl (vg_ty tys t0, r.2, .inl (va_cpy (σ mn) (σ dn) (0 : Int32).toNatClampNeg (0 : Int32).toNatClampNeg len.toNatClampNeg))) = vg_ws shp nm ad tys (vg_cp σ mn dn len.toNatClampNeg) := by
            refine vg_ws_set (hDA σ) hq1 ?_ (fun n' hn' => ?_)
            · rw [hr]
              show _ = Sum.inl (vg_ty tys r.1, r.2, Sum.inl (vg_cp σ mn dn len.toNatClampNeg dn))
              rw [e', z0]
              congr 4
              funext j
              unfold va_cpy vg_cp
              simp
            · funext j
              unfold vg_cp
              simp [hn']
          rw [e9] at hP1
          exact hk H1 locs1 ls hl ho (vg_okt (vg_okt (vg_okt (vg_okt (vg_okt hs))))) hP1 hS1
    next => exact h.elim
  next => exact h.elim
end VS2
end
section
/-! calls by contract -/
section VC
variable {p : Program} {l : Launch} {e : Env} {R : Room} {s : State} {m : MethodId} {args : Array Value} {below : List Frame} {meth : Method} {c : Code} {H : Heap} {locs : List Loc} {Q : State → Prop}
variable {tb : List Cond} {nw : List (String × Nat × MethodName × String)} {shp : vgN → vgH} {nm : List vgN} {cl : List vw_C} {tyl : List FieldType} {cc : ByteArray} {nL : Nat} {own : String} {ret : Option FieldType} {d pc n : Nat}
theorem vg_callK {D : va_G} {tys : List (ClassId × FieldType)} {ad : vgN → Nat} {A A1 : Nat → Prop} {P : vgO} {a : Array Value} {ls : Array Slot} {st0 rest : List Value}
    (hr : va_Run p l e R s m args below meth c H locs 0 0 0 0 (F0 m pc ls st0) rest (vg_Q shp nm cl D tys ad A1 P a) A1) (hS : va_S A s.heap H locs) (hA : ∀ q, A1 q → A q)
    (kk : ∀ (r : Option vgV) (σ : vgS) (H1 : Heap) (locs1 : List Loc), P r σ → (∀ v, r = some v → vg_ok nm v) → va_P D cl (vg_ws shp nm ad tys σ) H1 → va_S A s.heap H1 locs1 → W p l e R s m args below meth c H1 locs1 0 0 Q (F0 m (pc + 3) ls ((r.map (vg_cv ad)).toList ++ rest))) : W p l e R s m args below meth c H locs 0 0 Q (F0 m pc ls st0) := by
  intro T hT X
  obtain ⟨v, st₀, t, T', L, h0, X', hL, e1, e2, ⟨⟨r, σ', hv, hp, hok, hP1⟩, hz, hk⟩, st⟩ := hr T hT X
  cases hv
  rw [h0] at hz hk
  obtain ⟨t2, a1, b1⟩ := kk r σ' T'.heap (locs ++ L) hp hok (by rw [e1]; exact hP1)
    ⟨Nat.le_trans hS.1 (by rw [e1]; exact hz), fun q h1 h2 => by rw [e1, hk q (Nat.lt_of_lt_of_le h1 hS.1) (fun z => h2 (hA q z))]; exact hS.2.1 q h1 h2, fun q hq => by
      rcases List.mem_append.mp hq with h | h
      · exact hS.2.2 q h
      · exact hA _ (hL q h)⟩ T' rfl X'
  exact ⟨t2, st t2 a1, b1⟩
theorem vg_pop_eq : ∀ (k : Nat) (acc st a t : vgT), vg_pop k acc st = some (a, t) → a.reverse ++ t = acc.reverse ++ st ∧ a.length = k + acc.length
  | 0, acc, st, a, t, h => by
    cases h
    exact ⟨rfl, (Nat.zero_add _).symm⟩
  | k + 1, acc, [], a, t, h => by cases h
  | k + 1, acc, v :: st, a, t, h => by
    obtain ⟨h1, h2⟩ := vg_pop_eq k (v :: acc) st a t h
    refine ⟨by rw [h1]; simp, by rw [h2]; simp; omega⟩
theorem vg_in_A {σ : vgS} {ad : vgN → Nat} {tys : List (ClassId × FieldType)} {A : Nat → Prop} {H0 H : Heap} (hD : va_D A (vg_ws shp nm ad tys σ)) (hA : ∀ q, H0.size ≤ q → A q) (hz : H0.size ≤ H.size) : ∀ q, vg_A nm ad H.size q → A q := by
  intro q h
  rcases h with ⟨n, hn, rfl⟩ | h
  · obtain ⟨k, _, hk⟩ := vg_ws_get (shp := shp) (ad := ad) (tys := tys) (σ := σ) hn
    exact hD.2 k _ hk
  · exact hA q (Nat.le_trans hz h)
theorem vg_k_mono {K K' : vgK} (h : ∀ pc lv st σ, K pc lv st σ → K' pc lv st σ) {n : Nat} {lv : vgL} {st : vgT} {r : Option vgV} {σ : vgS} (g : vg_k K n lv st r σ) : vg_k K' n lv st r σ := by
  cases r with
  | none => exact h _ _ _ _ g
  | some v => exact h _ _ _ _ g
abbrev vg_MetF (tb : List Cond) (nw : List (String × Nat × MethodName × String)) (shp : vgN → vgH) (nm : List vgN) (cl : List vw_C) (tyl : List FieldType) (y : MethodName) (cc : ByteArray) (nL : Nat) (ret : Option FieldType) (d : Nat) (sp : vgC) : Prop :=
  vg_Met tb nw shp nm cl tyl y cc nL ret d (fun av σ => (sp av σ).1) (fun av σ r σ' => r = (sp av σ).2.1 ∧ σ' = (sp av σ).2.2)
theorem vg_callB {y : MethodName} {bytes : ByteArray} {mL k ix d' : Nat} {rt : Option FieldType} (hts : ∀ w ∈ tb, w.before args s = true) (hG : tb.all goodWord = true) (hcw : Cond.code y bytes mL rt ∈ tb) (hini : Cond.initialized y.cls ∈ tb) (hl : Cond.methodLink own ix y ∈ tb)
    (hd : y.cls ≠ "java/lang/invoke/MethodHandle" ∧ y.cls ≠ "java/lang/invoke/VarHandle" ∧ (parseMethodDescriptor y.desc).map (fun d => d.parameters.length) = some k) (hR : d' + 1 ≤ d ∧ mL ≤ 13) : CallB (vg_rm d) s args own ix y bytes mL rt (.code y bytes mL rt :: tb) (vg_rm d') 0 0 k := by
  have hg : ∀ w ∈ tb, goodWord w = true := fun w h => List.all_eq_true.mp hG w h
  refine callB_of k hts (fun w hw => ?_) rfl rfl rfl (hts _ hini) (hts _ hl) hd ⟨hR.1, ?_⟩
  · rcases List.mem_cons.mp hw with rfl | hw
    · exact ⟨hcw, good_of_word (hg _ hcw)⟩
    · exact ⟨hw, good_of_word (hg _ hw)⟩
  · show 8 + (mL + 11) + 32 * d' ≤ 32 * d
    omega
theorem vs_callV {ci k ix : Nat} {C : String} {T : u_T} {N : Nat} {y : MethodName} {bytes : ByteArray} {mL d' : Nat} {rt : Option FieldType} {sp : vgC} (hM : vg_MetF tb nw shp nm cl tyl y bytes mL rt d' sp) (hd : decode cc pc = .ok (.invokevirtual ix, 3)) (hc : cl[ci]? = some (C, T, N))
    (hG : tb.all goodWord = true) (hcw : Cond.code y bytes mL rt ∈ tb) (hini : Cond.initialized C ∈ tb) (hl : Cond.methodLink own ix y ∈ tb) (hi : Cond.instanceMethod y ∈ tb) (hse : Cond.selects C y y ∈ tb)
    (hy : y.cls = C ∧ y.cls ≠ "java/lang/invoke/MethodHandle" ∧ y.cls ≠ "java/lang/invoke/VarHandle" ∧ (parseMethodDescriptor y.desc).map (fun d => d.parameters.length) = some k) (hR : d' + 1 ≤ d ∧ mL ≤ 13) (hn : pc + 3 = n) : vg_Snd tb nw shp nm cl tyl cc nL own ret d pc (vi_callV shp ci sp k n) := by
  subst hn
  refine ⟨vs_m1 fun K K' h lv st σ g => ?_, ?_⟩
  · split at g
    · split at g
      next o _ =>
        cases hb : Nat.beq o.1 ci && Nat.ble (vg_wd _) 8 with
        | false => rw [hb] at g; exact g.elim
        | true =>
          rw [hb] at g
          have g2 : (sp _ σ).1 ∧ vg_k K (pc + 3) lv _ (sp _ σ).2.1 (sp _ σ).2.2 := g
          show (sp _ σ).1 ∧ vg_k K' (pc + 3) lv _ (sp _ σ).2.1 (sp _ σ).2.2
          exact ⟨g2.1, vg_k_mono h g2.2⟩
      next => exact g
    · exact g
  intro p l e R s m args below meth c D tys ad A P C0 lv st σ h H locs ls hl0 ho hs hP hS
  unfold vi_callV at h
  split at h
  next m0 as t hpop =>
    split at h
    next o ho0 =>
      cases hb : Nat.beq o.1 ci && Nat.ble (vg_wd t) 8 with
      | false => rw [hb] at h; exact h.elim
      | true =>
        rw [hb] at h
        simp only [Bool.and_eq_true] at hb
        have e : o.1 = ci := Nat.eq_of_beq_eq_true hb.1
        have hwd : vg_wd t ≤ 8 := Nat.le_of_ble_eq_true hb.2
        have h2 : (sp (.inr m0 :: as) σ).1 ∧ vg_k _ (pc + 3) lv t (sp (.inr m0 :: as) σ).2.1 (sp (.inr m0 :: as) σ).2.2 := h
        obtain ⟨hpre, hk⟩ := h2
        obtain ⟨hx, hcb, hml, hown, hts, hK, hty, hr, hlocks, hRR, hA, hDA, hclo, hnw⟩ := C0
        subst hRR
        obtain ⟨e1, e2⟩ := vg_pop_eq _ _ _ _ _ hpop
        have hst : st = (Sum.inr m0 :: as : vgT).reverse ++ t := by rw [e1]; rfl
        have hav : ∀ v ∈ (Sum.inr m0 :: as : vgT), vg_ok nm v := fun v hv => hs v (by rw [hst]; exact List.mem_append_left _ (List.mem_reverse.mpr hv))
        have ht : ∀ v ∈ t, vg_ok nm v := fun v hv => hs v (by rw [hst]; exact List.mem_append_right _ hv)
        have hlen : as.length = k := by simp at e2; omega
        have hm0 : m0 ∈ nm := hav _ List.mem_cons_self
        obtain ⟨q0, hq0, hws⟩ := vg_ws_get (shp := shp) (ad := ad) (tys := tys) (σ := σ) hm0
        rw [ho0] at hws
        have hws2 : (vg_ws shp nm ad tys σ)[q0]? = some (ad m0, .inr (ci, vg_fs ad (σ m0) 0 o.2)) := by rw [hws]; show some (ad m0, Sum.inr (o.1, _)) = _; rw [e]
        have hstk : st.map (vg_cv ad) = (as.map (vg_cv ad)).reverse ++ .ref (ad m0) :: t.map (vg_cv ad) := by rw [hst]; simp [vg_cv]
        have cw : CallW (vg_rm d) s args own C ix y bytes mL rt (.code y bytes mL rt :: tb) (vg_rm d') 0 0 k := ⟨vg_callB hts hG hcw (by rw [hy.1]; exact hini) hl hy.2 hR, hts _ hi, hts _ hse⟩
        refine vg_callK (va_runV (As := as.map (vg_cv ad)) (b := ad m0) (rest := t.map (vg_cv ad)) ⟨hx, hcb, hml, hown, hts⟩ (hM l D tys ad H.size (.inr m0 :: as) σ hty hav hpre) cw ⟨fun a U g mk q => ?_, va_recv hK hP (ci := ci) (q0 := q0) hc hws2, fun U hU hW => ⟨?_, ?_, ?_, ?_, ?_, fun z hz => va_Nw.warmM hW (hnw z hz)⟩⟩ rfl (by rw [List.length_map]; exact hlen) hl0.1 hstk (lv_room (by rw [vg_wd_sum]; exact hwd)) hd ⟨Nat.le_refl _, Nat.le_refl _⟩) hS (vg_in_A (hDA σ) hA hS.1) (fun r σ1 H1 locs1 hp hok hP1 hS1 => ?_)
        · obtain ⟨q0, q1, qP, qK, qD, qN⟩ := q
          exact ⟨q0, q1, qP, va_K.moved (u := U) (U := U.calling g mk a) (Vm.Alike.refl U.vm) qK, qD, fun z hz => va_Nw.same (u := U) (U := U.calling g mk a) rfl rfl (qN z hz)⟩
        · rfl
        · rw [hU]
        · rw [hU]; exact hP
        · exact va_K.moved hW.alike hK
        · exact (hDA σ).weaken (fun _ _ _ _ => trivial)
        · obtain ⟨rfl, rfl⟩ := hp
          unfold vg_k at hk
          cases hre : (sp (.inr m0 :: as) σ).2.1 with
          | none => rw [hre] at hk; exact hk H1 locs1 ls hl0 ho ht hP1 hS1
          | some v => rw [hre] at hk; exact hk H1 locs1 ls hl0 ho (vg_okc (hok v hre) ht) hP1 hS1
    next => exact h.elim
  next => exact h.elim
/-- a static method of the class itself -/
theorem vs_callS {k ix : Nat} {y : MethodName} {bytes : ByteArray} {mL d' : Nat} {rt : Option FieldType} {sp : vgC} (hM : vg_MetF tb nw shp nm cl tyl y bytes mL rt d' sp) (hd : decode cc pc = .ok (.invokestatic ix, 3))
    (hG : tb.all goodWord = true) (hcw : Cond.code y bytes mL rt ∈ tb) (hini : Cond.initialized y.cls ∈ tb) (hl : Cond.methodLink own ix y ∈ tb) (hi : Cond.static y ∈ tb)
    (hy : y.cls ≠ "java/lang/invoke/MethodHandle" ∧ y.cls ≠ "java/lang/invoke/VarHandle" ∧ (parseMethodDescriptor y.desc).map (fun d => d.parameters.length) = some k) (hR : d' + 1 ≤ d ∧ mL ≤ 13) (hn : pc + 3 = n) : vg_Snd tb nw shp nm cl tyl cc nL own ret d pc (vi_callS sp k n) := by
  subst hn
  refine ⟨vs_m1 fun K K' h lv st σ g => ?_, ?_⟩
  · split at g
    next q _ =>
      cases hb : Nat.ble (vg_wd q.2) 8 with
      | false => rw [hb] at g; exact g.elim
      | true =>
        rw [hb] at g
        have g2 : (sp q.1 σ).1 ∧ vg_k K (pc + 3) lv q.2 (sp q.1 σ).2.1 (sp q.1 σ).2.2 := g
        show (sp q.1 σ).1 ∧ vg_k K' (pc + 3) lv q.2 (sp q.1 σ).2.1 (sp q.1 σ).2.2
        exact ⟨g2.1, vg_k_mono h g2.2⟩
    next => exact g
  intro p l e R s m args below meth c D tys ad A P C0 lv st σ h H locs ls hl0 ho hs hP hS
  unfold vi_callS at h
  split at h
  next q hpop =>
    cases hb : Nat.ble (vg_wd q.2) 8 with
    | false => rw [hb] at h; exact h.elim
    | true =>
      rw [hb] at h
      obtain ⟨as, t⟩ := q
      have hwd : vg_wd t ≤ 8 := Nat.le_of_ble_eq_true hb
      have h2 : (sp as σ).1 ∧ vg_k _ (pc + 3) lv t (sp as σ).2.1 (sp as σ).2.2 := h
      obtain ⟨hpre, hk⟩ := h2
      obtain ⟨hx, hcb, hml, hown, hts, hK, hty, hr, hlocks, hRR, hA, hDA, hclo, hnw⟩ := C0
      subst hRR
      obtain ⟨e1, e2⟩ := vg_pop_eq _ _ _ _ _ hpop
      have hst : st = as.reverse ++ t := by rw [e1]; rfl
      have hav : ∀ v ∈ as, vg_ok nm v := fun v hv => hs v (by rw [hst]; exact List.mem_append_left _ (List.mem_reverse.mpr hv))
      have ht : ∀ v ∈ t, vg_ok nm v := fun v hv => hs v (by rw [hst]; exact List.mem_append_right _ hv)
      have hlen : as.length = k := by simp at e2; omega
      have hstk : st.map (vg_cv ad) = (as.map (vg_cv ad)).reverse ++ t.map (vg_cv ad) := by rw [hst]; simp
      refine vg_callK (va_runS (As := as.map (vg_cv ad)) (rest := t.map (vg_cv ad)) ⟨hx, hcb, hml, hown, hts⟩ (hM l D tys ad H.size as σ hty hav hpre) ⟨vg_callB hts hG hcw hini hl hy hR, hts _ hi⟩ ⟨fun a U g mk q => ?_, fun U hU hW => ⟨rfl, ?_, ?_, ?_, ?_, fun z hz => va_Nw.warmM hW (hnw z hz)⟩⟩ rfl (by rw [List.length_map]; exact hlen) hl0.1 hstk (lv_room (by rw [vg_wd_sum]; exact hwd)) hd ⟨Nat.le_refl _, Nat.le_refl _⟩) hS (vg_in_A (hDA σ) hA hS.1) (fun r σ1 H1 locs1 hp hok hP1 hS1 => ?_)
      · obtain ⟨q0, q1, qP, qK, qD, qN⟩ := q
        exact ⟨q0, q1, qP, va_K.moved (u := U) (U := U.calling g mk a) (Vm.Alike.refl U.vm) qK, qD, fun z hz => va_Nw.same (u := U) (U := U.calling g mk a) rfl rfl (qN z hz)⟩
      · rw [hU]
      · rw [hU]; exact hP
      · exact va_K.moved hW.alike hK
      · exact (hDA σ).weaken (fun _ _ _ _ => trivial)
      · obtain ⟨rfl, rfl⟩ := hp
        unfold vg_k at hk
        cases hre : (sp as σ).2.1 with
        | none => rw [hre] at hk; exact hk H1 locs1 ls hl0 ho ht hP1 hS1
        | some v => rw [hre] at hk; exact hk H1 locs1 ls hl0 ho (vg_okc (hok v hre) ht) hP1 hS1
  next => exact h.elim
/-- a private static method of a nest mate -/
theorem vs_callSN {k ix : Nat} {host : String} {y : MethodName} {bytes : ByteArray} {mL d' : Nat} {rt : Option FieldType} {sp : vgC} (hM : vg_MetF tb nw shp nm cl tyl y bytes mL rt d' sp) (hd : decode cc pc = .ok (.invokestatic ix, 3))
    (hG : tb.all goodWord = true) (hcw : Cond.code y bytes mL rt ∈ tb) (hini : Cond.initialized y.cls ∈ tb) (hl : (own, ix, y, host) ∈ nw) (hi : Cond.static y ∈ tb)
    (hy : y.cls ≠ "java/lang/invoke/MethodHandle" ∧ y.cls ≠ "java/lang/invoke/VarHandle" ∧ (parseMethodDescriptor y.desc).map (fun d => d.parameters.length) = some k) (hR : d' + 1 ≤ d ∧ mL ≤ 13) (hn : pc + 3 = n) : vg_Snd tb nw shp nm cl tyl cc nL own ret d pc (vi_callS sp k n) := by
  subst hn
  refine ⟨vs_m1 fun K K' h lv st σ g => ?_, ?_⟩
  · split at g
    next q _ =>
      cases hb : Nat.ble (vg_wd q.2) 8 with
      | false => rw [hb] at g; exact g.elim
      | true =>
        rw [hb] at g
        have g2 : (sp q.1 σ).1 ∧ vg_k K (pc + 3) lv q.2 (sp q.1 σ).2.1 (sp q.1 σ).2.2 := g
        show (sp q.1 σ).1 ∧ vg_k K' (pc + 3) lv q.2 (sp q.1 σ).2.1 (sp q.1 σ).2.2
        exact ⟨g2.1, vg_k_mono h g2.2⟩
    next => exact g
  intro p l e R s m args below meth c D tys ad A P C0 lv st σ h H locs ls hl0 ho hs hP hS
  unfold vi_callS at h
  split at h
  next q hpop =>
    cases hb : Nat.ble (vg_wd q.2) 8 with
    | false => rw [hb] at h; exact h.elim
    | true =>
      rw [hb] at h
      obtain ⟨as, t⟩ := q
      have hwd : vg_wd t ≤ 8 := Nat.le_of_ble_eq_true hb
      have h2 : (sp as σ).1 ∧ vg_k _ (pc + 3) lv t (sp as σ).2.1 (sp as σ).2.2 := h
      obtain ⟨hpre, hk⟩ := h2
      obtain ⟨hx, hcb, hml, hown, hts, hK, hty, hr, hlocks, hRR, hA, hDA, hclo, hnw⟩ := C0
      subst hRR
      have hg : ∀ w ∈ tb, goodWord w = true := fun w h => List.all_eq_true.mp hG w h
      obtain ⟨e1, e2⟩ := vg_pop_eq _ _ _ _ _ hpop
      have hst : st = as.reverse ++ t := by rw [e1]; rfl
      have hav : ∀ v ∈ as, vg_ok nm v := fun v hv => hs v (by rw [hst]; exact List.mem_append_left _ (List.mem_reverse.mpr hv))
      have ht : ∀ v ∈ t, vg_ok nm v := fun v hv => hs v (by rw [hst]; exact List.mem_append_right _ hv)
      have hlen : as.length = k := by simp at e2; omega
      have hstk : st.map (vg_cv ad) = (as.map (vg_cv ad)).reverse ++ t.map (vg_cv ad) := by rw [hst]; simp
      have cw : va_CN (vg_rm d) s args own ix y host bytes mL rt (.code y bytes mL rt :: tb) (vg_rm d') 0 0 k := by
        refine va_cnB k hts (fun w hw => ?_) rfl rfl rfl (hnw _ hl) (hts _ hini) hy ⟨hR.1, ?_⟩
        · rcases List.mem_cons.mp hw with rfl | hw
          · exact ⟨hcw, good_of_word (hg _ hcw)⟩
          · exact ⟨hw, good_of_word (hg _ hw)⟩
        · show 8 + (mL + 11) + 32 * d' ≤ 32 * d
          omega
      refine vg_callK (va_runSN (As := as.map (vg_cv ad)) (rest := t.map (vg_cv ad)) ⟨hx, hcb, hml, hown, hts⟩ (hM l D tys ad H.size as σ hty hav hpre) ⟨cw, hts _ hi, trivial⟩ ⟨fun a U g mk q => ?_, fun U hU hW => ⟨rfl, ?_, ?_, ?_, ?_, fun z hz => va_Nw.warmM hW (hnw z hz)⟩⟩ rfl (by rw [List.length_map]; exact hlen) hl0.1 hstk (lv_room (by rw [vg_wd_sum]; exact hwd)) hd ⟨Nat.le_refl _, Nat.le_refl _⟩) hS (vg_in_A (hDA σ) hA hS.1) (fun r σ1 H1 locs1 hp hok hP1 hS1 => ?_)
      · obtain ⟨q0, q1, qP, qK, qD, qN⟩ := q
        exact ⟨q0, q1, qP, va_K.moved (u := U) (U := U.calling g mk a) (Vm.Alike.refl U.vm) qK, qD, fun z hz => va_Nw.same (u := U) (U := U.calling g mk a) rfl rfl (qN z hz)⟩
      · rw [hU]
      · rw [hU]; exact hP
      · exact va_K.moved hW.alike hK
      · exact (hDA σ).weaken (fun _ _ _ _ => trivial)
      · obtain ⟨rfl, rfl⟩ := hp
        unfold vg_k at hk
        cases hre : (sp as σ).2.1 with
        | none => rw [hre] at hk; exact hk H1 locs1 ls hl0 ho ht hP1 hS1
        | some v => rw [hre] at hk; exact hk H1 locs1 ls hl0 ho (vg_okc (hok v hre) ht) hP1 hS1
  next => exact h.elim
theorem vs_max {ix : Nat} (hd : decode cc pc = .ok (.invokestatic ix, 3)) (h1 : Cond.methodLink own ix Lib.Math.max.name ∈ tb) (h2 : Cond.static Lib.Math.max.name ∈ tb) (h3 : Cond.initialized "java/lang/Math" ∈ tb) (h4 : Cond.code Lib.Math.max.name Lib.Math.max.code 2 (some .int) ∈ tb) (hdd : 1 ≤ d) (hn : pc + 3 = n) : vg_Snd tb nw shp nm cl tyl cc nL own ret d pc (vi_max n) := by
  subst hn
  refine ⟨vs_m1 fun K K' h lv st σ g => ?_, ?_⟩
  · split at g
    next =>
      cases hb : Nat.ble (vg_wd _) 8 with
      | false => rw [hb] at g; exact g.elim
      | true => rw [hb] at g; exact h _ _ _ _ g
    next => exact g
  intro p l e R s m args below meth c D tys ad A P C0 lv st σ h H locs ls hl ho hs hP hS
  have hts := C0.2.2.2.2.1
  unfold vi_max at h
  split at h
  next y x t =>
    cases hb : Nat.ble (vg_wd t) 8 with
    | false => rw [hb] at h; exact h.elim
    | true =>
      rw [hb] at h
      have hwd : vg_wd t ≤ 8 := Nat.le_of_ble_eq_true hb
      have hR := C0.2.2.2.2.2.2.2.2.2.1
      exact va_mmax C0.1 C0.2.1 (C0.2.2.1.trans hl.1.symm) C0.2.2.2.1 (hts _ h1) (hts _ h2) (hts _ h3) (hts _ h4) (by rw [hR]; exact hdd) (by rw [vg_wd_sum, hR]; show vg_wd t + 13 ≤ 32 * d; omega) (Nat.zero_le _) (Nat.zero_le _) hd (h H locs ls hl ho (vg_okc trivial (vg_okt (vg_okt hs))) hP hS)
  next => exact h.elim
theorem vs_min {ix : Nat} (hd : decode cc pc = .ok (.invokestatic ix, 3)) (h1 : Cond.methodLink own ix Lib.Math.min.name ∈ tb) (h2 : Cond.static Lib.Math.min.name ∈ tb) (h3 : Cond.initialized "java/lang/Math" ∈ tb) (h4 : Cond.code Lib.Math.min.name Lib.Math.min.code 2 (some .int) ∈ tb) (hdd : 1 ≤ d) (hn : pc + 3 = n) : vg_Snd tb nw shp nm cl tyl cc nL own ret d pc (vi_min n) := by
  subst hn
  refine ⟨vs_m1 fun K K' h lv st σ g => ?_, ?_⟩
  · split at g
    next =>
      cases hb : Nat.ble (vg_wd _) 8 with
      | false => rw [hb] at g; exact g.elim
      | true => rw [hb] at g; exact h _ _ _ _ g
    next => exact g
  intro p l e R s m args below meth c D tys ad A P C0 lv st σ h H locs ls hl ho hs hP hS
  have hts := C0.2.2.2.2.1
  unfold vi_min at h
  split at h
  next y x t =>
    cases hb : Nat.ble (vg_wd t) 8 with
    | false => rw [hb] at h; exact h.elim
    | true =>
      rw [hb] at h
      have hwd : vg_wd t ≤ 8 := Nat.le_of_ble_eq_true hb
      have hR := C0.2.2.2.2.2.2.2.2.2.1
      exact va_mmin C0.1 C0.2.1 (C0.2.2.1.trans hl.1.symm) C0.2.2.2.1 (hts _ h1) (hts _ h2) (hts _ h3) (hts _ h4) (by rw [hR]; exact hdd) (by rw [vg_wd_sum, hR]; show vg_wd t + 13 ≤ 32 * d; omega) (Nat.zero_le _) (Nat.zero_le _) hd (h H locs ls hl ho (vg_okc trivial (vg_okt (vg_okt hs))) hP hS)
  next => exact h.elim
theorem vs_abs {ix : Nat} (hd : decode cc pc = .ok (.invokestatic ix, 3)) (h1 : Cond.methodLink own ix Lib.Math.abs.name ∈ tb) (h2 : Cond.static Lib.Math.abs.name ∈ tb) (h3 : Cond.initialized "java/lang/Math" ∈ tb) (h4 : Cond.code Lib.Math.abs.name Lib.Math.abs.code 1 (some .int) ∈ tb) (hdd : 1 ≤ d) (hn : pc + 3 = n) : vg_Snd tb nw shp nm cl tyl cc nL own ret d pc (vi_abs n) := by
  subst hn
  refine ⟨vs_m1 fun K K' h lv st σ g => ?_, ?_⟩
  · split at g
    next =>
      cases hb : Nat.ble (vg_wd _) 8 with
      | false => rw [hb] at g; exact g.elim
      | true => rw [hb] at g; exact h _ _ _ _ g
    next => exact g
  intro p l e R s m args below meth c D tys ad A P C0 lv st σ h H locs ls hl ho hs hP hS
  have hts := C0.2.2.2.2.1
  unfold vi_abs at h
  split at h
  next x t =>
    cases hb : Nat.ble (vg_wd t) 8 with
    | false => rw [hb] at h; exact h.elim
    | true =>
      rw [hb] at h
      have hwd : vg_wd t ≤ 8 := Nat.le_of_ble_eq_true hb
      have hR := C0.2.2.2.2.2.2.2.2.2.1
      exact va_mabs C0.1 C0.2.1 (C0.2.2.1.trans hl.1.symm) C0.2.2.2.1 (hts _ h1) (hts _ h2) (hts _ h3) (hts _ h4) (by rw [hR]; exact hdd) (by rw [vg_wd_sum, hR]; show vg_wd t + 13 ≤ 32 * d; omega) (Nat.zero_le _) (Nat.zero_le _) hd (h H locs ls hl ho (vg_okc trivial (vg_okt hs)) hP hS)
  next => exact h.elim
end VC
end
section
/-! the world of one WarnWave: its two lands (b = 0: the land, b = 1: the trial), and all that hangs on them -/
def ww_cl : List vw_C := [(RX5, TX5, 2), (RX1, TX1, 14), (RX2, TX2, 4), (RX3, TX3, 2), (RX4, TX4, 8), (RX0, TX0, 13)]
def ww_tyl : List FieldType := [.int, .boolean, .object "WarnWave$Group", .object "WarnWave$Shelter", .object "WarnWave$Warning"]
def ww_shl : List (Nat × (Nat → Nat → vgH)) := [
  (1, fun b _ => .inl (1, [none, none, none, none, none, none, none, some (2, b, 0), some (3, b, 0), some (4, b, 0), some (5, b, 0), some (5, b, 1), some (6, b, 0), some (12, b, 0)])),
  (9, fun b g => .inl (5, [none, none, none, none, none, none, none, none, some (14, b, g), some (15, b, g), some (16, b, g), some (17, b, g), some (18, b, g)])),
  (11, fun _ _ => .inl (4, [none, none, none, none, none, none, none, none])),
  (2, fun b _ => .inr (.inr (2, 8, fun g => (9, b, g)))),
  (4, fun b _ => .inr (.inr (4, 12, fun w => (11, b, w)))),
  (14, fun _ _ => .inr (.inl (0, 12))), (18, fun _ _ => .inr (.inl (0, 12))), (15, fun _ _ => .inr (.inl (0, 12))), (16, fun _ _ => .inr (.inl (0, 12))), (17, fun _ _ => .inr (.inl (0, 12))),
  (0, fun _ _ => .inl (0, [some (1, 0, 0), some (1, 1, 0)])),
  (3, fun b _ => .inr (.inr (3, 3, fun s => (10, b, s)))),
  (10, fun _ _ => .inl (3, [none, none])),
  (5, fun b j => .inl (2, [some (7, b, j), some (13, b, j), some (8, b, j), none])),
  (6, fun _ _ => .inr (.inl (0, 16))), (12, fun _ _ => .inr (.inl (0, 12))),
  (7, fun _ _ => .inr (.inl (0, 5))), (13, fun _ _ => .inr (.inl (0, 5))), (8, fun _ _ => .inr (.inl (1, 5)))]
def ww_shp : vgN → vgH := fun n => match vg_look ww_shl n.1 with
  | some f => f n.2.1 n.2.2
  | none => .inr (.inl (0, 0))
def ww_nm1 (b : Nat) : List vgN := [(1, b, 0), (2, b, 0), (3, b, 0), (4, b, 0), (5, b, 0), (5, b, 1), (6, b, 0), (12, b, 0), (7, b, 0), (7, b, 1), (13, b, 0), (13, b, 1), (8, b, 0), (8, b, 1)] ++ ((List.range 8).flatMap (fun g => [(9, b, g), (14, b, g), (15, b, g), (16, b, g), (17, b, g), (18, b, g)]) ++ ((List.range 3).map (fun s => (10, b, s)) ++ (List.range 12).map (fun w => (11, b, w))))
def ww_nm : List vgN := (0, 0, 0) :: (ww_nm1 0 ++ ww_nm1 1)
def vg_closedB (shp : vgN → vgH) (nm : List vgN) (n : vgN) : Bool := match shp n with
  | .inl q => q.2.all (fun o => match o with | none => true | some m => nm.elem m)
  | .inr (.inl _) => true
  | .inr (.inr q) => (List.range q.2.1).all (fun i => nm.elem (q.2.2 i))
theorem vg_closed_of {shp : vgN → vgH} {nm : List vgN} (h : nm.all (vg_closedB shp nm) = true) : vg_closed shp nm := by
  intro n hn
  have h1 := List.all_eq_true.mp h n hn
  unfold vg_closedB at h1
  split at h1
  next q hq =>
    rw [hq]
    intro m hm
    have h2 := List.all_eq_true.mp h1 _ hm
    exact List.elem_iff.mp h2
  next q hq => rw [hq]; trivial
  next q hq =>
    rw [hq]
    intro i hi
    have h2 := List.all_eq_true.mp h1 i (List.mem_range.mpr hi)
    exact List.elem_iff.mp h2
theorem ww_closed : vg_closed ww_shp ww_nm := vg_closed_of (by decide +kernel)
def ww_tb : List Cond := lw_tbl.filter goodWord
theorem ww_good : ww_tb.all goodWord = true := List.all_eq_true.mpr (fun w h => (List.mem_filter.mp h).2)
theorem ww_in (ws : List Cond) (h : ws.all (fun w => decide (w ∈ ww_tb)) = true) : ∀ w ∈ ws, w ∈ ww_tb := fun w hw => of_decide_eq_true (List.all_eq_true.mp h w hw)
theorem ww_inX0 : ∀ w ∈ u_ws RX0 TX0 13, w ∈ ww_tb := ww_in _ (by decide +kernel)
theorem ww_inX1 : ∀ w ∈ u_ws RX1 TX1 14, w ∈ ww_tb := ww_in _ (by decide +kernel)
theorem ww_inX2 : ∀ w ∈ u_ws RX2 TX2 4, w ∈ ww_tb := ww_in _ (by decide +kernel)
theorem ww_inX3 : ∀ w ∈ u_ws RX3 TX3 2, w ∈ ww_tb := ww_in _ (by decide +kernel)
theorem ww_inX4 : ∀ w ∈ u_ws RX4 TX4 8, w ∈ ww_tb := ww_in _ (by decide +kernel)
theorem ww_inX5 : ∀ w ∈ u_ws RX5 TX5 2, w ∈ ww_tb := ww_in _ (by decide +kernel)
/-- the links to private members of nest mates -/
def ww_nw : List (String × Nat × MethodName × String) := [(RX0, 65, yX5_isIn, "WarnWave"), (RX1, 130, yX5_isIn, "WarnWave"), (RX1, 239, yX5_distance, "WarnWave"), (RX1, 257, yX5_stepTowards, "WarnWave"), (RX2, 26, yX5_distance, "WarnWave")]
end
section
-- words of the tables, and what stands at each place of the methods' code (laid by program)
theorem q_0 : Cond.methodLink RX5 344 Lib.Math.abs.name ∈ ww_tb := by decide +kernel
theorem q_1 : Cond.static Lib.Math.abs.name ∈ ww_tb := by decide +kernel
theorem q_2 : Cond.initialized "java/lang/Math" ∈ ww_tb := by decide +kernel
theorem q_3 : Cond.code Lib.Math.abs.name Lib.Math.abs.code 1 (some .int) ∈ ww_tb := by decide +kernel
theorem dX5_isIn_0 : decode cX5_isIn 0 = .ok (.iload_n 0, 1) := by decide +kernel
theorem dX5_isIn_1 : decode cX5_isIn 1 = .ok (.iload_n 1, 1) := by decide +kernel
theorem dX5_isIn_2 : decode cX5_isIn 2 = .ok (.ishr, 1) := by decide +kernel
theorem dX5_isIn_3 : decode cX5_isIn 3 = .ok (.iconst 1, 1) := by decide +kernel
theorem dX5_isIn_4 : decode cX5_isIn 4 = .ok (.iand, 1) := by decide +kernel
theorem dX5_isIn_5 : decode cX5_isIn 5 = .ok (.iconst 1, 1) := by decide +kernel
theorem dX5_isIn_6 : decode cX5_isIn 6 = .ok (.if_icmp .ne 7, 3) := by decide +kernel
theorem dX5_isIn_9 : decode cX5_isIn 9 = .ok (.iconst 1, 1) := by decide +kernel
theorem dX5_isIn_10 : decode cX5_isIn 10 = .ok (.goto 4, 3) := by decide +kernel
theorem dX5_isIn_13 : decode cX5_isIn 13 = .ok (.iconst 0, 1) := by decide +kernel
theorem dX5_isIn_14 : decode cX5_isIn 14 = .ok (.ireturn, 1) := by decide +kernel
theorem dX5_distance_0 : decode cX5_distance 0 = .ok (.iload_n 0, 1) := by decide +kernel
theorem dX5_distance_1 : decode cX5_distance 1 = .ok (.iconst 4, 1) := by decide +kernel
theorem dX5_distance_2 : decode cX5_distance 2 = .ok (.idiv, 1) := by decide +kernel
theorem dX5_distance_3 : decode cX5_distance 3 = .ok (.iload_n 1, 1) := by decide +kernel
theorem dX5_distance_4 : decode cX5_distance 4 = .ok (.iconst 4, 1) := by decide +kernel
theorem dX5_distance_5 : decode cX5_distance 5 = .ok (.idiv, 1) := by decide +kernel
theorem dX5_distance_6 : decode cX5_distance 6 = .ok (.isub, 1) := by decide +kernel
theorem dX5_distance_7 : decode cX5_distance 7 = .ok (.invokestatic 344, 3) := by decide +kernel
theorem dX5_distance_10 : decode cX5_distance 10 = .ok (.iload_n 0, 1) := by decide +kernel
theorem dX5_distance_11 : decode cX5_distance 11 = .ok (.iconst 4, 1) := by decide +kernel
theorem dX5_distance_12 : decode cX5_distance 12 = .ok (.irem, 1) := by decide +kernel
theorem dX5_distance_13 : decode cX5_distance 13 = .ok (.iload_n 1, 1) := by decide +kernel
theorem dX5_distance_14 : decode cX5_distance 14 = .ok (.iconst 4, 1) := by decide +kernel
theorem dX5_distance_15 : decode cX5_distance 15 = .ok (.irem, 1) := by decide +kernel
theorem dX5_distance_16 : decode cX5_distance 16 = .ok (.isub, 1) := by decide +kernel
theorem dX5_distance_17 : decode cX5_distance 17 = .ok (.invokestatic 344, 3) := by decide +kernel
theorem dX5_distance_20 : decode cX5_distance 20 = .ok (.iadd, 1) := by decide +kernel
theorem dX5_distance_21 : decode cX5_distance 21 = .ok (.ireturn, 1) := by decide +kernel
theorem dX5_stepTowards_0 : decode cX5_stepTowards 0 = .ok (.iload_n 0, 1) := by decide +kernel
theorem dX5_stepTowards_1 : decode cX5_stepTowards 1 = .ok (.iconst 4, 1) := by decide +kernel
theorem dX5_stepTowards_2 : decode cX5_stepTowards 2 = .ok (.idiv, 1) := by decide +kernel
theorem dX5_stepTowards_3 : decode cX5_stepTowards 3 = .ok (.iload_n 1, 1) := by decide +kernel
theorem dX5_stepTowards_4 : decode cX5_stepTowards 4 = .ok (.iconst 4, 1) := by decide +kernel
theorem dX5_stepTowards_5 : decode cX5_stepTowards 5 = .ok (.idiv, 1) := by decide +kernel
theorem dX5_stepTowards_6 : decode cX5_stepTowards 6 = .ok (.if_icmp .eq 18, 3) := by decide +kernel
theorem dX5_stepTowards_9 : decode cX5_stepTowards 9 = .ok (.iload_n 1, 1) := by decide +kernel
theorem dX5_stepTowards_10 : decode cX5_stepTowards 10 = .ok (.iload_n 0, 1) := by decide +kernel
theorem dX5_stepTowards_11 : decode cX5_stepTowards 11 = .ok (.if_icmp .le 9, 3) := by decide +kernel
theorem dX5_stepTowards_14 : decode cX5_stepTowards 14 = .ok (.iload_n 0, 1) := by decide +kernel
theorem dX5_stepTowards_15 : decode cX5_stepTowards 15 = .ok (.iconst 4, 1) := by decide +kernel
theorem dX5_stepTowards_16 : decode cX5_stepTowards 16 = .ok (.iadd, 1) := by decide +kernel
theorem dX5_stepTowards_17 : decode cX5_stepTowards 17 = .ok (.goto 6, 3) := by decide +kernel
theorem dX5_stepTowards_20 : decode cX5_stepTowards 20 = .ok (.iload_n 0, 1) := by decide +kernel
theorem dX5_stepTowards_21 : decode cX5_stepTowards 21 = .ok (.iconst 4, 1) := by decide +kernel
theorem dX5_stepTowards_22 : decode cX5_stepTowards 22 = .ok (.isub, 1) := by decide +kernel
theorem dX5_stepTowards_23 : decode cX5_stepTowards 23 = .ok (.ireturn, 1) := by decide +kernel
theorem dX5_stepTowards_24 : decode cX5_stepTowards 24 = .ok (.iload_n 0, 1) := by decide +kernel
theorem dX5_stepTowards_25 : decode cX5_stepTowards 25 = .ok (.iload_n 1, 1) := by decide +kernel
theorem dX5_stepTowards_26 : decode cX5_stepTowards 26 = .ok (.if_icmp .eq 18, 3) := by decide +kernel
theorem dX5_stepTowards_29 : decode cX5_stepTowards 29 = .ok (.iload_n 1, 1) := by decide +kernel
theorem dX5_stepTowards_30 : decode cX5_stepTowards 30 = .ok (.iload_n 0, 1) := by decide +kernel
theorem dX5_stepTowards_31 : decode cX5_stepTowards 31 = .ok (.if_icmp .le 9, 3) := by decide +kernel
theorem dX5_stepTowards_34 : decode cX5_stepTowards 34 = .ok (.iload_n 0, 1) := by decide +kernel
theorem dX5_stepTowards_35 : decode cX5_stepTowards 35 = .ok (.iconst 1, 1) := by decide +kernel
theorem dX5_stepTowards_36 : decode cX5_stepTowards 36 = .ok (.iadd, 1) := by decide +kernel
theorem dX5_stepTowards_37 : decode cX5_stepTowards 37 = .ok (.goto 6, 3) := by decide +kernel
theorem dX5_stepTowards_40 : decode cX5_stepTowards 40 = .ok (.iload_n 0, 1) := by decide +kernel
theorem dX5_stepTowards_41 : decode cX5_stepTowards 41 = .ok (.iconst 1, 1) := by decide +kernel
theorem dX5_stepTowards_42 : decode cX5_stepTowards 42 = .ok (.isub, 1) := by decide +kernel
theorem dX5_stepTowards_43 : decode cX5_stepTowards 43 = .ok (.ireturn, 1) := by decide +kernel
theorem dX5_stepTowards_44 : decode cX5_stepTowards 44 = .ok (.iload_n 0, 1) := by decide +kernel
theorem dX5_stepTowards_45 : decode cX5_stepTowards 45 = .ok (.ireturn, 1) := by decide +kernel
/-! the small static methods -/
theorem vg_cons {α : Type} {P : α → Prop} {a : α} {l : List α} (h : P a) (t : ∀ q ∈ l, P q) : ∀ q ∈ a :: l, P q := List.forall_mem_cons.mpr ⟨h, t⟩
/-- what a contract of a pure function is to show -/
abbrev vg_G (k : List (Nat × vgF)) (sp : vgC) : Prop := ∀ av σ, (sp av σ).1 → vg_Go k (fun r σ' => r = (sp av σ).2.1 ∧ σ' = (sp av σ).2.2) 0 (vg_args 0 av) [] σ
abbrev vg_Wd (sp : vgC) (n : Nat) : Prop := ∀ av σ, (sp av σ).1 → vg_wd av ≤ n
def jIn (s i : Int32) : Int32 := if (s >>> (i &&& 31)) &&& 1 = 1 then 1 else 0
theorem jIn_01 (s i : Int32) : jIn s i = 0 ∨ jIn s i = 1 := by
  unfold jIn
  split
  · exact Or.inr rfl
  · exact Or.inl rfl
def sp_X5_isIn : vgC := fun av σ => match av with
  | [.inl (.int s), .inl (.int i)] => (True, some (.inl (.int (jIn s i))), σ)
  | _ => (False, none, σ)
def k_X5_isIn : List (Nat × vgF) := [(0, vi_iload 0 1), (1, vi_iload 1 2), (2, vi_bin (fun x y => x >>> (y &&& 31)) 3), (3, vi_icst (1) 4), (4, vi_bin (fun x y => x &&& y) 5), (5, vi_icst (1) 6), (6, vi_cmp (fun x y => x = y) 9 13), (9, vi_icst (1) 10), (10, vi_goto 14), (13, vi_icst (0) 14), (14, vi_retZ)]
set_option maxRecDepth 20000 in
theorem s_X5_isIn : ∀ q ∈ k_X5_isIn, vg_Snd ww_tb ww_nw ww_shp ww_nm ww_cl ww_tyl cX5_isIn 2 RX5 (some .boolean) 0 q.1 q.2 := by
  refine vg_cons (vs_iload_n dX5_isIn_0 rfl rfl) ?_
  refine vg_cons (vs_iload_n dX5_isIn_1 rfl rfl) ?_
  refine vg_cons (vs_ishr dX5_isIn_2 rfl) ?_
  refine vg_cons (vs_iconst dX5_isIn_3 rfl rfl) ?_
  refine vg_cons (vs_iand dX5_isIn_4 rfl) ?_
  refine vg_cons (vs_iconst dX5_isIn_5 rfl rfl) ?_
  refine vg_cons (vs_cmp_ne dX5_isIn_6 (by decide) rfl) ?_
  refine vg_cons (vs_iconst dX5_isIn_9 rfl rfl) ?_
  refine vg_cons (vs_goto dX5_isIn_10 (by decide)) ?_
  refine vg_cons (vs_iconst dX5_isIn_13 rfl rfl) ?_
  refine vg_cons (vs_zreturn dX5_isIn_14 rfl) ?_
  exact fun _ h => absurd h List.not_mem_nil
theorem m_X5_isIn : vg_Code k_X5_isIn := fun q h => (s_X5_isIn q h).1

theorem w_X5_isIn : vg_Wd sp_X5_isIn 2 := by
  intro av σ h
  unfold sp_X5_isIn at h
  split at h
  · exact Nat.le_of_ble_eq_true rfl
  · exact h.elim
theorem g_X5_isIn : vg_G k_X5_isIn sp_X5_isIn := by
  intro av σ h
  unfold sp_X5_isIn at h ⊢
  split at h
  next s i =>
    refine vg_run (cuts := []) m_X5_isIn 20 ?_
    refine And.intro (fun hc => ?_) (fun hc => ?_)
    · refine And.intro (Or.inr rfl) (And.intro ?_ rfl)
      show some (Sum.inl (Value.int 1)) = some (Sum.inl (Value.int (jIn s i)))
      rw [jIn, if_pos hc]
    · refine And.intro (Or.inl rfl) (And.intro ?_ rfl)
      show some (Sum.inl (Value.int 0)) = some (Sum.inl (Value.int (jIn s i)))
      rw [jIn, if_neg hc]
  next => exact h.elim
theorem c_X5_isIn : vg_MetF ww_tb ww_nw ww_shp ww_nm ww_cl ww_tyl yX5_isIn cX5_isIn 2 (some .boolean) 0 sp_X5_isIn := vg_met ww_closed (by decide +kernel) rfl s_X5_isIn w_X5_isIn g_X5_isIn
def jAbs (x : Int32) : Int32 := if 0 ≤ x then x else 0 - x
def jDist (a b : Int32) : Int32 := jAbs (a / 4 - b / 4) + jAbs ((a - a / 4 * 4) - (b - b / 4 * 4))
def sp_X5_distance : vgC := fun av σ => match av with
  | [.inl (.int a), .inl (.int b)] => (True, some (.inl (.int (jDist a b))), σ)
  | _ => (False, none, σ)
def k_X5_distance : List (Nat × vgF) := [(0, vi_iload 0 1), (1, vi_icst (4) 2), (2, vi_div (fun x y => x / y) 3), (3, vi_iload 1 4), (4, vi_icst (4) 5), (5, vi_div (fun x y => x / y) 6), (6, vi_bin (fun x y => x - y) 7), (7, vi_abs 10), (10, vi_iload 0 11), (11, vi_icst (4) 12), (12, vi_div (fun x y => x - x / y * y) 13), (13, vi_iload 1 14), (14, vi_icst (4) 15), (15, vi_div (fun x y => x - x / y * y) 16), (16, vi_bin (fun x y => x - y) 17), (17, vi_abs 20), (20, vi_bin (fun x y => x + y) 21), (21, vi_ret)]
set_option maxRecDepth 20000 in
theorem s_X5_distance : ∀ q ∈ k_X5_distance, vg_Snd ww_tb ww_nw ww_shp ww_nm ww_cl ww_tyl cX5_distance 2 RX5 (some .int) 1 q.1 q.2 := by
  refine vg_cons (vs_iload_n dX5_distance_0 rfl rfl) ?_
  refine vg_cons (vs_iconst dX5_distance_1 rfl rfl) ?_
  refine vg_cons (vs_idiv dX5_distance_2 rfl) ?_
  refine vg_cons (vs_iload_n dX5_distance_3 rfl rfl) ?_
  refine vg_cons (vs_iconst dX5_distance_4 rfl rfl) ?_
  refine vg_cons (vs_idiv dX5_distance_5 rfl) ?_
  refine vg_cons (vs_isub dX5_distance_6 rfl) ?_
  refine vg_cons (vs_abs dX5_distance_7 q_0 q_1 q_2 q_3 (by decide) rfl) ?_
  refine vg_cons (vs_iload_n dX5_distance_10 rfl rfl) ?_
  refine vg_cons (vs_iconst dX5_distance_11 rfl rfl) ?_
  refine vg_cons (vs_irem dX5_distance_12 rfl) ?_
  refine vg_cons (vs_iload_n dX5_distance_13 rfl rfl) ?_
  refine vg_cons (vs_iconst dX5_distance_14 rfl rfl) ?_
  refine vg_cons (vs_irem dX5_distance_15 rfl) ?_
  refine vg_cons (vs_isub dX5_distance_16 rfl) ?_
  refine vg_cons (vs_abs dX5_distance_17 q_0 q_1 q_2 q_3 (by decide) rfl) ?_
  refine vg_cons (vs_iadd dX5_distance_20 rfl) ?_
  refine vg_cons (vs_ireturn dX5_distance_21 rfl) ?_
  exact fun _ h => absurd h List.not_mem_nil
theorem m_X5_distance : vg_Code k_X5_distance := fun q h => (s_X5_distance q h).1

theorem w_X5_distance : vg_Wd sp_X5_distance 2 := by
  intro av σ h
  unfold sp_X5_distance at h
  split at h
  · exact Nat.le_of_ble_eq_true rfl
  · exact h.elim
theorem g_X5_distance : vg_G k_X5_distance sp_X5_distance := by
  intro av σ h
  unfold sp_X5_distance at h ⊢
  split at h
  next s i =>
    refine vg_run (cuts := []) m_X5_distance 40 ?_
    exact And.intro (by decide) (And.intro (by decide) (And.intro (by decide) (And.intro (by decide) (And.intro rfl rfl))))
  next => exact h.elim
theorem c_X5_distance : vg_MetF ww_tb ww_nw ww_shp ww_nm ww_cl ww_tyl yX5_distance cX5_distance 2 (some .int) 1 sp_X5_distance := vg_met ww_closed (by decide +kernel) rfl s_X5_distance w_X5_distance g_X5_distance
def jStep (a b : Int32) : Int32 := if a / 4 = b / 4 then (if a = b then a else if b ≤ a then a - 1 else a + 1) else if b ≤ a then a - 4 else a + 4
def sp_X5_stepTowards : vgC := fun av σ => match av with
  | [.inl (.int a), .inl (.int b)] => (True, some (.inl (.int (jStep a b))), σ)
  | _ => (False, none, σ)
def k_X5_stepTowards : List (Nat × vgF) := [(0, vi_iload 0 1), (1, vi_icst (4) 2), (2, vi_div (fun x y => x / y) 3), (3, vi_iload 1 4), (4, vi_icst (4) 5), (5, vi_div (fun x y => x / y) 6), (6, vi_cmp (fun x y => x = y) 24 9), (9, vi_iload 1 10), (10, vi_iload 0 11), (11, vi_cmp (fun x y => x ≤ y) 20 14), (14, vi_iload 0 15), (15, vi_icst (4) 16), (16, vi_bin (fun x y => x + y) 17), (17, vi_goto 23), (20, vi_iload 0 21), (21, vi_icst (4) 22), (22, vi_bin (fun x y => x - y) 23), (23, vi_ret), (24, vi_iload 0 25), (25, vi_iload 1 26), (26, vi_cmp (fun x y => x = y) 44 29), (29, vi_iload 1 30), (30, vi_iload 0 31), (31, vi_cmp (fun x y => x ≤ y) 40 34), (34, vi_iload 0 35), (35, vi_icst (1) 36), (36, vi_bin (fun x y => x + y) 37), (37, vi_goto 43), (40, vi_iload 0 41), (41, vi_icst (1) 42), (42, vi_bin (fun x y => x - y) 43), (43, vi_ret), (44, vi_iload 0 45), (45, vi_ret)]
set_option maxRecDepth 20000 in
theorem s_X5_stepTowards : ∀ q ∈ k_X5_stepTowards, vg_Snd ww_tb ww_nw ww_shp ww_nm ww_cl ww_tyl cX5_stepTowards 2 RX5 (some .int) 0 q.1 q.2 := by
  refine vg_cons (vs_iload_n dX5_stepTowards_0 rfl rfl) ?_
  refine vg_cons (vs_iconst dX5_stepTowards_1 rfl rfl) ?_
  refine vg_cons (vs_idiv dX5_stepTowards_2 rfl) ?_
  refine vg_cons (vs_iload_n dX5_stepTowards_3 rfl rfl) ?_
  refine vg_cons (vs_iconst dX5_stepTowards_4 rfl rfl) ?_
  refine vg_cons (vs_idiv dX5_stepTowards_5 rfl) ?_
  refine vg_cons (vs_cmp_eq dX5_stepTowards_6 (by decide) rfl) ?_
  refine vg_cons (vs_iload_n dX5_stepTowards_9 rfl rfl) ?_
  refine vg_cons (vs_iload_n dX5_stepTowards_10 rfl rfl) ?_
  refine vg_cons (vs_cmp_le dX5_stepTowards_11 (by decide) rfl) ?_
  refine vg_cons (vs_iload_n dX5_stepTowards_14 rfl rfl) ?_
  refine vg_cons (vs_iconst dX5_stepTowards_15 rfl rfl) ?_
  refine vg_cons (vs_iadd dX5_stepTowards_16 rfl) ?_
  refine vg_cons (vs_goto dX5_stepTowards_17 (by decide)) ?_
  refine vg_cons (vs_iload_n dX5_stepTowards_20 rfl rfl) ?_
  refine vg_cons (vs_iconst dX5_stepTowards_21 rfl rfl) ?_
  refine vg_cons (vs_isub dX5_stepTowards_22 rfl) ?_
  refine vg_cons (vs_ireturn dX5_stepTowards_23 rfl) ?_
  refine vg_cons (vs_iload_n dX5_stepTowards_24 rfl rfl) ?_
  refine vg_cons (vs_iload_n dX5_stepTowards_25 rfl rfl) ?_
  refine vg_cons (vs_cmp_eq dX5_stepTowards_26 (by decide) rfl) ?_
  refine vg_cons (vs_iload_n dX5_stepTowards_29 rfl rfl) ?_
  refine vg_cons (vs_iload_n dX5_stepTowards_30 rfl rfl) ?_
  refine vg_cons (vs_cmp_le dX5_stepTowards_31 (by decide) rfl) ?_
  refine vg_cons (vs_iload_n dX5_stepTowards_34 rfl rfl) ?_
  refine vg_cons (vs_iconst dX5_stepTowards_35 rfl rfl) ?_
  refine vg_cons (vs_iadd dX5_stepTowards_36 rfl) ?_
  refine vg_cons (vs_goto dX5_stepTowards_37 (by decide)) ?_
  refine vg_cons (vs_iload_n dX5_stepTowards_40 rfl rfl) ?_
  refine vg_cons (vs_iconst dX5_stepTowards_41 rfl rfl) ?_
  refine vg_cons (vs_isub dX5_stepTowards_42 rfl) ?_
  refine vg_cons (vs_ireturn dX5_stepTowards_43 rfl) ?_
  refine vg_cons (vs_iload_n dX5_stepTowards_44 rfl rfl) ?_
  refine vg_cons (vs_ireturn dX5_stepTowards_45 rfl) ?_
  exact fun _ h => absurd h List.not_mem_nil
theorem m_X5_stepTowards : vg_Code k_X5_stepTowards := fun q h => (s_X5_stepTowards q h).1

theorem w_X5_stepTowards : vg_Wd sp_X5_stepTowards 2 := by
  intro av σ h
  unfold sp_X5_stepTowards at h
  split at h
  · exact Nat.le_of_ble_eq_true rfl
  · exact h.elim
theorem g_X5_stepTowards : vg_G k_X5_stepTowards sp_X5_stepTowards := by
  intro av σ h
  unfold sp_X5_stepTowards at h ⊢
  split at h
  next a b =>
    refine vg_run (cuts := []) m_X5_stepTowards 60 ?_
    refine And.intro (by decide) (And.intro (by decide) (And.intro (fun hc => ?_) (fun hc => ?_)))
    · refine And.intro (fun hd => ?_) (fun hd => ?_)
      · refine And.intro ?_ rfl
        show some (Sum.inl (Value.int a)) = some (Sum.inl (Value.int (jStep a b)))
        rw [jStep, if_pos hc, if_pos hd]
      · refine And.intro (fun he => ?_) (fun he => ?_)
        · refine And.intro ?_ rfl
          show some (Sum.inl (Value.int (a - 1))) = some (Sum.inl (Value.int (jStep a b)))
          rw [jStep, if_pos hc, if_neg hd, if_pos he]
        · refine And.intro ?_ rfl
          show some (Sum.inl (Value.int (a + 1))) = some (Sum.inl (Value.int (jStep a b)))
          rw [jStep, if_pos hc, if_neg hd, if_neg he]
    · refine And.intro (fun he => ?_) (fun he => ?_)
      · refine And.intro ?_ rfl
        show some (Sum.inl (Value.int (a - 4))) = some (Sum.inl (Value.int (jStep a b)))
        rw [jStep, if_neg hc, if_pos he]
      · refine And.intro ?_ rfl
        show some (Sum.inl (Value.int (a + 4))) = some (Sum.inl (Value.int (jStep a b)))
        rw [jStep, if_neg hc, if_neg he]
  next => exact h.elim
theorem c_X5_stepTowards : vg_MetF ww_tb ww_nw ww_shp ww_nm ww_cl ww_tyl yX5_stepTowards cX5_stepTowards 2 (some .int) 0 sp_X5_stepTowards := vg_met ww_closed (by decide +kernel) rfl s_X5_stepTowards w_X5_stepTowards g_X5_stepTowards
end
section
-- words of the tables, and what stands at each place of the methods' code (laid by program)
theorem q_4 : Cond.fieldLink RX0 50 (TX0 7).1 (TX0 7).2.1 (TX0 7).2.2.1 ∈ ww_tb := by decide +kernel
theorem q_5 : Cond.fieldLink RX0 15 (TX0 6).1 (TX0 6).2.1 (TX0 6).2.2.1 ∈ ww_tb := by decide +kernel
theorem q_6 : Cond.fieldLink RX0 9 (TX0 3).1 (TX0 3).2.1 (TX0 3).2.2.1 ∈ ww_tb := by decide +kernel
theorem q_7 : Cond.methodLink RX0 59 Lib.Math.max.name ∈ ww_tb := by decide +kernel
theorem q_8 : Cond.static Lib.Math.max.name ∈ ww_tb := by decide +kernel
theorem q_9 : Cond.code Lib.Math.max.name Lib.Math.max.code 2 (some .int) ∈ ww_tb := by decide +kernel
theorem q_10 : Cond.fieldLink RX1 56 (TX1 0).1 (TX1 0).2.1 (TX1 0).2.2.1 ∈ ww_tb := by decide +kernel
theorem q_11 : Cond.code yX1_hourNow cX1_hourNow 1 (some .int) ∈ ww_tb := by decide +kernel
theorem q_12 : Cond.initialized RX1 ∈ ww_tb := by decide +kernel
theorem q_13 : Cond.methodLink RX1 93 yX1_hourNow ∈ ww_tb := by decide +kernel
theorem q_14 : Cond.instanceMethod yX1_hourNow ∈ ww_tb := by decide +kernel
theorem q_15 : Cond.selects RX1 yX1_hourNow yX1_hourNow ∈ ww_tb := by decide +kernel
theorem q_16 : Cond.fieldLink RX1 68 (TX1 6).1 (TX1 6).2.1 (TX1 6).2.2.1 ∈ ww_tb := by decide +kernel
theorem q_17 : Cond.fieldLink RX1 32 (TX1 9).1 (TX1 9).2.1 (TX1 9).2.2.1 ∈ ww_tb := by decide +kernel
theorem q_18 : Cond.fieldLink RX1 112 (TX4 7).1 (TX4 7).2.1 (TX4 7).2.2.1 ∈ ww_tb := by decide +kernel
theorem q_19 : Cond.fieldLink RX1 116 (TX0 12).1 (TX0 12).2.1 (TX0 12).2.2.1 ∈ ww_tb := by decide +kernel
theorem q_20 : Cond.code yX0_isGone cX0_isGone 1 (some .boolean) ∈ ww_tb := by decide +kernel
theorem q_21 : Cond.initialized RX0 ∈ ww_tb := by decide +kernel
theorem q_22 : Cond.methodLink RX1 97 yX0_isGone ∈ ww_tb := by decide +kernel
theorem q_23 : Cond.instanceMethod yX0_isGone ∈ ww_tb := by decide +kernel
theorem q_24 : Cond.selects RX0 yX0_isGone yX0_isGone ∈ ww_tb := by decide +kernel
theorem q_25 : Cond.code yX1_isNight cX1_isNight 1 (some .boolean) ∈ ww_tb := by decide +kernel
theorem q_26 : Cond.methodLink RX1 101 yX1_isNight ∈ ww_tb := by decide +kernel
theorem q_27 : Cond.instanceMethod yX1_isNight ∈ ww_tb := by decide +kernel
theorem q_28 : Cond.selects RX1 yX1_isNight yX1_isNight ∈ ww_tb := by decide +kernel
theorem q_29 : Cond.code yX1_latestBelieved cX1_latestBelieved 3 (some .int) ∈ ww_tb := by decide +kernel
theorem q_30 : Cond.methodLink RX1 104 yX1_latestBelieved ∈ ww_tb := by decide +kernel
theorem q_31 : Cond.instanceMethod yX1_latestBelieved ∈ ww_tb := by decide +kernel
theorem q_32 : Cond.selects RX1 yX1_latestBelieved yX1_latestBelieved ∈ ww_tb := by decide +kernel
theorem q_33 : Cond.fieldLink RX1 46 (TX1 12).1 (TX1 12).2.1 (TX1 12).2.2.1 ∈ ww_tb := by decide +kernel
theorem q_34 : Cond.code yX1_isInDanger cX1_isInDanger 2 (some .boolean) ∈ ww_tb := by decide +kernel
theorem q_35 : Cond.methodLink RX1 108 yX1_isInDanger ∈ ww_tb := by decide +kernel
theorem q_36 : Cond.instanceMethod yX1_isInDanger ∈ ww_tb := by decide +kernel
theorem q_37 : Cond.selects RX1 yX1_isInDanger yX1_isInDanger ∈ ww_tb := by decide +kernel
theorem q_38 : Cond.fieldLink RX1 62 (TX1 4).1 (TX1 4).2.1 (TX1 4).2.2.1 ∈ ww_tb := by decide +kernel
theorem q_39 : Cond.fieldLink RX1 20 (TX1 7).1 (TX1 7).2.1 (TX1 7).2.2.1 ∈ ww_tb := by decide +kernel
theorem q_40 : Cond.code yX1_isAsleep cX1_isAsleep 2 (some .boolean) ∈ ww_tb := by decide +kernel
theorem q_41 : Cond.methodLink RX1 119 yX1_isAsleep ∈ ww_tb := by decide +kernel
theorem q_42 : Cond.instanceMethod yX1_isAsleep ∈ ww_tb := by decide +kernel
theorem q_43 : Cond.selects RX1 yX1_isAsleep yX1_isAsleep ∈ ww_tb := by decide +kernel
theorem q_44 : Cond.fieldLink RX1 123 (TX0 1).1 (TX0 1).2.1 (TX0 1).2.2.1 ∈ ww_tb := by decide +kernel
theorem q_45 : Cond.code yX0_isSafe cX0_isSafe 1 (some .boolean) ∈ ww_tb := by decide +kernel
theorem q_46 : Cond.methodLink RX1 126 yX0_isSafe ∈ ww_tb := by decide +kernel
theorem q_47 : Cond.instanceMethod yX0_isSafe ∈ ww_tb := by decide +kernel
theorem q_48 : Cond.selects RX0 yX0_isSafe yX0_isSafe ∈ ww_tb := by decide +kernel
theorem q_49 : Cond.fieldLink RX1 129 (TX0 0).1 (TX0 0).2.1 (TX0 0).2.2.1 ∈ ww_tb := by decide +kernel
theorem q_50 : Cond.code yX5_isIn cX5_isIn 2 (some .boolean) ∈ ww_tb := by decide +kernel
theorem q_51 : Cond.initialized RX5 ∈ ww_tb := by decide +kernel
theorem q_52 : Cond.static yX5_isIn ∈ ww_tb := by decide +kernel
theorem dX0_isGone_0 : decode cX0_isGone 0 = .ok (.aload_n 0, 1) := by decide +kernel
theorem dX0_isGone_1 : decode cX0_isGone 1 = .ok (.getfield 50, 3) := by decide +kernel
theorem dX0_isGone_4 : decode cX0_isGone 4 = .ok (.iconst 5, 1) := by decide +kernel
theorem dX0_isGone_5 : decode cX0_isGone 5 = .ok (.if_icmp .lt 7, 3) := by decide +kernel
theorem dX0_isGone_8 : decode cX0_isGone 8 = .ok (.iconst 1, 1) := by decide +kernel
theorem dX0_isGone_9 : decode cX0_isGone 9 = .ok (.goto 4, 3) := by decide +kernel
theorem dX0_isGone_12 : decode cX0_isGone 12 = .ok (.iconst 0, 1) := by decide +kernel
theorem dX0_isGone_13 : decode cX0_isGone 13 = .ok (.ireturn, 1) := by decide +kernel
theorem dX0_isSafe_0 : decode cX0_isSafe 0 = .ok (.aload_n 0, 1) := by decide +kernel
theorem dX0_isSafe_1 : decode cX0_isSafe 1 = .ok (.getfield 15, 3) := by decide +kernel
theorem dX0_isSafe_4 : decode cX0_isSafe 4 = .ok (.iconst (-1), 1) := by decide +kernel
theorem dX0_isSafe_5 : decode cX0_isSafe 5 = .ok (.if_icmp .eq 7, 3) := by decide +kernel
theorem dX0_isSafe_8 : decode cX0_isSafe 8 = .ok (.iconst 1, 1) := by decide +kernel
theorem dX0_isSafe_9 : decode cX0_isSafe 9 = .ok (.goto 4, 3) := by decide +kernel
theorem dX0_isSafe_12 : decode cX0_isSafe 12 = .ok (.iconst 0, 1) := by decide +kernel
theorem dX0_isSafe_13 : decode cX0_isSafe 13 = .ok (.ireturn, 1) := by decide +kernel
theorem dX0_waysNeeded_0 : decode cX0_waysNeeded 0 = .ok (.iconst 1, 1) := by decide +kernel
theorem dX0_waysNeeded_1 : decode cX0_waysNeeded 1 = .ok (.bipush 11, 2) := by decide +kernel
theorem dX0_waysNeeded_3 : decode cX0_waysNeeded 3 = .ok (.aload_n 0, 1) := by decide +kernel
theorem dX0_waysNeeded_4 : decode cX0_waysNeeded 4 = .ok (.getfield 9, 3) := by decide +kernel
theorem dX0_waysNeeded_7 : decode cX0_waysNeeded 7 = .ok (.isub, 1) := by decide +kernel
theorem dX0_waysNeeded_8 : decode cX0_waysNeeded 8 = .ok (.iconst 4, 1) := by decide +kernel
theorem dX0_waysNeeded_9 : decode cX0_waysNeeded 9 = .ok (.idiv, 1) := by decide +kernel
theorem dX0_waysNeeded_10 : decode cX0_waysNeeded 10 = .ok (.invokestatic 59, 3) := by decide +kernel
theorem dX0_waysNeeded_13 : decode cX0_waysNeeded 13 = .ok (.ireturn, 1) := by decide +kernel
theorem dX1_hourNow_0 : decode cX1_hourNow 0 = .ok (.aload_n 0, 1) := by decide +kernel
theorem dX1_hourNow_1 : decode cX1_hourNow 1 = .ok (.getfield 56, 3) := by decide +kernel
theorem dX1_hourNow_4 : decode cX1_hourNow 4 = .ok (.bipush 60, 2) := by decide +kernel
theorem dX1_hourNow_6 : decode cX1_hourNow 6 = .ok (.idiv, 1) := by decide +kernel
theorem dX1_hourNow_7 : decode cX1_hourNow 7 = .ok (.bipush 24, 2) := by decide +kernel
theorem dX1_hourNow_9 : decode cX1_hourNow 9 = .ok (.irem, 1) := by decide +kernel
theorem dX1_hourNow_10 : decode cX1_hourNow 10 = .ok (.ireturn, 1) := by decide +kernel
theorem dX1_isNight_0 : decode cX1_isNight 0 = .ok (.aload_n 0, 1) := by decide +kernel
theorem dX1_isNight_1 : decode cX1_isNight 1 = .ok (.invokevirtual 93, 3) := by decide +kernel
theorem dX1_isNight_4 : decode cX1_isNight 4 = .ok (.bipush 22, 2) := by decide +kernel
theorem dX1_isNight_6 : decode cX1_isNight 6 = .ok (.if_icmp .ge 12, 3) := by decide +kernel
theorem dX1_isNight_9 : decode cX1_isNight 9 = .ok (.aload_n 0, 1) := by decide +kernel
theorem dX1_isNight_10 : decode cX1_isNight 10 = .ok (.invokevirtual 93, 3) := by decide +kernel
theorem dX1_isNight_13 : decode cX1_isNight 13 = .ok (.bipush 6, 2) := by decide +kernel
theorem dX1_isNight_15 : decode cX1_isNight 15 = .ok (.if_icmp .ge 7, 3) := by decide +kernel
theorem dX1_isNight_18 : decode cX1_isNight 18 = .ok (.iconst 1, 1) := by decide +kernel
theorem dX1_isNight_19 : decode cX1_isNight 19 = .ok (.goto 4, 3) := by decide +kernel
theorem dX1_isNight_22 : decode cX1_isNight 22 = .ok (.iconst 0, 1) := by decide +kernel
theorem dX1_isNight_23 : decode cX1_isNight 23 = .ok (.ireturn, 1) := by decide +kernel
theorem dX1_latestBelieved_0 : decode cX1_latestBelieved 0 = .ok (.aload_n 0, 1) := by decide +kernel
theorem dX1_latestBelieved_1 : decode cX1_latestBelieved 1 = .ok (.getfield 68, 3) := by decide +kernel
theorem dX1_latestBelieved_4 : decode cX1_latestBelieved 4 = .ok (.iconst 1, 1) := by decide +kernel
theorem dX1_latestBelieved_5 : decode cX1_latestBelieved 5 = .ok (.isub, 1) := by decide +kernel
theorem dX1_latestBelieved_6 : decode cX1_latestBelieved 6 = .ok (.istore_n 2, 1) := by decide +kernel
theorem dX1_latestBelieved_7 : decode cX1_latestBelieved 7 = .ok (.iload_n 2, 1) := by decide +kernel
theorem dX1_latestBelieved_8 : decode cX1_latestBelieved 8 = .ok (.ifCond .lt 33, 3) := by decide +kernel
theorem dX1_latestBelieved_11 : decode cX1_latestBelieved 11 = .ok (.aload_n 0, 1) := by decide +kernel
theorem dX1_latestBelieved_12 : decode cX1_latestBelieved 12 = .ok (.getfield 32, 3) := by decide +kernel
theorem dX1_latestBelieved_15 : decode cX1_latestBelieved 15 = .ok (.iload_n 2, 1) := by decide +kernel
theorem dX1_latestBelieved_16 : decode cX1_latestBelieved 16 = .ok (.aaload, 1) := by decide +kernel
theorem dX1_latestBelieved_17 : decode cX1_latestBelieved 17 = .ok (.getfield 112, 3) := by decide +kernel
theorem dX1_latestBelieved_20 : decode cX1_latestBelieved 20 = .ok (.ifCond .eq 15, 3) := by decide +kernel
theorem dX1_latestBelieved_23 : decode cX1_latestBelieved 23 = .ok (.aload_n 1, 1) := by decide +kernel
theorem dX1_latestBelieved_24 : decode cX1_latestBelieved 24 = .ok (.getfield 116, 3) := by decide +kernel
theorem dX1_latestBelieved_27 : decode cX1_latestBelieved 27 = .ok (.iload_n 2, 1) := by decide +kernel
theorem dX1_latestBelieved_28 : decode cX1_latestBelieved 28 = .ok (.iaload, 1) := by decide +kernel
theorem dX1_latestBelieved_29 : decode cX1_latestBelieved 29 = .ok (.iconst (-1), 1) := by decide +kernel
theorem dX1_latestBelieved_30 : decode cX1_latestBelieved 30 = .ok (.if_icmp .eq 5, 3) := by decide +kernel
theorem dX1_latestBelieved_33 : decode cX1_latestBelieved 33 = .ok (.iload_n 2, 1) := by decide +kernel
theorem dX1_latestBelieved_34 : decode cX1_latestBelieved 34 = .ok (.ireturn, 1) := by decide +kernel
theorem dX1_latestBelieved_35 : decode cX1_latestBelieved 35 = .ok (.iinc 2 (-1), 3) := by decide +kernel
theorem dX1_latestBelieved_38 : decode cX1_latestBelieved 38 = .ok (.goto (-31), 3) := by decide +kernel
theorem dX1_latestBelieved_41 : decode cX1_latestBelieved 41 = .ok (.iconst (-1), 1) := by decide +kernel
theorem dX1_latestBelieved_42 : decode cX1_latestBelieved 42 = .ok (.ireturn, 1) := by decide +kernel
theorem dX1_isAsleep_0 : decode cX1_isAsleep 0 = .ok (.aload_n 1, 1) := by decide +kernel
theorem dX1_isAsleep_1 : decode cX1_isAsleep 1 = .ok (.invokevirtual 97, 3) := by decide +kernel
theorem dX1_isAsleep_4 : decode cX1_isAsleep 4 = .ok (.ifCond .ne 23, 3) := by decide +kernel
theorem dX1_isAsleep_7 : decode cX1_isAsleep 7 = .ok (.aload_n 0, 1) := by decide +kernel
theorem dX1_isAsleep_8 : decode cX1_isAsleep 8 = .ok (.invokevirtual 101, 3) := by decide +kernel
theorem dX1_isAsleep_11 : decode cX1_isAsleep 11 = .ok (.ifCond .eq 16, 3) := by decide +kernel
theorem dX1_isAsleep_14 : decode cX1_isAsleep 14 = .ok (.aload_n 0, 1) := by decide +kernel
theorem dX1_isAsleep_15 : decode cX1_isAsleep 15 = .ok (.aload_n 1, 1) := by decide +kernel
theorem dX1_isAsleep_16 : decode cX1_isAsleep 16 = .ok (.invokevirtual 104, 3) := by decide +kernel
theorem dX1_isAsleep_19 : decode cX1_isAsleep 19 = .ok (.iconst (-1), 1) := by decide +kernel
theorem dX1_isAsleep_20 : decode cX1_isAsleep 20 = .ok (.if_icmp .ne 7, 3) := by decide +kernel
theorem dX1_isAsleep_23 : decode cX1_isAsleep 23 = .ok (.iconst 1, 1) := by decide +kernel
theorem dX1_isAsleep_24 : decode cX1_isAsleep 24 = .ok (.goto 4, 3) := by decide +kernel
theorem dX1_isAsleep_27 : decode cX1_isAsleep 27 = .ok (.iconst 0, 1) := by decide +kernel
theorem dX1_isAsleep_28 : decode cX1_isAsleep 28 = .ok (.ireturn, 1) := by decide +kernel
theorem dX1_isInDanger_0 : decode cX1_isInDanger 0 = .ok (.aload_n 0, 1) := by decide +kernel
theorem dX1_isInDanger_1 : decode cX1_isInDanger 1 = .ok (.getfield 46, 3) := by decide +kernel
theorem dX1_isInDanger_4 : decode cX1_isInDanger 4 = .ok (.iload_n 1, 1) := by decide +kernel
theorem dX1_isInDanger_5 : decode cX1_isInDanger 5 = .ok (.iaload, 1) := by decide +kernel
theorem dX1_isInDanger_6 : decode cX1_isInDanger 6 = .ok (.iconst (-1), 1) := by decide +kernel
theorem dX1_isInDanger_7 : decode cX1_isInDanger 7 = .ok (.if_icmp .eq 20, 3) := by decide +kernel
theorem dX1_isInDanger_10 : decode cX1_isInDanger 10 = .ok (.aload_n 0, 1) := by decide +kernel
theorem dX1_isInDanger_11 : decode cX1_isInDanger 11 = .ok (.getfield 46, 3) := by decide +kernel
theorem dX1_isInDanger_14 : decode cX1_isInDanger 14 = .ok (.iload_n 1, 1) := by decide +kernel
theorem dX1_isInDanger_15 : decode cX1_isInDanger 15 = .ok (.iaload, 1) := by decide +kernel
theorem dX1_isInDanger_16 : decode cX1_isInDanger 16 = .ok (.aload_n 0, 1) := by decide +kernel
theorem dX1_isInDanger_17 : decode cX1_isInDanger 17 = .ok (.getfield 56, 3) := by decide +kernel
theorem dX1_isInDanger_20 : decode cX1_isInDanger 20 = .ok (.if_icmp .gt 7, 3) := by decide +kernel
theorem dX1_isInDanger_23 : decode cX1_isInDanger 23 = .ok (.iconst 1, 1) := by decide +kernel
theorem dX1_isInDanger_24 : decode cX1_isInDanger 24 = .ok (.goto 4, 3) := by decide +kernel
theorem dX1_isInDanger_27 : decode cX1_isInDanger 27 = .ok (.iconst 0, 1) := by decide +kernel
theorem dX1_isInDanger_28 : decode cX1_isInDanger 28 = .ok (.ireturn, 1) := by decide +kernel
theorem dX1_cellsInDanger_0 : decode cX1_cellsInDanger 0 = .ok (.iconst 0, 1) := by decide +kernel
theorem dX1_cellsInDanger_1 : decode cX1_cellsInDanger 1 = .ok (.istore_n 1, 1) := by decide +kernel
theorem dX1_cellsInDanger_2 : decode cX1_cellsInDanger 2 = .ok (.iconst 0, 1) := by decide +kernel
theorem dX1_cellsInDanger_3 : decode cX1_cellsInDanger 3 = .ok (.istore_n 2, 1) := by decide +kernel
theorem dX1_cellsInDanger_4 : decode cX1_cellsInDanger 4 = .ok (.iload_n 2, 1) := by decide +kernel
theorem dX1_cellsInDanger_5 : decode cX1_cellsInDanger 5 = .ok (.bipush 16, 2) := by decide +kernel
theorem dX1_cellsInDanger_7 : decode cX1_cellsInDanger 7 = .ok (.if_icmp .ge 23, 3) := by decide +kernel
theorem dX1_cellsInDanger_10 : decode cX1_cellsInDanger 10 = .ok (.aload_n 0, 1) := by decide +kernel
theorem dX1_cellsInDanger_11 : decode cX1_cellsInDanger 11 = .ok (.iload_n 2, 1) := by decide +kernel
theorem dX1_cellsInDanger_12 : decode cX1_cellsInDanger 12 = .ok (.invokevirtual 108, 3) := by decide +kernel
theorem dX1_cellsInDanger_15 : decode cX1_cellsInDanger 15 = .ok (.ifCond .eq 9, 3) := by decide +kernel
theorem dX1_cellsInDanger_18 : decode cX1_cellsInDanger 18 = .ok (.iload_n 1, 1) := by decide +kernel
theorem dX1_cellsInDanger_19 : decode cX1_cellsInDanger 19 = .ok (.iconst 1, 1) := by decide +kernel
theorem dX1_cellsInDanger_20 : decode cX1_cellsInDanger 20 = .ok (.iload_n 2, 1) := by decide +kernel
theorem dX1_cellsInDanger_21 : decode cX1_cellsInDanger 21 = .ok (.ishl, 1) := by decide +kernel
theorem dX1_cellsInDanger_22 : decode cX1_cellsInDanger 22 = .ok (.ior, 1) := by decide +kernel
theorem dX1_cellsInDanger_23 : decode cX1_cellsInDanger 23 = .ok (.istore_n 1, 1) := by decide +kernel
theorem dX1_cellsInDanger_24 : decode cX1_cellsInDanger 24 = .ok (.iinc 2 1, 3) := by decide +kernel
theorem dX1_cellsInDanger_27 : decode cX1_cellsInDanger 27 = .ok (.goto (-23), 3) := by decide +kernel
theorem dX1_cellsInDanger_30 : decode cX1_cellsInDanger 30 = .ok (.iload_n 1, 1) := by decide +kernel
theorem dX1_cellsInDanger_31 : decode cX1_cellsInDanger 31 = .ok (.ireturn, 1) := by decide +kernel
theorem dX1_countInForce_0 : decode cX1_countInForce 0 = .ok (.iconst 0, 1) := by decide +kernel
theorem dX1_countInForce_1 : decode cX1_countInForce 1 = .ok (.istore_n 1, 1) := by decide +kernel
theorem dX1_countInForce_2 : decode cX1_countInForce 2 = .ok (.iconst 0, 1) := by decide +kernel
theorem dX1_countInForce_3 : decode cX1_countInForce 3 = .ok (.istore_n 2, 1) := by decide +kernel
theorem dX1_countInForce_4 : decode cX1_countInForce 4 = .ok (.iload_n 2, 1) := by decide +kernel
theorem dX1_countInForce_5 : decode cX1_countInForce 5 = .ok (.aload_n 0, 1) := by decide +kernel
theorem dX1_countInForce_6 : decode cX1_countInForce 6 = .ok (.getfield 68, 3) := by decide +kernel
theorem dX1_countInForce_9 : decode cX1_countInForce 9 = .ok (.if_icmp .ge 29, 3) := by decide +kernel
theorem dX1_countInForce_12 : decode cX1_countInForce 12 = .ok (.iload_n 1, 1) := by decide +kernel
theorem dX1_countInForce_13 : decode cX1_countInForce 13 = .ok (.aload_n 0, 1) := by decide +kernel
theorem dX1_countInForce_14 : decode cX1_countInForce 14 = .ok (.getfield 32, 3) := by decide +kernel
theorem dX1_countInForce_17 : decode cX1_countInForce 17 = .ok (.iload_n 2, 1) := by decide +kernel
theorem dX1_countInForce_18 : decode cX1_countInForce 18 = .ok (.aaload, 1) := by decide +kernel
theorem dX1_countInForce_19 : decode cX1_countInForce 19 = .ok (.getfield 112, 3) := by decide +kernel
theorem dX1_countInForce_22 : decode cX1_countInForce 22 = .ok (.ifCond .eq 7, 3) := by decide +kernel
theorem dX1_countInForce_25 : decode cX1_countInForce 25 = .ok (.iconst 1, 1) := by decide +kernel
theorem dX1_countInForce_26 : decode cX1_countInForce 26 = .ok (.goto 4, 3) := by decide +kernel
theorem dX1_countInForce_29 : decode cX1_countInForce 29 = .ok (.iconst 0, 1) := by decide +kernel
theorem dX1_countInForce_30 : decode cX1_countInForce 30 = .ok (.iadd, 1) := by decide +kernel
theorem dX1_countInForce_31 : decode cX1_countInForce 31 = .ok (.istore_n 1, 1) := by decide +kernel
theorem dX1_countInForce_32 : decode cX1_countInForce 32 = .ok (.iinc 2 1, 3) := by decide +kernel
theorem dX1_countInForce_35 : decode cX1_countInForce 35 = .ok (.goto (-31), 3) := by decide +kernel
theorem dX1_countInForce_38 : decode cX1_countInForce 38 = .ok (.iload_n 1, 1) := by decide +kernel
theorem dX1_countInForce_39 : decode cX1_countInForce 39 = .ok (.ireturn, 1) := by decide +kernel
theorem dX1_countAsleep_0 : decode cX1_countAsleep 0 = .ok (.iconst 0, 1) := by decide +kernel
theorem dX1_countAsleep_1 : decode cX1_countAsleep 1 = .ok (.istore_n 1, 1) := by decide +kernel
theorem dX1_countAsleep_2 : decode cX1_countAsleep 2 = .ok (.iconst 0, 1) := by decide +kernel
theorem dX1_countAsleep_3 : decode cX1_countAsleep 3 = .ok (.istore_n 2, 1) := by decide +kernel
theorem dX1_countAsleep_4 : decode cX1_countAsleep 4 = .ok (.iload_n 2, 1) := by decide +kernel
theorem dX1_countAsleep_5 : decode cX1_countAsleep 5 = .ok (.aload_n 0, 1) := by decide +kernel
theorem dX1_countAsleep_6 : decode cX1_countAsleep 6 = .ok (.getfield 62, 3) := by decide +kernel
theorem dX1_countAsleep_9 : decode cX1_countAsleep 9 = .ok (.if_icmp .ge 30, 3) := by decide +kernel
theorem dX1_countAsleep_12 : decode cX1_countAsleep 12 = .ok (.iload_n 1, 1) := by decide +kernel
theorem dX1_countAsleep_13 : decode cX1_countAsleep 13 = .ok (.aload_n 0, 1) := by decide +kernel
theorem dX1_countAsleep_14 : decode cX1_countAsleep 14 = .ok (.aload_n 0, 1) := by decide +kernel
theorem dX1_countAsleep_15 : decode cX1_countAsleep 15 = .ok (.getfield 20, 3) := by decide +kernel
theorem dX1_countAsleep_18 : decode cX1_countAsleep 18 = .ok (.iload_n 2, 1) := by decide +kernel
theorem dX1_countAsleep_19 : decode cX1_countAsleep 19 = .ok (.aaload, 1) := by decide +kernel
theorem dX1_countAsleep_20 : decode cX1_countAsleep 20 = .ok (.invokevirtual 119, 3) := by decide +kernel
theorem dX1_countAsleep_23 : decode cX1_countAsleep 23 = .ok (.ifCond .eq 7, 3) := by decide +kernel
theorem dX1_countAsleep_26 : decode cX1_countAsleep 26 = .ok (.iconst 1, 1) := by decide +kernel
theorem dX1_countAsleep_27 : decode cX1_countAsleep 27 = .ok (.goto 4, 3) := by decide +kernel
theorem dX1_countAsleep_30 : decode cX1_countAsleep 30 = .ok (.iconst 0, 1) := by decide +kernel
theorem dX1_countAsleep_31 : decode cX1_countAsleep 31 = .ok (.iadd, 1) := by decide +kernel
theorem dX1_countAsleep_32 : decode cX1_countAsleep 32 = .ok (.istore_n 1, 1) := by decide +kernel
theorem dX1_countAsleep_33 : decode cX1_countAsleep 33 = .ok (.iinc 2 1, 3) := by decide +kernel
theorem dX1_countAsleep_36 : decode cX1_countAsleep 36 = .ok (.goto (-32), 3) := by decide +kernel
theorem dX1_countAsleep_39 : decode cX1_countAsleep 39 = .ok (.iload_n 1, 1) := by decide +kernel
theorem dX1_countAsleep_40 : decode cX1_countAsleep 40 = .ok (.ireturn, 1) := by decide +kernel
theorem dX1_countBelievers_0 : decode cX1_countBelievers 0 = .ok (.iconst 0, 1) := by decide +kernel
theorem dX1_countBelievers_1 : decode cX1_countBelievers 1 = .ok (.istore_n 2, 1) := by decide +kernel
theorem dX1_countBelievers_2 : decode cX1_countBelievers 2 = .ok (.iconst 0, 1) := by decide +kernel
theorem dX1_countBelievers_3 : decode cX1_countBelievers 3 = .ok (.istore_n 3, 1) := by decide +kernel
theorem dX1_countBelievers_4 : decode cX1_countBelievers 4 = .ok (.iload_n 3, 1) := by decide +kernel
theorem dX1_countBelievers_5 : decode cX1_countBelievers 5 = .ok (.aload_n 0, 1) := by decide +kernel
theorem dX1_countBelievers_6 : decode cX1_countBelievers 6 = .ok (.getfield 62, 3) := by decide +kernel
theorem dX1_countBelievers_9 : decode cX1_countBelievers 9 = .ok (.if_icmp .ge 32, 3) := by decide +kernel
theorem dX1_countBelievers_12 : decode cX1_countBelievers 12 = .ok (.iload_n 2, 1) := by decide +kernel
theorem dX1_countBelievers_13 : decode cX1_countBelievers 13 = .ok (.aload_n 0, 1) := by decide +kernel
theorem dX1_countBelievers_14 : decode cX1_countBelievers 14 = .ok (.getfield 20, 3) := by decide +kernel
theorem dX1_countBelievers_17 : decode cX1_countBelievers 17 = .ok (.iload_n 3, 1) := by decide +kernel
theorem dX1_countBelievers_18 : decode cX1_countBelievers 18 = .ok (.aaload, 1) := by decide +kernel
theorem dX1_countBelievers_19 : decode cX1_countBelievers 19 = .ok (.getfield 116, 3) := by decide +kernel
theorem dX1_countBelievers_22 : decode cX1_countBelievers 22 = .ok (.iload_n 1, 1) := by decide +kernel
theorem dX1_countBelievers_23 : decode cX1_countBelievers 23 = .ok (.iaload, 1) := by decide +kernel
theorem dX1_countBelievers_24 : decode cX1_countBelievers 24 = .ok (.iconst (-1), 1) := by decide +kernel
theorem dX1_countBelievers_25 : decode cX1_countBelievers 25 = .ok (.if_icmp .eq 7, 3) := by decide +kernel
theorem dX1_countBelievers_28 : decode cX1_countBelievers 28 = .ok (.iconst 1, 1) := by decide +kernel
theorem dX1_countBelievers_29 : decode cX1_countBelievers 29 = .ok (.goto 4, 3) := by decide +kernel
theorem dX1_countBelievers_32 : decode cX1_countBelievers 32 = .ok (.iconst 0, 1) := by decide +kernel
theorem dX1_countBelievers_33 : decode cX1_countBelievers 33 = .ok (.iadd, 1) := by decide +kernel
theorem dX1_countBelievers_34 : decode cX1_countBelievers 34 = .ok (.istore_n 2, 1) := by decide +kernel
theorem dX1_countBelievers_35 : decode cX1_countBelievers 35 = .ok (.iinc 3 1, 3) := by decide +kernel
theorem dX1_countBelievers_38 : decode cX1_countBelievers 38 = .ok (.goto (-34), 3) := by decide +kernel
theorem dX1_countBelievers_41 : decode cX1_countBelievers 41 = .ok (.iload_n 2, 1) := by decide +kernel
theorem dX1_countBelievers_42 : decode cX1_countBelievers 42 = .ok (.ireturn, 1) := by decide +kernel
theorem dX1_peopleOfAll_0 : decode cX1_peopleOfAll 0 = .ok (.iconst 0, 1) := by decide +kernel
theorem dX1_peopleOfAll_1 : decode cX1_peopleOfAll 1 = .ok (.istore_n 1, 1) := by decide +kernel
theorem dX1_peopleOfAll_2 : decode cX1_peopleOfAll 2 = .ok (.iconst 0, 1) := by decide +kernel
theorem dX1_peopleOfAll_3 : decode cX1_peopleOfAll 3 = .ok (.istore_n 2, 1) := by decide +kernel
theorem dX1_peopleOfAll_4 : decode cX1_peopleOfAll 4 = .ok (.iload_n 2, 1) := by decide +kernel
theorem dX1_peopleOfAll_5 : decode cX1_peopleOfAll 5 = .ok (.aload_n 0, 1) := by decide +kernel
theorem dX1_peopleOfAll_6 : decode cX1_peopleOfAll 6 = .ok (.getfield 62, 3) := by decide +kernel
theorem dX1_peopleOfAll_9 : decode cX1_peopleOfAll 9 = .ok (.if_icmp .ge 21, 3) := by decide +kernel
theorem dX1_peopleOfAll_12 : decode cX1_peopleOfAll 12 = .ok (.iload_n 1, 1) := by decide +kernel
theorem dX1_peopleOfAll_13 : decode cX1_peopleOfAll 13 = .ok (.aload_n 0, 1) := by decide +kernel
theorem dX1_peopleOfAll_14 : decode cX1_peopleOfAll 14 = .ok (.getfield 20, 3) := by decide +kernel
theorem dX1_peopleOfAll_17 : decode cX1_peopleOfAll 17 = .ok (.iload_n 2, 1) := by decide +kernel
theorem dX1_peopleOfAll_18 : decode cX1_peopleOfAll 18 = .ok (.aaload, 1) := by decide +kernel
theorem dX1_peopleOfAll_19 : decode cX1_peopleOfAll 19 = .ok (.getfield 123, 3) := by decide +kernel
theorem dX1_peopleOfAll_22 : decode cX1_peopleOfAll 22 = .ok (.iadd, 1) := by decide +kernel
theorem dX1_peopleOfAll_23 : decode cX1_peopleOfAll 23 = .ok (.istore_n 1, 1) := by decide +kernel
theorem dX1_peopleOfAll_24 : decode cX1_peopleOfAll 24 = .ok (.iinc 2 1, 3) := by decide +kernel
theorem dX1_peopleOfAll_27 : decode cX1_peopleOfAll 27 = .ok (.goto (-23), 3) := by decide +kernel
theorem dX1_peopleOfAll_30 : decode cX1_peopleOfAll 30 = .ok (.iload_n 1, 1) := by decide +kernel
theorem dX1_peopleOfAll_31 : decode cX1_peopleOfAll 31 = .ok (.ireturn, 1) := by decide +kernel
theorem dX1_peopleSafe_0 : decode cX1_peopleSafe 0 = .ok (.iconst 0, 1) := by decide +kernel
theorem dX1_peopleSafe_1 : decode cX1_peopleSafe 1 = .ok (.istore_n 1, 1) := by decide +kernel
theorem dX1_peopleSafe_2 : decode cX1_peopleSafe 2 = .ok (.iconst 0, 1) := by decide +kernel
theorem dX1_peopleSafe_3 : decode cX1_peopleSafe 3 = .ok (.istore_n 2, 1) := by decide +kernel
theorem dX1_peopleSafe_4 : decode cX1_peopleSafe 4 = .ok (.iload_n 2, 1) := by decide +kernel
theorem dX1_peopleSafe_5 : decode cX1_peopleSafe 5 = .ok (.aload_n 0, 1) := by decide +kernel
theorem dX1_peopleSafe_6 : decode cX1_peopleSafe 6 = .ok (.getfield 62, 3) := by decide +kernel
theorem dX1_peopleSafe_9 : decode cX1_peopleSafe 9 = .ok (.if_icmp .ge 37, 3) := by decide +kernel
theorem dX1_peopleSafe_12 : decode cX1_peopleSafe 12 = .ok (.iload_n 1, 1) := by decide +kernel
theorem dX1_peopleSafe_13 : decode cX1_peopleSafe 13 = .ok (.aload_n 0, 1) := by decide +kernel
theorem dX1_peopleSafe_14 : decode cX1_peopleSafe 14 = .ok (.getfield 20, 3) := by decide +kernel
theorem dX1_peopleSafe_17 : decode cX1_peopleSafe 17 = .ok (.iload_n 2, 1) := by decide +kernel
theorem dX1_peopleSafe_18 : decode cX1_peopleSafe 18 = .ok (.aaload, 1) := by decide +kernel
theorem dX1_peopleSafe_19 : decode cX1_peopleSafe 19 = .ok (.invokevirtual 126, 3) := by decide +kernel
theorem dX1_peopleSafe_22 : decode cX1_peopleSafe 22 = .ok (.ifCond .eq 15, 3) := by decide +kernel
theorem dX1_peopleSafe_25 : decode cX1_peopleSafe 25 = .ok (.aload_n 0, 1) := by decide +kernel
theorem dX1_peopleSafe_26 : decode cX1_peopleSafe 26 = .ok (.getfield 20, 3) := by decide +kernel
theorem dX1_peopleSafe_29 : decode cX1_peopleSafe 29 = .ok (.iload_n 2, 1) := by decide +kernel
theorem dX1_peopleSafe_30 : decode cX1_peopleSafe 30 = .ok (.aaload, 1) := by decide +kernel
theorem dX1_peopleSafe_31 : decode cX1_peopleSafe 31 = .ok (.getfield 123, 3) := by decide +kernel
theorem dX1_peopleSafe_34 : decode cX1_peopleSafe 34 = .ok (.goto 4, 3) := by decide +kernel
theorem dX1_peopleSafe_37 : decode cX1_peopleSafe 37 = .ok (.iconst 0, 1) := by decide +kernel
theorem dX1_peopleSafe_38 : decode cX1_peopleSafe 38 = .ok (.iadd, 1) := by decide +kernel
theorem dX1_peopleSafe_39 : decode cX1_peopleSafe 39 = .ok (.istore_n 1, 1) := by decide +kernel
theorem dX1_peopleSafe_40 : decode cX1_peopleSafe 40 = .ok (.iinc 2 1, 3) := by decide +kernel
theorem dX1_peopleSafe_43 : decode cX1_peopleSafe 43 = .ok (.goto (-39), 3) := by decide +kernel
theorem dX1_peopleSafe_46 : decode cX1_peopleSafe 46 = .ok (.iload_n 1, 1) := by decide +kernel
theorem dX1_peopleSafe_47 : decode cX1_peopleSafe 47 = .ok (.ireturn, 1) := by decide +kernel
theorem dX1_peopleGone_0 : decode cX1_peopleGone 0 = .ok (.iconst 0, 1) := by decide +kernel
theorem dX1_peopleGone_1 : decode cX1_peopleGone 1 = .ok (.istore_n 1, 1) := by decide +kernel
theorem dX1_peopleGone_2 : decode cX1_peopleGone 2 = .ok (.iconst 0, 1) := by decide +kernel
theorem dX1_peopleGone_3 : decode cX1_peopleGone 3 = .ok (.istore_n 2, 1) := by decide +kernel
theorem dX1_peopleGone_4 : decode cX1_peopleGone 4 = .ok (.iload_n 2, 1) := by decide +kernel
theorem dX1_peopleGone_5 : decode cX1_peopleGone 5 = .ok (.aload_n 0, 1) := by decide +kernel
theorem dX1_peopleGone_6 : decode cX1_peopleGone 6 = .ok (.getfield 62, 3) := by decide +kernel
theorem dX1_peopleGone_9 : decode cX1_peopleGone 9 = .ok (.if_icmp .ge 37, 3) := by decide +kernel
theorem dX1_peopleGone_12 : decode cX1_peopleGone 12 = .ok (.iload_n 1, 1) := by decide +kernel
theorem dX1_peopleGone_13 : decode cX1_peopleGone 13 = .ok (.aload_n 0, 1) := by decide +kernel
theorem dX1_peopleGone_14 : decode cX1_peopleGone 14 = .ok (.getfield 20, 3) := by decide +kernel
theorem dX1_peopleGone_17 : decode cX1_peopleGone 17 = .ok (.iload_n 2, 1) := by decide +kernel
theorem dX1_peopleGone_18 : decode cX1_peopleGone 18 = .ok (.aaload, 1) := by decide +kernel
theorem dX1_peopleGone_19 : decode cX1_peopleGone 19 = .ok (.invokevirtual 97, 3) := by decide +kernel
theorem dX1_peopleGone_22 : decode cX1_peopleGone 22 = .ok (.ifCond .eq 15, 3) := by decide +kernel
theorem dX1_peopleGone_25 : decode cX1_peopleGone 25 = .ok (.aload_n 0, 1) := by decide +kernel
theorem dX1_peopleGone_26 : decode cX1_peopleGone 26 = .ok (.getfield 20, 3) := by decide +kernel
theorem dX1_peopleGone_29 : decode cX1_peopleGone 29 = .ok (.iload_n 2, 1) := by decide +kernel
theorem dX1_peopleGone_30 : decode cX1_peopleGone 30 = .ok (.aaload, 1) := by decide +kernel
theorem dX1_peopleGone_31 : decode cX1_peopleGone 31 = .ok (.getfield 123, 3) := by decide +kernel
theorem dX1_peopleGone_34 : decode cX1_peopleGone 34 = .ok (.goto 4, 3) := by decide +kernel
theorem dX1_peopleGone_37 : decode cX1_peopleGone 37 = .ok (.iconst 0, 1) := by decide +kernel
theorem dX1_peopleGone_38 : decode cX1_peopleGone 38 = .ok (.iadd, 1) := by decide +kernel
theorem dX1_peopleGone_39 : decode cX1_peopleGone 39 = .ok (.istore_n 1, 1) := by decide +kernel
theorem dX1_peopleGone_40 : decode cX1_peopleGone 40 = .ok (.iinc 2 1, 3) := by decide +kernel
theorem dX1_peopleGone_43 : decode cX1_peopleGone 43 = .ok (.goto (-39), 3) := by decide +kernel
theorem dX1_peopleGone_46 : decode cX1_peopleGone 46 = .ok (.iload_n 1, 1) := by decide +kernel
theorem dX1_peopleGone_47 : decode cX1_peopleGone 47 = .ok (.ireturn, 1) := by decide +kernel
theorem dX1_peopleIn_0 : decode cX1_peopleIn 0 = .ok (.iconst 0, 1) := by decide +kernel
theorem dX1_peopleIn_1 : decode cX1_peopleIn 1 = .ok (.istore_n 2, 1) := by decide +kernel
theorem dX1_peopleIn_2 : decode cX1_peopleIn 2 = .ok (.iconst 0, 1) := by decide +kernel
theorem dX1_peopleIn_3 : decode cX1_peopleIn 3 = .ok (.istore_n 3, 1) := by decide +kernel
theorem dX1_peopleIn_4 : decode cX1_peopleIn 4 = .ok (.iload_n 3, 1) := by decide +kernel
theorem dX1_peopleIn_5 : decode cX1_peopleIn 5 = .ok (.aload_n 0, 1) := by decide +kernel
theorem dX1_peopleIn_6 : decode cX1_peopleIn 6 = .ok (.getfield 62, 3) := by decide +kernel
theorem dX1_peopleIn_9 : decode cX1_peopleIn 9 = .ok (.if_icmp .ge 53, 3) := by decide +kernel
theorem dX1_peopleIn_12 : decode cX1_peopleIn 12 = .ok (.iload_n 2, 1) := by decide +kernel
theorem dX1_peopleIn_13 : decode cX1_peopleIn 13 = .ok (.aload_n 0, 1) := by decide +kernel
theorem dX1_peopleIn_14 : decode cX1_peopleIn 14 = .ok (.getfield 20, 3) := by decide +kernel
theorem dX1_peopleIn_17 : decode cX1_peopleIn 17 = .ok (.iload_n 3, 1) := by decide +kernel
theorem dX1_peopleIn_18 : decode cX1_peopleIn 18 = .ok (.aaload, 1) := by decide +kernel
theorem dX1_peopleIn_19 : decode cX1_peopleIn 19 = .ok (.invokevirtual 97, 3) := by decide +kernel
theorem dX1_peopleIn_22 : decode cX1_peopleIn 22 = .ok (.ifCond .ne 31, 3) := by decide +kernel
theorem dX1_peopleIn_25 : decode cX1_peopleIn 25 = .ok (.iload_n 1, 1) := by decide +kernel
theorem dX1_peopleIn_26 : decode cX1_peopleIn 26 = .ok (.aload_n 0, 1) := by decide +kernel
theorem dX1_peopleIn_27 : decode cX1_peopleIn 27 = .ok (.getfield 20, 3) := by decide +kernel
theorem dX1_peopleIn_30 : decode cX1_peopleIn 30 = .ok (.iload_n 3, 1) := by decide +kernel
theorem dX1_peopleIn_31 : decode cX1_peopleIn 31 = .ok (.aaload, 1) := by decide +kernel
theorem dX1_peopleIn_32 : decode cX1_peopleIn 32 = .ok (.getfield 129, 3) := by decide +kernel
theorem dX1_peopleIn_35 : decode cX1_peopleIn 35 = .ok (.invokestatic 130, 3) := by decide +kernel
theorem dX1_peopleIn_38 : decode cX1_peopleIn 38 = .ok (.ifCond .eq 15, 3) := by decide +kernel
theorem dX1_peopleIn_41 : decode cX1_peopleIn 41 = .ok (.aload_n 0, 1) := by decide +kernel
theorem dX1_peopleIn_42 : decode cX1_peopleIn 42 = .ok (.getfield 20, 3) := by decide +kernel
theorem dX1_peopleIn_45 : decode cX1_peopleIn 45 = .ok (.iload_n 3, 1) := by decide +kernel
theorem dX1_peopleIn_46 : decode cX1_peopleIn 46 = .ok (.aaload, 1) := by decide +kernel
theorem dX1_peopleIn_47 : decode cX1_peopleIn 47 = .ok (.getfield 123, 3) := by decide +kernel
theorem dX1_peopleIn_50 : decode cX1_peopleIn 50 = .ok (.goto 4, 3) := by decide +kernel
theorem dX1_peopleIn_53 : decode cX1_peopleIn 53 = .ok (.iconst 0, 1) := by decide +kernel
theorem dX1_peopleIn_54 : decode cX1_peopleIn 54 = .ok (.iadd, 1) := by decide +kernel
theorem dX1_peopleIn_55 : decode cX1_peopleIn 55 = .ok (.istore_n 2, 1) := by decide +kernel
theorem dX1_peopleIn_56 : decode cX1_peopleIn 56 = .ok (.iinc 3 1, 3) := by decide +kernel
theorem dX1_peopleIn_59 : decode cX1_peopleIn 59 = .ok (.goto (-55), 3) := by decide +kernel
theorem dX1_peopleIn_62 : decode cX1_peopleIn 62 = .ok (.iload_n 2, 1) := by decide +kernel
theorem dX1_peopleIn_63 : decode cX1_peopleIn 63 = .ok (.ireturn, 1) := by decide +kernel
theorem dX1_peopleBelieving_0 : decode cX1_peopleBelieving 0 = .ok (.iconst 0, 1) := by decide +kernel
theorem dX1_peopleBelieving_1 : decode cX1_peopleBelieving 1 = .ok (.istore_n 1, 1) := by decide +kernel
theorem dX1_peopleBelieving_2 : decode cX1_peopleBelieving 2 = .ok (.iconst 0, 1) := by decide +kernel
theorem dX1_peopleBelieving_3 : decode cX1_peopleBelieving 3 = .ok (.istore_n 2, 1) := by decide +kernel
theorem dX1_peopleBelieving_4 : decode cX1_peopleBelieving 4 = .ok (.iload_n 2, 1) := by decide +kernel
theorem dX1_peopleBelieving_5 : decode cX1_peopleBelieving 5 = .ok (.aload_n 0, 1) := by decide +kernel
theorem dX1_peopleBelieving_6 : decode cX1_peopleBelieving 6 = .ok (.getfield 62, 3) := by decide +kernel
theorem dX1_peopleBelieving_9 : decode cX1_peopleBelieving 9 = .ok (.if_icmp .ge 39, 3) := by decide +kernel
theorem dX1_peopleBelieving_12 : decode cX1_peopleBelieving 12 = .ok (.iload_n 1, 1) := by decide +kernel
theorem dX1_peopleBelieving_13 : decode cX1_peopleBelieving 13 = .ok (.aload_n 0, 1) := by decide +kernel
theorem dX1_peopleBelieving_14 : decode cX1_peopleBelieving 14 = .ok (.aload_n 0, 1) := by decide +kernel
theorem dX1_peopleBelieving_15 : decode cX1_peopleBelieving 15 = .ok (.getfield 20, 3) := by decide +kernel
theorem dX1_peopleBelieving_18 : decode cX1_peopleBelieving 18 = .ok (.iload_n 2, 1) := by decide +kernel
theorem dX1_peopleBelieving_19 : decode cX1_peopleBelieving 19 = .ok (.aaload, 1) := by decide +kernel
theorem dX1_peopleBelieving_20 : decode cX1_peopleBelieving 20 = .ok (.invokevirtual 104, 3) := by decide +kernel
theorem dX1_peopleBelieving_23 : decode cX1_peopleBelieving 23 = .ok (.iconst (-1), 1) := by decide +kernel
theorem dX1_peopleBelieving_24 : decode cX1_peopleBelieving 24 = .ok (.if_icmp .eq 15, 3) := by decide +kernel
theorem dX1_peopleBelieving_27 : decode cX1_peopleBelieving 27 = .ok (.aload_n 0, 1) := by decide +kernel
theorem dX1_peopleBelieving_28 : decode cX1_peopleBelieving 28 = .ok (.getfield 20, 3) := by decide +kernel
theorem dX1_peopleBelieving_31 : decode cX1_peopleBelieving 31 = .ok (.iload_n 2, 1) := by decide +kernel
theorem dX1_peopleBelieving_32 : decode cX1_peopleBelieving 32 = .ok (.aaload, 1) := by decide +kernel
theorem dX1_peopleBelieving_33 : decode cX1_peopleBelieving 33 = .ok (.getfield 123, 3) := by decide +kernel
theorem dX1_peopleBelieving_36 : decode cX1_peopleBelieving 36 = .ok (.goto 4, 3) := by decide +kernel
theorem dX1_peopleBelieving_39 : decode cX1_peopleBelieving 39 = .ok (.iconst 0, 1) := by decide +kernel
theorem dX1_peopleBelieving_40 : decode cX1_peopleBelieving 40 = .ok (.iadd, 1) := by decide +kernel
theorem dX1_peopleBelieving_41 : decode cX1_peopleBelieving 41 = .ok (.istore_n 1, 1) := by decide +kernel
theorem dX1_peopleBelieving_42 : decode cX1_peopleBelieving 42 = .ok (.iinc 2 1, 3) := by decide +kernel
theorem dX1_peopleBelieving_45 : decode cX1_peopleBelieving 45 = .ok (.goto (-41), 3) := by decide +kernel
theorem dX1_peopleBelieving_48 : decode cX1_peopleBelieving 48 = .ok (.iload_n 1, 1) := by decide +kernel
theorem dX1_peopleBelieving_49 : decode cX1_peopleBelieving 49 = .ok (.ireturn, 1) := by decide +kernel
/-! what a land tells of itself: numbers of one land as a function of kind, index and slot -/
/-- a loop that counts up -/
theorem vg_loop {code : List (Nat × vgF)} {P : vgO} {pc : Nat} (Inv : Nat → vgL → vgS → Prop) (N : Nat) (hs : ∀ i lv σ, i < N → Inv i lv σ → (∀ lv' σ', Inv (i + 1) lv' σ' → vg_Go code P pc lv' [] σ') → vg_Go code P pc lv [] σ) (hx : ∀ lv σ, Inv N lv σ → vg_Go code P pc lv [] σ) : ∀ i lv σ, i ≤ N → Inv i lv σ → vg_Go code P pc lv [] σ := by
  have key : ∀ n i lv σ, i + n = N → Inv i lv σ → vg_Go code P pc lv [] σ := by
    intro n
    induction n with
    | zero => intro i lv σ e h; rw [show i = N by omega] at h; exact hx lv σ h
    | succ n ih => intro i lv σ e h; exact hs i lv σ (by omega) h (fun lv' σ' h' => ih (i + 1) lv' σ' (by omega) h')
  intro i lv σ hi h
  exact key (N - i) i lv σ (by omega) h
/-- a loop that counts down -/
theorem vg_loopD {code : List (Nat × vgF)} {P : vgO} {pc : Nat} (Inv : Nat → vgL → vgS → Prop) (hs : ∀ i lv σ, Inv (i + 1) lv σ → (∀ lv' σ', Inv i lv' σ' → vg_Go code P pc lv' [] σ') → vg_Go code P pc lv [] σ) (hx : ∀ lv σ, Inv 0 lv σ → vg_Go code P pc lv [] σ) : ∀ i lv σ, Inv i lv σ → vg_Go code P pc lv [] σ := by
  intro i
  induction i with
  | zero => exact hx
  | succ i ih => intro lv σ h; exact hs i lv σ h ih
theorem jle {c x : Int32} {n i : Nat} (hc : c = nI n) (hx : x = nI i) (hn : n < 1000) (hi : i < 1000) : c ≤ x ↔ n ≤ i := by
  rw [hc, hx]
  exact nI_leI (by omega) (by omega)
theorem jcl {x : Int32} {i : Nat} (hx : x = nI i) (hi : i < 1000) : x.toNatClampNeg = i := by rw [hx]; exact nI_clamp (by omega)
theorem jin {x : Int32} {i n : Nat} (hx : x = nI i) (h : i < n) (hn : n < 1000) : vp_in x n := by rw [hx]; exact vp_in_nI h (by omega)
theorem jinc {x : Int32} {i : Nat} (hx : x = nI i) : x + 1 = nI (i + 1) := by rw [hx]; exact nI_1 i
def jb (c : Prop) [Decidable c] : Int32 := if c then 1 else 0
theorem jb_01 (c : Prop) [Decidable c] : jb c = 0 ∨ jb c = 1 := by
  unfold jb
  split
  · exact Or.inr rfl
  · exact Or.inl rfl
theorem jb_0 {c : Prop} [Decidable c] : jb c = 0 ↔ ¬ c := by
  unfold jb
  split <;> simp_all
theorem jb_t {c : Prop} [Decidable c] (h : c) : jb c = 1 := if_pos h
theorem jb_f {c : Prop} [Decidable c] (h : ¬ c) : jb c = 0 := if_neg h
/-- the numbers of one land -/
abbrev jN : Type := Nat → Nat → Nat → Int32
def jV (σ : vgS) (b : Nat) : jN := fun k i s => σ (k, b, i) s
def jUp (v : jN) (k i s : Nat) (x : Int32) : jN := fun k' i' s' => if k' = k ∧ i' = i ∧ s' = s then x else v k' i' s'
def jPut (σ : vgS) (b : Nat) (v : jN) : vgS := fun n s => if n.2.1 = b then v n.1 n.2.2 s else σ n s
theorem jPut_at {σ : vgS} {b : Nat} {v : jN} {k i s : Nat} : jPut σ b v (k, b, i) s = v k i s := if_pos rfl
theorem jPut_ne {σ : vgS} {b : Nat} {v : jN} {n : vgN} {s : Nat} (h : ¬ n.2.1 = b) : jPut σ b v n s = σ n s := if_neg h
theorem jV_put {σ : vgS} {b : Nat} {v : jN} : jV (jPut σ b v) b = v := by
  funext k i s
  exact jPut_at
theorem jV_put_ne {σ : vgS} {b b' : Nat} {v : jN} (h : ¬ b' = b) : jV (jPut σ b v) b' = jV σ b' := by
  funext k i s
  exact jPut_ne h
theorem jPut_jV {σ : vgS} {b : Nat} : jPut σ b (jV σ b) = σ := by
  funext n s
  obtain ⟨k, b', i⟩ := n
  by_cases h : b' = b
  · subst h; exact jPut_at
  · exact jPut_ne h
theorem jPut_put {σ : vgS} {b : Nat} {v w : jN} : jPut (jPut σ b v) b w = jPut σ b w := by
  funext n s
  by_cases h : n.2.1 = b
  · exact (if_pos h).trans (if_pos h).symm
  · exact ((if_neg h).trans (if_neg h)).trans (if_neg h).symm
theorem jst {σ : vgS} {b : Nat} {v : jN} {k i s : Nat} {x : Int32} : vg_st (jPut σ b v) (k, b, i) s x = jPut σ b (jUp v k i s x) := by
  funext n s'
  obtain ⟨k', b', i'⟩ := n
  unfold vg_st jPut jUp
  by_cases h : b' = b
  · subst h
    simp
    by_cases h1 : k' = k <;> by_cases h2 : i' = i <;> by_cases h3 : s' = s <;> simp [h1, h2, h3]
  · simp [h]
theorem jst0 {σ : vgS} {b k i s : Nat} {x : Int32} : vg_st σ (k, b, i) s x = jPut σ b (jUp (jV σ b) k i s x) := by
  rw [← jst, jPut_jV]
theorem jUp_at {v : jN} {k i s : Nat} {x : Int32} : jUp v k i s x k i s = x := if_pos ⟨rfl, rfl, rfl⟩
theorem jUp_k {v : jN} {k i s k' i' s' : Nat} {x : Int32} (h : ¬ k' = k) : jUp v k i s x k' i' s' = v k' i' s' := if_neg (fun z => h z.1)
theorem jUp_i {v : jN} {k i s k' i' s' : Nat} {x : Int32} (h : ¬ i' = i) : jUp v k i s x k' i' s' = v k' i' s' := if_neg (fun z => h z.2.1)
theorem jUp_s {v : jN} {k i s k' i' s' : Nat} {x : Int32} (h : ¬ s' = s) : jUp v k i s x k' i' s' = v k' i' s' := if_neg (fun z => h z.2.2)
theorem jUp_up {v : jN} {k i s : Nat} {x y : Int32} : jUp (jUp v k i s x) k i s y = jUp v k i s y := by
  funext k' i' s'
  unfold jUp
  split <;> rfl
def jGc (v : jN) : Nat := (v 1 0 4).toNatClampNeg
def jSc (v : jN) : Nat := (v 1 0 5).toNatClampNeg
def jWc (v : jN) : Nat := (v 1 0 6).toNatClampNeg
def jNc (v : jN) (j : Nat) : Nat := (v 5 j 3).toNatClampNeg
def jWf (v : jN) : Prop := (v 1 0 4 = nI (jGc v) ∧ jGc v ≤ 8) ∧ (v 1 0 5 = nI (jSc v) ∧ jSc v ≤ 3) ∧ (v 1 0 6 = nI (jWc v) ∧ jWc v ≤ 12) ∧ (v 5 0 3 = nI (jNc v 0) ∧ jNc v 0 ≤ 5) ∧ (v 5 1 3 = nI (jNc v 1) ∧ jNc v 1 ≤ 5)
/-- what the counts hang on is the same -/
def jKeep (v v' : jN) : Prop := (∀ i s, 4 ≤ s ∧ s ≤ 6 → v' 1 i s = v 1 i s) ∧ ∀ j s, v' 5 j s = v 5 j s
theorem jKeep.rf {v : jN} : jKeep v v := ⟨fun _ _ _ => rfl, fun _ _ => rfl⟩
theorem jKeep.tr {v v' v'' : jN} (h : jKeep v v') (h' : jKeep v' v'') : jKeep v v'' := ⟨fun i s q => (h'.1 i s q).trans (h.1 i s q), fun j s => (h'.2 j s).trans (h.2 j s)⟩
theorem jKeep.up {v v' : jN} {k i s : Nat} {x : Int32} (h : jKeep v v') (hk : ¬ k = 5 ∧ (¬ k = 1 ∨ s < 4)) : jKeep v (jUp v' k i s x) := by
  refine ⟨fun i' s' q => ?_, fun j s' => ?_⟩
  · rw [← h.1 i' s' q]
    exact if_neg (fun z => by omega)
  · rw [← h.2 j s']
    exact if_neg (fun z => hk.1 z.1.symm)
theorem jKeep.gc {v v' : jN} (h : jKeep v v') : jGc v' = jGc v := congrArg Int32.toNatClampNeg (h.1 0 4 (by omega))
theorem jKeep.sc {v v' : jN} (h : jKeep v v') : jSc v' = jSc v := congrArg Int32.toNatClampNeg (h.1 0 5 (by omega))
theorem jKeep.wc {v v' : jN} (h : jKeep v v') : jWc v' = jWc v := congrArg Int32.toNatClampNeg (h.1 0 6 (by omega))
theorem jKeep.nc {v v' : jN} (h : jKeep v v') (j : Nat) : jNc v' j = jNc v j := congrArg Int32.toNatClampNeg (h.2 j 3)
theorem jKeep.wf {v v' : jN} (h : jKeep v v') (w : jWf v) : jWf v' := by
  obtain ⟨h1, h2, h3, h4, h5⟩ := w
  unfold jWf
  rw [h.gc, h.sc, h.wc, h.nc, h.nc, h.1 0 4 (by omega), h.1 0 5 (by omega), h.1 0 6 (by omega), h.2, h.2]
  exact ⟨h1, h2, h3, h4, h5⟩
/-- one after the other -/
def jIt {α : Type} (f : Nat → α → α) : Nat → α → α
  | 0, a => a
  | n + 1, a => f n (jIt f n a)
theorem jIt_keep {f : Nat → jN → jN} (hf : ∀ i v, jKeep v (f i v)) (v : jN) : ∀ n, jKeep v (jIt f n v)
  | 0 => jKeep.rf
  | n + 1 => (jIt_keep hf v n).tr (hf n _)
/-- the first from i on, among n -/
def jFind (p : Nat → Prop) [DecidablePred p] (i : Nat) : Nat → Int32
  | 0 => -1
  | n + 1 => if p i then nI i else jFind p (i + 1) n
/-- sums -/
def jSum (f : Nat → Int32) : Nat → Int32
  | 0 => 0
  | n + 1 => jSum f n + f n
abbrev jGone (v : jN) (g : Nat) : Prop := ¬ v 9 g 7 < 5
abbrev jSafe (v : jN) (g : Nat) : Prop := ¬ v 9 g 6 = -1
def sp_X0_isGone : vgC := fun av σ => match av with
  | [.inr (9, b, g)] => (True, some (.inl (.int (jb (jGone (jV σ b) g)))), σ)
  | _ => (False, none, σ)
def k_X0_isGone : List (Nat × vgF) := [(0, vi_aload 0 1), (1, vi_get ww_shp 5 7 4), (4, vi_icst (5) 5), (5, vi_cmp (fun x y => x < y) 12 8), (8, vi_icst (1) 9), (9, vi_goto 13), (12, vi_icst (0) 13), (13, vi_retZ)]
set_option maxRecDepth 20000 in
theorem s_X0_isGone : ∀ q ∈ k_X0_isGone, vg_Snd ww_tb ww_nw ww_shp ww_nm ww_cl ww_tyl cX0_isGone 1 RX0 (some .boolean) 0 q.1 q.2 := by
  refine vg_cons (vs_aload_n dX0_isGone_0 rfl rfl) ?_
  refine vg_cons (vs_getfield (T := TX0) dX0_isGone_1 rfl (by decide) ww_inX0 q_4 rfl) ?_
  refine vg_cons (vs_iconst dX0_isGone_4 rfl rfl) ?_
  refine vg_cons (vs_cmp_lt dX0_isGone_5 (by decide) rfl) ?_
  refine vg_cons (vs_iconst dX0_isGone_8 rfl rfl) ?_
  refine vg_cons (vs_goto dX0_isGone_9 (by decide)) ?_
  refine vg_cons (vs_iconst dX0_isGone_12 rfl rfl) ?_
  refine vg_cons (vs_zreturn dX0_isGone_13 rfl) ?_
  exact fun _ h => absurd h List.not_mem_nil
theorem m_X0_isGone : vg_Code k_X0_isGone := fun q h => (s_X0_isGone q h).1

theorem w_X0_isGone : vg_Wd sp_X0_isGone 1 := by
  intro av σ h
  unfold sp_X0_isGone at h
  split at h
  · exact Nat.le_of_ble_eq_true rfl
  · exact h.elim
theorem g_X0_isGone : vg_G k_X0_isGone sp_X0_isGone := by
  intro av σ h
  unfold sp_X0_isGone at h ⊢
  split at h
  next b g =>
    refine vg_run (cuts := []) m_X0_isGone 20 ?_
    refine And.intro (fun hc => And.intro (Or.inl rfl) (And.intro ?_ rfl)) (fun hc => And.intro (Or.inr rfl) (And.intro ?_ rfl))
    · exact congrArg (fun z => some (Sum.inl (Value.int z))) (jb_f (c := jGone (jV σ b) g) (fun z => z hc)).symm
    · exact congrArg (fun z => some (Sum.inl (Value.int z))) (jb_t (c := jGone (jV σ b) g) hc).symm
  next => exact h.elim
theorem c_X0_isGone : vg_MetF ww_tb ww_nw ww_shp ww_nm ww_cl ww_tyl yX0_isGone cX0_isGone 1 (some .boolean) 0 sp_X0_isGone := vg_met ww_closed (by decide +kernel) rfl s_X0_isGone w_X0_isGone g_X0_isGone
def sp_X0_isSafe : vgC := fun av σ => match av with
  | [.inr (9, b, g)] => (True, some (.inl (.int (jb (jSafe (jV σ b) g)))), σ)
  | _ => (False, none, σ)
def k_X0_isSafe : List (Nat × vgF) := [(0, vi_aload 0 1), (1, vi_get ww_shp 5 6 4), (4, vi_icst (-1) 5), (5, vi_cmp (fun x y => x = y) 12 8), (8, vi_icst (1) 9), (9, vi_goto 13), (12, vi_icst (0) 13), (13, vi_retZ)]
set_option maxRecDepth 20000 in
theorem s_X0_isSafe : ∀ q ∈ k_X0_isSafe, vg_Snd ww_tb ww_nw ww_shp ww_nm ww_cl ww_tyl cX0_isSafe 1 RX0 (some .boolean) 0 q.1 q.2 := by
  refine vg_cons (vs_aload_n dX0_isSafe_0 rfl rfl) ?_
  refine vg_cons (vs_getfield (T := TX0) dX0_isSafe_1 rfl (by decide) ww_inX0 q_5 rfl) ?_
  refine vg_cons (vs_iconst dX0_isSafe_4 rfl rfl) ?_
  refine vg_cons (vs_cmp_eq dX0_isSafe_5 (by decide) rfl) ?_
  refine vg_cons (vs_iconst dX0_isSafe_8 rfl rfl) ?_
  refine vg_cons (vs_goto dX0_isSafe_9 (by decide)) ?_
  refine vg_cons (vs_iconst dX0_isSafe_12 rfl rfl) ?_
  refine vg_cons (vs_zreturn dX0_isSafe_13 rfl) ?_
  exact fun _ h => absurd h List.not_mem_nil
theorem m_X0_isSafe : vg_Code k_X0_isSafe := fun q h => (s_X0_isSafe q h).1

theorem w_X0_isSafe : vg_Wd sp_X0_isSafe 1 := by
  intro av σ h
  unfold sp_X0_isSafe at h
  split at h
  · exact Nat.le_of_ble_eq_true rfl
  · exact h.elim
theorem g_X0_isSafe : vg_G k_X0_isSafe sp_X0_isSafe := by
  intro av σ h
  unfold sp_X0_isSafe at h ⊢
  split at h
  next b g =>
    refine vg_run (cuts := []) m_X0_isSafe 20 ?_
    refine And.intro (fun hc => And.intro (Or.inl rfl) (And.intro ?_ rfl)) (fun hc => And.intro (Or.inr rfl) (And.intro ?_ rfl))
    · exact congrArg (fun z => some (Sum.inl (Value.int z))) (jb_f (c := jSafe (jV σ b) g) (fun z => z hc)).symm
    · exact congrArg (fun z => some (Sum.inl (Value.int z))) (jb_t (c := jSafe (jV σ b) g) hc).symm
  next => exact h.elim
theorem c_X0_isSafe : vg_MetF ww_tb ww_nw ww_shp ww_nm ww_cl ww_tyl yX0_isSafe cX0_isSafe 1 (some .boolean) 0 sp_X0_isSafe := vg_met ww_closed (by decide +kernel) rfl s_X0_isSafe w_X0_isSafe g_X0_isSafe
def jNeed (t : Int32) : Int32 := if (1 : Int32) < (11 - t) / 4 then (11 - t) / 4 else 1
def sp_X0_waysNeeded : vgC := fun av σ => match av with
  | [.inr (9, b, g)] => (True, some (.inl (.int (jNeed (σ (9, b, g) 3)))), σ)
  | _ => (False, none, σ)
def k_X0_waysNeeded : List (Nat × vgF) := [(0, vi_icst (1) 1), (1, vi_icst (11) 3), (3, vi_aload 0 4), (4, vi_get ww_shp 5 3 7), (7, vi_bin (fun x y => x - y) 8), (8, vi_icst (4) 9), (9, vi_div (fun x y => x / y) 10), (10, vi_max 13), (13, vi_ret)]
set_option maxRecDepth 20000 in
theorem s_X0_waysNeeded : ∀ q ∈ k_X0_waysNeeded, vg_Snd ww_tb ww_nw ww_shp ww_nm ww_cl ww_tyl cX0_waysNeeded 1 RX0 (some .int) 1 q.1 q.2 := by
  refine vg_cons (vs_iconst dX0_waysNeeded_0 rfl rfl) ?_
  refine vg_cons (vs_bipush dX0_waysNeeded_1 (by decide) rfl) ?_
  refine vg_cons (vs_aload_n dX0_waysNeeded_3 rfl rfl) ?_
  refine vg_cons (vs_getfield (T := TX0) dX0_waysNeeded_4 rfl (by decide) ww_inX0 q_6 rfl) ?_
  refine vg_cons (vs_isub dX0_waysNeeded_7 rfl) ?_
  refine vg_cons (vs_iconst dX0_waysNeeded_8 rfl rfl) ?_
  refine vg_cons (vs_idiv dX0_waysNeeded_9 rfl) ?_
  refine vg_cons (vs_max dX0_waysNeeded_10 q_7 q_8 q_2 q_9 (by decide) rfl) ?_
  refine vg_cons (vs_ireturn dX0_waysNeeded_13 rfl) ?_
  exact fun _ h => absurd h List.not_mem_nil
theorem m_X0_waysNeeded : vg_Code k_X0_waysNeeded := fun q h => (s_X0_waysNeeded q h).1

theorem w_X0_waysNeeded : vg_Wd sp_X0_waysNeeded 1 := by
  intro av σ h
  unfold sp_X0_waysNeeded at h
  split at h
  · exact Nat.le_of_ble_eq_true rfl
  · exact h.elim
theorem g_X0_waysNeeded : vg_G k_X0_waysNeeded sp_X0_waysNeeded := by
  intro av σ h
  unfold sp_X0_waysNeeded at h ⊢
  split at h
  next b g =>
    refine vg_run (cuts := []) m_X0_waysNeeded 20 ?_
    exact And.intro (by decide) (And.intro rfl rfl)
  next => exact h.elim
theorem c_X0_waysNeeded : vg_MetF ww_tb ww_nw ww_shp ww_nm ww_cl ww_tyl yX0_waysNeeded cX0_waysNeeded 1 (some .int) 1 sp_X0_waysNeeded := vg_met ww_closed (by decide +kernel) rfl s_X0_waysNeeded w_X0_waysNeeded g_X0_waysNeeded
def jHour (t : Int32) : Int32 := t / 60 - t / 60 / 24 * 24
abbrev jNight (t : Int32) : Prop := 22 ≤ jHour t ∨ ¬ 6 ≤ jHour t
def sp_X1_hourNow : vgC := fun av σ => match av with
  | [.inr (1, b, 0)] => (True, some (.inl (.int (jHour (jV σ b 1 0 0)))), σ)
  | _ => (False, none, σ)
def k_X1_hourNow : List (Nat × vgF) := [(0, vi_aload 0 1), (1, vi_get ww_shp 1 0 4), (4, vi_icst (60) 6), (6, vi_div (fun x y => x / y) 7), (7, vi_icst (24) 9), (9, vi_div (fun x y => x - x / y * y) 10), (10, vi_ret)]
set_option maxRecDepth 20000 in
theorem s_X1_hourNow : ∀ q ∈ k_X1_hourNow, vg_Snd ww_tb ww_nw ww_shp ww_nm ww_cl ww_tyl cX1_hourNow 1 RX1 (some .int) 0 q.1 q.2 := by
  refine vg_cons (vs_aload_n dX1_hourNow_0 rfl rfl) ?_
  refine vg_cons (vs_getfield (T := TX1) dX1_hourNow_1 rfl (by decide) ww_inX1 q_10 rfl) ?_
  refine vg_cons (vs_bipush dX1_hourNow_4 (by decide) rfl) ?_
  refine vg_cons (vs_idiv dX1_hourNow_6 rfl) ?_
  refine vg_cons (vs_bipush dX1_hourNow_7 (by decide) rfl) ?_
  refine vg_cons (vs_irem dX1_hourNow_9 rfl) ?_
  refine vg_cons (vs_ireturn dX1_hourNow_10 rfl) ?_
  exact fun _ h => absurd h List.not_mem_nil
theorem m_X1_hourNow : vg_Code k_X1_hourNow := fun q h => (s_X1_hourNow q h).1

theorem w_X1_hourNow : vg_Wd sp_X1_hourNow 1 := by
  intro av σ h
  unfold sp_X1_hourNow at h
  split at h
  · exact Nat.le_of_ble_eq_true rfl
  · exact h.elim
theorem g_X1_hourNow : vg_G k_X1_hourNow sp_X1_hourNow := by
  intro av σ h
  unfold sp_X1_hourNow at h ⊢
  split at h
  next b =>
    refine vg_run (cuts := []) m_X1_hourNow 20 ?_
    exact And.intro (by decide) (And.intro (by decide) (And.intro rfl rfl))
  next => exact h.elim
theorem c_X1_hourNow : vg_MetF ww_tb ww_nw ww_shp ww_nm ww_cl ww_tyl yX1_hourNow cX1_hourNow 1 (some .int) 0 sp_X1_hourNow := vg_met ww_closed (by decide +kernel) rfl s_X1_hourNow w_X1_hourNow g_X1_hourNow
def sp_X1_isNight : vgC := fun av σ => match av with
  | [.inr (1, b, 0)] => (True, some (.inl (.int (jb (jNight (jV σ b 1 0 0))))), σ)
  | _ => (False, none, σ)
def k_X1_isNight : List (Nat × vgF) := [(0, vi_aload 0 1), (1, vi_callV ww_shp 1 sp_X1_hourNow 0 4), (4, vi_icst (22) 6), (6, vi_cmp (fun x y => y ≤ x) 18 9), (9, vi_aload 0 10), (10, vi_callV ww_shp 1 sp_X1_hourNow 0 13), (13, vi_icst (6) 15), (15, vi_cmp (fun x y => y ≤ x) 22 18), (18, vi_icst (1) 19), (19, vi_goto 23), (22, vi_icst (0) 23), (23, vi_retZ)]
set_option maxRecDepth 20000 in
theorem s_X1_isNight : ∀ q ∈ k_X1_isNight, vg_Snd ww_tb ww_nw ww_shp ww_nm ww_cl ww_tyl cX1_isNight 1 RX1 (some .boolean) 1 q.1 q.2 := by
  refine vg_cons (vs_aload_n dX1_isNight_0 rfl rfl) ?_
  refine vg_cons (vs_callV (T := TX1) c_X1_hourNow dX1_isNight_1 rfl ww_good q_11 q_12 q_13 q_14 q_15 (by decide +kernel) (by decide) rfl) ?_
  refine vg_cons (vs_bipush dX1_isNight_4 (by decide) rfl) ?_
  refine vg_cons (vs_cmp_ge dX1_isNight_6 (by decide) rfl) ?_
  refine vg_cons (vs_aload_n dX1_isNight_9 rfl rfl) ?_
  refine vg_cons (vs_callV (T := TX1) c_X1_hourNow dX1_isNight_10 rfl ww_good q_11 q_12 q_13 q_14 q_15 (by decide +kernel) (by decide) rfl) ?_
  refine vg_cons (vs_bipush dX1_isNight_13 (by decide) rfl) ?_
  refine vg_cons (vs_cmp_ge dX1_isNight_15 (by decide) rfl) ?_
  refine vg_cons (vs_iconst dX1_isNight_18 rfl rfl) ?_
  refine vg_cons (vs_goto dX1_isNight_19 (by decide)) ?_
  refine vg_cons (vs_iconst dX1_isNight_22 rfl rfl) ?_
  refine vg_cons (vs_zreturn dX1_isNight_23 rfl) ?_
  exact fun _ h => absurd h List.not_mem_nil
theorem m_X1_isNight : vg_Code k_X1_isNight := fun q h => (s_X1_isNight q h).1

theorem w_X1_isNight : vg_Wd sp_X1_isNight 1 := by
  intro av σ h
  unfold sp_X1_isNight at h
  split at h
  · exact Nat.le_of_ble_eq_true rfl
  · exact h.elim
theorem g_X1_isNight : vg_G k_X1_isNight sp_X1_isNight := by
  intro av σ h
  unfold sp_X1_isNight at h ⊢
  split at h
  next b =>
    refine vg_run (cuts := []) m_X1_isNight 30 ?_
    refine And.intro trivial (And.intro (fun hc => ?_) (fun hc => And.intro trivial (And.intro (fun hd => ?_) (fun hd => ?_))))
    · exact And.intro (Or.inr rfl) (And.intro (congrArg (fun z => some (Sum.inl (Value.int z))) (jb_t (c := jNight (jV σ b 1 0 0)) (Or.inl hc)).symm) rfl)
    · exact And.intro (Or.inl rfl) (And.intro (congrArg (fun z => some (Sum.inl (Value.int z))) (jb_f (c := jNight (jV σ b 1 0 0)) (fun z => z.elim hc (fun y => y hd))).symm) rfl)
    · exact And.intro (Or.inr rfl) (And.intro (congrArg (fun z => some (Sum.inl (Value.int z))) (jb_t (c := jNight (jV σ b 1 0 0)) (Or.inr hd)).symm) rfl)
  next => exact h.elim
theorem c_X1_isNight : vg_MetF ww_tb ww_nw ww_shp ww_nm ww_cl ww_tyl yX1_isNight cX1_isNight 1 (some .boolean) 1 sp_X1_isNight := vg_met ww_closed (by decide +kernel) rfl s_X1_isNight w_X1_isNight g_X1_isNight
/-- the latest warning below k that is in force and that a group believes -/
def jLat (v : jN) (g : Nat) : Nat → Int32
  | 0 => -1
  | k + 1 => if v 11 k 7 = 0 then jLat v g k else if v 18 g k = -1 then jLat v g k else nI k
abbrev jLt (v : jN) (g : Nat) : Int32 := jLat v g (jWc v)
def sp_X1_latestBelieved : vgC := fun av σ => match av with
  | [.inr (1, b, 0), .inr (9, b', g)] => (jWf (jV σ b) ∧ b' = b, some (.inl (.int (jLt (jV σ b) g))), σ)
  | _ => (False, none, σ)
def k_X1_latestBelieved : List (Nat × vgF) := [(0, vi_aload 0 1), (1, vi_get ww_shp 1 6 4), (4, vi_icst (1) 5), (5, vi_bin (fun x y => x - y) 6), (6, vi_istore 2 7), (7, vi_iload 2 8), (8, vi_if (fun x => x < 0) 41 11), (11, vi_aload 0 12), (12, vi_get ww_shp 1 9 15), (15, vi_iload 2 16), (16, vi_aald ww_shp 4 17), (17, vi_get ww_shp 4 7 20), (20, vi_if (fun x => x = 0) 35 23), (23, vi_aload 1 24), (24, vi_get ww_shp 5 12 27), (27, vi_iload 2 28), (28, vi_ald ww_shp 0 29), (29, vi_icst (-1) 30), (30, vi_cmp (fun x y => x = y) 35 33), (33, vi_iload 2 34), (34, vi_ret), (35, vi_iinc 2 (-1) 38), (38, vi_goto 7), (41, vi_icst (-1) 42), (42, vi_ret)]
set_option maxRecDepth 20000 in
theorem s_X1_latestBelieved : ∀ q ∈ k_X1_latestBelieved, vg_Snd ww_tb ww_nw ww_shp ww_nm ww_cl ww_tyl cX1_latestBelieved 3 RX1 (some .int) 0 q.1 q.2 := by
  refine vg_cons (vs_aload_n dX1_latestBelieved_0 rfl rfl) ?_
  refine vg_cons (vs_getfield (T := TX1) dX1_latestBelieved_1 rfl (by decide) ww_inX1 q_16 rfl) ?_
  refine vg_cons (vs_iconst dX1_latestBelieved_4 rfl rfl) ?_
  refine vg_cons (vs_isub dX1_latestBelieved_5 rfl) ?_
  refine vg_cons (vs_istore_n dX1_latestBelieved_6 rfl (by decide) rfl) ?_
  refine vg_cons (vs_iload_n dX1_latestBelieved_7 rfl rfl) ?_
  refine vg_cons (vs_if_lt dX1_latestBelieved_8 (by decide) rfl) ?_
  refine vg_cons (vs_aload_n dX1_latestBelieved_11 rfl rfl) ?_
  refine vg_cons (vs_getfield (T := TX1) dX1_latestBelieved_12 rfl (by decide) ww_inX1 q_17 rfl) ?_
  refine vg_cons (vs_iload_n dX1_latestBelieved_15 rfl rfl) ?_
  refine vg_cons (vs_aaload dX1_latestBelieved_16 rfl rfl) ?_
  refine vg_cons (vs_getfield (T := TX4) dX1_latestBelieved_17 rfl (by decide) ww_inX4 q_18 rfl) ?_
  refine vg_cons (vs_if_eq dX1_latestBelieved_20 (by decide) rfl) ?_
  refine vg_cons (vs_aload_n dX1_latestBelieved_23 rfl rfl) ?_
  refine vg_cons (vs_getfield (T := TX0) dX1_latestBelieved_24 rfl (by decide) ww_inX0 q_19 rfl) ?_
  refine vg_cons (vs_iload_n dX1_latestBelieved_27 rfl rfl) ?_
  refine vg_cons (vs_iaload dX1_latestBelieved_28 rfl rfl) ?_
  refine vg_cons (vs_iconst dX1_latestBelieved_29 rfl rfl) ?_
  refine vg_cons (vs_cmp_eq dX1_latestBelieved_30 (by decide) rfl) ?_
  refine vg_cons (vs_iload_n dX1_latestBelieved_33 rfl rfl) ?_
  refine vg_cons (vs_ireturn dX1_latestBelieved_34 rfl) ?_
  refine vg_cons (vs_iinc dX1_latestBelieved_35 rfl rfl) ?_
  refine vg_cons (vs_goto dX1_latestBelieved_38 (by decide)) ?_
  refine vg_cons (vs_iconst dX1_latestBelieved_41 rfl rfl) ?_
  refine vg_cons (vs_ireturn dX1_latestBelieved_42 rfl) ?_
  exact fun _ h => absurd h List.not_mem_nil
theorem m_X1_latestBelieved : vg_Code k_X1_latestBelieved := fun q h => (s_X1_latestBelieved q h).1

theorem w_X1_latestBelieved : vg_Wd sp_X1_latestBelieved 3 := by
  intro av σ h
  unfold sp_X1_latestBelieved at h
  split at h
  · exact Nat.le_of_ble_eq_true rfl
  · exact h.elim
theorem g_X1_latestBelieved : vg_G k_X1_latestBelieved sp_X1_latestBelieved := by
  intro av σ h
  unfold sp_X1_latestBelieved at h ⊢
  split at h
  next b b' g =>
    obtain ⟨hw, rfl⟩ := h
    refine vg_run (cuts := [(7, [0, 1, 2])]) m_X1_latestBelieved 20 ?_
    have hwc := hw.2.2.1
    refine vg_loopD (fun k lv σ' => k ≤ 12 ∧ σ' = σ ∧ jLt (jV σ b') g = jLat (jV σ b') g k ∧ ∃ x, x = nI k - 1 ∧ lv = [(0, .inr (1, b', 0)), (1, .inr (9, b', g)), (2, .inl (.int x))]) ?_ ?_ (jWc (jV σ b')) _ _ ⟨hwc.2, rfl, rfl, _, congrArg (· - 1) hwc.1, rfl⟩
    · rintro k lv σ' ⟨hk, e, he, x, hx, rfl⟩ ih
      subst e
      rw [nI_pred] at hx
      have hi : x.toNatClampNeg = k := jcl hx (by omega)
      have hv : vp_in x 12 := jin hx (by omega) (by decide)
      have ih' : ∀ lv', (∃ x', x' = nI k - 1 ∧ lv' = [(0, .inr (1, b', 0)), (1, .inr (9, b', g)), (2, .inl (.int x'))]) → jLat (jV σ' b') g (k + 1) = jLat (jV σ' b') g k → vg_Go _ _ 7 lv' [] σ' := fun lv' q z => ih lv' σ' ⟨by omega, rfl, he.trans z, q⟩
      refine vg_run (cuts := [(7, [0, 1, 2])]) m_X1_latestBelieved 20 ?_
      refine And.intro (fun hc => absurd hc (by rw [hx]; exact nI_pos (by omega))) (fun hc => And.intro hv ?_)
      refine And.intro (fun hd => ?_) (fun hd => And.intro hv ?_)
      · refine ih' _ ⟨x + (-1), by rw [hx, Int32.sub_eq_add_neg], rfl⟩ ?_
        rw [hi] at hd
        exact if_pos hd
      · refine And.intro (fun hf => ?_) (fun hf => ?_)
        · refine ih' _ ⟨x + (-1), by rw [hx, Int32.sub_eq_add_neg], rfl⟩ ?_
          rw [hi] at hd hf
          exact (if_neg hd).trans (if_pos hf)
        · refine And.intro ?_ rfl
          rw [hi] at hd hf
          show some (Sum.inl (Value.int x)) = some (Sum.inl (Value.int (jLt (jV σ' b') g)))
          rw [he, hx]
          exact congrArg (fun z => some (Sum.inl (Value.int z))) ((if_neg hd).trans (if_neg hf)).symm
    · rintro lv σ' ⟨hk, e, he, x, hx, rfl⟩
      subst e
      refine vg_run (cuts := [(7, [0, 1, 2])]) m_X1_latestBelieved 20 ?_
      refine And.intro (fun hc => ?_) (fun hc => absurd (by rw [hx]; decide) hc)
      refine And.intro ?_ rfl
      show some (Sum.inl (Value.int (-1))) = some (Sum.inl (Value.int (jLt (jV σ' b') g)))
      rw [he]
      rfl
  next => exact h.elim
theorem c_X1_latestBelieved : vg_MetF ww_tb ww_nw ww_shp ww_nm ww_cl ww_tyl yX1_latestBelieved cX1_latestBelieved 3 (some .int) 0 sp_X1_latestBelieved := vg_met ww_closed (by decide +kernel) rfl s_X1_latestBelieved w_X1_latestBelieved g_X1_latestBelieved
abbrev jSleep (v : jN) (g : Nat) : Prop := ¬ jGone v g ∧ jNight (v 1 0 0) ∧ jLt v g = -1
def sp_X1_isAsleep : vgC := fun av σ => match av with
  | [.inr (1, b, 0), .inr (9, b', g)] => (jWf (jV σ b) ∧ b' = b, some (.inl (.int (jb (jSleep (jV σ b) g)))), σ)
  | _ => (False, none, σ)
def k_X1_isAsleep : List (Nat × vgF) := [(0, vi_aload 1 1), (1, vi_callV ww_shp 5 sp_X0_isGone 0 4), (4, vi_if (fun x => x = 0) 7 27), (7, vi_aload 0 8), (8, vi_callV ww_shp 1 sp_X1_isNight 0 11), (11, vi_if (fun x => x = 0) 27 14), (14, vi_aload 0 15), (15, vi_aload 1 16), (16, vi_callV ww_shp 1 sp_X1_latestBelieved 1 19), (19, vi_icst (-1) 20), (20, vi_cmp (fun x y => x = y) 23 27), (23, vi_icst (1) 24), (24, vi_goto 28), (27, vi_icst (0) 28), (28, vi_retZ)]
set_option maxRecDepth 20000 in
theorem s_X1_isAsleep : ∀ q ∈ k_X1_isAsleep, vg_Snd ww_tb ww_nw ww_shp ww_nm ww_cl ww_tyl cX1_isAsleep 2 RX1 (some .boolean) 2 q.1 q.2 := by
  refine vg_cons (vs_aload_n dX1_isAsleep_0 rfl rfl) ?_
  refine vg_cons (vs_callV (T := TX0) c_X0_isGone dX1_isAsleep_1 rfl ww_good q_20 q_21 q_22 q_23 q_24 (by decide +kernel) (by decide) rfl) ?_
  refine vg_cons (vs_if_ne dX1_isAsleep_4 (by decide) rfl) ?_
  refine vg_cons (vs_aload_n dX1_isAsleep_7 rfl rfl) ?_
  refine vg_cons (vs_callV (T := TX1) c_X1_isNight dX1_isAsleep_8 rfl ww_good q_25 q_12 q_26 q_27 q_28 (by decide +kernel) (by decide) rfl) ?_
  refine vg_cons (vs_if_eq dX1_isAsleep_11 (by decide) rfl) ?_
  refine vg_cons (vs_aload_n dX1_isAsleep_14 rfl rfl) ?_
  refine vg_cons (vs_aload_n dX1_isAsleep_15 rfl rfl) ?_
  refine vg_cons (vs_callV (T := TX1) c_X1_latestBelieved dX1_isAsleep_16 rfl ww_good q_29 q_12 q_30 q_31 q_32 (by decide +kernel) (by decide) rfl) ?_
  refine vg_cons (vs_iconst dX1_isAsleep_19 rfl rfl) ?_
  refine vg_cons (vs_cmp_ne dX1_isAsleep_20 (by decide) rfl) ?_
  refine vg_cons (vs_iconst dX1_isAsleep_23 rfl rfl) ?_
  refine vg_cons (vs_goto dX1_isAsleep_24 (by decide)) ?_
  refine vg_cons (vs_iconst dX1_isAsleep_27 rfl rfl) ?_
  refine vg_cons (vs_zreturn dX1_isAsleep_28 rfl) ?_
  exact fun _ h => absurd h List.not_mem_nil
theorem m_X1_isAsleep : vg_Code k_X1_isAsleep := fun q h => (s_X1_isAsleep q h).1

theorem w_X1_isAsleep : vg_Wd sp_X1_isAsleep 2 := by
  intro av σ h
  unfold sp_X1_isAsleep at h
  split at h
  · exact Nat.le_of_ble_eq_true rfl
  · exact h.elim
theorem g_X1_isAsleep : vg_G k_X1_isAsleep sp_X1_isAsleep := by
  intro av σ h
  unfold sp_X1_isAsleep at h ⊢
  split at h
  next b b' g =>
    obtain ⟨hw, rfl⟩ := h
    have F : ∀ c, ¬ jSleep (jV σ b') g → c = (0 : Int32) → some (Sum.inl (Value.int c)) = (some (Sum.inl (Value.int (jb (jSleep (jV σ b') g)))) : Option vgV) := fun c hn e => by rw [e, jb_f hn]
    refine vg_run (cuts := []) m_X1_isAsleep 40 ?_
    refine And.intro trivial (And.intro (fun hc => ?_) (fun hc => ?_))
    · have hc' := jb_0.mp hc
      refine And.intro trivial (And.intro (fun hd => ?_) (fun hd => ?_))
      · exact And.intro (Or.inl rfl) (And.intro (F _ (fun z => jb_0.mp hd z.2.1) rfl) rfl)
      · have hd' : jNight (jV σ b' 1 0 0) := Classical.byContradiction (fun z => hd (jb_f z))
        refine And.intro ⟨hw, rfl⟩ (And.intro (fun he => ?_) (fun he => ?_))
        · exact And.intro (Or.inr rfl) (And.intro (congrArg (fun z => some (Sum.inl (Value.int z))) (jb_t (c := jSleep (jV σ b') g) ⟨hc', hd', he⟩).symm) rfl)
        · exact And.intro (Or.inl rfl) (And.intro (F _ (fun z => he z.2.2) rfl) rfl)
    · exact And.intro (Or.inl rfl) (And.intro (F _ (fun z => hc (jb_f z.1)) rfl) rfl)
  next => exact h.elim
theorem c_X1_isAsleep : vg_MetF ww_tb ww_nw ww_shp ww_nm ww_cl ww_tyl yX1_isAsleep cX1_isAsleep 2 (some .boolean) 2 sp_X1_isAsleep := vg_met ww_closed (by decide +kernel) rfl s_X1_isAsleep w_X1_isAsleep g_X1_isAsleep
abbrev jDng (v : jN) (c : Nat) : Prop := ¬ v 6 0 c = -1 ∧ ¬ v 1 0 0 < v 6 0 c
def sp_X1_isInDanger : vgC := fun av σ => match av with
  | [.inr (1, b, 0), .inl (.int c)] => (vp_in c 16, some (.inl (.int (jb (jDng (jV σ b) c.toNatClampNeg)))), σ)
  | _ => (False, none, σ)
def k_X1_isInDanger : List (Nat × vgF) := [(0, vi_aload 0 1), (1, vi_get ww_shp 1 12 4), (4, vi_iload 1 5), (5, vi_ald ww_shp 0 6), (6, vi_icst (-1) 7), (7, vi_cmp (fun x y => x = y) 27 10), (10, vi_aload 0 11), (11, vi_get ww_shp 1 12 14), (14, vi_iload 1 15), (15, vi_ald ww_shp 0 16), (16, vi_aload 0 17), (17, vi_get ww_shp 1 0 20), (20, vi_cmp (fun x y => y < x) 27 23), (23, vi_icst (1) 24), (24, vi_goto 28), (27, vi_icst (0) 28), (28, vi_retZ)]
set_option maxRecDepth 20000 in
theorem s_X1_isInDanger : ∀ q ∈ k_X1_isInDanger, vg_Snd ww_tb ww_nw ww_shp ww_nm ww_cl ww_tyl cX1_isInDanger 2 RX1 (some .boolean) 0 q.1 q.2 := by
  refine vg_cons (vs_aload_n dX1_isInDanger_0 rfl rfl) ?_
  refine vg_cons (vs_getfield (T := TX1) dX1_isInDanger_1 rfl (by decide) ww_inX1 q_33 rfl) ?_
  refine vg_cons (vs_iload_n dX1_isInDanger_4 rfl rfl) ?_
  refine vg_cons (vs_iaload dX1_isInDanger_5 rfl rfl) ?_
  refine vg_cons (vs_iconst dX1_isInDanger_6 rfl rfl) ?_
  refine vg_cons (vs_cmp_eq dX1_isInDanger_7 (by decide) rfl) ?_
  refine vg_cons (vs_aload_n dX1_isInDanger_10 rfl rfl) ?_
  refine vg_cons (vs_getfield (T := TX1) dX1_isInDanger_11 rfl (by decide) ww_inX1 q_33 rfl) ?_
  refine vg_cons (vs_iload_n dX1_isInDanger_14 rfl rfl) ?_
  refine vg_cons (vs_iaload dX1_isInDanger_15 rfl rfl) ?_
  refine vg_cons (vs_aload_n dX1_isInDanger_16 rfl rfl) ?_
  refine vg_cons (vs_getfield (T := TX1) dX1_isInDanger_17 rfl (by decide) ww_inX1 q_10 rfl) ?_
  refine vg_cons (vs_cmp_gt dX1_isInDanger_20 (by decide) rfl) ?_
  refine vg_cons (vs_iconst dX1_isInDanger_23 rfl rfl) ?_
  refine vg_cons (vs_goto dX1_isInDanger_24 (by decide)) ?_
  refine vg_cons (vs_iconst dX1_isInDanger_27 rfl rfl) ?_
  refine vg_cons (vs_zreturn dX1_isInDanger_28 rfl) ?_
  exact fun _ h => absurd h List.not_mem_nil
theorem m_X1_isInDanger : vg_Code k_X1_isInDanger := fun q h => (s_X1_isInDanger q h).1

theorem w_X1_isInDanger : vg_Wd sp_X1_isInDanger 2 := by
  intro av σ h
  unfold sp_X1_isInDanger at h
  split at h
  · exact Nat.le_of_ble_eq_true rfl
  · exact h.elim
theorem g_X1_isInDanger : vg_G k_X1_isInDanger sp_X1_isInDanger := by
  intro av σ h
  unfold sp_X1_isInDanger at h ⊢
  split at h
  next b c =>
    have F : ∀ z, ¬ jDng (jV σ b) c.toNatClampNeg → z = (0 : Int32) → some (Sum.inl (Value.int z)) = (some (Sum.inl (Value.int (jb (jDng (jV σ b) c.toNatClampNeg)))) : Option vgV) := fun z hn e => by rw [e, jb_f hn]
    refine vg_run (cuts := []) m_X1_isInDanger 40 ?_
    refine And.intro h (And.intro (fun hc => ?_) (fun hc => And.intro h (And.intro (fun hd => ?_) (fun hd => ?_))))
    · exact And.intro (Or.inl rfl) (And.intro (F _ (fun z => z.1 hc) rfl) rfl)
    · exact And.intro (Or.inl rfl) (And.intro (F _ (fun z => z.2 hd) rfl) rfl)
    · exact And.intro (Or.inr rfl) (And.intro (congrArg (fun z => some (Sum.inl (Value.int z))) (jb_t (c := jDng (jV σ b) c.toNatClampNeg) ⟨hc, hd⟩).symm) rfl)
  next => exact h.elim
theorem c_X1_isInDanger : vg_MetF ww_tb ww_nw ww_shp ww_nm ww_cl ww_tyl yX1_isInDanger cX1_isInDanger 2 (some .boolean) 0 sp_X1_isInDanger := vg_met ww_closed (by decide +kernel) rfl s_X1_isInDanger w_X1_isInDanger g_X1_isInDanger
/-- sets of cells, laid bit by bit -/
def jSet (f : Nat → Prop) [DecidablePred f] : Nat → Int32
  | 0 => 0
  | n + 1 => if f n then jSet f n ||| ((1 : Int32) <<< (nI n &&& 31)) else jSet f n
def sp_X1_cellsInDanger : vgC := fun av σ => match av with
  | [.inr (1, b, 0)] => (True, some (.inl (.int (jSet (jDng (jV σ b)) 16))), σ)
  | _ => (False, none, σ)
def k_X1_cellsInDanger : List (Nat × vgF) := [(0, vi_icst (0) 1), (1, vi_istore 1 2), (2, vi_icst (0) 3), (3, vi_istore 2 4), (4, vi_iload 2 5), (5, vi_icst (16) 7), (7, vi_cmp (fun x y => y ≤ x) 30 10), (10, vi_aload 0 11), (11, vi_iload 2 12), (12, vi_callV ww_shp 1 sp_X1_isInDanger 1 15), (15, vi_if (fun x => x = 0) 24 18), (18, vi_iload 1 19), (19, vi_icst (1) 20), (20, vi_iload 2 21), (21, vi_bin (fun x y => x <<< (y &&& 31)) 22), (22, vi_bin (fun x y => x ||| y) 23), (23, vi_istore 1 24), (24, vi_iinc 2 (1) 27), (27, vi_goto 4), (30, vi_iload 1 31), (31, vi_ret)]
set_option maxRecDepth 20000 in
theorem s_X1_cellsInDanger : ∀ q ∈ k_X1_cellsInDanger, vg_Snd ww_tb ww_nw ww_shp ww_nm ww_cl ww_tyl cX1_cellsInDanger 3 RX1 (some .int) 1 q.1 q.2 := by
  refine vg_cons (vs_iconst dX1_cellsInDanger_0 rfl rfl) ?_
  refine vg_cons (vs_istore_n dX1_cellsInDanger_1 rfl (by decide) rfl) ?_
  refine vg_cons (vs_iconst dX1_cellsInDanger_2 rfl rfl) ?_
  refine vg_cons (vs_istore_n dX1_cellsInDanger_3 rfl (by decide) rfl) ?_
  refine vg_cons (vs_iload_n dX1_cellsInDanger_4 rfl rfl) ?_
  refine vg_cons (vs_bipush dX1_cellsInDanger_5 (by decide) rfl) ?_
  refine vg_cons (vs_cmp_ge dX1_cellsInDanger_7 (by decide) rfl) ?_
  refine vg_cons (vs_aload_n dX1_cellsInDanger_10 rfl rfl) ?_
  refine vg_cons (vs_iload_n dX1_cellsInDanger_11 rfl rfl) ?_
  refine vg_cons (vs_callV (T := TX1) c_X1_isInDanger dX1_cellsInDanger_12 rfl ww_good q_34 q_12 q_35 q_36 q_37 (by decide +kernel) (by decide) rfl) ?_
  refine vg_cons (vs_if_eq dX1_cellsInDanger_15 (by decide) rfl) ?_
  refine vg_cons (vs_iload_n dX1_cellsInDanger_18 rfl rfl) ?_
  refine vg_cons (vs_iconst dX1_cellsInDanger_19 rfl rfl) ?_
  refine vg_cons (vs_iload_n dX1_cellsInDanger_20 rfl rfl) ?_
  refine vg_cons (vs_ishl dX1_cellsInDanger_21 rfl) ?_
  refine vg_cons (vs_ior dX1_cellsInDanger_22 rfl) ?_
  refine vg_cons (vs_istore_n dX1_cellsInDanger_23 rfl (by decide) rfl) ?_
  refine vg_cons (vs_iinc dX1_cellsInDanger_24 rfl rfl) ?_
  refine vg_cons (vs_goto dX1_cellsInDanger_27 (by decide)) ?_
  refine vg_cons (vs_iload_n dX1_cellsInDanger_30 rfl rfl) ?_
  refine vg_cons (vs_ireturn dX1_cellsInDanger_31 rfl) ?_
  exact fun _ h => absurd h List.not_mem_nil
theorem m_X1_cellsInDanger : vg_Code k_X1_cellsInDanger := fun q h => (s_X1_cellsInDanger q h).1

theorem w_X1_cellsInDanger : vg_Wd sp_X1_cellsInDanger 3 := by
  intro av σ h
  unfold sp_X1_cellsInDanger at h
  split at h
  · exact Nat.le_of_ble_eq_true rfl
  · exact h.elim
theorem g_X1_cellsInDanger : vg_G k_X1_cellsInDanger sp_X1_cellsInDanger := by
  intro av σ h
  unfold sp_X1_cellsInDanger at h ⊢
  split at h
  next b =>
    refine vg_run (cuts := [(4, [0, 1, 2])]) m_X1_cellsInDanger 20 ?_
    refine vg_loop (fun i lv σ' => σ' = σ ∧ ∃ x a, x = nI i ∧ a = jSet (jDng (jV σ b)) i ∧ lv = [(0, .inr (1, b, 0)), (1, .inl (.int a)), (2, .inl (.int x))]) 16 ?_ ?_ 0 _ _ (Nat.zero_le _) ⟨rfl, 0, 0, rfl, rfl, rfl⟩
    · rintro i lv σ' hi ⟨e, x, a, hx, ha, rfl⟩ ih
      subst e
      have hc0 : x.toNatClampNeg = i := jcl hx (by omega)
      refine vg_run (cuts := [(4, [0, 1, 2])]) m_X1_cellsInDanger 20 ?_
      refine And.intro (fun hc => absurd ((jle (n := 16) rfl hx (by omega) (by omega)).mp hc) (by omega)) (fun _ => And.intro (jin hx hi (by omega)) (And.intro (fun hd => ?_) (fun hd => ?_)))
      · have hd' := jb_0.mp hd
        rw [hc0] at hd'
        exact ih _ _ ⟨rfl, x + 1, a, jinc hx, by rw [jSet, if_neg hd', ha], rfl⟩
      · have hd' : jDng (jV σ' b) x.toNatClampNeg := Classical.byContradiction (fun z => hd (jb_f z))
        rw [hc0] at hd'
        exact ih _ _ ⟨rfl, x + 1, a ||| ((1 : Int32) <<< (x &&& 31)), jinc hx, by rw [jSet, if_pos hd', ha, hx], rfl⟩
    · rintro lv σ' ⟨e, x, a, hx, ha, rfl⟩
      subst e
      refine vg_run (cuts := [(4, [0, 1, 2])]) m_X1_cellsInDanger 20 ?_
      refine And.intro (fun _ => And.intro (by rw [ha]) rfl) (fun hc => absurd ((jle (n := 16) rfl hx (by omega) (by omega)).mpr (Nat.le_refl _)) hc)
  next => exact h.elim
theorem c_X1_cellsInDanger : vg_MetF ww_tb ww_nw ww_shp ww_nm ww_cl ww_tyl yX1_cellsInDanger cX1_cellsInDanger 3 (some .int) 1 sp_X1_cellsInDanger := vg_met ww_closed (by decide +kernel) rfl s_X1_cellsInDanger w_X1_cellsInDanger g_X1_cellsInDanger
def sp_X1_countInForce : vgC := fun av σ => match av with
  | [.inr (1, b, 0)] => (jWf (jV σ b), some (.inl (.int (jSum (fun w => jb (¬ jV σ b 11 w 7 = 0)) (jWc (jV σ b))))), σ)
  | _ => (False, none, σ)
def k_X1_countInForce : List (Nat × vgF) := [(0, vi_icst (0) 1), (1, vi_istore 1 2), (2, vi_icst (0) 3), (3, vi_istore 2 4), (4, vi_iload 2 5), (5, vi_aload 0 6), (6, vi_get ww_shp 1 6 9), (9, vi_cmp (fun x y => y ≤ x) 38 12), (12, vi_iload 1 13), (13, vi_aload 0 14), (14, vi_get ww_shp 1 9 17), (17, vi_iload 2 18), (18, vi_aald ww_shp 4 19), (19, vi_get ww_shp 4 7 22), (22, vi_if (fun x => x = 0) 29 25), (25, vi_icst (1) 26), (26, vi_goto 30), (29, vi_icst (0) 30), (30, vi_bin (fun x y => x + y) 31), (31, vi_istore 1 32), (32, vi_iinc 2 (1) 35), (35, vi_goto 4), (38, vi_iload 1 39), (39, vi_ret)]
set_option maxRecDepth 20000 in
theorem s_X1_countInForce : ∀ q ∈ k_X1_countInForce, vg_Snd ww_tb ww_nw ww_shp ww_nm ww_cl ww_tyl cX1_countInForce 3 RX1 (some .int) 0 q.1 q.2 := by
  refine vg_cons (vs_iconst dX1_countInForce_0 rfl rfl) ?_
  refine vg_cons (vs_istore_n dX1_countInForce_1 rfl (by decide) rfl) ?_
  refine vg_cons (vs_iconst dX1_countInForce_2 rfl rfl) ?_
  refine vg_cons (vs_istore_n dX1_countInForce_3 rfl (by decide) rfl) ?_
  refine vg_cons (vs_iload_n dX1_countInForce_4 rfl rfl) ?_
  refine vg_cons (vs_aload_n dX1_countInForce_5 rfl rfl) ?_
  refine vg_cons (vs_getfield (T := TX1) dX1_countInForce_6 rfl (by decide) ww_inX1 q_16 rfl) ?_
  refine vg_cons (vs_cmp_ge dX1_countInForce_9 (by decide) rfl) ?_
  refine vg_cons (vs_iload_n dX1_countInForce_12 rfl rfl) ?_
  refine vg_cons (vs_aload_n dX1_countInForce_13 rfl rfl) ?_
  refine vg_cons (vs_getfield (T := TX1) dX1_countInForce_14 rfl (by decide) ww_inX1 q_17 rfl) ?_
  refine vg_cons (vs_iload_n dX1_countInForce_17 rfl rfl) ?_
  refine vg_cons (vs_aaload dX1_countInForce_18 rfl rfl) ?_
  refine vg_cons (vs_getfield (T := TX4) dX1_countInForce_19 rfl (by decide) ww_inX4 q_18 rfl) ?_
  refine vg_cons (vs_if_eq dX1_countInForce_22 (by decide) rfl) ?_
  refine vg_cons (vs_iconst dX1_countInForce_25 rfl rfl) ?_
  refine vg_cons (vs_goto dX1_countInForce_26 (by decide)) ?_
  refine vg_cons (vs_iconst dX1_countInForce_29 rfl rfl) ?_
  refine vg_cons (vs_iadd dX1_countInForce_30 rfl) ?_
  refine vg_cons (vs_istore_n dX1_countInForce_31 rfl (by decide) rfl) ?_
  refine vg_cons (vs_iinc dX1_countInForce_32 rfl rfl) ?_
  refine vg_cons (vs_goto dX1_countInForce_35 (by decide)) ?_
  refine vg_cons (vs_iload_n dX1_countInForce_38 rfl rfl) ?_
  refine vg_cons (vs_ireturn dX1_countInForce_39 rfl) ?_
  exact fun _ h => absurd h List.not_mem_nil
theorem m_X1_countInForce : vg_Code k_X1_countInForce := fun q h => (s_X1_countInForce q h).1

theorem w_X1_countInForce : vg_Wd sp_X1_countInForce 3 := by
  intro av σ h
  unfold sp_X1_countInForce at h
  split at h
  · exact Nat.le_of_ble_eq_true rfl
  · exact h.elim
theorem g_X1_countInForce : vg_G k_X1_countInForce sp_X1_countInForce := by
  intro av σ h
  unfold sp_X1_countInForce at h ⊢
  split at h
  next b =>
    have hwc := h.2.2.1
    have h12 := hwc.2
    refine vg_run (cuts := [(4, [0, 1, 2])]) m_X1_countInForce 20 ?_
    refine vg_loop (fun i lv σ' => σ' = σ ∧ ∃ x a, x = nI i ∧ a = jSum (fun w => jb (¬ jV σ b 11 w 7 = 0)) i ∧ lv = [(0, .inr (1, b, 0)), (1, .inl (.int a)), (2, .inl (.int x))]) (jWc (jV σ b)) ?_ ?_ 0 _ _ (Nat.zero_le _) ⟨rfl, 0, 0, rfl, rfl, rfl⟩
    · rintro i lv σ' hi ⟨e, x, a, hx, ha, rfl⟩ ih
      subst e
      have hc0 : x.toNatClampNeg = i := jcl hx (by omega)
      have hv : vp_in x 12 := jin hx (by omega) (by decide)
      refine vg_run (cuts := [(4, [0, 1, 2])]) m_X1_countInForce 40 ?_
      refine And.intro (fun hc => absurd ((jle hwc.1 hx (by omega) (by omega)).mp hc) (by omega)) (fun _ => ?_)
      refine And.intro hv (And.intro (fun hd => ?_) (fun hd => ?_))
      · rw [hc0] at hd
        have hd' : jV σ' b 11 i 7 = 0 := hd
        exact ih _ _ ⟨rfl, x + 1, a + 0, jinc hx, by rw [jSum, jb_f (fun z => z hd'), ha], rfl⟩
      · rw [hc0] at hd
        have hd' : ¬ jV σ' b 11 i 7 = 0 := hd
        exact ih _ _ ⟨rfl, x + 1, a + 1, jinc hx, by rw [jSum, jb_t hd', ha], rfl⟩
    · rintro lv σ' ⟨e, x, a, hx, ha, rfl⟩
      subst e
      refine vg_run (cuts := [(4, [0, 1, 2])]) m_X1_countInForce 20 ?_
      exact And.intro (fun _ => And.intro (by rw [ha]) rfl) (fun hc => absurd ((jle hwc.1 hx (by omega) (by omega)).mpr (Nat.le_refl _)) hc)
  next => exact h.elim
theorem c_X1_countInForce : vg_MetF ww_tb ww_nw ww_shp ww_nm ww_cl ww_tyl yX1_countInForce cX1_countInForce 3 (some .int) 0 sp_X1_countInForce := vg_met ww_closed (by decide +kernel) rfl s_X1_countInForce w_X1_countInForce g_X1_countInForce
def sp_X1_countAsleep : vgC := fun av σ => match av with
  | [.inr (1, b, 0)] => (jWf (jV σ b), some (.inl (.int (jSum (fun g => jb (jSleep (jV σ b) g)) (jGc (jV σ b))))), σ)
  | _ => (False, none, σ)
def k_X1_countAsleep : List (Nat × vgF) := [(0, vi_icst (0) 1), (1, vi_istore 1 2), (2, vi_icst (0) 3), (3, vi_istore 2 4), (4, vi_iload 2 5), (5, vi_aload 0 6), (6, vi_get ww_shp 1 4 9), (9, vi_cmp (fun x y => y ≤ x) 39 12), (12, vi_iload 1 13), (13, vi_aload 0 14), (14, vi_aload 0 15), (15, vi_get ww_shp 1 7 18), (18, vi_iload 2 19), (19, vi_aald ww_shp 2 20), (20, vi_callV ww_shp 1 sp_X1_isAsleep 1 23), (23, vi_if (fun x => x = 0) 30 26), (26, vi_icst (1) 27), (27, vi_goto 31), (30, vi_icst (0) 31), (31, vi_bin (fun x y => x + y) 32), (32, vi_istore 1 33), (33, vi_iinc 2 (1) 36), (36, vi_goto 4), (39, vi_iload 1 40), (40, vi_ret)]
set_option maxRecDepth 20000 in
theorem s_X1_countAsleep : ∀ q ∈ k_X1_countAsleep, vg_Snd ww_tb ww_nw ww_shp ww_nm ww_cl ww_tyl cX1_countAsleep 3 RX1 (some .int) 3 q.1 q.2 := by
  refine vg_cons (vs_iconst dX1_countAsleep_0 rfl rfl) ?_
  refine vg_cons (vs_istore_n dX1_countAsleep_1 rfl (by decide) rfl) ?_
  refine vg_cons (vs_iconst dX1_countAsleep_2 rfl rfl) ?_
  refine vg_cons (vs_istore_n dX1_countAsleep_3 rfl (by decide) rfl) ?_
  refine vg_cons (vs_iload_n dX1_countAsleep_4 rfl rfl) ?_
  refine vg_cons (vs_aload_n dX1_countAsleep_5 rfl rfl) ?_
  refine vg_cons (vs_getfield (T := TX1) dX1_countAsleep_6 rfl (by decide) ww_inX1 q_38 rfl) ?_
  refine vg_cons (vs_cmp_ge dX1_countAsleep_9 (by decide) rfl) ?_
  refine vg_cons (vs_iload_n dX1_countAsleep_12 rfl rfl) ?_
  refine vg_cons (vs_aload_n dX1_countAsleep_13 rfl rfl) ?_
  refine vg_cons (vs_aload_n dX1_countAsleep_14 rfl rfl) ?_
  refine vg_cons (vs_getfield (T := TX1) dX1_countAsleep_15 rfl (by decide) ww_inX1 q_39 rfl) ?_
  refine vg_cons (vs_iload_n dX1_countAsleep_18 rfl rfl) ?_
  refine vg_cons (vs_aaload dX1_countAsleep_19 rfl rfl) ?_
  refine vg_cons (vs_callV (T := TX1) c_X1_isAsleep dX1_countAsleep_20 rfl ww_good q_40 q_12 q_41 q_42 q_43 (by decide +kernel) (by decide) rfl) ?_
  refine vg_cons (vs_if_eq dX1_countAsleep_23 (by decide) rfl) ?_
  refine vg_cons (vs_iconst dX1_countAsleep_26 rfl rfl) ?_
  refine vg_cons (vs_goto dX1_countAsleep_27 (by decide)) ?_
  refine vg_cons (vs_iconst dX1_countAsleep_30 rfl rfl) ?_
  refine vg_cons (vs_iadd dX1_countAsleep_31 rfl) ?_
  refine vg_cons (vs_istore_n dX1_countAsleep_32 rfl (by decide) rfl) ?_
  refine vg_cons (vs_iinc dX1_countAsleep_33 rfl rfl) ?_
  refine vg_cons (vs_goto dX1_countAsleep_36 (by decide)) ?_
  refine vg_cons (vs_iload_n dX1_countAsleep_39 rfl rfl) ?_
  refine vg_cons (vs_ireturn dX1_countAsleep_40 rfl) ?_
  exact fun _ h => absurd h List.not_mem_nil
theorem m_X1_countAsleep : vg_Code k_X1_countAsleep := fun q h => (s_X1_countAsleep q h).1

theorem w_X1_countAsleep : vg_Wd sp_X1_countAsleep 3 := by
  intro av σ h
  unfold sp_X1_countAsleep at h
  split at h
  · exact Nat.le_of_ble_eq_true rfl
  · exact h.elim
theorem g_X1_countAsleep : vg_G k_X1_countAsleep sp_X1_countAsleep := by
  intro av σ h
  unfold sp_X1_countAsleep at h ⊢
  split at h
  next b =>
    have hgc := h.1
    have h8 := hgc.2
    refine vg_run (cuts := [(4, [0, 1, 2])]) m_X1_countAsleep 20 ?_
    refine vg_loop (fun i lv σ' => σ' = σ ∧ ∃ x a, x = nI i ∧ a = jSum (fun g => jb (jSleep (jV σ b) g)) i ∧ lv = [(0, .inr (1, b, 0)), (1, .inl (.int a)), (2, .inl (.int x))]) (jGc (jV σ b)) ?_ ?_ 0 _ _ (Nat.zero_le _) ⟨rfl, 0, 0, rfl, rfl, rfl⟩
    · rintro i lv σ' hi ⟨e, x, a, hx, ha, rfl⟩ ih
      subst e
      have hc0 : x.toNatClampNeg = i := jcl hx (by omega)
      have hv : vp_in x 8 := jin hx (by omega) (by decide)
      refine vg_run (cuts := [(4, [0, 1, 2])]) m_X1_countAsleep 40 ?_
      refine And.intro (fun hc => absurd ((jle hgc.1 hx (by omega) (by omega)).mp hc) (by omega)) (fun _ => ?_)
      refine And.intro hv (And.intro ⟨h, rfl⟩ (And.intro (fun hd => ?_) (fun hd => ?_)))
      · have hd' := jb_0.mp hd
        rw [hc0] at hd'
        exact ih _ _ ⟨rfl, x + 1, a + 0, jinc hx, by rw [jSum, jb_f hd', ha], rfl⟩
      · have hd' : jSleep (jV σ' b) x.toNatClampNeg := Classical.byContradiction (fun z => hd (jb_f z))
        rw [hc0] at hd'
        exact ih _ _ ⟨rfl, x + 1, a + 1, jinc hx, by rw [jSum, jb_t hd', ha], rfl⟩
    · rintro lv σ' ⟨e, x, a, hx, ha, rfl⟩
      subst e
      refine vg_run (cuts := [(4, [0, 1, 2])]) m_X1_countAsleep 20 ?_
      exact And.intro (fun _ => And.intro (by rw [ha]) rfl) (fun hc => absurd ((jle hgc.1 hx (by omega) (by omega)).mpr (Nat.le_refl _)) hc)
  next => exact h.elim
theorem c_X1_countAsleep : vg_MetF ww_tb ww_nw ww_shp ww_nm ww_cl ww_tyl yX1_countAsleep cX1_countAsleep 3 (some .int) 3 sp_X1_countAsleep := vg_met ww_closed (by decide +kernel) rfl s_X1_countAsleep w_X1_countAsleep g_X1_countAsleep
def sp_X1_countBelievers : vgC := fun av σ => match av with
  | [.inr (1, b, 0), .inl (.int w)] => (jWf (jV σ b) ∧ vp_in w 12, some (.inl (.int (jSum (fun g => jb (¬ jV σ b 18 g w.toNatClampNeg = -1)) (jGc (jV σ b))))), σ)
  | _ => (False, none, σ)
def k_X1_countBelievers : List (Nat × vgF) := [(0, vi_icst (0) 1), (1, vi_istore 2 2), (2, vi_icst (0) 3), (3, vi_istore 3 4), (4, vi_iload 3 5), (5, vi_aload 0 6), (6, vi_get ww_shp 1 4 9), (9, vi_cmp (fun x y => y ≤ x) 41 12), (12, vi_iload 2 13), (13, vi_aload 0 14), (14, vi_get ww_shp 1 7 17), (17, vi_iload 3 18), (18, vi_aald ww_shp 2 19), (19, vi_get ww_shp 5 12 22), (22, vi_iload 1 23), (23, vi_ald ww_shp 0 24), (24, vi_icst (-1) 25), (25, vi_cmp (fun x y => x = y) 32 28), (28, vi_icst (1) 29), (29, vi_goto 33), (32, vi_icst (0) 33), (33, vi_bin (fun x y => x + y) 34), (34, vi_istore 2 35), (35, vi_iinc 3 (1) 38), (38, vi_goto 4), (41, vi_iload 2 42), (42, vi_ret)]
set_option maxRecDepth 20000 in
theorem s_X1_countBelievers : ∀ q ∈ k_X1_countBelievers, vg_Snd ww_tb ww_nw ww_shp ww_nm ww_cl ww_tyl cX1_countBelievers 4 RX1 (some .int) 0 q.1 q.2 := by
  refine vg_cons (vs_iconst dX1_countBelievers_0 rfl rfl) ?_
  refine vg_cons (vs_istore_n dX1_countBelievers_1 rfl (by decide) rfl) ?_
  refine vg_cons (vs_iconst dX1_countBelievers_2 rfl rfl) ?_
  refine vg_cons (vs_istore_n dX1_countBelievers_3 rfl (by decide) rfl) ?_
  refine vg_cons (vs_iload_n dX1_countBelievers_4 rfl rfl) ?_
  refine vg_cons (vs_aload_n dX1_countBelievers_5 rfl rfl) ?_
  refine vg_cons (vs_getfield (T := TX1) dX1_countBelievers_6 rfl (by decide) ww_inX1 q_38 rfl) ?_
  refine vg_cons (vs_cmp_ge dX1_countBelievers_9 (by decide) rfl) ?_
  refine vg_cons (vs_iload_n dX1_countBelievers_12 rfl rfl) ?_
  refine vg_cons (vs_aload_n dX1_countBelievers_13 rfl rfl) ?_
  refine vg_cons (vs_getfield (T := TX1) dX1_countBelievers_14 rfl (by decide) ww_inX1 q_39 rfl) ?_
  refine vg_cons (vs_iload_n dX1_countBelievers_17 rfl rfl) ?_
  refine vg_cons (vs_aaload dX1_countBelievers_18 rfl rfl) ?_
  refine vg_cons (vs_getfield (T := TX0) dX1_countBelievers_19 rfl (by decide) ww_inX0 q_19 rfl) ?_
  refine vg_cons (vs_iload_n dX1_countBelievers_22 rfl rfl) ?_
  refine vg_cons (vs_iaload dX1_countBelievers_23 rfl rfl) ?_
  refine vg_cons (vs_iconst dX1_countBelievers_24 rfl rfl) ?_
  refine vg_cons (vs_cmp_eq dX1_countBelievers_25 (by decide) rfl) ?_
  refine vg_cons (vs_iconst dX1_countBelievers_28 rfl rfl) ?_
  refine vg_cons (vs_goto dX1_countBelievers_29 (by decide)) ?_
  refine vg_cons (vs_iconst dX1_countBelievers_32 rfl rfl) ?_
  refine vg_cons (vs_iadd dX1_countBelievers_33 rfl) ?_
  refine vg_cons (vs_istore_n dX1_countBelievers_34 rfl (by decide) rfl) ?_
  refine vg_cons (vs_iinc dX1_countBelievers_35 rfl rfl) ?_
  refine vg_cons (vs_goto dX1_countBelievers_38 (by decide)) ?_
  refine vg_cons (vs_iload_n dX1_countBelievers_41 rfl rfl) ?_
  refine vg_cons (vs_ireturn dX1_countBelievers_42 rfl) ?_
  exact fun _ h => absurd h List.not_mem_nil
theorem m_X1_countBelievers : vg_Code k_X1_countBelievers := fun q h => (s_X1_countBelievers q h).1

theorem w_X1_countBelievers : vg_Wd sp_X1_countBelievers 4 := by
  intro av σ h
  unfold sp_X1_countBelievers at h
  split at h
  · exact Nat.le_of_ble_eq_true rfl
  · exact h.elim
theorem g_X1_countBelievers : vg_G k_X1_countBelievers sp_X1_countBelievers := by
  intro av σ h
  unfold sp_X1_countBelievers at h ⊢
  split at h
  next b w =>
    obtain ⟨h, hw12⟩ := h
    have hgc := h.1
    have h8 := hgc.2
    refine vg_run (cuts := [(4, [0, 1, 2, 3])]) m_X1_countBelievers 20 ?_
    refine vg_loop (fun i lv σ' => σ' = σ ∧ ∃ x a, x = nI i ∧ a = jSum (fun g => jb (¬ jV σ b 18 g w.toNatClampNeg = -1)) i ∧ lv = [(0, .inr (1, b, 0)), (1, .inl (.int w)), (2, .inl (.int a)), (3, .inl (.int x))]) (jGc (jV σ b)) ?_ ?_ 0 _ _ (Nat.zero_le _) ⟨rfl, 0, 0, rfl, rfl, rfl⟩
    · rintro i lv σ' hi ⟨e, x, a, hx, ha, rfl⟩ ih
      subst e
      have hc0 : x.toNatClampNeg = i := jcl hx (by omega)
      have hv : vp_in x 8 := jin hx (by omega) (by decide)
      refine vg_run (cuts := [(4, [0, 1, 2, 3])]) m_X1_countBelievers 40 ?_
      refine And.intro (fun hc => absurd ((jle hgc.1 hx (by omega) (by omega)).mp hc) (by omega)) (fun _ => ?_)
      refine And.intro hv (And.intro hw12 (And.intro (fun hd => ?_) (fun hd => ?_)))
      · rw [hc0] at hd
        have hd' : jV σ' b 18 i w.toNatClampNeg = -1 := hd
        exact ih _ _ ⟨rfl, x + 1, a + 0, jinc hx, by rw [jSum, jb_f (fun z => z hd'), ha], rfl⟩
      · rw [hc0] at hd
        have hd' : ¬ jV σ' b 18 i w.toNatClampNeg = -1 := hd
        exact ih _ _ ⟨rfl, x + 1, a + 1, jinc hx, by rw [jSum, jb_t hd', ha], rfl⟩
    · rintro lv σ' ⟨e, x, a, hx, ha, rfl⟩
      subst e
      refine vg_run (cuts := [(4, [0, 1, 2, 3])]) m_X1_countBelievers 20 ?_
      exact And.intro (fun _ => And.intro (by rw [ha]) rfl) (fun hc => absurd ((jle hgc.1 hx (by omega) (by omega)).mpr (Nat.le_refl _)) hc)
  next => exact h.elim
theorem c_X1_countBelievers : vg_MetF ww_tb ww_nw ww_shp ww_nm ww_cl ww_tyl yX1_countBelievers cX1_countBelievers 4 (some .int) 0 sp_X1_countBelievers := vg_met ww_closed (by decide +kernel) rfl s_X1_countBelievers w_X1_countBelievers g_X1_countBelievers
def sp_X1_peopleOfAll : vgC := fun av σ => match av with
  | [.inr (1, b, 0)] => (jWf (jV σ b), some (.inl (.int (jSum (fun g => jV σ b 9 g 1) (jGc (jV σ b))))), σ)
  | _ => (False, none, σ)
def k_X1_peopleOfAll : List (Nat × vgF) := [(0, vi_icst (0) 1), (1, vi_istore 1 2), (2, vi_icst (0) 3), (3, vi_istore 2 4), (4, vi_iload 2 5), (5, vi_aload 0 6), (6, vi_get ww_shp 1 4 9), (9, vi_cmp (fun x y => y ≤ x) 30 12), (12, vi_iload 1 13), (13, vi_aload 0 14), (14, vi_get ww_shp 1 7 17), (17, vi_iload 2 18), (18, vi_aald ww_shp 2 19), (19, vi_get ww_shp 5 1 22), (22, vi_bin (fun x y => x + y) 23), (23, vi_istore 1 24), (24, vi_iinc 2 (1) 27), (27, vi_goto 4), (30, vi_iload 1 31), (31, vi_ret)]
set_option maxRecDepth 20000 in
theorem s_X1_peopleOfAll : ∀ q ∈ k_X1_peopleOfAll, vg_Snd ww_tb ww_nw ww_shp ww_nm ww_cl ww_tyl cX1_peopleOfAll 3 RX1 (some .int) 0 q.1 q.2 := by
  refine vg_cons (vs_iconst dX1_peopleOfAll_0 rfl rfl) ?_
  refine vg_cons (vs_istore_n dX1_peopleOfAll_1 rfl (by decide) rfl) ?_
  refine vg_cons (vs_iconst dX1_peopleOfAll_2 rfl rfl) ?_
  refine vg_cons (vs_istore_n dX1_peopleOfAll_3 rfl (by decide) rfl) ?_
  refine vg_cons (vs_iload_n dX1_peopleOfAll_4 rfl rfl) ?_
  refine vg_cons (vs_aload_n dX1_peopleOfAll_5 rfl rfl) ?_
  refine vg_cons (vs_getfield (T := TX1) dX1_peopleOfAll_6 rfl (by decide) ww_inX1 q_38 rfl) ?_
  refine vg_cons (vs_cmp_ge dX1_peopleOfAll_9 (by decide) rfl) ?_
  refine vg_cons (vs_iload_n dX1_peopleOfAll_12 rfl rfl) ?_
  refine vg_cons (vs_aload_n dX1_peopleOfAll_13 rfl rfl) ?_
  refine vg_cons (vs_getfield (T := TX1) dX1_peopleOfAll_14 rfl (by decide) ww_inX1 q_39 rfl) ?_
  refine vg_cons (vs_iload_n dX1_peopleOfAll_17 rfl rfl) ?_
  refine vg_cons (vs_aaload dX1_peopleOfAll_18 rfl rfl) ?_
  refine vg_cons (vs_getfield (T := TX0) dX1_peopleOfAll_19 rfl (by decide) ww_inX0 q_44 rfl) ?_
  refine vg_cons (vs_iadd dX1_peopleOfAll_22 rfl) ?_
  refine vg_cons (vs_istore_n dX1_peopleOfAll_23 rfl (by decide) rfl) ?_
  refine vg_cons (vs_iinc dX1_peopleOfAll_24 rfl rfl) ?_
  refine vg_cons (vs_goto dX1_peopleOfAll_27 (by decide)) ?_
  refine vg_cons (vs_iload_n dX1_peopleOfAll_30 rfl rfl) ?_
  refine vg_cons (vs_ireturn dX1_peopleOfAll_31 rfl) ?_
  exact fun _ h => absurd h List.not_mem_nil
theorem m_X1_peopleOfAll : vg_Code k_X1_peopleOfAll := fun q h => (s_X1_peopleOfAll q h).1

theorem w_X1_peopleOfAll : vg_Wd sp_X1_peopleOfAll 3 := by
  intro av σ h
  unfold sp_X1_peopleOfAll at h
  split at h
  · exact Nat.le_of_ble_eq_true rfl
  · exact h.elim
theorem g_X1_peopleOfAll : vg_G k_X1_peopleOfAll sp_X1_peopleOfAll := by
  intro av σ h
  unfold sp_X1_peopleOfAll at h ⊢
  split at h
  next b =>
    have hgc := h.1
    have h8 := hgc.2
    refine vg_run (cuts := [(4, [0, 1, 2])]) m_X1_peopleOfAll 20 ?_
    refine vg_loop (fun i lv σ' => σ' = σ ∧ ∃ x a, x = nI i ∧ a = jSum (fun g => jV σ b 9 g 1) i ∧ lv = [(0, .inr (1, b, 0)), (1, .inl (.int a)), (2, .inl (.int x))]) (jGc (jV σ b)) ?_ ?_ 0 _ _ (Nat.zero_le _) ⟨rfl, 0, 0, rfl, rfl, rfl⟩
    · rintro i lv σ' hi ⟨e, x, a, hx, ha, rfl⟩ ih
      subst e
      have hc0 : x.toNatClampNeg = i := jcl hx (by omega)
      have hv : vp_in x 8 := jin hx (by omega) (by decide)
      refine vg_run (cuts := [(4, [0, 1, 2])]) m_X1_peopleOfAll 40 ?_
      refine And.intro (fun hc => absurd ((jle hgc.1 hx (by omega) (by omega)).mp hc) (by omega)) (fun _ => ?_)
      refine And.intro hv ?_
      exact ih _ _ ⟨rfl, x + 1, a + σ' (9, b, x.toNatClampNeg) 1, jinc hx, by rw [jSum, hc0, ha]; rfl, rfl⟩
    · rintro lv σ' ⟨e, x, a, hx, ha, rfl⟩
      subst e
      refine vg_run (cuts := [(4, [0, 1, 2])]) m_X1_peopleOfAll 20 ?_
      exact And.intro (fun _ => And.intro (by rw [ha]) rfl) (fun hc => absurd ((jle hgc.1 hx (by omega) (by omega)).mpr (Nat.le_refl _)) hc)
  next => exact h.elim
theorem c_X1_peopleOfAll : vg_MetF ww_tb ww_nw ww_shp ww_nm ww_cl ww_tyl yX1_peopleOfAll cX1_peopleOfAll 3 (some .int) 0 sp_X1_peopleOfAll := vg_met ww_closed (by decide +kernel) rfl s_X1_peopleOfAll w_X1_peopleOfAll g_X1_peopleOfAll
def sp_X1_peopleSafe : vgC := fun av σ => match av with
  | [.inr (1, b, 0)] => (jWf (jV σ b), some (.inl (.int (jSum (fun g => if jSafe (jV σ b) g then jV σ b 9 g 1 else 0) (jGc (jV σ b))))), σ)
  | _ => (False, none, σ)
def k_X1_peopleSafe : List (Nat × vgF) := [(0, vi_icst (0) 1), (1, vi_istore 1 2), (2, vi_icst (0) 3), (3, vi_istore 2 4), (4, vi_iload 2 5), (5, vi_aload 0 6), (6, vi_get ww_shp 1 4 9), (9, vi_cmp (fun x y => y ≤ x) 46 12), (12, vi_iload 1 13), (13, vi_aload 0 14), (14, vi_get ww_shp 1 7 17), (17, vi_iload 2 18), (18, vi_aald ww_shp 2 19), (19, vi_callV ww_shp 5 sp_X0_isSafe 0 22), (22, vi_if (fun x => x = 0) 37 25), (25, vi_aload 0 26), (26, vi_get ww_shp 1 7 29), (29, vi_iload 2 30), (30, vi_aald ww_shp 2 31), (31, vi_get ww_shp 5 1 34), (34, vi_goto 38), (37, vi_icst (0) 38), (38, vi_bin (fun x y => x + y) 39), (39, vi_istore 1 40), (40, vi_iinc 2 (1) 43), (43, vi_goto 4), (46, vi_iload 1 47), (47, vi_ret)]
set_option maxRecDepth 20000 in
theorem s_X1_peopleSafe : ∀ q ∈ k_X1_peopleSafe, vg_Snd ww_tb ww_nw ww_shp ww_nm ww_cl ww_tyl cX1_peopleSafe 3 RX1 (some .int) 1 q.1 q.2 := by
  refine vg_cons (vs_iconst dX1_peopleSafe_0 rfl rfl) ?_
  refine vg_cons (vs_istore_n dX1_peopleSafe_1 rfl (by decide) rfl) ?_
  refine vg_cons (vs_iconst dX1_peopleSafe_2 rfl rfl) ?_
  refine vg_cons (vs_istore_n dX1_peopleSafe_3 rfl (by decide) rfl) ?_
  refine vg_cons (vs_iload_n dX1_peopleSafe_4 rfl rfl) ?_
  refine vg_cons (vs_aload_n dX1_peopleSafe_5 rfl rfl) ?_
  refine vg_cons (vs_getfield (T := TX1) dX1_peopleSafe_6 rfl (by decide) ww_inX1 q_38 rfl) ?_
  refine vg_cons (vs_cmp_ge dX1_peopleSafe_9 (by decide) rfl) ?_
  refine vg_cons (vs_iload_n dX1_peopleSafe_12 rfl rfl) ?_
  refine vg_cons (vs_aload_n dX1_peopleSafe_13 rfl rfl) ?_
  refine vg_cons (vs_getfield (T := TX1) dX1_peopleSafe_14 rfl (by decide) ww_inX1 q_39 rfl) ?_
  refine vg_cons (vs_iload_n dX1_peopleSafe_17 rfl rfl) ?_
  refine vg_cons (vs_aaload dX1_peopleSafe_18 rfl rfl) ?_
  refine vg_cons (vs_callV (T := TX0) c_X0_isSafe dX1_peopleSafe_19 rfl ww_good q_45 q_21 q_46 q_47 q_48 (by decide +kernel) (by decide) rfl) ?_
  refine vg_cons (vs_if_eq dX1_peopleSafe_22 (by decide) rfl) ?_
  refine vg_cons (vs_aload_n dX1_peopleSafe_25 rfl rfl) ?_
  refine vg_cons (vs_getfield (T := TX1) dX1_peopleSafe_26 rfl (by decide) ww_inX1 q_39 rfl) ?_
  refine vg_cons (vs_iload_n dX1_peopleSafe_29 rfl rfl) ?_
  refine vg_cons (vs_aaload dX1_peopleSafe_30 rfl rfl) ?_
  refine vg_cons (vs_getfield (T := TX0) dX1_peopleSafe_31 rfl (by decide) ww_inX0 q_44 rfl) ?_
  refine vg_cons (vs_goto dX1_peopleSafe_34 (by decide)) ?_
  refine vg_cons (vs_iconst dX1_peopleSafe_37 rfl rfl) ?_
  refine vg_cons (vs_iadd dX1_peopleSafe_38 rfl) ?_
  refine vg_cons (vs_istore_n dX1_peopleSafe_39 rfl (by decide) rfl) ?_
  refine vg_cons (vs_iinc dX1_peopleSafe_40 rfl rfl) ?_
  refine vg_cons (vs_goto dX1_peopleSafe_43 (by decide)) ?_
  refine vg_cons (vs_iload_n dX1_peopleSafe_46 rfl rfl) ?_
  refine vg_cons (vs_ireturn dX1_peopleSafe_47 rfl) ?_
  exact fun _ h => absurd h List.not_mem_nil
theorem m_X1_peopleSafe : vg_Code k_X1_peopleSafe := fun q h => (s_X1_peopleSafe q h).1

theorem w_X1_peopleSafe : vg_Wd sp_X1_peopleSafe 3 := by
  intro av σ h
  unfold sp_X1_peopleSafe at h
  split at h
  · exact Nat.le_of_ble_eq_true rfl
  · exact h.elim
theorem g_X1_peopleSafe : vg_G k_X1_peopleSafe sp_X1_peopleSafe := by
  intro av σ h
  unfold sp_X1_peopleSafe at h ⊢
  split at h
  next b =>
    have hgc := h.1
    have h8 := hgc.2
    refine vg_run (cuts := [(4, [0, 1, 2])]) m_X1_peopleSafe 20 ?_
    refine vg_loop (fun i lv σ' => σ' = σ ∧ ∃ x a, x = nI i ∧ a = jSum (fun g => if jSafe (jV σ b) g then jV σ b 9 g 1 else 0) i ∧ lv = [(0, .inr (1, b, 0)), (1, .inl (.int a)), (2, .inl (.int x))]) (jGc (jV σ b)) ?_ ?_ 0 _ _ (Nat.zero_le _) ⟨rfl, 0, 0, rfl, rfl, rfl⟩
    · rintro i lv σ' hi ⟨e, x, a, hx, ha, rfl⟩ ih
      subst e
      have hc0 : x.toNatClampNeg = i := jcl hx (by omega)
      have hv : vp_in x 8 := jin hx (by omega) (by decide)
      refine vg_run (cuts := [(4, [0, 1, 2])]) m_X1_peopleSafe 40 ?_
      refine And.intro (fun hc => absurd ((jle hgc.1 hx (by omega) (by omega)).mp hc) (by omega)) (fun _ => ?_)
      refine And.intro hv (And.intro trivial (And.intro (fun hd => ?_) (fun hd => And.intro hv ?_)))
      · have hd' := jb_0.mp hd
        rw [hc0] at hd'
        exact ih _ _ ⟨rfl, x + 1, a + 0, jinc hx, by rw [jSum, if_neg hd', ha], rfl⟩
      · have hd' : jSafe (jV σ' b) x.toNatClampNeg := Classical.byContradiction (fun z => hd (jb_f z))
        rw [hc0] at hd'
        exact ih _ _ ⟨rfl, x + 1, a + σ' (9, b, x.toNatClampNeg) 1, jinc hx, by rw [jSum, if_pos hd', hc0, ha]; rfl, rfl⟩
    · rintro lv σ' ⟨e, x, a, hx, ha, rfl⟩
      subst e
      refine vg_run (cuts := [(4, [0, 1, 2])]) m_X1_peopleSafe 20 ?_
      exact And.intro (fun _ => And.intro (by rw [ha]) rfl) (fun hc => absurd ((jle hgc.1 hx (by omega) (by omega)).mpr (Nat.le_refl _)) hc)
  next => exact h.elim
theorem c_X1_peopleSafe : vg_MetF ww_tb ww_nw ww_shp ww_nm ww_cl ww_tyl yX1_peopleSafe cX1_peopleSafe 3 (some .int) 1 sp_X1_peopleSafe := vg_met ww_closed (by decide +kernel) rfl s_X1_peopleSafe w_X1_peopleSafe g_X1_peopleSafe
def sp_X1_peopleGone : vgC := fun av σ => match av with
  | [.inr (1, b, 0)] => (jWf (jV σ b), some (.inl (.int (jSum (fun g => if jGone (jV σ b) g then jV σ b 9 g 1 else 0) (jGc (jV σ b))))), σ)
  | _ => (False, none, σ)
def k_X1_peopleGone : List (Nat × vgF) := [(0, vi_icst (0) 1), (1, vi_istore 1 2), (2, vi_icst (0) 3), (3, vi_istore 2 4), (4, vi_iload 2 5), (5, vi_aload 0 6), (6, vi_get ww_shp 1 4 9), (9, vi_cmp (fun x y => y ≤ x) 46 12), (12, vi_iload 1 13), (13, vi_aload 0 14), (14, vi_get ww_shp 1 7 17), (17, vi_iload 2 18), (18, vi_aald ww_shp 2 19), (19, vi_callV ww_shp 5 sp_X0_isGone 0 22), (22, vi_if (fun x => x = 0) 37 25), (25, vi_aload 0 26), (26, vi_get ww_shp 1 7 29), (29, vi_iload 2 30), (30, vi_aald ww_shp 2 31), (31, vi_get ww_shp 5 1 34), (34, vi_goto 38), (37, vi_icst (0) 38), (38, vi_bin (fun x y => x + y) 39), (39, vi_istore 1 40), (40, vi_iinc 2 (1) 43), (43, vi_goto 4), (46, vi_iload 1 47), (47, vi_ret)]
set_option maxRecDepth 20000 in
theorem s_X1_peopleGone : ∀ q ∈ k_X1_peopleGone, vg_Snd ww_tb ww_nw ww_shp ww_nm ww_cl ww_tyl cX1_peopleGone 3 RX1 (some .int) 1 q.1 q.2 := by
  refine vg_cons (vs_iconst dX1_peopleGone_0 rfl rfl) ?_
  refine vg_cons (vs_istore_n dX1_peopleGone_1 rfl (by decide) rfl) ?_
  refine vg_cons (vs_iconst dX1_peopleGone_2 rfl rfl) ?_
  refine vg_cons (vs_istore_n dX1_peopleGone_3 rfl (by decide) rfl) ?_
  refine vg_cons (vs_iload_n dX1_peopleGone_4 rfl rfl) ?_
  refine vg_cons (vs_aload_n dX1_peopleGone_5 rfl rfl) ?_
  refine vg_cons (vs_getfield (T := TX1) dX1_peopleGone_6 rfl (by decide) ww_inX1 q_38 rfl) ?_
  refine vg_cons (vs_cmp_ge dX1_peopleGone_9 (by decide) rfl) ?_
  refine vg_cons (vs_iload_n dX1_peopleGone_12 rfl rfl) ?_
  refine vg_cons (vs_aload_n dX1_peopleGone_13 rfl rfl) ?_
  refine vg_cons (vs_getfield (T := TX1) dX1_peopleGone_14 rfl (by decide) ww_inX1 q_39 rfl) ?_
  refine vg_cons (vs_iload_n dX1_peopleGone_17 rfl rfl) ?_
  refine vg_cons (vs_aaload dX1_peopleGone_18 rfl rfl) ?_
  refine vg_cons (vs_callV (T := TX0) c_X0_isGone dX1_peopleGone_19 rfl ww_good q_20 q_21 q_22 q_23 q_24 (by decide +kernel) (by decide) rfl) ?_
  refine vg_cons (vs_if_eq dX1_peopleGone_22 (by decide) rfl) ?_
  refine vg_cons (vs_aload_n dX1_peopleGone_25 rfl rfl) ?_
  refine vg_cons (vs_getfield (T := TX1) dX1_peopleGone_26 rfl (by decide) ww_inX1 q_39 rfl) ?_
  refine vg_cons (vs_iload_n dX1_peopleGone_29 rfl rfl) ?_
  refine vg_cons (vs_aaload dX1_peopleGone_30 rfl rfl) ?_
  refine vg_cons (vs_getfield (T := TX0) dX1_peopleGone_31 rfl (by decide) ww_inX0 q_44 rfl) ?_
  refine vg_cons (vs_goto dX1_peopleGone_34 (by decide)) ?_
  refine vg_cons (vs_iconst dX1_peopleGone_37 rfl rfl) ?_
  refine vg_cons (vs_iadd dX1_peopleGone_38 rfl) ?_
  refine vg_cons (vs_istore_n dX1_peopleGone_39 rfl (by decide) rfl) ?_
  refine vg_cons (vs_iinc dX1_peopleGone_40 rfl rfl) ?_
  refine vg_cons (vs_goto dX1_peopleGone_43 (by decide)) ?_
  refine vg_cons (vs_iload_n dX1_peopleGone_46 rfl rfl) ?_
  refine vg_cons (vs_ireturn dX1_peopleGone_47 rfl) ?_
  exact fun _ h => absurd h List.not_mem_nil
theorem m_X1_peopleGone : vg_Code k_X1_peopleGone := fun q h => (s_X1_peopleGone q h).1

theorem w_X1_peopleGone : vg_Wd sp_X1_peopleGone 3 := by
  intro av σ h
  unfold sp_X1_peopleGone at h
  split at h
  · exact Nat.le_of_ble_eq_true rfl
  · exact h.elim
theorem g_X1_peopleGone : vg_G k_X1_peopleGone sp_X1_peopleGone := by
  intro av σ h
  unfold sp_X1_peopleGone at h ⊢
  split at h
  next b =>
    have hgc := h.1
    have h8 := hgc.2
    refine vg_run (cuts := [(4, [0, 1, 2])]) m_X1_peopleGone 20 ?_
    refine vg_loop (fun i lv σ' => σ' = σ ∧ ∃ x a, x = nI i ∧ a = jSum (fun g => if jGone (jV σ b) g then jV σ b 9 g 1 else 0) i ∧ lv = [(0, .inr (1, b, 0)), (1, .inl (.int a)), (2, .inl (.int x))]) (jGc (jV σ b)) ?_ ?_ 0 _ _ (Nat.zero_le _) ⟨rfl, 0, 0, rfl, rfl, rfl⟩
    · rintro i lv σ' hi ⟨e, x, a, hx, ha, rfl⟩ ih
      subst e
      have hc0 : x.toNatClampNeg = i := jcl hx (by omega)
      have hv : vp_in x 8 := jin hx (by omega) (by decide)
      refine vg_run (cuts := [(4, [0, 1, 2])]) m_X1_peopleGone 40 ?_
      refine And.intro (fun hc => absurd ((jle hgc.1 hx (by omega) (by omega)).mp hc) (by omega)) (fun _ => ?_)
      refine And.intro hv (And.intro trivial (And.intro (fun hd => ?_) (fun hd => And.intro hv ?_)))
      · have hd' := jb_0.mp hd
        rw [hc0] at hd'
        exact ih _ _ ⟨rfl, x + 1, a + 0, jinc hx, by rw [jSum, if_neg hd', ha], rfl⟩
      · have hd' : jGone (jV σ' b) x.toNatClampNeg := Classical.byContradiction (fun z => hd (jb_f z))
        rw [hc0] at hd'
        exact ih _ _ ⟨rfl, x + 1, a + σ' (9, b, x.toNatClampNeg) 1, jinc hx, by rw [jSum, if_pos hd', hc0, ha]; rfl, rfl⟩
    · rintro lv σ' ⟨e, x, a, hx, ha, rfl⟩
      subst e
      refine vg_run (cuts := [(4, [0, 1, 2])]) m_X1_peopleGone 20 ?_
      exact And.intro (fun _ => And.intro (by rw [ha]) rfl) (fun hc => absurd ((jle hgc.1 hx (by omega) (by omega)).mpr (Nat.le_refl _)) hc)
  next => exact h.elim
theorem c_X1_peopleGone : vg_MetF ww_tb ww_nw ww_shp ww_nm ww_cl ww_tyl yX1_peopleGone cX1_peopleGone 3 (some .int) 1 sp_X1_peopleGone := vg_met ww_closed (by decide +kernel) rfl s_X1_peopleGone w_X1_peopleGone g_X1_peopleGone
def sp_X1_peopleIn : vgC := fun av σ => match av with
  | [.inr (1, b, 0), .inl (.int s)] => (jWf (jV σ b), some (.inl (.int (jSum (fun g => if ¬ jGone (jV σ b) g ∧ ¬ jIn s (jV σ b 9 g 0) = 0 then jV σ b 9 g 1 else 0) (jGc (jV σ b))))), σ)
  | _ => (False, none, σ)
def k_X1_peopleIn : List (Nat × vgF) := [(0, vi_icst (0) 1), (1, vi_istore 2 2), (2, vi_icst (0) 3), (3, vi_istore 3 4), (4, vi_iload 3 5), (5, vi_aload 0 6), (6, vi_get ww_shp 1 4 9), (9, vi_cmp (fun x y => y ≤ x) 62 12), (12, vi_iload 2 13), (13, vi_aload 0 14), (14, vi_get ww_shp 1 7 17), (17, vi_iload 3 18), (18, vi_aald ww_shp 2 19), (19, vi_callV ww_shp 5 sp_X0_isGone 0 22), (22, vi_if (fun x => x = 0) 25 53), (25, vi_iload 1 26), (26, vi_aload 0 27), (27, vi_get ww_shp 1 7 30), (30, vi_iload 3 31), (31, vi_aald ww_shp 2 32), (32, vi_get ww_shp 5 0 35), (35, vi_callS sp_X5_isIn 2 38), (38, vi_if (fun x => x = 0) 53 41), (41, vi_aload 0 42), (42, vi_get ww_shp 1 7 45), (45, vi_iload 3 46), (46, vi_aald ww_shp 2 47), (47, vi_get ww_shp 5 1 50), (50, vi_goto 54), (53, vi_icst (0) 54), (54, vi_bin (fun x y => x + y) 55), (55, vi_istore 2 56), (56, vi_iinc 3 (1) 59), (59, vi_goto 4), (62, vi_iload 2 63), (63, vi_ret)]
set_option maxRecDepth 20000 in
theorem s_X1_peopleIn : ∀ q ∈ k_X1_peopleIn, vg_Snd ww_tb ww_nw ww_shp ww_nm ww_cl ww_tyl cX1_peopleIn 4 RX1 (some .int) 1 q.1 q.2 := by
  refine vg_cons (vs_iconst dX1_peopleIn_0 rfl rfl) ?_
  refine vg_cons (vs_istore_n dX1_peopleIn_1 rfl (by decide) rfl) ?_
  refine vg_cons (vs_iconst dX1_peopleIn_2 rfl rfl) ?_
  refine vg_cons (vs_istore_n dX1_peopleIn_3 rfl (by decide) rfl) ?_
  refine vg_cons (vs_iload_n dX1_peopleIn_4 rfl rfl) ?_
  refine vg_cons (vs_aload_n dX1_peopleIn_5 rfl rfl) ?_
  refine vg_cons (vs_getfield (T := TX1) dX1_peopleIn_6 rfl (by decide) ww_inX1 q_38 rfl) ?_
  refine vg_cons (vs_cmp_ge dX1_peopleIn_9 (by decide) rfl) ?_
  refine vg_cons (vs_iload_n dX1_peopleIn_12 rfl rfl) ?_
  refine vg_cons (vs_aload_n dX1_peopleIn_13 rfl rfl) ?_
  refine vg_cons (vs_getfield (T := TX1) dX1_peopleIn_14 rfl (by decide) ww_inX1 q_39 rfl) ?_
  refine vg_cons (vs_iload_n dX1_peopleIn_17 rfl rfl) ?_
  refine vg_cons (vs_aaload dX1_peopleIn_18 rfl rfl) ?_
  refine vg_cons (vs_callV (T := TX0) c_X0_isGone dX1_peopleIn_19 rfl ww_good q_20 q_21 q_22 q_23 q_24 (by decide +kernel) (by decide) rfl) ?_
  refine vg_cons (vs_if_ne dX1_peopleIn_22 (by decide) rfl) ?_
  refine vg_cons (vs_iload_n dX1_peopleIn_25 rfl rfl) ?_
  refine vg_cons (vs_aload_n dX1_peopleIn_26 rfl rfl) ?_
  refine vg_cons (vs_getfield (T := TX1) dX1_peopleIn_27 rfl (by decide) ww_inX1 q_39 rfl) ?_
  refine vg_cons (vs_iload_n dX1_peopleIn_30 rfl rfl) ?_
  refine vg_cons (vs_aaload dX1_peopleIn_31 rfl rfl) ?_
  refine vg_cons (vs_getfield (T := TX0) dX1_peopleIn_32 rfl (by decide) ww_inX0 q_49 rfl) ?_
  refine vg_cons (vs_callSN (host := "WarnWave") c_X5_isIn dX1_peopleIn_35 ww_good q_50 q_51 (by decide +kernel) q_52 (by decide +kernel) (by decide) rfl) ?_
  refine vg_cons (vs_if_eq dX1_peopleIn_38 (by decide) rfl) ?_
  refine vg_cons (vs_aload_n dX1_peopleIn_41 rfl rfl) ?_
  refine vg_cons (vs_getfield (T := TX1) dX1_peopleIn_42 rfl (by decide) ww_inX1 q_39 rfl) ?_
  refine vg_cons (vs_iload_n dX1_peopleIn_45 rfl rfl) ?_
  refine vg_cons (vs_aaload dX1_peopleIn_46 rfl rfl) ?_
  refine vg_cons (vs_getfield (T := TX0) dX1_peopleIn_47 rfl (by decide) ww_inX0 q_44 rfl) ?_
  refine vg_cons (vs_goto dX1_peopleIn_50 (by decide)) ?_
  refine vg_cons (vs_iconst dX1_peopleIn_53 rfl rfl) ?_
  refine vg_cons (vs_iadd dX1_peopleIn_54 rfl) ?_
  refine vg_cons (vs_istore_n dX1_peopleIn_55 rfl (by decide) rfl) ?_
  refine vg_cons (vs_iinc dX1_peopleIn_56 rfl rfl) ?_
  refine vg_cons (vs_goto dX1_peopleIn_59 (by decide)) ?_
  refine vg_cons (vs_iload_n dX1_peopleIn_62 rfl rfl) ?_
  refine vg_cons (vs_ireturn dX1_peopleIn_63 rfl) ?_
  exact fun _ h => absurd h List.not_mem_nil
theorem m_X1_peopleIn : vg_Code k_X1_peopleIn := fun q h => (s_X1_peopleIn q h).1

theorem w_X1_peopleIn : vg_Wd sp_X1_peopleIn 4 := by
  intro av σ h
  unfold sp_X1_peopleIn at h
  split at h
  · exact Nat.le_of_ble_eq_true rfl
  · exact h.elim
theorem g_X1_peopleIn : vg_G k_X1_peopleIn sp_X1_peopleIn := by
  intro av σ h
  unfold sp_X1_peopleIn at h ⊢
  split at h
  next b s =>
    have hgc := h.1
    have h8 := hgc.2
    refine vg_run (cuts := [(4, [0, 1, 2, 3])]) m_X1_peopleIn 20 ?_
    refine vg_loop (fun i lv σ' => σ' = σ ∧ ∃ x a, x = nI i ∧ a = jSum (fun g => if ¬ jGone (jV σ b) g ∧ ¬ jIn s (jV σ b 9 g 0) = 0 then jV σ b 9 g 1 else 0) i ∧ lv = [(0, .inr (1, b, 0)), (1, .inl (.int s)), (2, .inl (.int a)), (3, .inl (.int x))]) (jGc (jV σ b)) ?_ ?_ 0 _ _ (Nat.zero_le _) ⟨rfl, 0, 0, rfl, rfl, rfl⟩
    · rintro i lv σ' hi ⟨e, x, a, hx, ha, rfl⟩ ih
      subst e
      have hc0 : x.toNatClampNeg = i := jcl hx (by omega)
      have hv : vp_in x 8 := jin hx (by omega) (by decide)
      refine vg_run (cuts := [(4, [0, 1, 2, 3])]) m_X1_peopleIn 40 ?_
      refine And.intro (fun hc => absurd ((jle hgc.1 hx (by omega) (by omega)).mp hc) (by omega)) (fun _ => ?_)
      refine And.intro hv (And.intro trivial (And.intro (fun hd => And.intro hv (And.intro trivial (And.intro (fun he => ?_) (fun he => And.intro hv ?_)))) (fun hd => ?_)))
      · rw [hc0] at he
        have he' : jIn s (jV σ' b 9 i 0) = 0 := he
        exact ih _ _ ⟨rfl, x + 1, a + 0, jinc hx, by rw [jSum, if_neg (fun z => z.2 he'), ha], rfl⟩
      · have hd' := jb_0.mp hd
        rw [hc0] at hd' he
        have he' : ¬ jIn s (jV σ' b 9 i 0) = 0 := he
        exact ih _ _ ⟨rfl, x + 1, a + σ' (9, b, x.toNatClampNeg) 1, jinc hx, by rw [jSum, if_pos ⟨hd', he'⟩, hc0, ha]; rfl, rfl⟩
      · have hd' : jGone (jV σ' b) x.toNatClampNeg := Classical.byContradiction (fun z => hd (jb_f z))
        rw [hc0] at hd'
        exact ih _ _ ⟨rfl, x + 1, a + 0, jinc hx, by rw [jSum, if_neg (fun z => z.1 hd'), ha], rfl⟩
    · rintro lv σ' ⟨e, x, a, hx, ha, rfl⟩
      subst e
      refine vg_run (cuts := [(4, [0, 1, 2, 3])]) m_X1_peopleIn 20 ?_
      exact And.intro (fun _ => And.intro (by rw [ha]) rfl) (fun hc => absurd ((jle hgc.1 hx (by omega) (by omega)).mpr (Nat.le_refl _)) hc)
  next => exact h.elim
theorem c_X1_peopleIn : vg_MetF ww_tb ww_nw ww_shp ww_nm ww_cl ww_tyl yX1_peopleIn cX1_peopleIn 4 (some .int) 1 sp_X1_peopleIn := vg_met ww_closed (by decide +kernel) rfl s_X1_peopleIn w_X1_peopleIn g_X1_peopleIn
def sp_X1_peopleBelieving : vgC := fun av σ => match av with
  | [.inr (1, b, 0)] => (jWf (jV σ b), some (.inl (.int (jSum (fun g => if jLt (jV σ b) g = -1 then 0 else jV σ b 9 g 1) (jGc (jV σ b))))), σ)
  | _ => (False, none, σ)
def k_X1_peopleBelieving : List (Nat × vgF) := [(0, vi_icst (0) 1), (1, vi_istore 1 2), (2, vi_icst (0) 3), (3, vi_istore 2 4), (4, vi_iload 2 5), (5, vi_aload 0 6), (6, vi_get ww_shp 1 4 9), (9, vi_cmp (fun x y => y ≤ x) 48 12), (12, vi_iload 1 13), (13, vi_aload 0 14), (14, vi_aload 0 15), (15, vi_get ww_shp 1 7 18), (18, vi_iload 2 19), (19, vi_aald ww_shp 2 20), (20, vi_callV ww_shp 1 sp_X1_latestBelieved 1 23), (23, vi_icst (-1) 24), (24, vi_cmp (fun x y => x = y) 39 27), (27, vi_aload 0 28), (28, vi_get ww_shp 1 7 31), (31, vi_iload 2 32), (32, vi_aald ww_shp 2 33), (33, vi_get ww_shp 5 1 36), (36, vi_goto 40), (39, vi_icst (0) 40), (40, vi_bin (fun x y => x + y) 41), (41, vi_istore 1 42), (42, vi_iinc 2 (1) 45), (45, vi_goto 4), (48, vi_iload 1 49), (49, vi_ret)]
set_option maxRecDepth 20000 in
theorem s_X1_peopleBelieving : ∀ q ∈ k_X1_peopleBelieving, vg_Snd ww_tb ww_nw ww_shp ww_nm ww_cl ww_tyl cX1_peopleBelieving 3 RX1 (some .int) 1 q.1 q.2 := by
  refine vg_cons (vs_iconst dX1_peopleBelieving_0 rfl rfl) ?_
  refine vg_cons (vs_istore_n dX1_peopleBelieving_1 rfl (by decide) rfl) ?_
  refine vg_cons (vs_iconst dX1_peopleBelieving_2 rfl rfl) ?_
  refine vg_cons (vs_istore_n dX1_peopleBelieving_3 rfl (by decide) rfl) ?_
  refine vg_cons (vs_iload_n dX1_peopleBelieving_4 rfl rfl) ?_
  refine vg_cons (vs_aload_n dX1_peopleBelieving_5 rfl rfl) ?_
  refine vg_cons (vs_getfield (T := TX1) dX1_peopleBelieving_6 rfl (by decide) ww_inX1 q_38 rfl) ?_
  refine vg_cons (vs_cmp_ge dX1_peopleBelieving_9 (by decide) rfl) ?_
  refine vg_cons (vs_iload_n dX1_peopleBelieving_12 rfl rfl) ?_
  refine vg_cons (vs_aload_n dX1_peopleBelieving_13 rfl rfl) ?_
  refine vg_cons (vs_aload_n dX1_peopleBelieving_14 rfl rfl) ?_
  refine vg_cons (vs_getfield (T := TX1) dX1_peopleBelieving_15 rfl (by decide) ww_inX1 q_39 rfl) ?_
  refine vg_cons (vs_iload_n dX1_peopleBelieving_18 rfl rfl) ?_
  refine vg_cons (vs_aaload dX1_peopleBelieving_19 rfl rfl) ?_
  refine vg_cons (vs_callV (T := TX1) c_X1_latestBelieved dX1_peopleBelieving_20 rfl ww_good q_29 q_12 q_30 q_31 q_32 (by decide +kernel) (by decide) rfl) ?_
  refine vg_cons (vs_iconst dX1_peopleBelieving_23 rfl rfl) ?_
  refine vg_cons (vs_cmp_eq dX1_peopleBelieving_24 (by decide) rfl) ?_
  refine vg_cons (vs_aload_n dX1_peopleBelieving_27 rfl rfl) ?_
  refine vg_cons (vs_getfield (T := TX1) dX1_peopleBelieving_28 rfl (by decide) ww_inX1 q_39 rfl) ?_
  refine vg_cons (vs_iload_n dX1_peopleBelieving_31 rfl rfl) ?_
  refine vg_cons (vs_aaload dX1_peopleBelieving_32 rfl rfl) ?_
  refine vg_cons (vs_getfield (T := TX0) dX1_peopleBelieving_33 rfl (by decide) ww_inX0 q_44 rfl) ?_
  refine vg_cons (vs_goto dX1_peopleBelieving_36 (by decide)) ?_
  refine vg_cons (vs_iconst dX1_peopleBelieving_39 rfl rfl) ?_
  refine vg_cons (vs_iadd dX1_peopleBelieving_40 rfl) ?_
  refine vg_cons (vs_istore_n dX1_peopleBelieving_41 rfl (by decide) rfl) ?_
  refine vg_cons (vs_iinc dX1_peopleBelieving_42 rfl rfl) ?_
  refine vg_cons (vs_goto dX1_peopleBelieving_45 (by decide)) ?_
  refine vg_cons (vs_iload_n dX1_peopleBelieving_48 rfl rfl) ?_
  refine vg_cons (vs_ireturn dX1_peopleBelieving_49 rfl) ?_
  exact fun _ h => absurd h List.not_mem_nil
theorem m_X1_peopleBelieving : vg_Code k_X1_peopleBelieving := fun q h => (s_X1_peopleBelieving q h).1

theorem w_X1_peopleBelieving : vg_Wd sp_X1_peopleBelieving 3 := by
  intro av σ h
  unfold sp_X1_peopleBelieving at h
  split at h
  · exact Nat.le_of_ble_eq_true rfl
  · exact h.elim
theorem g_X1_peopleBelieving : vg_G k_X1_peopleBelieving sp_X1_peopleBelieving := by
  intro av σ h
  unfold sp_X1_peopleBelieving at h ⊢
  split at h
  next b =>
    have hgc := h.1
    have h8 := hgc.2
    refine vg_run (cuts := [(4, [0, 1, 2])]) m_X1_peopleBelieving 20 ?_
    refine vg_loop (fun i lv σ' => σ' = σ ∧ ∃ x a, x = nI i ∧ a = jSum (fun g => if jLt (jV σ b) g = -1 then 0 else jV σ b 9 g 1) i ∧ lv = [(0, .inr (1, b, 0)), (1, .inl (.int a)), (2, .inl (.int x))]) (jGc (jV σ b)) ?_ ?_ 0 _ _ (Nat.zero_le _) ⟨rfl, 0, 0, rfl, rfl, rfl⟩
    · rintro i lv σ' hi ⟨e, x, a, hx, ha, rfl⟩ ih
      subst e
      have hc0 : x.toNatClampNeg = i := jcl hx (by omega)
      have hv : vp_in x 8 := jin hx (by omega) (by decide)
      refine vg_run (cuts := [(4, [0, 1, 2])]) m_X1_peopleBelieving 40 ?_
      refine And.intro (fun hc => absurd ((jle hgc.1 hx (by omega) (by omega)).mp hc) (by omega)) (fun _ => ?_)
      refine And.intro hv (And.intro ⟨h, rfl⟩ (And.intro (fun hd => ?_) (fun hd => And.intro hv ?_)))
      · rw [hc0] at hd
        have hd' : jLt (jV σ' b) i = -1 := hd
        exact ih _ _ ⟨rfl, x + 1, a + 0, jinc hx, by rw [jSum, if_pos hd', ha], rfl⟩
      · rw [hc0] at hd
        have hd' : ¬ jLt (jV σ' b) i = -1 := hd
        exact ih _ _ ⟨rfl, x + 1, a + σ' (9, b, x.toNatClampNeg) 1, jinc hx, by rw [jSum, if_neg hd', hc0, ha]; rfl, rfl⟩
    · rintro lv σ' ⟨e, x, a, hx, ha, rfl⟩
      subst e
      refine vg_run (cuts := [(4, [0, 1, 2])]) m_X1_peopleBelieving 20 ?_
      exact And.intro (fun _ => And.intro (by rw [ha]) rfl) (fun hc => absurd ((jle hgc.1 hx (by omega) (by omega)).mpr (Nat.le_refl _)) hc)
  next => exact h.elim
theorem c_X1_peopleBelieving : vg_MetF ww_tb ww_nw ww_shp ww_nm ww_cl ww_tyl yX1_peopleBelieving cX1_peopleBelieving 3 (some .int) 1 sp_X1_peopleBelieving := vg_met ww_closed (by decide +kernel) rfl s_X1_peopleBelieving w_X1_peopleBelieving g_X1_peopleBelieving
end
section
-- words of the tables, and what stands at each place of the methods' code (laid by program)
theorem q_53 : Cond.fieldLink RX1 176 (TX4 2).1 (TX4 2).2.1 (TX4 2).2.2.1 ∈ ww_tb := by decide +kernel
theorem q_54 : Cond.fieldLink RX1 206 (TX4 4).1 (TX4 4).2.1 (TX4 4).2.2.1 ∈ ww_tb := by decide +kernel
theorem q_55 : Cond.fieldLink RX1 209 (TX0 2).1 (TX0 2).2.1 (TX0 2).2.2.1 ∈ ww_tb := by decide +kernel
theorem q_56 : Cond.fieldLink RX1 212 (TX0 8).1 (TX0 8).2.1 (TX0 8).2.2.1 ∈ ww_tb := by decide +kernel
theorem q_57 : Cond.fieldLink RX1 215 (TX0 4).1 (TX0 4).2.1 (TX0 4).2.2.1 ∈ ww_tb := by decide +kernel
theorem q_58 : Cond.code yX5_distance cX5_distance 2 (some .int) ∈ ww_tb := by decide +kernel
theorem q_59 : Cond.static yX5_distance ∈ ww_tb := by decide +kernel
theorem q_60 : Cond.fieldLink RX1 65 (TX1 5).1 (TX1 5).2.1 (TX1 5).2.2.1 ∈ ww_tb := by decide +kernel
theorem q_61 : Cond.fieldLink RX1 26 (TX1 8).1 (TX1 8).2.1 (TX1 8).2.2.1 ∈ ww_tb := by decide +kernel
theorem q_62 : Cond.fieldLink RX1 75 (TX3 0).1 (TX3 0).2.1 (TX3 0).2.2.1 ∈ ww_tb := by decide +kernel
theorem q_63 : Cond.fieldLink RX1 78 (TX3 1).1 (TX3 1).2.1 (TX3 1).2.2.1 ∈ ww_tb := by decide +kernel
theorem q_64 : Cond.fieldLink RX2 22 (TX2 3).1 (TX2 3).2.1 (TX2 3).2.2.1 ∈ ww_tb := by decide +kernel
theorem q_65 : Cond.fieldLink RX2 18 (TX2 2).1 (TX2 2).2.1 (TX2 2).2.2.1 ∈ ww_tb := by decide +kernel
theorem q_66 : Cond.fieldLink RX2 9 (TX2 0).1 (TX2 0).2.1 (TX2 0).2.2.1 ∈ ww_tb := by decide +kernel
theorem q_67 : Cond.fieldLink RX2 15 (TX2 1).1 (TX2 1).2.1 (TX2 1).2.2.1 ∈ ww_tb := by decide +kernel
theorem q_68 : Cond.fieldLink RX1 149 (TX4 6).1 (TX4 6).2.1 (TX4 6).2.2.1 ∈ ww_tb := by decide +kernel
theorem q_69 : Cond.fieldLink RX1 229 (TX0 5).1 (TX0 5).2.1 (TX0 5).2.2.1 ∈ ww_tb := by decide +kernel
theorem dX1_firstToCall_0 : decode cX1_firstToCall 0 = .ok (.aload_n 0, 1) := by decide +kernel
theorem dX1_firstToCall_1 : decode cX1_firstToCall 1 = .ok (.getfield 32, 3) := by decide +kernel
theorem dX1_firstToCall_4 : decode cX1_firstToCall 4 = .ok (.iload_n 1, 1) := by decide +kernel
theorem dX1_firstToCall_5 : decode cX1_firstToCall 5 = .ok (.aaload, 1) := by decide +kernel
theorem dX1_firstToCall_6 : decode cX1_firstToCall 6 = .ok (.getfield 176, 3) := by decide +kernel
theorem dX1_firstToCall_9 : decode cX1_firstToCall 9 = .ok (.istore_n 2, 1) := by decide +kernel
theorem dX1_firstToCall_10 : decode cX1_firstToCall 10 = .ok (.aload_n 0, 1) := by decide +kernel
theorem dX1_firstToCall_11 : decode cX1_firstToCall 11 = .ok (.getfield 32, 3) := by decide +kernel
theorem dX1_firstToCall_14 : decode cX1_firstToCall 14 = .ok (.iload_n 1, 1) := by decide +kernel
theorem dX1_firstToCall_15 : decode cX1_firstToCall 15 = .ok (.aaload, 1) := by decide +kernel
theorem dX1_firstToCall_16 : decode cX1_firstToCall 16 = .ok (.getfield 206, 3) := by decide +kernel
theorem dX1_firstToCall_19 : decode cX1_firstToCall 19 = .ok (.istore_n 3, 1) := by decide +kernel
theorem dX1_firstToCall_20 : decode cX1_firstToCall 20 = .ok (.iconst 0, 1) := by decide +kernel
theorem dX1_firstToCall_21 : decode cX1_firstToCall 21 = .ok (.istore 4, 2) := by decide +kernel
theorem dX1_firstToCall_23 : decode cX1_firstToCall 23 = .ok (.iload 4, 2) := by decide +kernel
theorem dX1_firstToCall_25 : decode cX1_firstToCall 25 = .ok (.aload_n 0, 1) := by decide +kernel
theorem dX1_firstToCall_26 : decode cX1_firstToCall 26 = .ok (.getfield 62, 3) := by decide +kernel
theorem dX1_firstToCall_29 : decode cX1_firstToCall 29 = .ok (.if_icmp .ge 87, 3) := by decide +kernel
theorem dX1_firstToCall_32 : decode cX1_firstToCall 32 = .ok (.aload_n 0, 1) := by decide +kernel
theorem dX1_firstToCall_33 : decode cX1_firstToCall 33 = .ok (.getfield 20, 3) := by decide +kernel
theorem dX1_firstToCall_36 : decode cX1_firstToCall 36 = .ok (.iload 4, 2) := by decide +kernel
theorem dX1_firstToCall_38 : decode cX1_firstToCall 38 = .ok (.aaload, 1) := by decide +kernel
theorem dX1_firstToCall_39 : decode cX1_firstToCall 39 = .ok (.astore 5, 2) := by decide +kernel
theorem dX1_firstToCall_41 : decode cX1_firstToCall 41 = .ok (.iload_n 2, 1) := by decide +kernel
theorem dX1_firstToCall_42 : decode cX1_firstToCall 42 = .ok (.aload 5, 2) := by decide +kernel
theorem dX1_firstToCall_44 : decode cX1_firstToCall 44 = .ok (.getfield 129, 3) := by decide +kernel
theorem dX1_firstToCall_47 : decode cX1_firstToCall 47 = .ok (.invokestatic 130, 3) := by decide +kernel
theorem dX1_firstToCall_50 : decode cX1_firstToCall 50 = .ok (.ifCond .eq 19, 3) := by decide +kernel
theorem dX1_firstToCall_53 : decode cX1_firstToCall 53 = .ok (.iload_n 3, 1) := by decide +kernel
theorem dX1_firstToCall_54 : decode cX1_firstToCall 54 = .ok (.aload 5, 2) := by decide +kernel
theorem dX1_firstToCall_56 : decode cX1_firstToCall 56 = .ok (.getfield 209, 3) := by decide +kernel
theorem dX1_firstToCall_59 : decode cX1_firstToCall 59 = .ok (.invokestatic 130, 3) := by decide +kernel
theorem dX1_firstToCall_62 : decode cX1_firstToCall 62 = .ok (.ifCond .eq 7, 3) := by decide +kernel
theorem dX1_firstToCall_65 : decode cX1_firstToCall 65 = .ok (.iconst 1, 1) := by decide +kernel
theorem dX1_firstToCall_66 : decode cX1_firstToCall 66 = .ok (.goto 4, 3) := by decide +kernel
theorem dX1_firstToCall_69 : decode cX1_firstToCall 69 = .ok (.iconst 0, 1) := by decide +kernel
theorem dX1_firstToCall_70 : decode cX1_firstToCall 70 = .ok (.istore 6, 2) := by decide +kernel
theorem dX1_firstToCall_72 : decode cX1_firstToCall 72 = .ok (.iload 6, 2) := by decide +kernel
theorem dX1_firstToCall_74 : decode cX1_firstToCall 74 = .ok (.ifCond .eq 36, 3) := by decide +kernel
theorem dX1_firstToCall_77 : decode cX1_firstToCall 77 = .ok (.aload 5, 2) := by decide +kernel
theorem dX1_firstToCall_79 : decode cX1_firstToCall 79 = .ok (.getfield 212, 3) := by decide +kernel
theorem dX1_firstToCall_82 : decode cX1_firstToCall 82 = .ok (.iload_n 1, 1) := by decide +kernel
theorem dX1_firstToCall_83 : decode cX1_firstToCall 83 = .ok (.iaload, 1) := by decide +kernel
theorem dX1_firstToCall_84 : decode cX1_firstToCall 84 = .ok (.iconst 3, 1) := by decide +kernel
theorem dX1_firstToCall_85 : decode cX1_firstToCall 85 = .ok (.invokestatic 130, 3) := by decide +kernel
theorem dX1_firstToCall_88 : decode cX1_firstToCall 88 = .ok (.ifCond .ne 22, 3) := by decide +kernel
theorem dX1_firstToCall_91 : decode cX1_firstToCall 91 = .ok (.aload 5, 2) := by decide +kernel
theorem dX1_firstToCall_93 : decode cX1_firstToCall 93 = .ok (.getfield 215, 3) := by decide +kernel
theorem dX1_firstToCall_96 : decode cX1_firstToCall 96 = .ok (.ifCond .ne 14, 3) := by decide +kernel
theorem dX1_firstToCall_99 : decode cX1_firstToCall 99 = .ok (.aload 5, 2) := by decide +kernel
theorem dX1_firstToCall_101 : decode cX1_firstToCall 101 = .ok (.invokevirtual 97, 3) := by decide +kernel
theorem dX1_firstToCall_104 : decode cX1_firstToCall 104 = .ok (.ifCond .ne 6, 3) := by decide +kernel
theorem dX1_firstToCall_107 : decode cX1_firstToCall 107 = .ok (.iload 4, 2) := by decide +kernel
theorem dX1_firstToCall_109 : decode cX1_firstToCall 109 = .ok (.ireturn, 1) := by decide +kernel
theorem dX1_firstToCall_110 : decode cX1_firstToCall 110 = .ok (.iinc 4 1, 3) := by decide +kernel
theorem dX1_firstToCall_113 : decode cX1_firstToCall 113 = .ok (.goto (-90), 3) := by decide +kernel
theorem dX1_firstToCall_116 : decode cX1_firstToCall 116 = .ok (.iconst (-1), 1) := by decide +kernel
theorem dX1_firstToCall_117 : decode cX1_firstToCall 117 = .ok (.ireturn, 1) := by decide +kernel
theorem dX1_believingNeighbour_0 : decode cX1_believingNeighbour 0 = .ok (.aload_n 0, 1) := by decide +kernel
theorem dX1_believingNeighbour_1 : decode cX1_believingNeighbour 1 = .ok (.getfield 20, 3) := by decide +kernel
theorem dX1_believingNeighbour_4 : decode cX1_believingNeighbour 4 = .ok (.iload_n 1, 1) := by decide +kernel
theorem dX1_believingNeighbour_5 : decode cX1_believingNeighbour 5 = .ok (.aaload, 1) := by decide +kernel
theorem dX1_believingNeighbour_6 : decode cX1_believingNeighbour 6 = .ok (.astore_n 3, 1) := by decide +kernel
theorem dX1_believingNeighbour_7 : decode cX1_believingNeighbour 7 = .ok (.iconst 0, 1) := by decide +kernel
theorem dX1_believingNeighbour_8 : decode cX1_believingNeighbour 8 = .ok (.istore 4, 2) := by decide +kernel
theorem dX1_believingNeighbour_10 : decode cX1_believingNeighbour 10 = .ok (.iload 4, 2) := by decide +kernel
theorem dX1_believingNeighbour_12 : decode cX1_believingNeighbour 12 = .ok (.aload_n 0, 1) := by decide +kernel
theorem dX1_believingNeighbour_13 : decode cX1_believingNeighbour 13 = .ok (.getfield 62, 3) := by decide +kernel
theorem dX1_believingNeighbour_16 : decode cX1_believingNeighbour 16 = .ok (.if_icmp .ge 86, 3) := by decide +kernel
theorem dX1_believingNeighbour_19 : decode cX1_believingNeighbour 19 = .ok (.aload_n 0, 1) := by decide +kernel
theorem dX1_believingNeighbour_20 : decode cX1_believingNeighbour 20 = .ok (.getfield 20, 3) := by decide +kernel
theorem dX1_believingNeighbour_23 : decode cX1_believingNeighbour 23 = .ok (.iload 4, 2) := by decide +kernel
theorem dX1_believingNeighbour_25 : decode cX1_believingNeighbour 25 = .ok (.aaload, 1) := by decide +kernel
theorem dX1_believingNeighbour_26 : decode cX1_believingNeighbour 26 = .ok (.astore 5, 2) := by decide +kernel
theorem dX1_believingNeighbour_28 : decode cX1_believingNeighbour 28 = .ok (.iload 4, 2) := by decide +kernel
theorem dX1_believingNeighbour_30 : decode cX1_believingNeighbour 30 = .ok (.iload_n 1, 1) := by decide +kernel
theorem dX1_believingNeighbour_31 : decode cX1_believingNeighbour 31 = .ok (.if_icmp .eq 26, 3) := by decide +kernel
theorem dX1_believingNeighbour_34 : decode cX1_believingNeighbour 34 = .ok (.aload 5, 2) := by decide +kernel
theorem dX1_believingNeighbour_36 : decode cX1_believingNeighbour 36 = .ok (.invokevirtual 97, 3) := by decide +kernel
theorem dX1_believingNeighbour_39 : decode cX1_believingNeighbour 39 = .ok (.ifCond .ne 18, 3) := by decide +kernel
theorem dX1_believingNeighbour_42 : decode cX1_believingNeighbour 42 = .ok (.aload 5, 2) := by decide +kernel
theorem dX1_believingNeighbour_44 : decode cX1_believingNeighbour 44 = .ok (.getfield 116, 3) := by decide +kernel
theorem dX1_believingNeighbour_47 : decode cX1_believingNeighbour 47 = .ok (.iload_n 2, 1) := by decide +kernel
theorem dX1_believingNeighbour_48 : decode cX1_believingNeighbour 48 = .ok (.iaload, 1) := by decide +kernel
theorem dX1_believingNeighbour_49 : decode cX1_believingNeighbour 49 = .ok (.iconst (-1), 1) := by decide +kernel
theorem dX1_believingNeighbour_50 : decode cX1_believingNeighbour 50 = .ok (.if_icmp .eq 7, 3) := by decide +kernel
theorem dX1_believingNeighbour_53 : decode cX1_believingNeighbour 53 = .ok (.iconst 1, 1) := by decide +kernel
theorem dX1_believingNeighbour_54 : decode cX1_believingNeighbour 54 = .ok (.goto 4, 3) := by decide +kernel
theorem dX1_believingNeighbour_57 : decode cX1_believingNeighbour 57 = .ok (.iconst 0, 1) := by decide +kernel
theorem dX1_believingNeighbour_58 : decode cX1_believingNeighbour 58 = .ok (.istore 6, 2) := by decide +kernel
theorem dX1_believingNeighbour_60 : decode cX1_believingNeighbour 60 = .ok (.iload 6, 2) := by decide +kernel
theorem dX1_believingNeighbour_62 : decode cX1_believingNeighbour 62 = .ok (.ifCond .eq 34, 3) := by decide +kernel
theorem dX1_believingNeighbour_65 : decode cX1_believingNeighbour 65 = .ok (.aload 5, 2) := by decide +kernel
theorem dX1_believingNeighbour_67 : decode cX1_believingNeighbour 67 = .ok (.getfield 209, 3) := by decide +kernel
theorem dX1_believingNeighbour_70 : decode cX1_believingNeighbour 70 = .ok (.aload_n 3, 1) := by decide +kernel
theorem dX1_believingNeighbour_71 : decode cX1_believingNeighbour 71 = .ok (.getfield 209, 3) := by decide +kernel
theorem dX1_believingNeighbour_74 : decode cX1_believingNeighbour 74 = .ok (.if_icmp .ne 22, 3) := by decide +kernel
theorem dX1_believingNeighbour_77 : decode cX1_believingNeighbour 77 = .ok (.aload 5, 2) := by decide +kernel
theorem dX1_believingNeighbour_79 : decode cX1_believingNeighbour 79 = .ok (.getfield 129, 3) := by decide +kernel
theorem dX1_believingNeighbour_82 : decode cX1_believingNeighbour 82 = .ok (.aload_n 3, 1) := by decide +kernel
theorem dX1_believingNeighbour_83 : decode cX1_believingNeighbour 83 = .ok (.getfield 129, 3) := by decide +kernel
theorem dX1_believingNeighbour_86 : decode cX1_believingNeighbour 86 = .ok (.invokestatic 239, 3) := by decide +kernel
theorem dX1_believingNeighbour_89 : decode cX1_believingNeighbour 89 = .ok (.iconst 1, 1) := by decide +kernel
theorem dX1_believingNeighbour_90 : decode cX1_believingNeighbour 90 = .ok (.if_icmp .gt 6, 3) := by decide +kernel
theorem dX1_believingNeighbour_93 : decode cX1_believingNeighbour 93 = .ok (.iload 4, 2) := by decide +kernel
theorem dX1_believingNeighbour_95 : decode cX1_believingNeighbour 95 = .ok (.ireturn, 1) := by decide +kernel
theorem dX1_believingNeighbour_96 : decode cX1_believingNeighbour 96 = .ok (.iinc 4 1, 3) := by decide +kernel
theorem dX1_believingNeighbour_99 : decode cX1_believingNeighbour 99 = .ok (.goto (-89), 3) := by decide +kernel
theorem dX1_believingNeighbour_102 : decode cX1_believingNeighbour 102 = .ok (.iconst (-1), 1) := by decide +kernel
theorem dX1_believingNeighbour_103 : decode cX1_believingNeighbour 103 = .ok (.ireturn, 1) := by decide +kernel
theorem dX1_nearestWithRoom_0 : decode cX1_nearestWithRoom 0 = .ok (.iconst (-1), 1) := by decide +kernel
theorem dX1_nearestWithRoom_1 : decode cX1_nearestWithRoom 1 = .ok (.istore_n 2, 1) := by decide +kernel
theorem dX1_nearestWithRoom_2 : decode cX1_nearestWithRoom 2 = .ok (.bipush 16, 2) := by decide +kernel
theorem dX1_nearestWithRoom_4 : decode cX1_nearestWithRoom 4 = .ok (.istore_n 3, 1) := by decide +kernel
theorem dX1_nearestWithRoom_5 : decode cX1_nearestWithRoom 5 = .ok (.iconst 0, 1) := by decide +kernel
theorem dX1_nearestWithRoom_6 : decode cX1_nearestWithRoom 6 = .ok (.istore 4, 2) := by decide +kernel
theorem dX1_nearestWithRoom_8 : decode cX1_nearestWithRoom 8 = .ok (.iload 4, 2) := by decide +kernel
theorem dX1_nearestWithRoom_10 : decode cX1_nearestWithRoom 10 = .ok (.aload_n 0, 1) := by decide +kernel
theorem dX1_nearestWithRoom_11 : decode cX1_nearestWithRoom 11 = .ok (.getfield 65, 3) := by decide +kernel
theorem dX1_nearestWithRoom_14 : decode cX1_nearestWithRoom 14 = .ok (.if_icmp .ge 57, 3) := by decide +kernel
theorem dX1_nearestWithRoom_17 : decode cX1_nearestWithRoom 17 = .ok (.aload_n 1, 1) := by decide +kernel
theorem dX1_nearestWithRoom_18 : decode cX1_nearestWithRoom 18 = .ok (.getfield 129, 3) := by decide +kernel
theorem dX1_nearestWithRoom_21 : decode cX1_nearestWithRoom 21 = .ok (.aload_n 0, 1) := by decide +kernel
theorem dX1_nearestWithRoom_22 : decode cX1_nearestWithRoom 22 = .ok (.getfield 26, 3) := by decide +kernel
theorem dX1_nearestWithRoom_25 : decode cX1_nearestWithRoom 25 = .ok (.iload 4, 2) := by decide +kernel
theorem dX1_nearestWithRoom_27 : decode cX1_nearestWithRoom 27 = .ok (.aaload, 1) := by decide +kernel
theorem dX1_nearestWithRoom_28 : decode cX1_nearestWithRoom 28 = .ok (.getfield 75, 3) := by decide +kernel
theorem dX1_nearestWithRoom_31 : decode cX1_nearestWithRoom 31 = .ok (.invokestatic 239, 3) := by decide +kernel
theorem dX1_nearestWithRoom_34 : decode cX1_nearestWithRoom 34 = .ok (.istore 5, 2) := by decide +kernel
theorem dX1_nearestWithRoom_36 : decode cX1_nearestWithRoom 36 = .ok (.aload_n 0, 1) := by decide +kernel
theorem dX1_nearestWithRoom_37 : decode cX1_nearestWithRoom 37 = .ok (.getfield 26, 3) := by decide +kernel
theorem dX1_nearestWithRoom_40 : decode cX1_nearestWithRoom 40 = .ok (.iload 4, 2) := by decide +kernel
theorem dX1_nearestWithRoom_42 : decode cX1_nearestWithRoom 42 = .ok (.aaload, 1) := by decide +kernel
theorem dX1_nearestWithRoom_43 : decode cX1_nearestWithRoom 43 = .ok (.getfield 78, 3) := by decide +kernel
theorem dX1_nearestWithRoom_46 : decode cX1_nearestWithRoom 46 = .ok (.aload_n 1, 1) := by decide +kernel
theorem dX1_nearestWithRoom_47 : decode cX1_nearestWithRoom 47 = .ok (.getfield 123, 3) := by decide +kernel
theorem dX1_nearestWithRoom_50 : decode cX1_nearestWithRoom 50 = .ok (.if_icmp .lt 15, 3) := by decide +kernel
theorem dX1_nearestWithRoom_53 : decode cX1_nearestWithRoom 53 = .ok (.iload 5, 2) := by decide +kernel
theorem dX1_nearestWithRoom_55 : decode cX1_nearestWithRoom 55 = .ok (.iload_n 3, 1) := by decide +kernel
theorem dX1_nearestWithRoom_56 : decode cX1_nearestWithRoom 56 = .ok (.if_icmp .ge 9, 3) := by decide +kernel
theorem dX1_nearestWithRoom_59 : decode cX1_nearestWithRoom 59 = .ok (.iload 4, 2) := by decide +kernel
theorem dX1_nearestWithRoom_61 : decode cX1_nearestWithRoom 61 = .ok (.istore_n 2, 1) := by decide +kernel
theorem dX1_nearestWithRoom_62 : decode cX1_nearestWithRoom 62 = .ok (.iload 5, 2) := by decide +kernel
theorem dX1_nearestWithRoom_64 : decode cX1_nearestWithRoom 64 = .ok (.istore_n 3, 1) := by decide +kernel
theorem dX1_nearestWithRoom_65 : decode cX1_nearestWithRoom 65 = .ok (.iinc 4 1, 3) := by decide +kernel
theorem dX1_nearestWithRoom_68 : decode cX1_nearestWithRoom 68 = .ok (.goto (-60), 3) := by decide +kernel
theorem dX1_nearestWithRoom_71 : decode cX1_nearestWithRoom 71 = .ok (.iload_n 2, 1) := by decide +kernel
theorem dX1_nearestWithRoom_72 : decode cX1_nearestWithRoom 72 = .ok (.ireturn, 1) := by decide +kernel
theorem dX2_cellsReached_0 : decode cX2_cellsReached 0 = .ok (.iconst 0, 1) := by decide +kernel
theorem dX2_cellsReached_1 : decode cX2_cellsReached 1 = .ok (.istore_n 1, 1) := by decide +kernel
theorem dX2_cellsReached_2 : decode cX2_cellsReached 2 = .ok (.iconst 0, 1) := by decide +kernel
theorem dX2_cellsReached_3 : decode cX2_cellsReached 3 = .ok (.istore_n 2, 1) := by decide +kernel
theorem dX2_cellsReached_4 : decode cX2_cellsReached 4 = .ok (.iload_n 2, 1) := by decide +kernel
theorem dX2_cellsReached_5 : decode cX2_cellsReached 5 = .ok (.aload_n 0, 1) := by decide +kernel
theorem dX2_cellsReached_6 : decode cX2_cellsReached 6 = .ok (.getfield 22, 3) := by decide +kernel
theorem dX2_cellsReached_9 : decode cX2_cellsReached 9 = .ok (.if_icmp .ge 57, 3) := by decide +kernel
theorem dX2_cellsReached_12 : decode cX2_cellsReached 12 = .ok (.iconst 0, 1) := by decide +kernel
theorem dX2_cellsReached_13 : decode cX2_cellsReached 13 = .ok (.istore_n 3, 1) := by decide +kernel
theorem dX2_cellsReached_14 : decode cX2_cellsReached 14 = .ok (.aload_n 0, 1) := by decide +kernel
theorem dX2_cellsReached_15 : decode cX2_cellsReached 15 = .ok (.getfield 18, 3) := by decide +kernel
theorem dX2_cellsReached_18 : decode cX2_cellsReached 18 = .ok (.iload_n 2, 1) := by decide +kernel
theorem dX2_cellsReached_19 : decode cX2_cellsReached 19 = .ok (.baload, 1) := by decide +kernel
theorem dX2_cellsReached_20 : decode cX2_cellsReached 20 = .ok (.ifCond .eq 40, 3) := by decide +kernel
theorem dX2_cellsReached_23 : decode cX2_cellsReached 23 = .ok (.iload_n 3, 1) := by decide +kernel
theorem dX2_cellsReached_24 : decode cX2_cellsReached 24 = .ok (.bipush 16, 2) := by decide +kernel
theorem dX2_cellsReached_26 : decode cX2_cellsReached 26 = .ok (.if_icmp .ge 34, 3) := by decide +kernel
theorem dX2_cellsReached_29 : decode cX2_cellsReached 29 = .ok (.aload_n 0, 1) := by decide +kernel
theorem dX2_cellsReached_30 : decode cX2_cellsReached 30 = .ok (.getfield 9, 3) := by decide +kernel
theorem dX2_cellsReached_33 : decode cX2_cellsReached 33 = .ok (.iload_n 2, 1) := by decide +kernel
theorem dX2_cellsReached_34 : decode cX2_cellsReached 34 = .ok (.iaload, 1) := by decide +kernel
theorem dX2_cellsReached_35 : decode cX2_cellsReached 35 = .ok (.iload_n 3, 1) := by decide +kernel
theorem dX2_cellsReached_36 : decode cX2_cellsReached 36 = .ok (.invokestatic 26, 3) := by decide +kernel
theorem dX2_cellsReached_39 : decode cX2_cellsReached 39 = .ok (.aload_n 0, 1) := by decide +kernel
theorem dX2_cellsReached_40 : decode cX2_cellsReached 40 = .ok (.getfield 15, 3) := by decide +kernel
theorem dX2_cellsReached_43 : decode cX2_cellsReached 43 = .ok (.iload_n 2, 1) := by decide +kernel
theorem dX2_cellsReached_44 : decode cX2_cellsReached 44 = .ok (.iaload, 1) := by decide +kernel
theorem dX2_cellsReached_45 : decode cX2_cellsReached 45 = .ok (.if_icmp .gt 9, 3) := by decide +kernel
theorem dX2_cellsReached_48 : decode cX2_cellsReached 48 = .ok (.iload_n 1, 1) := by decide +kernel
theorem dX2_cellsReached_49 : decode cX2_cellsReached 49 = .ok (.iconst 1, 1) := by decide +kernel
theorem dX2_cellsReached_50 : decode cX2_cellsReached 50 = .ok (.iload_n 3, 1) := by decide +kernel
theorem dX2_cellsReached_51 : decode cX2_cellsReached 51 = .ok (.ishl, 1) := by decide +kernel
theorem dX2_cellsReached_52 : decode cX2_cellsReached 52 = .ok (.ior, 1) := by decide +kernel
theorem dX2_cellsReached_53 : decode cX2_cellsReached 53 = .ok (.istore_n 1, 1) := by decide +kernel
theorem dX2_cellsReached_54 : decode cX2_cellsReached 54 = .ok (.iinc 3 1, 3) := by decide +kernel
theorem dX2_cellsReached_57 : decode cX2_cellsReached 57 = .ok (.goto (-43), 3) := by decide +kernel
theorem dX2_cellsReached_60 : decode cX2_cellsReached 60 = .ok (.iinc 2 1, 3) := by decide +kernel
theorem dX2_cellsReached_63 : decode cX2_cellsReached 63 = .ok (.goto (-59), 3) := by decide +kernel
theorem dX2_cellsReached_66 : decode cX2_cellsReached 66 = .ok (.iload_n 1, 1) := by decide +kernel
theorem dX2_cellsReached_67 : decode cX2_cellsReached 67 = .ok (.ireturn, 1) := by decide +kernel
theorem dX1_publicWays_0 : decode cX1_publicWays 0 = .ok (.aload_n 2, 1) := by decide +kernel
theorem dX1_publicWays_1 : decode cX1_publicWays 1 = .ok (.getfield 176, 3) := by decide +kernel
theorem dX1_publicWays_4 : decode cX1_publicWays 4 = .ok (.aload_n 1, 1) := by decide +kernel
theorem dX1_publicWays_5 : decode cX1_publicWays 5 = .ok (.getfield 129, 3) := by decide +kernel
theorem dX1_publicWays_8 : decode cX1_publicWays 8 = .ok (.invokestatic 130, 3) := by decide +kernel
theorem dX1_publicWays_11 : decode cX1_publicWays 11 = .ok (.ifCond .ne 5, 3) := by decide +kernel
theorem dX1_publicWays_14 : decode cX1_publicWays 14 = .ok (.iconst 0, 1) := by decide +kernel
theorem dX1_publicWays_15 : decode cX1_publicWays 15 = .ok (.ireturn, 1) := by decide +kernel
theorem dX1_publicWays_16 : decode cX1_publicWays 16 = .ok (.iload_n 3, 1) := by decide +kernel
theorem dX1_publicWays_17 : decode cX1_publicWays 17 = .ok (.ifCond .eq 7, 3) := by decide +kernel
theorem dX1_publicWays_20 : decode cX1_publicWays 20 = .ok (.iconst 1, 1) := by decide +kernel
theorem dX1_publicWays_21 : decode cX1_publicWays 21 = .ok (.goto 4, 3) := by decide +kernel
theorem dX1_publicWays_24 : decode cX1_publicWays 24 = .ok (.iconst 0, 1) := by decide +kernel
theorem dX1_publicWays_25 : decode cX1_publicWays 25 = .ok (.istore 6, 2) := by decide +kernel
theorem dX1_publicWays_27 : decode cX1_publicWays 27 = .ok (.aload_n 2, 1) := by decide +kernel
theorem dX1_publicWays_28 : decode cX1_publicWays 28 = .ok (.getfield 206, 3) := by decide +kernel
theorem dX1_publicWays_31 : decode cX1_publicWays 31 = .ok (.aload_n 1, 1) := by decide +kernel
theorem dX1_publicWays_32 : decode cX1_publicWays 32 = .ok (.getfield 209, 3) := by decide +kernel
theorem dX1_publicWays_35 : decode cX1_publicWays 35 = .ok (.invokestatic 130, 3) := by decide +kernel
theorem dX1_publicWays_38 : decode cX1_publicWays 38 = .ok (.ifCond .ne 6, 3) := by decide +kernel
theorem dX1_publicWays_41 : decode cX1_publicWays 41 = .ok (.iload 6, 2) := by decide +kernel
theorem dX1_publicWays_43 : decode cX1_publicWays 43 = .ok (.ireturn, 1) := by decide +kernel
theorem dX1_publicWays_44 : decode cX1_publicWays 44 = .ok (.iload 4, 2) := by decide +kernel
theorem dX1_publicWays_46 : decode cX1_publicWays 46 = .ok (.ifCond .eq 27, 3) := by decide +kernel
theorem dX1_publicWays_49 : decode cX1_publicWays 49 = .ok (.iload 5, 2) := by decide +kernel
theorem dX1_publicWays_51 : decode cX1_publicWays 51 = .ok (.ifCond .eq 16, 3) := by decide +kernel
theorem dX1_publicWays_54 : decode cX1_publicWays 54 = .ok (.aload_n 0, 1) := by decide +kernel
theorem dX1_publicWays_55 : decode cX1_publicWays 55 = .ok (.getfield 56, 3) := by decide +kernel
theorem dX1_publicWays_58 : decode cX1_publicWays 58 = .ok (.aload_n 2, 1) := by decide +kernel
theorem dX1_publicWays_59 : decode cX1_publicWays 59 = .ok (.getfield 149, 3) := by decide +kernel
theorem dX1_publicWays_62 : decode cX1_publicWays 62 = .ok (.isub, 1) := by decide +kernel
theorem dX1_publicWays_63 : decode cX1_publicWays 63 = .ok (.iconst 2, 1) := by decide +kernel
theorem dX1_publicWays_64 : decode cX1_publicWays 64 = .ok (.if_icmp .lt 9, 3) := by decide +kernel
theorem dX1_publicWays_67 : decode cX1_publicWays 67 = .ok (.iload 6, 2) := by decide +kernel
theorem dX1_publicWays_69 : decode cX1_publicWays 69 = .ok (.iconst 2, 1) := by decide +kernel
theorem dX1_publicWays_70 : decode cX1_publicWays 70 = .ok (.ior, 1) := by decide +kernel
theorem dX1_publicWays_71 : decode cX1_publicWays 71 = .ok (.istore 6, 2) := by decide +kernel
theorem dX1_publicWays_73 : decode cX1_publicWays 73 = .ok (.aload_n 1, 1) := by decide +kernel
theorem dX1_publicWays_74 : decode cX1_publicWays 74 = .ok (.getfield 229, 3) := by decide +kernel
theorem dX1_publicWays_77 : decode cX1_publicWays 77 = .ok (.ifCond .eq 15, 3) := by decide +kernel
theorem dX1_publicWays_80 : decode cX1_publicWays 80 = .ok (.iload 5, 2) := by decide +kernel
theorem dX1_publicWays_82 : decode cX1_publicWays 82 = .ok (.ifCond .ne 10, 3) := by decide +kernel
theorem dX1_publicWays_85 : decode cX1_publicWays 85 = .ok (.iload 6, 2) := by decide +kernel
theorem dX1_publicWays_87 : decode cX1_publicWays 87 = .ok (.iconst 4, 1) := by decide +kernel
theorem dX1_publicWays_88 : decode cX1_publicWays 88 = .ok (.ior, 1) := by decide +kernel
theorem dX1_publicWays_89 : decode cX1_publicWays 89 = .ok (.goto 5, 3) := by decide +kernel
theorem dX1_publicWays_92 : decode cX1_publicWays 92 = .ok (.iload 6, 2) := by decide +kernel
theorem dX1_publicWays_94 : decode cX1_publicWays 94 = .ok (.ireturn, 1) := by decide +kernel
/-! what a land finds, and what it writes -/
abbrev jCallee (v : jN) (w g : Nat) : Prop := ¬ jIn (v 11 w 2) (v 9 g 0) = 0 ∧ ¬ jIn (v 11 w 4) (v 9 g 2) = 0 ∧ jIn (v 14 g w) 3 = 0 ∧ v 9 g 4 = 0 ∧ ¬ jGone v g
def sp_X1_firstToCall : vgC := fun av σ => match av with
  | [.inr (1, b, 0), .inl (.int w)] => (jWf (jV σ b) ∧ vp_in w 12, some (.inl (.int (jFind (jCallee (jV σ b) w.toNatClampNeg) 0 (jGc (jV σ b))))), σ)
  | _ => (False, none, σ)
def k_X1_firstToCall : List (Nat × vgF) := [(0, vi_aload 0 1), (1, vi_get ww_shp 1 9 4), (4, vi_iload 1 5), (5, vi_aald ww_shp 4 6), (6, vi_get ww_shp 4 2 9), (9, vi_istore 2 10), (10, vi_aload 0 11), (11, vi_get ww_shp 1 9 14), (14, vi_iload 1 15), (15, vi_aald ww_shp 4 16), (16, vi_get ww_shp 4 4 19), (19, vi_istore 3 20), (20, vi_icst (0) 21), (21, vi_istore 4 23), (23, vi_iload 4 25), (25, vi_aload 0 26), (26, vi_get ww_shp 1 4 29), (29, vi_cmp (fun x y => y ≤ x) 116 32), (32, vi_aload 0 33), (33, vi_get ww_shp 1 7 36), (36, vi_iload 4 38), (38, vi_aald ww_shp 2 39), (39, vi_astore 5 41), (41, vi_iload 2 42), (42, vi_aload 5 44), (44, vi_get ww_shp 5 0 47), (47, vi_callS sp_X5_isIn 2 50), (50, vi_if (fun x => x = 0) 69 53), (53, vi_iload 3 54), (54, vi_aload 5 56), (56, vi_get ww_shp 5 2 59), (59, vi_callS sp_X5_isIn 2 62), (62, vi_if (fun x => x = 0) 69 65), (65, vi_icst (1) 66), (66, vi_goto 70), (69, vi_icst (0) 70), (70, vi_istore 6 72), (72, vi_iload 6 74), (74, vi_if (fun x => x = 0) 110 77), (77, vi_aload 5 79), (79, vi_get ww_shp 5 8 82), (82, vi_iload 1 83), (83, vi_ald ww_shp 0 84), (84, vi_icst (3) 85), (85, vi_callS sp_X5_isIn 2 88), (88, vi_if (fun x => x = 0) 91 110), (91, vi_aload 5 93), (93, vi_get ww_shp 5 4 96), (96, vi_if (fun x => x = 0) 99 110), (99, vi_aload 5 101), (101, vi_callV ww_shp 5 sp_X0_isGone 0 104), (104, vi_if (fun x => x = 0) 107 110), (107, vi_iload 4 109), (109, vi_ret), (110, vi_iinc 4 (1) 113), (113, vi_goto 23), (116, vi_icst (-1) 117), (117, vi_ret)]
set_option maxRecDepth 20000 in
theorem s_X1_firstToCall : ∀ q ∈ k_X1_firstToCall, vg_Snd ww_tb ww_nw ww_shp ww_nm ww_cl ww_tyl cX1_firstToCall 7 RX1 (some .int) 1 q.1 q.2 := by
  refine vg_cons (vs_aload_n dX1_firstToCall_0 rfl rfl) ?_
  refine vg_cons (vs_getfield (T := TX1) dX1_firstToCall_1 rfl (by decide) ww_inX1 q_17 rfl) ?_
  refine vg_cons (vs_iload_n dX1_firstToCall_4 rfl rfl) ?_
  refine vg_cons (vs_aaload dX1_firstToCall_5 rfl rfl) ?_
  refine vg_cons (vs_getfield (T := TX4) dX1_firstToCall_6 rfl (by decide) ww_inX4 q_53 rfl) ?_
  refine vg_cons (vs_istore_n dX1_firstToCall_9 rfl (by decide) rfl) ?_
  refine vg_cons (vs_aload_n dX1_firstToCall_10 rfl rfl) ?_
  refine vg_cons (vs_getfield (T := TX1) dX1_firstToCall_11 rfl (by decide) ww_inX1 q_17 rfl) ?_
  refine vg_cons (vs_iload_n dX1_firstToCall_14 rfl rfl) ?_
  refine vg_cons (vs_aaload dX1_firstToCall_15 rfl rfl) ?_
  refine vg_cons (vs_getfield (T := TX4) dX1_firstToCall_16 rfl (by decide) ww_inX4 q_54 rfl) ?_
  refine vg_cons (vs_istore_n dX1_firstToCall_19 rfl (by decide) rfl) ?_
  refine vg_cons (vs_iconst dX1_firstToCall_20 rfl rfl) ?_
  refine vg_cons (vs_istore dX1_firstToCall_21 (by decide) rfl) ?_
  refine vg_cons (vs_iload dX1_firstToCall_23 rfl) ?_
  refine vg_cons (vs_aload_n dX1_firstToCall_25 rfl rfl) ?_
  refine vg_cons (vs_getfield (T := TX1) dX1_firstToCall_26 rfl (by decide) ww_inX1 q_38 rfl) ?_
  refine vg_cons (vs_cmp_ge dX1_firstToCall_29 (by decide) rfl) ?_
  refine vg_cons (vs_aload_n dX1_firstToCall_32 rfl rfl) ?_
  refine vg_cons (vs_getfield (T := TX1) dX1_firstToCall_33 rfl (by decide) ww_inX1 q_39 rfl) ?_
  refine vg_cons (vs_iload dX1_firstToCall_36 rfl) ?_
  refine vg_cons (vs_aaload dX1_firstToCall_38 rfl rfl) ?_
  refine vg_cons (vs_astore dX1_firstToCall_39 (by decide) rfl) ?_
  refine vg_cons (vs_iload_n dX1_firstToCall_41 rfl rfl) ?_
  refine vg_cons (vs_aload dX1_firstToCall_42 rfl) ?_
  refine vg_cons (vs_getfield (T := TX0) dX1_firstToCall_44 rfl (by decide) ww_inX0 q_49 rfl) ?_
  refine vg_cons (vs_callSN (host := "WarnWave") c_X5_isIn dX1_firstToCall_47 ww_good q_50 q_51 (by decide +kernel) q_52 (by decide +kernel) (by decide) rfl) ?_
  refine vg_cons (vs_if_eq dX1_firstToCall_50 (by decide) rfl) ?_
  refine vg_cons (vs_iload_n dX1_firstToCall_53 rfl rfl) ?_
  refine vg_cons (vs_aload dX1_firstToCall_54 rfl) ?_
  refine vg_cons (vs_getfield (T := TX0) dX1_firstToCall_56 rfl (by decide) ww_inX0 q_55 rfl) ?_
  refine vg_cons (vs_callSN (host := "WarnWave") c_X5_isIn dX1_firstToCall_59 ww_good q_50 q_51 (by decide +kernel) q_52 (by decide +kernel) (by decide) rfl) ?_
  refine vg_cons (vs_if_eq dX1_firstToCall_62 (by decide) rfl) ?_
  refine vg_cons (vs_iconst dX1_firstToCall_65 rfl rfl) ?_
  refine vg_cons (vs_goto dX1_firstToCall_66 (by decide)) ?_
  refine vg_cons (vs_iconst dX1_firstToCall_69 rfl rfl) ?_
  refine vg_cons (vs_istore dX1_firstToCall_70 (by decide) rfl) ?_
  refine vg_cons (vs_iload dX1_firstToCall_72 rfl) ?_
  refine vg_cons (vs_if_eq dX1_firstToCall_74 (by decide) rfl) ?_
  refine vg_cons (vs_aload dX1_firstToCall_77 rfl) ?_
  refine vg_cons (vs_getfield (T := TX0) dX1_firstToCall_79 rfl (by decide) ww_inX0 q_56 rfl) ?_
  refine vg_cons (vs_iload_n dX1_firstToCall_82 rfl rfl) ?_
  refine vg_cons (vs_iaload dX1_firstToCall_83 rfl rfl) ?_
  refine vg_cons (vs_iconst dX1_firstToCall_84 rfl rfl) ?_
  refine vg_cons (vs_callSN (host := "WarnWave") c_X5_isIn dX1_firstToCall_85 ww_good q_50 q_51 (by decide +kernel) q_52 (by decide +kernel) (by decide) rfl) ?_
  refine vg_cons (vs_if_ne dX1_firstToCall_88 (by decide) rfl) ?_
  refine vg_cons (vs_aload dX1_firstToCall_91 rfl) ?_
  refine vg_cons (vs_getfield (T := TX0) dX1_firstToCall_93 rfl (by decide) ww_inX0 q_57 rfl) ?_
  refine vg_cons (vs_if_ne dX1_firstToCall_96 (by decide) rfl) ?_
  refine vg_cons (vs_aload dX1_firstToCall_99 rfl) ?_
  refine vg_cons (vs_callV (T := TX0) c_X0_isGone dX1_firstToCall_101 rfl ww_good q_20 q_21 q_22 q_23 q_24 (by decide +kernel) (by decide) rfl) ?_
  refine vg_cons (vs_if_ne dX1_firstToCall_104 (by decide) rfl) ?_
  refine vg_cons (vs_iload dX1_firstToCall_107 rfl) ?_
  refine vg_cons (vs_ireturn dX1_firstToCall_109 rfl) ?_
  refine vg_cons (vs_iinc dX1_firstToCall_110 rfl rfl) ?_
  refine vg_cons (vs_goto dX1_firstToCall_113 (by decide)) ?_
  refine vg_cons (vs_iconst dX1_firstToCall_116 rfl rfl) ?_
  refine vg_cons (vs_ireturn dX1_firstToCall_117 rfl) ?_
  exact fun _ h => absurd h List.not_mem_nil
theorem m_X1_firstToCall : vg_Code k_X1_firstToCall := fun q h => (s_X1_firstToCall q h).1

theorem w_X1_firstToCall : vg_Wd sp_X1_firstToCall 7 := by
  intro av σ h
  unfold sp_X1_firstToCall at h
  split at h
  · exact Nat.le_of_ble_eq_true rfl
  · exact h.elim
theorem g_X1_firstToCall : vg_G k_X1_firstToCall sp_X1_firstToCall := by
  intro av σ h
  unfold sp_X1_firstToCall at h ⊢
  split at h
  next b w =>
    obtain ⟨hw, hw12⟩ := h
    have hgc := hw.1
    have h8 := hgc.2
    refine vg_run (cuts := [(23, [0, 1, 2, 3, 4])]) m_X1_firstToCall 40 ?_
    refine And.intro hw12 (And.intro hw12 ?_)
    refine vg_loop (fun i lv σ' => σ' = σ ∧ ∃ x, x = nI i ∧ jFind (jCallee (jV σ b) w.toNatClampNeg) 0 (jGc (jV σ b)) = jFind (jCallee (jV σ b) w.toNatClampNeg) i (jGc (jV σ b) - i) ∧ lv = [(0, .inr (1, b, 0)), (1, .inl (.int w)), (2, .inl (.int (jV σ b 11 w.toNatClampNeg 2))), (3, .inl (.int (jV σ b 11 w.toNatClampNeg 4))), (4, .inl (.int x))]) (jGc (jV σ b)) ?_ ?_ 0 _ _ (Nat.zero_le _) ⟨rfl, 0, rfl, rfl, rfl⟩
    · rintro i lv σ' hi ⟨e, x, hx, hr, rfl⟩ ih
      subst e
      have hc0 : x.toNatClampNeg = i := jcl hx (by omega)
      have hv : vp_in x 8 := jin hx (by omega) (by decide)
      have hs : jGc (jV σ' b) - i = (jGc (jV σ' b) - (i + 1)) + 1 := by omega
      have no : ¬ (jCallee (jV σ' b) w.toNatClampNeg) i → jFind (jCallee (jV σ' b) w.toNatClampNeg) 0 (jGc (jV σ' b)) = jFind (jCallee (jV σ' b) w.toNatClampNeg) (i + 1) (jGc (jV σ' b) - (i + 1)) := fun z => by rw [hr, hs, jFind, if_neg z]
      have yes : (jCallee (jV σ' b) w.toNatClampNeg) i → jFind (jCallee (jV σ' b) w.toNatClampNeg) 0 (jGc (jV σ' b)) = x := fun z => by rw [hr, hs, jFind, if_pos z, hx]
      refine vg_run (cuts := [(23, [0, 1, 2, 3, 4])]) m_X1_firstToCall 60 ?_
      refine And.intro (fun hc => absurd ((jle hgc.1 hx (by omega) (by omega)).mp hc) (by omega)) (fun _ => ?_)
      have nx : ¬ (jCallee (jV σ' b) w.toNatClampNeg) i → vg_Go k_X1_firstToCall _ 23 [(0, .inr (1, b, 0)), (1, .inl (.int w)), (2, .inl (.int (jV σ' b 11 w.toNatClampNeg 2))), (3, .inl (.int (jV σ' b 11 w.toNatClampNeg 4))), (4, .inl (.int (x + 1)))] [] σ' := fun z => ih _ _ ⟨rfl, x + 1, jinc hx, no z, rfl⟩
      refine And.intro hv (And.intro trivial (And.intro (fun hd => ?_) (fun hd => And.intro trivial (And.intro (fun he => ?_) (fun he => ?_)))))
      · rw [hc0] at hd
        exact And.intro (fun _ => nx (fun z => z.1 hd)) (fun z => absurd rfl z)
      · rw [hc0] at he
        exact And.intro (fun _ => nx (fun z => z.2.1 he)) (fun z => absurd rfl z)
      · rw [hc0] at hd he
        refine And.intro (fun z => absurd z (by decide)) (fun _ => And.intro hw12 (And.intro trivial (And.intro (fun hf => ?_) (fun hf => ?_))))
        · refine And.intro (fun hg => And.intro trivial (And.intro (fun hh => ?_) (fun hh => ?_))) (fun hg => ?_)
          · rw [hc0] at hf hg hh
            exact And.intro (by rw [yes ⟨hd, he, hf, hg, jb_0.mp hh⟩]) rfl
          · rw [hc0] at hh
            exact nx (fun z => hh (jb_f z.2.2.2.2))
          · rw [hc0] at hg
            exact nx (fun z => hg z.2.2.2.1)
        · rw [hc0] at hf
          exact nx (fun z => hf z.2.2.1)
    · rintro lv σ' ⟨e, x, hx, hr, rfl⟩
      subst e
      refine vg_run (cuts := [(23, [0, 1, 2, 3, 4])]) m_X1_firstToCall 20 ?_
      exact And.intro (fun _ => And.intro (by rw [hr, Nat.sub_self]; rfl) rfl) (fun hc => absurd ((jle hgc.1 hx (by omega) (by omega)).mpr (Nat.le_refl _)) hc)
  next => exact h.elim
theorem c_X1_firstToCall : vg_MetF ww_tb ww_nw ww_shp ww_nm ww_cl ww_tyl yX1_firstToCall cX1_firstToCall 7 (some .int) 1 sp_X1_firstToCall := vg_met ww_closed (by decide +kernel) rfl s_X1_firstToCall w_X1_firstToCall g_X1_firstToCall
abbrev jTells (v : jN) (g w o : Nat) : Prop := ¬ o = g ∧ ¬ jGone v o ∧ ¬ v 18 o w = -1 ∧ v 9 o 2 = v 9 g 2 ∧ ¬ (1 : Int32) < jDist (v 9 o 0) (v 9 g 0)
def sp_X1_believingNeighbour : vgC := fun av σ => match av with
  | [.inr (1, b, 0), .inl (.int g), .inl (.int w)] => (jWf (jV σ b) ∧ vp_in g 8 ∧ vp_in w 12, some (.inl (.int (jFind (jTells (jV σ b) g.toNatClampNeg w.toNatClampNeg) 0 (jGc (jV σ b))))), σ)
  | _ => (False, none, σ)
def k_X1_believingNeighbour : List (Nat × vgF) := [(0, vi_aload 0 1), (1, vi_get ww_shp 1 7 4), (4, vi_iload 1 5), (5, vi_aald ww_shp 2 6), (6, vi_astore 3 7), (7, vi_icst (0) 8), (8, vi_istore 4 10), (10, vi_iload 4 12), (12, vi_aload 0 13), (13, vi_get ww_shp 1 4 16), (16, vi_cmp (fun x y => y ≤ x) 102 19), (19, vi_aload 0 20), (20, vi_get ww_shp 1 7 23), (23, vi_iload 4 25), (25, vi_aald ww_shp 2 26), (26, vi_astore 5 28), (28, vi_iload 4 30), (30, vi_iload 1 31), (31, vi_cmp (fun x y => x = y) 57 34), (34, vi_aload 5 36), (36, vi_callV ww_shp 5 sp_X0_isGone 0 39), (39, vi_if (fun x => x = 0) 42 57), (42, vi_aload 5 44), (44, vi_get ww_shp 5 12 47), (47, vi_iload 2 48), (48, vi_ald ww_shp 0 49), (49, vi_icst (-1) 50), (50, vi_cmp (fun x y => x = y) 57 53), (53, vi_icst (1) 54), (54, vi_goto 58), (57, vi_icst (0) 58), (58, vi_istore 6 60), (60, vi_iload 6 62), (62, vi_if (fun x => x = 0) 96 65), (65, vi_aload 5 67), (67, vi_get ww_shp 5 2 70), (70, vi_aload 3 71), (71, vi_get ww_shp 5 2 74), (74, vi_cmp (fun x y => x = y) 77 96), (77, vi_aload 5 79), (79, vi_get ww_shp 5 0 82), (82, vi_aload 3 83), (83, vi_get ww_shp 5 0 86), (86, vi_callS sp_X5_distance 2 89), (89, vi_icst (1) 90), (90, vi_cmp (fun x y => y < x) 96 93), (93, vi_iload 4 95), (95, vi_ret), (96, vi_iinc 4 (1) 99), (99, vi_goto 10), (102, vi_icst (-1) 103), (103, vi_ret)]
set_option maxRecDepth 20000 in
theorem s_X1_believingNeighbour : ∀ q ∈ k_X1_believingNeighbour, vg_Snd ww_tb ww_nw ww_shp ww_nm ww_cl ww_tyl cX1_believingNeighbour 7 RX1 (some .int) 2 q.1 q.2 := by
  refine vg_cons (vs_aload_n dX1_believingNeighbour_0 rfl rfl) ?_
  refine vg_cons (vs_getfield (T := TX1) dX1_believingNeighbour_1 rfl (by decide) ww_inX1 q_39 rfl) ?_
  refine vg_cons (vs_iload_n dX1_believingNeighbour_4 rfl rfl) ?_
  refine vg_cons (vs_aaload dX1_believingNeighbour_5 rfl rfl) ?_
  refine vg_cons (vs_astore_n dX1_believingNeighbour_6 rfl (by decide) rfl) ?_
  refine vg_cons (vs_iconst dX1_believingNeighbour_7 rfl rfl) ?_
  refine vg_cons (vs_istore dX1_believingNeighbour_8 (by decide) rfl) ?_
  refine vg_cons (vs_iload dX1_believingNeighbour_10 rfl) ?_
  refine vg_cons (vs_aload_n dX1_believingNeighbour_12 rfl rfl) ?_
  refine vg_cons (vs_getfield (T := TX1) dX1_believingNeighbour_13 rfl (by decide) ww_inX1 q_38 rfl) ?_
  refine vg_cons (vs_cmp_ge dX1_believingNeighbour_16 (by decide) rfl) ?_
  refine vg_cons (vs_aload_n dX1_believingNeighbour_19 rfl rfl) ?_
  refine vg_cons (vs_getfield (T := TX1) dX1_believingNeighbour_20 rfl (by decide) ww_inX1 q_39 rfl) ?_
  refine vg_cons (vs_iload dX1_believingNeighbour_23 rfl) ?_
  refine vg_cons (vs_aaload dX1_believingNeighbour_25 rfl rfl) ?_
  refine vg_cons (vs_astore dX1_believingNeighbour_26 (by decide) rfl) ?_
  refine vg_cons (vs_iload dX1_believingNeighbour_28 rfl) ?_
  refine vg_cons (vs_iload_n dX1_believingNeighbour_30 rfl rfl) ?_
  refine vg_cons (vs_cmp_eq dX1_believingNeighbour_31 (by decide) rfl) ?_
  refine vg_cons (vs_aload dX1_believingNeighbour_34 rfl) ?_
  refine vg_cons (vs_callV (T := TX0) c_X0_isGone dX1_believingNeighbour_36 rfl ww_good q_20 q_21 q_22 q_23 q_24 (by decide +kernel) (by decide) rfl) ?_
  refine vg_cons (vs_if_ne dX1_believingNeighbour_39 (by decide) rfl) ?_
  refine vg_cons (vs_aload dX1_believingNeighbour_42 rfl) ?_
  refine vg_cons (vs_getfield (T := TX0) dX1_believingNeighbour_44 rfl (by decide) ww_inX0 q_19 rfl) ?_
  refine vg_cons (vs_iload_n dX1_believingNeighbour_47 rfl rfl) ?_
  refine vg_cons (vs_iaload dX1_believingNeighbour_48 rfl rfl) ?_
  refine vg_cons (vs_iconst dX1_believingNeighbour_49 rfl rfl) ?_
  refine vg_cons (vs_cmp_eq dX1_believingNeighbour_50 (by decide) rfl) ?_
  refine vg_cons (vs_iconst dX1_believingNeighbour_53 rfl rfl) ?_
  refine vg_cons (vs_goto dX1_believingNeighbour_54 (by decide)) ?_
  refine vg_cons (vs_iconst dX1_believingNeighbour_57 rfl rfl) ?_
  refine vg_cons (vs_istore dX1_believingNeighbour_58 (by decide) rfl) ?_
  refine vg_cons (vs_iload dX1_believingNeighbour_60 rfl) ?_
  refine vg_cons (vs_if_eq dX1_believingNeighbour_62 (by decide) rfl) ?_
  refine vg_cons (vs_aload dX1_believingNeighbour_65 rfl) ?_
  refine vg_cons (vs_getfield (T := TX0) dX1_believingNeighbour_67 rfl (by decide) ww_inX0 q_55 rfl) ?_
  refine vg_cons (vs_aload_n dX1_believingNeighbour_70 rfl rfl) ?_
  refine vg_cons (vs_getfield (T := TX0) dX1_believingNeighbour_71 rfl (by decide) ww_inX0 q_55 rfl) ?_
  refine vg_cons (vs_cmp_ne dX1_believingNeighbour_74 (by decide) rfl) ?_
  refine vg_cons (vs_aload dX1_believingNeighbour_77 rfl) ?_
  refine vg_cons (vs_getfield (T := TX0) dX1_believingNeighbour_79 rfl (by decide) ww_inX0 q_49 rfl) ?_
  refine vg_cons (vs_aload_n dX1_believingNeighbour_82 rfl rfl) ?_
  refine vg_cons (vs_getfield (T := TX0) dX1_believingNeighbour_83 rfl (by decide) ww_inX0 q_49 rfl) ?_
  refine vg_cons (vs_callSN (host := "WarnWave") c_X5_distance dX1_believingNeighbour_86 ww_good q_58 q_51 (by decide +kernel) q_59 (by decide +kernel) (by decide) rfl) ?_
  refine vg_cons (vs_iconst dX1_believingNeighbour_89 rfl rfl) ?_
  refine vg_cons (vs_cmp_gt dX1_believingNeighbour_90 (by decide) rfl) ?_
  refine vg_cons (vs_iload dX1_believingNeighbour_93 rfl) ?_
  refine vg_cons (vs_ireturn dX1_believingNeighbour_95 rfl) ?_
  refine vg_cons (vs_iinc dX1_believingNeighbour_96 rfl rfl) ?_
  refine vg_cons (vs_goto dX1_believingNeighbour_99 (by decide)) ?_
  refine vg_cons (vs_iconst dX1_believingNeighbour_102 rfl rfl) ?_
  refine vg_cons (vs_ireturn dX1_believingNeighbour_103 rfl) ?_
  exact fun _ h => absurd h List.not_mem_nil
theorem m_X1_believingNeighbour : vg_Code k_X1_believingNeighbour := fun q h => (s_X1_believingNeighbour q h).1

theorem w_X1_believingNeighbour : vg_Wd sp_X1_believingNeighbour 7 := by
  intro av σ h
  unfold sp_X1_believingNeighbour at h
  split at h
  · exact Nat.le_of_ble_eq_true rfl
  · exact h.elim
theorem g_X1_believingNeighbour : vg_G k_X1_believingNeighbour sp_X1_believingNeighbour := by
  intro av σ h
  unfold sp_X1_believingNeighbour at h ⊢
  split at h
  next b g w =>
    obtain ⟨hw, hg8, hw12⟩ := h
    have hgc := hw.1
    have h8 := hgc.2
    refine vg_run (cuts := [(10, [0, 1, 2, 3, 4])]) m_X1_believingNeighbour 40 ?_
    refine And.intro hg8 ?_
    refine vg_loop (fun i lv σ' => σ' = σ ∧ ∃ x, x = nI i ∧ jFind (jTells (jV σ b) g.toNatClampNeg w.toNatClampNeg) 0 (jGc (jV σ b)) = jFind (jTells (jV σ b) g.toNatClampNeg w.toNatClampNeg) i (jGc (jV σ b) - i) ∧ lv = [(0, .inr (1, b, 0)), (1, .inl (.int g)), (2, .inl (.int w)), (3, .inr (9, b, g.toNatClampNeg)), (4, .inl (.int x))]) (jGc (jV σ b)) ?_ ?_ 0 _ _ (Nat.zero_le _) ⟨rfl, 0, rfl, rfl, rfl⟩
    · rintro i lv σ' hi ⟨e, x, hx, hr, rfl⟩ ih
      subst e
      have hc0 : x.toNatClampNeg = i := jcl hx (by omega)
      have hv : vp_in x 8 := jin hx (by omega) (by decide)
      have hs : jGc (jV σ' b) - i = (jGc (jV σ' b) - (i + 1)) + 1 := by omega
      have no : ¬ (jTells (jV σ' b) g.toNatClampNeg w.toNatClampNeg) i → jFind (jTells (jV σ' b) g.toNatClampNeg w.toNatClampNeg) 0 (jGc (jV σ' b)) = jFind (jTells (jV σ' b) g.toNatClampNeg w.toNatClampNeg) (i + 1) (jGc (jV σ' b) - (i + 1)) := fun z => by rw [hr, hs, jFind, if_neg z]
      have yes : (jTells (jV σ' b) g.toNatClampNeg w.toNatClampNeg) i → jFind (jTells (jV σ' b) g.toNatClampNeg w.toNatClampNeg) 0 (jGc (jV σ' b)) = x := fun z => by rw [hr, hs, jFind, if_pos z, hx]
      refine vg_run (cuts := [(10, [0, 1, 2, 3, 4])]) m_X1_believingNeighbour 60 ?_
      refine And.intro (fun hc => absurd ((jle hgc.1 hx (by omega) (by omega)).mp hc) (by omega)) (fun _ => ?_)
      obtain ⟨g0, hg0, hgx⟩ := vp_in_of hg8 (by decide)
      have eg : g.toNatClampNeg = g0 := jcl hgx (by omega)
      have nx : ¬ (jTells (jV σ' b) g.toNatClampNeg w.toNatClampNeg) i → vg_Go k_X1_believingNeighbour _ 10 [(0, .inr (1, b, 0)), (1, .inl (.int g)), (2, .inl (.int w)), (3, .inr (9, b, g.toNatClampNeg)), (4, .inl (.int (x + 1)))] [] σ' := fun z => ih _ _ ⟨rfl, x + 1, jinc hx, no z, rfl⟩
      refine And.intro hv (And.intro (fun hd => ?_) (fun hd => And.intro trivial (And.intro (fun he => And.intro hw12 (And.intro (fun hf => ?_) (fun hf => ?_))) (fun he => ?_))))
      · have ei : i = g.toNatClampNeg := by rw [← hc0, hd]
        exact And.intro (fun _ => nx (fun z => z.1 ei)) (fun z => absurd rfl z)
      · rw [hc0] at hf
        exact And.intro (fun _ => nx (fun z => z.2.2.1 hf)) (fun z => absurd rfl z)
      · rw [hc0] at he hf
        have ni : ¬ i = g.toNatClampNeg := fun z => hd (by rw [hx, hgx, ← eg, z])
        refine And.intro (fun z => absurd z (by decide)) (fun _ => And.intro (fun hh => And.intro trivial (And.intro (fun hk => ?_) (fun hk => ?_))) (fun hh => ?_))
        · rw [hc0] at hk
          exact nx (fun z => z.2.2.2.2 hk)
        · rw [hc0] at hh hk
          exact And.intro (by rw [yes ⟨ni, jb_0.mp he, hf, hh, hk⟩]) rfl
        · rw [hc0] at hh
          exact nx (fun z => hh z.2.2.2.1)
      · rw [hc0] at he
        exact And.intro (fun _ => nx (fun z => he (jb_f z.2.1))) (fun z => absurd rfl z)
    · rintro lv σ' ⟨e, x, hx, hr, rfl⟩
      subst e
      refine vg_run (cuts := [(10, [0, 1, 2, 3, 4])]) m_X1_believingNeighbour 20 ?_
      exact And.intro (fun _ => And.intro (by rw [hr, Nat.sub_self]; rfl) rfl) (fun hc => absurd ((jle hgc.1 hx (by omega) (by omega)).mpr (Nat.le_refl _)) hc)
  next => exact h.elim
theorem c_X1_believingNeighbour : vg_MetF ww_tb ww_nw ww_shp ww_nm ww_cl ww_tyl yX1_believingNeighbour cX1_believingNeighbour 7 (some .int) 2 sp_X1_believingNeighbour := vg_met ww_closed (by decide +kernel) rfl s_X1_believingNeighbour w_X1_believingNeighbour g_X1_believingNeighbour
/-- the nearest shelter with room, of those below n, and how far -/
def jNear (v : jN) (g : Nat) : Nat → Int32 × Int32
  | 0 => (-1, 16)
  | n + 1 => if v 10 n 1 < v 9 g 1 then jNear v g n else if (jNear v g n).2 ≤ jDist (v 9 g 0) (v 10 n 0) then jNear v g n else (nI n, jDist (v 9 g 0) (v 10 n 0))
def sp_X1_nearestWithRoom : vgC := fun av σ => match av with
  | [.inr (1, b, 0), .inr (9, b', g)] => (jWf (jV σ b) ∧ b' = b, some (.inl (.int ((jNear (jV σ b) g (jSc (jV σ b))).1))), σ)
  | _ => (False, none, σ)
def k_X1_nearestWithRoom : List (Nat × vgF) := [(0, vi_icst (-1) 1), (1, vi_istore 2 2), (2, vi_icst (16) 4), (4, vi_istore 3 5), (5, vi_icst (0) 6), (6, vi_istore 4 8), (8, vi_iload 4 10), (10, vi_aload 0 11), (11, vi_get ww_shp 1 5 14), (14, vi_cmp (fun x y => y ≤ x) 71 17), (17, vi_aload 1 18), (18, vi_get ww_shp 5 0 21), (21, vi_aload 0 22), (22, vi_get ww_shp 1 8 25), (25, vi_iload 4 27), (27, vi_aald ww_shp 3 28), (28, vi_get ww_shp 3 0 31), (31, vi_callS sp_X5_distance 2 34), (34, vi_istore 5 36), (36, vi_aload 0 37), (37, vi_get ww_shp 1 8 40), (40, vi_iload 4 42), (42, vi_aald ww_shp 3 43), (43, vi_get ww_shp 3 1 46), (46, vi_aload 1 47), (47, vi_get ww_shp 5 1 50), (50, vi_cmp (fun x y => x < y) 65 53), (53, vi_iload 5 55), (55, vi_iload 3 56), (56, vi_cmp (fun x y => y ≤ x) 65 59), (59, vi_iload 4 61), (61, vi_istore 2 62), (62, vi_iload 5 64), (64, vi_istore 3 65), (65, vi_iinc 4 (1) 68), (68, vi_goto 8), (71, vi_iload 2 72), (72, vi_ret)]
set_option maxRecDepth 20000 in
theorem s_X1_nearestWithRoom : ∀ q ∈ k_X1_nearestWithRoom, vg_Snd ww_tb ww_nw ww_shp ww_nm ww_cl ww_tyl cX1_nearestWithRoom 6 RX1 (some .int) 2 q.1 q.2 := by
  refine vg_cons (vs_iconst dX1_nearestWithRoom_0 rfl rfl) ?_
  refine vg_cons (vs_istore_n dX1_nearestWithRoom_1 rfl (by decide) rfl) ?_
  refine vg_cons (vs_bipush dX1_nearestWithRoom_2 (by decide) rfl) ?_
  refine vg_cons (vs_istore_n dX1_nearestWithRoom_4 rfl (by decide) rfl) ?_
  refine vg_cons (vs_iconst dX1_nearestWithRoom_5 rfl rfl) ?_
  refine vg_cons (vs_istore dX1_nearestWithRoom_6 (by decide) rfl) ?_
  refine vg_cons (vs_iload dX1_nearestWithRoom_8 rfl) ?_
  refine vg_cons (vs_aload_n dX1_nearestWithRoom_10 rfl rfl) ?_
  refine vg_cons (vs_getfield (T := TX1) dX1_nearestWithRoom_11 rfl (by decide) ww_inX1 q_60 rfl) ?_
  refine vg_cons (vs_cmp_ge dX1_nearestWithRoom_14 (by decide) rfl) ?_
  refine vg_cons (vs_aload_n dX1_nearestWithRoom_17 rfl rfl) ?_
  refine vg_cons (vs_getfield (T := TX0) dX1_nearestWithRoom_18 rfl (by decide) ww_inX0 q_49 rfl) ?_
  refine vg_cons (vs_aload_n dX1_nearestWithRoom_21 rfl rfl) ?_
  refine vg_cons (vs_getfield (T := TX1) dX1_nearestWithRoom_22 rfl (by decide) ww_inX1 q_61 rfl) ?_
  refine vg_cons (vs_iload dX1_nearestWithRoom_25 rfl) ?_
  refine vg_cons (vs_aaload dX1_nearestWithRoom_27 rfl rfl) ?_
  refine vg_cons (vs_getfield (T := TX3) dX1_nearestWithRoom_28 rfl (by decide) ww_inX3 q_62 rfl) ?_
  refine vg_cons (vs_callSN (host := "WarnWave") c_X5_distance dX1_nearestWithRoom_31 ww_good q_58 q_51 (by decide +kernel) q_59 (by decide +kernel) (by decide) rfl) ?_
  refine vg_cons (vs_istore dX1_nearestWithRoom_34 (by decide) rfl) ?_
  refine vg_cons (vs_aload_n dX1_nearestWithRoom_36 rfl rfl) ?_
  refine vg_cons (vs_getfield (T := TX1) dX1_nearestWithRoom_37 rfl (by decide) ww_inX1 q_61 rfl) ?_
  refine vg_cons (vs_iload dX1_nearestWithRoom_40 rfl) ?_
  refine vg_cons (vs_aaload dX1_nearestWithRoom_42 rfl rfl) ?_
  refine vg_cons (vs_getfield (T := TX3) dX1_nearestWithRoom_43 rfl (by decide) ww_inX3 q_63 rfl) ?_
  refine vg_cons (vs_aload_n dX1_nearestWithRoom_46 rfl rfl) ?_
  refine vg_cons (vs_getfield (T := TX0) dX1_nearestWithRoom_47 rfl (by decide) ww_inX0 q_44 rfl) ?_
  refine vg_cons (vs_cmp_lt dX1_nearestWithRoom_50 (by decide) rfl) ?_
  refine vg_cons (vs_iload dX1_nearestWithRoom_53 rfl) ?_
  refine vg_cons (vs_iload_n dX1_nearestWithRoom_55 rfl rfl) ?_
  refine vg_cons (vs_cmp_ge dX1_nearestWithRoom_56 (by decide) rfl) ?_
  refine vg_cons (vs_iload dX1_nearestWithRoom_59 rfl) ?_
  refine vg_cons (vs_istore_n dX1_nearestWithRoom_61 rfl (by decide) rfl) ?_
  refine vg_cons (vs_iload dX1_nearestWithRoom_62 rfl) ?_
  refine vg_cons (vs_istore_n dX1_nearestWithRoom_64 rfl (by decide) rfl) ?_
  refine vg_cons (vs_iinc dX1_nearestWithRoom_65 rfl rfl) ?_
  refine vg_cons (vs_goto dX1_nearestWithRoom_68 (by decide)) ?_
  refine vg_cons (vs_iload_n dX1_nearestWithRoom_71 rfl rfl) ?_
  refine vg_cons (vs_ireturn dX1_nearestWithRoom_72 rfl) ?_
  exact fun _ h => absurd h List.not_mem_nil
theorem m_X1_nearestWithRoom : vg_Code k_X1_nearestWithRoom := fun q h => (s_X1_nearestWithRoom q h).1

theorem w_X1_nearestWithRoom : vg_Wd sp_X1_nearestWithRoom 6 := by
  intro av σ h
  unfold sp_X1_nearestWithRoom at h
  split at h
  · exact Nat.le_of_ble_eq_true rfl
  · exact h.elim
theorem g_X1_nearestWithRoom : vg_G k_X1_nearestWithRoom sp_X1_nearestWithRoom := by
  intro av σ h
  unfold sp_X1_nearestWithRoom at h ⊢
  split at h
  next b b' g =>
    obtain ⟨hw, rfl⟩ := h
    have hsc := hw.2.1
    have h3 := hsc.2
    refine vg_run (cuts := [(8, [0, 1, 2, 3, 4])]) m_X1_nearestWithRoom 20 ?_
    refine vg_loop (fun i lv σ' => σ' = σ ∧ ∃ x q, x = nI i ∧ q = jNear (jV σ b') g i ∧ lv = [(0, .inr (1, b', 0)), (1, .inr (9, b', g)), (2, .inl (.int q.1)), (3, .inl (.int q.2)), (4, .inl (.int x))]) (jSc (jV σ b')) ?_ ?_ 0 _ _ (Nat.zero_le _) ⟨rfl, 0, (-1, 16), rfl, rfl, rfl⟩
    · rintro i lv σ' hi ⟨e, x, q, hx, hq, rfl⟩ ih
      subst e
      have hc0 : x.toNatClampNeg = i := jcl hx (by omega)
      have hv : vp_in x 3 := jin hx (by omega) (by decide)
      refine vg_run (cuts := [(8, [0, 1, 2, 3, 4])]) m_X1_nearestWithRoom 60 ?_
      refine And.intro (fun hc => absurd ((jle hsc.1 hx (by omega) (by omega)).mp hc) (by omega)) (fun _ => ?_)
      refine And.intro hv (And.intro trivial (And.intro hv (And.intro (fun hd => ?_) (fun hd => And.intro (fun he => ?_) (fun he => ?_)))))
      · rw [hc0] at hd
        exact ih _ _ ⟨rfl, x + 1, q, jinc hx, hq.trans (if_pos hd).symm, rfl⟩
      · rw [hc0, hq] at he
        rw [hc0] at hd
        exact ih _ _ ⟨rfl, x + 1, q, jinc hx, hq.trans ((if_neg hd).trans (if_pos he)).symm, rfl⟩
      · rw [hc0, hq] at he
        rw [hc0] at hd
        refine ih _ _ ⟨rfl, x + 1, (x, jDist (σ' (9, b', g) 0) (σ' (10, b', x.toNatClampNeg) 0)), jinc hx, ?_, rfl⟩
        rw [hc0, hx]
        exact ((if_neg hd).trans (if_neg he)).symm
    · rintro lv σ' ⟨e, x, q, hx, hq, rfl⟩
      subst e
      refine vg_run (cuts := [(8, [0, 1, 2, 3, 4])]) m_X1_nearestWithRoom 20 ?_
      exact And.intro (fun _ => And.intro (by rw [hq]) rfl) (fun hc => absurd ((jle hsc.1 hx (by omega) (by omega)).mpr (Nat.le_refl _)) hc)
  next => exact h.elim
theorem c_X1_nearestWithRoom : vg_MetF ww_tb ww_nw ww_shp ww_nm ww_cl ww_tyl yX1_nearestWithRoom cX1_nearestWithRoom 6 (some .int) 2 sp_X1_nearestWithRoom := vg_met ww_closed (by decide +kernel) rfl s_X1_nearestWithRoom w_X1_nearestWithRoom g_X1_nearestWithRoom
/-- cells added to a set -/
def jAdd (f : Nat → Prop) [DecidablePred f] (a : Int32) : Nat → Int32
  | 0 => a
  | n + 1 => if f n then jAdd f a n ||| ((1 : Int32) <<< (nI n &&& 31)) else jAdd f a n
abbrev jNearBy (v : jN) (j k c : Nat) : Prop := ¬ v 13 j k < jDist (v 7 j k) (nI c)
/-- the cells that the first n of the sirens (j = 0) or masts (j = 1) reach -/
def jReach (v : jN) (j : Nat) : Nat → Int32
  | 0 => 0
  | n + 1 => if v 8 j n = 0 then jReach v j n else jAdd (jNearBy v j n) (jReach v j n) 16
def sp_X2_cellsReached : vgC := fun av σ => match av with
  | [.inr (5, b, j)] => (jV σ b 5 j 3 = nI (jNc (jV σ b) j) ∧ jNc (jV σ b) j ≤ 5, some (.inl (.int (jReach (jV σ b) j (jNc (jV σ b) j)))), σ)
  | _ => (False, none, σ)
def k_X2_cellsReached : List (Nat × vgF) := [(0, vi_icst (0) 1), (1, vi_istore 1 2), (2, vi_icst (0) 3), (3, vi_istore 2 4), (4, vi_iload 2 5), (5, vi_aload 0 6), (6, vi_get ww_shp 2 3 9), (9, vi_cmp (fun x y => y ≤ x) 66 12), (12, vi_icst (0) 13), (13, vi_istore 3 14), (14, vi_aload 0 15), (15, vi_get ww_shp 2 2 18), (18, vi_iload 2 19), (19, vi_ald ww_shp 1 20), (20, vi_if (fun x => x = 0) 60 23), (23, vi_iload 3 24), (24, vi_icst (16) 26), (26, vi_cmp (fun x y => y ≤ x) 60 29), (29, vi_aload 0 30), (30, vi_get ww_shp 2 0 33), (33, vi_iload 2 34), (34, vi_ald ww_shp 0 35), (35, vi_iload 3 36), (36, vi_callS sp_X5_distance 2 39), (39, vi_aload 0 40), (40, vi_get ww_shp 2 1 43), (43, vi_iload 2 44), (44, vi_ald ww_shp 0 45), (45, vi_cmp (fun x y => y < x) 54 48), (48, vi_iload 1 49), (49, vi_icst (1) 50), (50, vi_iload 3 51), (51, vi_bin (fun x y => x <<< (y &&& 31)) 52), (52, vi_bin (fun x y => x ||| y) 53), (53, vi_istore 1 54), (54, vi_iinc 3 (1) 57), (57, vi_goto 14), (60, vi_iinc 2 (1) 63), (63, vi_goto 4), (66, vi_iload 1 67), (67, vi_ret)]
set_option maxRecDepth 20000 in
theorem s_X2_cellsReached : ∀ q ∈ k_X2_cellsReached, vg_Snd ww_tb ww_nw ww_shp ww_nm ww_cl ww_tyl cX2_cellsReached 4 RX2 (some .int) 2 q.1 q.2 := by
  refine vg_cons (vs_iconst dX2_cellsReached_0 rfl rfl) ?_
  refine vg_cons (vs_istore_n dX2_cellsReached_1 rfl (by decide) rfl) ?_
  refine vg_cons (vs_iconst dX2_cellsReached_2 rfl rfl) ?_
  refine vg_cons (vs_istore_n dX2_cellsReached_3 rfl (by decide) rfl) ?_
  refine vg_cons (vs_iload_n dX2_cellsReached_4 rfl rfl) ?_
  refine vg_cons (vs_aload_n dX2_cellsReached_5 rfl rfl) ?_
  refine vg_cons (vs_getfield (T := TX2) dX2_cellsReached_6 rfl (by decide) ww_inX2 q_64 rfl) ?_
  refine vg_cons (vs_cmp_ge dX2_cellsReached_9 (by decide) rfl) ?_
  refine vg_cons (vs_iconst dX2_cellsReached_12 rfl rfl) ?_
  refine vg_cons (vs_istore_n dX2_cellsReached_13 rfl (by decide) rfl) ?_
  refine vg_cons (vs_aload_n dX2_cellsReached_14 rfl rfl) ?_
  refine vg_cons (vs_getfield (T := TX2) dX2_cellsReached_15 rfl (by decide) ww_inX2 q_65 rfl) ?_
  refine vg_cons (vs_iload_n dX2_cellsReached_18 rfl rfl) ?_
  refine vg_cons (vs_zaload dX2_cellsReached_19 rfl rfl) ?_
  refine vg_cons (vs_if_eq dX2_cellsReached_20 (by decide) rfl) ?_
  refine vg_cons (vs_iload_n dX2_cellsReached_23 rfl rfl) ?_
  refine vg_cons (vs_bipush dX2_cellsReached_24 (by decide) rfl) ?_
  refine vg_cons (vs_cmp_ge dX2_cellsReached_26 (by decide) rfl) ?_
  refine vg_cons (vs_aload_n dX2_cellsReached_29 rfl rfl) ?_
  refine vg_cons (vs_getfield (T := TX2) dX2_cellsReached_30 rfl (by decide) ww_inX2 q_66 rfl) ?_
  refine vg_cons (vs_iload_n dX2_cellsReached_33 rfl rfl) ?_
  refine vg_cons (vs_iaload dX2_cellsReached_34 rfl rfl) ?_
  refine vg_cons (vs_iload_n dX2_cellsReached_35 rfl rfl) ?_
  refine vg_cons (vs_callSN (host := "WarnWave") c_X5_distance dX2_cellsReached_36 ww_good q_58 q_51 (by decide +kernel) q_59 (by decide +kernel) (by decide) rfl) ?_
  refine vg_cons (vs_aload_n dX2_cellsReached_39 rfl rfl) ?_
  refine vg_cons (vs_getfield (T := TX2) dX2_cellsReached_40 rfl (by decide) ww_inX2 q_67 rfl) ?_
  refine vg_cons (vs_iload_n dX2_cellsReached_43 rfl rfl) ?_
  refine vg_cons (vs_iaload dX2_cellsReached_44 rfl rfl) ?_
  refine vg_cons (vs_cmp_gt dX2_cellsReached_45 (by decide) rfl) ?_
  refine vg_cons (vs_iload_n dX2_cellsReached_48 rfl rfl) ?_
  refine vg_cons (vs_iconst dX2_cellsReached_49 rfl rfl) ?_
  refine vg_cons (vs_iload_n dX2_cellsReached_50 rfl rfl) ?_
  refine vg_cons (vs_ishl dX2_cellsReached_51 rfl) ?_
  refine vg_cons (vs_ior dX2_cellsReached_52 rfl) ?_
  refine vg_cons (vs_istore_n dX2_cellsReached_53 rfl (by decide) rfl) ?_
  refine vg_cons (vs_iinc dX2_cellsReached_54 rfl rfl) ?_
  refine vg_cons (vs_goto dX2_cellsReached_57 (by decide)) ?_
  refine vg_cons (vs_iinc dX2_cellsReached_60 rfl rfl) ?_
  refine vg_cons (vs_goto dX2_cellsReached_63 (by decide)) ?_
  refine vg_cons (vs_iload_n dX2_cellsReached_66 rfl rfl) ?_
  refine vg_cons (vs_ireturn dX2_cellsReached_67 rfl) ?_
  exact fun _ h => absurd h List.not_mem_nil
theorem m_X2_cellsReached : vg_Code k_X2_cellsReached := fun q h => (s_X2_cellsReached q h).1

theorem w_X2_cellsReached : vg_Wd sp_X2_cellsReached 4 := by
  intro av σ h
  unfold sp_X2_cellsReached at h
  split at h
  · exact Nat.le_of_ble_eq_true rfl
  · exact h.elim
theorem g_X2_cellsReached : vg_G k_X2_cellsReached sp_X2_cellsReached := by
  intro av σ h
  unfold sp_X2_cellsReached at h ⊢
  split at h
  next b j =>
    have hn := h
    have h5 := h.2
    refine vg_run (cuts := [(4, [0, 1, 2])]) m_X2_cellsReached 20 ?_
    refine vg_loop (fun i lv σ' => σ' = σ ∧ ∃ x a, x = nI i ∧ a = jReach (jV σ b) j i ∧ lv = [(0, .inr (5, b, j)), (1, .inl (.int a)), (2, .inl (.int x))]) (jNc (jV σ b) j) ?_ ?_ 0 _ _ (Nat.zero_le _) ⟨rfl, 0, 0, rfl, rfl, rfl⟩
    · rintro i lv σ' hi ⟨e, x, a, hx, ha, rfl⟩ ih
      subst e
      have hc0 : x.toNatClampNeg = i := jcl hx (by omega)
      have hv : vp_in x 5 := jin hx (by omega) (by decide)
      refine vg_run (cuts := [(4, [0, 1, 2]), (14, [0, 1, 2, 3])]) m_X2_cellsReached 20 ?_
      refine And.intro (fun hc => absurd ((jle hn.1 hx (by omega) (by omega)).mp hc) (by omega)) (fun _ => ?_)
      by_cases hp : jV σ' b 8 j i = 0
      · refine vg_run (cuts := [(4, [0, 1, 2])]) m_X2_cellsReached 20 ?_
        refine And.intro hv (And.intro (fun _ => ?_) (fun z => absurd (by rw [hc0]; exact hp) z))
        exact ih _ _ ⟨rfl, x + 1, a, jinc hx, by rw [jReach, if_pos hp, ha], rfl⟩
      · refine vg_loop (fun c lv σ'' => σ'' = σ' ∧ ∃ y a', y = nI c ∧ a' = jAdd (jNearBy (jV σ' b) j i) a c ∧ lv = [(0, .inr (5, b, j)), (1, .inl (.int a')), (2, .inl (.int x)), (3, .inl (.int y))]) 16 ?_ ?_ 0 _ _ (Nat.zero_le _) ⟨rfl, 0, a, rfl, rfl, rfl⟩
        · rintro c lv σ'' hi2 ⟨e, y, a', hy, ha', rfl⟩ ih2
          subst e
          refine vg_run (cuts := [(4, [0, 1, 2]), (14, [0, 1, 2, 3])]) m_X2_cellsReached 40 ?_
          refine And.intro hv (And.intro (fun z => absurd z (by rw [hc0]; exact hp)) (fun _ => And.intro (fun hc => absurd ((jle (n := 16) rfl hy (by omega) (by omega)).mp hc) (by omega)) (fun _ => ?_)))
          refine And.intro hv (And.intro trivial (And.intro hv (And.intro (fun hd => ?_) (fun hd => ?_))))
          · rw [hc0, hy] at hd
            have hd' : ¬ jNearBy (jV σ'' b) j i c := fun z => z hd
            exact ih2 _ _ ⟨rfl, y + 1, a', jinc hy, by rw [jAdd, if_neg hd', ha'], rfl⟩
          · rw [hc0, hy] at hd
            have hd' : jNearBy (jV σ'' b) j i c := hd
            exact ih2 _ _ ⟨rfl, y + 1, a' ||| ((1 : Int32) <<< (y &&& 31)), jinc hy, by rw [jAdd, if_pos hd', ha', hy], rfl⟩
        · rintro lv σ'' ⟨e, y, a', hy, ha', rfl⟩
          subst e
          refine vg_run (cuts := [(4, [0, 1, 2])]) m_X2_cellsReached 20 ?_
          refine And.intro hv (And.intro (fun z => absurd z (by rw [hc0]; exact hp)) (fun _ => And.intro (fun _ => ?_) (fun hc => absurd ((jle (n := 16) rfl hy (by omega) (by omega)).mpr (Nat.le_refl _)) hc)))
          exact ih _ _ ⟨rfl, x + 1, a', jinc hx, by rw [jReach, if_neg hp, ha', ha], rfl⟩
    · rintro lv σ' ⟨e, x, a, hx, ha, rfl⟩
      subst e
      refine vg_run (cuts := [(4, [0, 1, 2])]) m_X2_cellsReached 20 ?_
      exact And.intro (fun _ => And.intro (by rw [ha]) rfl) (fun hc => absurd ((jle hn.1 hx (by omega) (by omega)).mpr (Nat.le_refl _)) hc)
  next => exact h.elim
theorem c_X2_cellsReached : vg_MetF ww_tb ww_nw ww_shp ww_nm ww_cl ww_tyl yX2_cellsReached cX2_cellsReached 4 (some .int) 2 sp_X2_cellsReached := vg_met ww_closed (by decide +kernel) rfl s_X2_cellsReached w_X2_cellsReached g_X2_cellsReached
/-- the ways that don't hang on others: sirens, masts, radio -/
def jPub (v : jN) (g w : Nat) (si ma sl : Int32) : Int32 :=
  if jIn (v 11 w 2) (v 9 g 0) = 0 then 0 else
  let s0 : Int32 := if si = 0 then 0 else 1
  if jIn (v 11 w 4) (v 9 g 2) = 0 then s0 else
  let s1 : Int32 := if ma = 0 then s0 else if sl = 0 then s0 ||| 2 else if v 1 0 0 - v 11 w 6 < 2 then s0 else s0 ||| 2
  if v 9 g 5 = 0 then s1 else if sl = 0 then s1 ||| 4 else s1
def sp_X1_publicWays : vgC := fun av σ => match av with
  | [.inr (1, b, 0), .inr (9, b', g), .inr (11, b'', w), .inl (.int si), .inl (.int ma), .inl (.int sl)] => (b' = b ∧ b'' = b, some (.inl (.int (jPub (jV σ b) g w si ma sl))), σ)
  | _ => (False, none, σ)
def k_X1_publicWays : List (Nat × vgF) := [(0, vi_aload 2 1), (1, vi_get ww_shp 4 2 4), (4, vi_aload 1 5), (5, vi_get ww_shp 5 0 8), (8, vi_callS sp_X5_isIn 2 11), (11, vi_if (fun x => x = 0) 14 16), (14, vi_icst (0) 15), (15, vi_ret), (16, vi_iload 3 17), (17, vi_if (fun x => x = 0) 24 20), (20, vi_icst (1) 21), (21, vi_goto 25), (24, vi_icst (0) 25), (25, vi_istore 6 27), (27, vi_aload 2 28), (28, vi_get ww_shp 4 4 31), (31, vi_aload 1 32), (32, vi_get ww_shp 5 2 35), (35, vi_callS sp_X5_isIn 2 38), (38, vi_if (fun x => x = 0) 41 44), (41, vi_iload 6 43), (43, vi_ret), (44, vi_iload 4 46), (46, vi_if (fun x => x = 0) 73 49), (49, vi_iload 5 51), (51, vi_if (fun x => x = 0) 67 54), (54, vi_aload 0 55), (55, vi_get ww_shp 1 0 58), (58, vi_aload 2 59), (59, vi_get ww_shp 4 6 62), (62, vi_bin (fun x y => x - y) 63), (63, vi_icst (2) 64), (64, vi_cmp (fun x y => x < y) 73 67), (67, vi_iload 6 69), (69, vi_icst (2) 70), (70, vi_bin (fun x y => x ||| y) 71), (71, vi_istore 6 73), (73, vi_aload 1 74), (74, vi_get ww_shp 5 5 77), (77, vi_if (fun x => x = 0) 92 80), (80, vi_iload 5 82), (82, vi_if (fun x => x = 0) 85 92), (85, vi_iload 6 87), (87, vi_icst (4) 88), (88, vi_bin (fun x y => x ||| y) 89), (89, vi_goto 94), (92, vi_iload 6 94), (94, vi_ret)]
set_option maxRecDepth 20000 in
theorem s_X1_publicWays : ∀ q ∈ k_X1_publicWays, vg_Snd ww_tb ww_nw ww_shp ww_nm ww_cl ww_tyl cX1_publicWays 7 RX1 (some .int) 1 q.1 q.2 := by
  refine vg_cons (vs_aload_n dX1_publicWays_0 rfl rfl) ?_
  refine vg_cons (vs_getfield (T := TX4) dX1_publicWays_1 rfl (by decide) ww_inX4 q_53 rfl) ?_
  refine vg_cons (vs_aload_n dX1_publicWays_4 rfl rfl) ?_
  refine vg_cons (vs_getfield (T := TX0) dX1_publicWays_5 rfl (by decide) ww_inX0 q_49 rfl) ?_
  refine vg_cons (vs_callSN (host := "WarnWave") c_X5_isIn dX1_publicWays_8 ww_good q_50 q_51 (by decide +kernel) q_52 (by decide +kernel) (by decide) rfl) ?_
  refine vg_cons (vs_if_ne dX1_publicWays_11 (by decide) rfl) ?_
  refine vg_cons (vs_iconst dX1_publicWays_14 rfl rfl) ?_
  refine vg_cons (vs_ireturn dX1_publicWays_15 rfl) ?_
  refine vg_cons (vs_iload_n dX1_publicWays_16 rfl rfl) ?_
  refine vg_cons (vs_if_eq dX1_publicWays_17 (by decide) rfl) ?_
  refine vg_cons (vs_iconst dX1_publicWays_20 rfl rfl) ?_
  refine vg_cons (vs_goto dX1_publicWays_21 (by decide)) ?_
  refine vg_cons (vs_iconst dX1_publicWays_24 rfl rfl) ?_
  refine vg_cons (vs_istore dX1_publicWays_25 (by decide) rfl) ?_
  refine vg_cons (vs_aload_n dX1_publicWays_27 rfl rfl) ?_
  refine vg_cons (vs_getfield (T := TX4) dX1_publicWays_28 rfl (by decide) ww_inX4 q_54 rfl) ?_
  refine vg_cons (vs_aload_n dX1_publicWays_31 rfl rfl) ?_
  refine vg_cons (vs_getfield (T := TX0) dX1_publicWays_32 rfl (by decide) ww_inX0 q_55 rfl) ?_
  refine vg_cons (vs_callSN (host := "WarnWave") c_X5_isIn dX1_publicWays_35 ww_good q_50 q_51 (by decide +kernel) q_52 (by decide +kernel) (by decide) rfl) ?_
  refine vg_cons (vs_if_ne dX1_publicWays_38 (by decide) rfl) ?_
  refine vg_cons (vs_iload dX1_publicWays_41 rfl) ?_
  refine vg_cons (vs_ireturn dX1_publicWays_43 rfl) ?_
  refine vg_cons (vs_iload dX1_publicWays_44 rfl) ?_
  refine vg_cons (vs_if_eq dX1_publicWays_46 (by decide) rfl) ?_
  refine vg_cons (vs_iload dX1_publicWays_49 rfl) ?_
  refine vg_cons (vs_if_eq dX1_publicWays_51 (by decide) rfl) ?_
  refine vg_cons (vs_aload_n dX1_publicWays_54 rfl rfl) ?_
  refine vg_cons (vs_getfield (T := TX1) dX1_publicWays_55 rfl (by decide) ww_inX1 q_10 rfl) ?_
  refine vg_cons (vs_aload_n dX1_publicWays_58 rfl rfl) ?_
  refine vg_cons (vs_getfield (T := TX4) dX1_publicWays_59 rfl (by decide) ww_inX4 q_68 rfl) ?_
  refine vg_cons (vs_isub dX1_publicWays_62 rfl) ?_
  refine vg_cons (vs_iconst dX1_publicWays_63 rfl rfl) ?_
  refine vg_cons (vs_cmp_lt dX1_publicWays_64 (by decide) rfl) ?_
  refine vg_cons (vs_iload dX1_publicWays_67 rfl) ?_
  refine vg_cons (vs_iconst dX1_publicWays_69 rfl rfl) ?_
  refine vg_cons (vs_ior dX1_publicWays_70 rfl) ?_
  refine vg_cons (vs_istore dX1_publicWays_71 (by decide) rfl) ?_
  refine vg_cons (vs_aload_n dX1_publicWays_73 rfl rfl) ?_
  refine vg_cons (vs_getfield (T := TX0) dX1_publicWays_74 rfl (by decide) ww_inX0 q_69 rfl) ?_
  refine vg_cons (vs_if_eq dX1_publicWays_77 (by decide) rfl) ?_
  refine vg_cons (vs_iload dX1_publicWays_80 rfl) ?_
  refine vg_cons (vs_if_ne dX1_publicWays_82 (by decide) rfl) ?_
  refine vg_cons (vs_iload dX1_publicWays_85 rfl) ?_
  refine vg_cons (vs_iconst dX1_publicWays_87 rfl rfl) ?_
  refine vg_cons (vs_ior dX1_publicWays_88 rfl) ?_
  refine vg_cons (vs_goto dX1_publicWays_89 (by decide)) ?_
  refine vg_cons (vs_iload dX1_publicWays_92 rfl) ?_
  refine vg_cons (vs_ireturn dX1_publicWays_94 rfl) ?_
  exact fun _ h => absurd h List.not_mem_nil
theorem m_X1_publicWays : vg_Code k_X1_publicWays := fun q h => (s_X1_publicWays q h).1

theorem w_X1_publicWays : vg_Wd sp_X1_publicWays 7 := by
  intro av σ h
  unfold sp_X1_publicWays at h
  split at h
  · exact Nat.le_of_ble_eq_true rfl
  · exact h.elim
theorem g_X1_publicWays : vg_G k_X1_publicWays sp_X1_publicWays := by
  intro av σ h
  unfold sp_X1_publicWays at h ⊢
  split at h
  next b b' g b'' w si ma sl =>
    obtain ⟨rfl, rfl⟩ := h
    refine vg_run (cuts := []) m_X1_publicWays 80 ?_
    have A : ∀ z, z = jPub (jV σ b'') g w si ma sl → some (Sum.inl (Value.int z)) = (some (Sum.inl (Value.int (jPub (jV σ b'') g w si ma sl))) : Option vgV) := fun z e => by rw [e]
    refine And.intro trivial (And.intro (fun hc => And.intro (A _ (if_pos hc).symm) rfl) (fun hc => ?_))
    refine And.intro (fun hd => And.intro trivial (And.intro (fun he => ?_) (fun he => ?_))) (fun hd => And.intro trivial (And.intro (fun he => ?_) (fun he => ?_)))
    · exact And.intro (A _ (by unfold jPub; simp_all [jV])) rfl
    · refine And.intro (fun h1 => ?_) (fun h1 => And.intro (fun h2 => ?_) (fun h2 => And.intro (fun h3 => ?_) (fun h3 => ?_)))
      all_goals refine And.intro (fun h4 => ?_) (fun h4 => And.intro (fun h5 => ?_) (fun h5 => ?_))
      all_goals exact And.intro (A _ (by unfold jPub; simp_all [jV] <;> (intro hz; exact absurd hz (Int32.not_lt.mpr ‹_›)))) rfl
    · exact And.intro (A _ (by unfold jPub; simp_all [jV])) rfl
    · refine And.intro (fun h1 => ?_) (fun h1 => And.intro (fun h2 => ?_) (fun h2 => And.intro (fun h3 => ?_) (fun h3 => ?_)))
      all_goals refine And.intro (fun h4 => ?_) (fun h4 => And.intro (fun h5 => ?_) (fun h5 => ?_))
      all_goals exact And.intro (A _ (by unfold jPub; simp_all [jV] <;> (intro hz; exact absurd hz (Int32.not_lt.mpr ‹_›)))) rfl
  next => exact h.elim
theorem c_X1_publicWays : vg_MetF ww_tb ww_nw ww_shp ww_nm ww_cl ww_tyl yX1_publicWays cX1_publicWays 7 (some .int) 1 sp_X1_publicWays := vg_met ww_closed (by decide +kernel) rfl s_X1_publicWays w_X1_publicWays g_X1_publicWays
end
section
-- words of the tables, and what stands at each place of the methods' code (laid by program)
theorem q_70 : Cond.fieldLink RX1 260 (TX0 7).1 (TX0 7).2.1 (TX0 7).2.2.1 ∈ ww_tb := by decide +kernel
theorem q_71 : Cond.fieldLink RX0 18 (TX0 8).1 (TX0 8).2.1 (TX0 8).2.2.1 ∈ ww_tb := by decide +kernel
theorem q_72 : Cond.fieldLink RX0 22 (TX0 9).1 (TX0 9).2.1 (TX0 9).2.2.1 ∈ ww_tb := by decide +kernel
theorem q_73 : Cond.fieldLink RX0 25 (TX0 10).1 (TX0 10).2.1 (TX0 10).2.2.1 ∈ ww_tb := by decide +kernel
theorem q_74 : Cond.fieldLink RX0 28 (TX0 11).1 (TX0 11).2.1 (TX0 11).2.2.1 ∈ ww_tb := by decide +kernel
theorem dX1_harmAll_0 : decode cX1_harmAll 0 = .ok (.iconst 0, 1) := by decide +kernel
theorem dX1_harmAll_1 : decode cX1_harmAll 1 = .ok (.istore_n 1, 1) := by decide +kernel
theorem dX1_harmAll_2 : decode cX1_harmAll 2 = .ok (.iload_n 1, 1) := by decide +kernel
theorem dX1_harmAll_3 : decode cX1_harmAll 3 = .ok (.aload_n 0, 1) := by decide +kernel
theorem dX1_harmAll_4 : decode cX1_harmAll 4 = .ok (.getfield 62, 3) := by decide +kernel
theorem dX1_harmAll_7 : decode cX1_harmAll 7 = .ok (.if_icmp .ge 51, 3) := by decide +kernel
theorem dX1_harmAll_10 : decode cX1_harmAll 10 = .ok (.aload_n 0, 1) := by decide +kernel
theorem dX1_harmAll_11 : decode cX1_harmAll 11 = .ok (.getfield 20, 3) := by decide +kernel
theorem dX1_harmAll_14 : decode cX1_harmAll 14 = .ok (.iload_n 1, 1) := by decide +kernel
theorem dX1_harmAll_15 : decode cX1_harmAll 15 = .ok (.aaload, 1) := by decide +kernel
theorem dX1_harmAll_16 : decode cX1_harmAll 16 = .ok (.astore_n 2, 1) := by decide +kernel
theorem dX1_harmAll_17 : decode cX1_harmAll 17 = .ok (.aload_n 2, 1) := by decide +kernel
theorem dX1_harmAll_18 : decode cX1_harmAll 18 = .ok (.invokevirtual 97, 3) := by decide +kernel
theorem dX1_harmAll_21 : decode cX1_harmAll 21 = .ok (.ifCond .ne 31, 3) := by decide +kernel
theorem dX1_harmAll_24 : decode cX1_harmAll 24 = .ok (.aload_n 2, 1) := by decide +kernel
theorem dX1_harmAll_25 : decode cX1_harmAll 25 = .ok (.invokevirtual 126, 3) := by decide +kernel
theorem dX1_harmAll_28 : decode cX1_harmAll 28 = .ok (.ifCond .ne 24, 3) := by decide +kernel
theorem dX1_harmAll_31 : decode cX1_harmAll 31 = .ok (.aload_n 0, 1) := by decide +kernel
theorem dX1_harmAll_32 : decode cX1_harmAll 32 = .ok (.aload_n 2, 1) := by decide +kernel
theorem dX1_harmAll_33 : decode cX1_harmAll 33 = .ok (.getfield 129, 3) := by decide +kernel
theorem dX1_harmAll_36 : decode cX1_harmAll 36 = .ok (.invokevirtual 108, 3) := by decide +kernel
theorem dX1_harmAll_39 : decode cX1_harmAll 39 = .ok (.ifCond .eq 13, 3) := by decide +kernel
theorem dX1_harmAll_42 : decode cX1_harmAll 42 = .ok (.aload_n 2, 1) := by decide +kernel
theorem dX1_harmAll_43 : decode cX1_harmAll 43 = .ok (.dup, 1) := by decide +kernel
theorem dX1_harmAll_44 : decode cX1_harmAll 44 = .ok (.getfield 260, 3) := by decide +kernel
theorem dX1_harmAll_47 : decode cX1_harmAll 47 = .ok (.iconst 1, 1) := by decide +kernel
theorem dX1_harmAll_48 : decode cX1_harmAll 48 = .ok (.iadd, 1) := by decide +kernel
theorem dX1_harmAll_49 : decode cX1_harmAll 49 = .ok (.putfield 260, 3) := by decide +kernel
theorem dX1_harmAll_52 : decode cX1_harmAll 52 = .ok (.iinc 1 1, 3) := by decide +kernel
theorem dX1_harmAll_55 : decode cX1_harmAll 55 = .ok (.goto (-53), 3) := by decide +kernel
theorem dX1_harmAll_58 : decode cX1_harmAll 58 = .ok (.return_, 1) := by decide +kernel
theorem dX0_noteWays_0 : decode cX0_noteWays 0 = .ok (.aload_n 0, 1) := by decide +kernel
theorem dX0_noteWays_1 : decode cX0_noteWays 1 = .ok (.getfield 18, 3) := by decide +kernel
theorem dX0_noteWays_4 : decode cX0_noteWays 4 = .ok (.iload_n 1, 1) := by decide +kernel
theorem dX0_noteWays_5 : decode cX0_noteWays 5 = .ok (.iaload, 1) := by decide +kernel
theorem dX0_noteWays_6 : decode cX0_noteWays 6 = .ok (.ifCond .ne 79, 3) := by decide +kernel
theorem dX0_noteWays_9 : decode cX0_noteWays 9 = .ok (.iload_n 2, 1) := by decide +kernel
theorem dX0_noteWays_10 : decode cX0_noteWays 10 = .ok (.ifCond .eq 75, 3) := by decide +kernel
theorem dX0_noteWays_13 : decode cX0_noteWays 13 = .ok (.aload_n 0, 1) := by decide +kernel
theorem dX0_noteWays_14 : decode cX0_noteWays 14 = .ok (.getfield 22, 3) := by decide +kernel
theorem dX0_noteWays_17 : decode cX0_noteWays 17 = .ok (.iload_n 1, 1) := by decide +kernel
theorem dX0_noteWays_18 : decode cX0_noteWays 18 = .ok (.iload 4, 2) := by decide +kernel
theorem dX0_noteWays_20 : decode cX0_noteWays 20 = .ok (.iastore, 1) := by decide +kernel
theorem dX0_noteWays_21 : decode cX0_noteWays 21 = .ok (.aload_n 0, 1) := by decide +kernel
theorem dX0_noteWays_22 : decode cX0_noteWays 22 = .ok (.getfield 25, 3) := by decide +kernel
theorem dX0_noteWays_25 : decode cX0_noteWays 25 = .ok (.iload_n 1, 1) := by decide +kernel
theorem dX0_noteWays_26 : decode cX0_noteWays 26 = .ok (.iconst 0, 1) := by decide +kernel
theorem dX0_noteWays_27 : decode cX0_noteWays 27 = .ok (.iastore, 1) := by decide +kernel
theorem dX0_noteWays_28 : decode cX0_noteWays 28 = .ok (.aload_n 0, 1) := by decide +kernel
theorem dX0_noteWays_29 : decode cX0_noteWays 29 = .ok (.getfield 25, 3) := by decide +kernel
theorem dX0_noteWays_32 : decode cX0_noteWays 32 = .ok (.iload_n 1, 1) := by decide +kernel
theorem dX0_noteWays_33 : decode cX0_noteWays 33 = .ok (.iaload, 1) := by decide +kernel
theorem dX0_noteWays_34 : decode cX0_noteWays 34 = .ok (.iconst 4, 1) := by decide +kernel
theorem dX0_noteWays_35 : decode cX0_noteWays 35 = .ok (.if_icmp .ge 29, 3) := by decide +kernel
theorem dX0_noteWays_38 : decode cX0_noteWays 38 = .ok (.iload_n 2, 1) := by decide +kernel
theorem dX0_noteWays_39 : decode cX0_noteWays 39 = .ok (.aload_n 0, 1) := by decide +kernel
theorem dX0_noteWays_40 : decode cX0_noteWays 40 = .ok (.getfield 25, 3) := by decide +kernel
theorem dX0_noteWays_43 : decode cX0_noteWays 43 = .ok (.iload_n 1, 1) := by decide +kernel
theorem dX0_noteWays_44 : decode cX0_noteWays 44 = .ok (.iaload, 1) := by decide +kernel
theorem dX0_noteWays_45 : decode cX0_noteWays 45 = .ok (.invokestatic 65, 3) := by decide +kernel
theorem dX0_noteWays_48 : decode cX0_noteWays 48 = .ok (.ifCond .ne 16, 3) := by decide +kernel
theorem dX0_noteWays_51 : decode cX0_noteWays 51 = .ok (.aload_n 0, 1) := by decide +kernel
theorem dX0_noteWays_52 : decode cX0_noteWays 52 = .ok (.getfield 25, 3) := by decide +kernel
theorem dX0_noteWays_55 : decode cX0_noteWays 55 = .ok (.iload_n 1, 1) := by decide +kernel
theorem dX0_noteWays_56 : decode cX0_noteWays 56 = .ok (.dup2, 1) := by decide +kernel
theorem dX0_noteWays_57 : decode cX0_noteWays 57 = .ok (.iaload, 1) := by decide +kernel
theorem dX0_noteWays_58 : decode cX0_noteWays 58 = .ok (.iconst 1, 1) := by decide +kernel
theorem dX0_noteWays_59 : decode cX0_noteWays 59 = .ok (.iadd, 1) := by decide +kernel
theorem dX0_noteWays_60 : decode cX0_noteWays 60 = .ok (.iastore, 1) := by decide +kernel
theorem dX0_noteWays_61 : decode cX0_noteWays 61 = .ok (.goto (-33), 3) := by decide +kernel
theorem dX0_noteWays_64 : decode cX0_noteWays 64 = .ok (.aload_n 0, 1) := by decide +kernel
theorem dX0_noteWays_65 : decode cX0_noteWays 65 = .ok (.getfield 28, 3) := by decide +kernel
theorem dX0_noteWays_68 : decode cX0_noteWays 68 = .ok (.iload_n 1, 1) := by decide +kernel
theorem dX0_noteWays_69 : decode cX0_noteWays 69 = .ok (.aload_n 0, 1) := by decide +kernel
theorem dX0_noteWays_70 : decode cX0_noteWays 70 = .ok (.getfield 25, 3) := by decide +kernel
theorem dX0_noteWays_73 : decode cX0_noteWays 73 = .ok (.iload_n 1, 1) := by decide +kernel
theorem dX0_noteWays_74 : decode cX0_noteWays 74 = .ok (.iaload, 1) := by decide +kernel
theorem dX0_noteWays_75 : decode cX0_noteWays 75 = .ok (.iconst 4, 1) := by decide +kernel
theorem dX0_noteWays_76 : decode cX0_noteWays 76 = .ok (.if_icmp .ne 7, 3) := by decide +kernel
theorem dX0_noteWays_79 : decode cX0_noteWays 79 = .ok (.iload_n 3, 1) := by decide +kernel
theorem dX0_noteWays_80 : decode cX0_noteWays 80 = .ok (.goto 4, 3) := by decide +kernel
theorem dX0_noteWays_83 : decode cX0_noteWays 83 = .ok (.iconst (-1), 1) := by decide +kernel
theorem dX0_noteWays_84 : decode cX0_noteWays 84 = .ok (.iastore, 1) := by decide +kernel
theorem dX0_noteWays_85 : decode cX0_noteWays 85 = .ok (.aload_n 0, 1) := by decide +kernel
theorem dX0_noteWays_86 : decode cX0_noteWays 86 = .ok (.getfield 18, 3) := by decide +kernel
theorem dX0_noteWays_89 : decode cX0_noteWays 89 = .ok (.iload_n 1, 1) := by decide +kernel
theorem dX0_noteWays_90 : decode cX0_noteWays 90 = .ok (.dup2, 1) := by decide +kernel
theorem dX0_noteWays_91 : decode cX0_noteWays 91 = .ok (.iaload, 1) := by decide +kernel
theorem dX0_noteWays_92 : decode cX0_noteWays 92 = .ok (.iload_n 2, 1) := by decide +kernel
theorem dX0_noteWays_93 : decode cX0_noteWays 93 = .ok (.ior, 1) := by decide +kernel
theorem dX0_noteWays_94 : decode cX0_noteWays 94 = .ok (.iastore, 1) := by decide +kernel
theorem dX0_noteWays_95 : decode cX0_noteWays 95 = .ok (.return_, 1) := by decide +kernel
/-! what a land writes in a minute -/
def jHarm (g : Nat) (v : jN) : jN := if ¬ jGone v g ∧ ¬ jSafe v g ∧ jDng v (v 9 g 0).toNatClampNeg then jUp v 9 g 7 (v 9 g 7 + 1) else v
def jHarmAll (v : jN) : jN := jIt jHarm (jGc v) v
theorem jHarm_keep (g : Nat) (v : jN) : jKeep v (jHarm g v) := by
  unfold jHarm
  split
  · exact jKeep.rf.up (by omega)
  · exact jKeep.rf
/-- where groups and shelters are -/
def jPl (v : jN) : Prop := (∀ g, g < 8 → vp_in (v 9 g 0) 16) ∧ ∀ s, s < 3 → vp_in (v 10 s 0) 16
theorem jPl.up {v : jN} {k i s : Nat} {x : Int32} (h : jPl v) (hk : ¬ s = 0 ∨ ¬ (k = 9 ∨ k = 10)) : jPl (jUp v k i s x) := by
  refine ⟨fun g hg => ?_, fun s' hs => ?_⟩
  · rw [show jUp v k i s x 9 g 0 = v 9 g 0 from if_neg (fun z => by omega)]
    exact h.1 g hg
  · rw [show jUp v k i s x 10 s' 0 = v 10 s' 0 from if_neg (fun z => by omega)]
    exact h.2 s' hs
theorem jHarm_pl {g : Nat} {v : jN} (h : jPl v) : jPl (jHarm g v) := by
  unfold jHarm
  split
  · exact h.up (by omega)
  · exact h
theorem jIt_pl {f : Nat → jN → jN} (hf : ∀ i v, jPl v → jPl (f i v)) {v : jN} (h : jPl v) : ∀ n, jPl (jIt f n v)
  | 0 => h
  | n + 1 => hf n _ (jIt_pl hf h n)
def sp_X1_harmAll : vgC := fun av σ => match av with
  | [.inr (1, b, 0)] => (jWf (jV σ b) ∧ jPl (jV σ b), none, jPut σ b (jHarmAll (jV σ b)))
  | _ => (False, none, σ)
def k_X1_harmAll : List (Nat × vgF) := [(0, vi_icst (0) 1), (1, vi_istore 1 2), (2, vi_iload 1 3), (3, vi_aload 0 4), (4, vi_get ww_shp 1 4 7), (7, vi_cmp (fun x y => y ≤ x) 58 10), (10, vi_aload 0 11), (11, vi_get ww_shp 1 7 14), (14, vi_iload 1 15), (15, vi_aald ww_shp 2 16), (16, vi_astore 2 17), (17, vi_aload 2 18), (18, vi_callV ww_shp 5 sp_X0_isGone 0 21), (21, vi_if (fun x => x = 0) 24 52), (24, vi_aload 2 25), (25, vi_callV ww_shp 5 sp_X0_isSafe 0 28), (28, vi_if (fun x => x = 0) 31 52), (31, vi_aload 0 32), (32, vi_aload 2 33), (33, vi_get ww_shp 5 0 36), (36, vi_callV ww_shp 1 sp_X1_isInDanger 1 39), (39, vi_if (fun x => x = 0) 52 42), (42, vi_aload 2 43), (43, vi_dup 44), (44, vi_get ww_shp 5 7 47), (47, vi_icst (1) 48), (48, vi_bin (fun x y => x + y) 49), (49, vi_put ww_shp 5 7 52), (52, vi_iinc 1 (1) 55), (55, vi_goto 2), (58, vi_retV)]
set_option maxRecDepth 20000 in
theorem s_X1_harmAll : ∀ q ∈ k_X1_harmAll, vg_Snd ww_tb ww_nw ww_shp ww_nm ww_cl ww_tyl cX1_harmAll 3 RX1 none 1 q.1 q.2 := by
  refine vg_cons (vs_iconst dX1_harmAll_0 rfl rfl) ?_
  refine vg_cons (vs_istore_n dX1_harmAll_1 rfl (by decide) rfl) ?_
  refine vg_cons (vs_iload_n dX1_harmAll_2 rfl rfl) ?_
  refine vg_cons (vs_aload_n dX1_harmAll_3 rfl rfl) ?_
  refine vg_cons (vs_getfield (T := TX1) dX1_harmAll_4 rfl (by decide) ww_inX1 q_38 rfl) ?_
  refine vg_cons (vs_cmp_ge dX1_harmAll_7 (by decide) rfl) ?_
  refine vg_cons (vs_aload_n dX1_harmAll_10 rfl rfl) ?_
  refine vg_cons (vs_getfield (T := TX1) dX1_harmAll_11 rfl (by decide) ww_inX1 q_39 rfl) ?_
  refine vg_cons (vs_iload_n dX1_harmAll_14 rfl rfl) ?_
  refine vg_cons (vs_aaload dX1_harmAll_15 rfl rfl) ?_
  refine vg_cons (vs_astore_n dX1_harmAll_16 rfl (by decide) rfl) ?_
  refine vg_cons (vs_aload_n dX1_harmAll_17 rfl rfl) ?_
  refine vg_cons (vs_callV (T := TX0) c_X0_isGone dX1_harmAll_18 rfl ww_good q_20 q_21 q_22 q_23 q_24 (by decide +kernel) (by decide) rfl) ?_
  refine vg_cons (vs_if_ne dX1_harmAll_21 (by decide) rfl) ?_
  refine vg_cons (vs_aload_n dX1_harmAll_24 rfl rfl) ?_
  refine vg_cons (vs_callV (T := TX0) c_X0_isSafe dX1_harmAll_25 rfl ww_good q_45 q_21 q_46 q_47 q_48 (by decide +kernel) (by decide) rfl) ?_
  refine vg_cons (vs_if_ne dX1_harmAll_28 (by decide) rfl) ?_
  refine vg_cons (vs_aload_n dX1_harmAll_31 rfl rfl) ?_
  refine vg_cons (vs_aload_n dX1_harmAll_32 rfl rfl) ?_
  refine vg_cons (vs_getfield (T := TX0) dX1_harmAll_33 rfl (by decide) ww_inX0 q_49 rfl) ?_
  refine vg_cons (vs_callV (T := TX1) c_X1_isInDanger dX1_harmAll_36 rfl ww_good q_34 q_12 q_35 q_36 q_37 (by decide +kernel) (by decide) rfl) ?_
  refine vg_cons (vs_if_eq dX1_harmAll_39 (by decide) rfl) ?_
  refine vg_cons (vs_aload_n dX1_harmAll_42 rfl rfl) ?_
  refine vg_cons (vs_dup dX1_harmAll_43 rfl) ?_
  refine vg_cons (vs_getfield (T := TX0) dX1_harmAll_44 rfl (by decide) ww_inX0 q_70 rfl) ?_
  refine vg_cons (vs_iconst dX1_harmAll_47 rfl rfl) ?_
  refine vg_cons (vs_iadd dX1_harmAll_48 rfl) ?_
  refine vg_cons (vs_putfield (T := TX0) tyX0 dX1_harmAll_49 rfl (by decide) ww_inX0 tyX0_ok nmX0 rfl rfl q_70 rfl) ?_
  refine vg_cons (vs_iinc dX1_harmAll_52 rfl rfl) ?_
  refine vg_cons (vs_goto dX1_harmAll_55 (by decide)) ?_
  refine vg_cons (vs_return dX1_harmAll_58 rfl) ?_
  exact fun _ h => absurd h List.not_mem_nil
theorem m_X1_harmAll : vg_Code k_X1_harmAll := fun q h => (s_X1_harmAll q h).1

theorem w_X1_harmAll : vg_Wd sp_X1_harmAll 3 := by
  intro av σ h
  unfold sp_X1_harmAll at h
  split at h
  · exact Nat.le_of_ble_eq_true rfl
  · exact h.elim
theorem g_X1_harmAll : vg_G k_X1_harmAll sp_X1_harmAll := by
  intro av σ h
  unfold sp_X1_harmAll at h ⊢
  split at h
  next b =>
    obtain ⟨hw, hpl⟩ := h
    have h8 := hw.1.2
    refine vg_run (cuts := [(2, [0, 1])]) m_X1_harmAll 20 ?_
    refine vg_loop (fun i lv σ' => ∃ x v, v = jIt jHarm i (jV σ b) ∧ σ' = jPut σ b v ∧ x = nI i ∧ lv = [(0, .inr (1, b, 0)), (1, .inl (.int x))]) (jGc (jV σ b)) ?_ ?_ 0 _ _ (Nat.zero_le _) ⟨0, _, rfl, jPut_jV.symm, rfl, rfl⟩
    · rintro i lv σ' hi ⟨x, v, hvi, rfl, hx, rfl⟩ ih
      have hK : jKeep (jV σ b) v := by rw [hvi]; exact jIt_keep jHarm_keep _ i
      have hP : jPl v := by rw [hvi]; exact jIt_pl (fun i v => jHarm_pl) hpl i
      have hcnt : jPut σ b v (1, b, 0) 4 = nI (jGc (jV σ b)) := jPut_at.trans ((hK.1 0 4 (by omega)).trans hw.1.1)
      have hc0 : x.toNatClampNeg = i := jcl hx (by omega)
      have hv : vp_in x 8 := jin hx (by omega) (by decide)
      have nx : ¬ (¬ jGone v i ∧ ¬ jSafe v i ∧ jDng v (v 9 i 0).toNatClampNeg) → vg_Go k_X1_harmAll _ 2 [(0, .inr (1, b, 0)), (1, .inl (.int (x + 1)))] [] (jPut σ b v) := fun z => ih _ _ ⟨x + 1, v, by rw [hvi]; rw [hvi] at z; exact (if_neg z).symm, rfl, jinc hx, rfl⟩
      refine vg_run (cuts := [(2, [0, 1])]) m_X1_harmAll 60 ?_
      refine And.intro (fun hc => absurd ((jle hcnt hx (by omega) (by omega)).mp hc) (by omega)) (fun _ => And.intro hv (And.intro trivial (And.intro (fun hd => And.intro trivial (And.intro (fun he => And.intro ?_ (And.intro (fun hf => ?_) (fun hf => ?_))) (fun he => ?_))) (fun hd => ?_))))
      · show vp_in (jPut σ b v (9, b, x.toNatClampNeg) 0) 16
        rw [jPut_at, hc0]
        exact hP.1 i (by omega)
      · rw [jV_put, jPut_at, hc0] at hf
        exact nx (fun z => jb_0.mp hf z.2.2)
      · rw [jV_put, jPut_at, hc0] at hf
        rw [jV_put, hc0] at hd he
        have hf' := Classical.byContradiction (fun z => hf (jb_f z))
        refine And.intro rfl (ih _ _ ⟨x + 1, jHarm i v, by rw [hvi]; rfl, ?_, jinc hx, rfl⟩)
        show vg_st (jPut σ b v) (9, b, x.toNatClampNeg) 7 (jPut σ b v (9, b, x.toNatClampNeg) 7 + 1) = _
        rw [hc0, jst, jPut_at, jHarm, if_pos ⟨jb_0.mp hd, jb_0.mp he, hf'⟩]
      · rw [jV_put, hc0] at he
        exact nx (fun z => he (jb_f z.2.1))
      · rw [jV_put, hc0] at hd
        exact nx (fun z => hd (jb_f z.1))
    · rintro lv σ' ⟨x, v, hvi, rfl, hx, rfl⟩
      have hK : jKeep (jV σ b) v := by rw [hvi]; exact jIt_keep jHarm_keep _ _
      have hcnt : jPut σ b v (1, b, 0) 4 = nI (jGc (jV σ b)) := jPut_at.trans ((hK.1 0 4 (by omega)).trans hw.1.1)
      refine vg_run (cuts := [(2, [0, 1])]) m_X1_harmAll 20 ?_
      exact And.intro (fun _ => And.intro rfl (by rw [hvi]; rfl)) (fun hc => absurd ((jle hcnt hx (by omega) (by omega)).mpr (Nat.le_refl _)) hc)
  next => exact h.elim
theorem c_X1_harmAll : vg_MetF ww_tb ww_nw ww_shp ww_nm ww_cl ww_tyl yX1_harmAll cX1_harmAll 3 none 1 sp_X1_harmAll := vg_met ww_closed (by decide +kernel) rfl s_X1_harmAll w_X1_harmAll g_X1_harmAll
/-- by which way one has heard first -/
def jWay (nw : Int32) : Int32 := if ¬ jIn nw (nI 0) = 0 then nI 0 else if ¬ jIn nw (nI 1) = 0 then nI 1 else if ¬ jIn nw (nI 2) = 0 then nI 2 else if ¬ jIn nw (nI 3) = 0 then nI 3 else nI 4
theorem jWay_at {nw : Int32} {k : Nat} (h : ∀ q, q < k → jIn nw (nI q) = 0) (hk : k < 4) (hn : ¬ jIn nw (nI k) = 0) : jWay nw = nI k := by
  unfold jWay
  have a0 := fun z => h 0 z
  have a1 := fun z => h 1 z
  have a2 := fun z => h 2 z
  match k, hk with
  | 0, _ => rw [if_pos hn]
  | 1, _ => rw [if_neg (fun z => z (a0 (by omega))), if_pos hn]
  | 2, _ => rw [if_neg (fun z => z (a0 (by omega))), if_neg (fun z => z (a1 (by omega))), if_pos hn]
  | 3, _ => rw [if_neg (fun z => z (a0 (by omega))), if_neg (fun z => z (a1 (by omega))), if_neg (fun z => z (a2 (by omega))), if_pos hn]
theorem jWay_4 {nw : Int32} (h : ∀ q, q < 4 → jIn nw (nI q) = 0) : jWay nw = nI 4 := by
  unfold jWay
  rw [if_neg (fun z => z (h 0 (by omega))), if_neg (fun z => z (h 1 (by omega))), if_neg (fun z => z (h 2 (by omega))), if_neg (fun z => z (h 3 (by omega)))]
def jNote0 (v : jN) (g w : Nat) (nw nb t : Int32) : jN := if v 14 g w = 0 ∧ ¬ nw = 0 then jUp (jUp (jUp v 15 g w t) 16 g w (jWay nw)) 17 g w (if jWay nw = 4 then nb else -1) else v
def jNote (v : jN) (g w : Nat) (nw nb t : Int32) : jN := jUp (jNote0 v g w nw nb t) 14 g w (jNote0 v g w nw nb t 14 g w ||| nw)
theorem jNote_keep (v : jN) (g w : Nat) (nw nb t : Int32) : jKeep v (jNote v g w nw nb t) := by
  unfold jNote
  refine jKeep.up ?_ (by omega)
  unfold jNote0
  split
  · exact ((jKeep.rf.up (by omega)).up (by omega)).up (by omega)
  · exact jKeep.rf
def sp_X0_noteWays : vgC := fun av σ => match av with
  | [.inr (9, b, g), .inl (.int w), .inl (.int nw), .inl (.int nb), .inl (.int t)] => (vp_in w 12, none, jPut σ b (jNote (jV σ b) g w.toNatClampNeg nw nb t))
  | _ => (False, none, σ)
def k_X0_noteWays : List (Nat × vgF) := [(0, vi_aload 0 1), (1, vi_get ww_shp 5 8 4), (4, vi_iload 1 5), (5, vi_ald ww_shp 0 6), (6, vi_if (fun x => x = 0) 9 85), (9, vi_iload 2 10), (10, vi_if (fun x => x = 0) 85 13), (13, vi_aload 0 14), (14, vi_get ww_shp 5 9 17), (17, vi_iload 1 18), (18, vi_iload 4 20), (20, vi_ast ww_shp 0 21), (21, vi_aload 0 22), (22, vi_get ww_shp 5 10 25), (25, vi_iload 1 26), (26, vi_icst (0) 27), (27, vi_ast ww_shp 0 28), (28, vi_aload 0 29), (29, vi_get ww_shp 5 10 32), (32, vi_iload 1 33), (33, vi_ald ww_shp 0 34), (34, vi_icst (4) 35), (35, vi_cmp (fun x y => y ≤ x) 64 38), (38, vi_iload 2 39), (39, vi_aload 0 40), (40, vi_get ww_shp 5 10 43), (43, vi_iload 1 44), (44, vi_ald ww_shp 0 45), (45, vi_callS sp_X5_isIn 2 48), (48, vi_if (fun x => x = 0) 51 64), (51, vi_aload 0 52), (52, vi_get ww_shp 5 10 55), (55, vi_iload 1 56), (56, vi_dup2 57), (57, vi_ald ww_shp 0 58), (58, vi_icst (1) 59), (59, vi_bin (fun x y => x + y) 60), (60, vi_ast ww_shp 0 61), (61, vi_goto 28), (64, vi_aload 0 65), (65, vi_get ww_shp 5 11 68), (68, vi_iload 1 69), (69, vi_aload 0 70), (70, vi_get ww_shp 5 10 73), (73, vi_iload 1 74), (74, vi_ald ww_shp 0 75), (75, vi_icst (4) 76), (76, vi_cmp (fun x y => x = y) 79 83), (79, vi_iload 3 80), (80, vi_goto 84), (83, vi_icst (-1) 84), (84, vi_ast ww_shp 0 85), (85, vi_aload 0 86), (86, vi_get ww_shp 5 8 89), (89, vi_iload 1 90), (90, vi_dup2 91), (91, vi_ald ww_shp 0 92), (92, vi_iload 2 93), (93, vi_bin (fun x y => x ||| y) 94), (94, vi_ast ww_shp 0 95), (95, vi_retV)]
set_option maxRecDepth 20000 in
theorem s_X0_noteWays : ∀ q ∈ k_X0_noteWays, vg_Snd ww_tb ww_nw ww_shp ww_nm ww_cl ww_tyl cX0_noteWays 5 RX0 none 1 q.1 q.2 := by
  refine vg_cons (vs_aload_n dX0_noteWays_0 rfl rfl) ?_
  refine vg_cons (vs_getfield (T := TX0) dX0_noteWays_1 rfl (by decide) ww_inX0 q_71 rfl) ?_
  refine vg_cons (vs_iload_n dX0_noteWays_4 rfl rfl) ?_
  refine vg_cons (vs_iaload dX0_noteWays_5 rfl rfl) ?_
  refine vg_cons (vs_if_ne dX0_noteWays_6 (by decide) rfl) ?_
  refine vg_cons (vs_iload_n dX0_noteWays_9 rfl rfl) ?_
  refine vg_cons (vs_if_eq dX0_noteWays_10 (by decide) rfl) ?_
  refine vg_cons (vs_aload_n dX0_noteWays_13 rfl rfl) ?_
  refine vg_cons (vs_getfield (T := TX0) dX0_noteWays_14 rfl (by decide) ww_inX0 q_72 rfl) ?_
  refine vg_cons (vs_iload_n dX0_noteWays_17 rfl rfl) ?_
  refine vg_cons (vs_iload dX0_noteWays_18 rfl) ?_
  refine vg_cons (vs_iastore dX0_noteWays_20 rfl rfl) ?_
  refine vg_cons (vs_aload_n dX0_noteWays_21 rfl rfl) ?_
  refine vg_cons (vs_getfield (T := TX0) dX0_noteWays_22 rfl (by decide) ww_inX0 q_73 rfl) ?_
  refine vg_cons (vs_iload_n dX0_noteWays_25 rfl rfl) ?_
  refine vg_cons (vs_iconst dX0_noteWays_26 rfl rfl) ?_
  refine vg_cons (vs_iastore dX0_noteWays_27 rfl rfl) ?_
  refine vg_cons (vs_aload_n dX0_noteWays_28 rfl rfl) ?_
  refine vg_cons (vs_getfield (T := TX0) dX0_noteWays_29 rfl (by decide) ww_inX0 q_73 rfl) ?_
  refine vg_cons (vs_iload_n dX0_noteWays_32 rfl rfl) ?_
  refine vg_cons (vs_iaload dX0_noteWays_33 rfl rfl) ?_
  refine vg_cons (vs_iconst dX0_noteWays_34 rfl rfl) ?_
  refine vg_cons (vs_cmp_ge dX0_noteWays_35 (by decide) rfl) ?_
  refine vg_cons (vs_iload_n dX0_noteWays_38 rfl rfl) ?_
  refine vg_cons (vs_aload_n dX0_noteWays_39 rfl rfl) ?_
  refine vg_cons (vs_getfield (T := TX0) dX0_noteWays_40 rfl (by decide) ww_inX0 q_73 rfl) ?_
  refine vg_cons (vs_iload_n dX0_noteWays_43 rfl rfl) ?_
  refine vg_cons (vs_iaload dX0_noteWays_44 rfl rfl) ?_
  refine vg_cons (vs_callSN (host := "WarnWave") c_X5_isIn dX0_noteWays_45 ww_good q_50 q_51 (by decide +kernel) q_52 (by decide +kernel) (by decide) rfl) ?_
  refine vg_cons (vs_if_ne dX0_noteWays_48 (by decide) rfl) ?_
  refine vg_cons (vs_aload_n dX0_noteWays_51 rfl rfl) ?_
  refine vg_cons (vs_getfield (T := TX0) dX0_noteWays_52 rfl (by decide) ww_inX0 q_73 rfl) ?_
  refine vg_cons (vs_iload_n dX0_noteWays_55 rfl rfl) ?_
  refine vg_cons (vs_dup2 dX0_noteWays_56 rfl) ?_
  refine vg_cons (vs_iaload dX0_noteWays_57 rfl rfl) ?_
  refine vg_cons (vs_iconst dX0_noteWays_58 rfl rfl) ?_
  refine vg_cons (vs_iadd dX0_noteWays_59 rfl) ?_
  refine vg_cons (vs_iastore dX0_noteWays_60 rfl rfl) ?_
  refine vg_cons (vs_goto dX0_noteWays_61 (by decide)) ?_
  refine vg_cons (vs_aload_n dX0_noteWays_64 rfl rfl) ?_
  refine vg_cons (vs_getfield (T := TX0) dX0_noteWays_65 rfl (by decide) ww_inX0 q_74 rfl) ?_
  refine vg_cons (vs_iload_n dX0_noteWays_68 rfl rfl) ?_
  refine vg_cons (vs_aload_n dX0_noteWays_69 rfl rfl) ?_
  refine vg_cons (vs_getfield (T := TX0) dX0_noteWays_70 rfl (by decide) ww_inX0 q_73 rfl) ?_
  refine vg_cons (vs_iload_n dX0_noteWays_73 rfl rfl) ?_
  refine vg_cons (vs_iaload dX0_noteWays_74 rfl rfl) ?_
  refine vg_cons (vs_iconst dX0_noteWays_75 rfl rfl) ?_
  refine vg_cons (vs_cmp_ne dX0_noteWays_76 (by decide) rfl) ?_
  refine vg_cons (vs_iload_n dX0_noteWays_79 rfl rfl) ?_
  refine vg_cons (vs_goto dX0_noteWays_80 (by decide)) ?_
  refine vg_cons (vs_iconst dX0_noteWays_83 rfl rfl) ?_
  refine vg_cons (vs_iastore dX0_noteWays_84 rfl rfl) ?_
  refine vg_cons (vs_aload_n dX0_noteWays_85 rfl rfl) ?_
  refine vg_cons (vs_getfield (T := TX0) dX0_noteWays_86 rfl (by decide) ww_inX0 q_71 rfl) ?_
  refine vg_cons (vs_iload_n dX0_noteWays_89 rfl rfl) ?_
  refine vg_cons (vs_dup2 dX0_noteWays_90 rfl) ?_
  refine vg_cons (vs_iaload dX0_noteWays_91 rfl rfl) ?_
  refine vg_cons (vs_iload_n dX0_noteWays_92 rfl rfl) ?_
  refine vg_cons (vs_ior dX0_noteWays_93 rfl) ?_
  refine vg_cons (vs_iastore dX0_noteWays_94 rfl rfl) ?_
  refine vg_cons (vs_return dX0_noteWays_95 rfl) ?_
  exact fun _ h => absurd h List.not_mem_nil
theorem m_X0_noteWays : vg_Code k_X0_noteWays := fun q h => (s_X0_noteWays q h).1

theorem w_X0_noteWays : vg_Wd sp_X0_noteWays 5 := by
  intro av σ h
  unfold sp_X0_noteWays at h
  split at h
  · exact Nat.le_of_ble_eq_true rfl
  · exact h.elim
theorem g_X0_noteWays : vg_G k_X0_noteWays sp_X0_noteWays := by
  intro av σ h
  unfold sp_X0_noteWays at h ⊢
  split at h
  next b g w nw nb t =>
    generalize hwi : w.toNatClampNeg = wi
    have tail : ∀ v1, v1 = jNote0 (jV σ b) g wi nw nb t → vg_Go k_X0_noteWays (fun r σ' => r = none ∧ σ' = jPut σ b (jNote (jV σ b) g wi nw nb t)) 85 [(0, .inr (9, b, g)), (1, .inl (.int w)), (2, .inl (.int nw))] [] (jPut σ b v1) := by
      intro v1 h1
      refine vg_run (cuts := []) m_X0_noteWays 40 ?_
      refine And.intro ⟨rfl, rfl⟩ (And.intro h (And.intro h (And.intro rfl ?_)))
      show vg_st (jPut σ b v1) (14, b, g) w.toNatClampNeg (jPut σ b v1 (14, b, g) w.toNatClampNeg ||| nw) = _
      rw [hwi, jst, jPut_at, jNote, ← h1]
    refine vg_run (cuts := [(28, [0, 1, 2, 3, 4]), (85, [0, 1, 2])]) m_X0_noteWays 60 ?_
    refine And.intro h (And.intro (fun hc => And.intro (fun hd => ?_) (fun hd => And.intro h (And.intro h ?_))) (fun hc => ?_))
    · have e := tail (jV σ b) (if_neg (fun z => z.2 hd)).symm
      rw [jPut_jV] at e
      exact e
    · rw [hwi] at hc
      have hN : jNote0 (jV σ b) g wi nw nb t = jUp (jUp (jUp (jV σ b) 15 g wi t) 16 g wi (jWay nw)) 17 g wi (if jWay nw = 4 then nb else -1) := if_pos ⟨hc, hd⟩
      refine vg_loop (fun k lv σ' => (∀ q, q < k → jIn nw (nI q) = 0) ∧ σ' = jPut σ b (jUp (jUp (jV σ b) 15 g wi t) 16 g wi (nI k)) ∧ lv = [(0, .inr (9, b, g)), (1, .inl (.int w)), (2, .inl (.int nw)), (3, .inl (.int nb)), (4, .inl (.int t))]) 4 ?_ ?_ 0 _ _ (Nat.zero_le _) ⟨fun q hq => absurd hq (by omega), ?_, rfl⟩
      · rintro k lv σ' hk ⟨hq, rfl, rfl⟩ ih
        have hb : jPut σ b (jUp (jUp (jV σ b) 15 g wi t) 16 g wi (nI k)) (16, b, g) wi = nI k := by rw [jPut_at, jUp_at]
        refine vg_run (cuts := [(28, [0, 1, 2, 3, 4]), (85, [0, 1, 2])]) m_X0_noteWays 60 ?_
        refine And.intro h (And.intro (fun he => ?_) (fun he => And.intro h (And.intro trivial (And.intro (fun hf => ?_) (fun hf => ?_)))))
        · rw [hwi, hb] at he
          exact absurd ((jle (n := 4) rfl rfl (by omega) (by omega)).mp he) (by omega)
        · rw [hwi, hb] at hf
          refine And.intro ⟨rfl, rfl⟩ (And.intro h (And.intro h (ih _ _ ⟨fun q hq2 => ?_, ?_, rfl⟩)))
          · rcases Nat.lt_succ_iff_lt_or_eq.mp hq2 with z | z
            · exact hq q z
            · rw [z]; exact hf
          · show vg_st (jPut σ b _) (16, b, g) w.toNatClampNeg (jPut σ b _ (16, b, g) w.toNatClampNeg + 1) = _
            rw [hwi, hb, jst, jUp_up, nI_1]
        · rw [hwi, hb] at hf
          have hW : jWay nw = nI k := jWay_at hq hk hf
          refine And.intro h (And.intro (fun hg => ?_) (fun hg => And.intro h ?_))
          · rw [hwi, hb] at hg
            exact absurd ((nI_eq (by omega) (by omega)).mp (show nI k = nI 4 from hg)) (by omega)
          · rw [hwi, hb] at hg
            have e := tail _ hN.symm
            rw [hW, if_neg (show ¬ nI k = 4 from hg), ← jst, ← hwi] at e
            rw [← hwi]
            exact e
      · rintro lv σ' ⟨hq, rfl, rfl⟩
        have hb : jPut σ b (jUp (jUp (jV σ b) 15 g wi t) 16 g wi (nI 4)) (16, b, g) wi = nI 4 := by rw [jPut_at, jUp_at]
        refine vg_run (cuts := [(28, [0, 1, 2, 3, 4]), (85, [0, 1, 2])]) m_X0_noteWays 60 ?_
        refine And.intro h (And.intro (fun he => ?_) (fun he => ?_))
        · have hW : jWay nw = nI 4 := jWay_4 hq
          refine And.intro h (And.intro (fun hg => And.intro h ?_) (fun hg => ?_))
          · have e := tail _ hN.symm
            rw [hW, if_pos (show nI 4 = 4 from rfl), ← jst, ← hwi] at e
            rw [← hwi]
            exact e
          · rw [hwi, hb] at hg
            exact absurd rfl hg
        · rw [hwi, hb] at he
          exact absurd (by decide) he
      · show vg_st (vg_st σ (15, b, g) w.toNatClampNeg t) (16, b, g) w.toNatClampNeg 0 = _
        rw [hwi, show vg_st σ (15, b, g) wi t = jPut σ b (jUp (jV σ b) 15 g wi t) from jst0, jst]
        rfl
    · rw [hwi] at hc
      have e := tail (jV σ b) (if_neg (fun z => hc z.1)).symm
      rw [jPut_jV] at e
      exact e
  next => exact h.elim
theorem c_X0_noteWays : vg_MetF ww_tb ww_nw ww_shp ww_nm ww_cl ww_tyl yX0_noteWays cX0_noteWays 5 none 1 sp_X0_noteWays := vg_met ww_closed (by decide +kernel) rfl s_X0_noteWays w_X0_noteWays g_X0_noteWays
end
section
-- words of the tables, and what stands at each place of the methods' code (laid by program)
theorem q_75 : Cond.fieldLink RX1 50 (TX1 13).1 (TX1 13).2.1 (TX1 13).2.2.1 ∈ ww_tb := by decide +kernel
theorem q_76 : Cond.code yX1_believingNeighbour cX1_believingNeighbour 7 (some .int) ∈ ww_tb := by decide +kernel
theorem q_77 : Cond.methodLink RX1 232 yX1_believingNeighbour ∈ ww_tb := by decide +kernel
theorem q_78 : Cond.instanceMethod yX1_believingNeighbour ∈ ww_tb := by decide +kernel
theorem q_79 : Cond.selects RX1 yX1_believingNeighbour yX1_believingNeighbour ∈ ww_tb := by decide +kernel
theorem q_80 : Cond.code yX0_noteWays cX0_noteWays 5 none ∈ ww_tb := by decide +kernel
theorem q_81 : Cond.methodLink RX1 235 yX0_noteWays ∈ ww_tb := by decide +kernel
theorem q_82 : Cond.instanceMethod yX0_noteWays ∈ ww_tb := by decide +kernel
theorem q_83 : Cond.selects RX0 yX0_noteWays yX0_noteWays ∈ ww_tb := by decide +kernel
theorem q_84 : Cond.fieldLink RX1 39 (TX1 10).1 (TX1 10).2.1 (TX1 10).2.2.1 ∈ ww_tb := by decide +kernel
theorem q_85 : Cond.code yX2_cellsReached cX2_cellsReached 4 (some .int) ∈ ww_tb := by decide +kernel
theorem q_86 : Cond.initialized RX2 ∈ ww_tb := by decide +kernel
theorem q_87 : Cond.methodLink RX1 218 yX2_cellsReached ∈ ww_tb := by decide +kernel
theorem q_88 : Cond.instanceMethod yX2_cellsReached ∈ ww_tb := by decide +kernel
theorem q_89 : Cond.selects RX2 yX2_cellsReached yX2_cellsReached ∈ ww_tb := by decide +kernel
theorem q_90 : Cond.fieldLink RX1 43 (TX1 11).1 (TX1 11).2.1 (TX1 11).2.2.1 ∈ ww_tb := by decide +kernel
theorem q_91 : Cond.code yX1_publicWays cX1_publicWays 7 (some .int) ∈ ww_tb := by decide +kernel
theorem q_92 : Cond.methodLink RX1 221 yX1_publicWays ∈ ww_tb := by decide +kernel
theorem q_93 : Cond.instanceMethod yX1_publicWays ∈ ww_tb := by decide +kernel
theorem q_94 : Cond.selects RX1 yX1_publicWays yX1_publicWays ∈ ww_tb := by decide +kernel
theorem q_95 : Cond.code yX1_hearOne cX1_hearOne 7 none ∈ ww_tb := by decide +kernel
theorem q_96 : Cond.methodLink RX1 225 yX1_hearOne ∈ ww_tb := by decide +kernel
theorem q_97 : Cond.instanceMethod yX1_hearOne ∈ ww_tb := by decide +kernel
theorem q_98 : Cond.selects RX1 yX1_hearOne yX1_hearOne ∈ ww_tb := by decide +kernel
theorem q_99 : Cond.fieldLink RX1 9 (TX1 1).1 (TX1 1).2.1 (TX1 1).2.2.1 ∈ ww_tb := by decide +kernel
theorem q_100 : Cond.code yX1_firstToCall cX1_firstToCall 7 (some .int) ∈ ww_tb := by decide +kernel
theorem q_101 : Cond.methodLink RX1 203 yX1_firstToCall ∈ ww_tb := by decide +kernel
theorem q_102 : Cond.instanceMethod yX1_firstToCall ∈ ww_tb := by decide +kernel
theorem q_103 : Cond.selects RX1 yX1_firstToCall yX1_firstToCall ∈ ww_tb := by decide +kernel
theorem q_104 : Cond.fieldLink RX1 59 (TX1 3).1 (TX1 3).2.1 (TX1 3).2.2.1 ∈ ww_tb := by decide +kernel
theorem dX1_hearOne_0 : decode cX1_hearOne 0 = .ok (.iload_n 3, 1) := by decide +kernel
theorem dX1_hearOne_1 : decode cX1_hearOne 1 = .ok (.istore 4, 2) := by decide +kernel
theorem dX1_hearOne_3 : decode cX1_hearOne 3 = .ok (.aload_n 0, 1) := by decide +kernel
theorem dX1_hearOne_4 : decode cX1_hearOne 4 = .ok (.getfield 50, 3) := by decide +kernel
theorem dX1_hearOne_7 : decode cX1_hearOne 7 = .ok (.iload_n 2, 1) := by decide +kernel
theorem dX1_hearOne_8 : decode cX1_hearOne 8 = .ok (.iaload, 1) := by decide +kernel
theorem dX1_hearOne_9 : decode cX1_hearOne 9 = .ok (.iload_n 1, 1) := by decide +kernel
theorem dX1_hearOne_10 : decode cX1_hearOne 10 = .ok (.if_icmp .ne 10, 3) := by decide +kernel
theorem dX1_hearOne_13 : decode cX1_hearOne 13 = .ok (.iload 4, 2) := by decide +kernel
theorem dX1_hearOne_15 : decode cX1_hearOne 15 = .ok (.bipush 8, 2) := by decide +kernel
theorem dX1_hearOne_17 : decode cX1_hearOne 17 = .ok (.ior, 1) := by decide +kernel
theorem dX1_hearOne_18 : decode cX1_hearOne 18 = .ok (.istore 4, 2) := by decide +kernel
theorem dX1_hearOne_20 : decode cX1_hearOne 20 = .ok (.aload_n 0, 1) := by decide +kernel
theorem dX1_hearOne_21 : decode cX1_hearOne 21 = .ok (.getfield 20, 3) := by decide +kernel
theorem dX1_hearOne_24 : decode cX1_hearOne 24 = .ok (.iload_n 1, 1) := by decide +kernel
theorem dX1_hearOne_25 : decode cX1_hearOne 25 = .ok (.aaload, 1) := by decide +kernel
theorem dX1_hearOne_26 : decode cX1_hearOne 26 = .ok (.getfield 212, 3) := by decide +kernel
theorem dX1_hearOne_29 : decode cX1_hearOne 29 = .ok (.iload_n 2, 1) := by decide +kernel
theorem dX1_hearOne_30 : decode cX1_hearOne 30 = .ok (.iaload, 1) := by decide +kernel
theorem dX1_hearOne_31 : decode cX1_hearOne 31 = .ok (.iconst 4, 1) := by decide +kernel
theorem dX1_hearOne_32 : decode cX1_hearOne 32 = .ok (.invokestatic 130, 3) := by decide +kernel
theorem dX1_hearOne_35 : decode cX1_hearOne 35 = .ok (.istore 5, 2) := by decide +kernel
theorem dX1_hearOne_37 : decode cX1_hearOne 37 = .ok (.iload 5, 2) := by decide +kernel
theorem dX1_hearOne_39 : decode cX1_hearOne 39 = .ok (.ifCond .eq 7, 3) := by decide +kernel
theorem dX1_hearOne_42 : decode cX1_hearOne 42 = .ok (.iconst (-1), 1) := by decide +kernel
theorem dX1_hearOne_43 : decode cX1_hearOne 43 = .ok (.goto 9, 3) := by decide +kernel
theorem dX1_hearOne_46 : decode cX1_hearOne 46 = .ok (.aload_n 0, 1) := by decide +kernel
theorem dX1_hearOne_47 : decode cX1_hearOne 47 = .ok (.iload_n 1, 1) := by decide +kernel
theorem dX1_hearOne_48 : decode cX1_hearOne 48 = .ok (.iload_n 2, 1) := by decide +kernel
theorem dX1_hearOne_49 : decode cX1_hearOne 49 = .ok (.invokevirtual 232, 3) := by decide +kernel
theorem dX1_hearOne_52 : decode cX1_hearOne 52 = .ok (.istore 6, 2) := by decide +kernel
theorem dX1_hearOne_54 : decode cX1_hearOne 54 = .ok (.iload 6, 2) := by decide +kernel
theorem dX1_hearOne_56 : decode cX1_hearOne 56 = .ok (.iconst (-1), 1) := by decide +kernel
theorem dX1_hearOne_57 : decode cX1_hearOne 57 = .ok (.if_icmp .eq 10, 3) := by decide +kernel
theorem dX1_hearOne_60 : decode cX1_hearOne 60 = .ok (.iload 4, 2) := by decide +kernel
theorem dX1_hearOne_62 : decode cX1_hearOne 62 = .ok (.bipush 16, 2) := by decide +kernel
theorem dX1_hearOne_64 : decode cX1_hearOne 64 = .ok (.ior, 1) := by decide +kernel
theorem dX1_hearOne_65 : decode cX1_hearOne 65 = .ok (.istore 4, 2) := by decide +kernel
theorem dX1_hearOne_67 : decode cX1_hearOne 67 = .ok (.aload_n 0, 1) := by decide +kernel
theorem dX1_hearOne_68 : decode cX1_hearOne 68 = .ok (.getfield 20, 3) := by decide +kernel
theorem dX1_hearOne_71 : decode cX1_hearOne 71 = .ok (.iload_n 1, 1) := by decide +kernel
theorem dX1_hearOne_72 : decode cX1_hearOne 72 = .ok (.aaload, 1) := by decide +kernel
theorem dX1_hearOne_73 : decode cX1_hearOne 73 = .ok (.iload_n 2, 1) := by decide +kernel
theorem dX1_hearOne_74 : decode cX1_hearOne 74 = .ok (.iload 4, 2) := by decide +kernel
theorem dX1_hearOne_76 : decode cX1_hearOne 76 = .ok (.iload 6, 2) := by decide +kernel
theorem dX1_hearOne_78 : decode cX1_hearOne 78 = .ok (.aload_n 0, 1) := by decide +kernel
theorem dX1_hearOne_79 : decode cX1_hearOne 79 = .ok (.getfield 56, 3) := by decide +kernel
theorem dX1_hearOne_82 : decode cX1_hearOne 82 = .ok (.invokevirtual 235, 3) := by decide +kernel
theorem dX1_hearOne_85 : decode cX1_hearOne 85 = .ok (.return_, 1) := by decide +kernel
theorem dX1_hearAll_0 : decode cX1_hearAll 0 = .ok (.aload_n 0, 1) := by decide +kernel
theorem dX1_hearAll_1 : decode cX1_hearAll 1 = .ok (.getfield 56, 3) := by decide +kernel
theorem dX1_hearAll_4 : decode cX1_hearAll 4 = .ok (.iconst 3, 1) := by decide +kernel
theorem dX1_hearAll_5 : decode cX1_hearAll 5 = .ok (.irem, 1) := by decide +kernel
theorem dX1_hearAll_6 : decode cX1_hearAll 6 = .ok (.ifCond .ne 13, 3) := by decide +kernel
theorem dX1_hearAll_9 : decode cX1_hearAll 9 = .ok (.aload_n 0, 1) := by decide +kernel
theorem dX1_hearAll_10 : decode cX1_hearAll 10 = .ok (.getfield 39, 3) := by decide +kernel
theorem dX1_hearAll_13 : decode cX1_hearAll 13 = .ok (.invokevirtual 218, 3) := by decide +kernel
theorem dX1_hearAll_16 : decode cX1_hearAll 16 = .ok (.goto 4, 3) := by decide +kernel
theorem dX1_hearAll_19 : decode cX1_hearAll 19 = .ok (.iconst 0, 1) := by decide +kernel
theorem dX1_hearAll_20 : decode cX1_hearAll 20 = .ok (.istore_n 1, 1) := by decide +kernel
theorem dX1_hearAll_21 : decode cX1_hearAll 21 = .ok (.aload_n 0, 1) := by decide +kernel
theorem dX1_hearAll_22 : decode cX1_hearAll 22 = .ok (.getfield 43, 3) := by decide +kernel
theorem dX1_hearAll_25 : decode cX1_hearAll 25 = .ok (.invokevirtual 218, 3) := by decide +kernel
theorem dX1_hearAll_28 : decode cX1_hearAll 28 = .ok (.istore_n 2, 1) := by decide +kernel
theorem dX1_hearAll_29 : decode cX1_hearAll 29 = .ok (.iconst 0, 1) := by decide +kernel
theorem dX1_hearAll_30 : decode cX1_hearAll 30 = .ok (.istore_n 3, 1) := by decide +kernel
theorem dX1_hearAll_31 : decode cX1_hearAll 31 = .ok (.iload_n 3, 1) := by decide +kernel
theorem dX1_hearAll_32 : decode cX1_hearAll 32 = .ok (.aload_n 0, 1) := by decide +kernel
theorem dX1_hearAll_33 : decode cX1_hearAll 33 = .ok (.getfield 62, 3) := by decide +kernel
theorem dX1_hearAll_36 : decode cX1_hearAll 36 = .ok (.if_icmp .ge 135, 3) := by decide +kernel
theorem dX1_hearAll_39 : decode cX1_hearAll 39 = .ok (.aload_n 0, 1) := by decide +kernel
theorem dX1_hearAll_40 : decode cX1_hearAll 40 = .ok (.getfield 20, 3) := by decide +kernel
theorem dX1_hearAll_43 : decode cX1_hearAll 43 = .ok (.iload_n 3, 1) := by decide +kernel
theorem dX1_hearAll_44 : decode cX1_hearAll 44 = .ok (.aaload, 1) := by decide +kernel
theorem dX1_hearAll_45 : decode cX1_hearAll 45 = .ok (.astore 4, 2) := by decide +kernel
theorem dX1_hearAll_47 : decode cX1_hearAll 47 = .ok (.aload 4, 2) := by decide +kernel
theorem dX1_hearAll_49 : decode cX1_hearAll 49 = .ok (.invokevirtual 97, 3) := by decide +kernel
theorem dX1_hearAll_52 : decode cX1_hearAll 52 = .ok (.ifCond .eq 6, 3) := by decide +kernel
theorem dX1_hearAll_55 : decode cX1_hearAll 55 = .ok (.goto 110, 3) := by decide +kernel
theorem dX1_hearAll_58 : decode cX1_hearAll 58 = .ok (.aload_n 0, 1) := by decide +kernel
theorem dX1_hearAll_59 : decode cX1_hearAll 59 = .ok (.aload 4, 2) := by decide +kernel
theorem dX1_hearAll_61 : decode cX1_hearAll 61 = .ok (.invokevirtual 119, 3) := by decide +kernel
theorem dX1_hearAll_64 : decode cX1_hearAll 64 = .ok (.istore 5, 2) := by decide +kernel
theorem dX1_hearAll_66 : decode cX1_hearAll 66 = .ok (.iload_n 1, 1) := by decide +kernel
theorem dX1_hearAll_67 : decode cX1_hearAll 67 = .ok (.aload 4, 2) := by decide +kernel
theorem dX1_hearAll_69 : decode cX1_hearAll 69 = .ok (.getfield 129, 3) := by decide +kernel
theorem dX1_hearAll_72 : decode cX1_hearAll 72 = .ok (.invokestatic 130, 3) := by decide +kernel
theorem dX1_hearAll_75 : decode cX1_hearAll 75 = .ok (.ifCond .eq 15, 3) := by decide +kernel
theorem dX1_hearAll_78 : decode cX1_hearAll 78 = .ok (.aload 4, 2) := by decide +kernel
theorem dX1_hearAll_80 : decode cX1_hearAll 80 = .ok (.getfield 215, 3) := by decide +kernel
theorem dX1_hearAll_83 : decode cX1_hearAll 83 = .ok (.ifCond .ne 7, 3) := by decide +kernel
theorem dX1_hearAll_86 : decode cX1_hearAll 86 = .ok (.iconst 1, 1) := by decide +kernel
theorem dX1_hearAll_87 : decode cX1_hearAll 87 = .ok (.goto 4, 3) := by decide +kernel
theorem dX1_hearAll_90 : decode cX1_hearAll 90 = .ok (.iconst 0, 1) := by decide +kernel
theorem dX1_hearAll_91 : decode cX1_hearAll 91 = .ok (.istore 6, 2) := by decide +kernel
theorem dX1_hearAll_93 : decode cX1_hearAll 93 = .ok (.iload_n 2, 1) := by decide +kernel
theorem dX1_hearAll_94 : decode cX1_hearAll 94 = .ok (.aload 4, 2) := by decide +kernel
theorem dX1_hearAll_96 : decode cX1_hearAll 96 = .ok (.getfield 129, 3) := by decide +kernel
theorem dX1_hearAll_99 : decode cX1_hearAll 99 = .ok (.invokestatic 130, 3) := by decide +kernel
theorem dX1_hearAll_102 : decode cX1_hearAll 102 = .ok (.istore 7, 2) := by decide +kernel
theorem dX1_hearAll_104 : decode cX1_hearAll 104 = .ok (.iconst 0, 1) := by decide +kernel
theorem dX1_hearAll_105 : decode cX1_hearAll 105 = .ok (.istore 8, 2) := by decide +kernel
theorem dX1_hearAll_107 : decode cX1_hearAll 107 = .ok (.iload 8, 2) := by decide +kernel
theorem dX1_hearAll_109 : decode cX1_hearAll 109 = .ok (.aload_n 0, 1) := by decide +kernel
theorem dX1_hearAll_110 : decode cX1_hearAll 110 = .ok (.getfield 68, 3) := by decide +kernel
theorem dX1_hearAll_113 : decode cX1_hearAll 113 = .ok (.if_icmp .ge 52, 3) := by decide +kernel
theorem dX1_hearAll_116 : decode cX1_hearAll 116 = .ok (.aload_n 0, 1) := by decide +kernel
theorem dX1_hearAll_117 : decode cX1_hearAll 117 = .ok (.getfield 32, 3) := by decide +kernel
theorem dX1_hearAll_120 : decode cX1_hearAll 120 = .ok (.iload 8, 2) := by decide +kernel
theorem dX1_hearAll_122 : decode cX1_hearAll 122 = .ok (.aaload, 1) := by decide +kernel
theorem dX1_hearAll_123 : decode cX1_hearAll 123 = .ok (.getfield 112, 3) := by decide +kernel
theorem dX1_hearAll_126 : decode cX1_hearAll 126 = .ok (.ifCond .eq 33, 3) := by decide +kernel
theorem dX1_hearAll_129 : decode cX1_hearAll 129 = .ok (.aload_n 0, 1) := by decide +kernel
theorem dX1_hearAll_130 : decode cX1_hearAll 130 = .ok (.aload 4, 2) := by decide +kernel
theorem dX1_hearAll_132 : decode cX1_hearAll 132 = .ok (.aload_n 0, 1) := by decide +kernel
theorem dX1_hearAll_133 : decode cX1_hearAll 133 = .ok (.getfield 32, 3) := by decide +kernel
theorem dX1_hearAll_136 : decode cX1_hearAll 136 = .ok (.iload 8, 2) := by decide +kernel
theorem dX1_hearAll_138 : decode cX1_hearAll 138 = .ok (.aaload, 1) := by decide +kernel
theorem dX1_hearAll_139 : decode cX1_hearAll 139 = .ok (.iload 6, 2) := by decide +kernel
theorem dX1_hearAll_141 : decode cX1_hearAll 141 = .ok (.iload 7, 2) := by decide +kernel
theorem dX1_hearAll_143 : decode cX1_hearAll 143 = .ok (.iload 5, 2) := by decide +kernel
theorem dX1_hearAll_145 : decode cX1_hearAll 145 = .ok (.invokevirtual 221, 3) := by decide +kernel
theorem dX1_hearAll_148 : decode cX1_hearAll 148 = .ok (.istore 9, 2) := by decide +kernel
theorem dX1_hearAll_150 : decode cX1_hearAll 150 = .ok (.aload_n 0, 1) := by decide +kernel
theorem dX1_hearAll_151 : decode cX1_hearAll 151 = .ok (.iload_n 3, 1) := by decide +kernel
theorem dX1_hearAll_152 : decode cX1_hearAll 152 = .ok (.iload 8, 2) := by decide +kernel
theorem dX1_hearAll_154 : decode cX1_hearAll 154 = .ok (.iload 9, 2) := by decide +kernel
theorem dX1_hearAll_156 : decode cX1_hearAll 156 = .ok (.invokevirtual 225, 3) := by decide +kernel
theorem dX1_hearAll_159 : decode cX1_hearAll 159 = .ok (.iinc 8 1, 3) := by decide +kernel
theorem dX1_hearAll_162 : decode cX1_hearAll 162 = .ok (.goto (-55), 3) := by decide +kernel
theorem dX1_hearAll_165 : decode cX1_hearAll 165 = .ok (.iinc 3 1, 3) := by decide +kernel
theorem dX1_hearAll_168 : decode cX1_hearAll 168 = .ok (.goto (-137), 3) := by decide +kernel
theorem dX1_hearAll_171 : decode cX1_hearAll 171 = .ok (.return_, 1) := by decide +kernel
theorem dX1_chooseCalls_0 : decode cX1_chooseCalls 0 = .ok (.aload_n 0, 1) := by decide +kernel
theorem dX1_chooseCalls_1 : decode cX1_chooseCalls 1 = .ok (.getfield 9, 3) := by decide +kernel
theorem dX1_chooseCalls_4 : decode cX1_chooseCalls 4 = .ok (.istore_n 1, 1) := by decide +kernel
theorem dX1_chooseCalls_5 : decode cX1_chooseCalls 5 = .ok (.iconst 0, 1) := by decide +kernel
theorem dX1_chooseCalls_6 : decode cX1_chooseCalls 6 = .ok (.istore_n 2, 1) := by decide +kernel
theorem dX1_chooseCalls_7 : decode cX1_chooseCalls 7 = .ok (.iload_n 2, 1) := by decide +kernel
theorem dX1_chooseCalls_8 : decode cX1_chooseCalls 8 = .ok (.aload_n 0, 1) := by decide +kernel
theorem dX1_chooseCalls_9 : decode cX1_chooseCalls 9 = .ok (.getfield 68, 3) := by decide +kernel
theorem dX1_chooseCalls_12 : decode cX1_chooseCalls 12 = .ok (.if_icmp .ge 63, 3) := by decide +kernel
theorem dX1_chooseCalls_15 : decode cX1_chooseCalls 15 = .ok (.aload_n 0, 1) := by decide +kernel
theorem dX1_chooseCalls_16 : decode cX1_chooseCalls 16 = .ok (.getfield 50, 3) := by decide +kernel
theorem dX1_chooseCalls_19 : decode cX1_chooseCalls 19 = .ok (.iload_n 2, 1) := by decide +kernel
theorem dX1_chooseCalls_20 : decode cX1_chooseCalls 20 = .ok (.iload_n 1, 1) := by decide +kernel
theorem dX1_chooseCalls_21 : decode cX1_chooseCalls 21 = .ok (.ifCond .le 23, 3) := by decide +kernel
theorem dX1_chooseCalls_24 : decode cX1_chooseCalls 24 = .ok (.aload_n 0, 1) := by decide +kernel
theorem dX1_chooseCalls_25 : decode cX1_chooseCalls 25 = .ok (.getfield 32, 3) := by decide +kernel
theorem dX1_chooseCalls_28 : decode cX1_chooseCalls 28 = .ok (.iload_n 2, 1) := by decide +kernel
theorem dX1_chooseCalls_29 : decode cX1_chooseCalls 29 = .ok (.aaload, 1) := by decide +kernel
theorem dX1_chooseCalls_30 : decode cX1_chooseCalls 30 = .ok (.getfield 112, 3) := by decide +kernel
theorem dX1_chooseCalls_33 : decode cX1_chooseCalls 33 = .ok (.ifCond .eq 11, 3) := by decide +kernel
theorem dX1_chooseCalls_36 : decode cX1_chooseCalls 36 = .ok (.aload_n 0, 1) := by decide +kernel
theorem dX1_chooseCalls_37 : decode cX1_chooseCalls 37 = .ok (.iload_n 2, 1) := by decide +kernel
theorem dX1_chooseCalls_38 : decode cX1_chooseCalls 38 = .ok (.invokevirtual 203, 3) := by decide +kernel
theorem dX1_chooseCalls_41 : decode cX1_chooseCalls 41 = .ok (.goto 4, 3) := by decide +kernel
theorem dX1_chooseCalls_44 : decode cX1_chooseCalls 44 = .ok (.iconst (-1), 1) := by decide +kernel
theorem dX1_chooseCalls_45 : decode cX1_chooseCalls 45 = .ok (.iastore, 1) := by decide +kernel
theorem dX1_chooseCalls_46 : decode cX1_chooseCalls 46 = .ok (.aload_n 0, 1) := by decide +kernel
theorem dX1_chooseCalls_47 : decode cX1_chooseCalls 47 = .ok (.getfield 50, 3) := by decide +kernel
theorem dX1_chooseCalls_50 : decode cX1_chooseCalls 50 = .ok (.iload_n 2, 1) := by decide +kernel
theorem dX1_chooseCalls_51 : decode cX1_chooseCalls 51 = .ok (.iaload, 1) := by decide +kernel
theorem dX1_chooseCalls_52 : decode cX1_chooseCalls 52 = .ok (.iconst (-1), 1) := by decide +kernel
theorem dX1_chooseCalls_53 : decode cX1_chooseCalls 53 = .ok (.if_icmp .eq 16, 3) := by decide +kernel
theorem dX1_chooseCalls_56 : decode cX1_chooseCalls 56 = .ok (.iinc 1 (-1), 3) := by decide +kernel
theorem dX1_chooseCalls_59 : decode cX1_chooseCalls 59 = .ok (.aload_n 0, 1) := by decide +kernel
theorem dX1_chooseCalls_60 : decode cX1_chooseCalls 60 = .ok (.dup, 1) := by decide +kernel
theorem dX1_chooseCalls_61 : decode cX1_chooseCalls 61 = .ok (.getfield 59, 3) := by decide +kernel
theorem dX1_chooseCalls_64 : decode cX1_chooseCalls 64 = .ok (.iconst 1, 1) := by decide +kernel
theorem dX1_chooseCalls_65 : decode cX1_chooseCalls 65 = .ok (.iadd, 1) := by decide +kernel
theorem dX1_chooseCalls_66 : decode cX1_chooseCalls 66 = .ok (.putfield 59, 3) := by decide +kernel
theorem dX1_chooseCalls_69 : decode cX1_chooseCalls 69 = .ok (.iinc 2 1, 3) := by decide +kernel
theorem dX1_chooseCalls_72 : decode cX1_chooseCalls 72 = .ok (.goto (-65), 3) := by decide +kernel
theorem dX1_chooseCalls_75 : decode cX1_chooseCalls 75 = .ok (.return_, 1) := by decide +kernel
/-! hearing and calling -/
abbrev jNb (v : jN) (g w : Nat) : Int32 := jFind (jTells v g w) 0 (jGc v)
/-- one group hears of one warning: by the public ways pw, by a call, of a neighbour -/
def jNw (v : jN) (g w pw : Int32) : Int32 := if v 12 0 w.toNatClampNeg = g then pw ||| 8 else pw
def jNbT (v : jN) (g w : Int32) : Int32 := if jIn (v 14 g.toNatClampNeg w.toNatClampNeg) 4 = 0 then jNb v g.toNatClampNeg w.toNatClampNeg else -1
def jHear1 (v : jN) (g w pw : Int32) : jN := jNote v g.toNatClampNeg w.toNatClampNeg (if jNbT v g w = -1 then jNw v g w pw else jNw v g w pw ||| 16) (jNbT v g w) (v 1 0 0)
theorem jHear1_keep (v : jN) (g w pw : Int32) : jKeep v (jHear1 v g w pw) := jNote_keep _ _ _ _ _ _
def sp_X1_hearOne : vgC := fun av σ => match av with
  | [.inr (1, b, 0), .inl (.int g), .inl (.int w), .inl (.int pw)] => (jWf (jV σ b) ∧ vp_in g 8 ∧ vp_in w 12, none, jPut σ b (jHear1 (jV σ b) g w pw))
  | _ => (False, none, σ)
def k_X1_hearOne : List (Nat × vgF) := [(0, vi_iload 3 1), (1, vi_istore 4 3), (3, vi_aload 0 4), (4, vi_get ww_shp 1 13 7), (7, vi_iload 2 8), (8, vi_ald ww_shp 0 9), (9, vi_iload 1 10), (10, vi_cmp (fun x y => x = y) 13 20), (13, vi_iload 4 15), (15, vi_icst (8) 17), (17, vi_bin (fun x y => x ||| y) 18), (18, vi_istore 4 20), (20, vi_aload 0 21), (21, vi_get ww_shp 1 7 24), (24, vi_iload 1 25), (25, vi_aald ww_shp 2 26), (26, vi_get ww_shp 5 8 29), (29, vi_iload 2 30), (30, vi_ald ww_shp 0 31), (31, vi_icst (4) 32), (32, vi_callS sp_X5_isIn 2 35), (35, vi_istore 5 37), (37, vi_iload 5 39), (39, vi_if (fun x => x = 0) 46 42), (42, vi_icst (-1) 43), (43, vi_goto 52), (46, vi_aload 0 47), (47, vi_iload 1 48), (48, vi_iload 2 49), (49, vi_callV ww_shp 1 sp_X1_believingNeighbour 2 52), (52, vi_istore 6 54), (54, vi_iload 6 56), (56, vi_icst (-1) 57), (57, vi_cmp (fun x y => x = y) 67 60), (60, vi_iload 4 62), (62, vi_icst (16) 64), (64, vi_bin (fun x y => x ||| y) 65), (65, vi_istore 4 67), (67, vi_aload 0 68), (68, vi_get ww_shp 1 7 71), (71, vi_iload 1 72), (72, vi_aald ww_shp 2 73), (73, vi_iload 2 74), (74, vi_iload 4 76), (76, vi_iload 6 78), (78, vi_aload 0 79), (79, vi_get ww_shp 1 0 82), (82, vi_callV ww_shp 5 sp_X0_noteWays 4 85), (85, vi_retV)]
set_option maxRecDepth 20000 in
theorem s_X1_hearOne : ∀ q ∈ k_X1_hearOne, vg_Snd ww_tb ww_nw ww_shp ww_nm ww_cl ww_tyl cX1_hearOne 7 RX1 none 3 q.1 q.2 := by
  refine vg_cons (vs_iload_n dX1_hearOne_0 rfl rfl) ?_
  refine vg_cons (vs_istore dX1_hearOne_1 (by decide) rfl) ?_
  refine vg_cons (vs_aload_n dX1_hearOne_3 rfl rfl) ?_
  refine vg_cons (vs_getfield (T := TX1) dX1_hearOne_4 rfl (by decide) ww_inX1 q_75 rfl) ?_
  refine vg_cons (vs_iload_n dX1_hearOne_7 rfl rfl) ?_
  refine vg_cons (vs_iaload dX1_hearOne_8 rfl rfl) ?_
  refine vg_cons (vs_iload_n dX1_hearOne_9 rfl rfl) ?_
  refine vg_cons (vs_cmp_ne dX1_hearOne_10 (by decide) rfl) ?_
  refine vg_cons (vs_iload dX1_hearOne_13 rfl) ?_
  refine vg_cons (vs_bipush dX1_hearOne_15 (by decide) rfl) ?_
  refine vg_cons (vs_ior dX1_hearOne_17 rfl) ?_
  refine vg_cons (vs_istore dX1_hearOne_18 (by decide) rfl) ?_
  refine vg_cons (vs_aload_n dX1_hearOne_20 rfl rfl) ?_
  refine vg_cons (vs_getfield (T := TX1) dX1_hearOne_21 rfl (by decide) ww_inX1 q_39 rfl) ?_
  refine vg_cons (vs_iload_n dX1_hearOne_24 rfl rfl) ?_
  refine vg_cons (vs_aaload dX1_hearOne_25 rfl rfl) ?_
  refine vg_cons (vs_getfield (T := TX0) dX1_hearOne_26 rfl (by decide) ww_inX0 q_56 rfl) ?_
  refine vg_cons (vs_iload_n dX1_hearOne_29 rfl rfl) ?_
  refine vg_cons (vs_iaload dX1_hearOne_30 rfl rfl) ?_
  refine vg_cons (vs_iconst dX1_hearOne_31 rfl rfl) ?_
  refine vg_cons (vs_callSN (host := "WarnWave") c_X5_isIn dX1_hearOne_32 ww_good q_50 q_51 (by decide +kernel) q_52 (by decide +kernel) (by decide) rfl) ?_
  refine vg_cons (vs_istore dX1_hearOne_35 (by decide) rfl) ?_
  refine vg_cons (vs_iload dX1_hearOne_37 rfl) ?_
  refine vg_cons (vs_if_eq dX1_hearOne_39 (by decide) rfl) ?_
  refine vg_cons (vs_iconst dX1_hearOne_42 rfl rfl) ?_
  refine vg_cons (vs_goto dX1_hearOne_43 (by decide)) ?_
  refine vg_cons (vs_aload_n dX1_hearOne_46 rfl rfl) ?_
  refine vg_cons (vs_iload_n dX1_hearOne_47 rfl rfl) ?_
  refine vg_cons (vs_iload_n dX1_hearOne_48 rfl rfl) ?_
  refine vg_cons (vs_callV (T := TX1) c_X1_believingNeighbour dX1_hearOne_49 rfl ww_good q_76 q_12 q_77 q_78 q_79 (by decide +kernel) (by decide) rfl) ?_
  refine vg_cons (vs_istore dX1_hearOne_52 (by decide) rfl) ?_
  refine vg_cons (vs_iload dX1_hearOne_54 rfl) ?_
  refine vg_cons (vs_iconst dX1_hearOne_56 rfl rfl) ?_
  refine vg_cons (vs_cmp_eq dX1_hearOne_57 (by decide) rfl) ?_
  refine vg_cons (vs_iload dX1_hearOne_60 rfl) ?_
  refine vg_cons (vs_bipush dX1_hearOne_62 (by decide) rfl) ?_
  refine vg_cons (vs_ior dX1_hearOne_64 rfl) ?_
  refine vg_cons (vs_istore dX1_hearOne_65 (by decide) rfl) ?_
  refine vg_cons (vs_aload_n dX1_hearOne_67 rfl rfl) ?_
  refine vg_cons (vs_getfield (T := TX1) dX1_hearOne_68 rfl (by decide) ww_inX1 q_39 rfl) ?_
  refine vg_cons (vs_iload_n dX1_hearOne_71 rfl rfl) ?_
  refine vg_cons (vs_aaload dX1_hearOne_72 rfl rfl) ?_
  refine vg_cons (vs_iload_n dX1_hearOne_73 rfl rfl) ?_
  refine vg_cons (vs_iload dX1_hearOne_74 rfl) ?_
  refine vg_cons (vs_iload dX1_hearOne_76 rfl) ?_
  refine vg_cons (vs_aload_n dX1_hearOne_78 rfl rfl) ?_
  refine vg_cons (vs_getfield (T := TX1) dX1_hearOne_79 rfl (by decide) ww_inX1 q_10 rfl) ?_
  refine vg_cons (vs_callV (T := TX0) c_X0_noteWays dX1_hearOne_82 rfl ww_good q_80 q_21 q_81 q_82 q_83 (by decide +kernel) (by decide) rfl) ?_
  refine vg_cons (vs_return dX1_hearOne_85 rfl) ?_
  exact fun _ h => absurd h List.not_mem_nil
theorem m_X1_hearOne : vg_Code k_X1_hearOne := fun q h => (s_X1_hearOne q h).1

theorem w_X1_hearOne : vg_Wd sp_X1_hearOne 7 := by
  intro av σ h
  unfold sp_X1_hearOne at h
  split at h
  · exact Nat.le_of_ble_eq_true rfl
  · exact h.elim
theorem g_X1_hearOne : vg_G k_X1_hearOne sp_X1_hearOne := by
  intro av σ h
  unfold sp_X1_hearOne at h ⊢
  split at h
  next b g w pw =>
    obtain ⟨hw, hg8, hw12⟩ := h
    have fin : ∀ nw nb : Int32, jHear1 (jV σ b) g w pw = jNote (jV σ b) g.toNatClampNeg w.toNatClampNeg nw nb (jV σ b 1 0 0) → vg_Go k_X1_hearOne (fun r σ' => r = none ∧ σ' = jPut σ b (jHear1 (jV σ b) g w pw)) 67 [(0, .inr (1, b, 0)), (1, .inl (.int g)), (2, .inl (.int w)), (4, .inl (.int nw)), (6, .inl (.int nb))] [] σ := by
      intro nw nb e
      refine vg_run (cuts := []) m_X1_hearOne 40 ?_
      exact And.intro hg8 (And.intro hw12 (And.intro rfl (by rw [e]; rfl)))
    have mid : ∀ nw : Int32, nw = jNw (jV σ b) g w pw → vg_Go k_X1_hearOne (fun r σ' => r = none ∧ σ' = jPut σ b (jHear1 (jV σ b) g w pw)) 20 [(0, .inr (1, b, 0)), (1, .inl (.int g)), (2, .inl (.int w)), (4, .inl (.int nw))] [] σ := by
      intro nw e
      refine vg_run (cuts := [(67, [0, 1, 2, 4, 6])]) m_X1_hearOne 40 ?_
      refine And.intro hg8 (And.intro hw12 (And.intro trivial (And.intro (fun hc => ?_) (fun hc => ?_))))
      · refine And.intro ⟨hw, hg8, hw12⟩ (And.intro (fun hd => ?_) (fun hd => ?_))
        · refine fin _ _ ?_
          have en : jNbT (jV σ b) g w = jNb (jV σ b) g.toNatClampNeg w.toNatClampNeg := if_pos hc
          rw [jHear1, en, if_pos (show jNb (jV σ b) g.toNatClampNeg w.toNatClampNeg = -1 from hd), ← e]
        · refine fin _ _ ?_
          have en : jNbT (jV σ b) g w = jNb (jV σ b) g.toNatClampNeg w.toNatClampNeg := if_pos hc
          rw [jHear1, en, if_neg (show ¬ jNb (jV σ b) g.toNatClampNeg w.toNatClampNeg = -1 from hd), ← e]
      · refine And.intro (fun hd => ?_) (fun hd => absurd rfl hd)
        refine fin _ _ ?_
        have en : jNbT (jV σ b) g w = -1 := if_neg hc
        rw [jHear1, en, if_pos rfl, ← e]
    refine vg_run (cuts := [(20, [0, 1, 2, 4])]) m_X1_hearOne 40 ?_
    refine And.intro hw12 (And.intro (fun hc => ?_) (fun hc => ?_))
    · exact mid _ (if_pos hc).symm
    · exact mid _ (if_neg hc).symm
  next => exact h.elim
theorem c_X1_hearOne : vg_MetF ww_tb ww_nw ww_shp ww_nm ww_cl ww_tyl yX1_hearOne cX1_hearOne 7 none 3 sp_X1_hearOne := vg_met ww_closed (by decide +kernel) rfl s_X1_hearOne w_X1_hearOne g_X1_hearOne
abbrev jSi (v : jN) : Int32 := if v 1 0 0 - v 1 0 0 / 3 * 3 = 0 then jReach v 0 (jNc v 0) else 0
abbrev jMa (v : jN) : Int32 := jReach v 1 (jNc v 1)
/-- one group hears of one warning, in a minute -/
def jHearW (g : Nat) (si ma sl : Int32) (w : Nat) (v : jN) : jN := if v 11 w 7 = 0 then v else jHear1 v (nI g) (nI w) (jPub v g w si ma sl)
def jHearG (si ma : Int32) (g : Nat) (v : jN) : jN := if jGone v g then v else jIt (jHearW g (if jIn si (v 9 g 0) = 0 then 0 else if v 9 g 4 = 0 then 1 else 0) (jIn ma (v 9 g 0)) (jb (jSleep v g))) (jWc v) v
def jHearAll (v : jN) : jN := jIt (jHearG (jSi v) (jMa v)) (jGc v) v
theorem jHearW_keep (g : Nat) (si ma sl : Int32) (w : Nat) (v : jN) : jKeep v (jHearW g si ma sl w v) := by
  unfold jHearW
  split
  · exact jKeep.rf
  · exact jHear1_keep _ _ _ _
theorem jHearG_keep (si ma : Int32) (g : Nat) (v : jN) : jKeep v (jHearG si ma g v) := by
  unfold jHearG
  split
  · exact jKeep.rf
  · exact jIt_keep (jHearW_keep _ _ _ _) _ _
theorem jHearAll_keep (v : jN) : jKeep v (jHearAll v) := jIt_keep (jHearG_keep _ _) _ _
def sp_X1_hearAll : vgC := fun av σ => match av with
  | [.inr (1, b, 0)] => (jWf (jV σ b), none, jPut σ b (jHearAll (jV σ b)))
  | _ => (False, none, σ)
def k_X1_hearAll : List (Nat × vgF) := [(0, vi_aload 0 1), (1, vi_get ww_shp 1 0 4), (4, vi_icst (3) 5), (5, vi_div (fun x y => x - x / y * y) 6), (6, vi_if (fun x => x = 0) 9 19), (9, vi_aload 0 10), (10, vi_get ww_shp 1 10 13), (13, vi_callV ww_shp 2 sp_X2_cellsReached 0 16), (16, vi_goto 20), (19, vi_icst (0) 20), (20, vi_istore 1 21), (21, vi_aload 0 22), (22, vi_get ww_shp 1 11 25), (25, vi_callV ww_shp 2 sp_X2_cellsReached 0 28), (28, vi_istore 2 29), (29, vi_icst (0) 30), (30, vi_istore 3 31), (31, vi_iload 3 32), (32, vi_aload 0 33), (33, vi_get ww_shp 1 4 36), (36, vi_cmp (fun x y => y ≤ x) 171 39), (39, vi_aload 0 40), (40, vi_get ww_shp 1 7 43), (43, vi_iload 3 44), (44, vi_aald ww_shp 2 45), (45, vi_astore 4 47), (47, vi_aload 4 49), (49, vi_callV ww_shp 5 sp_X0_isGone 0 52), (52, vi_if (fun x => x = 0) 58 55), (55, vi_goto 165), (58, vi_aload 0 59), (59, vi_aload 4 61), (61, vi_callV ww_shp 1 sp_X1_isAsleep 1 64), (64, vi_istore 5 66), (66, vi_iload 1 67), (67, vi_aload 4 69), (69, vi_get ww_shp 5 0 72), (72, vi_callS sp_X5_isIn 2 75), (75, vi_if (fun x => x = 0) 90 78), (78, vi_aload 4 80), (80, vi_get ww_shp 5 4 83), (83, vi_if (fun x => x = 0) 86 90), (86, vi_icst (1) 87), (87, vi_goto 91), (90, vi_icst (0) 91), (91, vi_istore 6 93), (93, vi_iload 2 94), (94, vi_aload 4 96), (96, vi_get ww_shp 5 0 99), (99, vi_callS sp_X5_isIn 2 102), (102, vi_istore 7 104), (104, vi_icst (0) 105), (105, vi_istore 8 107), (107, vi_iload 8 109), (109, vi_aload 0 110), (110, vi_get ww_shp 1 6 113), (113, vi_cmp (fun x y => y ≤ x) 165 116), (116, vi_aload 0 117), (117, vi_get ww_shp 1 9 120), (120, vi_iload 8 122), (122, vi_aald ww_shp 4 123), (123, vi_get ww_shp 4 7 126), (126, vi_if (fun x => x = 0) 159 129), (129, vi_aload 0 130), (130, vi_aload 4 132), (132, vi_aload 0 133), (133, vi_get ww_shp 1 9 136), (136, vi_iload 8 138), (138, vi_aald ww_shp 4 139), (139, vi_iload 6 141), (141, vi_iload 7 143), (143, vi_iload 5 145), (145, vi_callV ww_shp 1 sp_X1_publicWays 5 148), (148, vi_istore 9 150), (150, vi_aload 0 151), (151, vi_iload 3 152), (152, vi_iload 8 154), (154, vi_iload 9 156), (156, vi_callV ww_shp 1 sp_X1_hearOne 3 159), (159, vi_iinc 8 (1) 162), (162, vi_goto 107), (165, vi_iinc 3 (1) 168), (168, vi_goto 31), (171, vi_retV)]
set_option maxRecDepth 20000 in
theorem s_X1_hearAll : ∀ q ∈ k_X1_hearAll, vg_Snd ww_tb ww_nw ww_shp ww_nm ww_cl ww_tyl cX1_hearAll 10 RX1 none 4 q.1 q.2 := by
  refine vg_cons (vs_aload_n dX1_hearAll_0 rfl rfl) ?_
  refine vg_cons (vs_getfield (T := TX1) dX1_hearAll_1 rfl (by decide) ww_inX1 q_10 rfl) ?_
  refine vg_cons (vs_iconst dX1_hearAll_4 rfl rfl) ?_
  refine vg_cons (vs_irem dX1_hearAll_5 rfl) ?_
  refine vg_cons (vs_if_ne dX1_hearAll_6 (by decide) rfl) ?_
  refine vg_cons (vs_aload_n dX1_hearAll_9 rfl rfl) ?_
  refine vg_cons (vs_getfield (T := TX1) dX1_hearAll_10 rfl (by decide) ww_inX1 q_84 rfl) ?_
  refine vg_cons (vs_callV (T := TX2) c_X2_cellsReached dX1_hearAll_13 rfl ww_good q_85 q_86 q_87 q_88 q_89 (by decide +kernel) (by decide) rfl) ?_
  refine vg_cons (vs_goto dX1_hearAll_16 (by decide)) ?_
  refine vg_cons (vs_iconst dX1_hearAll_19 rfl rfl) ?_
  refine vg_cons (vs_istore_n dX1_hearAll_20 rfl (by decide) rfl) ?_
  refine vg_cons (vs_aload_n dX1_hearAll_21 rfl rfl) ?_
  refine vg_cons (vs_getfield (T := TX1) dX1_hearAll_22 rfl (by decide) ww_inX1 q_90 rfl) ?_
  refine vg_cons (vs_callV (T := TX2) c_X2_cellsReached dX1_hearAll_25 rfl ww_good q_85 q_86 q_87 q_88 q_89 (by decide +kernel) (by decide) rfl) ?_
  refine vg_cons (vs_istore_n dX1_hearAll_28 rfl (by decide) rfl) ?_
  refine vg_cons (vs_iconst dX1_hearAll_29 rfl rfl) ?_
  refine vg_cons (vs_istore_n dX1_hearAll_30 rfl (by decide) rfl) ?_
  refine vg_cons (vs_iload_n dX1_hearAll_31 rfl rfl) ?_
  refine vg_cons (vs_aload_n dX1_hearAll_32 rfl rfl) ?_
  refine vg_cons (vs_getfield (T := TX1) dX1_hearAll_33 rfl (by decide) ww_inX1 q_38 rfl) ?_
  refine vg_cons (vs_cmp_ge dX1_hearAll_36 (by decide) rfl) ?_
  refine vg_cons (vs_aload_n dX1_hearAll_39 rfl rfl) ?_
  refine vg_cons (vs_getfield (T := TX1) dX1_hearAll_40 rfl (by decide) ww_inX1 q_39 rfl) ?_
  refine vg_cons (vs_iload_n dX1_hearAll_43 rfl rfl) ?_
  refine vg_cons (vs_aaload dX1_hearAll_44 rfl rfl) ?_
  refine vg_cons (vs_astore dX1_hearAll_45 (by decide) rfl) ?_
  refine vg_cons (vs_aload dX1_hearAll_47 rfl) ?_
  refine vg_cons (vs_callV (T := TX0) c_X0_isGone dX1_hearAll_49 rfl ww_good q_20 q_21 q_22 q_23 q_24 (by decide +kernel) (by decide) rfl) ?_
  refine vg_cons (vs_if_eq dX1_hearAll_52 (by decide) rfl) ?_
  refine vg_cons (vs_goto dX1_hearAll_55 (by decide)) ?_
  refine vg_cons (vs_aload_n dX1_hearAll_58 rfl rfl) ?_
  refine vg_cons (vs_aload dX1_hearAll_59 rfl) ?_
  refine vg_cons (vs_callV (T := TX1) c_X1_isAsleep dX1_hearAll_61 rfl ww_good q_40 q_12 q_41 q_42 q_43 (by decide +kernel) (by decide) rfl) ?_
  refine vg_cons (vs_istore dX1_hearAll_64 (by decide) rfl) ?_
  refine vg_cons (vs_iload_n dX1_hearAll_66 rfl rfl) ?_
  refine vg_cons (vs_aload dX1_hearAll_67 rfl) ?_
  refine vg_cons (vs_getfield (T := TX0) dX1_hearAll_69 rfl (by decide) ww_inX0 q_49 rfl) ?_
  refine vg_cons (vs_callSN (host := "WarnWave") c_X5_isIn dX1_hearAll_72 ww_good q_50 q_51 (by decide +kernel) q_52 (by decide +kernel) (by decide) rfl) ?_
  refine vg_cons (vs_if_eq dX1_hearAll_75 (by decide) rfl) ?_
  refine vg_cons (vs_aload dX1_hearAll_78 rfl) ?_
  refine vg_cons (vs_getfield (T := TX0) dX1_hearAll_80 rfl (by decide) ww_inX0 q_57 rfl) ?_
  refine vg_cons (vs_if_ne dX1_hearAll_83 (by decide) rfl) ?_
  refine vg_cons (vs_iconst dX1_hearAll_86 rfl rfl) ?_
  refine vg_cons (vs_goto dX1_hearAll_87 (by decide)) ?_
  refine vg_cons (vs_iconst dX1_hearAll_90 rfl rfl) ?_
  refine vg_cons (vs_istore dX1_hearAll_91 (by decide) rfl) ?_
  refine vg_cons (vs_iload_n dX1_hearAll_93 rfl rfl) ?_
  refine vg_cons (vs_aload dX1_hearAll_94 rfl) ?_
  refine vg_cons (vs_getfield (T := TX0) dX1_hearAll_96 rfl (by decide) ww_inX0 q_49 rfl) ?_
  refine vg_cons (vs_callSN (host := "WarnWave") c_X5_isIn dX1_hearAll_99 ww_good q_50 q_51 (by decide +kernel) q_52 (by decide +kernel) (by decide) rfl) ?_
  refine vg_cons (vs_istore dX1_hearAll_102 (by decide) rfl) ?_
  refine vg_cons (vs_iconst dX1_hearAll_104 rfl rfl) ?_
  refine vg_cons (vs_istore dX1_hearAll_105 (by decide) rfl) ?_
  refine vg_cons (vs_iload dX1_hearAll_107 rfl) ?_
  refine vg_cons (vs_aload_n dX1_hearAll_109 rfl rfl) ?_
  refine vg_cons (vs_getfield (T := TX1) dX1_hearAll_110 rfl (by decide) ww_inX1 q_16 rfl) ?_
  refine vg_cons (vs_cmp_ge dX1_hearAll_113 (by decide) rfl) ?_
  refine vg_cons (vs_aload_n dX1_hearAll_116 rfl rfl) ?_
  refine vg_cons (vs_getfield (T := TX1) dX1_hearAll_117 rfl (by decide) ww_inX1 q_17 rfl) ?_
  refine vg_cons (vs_iload dX1_hearAll_120 rfl) ?_
  refine vg_cons (vs_aaload dX1_hearAll_122 rfl rfl) ?_
  refine vg_cons (vs_getfield (T := TX4) dX1_hearAll_123 rfl (by decide) ww_inX4 q_18 rfl) ?_
  refine vg_cons (vs_if_eq dX1_hearAll_126 (by decide) rfl) ?_
  refine vg_cons (vs_aload_n dX1_hearAll_129 rfl rfl) ?_
  refine vg_cons (vs_aload dX1_hearAll_130 rfl) ?_
  refine vg_cons (vs_aload_n dX1_hearAll_132 rfl rfl) ?_
  refine vg_cons (vs_getfield (T := TX1) dX1_hearAll_133 rfl (by decide) ww_inX1 q_17 rfl) ?_
  refine vg_cons (vs_iload dX1_hearAll_136 rfl) ?_
  refine vg_cons (vs_aaload dX1_hearAll_138 rfl rfl) ?_
  refine vg_cons (vs_iload dX1_hearAll_139 rfl) ?_
  refine vg_cons (vs_iload dX1_hearAll_141 rfl) ?_
  refine vg_cons (vs_iload dX1_hearAll_143 rfl) ?_
  refine vg_cons (vs_callV (T := TX1) c_X1_publicWays dX1_hearAll_145 rfl ww_good q_91 q_12 q_92 q_93 q_94 (by decide +kernel) (by decide) rfl) ?_
  refine vg_cons (vs_istore dX1_hearAll_148 (by decide) rfl) ?_
  refine vg_cons (vs_aload_n dX1_hearAll_150 rfl rfl) ?_
  refine vg_cons (vs_iload_n dX1_hearAll_151 rfl rfl) ?_
  refine vg_cons (vs_iload dX1_hearAll_152 rfl) ?_
  refine vg_cons (vs_iload dX1_hearAll_154 rfl) ?_
  refine vg_cons (vs_callV (T := TX1) c_X1_hearOne dX1_hearAll_156 rfl ww_good q_95 q_12 q_96 q_97 q_98 (by decide +kernel) (by decide) rfl) ?_
  refine vg_cons (vs_iinc dX1_hearAll_159 rfl rfl) ?_
  refine vg_cons (vs_goto dX1_hearAll_162 (by decide)) ?_
  refine vg_cons (vs_iinc dX1_hearAll_165 rfl rfl) ?_
  refine vg_cons (vs_goto dX1_hearAll_168 (by decide)) ?_
  refine vg_cons (vs_return dX1_hearAll_171 rfl) ?_
  exact fun _ h => absurd h List.not_mem_nil
theorem m_X1_hearAll : vg_Code k_X1_hearAll := fun q h => (s_X1_hearAll q h).1

theorem w_X1_hearAll : vg_Wd sp_X1_hearAll 10 := by
  intro av σ h
  unfold sp_X1_hearAll at h
  split at h
  · exact Nat.le_of_ble_eq_true rfl
  · exact h.elim
theorem g_X1_hearAll : vg_G k_X1_hearAll sp_X1_hearAll := by
  intro av σ h
  unfold sp_X1_hearAll at h ⊢
  split at h
  next b =>
    have h8 := h.1.2
    have h12 := h.2.2.1.2
    have main : ∀ si ma : Int32, si = jSi (jV σ b) → ma = jMa (jV σ b) → vg_Go k_X1_hearAll (fun r σ' => r = none ∧ σ' = jPut σ b (jHearAll (jV σ b))) 31 [(0, .inr (1, b, 0)), (1, .inl (.int si)), (2, .inl (.int ma)), (3, .inl (.int 0))] [] σ := by
      intro si ma hsi hma
      refine vg_loop (fun i lv σ' => ∃ x v, v = jIt (jHearG si ma) i (jV σ b) ∧ σ' = jPut σ b v ∧ x = nI i ∧ lv = [(0, .inr (1, b, 0)), (1, .inl (.int si)), (2, .inl (.int ma)), (3, .inl (.int x))]) (jGc (jV σ b)) ?_ ?_ 0 _ _ (Nat.zero_le _) ⟨0, _, rfl, jPut_jV.symm, rfl, rfl⟩
      · rintro i lv σ' hi ⟨x, v, hvi, rfl, hx, rfl⟩ ih
        have hK : jKeep (jV σ b) v := by rw [hvi]; exact jIt_keep (jHearG_keep si ma) _ i
        have hcnt : jPut σ b v (1, b, 0) 4 = nI (jGc (jV σ b)) := jPut_at.trans ((hK.1 0 4 (by omega)).trans h.1.1)
        have hc0 : x.toNatClampNeg = i := jcl hx (by omega)
        have hv : vp_in x 8 := jin hx (by omega) (by decide)
        have hwf : jWf v := hK.wf h
        have inner : ∀ hs hm sl : Int32, ¬ jGone v i → hs = (if jIn si (v 9 i 0) = 0 then 0 else if v 9 i 4 = 0 then 1 else 0) → hm = jIn ma (v 9 i 0) → sl = jb (jSleep v i) →
            vg_Go k_X1_hearAll (fun r σ' => r = none ∧ σ' = jPut σ b (jHearAll (jV σ b))) 107 [(0, .inr (1, b, 0)), (1, .inl (.int si)), (2, .inl (.int ma)), (3, .inl (.int x)), (4, .inr (9, b, i)), (5, .inl (.int sl)), (6, .inl (.int hs)), (7, .inl (.int hm)), (8, .inl (.int 0))] [] (jPut σ b v) := by
          intro hs hm sl hng hhs hhm hsl
          refine vg_loop (fun j lv σ' => ∃ y u, u = jIt (jHearW i hs hm sl) j v ∧ σ' = jPut σ b u ∧ y = nI j ∧ lv = [(0, .inr (1, b, 0)), (1, .inl (.int si)), (2, .inl (.int ma)), (3, .inl (.int x)), (4, .inr (9, b, i)), (5, .inl (.int sl)), (6, .inl (.int hs)), (7, .inl (.int hm)), (8, .inl (.int y))]) (jWc v) ?_ ?_ 0 _ _ (Nat.zero_le _) ⟨0, _, rfl, rfl, rfl, rfl⟩
          · rintro j lv σ' hj ⟨y, u, hui, rfl, hy, rfl⟩ ih2
            have hK2 : jKeep v u := by rw [hui]; exact jIt_keep (jHearW_keep i hs hm sl) _ j
            have h12' : jWc v ≤ 12 := hwf.2.2.1.2
            have hcnt2 : jPut σ b u (1, b, 0) 6 = nI (jWc v) := jPut_at.trans ((hK2.1 0 6 (by omega)).trans hwf.2.2.1.1)
            have hd0 : y.toNatClampNeg = j := jcl hy (by omega)
            have hvy : vp_in y 12 := jin hy (by omega) (by decide)
            refine vg_run (cuts := [(31, [0, 1, 2, 3]), (107, [0, 1, 2, 3, 4, 5, 6, 7, 8])]) m_X1_hearAll 60 ?_
            refine And.intro (fun hc => absurd ((jle hcnt2 hy (by omega) (by omega)).mp hc) (by omega)) (fun _ => And.intro hvy (And.intro (fun hd => ?_) (fun hd => ?_)))
            · rw [jPut_at, hd0] at hd
              exact ih2 _ _ ⟨y + 1, u, by rw [hui]; rw [hui] at hd; exact (if_pos hd).symm, rfl, jinc hy, rfl⟩
            · rw [jPut_at, hd0] at hd
              refine And.intro hvy (And.intro ⟨rfl, rfl⟩ (And.intro ⟨by rw [jV_put]; exact hK2.wf hwf, hv, hvy⟩ (ih2 _ _ ⟨y + 1, jHearW i hs hm sl j u, by rw [hui]; rfl, ?_, jinc hy, rfl⟩)))
              show jPut (jPut σ b u) b (jHear1 (jV (jPut σ b u) b) x y (jPub (jV (jPut σ b u) b) i y.toNatClampNeg hs hm sl)) = _
              rw [jPut_put, jV_put, jHearW, if_neg hd, hd0, hx, hy]
          · rintro lv σ' ⟨y, u, hui, rfl, hy, rfl⟩
            have hK2 : jKeep v u := by rw [hui]; exact jIt_keep (jHearW_keep i hs hm sl) _ _
            have h12' : jWc v ≤ 12 := hwf.2.2.1.2
            have hcnt2 : jPut σ b u (1, b, 0) 6 = nI (jWc v) := jPut_at.trans ((hK2.1 0 6 (by omega)).trans hwf.2.2.1.1)
            refine vg_run (cuts := [(31, [0, 1, 2, 3]), (107, [0, 1, 2, 3, 4, 5, 6, 7, 8])]) m_X1_hearAll 60 ?_
            refine And.intro (fun _ => ih _ _ ⟨x + 1, u, ?_, rfl, jinc hx, rfl⟩) (fun hc => absurd ((jle hcnt2 hy (by omega) (by omega)).mpr (Nat.le_refl _)) hc)
            rw [jIt, ← hvi, jHearG, if_neg hng, ← hhs, ← hhm, ← hsl, hui]
        refine vg_run (cuts := [(31, [0, 1, 2, 3]), (107, [0, 1, 2, 3, 4, 5, 6, 7, 8])]) m_X1_hearAll 60 ?_
        refine And.intro (fun hc => absurd ((jle hcnt hx (by omega) (by omega)).mp hc) (by omega)) (fun _ => And.intro hv (And.intro trivial (And.intro (fun hd => ?_) (fun hd => ?_))))
        · rw [jV_put, hc0] at hd
          have hng := jb_0.mp hd
          have hin : ∀ hs, hs = (if jIn si (v 9 i 0) = 0 then 0 else if v 9 i 4 = 0 then (1 : Int32) else 0) → vg_Go k_X1_hearAll (fun r σ' => r = none ∧ σ' = jPut σ b (jHearAll (jV σ b))) 107 [(0, .inr (1, b, 0)), (1, .inl (.int si)), (2, .inl (.int ma)), (3, .inl (.int x)), (4, .inr (9, b, x.toNatClampNeg)), (5, .inl (.int (jb (jSleep (jV (jPut σ b v) b) x.toNatClampNeg)))), (6, .inl (.int hs)), (7, .inl (.int (jIn ma (jPut σ b v (9, b, x.toNatClampNeg) 0)))), (8, .inl (.int 0))] [] (jPut σ b v) := by
            intro hs hhs
            have := inner hs (jIn ma (v 9 i 0)) (jb (jSleep v i)) hng hhs rfl rfl
            rw [jV_put, jPut_at, hc0]
            exact this
          refine And.intro ⟨by rw [jV_put]; exact hwf, rfl⟩ (And.intro trivial (And.intro (fun he => And.intro trivial ?_) (fun he => And.intro (fun hf => And.intro trivial ?_) (fun hf => And.intro trivial ?_))))
          · rw [jPut_at, hc0] at he
            exact hin _ (if_pos he).symm
          · rw [jPut_at, hc0] at he hf
            exact hin _ ((if_neg he).trans (if_pos hf)).symm
          · rw [jPut_at, hc0] at he hf
            exact hin _ ((if_neg he).trans (if_neg hf)).symm
        · rw [jV_put, hc0] at hd
          have hg : jGone v i := Classical.byContradiction (fun z => hd (jb_f z))
          exact ih _ _ ⟨x + 1, v, by rw [hvi]; rw [hvi] at hg; exact (if_pos hg).symm, rfl, jinc hx, rfl⟩
      · rintro lv σ' ⟨x, v, hvi, rfl, hx, rfl⟩
        have hK : jKeep (jV σ b) v := by rw [hvi]; exact jIt_keep (jHearG_keep si ma) _ _
        have hcnt : jPut σ b v (1, b, 0) 4 = nI (jGc (jV σ b)) := jPut_at.trans ((hK.1 0 4 (by omega)).trans h.1.1)
        refine vg_run (cuts := [(31, [0, 1, 2, 3])]) m_X1_hearAll 20 ?_
        exact And.intro (fun _ => And.intro rfl (by rw [hvi, hsi, hma]; rfl)) (fun hc => absurd ((jle hcnt hx (by omega) (by omega)).mpr (Nat.le_refl _)) hc)
    refine vg_run (cuts := [(31, [0, 1, 2, 3])]) m_X1_hearAll 60 ?_
    refine And.intro (by decide) (And.intro (fun hc => And.intro h.2.2.2.1 (And.intro h.2.2.2.2 ?_)) (fun hc => And.intro h.2.2.2.2 ?_))
    · exact main _ _ (if_pos hc).symm rfl
    · exact main _ _ (if_neg hc).symm rfl
  next => exact h.elim
theorem c_X1_hearAll : vg_MetF ww_tb ww_nw ww_shp ww_nm ww_cl ww_tyl yX1_hearAll cX1_hearAll 10 none 4 sp_X1_hearAll := vg_met ww_closed (by decide +kernel) rfl s_X1_hearAll w_X1_hearAll g_X1_hearAll
abbrev jFirst (v : jN) (w : Nat) : Int32 := jFind (jCallee v w) 0 (jGc v)
/-- which group is called for one warning, with so many lines left -/
def jCh (w : Nat) (q : jN × Int32) : Int32 := if q.2 ≤ 0 then -1 else if q.1 11 w 7 = 0 then -1 else jFirst q.1 w
def jChoose (w : Nat) (q : jN × Int32) : jN × Int32 := if jCh w q = -1 then (jUp q.1 12 0 w (jCh w q), q.2) else (jUp (jUp q.1 12 0 w (jCh w q)) 1 0 3 (jUp q.1 12 0 w (jCh w q) 1 0 3 + 1), q.2 + (-1))
def jChooseAll (v : jN) : jN := (jIt jChoose (jWc v) (v, v 1 0 1)).1
theorem jChoose_keep (w : Nat) (q : jN × Int32) : jKeep q.1 (jChoose w q).1 := by
  unfold jChoose
  split
  · exact jKeep.rf.up (by omega)
  · exact (jKeep.rf.up (by omega)).up (by omega)
theorem jIt2_keep {f : Nat → jN × Int32 → jN × Int32} (hf : ∀ i v, jKeep v.1 (f i v).1) (v : jN × Int32) : ∀ n, jKeep v.1 (jIt f n v).1
  | 0 => jKeep.rf
  | n + 1 => (jIt2_keep hf v n).tr (hf n _)
theorem jChooseAll_keep (v : jN) : jKeep v (jChooseAll v) := jIt2_keep jChoose_keep (v, v 1 0 1) _
def sp_X1_chooseCalls : vgC := fun av σ => match av with
  | [.inr (1, b, 0)] => (jWf (jV σ b), none, jPut σ b (jChooseAll (jV σ b)))
  | _ => (False, none, σ)
def k_X1_chooseCalls : List (Nat × vgF) := [(0, vi_aload 0 1), (1, vi_get ww_shp 1 1 4), (4, vi_istore 1 5), (5, vi_icst (0) 6), (6, vi_istore 2 7), (7, vi_iload 2 8), (8, vi_aload 0 9), (9, vi_get ww_shp 1 6 12), (12, vi_cmp (fun x y => y ≤ x) 75 15), (15, vi_aload 0 16), (16, vi_get ww_shp 1 13 19), (19, vi_iload 2 20), (20, vi_iload 1 21), (21, vi_if (fun x => x ≤ 0) 44 24), (24, vi_aload 0 25), (25, vi_get ww_shp 1 9 28), (28, vi_iload 2 29), (29, vi_aald ww_shp 4 30), (30, vi_get ww_shp 4 7 33), (33, vi_if (fun x => x = 0) 44 36), (36, vi_aload 0 37), (37, vi_iload 2 38), (38, vi_callV ww_shp 1 sp_X1_firstToCall 1 41), (41, vi_goto 45), (44, vi_icst (-1) 45), (45, vi_ast ww_shp 0 46), (46, vi_aload 0 47), (47, vi_get ww_shp 1 13 50), (50, vi_iload 2 51), (51, vi_ald ww_shp 0 52), (52, vi_icst (-1) 53), (53, vi_cmp (fun x y => x = y) 69 56), (56, vi_iinc 1 (-1) 59), (59, vi_aload 0 60), (60, vi_dup 61), (61, vi_get ww_shp 1 3 64), (64, vi_icst (1) 65), (65, vi_bin (fun x y => x + y) 66), (66, vi_put ww_shp 1 3 69), (69, vi_iinc 2 (1) 72), (72, vi_goto 7), (75, vi_retV)]
set_option maxRecDepth 20000 in
theorem s_X1_chooseCalls : ∀ q ∈ k_X1_chooseCalls, vg_Snd ww_tb ww_nw ww_shp ww_nm ww_cl ww_tyl cX1_chooseCalls 3 RX1 none 2 q.1 q.2 := by
  refine vg_cons (vs_aload_n dX1_chooseCalls_0 rfl rfl) ?_
  refine vg_cons (vs_getfield (T := TX1) dX1_chooseCalls_1 rfl (by decide) ww_inX1 q_99 rfl) ?_
  refine vg_cons (vs_istore_n dX1_chooseCalls_4 rfl (by decide) rfl) ?_
  refine vg_cons (vs_iconst dX1_chooseCalls_5 rfl rfl) ?_
  refine vg_cons (vs_istore_n dX1_chooseCalls_6 rfl (by decide) rfl) ?_
  refine vg_cons (vs_iload_n dX1_chooseCalls_7 rfl rfl) ?_
  refine vg_cons (vs_aload_n dX1_chooseCalls_8 rfl rfl) ?_
  refine vg_cons (vs_getfield (T := TX1) dX1_chooseCalls_9 rfl (by decide) ww_inX1 q_16 rfl) ?_
  refine vg_cons (vs_cmp_ge dX1_chooseCalls_12 (by decide) rfl) ?_
  refine vg_cons (vs_aload_n dX1_chooseCalls_15 rfl rfl) ?_
  refine vg_cons (vs_getfield (T := TX1) dX1_chooseCalls_16 rfl (by decide) ww_inX1 q_75 rfl) ?_
  refine vg_cons (vs_iload_n dX1_chooseCalls_19 rfl rfl) ?_
  refine vg_cons (vs_iload_n dX1_chooseCalls_20 rfl rfl) ?_
  refine vg_cons (vs_if_le dX1_chooseCalls_21 (by decide) rfl) ?_
  refine vg_cons (vs_aload_n dX1_chooseCalls_24 rfl rfl) ?_
  refine vg_cons (vs_getfield (T := TX1) dX1_chooseCalls_25 rfl (by decide) ww_inX1 q_17 rfl) ?_
  refine vg_cons (vs_iload_n dX1_chooseCalls_28 rfl rfl) ?_
  refine vg_cons (vs_aaload dX1_chooseCalls_29 rfl rfl) ?_
  refine vg_cons (vs_getfield (T := TX4) dX1_chooseCalls_30 rfl (by decide) ww_inX4 q_18 rfl) ?_
  refine vg_cons (vs_if_eq dX1_chooseCalls_33 (by decide) rfl) ?_
  refine vg_cons (vs_aload_n dX1_chooseCalls_36 rfl rfl) ?_
  refine vg_cons (vs_iload_n dX1_chooseCalls_37 rfl rfl) ?_
  refine vg_cons (vs_callV (T := TX1) c_X1_firstToCall dX1_chooseCalls_38 rfl ww_good q_100 q_12 q_101 q_102 q_103 (by decide +kernel) (by decide) rfl) ?_
  refine vg_cons (vs_goto dX1_chooseCalls_41 (by decide)) ?_
  refine vg_cons (vs_iconst dX1_chooseCalls_44 rfl rfl) ?_
  refine vg_cons (vs_iastore dX1_chooseCalls_45 rfl rfl) ?_
  refine vg_cons (vs_aload_n dX1_chooseCalls_46 rfl rfl) ?_
  refine vg_cons (vs_getfield (T := TX1) dX1_chooseCalls_47 rfl (by decide) ww_inX1 q_75 rfl) ?_
  refine vg_cons (vs_iload_n dX1_chooseCalls_50 rfl rfl) ?_
  refine vg_cons (vs_iaload dX1_chooseCalls_51 rfl rfl) ?_
  refine vg_cons (vs_iconst dX1_chooseCalls_52 rfl rfl) ?_
  refine vg_cons (vs_cmp_eq dX1_chooseCalls_53 (by decide) rfl) ?_
  refine vg_cons (vs_iinc dX1_chooseCalls_56 rfl rfl) ?_
  refine vg_cons (vs_aload_n dX1_chooseCalls_59 rfl rfl) ?_
  refine vg_cons (vs_dup dX1_chooseCalls_60 rfl) ?_
  refine vg_cons (vs_getfield (T := TX1) dX1_chooseCalls_61 rfl (by decide) ww_inX1 q_104 rfl) ?_
  refine vg_cons (vs_iconst dX1_chooseCalls_64 rfl rfl) ?_
  refine vg_cons (vs_iadd dX1_chooseCalls_65 rfl) ?_
  refine vg_cons (vs_putfield (T := TX1) tyX1 dX1_chooseCalls_66 rfl (by decide) ww_inX1 tyX1_ok nmX1 rfl rfl q_104 rfl) ?_
  refine vg_cons (vs_iinc dX1_chooseCalls_69 rfl rfl) ?_
  refine vg_cons (vs_goto dX1_chooseCalls_72 (by decide)) ?_
  refine vg_cons (vs_return dX1_chooseCalls_75 rfl) ?_
  exact fun _ h => absurd h List.not_mem_nil
theorem m_X1_chooseCalls : vg_Code k_X1_chooseCalls := fun q h => (s_X1_chooseCalls q h).1

theorem w_X1_chooseCalls : vg_Wd sp_X1_chooseCalls 3 := by
  intro av σ h
  unfold sp_X1_chooseCalls at h
  split at h
  · exact Nat.le_of_ble_eq_true rfl
  · exact h.elim
theorem g_X1_chooseCalls : vg_G k_X1_chooseCalls sp_X1_chooseCalls := by
  intro av σ h
  unfold sp_X1_chooseCalls at h ⊢
  split at h
  next b =>
    have h12 := h.2.2.1.2
    refine vg_run (cuts := [(7, [0, 1, 2])]) m_X1_chooseCalls 20 ?_
    refine vg_loop (fun i lv σ' => ∃ x q, q = jIt jChoose i (jV σ b, jV σ b 1 0 1) ∧ σ' = jPut σ b q.1 ∧ x = nI i ∧ lv = [(0, .inr (1, b, 0)), (1, .inl (.int q.2)), (2, .inl (.int x))]) (jWc (jV σ b)) ?_ ?_ 0 _ _ (Nat.zero_le _) ⟨0, _, rfl, jPut_jV.symm, rfl, rfl⟩
    · rintro i lv σ' hi ⟨x, q, hvi, rfl, hx, rfl⟩ ih
      have hK : jKeep (jV σ b) q.1 := by rw [hvi]; exact jIt2_keep jChoose_keep (jV σ b, jV σ b 1 0 1) i
      have hcnt : jPut σ b q.1 (1, b, 0) 6 = nI (jWc (jV σ b)) := jPut_at.trans ((hK.1 0 6 (by omega)).trans h.2.2.1.1)
      have hc0 : x.toNatClampNeg = i := jcl hx (by omega)
      have hv : vp_in x 12 := jin hx (by omega) (by decide)
      have hwf : jWf q.1 := hK.wf h
      have tail : ∀ c : Int32, c = jCh i q → vg_Go k_X1_chooseCalls (fun r σ' => r = none ∧ σ' = jPut σ b (jChooseAll (jV σ b))) 46 [(0, .inr (1, b, 0)), (1, .inl (.int q.2)), (2, .inl (.int x))] [] (jPut σ b (jUp q.1 12 0 i c)) := by
        intro c hcc
        have hb : jPut σ b (jUp q.1 12 0 i c) (12, b, 0) i = c := by rw [jPut_at, jUp_at]
        refine vg_run (cuts := [(7, [0, 1, 2])]) m_X1_chooseCalls 40 ?_
        refine And.intro hv (And.intro (fun hd => ?_) (fun hd => And.intro rfl ?_))
        · rw [hc0, hb] at hd
          refine ih _ _ ⟨x + 1, (jUp q.1 12 0 i c, q.2), ?_, rfl, jinc hx, rfl⟩
          rw [jIt, ← hvi, jChoose, ← hcc]
          exact (if_pos hd).symm
        · rw [hc0, hb] at hd
          refine ih _ _ ⟨x + 1, (jUp (jUp q.1 12 0 i c) 1 0 3 (jUp q.1 12 0 i c 1 0 3 + 1), q.2 + (-1)), ?_, ?_, jinc hx, rfl⟩
          · rw [jIt, ← hvi, jChoose, ← hcc]
            exact (if_neg hd).symm
          · show vg_st (jPut σ b _) (1, b, 0) 3 (jPut σ b _ (1, b, 0) 3 + 1) = _
            rw [jst, jPut_at]
      have tail' : ∀ c : Int32, c = jCh i q → vg_Go k_X1_chooseCalls (fun r σ' => r = none ∧ σ' = jPut σ b (jChooseAll (jV σ b))) 46 [(0, .inr (1, b, 0)), (1, .inl (.int q.2)), (2, .inl (.int x))] [] (vg_st (jPut σ b q.1) (12, b, 0) x.toNatClampNeg c) := by
        intro c hcc
        rw [hc0, jst]
        exact tail c hcc
      refine vg_run (cuts := [(7, [0, 1, 2]), (46, [0, 1, 2])]) m_X1_chooseCalls 60 ?_
      refine And.intro (fun hc => absurd ((jle hcnt hx (by omega) (by omega)).mp hc) (by omega)) (fun _ => And.intro (fun hd => And.intro hv ?_) (fun hd => And.intro hv (And.intro (fun he => And.intro hv ?_) (fun he => And.intro ⟨?_, hv⟩ (And.intro hv ?_)))))
      · exact tail' _ (if_pos hd).symm
      · rw [jPut_at, hc0] at he
        exact tail' _ ((if_neg hd).trans (if_pos he)).symm
      · rw [jV_put]; exact hwf
      · rw [jPut_at, hc0] at he
        refine tail' _ ?_
        rw [jCh, if_neg hd, if_neg he, jV_put, hc0]
    · rintro lv σ' ⟨x, q, hvi, rfl, hx, rfl⟩
      have hK : jKeep (jV σ b) q.1 := by rw [hvi]; exact jIt2_keep jChoose_keep (jV σ b, jV σ b 1 0 1) _
      have hcnt : jPut σ b q.1 (1, b, 0) 6 = nI (jWc (jV σ b)) := jPut_at.trans ((hK.1 0 6 (by omega)).trans h.2.2.1.1)
      refine vg_run (cuts := [(7, [0, 1, 2])]) m_X1_chooseCalls 20 ?_
      exact And.intro (fun _ => And.intro rfl (by rw [hvi]; rfl)) (fun hc => absurd ((jle hcnt hx (by omega) (by omega)).mpr (Nat.le_refl _)) hc)
  next => exact h.elim
theorem c_X1_chooseCalls : vg_MetF ww_tb ww_nw ww_shp ww_nm ww_cl ww_tyl yX1_chooseCalls cX1_chooseCalls 3 none 2 sp_X1_chooseCalls := vg_met ww_closed (by decide +kernel) rfl s_X1_chooseCalls w_X1_chooseCalls g_X1_chooseCalls
end
section
-- words of the tables, and what stands at each place of the methods' code (laid by program)
theorem q_105 : Cond.constant RJ6 265 (1431655765) ∈ ww_tb := by decide +kernel
theorem q_106 : Cond.constant RJ6 266 (858993459) ∈ ww_tb := by decide +kernel
theorem q_107 : Cond.constant RJ6 267 (252645135) ∈ ww_tb := by decide +kernel
theorem q_108 : Cond.code yJ6_bitCount_0f7a4 cJ6_bitCount_0f7a4 1 (some .int) ∈ ww_tb := by decide +kernel
theorem q_109 : Cond.initialized RJ6 ∈ ww_tb := by decide +kernel
theorem q_110 : Cond.static yJ6_bitCount_0f7a4 ∈ ww_tb := by decide +kernel
theorem q_111 : Cond.methodLink RX1 137 yJ6_bitCount_0f7a4 ∈ ww_tb := by decide +kernel
theorem q_112 : Cond.code yX0_waysNeeded cX0_waysNeeded 1 (some .int) ∈ ww_tb := by decide +kernel
theorem q_113 : Cond.methodLink RX1 245 yX0_waysNeeded ∈ ww_tb := by decide +kernel
theorem q_114 : Cond.instanceMethod yX0_waysNeeded ∈ ww_tb := by decide +kernel
theorem q_115 : Cond.selects RX0 yX0_waysNeeded yX0_waysNeeded ∈ ww_tb := by decide +kernel
theorem q_116 : Cond.code yX1_believeOne cX1_believeOne 5 (some .int) ∈ ww_tb := by decide +kernel
theorem q_117 : Cond.methodLink RX1 242 yX1_believeOne ∈ ww_tb := by decide +kernel
theorem q_118 : Cond.instanceMethod yX1_believeOne ∈ ww_tb := by decide +kernel
theorem q_119 : Cond.selects RX1 yX1_believeOne yX1_believeOne ∈ ww_tb := by decide +kernel
theorem q_120 : Cond.code yX1_nearestWithRoom cX1_nearestWithRoom 6 (some .int) ∈ ww_tb := by decide +kernel
theorem q_121 : Cond.methodLink RX1 254 yX1_nearestWithRoom ∈ ww_tb := by decide +kernel
theorem q_122 : Cond.instanceMethod yX1_nearestWithRoom ∈ ww_tb := by decide +kernel
theorem q_123 : Cond.selects RX1 yX1_nearestWithRoom yX1_nearestWithRoom ∈ ww_tb := by decide +kernel
theorem q_124 : Cond.fieldLink RX1 185 (TX0 6).1 (TX0 6).2.1 (TX0 6).2.2.1 ∈ ww_tb := by decide +kernel
theorem q_125 : Cond.code yX5_stepTowards cX5_stepTowards 2 (some .int) ∈ ww_tb := by decide +kernel
theorem q_126 : Cond.static yX5_stepTowards ∈ ww_tb := by decide +kernel
theorem q_127 : Cond.fieldLink RX1 248 (TX4 3).1 (TX4 3).2.1 (TX4 3).2.2.1 ∈ ww_tb := by decide +kernel
theorem q_128 : Cond.code yX1_goOne cX1_goOne 3 none ∈ ww_tb := by decide +kernel
theorem q_129 : Cond.methodLink RX1 251 yX1_goOne ∈ ww_tb := by decide +kernel
theorem q_130 : Cond.instanceMethod yX1_goOne ∈ ww_tb := by decide +kernel
theorem q_131 : Cond.selects RX1 yX1_goOne yX1_goOne ∈ ww_tb := by decide +kernel
theorem dJ6_bitCount_0f7a4_0 : decode cJ6_bitCount_0f7a4 0 = .ok (.iload_n 0, 1) := by decide +kernel
theorem dJ6_bitCount_0f7a4_1 : decode cJ6_bitCount_0f7a4 1 = .ok (.iload_n 0, 1) := by decide +kernel
theorem dJ6_bitCount_0f7a4_2 : decode cJ6_bitCount_0f7a4 2 = .ok (.iconst 1, 1) := by decide +kernel
theorem dJ6_bitCount_0f7a4_3 : decode cJ6_bitCount_0f7a4 3 = .ok (.iushr, 1) := by decide +kernel
theorem dJ6_bitCount_0f7a4_4 : decode cJ6_bitCount_0f7a4 4 = .ok (.ldc_w 265, 3) := by decide +kernel
theorem dJ6_bitCount_0f7a4_7 : decode cJ6_bitCount_0f7a4 7 = .ok (.iand, 1) := by decide +kernel
theorem dJ6_bitCount_0f7a4_8 : decode cJ6_bitCount_0f7a4 8 = .ok (.isub, 1) := by decide +kernel
theorem dJ6_bitCount_0f7a4_9 : decode cJ6_bitCount_0f7a4 9 = .ok (.istore_n 0, 1) := by decide +kernel
theorem dJ6_bitCount_0f7a4_10 : decode cJ6_bitCount_0f7a4 10 = .ok (.iload_n 0, 1) := by decide +kernel
theorem dJ6_bitCount_0f7a4_11 : decode cJ6_bitCount_0f7a4 11 = .ok (.ldc_w 266, 3) := by decide +kernel
theorem dJ6_bitCount_0f7a4_14 : decode cJ6_bitCount_0f7a4 14 = .ok (.iand, 1) := by decide +kernel
theorem dJ6_bitCount_0f7a4_15 : decode cJ6_bitCount_0f7a4 15 = .ok (.iload_n 0, 1) := by decide +kernel
theorem dJ6_bitCount_0f7a4_16 : decode cJ6_bitCount_0f7a4 16 = .ok (.iconst 2, 1) := by decide +kernel
theorem dJ6_bitCount_0f7a4_17 : decode cJ6_bitCount_0f7a4 17 = .ok (.iushr, 1) := by decide +kernel
theorem dJ6_bitCount_0f7a4_18 : decode cJ6_bitCount_0f7a4 18 = .ok (.ldc_w 266, 3) := by decide +kernel
theorem dJ6_bitCount_0f7a4_21 : decode cJ6_bitCount_0f7a4 21 = .ok (.iand, 1) := by decide +kernel
theorem dJ6_bitCount_0f7a4_22 : decode cJ6_bitCount_0f7a4 22 = .ok (.iadd, 1) := by decide +kernel
theorem dJ6_bitCount_0f7a4_23 : decode cJ6_bitCount_0f7a4 23 = .ok (.istore_n 0, 1) := by decide +kernel
theorem dJ6_bitCount_0f7a4_24 : decode cJ6_bitCount_0f7a4 24 = .ok (.iload_n 0, 1) := by decide +kernel
theorem dJ6_bitCount_0f7a4_25 : decode cJ6_bitCount_0f7a4 25 = .ok (.iload_n 0, 1) := by decide +kernel
theorem dJ6_bitCount_0f7a4_26 : decode cJ6_bitCount_0f7a4 26 = .ok (.iconst 4, 1) := by decide +kernel
theorem dJ6_bitCount_0f7a4_27 : decode cJ6_bitCount_0f7a4 27 = .ok (.iushr, 1) := by decide +kernel
theorem dJ6_bitCount_0f7a4_28 : decode cJ6_bitCount_0f7a4 28 = .ok (.iadd, 1) := by decide +kernel
theorem dJ6_bitCount_0f7a4_29 : decode cJ6_bitCount_0f7a4 29 = .ok (.ldc_w 267, 3) := by decide +kernel
theorem dJ6_bitCount_0f7a4_32 : decode cJ6_bitCount_0f7a4 32 = .ok (.iand, 1) := by decide +kernel
theorem dJ6_bitCount_0f7a4_33 : decode cJ6_bitCount_0f7a4 33 = .ok (.istore_n 0, 1) := by decide +kernel
theorem dJ6_bitCount_0f7a4_34 : decode cJ6_bitCount_0f7a4 34 = .ok (.iload_n 0, 1) := by decide +kernel
theorem dJ6_bitCount_0f7a4_35 : decode cJ6_bitCount_0f7a4 35 = .ok (.iload_n 0, 1) := by decide +kernel
theorem dJ6_bitCount_0f7a4_36 : decode cJ6_bitCount_0f7a4 36 = .ok (.bipush 8, 2) := by decide +kernel
theorem dJ6_bitCount_0f7a4_38 : decode cJ6_bitCount_0f7a4 38 = .ok (.iushr, 1) := by decide +kernel
theorem dJ6_bitCount_0f7a4_39 : decode cJ6_bitCount_0f7a4 39 = .ok (.iadd, 1) := by decide +kernel
theorem dJ6_bitCount_0f7a4_40 : decode cJ6_bitCount_0f7a4 40 = .ok (.istore_n 0, 1) := by decide +kernel
theorem dJ6_bitCount_0f7a4_41 : decode cJ6_bitCount_0f7a4 41 = .ok (.iload_n 0, 1) := by decide +kernel
theorem dJ6_bitCount_0f7a4_42 : decode cJ6_bitCount_0f7a4 42 = .ok (.iload_n 0, 1) := by decide +kernel
theorem dJ6_bitCount_0f7a4_43 : decode cJ6_bitCount_0f7a4 43 = .ok (.bipush 16, 2) := by decide +kernel
theorem dJ6_bitCount_0f7a4_45 : decode cJ6_bitCount_0f7a4 45 = .ok (.iushr, 1) := by decide +kernel
theorem dJ6_bitCount_0f7a4_46 : decode cJ6_bitCount_0f7a4 46 = .ok (.iadd, 1) := by decide +kernel
theorem dJ6_bitCount_0f7a4_47 : decode cJ6_bitCount_0f7a4 47 = .ok (.istore_n 0, 1) := by decide +kernel
theorem dJ6_bitCount_0f7a4_48 : decode cJ6_bitCount_0f7a4 48 = .ok (.iload_n 0, 1) := by decide +kernel
theorem dJ6_bitCount_0f7a4_49 : decode cJ6_bitCount_0f7a4 49 = .ok (.bipush 63, 2) := by decide +kernel
theorem dJ6_bitCount_0f7a4_51 : decode cJ6_bitCount_0f7a4 51 = .ok (.iand, 1) := by decide +kernel
theorem dJ6_bitCount_0f7a4_52 : decode cJ6_bitCount_0f7a4 52 = .ok (.ireturn, 1) := by decide +kernel
theorem dX1_believeOne_0 : decode cX1_believeOne 0 = .ok (.iconst 0, 1) := by decide +kernel
theorem dX1_believeOne_1 : decode cX1_believeOne 1 = .ok (.istore_n 2, 1) := by decide +kernel
theorem dX1_believeOne_2 : decode cX1_believeOne 2 = .ok (.iconst 0, 1) := by decide +kernel
theorem dX1_believeOne_3 : decode cX1_believeOne 3 = .ok (.istore_n 3, 1) := by decide +kernel
theorem dX1_believeOne_4 : decode cX1_believeOne 4 = .ok (.iload_n 3, 1) := by decide +kernel
theorem dX1_believeOne_5 : decode cX1_believeOne 5 = .ok (.aload_n 0, 1) := by decide +kernel
theorem dX1_believeOne_6 : decode cX1_believeOne 6 = .ok (.getfield 68, 3) := by decide +kernel
theorem dX1_believeOne_9 : decode cX1_believeOne 9 = .ok (.if_icmp .ge 72, 3) := by decide +kernel
theorem dX1_believeOne_12 : decode cX1_believeOne 12 = .ok (.aload_n 0, 1) := by decide +kernel
theorem dX1_believeOne_13 : decode cX1_believeOne 13 = .ok (.getfield 32, 3) := by decide +kernel
theorem dX1_believeOne_16 : decode cX1_believeOne 16 = .ok (.iload_n 3, 1) := by decide +kernel
theorem dX1_believeOne_17 : decode cX1_believeOne 17 = .ok (.aaload, 1) := by decide +kernel
theorem dX1_believeOne_18 : decode cX1_believeOne 18 = .ok (.getfield 112, 3) := by decide +kernel
theorem dX1_believeOne_21 : decode cX1_believeOne 21 = .ok (.ifCond .eq 17, 3) := by decide +kernel
theorem dX1_believeOne_24 : decode cX1_believeOne 24 = .ok (.aload_n 1, 1) := by decide +kernel
theorem dX1_believeOne_25 : decode cX1_believeOne 25 = .ok (.getfield 116, 3) := by decide +kernel
theorem dX1_believeOne_28 : decode cX1_believeOne 28 = .ok (.iload_n 3, 1) := by decide +kernel
theorem dX1_believeOne_29 : decode cX1_believeOne 29 = .ok (.iaload, 1) := by decide +kernel
theorem dX1_believeOne_30 : decode cX1_believeOne 30 = .ok (.iconst (-1), 1) := by decide +kernel
theorem dX1_believeOne_31 : decode cX1_believeOne 31 = .ok (.if_icmp .ne 7, 3) := by decide +kernel
theorem dX1_believeOne_34 : decode cX1_believeOne 34 = .ok (.iconst 1, 1) := by decide +kernel
theorem dX1_believeOne_35 : decode cX1_believeOne 35 = .ok (.goto 4, 3) := by decide +kernel
theorem dX1_believeOne_38 : decode cX1_believeOne 38 = .ok (.iconst 0, 1) := by decide +kernel
theorem dX1_believeOne_39 : decode cX1_believeOne 39 = .ok (.istore 4, 2) := by decide +kernel
theorem dX1_believeOne_41 : decode cX1_believeOne 41 = .ok (.iload 4, 2) := by decide +kernel
theorem dX1_believeOne_43 : decode cX1_believeOne 43 = .ok (.ifCond .eq 32, 3) := by decide +kernel
theorem dX1_believeOne_46 : decode cX1_believeOne 46 = .ok (.aload_n 1, 1) := by decide +kernel
theorem dX1_believeOne_47 : decode cX1_believeOne 47 = .ok (.getfield 212, 3) := by decide +kernel
theorem dX1_believeOne_50 : decode cX1_believeOne 50 = .ok (.iload_n 3, 1) := by decide +kernel
theorem dX1_believeOne_51 : decode cX1_believeOne 51 = .ok (.iaload, 1) := by decide +kernel
theorem dX1_believeOne_52 : decode cX1_believeOne 52 = .ok (.invokestatic 137, 3) := by decide +kernel
theorem dX1_believeOne_55 : decode cX1_believeOne 55 = .ok (.aload_n 1, 1) := by decide +kernel
theorem dX1_believeOne_56 : decode cX1_believeOne 56 = .ok (.invokevirtual 245, 3) := by decide +kernel
theorem dX1_believeOne_59 : decode cX1_believeOne 59 = .ok (.if_icmp .lt 16, 3) := by decide +kernel
theorem dX1_believeOne_62 : decode cX1_believeOne 62 = .ok (.aload_n 1, 1) := by decide +kernel
theorem dX1_believeOne_63 : decode cX1_believeOne 63 = .ok (.getfield 116, 3) := by decide +kernel
theorem dX1_believeOne_66 : decode cX1_believeOne 66 = .ok (.iload_n 3, 1) := by decide +kernel
theorem dX1_believeOne_67 : decode cX1_believeOne 67 = .ok (.aload_n 0, 1) := by decide +kernel
theorem dX1_believeOne_68 : decode cX1_believeOne 68 = .ok (.getfield 56, 3) := by decide +kernel
theorem dX1_believeOne_71 : decode cX1_believeOne 71 = .ok (.iastore, 1) := by decide +kernel
theorem dX1_believeOne_72 : decode cX1_believeOne 72 = .ok (.iinc 2 1, 3) := by decide +kernel
theorem dX1_believeOne_75 : decode cX1_believeOne 75 = .ok (.iinc 3 1, 3) := by decide +kernel
theorem dX1_believeOne_78 : decode cX1_believeOne 78 = .ok (.goto (-74), 3) := by decide +kernel
theorem dX1_believeOne_81 : decode cX1_believeOne 81 = .ok (.iload_n 2, 1) := by decide +kernel
theorem dX1_believeOne_82 : decode cX1_believeOne 82 = .ok (.ireturn, 1) := by decide +kernel
theorem dX1_believeAll_0 : decode cX1_believeAll 0 = .ok (.iconst 0, 1) := by decide +kernel
theorem dX1_believeAll_1 : decode cX1_believeAll 1 = .ok (.istore_n 1, 1) := by decide +kernel
theorem dX1_believeAll_2 : decode cX1_believeAll 2 = .ok (.iconst 0, 1) := by decide +kernel
theorem dX1_believeAll_3 : decode cX1_believeAll 3 = .ok (.istore_n 2, 1) := by decide +kernel
theorem dX1_believeAll_4 : decode cX1_believeAll 4 = .ok (.iload_n 2, 1) := by decide +kernel
theorem dX1_believeAll_5 : decode cX1_believeAll 5 = .ok (.aload_n 0, 1) := by decide +kernel
theorem dX1_believeAll_6 : decode cX1_believeAll 6 = .ok (.getfield 62, 3) := by decide +kernel
theorem dX1_believeAll_9 : decode cX1_believeAll 9 = .ok (.if_icmp .ge 34, 3) := by decide +kernel
theorem dX1_believeAll_12 : decode cX1_believeAll 12 = .ok (.aload_n 0, 1) := by decide +kernel
theorem dX1_believeAll_13 : decode cX1_believeAll 13 = .ok (.getfield 20, 3) := by decide +kernel
theorem dX1_believeAll_16 : decode cX1_believeAll 16 = .ok (.iload_n 2, 1) := by decide +kernel
theorem dX1_believeAll_17 : decode cX1_believeAll 17 = .ok (.aaload, 1) := by decide +kernel
theorem dX1_believeAll_18 : decode cX1_believeAll 18 = .ok (.invokevirtual 97, 3) := by decide +kernel
theorem dX1_believeAll_21 : decode cX1_believeAll 21 = .ok (.ifCond .ne 16, 3) := by decide +kernel
theorem dX1_believeAll_24 : decode cX1_believeAll 24 = .ok (.iload_n 1, 1) := by decide +kernel
theorem dX1_believeAll_25 : decode cX1_believeAll 25 = .ok (.aload_n 0, 1) := by decide +kernel
theorem dX1_believeAll_26 : decode cX1_believeAll 26 = .ok (.aload_n 0, 1) := by decide +kernel
theorem dX1_believeAll_27 : decode cX1_believeAll 27 = .ok (.getfield 20, 3) := by decide +kernel
theorem dX1_believeAll_30 : decode cX1_believeAll 30 = .ok (.iload_n 2, 1) := by decide +kernel
theorem dX1_believeAll_31 : decode cX1_believeAll 31 = .ok (.aaload, 1) := by decide +kernel
theorem dX1_believeAll_32 : decode cX1_believeAll 32 = .ok (.invokevirtual 242, 3) := by decide +kernel
theorem dX1_believeAll_35 : decode cX1_believeAll 35 = .ok (.iadd, 1) := by decide +kernel
theorem dX1_believeAll_36 : decode cX1_believeAll 36 = .ok (.istore_n 1, 1) := by decide +kernel
theorem dX1_believeAll_37 : decode cX1_believeAll 37 = .ok (.iinc 2 1, 3) := by decide +kernel
theorem dX1_believeAll_40 : decode cX1_believeAll 40 = .ok (.goto (-36), 3) := by decide +kernel
theorem dX1_believeAll_43 : decode cX1_believeAll 43 = .ok (.iload_n 1, 1) := by decide +kernel
theorem dX1_believeAll_44 : decode cX1_believeAll 44 = .ok (.ireturn, 1) := by decide +kernel
theorem dX1_goOne_0 : decode cX1_goOne 0 = .ok (.aload_n 0, 1) := by decide +kernel
theorem dX1_goOne_1 : decode cX1_goOne 1 = .ok (.aload_n 1, 1) := by decide +kernel
theorem dX1_goOne_2 : decode cX1_goOne 2 = .ok (.invokevirtual 254, 3) := by decide +kernel
theorem dX1_goOne_5 : decode cX1_goOne 5 = .ok (.istore_n 2, 1) := by decide +kernel
theorem dX1_goOne_6 : decode cX1_goOne 6 = .ok (.iload_n 2, 1) := by decide +kernel
theorem dX1_goOne_7 : decode cX1_goOne 7 = .ok (.ifCond .lt 11, 3) := by decide +kernel
theorem dX1_goOne_10 : decode cX1_goOne 10 = .ok (.iload_n 2, 1) := by decide +kernel
theorem dX1_goOne_11 : decode cX1_goOne 11 = .ok (.aload_n 0, 1) := by decide +kernel
theorem dX1_goOne_12 : decode cX1_goOne 12 = .ok (.getfield 65, 3) := by decide +kernel
theorem dX1_goOne_15 : decode cX1_goOne 15 = .ok (.if_icmp .lt 4, 3) := by decide +kernel
theorem dX1_goOne_18 : decode cX1_goOne 18 = .ok (.return_, 1) := by decide +kernel
theorem dX1_goOne_19 : decode cX1_goOne 19 = .ok (.aload_n 0, 1) := by decide +kernel
theorem dX1_goOne_20 : decode cX1_goOne 20 = .ok (.getfield 26, 3) := by decide +kernel
theorem dX1_goOne_23 : decode cX1_goOne 23 = .ok (.iload_n 2, 1) := by decide +kernel
theorem dX1_goOne_24 : decode cX1_goOne 24 = .ok (.aaload, 1) := by decide +kernel
theorem dX1_goOne_25 : decode cX1_goOne 25 = .ok (.getfield 75, 3) := by decide +kernel
theorem dX1_goOne_28 : decode cX1_goOne 28 = .ok (.aload_n 1, 1) := by decide +kernel
theorem dX1_goOne_29 : decode cX1_goOne 29 = .ok (.getfield 129, 3) := by decide +kernel
theorem dX1_goOne_32 : decode cX1_goOne 32 = .ok (.if_icmp .ne 29, 3) := by decide +kernel
theorem dX1_goOne_35 : decode cX1_goOne 35 = .ok (.aload_n 0, 1) := by decide +kernel
theorem dX1_goOne_36 : decode cX1_goOne 36 = .ok (.getfield 26, 3) := by decide +kernel
theorem dX1_goOne_39 : decode cX1_goOne 39 = .ok (.iload_n 2, 1) := by decide +kernel
theorem dX1_goOne_40 : decode cX1_goOne 40 = .ok (.aaload, 1) := by decide +kernel
theorem dX1_goOne_41 : decode cX1_goOne 41 = .ok (.dup, 1) := by decide +kernel
theorem dX1_goOne_42 : decode cX1_goOne 42 = .ok (.getfield 78, 3) := by decide +kernel
theorem dX1_goOne_45 : decode cX1_goOne 45 = .ok (.aload_n 1, 1) := by decide +kernel
theorem dX1_goOne_46 : decode cX1_goOne 46 = .ok (.getfield 123, 3) := by decide +kernel
theorem dX1_goOne_49 : decode cX1_goOne 49 = .ok (.isub, 1) := by decide +kernel
theorem dX1_goOne_50 : decode cX1_goOne 50 = .ok (.putfield 78, 3) := by decide +kernel
theorem dX1_goOne_53 : decode cX1_goOne 53 = .ok (.aload_n 1, 1) := by decide +kernel
theorem dX1_goOne_54 : decode cX1_goOne 54 = .ok (.iload_n 2, 1) := by decide +kernel
theorem dX1_goOne_55 : decode cX1_goOne 55 = .ok (.putfield 185, 3) := by decide +kernel
theorem dX1_goOne_58 : decode cX1_goOne 58 = .ok (.goto 23, 3) := by decide +kernel
theorem dX1_goOne_61 : decode cX1_goOne 61 = .ok (.aload_n 1, 1) := by decide +kernel
theorem dX1_goOne_62 : decode cX1_goOne 62 = .ok (.aload_n 1, 1) := by decide +kernel
theorem dX1_goOne_63 : decode cX1_goOne 63 = .ok (.getfield 129, 3) := by decide +kernel
theorem dX1_goOne_66 : decode cX1_goOne 66 = .ok (.aload_n 0, 1) := by decide +kernel
theorem dX1_goOne_67 : decode cX1_goOne 67 = .ok (.getfield 26, 3) := by decide +kernel
theorem dX1_goOne_70 : decode cX1_goOne 70 = .ok (.iload_n 2, 1) := by decide +kernel
theorem dX1_goOne_71 : decode cX1_goOne 71 = .ok (.aaload, 1) := by decide +kernel
theorem dX1_goOne_72 : decode cX1_goOne 72 = .ok (.getfield 75, 3) := by decide +kernel
theorem dX1_goOne_75 : decode cX1_goOne 75 = .ok (.invokestatic 257, 3) := by decide +kernel
theorem dX1_goOne_78 : decode cX1_goOne 78 = .ok (.putfield 129, 3) := by decide +kernel
theorem dX1_goOne_81 : decode cX1_goOne 81 = .ok (.return_, 1) := by decide +kernel
theorem dX1_goAll_0 : decode cX1_goAll 0 = .ok (.iconst 0, 1) := by decide +kernel
theorem dX1_goAll_1 : decode cX1_goAll 1 = .ok (.istore_n 1, 1) := by decide +kernel
theorem dX1_goAll_2 : decode cX1_goAll 2 = .ok (.iload_n 1, 1) := by decide +kernel
theorem dX1_goAll_3 : decode cX1_goAll 3 = .ok (.aload_n 0, 1) := by decide +kernel
theorem dX1_goAll_4 : decode cX1_goAll 4 = .ok (.getfield 62, 3) := by decide +kernel
theorem dX1_goAll_7 : decode cX1_goAll 7 = .ok (.if_icmp .ge 70, 3) := by decide +kernel
theorem dX1_goAll_10 : decode cX1_goAll 10 = .ok (.aload_n 0, 1) := by decide +kernel
theorem dX1_goAll_11 : decode cX1_goAll 11 = .ok (.getfield 20, 3) := by decide +kernel
theorem dX1_goAll_14 : decode cX1_goAll 14 = .ok (.iload_n 1, 1) := by decide +kernel
theorem dX1_goAll_15 : decode cX1_goAll 15 = .ok (.aaload, 1) := by decide +kernel
theorem dX1_goAll_16 : decode cX1_goAll 16 = .ok (.astore_n 2, 1) := by decide +kernel
theorem dX1_goAll_17 : decode cX1_goAll 17 = .ok (.aload_n 2, 1) := by decide +kernel
theorem dX1_goAll_18 : decode cX1_goAll 18 = .ok (.invokevirtual 97, 3) := by decide +kernel
theorem dX1_goAll_21 : decode cX1_goAll 21 = .ok (.ifCond .ne 10, 3) := by decide +kernel
theorem dX1_goAll_24 : decode cX1_goAll 24 = .ok (.aload_n 2, 1) := by decide +kernel
theorem dX1_goAll_25 : decode cX1_goAll 25 = .ok (.invokevirtual 126, 3) := by decide +kernel
theorem dX1_goAll_28 : decode cX1_goAll 28 = .ok (.ifCond .eq 7, 3) := by decide +kernel
theorem dX1_goAll_31 : decode cX1_goAll 31 = .ok (.iconst (-1), 1) := by decide +kernel
theorem dX1_goAll_32 : decode cX1_goAll 32 = .ok (.goto 8, 3) := by decide +kernel
theorem dX1_goAll_35 : decode cX1_goAll 35 = .ok (.aload_n 0, 1) := by decide +kernel
theorem dX1_goAll_36 : decode cX1_goAll 36 = .ok (.aload_n 2, 1) := by decide +kernel
theorem dX1_goAll_37 : decode cX1_goAll 37 = .ok (.invokevirtual 104, 3) := by decide +kernel
theorem dX1_goAll_40 : decode cX1_goAll 40 = .ok (.istore_n 3, 1) := by decide +kernel
theorem dX1_goAll_41 : decode cX1_goAll 41 = .ok (.iload_n 3, 1) := by decide +kernel
theorem dX1_goAll_42 : decode cX1_goAll 42 = .ok (.ifCond .lt 29, 3) := by decide +kernel
theorem dX1_goAll_45 : decode cX1_goAll 45 = .ok (.iload_n 3, 1) := by decide +kernel
theorem dX1_goAll_46 : decode cX1_goAll 46 = .ok (.aload_n 0, 1) := by decide +kernel
theorem dX1_goAll_47 : decode cX1_goAll 47 = .ok (.getfield 68, 3) := by decide +kernel
theorem dX1_goAll_50 : decode cX1_goAll 50 = .ok (.if_icmp .ge 21, 3) := by decide +kernel
theorem dX1_goAll_53 : decode cX1_goAll 53 = .ok (.aload_n 0, 1) := by decide +kernel
theorem dX1_goAll_54 : decode cX1_goAll 54 = .ok (.getfield 32, 3) := by decide +kernel
theorem dX1_goAll_57 : decode cX1_goAll 57 = .ok (.iload_n 3, 1) := by decide +kernel
theorem dX1_goAll_58 : decode cX1_goAll 58 = .ok (.aaload, 1) := by decide +kernel
theorem dX1_goAll_59 : decode cX1_goAll 59 = .ok (.getfield 248, 3) := by decide +kernel
theorem dX1_goAll_62 : decode cX1_goAll 62 = .ok (.iconst 1, 1) := by decide +kernel
theorem dX1_goAll_63 : decode cX1_goAll 63 = .ok (.if_icmp .ne 8, 3) := by decide +kernel
theorem dX1_goAll_66 : decode cX1_goAll 66 = .ok (.aload_n 0, 1) := by decide +kernel
theorem dX1_goAll_67 : decode cX1_goAll 67 = .ok (.aload_n 2, 1) := by decide +kernel
theorem dX1_goAll_68 : decode cX1_goAll 68 = .ok (.invokevirtual 251, 3) := by decide +kernel
theorem dX1_goAll_71 : decode cX1_goAll 71 = .ok (.iinc 1 1, 3) := by decide +kernel
theorem dX1_goAll_74 : decode cX1_goAll 74 = .ok (.goto (-72), 3) := by decide +kernel
theorem dX1_goAll_77 : decode cX1_goAll 77 = .ok (.return_, 1) := by decide +kernel
/-! believing, going, a minute -/
theorem vs_iushr {tb : List Cond} {nw : List (String × Nat × MethodName × String)} {shp : vgN → vgH} {nm : List vgN} {cl : List vw_C} {tyl : List FieldType} {cc : ByteArray} {nL : Nat} {own : String} {ret : Option FieldType} {d pc n : Nat} (hd : decode cc pc = .ok (.iushr, 1)) (hn : pc + 1 = n) : vg_Snd tb nw shp nm cl tyl cc nL own ret d pc (vi_bin (fun x y => (x.toUInt32 >>> (y.toUInt32 &&& Int32.toUInt32 31)).toInt32) n) := by
  subst hn
  refine ⟨vs_m1 fun K K' h lv st σ g => ?_, ?_⟩
  · split at g
    · exact h _ _ _ _ g
    · exact g
  intro p l e R s m args below meth c D tys ad A P C0 lv st σ h H locs ls hl ho hs hP hS
  unfold vi_bin at h
  split at h
  next y x t => exact lv_iushr C0.1 C0.2.1 hd rfl (h H locs ls hl ho (vg_okc trivial (vg_okt (vg_okt hs))) hP hS)
  next => exact h.elim
abbrev jSr (x y : Int32) : Int32 := (x.toUInt32 >>> (y.toUInt32 &&& Int32.toUInt32 31)).toInt32
def jB1 (x : Int32) : Int32 := x - (jSr x 1 &&& 1431655765)
def jB2 (x : Int32) : Int32 := (x &&& 858993459) + (jSr x 2 &&& 858993459)
def jB3 (x : Int32) : Int32 := (x + jSr x 4) &&& 252645135
def jB4 (x : Int32) : Int32 := x + jSr x 8
def jB5 (x : Int32) : Int32 := x + jSr x 16
/-- how many bits a number has -/
def jBits (x : Int32) : Int32 := jB5 (jB4 (jB3 (jB2 (jB1 x)))) &&& 63
def sp_J6_bitCount_0f7a4 : vgC := fun av σ => match av with
  | [.inl (.int x)] => (True, some (.inl (.int (jBits x))), σ)
  | _ => (False, none, σ)
def k_J6_bitCount_0f7a4 : List (Nat × vgF) := [(0, vi_iload 0 1), (1, vi_iload 0 2), (2, vi_icst (1) 3), (3, vi_bin (fun x y => (x.toUInt32 >>> (y.toUInt32 &&& Int32.toUInt32 31)).toInt32) 4), (4, vi_icst (1431655765) 7), (7, vi_bin (fun x y => x &&& y) 8), (8, vi_bin (fun x y => x - y) 9), (9, vi_istore 0 10), (10, vi_iload 0 11), (11, vi_icst (858993459) 14), (14, vi_bin (fun x y => x &&& y) 15), (15, vi_iload 0 16), (16, vi_icst (2) 17), (17, vi_bin (fun x y => (x.toUInt32 >>> (y.toUInt32 &&& Int32.toUInt32 31)).toInt32) 18), (18, vi_icst (858993459) 21), (21, vi_bin (fun x y => x &&& y) 22), (22, vi_bin (fun x y => x + y) 23), (23, vi_istore 0 24), (24, vi_iload 0 25), (25, vi_iload 0 26), (26, vi_icst (4) 27), (27, vi_bin (fun x y => (x.toUInt32 >>> (y.toUInt32 &&& Int32.toUInt32 31)).toInt32) 28), (28, vi_bin (fun x y => x + y) 29), (29, vi_icst (252645135) 32), (32, vi_bin (fun x y => x &&& y) 33), (33, vi_istore 0 34), (34, vi_iload 0 35), (35, vi_iload 0 36), (36, vi_icst (8) 38), (38, vi_bin (fun x y => (x.toUInt32 >>> (y.toUInt32 &&& Int32.toUInt32 31)).toInt32) 39), (39, vi_bin (fun x y => x + y) 40), (40, vi_istore 0 41), (41, vi_iload 0 42), (42, vi_iload 0 43), (43, vi_icst (16) 45), (45, vi_bin (fun x y => (x.toUInt32 >>> (y.toUInt32 &&& Int32.toUInt32 31)).toInt32) 46), (46, vi_bin (fun x y => x + y) 47), (47, vi_istore 0 48), (48, vi_iload 0 49), (49, vi_icst (63) 51), (51, vi_bin (fun x y => x &&& y) 52), (52, vi_ret)]
set_option maxRecDepth 20000 in
theorem s_J6_bitCount_0f7a4 : ∀ q ∈ k_J6_bitCount_0f7a4, vg_Snd ww_tb ww_nw ww_shp ww_nm ww_cl ww_tyl cJ6_bitCount_0f7a4 1 RJ6 (some .int) 0 q.1 q.2 := by
  refine vg_cons (vs_iload_n dJ6_bitCount_0f7a4_0 rfl rfl) ?_
  refine vg_cons (vs_iload_n dJ6_bitCount_0f7a4_1 rfl rfl) ?_
  refine vg_cons (vs_iconst dJ6_bitCount_0f7a4_2 rfl rfl) ?_
  refine vg_cons (vs_iushr dJ6_bitCount_0f7a4_3 rfl) ?_
  refine vg_cons (vs_ldcw dJ6_bitCount_0f7a4_4 q_105 rfl) ?_
  refine vg_cons (vs_iand dJ6_bitCount_0f7a4_7 rfl) ?_
  refine vg_cons (vs_isub dJ6_bitCount_0f7a4_8 rfl) ?_
  refine vg_cons (vs_istore_n dJ6_bitCount_0f7a4_9 rfl (by decide) rfl) ?_
  refine vg_cons (vs_iload_n dJ6_bitCount_0f7a4_10 rfl rfl) ?_
  refine vg_cons (vs_ldcw dJ6_bitCount_0f7a4_11 q_106 rfl) ?_
  refine vg_cons (vs_iand dJ6_bitCount_0f7a4_14 rfl) ?_
  refine vg_cons (vs_iload_n dJ6_bitCount_0f7a4_15 rfl rfl) ?_
  refine vg_cons (vs_iconst dJ6_bitCount_0f7a4_16 rfl rfl) ?_
  refine vg_cons (vs_iushr dJ6_bitCount_0f7a4_17 rfl) ?_
  refine vg_cons (vs_ldcw dJ6_bitCount_0f7a4_18 q_106 rfl) ?_
  refine vg_cons (vs_iand dJ6_bitCount_0f7a4_21 rfl) ?_
  refine vg_cons (vs_iadd dJ6_bitCount_0f7a4_22 rfl) ?_
  refine vg_cons (vs_istore_n dJ6_bitCount_0f7a4_23 rfl (by decide) rfl) ?_
  refine vg_cons (vs_iload_n dJ6_bitCount_0f7a4_24 rfl rfl) ?_
  refine vg_cons (vs_iload_n dJ6_bitCount_0f7a4_25 rfl rfl) ?_
  refine vg_cons (vs_iconst dJ6_bitCount_0f7a4_26 rfl rfl) ?_
  refine vg_cons (vs_iushr dJ6_bitCount_0f7a4_27 rfl) ?_
  refine vg_cons (vs_iadd dJ6_bitCount_0f7a4_28 rfl) ?_
  refine vg_cons (vs_ldcw dJ6_bitCount_0f7a4_29 q_107 rfl) ?_
  refine vg_cons (vs_iand dJ6_bitCount_0f7a4_32 rfl) ?_
  refine vg_cons (vs_istore_n dJ6_bitCount_0f7a4_33 rfl (by decide) rfl) ?_
  refine vg_cons (vs_iload_n dJ6_bitCount_0f7a4_34 rfl rfl) ?_
  refine vg_cons (vs_iload_n dJ6_bitCount_0f7a4_35 rfl rfl) ?_
  refine vg_cons (vs_bipush dJ6_bitCount_0f7a4_36 (by decide) rfl) ?_
  refine vg_cons (vs_iushr dJ6_bitCount_0f7a4_38 rfl) ?_
  refine vg_cons (vs_iadd dJ6_bitCount_0f7a4_39 rfl) ?_
  refine vg_cons (vs_istore_n dJ6_bitCount_0f7a4_40 rfl (by decide) rfl) ?_
  refine vg_cons (vs_iload_n dJ6_bitCount_0f7a4_41 rfl rfl) ?_
  refine vg_cons (vs_iload_n dJ6_bitCount_0f7a4_42 rfl rfl) ?_
  refine vg_cons (vs_bipush dJ6_bitCount_0f7a4_43 (by decide) rfl) ?_
  refine vg_cons (vs_iushr dJ6_bitCount_0f7a4_45 rfl) ?_
  refine vg_cons (vs_iadd dJ6_bitCount_0f7a4_46 rfl) ?_
  refine vg_cons (vs_istore_n dJ6_bitCount_0f7a4_47 rfl (by decide) rfl) ?_
  refine vg_cons (vs_iload_n dJ6_bitCount_0f7a4_48 rfl rfl) ?_
  refine vg_cons (vs_bipush dJ6_bitCount_0f7a4_49 (by decide) rfl) ?_
  refine vg_cons (vs_iand dJ6_bitCount_0f7a4_51 rfl) ?_
  refine vg_cons (vs_ireturn dJ6_bitCount_0f7a4_52 rfl) ?_
  exact fun _ h => absurd h List.not_mem_nil
theorem m_J6_bitCount_0f7a4 : vg_Code k_J6_bitCount_0f7a4 := fun q h => (s_J6_bitCount_0f7a4 q h).1

theorem w_J6_bitCount_0f7a4 : vg_Wd sp_J6_bitCount_0f7a4 1 := by
  intro av σ h
  unfold sp_J6_bitCount_0f7a4 at h
  split at h
  · exact Nat.le_of_ble_eq_true rfl
  · exact h.elim
theorem g_J6_bitCount_0f7a4 : vg_G k_J6_bitCount_0f7a4 sp_J6_bitCount_0f7a4 := by
  intro av σ h
  unfold sp_J6_bitCount_0f7a4 at h ⊢
  split at h
  next x =>
    refine vg_run (cuts := []) m_J6_bitCount_0f7a4 60 ?_
    exact And.intro rfl rfl
  next => exact h.elim
theorem c_J6_bitCount_0f7a4 : vg_MetF ww_tb ww_nw ww_shp ww_nm ww_cl ww_tyl yJ6_bitCount_0f7a4 cJ6_bitCount_0f7a4 1 (some .int) 0 sp_J6_bitCount_0f7a4 := vg_met ww_closed (by decide +kernel) rfl s_J6_bitCount_0f7a4 w_J6_bitCount_0f7a4 g_J6_bitCount_0f7a4
/-- one group comes to believe one warning -/
def jBel1 (g w : Nat) (q : jN × Int32) : jN × Int32 := if q.1 11 w 7 = 0 then q else if q.1 18 g w = -1 then (if jBits (q.1 14 g w) < jNeed (q.1 9 g 3) then q else (jUp q.1 18 g w (q.1 1 0 0), q.2 + 1)) else q
def jBelOne (g : Nat) (v : jN) : jN × Int32 := jIt (jBel1 g) (jWc v) (v, 0)
theorem jBel1_keep (g w : Nat) (q : jN × Int32) : jKeep q.1 (jBel1 g w q).1 := by
  unfold jBel1
  split
  · exact jKeep.rf
  · split
    · split
      · exact jKeep.rf
      · exact jKeep.rf.up (by omega)
    · exact jKeep.rf
theorem jBelOne_keep (g : Nat) (v : jN) : jKeep v (jBelOne g v).1 := jIt2_keep (jBel1_keep g) (v, 0) _
def sp_X1_believeOne : vgC := fun av σ => match av with
  | [.inr (1, b, 0), .inr (9, b', g)] => (jWf (jV σ b) ∧ b' = b, some (.inl (.int ((jBelOne g (jV σ b)).2))), jPut σ b (jBelOne g (jV σ b)).1)
  | _ => (False, none, σ)
def k_X1_believeOne : List (Nat × vgF) := [(0, vi_icst (0) 1), (1, vi_istore 2 2), (2, vi_icst (0) 3), (3, vi_istore 3 4), (4, vi_iload 3 5), (5, vi_aload 0 6), (6, vi_get ww_shp 1 6 9), (9, vi_cmp (fun x y => y ≤ x) 81 12), (12, vi_aload 0 13), (13, vi_get ww_shp 1 9 16), (16, vi_iload 3 17), (17, vi_aald ww_shp 4 18), (18, vi_get ww_shp 4 7 21), (21, vi_if (fun x => x = 0) 38 24), (24, vi_aload 1 25), (25, vi_get ww_shp 5 12 28), (28, vi_iload 3 29), (29, vi_ald ww_shp 0 30), (30, vi_icst (-1) 31), (31, vi_cmp (fun x y => x = y) 34 38), (34, vi_icst (1) 35), (35, vi_goto 39), (38, vi_icst (0) 39), (39, vi_istore 4 41), (41, vi_iload 4 43), (43, vi_if (fun x => x = 0) 75 46), (46, vi_aload 1 47), (47, vi_get ww_shp 5 8 50), (50, vi_iload 3 51), (51, vi_ald ww_shp 0 52), (52, vi_callS sp_J6_bitCount_0f7a4 1 55), (55, vi_aload 1 56), (56, vi_callV ww_shp 5 sp_X0_waysNeeded 0 59), (59, vi_cmp (fun x y => x < y) 75 62), (62, vi_aload 1 63), (63, vi_get ww_shp 5 12 66), (66, vi_iload 3 67), (67, vi_aload 0 68), (68, vi_get ww_shp 1 0 71), (71, vi_ast ww_shp 0 72), (72, vi_iinc 2 (1) 75), (75, vi_iinc 3 (1) 78), (78, vi_goto 4), (81, vi_iload 2 82), (82, vi_ret)]
set_option maxRecDepth 20000 in
theorem s_X1_believeOne : ∀ q ∈ k_X1_believeOne, vg_Snd ww_tb ww_nw ww_shp ww_nm ww_cl ww_tyl cX1_believeOne 5 RX1 (some .int) 2 q.1 q.2 := by
  refine vg_cons (vs_iconst dX1_believeOne_0 rfl rfl) ?_
  refine vg_cons (vs_istore_n dX1_believeOne_1 rfl (by decide) rfl) ?_
  refine vg_cons (vs_iconst dX1_believeOne_2 rfl rfl) ?_
  refine vg_cons (vs_istore_n dX1_believeOne_3 rfl (by decide) rfl) ?_
  refine vg_cons (vs_iload_n dX1_believeOne_4 rfl rfl) ?_
  refine vg_cons (vs_aload_n dX1_believeOne_5 rfl rfl) ?_
  refine vg_cons (vs_getfield (T := TX1) dX1_believeOne_6 rfl (by decide) ww_inX1 q_16 rfl) ?_
  refine vg_cons (vs_cmp_ge dX1_believeOne_9 (by decide) rfl) ?_
  refine vg_cons (vs_aload_n dX1_believeOne_12 rfl rfl) ?_
  refine vg_cons (vs_getfield (T := TX1) dX1_believeOne_13 rfl (by decide) ww_inX1 q_17 rfl) ?_
  refine vg_cons (vs_iload_n dX1_believeOne_16 rfl rfl) ?_
  refine vg_cons (vs_aaload dX1_believeOne_17 rfl rfl) ?_
  refine vg_cons (vs_getfield (T := TX4) dX1_believeOne_18 rfl (by decide) ww_inX4 q_18 rfl) ?_
  refine vg_cons (vs_if_eq dX1_believeOne_21 (by decide) rfl) ?_
  refine vg_cons (vs_aload_n dX1_believeOne_24 rfl rfl) ?_
  refine vg_cons (vs_getfield (T := TX0) dX1_believeOne_25 rfl (by decide) ww_inX0 q_19 rfl) ?_
  refine vg_cons (vs_iload_n dX1_believeOne_28 rfl rfl) ?_
  refine vg_cons (vs_iaload dX1_believeOne_29 rfl rfl) ?_
  refine vg_cons (vs_iconst dX1_believeOne_30 rfl rfl) ?_
  refine vg_cons (vs_cmp_ne dX1_believeOne_31 (by decide) rfl) ?_
  refine vg_cons (vs_iconst dX1_believeOne_34 rfl rfl) ?_
  refine vg_cons (vs_goto dX1_believeOne_35 (by decide)) ?_
  refine vg_cons (vs_iconst dX1_believeOne_38 rfl rfl) ?_
  refine vg_cons (vs_istore dX1_believeOne_39 (by decide) rfl) ?_
  refine vg_cons (vs_iload dX1_believeOne_41 rfl) ?_
  refine vg_cons (vs_if_eq dX1_believeOne_43 (by decide) rfl) ?_
  refine vg_cons (vs_aload_n dX1_believeOne_46 rfl rfl) ?_
  refine vg_cons (vs_getfield (T := TX0) dX1_believeOne_47 rfl (by decide) ww_inX0 q_56 rfl) ?_
  refine vg_cons (vs_iload_n dX1_believeOne_50 rfl rfl) ?_
  refine vg_cons (vs_iaload dX1_believeOne_51 rfl rfl) ?_
  refine vg_cons (vs_callS c_J6_bitCount_0f7a4 dX1_believeOne_52 ww_good q_108 q_109 q_111 q_110 (by decide +kernel) (by decide) rfl) ?_
  refine vg_cons (vs_aload_n dX1_believeOne_55 rfl rfl) ?_
  refine vg_cons (vs_callV (T := TX0) c_X0_waysNeeded dX1_believeOne_56 rfl ww_good q_112 q_21 q_113 q_114 q_115 (by decide +kernel) (by decide) rfl) ?_
  refine vg_cons (vs_cmp_lt dX1_believeOne_59 (by decide) rfl) ?_
  refine vg_cons (vs_aload_n dX1_believeOne_62 rfl rfl) ?_
  refine vg_cons (vs_getfield (T := TX0) dX1_believeOne_63 rfl (by decide) ww_inX0 q_19 rfl) ?_
  refine vg_cons (vs_iload_n dX1_believeOne_66 rfl rfl) ?_
  refine vg_cons (vs_aload_n dX1_believeOne_67 rfl rfl) ?_
  refine vg_cons (vs_getfield (T := TX1) dX1_believeOne_68 rfl (by decide) ww_inX1 q_10 rfl) ?_
  refine vg_cons (vs_iastore dX1_believeOne_71 rfl rfl) ?_
  refine vg_cons (vs_iinc dX1_believeOne_72 rfl rfl) ?_
  refine vg_cons (vs_iinc dX1_believeOne_75 rfl rfl) ?_
  refine vg_cons (vs_goto dX1_believeOne_78 (by decide)) ?_
  refine vg_cons (vs_iload_n dX1_believeOne_81 rfl rfl) ?_
  refine vg_cons (vs_ireturn dX1_believeOne_82 rfl) ?_
  exact fun _ h => absurd h List.not_mem_nil
theorem m_X1_believeOne : vg_Code k_X1_believeOne := fun q h => (s_X1_believeOne q h).1

theorem w_X1_believeOne : vg_Wd sp_X1_believeOne 5 := by
  intro av σ h
  unfold sp_X1_believeOne at h
  split at h
  · exact Nat.le_of_ble_eq_true rfl
  · exact h.elim
theorem g_X1_believeOne : vg_G k_X1_believeOne sp_X1_believeOne := by
  intro av σ h
  unfold sp_X1_believeOne at h ⊢
  split at h
  next b b' g =>
    obtain ⟨hw, rfl⟩ := h
    have h12 := hw.2.2.1.2
    refine vg_run (cuts := [(4, [0, 1, 2, 3])]) m_X1_believeOne 20 ?_
    refine vg_loop (fun i lv σ' => ∃ x q, q = jIt (jBel1 g) i (jV σ b', 0) ∧ σ' = jPut σ b' q.1 ∧ x = nI i ∧ lv = [(0, .inr (1, b', 0)), (1, .inr (9, b', g)), (2, .inl (.int q.2)), (3, .inl (.int x))]) (jWc (jV σ b')) ?_ ?_ 0 _ _ (Nat.zero_le _) ⟨0, _, rfl, jPut_jV.symm, rfl, rfl⟩
    · rintro i lv σ' hi ⟨x, q, hvi, rfl, hx, rfl⟩ ih
      have hK : jKeep (jV σ b') q.1 := by rw [hvi]; exact jIt2_keep (jBel1_keep g) (jV σ b', 0) i
      have hcnt : jPut σ b' q.1 (1, b', 0) 6 = nI (jWc (jV σ b')) := jPut_at.trans ((hK.1 0 6 (by omega)).trans hw.2.2.1.1)
      have hc0 : x.toNatClampNeg = i := jcl hx (by omega)
      have hv : vp_in x 12 := jin hx (by omega) (by decide)
      have nx : jBel1 g i q = q → vg_Go k_X1_believeOne _ 4 [(0, .inr (1, b', 0)), (1, .inr (9, b', g)), (2, .inl (.int q.2)), (3, .inl (.int (x + 1)))] [] (jPut σ b' q.1) := fun z => ih _ _ ⟨x + 1, q, by rw [jIt, ← hvi, z], rfl, jinc hx, rfl⟩
      refine vg_run (cuts := [(4, [0, 1, 2, 3])]) m_X1_believeOne 60 ?_
      refine And.intro (fun hc => absurd ((jle hcnt hx (by omega) (by omega)).mp hc) (by omega)) (fun _ => And.intro hv (And.intro (fun hd => ?_) (fun hd => And.intro hv (And.intro (fun he => ?_) (fun he => ?_)))))
      · rw [jPut_at, hc0] at hd
        exact And.intro (fun _ => nx (if_pos hd)) (fun z => absurd rfl z)
      · rw [jPut_at, hc0] at hd he
        refine And.intro (fun z => absurd z (by decide)) (fun _ => And.intro hv (And.intro trivial (And.intro trivial (And.intro (fun hf => ?_) (fun hf => And.intro hv ?_)))))
        · rw [jPut_at, jPut_at, hc0] at hf
          exact nx ((if_neg hd).trans ((if_pos he).trans (if_pos hf)))
        · rw [jPut_at, jPut_at, hc0] at hf
          refine ih _ _ ⟨x + 1, (jUp q.1 18 g i (q.1 1 0 0), q.2 + 1), ?_, ?_, jinc hx, rfl⟩
          · rw [jIt, ← hvi]
            exact ((if_neg hd).trans ((if_pos he).trans (if_neg hf))).symm
          · show vg_st (jPut σ b' q.1) (18, b', g) x.toNatClampNeg (jPut σ b' q.1 (1, b', 0) 0) = _
            rw [hc0, jst, jPut_at]
      · rw [jPut_at, hc0] at hd he
        exact And.intro (fun _ => nx ((if_neg hd).trans (if_neg he))) (fun z => absurd rfl z)
    · rintro lv σ' ⟨x, q, hvi, rfl, hx, rfl⟩
      have hK : jKeep (jV σ b') q.1 := by rw [hvi]; exact jIt2_keep (jBel1_keep g) (jV σ b', 0) _
      have hcnt : jPut σ b' q.1 (1, b', 0) 6 = nI (jWc (jV σ b')) := jPut_at.trans ((hK.1 0 6 (by omega)).trans hw.2.2.1.1)
      refine vg_run (cuts := [(4, [0, 1, 2, 3])]) m_X1_believeOne 20 ?_
      exact And.intro (fun _ => And.intro (by rw [hvi]; rfl) (by rw [hvi]; rfl)) (fun hc => absurd ((jle hcnt hx (by omega) (by omega)).mpr (Nat.le_refl _)) hc)
  next => exact h.elim
theorem c_X1_believeOne : vg_MetF ww_tb ww_nw ww_shp ww_nm ww_cl ww_tyl yX1_believeOne cX1_believeOne 5 (some .int) 2 sp_X1_believeOne := vg_met ww_closed (by decide +kernel) rfl s_X1_believeOne w_X1_believeOne g_X1_believeOne
def jBelG (g : Nat) (q : jN × Int32) : jN × Int32 := if jGone q.1 g then q else ((jBelOne g q.1).1, q.2 + (jBelOne g q.1).2)
def jBelAll (v : jN) : jN × Int32 := jIt jBelG (jGc v) (v, 0)
theorem jBelG_keep (g : Nat) (q : jN × Int32) : jKeep q.1 (jBelG g q).1 := by
  unfold jBelG
  split
  · exact jKeep.rf
  · exact jBelOne_keep _ _
theorem jBelAll_keep (v : jN) : jKeep v (jBelAll v).1 := jIt2_keep jBelG_keep (v, 0) _
def sp_X1_believeAll : vgC := fun av σ => match av with
  | [.inr (1, b, 0)] => (jWf (jV σ b), some (.inl (.int ((jBelAll (jV σ b)).2))), jPut σ b (jBelAll (jV σ b)).1)
  | _ => (False, none, σ)
def k_X1_believeAll : List (Nat × vgF) := [(0, vi_icst (0) 1), (1, vi_istore 1 2), (2, vi_icst (0) 3), (3, vi_istore 2 4), (4, vi_iload 2 5), (5, vi_aload 0 6), (6, vi_get ww_shp 1 4 9), (9, vi_cmp (fun x y => y ≤ x) 43 12), (12, vi_aload 0 13), (13, vi_get ww_shp 1 7 16), (16, vi_iload 2 17), (17, vi_aald ww_shp 2 18), (18, vi_callV ww_shp 5 sp_X0_isGone 0 21), (21, vi_if (fun x => x = 0) 24 37), (24, vi_iload 1 25), (25, vi_aload 0 26), (26, vi_aload 0 27), (27, vi_get ww_shp 1 7 30), (30, vi_iload 2 31), (31, vi_aald ww_shp 2 32), (32, vi_callV ww_shp 1 sp_X1_believeOne 1 35), (35, vi_bin (fun x y => x + y) 36), (36, vi_istore 1 37), (37, vi_iinc 2 (1) 40), (40, vi_goto 4), (43, vi_iload 1 44), (44, vi_ret)]
set_option maxRecDepth 20000 in
theorem s_X1_believeAll : ∀ q ∈ k_X1_believeAll, vg_Snd ww_tb ww_nw ww_shp ww_nm ww_cl ww_tyl cX1_believeAll 3 RX1 (some .int) 3 q.1 q.2 := by
  refine vg_cons (vs_iconst dX1_believeAll_0 rfl rfl) ?_
  refine vg_cons (vs_istore_n dX1_believeAll_1 rfl (by decide) rfl) ?_
  refine vg_cons (vs_iconst dX1_believeAll_2 rfl rfl) ?_
  refine vg_cons (vs_istore_n dX1_believeAll_3 rfl (by decide) rfl) ?_
  refine vg_cons (vs_iload_n dX1_believeAll_4 rfl rfl) ?_
  refine vg_cons (vs_aload_n dX1_believeAll_5 rfl rfl) ?_
  refine vg_cons (vs_getfield (T := TX1) dX1_believeAll_6 rfl (by decide) ww_inX1 q_38 rfl) ?_
  refine vg_cons (vs_cmp_ge dX1_believeAll_9 (by decide) rfl) ?_
  refine vg_cons (vs_aload_n dX1_believeAll_12 rfl rfl) ?_
  refine vg_cons (vs_getfield (T := TX1) dX1_believeAll_13 rfl (by decide) ww_inX1 q_39 rfl) ?_
  refine vg_cons (vs_iload_n dX1_believeAll_16 rfl rfl) ?_
  refine vg_cons (vs_aaload dX1_believeAll_17 rfl rfl) ?_
  refine vg_cons (vs_callV (T := TX0) c_X0_isGone dX1_believeAll_18 rfl ww_good q_20 q_21 q_22 q_23 q_24 (by decide +kernel) (by decide) rfl) ?_
  refine vg_cons (vs_if_ne dX1_believeAll_21 (by decide) rfl) ?_
  refine vg_cons (vs_iload_n dX1_believeAll_24 rfl rfl) ?_
  refine vg_cons (vs_aload_n dX1_believeAll_25 rfl rfl) ?_
  refine vg_cons (vs_aload_n dX1_believeAll_26 rfl rfl) ?_
  refine vg_cons (vs_getfield (T := TX1) dX1_believeAll_27 rfl (by decide) ww_inX1 q_39 rfl) ?_
  refine vg_cons (vs_iload_n dX1_believeAll_30 rfl rfl) ?_
  refine vg_cons (vs_aaload dX1_believeAll_31 rfl rfl) ?_
  refine vg_cons (vs_callV (T := TX1) c_X1_believeOne dX1_believeAll_32 rfl ww_good q_116 q_12 q_117 q_118 q_119 (by decide +kernel) (by decide) rfl) ?_
  refine vg_cons (vs_iadd dX1_believeAll_35 rfl) ?_
  refine vg_cons (vs_istore_n dX1_believeAll_36 rfl (by decide) rfl) ?_
  refine vg_cons (vs_iinc dX1_believeAll_37 rfl rfl) ?_
  refine vg_cons (vs_goto dX1_believeAll_40 (by decide)) ?_
  refine vg_cons (vs_iload_n dX1_believeAll_43 rfl rfl) ?_
  refine vg_cons (vs_ireturn dX1_believeAll_44 rfl) ?_
  exact fun _ h => absurd h List.not_mem_nil
theorem m_X1_believeAll : vg_Code k_X1_believeAll := fun q h => (s_X1_believeAll q h).1

theorem w_X1_believeAll : vg_Wd sp_X1_believeAll 3 := by
  intro av σ h
  unfold sp_X1_believeAll at h
  split at h
  · exact Nat.le_of_ble_eq_true rfl
  · exact h.elim
theorem g_X1_believeAll : vg_G k_X1_believeAll sp_X1_believeAll := by
  intro av σ h
  unfold sp_X1_believeAll at h ⊢
  split at h
  next b =>
    have h8 := h.1.2
    refine vg_run (cuts := [(4, [0, 1, 2])]) m_X1_believeAll 20 ?_
    refine vg_loop (fun i lv σ' => ∃ x q, q = jIt jBelG i (jV σ b, 0) ∧ σ' = jPut σ b q.1 ∧ x = nI i ∧ lv = [(0, .inr (1, b, 0)), (1, .inl (.int q.2)), (2, .inl (.int x))]) (jGc (jV σ b)) ?_ ?_ 0 _ _ (Nat.zero_le _) ⟨0, _, rfl, jPut_jV.symm, rfl, rfl⟩
    · rintro i lv σ' hi ⟨x, q, hvi, rfl, hx, rfl⟩ ih
      have hK : jKeep (jV σ b) q.1 := by rw [hvi]; exact jIt2_keep jBelG_keep (jV σ b, 0) i
      have hcnt : jPut σ b q.1 (1, b, 0) 4 = nI (jGc (jV σ b)) := jPut_at.trans ((hK.1 0 4 (by omega)).trans h.1.1)
      have hc0 : x.toNatClampNeg = i := jcl hx (by omega)
      have hv : vp_in x 8 := jin hx (by omega) (by decide)
      refine vg_run (cuts := [(4, [0, 1, 2])]) m_X1_believeAll 60 ?_
      refine And.intro (fun hc => absurd ((jle hcnt hx (by omega) (by omega)).mp hc) (by omega)) (fun _ => And.intro hv (And.intro trivial (And.intro (fun hd => And.intro hv (And.intro ⟨by rw [jV_put]; exact hK.wf h, rfl⟩ ?_)) (fun hd => ?_))))
      · rw [jV_put, hc0] at hd
        refine ih _ _ ⟨x + 1, ((jBelOne i q.1).1, q.2 + (jBelOne i q.1).2), ?_, ?_, jinc hx, ?_⟩
        · rw [jIt, ← hvi]
          exact (if_neg (jb_0.mp hd)).symm
        · show jPut (jPut σ b q.1) b (jBelOne x.toNatClampNeg (jV (jPut σ b q.1) b)).1 = _
          rw [jPut_put, jV_put, hc0]
        · show [_, (1, Sum.inl (Value.int (q.2 + (jBelOne x.toNatClampNeg (jV (jPut σ b q.1) b)).2))), _] = _
          rw [jV_put, hc0]
      · rw [jV_put, hc0] at hd
        have hg : jGone q.1 i := Classical.byContradiction (fun z => hd (jb_f z))
        exact ih _ _ ⟨x + 1, q, by rw [jIt, ← hvi]; exact (if_pos hg).symm, rfl, jinc hx, rfl⟩
    · rintro lv σ' ⟨x, q, hvi, rfl, hx, rfl⟩
      have hK : jKeep (jV σ b) q.1 := by rw [hvi]; exact jIt2_keep jBelG_keep (jV σ b, 0) _
      have hcnt : jPut σ b q.1 (1, b, 0) 4 = nI (jGc (jV σ b)) := jPut_at.trans ((hK.1 0 4 (by omega)).trans h.1.1)
      refine vg_run (cuts := [(4, [0, 1, 2])]) m_X1_believeAll 20 ?_
      exact And.intro (fun _ => And.intro (by rw [hvi]; rfl) (by rw [hvi]; rfl)) (fun hc => absurd ((jle hcnt hx (by omega) (by omega)).mpr (Nat.le_refl _)) hc)
  next => exact h.elim
theorem c_X1_believeAll : vg_MetF ww_tb ww_nw ww_shp ww_nm ww_cl ww_tyl yX1_believeAll cX1_believeAll 3 (some .int) 3 sp_X1_believeAll := vg_met ww_closed (by decide +kernel) rfl s_X1_believeAll w_X1_believeAll g_X1_believeAll
abbrev jGoal (v : jN) (g : Nat) : Int32 := (jNear v g (jSc v)).1
def jGoOne (g : Nat) (v : jN) : jN := if jGoal v g < 0 then v else if jGoal v g < v 1 0 5 then (if v 10 (jGoal v g).toNatClampNeg 0 = v 9 g 0 then jUp (jUp v 10 (jGoal v g).toNatClampNeg 1 (v 10 (jGoal v g).toNatClampNeg 1 - v 9 g 1)) 9 g 6 (jGoal v g) else jUp v 9 g 0 (jStep (v 9 g 0) (v 10 (jGoal v g).toNatClampNeg 0))) else v
theorem jGoOne_keep (g : Nat) (v : jN) : jKeep v (jGoOne g v) := by
  unfold jGoOne
  split
  · exact jKeep.rf
  · split
    · split
      · exact (jKeep.rf.up (by omega)).up (by omega)
      · exact jKeep.rf.up (by omega)
    · exact jKeep.rf
def sp_X1_goOne : vgC := fun av σ => match av with
  | [.inr (1, b, 0), .inr (9, b', g)] => (jWf (jV σ b) ∧ b' = b, none, jPut σ b (jGoOne g (jV σ b)))
  | _ => (False, none, σ)
def k_X1_goOne : List (Nat × vgF) := [(0, vi_aload 0 1), (1, vi_aload 1 2), (2, vi_callV ww_shp 1 sp_X1_nearestWithRoom 1 5), (5, vi_istore 2 6), (6, vi_iload 2 7), (7, vi_if (fun x => x < 0) 18 10), (10, vi_iload 2 11), (11, vi_aload 0 12), (12, vi_get ww_shp 1 5 15), (15, vi_cmp (fun x y => x < y) 19 18), (18, vi_retV), (19, vi_aload 0 20), (20, vi_get ww_shp 1 8 23), (23, vi_iload 2 24), (24, vi_aald ww_shp 3 25), (25, vi_get ww_shp 3 0 28), (28, vi_aload 1 29), (29, vi_get ww_shp 5 0 32), (32, vi_cmp (fun x y => x = y) 35 61), (35, vi_aload 0 36), (36, vi_get ww_shp 1 8 39), (39, vi_iload 2 40), (40, vi_aald ww_shp 3 41), (41, vi_dup 42), (42, vi_get ww_shp 3 1 45), (45, vi_aload 1 46), (46, vi_get ww_shp 5 1 49), (49, vi_bin (fun x y => x - y) 50), (50, vi_put ww_shp 3 1 53), (53, vi_aload 1 54), (54, vi_iload 2 55), (55, vi_put ww_shp 5 6 58), (58, vi_goto 81), (61, vi_aload 1 62), (62, vi_aload 1 63), (63, vi_get ww_shp 5 0 66), (66, vi_aload 0 67), (67, vi_get ww_shp 1 8 70), (70, vi_iload 2 71), (71, vi_aald ww_shp 3 72), (72, vi_get ww_shp 3 0 75), (75, vi_callS sp_X5_stepTowards 2 78), (78, vi_put ww_shp 5 0 81), (81, vi_retV)]
set_option maxRecDepth 20000 in
theorem s_X1_goOne : ∀ q ∈ k_X1_goOne, vg_Snd ww_tb ww_nw ww_shp ww_nm ww_cl ww_tyl cX1_goOne 3 RX1 none 3 q.1 q.2 := by
  refine vg_cons (vs_aload_n dX1_goOne_0 rfl rfl) ?_
  refine vg_cons (vs_aload_n dX1_goOne_1 rfl rfl) ?_
  refine vg_cons (vs_callV (T := TX1) c_X1_nearestWithRoom dX1_goOne_2 rfl ww_good q_120 q_12 q_121 q_122 q_123 (by decide +kernel) (by decide) rfl) ?_
  refine vg_cons (vs_istore_n dX1_goOne_5 rfl (by decide) rfl) ?_
  refine vg_cons (vs_iload_n dX1_goOne_6 rfl rfl) ?_
  refine vg_cons (vs_if_lt dX1_goOne_7 (by decide) rfl) ?_
  refine vg_cons (vs_iload_n dX1_goOne_10 rfl rfl) ?_
  refine vg_cons (vs_aload_n dX1_goOne_11 rfl rfl) ?_
  refine vg_cons (vs_getfield (T := TX1) dX1_goOne_12 rfl (by decide) ww_inX1 q_60 rfl) ?_
  refine vg_cons (vs_cmp_lt dX1_goOne_15 (by decide) rfl) ?_
  refine vg_cons (vs_return dX1_goOne_18 rfl) ?_
  refine vg_cons (vs_aload_n dX1_goOne_19 rfl rfl) ?_
  refine vg_cons (vs_getfield (T := TX1) dX1_goOne_20 rfl (by decide) ww_inX1 q_61 rfl) ?_
  refine vg_cons (vs_iload_n dX1_goOne_23 rfl rfl) ?_
  refine vg_cons (vs_aaload dX1_goOne_24 rfl rfl) ?_
  refine vg_cons (vs_getfield (T := TX3) dX1_goOne_25 rfl (by decide) ww_inX3 q_62 rfl) ?_
  refine vg_cons (vs_aload_n dX1_goOne_28 rfl rfl) ?_
  refine vg_cons (vs_getfield (T := TX0) dX1_goOne_29 rfl (by decide) ww_inX0 q_49 rfl) ?_
  refine vg_cons (vs_cmp_ne dX1_goOne_32 (by decide) rfl) ?_
  refine vg_cons (vs_aload_n dX1_goOne_35 rfl rfl) ?_
  refine vg_cons (vs_getfield (T := TX1) dX1_goOne_36 rfl (by decide) ww_inX1 q_61 rfl) ?_
  refine vg_cons (vs_iload_n dX1_goOne_39 rfl rfl) ?_
  refine vg_cons (vs_aaload dX1_goOne_40 rfl rfl) ?_
  refine vg_cons (vs_dup dX1_goOne_41 rfl) ?_
  refine vg_cons (vs_getfield (T := TX3) dX1_goOne_42 rfl (by decide) ww_inX3 q_63 rfl) ?_
  refine vg_cons (vs_aload_n dX1_goOne_45 rfl rfl) ?_
  refine vg_cons (vs_getfield (T := TX0) dX1_goOne_46 rfl (by decide) ww_inX0 q_44 rfl) ?_
  refine vg_cons (vs_isub dX1_goOne_49 rfl) ?_
  refine vg_cons (vs_putfield (T := TX3) tyX3 dX1_goOne_50 rfl (by decide) ww_inX3 tyX3_ok nmX3 rfl rfl q_63 rfl) ?_
  refine vg_cons (vs_aload_n dX1_goOne_53 rfl rfl) ?_
  refine vg_cons (vs_iload_n dX1_goOne_54 rfl rfl) ?_
  refine vg_cons (vs_putfield (T := TX0) tyX0 dX1_goOne_55 rfl (by decide) ww_inX0 tyX0_ok nmX0 rfl rfl q_124 rfl) ?_
  refine vg_cons (vs_goto dX1_goOne_58 (by decide)) ?_
  refine vg_cons (vs_aload_n dX1_goOne_61 rfl rfl) ?_
  refine vg_cons (vs_aload_n dX1_goOne_62 rfl rfl) ?_
  refine vg_cons (vs_getfield (T := TX0) dX1_goOne_63 rfl (by decide) ww_inX0 q_49 rfl) ?_
  refine vg_cons (vs_aload_n dX1_goOne_66 rfl rfl) ?_
  refine vg_cons (vs_getfield (T := TX1) dX1_goOne_67 rfl (by decide) ww_inX1 q_61 rfl) ?_
  refine vg_cons (vs_iload_n dX1_goOne_70 rfl rfl) ?_
  refine vg_cons (vs_aaload dX1_goOne_71 rfl rfl) ?_
  refine vg_cons (vs_getfield (T := TX3) dX1_goOne_72 rfl (by decide) ww_inX3 q_62 rfl) ?_
  refine vg_cons (vs_callSN (host := "WarnWave") c_X5_stepTowards dX1_goOne_75 ww_good q_125 q_51 (by decide +kernel) q_126 (by decide +kernel) (by decide) rfl) ?_
  refine vg_cons (vs_putfield (T := TX0) tyX0 dX1_goOne_78 rfl (by decide) ww_inX0 tyX0_ok nmX0 rfl rfl q_49 rfl) ?_
  refine vg_cons (vs_return dX1_goOne_81 rfl) ?_
  exact fun _ h => absurd h List.not_mem_nil
theorem m_X1_goOne : vg_Code k_X1_goOne := fun q h => (s_X1_goOne q h).1

theorem w_X1_goOne : vg_Wd sp_X1_goOne 3 := by
  intro av σ h
  unfold sp_X1_goOne at h
  split at h
  · exact Nat.le_of_ble_eq_true rfl
  · exact h.elim
theorem g_X1_goOne : vg_G k_X1_goOne sp_X1_goOne := by
  intro av σ h
  unfold sp_X1_goOne at h ⊢
  split at h
  next b b' g =>
    obtain ⟨hw, rfl⟩ := h
    have hsc := hw.2.1
    have same : jGoOne g (jV σ b') = jV σ b' → σ = jPut σ b' (jGoOne g (jV σ b')) := fun z => by rw [z, jPut_jV]
    refine vg_run (cuts := []) m_X1_goOne 80 ?_
    refine And.intro ⟨hw, rfl⟩ (And.intro (fun hc => And.intro rfl (same (if_pos hc))) (fun hc => And.intro (fun hd => ?_) (fun hd => And.intro rfl (same ((if_neg hc).trans (if_neg hd))))))
    have hv : vp_in (jGoal (jV σ b') g) 3 := by
      have h1 : jGoal (jV σ b') g < nI (jSc (jV σ b')) := by rw [← hsc.1]; exact hd
      have h0 : ¬ jGoal (jV σ b') g < 0 := hc
      obtain ⟨j, hj, e⟩ := nI_of h0
      have h2 : j < jSc (jV σ b') := by
        rw [e] at h1
        exact (nI_ltI hj (by have := hsc.2; omega)).mp h1
      rw [e]
      exact vp_in_nI (by have := hsc.2; omega) (by decide)
    refine And.intro hv (And.intro (fun he => And.intro hv (And.intro rfl (And.intro rfl ?_))) (fun he => And.intro hv (And.intro trivial (And.intro rfl ?_))))
    · have e : jGoOne g (jV σ b') = _ := (if_neg hc).trans ((if_pos hd).trans (if_pos he))
      rw [e]
      show vg_st (vg_st σ (10, b', (jGoal (jV σ b') g).toNatClampNeg) 1 (σ (10, b', (jGoal (jV σ b') g).toNatClampNeg) 1 - σ (9, b', g) 1)) (9, b', g) 6 (jGoal (jV σ b') g) = _
      rw [show vg_st σ (10, b', (jGoal (jV σ b') g).toNatClampNeg) 1 (σ (10, b', (jGoal (jV σ b') g).toNatClampNeg) 1 - σ (9, b', g) 1) = _ from jst0, jst]
      rfl
    · have e : jGoOne g (jV σ b') = _ := (if_neg hc).trans ((if_pos hd).trans (if_neg he))
      rw [e]
      exact jst0
  next => exact h.elim
theorem c_X1_goOne : vg_MetF ww_tb ww_nw ww_shp ww_nm ww_cl ww_tyl yX1_goOne cX1_goOne 3 none 3 sp_X1_goOne := vg_met ww_closed (by decide +kernel) rfl s_X1_goOne w_X1_goOne g_X1_goOne
def jLatG (v : jN) (g : Nat) : Int32 := if jGone v g then -1 else if jSafe v g then -1 else jLt v g
def jGoG (g : Nat) (v : jN) : jN := if jLatG v g < 0 then v else if v 1 0 6 ≤ jLatG v g then v else if v 11 (jLatG v g).toNatClampNeg 3 = 1 then jGoOne g v else v
def jGoAll (v : jN) : jN := jIt jGoG (jGc v) v
theorem jGoG_keep (g : Nat) (v : jN) : jKeep v (jGoG g v) := by
  unfold jGoG
  split
  · exact jKeep.rf
  · split
    · exact jKeep.rf
    · split
      · exact jGoOne_keep _ _
      · exact jKeep.rf
theorem jGoAll_keep (v : jN) : jKeep v (jGoAll v) := jIt_keep jGoG_keep _ _
def sp_X1_goAll : vgC := fun av σ => match av with
  | [.inr (1, b, 0)] => (jWf (jV σ b), none, jPut σ b (jGoAll (jV σ b)))
  | _ => (False, none, σ)
def k_X1_goAll : List (Nat × vgF) := [(0, vi_icst (0) 1), (1, vi_istore 1 2), (2, vi_iload 1 3), (3, vi_aload 0 4), (4, vi_get ww_shp 1 4 7), (7, vi_cmp (fun x y => y ≤ x) 77 10), (10, vi_aload 0 11), (11, vi_get ww_shp 1 7 14), (14, vi_iload 1 15), (15, vi_aald ww_shp 2 16), (16, vi_astore 2 17), (17, vi_aload 2 18), (18, vi_callV ww_shp 5 sp_X0_isGone 0 21), (21, vi_if (fun x => x = 0) 24 31), (24, vi_aload 2 25), (25, vi_callV ww_shp 5 sp_X0_isSafe 0 28), (28, vi_if (fun x => x = 0) 35 31), (31, vi_icst (-1) 32), (32, vi_goto 40), (35, vi_aload 0 36), (36, vi_aload 2 37), (37, vi_callV ww_shp 1 sp_X1_latestBelieved 1 40), (40, vi_istore 3 41), (41, vi_iload 3 42), (42, vi_if (fun x => x < 0) 71 45), (45, vi_iload 3 46), (46, vi_aload 0 47), (47, vi_get ww_shp 1 6 50), (50, vi_cmp (fun x y => y ≤ x) 71 53), (53, vi_aload 0 54), (54, vi_get ww_shp 1 9 57), (57, vi_iload 3 58), (58, vi_aald ww_shp 4 59), (59, vi_get ww_shp 4 3 62), (62, vi_icst (1) 63), (63, vi_cmp (fun x y => x = y) 66 71), (66, vi_aload 0 67), (67, vi_aload 2 68), (68, vi_callV ww_shp 1 sp_X1_goOne 1 71), (71, vi_iinc 1 (1) 74), (74, vi_goto 2), (77, vi_retV)]
set_option maxRecDepth 20000 in
theorem s_X1_goAll : ∀ q ∈ k_X1_goAll, vg_Snd ww_tb ww_nw ww_shp ww_nm ww_cl ww_tyl cX1_goAll 4 RX1 none 4 q.1 q.2 := by
  refine vg_cons (vs_iconst dX1_goAll_0 rfl rfl) ?_
  refine vg_cons (vs_istore_n dX1_goAll_1 rfl (by decide) rfl) ?_
  refine vg_cons (vs_iload_n dX1_goAll_2 rfl rfl) ?_
  refine vg_cons (vs_aload_n dX1_goAll_3 rfl rfl) ?_
  refine vg_cons (vs_getfield (T := TX1) dX1_goAll_4 rfl (by decide) ww_inX1 q_38 rfl) ?_
  refine vg_cons (vs_cmp_ge dX1_goAll_7 (by decide) rfl) ?_
  refine vg_cons (vs_aload_n dX1_goAll_10 rfl rfl) ?_
  refine vg_cons (vs_getfield (T := TX1) dX1_goAll_11 rfl (by decide) ww_inX1 q_39 rfl) ?_
  refine vg_cons (vs_iload_n dX1_goAll_14 rfl rfl) ?_
  refine vg_cons (vs_aaload dX1_goAll_15 rfl rfl) ?_
  refine vg_cons (vs_astore_n dX1_goAll_16 rfl (by decide) rfl) ?_
  refine vg_cons (vs_aload_n dX1_goAll_17 rfl rfl) ?_
  refine vg_cons (vs_callV (T := TX0) c_X0_isGone dX1_goAll_18 rfl ww_good q_20 q_21 q_22 q_23 q_24 (by decide +kernel) (by decide) rfl) ?_
  refine vg_cons (vs_if_ne dX1_goAll_21 (by decide) rfl) ?_
  refine vg_cons (vs_aload_n dX1_goAll_24 rfl rfl) ?_
  refine vg_cons (vs_callV (T := TX0) c_X0_isSafe dX1_goAll_25 rfl ww_good q_45 q_21 q_46 q_47 q_48 (by decide +kernel) (by decide) rfl) ?_
  refine vg_cons (vs_if_eq dX1_goAll_28 (by decide) rfl) ?_
  refine vg_cons (vs_iconst dX1_goAll_31 rfl rfl) ?_
  refine vg_cons (vs_goto dX1_goAll_32 (by decide)) ?_
  refine vg_cons (vs_aload_n dX1_goAll_35 rfl rfl) ?_
  refine vg_cons (vs_aload_n dX1_goAll_36 rfl rfl) ?_
  refine vg_cons (vs_callV (T := TX1) c_X1_latestBelieved dX1_goAll_37 rfl ww_good q_29 q_12 q_30 q_31 q_32 (by decide +kernel) (by decide) rfl) ?_
  refine vg_cons (vs_istore_n dX1_goAll_40 rfl (by decide) rfl) ?_
  refine vg_cons (vs_iload_n dX1_goAll_41 rfl rfl) ?_
  refine vg_cons (vs_if_lt dX1_goAll_42 (by decide) rfl) ?_
  refine vg_cons (vs_iload_n dX1_goAll_45 rfl rfl) ?_
  refine vg_cons (vs_aload_n dX1_goAll_46 rfl rfl) ?_
  refine vg_cons (vs_getfield (T := TX1) dX1_goAll_47 rfl (by decide) ww_inX1 q_16 rfl) ?_
  refine vg_cons (vs_cmp_ge dX1_goAll_50 (by decide) rfl) ?_
  refine vg_cons (vs_aload_n dX1_goAll_53 rfl rfl) ?_
  refine vg_cons (vs_getfield (T := TX1) dX1_goAll_54 rfl (by decide) ww_inX1 q_17 rfl) ?_
  refine vg_cons (vs_iload_n dX1_goAll_57 rfl rfl) ?_
  refine vg_cons (vs_aaload dX1_goAll_58 rfl rfl) ?_
  refine vg_cons (vs_getfield (T := TX4) dX1_goAll_59 rfl (by decide) ww_inX4 q_127 rfl) ?_
  refine vg_cons (vs_iconst dX1_goAll_62 rfl rfl) ?_
  refine vg_cons (vs_cmp_ne dX1_goAll_63 (by decide) rfl) ?_
  refine vg_cons (vs_aload_n dX1_goAll_66 rfl rfl) ?_
  refine vg_cons (vs_aload_n dX1_goAll_67 rfl rfl) ?_
  refine vg_cons (vs_callV (T := TX1) c_X1_goOne dX1_goAll_68 rfl ww_good q_128 q_12 q_129 q_130 q_131 (by decide +kernel) (by decide) rfl) ?_
  refine vg_cons (vs_iinc dX1_goAll_71 rfl rfl) ?_
  refine vg_cons (vs_goto dX1_goAll_74 (by decide)) ?_
  refine vg_cons (vs_return dX1_goAll_77 rfl) ?_
  exact fun _ h => absurd h List.not_mem_nil
theorem m_X1_goAll : vg_Code k_X1_goAll := fun q h => (s_X1_goAll q h).1

theorem w_X1_goAll : vg_Wd sp_X1_goAll 4 := by
  intro av σ h
  unfold sp_X1_goAll at h
  split at h
  · exact Nat.le_of_ble_eq_true rfl
  · exact h.elim
theorem g_X1_goAll : vg_G k_X1_goAll sp_X1_goAll := by
  intro av σ h
  unfold sp_X1_goAll at h ⊢
  split at h
  next b =>
    have h8 := h.1.2
    have h12 := h.2.2.1
    refine vg_run (cuts := [(2, [0, 1])]) m_X1_goAll 20 ?_
    refine vg_loop (fun i lv σ' => ∃ x v, v = jIt jGoG i (jV σ b) ∧ σ' = jPut σ b v ∧ x = nI i ∧ lv = [(0, .inr (1, b, 0)), (1, .inl (.int x))]) (jGc (jV σ b)) ?_ ?_ 0 _ _ (Nat.zero_le _) ⟨0, _, rfl, jPut_jV.symm, rfl, rfl⟩
    · rintro i lv σ' hi ⟨x, v, hvi, rfl, hx, rfl⟩ ih
      have hK : jKeep (jV σ b) v := by rw [hvi]; exact jIt_keep jGoG_keep _ i
      have hcnt : jPut σ b v (1, b, 0) 4 = nI (jGc (jV σ b)) := jPut_at.trans ((hK.1 0 4 (by omega)).trans h.1.1)
      have hwc : v 1 0 6 = nI (jWc (jV σ b)) := (hK.1 0 6 (by omega)).trans h12.1
      have hc0 : x.toNatClampNeg = i := jcl hx (by omega)
      have hv : vp_in x 8 := jin hx (by omega) (by decide)
      have nx : jGoG i v = v → vg_Go k_X1_goAll (fun r σ' => r = none ∧ σ' = jPut σ b (jGoAll (jV σ b))) 2 [(0, .inr (1, b, 0)), (1, .inl (.int (x + 1)))] [] (jPut σ b v) := fun z => ih _ _ ⟨x + 1, v, by rw [jIt, ← hvi, z], rfl, jinc hx, rfl⟩
      have tail : ∀ la : Int32, la = jLatG v i → vg_Go k_X1_goAll (fun r σ' => r = none ∧ σ' = jPut σ b (jGoAll (jV σ b))) 41 [(0, .inr (1, b, 0)), (1, .inl (.int x)), (2, .inr (9, b, i)), (3, .inl (.int la))] [] (jPut σ b v) := by
        intro la hla
        refine vg_run (cuts := [(2, [0, 1])]) m_X1_goAll 40 ?_
        refine And.intro (fun hc => nx (if_pos (by rw [← hla]; exact hc))) (fun hc => And.intro (fun hd => ?_) (fun hd => ?_))
        · rw [jPut_at] at hd
          exact nx ((if_neg (by rw [← hla]; exact hc)).trans (if_pos (by rw [← hla]; exact hd)))
        · rw [jPut_at] at hd
          have hvl : vp_in la 12 := by
            obtain ⟨j, hj, e⟩ := nI_of hc
            have h2 : ¬ nI (jWc (jV σ b)) ≤ nI j := by rw [← hwc, ← e]; exact hd
            have h3 : ¬ jWc (jV σ b) ≤ j := fun z => h2 ((nI_leI (by omega) hj).mpr z)
            rw [e]
            exact vp_in_nI (by omega) (by decide)
          refine And.intro hvl (And.intro (fun he => And.intro ⟨by rw [jV_put]; exact hK.wf h, rfl⟩ ?_) (fun he => ?_))
          · rw [jPut_at] at he
            refine ih _ _ ⟨x + 1, jGoOne i v, ?_, ?_, jinc hx, rfl⟩
            · rw [jIt, ← hvi]
              exact ((if_neg (by rw [← hla]; exact hc)).trans ((if_neg (by rw [← hla]; exact hd)).trans (if_pos (by rw [← hla]; exact he)))).symm
            · show jPut (jPut σ b v) b (jGoOne i (jV (jPut σ b v) b)) = _
              rw [jPut_put, jV_put]
          · rw [jPut_at] at he
            exact nx ((if_neg (by rw [← hla]; exact hc)).trans ((if_neg (by rw [← hla]; exact hd)).trans (if_neg (by rw [← hla]; exact he))))
      refine vg_run (cuts := [(2, [0, 1]), (41, [0, 1, 2, 3])]) m_X1_goAll 60 ?_
      refine And.intro (fun hc => absurd ((jle hcnt hx (by omega) (by omega)).mp hc) (by omega)) (fun _ => And.intro hv (And.intro trivial (And.intro (fun hd => And.intro trivial (And.intro (fun he => And.intro ⟨by rw [jV_put]; exact hK.wf h, rfl⟩ ?_) (fun he => ?_))) (fun hd => ?_))))
      · rw [jV_put, hc0] at hd he
        have := tail (jLt v i) ((if_neg (jb_0.mp hd)).trans (if_neg (jb_0.mp he))).symm
        rw [← hc0] at this
        rw [jV_put]
        exact this
      · rw [jV_put, hc0] at hd he
        have := tail (-1) ((if_neg (jb_0.mp hd)).trans (if_pos (Classical.byContradiction (fun z => he (jb_f z))))).symm
        rw [← hc0] at this
        exact this
      · rw [jV_put, hc0] at hd
        have := tail (-1) (if_pos (Classical.byContradiction (fun z => hd (jb_f z)))).symm
        rw [← hc0] at this
        exact this
    · rintro lv σ' ⟨x, v, hvi, rfl, hx, rfl⟩
      have hK : jKeep (jV σ b) v := by rw [hvi]; exact jIt_keep jGoG_keep _ _
      have hcnt : jPut σ b v (1, b, 0) 4 = nI (jGc (jV σ b)) := jPut_at.trans ((hK.1 0 4 (by omega)).trans h.1.1)
      refine vg_run (cuts := [(2, [0, 1])]) m_X1_goAll 20 ?_
      exact And.intro (fun _ => And.intro rfl (by rw [hvi]; rfl)) (fun hc => absurd ((jle hcnt hx (by omega) (by omega)).mpr (Nat.le_refl _)) hc)
  next => exact h.elim
theorem c_X1_goAll : vg_MetF ww_tb ww_nw ww_shp ww_nm ww_cl ww_tyl yX1_goAll cX1_goAll 4 none 4 sp_X1_goAll := vg_met ww_closed (by decide +kernel) rfl s_X1_goAll w_X1_goAll g_X1_goAll
end
section
-- words of the tables, and what stands at each place of the methods' code (laid by program)
theorem q_132 : Cond.code yX1_chooseCalls cX1_chooseCalls 3 none ∈ ww_tb := by decide +kernel
theorem q_133 : Cond.methodLink RX1 188 yX1_chooseCalls ∈ ww_tb := by decide +kernel
theorem q_134 : Cond.instanceMethod yX1_chooseCalls ∈ ww_tb := by decide +kernel
theorem q_135 : Cond.selects RX1 yX1_chooseCalls yX1_chooseCalls ∈ ww_tb := by decide +kernel
theorem q_136 : Cond.code yX1_hearAll cX1_hearAll 10 none ∈ ww_tb := by decide +kernel
theorem q_137 : Cond.methodLink RX1 191 yX1_hearAll ∈ ww_tb := by decide +kernel
theorem q_138 : Cond.instanceMethod yX1_hearAll ∈ ww_tb := by decide +kernel
theorem q_139 : Cond.selects RX1 yX1_hearAll yX1_hearAll ∈ ww_tb := by decide +kernel
theorem q_140 : Cond.code yX1_believeAll cX1_believeAll 3 (some .int) ∈ ww_tb := by decide +kernel
theorem q_141 : Cond.methodLink RX1 194 yX1_believeAll ∈ ww_tb := by decide +kernel
theorem q_142 : Cond.instanceMethod yX1_believeAll ∈ ww_tb := by decide +kernel
theorem q_143 : Cond.selects RX1 yX1_believeAll yX1_believeAll ∈ ww_tb := by decide +kernel
theorem q_144 : Cond.code yX1_goAll cX1_goAll 4 none ∈ ww_tb := by decide +kernel
theorem q_145 : Cond.methodLink RX1 197 yX1_goAll ∈ ww_tb := by decide +kernel
theorem q_146 : Cond.instanceMethod yX1_goAll ∈ ww_tb := by decide +kernel
theorem q_147 : Cond.selects RX1 yX1_goAll yX1_goAll ∈ ww_tb := by decide +kernel
theorem q_148 : Cond.code yX1_harmAll cX1_harmAll 3 none ∈ ww_tb := by decide +kernel
theorem q_149 : Cond.methodLink RX1 200 yX1_harmAll ∈ ww_tb := by decide +kernel
theorem q_150 : Cond.instanceMethod yX1_harmAll ∈ ww_tb := by decide +kernel
theorem q_151 : Cond.selects RX1 yX1_harmAll yX1_harmAll ∈ ww_tb := by decide +kernel
theorem q_152 : Cond.fieldLink RX4 18 (TX4 0).1 (TX4 0).2.1 (TX4 0).2.2.1 ∈ ww_tb := by decide +kernel
theorem q_153 : Cond.fieldLink RX4 9 (TX4 1).1 (TX4 1).2.1 (TX4 1).2.2.1 ∈ ww_tb := by decide +kernel
theorem q_154 : Cond.fieldLink RX4 21 (TX4 2).1 (TX4 2).2.1 (TX4 2).2.2.1 ∈ ww_tb := by decide +kernel
theorem q_155 : Cond.fieldLink RX4 24 (TX4 3).1 (TX4 3).2.1 (TX4 3).2.2.1 ∈ ww_tb := by decide +kernel
theorem q_156 : Cond.fieldLink RX4 27 (TX4 4).1 (TX4 4).2.1 (TX4 4).2.2.1 ∈ ww_tb := by decide +kernel
theorem q_157 : Cond.fieldLink RX4 30 (TX4 5).1 (TX4 5).2.1 (TX4 5).2.2.1 ∈ ww_tb := by decide +kernel
theorem q_158 : Cond.fieldLink RX4 15 (TX4 6).1 (TX4 6).2.1 (TX4 6).2.2.1 ∈ ww_tb := by decide +kernel
theorem q_159 : Cond.fieldLink RX4 33 (TX4 7).1 (TX4 7).2.1 (TX4 7).2.2.1 ∈ ww_tb := by decide +kernel
theorem q_160 : Cond.fieldLink RX0 34 (TX0 0).1 (TX0 0).2.1 (TX0 0).2.2.1 ∈ ww_tb := by decide +kernel
theorem q_161 : Cond.fieldLink RX0 37 (TX0 1).1 (TX0 1).2.1 (TX0 1).2.2.1 ∈ ww_tb := by decide +kernel
theorem q_162 : Cond.fieldLink RX0 40 (TX0 2).1 (TX0 2).2.1 (TX0 2).2.2.1 ∈ ww_tb := by decide +kernel
theorem q_163 : Cond.fieldLink RX0 43 (TX0 4).1 (TX0 4).2.1 (TX0 4).2.2.1 ∈ ww_tb := by decide +kernel
theorem q_164 : Cond.fieldLink RX0 47 (TX0 5).1 (TX0 5).2.1 (TX0 5).2.2.1 ∈ ww_tb := by decide +kernel
theorem q_165 : Cond.methodLink RX0 53 arraycopyName ∈ ww_tb := by decide +kernel
theorem q_166 : Cond.native arraycopyName ∈ ww_tb := by decide +kernel
theorem q_167 : Cond.static arraycopyName ∈ ww_tb := by decide +kernel
theorem q_168 : Cond.initialized "java/lang/System" ∈ ww_tb := by decide +kernel
theorem q_169 : Cond.fieldLink RX0 31 (TX0 12).1 (TX0 12).2.1 (TX0 12).2.2.1 ∈ ww_tb := by decide +kernel
theorem dX1_playMinutes_0 : decode cX1_playMinutes 0 = .ok (.iconst 0, 1) := by decide +kernel
theorem dX1_playMinutes_1 : decode cX1_playMinutes 1 = .ok (.istore_n 2, 1) := by decide +kernel
theorem dX1_playMinutes_2 : decode cX1_playMinutes 2 = .ok (.iconst 0, 1) := by decide +kernel
theorem dX1_playMinutes_3 : decode cX1_playMinutes 3 = .ok (.istore_n 3, 1) := by decide +kernel
theorem dX1_playMinutes_4 : decode cX1_playMinutes 4 = .ok (.iload_n 3, 1) := by decide +kernel
theorem dX1_playMinutes_5 : decode cX1_playMinutes 5 = .ok (.iload_n 1, 1) := by decide +kernel
theorem dX1_playMinutes_6 : decode cX1_playMinutes 6 = .ok (.if_icmp .ge 42, 3) := by decide +kernel
theorem dX1_playMinutes_9 : decode cX1_playMinutes 9 = .ok (.aload_n 0, 1) := by decide +kernel
theorem dX1_playMinutes_10 : decode cX1_playMinutes 10 = .ok (.dup, 1) := by decide +kernel
theorem dX1_playMinutes_11 : decode cX1_playMinutes 11 = .ok (.getfield 56, 3) := by decide +kernel
theorem dX1_playMinutes_14 : decode cX1_playMinutes 14 = .ok (.iconst 1, 1) := by decide +kernel
theorem dX1_playMinutes_15 : decode cX1_playMinutes 15 = .ok (.iadd, 1) := by decide +kernel
theorem dX1_playMinutes_16 : decode cX1_playMinutes 16 = .ok (.putfield 56, 3) := by decide +kernel
theorem dX1_playMinutes_19 : decode cX1_playMinutes 19 = .ok (.aload_n 0, 1) := by decide +kernel
theorem dX1_playMinutes_20 : decode cX1_playMinutes 20 = .ok (.invokevirtual 188, 3) := by decide +kernel
theorem dX1_playMinutes_23 : decode cX1_playMinutes 23 = .ok (.aload_n 0, 1) := by decide +kernel
theorem dX1_playMinutes_24 : decode cX1_playMinutes 24 = .ok (.invokevirtual 191, 3) := by decide +kernel
theorem dX1_playMinutes_27 : decode cX1_playMinutes 27 = .ok (.iload_n 2, 1) := by decide +kernel
theorem dX1_playMinutes_28 : decode cX1_playMinutes 28 = .ok (.aload_n 0, 1) := by decide +kernel
theorem dX1_playMinutes_29 : decode cX1_playMinutes 29 = .ok (.invokevirtual 194, 3) := by decide +kernel
theorem dX1_playMinutes_32 : decode cX1_playMinutes 32 = .ok (.iadd, 1) := by decide +kernel
theorem dX1_playMinutes_33 : decode cX1_playMinutes 33 = .ok (.istore_n 2, 1) := by decide +kernel
theorem dX1_playMinutes_34 : decode cX1_playMinutes 34 = .ok (.aload_n 0, 1) := by decide +kernel
theorem dX1_playMinutes_35 : decode cX1_playMinutes 35 = .ok (.invokevirtual 197, 3) := by decide +kernel
theorem dX1_playMinutes_38 : decode cX1_playMinutes 38 = .ok (.aload_n 0, 1) := by decide +kernel
theorem dX1_playMinutes_39 : decode cX1_playMinutes 39 = .ok (.invokevirtual 200, 3) := by decide +kernel
theorem dX1_playMinutes_42 : decode cX1_playMinutes 42 = .ok (.iinc 3 1, 3) := by decide +kernel
theorem dX1_playMinutes_45 : decode cX1_playMinutes 45 = .ok (.goto (-41), 3) := by decide +kernel
theorem dX1_playMinutes_48 : decode cX1_playMinutes 48 = .ok (.iload_n 2, 1) := by decide +kernel
theorem dX1_playMinutes_49 : decode cX1_playMinutes 49 = .ok (.ireturn, 1) := by decide +kernel
theorem dX4_becomeLike_0 : decode cX4_becomeLike 0 = .ok (.aload_n 0, 1) := by decide +kernel
theorem dX4_becomeLike_1 : decode cX4_becomeLike 1 = .ok (.aload_n 1, 1) := by decide +kernel
theorem dX4_becomeLike_2 : decode cX4_becomeLike 2 = .ok (.getfield 18, 3) := by decide +kernel
theorem dX4_becomeLike_5 : decode cX4_becomeLike 5 = .ok (.putfield 18, 3) := by decide +kernel
theorem dX4_becomeLike_8 : decode cX4_becomeLike 8 = .ok (.aload_n 0, 1) := by decide +kernel
theorem dX4_becomeLike_9 : decode cX4_becomeLike 9 = .ok (.aload_n 1, 1) := by decide +kernel
theorem dX4_becomeLike_10 : decode cX4_becomeLike 10 = .ok (.getfield 9, 3) := by decide +kernel
theorem dX4_becomeLike_13 : decode cX4_becomeLike 13 = .ok (.putfield 9, 3) := by decide +kernel
theorem dX4_becomeLike_16 : decode cX4_becomeLike 16 = .ok (.aload_n 0, 1) := by decide +kernel
theorem dX4_becomeLike_17 : decode cX4_becomeLike 17 = .ok (.aload_n 1, 1) := by decide +kernel
theorem dX4_becomeLike_18 : decode cX4_becomeLike 18 = .ok (.getfield 21, 3) := by decide +kernel
theorem dX4_becomeLike_21 : decode cX4_becomeLike 21 = .ok (.putfield 21, 3) := by decide +kernel
theorem dX4_becomeLike_24 : decode cX4_becomeLike 24 = .ok (.aload_n 0, 1) := by decide +kernel
theorem dX4_becomeLike_25 : decode cX4_becomeLike 25 = .ok (.aload_n 1, 1) := by decide +kernel
theorem dX4_becomeLike_26 : decode cX4_becomeLike 26 = .ok (.getfield 24, 3) := by decide +kernel
theorem dX4_becomeLike_29 : decode cX4_becomeLike 29 = .ok (.putfield 24, 3) := by decide +kernel
theorem dX4_becomeLike_32 : decode cX4_becomeLike 32 = .ok (.aload_n 0, 1) := by decide +kernel
theorem dX4_becomeLike_33 : decode cX4_becomeLike 33 = .ok (.aload_n 1, 1) := by decide +kernel
theorem dX4_becomeLike_34 : decode cX4_becomeLike 34 = .ok (.getfield 27, 3) := by decide +kernel
theorem dX4_becomeLike_37 : decode cX4_becomeLike 37 = .ok (.putfield 27, 3) := by decide +kernel
theorem dX4_becomeLike_40 : decode cX4_becomeLike 40 = .ok (.aload_n 0, 1) := by decide +kernel
theorem dX4_becomeLike_41 : decode cX4_becomeLike 41 = .ok (.aload_n 1, 1) := by decide +kernel
theorem dX4_becomeLike_42 : decode cX4_becomeLike 42 = .ok (.getfield 30, 3) := by decide +kernel
theorem dX4_becomeLike_45 : decode cX4_becomeLike 45 = .ok (.putfield 30, 3) := by decide +kernel
theorem dX4_becomeLike_48 : decode cX4_becomeLike 48 = .ok (.aload_n 0, 1) := by decide +kernel
theorem dX4_becomeLike_49 : decode cX4_becomeLike 49 = .ok (.aload_n 1, 1) := by decide +kernel
theorem dX4_becomeLike_50 : decode cX4_becomeLike 50 = .ok (.getfield 15, 3) := by decide +kernel
theorem dX4_becomeLike_53 : decode cX4_becomeLike 53 = .ok (.putfield 15, 3) := by decide +kernel
theorem dX4_becomeLike_56 : decode cX4_becomeLike 56 = .ok (.aload_n 0, 1) := by decide +kernel
theorem dX4_becomeLike_57 : decode cX4_becomeLike 57 = .ok (.aload_n 1, 1) := by decide +kernel
theorem dX4_becomeLike_58 : decode cX4_becomeLike 58 = .ok (.getfield 33, 3) := by decide +kernel
theorem dX4_becomeLike_61 : decode cX4_becomeLike 61 = .ok (.putfield 33, 3) := by decide +kernel
theorem dX4_becomeLike_64 : decode cX4_becomeLike 64 = .ok (.return_, 1) := by decide +kernel
theorem dX0_becomeLike_0 : decode cX0_becomeLike 0 = .ok (.aload_n 0, 1) := by decide +kernel
theorem dX0_becomeLike_1 : decode cX0_becomeLike 1 = .ok (.aload_n 1, 1) := by decide +kernel
theorem dX0_becomeLike_2 : decode cX0_becomeLike 2 = .ok (.getfield 34, 3) := by decide +kernel
theorem dX0_becomeLike_5 : decode cX0_becomeLike 5 = .ok (.putfield 34, 3) := by decide +kernel
theorem dX0_becomeLike_8 : decode cX0_becomeLike 8 = .ok (.aload_n 0, 1) := by decide +kernel
theorem dX0_becomeLike_9 : decode cX0_becomeLike 9 = .ok (.aload_n 1, 1) := by decide +kernel
theorem dX0_becomeLike_10 : decode cX0_becomeLike 10 = .ok (.getfield 37, 3) := by decide +kernel
theorem dX0_becomeLike_13 : decode cX0_becomeLike 13 = .ok (.putfield 37, 3) := by decide +kernel
theorem dX0_becomeLike_16 : decode cX0_becomeLike 16 = .ok (.aload_n 0, 1) := by decide +kernel
theorem dX0_becomeLike_17 : decode cX0_becomeLike 17 = .ok (.aload_n 1, 1) := by decide +kernel
theorem dX0_becomeLike_18 : decode cX0_becomeLike 18 = .ok (.getfield 40, 3) := by decide +kernel
theorem dX0_becomeLike_21 : decode cX0_becomeLike 21 = .ok (.putfield 40, 3) := by decide +kernel
theorem dX0_becomeLike_24 : decode cX0_becomeLike 24 = .ok (.aload_n 0, 1) := by decide +kernel
theorem dX0_becomeLike_25 : decode cX0_becomeLike 25 = .ok (.aload_n 1, 1) := by decide +kernel
theorem dX0_becomeLike_26 : decode cX0_becomeLike 26 = .ok (.getfield 9, 3) := by decide +kernel
theorem dX0_becomeLike_29 : decode cX0_becomeLike 29 = .ok (.putfield 9, 3) := by decide +kernel
theorem dX0_becomeLike_32 : decode cX0_becomeLike 32 = .ok (.aload_n 0, 1) := by decide +kernel
theorem dX0_becomeLike_33 : decode cX0_becomeLike 33 = .ok (.aload_n 1, 1) := by decide +kernel
theorem dX0_becomeLike_34 : decode cX0_becomeLike 34 = .ok (.getfield 43, 3) := by decide +kernel
theorem dX0_becomeLike_37 : decode cX0_becomeLike 37 = .ok (.putfield 43, 3) := by decide +kernel
theorem dX0_becomeLike_40 : decode cX0_becomeLike 40 = .ok (.aload_n 0, 1) := by decide +kernel
theorem dX0_becomeLike_41 : decode cX0_becomeLike 41 = .ok (.aload_n 1, 1) := by decide +kernel
theorem dX0_becomeLike_42 : decode cX0_becomeLike 42 = .ok (.getfield 47, 3) := by decide +kernel
theorem dX0_becomeLike_45 : decode cX0_becomeLike 45 = .ok (.putfield 47, 3) := by decide +kernel
theorem dX0_becomeLike_48 : decode cX0_becomeLike 48 = .ok (.aload_n 0, 1) := by decide +kernel
theorem dX0_becomeLike_49 : decode cX0_becomeLike 49 = .ok (.aload_n 1, 1) := by decide +kernel
theorem dX0_becomeLike_50 : decode cX0_becomeLike 50 = .ok (.getfield 15, 3) := by decide +kernel
theorem dX0_becomeLike_53 : decode cX0_becomeLike 53 = .ok (.putfield 15, 3) := by decide +kernel
theorem dX0_becomeLike_56 : decode cX0_becomeLike 56 = .ok (.aload_n 0, 1) := by decide +kernel
theorem dX0_becomeLike_57 : decode cX0_becomeLike 57 = .ok (.aload_n 1, 1) := by decide +kernel
theorem dX0_becomeLike_58 : decode cX0_becomeLike 58 = .ok (.getfield 50, 3) := by decide +kernel
theorem dX0_becomeLike_61 : decode cX0_becomeLike 61 = .ok (.putfield 50, 3) := by decide +kernel
theorem dX0_becomeLike_64 : decode cX0_becomeLike 64 = .ok (.aload_n 1, 1) := by decide +kernel
theorem dX0_becomeLike_65 : decode cX0_becomeLike 65 = .ok (.getfield 18, 3) := by decide +kernel
theorem dX0_becomeLike_68 : decode cX0_becomeLike 68 = .ok (.iconst 0, 1) := by decide +kernel
theorem dX0_becomeLike_69 : decode cX0_becomeLike 69 = .ok (.aload_n 0, 1) := by decide +kernel
theorem dX0_becomeLike_70 : decode cX0_becomeLike 70 = .ok (.getfield 18, 3) := by decide +kernel
theorem dX0_becomeLike_73 : decode cX0_becomeLike 73 = .ok (.iconst 0, 1) := by decide +kernel
theorem dX0_becomeLike_74 : decode cX0_becomeLike 74 = .ok (.bipush 12, 2) := by decide +kernel
theorem dX0_becomeLike_76 : decode cX0_becomeLike 76 = .ok (.invokestatic 53, 3) := by decide +kernel
theorem dX0_becomeLike_79 : decode cX0_becomeLike 79 = .ok (.aload_n 1, 1) := by decide +kernel
theorem dX0_becomeLike_80 : decode cX0_becomeLike 80 = .ok (.getfield 22, 3) := by decide +kernel
theorem dX0_becomeLike_83 : decode cX0_becomeLike 83 = .ok (.iconst 0, 1) := by decide +kernel
theorem dX0_becomeLike_84 : decode cX0_becomeLike 84 = .ok (.aload_n 0, 1) := by decide +kernel
theorem dX0_becomeLike_85 : decode cX0_becomeLike 85 = .ok (.getfield 22, 3) := by decide +kernel
theorem dX0_becomeLike_88 : decode cX0_becomeLike 88 = .ok (.iconst 0, 1) := by decide +kernel
theorem dX0_becomeLike_89 : decode cX0_becomeLike 89 = .ok (.bipush 12, 2) := by decide +kernel
theorem dX0_becomeLike_91 : decode cX0_becomeLike 91 = .ok (.invokestatic 53, 3) := by decide +kernel
theorem dX0_becomeLike_94 : decode cX0_becomeLike 94 = .ok (.aload_n 1, 1) := by decide +kernel
theorem dX0_becomeLike_95 : decode cX0_becomeLike 95 = .ok (.getfield 25, 3) := by decide +kernel
theorem dX0_becomeLike_98 : decode cX0_becomeLike 98 = .ok (.iconst 0, 1) := by decide +kernel
theorem dX0_becomeLike_99 : decode cX0_becomeLike 99 = .ok (.aload_n 0, 1) := by decide +kernel
theorem dX0_becomeLike_100 : decode cX0_becomeLike 100 = .ok (.getfield 25, 3) := by decide +kernel
theorem dX0_becomeLike_103 : decode cX0_becomeLike 103 = .ok (.iconst 0, 1) := by decide +kernel
theorem dX0_becomeLike_104 : decode cX0_becomeLike 104 = .ok (.bipush 12, 2) := by decide +kernel
theorem dX0_becomeLike_106 : decode cX0_becomeLike 106 = .ok (.invokestatic 53, 3) := by decide +kernel
theorem dX0_becomeLike_109 : decode cX0_becomeLike 109 = .ok (.aload_n 1, 1) := by decide +kernel
theorem dX0_becomeLike_110 : decode cX0_becomeLike 110 = .ok (.getfield 28, 3) := by decide +kernel
theorem dX0_becomeLike_113 : decode cX0_becomeLike 113 = .ok (.iconst 0, 1) := by decide +kernel
theorem dX0_becomeLike_114 : decode cX0_becomeLike 114 = .ok (.aload_n 0, 1) := by decide +kernel
theorem dX0_becomeLike_115 : decode cX0_becomeLike 115 = .ok (.getfield 28, 3) := by decide +kernel
theorem dX0_becomeLike_118 : decode cX0_becomeLike 118 = .ok (.iconst 0, 1) := by decide +kernel
theorem dX0_becomeLike_119 : decode cX0_becomeLike 119 = .ok (.bipush 12, 2) := by decide +kernel
theorem dX0_becomeLike_121 : decode cX0_becomeLike 121 = .ok (.invokestatic 53, 3) := by decide +kernel
theorem dX0_becomeLike_124 : decode cX0_becomeLike 124 = .ok (.aload_n 1, 1) := by decide +kernel
theorem dX0_becomeLike_125 : decode cX0_becomeLike 125 = .ok (.getfield 31, 3) := by decide +kernel
theorem dX0_becomeLike_128 : decode cX0_becomeLike 128 = .ok (.iconst 0, 1) := by decide +kernel
theorem dX0_becomeLike_129 : decode cX0_becomeLike 129 = .ok (.aload_n 0, 1) := by decide +kernel
theorem dX0_becomeLike_130 : decode cX0_becomeLike 130 = .ok (.getfield 31, 3) := by decide +kernel
theorem dX0_becomeLike_133 : decode cX0_becomeLike 133 = .ok (.iconst 0, 1) := by decide +kernel
theorem dX0_becomeLike_134 : decode cX0_becomeLike 134 = .ok (.bipush 12, 2) := by decide +kernel
theorem dX0_becomeLike_136 : decode cX0_becomeLike 136 = .ok (.invokestatic 53, 3) := by decide +kernel
theorem dX0_becomeLike_139 : decode cX0_becomeLike 139 = .ok (.return_, 1) := by decide +kernel
/-! minutes; becoming like another land -/
theorem jStep_in : ∀ i : Fin 16, ∀ j : Fin 16, (decide (jStep (nI i.val) (nI j.val) < 0) || Nat.ble 16 (jStep (nI i.val) (nI j.val)).toNatClampNeg) = false := by decide +kernel
theorem jStep_vp {a b : Int32} (ha : vp_in a 16) (hb : vp_in b 16) : vp_in (jStep a b) 16 := by
  obtain ⟨i, hi, rfl⟩ := vp_in_of ha (by decide)
  obtain ⟨j, hj, rfl⟩ := vp_in_of hb (by decide)
  have h := jStep_in ⟨i, hi⟩ ⟨j, hj⟩
  simp only [Bool.or_eq_false_iff, decide_eq_false_iff_not] at h
  intro z
  rcases z with z | z
  · exact h.1 z
  · have := Nat.ble_eq_true_of_le z
    rw [h.2] at this
    cases this
theorem jIt2_pl {f : Nat → jN × Int32 → jN × Int32} (hf : ∀ i q, jPl q.1 → jPl (f i q).1) {q : jN × Int32} (h : jPl q.1) : ∀ n, jPl (jIt f n q).1
  | 0 => h
  | n + 1 => hf n _ (jIt2_pl hf h n)
theorem jNote_pl {v : jN} (g w : Nat) (nw nb t : Int32) (h : jPl v) : jPl (jNote v g w nw nb t) := by
  unfold jNote
  refine jPl.up ?_ (by omega)
  unfold jNote0
  split
  · exact ((h.up (by omega)).up (by omega)).up (by omega)
  · exact h
theorem jHearAll_pl {v : jN} (h : jPl v) : jPl (jHearAll v) := jIt_pl (fun g u hu => by
  unfold jHearG
  split
  · exact hu
  · refine jIt_pl (fun w u hu => ?_) hu _
    unfold jHearW
    split
    · exact hu
    · exact jNote_pl _ _ _ _ _ hu) h _
theorem jChooseAll_pl {v : jN} (h : jPl v) : jPl (jChooseAll v) := jIt2_pl (q := (v, v 1 0 1)) (fun w q hq => by
  unfold jChoose
  split
  · exact hq.up (by omega)
  · exact (hq.up (by omega)).up (by omega)) h _
theorem jBelAll_pl {v : jN} (h : jPl v) : jPl (jBelAll v).1 := jIt2_pl (q := (v, 0)) (fun g q hq => by
  unfold jBelG
  split
  · exact hq
  · refine jIt2_pl (q := (q.1, 0)) (fun w q hq => ?_) hq _
    unfold jBel1
    split
    · exact hq
    · split
      · split
        · exact hq
        · exact hq.up (by omega)
      · exact hq) h _
theorem jNear_in (v : jN) (g : Nat) : ∀ n, (jNear v g n).1 = -1 ∨ ∃ j, j < n ∧ (jNear v g n).1 = nI j
  | 0 => Or.inl rfl
  | n + 1 => by
    have ih : (jNear v g n).1 = -1 ∨ ∃ j, j < n + 1 ∧ (jNear v g n).1 = nI j := (jNear_in v g n).imp id (fun ⟨j, h1, h2⟩ => ⟨j, by omega, h2⟩)
    unfold jNear
    split
    · exact ih
    · split
      · exact ih
      · exact Or.inr ⟨n, by omega, rfl⟩
theorem jGoAll_pl {v : jN} (hsc : jSc v ≤ 3) (h : jPl v) : jPl (jGoAll v) := by
  have key : ∀ n, jPl (jIt jGoG n v) ∧ jKeep v (jIt jGoG n v) := by
    intro n
    induction n with
    | zero => exact ⟨h, jKeep.rf⟩
    | succ n ih =>
      obtain ⟨hp, hk⟩ := ih
      refine ⟨?_, hk.tr (jGoG_keep _ _)⟩
      have hs : jSc (jIt jGoG n v) ≤ 3 := by rw [hk.sc]; exact hsc
      show jPl (jGoG n (jIt jGoG n v))
      generalize jIt jGoG n v = u at hp hs
      unfold jGoG
      split
      · exact hp
      · split
        · exact hp
        · split
          · unfold jGoOne
            split
            · exact hp
            · next h0 =>
              split
              · split
                · exact (hp.up (by omega)).up (by omega)
                · rcases jNear_in u n (jSc u) with z | ⟨j, hj, e⟩
                  · refine absurd ?_ h0
                    have z2 : jGoal u n = -1 := z
                    rw [z2]; decide
                  · have hc : vp_in (jStep (u 9 n 0) (u 10 (jGoal u n).toNatClampNeg 0)) 16 ∨ ¬ n < 8 := by
                      by_cases hn : n < 8
                      · refine Or.inl (jStep_vp (hp.1 n hn) ?_)
                        rw [show (jGoal u n).toNatClampNeg = j from jcl e (by omega)]
                        exact hp.2 j (by omega)
                      · exact Or.inr hn
                    refine ⟨fun g hg => ?_, fun s hs2 => ?_⟩
                    · by_cases hgn : g = n
                      · subst hgn
                        rw [jUp_at]
                        rcases hc with hc | hc
                        · exact hc
                        · exact absurd hg hc
                      · rw [jUp_i hgn]
                        exact hp.1 g hg
                    · rw [jUp_k (by omega)]
                      exact hp.2 s hs2
              · exact hp
          · exact hp
  exact (key _).1
theorem jHarmAll_keep (v : jN) : jKeep v (jHarmAll v) := jIt_keep jHarm_keep _ _
theorem jHarmAll_pl {v : jN} (h : jPl v) : jPl (jHarmAll v) := jIt_pl (fun i v => jHarm_pl) h _

/-- a minute -/
def jM3 (v : jN) : jN := jHearAll (jChooseAll (jUp v 1 0 0 (v 1 0 0 + 1)))
def jM4 (v : jN) : jN := (jBelAll (jM3 v)).1
def jM5 (v : jN) : jN := jGoAll (jM4 v)
def jMin (v : jN) : jN := jHarmAll (jM5 v)
def jMinT (v : jN) : Int32 := (jBelAll (jM3 v)).2
def jPlay1 (_ : Nat) (q : jN × Int32) : jN × Int32 := (jMin q.1, q.2 + jMinT q.1)
def jPlay (v : jN) (n : Nat) : jN × Int32 := jIt jPlay1 n (v, 0)
theorem jPlay_s (n : Nat) (q : jN × Int32) : jIt jPlay1 (n + 1) q = (jMin (jIt jPlay1 n q).1, (jIt jPlay1 n q).2 + jMinT (jIt jPlay1 n q).1) := rfl
theorem jPlay_n {i : Nat} {u : jN} {t : Int32} {v : jN} (h : (u, t) = jIt jPlay1 i (v, (0 : Int32))) : (jMin u, t + jMinT u) = jIt jPlay1 (i + 1) (v, (0 : Int32)) := by
  have e := jPlay_s i (v, (0 : Int32))
  generalize jIt jPlay1 i (v, (0 : Int32)) = q at h e
  subst h
  exact e.symm
theorem jPlay_e (v : jN) (n : Nat) : jPlay v n = jIt jPlay1 n (v, (0 : Int32)) := rfl
theorem jTick_keep (v : jN) : jKeep v (jUp v 1 0 0 (v 1 0 0 + 1)) := jKeep.rf.up (by omega)
theorem jM3_keep (v : jN) : jKeep v (jM3 v) := by
  unfold jM3
  exact ((jTick_keep v).tr (jChooseAll_keep _)).tr (jHearAll_keep _)
theorem jM4_keep (v : jN) : jKeep v (jM4 v) := by
  unfold jM4
  exact (jM3_keep v).tr (jBelAll_keep _)
theorem jM5_keep (v : jN) : jKeep v (jM5 v) := by
  unfold jM5
  exact (jM4_keep v).tr (jGoAll_keep _)
theorem jMin_keep (v : jN) : jKeep v (jMin v) := by
  unfold jMin
  exact (jM5_keep v).tr (jHarmAll_keep _)
theorem jM3_pl {v : jN} (h : jPl v) : jPl (jM3 v) := by
  unfold jM3
  exact jHearAll_pl (jChooseAll_pl (h.up (by omega)))
theorem jM4_pl {v : jN} (h : jPl v) : jPl (jM4 v) := by
  unfold jM4
  exact jBelAll_pl (jM3_pl h)
theorem jM5_pl {v : jN} (hs : jSc v ≤ 3) (h : jPl v) : jPl (jM5 v) := by
  unfold jM5
  exact jGoAll_pl (by rw [(jM4_keep v).sc]; exact hs) (jM4_pl h)
theorem jMin_pl {v : jN} (hs : jSc v ≤ 3) (h : jPl v) : jPl (jMin v) := by
  unfold jMin
  exact jHarmAll_pl (jM5_pl hs h)
theorem jPlay_inv {v : jN} (hw : jWf v) (h : jPl v) (n : Nat) : jKeep v (jIt jPlay1 n (v, (0 : Int32))).1 ∧ jPl (jIt jPlay1 n (v, (0 : Int32))).1 := by
  induction n with
  | zero => exact ⟨jKeep.rf, h⟩
  | succ n ih =>
    obtain ⟨h1, h2⟩ := ih
    rw [jPlay_s]
    generalize jIt jPlay1 n (v, (0 : Int32)) = q at h1 h2 ⊢
    dsimp only
    have hs : jSc q.1 ≤ 3 := by rw [h1.sc]; exact hw.2.1.2
    exact ⟨h1.tr (jMin_keep q.1), jMin_pl hs h2⟩
def sp_X1_playMinutes : vgC := fun av σ => match av with
  | [.inr (1, b, 0), .inl (.int m)] => (jWf (jV σ b) ∧ jPl (jV σ b) ∧ vp_in m 1000, some (.inl (.int ((jPlay (jV σ b) m.toNatClampNeg).2))), jPut σ b (jPlay (jV σ b) m.toNatClampNeg).1)
  | _ => (False, none, σ)
def k_X1_playMinutes : List (Nat × vgF) := [(0, vi_icst (0) 1), (1, vi_istore 2 2), (2, vi_icst (0) 3), (3, vi_istore 3 4), (4, vi_iload 3 5), (5, vi_iload 1 6), (6, vi_cmp (fun x y => y ≤ x) 48 9), (9, vi_aload 0 10), (10, vi_dup 11), (11, vi_get ww_shp 1 0 14), (14, vi_icst (1) 15), (15, vi_bin (fun x y => x + y) 16), (16, vi_put ww_shp 1 0 19), (19, vi_aload 0 20), (20, vi_callV ww_shp 1 sp_X1_chooseCalls 0 23), (23, vi_aload 0 24), (24, vi_callV ww_shp 1 sp_X1_hearAll 0 27), (27, vi_iload 2 28), (28, vi_aload 0 29), (29, vi_callV ww_shp 1 sp_X1_believeAll 0 32), (32, vi_bin (fun x y => x + y) 33), (33, vi_istore 2 34), (34, vi_aload 0 35), (35, vi_callV ww_shp 1 sp_X1_goAll 0 38), (38, vi_aload 0 39), (39, vi_callV ww_shp 1 sp_X1_harmAll 0 42), (42, vi_iinc 3 (1) 45), (45, vi_goto 4), (48, vi_iload 2 49), (49, vi_ret)]
set_option maxRecDepth 20000 in
theorem s_X1_playMinutes : ∀ q ∈ k_X1_playMinutes, vg_Snd ww_tb ww_nw ww_shp ww_nm ww_cl ww_tyl cX1_playMinutes 4 RX1 (some .int) 5 q.1 q.2 := by
  refine vg_cons (vs_iconst dX1_playMinutes_0 rfl rfl) ?_
  refine vg_cons (vs_istore_n dX1_playMinutes_1 rfl (by decide) rfl) ?_
  refine vg_cons (vs_iconst dX1_playMinutes_2 rfl rfl) ?_
  refine vg_cons (vs_istore_n dX1_playMinutes_3 rfl (by decide) rfl) ?_
  refine vg_cons (vs_iload_n dX1_playMinutes_4 rfl rfl) ?_
  refine vg_cons (vs_iload_n dX1_playMinutes_5 rfl rfl) ?_
  refine vg_cons (vs_cmp_ge dX1_playMinutes_6 (by decide) rfl) ?_
  refine vg_cons (vs_aload_n dX1_playMinutes_9 rfl rfl) ?_
  refine vg_cons (vs_dup dX1_playMinutes_10 rfl) ?_
  refine vg_cons (vs_getfield (T := TX1) dX1_playMinutes_11 rfl (by decide) ww_inX1 q_10 rfl) ?_
  refine vg_cons (vs_iconst dX1_playMinutes_14 rfl rfl) ?_
  refine vg_cons (vs_iadd dX1_playMinutes_15 rfl) ?_
  refine vg_cons (vs_putfield (T := TX1) tyX1 dX1_playMinutes_16 rfl (by decide) ww_inX1 tyX1_ok nmX1 rfl rfl q_10 rfl) ?_
  refine vg_cons (vs_aload_n dX1_playMinutes_19 rfl rfl) ?_
  refine vg_cons (vs_callV (T := TX1) c_X1_chooseCalls dX1_playMinutes_20 rfl ww_good q_132 q_12 q_133 q_134 q_135 (by decide +kernel) (by decide) rfl) ?_
  refine vg_cons (vs_aload_n dX1_playMinutes_23 rfl rfl) ?_
  refine vg_cons (vs_callV (T := TX1) c_X1_hearAll dX1_playMinutes_24 rfl ww_good q_136 q_12 q_137 q_138 q_139 (by decide +kernel) (by decide) rfl) ?_
  refine vg_cons (vs_iload_n dX1_playMinutes_27 rfl rfl) ?_
  refine vg_cons (vs_aload_n dX1_playMinutes_28 rfl rfl) ?_
  refine vg_cons (vs_callV (T := TX1) c_X1_believeAll dX1_playMinutes_29 rfl ww_good q_140 q_12 q_141 q_142 q_143 (by decide +kernel) (by decide) rfl) ?_
  refine vg_cons (vs_iadd dX1_playMinutes_32 rfl) ?_
  refine vg_cons (vs_istore_n dX1_playMinutes_33 rfl (by decide) rfl) ?_
  refine vg_cons (vs_aload_n dX1_playMinutes_34 rfl rfl) ?_
  refine vg_cons (vs_callV (T := TX1) c_X1_goAll dX1_playMinutes_35 rfl ww_good q_144 q_12 q_145 q_146 q_147 (by decide +kernel) (by decide) rfl) ?_
  refine vg_cons (vs_aload_n dX1_playMinutes_38 rfl rfl) ?_
  refine vg_cons (vs_callV (T := TX1) c_X1_harmAll dX1_playMinutes_39 rfl ww_good q_148 q_12 q_149 q_150 q_151 (by decide +kernel) (by decide) rfl) ?_
  refine vg_cons (vs_iinc dX1_playMinutes_42 rfl rfl) ?_
  refine vg_cons (vs_goto dX1_playMinutes_45 (by decide)) ?_
  refine vg_cons (vs_iload_n dX1_playMinutes_48 rfl rfl) ?_
  refine vg_cons (vs_ireturn dX1_playMinutes_49 rfl) ?_
  exact fun _ h => absurd h List.not_mem_nil
theorem m_X1_playMinutes : vg_Code k_X1_playMinutes := fun q h => (s_X1_playMinutes q h).1

theorem w_X1_playMinutes : vg_Wd sp_X1_playMinutes 4 := by
  intro av σ h
  unfold sp_X1_playMinutes at h
  split at h
  · exact Nat.le_of_ble_eq_true rfl
  · exact h.elim
theorem g_X1_playMinutes : vg_G k_X1_playMinutes sp_X1_playMinutes := by
  intro av σ h
  unfold sp_X1_playMinutes at h ⊢
  split at h
  next b m =>
    obtain ⟨hw, hpl, hm⟩ := h
    obtain ⟨N, hN, rfl⟩ := vp_in_of hm (by decide)
    have eN : (nI N).toNatClampNeg = N := jcl rfl hN
    rw [eN, jPlay_e]
    refine vg_run (cuts := [(4, [0, 1, 2, 3])]) m_X1_playMinutes 20 ?_
    refine vg_loop (fun i lv σ' => ∃ x u t, (u, t) = jIt jPlay1 i (jV σ b, (0 : Int32)) ∧ σ' = jPut σ b u ∧ x = nI i ∧ lv = [(0, .inr (1, b, 0)), (1, .inl (.int (nI N))), (2, .inl (.int t)), (3, .inl (.int x))]) N ?_ ?_ 0 _ _ (Nat.zero_le _) ⟨0, jV σ b, 0, rfl, jPut_jV.symm, rfl, rfl⟩
    · rintro i lv σ' hi ⟨x, u, t, hvi, rfl, hx, rfl⟩ ih
      obtain ⟨hK, hP⟩ := jPlay_inv hw hpl i
      rw [← hvi] at hK hP
      dsimp only at hK hP
      have hwf := hK.wf hw
      have k1 := jTick_keep u
      have k2 := k1.tr (jChooseAll_keep _)
      have k3 := jM3_keep u
      have k4 := jM4_keep u
      have k5 := jM5_keep u
      have p5 := jM5_pl (hwf.2.1.2) hP
      have e1 : vg_st (jPut σ b u) (1, b, 0) 0 (jPut σ b u (1, b, 0) 0 + 1) = jPut σ b (jUp u 1 0 0 (u 1 0 0 + 1)) := by rw [jst, jPut_at]
      have e2 : jPut (vg_st (jPut σ b u) (1, b, 0) 0 (jPut σ b u (1, b, 0) 0 + 1)) b (jChooseAll (jV (vg_st (jPut σ b u) (1, b, 0) 0 (jPut σ b u (1, b, 0) 0 + 1)) b)) = jPut σ b (jChooseAll (jUp u 1 0 0 (u 1 0 0 + 1))) := by rw [e1, jPut_put, jV_put]
      have e3 : jPut (jPut σ b (jChooseAll (jUp u 1 0 0 (u 1 0 0 + 1)))) b (jHearAll (jV (jPut σ b (jChooseAll (jUp u 1 0 0 (u 1 0 0 + 1)))) b)) = jPut σ b (jM3 u) := by
        rw [jPut_put, jV_put]
        unfold jM3
        rfl
      have e4 : jPut (jPut σ b (jM3 u)) b (jBelAll (jV (jPut σ b (jM3 u)) b)).1 = jPut σ b (jM4 u) := by
        rw [jPut_put, jV_put]
        unfold jM4
        rfl
      have e4t : t + (jBelAll (jV (jPut σ b (jM3 u)) b)).2 = t + jMinT u := by
        rw [jV_put]
        unfold jMinT
        rfl
      have e5 : jPut (jPut σ b (jM4 u)) b (jGoAll (jV (jPut σ b (jM4 u)) b)) = jPut σ b (jM5 u) := by
        rw [jPut_put, jV_put]
        unfold jM5
        rfl
      have e6 : jPut (jPut σ b (jM5 u)) b (jHarmAll (jV (jPut σ b (jM5 u)) b)) = jPut σ b (jMin u) := by
        rw [jPut_put, jV_put]
        unfold jMin
        rfl
      refine vg_run (cuts := [(4, [0, 1, 2, 3]), (23, [0, 1, 2, 3]), (27, [0, 1, 2, 3]), (34, [0, 1, 2, 3]), (38, [0, 1, 2, 3]), (42, [0, 1, 2, 3])]) m_X1_playMinutes 60 ?_
      refine And.intro (fun hc => absurd ((jle rfl hx (by omega) (by omega)).mp hc) (by omega)) (fun _ => And.intro rfl ?_)
      refine And.intro (by rw [e1, jV_put]; exact k1.wf hwf) ?_
      show vg_Go k_X1_playMinutes _ 23 [(0, .inr (1, b, 0)), (1, .inl (.int (nI N))), (2, .inl (.int (t))), (3, .inl (.int x))] [] (jPut (vg_st (jPut σ b u) (1, b, 0) 0 (jPut σ b u (1, b, 0) 0 + 1)) b (jChooseAll (jV (vg_st (jPut σ b u) (1, b, 0) 0 (jPut σ b u (1, b, 0) 0 + 1)) b)))
      rw [e2]
      refine vg_run (cuts := [(4, [0, 1, 2, 3]), (23, [0, 1, 2, 3]), (27, [0, 1, 2, 3]), (34, [0, 1, 2, 3]), (38, [0, 1, 2, 3]), (42, [0, 1, 2, 3])]) m_X1_playMinutes 60 ?_
      refine And.intro (by rw [jV_put]; exact k2.wf hwf) ?_
      show vg_Go k_X1_playMinutes _ 27 [(0, .inr (1, b, 0)), (1, .inl (.int (nI N))), (2, .inl (.int (t))), (3, .inl (.int x))] [] (jPut (jPut σ b (jChooseAll (jUp u 1 0 0 (u 1 0 0 + 1)))) b (jHearAll (jV (jPut σ b (jChooseAll (jUp u 1 0 0 (u 1 0 0 + 1)))) b)))
      rw [e3]
      refine vg_run (cuts := [(4, [0, 1, 2, 3]), (23, [0, 1, 2, 3]), (27, [0, 1, 2, 3]), (34, [0, 1, 2, 3]), (38, [0, 1, 2, 3]), (42, [0, 1, 2, 3])]) m_X1_playMinutes 60 ?_
      refine And.intro (by rw [jV_put]; exact k3.wf hwf) ?_
      show vg_Go k_X1_playMinutes _ 34 [(0, .inr (1, b, 0)), (1, .inl (.int (nI N))), (2, .inl (.int (t + (jBelAll (jV (jPut σ b (jM3 u)) b)).2))), (3, .inl (.int x))] [] (jPut (jPut σ b (jM3 u)) b (jBelAll (jV (jPut σ b (jM3 u)) b)).1)
      rw [e4, e4t]
      refine vg_run (cuts := [(4, [0, 1, 2, 3]), (23, [0, 1, 2, 3]), (27, [0, 1, 2, 3]), (34, [0, 1, 2, 3]), (38, [0, 1, 2, 3]), (42, [0, 1, 2, 3])]) m_X1_playMinutes 60 ?_
      refine And.intro (by rw [jV_put]; exact k4.wf hwf) ?_
      show vg_Go k_X1_playMinutes _ 38 [(0, .inr (1, b, 0)), (1, .inl (.int (nI N))), (2, .inl (.int (t + jMinT u))), (3, .inl (.int x))] [] (jPut (jPut σ b (jM4 u)) b (jGoAll (jV (jPut σ b (jM4 u)) b)))
      rw [e5]
      refine vg_run (cuts := [(4, [0, 1, 2, 3]), (23, [0, 1, 2, 3]), (27, [0, 1, 2, 3]), (34, [0, 1, 2, 3]), (38, [0, 1, 2, 3]), (42, [0, 1, 2, 3])]) m_X1_playMinutes 60 ?_
      refine And.intro (by rw [jV_put]; exact ⟨k5.wf hwf, p5⟩) ?_
      show vg_Go k_X1_playMinutes _ 42 [(0, .inr (1, b, 0)), (1, .inl (.int (nI N))), (2, .inl (.int (t + jMinT u))), (3, .inl (.int x))] [] (jPut (jPut σ b (jM5 u)) b (jHarmAll (jV (jPut σ b (jM5 u)) b)))
      rw [e6]
      refine vg_run (cuts := [(4, [0, 1, 2, 3]), (23, [0, 1, 2, 3]), (27, [0, 1, 2, 3]), (34, [0, 1, 2, 3]), (38, [0, 1, 2, 3]), (42, [0, 1, 2, 3])]) m_X1_playMinutes 60 ?_
      exact ih _ _ ⟨x + 1, jMin u, t + jMinT u, jPlay_n hvi, rfl, jinc hx, rfl⟩
    · rintro lv σ' ⟨x, u, t, hvi, rfl, hx, rfl⟩
      refine vg_run (cuts := [(4, [0, 1, 2, 3])]) m_X1_playMinutes 20 ?_
      exact And.intro (fun _ => And.intro (by rw [← hvi]) (by rw [← hvi])) (fun hc => absurd ((jle rfl hx (by omega) (by omega)).mpr (Nat.le_refl _)) hc)
  next => exact h.elim
theorem c_X1_playMinutes : vg_MetF ww_tb ww_nw ww_shp ww_nm ww_cl ww_tyl yX1_playMinutes cX1_playMinutes 4 (some .int) 5 sp_X1_playMinutes := vg_met ww_closed (by decide +kernel) rfl s_X1_playMinutes w_X1_playMinutes g_X1_playMinutes
/-- w's numbers where R says so, else v's -/
def jCp (R : Nat → Nat → Nat → Bool) (w v : jN) : jN := fun k i s => if R k i s = true then w k i s else v k i s
def jRG (g : Nat) : Nat → Nat → Nat → Bool := fun k i s => i == g && ((k == 9 && decide (s < 8)) || (decide (14 ≤ k) && decide (k ≤ 18) && decide (s < 12)))
def jRW (w : Nat) : Nat → Nat → Nat → Bool := fun k i s => i == w && k == 11 && decide (s < 8)
theorem vg_st_eq {σ : vgS} {n n' : vgN} {k j : Nat} {x : Int32} : vg_st σ n k x n' j = if n' = n ∧ j = k then x else σ n' j := rfl
def sp_X4_becomeLike : vgC := fun av σ => match av with
  | [.inr (11, b, w), .inr (11, b', w')] => (w' = w ∧ ¬ b' = b ∧ (jV σ b' 11 w 7 = 0 ∨ jV σ b' 11 w 7 = 1), none, jPut σ b (jCp (jRW w) (jV σ b') (jV σ b)))
  | _ => (False, none, σ)
def k_X4_becomeLike : List (Nat × vgF) := [(0, vi_aload 0 1), (1, vi_aload 1 2), (2, vi_get ww_shp 4 0 5), (5, vi_put ww_shp 4 0 8), (8, vi_aload 0 9), (9, vi_aload 1 10), (10, vi_get ww_shp 4 1 13), (13, vi_put ww_shp 4 1 16), (16, vi_aload 0 17), (17, vi_aload 1 18), (18, vi_get ww_shp 4 2 21), (21, vi_put ww_shp 4 2 24), (24, vi_aload 0 25), (25, vi_aload 1 26), (26, vi_get ww_shp 4 3 29), (29, vi_put ww_shp 4 3 32), (32, vi_aload 0 33), (33, vi_aload 1 34), (34, vi_get ww_shp 4 4 37), (37, vi_put ww_shp 4 4 40), (40, vi_aload 0 41), (41, vi_aload 1 42), (42, vi_get ww_shp 4 5 45), (45, vi_put ww_shp 4 5 48), (48, vi_aload 0 49), (49, vi_aload 1 50), (50, vi_get ww_shp 4 6 53), (53, vi_put ww_shp 4 6 56), (56, vi_aload 0 57), (57, vi_aload 1 58), (58, vi_get ww_shp 4 7 61), (61, vi_putZ ww_shp 4 7 64), (64, vi_retV)]
set_option maxRecDepth 20000 in
theorem s_X4_becomeLike : ∀ q ∈ k_X4_becomeLike, vg_Snd ww_tb ww_nw ww_shp ww_nm ww_cl ww_tyl cX4_becomeLike 2 RX4 none 0 q.1 q.2 := by
  refine vg_cons (vs_aload_n dX4_becomeLike_0 rfl rfl) ?_
  refine vg_cons (vs_aload_n dX4_becomeLike_1 rfl rfl) ?_
  refine vg_cons (vs_getfield (T := TX4) dX4_becomeLike_2 rfl (by decide) ww_inX4 q_152 rfl) ?_
  refine vg_cons (vs_putfield (T := TX4) tyX4 dX4_becomeLike_5 rfl (by decide) ww_inX4 tyX4_ok nmX4 rfl rfl q_152 rfl) ?_
  refine vg_cons (vs_aload_n dX4_becomeLike_8 rfl rfl) ?_
  refine vg_cons (vs_aload_n dX4_becomeLike_9 rfl rfl) ?_
  refine vg_cons (vs_getfield (T := TX4) dX4_becomeLike_10 rfl (by decide) ww_inX4 q_153 rfl) ?_
  refine vg_cons (vs_putfield (T := TX4) tyX4 dX4_becomeLike_13 rfl (by decide) ww_inX4 tyX4_ok nmX4 rfl rfl q_153 rfl) ?_
  refine vg_cons (vs_aload_n dX4_becomeLike_16 rfl rfl) ?_
  refine vg_cons (vs_aload_n dX4_becomeLike_17 rfl rfl) ?_
  refine vg_cons (vs_getfield (T := TX4) dX4_becomeLike_18 rfl (by decide) ww_inX4 q_154 rfl) ?_
  refine vg_cons (vs_putfield (T := TX4) tyX4 dX4_becomeLike_21 rfl (by decide) ww_inX4 tyX4_ok nmX4 rfl rfl q_154 rfl) ?_
  refine vg_cons (vs_aload_n dX4_becomeLike_24 rfl rfl) ?_
  refine vg_cons (vs_aload_n dX4_becomeLike_25 rfl rfl) ?_
  refine vg_cons (vs_getfield (T := TX4) dX4_becomeLike_26 rfl (by decide) ww_inX4 q_155 rfl) ?_
  refine vg_cons (vs_putfield (T := TX4) tyX4 dX4_becomeLike_29 rfl (by decide) ww_inX4 tyX4_ok nmX4 rfl rfl q_155 rfl) ?_
  refine vg_cons (vs_aload_n dX4_becomeLike_32 rfl rfl) ?_
  refine vg_cons (vs_aload_n dX4_becomeLike_33 rfl rfl) ?_
  refine vg_cons (vs_getfield (T := TX4) dX4_becomeLike_34 rfl (by decide) ww_inX4 q_156 rfl) ?_
  refine vg_cons (vs_putfield (T := TX4) tyX4 dX4_becomeLike_37 rfl (by decide) ww_inX4 tyX4_ok nmX4 rfl rfl q_156 rfl) ?_
  refine vg_cons (vs_aload_n dX4_becomeLike_40 rfl rfl) ?_
  refine vg_cons (vs_aload_n dX4_becomeLike_41 rfl rfl) ?_
  refine vg_cons (vs_getfield (T := TX4) dX4_becomeLike_42 rfl (by decide) ww_inX4 q_157 rfl) ?_
  refine vg_cons (vs_putfield (T := TX4) tyX4 dX4_becomeLike_45 rfl (by decide) ww_inX4 tyX4_ok nmX4 rfl rfl q_157 rfl) ?_
  refine vg_cons (vs_aload_n dX4_becomeLike_48 rfl rfl) ?_
  refine vg_cons (vs_aload_n dX4_becomeLike_49 rfl rfl) ?_
  refine vg_cons (vs_getfield (T := TX4) dX4_becomeLike_50 rfl (by decide) ww_inX4 q_158 rfl) ?_
  refine vg_cons (vs_putfield (T := TX4) tyX4 dX4_becomeLike_53 rfl (by decide) ww_inX4 tyX4_ok nmX4 rfl rfl q_158 rfl) ?_
  refine vg_cons (vs_aload_n dX4_becomeLike_56 rfl rfl) ?_
  refine vg_cons (vs_aload_n dX4_becomeLike_57 rfl rfl) ?_
  refine vg_cons (vs_getfield (T := TX4) dX4_becomeLike_58 rfl (by decide) ww_inX4 q_159 rfl) ?_
  refine vg_cons (vs_putfieldZ (T := TX4) tyX4 dX4_becomeLike_61 rfl (by decide) ww_inX4 tyX4_ok nmX4 rfl rfl q_159 rfl) ?_
  refine vg_cons (vs_return dX4_becomeLike_64 rfl) ?_
  exact fun _ h => absurd h List.not_mem_nil
theorem m_X4_becomeLike : vg_Code k_X4_becomeLike := fun q h => (s_X4_becomeLike q h).1

theorem w_X4_becomeLike : vg_Wd sp_X4_becomeLike 2 := by
  intro av σ h
  unfold sp_X4_becomeLike at h
  split at h
  · exact Nat.le_of_ble_eq_true rfl
  · exact h.elim
theorem g_X4_becomeLike : vg_G k_X4_becomeLike sp_X4_becomeLike := by
  intro av σ h
  unfold sp_X4_becomeLike at h ⊢
  split at h
  next b w b' w' =>
    obtain ⟨rfl, hbb, hz⟩ := h
    refine vg_run (cuts := []) m_X4_becomeLike 60 ?_
    refine And.intro ?_ (And.intro rfl ?_)
    · simp only [vg_st_eq]
      simp
      exact hz
    · funext n s
      obtain ⟨k, b0, i⟩ := n
      simp only [vg_st_eq, jPut, jCp, jRW, jV]
      by_cases h1 : b0 = b
      · subst h1
        by_cases h2 : i = w'
        · subst h2
          by_cases h3 : k = 11
          · subst h3
            match s with
            | 0 | 1 | 2 | 3 | 4 | 5 | 6 | 7 => simp
            | s + 8 =>
              simp
              intro z
              omega
          · simp [h3]
        · simp [h2]
      · simp [h1]
  next => exact h.elim
theorem c_X4_becomeLike : vg_MetF ww_tb ww_nw ww_shp ww_nm ww_cl ww_tyl yX4_becomeLike cX4_becomeLike 2 none 0 sp_X4_becomeLike := vg_met ww_closed (by decide +kernel) rfl s_X4_becomeLike w_X4_becomeLike g_X4_becomeLike
def sp_X0_becomeLike : vgC := fun av σ => match av with
  | [.inr (9, b, g), .inr (9, b', g')] => (g' = g ∧ ¬ b' = b ∧ (jV σ b' 9 g 4 = 0 ∨ jV σ b' 9 g 4 = 1) ∧ (jV σ b' 9 g 5 = 0 ∨ jV σ b' 9 g 5 = 1), none, jPut σ b (jCp (jRG g) (jV σ b') (jV σ b)))
  | _ => (False, none, σ)
def k_X0_becomeLike : List (Nat × vgF) := [(0, vi_aload 0 1), (1, vi_aload 1 2), (2, vi_get ww_shp 5 0 5), (5, vi_put ww_shp 5 0 8), (8, vi_aload 0 9), (9, vi_aload 1 10), (10, vi_get ww_shp 5 1 13), (13, vi_put ww_shp 5 1 16), (16, vi_aload 0 17), (17, vi_aload 1 18), (18, vi_get ww_shp 5 2 21), (21, vi_put ww_shp 5 2 24), (24, vi_aload 0 25), (25, vi_aload 1 26), (26, vi_get ww_shp 5 3 29), (29, vi_put ww_shp 5 3 32), (32, vi_aload 0 33), (33, vi_aload 1 34), (34, vi_get ww_shp 5 4 37), (37, vi_putZ ww_shp 5 4 40), (40, vi_aload 0 41), (41, vi_aload 1 42), (42, vi_get ww_shp 5 5 45), (45, vi_putZ ww_shp 5 5 48), (48, vi_aload 0 49), (49, vi_aload 1 50), (50, vi_get ww_shp 5 6 53), (53, vi_put ww_shp 5 6 56), (56, vi_aload 0 57), (57, vi_aload 1 58), (58, vi_get ww_shp 5 7 61), (61, vi_put ww_shp 5 7 64), (64, vi_aload 1 65), (65, vi_get ww_shp 5 8 68), (68, vi_icst (0) 69), (69, vi_aload 0 70), (70, vi_get ww_shp 5 8 73), (73, vi_icst (0) 74), (74, vi_icst (12) 76), (76, vi_cpy ww_shp 0 79), (79, vi_aload 1 80), (80, vi_get ww_shp 5 9 83), (83, vi_icst (0) 84), (84, vi_aload 0 85), (85, vi_get ww_shp 5 9 88), (88, vi_icst (0) 89), (89, vi_icst (12) 91), (91, vi_cpy ww_shp 0 94), (94, vi_aload 1 95), (95, vi_get ww_shp 5 10 98), (98, vi_icst (0) 99), (99, vi_aload 0 100), (100, vi_get ww_shp 5 10 103), (103, vi_icst (0) 104), (104, vi_icst (12) 106), (106, vi_cpy ww_shp 0 109), (109, vi_aload 1 110), (110, vi_get ww_shp 5 11 113), (113, vi_icst (0) 114), (114, vi_aload 0 115), (115, vi_get ww_shp 5 11 118), (118, vi_icst (0) 119), (119, vi_icst (12) 121), (121, vi_cpy ww_shp 0 124), (124, vi_aload 1 125), (125, vi_get ww_shp 5 12 128), (128, vi_icst (0) 129), (129, vi_aload 0 130), (130, vi_get ww_shp 5 12 133), (133, vi_icst (0) 134), (134, vi_icst (12) 136), (136, vi_cpy ww_shp 0 139), (139, vi_retV)]
set_option maxRecDepth 20000 in
theorem s_X0_becomeLike : ∀ q ∈ k_X0_becomeLike, vg_Snd ww_tb ww_nw ww_shp ww_nm ww_cl ww_tyl cX0_becomeLike 2 RX0 none 1 q.1 q.2 := by
  refine vg_cons (vs_aload_n dX0_becomeLike_0 rfl rfl) ?_
  refine vg_cons (vs_aload_n dX0_becomeLike_1 rfl rfl) ?_
  refine vg_cons (vs_getfield (T := TX0) dX0_becomeLike_2 rfl (by decide) ww_inX0 q_160 rfl) ?_
  refine vg_cons (vs_putfield (T := TX0) tyX0 dX0_becomeLike_5 rfl (by decide) ww_inX0 tyX0_ok nmX0 rfl rfl q_160 rfl) ?_
  refine vg_cons (vs_aload_n dX0_becomeLike_8 rfl rfl) ?_
  refine vg_cons (vs_aload_n dX0_becomeLike_9 rfl rfl) ?_
  refine vg_cons (vs_getfield (T := TX0) dX0_becomeLike_10 rfl (by decide) ww_inX0 q_161 rfl) ?_
  refine vg_cons (vs_putfield (T := TX0) tyX0 dX0_becomeLike_13 rfl (by decide) ww_inX0 tyX0_ok nmX0 rfl rfl q_161 rfl) ?_
  refine vg_cons (vs_aload_n dX0_becomeLike_16 rfl rfl) ?_
  refine vg_cons (vs_aload_n dX0_becomeLike_17 rfl rfl) ?_
  refine vg_cons (vs_getfield (T := TX0) dX0_becomeLike_18 rfl (by decide) ww_inX0 q_162 rfl) ?_
  refine vg_cons (vs_putfield (T := TX0) tyX0 dX0_becomeLike_21 rfl (by decide) ww_inX0 tyX0_ok nmX0 rfl rfl q_162 rfl) ?_
  refine vg_cons (vs_aload_n dX0_becomeLike_24 rfl rfl) ?_
  refine vg_cons (vs_aload_n dX0_becomeLike_25 rfl rfl) ?_
  refine vg_cons (vs_getfield (T := TX0) dX0_becomeLike_26 rfl (by decide) ww_inX0 q_6 rfl) ?_
  refine vg_cons (vs_putfield (T := TX0) tyX0 dX0_becomeLike_29 rfl (by decide) ww_inX0 tyX0_ok nmX0 rfl rfl q_6 rfl) ?_
  refine vg_cons (vs_aload_n dX0_becomeLike_32 rfl rfl) ?_
  refine vg_cons (vs_aload_n dX0_becomeLike_33 rfl rfl) ?_
  refine vg_cons (vs_getfield (T := TX0) dX0_becomeLike_34 rfl (by decide) ww_inX0 q_163 rfl) ?_
  refine vg_cons (vs_putfieldZ (T := TX0) tyX0 dX0_becomeLike_37 rfl (by decide) ww_inX0 tyX0_ok nmX0 rfl rfl q_163 rfl) ?_
  refine vg_cons (vs_aload_n dX0_becomeLike_40 rfl rfl) ?_
  refine vg_cons (vs_aload_n dX0_becomeLike_41 rfl rfl) ?_
  refine vg_cons (vs_getfield (T := TX0) dX0_becomeLike_42 rfl (by decide) ww_inX0 q_164 rfl) ?_
  refine vg_cons (vs_putfieldZ (T := TX0) tyX0 dX0_becomeLike_45 rfl (by decide) ww_inX0 tyX0_ok nmX0 rfl rfl q_164 rfl) ?_
  refine vg_cons (vs_aload_n dX0_becomeLike_48 rfl rfl) ?_
  refine vg_cons (vs_aload_n dX0_becomeLike_49 rfl rfl) ?_
  refine vg_cons (vs_getfield (T := TX0) dX0_becomeLike_50 rfl (by decide) ww_inX0 q_5 rfl) ?_
  refine vg_cons (vs_putfield (T := TX0) tyX0 dX0_becomeLike_53 rfl (by decide) ww_inX0 tyX0_ok nmX0 rfl rfl q_5 rfl) ?_
  refine vg_cons (vs_aload_n dX0_becomeLike_56 rfl rfl) ?_
  refine vg_cons (vs_aload_n dX0_becomeLike_57 rfl rfl) ?_
  refine vg_cons (vs_getfield (T := TX0) dX0_becomeLike_58 rfl (by decide) ww_inX0 q_4 rfl) ?_
  refine vg_cons (vs_putfield (T := TX0) tyX0 dX0_becomeLike_61 rfl (by decide) ww_inX0 tyX0_ok nmX0 rfl rfl q_4 rfl) ?_
  refine vg_cons (vs_aload_n dX0_becomeLike_64 rfl rfl) ?_
  refine vg_cons (vs_getfield (T := TX0) dX0_becomeLike_65 rfl (by decide) ww_inX0 q_71 rfl) ?_
  refine vg_cons (vs_iconst dX0_becomeLike_68 rfl rfl) ?_
  refine vg_cons (vs_aload_n dX0_becomeLike_69 rfl rfl) ?_
  refine vg_cons (vs_getfield (T := TX0) dX0_becomeLike_70 rfl (by decide) ww_inX0 q_71 rfl) ?_
  refine vg_cons (vs_iconst dX0_becomeLike_73 rfl rfl) ?_
  refine vg_cons (vs_bipush dX0_becomeLike_74 (by decide) rfl) ?_
  refine vg_cons (vs_acopy dX0_becomeLike_76 rfl q_165 q_166 q_167 q_168 (by decide) rfl) ?_
  refine vg_cons (vs_aload_n dX0_becomeLike_79 rfl rfl) ?_
  refine vg_cons (vs_getfield (T := TX0) dX0_becomeLike_80 rfl (by decide) ww_inX0 q_72 rfl) ?_
  refine vg_cons (vs_iconst dX0_becomeLike_83 rfl rfl) ?_
  refine vg_cons (vs_aload_n dX0_becomeLike_84 rfl rfl) ?_
  refine vg_cons (vs_getfield (T := TX0) dX0_becomeLike_85 rfl (by decide) ww_inX0 q_72 rfl) ?_
  refine vg_cons (vs_iconst dX0_becomeLike_88 rfl rfl) ?_
  refine vg_cons (vs_bipush dX0_becomeLike_89 (by decide) rfl) ?_
  refine vg_cons (vs_acopy dX0_becomeLike_91 rfl q_165 q_166 q_167 q_168 (by decide) rfl) ?_
  refine vg_cons (vs_aload_n dX0_becomeLike_94 rfl rfl) ?_
  refine vg_cons (vs_getfield (T := TX0) dX0_becomeLike_95 rfl (by decide) ww_inX0 q_73 rfl) ?_
  refine vg_cons (vs_iconst dX0_becomeLike_98 rfl rfl) ?_
  refine vg_cons (vs_aload_n dX0_becomeLike_99 rfl rfl) ?_
  refine vg_cons (vs_getfield (T := TX0) dX0_becomeLike_100 rfl (by decide) ww_inX0 q_73 rfl) ?_
  refine vg_cons (vs_iconst dX0_becomeLike_103 rfl rfl) ?_
  refine vg_cons (vs_bipush dX0_becomeLike_104 (by decide) rfl) ?_
  refine vg_cons (vs_acopy dX0_becomeLike_106 rfl q_165 q_166 q_167 q_168 (by decide) rfl) ?_
  refine vg_cons (vs_aload_n dX0_becomeLike_109 rfl rfl) ?_
  refine vg_cons (vs_getfield (T := TX0) dX0_becomeLike_110 rfl (by decide) ww_inX0 q_74 rfl) ?_
  refine vg_cons (vs_iconst dX0_becomeLike_113 rfl rfl) ?_
  refine vg_cons (vs_aload_n dX0_becomeLike_114 rfl rfl) ?_
  refine vg_cons (vs_getfield (T := TX0) dX0_becomeLike_115 rfl (by decide) ww_inX0 q_74 rfl) ?_
  refine vg_cons (vs_iconst dX0_becomeLike_118 rfl rfl) ?_
  refine vg_cons (vs_bipush dX0_becomeLike_119 (by decide) rfl) ?_
  refine vg_cons (vs_acopy dX0_becomeLike_121 rfl q_165 q_166 q_167 q_168 (by decide) rfl) ?_
  refine vg_cons (vs_aload_n dX0_becomeLike_124 rfl rfl) ?_
  refine vg_cons (vs_getfield (T := TX0) dX0_becomeLike_125 rfl (by decide) ww_inX0 q_169 rfl) ?_
  refine vg_cons (vs_iconst dX0_becomeLike_128 rfl rfl) ?_
  refine vg_cons (vs_aload_n dX0_becomeLike_129 rfl rfl) ?_
  refine vg_cons (vs_getfield (T := TX0) dX0_becomeLike_130 rfl (by decide) ww_inX0 q_169 rfl) ?_
  refine vg_cons (vs_iconst dX0_becomeLike_133 rfl rfl) ?_
  refine vg_cons (vs_bipush dX0_becomeLike_134 (by decide) rfl) ?_
  refine vg_cons (vs_acopy dX0_becomeLike_136 rfl q_165 q_166 q_167 q_168 (by decide) rfl) ?_
  refine vg_cons (vs_return dX0_becomeLike_139 rfl) ?_
  exact fun _ h => absurd h List.not_mem_nil
theorem m_X0_becomeLike : vg_Code k_X0_becomeLike := fun q h => (s_X0_becomeLike q h).1

theorem w_X0_becomeLike : vg_Wd sp_X0_becomeLike 2 := by
  intro av σ h
  unfold sp_X0_becomeLike at h
  split at h
  · exact Nat.le_of_ble_eq_true rfl
  · exact h.elim
theorem g_X0_becomeLike : vg_G k_X0_becomeLike sp_X0_becomeLike := by
  intro av σ h
  unfold sp_X0_becomeLike at h ⊢
  split at h
  next b g b' g' =>
    obtain ⟨rfl, hbb, hz4, hz5⟩ := h
    refine vg_run (cuts := []) m_X0_becomeLike 90 ?_
    refine And.intro ?_ (And.intro ?_ ?_)
    · simp only [vg_st_eq]
      simp
      exact hz4
    · simp only [vg_st_eq]
      simp
      exact hz5
    have A : (0 : Int32) = 0 ∧ (0 : Int32) = 0 ∧ ¬ (12 : Int32) < 0 ∧ (12 : Int32).toNatClampNeg ≤ 12 ∧ (12 : Int32).toNatClampNeg ≤ 12 := by decide
    refine And.intro A (And.intro A (And.intro A (And.intro A (And.intro A (And.intro rfl ?_)))))
    funext n s
    obtain ⟨k, b0, i⟩ := n
    have e12 : (12 : Int32).toNatClampNeg = 12 := by decide
    simp only [vg_st_eq, vg_cp, jPut, jCp, jRG, jV, e12]
    by_cases h1 : b0 = b
    · subst h1
      by_cases h2 : i = g'
      · subst h2
        by_cases h9 : k = 9
        · subst h9
          match s with
          | 0 | 1 | 2 | 3 | 4 | 5 | 6 | 7 => simp [hbb]
          | s + 8 =>
            simp [hbb]
            intro z
            omega
        · by_cases hr : 14 ≤ k ∧ k ≤ 18
          · rcases (show k = 14 ∨ k = 15 ∨ k = 16 ∨ k = 17 ∨ k = 18 by omega) with rfl | rfl | rfl | rfl | rfl
            all_goals (by_cases hs : s < 12 <;> simp [hs, hbb])
          · have n14 : ¬ k = 14 := by omega
            have n15 : ¬ k = 15 := by omega
            have n16 : ¬ k = 16 := by omega
            have n17 : ¬ k = 17 := by omega
            have n18 : ¬ k = 18 := by omega
            have hb2 : (decide (14 ≤ k) && decide (k ≤ 18)) = false := by
              simp only [Bool.and_eq_false_iff, decide_eq_false_iff_not]
              omega
            simp [h9, n14, n15, n16, n17, n18, hb2]
      · simp [h2]
    · simp [h1]
  next => exact h.elim
theorem c_X0_becomeLike : vg_MetF ww_tb ww_nw ww_shp ww_nm ww_cl ww_tyl yX0_becomeLike cX0_becomeLike 2 none 1 sp_X0_becomeLike := vg_met ww_closed (by decide +kernel) rfl s_X0_becomeLike w_X0_becomeLike g_X0_becomeLike
end
section
-- words of the tables, and what stands at each place of the methods' code (laid by program)
theorem q_170 : Cond.fieldLink RX1 134 (TX4 5).1 (TX4 5).2.1 (TX4 5).2.2.1 ∈ ww_tb := by decide +kernel
theorem q_171 : Cond.fieldLink RX1 15 (TX1 2).1 (TX1 2).2.1 (TX1 2).2.2.1 ∈ ww_tb := by decide +kernel
theorem q_172 : Cond.methodLink RX1 143 Lib.Math.max.name ∈ ww_tb := by decide +kernel
theorem q_173 : Cond.fieldLink RX1 160 (TX4 1).1 (TX4 1).2.1 (TX4 1).2.2.1 ∈ ww_tb := by decide +kernel
theorem q_174 : Cond.code yX1_keysLacking cX1_keysLacking 2 (some .int) ∈ ww_tb := by decide +kernel
theorem q_175 : Cond.methodLink RX1 152 yX1_keysLacking ∈ ww_tb := by decide +kernel
theorem q_176 : Cond.instanceMethod yX1_keysLacking ∈ ww_tb := by decide +kernel
theorem q_177 : Cond.selects RX1 yX1_keysLacking yX1_keysLacking ∈ ww_tb := by decide +kernel
theorem q_178 : Cond.code yX1_isStillAbout cX1_isStillAbout 3 (some .boolean) ∈ ww_tb := by decide +kernel
theorem q_179 : Cond.methodLink RX1 156 yX1_isStillAbout ∈ ww_tb := by decide +kernel
theorem q_180 : Cond.instanceMethod yX1_isStillAbout ∈ ww_tb := by decide +kernel
theorem q_181 : Cond.selects RX1 yX1_isStillAbout yX1_isStillAbout ∈ ww_tb := by decide +kernel
theorem q_182 : Cond.fieldLink RX1 163 (TX4 0).1 (TX4 0).2.1 (TX4 0).2.2.1 ∈ ww_tb := by decide +kernel
theorem dX2_becomeLike_0 : decode cX2_becomeLike 0 = .ok (.aload_n 0, 1) := by decide +kernel
theorem dX2_becomeLike_1 : decode cX2_becomeLike 1 = .ok (.aload_n 1, 1) := by decide +kernel
theorem dX2_becomeLike_2 : decode cX2_becomeLike 2 = .ok (.getfield 22, 3) := by decide +kernel
theorem dX2_becomeLike_5 : decode cX2_becomeLike 5 = .ok (.putfield 22, 3) := by decide +kernel
theorem dX2_becomeLike_8 : decode cX2_becomeLike 8 = .ok (.iconst 0, 1) := by decide +kernel
theorem dX2_becomeLike_9 : decode cX2_becomeLike 9 = .ok (.istore_n 2, 1) := by decide +kernel
theorem dX2_becomeLike_10 : decode cX2_becomeLike 10 = .ok (.iload_n 2, 1) := by decide +kernel
theorem dX2_becomeLike_11 : decode cX2_becomeLike 11 = .ok (.aload_n 0, 1) := by decide +kernel
theorem dX2_becomeLike_12 : decode cX2_becomeLike 12 = .ok (.getfield 22, 3) := by decide +kernel
theorem dX2_becomeLike_15 : decode cX2_becomeLike 15 = .ok (.if_icmp .ge 45, 3) := by decide +kernel
theorem dX2_becomeLike_18 : decode cX2_becomeLike 18 = .ok (.aload_n 0, 1) := by decide +kernel
theorem dX2_becomeLike_19 : decode cX2_becomeLike 19 = .ok (.getfield 9, 3) := by decide +kernel
theorem dX2_becomeLike_22 : decode cX2_becomeLike 22 = .ok (.iload_n 2, 1) := by decide +kernel
theorem dX2_becomeLike_23 : decode cX2_becomeLike 23 = .ok (.aload_n 1, 1) := by decide +kernel
theorem dX2_becomeLike_24 : decode cX2_becomeLike 24 = .ok (.getfield 9, 3) := by decide +kernel
theorem dX2_becomeLike_27 : decode cX2_becomeLike 27 = .ok (.iload_n 2, 1) := by decide +kernel
theorem dX2_becomeLike_28 : decode cX2_becomeLike 28 = .ok (.iaload, 1) := by decide +kernel
theorem dX2_becomeLike_29 : decode cX2_becomeLike 29 = .ok (.iastore, 1) := by decide +kernel
theorem dX2_becomeLike_30 : decode cX2_becomeLike 30 = .ok (.aload_n 0, 1) := by decide +kernel
theorem dX2_becomeLike_31 : decode cX2_becomeLike 31 = .ok (.getfield 15, 3) := by decide +kernel
theorem dX2_becomeLike_34 : decode cX2_becomeLike 34 = .ok (.iload_n 2, 1) := by decide +kernel
theorem dX2_becomeLike_35 : decode cX2_becomeLike 35 = .ok (.aload_n 1, 1) := by decide +kernel
theorem dX2_becomeLike_36 : decode cX2_becomeLike 36 = .ok (.getfield 15, 3) := by decide +kernel
theorem dX2_becomeLike_39 : decode cX2_becomeLike 39 = .ok (.iload_n 2, 1) := by decide +kernel
theorem dX2_becomeLike_40 : decode cX2_becomeLike 40 = .ok (.iaload, 1) := by decide +kernel
theorem dX2_becomeLike_41 : decode cX2_becomeLike 41 = .ok (.iastore, 1) := by decide +kernel
theorem dX2_becomeLike_42 : decode cX2_becomeLike 42 = .ok (.aload_n 0, 1) := by decide +kernel
theorem dX2_becomeLike_43 : decode cX2_becomeLike 43 = .ok (.getfield 18, 3) := by decide +kernel
theorem dX2_becomeLike_46 : decode cX2_becomeLike 46 = .ok (.iload_n 2, 1) := by decide +kernel
theorem dX2_becomeLike_47 : decode cX2_becomeLike 47 = .ok (.aload_n 1, 1) := by decide +kernel
theorem dX2_becomeLike_48 : decode cX2_becomeLike 48 = .ok (.getfield 18, 3) := by decide +kernel
theorem dX2_becomeLike_51 : decode cX2_becomeLike 51 = .ok (.iload_n 2, 1) := by decide +kernel
theorem dX2_becomeLike_52 : decode cX2_becomeLike 52 = .ok (.baload, 1) := by decide +kernel
theorem dX2_becomeLike_53 : decode cX2_becomeLike 53 = .ok (.bastore, 1) := by decide +kernel
theorem dX2_becomeLike_54 : decode cX2_becomeLike 54 = .ok (.iinc 2 1, 3) := by decide +kernel
theorem dX2_becomeLike_57 : decode cX2_becomeLike 57 = .ok (.goto (-47), 3) := by decide +kernel
theorem dX2_becomeLike_60 : decode cX2_becomeLike 60 = .ok (.return_, 1) := by decide +kernel
theorem dX2_add_0 : decode cX2_add 0 = .ok (.aload_n 0, 1) := by decide +kernel
theorem dX2_add_1 : decode cX2_add 1 = .ok (.getfield 22, 3) := by decide +kernel
theorem dX2_add_4 : decode cX2_add 4 = .ok (.iconst 4, 1) := by decide +kernel
theorem dX2_add_5 : decode cX2_add 5 = .ok (.if_icmp .le 5, 3) := by decide +kernel
theorem dX2_add_8 : decode cX2_add 8 = .ok (.iconst (-1), 1) := by decide +kernel
theorem dX2_add_9 : decode cX2_add 9 = .ok (.ireturn, 1) := by decide +kernel
theorem dX2_add_10 : decode cX2_add 10 = .ok (.aload_n 0, 1) := by decide +kernel
theorem dX2_add_11 : decode cX2_add 11 = .ok (.getfield 9, 3) := by decide +kernel
theorem dX2_add_14 : decode cX2_add 14 = .ok (.aload_n 0, 1) := by decide +kernel
theorem dX2_add_15 : decode cX2_add 15 = .ok (.getfield 22, 3) := by decide +kernel
theorem dX2_add_18 : decode cX2_add 18 = .ok (.iload_n 1, 1) := by decide +kernel
theorem dX2_add_19 : decode cX2_add 19 = .ok (.iastore, 1) := by decide +kernel
theorem dX2_add_20 : decode cX2_add 20 = .ok (.aload_n 0, 1) := by decide +kernel
theorem dX2_add_21 : decode cX2_add 21 = .ok (.getfield 15, 3) := by decide +kernel
theorem dX2_add_24 : decode cX2_add 24 = .ok (.aload_n 0, 1) := by decide +kernel
theorem dX2_add_25 : decode cX2_add 25 = .ok (.getfield 22, 3) := by decide +kernel
theorem dX2_add_28 : decode cX2_add 28 = .ok (.iload_n 2, 1) := by decide +kernel
theorem dX2_add_29 : decode cX2_add 29 = .ok (.iastore, 1) := by decide +kernel
theorem dX2_add_30 : decode cX2_add 30 = .ok (.aload_n 0, 1) := by decide +kernel
theorem dX2_add_31 : decode cX2_add 31 = .ok (.getfield 18, 3) := by decide +kernel
theorem dX2_add_34 : decode cX2_add 34 = .ok (.aload_n 0, 1) := by decide +kernel
theorem dX2_add_35 : decode cX2_add 35 = .ok (.getfield 22, 3) := by decide +kernel
theorem dX2_add_38 : decode cX2_add 38 = .ok (.iconst 1, 1) := by decide +kernel
theorem dX2_add_39 : decode cX2_add 39 = .ok (.bastore, 1) := by decide +kernel
theorem dX2_add_40 : decode cX2_add 40 = .ok (.aload_n 0, 1) := by decide +kernel
theorem dX2_add_41 : decode cX2_add 41 = .ok (.dup, 1) := by decide +kernel
theorem dX2_add_42 : decode cX2_add 42 = .ok (.getfield 22, 3) := by decide +kernel
theorem dX2_add_45 : decode cX2_add 45 = .ok (.dup_x1, 1) := by decide +kernel
theorem dX2_add_46 : decode cX2_add 46 = .ok (.iconst 1, 1) := by decide +kernel
theorem dX2_add_47 : decode cX2_add 47 = .ok (.iadd, 1) := by decide +kernel
theorem dX2_add_48 : decode cX2_add 48 = .ok (.putfield 22, 3) := by decide +kernel
theorem dX2_add_51 : decode cX2_add 51 = .ok (.ireturn, 1) := by decide +kernel
theorem dX1_keysLacking_0 : decode cX1_keysLacking 0 = .ok (.iconst 0, 1) := by decide +kernel
theorem dX1_keysLacking_1 : decode cX1_keysLacking 1 = .ok (.iconst 2, 1) := by decide +kernel
theorem dX1_keysLacking_2 : decode cX1_keysLacking 2 = .ok (.aload_n 1, 1) := by decide +kernel
theorem dX1_keysLacking_3 : decode cX1_keysLacking 3 = .ok (.getfield 134, 3) := by decide +kernel
theorem dX1_keysLacking_6 : decode cX1_keysLacking 6 = .ok (.aload_n 0, 1) := by decide +kernel
theorem dX1_keysLacking_7 : decode cX1_keysLacking 7 = .ok (.getfield 15, 3) := by decide +kernel
theorem dX1_keysLacking_10 : decode cX1_keysLacking 10 = .ok (.iand, 1) := by decide +kernel
theorem dX1_keysLacking_11 : decode cX1_keysLacking 11 = .ok (.invokestatic 137, 3) := by decide +kernel
theorem dX1_keysLacking_14 : decode cX1_keysLacking 14 = .ok (.isub, 1) := by decide +kernel
theorem dX1_keysLacking_15 : decode cX1_keysLacking 15 = .ok (.invokestatic 143, 3) := by decide +kernel
theorem dX1_keysLacking_18 : decode cX1_keysLacking 18 = .ok (.ireturn, 1) := by decide +kernel
theorem dX1_isStillAbout_0 : decode cX1_isStillAbout 0 = .ok (.aload_n 1, 1) := by decide +kernel
theorem dX1_isStillAbout_1 : decode cX1_isStillAbout 1 = .ok (.getfield 160, 3) := by decide +kernel
theorem dX1_isStillAbout_4 : decode cX1_isStillAbout 4 = .ok (.istore_n 2, 1) := by decide +kernel
theorem dX1_isStillAbout_5 : decode cX1_isStillAbout 5 = .ok (.iload_n 2, 1) := by decide +kernel
theorem dX1_isStillAbout_6 : decode cX1_isStillAbout 6 = .ok (.ifCond .lt 23, 3) := by decide +kernel
theorem dX1_isStillAbout_9 : decode cX1_isStillAbout 9 = .ok (.iload_n 2, 1) := by decide +kernel
theorem dX1_isStillAbout_10 : decode cX1_isStillAbout 10 = .ok (.aload_n 0, 1) := by decide +kernel
theorem dX1_isStillAbout_11 : decode cX1_isStillAbout 11 = .ok (.getfield 68, 3) := by decide +kernel
theorem dX1_isStillAbout_14 : decode cX1_isStillAbout 14 = .ok (.if_icmp .ge 15, 3) := by decide +kernel
theorem dX1_isStillAbout_17 : decode cX1_isStillAbout 17 = .ok (.aload_n 0, 1) := by decide +kernel
theorem dX1_isStillAbout_18 : decode cX1_isStillAbout 18 = .ok (.getfield 32, 3) := by decide +kernel
theorem dX1_isStillAbout_21 : decode cX1_isStillAbout 21 = .ok (.iload_n 2, 1) := by decide +kernel
theorem dX1_isStillAbout_22 : decode cX1_isStillAbout 22 = .ok (.aaload, 1) := by decide +kernel
theorem dX1_isStillAbout_23 : decode cX1_isStillAbout 23 = .ok (.getfield 112, 3) := by decide +kernel
theorem dX1_isStillAbout_26 : decode cX1_isStillAbout 26 = .ok (.ifCond .eq 7, 3) := by decide +kernel
theorem dX1_isStillAbout_29 : decode cX1_isStillAbout 29 = .ok (.iconst 1, 1) := by decide +kernel
theorem dX1_isStillAbout_30 : decode cX1_isStillAbout 30 = .ok (.goto 4, 3) := by decide +kernel
theorem dX1_isStillAbout_33 : decode cX1_isStillAbout 33 = .ok (.iconst 0, 1) := by decide +kernel
theorem dX1_isStillAbout_34 : decode cX1_isStillAbout 34 = .ok (.ireturn, 1) := by decide +kernel
theorem dX1_isSendable_0 : decode cX1_isSendable 0 = .ok (.aload_n 1, 1) := by decide +kernel
theorem dX1_isSendable_1 : decode cX1_isSendable 1 = .ok (.getfield 149, 3) := by decide +kernel
theorem dX1_isSendable_4 : decode cX1_isSendable 4 = .ok (.iconst (-1), 1) := by decide +kernel
theorem dX1_isSendable_5 : decode cX1_isSendable 5 = .ok (.if_icmp .ne 23, 3) := by decide +kernel
theorem dX1_isSendable_8 : decode cX1_isSendable 8 = .ok (.aload_n 0, 1) := by decide +kernel
theorem dX1_isSendable_9 : decode cX1_isSendable 9 = .ok (.aload_n 1, 1) := by decide +kernel
theorem dX1_isSendable_10 : decode cX1_isSendable 10 = .ok (.invokevirtual 152, 3) := by decide +kernel
theorem dX1_isSendable_13 : decode cX1_isSendable 13 = .ok (.ifCond .ne 15, 3) := by decide +kernel
theorem dX1_isSendable_16 : decode cX1_isSendable 16 = .ok (.aload_n 0, 1) := by decide +kernel
theorem dX1_isSendable_17 : decode cX1_isSendable 17 = .ok (.aload_n 1, 1) := by decide +kernel
theorem dX1_isSendable_18 : decode cX1_isSendable 18 = .ok (.invokevirtual 156, 3) := by decide +kernel
theorem dX1_isSendable_21 : decode cX1_isSendable 21 = .ok (.ifCond .eq 7, 3) := by decide +kernel
theorem dX1_isSendable_24 : decode cX1_isSendable 24 = .ok (.iconst 1, 1) := by decide +kernel
theorem dX1_isSendable_25 : decode cX1_isSendable 25 = .ok (.goto 4, 3) := by decide +kernel
theorem dX1_isSendable_28 : decode cX1_isSendable 28 = .ok (.iconst 0, 1) := by decide +kernel
theorem dX1_isSendable_29 : decode cX1_isSendable 29 = .ok (.ireturn, 1) := by decide +kernel
theorem dX1_sendOut_0 : decode cX1_sendOut 0 = .ok (.aload_n 1, 1) := by decide +kernel
theorem dX1_sendOut_1 : decode cX1_sendOut 1 = .ok (.getfield 160, 3) := by decide +kernel
theorem dX1_sendOut_4 : decode cX1_sendOut 4 = .ok (.istore_n 2, 1) := by decide +kernel
theorem dX1_sendOut_5 : decode cX1_sendOut 5 = .ok (.aload_n 1, 1) := by decide +kernel
theorem dX1_sendOut_6 : decode cX1_sendOut 6 = .ok (.aload_n 0, 1) := by decide +kernel
theorem dX1_sendOut_7 : decode cX1_sendOut 7 = .ok (.getfield 56, 3) := by decide +kernel
theorem dX1_sendOut_10 : decode cX1_sendOut 10 = .ok (.putfield 149, 3) := by decide +kernel
theorem dX1_sendOut_13 : decode cX1_sendOut 13 = .ok (.aload_n 1, 1) := by decide +kernel
theorem dX1_sendOut_14 : decode cX1_sendOut 14 = .ok (.aload_n 1, 1) := by decide +kernel
theorem dX1_sendOut_15 : decode cX1_sendOut 15 = .ok (.getfield 163, 3) := by decide +kernel
theorem dX1_sendOut_18 : decode cX1_sendOut 18 = .ok (.iconst 2, 1) := by decide +kernel
theorem dX1_sendOut_19 : decode cX1_sendOut 19 = .ok (.if_icmp .eq 7, 3) := by decide +kernel
theorem dX1_sendOut_22 : decode cX1_sendOut 22 = .ok (.iconst 1, 1) := by decide +kernel
theorem dX1_sendOut_23 : decode cX1_sendOut 23 = .ok (.goto 4, 3) := by decide +kernel
theorem dX1_sendOut_26 : decode cX1_sendOut 26 = .ok (.iconst 0, 1) := by decide +kernel
theorem dX1_sendOut_27 : decode cX1_sendOut 27 = .ok (.putfield 112, 3) := by decide +kernel
theorem dX1_sendOut_30 : decode cX1_sendOut 30 = .ok (.iload_n 2, 1) := by decide +kernel
theorem dX1_sendOut_31 : decode cX1_sendOut 31 = .ok (.ifCond .lt 11, 3) := by decide +kernel
theorem dX1_sendOut_34 : decode cX1_sendOut 34 = .ok (.iload_n 2, 1) := by decide +kernel
theorem dX1_sendOut_35 : decode cX1_sendOut 35 = .ok (.aload_n 0, 1) := by decide +kernel
theorem dX1_sendOut_36 : decode cX1_sendOut 36 = .ok (.getfield 68, 3) := by decide +kernel
theorem dX1_sendOut_39 : decode cX1_sendOut 39 = .ok (.if_icmp .lt 4, 3) := by decide +kernel
theorem dX1_sendOut_42 : decode cX1_sendOut 42 = .ok (.return_, 1) := by decide +kernel
theorem dX1_sendOut_43 : decode cX1_sendOut 43 = .ok (.aload_n 0, 1) := by decide +kernel
theorem dX1_sendOut_44 : decode cX1_sendOut 44 = .ok (.getfield 32, 3) := by decide +kernel
theorem dX1_sendOut_47 : decode cX1_sendOut 47 = .ok (.iload_n 2, 1) := by decide +kernel
theorem dX1_sendOut_48 : decode cX1_sendOut 48 = .ok (.aaload, 1) := by decide +kernel
theorem dX1_sendOut_49 : decode cX1_sendOut 49 = .ok (.iconst 0, 1) := by decide +kernel
theorem dX1_sendOut_50 : decode cX1_sendOut 50 = .ok (.putfield 112, 3) := by decide +kernel
theorem dX1_sendOut_53 : decode cX1_sendOut 53 = .ok (.aload_n 1, 1) := by decide +kernel
theorem dX1_sendOut_54 : decode cX1_sendOut 54 = .ok (.getfield 163, 3) := by decide +kernel
theorem dX1_sendOut_57 : decode cX1_sendOut 57 = .ok (.iconst 2, 1) := by decide +kernel
theorem dX1_sendOut_58 : decode cX1_sendOut 58 = .ok (.if_icmp .ne 12, 3) := by decide +kernel
theorem dX1_sendOut_61 : decode cX1_sendOut 61 = .ok (.aload_n 0, 1) := by decide +kernel
theorem dX1_sendOut_62 : decode cX1_sendOut 62 = .ok (.iload_n 2, 1) := by decide +kernel
theorem dX1_sendOut_63 : decode cX1_sendOut 63 = .ok (.invokevirtual 166, 3) := by decide +kernel
theorem dX1_sendOut_66 : decode cX1_sendOut 66 = .ok (.aload_n 0, 1) := by decide +kernel
theorem dX1_sendOut_67 : decode cX1_sendOut 67 = .ok (.invokevirtual 170, 3) := by decide +kernel
theorem dX1_sendOut_70 : decode cX1_sendOut 70 = .ok (.return_, 1) := by decide +kernel
/-! senders become like others; what can be sent, and sending -/
theorem jinW {x c : Int32} {n N : Nat} (h0 : ¬ x < 0) (h1 : ¬ c ≤ x) (hc : c = nI n) (hn : n ≤ N) (hN : N < 1000) : vp_in x N := by
  rw [vp_in_iff]
  have a := Int32.not_lt.mp h0
  have d := Int32.not_le.mp h1
  rw [Int32.le_iff_toInt_le] at a
  rw [hc, Int32.lt_iff_toInt_lt, nI_toInt (by omega)] at d
  have z : (0 : Int32).toInt = 0 := by decide
  omega
def jRo (R : Nat → Nat → Nat → Bool) (k i s : Nat) : Nat → Nat → Nat → Bool := fun k' i' s' => R k' i' s' || (k' == k && i' == i && s' == s)
theorem jCp_up {R : Nat → Nat → Nat → Bool} {w v : jN} {k i s : Nat} {x : Int32} (hx : x = w k i s) : jUp (jCp R w v) k i s x = jCp (jRo R k i s) w v := by
  subst hx
  funext k' i' s'
  unfold jUp jCp jRo
  by_cases h : k' = k ∧ i' = i ∧ s' = s
  · obtain ⟨rfl, rfl, rfl⟩ := h
    simp
  · rw [if_neg h]
    have e : (k' == k && i' == i && s' == s) = false := by
      rw [Bool.eq_false_iff]
      intro z
      simp only [Bool.and_eq_true, beq_iff_eq] at z
      exact h ⟨z.1.1, z.1.2, z.2⟩
    rw [e, Bool.or_false]
theorem jCp_cg {R R' : Nat → Nat → Nat → Bool} {w v : jN} (h : ∀ k i s, (R k i s = true ↔ R' k i s = true)) : jCp R w v = jCp R' w v := by
  funext k i s
  unfold jCp
  rw [Bool.eq_iff_iff.mpr (h k i s)]
theorem jCp_cp {R R' : Nat → Nat → Nat → Bool} {w v : jN} : jCp R w (jCp R' w v) = jCp (fun k i s => R k i s || R' k i s) w v := by
  funext k i s
  unfold jCp
  by_cases h : R k i s = true
  · simp [h]
  · simp [h]
theorem jCp_t {R : Nat → Nat → Nat → Bool} {w v : jN} {k i s : Nat} (h : R k i s = true) : jCp R w v k i s = w k i s := if_pos h
theorem jCp_f {R : Nat → Nat → Nat → Bool} {w v : jN} {k i s : Nat} (h : ¬ R k i s = true) : jCp R w v k i s = v k i s := if_neg h
def jRS (j n : Nat) : Nat → Nat → Nat → Bool := fun k i s => i == j && ((k == 5 && s == 3) || ((k == 7 || k == 13 || k == 8) && decide (s < n)))
theorem jRS_0 {w v : jN} {j : Nat} {x : Int32} (hx : x = w 5 j 3) : jUp v 5 j 3 x = jCp (jRS j 0) w v := by
  subst hx
  funext k i s
  unfold jUp jCp jRS
  by_cases h : k = 5 ∧ i = j ∧ s = 3
  · obtain ⟨rfl, rfl, rfl⟩ := h
    simp
  · rw [if_neg h, if_neg ?_]
    intro z
    simp only [Bool.and_eq_true, Bool.or_eq_true, beq_iff_eq, decide_eq_true_eq] at z
    omega
theorem jRS_s {w v : jN} {j n : Nat} : jCp (jRo (jRo (jRo (jRS j n) 7 j n) 13 j n) 8 j n) w v = jCp (jRS j (n + 1)) w v := by
  refine jCp_cg (fun k i s => ?_)
  unfold jRo jRS
  simp only [Bool.and_eq_true, Bool.or_eq_true, beq_iff_eq, decide_eq_true_eq]
  omega
def sp_X2_becomeLike : vgC := fun av σ => match av with
  | [.inr (5, b, j), .inr (5, b', j')] => (j' = j ∧ ¬ b' = b ∧ (jV σ b' 5 j 3 = nI (jNc (jV σ b') j) ∧ jNc (jV σ b') j ≤ 5) ∧ ∀ s, s < 5 → jV σ b' 8 j s = 0 ∨ jV σ b' 8 j s = 1, none, jPut σ b (jCp (jRS j (jNc (jV σ b') j)) (jV σ b') (jV σ b)))
  | _ => (False, none, σ)
def k_X2_becomeLike : List (Nat × vgF) := [(0, vi_aload 0 1), (1, vi_aload 1 2), (2, vi_get ww_shp 2 3 5), (5, vi_put ww_shp 2 3 8), (8, vi_icst (0) 9), (9, vi_istore 2 10), (10, vi_iload 2 11), (11, vi_aload 0 12), (12, vi_get ww_shp 2 3 15), (15, vi_cmp (fun x y => y ≤ x) 60 18), (18, vi_aload 0 19), (19, vi_get ww_shp 2 0 22), (22, vi_iload 2 23), (23, vi_aload 1 24), (24, vi_get ww_shp 2 0 27), (27, vi_iload 2 28), (28, vi_ald ww_shp 0 29), (29, vi_ast ww_shp 0 30), (30, vi_aload 0 31), (31, vi_get ww_shp 2 1 34), (34, vi_iload 2 35), (35, vi_aload 1 36), (36, vi_get ww_shp 2 1 39), (39, vi_iload 2 40), (40, vi_ald ww_shp 0 41), (41, vi_ast ww_shp 0 42), (42, vi_aload 0 43), (43, vi_get ww_shp 2 2 46), (46, vi_iload 2 47), (47, vi_aload 1 48), (48, vi_get ww_shp 2 2 51), (51, vi_iload 2 52), (52, vi_ald ww_shp 1 53), (53, vi_astZ ww_shp 1 54), (54, vi_iinc 2 (1) 57), (57, vi_goto 10), (60, vi_retV)]
set_option maxRecDepth 20000 in
theorem s_X2_becomeLike : ∀ q ∈ k_X2_becomeLike, vg_Snd ww_tb ww_nw ww_shp ww_nm ww_cl ww_tyl cX2_becomeLike 3 RX2 none 0 q.1 q.2 := by
  refine vg_cons (vs_aload_n dX2_becomeLike_0 rfl rfl) ?_
  refine vg_cons (vs_aload_n dX2_becomeLike_1 rfl rfl) ?_
  refine vg_cons (vs_getfield (T := TX2) dX2_becomeLike_2 rfl (by decide) ww_inX2 q_64 rfl) ?_
  refine vg_cons (vs_putfield (T := TX2) tyX2 dX2_becomeLike_5 rfl (by decide) ww_inX2 tyX2_ok nmX2 rfl rfl q_64 rfl) ?_
  refine vg_cons (vs_iconst dX2_becomeLike_8 rfl rfl) ?_
  refine vg_cons (vs_istore_n dX2_becomeLike_9 rfl (by decide) rfl) ?_
  refine vg_cons (vs_iload_n dX2_becomeLike_10 rfl rfl) ?_
  refine vg_cons (vs_aload_n dX2_becomeLike_11 rfl rfl) ?_
  refine vg_cons (vs_getfield (T := TX2) dX2_becomeLike_12 rfl (by decide) ww_inX2 q_64 rfl) ?_
  refine vg_cons (vs_cmp_ge dX2_becomeLike_15 (by decide) rfl) ?_
  refine vg_cons (vs_aload_n dX2_becomeLike_18 rfl rfl) ?_
  refine vg_cons (vs_getfield (T := TX2) dX2_becomeLike_19 rfl (by decide) ww_inX2 q_66 rfl) ?_
  refine vg_cons (vs_iload_n dX2_becomeLike_22 rfl rfl) ?_
  refine vg_cons (vs_aload_n dX2_becomeLike_23 rfl rfl) ?_
  refine vg_cons (vs_getfield (T := TX2) dX2_becomeLike_24 rfl (by decide) ww_inX2 q_66 rfl) ?_
  refine vg_cons (vs_iload_n dX2_becomeLike_27 rfl rfl) ?_
  refine vg_cons (vs_iaload dX2_becomeLike_28 rfl rfl) ?_
  refine vg_cons (vs_iastore dX2_becomeLike_29 rfl rfl) ?_
  refine vg_cons (vs_aload_n dX2_becomeLike_30 rfl rfl) ?_
  refine vg_cons (vs_getfield (T := TX2) dX2_becomeLike_31 rfl (by decide) ww_inX2 q_67 rfl) ?_
  refine vg_cons (vs_iload_n dX2_becomeLike_34 rfl rfl) ?_
  refine vg_cons (vs_aload_n dX2_becomeLike_35 rfl rfl) ?_
  refine vg_cons (vs_getfield (T := TX2) dX2_becomeLike_36 rfl (by decide) ww_inX2 q_67 rfl) ?_
  refine vg_cons (vs_iload_n dX2_becomeLike_39 rfl rfl) ?_
  refine vg_cons (vs_iaload dX2_becomeLike_40 rfl rfl) ?_
  refine vg_cons (vs_iastore dX2_becomeLike_41 rfl rfl) ?_
  refine vg_cons (vs_aload_n dX2_becomeLike_42 rfl rfl) ?_
  refine vg_cons (vs_getfield (T := TX2) dX2_becomeLike_43 rfl (by decide) ww_inX2 q_65 rfl) ?_
  refine vg_cons (vs_iload_n dX2_becomeLike_46 rfl rfl) ?_
  refine vg_cons (vs_aload_n dX2_becomeLike_47 rfl rfl) ?_
  refine vg_cons (vs_getfield (T := TX2) dX2_becomeLike_48 rfl (by decide) ww_inX2 q_65 rfl) ?_
  refine vg_cons (vs_iload_n dX2_becomeLike_51 rfl rfl) ?_
  refine vg_cons (vs_zaload dX2_becomeLike_52 rfl rfl) ?_
  refine vg_cons (vs_zastore dX2_becomeLike_53 rfl rfl) ?_
  refine vg_cons (vs_iinc dX2_becomeLike_54 rfl rfl) ?_
  refine vg_cons (vs_goto dX2_becomeLike_57 (by decide)) ?_
  refine vg_cons (vs_return dX2_becomeLike_60 rfl) ?_
  exact fun _ h => absurd h List.not_mem_nil
theorem m_X2_becomeLike : vg_Code k_X2_becomeLike := fun q h => (s_X2_becomeLike q h).1

theorem w_X2_becomeLike : vg_Wd sp_X2_becomeLike 3 := by
  intro av σ h
  unfold sp_X2_becomeLike at h
  split at h
  · exact Nat.le_of_ble_eq_true rfl
  · exact h.elim
theorem g_X2_becomeLike : vg_G k_X2_becomeLike sp_X2_becomeLike := by
  intro av σ h
  unfold sp_X2_becomeLike at h ⊢
  split at h
  next b j b' j' =>
    obtain ⟨rfl, hbb, hn, hz⟩ := h
    have h5 := hn.2
    refine vg_run (cuts := [(10, [0, 1, 2])]) m_X2_becomeLike 20 ?_
    refine vg_loop (fun i lv σ' => ∃ x, σ' = jPut σ b (jCp (jRS j' i) (jV σ b') (jV σ b)) ∧ x = nI i ∧ lv = [(0, .inr (5, b, j')), (1, .inr (5, b', j')), (2, .inl (.int x))]) (jNc (jV σ b') j') ?_ ?_ 0 _ _ (Nat.zero_le _) ⟨0, ?_, rfl, rfl⟩
    · rintro i lv σ' hi ⟨x, rfl, hx, rfl⟩ ih
      have hc0 : x.toNatClampNeg = i := jcl hx (by omega)
      have hv : vp_in x 5 := jin hx (by omega) (by decide)
      have hcnt : jPut σ b (jCp (jRS j' i) (jV σ b') (jV σ b)) (5, b, j') 3 = nI (jNc (jV σ b') j') := by rw [jPut_at, jCp_t (by simp [jRS])]; exact hn.1
      have hr : ∀ v k s, jPut σ b v (k, b', j') s = jV σ b' k j' s := fun v k s => jPut_ne hbb
      refine vg_run (cuts := [(10, [0, 1, 2])]) m_X2_becomeLike 60 ?_
      refine And.intro (fun hc => absurd ((jle hcnt hx (by omega) (by omega)).mp hc) (by omega)) (fun _ => ?_)
      refine And.intro hv (And.intro hv (And.intro hv (And.intro hv (And.intro hv (And.intro (And.intro hv ?_) ?_)))))
      · dsimp only
        rw [hc0, jst, jst, hr]
        exact hz i (by omega)
      · refine ih _ _ ⟨x + 1, ?_, jinc hx, rfl⟩
        dsimp only
        rw [hc0, jst, jst, jst, hr, hr, hr, jCp_up rfl, jCp_up rfl, jCp_up rfl, jRS_s]
    · rintro lv σ' ⟨x, rfl, hx, rfl⟩
      have hcnt : jPut σ b (jCp (jRS j' (jNc (jV σ b') j')) (jV σ b') (jV σ b)) (5, b, j') 3 = nI (jNc (jV σ b') j') := by rw [jPut_at, jCp_t (by simp [jRS])]; exact hn.1
      refine vg_run (cuts := [(10, [0, 1, 2])]) m_X2_becomeLike 20 ?_
      exact And.intro (fun _ => And.intro rfl rfl) (fun hc => absurd ((jle hcnt hx (by omega) (by omega)).mpr (Nat.le_refl _)) hc)
    · rw [jst0]
      exact congrArg _ (jRS_0 rfl)
  next => exact h.elim
theorem c_X2_becomeLike : vg_MetF ww_tb ww_nw ww_shp ww_nm ww_cl ww_tyl yX2_becomeLike cX2_becomeLike 3 none 0 sp_X2_becomeLike := vg_met ww_closed (by decide +kernel) rfl s_X2_becomeLike w_X2_becomeLike g_X2_becomeLike
/-- one more siren or mast -/
def jAddS (v : jN) (j : Nat) (c r : Int32) : jN := jUp (jUp (jUp (jUp v 7 j (jNc v j) c) 13 j (jNc v j) r) 8 j (jNc v j) 1) 5 j 3 (v 5 j 3 + 1)
def sp_X2_add : vgC := fun av σ => match av with
  | [.inr (5, b, j), .inl (.int c), .inl (.int r)] => (jV σ b 5 j 3 = nI (jNc (jV σ b) j) ∧ jNc (jV σ b) j ≤ 4, some (.inl (.int (jV σ b 5 j 3))), jPut σ b (jAddS (jV σ b) j c r))
  | _ => (False, none, σ)
def k_X2_add : List (Nat × vgF) := [(0, vi_aload 0 1), (1, vi_get ww_shp 2 3 4), (4, vi_icst (4) 5), (5, vi_cmp (fun x y => x ≤ y) 10 8), (8, vi_icst (-1) 9), (9, vi_ret), (10, vi_aload 0 11), (11, vi_get ww_shp 2 0 14), (14, vi_aload 0 15), (15, vi_get ww_shp 2 3 18), (18, vi_iload 1 19), (19, vi_ast ww_shp 0 20), (20, vi_aload 0 21), (21, vi_get ww_shp 2 1 24), (24, vi_aload 0 25), (25, vi_get ww_shp 2 3 28), (28, vi_iload 2 29), (29, vi_ast ww_shp 0 30), (30, vi_aload 0 31), (31, vi_get ww_shp 2 2 34), (34, vi_aload 0 35), (35, vi_get ww_shp 2 3 38), (38, vi_icst (1) 39), (39, vi_astZ ww_shp 1 40), (40, vi_aload 0 41), (41, vi_dup 42), (42, vi_get ww_shp 2 3 45), (45, vi_dupx1 46), (46, vi_icst (1) 47), (47, vi_bin (fun x y => x + y) 48), (48, vi_put ww_shp 2 3 51), (51, vi_ret)]
set_option maxRecDepth 20000 in
theorem s_X2_add : ∀ q ∈ k_X2_add, vg_Snd ww_tb ww_nw ww_shp ww_nm ww_cl ww_tyl cX2_add 3 RX2 (some .int) 0 q.1 q.2 := by
  refine vg_cons (vs_aload_n dX2_add_0 rfl rfl) ?_
  refine vg_cons (vs_getfield (T := TX2) dX2_add_1 rfl (by decide) ww_inX2 q_64 rfl) ?_
  refine vg_cons (vs_iconst dX2_add_4 rfl rfl) ?_
  refine vg_cons (vs_cmp_le dX2_add_5 (by decide) rfl) ?_
  refine vg_cons (vs_iconst dX2_add_8 rfl rfl) ?_
  refine vg_cons (vs_ireturn dX2_add_9 rfl) ?_
  refine vg_cons (vs_aload_n dX2_add_10 rfl rfl) ?_
  refine vg_cons (vs_getfield (T := TX2) dX2_add_11 rfl (by decide) ww_inX2 q_66 rfl) ?_
  refine vg_cons (vs_aload_n dX2_add_14 rfl rfl) ?_
  refine vg_cons (vs_getfield (T := TX2) dX2_add_15 rfl (by decide) ww_inX2 q_64 rfl) ?_
  refine vg_cons (vs_iload_n dX2_add_18 rfl rfl) ?_
  refine vg_cons (vs_iastore dX2_add_19 rfl rfl) ?_
  refine vg_cons (vs_aload_n dX2_add_20 rfl rfl) ?_
  refine vg_cons (vs_getfield (T := TX2) dX2_add_21 rfl (by decide) ww_inX2 q_67 rfl) ?_
  refine vg_cons (vs_aload_n dX2_add_24 rfl rfl) ?_
  refine vg_cons (vs_getfield (T := TX2) dX2_add_25 rfl (by decide) ww_inX2 q_64 rfl) ?_
  refine vg_cons (vs_iload_n dX2_add_28 rfl rfl) ?_
  refine vg_cons (vs_iastore dX2_add_29 rfl rfl) ?_
  refine vg_cons (vs_aload_n dX2_add_30 rfl rfl) ?_
  refine vg_cons (vs_getfield (T := TX2) dX2_add_31 rfl (by decide) ww_inX2 q_65 rfl) ?_
  refine vg_cons (vs_aload_n dX2_add_34 rfl rfl) ?_
  refine vg_cons (vs_getfield (T := TX2) dX2_add_35 rfl (by decide) ww_inX2 q_64 rfl) ?_
  refine vg_cons (vs_iconst dX2_add_38 rfl rfl) ?_
  refine vg_cons (vs_zastore dX2_add_39 rfl rfl) ?_
  refine vg_cons (vs_aload_n dX2_add_40 rfl rfl) ?_
  refine vg_cons (vs_dup dX2_add_41 rfl) ?_
  refine vg_cons (vs_getfield (T := TX2) dX2_add_42 rfl (by decide) ww_inX2 q_64 rfl) ?_
  refine vg_cons (vs_dup_x1 dX2_add_45 rfl) ?_
  refine vg_cons (vs_iconst dX2_add_46 rfl rfl) ?_
  refine vg_cons (vs_iadd dX2_add_47 rfl) ?_
  refine vg_cons (vs_putfield (T := TX2) tyX2 dX2_add_48 rfl (by decide) ww_inX2 tyX2_ok nmX2 rfl rfl q_64 rfl) ?_
  refine vg_cons (vs_ireturn dX2_add_51 rfl) ?_
  exact fun _ h => absurd h List.not_mem_nil
theorem m_X2_add : vg_Code k_X2_add := fun q h => (s_X2_add q h).1

theorem w_X2_add : vg_Wd sp_X2_add 3 := by
  intro av σ h
  unfold sp_X2_add at h
  split at h
  · exact Nat.le_of_ble_eq_true rfl
  · exact h.elim
theorem g_X2_add : vg_G k_X2_add sp_X2_add := by
  intro av σ h
  unfold sp_X2_add at h ⊢
  split at h
  next b j c r =>
    obtain ⟨hn, h4⟩ := h
    have hv : vp_in (jV σ b 5 j 3) 5 := jin hn (by omega) (by decide)
    refine vg_run (cuts := []) m_X2_add 60 ?_
    refine And.intro (fun _ => ?_) (fun hc => absurd ((jle (n := jNc (jV σ b) j) (i := 4) hn rfl (by omega) (by omega)).mpr h4) hc)
    have hr : ∀ (σ' : vgS) k x y, ¬ 5 = k → vg_st σ' (k, b, j) x y (5, b, j) 3 = σ' (5, b, j) 3 := by
      intro σ' k x y hk
      rw [vg_st_eq, if_neg]
      exact fun z => hk (congrArg Prod.fst z.1)
    refine And.intro hv (And.intro ?_ (And.intro (And.intro ?_ (Or.inr rfl)) (And.intro rfl (And.intro ⟨rfl, rfl⟩ ?_))))
    · dsimp only
      rw [hr _ _ _ _ (by decide)]
      exact hv
    · dsimp only
      rw [hr _ _ _ _ (by decide), hr _ _ _ _ (by decide)]
      exact hv
    · refine And.intro ?_ ?_
      · dsimp only
        rw [hr _ _ _ _ (by decide), hr _ _ _ _ (by decide), hr _ _ _ _ (by decide)]
        rfl
      · dsimp only
        simp only [hr _ 7 _ _ (by decide), hr _ 13 _ _ (by decide), hr _ 8 _ _ (by decide)]
        rw [jst0 (k := 7), jst, jst, jst]
        rfl
  next => exact h.elim
theorem c_X2_add : vg_MetF ww_tb ww_nw ww_shp ww_nm ww_cl ww_tyl yX2_add cX2_add 3 (some .int) 0 sp_X2_add := vg_met ww_closed (by decide +kernel) rfl s_X2_add w_X2_add g_X2_add
/-- how many approvals in hand are lacking -/
def jLack (v : jN) (w : Nat) : Int32 := if (0 : Int32) < 2 - jBits (v 11 w 5 &&& v 1 0 2) then 2 - jBits (v 11 w 5 &&& v 1 0 2) else 0
abbrev jStill (v : jN) (w : Nat) : Prop := v 11 w 1 < 0 ∨ v 1 0 6 ≤ v 11 w 1 ∨ ¬ v 11 (v 11 w 1).toNatClampNeg 7 = 0

abbrev jCan (v : jN) (w : Nat) : Prop := v 11 w 6 = -1 ∧ jLack v w = 0 ∧ jStill v w

def sp_X1_keysLacking : vgC := fun av σ => match av with
  | [.inr (1, b, 0), .inr (11, b', w)] => (b' = b, some (.inl (.int (jLack (jV σ b) w))), σ)
  | _ => (False, none, σ)
def k_X1_keysLacking : List (Nat × vgF) := [(0, vi_icst (0) 1), (1, vi_icst (2) 2), (2, vi_aload 1 3), (3, vi_get ww_shp 4 5 6), (6, vi_aload 0 7), (7, vi_get ww_shp 1 2 10), (10, vi_bin (fun x y => x &&& y) 11), (11, vi_callS sp_J6_bitCount_0f7a4 1 14), (14, vi_bin (fun x y => x - y) 15), (15, vi_max 18), (18, vi_ret)]
set_option maxRecDepth 20000 in
theorem s_X1_keysLacking : ∀ q ∈ k_X1_keysLacking, vg_Snd ww_tb ww_nw ww_shp ww_nm ww_cl ww_tyl cX1_keysLacking 2 RX1 (some .int) 1 q.1 q.2 := by
  refine vg_cons (vs_iconst dX1_keysLacking_0 rfl rfl) ?_
  refine vg_cons (vs_iconst dX1_keysLacking_1 rfl rfl) ?_
  refine vg_cons (vs_aload_n dX1_keysLacking_2 rfl rfl) ?_
  refine vg_cons (vs_getfield (T := TX4) dX1_keysLacking_3 rfl (by decide) ww_inX4 q_170 rfl) ?_
  refine vg_cons (vs_aload_n dX1_keysLacking_6 rfl rfl) ?_
  refine vg_cons (vs_getfield (T := TX1) dX1_keysLacking_7 rfl (by decide) ww_inX1 q_171 rfl) ?_
  refine vg_cons (vs_iand dX1_keysLacking_10 rfl) ?_
  refine vg_cons (vs_callS c_J6_bitCount_0f7a4 dX1_keysLacking_11 ww_good q_108 q_109 q_111 q_110 (by decide +kernel) (by decide) rfl) ?_
  refine vg_cons (vs_isub dX1_keysLacking_14 rfl) ?_
  refine vg_cons (vs_max dX1_keysLacking_15 q_172 q_8 q_2 q_9 (by decide) rfl) ?_
  refine vg_cons (vs_ireturn dX1_keysLacking_18 rfl) ?_
  exact fun _ h => absurd h List.not_mem_nil
theorem m_X1_keysLacking : vg_Code k_X1_keysLacking := fun q h => (s_X1_keysLacking q h).1

theorem w_X1_keysLacking : vg_Wd sp_X1_keysLacking 2 := by
  intro av σ h
  unfold sp_X1_keysLacking at h
  split at h
  · exact Nat.le_of_ble_eq_true rfl
  · exact h.elim
theorem g_X1_keysLacking : vg_G k_X1_keysLacking sp_X1_keysLacking := by
  intro av σ h
  unfold sp_X1_keysLacking at h ⊢
  split at h
  next b b' w =>
    subst h
    refine vg_run (cuts := []) m_X1_keysLacking 30 ?_
    exact And.intro trivial (And.intro rfl rfl)
  next => exact h.elim
theorem c_X1_keysLacking : vg_MetF ww_tb ww_nw ww_shp ww_nm ww_cl ww_tyl yX1_keysLacking cX1_keysLacking 2 (some .int) 1 sp_X1_keysLacking := vg_met ww_closed (by decide +kernel) rfl s_X1_keysLacking w_X1_keysLacking g_X1_keysLacking
def sp_X1_isStillAbout : vgC := fun av σ => match av with
  | [.inr (1, b, 0), .inr (11, b', w)] => (b' = b ∧ jWf (jV σ b), some (.inl (.int (jb (jStill (jV σ b) w)))), σ)
  | _ => (False, none, σ)
def k_X1_isStillAbout : List (Nat × vgF) := [(0, vi_aload 1 1), (1, vi_get ww_shp 4 1 4), (4, vi_istore 2 5), (5, vi_iload 2 6), (6, vi_if (fun x => x < 0) 29 9), (9, vi_iload 2 10), (10, vi_aload 0 11), (11, vi_get ww_shp 1 6 14), (14, vi_cmp (fun x y => y ≤ x) 29 17), (17, vi_aload 0 18), (18, vi_get ww_shp 1 9 21), (21, vi_iload 2 22), (22, vi_aald ww_shp 4 23), (23, vi_get ww_shp 4 7 26), (26, vi_if (fun x => x = 0) 33 29), (29, vi_icst (1) 30), (30, vi_goto 34), (33, vi_icst (0) 34), (34, vi_retZ)]
set_option maxRecDepth 20000 in
theorem s_X1_isStillAbout : ∀ q ∈ k_X1_isStillAbout, vg_Snd ww_tb ww_nw ww_shp ww_nm ww_cl ww_tyl cX1_isStillAbout 3 RX1 (some .boolean) 0 q.1 q.2 := by
  refine vg_cons (vs_aload_n dX1_isStillAbout_0 rfl rfl) ?_
  refine vg_cons (vs_getfield (T := TX4) dX1_isStillAbout_1 rfl (by decide) ww_inX4 q_173 rfl) ?_
  refine vg_cons (vs_istore_n dX1_isStillAbout_4 rfl (by decide) rfl) ?_
  refine vg_cons (vs_iload_n dX1_isStillAbout_5 rfl rfl) ?_
  refine vg_cons (vs_if_lt dX1_isStillAbout_6 (by decide) rfl) ?_
  refine vg_cons (vs_iload_n dX1_isStillAbout_9 rfl rfl) ?_
  refine vg_cons (vs_aload_n dX1_isStillAbout_10 rfl rfl) ?_
  refine vg_cons (vs_getfield (T := TX1) dX1_isStillAbout_11 rfl (by decide) ww_inX1 q_16 rfl) ?_
  refine vg_cons (vs_cmp_ge dX1_isStillAbout_14 (by decide) rfl) ?_
  refine vg_cons (vs_aload_n dX1_isStillAbout_17 rfl rfl) ?_
  refine vg_cons (vs_getfield (T := TX1) dX1_isStillAbout_18 rfl (by decide) ww_inX1 q_17 rfl) ?_
  refine vg_cons (vs_iload_n dX1_isStillAbout_21 rfl rfl) ?_
  refine vg_cons (vs_aaload dX1_isStillAbout_22 rfl rfl) ?_
  refine vg_cons (vs_getfield (T := TX4) dX1_isStillAbout_23 rfl (by decide) ww_inX4 q_18 rfl) ?_
  refine vg_cons (vs_if_eq dX1_isStillAbout_26 (by decide) rfl) ?_
  refine vg_cons (vs_iconst dX1_isStillAbout_29 rfl rfl) ?_
  refine vg_cons (vs_goto dX1_isStillAbout_30 (by decide)) ?_
  refine vg_cons (vs_iconst dX1_isStillAbout_33 rfl rfl) ?_
  refine vg_cons (vs_zreturn dX1_isStillAbout_34 rfl) ?_
  exact fun _ h => absurd h List.not_mem_nil
theorem m_X1_isStillAbout : vg_Code k_X1_isStillAbout := fun q h => (s_X1_isStillAbout q h).1

theorem w_X1_isStillAbout : vg_Wd sp_X1_isStillAbout 3 := by
  intro av σ h
  unfold sp_X1_isStillAbout at h
  split at h
  · exact Nat.le_of_ble_eq_true rfl
  · exact h.elim
theorem g_X1_isStillAbout : vg_G k_X1_isStillAbout sp_X1_isStillAbout := by
  intro av σ h
  unfold sp_X1_isStillAbout at h ⊢
  split at h
  next b b' w =>
    obtain ⟨rfl, hw⟩ := h
    have h12 := hw.2.2.1
    refine vg_run (cuts := []) m_X1_isStillAbout 40 ?_
    have T : jStill (jV σ b') w → (some (Sum.inl (Value.int 1)) : Option vgV) = some (Sum.inl (Value.int (jb (jStill (jV σ b') w)))) := fun z => by rw [jb_t z]
    refine And.intro (fun h0 => And.intro (Or.inr rfl) (And.intro (T (Or.inl h0)) rfl)) (fun h0 => And.intro (fun h1 => And.intro (Or.inr rfl) (And.intro (T (Or.inr (Or.inl h1))) rfl)) (fun h1 => ?_))
    have hv : vp_in (jV σ b' 11 w 1) 12 := by
      exact jinW h0 h1 h12.1 h12.2 (by decide)
    refine And.intro hv (And.intro (fun h2 => And.intro (Or.inl rfl) (And.intro ?_ rfl)) (fun h2 => And.intro (Or.inr rfl) (And.intro (T (Or.inr (Or.inr h2))) rfl)))
    have N : ¬ jStill (jV σ b') w := fun z => z.elim h0 (fun z => z.elim h1 (fun z => z h2))
    rw [jb_f N]
  next => exact h.elim
theorem c_X1_isStillAbout : vg_MetF ww_tb ww_nw ww_shp ww_nm ww_cl ww_tyl yX1_isStillAbout cX1_isStillAbout 3 (some .boolean) 0 sp_X1_isStillAbout := vg_met ww_closed (by decide +kernel) rfl s_X1_isStillAbout w_X1_isStillAbout g_X1_isStillAbout
def sp_X1_isSendable : vgC := fun av σ => match av with
  | [.inr (1, b, 0), .inr (11, b', w)] => (b' = b ∧ jWf (jV σ b), some (.inl (.int (jb (jCan (jV σ b) w)))), σ)
  | _ => (False, none, σ)
def k_X1_isSendable : List (Nat × vgF) := [(0, vi_aload 1 1), (1, vi_get ww_shp 4 6 4), (4, vi_icst (-1) 5), (5, vi_cmp (fun x y => x = y) 8 28), (8, vi_aload 0 9), (9, vi_aload 1 10), (10, vi_callV ww_shp 1 sp_X1_keysLacking 1 13), (13, vi_if (fun x => x = 0) 16 28), (16, vi_aload 0 17), (17, vi_aload 1 18), (18, vi_callV ww_shp 1 sp_X1_isStillAbout 1 21), (21, vi_if (fun x => x = 0) 28 24), (24, vi_icst (1) 25), (25, vi_goto 29), (28, vi_icst (0) 29), (29, vi_retZ)]
set_option maxRecDepth 20000 in
theorem s_X1_isSendable : ∀ q ∈ k_X1_isSendable, vg_Snd ww_tb ww_nw ww_shp ww_nm ww_cl ww_tyl cX1_isSendable 2 RX1 (some .boolean) 2 q.1 q.2 := by
  refine vg_cons (vs_aload_n dX1_isSendable_0 rfl rfl) ?_
  refine vg_cons (vs_getfield (T := TX4) dX1_isSendable_1 rfl (by decide) ww_inX4 q_68 rfl) ?_
  refine vg_cons (vs_iconst dX1_isSendable_4 rfl rfl) ?_
  refine vg_cons (vs_cmp_ne dX1_isSendable_5 (by decide) rfl) ?_
  refine vg_cons (vs_aload_n dX1_isSendable_8 rfl rfl) ?_
  refine vg_cons (vs_aload_n dX1_isSendable_9 rfl rfl) ?_
  refine vg_cons (vs_callV (T := TX1) c_X1_keysLacking dX1_isSendable_10 rfl ww_good q_174 q_12 q_175 q_176 q_177 (by decide +kernel) (by decide) rfl) ?_
  refine vg_cons (vs_if_ne dX1_isSendable_13 (by decide) rfl) ?_
  refine vg_cons (vs_aload_n dX1_isSendable_16 rfl rfl) ?_
  refine vg_cons (vs_aload_n dX1_isSendable_17 rfl rfl) ?_
  refine vg_cons (vs_callV (T := TX1) c_X1_isStillAbout dX1_isSendable_18 rfl ww_good q_178 q_12 q_179 q_180 q_181 (by decide +kernel) (by decide) rfl) ?_
  refine vg_cons (vs_if_eq dX1_isSendable_21 (by decide) rfl) ?_
  refine vg_cons (vs_iconst dX1_isSendable_24 rfl rfl) ?_
  refine vg_cons (vs_goto dX1_isSendable_25 (by decide)) ?_
  refine vg_cons (vs_iconst dX1_isSendable_28 rfl rfl) ?_
  refine vg_cons (vs_zreturn dX1_isSendable_29 rfl) ?_
  exact fun _ h => absurd h List.not_mem_nil
theorem m_X1_isSendable : vg_Code k_X1_isSendable := fun q h => (s_X1_isSendable q h).1

theorem w_X1_isSendable : vg_Wd sp_X1_isSendable 2 := by
  intro av σ h
  unfold sp_X1_isSendable at h
  split at h
  · exact Nat.le_of_ble_eq_true rfl
  · exact h.elim
theorem g_X1_isSendable : vg_G k_X1_isSendable sp_X1_isSendable := by
  intro av σ h
  unfold sp_X1_isSendable at h ⊢
  split at h
  next b b' w =>
    obtain ⟨rfl, hw⟩ := h
    refine vg_run (cuts := []) m_X1_isSendable 40 ?_
    have T : jCan (jV σ b') w → (some (Sum.inl (Value.int 1)) : Option vgV) = some (Sum.inl (Value.int (jb (jCan (jV σ b') w)))) := fun z => by rw [jb_t z]
    have F : ¬ jCan (jV σ b') w → (some (Sum.inl (Value.int 0)) : Option vgV) = some (Sum.inl (Value.int (jb (jCan (jV σ b') w)))) := fun z => by rw [jb_f z]
    refine And.intro (fun h0 => And.intro rfl (And.intro (fun h1 => And.intro ⟨rfl, hw⟩ (And.intro (fun h2 => And.intro (Or.inl rfl) (And.intro (F ?_) rfl)) (fun h2 => And.intro (Or.inr rfl) (And.intro (T ?_) rfl)))) (fun h1 => And.intro (Or.inl rfl) (And.intro (F (fun z => h1 z.2.1)) rfl)))) (fun h0 => And.intro (Or.inl rfl) (And.intro (F (fun z => h0 z.1)) rfl))
    · exact fun z => jb_0.mp h2 z.2.2
    · exact ⟨h0, h1, Classical.byContradiction (fun z => h2 (jb_f z))⟩
  next => exact h.elim
theorem c_X1_isSendable : vg_MetF ww_tb ww_nw ww_shp ww_nm ww_cl ww_tyl yX1_isSendable cX1_isSendable 2 (some .boolean) 2 sp_X1_isSendable := vg_met ww_closed (by decide +kernel) rfl s_X1_isSendable w_X1_isSendable g_X1_isSendable
def sp_X1_sendOut : vgC := fun av σ => match av with
  | [.inr (1, b, 0), .inr (11, b', w)] => (b' = b ∧ jV σ b 11 w 1 = -1 ∧ ¬ jV σ b 11 w 0 = 2, none, jPut σ b (jUp (jUp (jV σ b) 11 w 6 (jV σ b 1 0 0)) 11 w 7 1))
  | _ => (False, none, σ)
def k_X1_sendOut : List (Nat × vgF) := [(0, vi_aload 1 1), (1, vi_get ww_shp 4 1 4), (4, vi_istore 2 5), (5, vi_aload 1 6), (6, vi_aload 0 7), (7, vi_get ww_shp 1 0 10), (10, vi_put ww_shp 4 6 13), (13, vi_aload 1 14), (14, vi_aload 1 15), (15, vi_get ww_shp 4 0 18), (18, vi_icst (2) 19), (19, vi_cmp (fun x y => x = y) 26 22), (22, vi_icst (1) 23), (23, vi_goto 27), (26, vi_icst (0) 27), (27, vi_putZ ww_shp 4 7 30), (30, vi_iload 2 31), (31, vi_if (fun x => x < 0) 42 34), (34, vi_iload 2 35), (35, vi_aload 0 36), (36, vi_get ww_shp 1 6 39), (39, vi_cmp (fun x y => x < y) 43 42), (42, vi_retV), (43, vi_aload 0 44), (44, vi_get ww_shp 1 9 47), (47, vi_iload 2 48), (48, vi_aald ww_shp 4 49), (49, vi_icst (0) 50), (50, vi_putZ ww_shp 4 7 53), (53, vi_aload 1 54), (54, vi_get ww_shp 4 0 57), (57, vi_icst (2) 58), (58, vi_cmp (fun x y => x = y) 61 70), (61, vi_aload 0 62), (62, vi_iload 2 63), (63, vi_no), (66, vi_aload 0 67), (67, vi_no), (70, vi_retV)]
set_option maxRecDepth 20000 in
theorem s_X1_sendOut : ∀ q ∈ k_X1_sendOut, vg_Snd ww_tb ww_nw ww_shp ww_nm ww_cl ww_tyl cX1_sendOut 3 RX1 none 0 q.1 q.2 := by
  refine vg_cons (vs_aload_n dX1_sendOut_0 rfl rfl) ?_
  refine vg_cons (vs_getfield (T := TX4) dX1_sendOut_1 rfl (by decide) ww_inX4 q_173 rfl) ?_
  refine vg_cons (vs_istore_n dX1_sendOut_4 rfl (by decide) rfl) ?_
  refine vg_cons (vs_aload_n dX1_sendOut_5 rfl rfl) ?_
  refine vg_cons (vs_aload_n dX1_sendOut_6 rfl rfl) ?_
  refine vg_cons (vs_getfield (T := TX1) dX1_sendOut_7 rfl (by decide) ww_inX1 q_10 rfl) ?_
  refine vg_cons (vs_putfield (T := TX4) tyX4 dX1_sendOut_10 rfl (by decide) ww_inX4 tyX4_ok nmX4 rfl rfl q_68 rfl) ?_
  refine vg_cons (vs_aload_n dX1_sendOut_13 rfl rfl) ?_
  refine vg_cons (vs_aload_n dX1_sendOut_14 rfl rfl) ?_
  refine vg_cons (vs_getfield (T := TX4) dX1_sendOut_15 rfl (by decide) ww_inX4 q_182 rfl) ?_
  refine vg_cons (vs_iconst dX1_sendOut_18 rfl rfl) ?_
  refine vg_cons (vs_cmp_eq dX1_sendOut_19 (by decide) rfl) ?_
  refine vg_cons (vs_iconst dX1_sendOut_22 rfl rfl) ?_
  refine vg_cons (vs_goto dX1_sendOut_23 (by decide)) ?_
  refine vg_cons (vs_iconst dX1_sendOut_26 rfl rfl) ?_
  refine vg_cons (vs_putfieldZ (T := TX4) tyX4 dX1_sendOut_27 rfl (by decide) ww_inX4 tyX4_ok nmX4 rfl rfl q_18 rfl) ?_
  refine vg_cons (vs_iload_n dX1_sendOut_30 rfl rfl) ?_
  refine vg_cons (vs_if_lt dX1_sendOut_31 (by decide) rfl) ?_
  refine vg_cons (vs_iload_n dX1_sendOut_34 rfl rfl) ?_
  refine vg_cons (vs_aload_n dX1_sendOut_35 rfl rfl) ?_
  refine vg_cons (vs_getfield (T := TX1) dX1_sendOut_36 rfl (by decide) ww_inX1 q_16 rfl) ?_
  refine vg_cons (vs_cmp_lt dX1_sendOut_39 (by decide) rfl) ?_
  refine vg_cons (vs_return dX1_sendOut_42 rfl) ?_
  refine vg_cons (vs_aload_n dX1_sendOut_43 rfl rfl) ?_
  refine vg_cons (vs_getfield (T := TX1) dX1_sendOut_44 rfl (by decide) ww_inX1 q_17 rfl) ?_
  refine vg_cons (vs_iload_n dX1_sendOut_47 rfl rfl) ?_
  refine vg_cons (vs_aaload dX1_sendOut_48 rfl rfl) ?_
  refine vg_cons (vs_iconst dX1_sendOut_49 rfl rfl) ?_
  refine vg_cons (vs_putfieldZ (T := TX4) tyX4 dX1_sendOut_50 rfl (by decide) ww_inX4 tyX4_ok nmX4 rfl rfl q_18 rfl) ?_
  refine vg_cons (vs_aload_n dX1_sendOut_53 rfl rfl) ?_
  refine vg_cons (vs_getfield (T := TX4) dX1_sendOut_54 rfl (by decide) ww_inX4 q_182 rfl) ?_
  refine vg_cons (vs_iconst dX1_sendOut_57 rfl rfl) ?_
  refine vg_cons (vs_cmp_ne dX1_sendOut_58 (by decide) rfl) ?_
  refine vg_cons (vs_aload_n dX1_sendOut_61 rfl rfl) ?_
  refine vg_cons (vs_iload_n dX1_sendOut_62 rfl rfl) ?_
  refine vg_cons (vs_no) ?_
  refine vg_cons (vs_aload_n dX1_sendOut_66 rfl rfl) ?_
  refine vg_cons (vs_no) ?_
  refine vg_cons (vs_return dX1_sendOut_70 rfl) ?_
  exact fun _ h => absurd h List.not_mem_nil
theorem m_X1_sendOut : vg_Code k_X1_sendOut := fun q h => (s_X1_sendOut q h).1

theorem w_X1_sendOut : vg_Wd sp_X1_sendOut 3 := by
  intro av σ h
  unfold sp_X1_sendOut at h
  split at h
  · exact Nat.le_of_ble_eq_true rfl
  · exact h.elim
theorem g_X1_sendOut : vg_G k_X1_sendOut sp_X1_sendOut := by
  intro av σ h
  unfold sp_X1_sendOut at h ⊢
  split at h
  next b b' w =>
    obtain ⟨rfl, ho, hk⟩ := h
    have ho' : σ (11, b', w) 1 = -1 := ho
    have hk' : ¬ σ (11, b', w) 0 = 2 := hk
    refine vg_run (cuts := []) m_X1_sendOut 60 ?_
    have e0 : vg_st σ (11, b', w) 6 (σ (1, b', 0) 0) (11, b', w) 0 = σ (11, b', w) 0 := if_neg (fun z => absurd z.2 (by decide))
    refine And.intro (fun hc => absurd (e0.symm.trans hc) hk) (fun _ => And.intro (Or.inr rfl) (And.intro (fun _ => And.intro rfl ?_) (fun hc => absurd (show σ (11, b', w) 1 < 0 by rw [ho']; decide) hc)))
    dsimp only
    rw [jst0 (s := 6), jst]
    rfl
  next => exact h.elim
theorem c_X1_sendOut : vg_MetF ww_tb ww_nw ww_shp ww_nm ww_cl ww_tyl yX1_sendOut cX1_sendOut 3 none 0 sp_X1_sendOut := vg_met ww_closed (by decide +kernel) rfl s_X1_sendOut w_X1_sendOut g_X1_sendOut
end
section
-- words of the tables, and what stands at each place of the methods' code (laid by program)
theorem q_183 : Cond.code yX0_becomeLike cX0_becomeLike 2 none ∈ ww_tb := by decide +kernel
theorem q_184 : Cond.methodLink RX1 71 yX0_becomeLike ∈ ww_tb := by decide +kernel
theorem q_185 : Cond.instanceMethod yX0_becomeLike ∈ ww_tb := by decide +kernel
theorem q_186 : Cond.selects RX0 yX0_becomeLike yX0_becomeLike ∈ ww_tb := by decide +kernel
theorem q_187 : Cond.code yX4_becomeLike cX4_becomeLike 2 none ∈ ww_tb := by decide +kernel
theorem q_188 : Cond.initialized RX4 ∈ ww_tb := by decide +kernel
theorem q_189 : Cond.methodLink RX1 81 yX4_becomeLike ∈ ww_tb := by decide +kernel
theorem q_190 : Cond.instanceMethod yX4_becomeLike ∈ ww_tb := by decide +kernel
theorem q_191 : Cond.selects RX4 yX4_becomeLike yX4_becomeLike ∈ ww_tb := by decide +kernel
theorem q_192 : Cond.code yX2_becomeLike cX2_becomeLike 3 none ∈ ww_tb := by decide +kernel
theorem q_193 : Cond.methodLink RX1 84 yX2_becomeLike ∈ ww_tb := by decide +kernel
theorem q_194 : Cond.instanceMethod yX2_becomeLike ∈ ww_tb := by decide +kernel
theorem q_195 : Cond.selects RX2 yX2_becomeLike yX2_becomeLike ∈ ww_tb := by decide +kernel
theorem q_196 : Cond.methodLink RX1 87 arraycopyName ∈ ww_tb := by decide +kernel
theorem dX1_becomeLike_0 : decode cX1_becomeLike 0 = .ok (.aload_n 0, 1) := by decide +kernel
theorem dX1_becomeLike_1 : decode cX1_becomeLike 1 = .ok (.aload_n 1, 1) := by decide +kernel
theorem dX1_becomeLike_2 : decode cX1_becomeLike 2 = .ok (.getfield 56, 3) := by decide +kernel
theorem dX1_becomeLike_5 : decode cX1_becomeLike 5 = .ok (.putfield 56, 3) := by decide +kernel
theorem dX1_becomeLike_8 : decode cX1_becomeLike 8 = .ok (.aload_n 0, 1) := by decide +kernel
theorem dX1_becomeLike_9 : decode cX1_becomeLike 9 = .ok (.aload_n 1, 1) := by decide +kernel
theorem dX1_becomeLike_10 : decode cX1_becomeLike 10 = .ok (.getfield 9, 3) := by decide +kernel
theorem dX1_becomeLike_13 : decode cX1_becomeLike 13 = .ok (.putfield 9, 3) := by decide +kernel
theorem dX1_becomeLike_16 : decode cX1_becomeLike 16 = .ok (.aload_n 0, 1) := by decide +kernel
theorem dX1_becomeLike_17 : decode cX1_becomeLike 17 = .ok (.aload_n 1, 1) := by decide +kernel
theorem dX1_becomeLike_18 : decode cX1_becomeLike 18 = .ok (.getfield 15, 3) := by decide +kernel
theorem dX1_becomeLike_21 : decode cX1_becomeLike 21 = .ok (.putfield 15, 3) := by decide +kernel
theorem dX1_becomeLike_24 : decode cX1_becomeLike 24 = .ok (.aload_n 0, 1) := by decide +kernel
theorem dX1_becomeLike_25 : decode cX1_becomeLike 25 = .ok (.aload_n 1, 1) := by decide +kernel
theorem dX1_becomeLike_26 : decode cX1_becomeLike 26 = .ok (.getfield 59, 3) := by decide +kernel
theorem dX1_becomeLike_29 : decode cX1_becomeLike 29 = .ok (.putfield 59, 3) := by decide +kernel
theorem dX1_becomeLike_32 : decode cX1_becomeLike 32 = .ok (.aload_n 0, 1) := by decide +kernel
theorem dX1_becomeLike_33 : decode cX1_becomeLike 33 = .ok (.aload_n 1, 1) := by decide +kernel
theorem dX1_becomeLike_34 : decode cX1_becomeLike 34 = .ok (.getfield 62, 3) := by decide +kernel
theorem dX1_becomeLike_37 : decode cX1_becomeLike 37 = .ok (.putfield 62, 3) := by decide +kernel
theorem dX1_becomeLike_40 : decode cX1_becomeLike 40 = .ok (.aload_n 0, 1) := by decide +kernel
theorem dX1_becomeLike_41 : decode cX1_becomeLike 41 = .ok (.aload_n 1, 1) := by decide +kernel
theorem dX1_becomeLike_42 : decode cX1_becomeLike 42 = .ok (.getfield 65, 3) := by decide +kernel
theorem dX1_becomeLike_45 : decode cX1_becomeLike 45 = .ok (.putfield 65, 3) := by decide +kernel
theorem dX1_becomeLike_48 : decode cX1_becomeLike 48 = .ok (.aload_n 0, 1) := by decide +kernel
theorem dX1_becomeLike_49 : decode cX1_becomeLike 49 = .ok (.aload_n 1, 1) := by decide +kernel
theorem dX1_becomeLike_50 : decode cX1_becomeLike 50 = .ok (.getfield 68, 3) := by decide +kernel
theorem dX1_becomeLike_53 : decode cX1_becomeLike 53 = .ok (.putfield 68, 3) := by decide +kernel
theorem dX1_becomeLike_56 : decode cX1_becomeLike 56 = .ok (.iconst 0, 1) := by decide +kernel
theorem dX1_becomeLike_57 : decode cX1_becomeLike 57 = .ok (.istore_n 2, 1) := by decide +kernel
theorem dX1_becomeLike_58 : decode cX1_becomeLike 58 = .ok (.iload_n 2, 1) := by decide +kernel
theorem dX1_becomeLike_59 : decode cX1_becomeLike 59 = .ok (.aload_n 0, 1) := by decide +kernel
theorem dX1_becomeLike_60 : decode cX1_becomeLike 60 = .ok (.getfield 62, 3) := by decide +kernel
theorem dX1_becomeLike_63 : decode cX1_becomeLike 63 = .ok (.if_icmp .ge 24, 3) := by decide +kernel
theorem dX1_becomeLike_66 : decode cX1_becomeLike 66 = .ok (.aload_n 0, 1) := by decide +kernel
theorem dX1_becomeLike_67 : decode cX1_becomeLike 67 = .ok (.getfield 20, 3) := by decide +kernel
theorem dX1_becomeLike_70 : decode cX1_becomeLike 70 = .ok (.iload_n 2, 1) := by decide +kernel
theorem dX1_becomeLike_71 : decode cX1_becomeLike 71 = .ok (.aaload, 1) := by decide +kernel
theorem dX1_becomeLike_72 : decode cX1_becomeLike 72 = .ok (.aload_n 1, 1) := by decide +kernel
theorem dX1_becomeLike_73 : decode cX1_becomeLike 73 = .ok (.getfield 20, 3) := by decide +kernel
theorem dX1_becomeLike_76 : decode cX1_becomeLike 76 = .ok (.iload_n 2, 1) := by decide +kernel
theorem dX1_becomeLike_77 : decode cX1_becomeLike 77 = .ok (.aaload, 1) := by decide +kernel
theorem dX1_becomeLike_78 : decode cX1_becomeLike 78 = .ok (.invokevirtual 71, 3) := by decide +kernel
theorem dX1_becomeLike_81 : decode cX1_becomeLike 81 = .ok (.iinc 2 1, 3) := by decide +kernel
theorem dX1_becomeLike_84 : decode cX1_becomeLike 84 = .ok (.goto (-26), 3) := by decide +kernel
theorem dX1_becomeLike_87 : decode cX1_becomeLike 87 = .ok (.iconst 0, 1) := by decide +kernel
theorem dX1_becomeLike_88 : decode cX1_becomeLike 88 = .ok (.istore_n 2, 1) := by decide +kernel
theorem dX1_becomeLike_89 : decode cX1_becomeLike 89 = .ok (.iload_n 2, 1) := by decide +kernel
theorem dX1_becomeLike_90 : decode cX1_becomeLike 90 = .ok (.aload_n 0, 1) := by decide +kernel
theorem dX1_becomeLike_91 : decode cX1_becomeLike 91 = .ok (.getfield 65, 3) := by decide +kernel
theorem dX1_becomeLike_94 : decode cX1_becomeLike 94 = .ok (.if_icmp .ge 45, 3) := by decide +kernel
theorem dX1_becomeLike_97 : decode cX1_becomeLike 97 = .ok (.aload_n 0, 1) := by decide +kernel
theorem dX1_becomeLike_98 : decode cX1_becomeLike 98 = .ok (.getfield 26, 3) := by decide +kernel
theorem dX1_becomeLike_101 : decode cX1_becomeLike 101 = .ok (.iload_n 2, 1) := by decide +kernel
theorem dX1_becomeLike_102 : decode cX1_becomeLike 102 = .ok (.aaload, 1) := by decide +kernel
theorem dX1_becomeLike_103 : decode cX1_becomeLike 103 = .ok (.aload_n 1, 1) := by decide +kernel
theorem dX1_becomeLike_104 : decode cX1_becomeLike 104 = .ok (.getfield 26, 3) := by decide +kernel
theorem dX1_becomeLike_107 : decode cX1_becomeLike 107 = .ok (.iload_n 2, 1) := by decide +kernel
theorem dX1_becomeLike_108 : decode cX1_becomeLike 108 = .ok (.aaload, 1) := by decide +kernel
theorem dX1_becomeLike_109 : decode cX1_becomeLike 109 = .ok (.getfield 75, 3) := by decide +kernel
theorem dX1_becomeLike_112 : decode cX1_becomeLike 112 = .ok (.putfield 75, 3) := by decide +kernel
theorem dX1_becomeLike_115 : decode cX1_becomeLike 115 = .ok (.aload_n 0, 1) := by decide +kernel
theorem dX1_becomeLike_116 : decode cX1_becomeLike 116 = .ok (.getfield 26, 3) := by decide +kernel
theorem dX1_becomeLike_119 : decode cX1_becomeLike 119 = .ok (.iload_n 2, 1) := by decide +kernel
theorem dX1_becomeLike_120 : decode cX1_becomeLike 120 = .ok (.aaload, 1) := by decide +kernel
theorem dX1_becomeLike_121 : decode cX1_becomeLike 121 = .ok (.aload_n 1, 1) := by decide +kernel
theorem dX1_becomeLike_122 : decode cX1_becomeLike 122 = .ok (.getfield 26, 3) := by decide +kernel
theorem dX1_becomeLike_125 : decode cX1_becomeLike 125 = .ok (.iload_n 2, 1) := by decide +kernel
theorem dX1_becomeLike_126 : decode cX1_becomeLike 126 = .ok (.aaload, 1) := by decide +kernel
theorem dX1_becomeLike_127 : decode cX1_becomeLike 127 = .ok (.getfield 78, 3) := by decide +kernel
theorem dX1_becomeLike_130 : decode cX1_becomeLike 130 = .ok (.putfield 78, 3) := by decide +kernel
theorem dX1_becomeLike_133 : decode cX1_becomeLike 133 = .ok (.iinc 2 1, 3) := by decide +kernel
theorem dX1_becomeLike_136 : decode cX1_becomeLike 136 = .ok (.goto (-47), 3) := by decide +kernel
theorem dX1_becomeLike_139 : decode cX1_becomeLike 139 = .ok (.iconst 0, 1) := by decide +kernel
theorem dX1_becomeLike_140 : decode cX1_becomeLike 140 = .ok (.istore_n 2, 1) := by decide +kernel
theorem dX1_becomeLike_141 : decode cX1_becomeLike 141 = .ok (.iload_n 2, 1) := by decide +kernel
theorem dX1_becomeLike_142 : decode cX1_becomeLike 142 = .ok (.aload_n 0, 1) := by decide +kernel
theorem dX1_becomeLike_143 : decode cX1_becomeLike 143 = .ok (.getfield 68, 3) := by decide +kernel
theorem dX1_becomeLike_146 : decode cX1_becomeLike 146 = .ok (.if_icmp .ge 24, 3) := by decide +kernel
theorem dX1_becomeLike_149 : decode cX1_becomeLike 149 = .ok (.aload_n 0, 1) := by decide +kernel
theorem dX1_becomeLike_150 : decode cX1_becomeLike 150 = .ok (.getfield 32, 3) := by decide +kernel
theorem dX1_becomeLike_153 : decode cX1_becomeLike 153 = .ok (.iload_n 2, 1) := by decide +kernel
theorem dX1_becomeLike_154 : decode cX1_becomeLike 154 = .ok (.aaload, 1) := by decide +kernel
theorem dX1_becomeLike_155 : decode cX1_becomeLike 155 = .ok (.aload_n 1, 1) := by decide +kernel
theorem dX1_becomeLike_156 : decode cX1_becomeLike 156 = .ok (.getfield 32, 3) := by decide +kernel
theorem dX1_becomeLike_159 : decode cX1_becomeLike 159 = .ok (.iload_n 2, 1) := by decide +kernel
theorem dX1_becomeLike_160 : decode cX1_becomeLike 160 = .ok (.aaload, 1) := by decide +kernel
theorem dX1_becomeLike_161 : decode cX1_becomeLike 161 = .ok (.invokevirtual 81, 3) := by decide +kernel
theorem dX1_becomeLike_164 : decode cX1_becomeLike 164 = .ok (.iinc 2 1, 3) := by decide +kernel
theorem dX1_becomeLike_167 : decode cX1_becomeLike 167 = .ok (.goto (-26), 3) := by decide +kernel
theorem dX1_becomeLike_170 : decode cX1_becomeLike 170 = .ok (.aload_n 0, 1) := by decide +kernel
theorem dX1_becomeLike_171 : decode cX1_becomeLike 171 = .ok (.getfield 39, 3) := by decide +kernel
theorem dX1_becomeLike_174 : decode cX1_becomeLike 174 = .ok (.aload_n 1, 1) := by decide +kernel
theorem dX1_becomeLike_175 : decode cX1_becomeLike 175 = .ok (.getfield 39, 3) := by decide +kernel
theorem dX1_becomeLike_178 : decode cX1_becomeLike 178 = .ok (.invokevirtual 84, 3) := by decide +kernel
theorem dX1_becomeLike_181 : decode cX1_becomeLike 181 = .ok (.aload_n 0, 1) := by decide +kernel
theorem dX1_becomeLike_182 : decode cX1_becomeLike 182 = .ok (.getfield 43, 3) := by decide +kernel
theorem dX1_becomeLike_185 : decode cX1_becomeLike 185 = .ok (.aload_n 1, 1) := by decide +kernel
theorem dX1_becomeLike_186 : decode cX1_becomeLike 186 = .ok (.getfield 43, 3) := by decide +kernel
theorem dX1_becomeLike_189 : decode cX1_becomeLike 189 = .ok (.invokevirtual 84, 3) := by decide +kernel
theorem dX1_becomeLike_192 : decode cX1_becomeLike 192 = .ok (.aload_n 1, 1) := by decide +kernel
theorem dX1_becomeLike_193 : decode cX1_becomeLike 193 = .ok (.getfield 46, 3) := by decide +kernel
theorem dX1_becomeLike_196 : decode cX1_becomeLike 196 = .ok (.iconst 0, 1) := by decide +kernel
theorem dX1_becomeLike_197 : decode cX1_becomeLike 197 = .ok (.aload_n 0, 1) := by decide +kernel
theorem dX1_becomeLike_198 : decode cX1_becomeLike 198 = .ok (.getfield 46, 3) := by decide +kernel
theorem dX1_becomeLike_201 : decode cX1_becomeLike 201 = .ok (.iconst 0, 1) := by decide +kernel
theorem dX1_becomeLike_202 : decode cX1_becomeLike 202 = .ok (.bipush 16, 2) := by decide +kernel
theorem dX1_becomeLike_204 : decode cX1_becomeLike 204 = .ok (.invokestatic 87, 3) := by decide +kernel
theorem dX1_becomeLike_207 : decode cX1_becomeLike 207 = .ok (.return_, 1) := by decide +kernel
/-! a land becomes like another -/
/-- what is a truth value is one -/
def jBo (w : jN) : Prop := (∀ g, g < 8 → (w 9 g 4 = 0 ∨ w 9 g 4 = 1) ∧ (w 9 g 5 = 0 ∨ w 9 g 5 = 1)) ∧ (∀ i, i < 12 → w 11 i 7 = 0 ∨ w 11 i 7 = 1) ∧ ∀ j s, s < 5 → w 8 j s = 0 ∨ w 8 j s = 1
def jRA (a c d : Nat) : Nat → Nat → Nat → Bool := fun k i s => (k == 1 && i == 0 && decide (s < 7)) || (decide (i < a) && ((k == 9 && decide (s < 8)) || (decide (14 ≤ k) && decide (k ≤ 18) && decide (s < 12)))) || (k == 10 && decide (i < c) && decide (s < 2)) || (k == 11 && decide (i < d) && decide (s < 8))
def jRL (a c d e f : Nat) : Nat → Nat → Nat → Bool := fun k i s => jRA a c d k i s || jRS 0 e k i s || jRS 1 f k i s || (k == 6 && i == 0 && decide (s < 16))
/-- like w, as far as w's counts go -/
def jLike (w v : jN) : jN := jCp (jRL (jGc w) (jSc w) (jWc w) (jNc w 0) (jNc w 1)) w v
theorem jCp_no {w v : jN} : jCp (fun _ _ _ => false) w v = v := by
  funext k i s
  exact if_neg Bool.false_ne_true
theorem jRA_0 {w v : jN} : jCp (jRo (jRo (jRo (jRo (jRo (jRo (jRo (fun _ _ _ => false) 1 0 0) 1 0 1) 1 0 2) 1 0 3) 1 0 4) 1 0 5) 1 0 6) w v = jCp (jRA 0 0 0) w v := by
  refine jCp_cg (fun k i s => ?_)
  unfold jRo jRA
  simp only [Bool.and_eq_true, Bool.or_eq_true, beq_iff_eq, decide_eq_true_eq, Bool.false_eq_true, false_or]
  omega
theorem jRA_g {w v : jN} {n : Nat} : jCp (jRG n) w (jCp (jRA n 0 0) w v) = jCp (jRA (n + 1) 0 0) w v := by
  rw [jCp_cp]
  refine jCp_cg (fun k i s => ?_)
  unfold jRG jRA
  simp only [Bool.and_eq_true, Bool.or_eq_true, beq_iff_eq, decide_eq_true_eq]
  omega
theorem jRA_s {w v : jN} {a n : Nat} : jCp (jRo (jRo (jRA a n 0) 10 n 0) 10 n 1) w v = jCp (jRA a (n + 1) 0) w v := by
  refine jCp_cg (fun k i s => ?_)
  unfold jRo jRA
  simp only [Bool.and_eq_true, Bool.or_eq_true, beq_iff_eq, decide_eq_true_eq]
  omega
theorem jRA_w {w v : jN} {a c n : Nat} : jCp (jRW n) w (jCp (jRA a c n) w v) = jCp (jRA a c (n + 1)) w v := by
  rw [jCp_cp]
  refine jCp_cg (fun k i s => ?_)
  unfold jRW jRA
  simp only [Bool.and_eq_true, Bool.or_eq_true, beq_iff_eq, decide_eq_true_eq]
  omega
theorem jLike_e {w v : jN} : jCp (fun k i s => k == 6 && i == 0 && decide (s < 16)) w (jCp (jRS 1 (jNc w 1)) w (jCp (jRS 0 (jNc w 0)) w (jCp (jRA (jGc w) (jSc w) (jWc w)) w v))) = jLike w v := by
  rw [jCp_cp, jCp_cp, jCp_cp]
  unfold jLike
  refine jCp_cg (fun k i s => ?_)
  unfold jRL
  simp only [Bool.or_eq_true]
  generalize (jRA (jGc w) (jSc w) (jWc w) k i s = true) = p1
  generalize (jRS 0 (jNc w 0) k i s = true) = p2
  generalize (jRS 1 (jNc w 1) k i s = true) = p3
  generalize ((k == 6 && i == 0 && decide (s < 16)) = true) = p4
  constructor
  · rintro (((h | h) | h) | h)
    · exact Or.inr h
    · exact Or.inl (Or.inr h)
    · exact Or.inl (Or.inl (Or.inr h))
    · exact Or.inl (Or.inl (Or.inl h))
  · rintro (((h | h) | h) | h)
    · exact Or.inr h
    · exact Or.inl (Or.inr h)
    · exact Or.inl (Or.inl (Or.inr h))
    · exact Or.inl (Or.inl (Or.inl h))
def sp_X1_becomeLike : vgC := fun av σ => match av with
  | [.inr (1, b, 0), .inr (1, b', 0)] => (¬ b' = b ∧ jWf (jV σ b') ∧ jBo (jV σ b'), none, jPut σ b (jLike (jV σ b') (jV σ b)))
  | _ => (False, none, σ)
def k_X1_becomeLike : List (Nat × vgF) := [(0, vi_aload 0 1), (1, vi_aload 1 2), (2, vi_get ww_shp 1 0 5), (5, vi_put ww_shp 1 0 8), (8, vi_aload 0 9), (9, vi_aload 1 10), (10, vi_get ww_shp 1 1 13), (13, vi_put ww_shp 1 1 16), (16, vi_aload 0 17), (17, vi_aload 1 18), (18, vi_get ww_shp 1 2 21), (21, vi_put ww_shp 1 2 24), (24, vi_aload 0 25), (25, vi_aload 1 26), (26, vi_get ww_shp 1 3 29), (29, vi_put ww_shp 1 3 32), (32, vi_aload 0 33), (33, vi_aload 1 34), (34, vi_get ww_shp 1 4 37), (37, vi_put ww_shp 1 4 40), (40, vi_aload 0 41), (41, vi_aload 1 42), (42, vi_get ww_shp 1 5 45), (45, vi_put ww_shp 1 5 48), (48, vi_aload 0 49), (49, vi_aload 1 50), (50, vi_get ww_shp 1 6 53), (53, vi_put ww_shp 1 6 56), (56, vi_icst (0) 57), (57, vi_istore 2 58), (58, vi_iload 2 59), (59, vi_aload 0 60), (60, vi_get ww_shp 1 4 63), (63, vi_cmp (fun x y => y ≤ x) 87 66), (66, vi_aload 0 67), (67, vi_get ww_shp 1 7 70), (70, vi_iload 2 71), (71, vi_aald ww_shp 2 72), (72, vi_aload 1 73), (73, vi_get ww_shp 1 7 76), (76, vi_iload 2 77), (77, vi_aald ww_shp 2 78), (78, vi_callV ww_shp 5 sp_X0_becomeLike 1 81), (81, vi_iinc 2 (1) 84), (84, vi_goto 58), (87, vi_icst (0) 88), (88, vi_istore 2 89), (89, vi_iload 2 90), (90, vi_aload 0 91), (91, vi_get ww_shp 1 5 94), (94, vi_cmp (fun x y => y ≤ x) 139 97), (97, vi_aload 0 98), (98, vi_get ww_shp 1 8 101), (101, vi_iload 2 102), (102, vi_aald ww_shp 3 103), (103, vi_aload 1 104), (104, vi_get ww_shp 1 8 107), (107, vi_iload 2 108), (108, vi_aald ww_shp 3 109), (109, vi_get ww_shp 3 0 112), (112, vi_put ww_shp 3 0 115), (115, vi_aload 0 116), (116, vi_get ww_shp 1 8 119), (119, vi_iload 2 120), (120, vi_aald ww_shp 3 121), (121, vi_aload 1 122), (122, vi_get ww_shp 1 8 125), (125, vi_iload 2 126), (126, vi_aald ww_shp 3 127), (127, vi_get ww_shp 3 1 130), (130, vi_put ww_shp 3 1 133), (133, vi_iinc 2 (1) 136), (136, vi_goto 89), (139, vi_icst (0) 140), (140, vi_istore 2 141), (141, vi_iload 2 142), (142, vi_aload 0 143), (143, vi_get ww_shp 1 6 146), (146, vi_cmp (fun x y => y ≤ x) 170 149), (149, vi_aload 0 150), (150, vi_get ww_shp 1 9 153), (153, vi_iload 2 154), (154, vi_aald ww_shp 4 155), (155, vi_aload 1 156), (156, vi_get ww_shp 1 9 159), (159, vi_iload 2 160), (160, vi_aald ww_shp 4 161), (161, vi_callV ww_shp 4 sp_X4_becomeLike 1 164), (164, vi_iinc 2 (1) 167), (167, vi_goto 141), (170, vi_aload 0 171), (171, vi_get ww_shp 1 10 174), (174, vi_aload 1 175), (175, vi_get ww_shp 1 10 178), (178, vi_callV ww_shp 2 sp_X2_becomeLike 1 181), (181, vi_aload 0 182), (182, vi_get ww_shp 1 11 185), (185, vi_aload 1 186), (186, vi_get ww_shp 1 11 189), (189, vi_callV ww_shp 2 sp_X2_becomeLike 1 192), (192, vi_aload 1 193), (193, vi_get ww_shp 1 12 196), (196, vi_icst (0) 197), (197, vi_aload 0 198), (198, vi_get ww_shp 1 12 201), (201, vi_icst (0) 202), (202, vi_icst (16) 204), (204, vi_cpy ww_shp 0 207), (207, vi_retV)]
set_option maxRecDepth 20000 in
theorem s_X1_becomeLike : ∀ q ∈ k_X1_becomeLike, vg_Snd ww_tb ww_nw ww_shp ww_nm ww_cl ww_tyl cX1_becomeLike 3 RX1 none 2 q.1 q.2 := by
  refine vg_cons (vs_aload_n dX1_becomeLike_0 rfl rfl) ?_
  refine vg_cons (vs_aload_n dX1_becomeLike_1 rfl rfl) ?_
  refine vg_cons (vs_getfield (T := TX1) dX1_becomeLike_2 rfl (by decide) ww_inX1 q_10 rfl) ?_
  refine vg_cons (vs_putfield (T := TX1) tyX1 dX1_becomeLike_5 rfl (by decide) ww_inX1 tyX1_ok nmX1 rfl rfl q_10 rfl) ?_
  refine vg_cons (vs_aload_n dX1_becomeLike_8 rfl rfl) ?_
  refine vg_cons (vs_aload_n dX1_becomeLike_9 rfl rfl) ?_
  refine vg_cons (vs_getfield (T := TX1) dX1_becomeLike_10 rfl (by decide) ww_inX1 q_99 rfl) ?_
  refine vg_cons (vs_putfield (T := TX1) tyX1 dX1_becomeLike_13 rfl (by decide) ww_inX1 tyX1_ok nmX1 rfl rfl q_99 rfl) ?_
  refine vg_cons (vs_aload_n dX1_becomeLike_16 rfl rfl) ?_
  refine vg_cons (vs_aload_n dX1_becomeLike_17 rfl rfl) ?_
  refine vg_cons (vs_getfield (T := TX1) dX1_becomeLike_18 rfl (by decide) ww_inX1 q_171 rfl) ?_
  refine vg_cons (vs_putfield (T := TX1) tyX1 dX1_becomeLike_21 rfl (by decide) ww_inX1 tyX1_ok nmX1 rfl rfl q_171 rfl) ?_
  refine vg_cons (vs_aload_n dX1_becomeLike_24 rfl rfl) ?_
  refine vg_cons (vs_aload_n dX1_becomeLike_25 rfl rfl) ?_
  refine vg_cons (vs_getfield (T := TX1) dX1_becomeLike_26 rfl (by decide) ww_inX1 q_104 rfl) ?_
  refine vg_cons (vs_putfield (T := TX1) tyX1 dX1_becomeLike_29 rfl (by decide) ww_inX1 tyX1_ok nmX1 rfl rfl q_104 rfl) ?_
  refine vg_cons (vs_aload_n dX1_becomeLike_32 rfl rfl) ?_
  refine vg_cons (vs_aload_n dX1_becomeLike_33 rfl rfl) ?_
  refine vg_cons (vs_getfield (T := TX1) dX1_becomeLike_34 rfl (by decide) ww_inX1 q_38 rfl) ?_
  refine vg_cons (vs_putfield (T := TX1) tyX1 dX1_becomeLike_37 rfl (by decide) ww_inX1 tyX1_ok nmX1 rfl rfl q_38 rfl) ?_
  refine vg_cons (vs_aload_n dX1_becomeLike_40 rfl rfl) ?_
  refine vg_cons (vs_aload_n dX1_becomeLike_41 rfl rfl) ?_
  refine vg_cons (vs_getfield (T := TX1) dX1_becomeLike_42 rfl (by decide) ww_inX1 q_60 rfl) ?_
  refine vg_cons (vs_putfield (T := TX1) tyX1 dX1_becomeLike_45 rfl (by decide) ww_inX1 tyX1_ok nmX1 rfl rfl q_60 rfl) ?_
  refine vg_cons (vs_aload_n dX1_becomeLike_48 rfl rfl) ?_
  refine vg_cons (vs_aload_n dX1_becomeLike_49 rfl rfl) ?_
  refine vg_cons (vs_getfield (T := TX1) dX1_becomeLike_50 rfl (by decide) ww_inX1 q_16 rfl) ?_
  refine vg_cons (vs_putfield (T := TX1) tyX1 dX1_becomeLike_53 rfl (by decide) ww_inX1 tyX1_ok nmX1 rfl rfl q_16 rfl) ?_
  refine vg_cons (vs_iconst dX1_becomeLike_56 rfl rfl) ?_
  refine vg_cons (vs_istore_n dX1_becomeLike_57 rfl (by decide) rfl) ?_
  refine vg_cons (vs_iload_n dX1_becomeLike_58 rfl rfl) ?_
  refine vg_cons (vs_aload_n dX1_becomeLike_59 rfl rfl) ?_
  refine vg_cons (vs_getfield (T := TX1) dX1_becomeLike_60 rfl (by decide) ww_inX1 q_38 rfl) ?_
  refine vg_cons (vs_cmp_ge dX1_becomeLike_63 (by decide) rfl) ?_
  refine vg_cons (vs_aload_n dX1_becomeLike_66 rfl rfl) ?_
  refine vg_cons (vs_getfield (T := TX1) dX1_becomeLike_67 rfl (by decide) ww_inX1 q_39 rfl) ?_
  refine vg_cons (vs_iload_n dX1_becomeLike_70 rfl rfl) ?_
  refine vg_cons (vs_aaload dX1_becomeLike_71 rfl rfl) ?_
  refine vg_cons (vs_aload_n dX1_becomeLike_72 rfl rfl) ?_
  refine vg_cons (vs_getfield (T := TX1) dX1_becomeLike_73 rfl (by decide) ww_inX1 q_39 rfl) ?_
  refine vg_cons (vs_iload_n dX1_becomeLike_76 rfl rfl) ?_
  refine vg_cons (vs_aaload dX1_becomeLike_77 rfl rfl) ?_
  refine vg_cons (vs_callV (T := TX0) c_X0_becomeLike dX1_becomeLike_78 rfl ww_good q_183 q_21 q_184 q_185 q_186 (by decide +kernel) (by decide) rfl) ?_
  refine vg_cons (vs_iinc dX1_becomeLike_81 rfl rfl) ?_
  refine vg_cons (vs_goto dX1_becomeLike_84 (by decide)) ?_
  refine vg_cons (vs_iconst dX1_becomeLike_87 rfl rfl) ?_
  refine vg_cons (vs_istore_n dX1_becomeLike_88 rfl (by decide) rfl) ?_
  refine vg_cons (vs_iload_n dX1_becomeLike_89 rfl rfl) ?_
  refine vg_cons (vs_aload_n dX1_becomeLike_90 rfl rfl) ?_
  refine vg_cons (vs_getfield (T := TX1) dX1_becomeLike_91 rfl (by decide) ww_inX1 q_60 rfl) ?_
  refine vg_cons (vs_cmp_ge dX1_becomeLike_94 (by decide) rfl) ?_
  refine vg_cons (vs_aload_n dX1_becomeLike_97 rfl rfl) ?_
  refine vg_cons (vs_getfield (T := TX1) dX1_becomeLike_98 rfl (by decide) ww_inX1 q_61 rfl) ?_
  refine vg_cons (vs_iload_n dX1_becomeLike_101 rfl rfl) ?_
  refine vg_cons (vs_aaload dX1_becomeLike_102 rfl rfl) ?_
  refine vg_cons (vs_aload_n dX1_becomeLike_103 rfl rfl) ?_
  refine vg_cons (vs_getfield (T := TX1) dX1_becomeLike_104 rfl (by decide) ww_inX1 q_61 rfl) ?_
  refine vg_cons (vs_iload_n dX1_becomeLike_107 rfl rfl) ?_
  refine vg_cons (vs_aaload dX1_becomeLike_108 rfl rfl) ?_
  refine vg_cons (vs_getfield (T := TX3) dX1_becomeLike_109 rfl (by decide) ww_inX3 q_62 rfl) ?_
  refine vg_cons (vs_putfield (T := TX3) tyX3 dX1_becomeLike_112 rfl (by decide) ww_inX3 tyX3_ok nmX3 rfl rfl q_62 rfl) ?_
  refine vg_cons (vs_aload_n dX1_becomeLike_115 rfl rfl) ?_
  refine vg_cons (vs_getfield (T := TX1) dX1_becomeLike_116 rfl (by decide) ww_inX1 q_61 rfl) ?_
  refine vg_cons (vs_iload_n dX1_becomeLike_119 rfl rfl) ?_
  refine vg_cons (vs_aaload dX1_becomeLike_120 rfl rfl) ?_
  refine vg_cons (vs_aload_n dX1_becomeLike_121 rfl rfl) ?_
  refine vg_cons (vs_getfield (T := TX1) dX1_becomeLike_122 rfl (by decide) ww_inX1 q_61 rfl) ?_
  refine vg_cons (vs_iload_n dX1_becomeLike_125 rfl rfl) ?_
  refine vg_cons (vs_aaload dX1_becomeLike_126 rfl rfl) ?_
  refine vg_cons (vs_getfield (T := TX3) dX1_becomeLike_127 rfl (by decide) ww_inX3 q_63 rfl) ?_
  refine vg_cons (vs_putfield (T := TX3) tyX3 dX1_becomeLike_130 rfl (by decide) ww_inX3 tyX3_ok nmX3 rfl rfl q_63 rfl) ?_
  refine vg_cons (vs_iinc dX1_becomeLike_133 rfl rfl) ?_
  refine vg_cons (vs_goto dX1_becomeLike_136 (by decide)) ?_
  refine vg_cons (vs_iconst dX1_becomeLike_139 rfl rfl) ?_
  refine vg_cons (vs_istore_n dX1_becomeLike_140 rfl (by decide) rfl) ?_
  refine vg_cons (vs_iload_n dX1_becomeLike_141 rfl rfl) ?_
  refine vg_cons (vs_aload_n dX1_becomeLike_142 rfl rfl) ?_
  refine vg_cons (vs_getfield (T := TX1) dX1_becomeLike_143 rfl (by decide) ww_inX1 q_16 rfl) ?_
  refine vg_cons (vs_cmp_ge dX1_becomeLike_146 (by decide) rfl) ?_
  refine vg_cons (vs_aload_n dX1_becomeLike_149 rfl rfl) ?_
  refine vg_cons (vs_getfield (T := TX1) dX1_becomeLike_150 rfl (by decide) ww_inX1 q_17 rfl) ?_
  refine vg_cons (vs_iload_n dX1_becomeLike_153 rfl rfl) ?_
  refine vg_cons (vs_aaload dX1_becomeLike_154 rfl rfl) ?_
  refine vg_cons (vs_aload_n dX1_becomeLike_155 rfl rfl) ?_
  refine vg_cons (vs_getfield (T := TX1) dX1_becomeLike_156 rfl (by decide) ww_inX1 q_17 rfl) ?_
  refine vg_cons (vs_iload_n dX1_becomeLike_159 rfl rfl) ?_
  refine vg_cons (vs_aaload dX1_becomeLike_160 rfl rfl) ?_
  refine vg_cons (vs_callV (T := TX4) c_X4_becomeLike dX1_becomeLike_161 rfl ww_good q_187 q_188 q_189 q_190 q_191 (by decide +kernel) (by decide) rfl) ?_
  refine vg_cons (vs_iinc dX1_becomeLike_164 rfl rfl) ?_
  refine vg_cons (vs_goto dX1_becomeLike_167 (by decide)) ?_
  refine vg_cons (vs_aload_n dX1_becomeLike_170 rfl rfl) ?_
  refine vg_cons (vs_getfield (T := TX1) dX1_becomeLike_171 rfl (by decide) ww_inX1 q_84 rfl) ?_
  refine vg_cons (vs_aload_n dX1_becomeLike_174 rfl rfl) ?_
  refine vg_cons (vs_getfield (T := TX1) dX1_becomeLike_175 rfl (by decide) ww_inX1 q_84 rfl) ?_
  refine vg_cons (vs_callV (T := TX2) c_X2_becomeLike dX1_becomeLike_178 rfl ww_good q_192 q_86 q_193 q_194 q_195 (by decide +kernel) (by decide) rfl) ?_
  refine vg_cons (vs_aload_n dX1_becomeLike_181 rfl rfl) ?_
  refine vg_cons (vs_getfield (T := TX1) dX1_becomeLike_182 rfl (by decide) ww_inX1 q_90 rfl) ?_
  refine vg_cons (vs_aload_n dX1_becomeLike_185 rfl rfl) ?_
  refine vg_cons (vs_getfield (T := TX1) dX1_becomeLike_186 rfl (by decide) ww_inX1 q_90 rfl) ?_
  refine vg_cons (vs_callV (T := TX2) c_X2_becomeLike dX1_becomeLike_189 rfl ww_good q_192 q_86 q_193 q_194 q_195 (by decide +kernel) (by decide) rfl) ?_
  refine vg_cons (vs_aload_n dX1_becomeLike_192 rfl rfl) ?_
  refine vg_cons (vs_getfield (T := TX1) dX1_becomeLike_193 rfl (by decide) ww_inX1 q_33 rfl) ?_
  refine vg_cons (vs_iconst dX1_becomeLike_196 rfl rfl) ?_
  refine vg_cons (vs_aload_n dX1_becomeLike_197 rfl rfl) ?_
  refine vg_cons (vs_getfield (T := TX1) dX1_becomeLike_198 rfl (by decide) ww_inX1 q_33 rfl) ?_
  refine vg_cons (vs_iconst dX1_becomeLike_201 rfl rfl) ?_
  refine vg_cons (vs_bipush dX1_becomeLike_202 (by decide) rfl) ?_
  refine vg_cons (vs_acopy dX1_becomeLike_204 rfl q_196 q_166 q_167 q_168 (by decide) rfl) ?_
  refine vg_cons (vs_return dX1_becomeLike_207 rfl) ?_
  exact fun _ h => absurd h List.not_mem_nil
theorem m_X1_becomeLike : vg_Code k_X1_becomeLike := fun q h => (s_X1_becomeLike q h).1

theorem w_X1_becomeLike : vg_Wd sp_X1_becomeLike 3 := by
  intro av σ h
  unfold sp_X1_becomeLike at h
  split at h
  · exact Nat.le_of_ble_eq_true rfl
  · exact h.elim
theorem g_X1_becomeLike : vg_G k_X1_becomeLike sp_X1_becomeLike := by
  intro av σ h
  unfold sp_X1_becomeLike at h ⊢
  split at h
  next b b' =>
    obtain ⟨hbb, hw, hz⟩ := h
    have h8 := hw.1.2
    have h3 := hw.2.1.2
    have h12 := hw.2.2.1.2
    have hrb : ∀ (σ' : vgS) k i s x k' i' s', vg_st σ' (k, b, i) s x (k', b', i') s' = σ' (k', b', i') s' := by
      intro σ' k i s x k' i' s'
      rw [vg_st_eq, if_neg]
      exact fun z => hbb (congrArg (fun n => n.2.1) z.1)
    have hj : ∀ k i s, σ (k, b', i) s = jV σ b' k i s := fun _ _ _ => rfl
    have hr : ∀ v k i s, jPut σ b v (k, b', i) s = jV σ b' k i s := fun v k i s => jPut_ne hbb
    have hct : ∀ a c d s, s < 7 → jPut σ b (jCp (jRA a c d) (jV σ b') (jV σ b)) (1, b, 0) s = jV σ b' 1 0 s := by
      intro a c d s hs
      rw [jPut_at, jCp_t]
      simp [jRA, hs]
    refine vg_run (cuts := [(58, [0, 1, 2]), (89, [0, 1, 2]), (141, [0, 1, 2]), (170, [0, 1]), (181, [0, 1]), (192, [0, 1])]) m_X1_becomeLike 60 ?_
    refine vg_loop (fun i lv σ' => ∃ x, σ' = jPut σ b (jCp (jRA i 0 0) (jV σ b') (jV σ b)) ∧ x = nI i ∧ lv = [(0, .inr (1, b, 0)), (1, .inr (1, b', 0)), (2, .inl (.int x))]) (jGc (jV σ b')) ?_ ?_ 0 _ _ (Nat.zero_le _) ⟨0, ?_, rfl, rfl⟩
    · rintro i lv σ' hi ⟨x, rfl, hx, rfl⟩ ih
      have hc0 : x.toNatClampNeg = i := jcl hx (by omega)
      have hv : vp_in x 8 := jin hx (by omega) (by decide)
      have hcnt := (hct i 0 0 4 (by decide)).trans hw.1.1
      refine vg_run (cuts := [(58, [0, 1, 2]), (89, [0, 1, 2]), (141, [0, 1, 2]), (170, [0, 1]), (181, [0, 1]), (192, [0, 1])]) m_X1_becomeLike 60 ?_
      refine And.intro (fun hc => absurd ((jle hcnt hx (by omega) (by omega)).mp hc) (by omega)) (fun _ => And.intro hv (And.intro hv (And.intro ?_ ?_)))
      · refine ⟨rfl, hbb, ?_, ?_⟩
        · rw [jV_put_ne hbb, hc0]
          exact (hz.1 i (by omega)).1
        · rw [jV_put_ne hbb, hc0]
          exact (hz.1 i (by omega)).2
      · refine ih _ _ ⟨x + 1, ?_, jinc hx, rfl⟩
        dsimp only
        rw [hc0, jPut_put, jV_put_ne hbb, jV_put, jRA_g]
    · rintro lv σ' ⟨x, rfl, hx, rfl⟩
      have hcnt := (hct (jGc (jV σ b')) 0 0 4 (by decide)).trans hw.1.1
      refine vg_run (cuts := [(58, [0, 1, 2]), (89, [0, 1, 2]), (141, [0, 1, 2]), (170, [0, 1]), (181, [0, 1]), (192, [0, 1])]) m_X1_becomeLike 60 ?_
      refine And.intro (fun _ => ?_) (fun hc => absurd ((jle hcnt hx (by omega) (by omega)).mpr (Nat.le_refl _)) hc)
      refine vg_loop (fun i lv σ' => ∃ x, σ' = jPut σ b (jCp (jRA (jGc (jV σ b')) i 0) (jV σ b') (jV σ b)) ∧ x = nI i ∧ lv = [(0, .inr (1, b, 0)), (1, .inr (1, b', 0)), (2, .inl (.int x))]) (jSc (jV σ b')) ?_ ?_ 0 _ _ (Nat.zero_le _) ⟨0, rfl, rfl, rfl⟩
      · rintro i lv σ' hi ⟨x, rfl, hx, rfl⟩ ih
        have hc0 : x.toNatClampNeg = i := jcl hx (by omega)
        have hv : vp_in x 3 := jin hx (by omega) (by decide)
        have hcnt := (hct (jGc (jV σ b')) i 0 5 (by decide)).trans hw.2.1.1
        refine vg_run (cuts := [(58, [0, 1, 2]), (89, [0, 1, 2]), (141, [0, 1, 2]), (170, [0, 1]), (181, [0, 1]), (192, [0, 1])]) m_X1_becomeLike 60 ?_
        refine And.intro (fun hc => absurd ((jle hcnt hx (by omega) (by omega)).mp hc) (by omega)) (fun _ => And.intro hv (And.intro hv (And.intro hv (And.intro hv ?_))))
        refine ih _ _ ⟨x + 1, ?_, jinc hx, rfl⟩
        dsimp only
        rw [hc0]
        simp only [hrb, hr]
        rw [jst, jst, jCp_up rfl, jCp_up rfl, jRA_s]
      · rintro lv σ' ⟨x, rfl, hx, rfl⟩
        have hcnt := (hct (jGc (jV σ b')) (jSc (jV σ b')) 0 5 (by decide)).trans hw.2.1.1
        refine vg_run (cuts := [(58, [0, 1, 2]), (89, [0, 1, 2]), (141, [0, 1, 2]), (170, [0, 1]), (181, [0, 1]), (192, [0, 1])]) m_X1_becomeLike 60 ?_
        refine And.intro (fun _ => ?_) (fun hc => absurd ((jle hcnt hx (by omega) (by omega)).mpr (Nat.le_refl _)) hc)
        refine vg_loop (fun i lv σ' => ∃ x, σ' = jPut σ b (jCp (jRA (jGc (jV σ b')) (jSc (jV σ b')) i) (jV σ b') (jV σ b)) ∧ x = nI i ∧ lv = [(0, .inr (1, b, 0)), (1, .inr (1, b', 0)), (2, .inl (.int x))]) (jWc (jV σ b')) ?_ ?_ 0 _ _ (Nat.zero_le _) ⟨0, rfl, rfl, rfl⟩
        · rintro i lv σ' hi ⟨x, rfl, hx, rfl⟩ ih
          have hc0 : x.toNatClampNeg = i := jcl hx (by omega)
          have hv : vp_in x 12 := jin hx (by omega) (by decide)
          have hcnt := (hct (jGc (jV σ b')) (jSc (jV σ b')) i 6 (by decide)).trans hw.2.2.1.1
          refine vg_run (cuts := [(58, [0, 1, 2]), (89, [0, 1, 2]), (141, [0, 1, 2]), (170, [0, 1]), (181, [0, 1]), (192, [0, 1])]) m_X1_becomeLike 60 ?_
          refine And.intro (fun hc => absurd ((jle hcnt hx (by omega) (by omega)).mp hc) (by omega)) (fun _ => And.intro hv (And.intro hv (And.intro ?_ ?_)))
          · refine ⟨rfl, hbb, ?_⟩
            rw [jV_put_ne hbb, hc0]
            exact hz.2.1 i (by omega)
          · refine ih _ _ ⟨x + 1, ?_, jinc hx, rfl⟩
            dsimp only
            rw [hc0, jPut_put, jV_put_ne hbb, jV_put, jRA_w]
        · rintro lv σ' ⟨x, rfl, hx, rfl⟩
          have hcnt := (hct (jGc (jV σ b')) (jSc (jV σ b')) (jWc (jV σ b')) 6 (by decide)).trans hw.2.2.1.1
          refine vg_run (cuts := [(58, [0, 1, 2]), (89, [0, 1, 2]), (141, [0, 1, 2]), (170, [0, 1]), (181, [0, 1]), (192, [0, 1])]) m_X1_becomeLike 60 ?_
          refine And.intro (fun _ => ?_) (fun hc => absurd ((jle hcnt hx (by omega) (by omega)).mpr (Nat.le_refl _)) hc)
          rw [← jLike_e]
          generalize jCp (jRA (jGc (jV σ b')) (jSc (jV σ b')) (jWc (jV σ b'))) (jV σ b') (jV σ b) = u
          refine vg_run (cuts := [(58, [0, 1, 2]), (89, [0, 1, 2]), (141, [0, 1, 2]), (170, [0, 1]), (181, [0, 1]), (192, [0, 1])]) m_X1_becomeLike 60 ?_
          refine And.intro ⟨rfl, hbb, by rw [jV_put_ne hbb]; exact hw.2.2.2.1, by rw [jV_put_ne hbb]; exact fun s hs => hz.2.2 0 s hs⟩ ?_
          dsimp only
          rw [jPut_put, jV_put_ne hbb, jV_put]
          generalize jCp (jRS 0 (jNc (jV σ b') 0)) (jV σ b') u = u2
          refine vg_run (cuts := [(58, [0, 1, 2]), (89, [0, 1, 2]), (141, [0, 1, 2]), (170, [0, 1]), (181, [0, 1]), (192, [0, 1])]) m_X1_becomeLike 60 ?_
          refine And.intro ⟨rfl, hbb, by rw [jV_put_ne hbb]; exact hw.2.2.2.2, by rw [jV_put_ne hbb]; exact fun s hs => hz.2.2 1 s hs⟩ ?_
          dsimp only
          rw [jPut_put, jV_put_ne hbb, jV_put]
          generalize jCp (jRS 1 (jNc (jV σ b') 1)) (jV σ b') u2 = u3
          refine vg_run (cuts := [(58, [0, 1, 2]), (89, [0, 1, 2]), (141, [0, 1, 2]), (170, [0, 1]), (181, [0, 1]), (192, [0, 1])]) m_X1_becomeLike 60 ?_
          refine And.intro ?_ (And.intro rfl ?_)
          · exact ⟨rfl, rfl, by decide, by decide, by decide⟩
          · funext n s
            obtain ⟨k, b0, i⟩ := n
            have e16 : (16 : Int32).toNatClampNeg = 16 := by decide
            simp only [vg_cp, jPut, jCp, jV, e16]
            by_cases h1 : b0 = b
            · subst h1
              by_cases h2 : k = 6 ∧ i = 0 ∧ s < 16
              · obtain ⟨rfl, rfl, h2⟩ := h2
                simp [h2, hbb]
              · have e : (k == 6 && i == 0 && decide (s < 16)) = false := by
                  rw [Bool.eq_false_iff]
                  intro z
                  simp only [Bool.and_eq_true, beq_iff_eq, decide_eq_true_eq] at z
                  exact h2 ⟨z.1.1, z.1.2, z.2⟩
                have f : ¬ ((k, b0, i) = (6, b0, 0) ∧ s < 16) := fun z => h2 ⟨congrArg Prod.fst z.1, congrArg (fun n => n.2.2) z.1, z.2⟩
                rw [if_neg f, if_pos rfl, if_pos rfl, if_neg]
                exact fun z => Bool.false_ne_true (e.symm.trans z)
            · simp [h1]
    · simp only [hrb, hj]
      rw [jst0 (s := 0), jst, jst, jst, jst, jst, jst]
      refine congrArg _ ?_
      rw [← jRA_0]
      conv => lhs; rw [← jCp_no (w := jV σ b') (v := jV σ b)]
      rw [jCp_up rfl, jCp_up rfl, jCp_up rfl, jCp_up rfl, jCp_up rfl, jCp_up rfl, jCp_up rfl]
  next => exact h.elim
theorem c_X1_becomeLike : vg_MetF ww_tb ww_nw ww_shp ww_nm ww_cl ww_tyl yX1_becomeLike cX1_becomeLike 3 none 2 sp_X1_becomeLike := vg_met ww_closed (by decide +kernel) rfl s_X1_becomeLike w_X1_becomeLike g_X1_becomeLike
end
section
-- words of the tables, and what stands at each place of the methods' code (laid by program)
theorem q_197 : Cond.fieldLink RX5 10 (TX5 0).1 (TX5 0).2.1 (TX5 0).2.2.1 ∈ ww_tb := by decide +kernel
theorem q_198 : Cond.fieldLink RX5 27 (TX1 4).1 (TX1 4).2.1 (TX1 4).2.2.1 ∈ ww_tb := by decide +kernel
theorem q_199 : Cond.fieldLink RX5 249 (TX1 6).1 (TX1 6).2.1 (TX1 6).2.2.1 ∈ ww_tb := by decide +kernel
theorem q_200 : Cond.constant RX5 341 (65535) ∈ ww_tb := by decide +kernel
theorem q_201 : Cond.code yX5_checkRange cX5_checkRange 3 none ∈ ww_tb := by decide +kernel
theorem q_202 : Cond.static yX5_checkRange ∈ ww_tb := by decide +kernel
theorem q_203 : Cond.methodLink RX5 23 yX5_checkRange ∈ ww_tb := by decide +kernel
theorem q_204 : Cond.constantLong RX5 327 (31) ∈ ww_tb := by decide +kernel
theorem q_205 : Cond.fieldLink RX5 112 (TX1 0).1 (TX1 0).2.1 (TX1 0).2.2.1 ∈ ww_tb := by decide +kernel
theorem q_206 : Cond.methodLink RX5 257 yX1_hourNow ∈ ww_tb := by decide +kernel
theorem q_207 : Cond.code yX1_peopleOfAll cX1_peopleOfAll 3 (some .int) ∈ ww_tb := by decide +kernel
theorem q_208 : Cond.methodLink RX5 260 yX1_peopleOfAll ∈ ww_tb := by decide +kernel
theorem q_209 : Cond.instanceMethod yX1_peopleOfAll ∈ ww_tb := by decide +kernel
theorem q_210 : Cond.selects RX1 yX1_peopleOfAll yX1_peopleOfAll ∈ ww_tb := by decide +kernel
theorem q_211 : Cond.code yX1_peopleSafe cX1_peopleSafe 3 (some .int) ∈ ww_tb := by decide +kernel
theorem q_212 : Cond.methodLink RX5 263 yX1_peopleSafe ∈ ww_tb := by decide +kernel
theorem q_213 : Cond.instanceMethod yX1_peopleSafe ∈ ww_tb := by decide +kernel
theorem q_214 : Cond.selects RX1 yX1_peopleSafe yX1_peopleSafe ∈ ww_tb := by decide +kernel
theorem q_215 : Cond.code yX1_peopleGone cX1_peopleGone 3 (some .int) ∈ ww_tb := by decide +kernel
theorem q_216 : Cond.methodLink RX5 266 yX1_peopleGone ∈ ww_tb := by decide +kernel
theorem q_217 : Cond.instanceMethod yX1_peopleGone ∈ ww_tb := by decide +kernel
theorem q_218 : Cond.selects RX1 yX1_peopleGone yX1_peopleGone ∈ ww_tb := by decide +kernel
theorem q_219 : Cond.code yX1_countInForce cX1_countInForce 3 (some .int) ∈ ww_tb := by decide +kernel
theorem q_220 : Cond.methodLink RX5 191 yX1_countInForce ∈ ww_tb := by decide +kernel
theorem q_221 : Cond.instanceMethod yX1_countInForce ∈ ww_tb := by decide +kernel
theorem q_222 : Cond.selects RX1 yX1_countInForce yX1_countInForce ∈ ww_tb := by decide +kernel
theorem q_223 : Cond.code yX1_cellsInDanger cX1_cellsInDanger 3 (some .int) ∈ ww_tb := by decide +kernel
theorem q_224 : Cond.methodLink RX5 269 yX1_cellsInDanger ∈ ww_tb := by decide +kernel
theorem q_225 : Cond.instanceMethod yX1_cellsInDanger ∈ ww_tb := by decide +kernel
theorem q_226 : Cond.selects RX1 yX1_cellsInDanger yX1_cellsInDanger ∈ ww_tb := by decide +kernel
theorem q_227 : Cond.code yX1_countAsleep cX1_countAsleep 3 (some .int) ∈ ww_tb := by decide +kernel
theorem q_228 : Cond.methodLink RX5 272 yX1_countAsleep ∈ ww_tb := by decide +kernel
theorem q_229 : Cond.instanceMethod yX1_countAsleep ∈ ww_tb := by decide +kernel
theorem q_230 : Cond.selects RX1 yX1_countAsleep yX1_countAsleep ∈ ww_tb := by decide +kernel
theorem q_231 : Cond.fieldLink RX5 275 (TX1 3).1 (TX1 3).2.1 (TX1 3).2.2.1 ∈ ww_tb := by decide +kernel
theorem q_232 : Cond.fieldLink RX5 118 (TX1 2).1 (TX1 2).2.1 (TX1 2).2.2.1 ∈ ww_tb := by decide +kernel
theorem q_233 : Cond.fieldLink RX5 66 (TX1 5).1 (TX1 5).2.1 (TX1 5).2.2.1 ∈ ww_tb := by decide +kernel
theorem q_234 : Cond.fieldLink RX5 71 (TX1 8).1 (TX1 8).2.1 (TX1 8).2.2.1 ∈ ww_tb := by decide +kernel
theorem q_235 : Cond.fieldLink RX5 78 (TX3 1).1 (TX3 1).2.1 (TX3 1).2.2.1 ∈ ww_tb := by decide +kernel
theorem dX5_checkCell_0 : decode cX5_checkCell 0 = .ok (.iload_n 0, 1) := by decide +kernel
theorem dX5_checkCell_1 : decode cX5_checkCell 1 = .ok (.ifCond .lt 9, 3) := by decide +kernel
theorem dX5_checkCell_4 : decode cX5_checkCell 4 = .ok (.iload_n 0, 1) := by decide +kernel
theorem dX5_checkCell_5 : decode cX5_checkCell 5 = .ok (.bipush 16, 2) := by decide +kernel
theorem dX5_checkCell_7 : decode cX5_checkCell 7 = .ok (.if_icmp .lt 14, 3) := by decide +kernel
theorem dX5_checkCell_10 : decode cX5_checkCell 10 = .ok (.new 252, 3) := by decide +kernel
theorem dX5_checkCell_13 : decode cX5_checkCell 13 = .ok (.dup, 1) := by decide +kernel
theorem dX5_checkCell_14 : decode cX5_checkCell 14 = .ok (.ldc_w 331, 3) := by decide +kernel
theorem dX5_checkCell_17 : decode cX5_checkCell 17 = .ok (.invokespecial 256, 3) := by decide +kernel
theorem dX5_checkCell_20 : decode cX5_checkCell 20 = .ok (.athrow, 1) := by decide +kernel
theorem dX5_checkCell_21 : decode cX5_checkCell 21 = .ok (.return_, 1) := by decide +kernel
theorem dX5_checkOfficer_0 : decode cX5_checkOfficer 0 = .ok (.iload_n 0, 1) := by decide +kernel
theorem dX5_checkOfficer_1 : decode cX5_checkOfficer 1 = .ok (.ifCond .lt 8, 3) := by decide +kernel
theorem dX5_checkOfficer_4 : decode cX5_checkOfficer 4 = .ok (.iload_n 0, 1) := by decide +kernel
theorem dX5_checkOfficer_5 : decode cX5_checkOfficer 5 = .ok (.iconst 4, 1) := by decide +kernel
theorem dX5_checkOfficer_6 : decode cX5_checkOfficer 6 = .ok (.if_icmp .lt 14, 3) := by decide +kernel
theorem dX5_checkOfficer_9 : decode cX5_checkOfficer 9 = .ok (.new 252, 3) := by decide +kernel
theorem dX5_checkOfficer_12 : decode cX5_checkOfficer 12 = .ok (.dup, 1) := by decide +kernel
theorem dX5_checkOfficer_13 : decode cX5_checkOfficer 13 = .ok (.ldc_w 333, 3) := by decide +kernel
theorem dX5_checkOfficer_16 : decode cX5_checkOfficer 16 = .ok (.invokespecial 256, 3) := by decide +kernel
theorem dX5_checkOfficer_19 : decode cX5_checkOfficer 19 = .ok (.athrow, 1) := by decide +kernel
theorem dX5_checkOfficer_20 : decode cX5_checkOfficer 20 = .ok (.return_, 1) := by decide +kernel
theorem dX5_checkRange_0 : decode cX5_checkRange 0 = .ok (.iload_n 0, 1) := by decide +kernel
theorem dX5_checkRange_1 : decode cX5_checkRange 1 = .ok (.iload_n 1, 1) := by decide +kernel
theorem dX5_checkRange_2 : decode cX5_checkRange 2 = .ok (.if_icmp .lt 8, 3) := by decide +kernel
theorem dX5_checkRange_5 : decode cX5_checkRange 5 = .ok (.iload_n 0, 1) := by decide +kernel
theorem dX5_checkRange_6 : decode cX5_checkRange 6 = .ok (.iload_n 2, 1) := by decide +kernel
theorem dX5_checkRange_7 : decode cX5_checkRange 7 = .ok (.if_icmp .le 14, 3) := by decide +kernel
theorem dX5_checkRange_10 : decode cX5_checkRange 10 = .ok (.new 215, 3) := by decide +kernel
theorem dX5_checkRange_13 : decode cX5_checkRange 13 = .ok (.dup, 1) := by decide +kernel
theorem dX5_checkRange_14 : decode cX5_checkRange 14 = .ok (.ldc_w 342, 3) := by decide +kernel
theorem dX5_checkRange_17 : decode cX5_checkRange 17 = .ok (.invokespecial 219, 3) := by decide +kernel
theorem dX5_checkRange_20 : decode cX5_checkRange 20 = .ok (.athrow, 1) := by decide +kernel
theorem dX5_checkRange_21 : decode cX5_checkRange 21 = .ok (.return_, 1) := by decide +kernel
theorem dX5_checkGroup_0 : decode cX5_checkGroup 0 = .ok (.iload_n 1, 1) := by decide +kernel
theorem dX5_checkGroup_1 : decode cX5_checkGroup 1 = .ok (.ifCond .lt 14, 3) := by decide +kernel
theorem dX5_checkGroup_4 : decode cX5_checkGroup 4 = .ok (.iload_n 1, 1) := by decide +kernel
theorem dX5_checkGroup_5 : decode cX5_checkGroup 5 = .ok (.aload_n 0, 1) := by decide +kernel
theorem dX5_checkGroup_6 : decode cX5_checkGroup 6 = .ok (.getfield 10, 3) := by decide +kernel
theorem dX5_checkGroup_9 : decode cX5_checkGroup 9 = .ok (.getfield 27, 3) := by decide +kernel
theorem dX5_checkGroup_12 : decode cX5_checkGroup 12 = .ok (.if_icmp .lt 14, 3) := by decide +kernel
theorem dX5_checkGroup_15 : decode cX5_checkGroup 15 = .ok (.new 252, 3) := by decide +kernel
theorem dX5_checkGroup_18 : decode cX5_checkGroup 18 = .ok (.dup, 1) := by decide +kernel
theorem dX5_checkGroup_19 : decode cX5_checkGroup 19 = .ok (.ldc_w 335, 3) := by decide +kernel
theorem dX5_checkGroup_22 : decode cX5_checkGroup 22 = .ok (.invokespecial 256, 3) := by decide +kernel
theorem dX5_checkGroup_25 : decode cX5_checkGroup 25 = .ok (.athrow, 1) := by decide +kernel
theorem dX5_checkGroup_26 : decode cX5_checkGroup 26 = .ok (.return_, 1) := by decide +kernel
theorem dX5_checkWarning_0 : decode cX5_checkWarning 0 = .ok (.iload_n 1, 1) := by decide +kernel
theorem dX5_checkWarning_1 : decode cX5_checkWarning 1 = .ok (.ifCond .lt 14, 3) := by decide +kernel
theorem dX5_checkWarning_4 : decode cX5_checkWarning 4 = .ok (.iload_n 1, 1) := by decide +kernel
theorem dX5_checkWarning_5 : decode cX5_checkWarning 5 = .ok (.aload_n 0, 1) := by decide +kernel
theorem dX5_checkWarning_6 : decode cX5_checkWarning 6 = .ok (.getfield 10, 3) := by decide +kernel
theorem dX5_checkWarning_9 : decode cX5_checkWarning 9 = .ok (.getfield 249, 3) := by decide +kernel
theorem dX5_checkWarning_12 : decode cX5_checkWarning 12 = .ok (.if_icmp .lt 14, 3) := by decide +kernel
theorem dX5_checkWarning_15 : decode cX5_checkWarning 15 = .ok (.new 252, 3) := by decide +kernel
theorem dX5_checkWarning_18 : decode cX5_checkWarning 18 = .ok (.dup, 1) := by decide +kernel
theorem dX5_checkWarning_19 : decode cX5_checkWarning 19 = .ok (.ldc_w 337, 3) := by decide +kernel
theorem dX5_checkWarning_22 : decode cX5_checkWarning 22 = .ok (.invokespecial 256, 3) := by decide +kernel
theorem dX5_checkWarning_25 : decode cX5_checkWarning 25 = .ok (.athrow, 1) := by decide +kernel
theorem dX5_checkWarning_26 : decode cX5_checkWarning 26 = .ok (.return_, 1) := by decide +kernel
theorem dX5_checkWords_0 : decode cX5_checkWords 0 = .ok (.iload_n 0, 1) := by decide +kernel
theorem dX5_checkWords_1 : decode cX5_checkWords 1 = .ok (.iconst 1, 1) := by decide +kernel
theorem dX5_checkWords_2 : decode cX5_checkWords 2 = .ok (.ldc_w 341, 3) := by decide +kernel
theorem dX5_checkWords_5 : decode cX5_checkWords 5 = .ok (.invokestatic 23, 3) := by decide +kernel
theorem dX5_checkWords_8 : decode cX5_checkWords 8 = .ok (.iload_n 1, 1) := by decide +kernel
theorem dX5_checkWords_9 : decode cX5_checkWords 9 = .ok (.iconst 0, 1) := by decide +kernel
theorem dX5_checkWords_10 : decode cX5_checkWords 10 = .ok (.iconst 1, 1) := by decide +kernel
theorem dX5_checkWords_11 : decode cX5_checkWords 11 = .ok (.invokestatic 23, 3) := by decide +kernel
theorem dX5_checkWords_14 : decode cX5_checkWords 14 = .ok (.iload_n 2, 1) := by decide +kernel
theorem dX5_checkWords_15 : decode cX5_checkWords 15 = .ok (.iconst 1, 1) := by decide +kernel
theorem dX5_checkWords_16 : decode cX5_checkWords 16 = .ok (.bipush 7, 2) := by decide +kernel
theorem dX5_checkWords_18 : decode cX5_checkWords 18 = .ok (.invokestatic 23, 3) := by decide +kernel
theorem dX5_checkWords_21 : decode cX5_checkWords 21 = .ok (.return_, 1) := by decide +kernel
theorem dX5_mix_0 : decode cX5_mix 0 = .ok (.lload_n 0, 1) := by decide +kernel
theorem dX5_mix_1 : decode cX5_mix 1 = .ok (.ldc2_w 327, 3) := by decide +kernel
theorem dX5_mix_4 : decode cX5_mix 4 = .ok (.lmul, 1) := by decide +kernel
theorem dX5_mix_5 : decode cX5_mix 5 = .ok (.iload_n 2, 1) := by decide +kernel
theorem dX5_mix_6 : decode cX5_mix 6 = .ok (.i2l, 1) := by decide +kernel
theorem dX5_mix_7 : decode cX5_mix 7 = .ok (.ladd, 1) := by decide +kernel
theorem dX5_mix_8 : decode cX5_mix 8 = .ok (.lreturn, 1) := by decide +kernel
theorem dX5_many_0 : decode cX5_many 0 = .ok (.iload_n 1, 1) := by decide +kernel
theorem dX5_many_1 : decode cX5_many 1 = .ok (.tableswitch 159 0 11 #[63, 71, 79, 87, 95, 103, 111, 119, 127, 135, 143, 151], 63) := by decide +kernel
theorem dX5_many_64 : decode cX5_many 64 = .ok (.aload_n 0, 1) := by decide +kernel
theorem dX5_many_65 : decode cX5_many 65 = .ok (.getfield 10, 3) := by decide +kernel
theorem dX5_many_68 : decode cX5_many 68 = .ok (.getfield 112, 3) := by decide +kernel
theorem dX5_many_71 : decode cX5_many 71 = .ok (.ireturn, 1) := by decide +kernel
theorem dX5_many_72 : decode cX5_many 72 = .ok (.aload_n 0, 1) := by decide +kernel
theorem dX5_many_73 : decode cX5_many 73 = .ok (.getfield 10, 3) := by decide +kernel
theorem dX5_many_76 : decode cX5_many 76 = .ok (.invokevirtual 257, 3) := by decide +kernel
theorem dX5_many_79 : decode cX5_many 79 = .ok (.ireturn, 1) := by decide +kernel
theorem dX5_many_80 : decode cX5_many 80 = .ok (.aload_n 0, 1) := by decide +kernel
theorem dX5_many_81 : decode cX5_many 81 = .ok (.getfield 10, 3) := by decide +kernel
theorem dX5_many_84 : decode cX5_many 84 = .ok (.getfield 27, 3) := by decide +kernel
theorem dX5_many_87 : decode cX5_many 87 = .ok (.ireturn, 1) := by decide +kernel
theorem dX5_many_88 : decode cX5_many 88 = .ok (.aload_n 0, 1) := by decide +kernel
theorem dX5_many_89 : decode cX5_many 89 = .ok (.getfield 10, 3) := by decide +kernel
theorem dX5_many_92 : decode cX5_many 92 = .ok (.invokevirtual 260, 3) := by decide +kernel
theorem dX5_many_95 : decode cX5_many 95 = .ok (.ireturn, 1) := by decide +kernel
theorem dX5_many_96 : decode cX5_many 96 = .ok (.aload_n 0, 1) := by decide +kernel
theorem dX5_many_97 : decode cX5_many 97 = .ok (.getfield 10, 3) := by decide +kernel
theorem dX5_many_100 : decode cX5_many 100 = .ok (.invokevirtual 263, 3) := by decide +kernel
theorem dX5_many_103 : decode cX5_many 103 = .ok (.ireturn, 1) := by decide +kernel
theorem dX5_many_104 : decode cX5_many 104 = .ok (.aload_n 0, 1) := by decide +kernel
theorem dX5_many_105 : decode cX5_many 105 = .ok (.getfield 10, 3) := by decide +kernel
theorem dX5_many_108 : decode cX5_many 108 = .ok (.invokevirtual 266, 3) := by decide +kernel
theorem dX5_many_111 : decode cX5_many 111 = .ok (.ireturn, 1) := by decide +kernel
theorem dX5_many_112 : decode cX5_many 112 = .ok (.aload_n 0, 1) := by decide +kernel
theorem dX5_many_113 : decode cX5_many 113 = .ok (.getfield 10, 3) := by decide +kernel
theorem dX5_many_116 : decode cX5_many 116 = .ok (.getfield 249, 3) := by decide +kernel
theorem dX5_many_119 : decode cX5_many 119 = .ok (.ireturn, 1) := by decide +kernel
theorem dX5_many_120 : decode cX5_many 120 = .ok (.aload_n 0, 1) := by decide +kernel
theorem dX5_many_121 : decode cX5_many 121 = .ok (.getfield 10, 3) := by decide +kernel
theorem dX5_many_124 : decode cX5_many 124 = .ok (.invokevirtual 191, 3) := by decide +kernel
theorem dX5_many_127 : decode cX5_many 127 = .ok (.ireturn, 1) := by decide +kernel
theorem dX5_many_128 : decode cX5_many 128 = .ok (.aload_n 0, 1) := by decide +kernel
theorem dX5_many_129 : decode cX5_many 129 = .ok (.getfield 10, 3) := by decide +kernel
theorem dX5_many_132 : decode cX5_many 132 = .ok (.invokevirtual 269, 3) := by decide +kernel
theorem dX5_many_135 : decode cX5_many 135 = .ok (.ireturn, 1) := by decide +kernel
theorem dX5_many_136 : decode cX5_many 136 = .ok (.aload_n 0, 1) := by decide +kernel
theorem dX5_many_137 : decode cX5_many 137 = .ok (.getfield 10, 3) := by decide +kernel
theorem dX5_many_140 : decode cX5_many 140 = .ok (.invokevirtual 272, 3) := by decide +kernel
theorem dX5_many_143 : decode cX5_many 143 = .ok (.ireturn, 1) := by decide +kernel
theorem dX5_many_144 : decode cX5_many 144 = .ok (.aload_n 0, 1) := by decide +kernel
theorem dX5_many_145 : decode cX5_many 145 = .ok (.getfield 10, 3) := by decide +kernel
theorem dX5_many_148 : decode cX5_many 148 = .ok (.getfield 275, 3) := by decide +kernel
theorem dX5_many_151 : decode cX5_many 151 = .ok (.ireturn, 1) := by decide +kernel
theorem dX5_many_152 : decode cX5_many 152 = .ok (.aload_n 0, 1) := by decide +kernel
theorem dX5_many_153 : decode cX5_many 153 = .ok (.getfield 10, 3) := by decide +kernel
theorem dX5_many_156 : decode cX5_many 156 = .ok (.getfield 118, 3) := by decide +kernel
theorem dX5_many_159 : decode cX5_many 159 = .ok (.ireturn, 1) := by decide +kernel
theorem dX5_many_160 : decode cX5_many 160 = .ok (.new 215, 3) := by decide +kernel
theorem dX5_many_163 : decode cX5_many 163 = .ok (.dup, 1) := by decide +kernel
theorem dX5_many_164 : decode cX5_many 164 = .ok (.ldc_w 278, 3) := by decide +kernel
theorem dX5_many_167 : decode cX5_many 167 = .ok (.invokespecial 219, 3) := by decide +kernel
theorem dX5_many_170 : decode cX5_many 170 = .ok (.athrow, 1) := by decide +kernel
theorem dX5_roomIn_0 : decode cX5_roomIn 0 = .ok (.iload_n 1, 1) := by decide +kernel
theorem dX5_roomIn_1 : decode cX5_roomIn 1 = .ok (.ifCond .lt 14, 3) := by decide +kernel
theorem dX5_roomIn_4 : decode cX5_roomIn 4 = .ok (.iload_n 1, 1) := by decide +kernel
theorem dX5_roomIn_5 : decode cX5_roomIn 5 = .ok (.aload_n 0, 1) := by decide +kernel
theorem dX5_roomIn_6 : decode cX5_roomIn 6 = .ok (.getfield 10, 3) := by decide +kernel
theorem dX5_roomIn_9 : decode cX5_roomIn 9 = .ok (.getfield 66, 3) := by decide +kernel
theorem dX5_roomIn_12 : decode cX5_roomIn 12 = .ok (.if_icmp .lt 13, 3) := by decide +kernel
theorem dX5_roomIn_15 : decode cX5_roomIn 15 = .ok (.new 252, 3) := by decide +kernel
theorem dX5_roomIn_18 : decode cX5_roomIn 18 = .ok (.dup, 1) := by decide +kernel
theorem dX5_roomIn_19 : decode cX5_roomIn 19 = .ok (.ldc 254, 2) := by decide +kernel
theorem dX5_roomIn_21 : decode cX5_roomIn 21 = .ok (.invokespecial 256, 3) := by decide +kernel
theorem dX5_roomIn_24 : decode cX5_roomIn 24 = .ok (.athrow, 1) := by decide +kernel
theorem dX5_roomIn_25 : decode cX5_roomIn 25 = .ok (.aload_n 0, 1) := by decide +kernel
theorem dX5_roomIn_26 : decode cX5_roomIn 26 = .ok (.getfield 10, 3) := by decide +kernel
theorem dX5_roomIn_29 : decode cX5_roomIn 29 = .ok (.getfield 71, 3) := by decide +kernel
theorem dX5_roomIn_32 : decode cX5_roomIn 32 = .ok (.iload_n 1, 1) := by decide +kernel
theorem dX5_roomIn_33 : decode cX5_roomIn 33 = .ok (.aaload, 1) := by decide +kernel
theorem dX5_roomIn_34 : decode cX5_roomIn 34 = .ok (.getfield 78, 3) := by decide +kernel
theorem dX5_roomIn_37 : decode cX5_roomIn 37 = .ok (.ireturn, 1) := by decide +kernel
/-! the class itself: checks and questions -/
theorem jlt {x : Int32} {N : Nat} (h : vp_in x N) (hN : N < 1000) : ¬ x < 0 ∧ x < nI N := by
  refine ⟨fun z => h (Or.inl z), ?_⟩
  obtain ⟨j, hj, rfl⟩ := vp_in_of h (by omega)
  exact Int32.not_le.mp (fun z => absurd ((jle (c := nI N) (n := N) rfl rfl hN (by omega)).mp z) (by omega))
def sp_X5_checkCell : vgC := fun av σ => match av with
  | [.inl (.int c)] => (vp_in c 16, none, σ)
  | _ => (False, none, σ)
def k_X5_checkCell : List (Nat × vgF) := [(0, vi_iload 0 1), (1, vi_if (fun x => x < 0) 10 4), (4, vi_iload 0 5), (5, vi_icst (16) 7), (7, vi_cmp (fun x y => x < y) 21 10), (10, vi_no), (21, vi_retV)]
set_option maxRecDepth 20000 in
theorem s_X5_checkCell : ∀ q ∈ k_X5_checkCell, vg_Snd ww_tb ww_nw ww_shp ww_nm ww_cl ww_tyl cX5_checkCell 1 RX5 none 0 q.1 q.2 := by
  refine vg_cons (vs_iload_n dX5_checkCell_0 rfl rfl) ?_
  refine vg_cons (vs_if_lt dX5_checkCell_1 (by decide) rfl) ?_
  refine vg_cons (vs_iload_n dX5_checkCell_4 rfl rfl) ?_
  refine vg_cons (vs_bipush dX5_checkCell_5 (by decide) rfl) ?_
  refine vg_cons (vs_cmp_lt dX5_checkCell_7 (by decide) rfl) ?_
  refine vg_cons (vs_no) ?_
  refine vg_cons (vs_return dX5_checkCell_21 rfl) ?_
  exact fun _ h => absurd h List.not_mem_nil
theorem m_X5_checkCell : vg_Code k_X5_checkCell := fun q h => (s_X5_checkCell q h).1

theorem w_X5_checkCell : vg_Wd sp_X5_checkCell 1 := by
  intro av σ h
  unfold sp_X5_checkCell at h
  split at h
  · exact Nat.le_of_ble_eq_true rfl
  · exact h.elim
theorem g_X5_checkCell : vg_G k_X5_checkCell sp_X5_checkCell := by
  intro av σ h
  unfold sp_X5_checkCell at h ⊢
  split at h
  next c =>
    have hl := jlt h (by decide)
    refine vg_run (cuts := []) m_X5_checkCell 20 ?_
    exact And.intro (fun z => absurd z hl.1) (fun _ => And.intro (fun _ => And.intro rfl rfl) (fun z => absurd hl.2 z))
  next => exact h.elim
theorem c_X5_checkCell : vg_MetF ww_tb ww_nw ww_shp ww_nm ww_cl ww_tyl yX5_checkCell cX5_checkCell 1 none 0 sp_X5_checkCell := vg_met ww_closed (by decide +kernel) rfl s_X5_checkCell w_X5_checkCell g_X5_checkCell
def sp_X5_checkOfficer : vgC := fun av σ => match av with
  | [.inl (.int c)] => (vp_in c 4, none, σ)
  | _ => (False, none, σ)
def k_X5_checkOfficer : List (Nat × vgF) := [(0, vi_iload 0 1), (1, vi_if (fun x => x < 0) 9 4), (4, vi_iload 0 5), (5, vi_icst (4) 6), (6, vi_cmp (fun x y => x < y) 20 9), (9, vi_no), (20, vi_retV)]
set_option maxRecDepth 20000 in
theorem s_X5_checkOfficer : ∀ q ∈ k_X5_checkOfficer, vg_Snd ww_tb ww_nw ww_shp ww_nm ww_cl ww_tyl cX5_checkOfficer 1 RX5 none 0 q.1 q.2 := by
  refine vg_cons (vs_iload_n dX5_checkOfficer_0 rfl rfl) ?_
  refine vg_cons (vs_if_lt dX5_checkOfficer_1 (by decide) rfl) ?_
  refine vg_cons (vs_iload_n dX5_checkOfficer_4 rfl rfl) ?_
  refine vg_cons (vs_iconst dX5_checkOfficer_5 rfl rfl) ?_
  refine vg_cons (vs_cmp_lt dX5_checkOfficer_6 (by decide) rfl) ?_
  refine vg_cons (vs_no) ?_
  refine vg_cons (vs_return dX5_checkOfficer_20 rfl) ?_
  exact fun _ h => absurd h List.not_mem_nil
theorem m_X5_checkOfficer : vg_Code k_X5_checkOfficer := fun q h => (s_X5_checkOfficer q h).1

theorem w_X5_checkOfficer : vg_Wd sp_X5_checkOfficer 1 := by
  intro av σ h
  unfold sp_X5_checkOfficer at h
  split at h
  · exact Nat.le_of_ble_eq_true rfl
  · exact h.elim
theorem g_X5_checkOfficer : vg_G k_X5_checkOfficer sp_X5_checkOfficer := by
  intro av σ h
  unfold sp_X5_checkOfficer at h ⊢
  split at h
  next c =>
    have hl := jlt h (by decide)
    refine vg_run (cuts := []) m_X5_checkOfficer 20 ?_
    exact And.intro (fun z => absurd z hl.1) (fun _ => And.intro (fun _ => And.intro rfl rfl) (fun z => absurd hl.2 z))
  next => exact h.elim
theorem c_X5_checkOfficer : vg_MetF ww_tb ww_nw ww_shp ww_nm ww_cl ww_tyl yX5_checkOfficer cX5_checkOfficer 1 none 0 sp_X5_checkOfficer := vg_met ww_closed (by decide +kernel) rfl s_X5_checkOfficer w_X5_checkOfficer g_X5_checkOfficer
def sp_X5_checkRange : vgC := fun av σ => match av with
  | [.inl (.int c), .inl (.int x), .inl (.int y)] => (¬ c < x ∧ c ≤ y, none, σ)
  | _ => (False, none, σ)
def k_X5_checkRange : List (Nat × vgF) := [(0, vi_iload 0 1), (1, vi_iload 1 2), (2, vi_cmp (fun x y => x < y) 10 5), (5, vi_iload 0 6), (6, vi_iload 2 7), (7, vi_cmp (fun x y => x ≤ y) 21 10), (10, vi_no), (21, vi_retV)]
set_option maxRecDepth 20000 in
theorem s_X5_checkRange : ∀ q ∈ k_X5_checkRange, vg_Snd ww_tb ww_nw ww_shp ww_nm ww_cl ww_tyl cX5_checkRange 3 RX5 none 0 q.1 q.2 := by
  refine vg_cons (vs_iload_n dX5_checkRange_0 rfl rfl) ?_
  refine vg_cons (vs_iload_n dX5_checkRange_1 rfl rfl) ?_
  refine vg_cons (vs_cmp_lt dX5_checkRange_2 (by decide) rfl) ?_
  refine vg_cons (vs_iload_n dX5_checkRange_5 rfl rfl) ?_
  refine vg_cons (vs_iload_n dX5_checkRange_6 rfl rfl) ?_
  refine vg_cons (vs_cmp_le dX5_checkRange_7 (by decide) rfl) ?_
  refine vg_cons (vs_no) ?_
  refine vg_cons (vs_return dX5_checkRange_21 rfl) ?_
  exact fun _ h => absurd h List.not_mem_nil
theorem m_X5_checkRange : vg_Code k_X5_checkRange := fun q h => (s_X5_checkRange q h).1

theorem w_X5_checkRange : vg_Wd sp_X5_checkRange 3 := by
  intro av σ h
  unfold sp_X5_checkRange at h
  split at h
  · exact Nat.le_of_ble_eq_true rfl
  · exact h.elim
theorem g_X5_checkRange : vg_G k_X5_checkRange sp_X5_checkRange := by
  intro av σ h
  unfold sp_X5_checkRange at h ⊢
  split at h
  next c x y =>
    refine vg_run (cuts := []) m_X5_checkRange 20 ?_
    exact And.intro (fun z => absurd z h.1) (fun _ => And.intro (fun _ => And.intro rfl rfl) (fun z => absurd h.2 z))
  next => exact h.elim
theorem c_X5_checkRange : vg_MetF ww_tb ww_nw ww_shp ww_nm ww_cl ww_tyl yX5_checkRange cX5_checkRange 3 none 0 sp_X5_checkRange := vg_met ww_closed (by decide +kernel) rfl s_X5_checkRange w_X5_checkRange g_X5_checkRange
def sp_X5_checkGroup : vgC := fun av σ => match av with
  | [.inr (0, 0, 0), .inl (.int c)] => (jWf (jV σ 0) ∧ vp_in c (jGc (jV σ 0)), none, σ)
  | _ => (False, none, σ)
def k_X5_checkGroup : List (Nat × vgF) := [(0, vi_iload 1 1), (1, vi_if (fun x => x < 0) 15 4), (4, vi_iload 1 5), (5, vi_aload 0 6), (6, vi_get ww_shp 0 0 9), (9, vi_get ww_shp 1 4 12), (12, vi_cmp (fun x y => x < y) 26 15), (15, vi_no), (26, vi_retV)]
set_option maxRecDepth 20000 in
theorem s_X5_checkGroup : ∀ q ∈ k_X5_checkGroup, vg_Snd ww_tb ww_nw ww_shp ww_nm ww_cl ww_tyl cX5_checkGroup 2 RX5 none 0 q.1 q.2 := by
  refine vg_cons (vs_iload_n dX5_checkGroup_0 rfl rfl) ?_
  refine vg_cons (vs_if_lt dX5_checkGroup_1 (by decide) rfl) ?_
  refine vg_cons (vs_iload_n dX5_checkGroup_4 rfl rfl) ?_
  refine vg_cons (vs_aload_n dX5_checkGroup_5 rfl rfl) ?_
  refine vg_cons (vs_getfield (T := TX5) dX5_checkGroup_6 rfl (by decide) ww_inX5 q_197 rfl) ?_
  refine vg_cons (vs_getfield (T := TX1) dX5_checkGroup_9 rfl (by decide) ww_inX1 q_198 rfl) ?_
  refine vg_cons (vs_cmp_lt dX5_checkGroup_12 (by decide) rfl) ?_
  refine vg_cons (vs_no) ?_
  refine vg_cons (vs_return dX5_checkGroup_26 rfl) ?_
  exact fun _ h => absurd h List.not_mem_nil
theorem m_X5_checkGroup : vg_Code k_X5_checkGroup := fun q h => (s_X5_checkGroup q h).1

theorem w_X5_checkGroup : vg_Wd sp_X5_checkGroup 2 := by
  intro av σ h
  unfold sp_X5_checkGroup at h
  split at h
  · exact Nat.le_of_ble_eq_true rfl
  · exact h.elim
theorem g_X5_checkGroup : vg_G k_X5_checkGroup sp_X5_checkGroup := by
  intro av σ h
  unfold sp_X5_checkGroup at h ⊢
  split at h
  next c =>
    obtain ⟨hw, h⟩ := h
    have hb := hw.1.2
    have hl := jlt h (by omega)
    have hl2 : c < σ (1, 0, 0) 4 := by
      have z := hl.2
      rw [← hw.1.1] at z
      exact z
    refine vg_run (cuts := []) m_X5_checkGroup 20 ?_
    exact And.intro (fun z => absurd z hl.1) (fun _ => And.intro (fun _ => And.intro rfl rfl) (fun z => absurd hl2 z))
  next => exact h.elim
theorem c_X5_checkGroup : vg_MetF ww_tb ww_nw ww_shp ww_nm ww_cl ww_tyl yX5_checkGroup cX5_checkGroup 2 none 0 sp_X5_checkGroup := vg_met ww_closed (by decide +kernel) rfl s_X5_checkGroup w_X5_checkGroup g_X5_checkGroup
def sp_X5_checkWarning : vgC := fun av σ => match av with
  | [.inr (0, 0, 0), .inl (.int c)] => (jWf (jV σ 0) ∧ vp_in c (jWc (jV σ 0)), none, σ)
  | _ => (False, none, σ)
def k_X5_checkWarning : List (Nat × vgF) := [(0, vi_iload 1 1), (1, vi_if (fun x => x < 0) 15 4), (4, vi_iload 1 5), (5, vi_aload 0 6), (6, vi_get ww_shp 0 0 9), (9, vi_get ww_shp 1 6 12), (12, vi_cmp (fun x y => x < y) 26 15), (15, vi_no), (26, vi_retV)]
set_option maxRecDepth 20000 in
theorem s_X5_checkWarning : ∀ q ∈ k_X5_checkWarning, vg_Snd ww_tb ww_nw ww_shp ww_nm ww_cl ww_tyl cX5_checkWarning 2 RX5 none 0 q.1 q.2 := by
  refine vg_cons (vs_iload_n dX5_checkWarning_0 rfl rfl) ?_
  refine vg_cons (vs_if_lt dX5_checkWarning_1 (by decide) rfl) ?_
  refine vg_cons (vs_iload_n dX5_checkWarning_4 rfl rfl) ?_
  refine vg_cons (vs_aload_n dX5_checkWarning_5 rfl rfl) ?_
  refine vg_cons (vs_getfield (T := TX5) dX5_checkWarning_6 rfl (by decide) ww_inX5 q_197 rfl) ?_
  refine vg_cons (vs_getfield (T := TX1) dX5_checkWarning_9 rfl (by decide) ww_inX1 q_199 rfl) ?_
  refine vg_cons (vs_cmp_lt dX5_checkWarning_12 (by decide) rfl) ?_
  refine vg_cons (vs_no) ?_
  refine vg_cons (vs_return dX5_checkWarning_26 rfl) ?_
  exact fun _ h => absurd h List.not_mem_nil
theorem m_X5_checkWarning : vg_Code k_X5_checkWarning := fun q h => (s_X5_checkWarning q h).1

theorem w_X5_checkWarning : vg_Wd sp_X5_checkWarning 2 := by
  intro av σ h
  unfold sp_X5_checkWarning at h
  split at h
  · exact Nat.le_of_ble_eq_true rfl
  · exact h.elim
theorem g_X5_checkWarning : vg_G k_X5_checkWarning sp_X5_checkWarning := by
  intro av σ h
  unfold sp_X5_checkWarning at h ⊢
  split at h
  next c =>
    obtain ⟨hw, h⟩ := h
    have hb := hw.2.2.1.2
    have hl := jlt h (by omega)
    have hl2 : c < σ (1, 0, 0) 6 := by
      have z := hl.2
      rw [← hw.2.2.1.1] at z
      exact z
    refine vg_run (cuts := []) m_X5_checkWarning 20 ?_
    exact And.intro (fun z => absurd z hl.1) (fun _ => And.intro (fun _ => And.intro rfl rfl) (fun z => absurd hl2 z))
  next => exact h.elim
theorem c_X5_checkWarning : vg_MetF ww_tb ww_nw ww_shp ww_nm ww_cl ww_tyl yX5_checkWarning cX5_checkWarning 2 none 0 sp_X5_checkWarning := vg_met ww_closed (by decide +kernel) rfl s_X5_checkWarning w_X5_checkWarning g_X5_checkWarning
def sp_X5_checkWords : vgC := fun av σ => match av with
  | [.inl (.int a), .inl (.int d), .inl (.int t)] => ((¬ a < 1 ∧ a ≤ 65535) ∧ (¬ d < 0 ∧ d ≤ 1) ∧ ¬ t < 1 ∧ t ≤ 7, none, σ)
  | _ => (False, none, σ)
def k_X5_checkWords : List (Nat × vgF) := [(0, vi_iload 0 1), (1, vi_icst (1) 2), (2, vi_icst (65535) 5), (5, vi_callS sp_X5_checkRange 3 8), (8, vi_iload 1 9), (9, vi_icst (0) 10), (10, vi_icst (1) 11), (11, vi_callS sp_X5_checkRange 3 14), (14, vi_iload 2 15), (15, vi_icst (1) 16), (16, vi_icst (7) 18), (18, vi_callS sp_X5_checkRange 3 21), (21, vi_retV)]
set_option maxRecDepth 20000 in
theorem s_X5_checkWords : ∀ q ∈ k_X5_checkWords, vg_Snd ww_tb ww_nw ww_shp ww_nm ww_cl ww_tyl cX5_checkWords 3 RX5 none 1 q.1 q.2 := by
  refine vg_cons (vs_iload_n dX5_checkWords_0 rfl rfl) ?_
  refine vg_cons (vs_iconst dX5_checkWords_1 rfl rfl) ?_
  refine vg_cons (vs_ldcw dX5_checkWords_2 q_200 rfl) ?_
  refine vg_cons (vs_callS c_X5_checkRange dX5_checkWords_5 ww_good q_201 q_51 q_203 q_202 (by decide +kernel) (by decide) rfl) ?_
  refine vg_cons (vs_iload_n dX5_checkWords_8 rfl rfl) ?_
  refine vg_cons (vs_iconst dX5_checkWords_9 rfl rfl) ?_
  refine vg_cons (vs_iconst dX5_checkWords_10 rfl rfl) ?_
  refine vg_cons (vs_callS c_X5_checkRange dX5_checkWords_11 ww_good q_201 q_51 q_203 q_202 (by decide +kernel) (by decide) rfl) ?_
  refine vg_cons (vs_iload_n dX5_checkWords_14 rfl rfl) ?_
  refine vg_cons (vs_iconst dX5_checkWords_15 rfl rfl) ?_
  refine vg_cons (vs_bipush dX5_checkWords_16 (by decide) rfl) ?_
  refine vg_cons (vs_callS c_X5_checkRange dX5_checkWords_18 ww_good q_201 q_51 q_203 q_202 (by decide +kernel) (by decide) rfl) ?_
  refine vg_cons (vs_return dX5_checkWords_21 rfl) ?_
  exact fun _ h => absurd h List.not_mem_nil
theorem m_X5_checkWords : vg_Code k_X5_checkWords := fun q h => (s_X5_checkWords q h).1

theorem w_X5_checkWords : vg_Wd sp_X5_checkWords 3 := by
  intro av σ h
  unfold sp_X5_checkWords at h
  split at h
  · exact Nat.le_of_ble_eq_true rfl
  · exact h.elim
theorem g_X5_checkWords : vg_G k_X5_checkWords sp_X5_checkWords := by
  intro av σ h
  unfold sp_X5_checkWords at h ⊢
  split at h
  next a d t =>
    refine vg_run (cuts := []) m_X5_checkWords 30 ?_
    exact And.intro h.1 (And.intro h.2.1 (And.intro h.2.2 (And.intro rfl rfl)))
  next => exact h.elim
theorem c_X5_checkWords : vg_MetF ww_tb ww_nw ww_shp ww_nm ww_cl ww_tyl yX5_checkWords cX5_checkWords 3 none 1 sp_X5_checkWords := vg_met ww_closed (by decide +kernel) rfl s_X5_checkWords w_X5_checkWords g_X5_checkWords
def sp_X5_mix : vgC := fun av σ => match av with
  | [.inl (.long s), .inl (.int x)] => (True, some (.inl (.long (s * 31 + x.toInt64))), σ)
  | _ => (False, none, σ)
def k_X5_mix : List (Nat × vgF) := [(0, vi_lload 0 1), (1, vi_lcst (31) 4), (4, vi_lbin (fun x y => x * y) 5), (5, vi_iload 2 6), (6, vi_i2l 7), (7, vi_lbin (fun x y => x + y) 8), (8, vi_retL)]
set_option maxRecDepth 20000 in
theorem s_X5_mix : ∀ q ∈ k_X5_mix, vg_Snd ww_tb ww_nw ww_shp ww_nm ww_cl ww_tyl cX5_mix 3 RX5 (some .long) 0 q.1 q.2 := by
  refine vg_cons (vs_lload_n dX5_mix_0 rfl rfl) ?_
  refine vg_cons (vs_ldc2 dX5_mix_1 q_204 rfl) ?_
  refine vg_cons (vs_lmul dX5_mix_4 rfl) ?_
  refine vg_cons (vs_iload_n dX5_mix_5 rfl rfl) ?_
  refine vg_cons (vs_i2l dX5_mix_6 rfl) ?_
  refine vg_cons (vs_ladd dX5_mix_7 rfl) ?_
  refine vg_cons (vs_lreturn dX5_mix_8 rfl) ?_
  exact fun _ h => absurd h List.not_mem_nil
theorem m_X5_mix : vg_Code k_X5_mix := fun q h => (s_X5_mix q h).1

theorem w_X5_mix : vg_Wd sp_X5_mix 3 := by
  intro av σ h
  unfold sp_X5_mix at h
  split at h
  · exact Nat.le_of_ble_eq_true rfl
  · exact h.elim
theorem g_X5_mix : vg_G k_X5_mix sp_X5_mix := by
  intro av σ h
  unfold sp_X5_mix at h ⊢
  split at h
  next s x =>
    refine vg_run (cuts := []) m_X5_mix 20 ?_
    exact And.intro rfl rfl
  next => exact h.elim
theorem c_X5_mix : vg_MetF ww_tb ww_nw ww_shp ww_nm ww_cl ww_tyl yX5_mix cX5_mix 3 (some .long) 0 sp_X5_mix := vg_met ww_closed (by decide +kernel) rfl s_X5_mix w_X5_mix g_X5_mix
/-- the numbers of a land that one may ask for -/
def jMany (v : jN) (x : Int32) : Int32 :=
  if x = 0 then v 1 0 0 else
  if x = 1 then jHour (v 1 0 0) else
  if x = 2 then v 1 0 4 else
  if x = 3 then jSum (fun g => v 9 g 1) (jGc v) else
  if x = 4 then jSum (fun g => if jSafe v g then v 9 g 1 else 0) (jGc v) else
  if x = 5 then jSum (fun g => if jGone v g then v 9 g 1 else 0) (jGc v) else
  if x = 6 then v 1 0 6 else
  if x = 7 then jSum (fun w => jb (¬ v 11 w 7 = 0)) (jWc v) else
  if x = 8 then jSet (jDng v) 16 else
  if x = 9 then jSum (fun g => jb (jSleep v g)) (jGc v) else
  if x = 10 then v 1 0 3 else
  if x = 11 then v 1 0 2 else 0
theorem jm12 {x : Int32} (h : vp_in x 12) (n0 : ¬ x = 0) (n1 : ¬ x = 1) (n2 : ¬ x = 2) (n3 : ¬ x = 3) (n4 : ¬ x = 4) (n5 : ¬ x = 5) (n6 : ¬ x = 6) (n7 : ¬ x = 7) (n8 : ¬ x = 8) (n9 : ¬ x = 9) (n10 : ¬ x = 10) (n11 : ¬ x = 11) : False := by
  obtain ⟨k, hk, rfl⟩ := vp_in_of h (by decide)
  match k, hk with
  | 0, _ => exact n0 rfl
  | 1, _ => exact n1 rfl
  | 2, _ => exact n2 rfl
  | 3, _ => exact n3 rfl
  | 4, _ => exact n4 rfl
  | 5, _ => exact n5 rfl
  | 6, _ => exact n6 rfl
  | 7, _ => exact n7 rfl
  | 8, _ => exact n8 rfl
  | 9, _ => exact n9 rfl
  | 10, _ => exact n10 rfl
  | 11, _ => exact n11 rfl
def sp_X5_many : vgC := fun av σ => match av with
  | [.inr (0, 0, 0), .inl (.int x)] => (jWf (jV σ 0) ∧ vp_in x 12, some (.inl (.int (jMany (jV σ 0) x))), σ)
  | _ => (False, none, σ)
def k_X5_many : List (Nat × vgF) := [(0, vi_iload 1 1), (1, vi_sw [(0, 64), (1, 72), (2, 80), (3, 88), (4, 96), (5, 104), (6, 112), (7, 120), (8, 128), (9, 136), (10, 144), (11, 152)] 160), (64, vi_aload 0 65), (65, vi_get ww_shp 0 0 68), (68, vi_get ww_shp 1 0 71), (71, vi_ret), (72, vi_aload 0 73), (73, vi_get ww_shp 0 0 76), (76, vi_callV ww_shp 1 sp_X1_hourNow 0 79), (79, vi_ret), (80, vi_aload 0 81), (81, vi_get ww_shp 0 0 84), (84, vi_get ww_shp 1 4 87), (87, vi_ret), (88, vi_aload 0 89), (89, vi_get ww_shp 0 0 92), (92, vi_callV ww_shp 1 sp_X1_peopleOfAll 0 95), (95, vi_ret), (96, vi_aload 0 97), (97, vi_get ww_shp 0 0 100), (100, vi_callV ww_shp 1 sp_X1_peopleSafe 0 103), (103, vi_ret), (104, vi_aload 0 105), (105, vi_get ww_shp 0 0 108), (108, vi_callV ww_shp 1 sp_X1_peopleGone 0 111), (111, vi_ret), (112, vi_aload 0 113), (113, vi_get ww_shp 0 0 116), (116, vi_get ww_shp 1 6 119), (119, vi_ret), (120, vi_aload 0 121), (121, vi_get ww_shp 0 0 124), (124, vi_callV ww_shp 1 sp_X1_countInForce 0 127), (127, vi_ret), (128, vi_aload 0 129), (129, vi_get ww_shp 0 0 132), (132, vi_callV ww_shp 1 sp_X1_cellsInDanger 0 135), (135, vi_ret), (136, vi_aload 0 137), (137, vi_get ww_shp 0 0 140), (140, vi_callV ww_shp 1 sp_X1_countAsleep 0 143), (143, vi_ret), (144, vi_aload 0 145), (145, vi_get ww_shp 0 0 148), (148, vi_get ww_shp 1 3 151), (151, vi_ret), (152, vi_aload 0 153), (153, vi_get ww_shp 0 0 156), (156, vi_get ww_shp 1 2 159), (159, vi_ret), (160, vi_no)]
set_option maxRecDepth 20000 in
theorem s_X5_many : ∀ q ∈ k_X5_many, vg_Snd ww_tb ww_nw ww_shp ww_nm ww_cl ww_tyl cX5_many 2 RX5 (some .int) 4 q.1 q.2 := by
  refine vg_cons (vs_iload_n dX5_many_0 rfl rfl) ?_
  refine vg_cons (vs_tsw dX5_many_1 (by decide) (by decide) (by intro i hi; match i, hi with | 0, _ => exact ⟨(0, 64), 63, rfl, rfl, by decide, by decide⟩ | 1, _ => exact ⟨(1, 72), 71, rfl, rfl, by decide, by decide⟩ | 2, _ => exact ⟨(2, 80), 79, rfl, rfl, by decide, by decide⟩ | 3, _ => exact ⟨(3, 88), 87, rfl, rfl, by decide, by decide⟩ | 4, _ => exact ⟨(4, 96), 95, rfl, rfl, by decide, by decide⟩ | 5, _ => exact ⟨(5, 104), 103, rfl, rfl, by decide, by decide⟩ | 6, _ => exact ⟨(6, 112), 111, rfl, rfl, by decide, by decide⟩ | 7, _ => exact ⟨(7, 120), 119, rfl, rfl, by decide, by decide⟩ | 8, _ => exact ⟨(8, 128), 127, rfl, rfl, by decide, by decide⟩ | 9, _ => exact ⟨(9, 136), 135, rfl, rfl, by decide, by decide⟩ | 10, _ => exact ⟨(10, 144), 143, rfl, rfl, by decide, by decide⟩ | 11, _ => exact ⟨(11, 152), 151, rfl, rfl, by decide, by decide⟩)) ?_
  refine vg_cons (vs_aload_n dX5_many_64 rfl rfl) ?_
  refine vg_cons (vs_getfield (T := TX5) dX5_many_65 rfl (by decide) ww_inX5 q_197 rfl) ?_
  refine vg_cons (vs_getfield (T := TX1) dX5_many_68 rfl (by decide) ww_inX1 q_205 rfl) ?_
  refine vg_cons (vs_ireturn dX5_many_71 rfl) ?_
  refine vg_cons (vs_aload_n dX5_many_72 rfl rfl) ?_
  refine vg_cons (vs_getfield (T := TX5) dX5_many_73 rfl (by decide) ww_inX5 q_197 rfl) ?_
  refine vg_cons (vs_callV (T := TX1) c_X1_hourNow dX5_many_76 rfl ww_good q_11 q_12 q_206 q_14 q_15 (by decide +kernel) (by decide) rfl) ?_
  refine vg_cons (vs_ireturn dX5_many_79 rfl) ?_
  refine vg_cons (vs_aload_n dX5_many_80 rfl rfl) ?_
  refine vg_cons (vs_getfield (T := TX5) dX5_many_81 rfl (by decide) ww_inX5 q_197 rfl) ?_
  refine vg_cons (vs_getfield (T := TX1) dX5_many_84 rfl (by decide) ww_inX1 q_198 rfl) ?_
  refine vg_cons (vs_ireturn dX5_many_87 rfl) ?_
  refine vg_cons (vs_aload_n dX5_many_88 rfl rfl) ?_
  refine vg_cons (vs_getfield (T := TX5) dX5_many_89 rfl (by decide) ww_inX5 q_197 rfl) ?_
  refine vg_cons (vs_callV (T := TX1) c_X1_peopleOfAll dX5_many_92 rfl ww_good q_207 q_12 q_208 q_209 q_210 (by decide +kernel) (by decide) rfl) ?_
  refine vg_cons (vs_ireturn dX5_many_95 rfl) ?_
  refine vg_cons (vs_aload_n dX5_many_96 rfl rfl) ?_
  refine vg_cons (vs_getfield (T := TX5) dX5_many_97 rfl (by decide) ww_inX5 q_197 rfl) ?_
  refine vg_cons (vs_callV (T := TX1) c_X1_peopleSafe dX5_many_100 rfl ww_good q_211 q_12 q_212 q_213 q_214 (by decide +kernel) (by decide) rfl) ?_
  refine vg_cons (vs_ireturn dX5_many_103 rfl) ?_
  refine vg_cons (vs_aload_n dX5_many_104 rfl rfl) ?_
  refine vg_cons (vs_getfield (T := TX5) dX5_many_105 rfl (by decide) ww_inX5 q_197 rfl) ?_
  refine vg_cons (vs_callV (T := TX1) c_X1_peopleGone dX5_many_108 rfl ww_good q_215 q_12 q_216 q_217 q_218 (by decide +kernel) (by decide) rfl) ?_
  refine vg_cons (vs_ireturn dX5_many_111 rfl) ?_
  refine vg_cons (vs_aload_n dX5_many_112 rfl rfl) ?_
  refine vg_cons (vs_getfield (T := TX5) dX5_many_113 rfl (by decide) ww_inX5 q_197 rfl) ?_
  refine vg_cons (vs_getfield (T := TX1) dX5_many_116 rfl (by decide) ww_inX1 q_199 rfl) ?_
  refine vg_cons (vs_ireturn dX5_many_119 rfl) ?_
  refine vg_cons (vs_aload_n dX5_many_120 rfl rfl) ?_
  refine vg_cons (vs_getfield (T := TX5) dX5_many_121 rfl (by decide) ww_inX5 q_197 rfl) ?_
  refine vg_cons (vs_callV (T := TX1) c_X1_countInForce dX5_many_124 rfl ww_good q_219 q_12 q_220 q_221 q_222 (by decide +kernel) (by decide) rfl) ?_
  refine vg_cons (vs_ireturn dX5_many_127 rfl) ?_
  refine vg_cons (vs_aload_n dX5_many_128 rfl rfl) ?_
  refine vg_cons (vs_getfield (T := TX5) dX5_many_129 rfl (by decide) ww_inX5 q_197 rfl) ?_
  refine vg_cons (vs_callV (T := TX1) c_X1_cellsInDanger dX5_many_132 rfl ww_good q_223 q_12 q_224 q_225 q_226 (by decide +kernel) (by decide) rfl) ?_
  refine vg_cons (vs_ireturn dX5_many_135 rfl) ?_
  refine vg_cons (vs_aload_n dX5_many_136 rfl rfl) ?_
  refine vg_cons (vs_getfield (T := TX5) dX5_many_137 rfl (by decide) ww_inX5 q_197 rfl) ?_
  refine vg_cons (vs_callV (T := TX1) c_X1_countAsleep dX5_many_140 rfl ww_good q_227 q_12 q_228 q_229 q_230 (by decide +kernel) (by decide) rfl) ?_
  refine vg_cons (vs_ireturn dX5_many_143 rfl) ?_
  refine vg_cons (vs_aload_n dX5_many_144 rfl rfl) ?_
  refine vg_cons (vs_getfield (T := TX5) dX5_many_145 rfl (by decide) ww_inX5 q_197 rfl) ?_
  refine vg_cons (vs_getfield (T := TX1) dX5_many_148 rfl (by decide) ww_inX1 q_231 rfl) ?_
  refine vg_cons (vs_ireturn dX5_many_151 rfl) ?_
  refine vg_cons (vs_aload_n dX5_many_152 rfl rfl) ?_
  refine vg_cons (vs_getfield (T := TX5) dX5_many_153 rfl (by decide) ww_inX5 q_197 rfl) ?_
  refine vg_cons (vs_getfield (T := TX1) dX5_many_156 rfl (by decide) ww_inX1 q_232 rfl) ?_
  refine vg_cons (vs_ireturn dX5_many_159 rfl) ?_
  refine vg_cons (vs_no) ?_
  exact fun _ h => absurd h List.not_mem_nil
theorem m_X5_many : vg_Code k_X5_many := fun q h => (s_X5_many q h).1

theorem w_X5_many : vg_Wd sp_X5_many 2 := by
  intro av σ h
  unfold sp_X5_many at h
  split at h
  · exact Nat.le_of_ble_eq_true rfl
  · exact h.elim
theorem g_X5_many : vg_G k_X5_many sp_X5_many := by
  intro av σ h
  unfold sp_X5_many at h ⊢
  split at h
  next x =>
    obtain ⟨hw, hx⟩ := h
    refine vg_run (cuts := []) m_X5_many 20 ?_
    exact And.intro (fun (h : x = 0) => And.intro (show (some (Sum.inl (Value.int ((jV σ 0) 1 0 0))) : Option vgV) = some (Sum.inl (Value.int (jMany (jV σ 0) x))) from by rw [h]; rfl) rfl) (fun (n0 : ¬ x = 0) => And.intro (fun (h : x = 1) => And.intro trivial (And.intro (show (some (Sum.inl (Value.int (jHour ((jV σ 0) 1 0 0)))) : Option vgV) = some (Sum.inl (Value.int (jMany (jV σ 0) x))) from by rw [h]; rfl) rfl)) (fun (n1 : ¬ x = 1) => And.intro (fun (h : x = 2) => And.intro (show (some (Sum.inl (Value.int ((jV σ 0) 1 0 4))) : Option vgV) = some (Sum.inl (Value.int (jMany (jV σ 0) x))) from by rw [h]; rfl) rfl) (fun (n2 : ¬ x = 2) => And.intro (fun (h : x = 3) => And.intro hw (And.intro (show (some (Sum.inl (Value.int (jSum (fun g => (jV σ 0) 9 g 1) (jGc (jV σ 0))))) : Option vgV) = some (Sum.inl (Value.int (jMany (jV σ 0) x))) from by rw [h]; rfl) rfl)) (fun (n3 : ¬ x = 3) => And.intro (fun (h : x = 4) => And.intro hw (And.intro (show (some (Sum.inl (Value.int (jSum (fun g => if jSafe (jV σ 0) g then (jV σ 0) 9 g 1 else 0) (jGc (jV σ 0))))) : Option vgV) = some (Sum.inl (Value.int (jMany (jV σ 0) x))) from by rw [h]; rfl) rfl)) (fun (n4 : ¬ x = 4) => And.intro (fun (h : x = 5) => And.intro hw (And.intro (show (some (Sum.inl (Value.int (jSum (fun g => if jGone (jV σ 0) g then (jV σ 0) 9 g 1 else 0) (jGc (jV σ 0))))) : Option vgV) = some (Sum.inl (Value.int (jMany (jV σ 0) x))) from by rw [h]; rfl) rfl)) (fun (n5 : ¬ x = 5) => And.intro (fun (h : x = 6) => And.intro (show (some (Sum.inl (Value.int ((jV σ 0) 1 0 6))) : Option vgV) = some (Sum.inl (Value.int (jMany (jV σ 0) x))) from by rw [h]; rfl) rfl) (fun (n6 : ¬ x = 6) => And.intro (fun (h : x = 7) => And.intro hw (And.intro (show (some (Sum.inl (Value.int (jSum (fun w => jb (¬ (jV σ 0) 11 w 7 = 0)) (jWc (jV σ 0))))) : Option vgV) = some (Sum.inl (Value.int (jMany (jV σ 0) x))) from by rw [h]; rfl) rfl)) (fun (n7 : ¬ x = 7) => And.intro (fun (h : x = 8) => And.intro trivial (And.intro (show (some (Sum.inl (Value.int (jSet (jDng (jV σ 0)) 16))) : Option vgV) = some (Sum.inl (Value.int (jMany (jV σ 0) x))) from by rw [h]; rfl) rfl)) (fun (n8 : ¬ x = 8) => And.intro (fun (h : x = 9) => And.intro hw (And.intro (show (some (Sum.inl (Value.int (jSum (fun g => jb (jSleep (jV σ 0) g)) (jGc (jV σ 0))))) : Option vgV) = some (Sum.inl (Value.int (jMany (jV σ 0) x))) from by rw [h]; rfl) rfl)) (fun (n9 : ¬ x = 9) => And.intro (fun (h : x = 10) => And.intro (show (some (Sum.inl (Value.int ((jV σ 0) 1 0 3))) : Option vgV) = some (Sum.inl (Value.int (jMany (jV σ 0) x))) from by rw [h]; rfl) rfl) (fun (n10 : ¬ x = 10) => And.intro (fun (h : x = 11) => And.intro (show (some (Sum.inl (Value.int ((jV σ 0) 1 0 2))) : Option vgV) = some (Sum.inl (Value.int (jMany (jV σ 0) x))) from by rw [h]; rfl) rfl) (fun (n11 : ¬ x = 11) => (jm12 hx n0 n1 n2 n3 n4 n5 n6 n7 n8 n9 n10 n11).elim))))))))))))
  next => exact h.elim
theorem c_X5_many : vg_MetF ww_tb ww_nw ww_shp ww_nm ww_cl ww_tyl yX5_many cX5_many 2 (some .int) 4 sp_X5_many := vg_met ww_closed (by decide +kernel) rfl s_X5_many w_X5_many g_X5_many
def sp_X5_roomIn : vgC := fun av σ => match av with
  | [.inr (0, 0, 0), .inl (.int x)] => (jWf (jV σ 0) ∧ vp_in x (jSc (jV σ 0)), some (.inl (.int (jV σ 0 10 x.toNatClampNeg 1))), σ)
  | _ => (False, none, σ)
def k_X5_roomIn : List (Nat × vgF) := [(0, vi_iload 1 1), (1, vi_if (fun x => x < 0) 15 4), (4, vi_iload 1 5), (5, vi_aload 0 6), (6, vi_get ww_shp 0 0 9), (9, vi_get ww_shp 1 5 12), (12, vi_cmp (fun x y => x < y) 25 15), (15, vi_no), (25, vi_aload 0 26), (26, vi_get ww_shp 0 0 29), (29, vi_get ww_shp 1 8 32), (32, vi_iload 1 33), (33, vi_aald ww_shp 3 34), (34, vi_get ww_shp 3 1 37), (37, vi_ret)]
set_option maxRecDepth 20000 in
theorem s_X5_roomIn : ∀ q ∈ k_X5_roomIn, vg_Snd ww_tb ww_nw ww_shp ww_nm ww_cl ww_tyl cX5_roomIn 2 RX5 (some .int) 0 q.1 q.2 := by
  refine vg_cons (vs_iload_n dX5_roomIn_0 rfl rfl) ?_
  refine vg_cons (vs_if_lt dX5_roomIn_1 (by decide) rfl) ?_
  refine vg_cons (vs_iload_n dX5_roomIn_4 rfl rfl) ?_
  refine vg_cons (vs_aload_n dX5_roomIn_5 rfl rfl) ?_
  refine vg_cons (vs_getfield (T := TX5) dX5_roomIn_6 rfl (by decide) ww_inX5 q_197 rfl) ?_
  refine vg_cons (vs_getfield (T := TX1) dX5_roomIn_9 rfl (by decide) ww_inX1 q_233 rfl) ?_
  refine vg_cons (vs_cmp_lt dX5_roomIn_12 (by decide) rfl) ?_
  refine vg_cons (vs_no) ?_
  refine vg_cons (vs_aload_n dX5_roomIn_25 rfl rfl) ?_
  refine vg_cons (vs_getfield (T := TX5) dX5_roomIn_26 rfl (by decide) ww_inX5 q_197 rfl) ?_
  refine vg_cons (vs_getfield (T := TX1) dX5_roomIn_29 rfl (by decide) ww_inX1 q_234 rfl) ?_
  refine vg_cons (vs_iload_n dX5_roomIn_32 rfl rfl) ?_
  refine vg_cons (vs_aaload dX5_roomIn_33 rfl rfl) ?_
  refine vg_cons (vs_getfield (T := TX3) dX5_roomIn_34 rfl (by decide) ww_inX3 q_235 rfl) ?_
  refine vg_cons (vs_ireturn dX5_roomIn_37 rfl) ?_
  exact fun _ h => absurd h List.not_mem_nil
theorem m_X5_roomIn : vg_Code k_X5_roomIn := fun q h => (s_X5_roomIn q h).1

theorem w_X5_roomIn : vg_Wd sp_X5_roomIn 2 := by
  intro av σ h
  unfold sp_X5_roomIn at h
  split at h
  · exact Nat.le_of_ble_eq_true rfl
  · exact h.elim
theorem g_X5_roomIn : vg_G k_X5_roomIn sp_X5_roomIn := by
  intro av σ h
  unfold sp_X5_roomIn at h ⊢
  split at h
  next x =>
    obtain ⟨hw, h⟩ := h
    have hb := hw.2.1.2
    have hl := jlt h (by omega)
    have hl2 : x < σ (1, 0, 0) 5 := by
      have z := hl.2
      rw [← hw.2.1.1] at z
      exact z
    have h3 : vp_in x 3 := by
      obtain ⟨j, hj, rfl⟩ := vp_in_of h (by omega)
      exact vp_in_nI (by omega) (by decide)
    refine vg_run (cuts := []) m_X5_roomIn 20 ?_
    exact And.intro (fun z => absurd z hl.1) (fun _ => And.intro (fun _ => And.intro h3 (And.intro rfl rfl)) (fun z => absurd hl2 z))
  next => exact h.elim
theorem c_X5_roomIn : vg_MetF ww_tb ww_nw ww_shp ww_nm ww_cl ww_tyl yX5_roomIn cX5_roomIn 2 (some .int) 0 sp_X5_roomIn := vg_met ww_closed (by decide +kernel) rfl s_X5_roomIn w_X5_roomIn g_X5_roomIn
end
section
-- words of the tables, and what stands at each place of the methods' code (laid by program)
theorem q_236 : Cond.code yX5_checkCell cX5_checkCell 1 none ∈ ww_tb := by decide +kernel
theorem q_237 : Cond.static yX5_checkCell ∈ ww_tb := by decide +kernel
theorem q_238 : Cond.methodLink RX5 19 yX5_checkCell ∈ ww_tb := by decide +kernel
theorem q_239 : Cond.fieldLink RX5 138 (TX1 9).1 (TX1 9).2.1 (TX1 9).2.2.1 ∈ ww_tb := by decide +kernel
theorem q_240 : Cond.fieldLink RX5 243 (TX4 7).1 (TX4 7).2.1 (TX4 7).2.2.1 ∈ ww_tb := by decide +kernel
theorem q_241 : Cond.fieldLink RX5 142 (TX4 2).1 (TX4 2).2.1 (TX4 2).2.2.1 ∈ ww_tb := by decide +kernel
theorem q_242 : Cond.methodLink RX5 121 yX5_isIn ∈ ww_tb := by decide +kernel
theorem q_243 : Cond.code yX5_checkWarning cX5_checkWarning 2 none ∈ ww_tb := by decide +kernel
theorem q_244 : Cond.methodLink RX5 132 yX5_checkWarning ∈ ww_tb := by decide +kernel
theorem q_245 : Cond.instanceMethod yX5_checkWarning ∈ ww_tb := by decide +kernel
theorem q_246 : Cond.selects RX5 yX5_checkWarning yX5_checkWarning ∈ ww_tb := by decide +kernel
theorem q_247 : Cond.fieldLink RX5 237 (TX4 0).1 (TX4 0).2.1 (TX4 0).2.2.1 ∈ ww_tb := by decide +kernel
theorem q_248 : Cond.fieldLink RX5 240 (TX4 1).1 (TX4 1).2.1 (TX4 1).2.2.1 ∈ ww_tb := by decide +kernel
theorem q_249 : Cond.fieldLink RX5 147 (TX4 3).1 (TX4 3).2.1 (TX4 3).2.2.1 ∈ ww_tb := by decide +kernel
theorem q_250 : Cond.fieldLink RX5 150 (TX4 4).1 (TX4 4).2.1 (TX4 4).2.2.1 ∈ ww_tb := by decide +kernel
theorem q_251 : Cond.fieldLink RX5 158 (TX4 5).1 (TX4 5).2.1 (TX4 5).2.2.1 ∈ ww_tb := by decide +kernel
theorem q_252 : Cond.fieldLink RX5 153 (TX4 6).1 (TX4 6).2.1 (TX4 6).2.2.1 ∈ ww_tb := by decide +kernel
theorem q_253 : Cond.code yX1_countBelievers cX1_countBelievers 4 (some .int) ∈ ww_tb := by decide +kernel
theorem q_254 : Cond.methodLink RX5 246 yX1_countBelievers ∈ ww_tb := by decide +kernel
theorem q_255 : Cond.instanceMethod yX1_countBelievers ∈ ww_tb := by decide +kernel
theorem q_256 : Cond.selects RX1 yX1_countBelievers yX1_countBelievers ∈ ww_tb := by decide +kernel
theorem q_257 : Cond.code yX5_checkGroup cX5_checkGroup 2 none ∈ ww_tb := by decide +kernel
theorem q_258 : Cond.methodLink RX5 60 yX5_checkGroup ∈ ww_tb := by decide +kernel
theorem q_259 : Cond.instanceMethod yX5_checkGroup ∈ ww_tb := by decide +kernel
theorem q_260 : Cond.selects RX5 yX5_checkGroup yX5_checkGroup ∈ ww_tb := by decide +kernel
theorem q_261 : Cond.fieldLink RX5 38 (TX1 7).1 (TX1 7).2.1 (TX1 7).2.2.1 ∈ ww_tb := by decide +kernel
theorem q_262 : Cond.fieldLink RX5 42 (TX0 0).1 (TX0 0).2.1 (TX0 0).2.2.1 ∈ ww_tb := by decide +kernel
theorem q_263 : Cond.fieldLink RX5 47 (TX0 1).1 (TX0 1).2.1 (TX0 1).2.2.1 ∈ ww_tb := by decide +kernel
theorem q_264 : Cond.fieldLink RX5 50 (TX0 2).1 (TX0 2).2.1 (TX0 2).2.2.1 ∈ ww_tb := by decide +kernel
theorem q_265 : Cond.fieldLink RX5 63 (TX0 3).1 (TX0 3).2.1 (TX0 3).2.2.1 ∈ ww_tb := by decide +kernel
theorem q_266 : Cond.methodLink RX5 197 yX1_isAsleep ∈ ww_tb := by decide +kernel
theorem q_267 : Cond.fieldLink RX5 201 (TX0 6).1 (TX0 6).2.1 (TX0 6).2.2.1 ∈ ww_tb := by decide +kernel
theorem q_268 : Cond.fieldLink RX5 204 (TX0 7).1 (TX0 7).2.1 (TX0 7).2.2.1 ∈ ww_tb := by decide +kernel
theorem q_269 : Cond.methodLink RX5 207 yX0_isGone ∈ ww_tb := by decide +kernel
theorem q_270 : Cond.methodLink RX5 211 yX1_latestBelieved ∈ ww_tb := by decide +kernel
theorem q_271 : Cond.fieldLink RX5 220 (TX0 9).1 (TX0 9).2.1 (TX0 9).2.2.1 ∈ ww_tb := by decide +kernel
theorem q_272 : Cond.fieldLink RX5 223 (TX0 10).1 (TX0 10).2.1 (TX0 10).2.2.1 ∈ ww_tb := by decide +kernel
theorem q_273 : Cond.fieldLink RX5 226 (TX0 11).1 (TX0 11).2.1 (TX0 11).2.2.1 ∈ ww_tb := by decide +kernel
theorem q_274 : Cond.fieldLink RX5 229 (TX0 8).1 (TX0 8).2.1 (TX0 8).2.2.1 ∈ ww_tb := by decide +kernel
theorem q_275 : Cond.fieldLink RX5 232 (TX0 12).1 (TX0 12).2.1 (TX0 12).2.2.1 ∈ ww_tb := by decide +kernel
theorem dX5_inForce_0 : decode cX5_inForce 0 = .ok (.iload_n 1, 1) := by decide +kernel
theorem dX5_inForce_1 : decode cX5_inForce 1 = .ok (.invokestatic 19, 3) := by decide +kernel
theorem dX5_inForce_4 : decode cX5_inForce 4 = .ok (.aload_n 0, 1) := by decide +kernel
theorem dX5_inForce_5 : decode cX5_inForce 5 = .ok (.getfield 10, 3) := by decide +kernel
theorem dX5_inForce_8 : decode cX5_inForce 8 = .ok (.getfield 249, 3) := by decide +kernel
theorem dX5_inForce_11 : decode cX5_inForce 11 = .ok (.iconst 1, 1) := by decide +kernel
theorem dX5_inForce_12 : decode cX5_inForce 12 = .ok (.isub, 1) := by decide +kernel
theorem dX5_inForce_13 : decode cX5_inForce 13 = .ok (.istore_n 2, 1) := by decide +kernel
theorem dX5_inForce_14 : decode cX5_inForce 14 = .ok (.iload_n 2, 1) := by decide +kernel
theorem dX5_inForce_15 : decode cX5_inForce 15 = .ok (.ifCond .lt 45, 3) := by decide +kernel
theorem dX5_inForce_18 : decode cX5_inForce 18 = .ok (.aload_n 0, 1) := by decide +kernel
theorem dX5_inForce_19 : decode cX5_inForce 19 = .ok (.getfield 10, 3) := by decide +kernel
theorem dX5_inForce_22 : decode cX5_inForce 22 = .ok (.getfield 138, 3) := by decide +kernel
theorem dX5_inForce_25 : decode cX5_inForce 25 = .ok (.iload_n 2, 1) := by decide +kernel
theorem dX5_inForce_26 : decode cX5_inForce 26 = .ok (.aaload, 1) := by decide +kernel
theorem dX5_inForce_27 : decode cX5_inForce 27 = .ok (.getfield 243, 3) := by decide +kernel
theorem dX5_inForce_30 : decode cX5_inForce 30 = .ok (.ifCond .eq 24, 3) := by decide +kernel
theorem dX5_inForce_33 : decode cX5_inForce 33 = .ok (.aload_n 0, 1) := by decide +kernel
theorem dX5_inForce_34 : decode cX5_inForce 34 = .ok (.getfield 10, 3) := by decide +kernel
theorem dX5_inForce_37 : decode cX5_inForce 37 = .ok (.getfield 138, 3) := by decide +kernel
theorem dX5_inForce_40 : decode cX5_inForce 40 = .ok (.iload_n 2, 1) := by decide +kernel
theorem dX5_inForce_41 : decode cX5_inForce 41 = .ok (.aaload, 1) := by decide +kernel
theorem dX5_inForce_42 : decode cX5_inForce 42 = .ok (.getfield 142, 3) := by decide +kernel
theorem dX5_inForce_45 : decode cX5_inForce 45 = .ok (.iload_n 1, 1) := by decide +kernel
theorem dX5_inForce_46 : decode cX5_inForce 46 = .ok (.invokestatic 121, 3) := by decide +kernel
theorem dX5_inForce_49 : decode cX5_inForce 49 = .ok (.ifCond .eq 5, 3) := by decide +kernel
theorem dX5_inForce_52 : decode cX5_inForce 52 = .ok (.iload_n 2, 1) := by decide +kernel
theorem dX5_inForce_53 : decode cX5_inForce 53 = .ok (.ireturn, 1) := by decide +kernel
theorem dX5_inForce_54 : decode cX5_inForce 54 = .ok (.iinc 2 (-1), 3) := by decide +kernel
theorem dX5_inForce_57 : decode cX5_inForce 57 = .ok (.goto (-43), 3) := by decide +kernel
theorem dX5_inForce_60 : decode cX5_inForce 60 = .ok (.iconst (-1), 1) := by decide +kernel
theorem dX5_inForce_61 : decode cX5_inForce 61 = .ok (.ireturn, 1) := by decide +kernel
theorem dX5_ofWarning_0 : decode cX5_ofWarning 0 = .ok (.aload_n 0, 1) := by decide +kernel
theorem dX5_ofWarning_1 : decode cX5_ofWarning 1 = .ok (.iload_n 1, 1) := by decide +kernel
theorem dX5_ofWarning_2 : decode cX5_ofWarning 2 = .ok (.invokevirtual 132, 3) := by decide +kernel
theorem dX5_ofWarning_5 : decode cX5_ofWarning 5 = .ok (.aload_n 0, 1) := by decide +kernel
theorem dX5_ofWarning_6 : decode cX5_ofWarning 6 = .ok (.getfield 10, 3) := by decide +kernel
theorem dX5_ofWarning_9 : decode cX5_ofWarning 9 = .ok (.getfield 138, 3) := by decide +kernel
theorem dX5_ofWarning_12 : decode cX5_ofWarning 12 = .ok (.iload_n 1, 1) := by decide +kernel
theorem dX5_ofWarning_13 : decode cX5_ofWarning 13 = .ok (.aaload, 1) := by decide +kernel
theorem dX5_ofWarning_14 : decode cX5_ofWarning 14 = .ok (.astore_n 3, 1) := by decide +kernel
theorem dX5_ofWarning_15 : decode cX5_ofWarning 15 = .ok (.iload_n 2, 1) := by decide +kernel
theorem dX5_ofWarning_16 : decode cX5_ofWarning 16 = .ok (.tableswitch 109 0 8 #[52, 57, 62, 67, 72, 77, 82, 87, 100], 52) := by decide +kernel
theorem dX5_ofWarning_68 : decode cX5_ofWarning 68 = .ok (.aload_n 3, 1) := by decide +kernel
theorem dX5_ofWarning_69 : decode cX5_ofWarning 69 = .ok (.getfield 237, 3) := by decide +kernel
theorem dX5_ofWarning_72 : decode cX5_ofWarning 72 = .ok (.ireturn, 1) := by decide +kernel
theorem dX5_ofWarning_73 : decode cX5_ofWarning 73 = .ok (.aload_n 3, 1) := by decide +kernel
theorem dX5_ofWarning_74 : decode cX5_ofWarning 74 = .ok (.getfield 240, 3) := by decide +kernel
theorem dX5_ofWarning_77 : decode cX5_ofWarning 77 = .ok (.ireturn, 1) := by decide +kernel
theorem dX5_ofWarning_78 : decode cX5_ofWarning 78 = .ok (.aload_n 3, 1) := by decide +kernel
theorem dX5_ofWarning_79 : decode cX5_ofWarning 79 = .ok (.getfield 142, 3) := by decide +kernel
theorem dX5_ofWarning_82 : decode cX5_ofWarning 82 = .ok (.ireturn, 1) := by decide +kernel
theorem dX5_ofWarning_83 : decode cX5_ofWarning 83 = .ok (.aload_n 3, 1) := by decide +kernel
theorem dX5_ofWarning_84 : decode cX5_ofWarning 84 = .ok (.getfield 147, 3) := by decide +kernel
theorem dX5_ofWarning_87 : decode cX5_ofWarning 87 = .ok (.ireturn, 1) := by decide +kernel
theorem dX5_ofWarning_88 : decode cX5_ofWarning 88 = .ok (.aload_n 3, 1) := by decide +kernel
theorem dX5_ofWarning_89 : decode cX5_ofWarning 89 = .ok (.getfield 150, 3) := by decide +kernel
theorem dX5_ofWarning_92 : decode cX5_ofWarning 92 = .ok (.ireturn, 1) := by decide +kernel
theorem dX5_ofWarning_93 : decode cX5_ofWarning 93 = .ok (.aload_n 3, 1) := by decide +kernel
theorem dX5_ofWarning_94 : decode cX5_ofWarning 94 = .ok (.getfield 158, 3) := by decide +kernel
theorem dX5_ofWarning_97 : decode cX5_ofWarning 97 = .ok (.ireturn, 1) := by decide +kernel
theorem dX5_ofWarning_98 : decode cX5_ofWarning 98 = .ok (.aload_n 3, 1) := by decide +kernel
theorem dX5_ofWarning_99 : decode cX5_ofWarning 99 = .ok (.getfield 153, 3) := by decide +kernel
theorem dX5_ofWarning_102 : decode cX5_ofWarning 102 = .ok (.ireturn, 1) := by decide +kernel
theorem dX5_ofWarning_103 : decode cX5_ofWarning 103 = .ok (.aload_n 3, 1) := by decide +kernel
theorem dX5_ofWarning_104 : decode cX5_ofWarning 104 = .ok (.getfield 243, 3) := by decide +kernel
theorem dX5_ofWarning_107 : decode cX5_ofWarning 107 = .ok (.ifCond .eq 7, 3) := by decide +kernel
theorem dX5_ofWarning_110 : decode cX5_ofWarning 110 = .ok (.iconst 1, 1) := by decide +kernel
theorem dX5_ofWarning_111 : decode cX5_ofWarning 111 = .ok (.goto 4, 3) := by decide +kernel
theorem dX5_ofWarning_114 : decode cX5_ofWarning 114 = .ok (.iconst 0, 1) := by decide +kernel
theorem dX5_ofWarning_115 : decode cX5_ofWarning 115 = .ok (.ireturn, 1) := by decide +kernel
theorem dX5_ofWarning_116 : decode cX5_ofWarning 116 = .ok (.aload_n 0, 1) := by decide +kernel
theorem dX5_ofWarning_117 : decode cX5_ofWarning 117 = .ok (.getfield 10, 3) := by decide +kernel
theorem dX5_ofWarning_120 : decode cX5_ofWarning 120 = .ok (.iload_n 1, 1) := by decide +kernel
theorem dX5_ofWarning_121 : decode cX5_ofWarning 121 = .ok (.invokevirtual 246, 3) := by decide +kernel
theorem dX5_ofWarning_124 : decode cX5_ofWarning 124 = .ok (.ireturn, 1) := by decide +kernel
theorem dX5_ofWarning_125 : decode cX5_ofWarning 125 = .ok (.new 215, 3) := by decide +kernel
theorem dX5_ofWarning_128 : decode cX5_ofWarning 128 = .ok (.dup, 1) := by decide +kernel
theorem dX5_ofWarning_129 : decode cX5_ofWarning 129 = .ok (.ldc 217, 2) := by decide +kernel
theorem dX5_ofWarning_131 : decode cX5_ofWarning 131 = .ok (.invokespecial 219, 3) := by decide +kernel
theorem dX5_ofWarning_134 : decode cX5_ofWarning 134 = .ok (.athrow, 1) := by decide +kernel
theorem dX5_ofGroup_0 : decode cX5_ofGroup 0 = .ok (.aload_n 0, 1) := by decide +kernel
theorem dX5_ofGroup_1 : decode cX5_ofGroup 1 = .ok (.iload_n 1, 1) := by decide +kernel
theorem dX5_ofGroup_2 : decode cX5_ofGroup 2 = .ok (.invokevirtual 60, 3) := by decide +kernel
theorem dX5_ofGroup_5 : decode cX5_ofGroup 5 = .ok (.aload_n 0, 1) := by decide +kernel
theorem dX5_ofGroup_6 : decode cX5_ofGroup 6 = .ok (.getfield 10, 3) := by decide +kernel
theorem dX5_ofGroup_9 : decode cX5_ofGroup 9 = .ok (.getfield 38, 3) := by decide +kernel
theorem dX5_ofGroup_12 : decode cX5_ofGroup 12 = .ok (.iload_n 1, 1) := by decide +kernel
theorem dX5_ofGroup_13 : decode cX5_ofGroup 13 = .ok (.aaload, 1) := by decide +kernel
theorem dX5_ofGroup_14 : decode cX5_ofGroup 14 = .ok (.astore_n 3, 1) := by decide +kernel
theorem dX5_ofGroup_15 : decode cX5_ofGroup 15 = .ok (.iload_n 2, 1) := by decide +kernel
theorem dX5_ofGroup_16 : decode cX5_ofGroup 16 = .ok (.tableswitch 121 0 8 #[52, 57, 62, 67, 72, 89, 94, 99, 112], 52) := by decide +kernel
theorem dX5_ofGroup_68 : decode cX5_ofGroup 68 = .ok (.aload_n 3, 1) := by decide +kernel
theorem dX5_ofGroup_69 : decode cX5_ofGroup 69 = .ok (.getfield 42, 3) := by decide +kernel
theorem dX5_ofGroup_72 : decode cX5_ofGroup 72 = .ok (.ireturn, 1) := by decide +kernel
theorem dX5_ofGroup_73 : decode cX5_ofGroup 73 = .ok (.aload_n 3, 1) := by decide +kernel
theorem dX5_ofGroup_74 : decode cX5_ofGroup 74 = .ok (.getfield 47, 3) := by decide +kernel
theorem dX5_ofGroup_77 : decode cX5_ofGroup 77 = .ok (.ireturn, 1) := by decide +kernel
theorem dX5_ofGroup_78 : decode cX5_ofGroup 78 = .ok (.aload_n 3, 1) := by decide +kernel
theorem dX5_ofGroup_79 : decode cX5_ofGroup 79 = .ok (.getfield 50, 3) := by decide +kernel
theorem dX5_ofGroup_82 : decode cX5_ofGroup 82 = .ok (.ireturn, 1) := by decide +kernel
theorem dX5_ofGroup_83 : decode cX5_ofGroup 83 = .ok (.aload_n 3, 1) := by decide +kernel
theorem dX5_ofGroup_84 : decode cX5_ofGroup 84 = .ok (.getfield 63, 3) := by decide +kernel
theorem dX5_ofGroup_87 : decode cX5_ofGroup 87 = .ok (.ireturn, 1) := by decide +kernel
theorem dX5_ofGroup_88 : decode cX5_ofGroup 88 = .ok (.aload_n 0, 1) := by decide +kernel
theorem dX5_ofGroup_89 : decode cX5_ofGroup 89 = .ok (.getfield 10, 3) := by decide +kernel
theorem dX5_ofGroup_92 : decode cX5_ofGroup 92 = .ok (.aload_n 3, 1) := by decide +kernel
theorem dX5_ofGroup_93 : decode cX5_ofGroup 93 = .ok (.invokevirtual 197, 3) := by decide +kernel
theorem dX5_ofGroup_96 : decode cX5_ofGroup 96 = .ok (.ifCond .eq 7, 3) := by decide +kernel
theorem dX5_ofGroup_99 : decode cX5_ofGroup 99 = .ok (.iconst 1, 1) := by decide +kernel
theorem dX5_ofGroup_100 : decode cX5_ofGroup 100 = .ok (.goto 4, 3) := by decide +kernel
theorem dX5_ofGroup_103 : decode cX5_ofGroup 103 = .ok (.iconst 0, 1) := by decide +kernel
theorem dX5_ofGroup_104 : decode cX5_ofGroup 104 = .ok (.ireturn, 1) := by decide +kernel
theorem dX5_ofGroup_105 : decode cX5_ofGroup 105 = .ok (.aload_n 3, 1) := by decide +kernel
theorem dX5_ofGroup_106 : decode cX5_ofGroup 106 = .ok (.getfield 201, 3) := by decide +kernel
theorem dX5_ofGroup_109 : decode cX5_ofGroup 109 = .ok (.ireturn, 1) := by decide +kernel
theorem dX5_ofGroup_110 : decode cX5_ofGroup 110 = .ok (.aload_n 3, 1) := by decide +kernel
theorem dX5_ofGroup_111 : decode cX5_ofGroup 111 = .ok (.getfield 204, 3) := by decide +kernel
theorem dX5_ofGroup_114 : decode cX5_ofGroup 114 = .ok (.ireturn, 1) := by decide +kernel
theorem dX5_ofGroup_115 : decode cX5_ofGroup 115 = .ok (.aload_n 3, 1) := by decide +kernel
theorem dX5_ofGroup_116 : decode cX5_ofGroup 116 = .ok (.invokevirtual 207, 3) := by decide +kernel
theorem dX5_ofGroup_119 : decode cX5_ofGroup 119 = .ok (.ifCond .eq 7, 3) := by decide +kernel
theorem dX5_ofGroup_122 : decode cX5_ofGroup 122 = .ok (.iconst 1, 1) := by decide +kernel
theorem dX5_ofGroup_123 : decode cX5_ofGroup 123 = .ok (.goto 4, 3) := by decide +kernel
theorem dX5_ofGroup_126 : decode cX5_ofGroup 126 = .ok (.iconst 0, 1) := by decide +kernel
theorem dX5_ofGroup_127 : decode cX5_ofGroup 127 = .ok (.ireturn, 1) := by decide +kernel
theorem dX5_ofGroup_128 : decode cX5_ofGroup 128 = .ok (.aload_n 0, 1) := by decide +kernel
theorem dX5_ofGroup_129 : decode cX5_ofGroup 129 = .ok (.getfield 10, 3) := by decide +kernel
theorem dX5_ofGroup_132 : decode cX5_ofGroup 132 = .ok (.aload_n 3, 1) := by decide +kernel
theorem dX5_ofGroup_133 : decode cX5_ofGroup 133 = .ok (.invokevirtual 211, 3) := by decide +kernel
theorem dX5_ofGroup_136 : decode cX5_ofGroup 136 = .ok (.ireturn, 1) := by decide +kernel
theorem dX5_ofGroup_137 : decode cX5_ofGroup 137 = .ok (.new 215, 3) := by decide +kernel
theorem dX5_ofGroup_140 : decode cX5_ofGroup 140 = .ok (.dup, 1) := by decide +kernel
theorem dX5_ofGroup_141 : decode cX5_ofGroup 141 = .ok (.ldc 217, 2) := by decide +kernel
theorem dX5_ofGroup_143 : decode cX5_ofGroup 143 = .ok (.invokespecial 219, 3) := by decide +kernel
theorem dX5_ofGroup_146 : decode cX5_ofGroup 146 = .ok (.athrow, 1) := by decide +kernel
theorem dX5_heard_0 : decode cX5_heard 0 = .ok (.aload_n 0, 1) := by decide +kernel
theorem dX5_heard_1 : decode cX5_heard 1 = .ok (.iload_n 1, 1) := by decide +kernel
theorem dX5_heard_2 : decode cX5_heard 2 = .ok (.invokevirtual 60, 3) := by decide +kernel
theorem dX5_heard_5 : decode cX5_heard 5 = .ok (.aload_n 0, 1) := by decide +kernel
theorem dX5_heard_6 : decode cX5_heard 6 = .ok (.iload_n 2, 1) := by decide +kernel
theorem dX5_heard_7 : decode cX5_heard 7 = .ok (.invokevirtual 132, 3) := by decide +kernel
theorem dX5_heard_10 : decode cX5_heard 10 = .ok (.aload_n 0, 1) := by decide +kernel
theorem dX5_heard_11 : decode cX5_heard 11 = .ok (.getfield 10, 3) := by decide +kernel
theorem dX5_heard_14 : decode cX5_heard 14 = .ok (.getfield 38, 3) := by decide +kernel
theorem dX5_heard_17 : decode cX5_heard 17 = .ok (.iload_n 1, 1) := by decide +kernel
theorem dX5_heard_18 : decode cX5_heard 18 = .ok (.aaload, 1) := by decide +kernel
theorem dX5_heard_19 : decode cX5_heard 19 = .ok (.astore 4, 2) := by decide +kernel
theorem dX5_heard_21 : decode cX5_heard 21 = .ok (.iload_n 3, 1) := by decide +kernel
theorem dX5_heard_22 : decode cX5_heard 22 = .ok (.tableswitch 74 0 4 #[34, 42, 50, 58, 66], 34) := by decide +kernel
theorem dX5_heard_56 : decode cX5_heard 56 = .ok (.aload 4, 2) := by decide +kernel
theorem dX5_heard_58 : decode cX5_heard 58 = .ok (.getfield 220, 3) := by decide +kernel
theorem dX5_heard_61 : decode cX5_heard 61 = .ok (.iload_n 2, 1) := by decide +kernel
theorem dX5_heard_62 : decode cX5_heard 62 = .ok (.iaload, 1) := by decide +kernel
theorem dX5_heard_63 : decode cX5_heard 63 = .ok (.ireturn, 1) := by decide +kernel
theorem dX5_heard_64 : decode cX5_heard 64 = .ok (.aload 4, 2) := by decide +kernel
theorem dX5_heard_66 : decode cX5_heard 66 = .ok (.getfield 223, 3) := by decide +kernel
theorem dX5_heard_69 : decode cX5_heard 69 = .ok (.iload_n 2, 1) := by decide +kernel
theorem dX5_heard_70 : decode cX5_heard 70 = .ok (.iaload, 1) := by decide +kernel
theorem dX5_heard_71 : decode cX5_heard 71 = .ok (.ireturn, 1) := by decide +kernel
theorem dX5_heard_72 : decode cX5_heard 72 = .ok (.aload 4, 2) := by decide +kernel
theorem dX5_heard_74 : decode cX5_heard 74 = .ok (.getfield 226, 3) := by decide +kernel
theorem dX5_heard_77 : decode cX5_heard 77 = .ok (.iload_n 2, 1) := by decide +kernel
theorem dX5_heard_78 : decode cX5_heard 78 = .ok (.iaload, 1) := by decide +kernel
theorem dX5_heard_79 : decode cX5_heard 79 = .ok (.ireturn, 1) := by decide +kernel
theorem dX5_heard_80 : decode cX5_heard 80 = .ok (.aload 4, 2) := by decide +kernel
theorem dX5_heard_82 : decode cX5_heard 82 = .ok (.getfield 229, 3) := by decide +kernel
theorem dX5_heard_85 : decode cX5_heard 85 = .ok (.iload_n 2, 1) := by decide +kernel
theorem dX5_heard_86 : decode cX5_heard 86 = .ok (.iaload, 1) := by decide +kernel
theorem dX5_heard_87 : decode cX5_heard 87 = .ok (.ireturn, 1) := by decide +kernel
theorem dX5_heard_88 : decode cX5_heard 88 = .ok (.aload 4, 2) := by decide +kernel
theorem dX5_heard_90 : decode cX5_heard 90 = .ok (.getfield 232, 3) := by decide +kernel
theorem dX5_heard_93 : decode cX5_heard 93 = .ok (.iload_n 2, 1) := by decide +kernel
theorem dX5_heard_94 : decode cX5_heard 94 = .ok (.iaload, 1) := by decide +kernel
theorem dX5_heard_95 : decode cX5_heard 95 = .ok (.ireturn, 1) := by decide +kernel
theorem dX5_heard_96 : decode cX5_heard 96 = .ok (.new 215, 3) := by decide +kernel
theorem dX5_heard_99 : decode cX5_heard 99 = .ok (.dup, 1) := by decide +kernel
theorem dX5_heard_100 : decode cX5_heard 100 = .ok (.ldc 235, 2) := by decide +kernel
theorem dX5_heard_102 : decode cX5_heard 102 = .ok (.invokespecial 219, 3) := by decide +kernel
theorem dX5_heard_105 : decode cX5_heard 105 = .ok (.athrow, 1) := by decide +kernel
/-! the questions of groups and warnings -/
/-- the latest warning below k in force whose area has the cell -/
def jInf (v : jN) (c : Int32) : Nat → Int32
  | 0 => -1
  | k + 1 => if v 11 k 7 = 0 then jInf v c k else if jIn (v 11 k 2) c = 0 then jInf v c k else nI k
theorem jwide {x : Int32} {n N : Nat} (h : vp_in x n) (hn : n ≤ N) (hN : N < 1000) : vp_in x N := by
  obtain ⟨j, hj, rfl⟩ := vp_in_of h (by omega)
  exact vp_in_nI (by omega) (by omega)
def sp_X5_inForce : vgC := fun av σ => match av with
  | [.inr (0, 0, 0), .inl (.int c)] => (vp_in c 16 ∧ jWf (jV σ 0), some (.inl (.int (jInf (jV σ 0) c (jWc (jV σ 0))))), σ)
  | _ => (False, none, σ)
def k_X5_inForce : List (Nat × vgF) := [(0, vi_iload 1 1), (1, vi_callS sp_X5_checkCell 1 4), (4, vi_aload 0 5), (5, vi_get ww_shp 0 0 8), (8, vi_get ww_shp 1 6 11), (11, vi_icst (1) 12), (12, vi_bin (fun x y => x - y) 13), (13, vi_istore 2 14), (14, vi_iload 2 15), (15, vi_if (fun x => x < 0) 60 18), (18, vi_aload 0 19), (19, vi_get ww_shp 0 0 22), (22, vi_get ww_shp 1 9 25), (25, vi_iload 2 26), (26, vi_aald ww_shp 4 27), (27, vi_get ww_shp 4 7 30), (30, vi_if (fun x => x = 0) 54 33), (33, vi_aload 0 34), (34, vi_get ww_shp 0 0 37), (37, vi_get ww_shp 1 9 40), (40, vi_iload 2 41), (41, vi_aald ww_shp 4 42), (42, vi_get ww_shp 4 2 45), (45, vi_iload 1 46), (46, vi_callS sp_X5_isIn 2 49), (49, vi_if (fun x => x = 0) 54 52), (52, vi_iload 2 53), (53, vi_ret), (54, vi_iinc 2 (-1) 57), (57, vi_goto 14), (60, vi_icst (-1) 61), (61, vi_ret)]
set_option maxRecDepth 20000 in
theorem s_X5_inForce : ∀ q ∈ k_X5_inForce, vg_Snd ww_tb ww_nw ww_shp ww_nm ww_cl ww_tyl cX5_inForce 3 RX5 (some .int) 1 q.1 q.2 := by
  refine vg_cons (vs_iload_n dX5_inForce_0 rfl rfl) ?_
  refine vg_cons (vs_callS c_X5_checkCell dX5_inForce_1 ww_good q_236 q_51 q_238 q_237 (by decide +kernel) (by decide) rfl) ?_
  refine vg_cons (vs_aload_n dX5_inForce_4 rfl rfl) ?_
  refine vg_cons (vs_getfield (T := TX5) dX5_inForce_5 rfl (by decide) ww_inX5 q_197 rfl) ?_
  refine vg_cons (vs_getfield (T := TX1) dX5_inForce_8 rfl (by decide) ww_inX1 q_199 rfl) ?_
  refine vg_cons (vs_iconst dX5_inForce_11 rfl rfl) ?_
  refine vg_cons (vs_isub dX5_inForce_12 rfl) ?_
  refine vg_cons (vs_istore_n dX5_inForce_13 rfl (by decide) rfl) ?_
  refine vg_cons (vs_iload_n dX5_inForce_14 rfl rfl) ?_
  refine vg_cons (vs_if_lt dX5_inForce_15 (by decide) rfl) ?_
  refine vg_cons (vs_aload_n dX5_inForce_18 rfl rfl) ?_
  refine vg_cons (vs_getfield (T := TX5) dX5_inForce_19 rfl (by decide) ww_inX5 q_197 rfl) ?_
  refine vg_cons (vs_getfield (T := TX1) dX5_inForce_22 rfl (by decide) ww_inX1 q_239 rfl) ?_
  refine vg_cons (vs_iload_n dX5_inForce_25 rfl rfl) ?_
  refine vg_cons (vs_aaload dX5_inForce_26 rfl rfl) ?_
  refine vg_cons (vs_getfield (T := TX4) dX5_inForce_27 rfl (by decide) ww_inX4 q_240 rfl) ?_
  refine vg_cons (vs_if_eq dX5_inForce_30 (by decide) rfl) ?_
  refine vg_cons (vs_aload_n dX5_inForce_33 rfl rfl) ?_
  refine vg_cons (vs_getfield (T := TX5) dX5_inForce_34 rfl (by decide) ww_inX5 q_197 rfl) ?_
  refine vg_cons (vs_getfield (T := TX1) dX5_inForce_37 rfl (by decide) ww_inX1 q_239 rfl) ?_
  refine vg_cons (vs_iload_n dX5_inForce_40 rfl rfl) ?_
  refine vg_cons (vs_aaload dX5_inForce_41 rfl rfl) ?_
  refine vg_cons (vs_getfield (T := TX4) dX5_inForce_42 rfl (by decide) ww_inX4 q_241 rfl) ?_
  refine vg_cons (vs_iload_n dX5_inForce_45 rfl rfl) ?_
  refine vg_cons (vs_callS c_X5_isIn dX5_inForce_46 ww_good q_50 q_51 q_242 q_52 (by decide +kernel) (by decide) rfl) ?_
  refine vg_cons (vs_if_eq dX5_inForce_49 (by decide) rfl) ?_
  refine vg_cons (vs_iload_n dX5_inForce_52 rfl rfl) ?_
  refine vg_cons (vs_ireturn dX5_inForce_53 rfl) ?_
  refine vg_cons (vs_iinc dX5_inForce_54 rfl rfl) ?_
  refine vg_cons (vs_goto dX5_inForce_57 (by decide)) ?_
  refine vg_cons (vs_iconst dX5_inForce_60 rfl rfl) ?_
  refine vg_cons (vs_ireturn dX5_inForce_61 rfl) ?_
  exact fun _ h => absurd h List.not_mem_nil
theorem m_X5_inForce : vg_Code k_X5_inForce := fun q h => (s_X5_inForce q h).1

theorem w_X5_inForce : vg_Wd sp_X5_inForce 3 := by
  intro av σ h
  unfold sp_X5_inForce at h
  split at h
  · exact Nat.le_of_ble_eq_true rfl
  · exact h.elim
theorem g_X5_inForce : vg_G k_X5_inForce sp_X5_inForce := by
  intro av σ h
  unfold sp_X5_inForce at h ⊢
  split at h
  next c =>
    obtain ⟨hcl, hw⟩ := h
    refine vg_run (cuts := [(14, [0, 1, 2])]) m_X5_inForce 30 ?_
    refine And.intro hcl ?_
    have hwc := hw.2.2.1
    refine vg_loopD (fun k lv σ' => k ≤ 12 ∧ σ' = σ ∧ jInf (jV σ 0) c (jWc (jV σ 0)) = jInf (jV σ 0) c k ∧ ∃ x, x = nI k - 1 ∧ lv = [(0, .inr (0, 0, 0)), (1, .inl (.int c)), (2, .inl (.int x))]) ?_ ?_ (jWc (jV σ 0)) _ _ ⟨hwc.2, rfl, rfl, _, congrArg (· - 1) hwc.1, rfl⟩
    · rintro k lv σ' ⟨hk, e, he, x, hx, rfl⟩ ih
      subst e
      rw [nI_pred] at hx
      have hi : x.toNatClampNeg = k := jcl hx (by omega)
      have hv : vp_in x 12 := jin hx (by omega) (by decide)
      have ih' : ∀ lv', (∃ x', x' = nI k - 1 ∧ lv' = [(0, .inr (0, 0, 0)), (1, .inl (.int c)), (2, .inl (.int x'))]) → jInf (jV σ' 0) c (k + 1) = jInf (jV σ' 0) c k → vg_Go _ _ 14 lv' [] σ' := fun lv' q z => ih lv' σ' ⟨by omega, rfl, he.trans z, q⟩
      refine vg_run (cuts := [(14, [0, 1, 2])]) m_X5_inForce 40 ?_
      refine And.intro (fun hc => absurd hc (by rw [hx]; exact nI_pos (by omega))) (fun hc => And.intro hv ?_)
      refine And.intro (fun hd => ?_) (fun hd => And.intro hv (And.intro trivial ?_))
      · refine ih' _ ⟨x + (-1), by rw [hx, Int32.sub_eq_add_neg], rfl⟩ ?_
        rw [hi] at hd
        exact if_pos hd
      · refine And.intro (fun hf => ?_) (fun hf => ?_)
        · refine ih' _ ⟨x + (-1), by rw [hx, Int32.sub_eq_add_neg], rfl⟩ ?_
          rw [hi] at hd hf
          exact (if_neg hd).trans (if_pos hf)
        · refine And.intro ?_ rfl
          rw [hi] at hd hf
          show some (Sum.inl (Value.int x)) = some (Sum.inl (Value.int (jInf (jV σ' 0) c (jWc (jV σ' 0)))))
          rw [he, hx]
          exact congrArg (fun z => some (Sum.inl (Value.int z))) ((if_neg hd).trans (if_neg hf)).symm
    · rintro lv σ' ⟨hk, e, he, x, hx, rfl⟩
      subst e
      refine vg_run (cuts := [(14, [0, 1, 2])]) m_X5_inForce 20 ?_
      refine And.intro (fun hc => ?_) (fun hc => absurd (by rw [hx]; decide) hc)
      refine And.intro ?_ rfl
      show some (Sum.inl (Value.int (-1))) = some (Sum.inl (Value.int (jInf (jV σ' 0) c (jWc (jV σ' 0)))))
      rw [he]
      rfl
  next => exact h.elim
theorem c_X5_inForce : vg_MetF ww_tb ww_nw ww_shp ww_nm ww_cl ww_tyl yX5_inForce cX5_inForce 3 (some .int) 1 sp_X5_inForce := vg_met ww_closed (by decide +kernel) rfl s_X5_inForce w_X5_inForce g_X5_inForce
theorem jno9 {x : Int32} (h : vp_in x 9) (n0 : ¬ x = 0) (n1 : ¬ x = 1) (n2 : ¬ x = 2) (n3 : ¬ x = 3) (n4 : ¬ x = 4) (n5 : ¬ x = 5) (n6 : ¬ x = 6) (n7 : ¬ x = 7) (n8 : ¬ x = 8) : False := by
  obtain ⟨k, hk, rfl⟩ := vp_in_of h (by decide)
  match k, hk with
  | 0, _ => exact n0 rfl
  | 1, _ => exact n1 rfl
  | 2, _ => exact n2 rfl
  | 3, _ => exact n3 rfl
  | 4, _ => exact n4 rfl
  | 5, _ => exact n5 rfl
  | 6, _ => exact n6 rfl
  | 7, _ => exact n7 rfl
  | 8, _ => exact n8 rfl
theorem jno5 {x : Int32} (h : vp_in x 5) (n0 : ¬ x = 0) (n1 : ¬ x = 1) (n2 : ¬ x = 2) (n3 : ¬ x = 3) (n4 : ¬ x = 4) : False := by
  obtain ⟨k, hk, rfl⟩ := vp_in_of h (by decide)
  match k, hk with
  | 0, _ => exact n0 rfl
  | 1, _ => exact n1 rfl
  | 2, _ => exact n2 rfl
  | 3, _ => exact n3 rfl
  | 4, _ => exact n4 rfl
def jOfW (v : jN) (w : Nat) (x : Int32) : Int32 :=
  if x = 0 then v 11 w 0 else
  if x = 1 then v 11 w 1 else
  if x = 2 then v 11 w 2 else
  if x = 3 then v 11 w 3 else
  if x = 4 then v 11 w 4 else
  if x = 5 then v 11 w 5 else
  if x = 6 then v 11 w 6 else
  if x = 7 then jb (¬ v 11 w 7 = 0) else
  if x = 8 then jSum (fun g => jb (¬ v 18 g w = -1)) (jGc v) else 0
def sp_X5_ofWarning : vgC := fun av σ => match av with
  | [.inr (0, 0, 0), .inl (.int c), .inl (.int x)] => (jWf (jV σ 0) ∧ vp_in c (jWc (jV σ 0)) ∧ vp_in x 9, some (.inl (.int (jOfW (jV σ 0) c.toNatClampNeg x))), σ)
  | _ => (False, none, σ)
def k_X5_ofWarning : List (Nat × vgF) := [(0, vi_aload 0 1), (1, vi_iload 1 2), (2, vi_callV ww_shp 0 sp_X5_checkWarning 1 5), (5, vi_aload 0 6), (6, vi_get ww_shp 0 0 9), (9, vi_get ww_shp 1 9 12), (12, vi_iload 1 13), (13, vi_aald ww_shp 4 14), (14, vi_astore 3 15), (15, vi_iload 2 16), (16, vi_sw [(0, 68), (1, 73), (2, 78), (3, 83), (4, 88), (5, 93), (6, 98), (7, 103), (8, 116)] 125), (68, vi_aload 3 69), (69, vi_get ww_shp 4 0 72), (72, vi_ret), (73, vi_aload 3 74), (74, vi_get ww_shp 4 1 77), (77, vi_ret), (78, vi_aload 3 79), (79, vi_get ww_shp 4 2 82), (82, vi_ret), (83, vi_aload 3 84), (84, vi_get ww_shp 4 3 87), (87, vi_ret), (88, vi_aload 3 89), (89, vi_get ww_shp 4 4 92), (92, vi_ret), (93, vi_aload 3 94), (94, vi_get ww_shp 4 5 97), (97, vi_ret), (98, vi_aload 3 99), (99, vi_get ww_shp 4 6 102), (102, vi_ret), (103, vi_aload 3 104), (104, vi_get ww_shp 4 7 107), (107, vi_if (fun x => x = 0) 114 110), (110, vi_icst (1) 111), (111, vi_goto 115), (114, vi_icst (0) 115), (115, vi_ret), (116, vi_aload 0 117), (117, vi_get ww_shp 0 0 120), (120, vi_iload 1 121), (121, vi_callV ww_shp 1 sp_X1_countBelievers 1 124), (124, vi_ret), (125, vi_no)]
set_option maxRecDepth 20000 in
theorem s_X5_ofWarning : ∀ q ∈ k_X5_ofWarning, vg_Snd ww_tb ww_nw ww_shp ww_nm ww_cl ww_tyl cX5_ofWarning 4 RX5 (some .int) 1 q.1 q.2 := by
  refine vg_cons (vs_aload_n dX5_ofWarning_0 rfl rfl) ?_
  refine vg_cons (vs_iload_n dX5_ofWarning_1 rfl rfl) ?_
  refine vg_cons (vs_callV (T := TX5) c_X5_checkWarning dX5_ofWarning_2 rfl ww_good q_243 q_51 q_244 q_245 q_246 (by decide +kernel) (by decide) rfl) ?_
  refine vg_cons (vs_aload_n dX5_ofWarning_5 rfl rfl) ?_
  refine vg_cons (vs_getfield (T := TX5) dX5_ofWarning_6 rfl (by decide) ww_inX5 q_197 rfl) ?_
  refine vg_cons (vs_getfield (T := TX1) dX5_ofWarning_9 rfl (by decide) ww_inX1 q_239 rfl) ?_
  refine vg_cons (vs_iload_n dX5_ofWarning_12 rfl rfl) ?_
  refine vg_cons (vs_aaload dX5_ofWarning_13 rfl rfl) ?_
  refine vg_cons (vs_astore_n dX5_ofWarning_14 rfl (by decide) rfl) ?_
  refine vg_cons (vs_iload_n dX5_ofWarning_15 rfl rfl) ?_
  refine vg_cons (vs_tsw dX5_ofWarning_16 (by decide) (by decide) (by intro i hi; match i, hi with | 0, _ => exact ⟨(0, 68), 52, rfl, rfl, by decide, by decide⟩ | 1, _ => exact ⟨(1, 73), 57, rfl, rfl, by decide, by decide⟩ | 2, _ => exact ⟨(2, 78), 62, rfl, rfl, by decide, by decide⟩ | 3, _ => exact ⟨(3, 83), 67, rfl, rfl, by decide, by decide⟩ | 4, _ => exact ⟨(4, 88), 72, rfl, rfl, by decide, by decide⟩ | 5, _ => exact ⟨(5, 93), 77, rfl, rfl, by decide, by decide⟩ | 6, _ => exact ⟨(6, 98), 82, rfl, rfl, by decide, by decide⟩ | 7, _ => exact ⟨(7, 103), 87, rfl, rfl, by decide, by decide⟩ | 8, _ => exact ⟨(8, 116), 100, rfl, rfl, by decide, by decide⟩)) ?_
  refine vg_cons (vs_aload_n dX5_ofWarning_68 rfl rfl) ?_
  refine vg_cons (vs_getfield (T := TX4) dX5_ofWarning_69 rfl (by decide) ww_inX4 q_247 rfl) ?_
  refine vg_cons (vs_ireturn dX5_ofWarning_72 rfl) ?_
  refine vg_cons (vs_aload_n dX5_ofWarning_73 rfl rfl) ?_
  refine vg_cons (vs_getfield (T := TX4) dX5_ofWarning_74 rfl (by decide) ww_inX4 q_248 rfl) ?_
  refine vg_cons (vs_ireturn dX5_ofWarning_77 rfl) ?_
  refine vg_cons (vs_aload_n dX5_ofWarning_78 rfl rfl) ?_
  refine vg_cons (vs_getfield (T := TX4) dX5_ofWarning_79 rfl (by decide) ww_inX4 q_241 rfl) ?_
  refine vg_cons (vs_ireturn dX5_ofWarning_82 rfl) ?_
  refine vg_cons (vs_aload_n dX5_ofWarning_83 rfl rfl) ?_
  refine vg_cons (vs_getfield (T := TX4) dX5_ofWarning_84 rfl (by decide) ww_inX4 q_249 rfl) ?_
  refine vg_cons (vs_ireturn dX5_ofWarning_87 rfl) ?_
  refine vg_cons (vs_aload_n dX5_ofWarning_88 rfl rfl) ?_
  refine vg_cons (vs_getfield (T := TX4) dX5_ofWarning_89 rfl (by decide) ww_inX4 q_250 rfl) ?_
  refine vg_cons (vs_ireturn dX5_ofWarning_92 rfl) ?_
  refine vg_cons (vs_aload_n dX5_ofWarning_93 rfl rfl) ?_
  refine vg_cons (vs_getfield (T := TX4) dX5_ofWarning_94 rfl (by decide) ww_inX4 q_251 rfl) ?_
  refine vg_cons (vs_ireturn dX5_ofWarning_97 rfl) ?_
  refine vg_cons (vs_aload_n dX5_ofWarning_98 rfl rfl) ?_
  refine vg_cons (vs_getfield (T := TX4) dX5_ofWarning_99 rfl (by decide) ww_inX4 q_252 rfl) ?_
  refine vg_cons (vs_ireturn dX5_ofWarning_102 rfl) ?_
  refine vg_cons (vs_aload_n dX5_ofWarning_103 rfl rfl) ?_
  refine vg_cons (vs_getfield (T := TX4) dX5_ofWarning_104 rfl (by decide) ww_inX4 q_240 rfl) ?_
  refine vg_cons (vs_if_eq dX5_ofWarning_107 (by decide) rfl) ?_
  refine vg_cons (vs_iconst dX5_ofWarning_110 rfl rfl) ?_
  refine vg_cons (vs_goto dX5_ofWarning_111 (by decide)) ?_
  refine vg_cons (vs_iconst dX5_ofWarning_114 rfl rfl) ?_
  refine vg_cons (vs_ireturn dX5_ofWarning_115 rfl) ?_
  refine vg_cons (vs_aload_n dX5_ofWarning_116 rfl rfl) ?_
  refine vg_cons (vs_getfield (T := TX5) dX5_ofWarning_117 rfl (by decide) ww_inX5 q_197 rfl) ?_
  refine vg_cons (vs_iload_n dX5_ofWarning_120 rfl rfl) ?_
  refine vg_cons (vs_callV (T := TX1) c_X1_countBelievers dX5_ofWarning_121 rfl ww_good q_253 q_12 q_254 q_255 q_256 (by decide +kernel) (by decide) rfl) ?_
  refine vg_cons (vs_ireturn dX5_ofWarning_124 rfl) ?_
  refine vg_cons (vs_no) ?_
  exact fun _ h => absurd h List.not_mem_nil
theorem m_X5_ofWarning : vg_Code k_X5_ofWarning := fun q h => (s_X5_ofWarning q h).1

theorem w_X5_ofWarning : vg_Wd sp_X5_ofWarning 4 := by
  intro av σ h
  unfold sp_X5_ofWarning at h
  split at h
  · exact Nat.le_of_ble_eq_true rfl
  · exact h.elim
theorem g_X5_ofWarning : vg_G k_X5_ofWarning sp_X5_ofWarning := by
  intro av σ h
  unfold sp_X5_ofWarning at h ⊢
  split at h
  next c x =>
    obtain ⟨hw, hc, hx⟩ := h
    have hb := hw.2.2.1.2
    have h12 : vp_in c 12 := jwide hc hb (by decide)
    refine vg_run (cuts := []) m_X5_ofWarning 40 ?_
    refine And.intro ⟨hw, hc⟩ (And.intro h12 ?_)
    exact And.intro (fun (h : x = 0) => And.intro (show (some (Sum.inl (Value.int ((jV σ 0) 11 c.toNatClampNeg 0))) : Option vgV) = some (Sum.inl (Value.int (jOfW (jV σ 0) c.toNatClampNeg x))) from by rw [h]; rfl) rfl) (fun (n0 : ¬ x = 0) => And.intro (fun (h : x = 1) => And.intro (show (some (Sum.inl (Value.int ((jV σ 0) 11 c.toNatClampNeg 1))) : Option vgV) = some (Sum.inl (Value.int (jOfW (jV σ 0) c.toNatClampNeg x))) from by rw [h]; rfl) rfl) (fun (n1 : ¬ x = 1) => And.intro (fun (h : x = 2) => And.intro (show (some (Sum.inl (Value.int ((jV σ 0) 11 c.toNatClampNeg 2))) : Option vgV) = some (Sum.inl (Value.int (jOfW (jV σ 0) c.toNatClampNeg x))) from by rw [h]; rfl) rfl) (fun (n2 : ¬ x = 2) => And.intro (fun (h : x = 3) => And.intro (show (some (Sum.inl (Value.int ((jV σ 0) 11 c.toNatClampNeg 3))) : Option vgV) = some (Sum.inl (Value.int (jOfW (jV σ 0) c.toNatClampNeg x))) from by rw [h]; rfl) rfl) (fun (n3 : ¬ x = 3) => And.intro (fun (h : x = 4) => And.intro (show (some (Sum.inl (Value.int ((jV σ 0) 11 c.toNatClampNeg 4))) : Option vgV) = some (Sum.inl (Value.int (jOfW (jV σ 0) c.toNatClampNeg x))) from by rw [h]; rfl) rfl) (fun (n4 : ¬ x = 4) => And.intro (fun (h : x = 5) => And.intro (show (some (Sum.inl (Value.int ((jV σ 0) 11 c.toNatClampNeg 5))) : Option vgV) = some (Sum.inl (Value.int (jOfW (jV σ 0) c.toNatClampNeg x))) from by rw [h]; rfl) rfl) (fun (n5 : ¬ x = 5) => And.intro (fun (h : x = 6) => And.intro (show (some (Sum.inl (Value.int ((jV σ 0) 11 c.toNatClampNeg 6))) : Option vgV) = some (Sum.inl (Value.int (jOfW (jV σ 0) c.toNatClampNeg x))) from by rw [h]; rfl) rfl) (fun (n6 : ¬ x = 6) => And.intro (fun (h : x = 7) => And.intro (fun (hz : (jV σ 0) 11 c.toNatClampNeg 7 = 0) => And.intro (show (some (Sum.inl (Value.int (0))) : Option vgV) = some (Sum.inl (Value.int (jOfW (jV σ 0) c.toNatClampNeg x))) from by rw [h, show jOfW (jV σ 0) c.toNatClampNeg 7 = jb (¬ (jV σ 0) 11 c.toNatClampNeg 7 = 0) from rfl, jb_f (fun z => z hz)]) rfl) (fun (hz : ¬ (jV σ 0) 11 c.toNatClampNeg 7 = 0) => And.intro (show (some (Sum.inl (Value.int (1))) : Option vgV) = some (Sum.inl (Value.int (jOfW (jV σ 0) c.toNatClampNeg x))) from by rw [h, show jOfW (jV σ 0) c.toNatClampNeg 7 = jb (¬ (jV σ 0) 11 c.toNatClampNeg 7 = 0) from rfl, jb_t hz]) rfl)) (fun (n7 : ¬ x = 7) => And.intro (fun (h : x = 8) => And.intro ⟨hw, h12⟩ (And.intro (show (some (Sum.inl (Value.int (jSum (fun g => jb (¬ (jV σ 0) 18 g c.toNatClampNeg = -1)) (jGc (jV σ 0))))) : Option vgV) = some (Sum.inl (Value.int (jOfW (jV σ 0) c.toNatClampNeg x))) from by rw [h]; rfl) rfl)) (fun (n8 : ¬ x = 8) => (jno9 hx n0 n1 n2 n3 n4 n5 n6 n7 n8).elim)))))))))
  next => exact h.elim
theorem c_X5_ofWarning : vg_MetF ww_tb ww_nw ww_shp ww_nm ww_cl ww_tyl yX5_ofWarning cX5_ofWarning 4 (some .int) 1 sp_X5_ofWarning := vg_met ww_closed (by decide +kernel) rfl s_X5_ofWarning w_X5_ofWarning g_X5_ofWarning
def jOfG (v : jN) (g : Nat) (x : Int32) : Int32 :=
  if x = 0 then v 9 g 0 else
  if x = 1 then v 9 g 1 else
  if x = 2 then v 9 g 2 else
  if x = 3 then v 9 g 3 else
  if x = 4 then jb (jSleep v g) else
  if x = 5 then v 9 g 6 else
  if x = 6 then v 9 g 7 else
  if x = 7 then jb (jGone v g) else
  if x = 8 then jLt v g else 0
def sp_X5_ofGroup : vgC := fun av σ => match av with
  | [.inr (0, 0, 0), .inl (.int c), .inl (.int x)] => (jWf (jV σ 0) ∧ vp_in c (jGc (jV σ 0)) ∧ vp_in x 9, some (.inl (.int (jOfG (jV σ 0) c.toNatClampNeg x))), σ)
  | _ => (False, none, σ)
def k_X5_ofGroup : List (Nat × vgF) := [(0, vi_aload 0 1), (1, vi_iload 1 2), (2, vi_callV ww_shp 0 sp_X5_checkGroup 1 5), (5, vi_aload 0 6), (6, vi_get ww_shp 0 0 9), (9, vi_get ww_shp 1 7 12), (12, vi_iload 1 13), (13, vi_aald ww_shp 2 14), (14, vi_astore 3 15), (15, vi_iload 2 16), (16, vi_sw [(0, 68), (1, 73), (2, 78), (3, 83), (4, 88), (5, 105), (6, 110), (7, 115), (8, 128)] 137), (68, vi_aload 3 69), (69, vi_get ww_shp 5 0 72), (72, vi_ret), (73, vi_aload 3 74), (74, vi_get ww_shp 5 1 77), (77, vi_ret), (78, vi_aload 3 79), (79, vi_get ww_shp 5 2 82), (82, vi_ret), (83, vi_aload 3 84), (84, vi_get ww_shp 5 3 87), (87, vi_ret), (88, vi_aload 0 89), (89, vi_get ww_shp 0 0 92), (92, vi_aload 3 93), (93, vi_callV ww_shp 1 sp_X1_isAsleep 1 96), (96, vi_if (fun x => x = 0) 103 99), (99, vi_icst (1) 100), (100, vi_goto 104), (103, vi_icst (0) 104), (104, vi_ret), (105, vi_aload 3 106), (106, vi_get ww_shp 5 6 109), (109, vi_ret), (110, vi_aload 3 111), (111, vi_get ww_shp 5 7 114), (114, vi_ret), (115, vi_aload 3 116), (116, vi_callV ww_shp 5 sp_X0_isGone 0 119), (119, vi_if (fun x => x = 0) 126 122), (122, vi_icst (1) 123), (123, vi_goto 127), (126, vi_icst (0) 127), (127, vi_ret), (128, vi_aload 0 129), (129, vi_get ww_shp 0 0 132), (132, vi_aload 3 133), (133, vi_callV ww_shp 1 sp_X1_latestBelieved 1 136), (136, vi_ret), (137, vi_no)]
set_option maxRecDepth 20000 in
theorem s_X5_ofGroup : ∀ q ∈ k_X5_ofGroup, vg_Snd ww_tb ww_nw ww_shp ww_nm ww_cl ww_tyl cX5_ofGroup 4 RX5 (some .int) 3 q.1 q.2 := by
  refine vg_cons (vs_aload_n dX5_ofGroup_0 rfl rfl) ?_
  refine vg_cons (vs_iload_n dX5_ofGroup_1 rfl rfl) ?_
  refine vg_cons (vs_callV (T := TX5) c_X5_checkGroup dX5_ofGroup_2 rfl ww_good q_257 q_51 q_258 q_259 q_260 (by decide +kernel) (by decide) rfl) ?_
  refine vg_cons (vs_aload_n dX5_ofGroup_5 rfl rfl) ?_
  refine vg_cons (vs_getfield (T := TX5) dX5_ofGroup_6 rfl (by decide) ww_inX5 q_197 rfl) ?_
  refine vg_cons (vs_getfield (T := TX1) dX5_ofGroup_9 rfl (by decide) ww_inX1 q_261 rfl) ?_
  refine vg_cons (vs_iload_n dX5_ofGroup_12 rfl rfl) ?_
  refine vg_cons (vs_aaload dX5_ofGroup_13 rfl rfl) ?_
  refine vg_cons (vs_astore_n dX5_ofGroup_14 rfl (by decide) rfl) ?_
  refine vg_cons (vs_iload_n dX5_ofGroup_15 rfl rfl) ?_
  refine vg_cons (vs_tsw dX5_ofGroup_16 (by decide) (by decide) (by intro i hi; match i, hi with | 0, _ => exact ⟨(0, 68), 52, rfl, rfl, by decide, by decide⟩ | 1, _ => exact ⟨(1, 73), 57, rfl, rfl, by decide, by decide⟩ | 2, _ => exact ⟨(2, 78), 62, rfl, rfl, by decide, by decide⟩ | 3, _ => exact ⟨(3, 83), 67, rfl, rfl, by decide, by decide⟩ | 4, _ => exact ⟨(4, 88), 72, rfl, rfl, by decide, by decide⟩ | 5, _ => exact ⟨(5, 105), 89, rfl, rfl, by decide, by decide⟩ | 6, _ => exact ⟨(6, 110), 94, rfl, rfl, by decide, by decide⟩ | 7, _ => exact ⟨(7, 115), 99, rfl, rfl, by decide, by decide⟩ | 8, _ => exact ⟨(8, 128), 112, rfl, rfl, by decide, by decide⟩)) ?_
  refine vg_cons (vs_aload_n dX5_ofGroup_68 rfl rfl) ?_
  refine vg_cons (vs_getfield (T := TX0) dX5_ofGroup_69 rfl (by decide) ww_inX0 q_262 rfl) ?_
  refine vg_cons (vs_ireturn dX5_ofGroup_72 rfl) ?_
  refine vg_cons (vs_aload_n dX5_ofGroup_73 rfl rfl) ?_
  refine vg_cons (vs_getfield (T := TX0) dX5_ofGroup_74 rfl (by decide) ww_inX0 q_263 rfl) ?_
  refine vg_cons (vs_ireturn dX5_ofGroup_77 rfl) ?_
  refine vg_cons (vs_aload_n dX5_ofGroup_78 rfl rfl) ?_
  refine vg_cons (vs_getfield (T := TX0) dX5_ofGroup_79 rfl (by decide) ww_inX0 q_264 rfl) ?_
  refine vg_cons (vs_ireturn dX5_ofGroup_82 rfl) ?_
  refine vg_cons (vs_aload_n dX5_ofGroup_83 rfl rfl) ?_
  refine vg_cons (vs_getfield (T := TX0) dX5_ofGroup_84 rfl (by decide) ww_inX0 q_265 rfl) ?_
  refine vg_cons (vs_ireturn dX5_ofGroup_87 rfl) ?_
  refine vg_cons (vs_aload_n dX5_ofGroup_88 rfl rfl) ?_
  refine vg_cons (vs_getfield (T := TX5) dX5_ofGroup_89 rfl (by decide) ww_inX5 q_197 rfl) ?_
  refine vg_cons (vs_aload_n dX5_ofGroup_92 rfl rfl) ?_
  refine vg_cons (vs_callV (T := TX1) c_X1_isAsleep dX5_ofGroup_93 rfl ww_good q_40 q_12 q_266 q_42 q_43 (by decide +kernel) (by decide) rfl) ?_
  refine vg_cons (vs_if_eq dX5_ofGroup_96 (by decide) rfl) ?_
  refine vg_cons (vs_iconst dX5_ofGroup_99 rfl rfl) ?_
  refine vg_cons (vs_goto dX5_ofGroup_100 (by decide)) ?_
  refine vg_cons (vs_iconst dX5_ofGroup_103 rfl rfl) ?_
  refine vg_cons (vs_ireturn dX5_ofGroup_104 rfl) ?_
  refine vg_cons (vs_aload_n dX5_ofGroup_105 rfl rfl) ?_
  refine vg_cons (vs_getfield (T := TX0) dX5_ofGroup_106 rfl (by decide) ww_inX0 q_267 rfl) ?_
  refine vg_cons (vs_ireturn dX5_ofGroup_109 rfl) ?_
  refine vg_cons (vs_aload_n dX5_ofGroup_110 rfl rfl) ?_
  refine vg_cons (vs_getfield (T := TX0) dX5_ofGroup_111 rfl (by decide) ww_inX0 q_268 rfl) ?_
  refine vg_cons (vs_ireturn dX5_ofGroup_114 rfl) ?_
  refine vg_cons (vs_aload_n dX5_ofGroup_115 rfl rfl) ?_
  refine vg_cons (vs_callV (T := TX0) c_X0_isGone dX5_ofGroup_116 rfl ww_good q_20 q_21 q_269 q_23 q_24 (by decide +kernel) (by decide) rfl) ?_
  refine vg_cons (vs_if_eq dX5_ofGroup_119 (by decide) rfl) ?_
  refine vg_cons (vs_iconst dX5_ofGroup_122 rfl rfl) ?_
  refine vg_cons (vs_goto dX5_ofGroup_123 (by decide)) ?_
  refine vg_cons (vs_iconst dX5_ofGroup_126 rfl rfl) ?_
  refine vg_cons (vs_ireturn dX5_ofGroup_127 rfl) ?_
  refine vg_cons (vs_aload_n dX5_ofGroup_128 rfl rfl) ?_
  refine vg_cons (vs_getfield (T := TX5) dX5_ofGroup_129 rfl (by decide) ww_inX5 q_197 rfl) ?_
  refine vg_cons (vs_aload_n dX5_ofGroup_132 rfl rfl) ?_
  refine vg_cons (vs_callV (T := TX1) c_X1_latestBelieved dX5_ofGroup_133 rfl ww_good q_29 q_12 q_270 q_31 q_32 (by decide +kernel) (by decide) rfl) ?_
  refine vg_cons (vs_ireturn dX5_ofGroup_136 rfl) ?_
  refine vg_cons (vs_no) ?_
  exact fun _ h => absurd h List.not_mem_nil
theorem m_X5_ofGroup : vg_Code k_X5_ofGroup := fun q h => (s_X5_ofGroup q h).1

theorem w_X5_ofGroup : vg_Wd sp_X5_ofGroup 4 := by
  intro av σ h
  unfold sp_X5_ofGroup at h
  split at h
  · exact Nat.le_of_ble_eq_true rfl
  · exact h.elim
theorem g_X5_ofGroup : vg_G k_X5_ofGroup sp_X5_ofGroup := by
  intro av σ h
  unfold sp_X5_ofGroup at h ⊢
  split at h
  next c x =>
    obtain ⟨hw, hc, hx⟩ := h
    have hb := hw.1.2
    have h8 : vp_in c 8 := jwide hc hb (by decide)
    refine vg_run (cuts := []) m_X5_ofGroup 40 ?_
    refine And.intro ⟨hw, hc⟩ (And.intro h8 ?_)
    exact And.intro (fun (h : x = 0) => And.intro (show (some (Sum.inl (Value.int ((jV σ 0) 9 c.toNatClampNeg 0))) : Option vgV) = some (Sum.inl (Value.int (jOfG (jV σ 0) c.toNatClampNeg x))) from by rw [h]; rfl) rfl) (fun (n0 : ¬ x = 0) => And.intro (fun (h : x = 1) => And.intro (show (some (Sum.inl (Value.int ((jV σ 0) 9 c.toNatClampNeg 1))) : Option vgV) = some (Sum.inl (Value.int (jOfG (jV σ 0) c.toNatClampNeg x))) from by rw [h]; rfl) rfl) (fun (n1 : ¬ x = 1) => And.intro (fun (h : x = 2) => And.intro (show (some (Sum.inl (Value.int ((jV σ 0) 9 c.toNatClampNeg 2))) : Option vgV) = some (Sum.inl (Value.int (jOfG (jV σ 0) c.toNatClampNeg x))) from by rw [h]; rfl) rfl) (fun (n2 : ¬ x = 2) => And.intro (fun (h : x = 3) => And.intro (show (some (Sum.inl (Value.int ((jV σ 0) 9 c.toNatClampNeg 3))) : Option vgV) = some (Sum.inl (Value.int (jOfG (jV σ 0) c.toNatClampNeg x))) from by rw [h]; rfl) rfl) (fun (n3 : ¬ x = 3) => And.intro (fun (h : x = 4) => And.intro ⟨hw, rfl⟩ (And.intro (fun (hz : jb (jSleep (jV σ 0) c.toNatClampNeg) = 0) => And.intro (show (some (Sum.inl (Value.int (0))) : Option vgV) = some (Sum.inl (Value.int (jOfG (jV σ 0) c.toNatClampNeg x))) from by rw [h]; exact congrArg (fun z => some (Sum.inl (Value.int z))) hz.symm) rfl) (fun (hz : ¬ jb (jSleep (jV σ 0) c.toNatClampNeg) = 0) => And.intro (show (some (Sum.inl (Value.int (1))) : Option vgV) = some (Sum.inl (Value.int (jOfG (jV σ 0) c.toNatClampNeg x))) from by rw [h]; exact congrArg (fun z => some (Sum.inl (Value.int z))) ((jb_01 _).resolve_left hz).symm) rfl))) (fun (n4 : ¬ x = 4) => And.intro (fun (h : x = 5) => And.intro (show (some (Sum.inl (Value.int ((jV σ 0) 9 c.toNatClampNeg 6))) : Option vgV) = some (Sum.inl (Value.int (jOfG (jV σ 0) c.toNatClampNeg x))) from by rw [h]; rfl) rfl) (fun (n5 : ¬ x = 5) => And.intro (fun (h : x = 6) => And.intro (show (some (Sum.inl (Value.int ((jV σ 0) 9 c.toNatClampNeg 7))) : Option vgV) = some (Sum.inl (Value.int (jOfG (jV σ 0) c.toNatClampNeg x))) from by rw [h]; rfl) rfl) (fun (n6 : ¬ x = 6) => And.intro (fun (h : x = 7) => And.intro trivial (And.intro (fun (hz : jb (jGone (jV σ 0) c.toNatClampNeg) = 0) => And.intro (show (some (Sum.inl (Value.int (0))) : Option vgV) = some (Sum.inl (Value.int (jOfG (jV σ 0) c.toNatClampNeg x))) from by rw [h]; exact congrArg (fun z => some (Sum.inl (Value.int z))) hz.symm) rfl) (fun (hz : ¬ jb (jGone (jV σ 0) c.toNatClampNeg) = 0) => And.intro (show (some (Sum.inl (Value.int (1))) : Option vgV) = some (Sum.inl (Value.int (jOfG (jV σ 0) c.toNatClampNeg x))) from by rw [h]; exact congrArg (fun z => some (Sum.inl (Value.int z))) ((jb_01 _).resolve_left hz).symm) rfl))) (fun (n7 : ¬ x = 7) => And.intro (fun (h : x = 8) => And.intro ⟨hw, rfl⟩ (And.intro (show (some (Sum.inl (Value.int (jLt (jV σ 0) c.toNatClampNeg))) : Option vgV) = some (Sum.inl (Value.int (jOfG (jV σ 0) c.toNatClampNeg x))) from by rw [h]; rfl) rfl)) (fun (n8 : ¬ x = 8) => (jno9 hx n0 n1 n2 n3 n4 n5 n6 n7 n8).elim)))))))))
  next => exact h.elim
theorem c_X5_ofGroup : vg_MetF ww_tb ww_nw ww_shp ww_nm ww_cl ww_tyl yX5_ofGroup cX5_ofGroup 4 (some .int) 3 sp_X5_ofGroup := vg_met ww_closed (by decide +kernel) rfl s_X5_ofGroup w_X5_ofGroup g_X5_ofGroup
def jHeard (v : jN) (g w : Nat) (x : Int32) : Int32 :=
  if x = 0 then v 15 g w else
  if x = 1 then v 16 g w else
  if x = 2 then v 17 g w else
  if x = 3 then v 14 g w else
  if x = 4 then v 18 g w else 0
def sp_X5_heard : vgC := fun av σ => match av with
  | [.inr (0, 0, 0), .inl (.int c), .inl (.int d), .inl (.int x)] => (jWf (jV σ 0) ∧ vp_in c (jGc (jV σ 0)) ∧ vp_in d (jWc (jV σ 0)) ∧ vp_in x 5, some (.inl (.int (jHeard (jV σ 0) c.toNatClampNeg d.toNatClampNeg x))), σ)
  | _ => (False, none, σ)
def k_X5_heard : List (Nat × vgF) := [(0, vi_aload 0 1), (1, vi_iload 1 2), (2, vi_callV ww_shp 0 sp_X5_checkGroup 1 5), (5, vi_aload 0 6), (6, vi_iload 2 7), (7, vi_callV ww_shp 0 sp_X5_checkWarning 1 10), (10, vi_aload 0 11), (11, vi_get ww_shp 0 0 14), (14, vi_get ww_shp 1 7 17), (17, vi_iload 1 18), (18, vi_aald ww_shp 2 19), (19, vi_astore 4 21), (21, vi_iload 3 22), (22, vi_sw [(0, 56), (1, 64), (2, 72), (3, 80), (4, 88)] 96), (56, vi_aload 4 58), (58, vi_get ww_shp 5 9 61), (61, vi_iload 2 62), (62, vi_ald ww_shp 0 63), (63, vi_ret), (64, vi_aload 4 66), (66, vi_get ww_shp 5 10 69), (69, vi_iload 2 70), (70, vi_ald ww_shp 0 71), (71, vi_ret), (72, vi_aload 4 74), (74, vi_get ww_shp 5 11 77), (77, vi_iload 2 78), (78, vi_ald ww_shp 0 79), (79, vi_ret), (80, vi_aload 4 82), (82, vi_get ww_shp 5 8 85), (85, vi_iload 2 86), (86, vi_ald ww_shp 0 87), (87, vi_ret), (88, vi_aload 4 90), (90, vi_get ww_shp 5 12 93), (93, vi_iload 2 94), (94, vi_ald ww_shp 0 95), (95, vi_ret), (96, vi_no)]
set_option maxRecDepth 20000 in
theorem s_X5_heard : ∀ q ∈ k_X5_heard, vg_Snd ww_tb ww_nw ww_shp ww_nm ww_cl ww_tyl cX5_heard 5 RX5 (some .int) 1 q.1 q.2 := by
  refine vg_cons (vs_aload_n dX5_heard_0 rfl rfl) ?_
  refine vg_cons (vs_iload_n dX5_heard_1 rfl rfl) ?_
  refine vg_cons (vs_callV (T := TX5) c_X5_checkGroup dX5_heard_2 rfl ww_good q_257 q_51 q_258 q_259 q_260 (by decide +kernel) (by decide) rfl) ?_
  refine vg_cons (vs_aload_n dX5_heard_5 rfl rfl) ?_
  refine vg_cons (vs_iload_n dX5_heard_6 rfl rfl) ?_
  refine vg_cons (vs_callV (T := TX5) c_X5_checkWarning dX5_heard_7 rfl ww_good q_243 q_51 q_244 q_245 q_246 (by decide +kernel) (by decide) rfl) ?_
  refine vg_cons (vs_aload_n dX5_heard_10 rfl rfl) ?_
  refine vg_cons (vs_getfield (T := TX5) dX5_heard_11 rfl (by decide) ww_inX5 q_197 rfl) ?_
  refine vg_cons (vs_getfield (T := TX1) dX5_heard_14 rfl (by decide) ww_inX1 q_261 rfl) ?_
  refine vg_cons (vs_iload_n dX5_heard_17 rfl rfl) ?_
  refine vg_cons (vs_aaload dX5_heard_18 rfl rfl) ?_
  refine vg_cons (vs_astore dX5_heard_19 (by decide) rfl) ?_
  refine vg_cons (vs_iload_n dX5_heard_21 rfl rfl) ?_
  refine vg_cons (vs_tsw dX5_heard_22 (by decide) (by decide) (by intro i hi; match i, hi with | 0, _ => exact ⟨(0, 56), 34, rfl, rfl, by decide, by decide⟩ | 1, _ => exact ⟨(1, 64), 42, rfl, rfl, by decide, by decide⟩ | 2, _ => exact ⟨(2, 72), 50, rfl, rfl, by decide, by decide⟩ | 3, _ => exact ⟨(3, 80), 58, rfl, rfl, by decide, by decide⟩ | 4, _ => exact ⟨(4, 88), 66, rfl, rfl, by decide, by decide⟩)) ?_
  refine vg_cons (vs_aload dX5_heard_56 rfl) ?_
  refine vg_cons (vs_getfield (T := TX0) dX5_heard_58 rfl (by decide) ww_inX0 q_271 rfl) ?_
  refine vg_cons (vs_iload_n dX5_heard_61 rfl rfl) ?_
  refine vg_cons (vs_iaload dX5_heard_62 rfl rfl) ?_
  refine vg_cons (vs_ireturn dX5_heard_63 rfl) ?_
  refine vg_cons (vs_aload dX5_heard_64 rfl) ?_
  refine vg_cons (vs_getfield (T := TX0) dX5_heard_66 rfl (by decide) ww_inX0 q_272 rfl) ?_
  refine vg_cons (vs_iload_n dX5_heard_69 rfl rfl) ?_
  refine vg_cons (vs_iaload dX5_heard_70 rfl rfl) ?_
  refine vg_cons (vs_ireturn dX5_heard_71 rfl) ?_
  refine vg_cons (vs_aload dX5_heard_72 rfl) ?_
  refine vg_cons (vs_getfield (T := TX0) dX5_heard_74 rfl (by decide) ww_inX0 q_273 rfl) ?_
  refine vg_cons (vs_iload_n dX5_heard_77 rfl rfl) ?_
  refine vg_cons (vs_iaload dX5_heard_78 rfl rfl) ?_
  refine vg_cons (vs_ireturn dX5_heard_79 rfl) ?_
  refine vg_cons (vs_aload dX5_heard_80 rfl) ?_
  refine vg_cons (vs_getfield (T := TX0) dX5_heard_82 rfl (by decide) ww_inX0 q_274 rfl) ?_
  refine vg_cons (vs_iload_n dX5_heard_85 rfl rfl) ?_
  refine vg_cons (vs_iaload dX5_heard_86 rfl rfl) ?_
  refine vg_cons (vs_ireturn dX5_heard_87 rfl) ?_
  refine vg_cons (vs_aload dX5_heard_88 rfl) ?_
  refine vg_cons (vs_getfield (T := TX0) dX5_heard_90 rfl (by decide) ww_inX0 q_275 rfl) ?_
  refine vg_cons (vs_iload_n dX5_heard_93 rfl rfl) ?_
  refine vg_cons (vs_iaload dX5_heard_94 rfl rfl) ?_
  refine vg_cons (vs_ireturn dX5_heard_95 rfl) ?_
  refine vg_cons (vs_no) ?_
  exact fun _ h => absurd h List.not_mem_nil
theorem m_X5_heard : vg_Code k_X5_heard := fun q h => (s_X5_heard q h).1

theorem w_X5_heard : vg_Wd sp_X5_heard 5 := by
  intro av σ h
  unfold sp_X5_heard at h
  split at h
  · exact Nat.le_of_ble_eq_true rfl
  · exact h.elim
theorem g_X5_heard : vg_G k_X5_heard sp_X5_heard := by
  intro av σ h
  unfold sp_X5_heard at h ⊢
  split at h
  next c d x =>
    obtain ⟨hw, hc, hd, hx⟩ := h
    have hb := hw.1.2
    have hb2 := hw.2.2.1.2
    have h8 : vp_in c 8 := jwide hc hb (by decide)
    have h12 : vp_in d 12 := jwide hd hb2 (by decide)
    refine vg_run (cuts := []) m_X5_heard 40 ?_
    refine And.intro ⟨hw, hc⟩ (And.intro ⟨hw, hd⟩ (And.intro h8 ?_))
    exact And.intro (fun (h : x = 0) => And.intro h12 (And.intro (show (some (Sum.inl (Value.int ((jV σ 0) 15 c.toNatClampNeg d.toNatClampNeg))) : Option vgV) = some (Sum.inl (Value.int (jHeard (jV σ 0) c.toNatClampNeg d.toNatClampNeg x))) from by rw [h]; rfl) rfl)) (fun (n0 : ¬ x = 0) => And.intro (fun (h : x = 1) => And.intro h12 (And.intro (show (some (Sum.inl (Value.int ((jV σ 0) 16 c.toNatClampNeg d.toNatClampNeg))) : Option vgV) = some (Sum.inl (Value.int (jHeard (jV σ 0) c.toNatClampNeg d.toNatClampNeg x))) from by rw [h]; rfl) rfl)) (fun (n1 : ¬ x = 1) => And.intro (fun (h : x = 2) => And.intro h12 (And.intro (show (some (Sum.inl (Value.int ((jV σ 0) 17 c.toNatClampNeg d.toNatClampNeg))) : Option vgV) = some (Sum.inl (Value.int (jHeard (jV σ 0) c.toNatClampNeg d.toNatClampNeg x))) from by rw [h]; rfl) rfl)) (fun (n2 : ¬ x = 2) => And.intro (fun (h : x = 3) => And.intro h12 (And.intro (show (some (Sum.inl (Value.int ((jV σ 0) 14 c.toNatClampNeg d.toNatClampNeg))) : Option vgV) = some (Sum.inl (Value.int (jHeard (jV σ 0) c.toNatClampNeg d.toNatClampNeg x))) from by rw [h]; rfl) rfl)) (fun (n3 : ¬ x = 3) => And.intro (fun (h : x = 4) => And.intro h12 (And.intro (show (some (Sum.inl (Value.int ((jV σ 0) 18 c.toNatClampNeg d.toNatClampNeg))) : Option vgV) = some (Sum.inl (Value.int (jHeard (jV σ 0) c.toNatClampNeg d.toNatClampNeg x))) from by rw [h]; rfl) rfl)) (fun (n4 : ¬ x = 4) => (jno5 hx n0 n1 n2 n3 n4).elim)))))
  next => exact h.elim
theorem c_X5_heard : vg_MetF ww_tb ww_nw ww_shp ww_nm ww_cl ww_tyl yX5_heard cX5_heard 5 (some .int) 1 sp_X5_heard := vg_met ww_closed (by decide +kernel) rfl s_X5_heard w_X5_heard g_X5_heard
end
section
-- words of the tables, and what stands at each place of the methods' code (laid by program)
theorem q_276 : Cond.fieldLink RX5 16 (TX5 1).1 (TX5 1).2.1 (TX5 1).2.2.1 ∈ ww_tb := by decide +kernel
theorem q_277 : Cond.code yX1_becomeLike cX1_becomeLike 3 none ∈ ww_tb := by decide +kernel
theorem q_278 : Cond.methodLink RX5 283 yX1_becomeLike ∈ ww_tb := by decide +kernel
theorem q_279 : Cond.instanceMethod yX1_becomeLike ∈ ww_tb := by decide +kernel
theorem q_280 : Cond.selects RX1 yX1_becomeLike yX1_becomeLike ∈ ww_tb := by decide +kernel
theorem q_281 : Cond.code yX1_playMinutes cX1_playMinutes 4 (some .int) ∈ ww_tb := by decide +kernel
theorem q_282 : Cond.methodLink RX5 183 yX1_playMinutes ∈ ww_tb := by decide +kernel
theorem q_283 : Cond.instanceMethod yX1_playMinutes ∈ ww_tb := by decide +kernel
theorem q_284 : Cond.selects RX1 yX1_playMinutes yX1_playMinutes ∈ ww_tb := by decide +kernel
theorem q_285 : Cond.code yX1_peopleBelieving cX1_peopleBelieving 3 (some .int) ∈ ww_tb := by decide +kernel
theorem q_286 : Cond.methodLink RX5 287 yX1_peopleBelieving ∈ ww_tb := by decide +kernel
theorem q_287 : Cond.instanceMethod yX1_peopleBelieving ∈ ww_tb := by decide +kernel
theorem q_288 : Cond.selects RX1 yX1_peopleBelieving yX1_peopleBelieving ∈ ww_tb := by decide +kernel
theorem q_289 : Cond.fieldLink RX5 81 (TX1 10).1 (TX1 10).2.1 (TX1 10).2.2.1 ∈ ww_tb := by decide +kernel
theorem q_290 : Cond.code yX2_add cX2_add 3 (some .int) ∈ ww_tb := by decide +kernel
theorem q_291 : Cond.methodLink RX5 92 yX2_add ∈ ww_tb := by decide +kernel
theorem q_292 : Cond.instanceMethod yX2_add ∈ ww_tb := by decide +kernel
theorem q_293 : Cond.selects RX2 yX2_add yX2_add ∈ ww_tb := by decide +kernel
theorem dX5_sirenWould_0 : decode cX5_sirenWould 0 = .ok (.iload_n 1, 1) := by decide +kernel
theorem dX5_sirenWould_1 : decode cX5_sirenWould 1 = .ok (.invokestatic 19, 3) := by decide +kernel
theorem dX5_sirenWould_4 : decode cX5_sirenWould 4 = .ok (.iload_n 2, 1) := by decide +kernel
theorem dX5_sirenWould_5 : decode cX5_sirenWould 5 = .ok (.iconst 0, 1) := by decide +kernel
theorem dX5_sirenWould_6 : decode cX5_sirenWould 6 = .ok (.iconst 3, 1) := by decide +kernel
theorem dX5_sirenWould_7 : decode cX5_sirenWould 7 = .ok (.invokestatic 23, 3) := by decide +kernel
theorem dX5_sirenWould_10 : decode cX5_sirenWould 10 = .ok (.iload_n 3, 1) := by decide +kernel
theorem dX5_sirenWould_11 : decode cX5_sirenWould 11 = .ok (.iconst 1, 1) := by decide +kernel
theorem dX5_sirenWould_12 : decode cX5_sirenWould 12 = .ok (.bipush 60, 2) := by decide +kernel
theorem dX5_sirenWould_14 : decode cX5_sirenWould 14 = .ok (.invokestatic 23, 3) := by decide +kernel
theorem dX5_sirenWould_17 : decode cX5_sirenWould 17 = .ok (.aload_n 0, 1) := by decide +kernel
theorem dX5_sirenWould_18 : decode cX5_sirenWould 18 = .ok (.getfield 16, 3) := by decide +kernel
theorem dX5_sirenWould_21 : decode cX5_sirenWould 21 = .ok (.aload_n 0, 1) := by decide +kernel
theorem dX5_sirenWould_22 : decode cX5_sirenWould 22 = .ok (.getfield 10, 3) := by decide +kernel
theorem dX5_sirenWould_25 : decode cX5_sirenWould 25 = .ok (.invokevirtual 283, 3) := by decide +kernel
theorem dX5_sirenWould_28 : decode cX5_sirenWould 28 = .ok (.aload_n 0, 1) := by decide +kernel
theorem dX5_sirenWould_29 : decode cX5_sirenWould 29 = .ok (.getfield 16, 3) := by decide +kernel
theorem dX5_sirenWould_32 : decode cX5_sirenWould 32 = .ok (.iload_n 3, 1) := by decide +kernel
theorem dX5_sirenWould_33 : decode cX5_sirenWould 33 = .ok (.invokevirtual 183, 3) := by decide +kernel
theorem dX5_sirenWould_36 : decode cX5_sirenWould 36 = .ok (.pop, 1) := by decide +kernel
theorem dX5_sirenWould_37 : decode cX5_sirenWould 37 = .ok (.aload_n 0, 1) := by decide +kernel
theorem dX5_sirenWould_38 : decode cX5_sirenWould 38 = .ok (.getfield 16, 3) := by decide +kernel
theorem dX5_sirenWould_41 : decode cX5_sirenWould 41 = .ok (.invokevirtual 287, 3) := by decide +kernel
theorem dX5_sirenWould_44 : decode cX5_sirenWould 44 = .ok (.istore 4, 2) := by decide +kernel
theorem dX5_sirenWould_46 : decode cX5_sirenWould 46 = .ok (.aload_n 0, 1) := by decide +kernel
theorem dX5_sirenWould_47 : decode cX5_sirenWould 47 = .ok (.getfield 16, 3) := by decide +kernel
theorem dX5_sirenWould_50 : decode cX5_sirenWould 50 = .ok (.aload_n 0, 1) := by decide +kernel
theorem dX5_sirenWould_51 : decode cX5_sirenWould 51 = .ok (.getfield 10, 3) := by decide +kernel
theorem dX5_sirenWould_54 : decode cX5_sirenWould 54 = .ok (.invokevirtual 283, 3) := by decide +kernel
theorem dX5_sirenWould_57 : decode cX5_sirenWould 57 = .ok (.aload_n 0, 1) := by decide +kernel
theorem dX5_sirenWould_58 : decode cX5_sirenWould 58 = .ok (.getfield 16, 3) := by decide +kernel
theorem dX5_sirenWould_61 : decode cX5_sirenWould 61 = .ok (.getfield 81, 3) := by decide +kernel
theorem dX5_sirenWould_64 : decode cX5_sirenWould 64 = .ok (.iload_n 1, 1) := by decide +kernel
theorem dX5_sirenWould_65 : decode cX5_sirenWould 65 = .ok (.iload_n 2, 1) := by decide +kernel
theorem dX5_sirenWould_66 : decode cX5_sirenWould 66 = .ok (.invokevirtual 92, 3) := by decide +kernel
theorem dX5_sirenWould_69 : decode cX5_sirenWould 69 = .ok (.pop, 1) := by decide +kernel
theorem dX5_sirenWould_70 : decode cX5_sirenWould 70 = .ok (.aload_n 0, 1) := by decide +kernel
theorem dX5_sirenWould_71 : decode cX5_sirenWould 71 = .ok (.getfield 16, 3) := by decide +kernel
theorem dX5_sirenWould_74 : decode cX5_sirenWould 74 = .ok (.iload_n 3, 1) := by decide +kernel
theorem dX5_sirenWould_75 : decode cX5_sirenWould 75 = .ok (.invokevirtual 183, 3) := by decide +kernel
theorem dX5_sirenWould_78 : decode cX5_sirenWould 78 = .ok (.pop, 1) := by decide +kernel
theorem dX5_sirenWould_79 : decode cX5_sirenWould 79 = .ok (.aload_n 0, 1) := by decide +kernel
theorem dX5_sirenWould_80 : decode cX5_sirenWould 80 = .ok (.getfield 16, 3) := by decide +kernel
theorem dX5_sirenWould_83 : decode cX5_sirenWould 83 = .ok (.invokevirtual 287, 3) := by decide +kernel
theorem dX5_sirenWould_86 : decode cX5_sirenWould 86 = .ok (.iload 4, 2) := by decide +kernel
theorem dX5_sirenWould_88 : decode cX5_sirenWould 88 = .ok (.isub, 1) := by decide +kernel
theorem dX5_sirenWould_89 : decode cX5_sirenWould 89 = .ok (.ireturn, 1) := by decide +kernel
/-! what would be -/
theorem jRL_t {a c d e f k i s : Nat} (h : (k = 1 ∧ i = 0 ∧ s < 7) ∨ (k = 5 ∧ i < 2 ∧ s = 3)) : jRL a c d e f k i s = true := by
  rcases h with ⟨rfl, rfl, h⟩ | ⟨rfl, h, rfl⟩
  · simp [jRL, jRA, h]
  · rcases (show i = 0 ∨ i = 1 by omega) with rfl | rfl
    · simp [jRL, jRS]
    · simp [jRL, jRS]
theorem jLike_c {w v : jN} {k i s : Nat} (h : (k = 1 ∧ i = 0 ∧ s < 7) ∨ (k = 5 ∧ i < 2 ∧ s = 3)) : jLike w v k i s = w k i s := by
  unfold jLike
  exact jCp_t (jRL_t h)
theorem jLike_wf {w v : jN} (h : jWf w) : jWf (jLike w v) := by
  unfold jWf jGc jSc jWc jNc
  rw [jLike_c (k := 1) (i := 0) (s := 4) (by omega), jLike_c (k := 1) (i := 0) (s := 5) (by omega), jLike_c (k := 1) (i := 0) (s := 6) (by omega), jLike_c (k := 5) (i := 0) (s := 3) (by omega), jLike_c (k := 5) (i := 1) (s := 3) (by omega)]
  exact h
theorem jLike_or {w v : jN} (k i s : Nat) : jLike w v k i s = w k i s ∨ jLike w v k i s = v k i s := by
  unfold jLike jCp
  split
  · exact Or.inl rfl
  · exact Or.inr rfl
theorem jLike_pl {w v : jN} (h : jPl w) (h' : jPl v) : jPl (jLike w v) := by
  refine ⟨fun g hg => ?_, fun s hs => ?_⟩
  · rcases jLike_or (w := w) (v := v) 9 g 0 with z | z
    · rw [z]; exact h.1 g hg
    · rw [z]; exact h'.1 g hg
  · rcases jLike_or (w := w) (v := v) 10 s 0 with z | z
    · rw [z]; exact h.2 s hs
    · rw [z]; exact h'.2 s hs
theorem jAddS_wf {v : jN} {c r : Int32} (h : jWf v) (h4 : jNc v 0 ≤ 4) : jWf (jAddS v 0 c r) := by
  obtain ⟨h1, h2, h3, h5, h6⟩ := h
  have e : jAddS v 0 c r 5 0 3 = nI (jNc v 0 + 1) := by
    unfold jAddS
    rw [jUp_at]
    exact jinc h5.1
  refine ⟨h1, h2, h3, ⟨?_, ?_⟩, h6⟩
  · rw [e]
    refine congrArg nI ?_
    show jNc v 0 + 1 = (jAddS v 0 c r 5 0 3).toNatClampNeg
    rw [jcl e (by omega)]
  · show (jAddS v 0 c r 5 0 3).toNatClampNeg ≤ 5
    rw [jcl e (by omega)]
    omega
theorem jAddS_pl {v : jN} {c r : Int32} (h : jPl v) : jPl (jAddS v 0 c r) := by
  unfold jAddS
  exact (((h.up (by omega)).up (by omega)).up (by omega)).up (by omega)
theorem jPlay_wf {v : jN} (hw : jWf v) (h : jPl v) (n : Nat) : jWf (jPlay v n).1 ∧ jPl (jPlay v n).1 := by
  rw [jPlay_e]
  have z := jPlay_inv hw h n
  exact ⟨z.1.wf hw, z.2⟩
/-- how many people believe something -/
def jBelv (v : jN) : Int32 := jSum (fun g => if jLt v g = -1 then 0 else v 9 g 1) (jGc v)
def jW1 (w v : jN) (n : Nat) : jN := (jPlay (jLike w v) n).1
def jW2 (w v : jN) (c r : Int32) (n : Nat) : jN := (jPlay (jAddS (jLike w (jW1 w v n)) 0 c r) n).1
theorem jPut_jV0 {σ : vgS} {v : jN} {b b' : Nat} (h : ¬ b' = b) : jV (jPut σ b v) b' = jV σ b' := jV_put_ne h
def sp_X5_sirenWould : vgC := fun av σ => match av with
  | [.inr (0, 0, 0), .inl (.int c), .inl (.int r), .inl (.int m)] => (vp_in c 16 ∧ (¬ r < 0 ∧ r ≤ 3) ∧ (¬ m < 1 ∧ m ≤ 60) ∧ vp_in m 1000 ∧ jWf (jV σ 0) ∧ jBo (jV σ 0) ∧ jPl (jV σ 0) ∧ jPl (jV σ 1) ∧ jNc (jV σ 0) 0 ≤ 4, some (.inl (.int (jBelv (jW2 (jV σ 0) (jV σ 1) c r m.toNatClampNeg) - jBelv (jW1 (jV σ 0) (jV σ 1) m.toNatClampNeg)))), jPut σ 1 (jW2 (jV σ 0) (jV σ 1) c r m.toNatClampNeg))
  | _ => (False, none, σ)
def k_X5_sirenWould : List (Nat × vgF) := [(0, vi_iload 1 1), (1, vi_callS sp_X5_checkCell 1 4), (4, vi_iload 2 5), (5, vi_icst (0) 6), (6, vi_icst (3) 7), (7, vi_callS sp_X5_checkRange 3 10), (10, vi_iload 3 11), (11, vi_icst (1) 12), (12, vi_icst (60) 14), (14, vi_callS sp_X5_checkRange 3 17), (17, vi_aload 0 18), (18, vi_get ww_shp 0 1 21), (21, vi_aload 0 22), (22, vi_get ww_shp 0 0 25), (25, vi_callV ww_shp 1 sp_X1_becomeLike 1 28), (28, vi_aload 0 29), (29, vi_get ww_shp 0 1 32), (32, vi_iload 3 33), (33, vi_callV ww_shp 1 sp_X1_playMinutes 1 36), (36, vi_pop 37), (37, vi_aload 0 38), (38, vi_get ww_shp 0 1 41), (41, vi_callV ww_shp 1 sp_X1_peopleBelieving 0 44), (44, vi_istore 4 46), (46, vi_aload 0 47), (47, vi_get ww_shp 0 1 50), (50, vi_aload 0 51), (51, vi_get ww_shp 0 0 54), (54, vi_callV ww_shp 1 sp_X1_becomeLike 1 57), (57, vi_aload 0 58), (58, vi_get ww_shp 0 1 61), (61, vi_get ww_shp 1 10 64), (64, vi_iload 1 65), (65, vi_iload 2 66), (66, vi_callV ww_shp 2 sp_X2_add 2 69), (69, vi_pop 70), (70, vi_aload 0 71), (71, vi_get ww_shp 0 1 74), (74, vi_iload 3 75), (75, vi_callV ww_shp 1 sp_X1_playMinutes 1 78), (78, vi_pop 79), (79, vi_aload 0 80), (80, vi_get ww_shp 0 1 83), (83, vi_callV ww_shp 1 sp_X1_peopleBelieving 0 86), (86, vi_iload 4 88), (88, vi_bin (fun x y => x - y) 89), (89, vi_ret)]
set_option maxRecDepth 20000 in
theorem s_X5_sirenWould : ∀ q ∈ k_X5_sirenWould, vg_Snd ww_tb ww_nw ww_shp ww_nm ww_cl ww_tyl cX5_sirenWould 5 RX5 (some .int) 6 q.1 q.2 := by
  refine vg_cons (vs_iload_n dX5_sirenWould_0 rfl rfl) ?_
  refine vg_cons (vs_callS c_X5_checkCell dX5_sirenWould_1 ww_good q_236 q_51 q_238 q_237 (by decide +kernel) (by decide) rfl) ?_
  refine vg_cons (vs_iload_n dX5_sirenWould_4 rfl rfl) ?_
  refine vg_cons (vs_iconst dX5_sirenWould_5 rfl rfl) ?_
  refine vg_cons (vs_iconst dX5_sirenWould_6 rfl rfl) ?_
  refine vg_cons (vs_callS c_X5_checkRange dX5_sirenWould_7 ww_good q_201 q_51 q_203 q_202 (by decide +kernel) (by decide) rfl) ?_
  refine vg_cons (vs_iload_n dX5_sirenWould_10 rfl rfl) ?_
  refine vg_cons (vs_iconst dX5_sirenWould_11 rfl rfl) ?_
  refine vg_cons (vs_bipush dX5_sirenWould_12 (by decide) rfl) ?_
  refine vg_cons (vs_callS c_X5_checkRange dX5_sirenWould_14 ww_good q_201 q_51 q_203 q_202 (by decide +kernel) (by decide) rfl) ?_
  refine vg_cons (vs_aload_n dX5_sirenWould_17 rfl rfl) ?_
  refine vg_cons (vs_getfield (T := TX5) dX5_sirenWould_18 rfl (by decide) ww_inX5 q_276 rfl) ?_
  refine vg_cons (vs_aload_n dX5_sirenWould_21 rfl rfl) ?_
  refine vg_cons (vs_getfield (T := TX5) dX5_sirenWould_22 rfl (by decide) ww_inX5 q_197 rfl) ?_
  refine vg_cons (vs_callV (T := TX1) c_X1_becomeLike dX5_sirenWould_25 rfl ww_good q_277 q_12 q_278 q_279 q_280 (by decide +kernel) (by decide) rfl) ?_
  refine vg_cons (vs_aload_n dX5_sirenWould_28 rfl rfl) ?_
  refine vg_cons (vs_getfield (T := TX5) dX5_sirenWould_29 rfl (by decide) ww_inX5 q_276 rfl) ?_
  refine vg_cons (vs_iload_n dX5_sirenWould_32 rfl rfl) ?_
  refine vg_cons (vs_callV (T := TX1) c_X1_playMinutes dX5_sirenWould_33 rfl ww_good q_281 q_12 q_282 q_283 q_284 (by decide +kernel) (by decide) rfl) ?_
  refine vg_cons (vs_pop dX5_sirenWould_36 rfl) ?_
  refine vg_cons (vs_aload_n dX5_sirenWould_37 rfl rfl) ?_
  refine vg_cons (vs_getfield (T := TX5) dX5_sirenWould_38 rfl (by decide) ww_inX5 q_276 rfl) ?_
  refine vg_cons (vs_callV (T := TX1) c_X1_peopleBelieving dX5_sirenWould_41 rfl ww_good q_285 q_12 q_286 q_287 q_288 (by decide +kernel) (by decide) rfl) ?_
  refine vg_cons (vs_istore dX5_sirenWould_44 (by decide) rfl) ?_
  refine vg_cons (vs_aload_n dX5_sirenWould_46 rfl rfl) ?_
  refine vg_cons (vs_getfield (T := TX5) dX5_sirenWould_47 rfl (by decide) ww_inX5 q_276 rfl) ?_
  refine vg_cons (vs_aload_n dX5_sirenWould_50 rfl rfl) ?_
  refine vg_cons (vs_getfield (T := TX5) dX5_sirenWould_51 rfl (by decide) ww_inX5 q_197 rfl) ?_
  refine vg_cons (vs_callV (T := TX1) c_X1_becomeLike dX5_sirenWould_54 rfl ww_good q_277 q_12 q_278 q_279 q_280 (by decide +kernel) (by decide) rfl) ?_
  refine vg_cons (vs_aload_n dX5_sirenWould_57 rfl rfl) ?_
  refine vg_cons (vs_getfield (T := TX5) dX5_sirenWould_58 rfl (by decide) ww_inX5 q_276 rfl) ?_
  refine vg_cons (vs_getfield (T := TX1) dX5_sirenWould_61 rfl (by decide) ww_inX1 q_289 rfl) ?_
  refine vg_cons (vs_iload_n dX5_sirenWould_64 rfl rfl) ?_
  refine vg_cons (vs_iload_n dX5_sirenWould_65 rfl rfl) ?_
  refine vg_cons (vs_callV (T := TX2) c_X2_add dX5_sirenWould_66 rfl ww_good q_290 q_86 q_291 q_292 q_293 (by decide +kernel) (by decide) rfl) ?_
  refine vg_cons (vs_pop dX5_sirenWould_69 rfl) ?_
  refine vg_cons (vs_aload_n dX5_sirenWould_70 rfl rfl) ?_
  refine vg_cons (vs_getfield (T := TX5) dX5_sirenWould_71 rfl (by decide) ww_inX5 q_276 rfl) ?_
  refine vg_cons (vs_iload_n dX5_sirenWould_74 rfl rfl) ?_
  refine vg_cons (vs_callV (T := TX1) c_X1_playMinutes dX5_sirenWould_75 rfl ww_good q_281 q_12 q_282 q_283 q_284 (by decide +kernel) (by decide) rfl) ?_
  refine vg_cons (vs_pop dX5_sirenWould_78 rfl) ?_
  refine vg_cons (vs_aload_n dX5_sirenWould_79 rfl rfl) ?_
  refine vg_cons (vs_getfield (T := TX5) dX5_sirenWould_80 rfl (by decide) ww_inX5 q_276 rfl) ?_
  refine vg_cons (vs_callV (T := TX1) c_X1_peopleBelieving dX5_sirenWould_83 rfl ww_good q_285 q_12 q_286 q_287 q_288 (by decide +kernel) (by decide) rfl) ?_
  refine vg_cons (vs_iload dX5_sirenWould_86 rfl) ?_
  refine vg_cons (vs_isub dX5_sirenWould_88 rfl) ?_
  refine vg_cons (vs_ireturn dX5_sirenWould_89 rfl) ?_
  exact fun _ h => absurd h List.not_mem_nil
theorem m_X5_sirenWould : vg_Code k_X5_sirenWould := fun q h => (s_X5_sirenWould q h).1

theorem w_X5_sirenWould : vg_Wd sp_X5_sirenWould 5 := by
  intro av σ h
  unfold sp_X5_sirenWould at h
  split at h
  · exact Nat.le_of_ble_eq_true rfl
  · exact h.elim
theorem g_X5_sirenWould : vg_G k_X5_sirenWould sp_X5_sirenWould := by
  intro av σ h
  unfold sp_X5_sirenWould at h ⊢
  split at h
  next c r m =>
    obtain ⟨hc, hr, hm, hm2, hw, hb, hp, hp1, hn⟩ := h
    have h01 : ¬ 0 = 1 := by decide
    refine vg_run (cuts := [(28, [0, 1, 2, 3]), (37, [0, 1, 2, 3]), (46, [0, 1, 2, 3, 4]), (57, [0, 1, 2, 3, 4]), (70, [0, 1, 2, 3, 4]), (79, [0, 1, 2, 3, 4])]) m_X5_sirenWould 40 ?_
    refine And.intro hc (And.intro hr (And.intro hm (And.intro ⟨h01, hw, hb⟩ ?_)))
    refine vg_run (cuts := [(28, [0, 1, 2, 3]), (37, [0, 1, 2, 3]), (46, [0, 1, 2, 3, 4]), (57, [0, 1, 2, 3, 4]), (70, [0, 1, 2, 3, 4]), (79, [0, 1, 2, 3, 4])]) m_X5_sirenWould 40 ?_
    have w1 := jLike_wf (v := jV σ 1) hw
    have p1 := jLike_pl hp hp1
    refine And.intro (by rw [jV_put]; exact ⟨w1, p1, hm2⟩) (And.intro rfl ?_)
    dsimp only
    rw [jPut_put, jV_put]
    have e1 : (jPlay (jLike (jV σ 0) (jV σ 1)) m.toNatClampNeg).1 = jW1 (jV σ 0) (jV σ 1) m.toNatClampNeg := rfl
    have z1 := jPlay_wf w1 p1 m.toNatClampNeg
    rw [e1] at z1
    rw [e1]
    unfold jW2
    generalize jW1 (jV σ 0) (jV σ 1) m.toNatClampNeg = u1 at z1 ⊢
    refine vg_run (cuts := [(28, [0, 1, 2, 3]), (37, [0, 1, 2, 3]), (46, [0, 1, 2, 3, 4]), (57, [0, 1, 2, 3, 4]), (70, [0, 1, 2, 3, 4]), (79, [0, 1, 2, 3, 4])]) m_X5_sirenWould 40 ?_
    refine And.intro (by rw [jV_put]; exact z1.1) ?_
    dsimp only
    rw [jV_put]
    refine vg_run (cuts := [(28, [0, 1, 2, 3]), (37, [0, 1, 2, 3]), (46, [0, 1, 2, 3, 4]), (57, [0, 1, 2, 3, 4]), (70, [0, 1, 2, 3, 4]), (79, [0, 1, 2, 3, 4])]) m_X5_sirenWould 40 ?_
    refine And.intro ⟨h01, by rw [jV_put_ne h01]; exact hw, by rw [jV_put_ne h01]; exact hb⟩ ?_
    dsimp only
    rw [jPut_put, jV_put_ne h01, jV_put]
    have w2 := jLike_wf (v := u1) hw
    have p2 := jLike_pl hp z1.2
    have n2 : jNc (jLike (jV σ 0) u1) 0 ≤ 4 := by
      unfold jNc
      rw [jLike_c (by omega)]
      exact hn
    generalize jLike (jV σ 0) u1 = t2 at w2 p2 n2 ⊢
    refine vg_run (cuts := [(28, [0, 1, 2, 3]), (37, [0, 1, 2, 3]), (46, [0, 1, 2, 3, 4]), (57, [0, 1, 2, 3, 4]), (70, [0, 1, 2, 3, 4]), (79, [0, 1, 2, 3, 4])]) m_X5_sirenWould 40 ?_
    refine And.intro (by rw [jV_put]; exact ⟨w2.2.2.2.1.1, n2⟩) (And.intro rfl ?_)
    dsimp only
    rw [jPut_put, jV_put]
    have w3 := jAddS_wf (c := c) (r := r) w2 n2
    have p3 := jAddS_pl (c := c) (r := r) p2
    generalize jAddS t2 0 c r = t3 at w3 p3 ⊢
    have z3 := jPlay_wf w3 p3 m.toNatClampNeg
    refine vg_run (cuts := [(28, [0, 1, 2, 3]), (37, [0, 1, 2, 3]), (46, [0, 1, 2, 3, 4]), (57, [0, 1, 2, 3, 4]), (70, [0, 1, 2, 3, 4]), (79, [0, 1, 2, 3, 4])]) m_X5_sirenWould 40 ?_
    refine And.intro (by rw [jV_put]; exact ⟨w3, p3, hm2⟩) (And.intro rfl ?_)
    dsimp only
    rw [jPut_put, jV_put]
    generalize (jPlay t3 m.toNatClampNeg).1 = u3 at z3 ⊢
    refine vg_run (cuts := [(28, [0, 1, 2, 3]), (37, [0, 1, 2, 3]), (46, [0, 1, 2, 3, 4]), (57, [0, 1, 2, 3, 4]), (70, [0, 1, 2, 3, 4]), (79, [0, 1, 2, 3, 4])]) m_X5_sirenWould 40 ?_
    refine And.intro (by rw [jV_put]; exact z3.1) ?_
    refine And.intro ?_ rfl
    dsimp only
    rw [jV_put]
    rfl
  next => exact h.elim
theorem c_X5_sirenWould : vg_MetF ww_tb ww_nw ww_shp ww_nm ww_cl ww_tyl yX5_sirenWould cX5_sirenWould 5 (some .int) 6 sp_X5_sirenWould := vg_met ww_closed (by decide +kernel) rfl s_X5_sirenWould w_X5_sirenWould g_X5_sirenWould
end
section
-- words of the tables, and what stands at each place of the methods' code (laid by program)
theorem q_294 : Cond.methodLink RX5 280 yX0_isSafe ∈ ww_tb := by decide +kernel
theorem dX5_safeIn_0 : decode cX5_safeIn 0 = .ok (.aload_n 0, 1) := by decide +kernel
theorem dX5_safeIn_1 : decode cX5_safeIn 1 = .ok (.iload_n 1, 1) := by decide +kernel
theorem dX5_safeIn_2 : decode cX5_safeIn 2 = .ok (.invokevirtual 60, 3) := by decide +kernel
theorem dX5_safeIn_5 : decode cX5_safeIn 5 = .ok (.iload_n 2, 1) := by decide +kernel
theorem dX5_safeIn_6 : decode cX5_safeIn 6 = .ok (.iconst 1, 1) := by decide +kernel
theorem dX5_safeIn_7 : decode cX5_safeIn 7 = .ok (.bipush 60, 2) := by decide +kernel
theorem dX5_safeIn_9 : decode cX5_safeIn 9 = .ok (.invokestatic 23, 3) := by decide +kernel
theorem dX5_safeIn_12 : decode cX5_safeIn 12 = .ok (.aload_n 0, 1) := by decide +kernel
theorem dX5_safeIn_13 : decode cX5_safeIn 13 = .ok (.getfield 10, 3) := by decide +kernel
theorem dX5_safeIn_16 : decode cX5_safeIn 16 = .ok (.getfield 38, 3) := by decide +kernel
theorem dX5_safeIn_19 : decode cX5_safeIn 19 = .ok (.iload_n 1, 1) := by decide +kernel
theorem dX5_safeIn_20 : decode cX5_safeIn 20 = .ok (.aaload, 1) := by decide +kernel
theorem dX5_safeIn_21 : decode cX5_safeIn 21 = .ok (.invokevirtual 280, 3) := by decide +kernel
theorem dX5_safeIn_24 : decode cX5_safeIn 24 = .ok (.ifCond .eq 5, 3) := by decide +kernel
theorem dX5_safeIn_27 : decode cX5_safeIn 27 = .ok (.iconst 0, 1) := by decide +kernel
theorem dX5_safeIn_28 : decode cX5_safeIn 28 = .ok (.ireturn, 1) := by decide +kernel
theorem dX5_safeIn_29 : decode cX5_safeIn 29 = .ok (.aload_n 0, 1) := by decide +kernel
theorem dX5_safeIn_30 : decode cX5_safeIn 30 = .ok (.getfield 16, 3) := by decide +kernel
theorem dX5_safeIn_33 : decode cX5_safeIn 33 = .ok (.aload_n 0, 1) := by decide +kernel
theorem dX5_safeIn_34 : decode cX5_safeIn 34 = .ok (.getfield 10, 3) := by decide +kernel
theorem dX5_safeIn_37 : decode cX5_safeIn 37 = .ok (.invokevirtual 283, 3) := by decide +kernel
theorem dX5_safeIn_40 : decode cX5_safeIn 40 = .ok (.iconst 1, 1) := by decide +kernel
theorem dX5_safeIn_41 : decode cX5_safeIn 41 = .ok (.istore_n 3, 1) := by decide +kernel
theorem dX5_safeIn_42 : decode cX5_safeIn 42 = .ok (.iload_n 3, 1) := by decide +kernel
theorem dX5_safeIn_43 : decode cX5_safeIn 43 = .ok (.iload_n 2, 1) := by decide +kernel
theorem dX5_safeIn_44 : decode cX5_safeIn 44 = .ok (.if_icmp .gt 35, 3) := by decide +kernel
theorem dX5_safeIn_47 : decode cX5_safeIn 47 = .ok (.aload_n 0, 1) := by decide +kernel
theorem dX5_safeIn_48 : decode cX5_safeIn 48 = .ok (.getfield 16, 3) := by decide +kernel
theorem dX5_safeIn_51 : decode cX5_safeIn 51 = .ok (.iconst 1, 1) := by decide +kernel
theorem dX5_safeIn_52 : decode cX5_safeIn 52 = .ok (.invokevirtual 183, 3) := by decide +kernel
theorem dX5_safeIn_55 : decode cX5_safeIn 55 = .ok (.pop, 1) := by decide +kernel
theorem dX5_safeIn_56 : decode cX5_safeIn 56 = .ok (.aload_n 0, 1) := by decide +kernel
theorem dX5_safeIn_57 : decode cX5_safeIn 57 = .ok (.getfield 16, 3) := by decide +kernel
theorem dX5_safeIn_60 : decode cX5_safeIn 60 = .ok (.getfield 38, 3) := by decide +kernel
theorem dX5_safeIn_63 : decode cX5_safeIn 63 = .ok (.iload_n 1, 1) := by decide +kernel
theorem dX5_safeIn_64 : decode cX5_safeIn 64 = .ok (.aaload, 1) := by decide +kernel
theorem dX5_safeIn_65 : decode cX5_safeIn 65 = .ok (.invokevirtual 280, 3) := by decide +kernel
theorem dX5_safeIn_68 : decode cX5_safeIn 68 = .ok (.ifCond .eq 5, 3) := by decide +kernel
theorem dX5_safeIn_71 : decode cX5_safeIn 71 = .ok (.iload_n 3, 1) := by decide +kernel
theorem dX5_safeIn_72 : decode cX5_safeIn 72 = .ok (.ireturn, 1) := by decide +kernel
theorem dX5_safeIn_73 : decode cX5_safeIn 73 = .ok (.iinc 3 1, 3) := by decide +kernel
theorem dX5_safeIn_76 : decode cX5_safeIn 76 = .ok (.goto (-34), 3) := by decide +kernel
theorem dX5_safeIn_79 : decode cX5_safeIn 79 = .ok (.iconst (-1), 1) := by decide +kernel
theorem dX5_safeIn_80 : decode cX5_safeIn 80 = .ok (.ireturn, 1) := by decide +kernel
/-! in how many minutes a group would be safe -/
/-- what n minutes make of a land -/
def jMs (t : jN) : Nat → jN
  | 0 => t
  | n + 1 => jMin (jMs t n)
/-- after n minutes, m more are to be looked at -/
def jSft (t : jN) (g : Nat) : Nat → Nat → Int32 × jN
  | _, 0 => (-1, t)
  | n, m + 1 => if jSafe (jMin t) g then (nI (n + 1), jMin t) else jSft (jMin t) g (n + 1) m
def jSafeIn (w v : jN) (g m : Nat) : Int32 × jN := if jSafe w g then (0, v) else jSft (jLike w v) g 0 m
theorem jPlay_1 (t : jN) : (jPlay t (1 : Int32).toNatClampNeg).1 = jMin t := by
  rw [show (1 : Int32).toNatClampNeg = 1 from by decide, jPlay_e, jPlay_s]
  rfl
theorem jSft_t {t : jN} {g n m : Nat} (h : jSafe (jMin t) g) : jSft t g n (m + 1) = (nI (n + 1), jMin t) := if_pos h
theorem jSft_f {t : jN} {g n m : Nat} (h : ¬ jSafe (jMin t) g) : jSft t g n (m + 1) = jSft (jMin t) g (n + 1) m := if_neg h
def sp_X5_safeIn : vgC := fun av σ => match av with
  | [.inr (0, 0, 0), .inl (.int c), .inl (.int m)] => (vp_in c (jGc (jV σ 0)) ∧ (¬ m < 1 ∧ m ≤ 60) ∧ vp_in m 100 ∧ jWf (jV σ 0) ∧ jBo (jV σ 0) ∧ jPl (jV σ 0) ∧ jPl (jV σ 1), some (.inl (.int ((jSafeIn (jV σ 0) (jV σ 1) c.toNatClampNeg m.toNatClampNeg).1))), jPut σ 1 (jSafeIn (jV σ 0) (jV σ 1) c.toNatClampNeg m.toNatClampNeg).2)
  | _ => (False, none, σ)
def k_X5_safeIn : List (Nat × vgF) := [(0, vi_aload 0 1), (1, vi_iload 1 2), (2, vi_callV ww_shp 0 sp_X5_checkGroup 1 5), (5, vi_iload 2 6), (6, vi_icst (1) 7), (7, vi_icst (60) 9), (9, vi_callS sp_X5_checkRange 3 12), (12, vi_aload 0 13), (13, vi_get ww_shp 0 0 16), (16, vi_get ww_shp 1 7 19), (19, vi_iload 1 20), (20, vi_aald ww_shp 2 21), (21, vi_callV ww_shp 5 sp_X0_isSafe 0 24), (24, vi_if (fun x => x = 0) 29 27), (27, vi_icst (0) 28), (28, vi_ret), (29, vi_aload 0 30), (30, vi_get ww_shp 0 1 33), (33, vi_aload 0 34), (34, vi_get ww_shp 0 0 37), (37, vi_callV ww_shp 1 sp_X1_becomeLike 1 40), (40, vi_icst (1) 41), (41, vi_istore 3 42), (42, vi_iload 3 43), (43, vi_iload 2 44), (44, vi_cmp (fun x y => y < x) 79 47), (47, vi_aload 0 48), (48, vi_get ww_shp 0 1 51), (51, vi_icst (1) 52), (52, vi_callV ww_shp 1 sp_X1_playMinutes 1 55), (55, vi_pop 56), (56, vi_aload 0 57), (57, vi_get ww_shp 0 1 60), (60, vi_get ww_shp 1 7 63), (63, vi_iload 1 64), (64, vi_aald ww_shp 2 65), (65, vi_callV ww_shp 5 sp_X0_isSafe 0 68), (68, vi_if (fun x => x = 0) 73 71), (71, vi_iload 3 72), (72, vi_ret), (73, vi_iinc 3 (1) 76), (76, vi_goto 42), (79, vi_icst (-1) 80), (80, vi_ret)]
set_option maxRecDepth 20000 in
theorem s_X5_safeIn : ∀ q ∈ k_X5_safeIn, vg_Snd ww_tb ww_nw ww_shp ww_nm ww_cl ww_tyl cX5_safeIn 4 RX5 (some .int) 6 q.1 q.2 := by
  refine vg_cons (vs_aload_n dX5_safeIn_0 rfl rfl) ?_
  refine vg_cons (vs_iload_n dX5_safeIn_1 rfl rfl) ?_
  refine vg_cons (vs_callV (T := TX5) c_X5_checkGroup dX5_safeIn_2 rfl ww_good q_257 q_51 q_258 q_259 q_260 (by decide +kernel) (by decide) rfl) ?_
  refine vg_cons (vs_iload_n dX5_safeIn_5 rfl rfl) ?_
  refine vg_cons (vs_iconst dX5_safeIn_6 rfl rfl) ?_
  refine vg_cons (vs_bipush dX5_safeIn_7 (by decide) rfl) ?_
  refine vg_cons (vs_callS c_X5_checkRange dX5_safeIn_9 ww_good q_201 q_51 q_203 q_202 (by decide +kernel) (by decide) rfl) ?_
  refine vg_cons (vs_aload_n dX5_safeIn_12 rfl rfl) ?_
  refine vg_cons (vs_getfield (T := TX5) dX5_safeIn_13 rfl (by decide) ww_inX5 q_197 rfl) ?_
  refine vg_cons (vs_getfield (T := TX1) dX5_safeIn_16 rfl (by decide) ww_inX1 q_261 rfl) ?_
  refine vg_cons (vs_iload_n dX5_safeIn_19 rfl rfl) ?_
  refine vg_cons (vs_aaload dX5_safeIn_20 rfl rfl) ?_
  refine vg_cons (vs_callV (T := TX0) c_X0_isSafe dX5_safeIn_21 rfl ww_good q_45 q_21 q_294 q_47 q_48 (by decide +kernel) (by decide) rfl) ?_
  refine vg_cons (vs_if_eq dX5_safeIn_24 (by decide) rfl) ?_
  refine vg_cons (vs_iconst dX5_safeIn_27 rfl rfl) ?_
  refine vg_cons (vs_ireturn dX5_safeIn_28 rfl) ?_
  refine vg_cons (vs_aload_n dX5_safeIn_29 rfl rfl) ?_
  refine vg_cons (vs_getfield (T := TX5) dX5_safeIn_30 rfl (by decide) ww_inX5 q_276 rfl) ?_
  refine vg_cons (vs_aload_n dX5_safeIn_33 rfl rfl) ?_
  refine vg_cons (vs_getfield (T := TX5) dX5_safeIn_34 rfl (by decide) ww_inX5 q_197 rfl) ?_
  refine vg_cons (vs_callV (T := TX1) c_X1_becomeLike dX5_safeIn_37 rfl ww_good q_277 q_12 q_278 q_279 q_280 (by decide +kernel) (by decide) rfl) ?_
  refine vg_cons (vs_iconst dX5_safeIn_40 rfl rfl) ?_
  refine vg_cons (vs_istore_n dX5_safeIn_41 rfl (by decide) rfl) ?_
  refine vg_cons (vs_iload_n dX5_safeIn_42 rfl rfl) ?_
  refine vg_cons (vs_iload_n dX5_safeIn_43 rfl rfl) ?_
  refine vg_cons (vs_cmp_gt dX5_safeIn_44 (by decide) rfl) ?_
  refine vg_cons (vs_aload_n dX5_safeIn_47 rfl rfl) ?_
  refine vg_cons (vs_getfield (T := TX5) dX5_safeIn_48 rfl (by decide) ww_inX5 q_276 rfl) ?_
  refine vg_cons (vs_iconst dX5_safeIn_51 rfl rfl) ?_
  refine vg_cons (vs_callV (T := TX1) c_X1_playMinutes dX5_safeIn_52 rfl ww_good q_281 q_12 q_282 q_283 q_284 (by decide +kernel) (by decide) rfl) ?_
  refine vg_cons (vs_pop dX5_safeIn_55 rfl) ?_
  refine vg_cons (vs_aload_n dX5_safeIn_56 rfl rfl) ?_
  refine vg_cons (vs_getfield (T := TX5) dX5_safeIn_57 rfl (by decide) ww_inX5 q_276 rfl) ?_
  refine vg_cons (vs_getfield (T := TX1) dX5_safeIn_60 rfl (by decide) ww_inX1 q_261 rfl) ?_
  refine vg_cons (vs_iload_n dX5_safeIn_63 rfl rfl) ?_
  refine vg_cons (vs_aaload dX5_safeIn_64 rfl rfl) ?_
  refine vg_cons (vs_callV (T := TX0) c_X0_isSafe dX5_safeIn_65 rfl ww_good q_45 q_21 q_294 q_47 q_48 (by decide +kernel) (by decide) rfl) ?_
  refine vg_cons (vs_if_eq dX5_safeIn_68 (by decide) rfl) ?_
  refine vg_cons (vs_iload_n dX5_safeIn_71 rfl rfl) ?_
  refine vg_cons (vs_ireturn dX5_safeIn_72 rfl) ?_
  refine vg_cons (vs_iinc dX5_safeIn_73 rfl rfl) ?_
  refine vg_cons (vs_goto dX5_safeIn_76 (by decide)) ?_
  refine vg_cons (vs_iconst dX5_safeIn_79 rfl rfl) ?_
  refine vg_cons (vs_ireturn dX5_safeIn_80 rfl) ?_
  exact fun _ h => absurd h List.not_mem_nil
theorem m_X5_safeIn : vg_Code k_X5_safeIn := fun q h => (s_X5_safeIn q h).1

theorem w_X5_safeIn : vg_Wd sp_X5_safeIn 4 := by
  intro av σ h
  unfold sp_X5_safeIn at h
  split at h
  · exact Nat.le_of_ble_eq_true rfl
  · exact h.elim
theorem g_X5_safeIn : vg_G k_X5_safeIn sp_X5_safeIn := by
  intro av σ h
  unfold sp_X5_safeIn at h ⊢
  split at h
  next c m =>
    obtain ⟨hc, hm, hm2, hw, hb, hp, hp1⟩ := h
    have h01 : ¬ 0 = 1 := by decide
    obtain ⟨M, hM, rfl⟩ := vp_in_of hm2 (by decide)
    have eM : (nI M).toNatClampNeg = M := jcl rfl (by omega)
    have g8 := hw.1.2
    have hc8 : vp_in c 8 := jwide hc g8 (by decide)
    rw [eM]
    unfold jSafeIn
    refine vg_run (cuts := [(40, [0, 1, 2]), (42, [0, 1, 2, 3]), (56, [0, 1, 2, 3])]) m_X5_safeIn 40 ?_
    refine And.intro ⟨hw, hc⟩ (And.intro hm (And.intro hc8 (And.intro trivial (And.intro (fun hz => ?_) (fun hz => ?_)))))
    · have ns : ¬ jSafe (jV σ 0) c.toNatClampNeg := jb_0.mp hz
      rw [if_neg ns]
      refine And.intro ⟨h01, hw, hb⟩ ?_
      dsimp only
      have w1 := jLike_wf (v := jV σ 1) hw
      have p1 := jLike_pl hp hp1
      generalize jLike (jV σ 0) (jV σ 1) = t0 at w1 p1 ⊢
      refine vg_run (cuts := [(40, [0, 1, 2]), (42, [0, 1, 2, 3]), (56, [0, 1, 2, 3])]) m_X5_safeIn 40 ?_
      refine vg_loop (fun i lv σ' => ∃ x t, jWf t ∧ jPl t ∧ jSft t0 c.toNatClampNeg 0 M = jSft t c.toNatClampNeg i (M - i) ∧ σ' = jPut σ 1 t ∧ x = nI (i + 1) ∧ lv = [(0, .inr (0, 0, 0)), (1, .inl (.int c)), (2, .inl (.int (nI M))), (3, .inl (.int x))]) M ?_ ?_ 0 _ _ (Nat.zero_le _) ⟨1, t0, w1, p1, rfl, rfl, rfl, rfl⟩
      · rintro i lv σ' hi ⟨x, t, hwt, hpt, he, rfl, hx, rfl⟩ ih
        have eL : M - i = (M - (i + 1)) + 1 := by omega
        rw [eL] at he
        have w2 : jWf (jMin t) := (jMin_keep t).wf hwt
        have p2 : jPl (jMin t) := jMin_pl hwt.2.1.2 hpt
        have cond : ¬ nI M < x := by
          intro z
          have := (jle (c := x) (x := nI M) hx rfl (by omega) (by omega)).mpr (by omega)
          exact absurd this (Int32.not_le.mpr z)
        refine vg_run (cuts := [(40, [0, 1, 2]), (42, [0, 1, 2, 3]), (56, [0, 1, 2, 3])]) m_X5_safeIn 40 ?_
        refine And.intro (fun z => absurd z cond) (fun _ => ?_)
        refine And.intro (by rw [jV_put]; exact ⟨hwt, hpt, by decide⟩) (And.intro rfl ?_)
        dsimp only
        rw [jPut_put, jV_put, jPlay_1]
        refine vg_run (cuts := [(40, [0, 1, 2]), (42, [0, 1, 2, 3]), (56, [0, 1, 2, 3])]) m_X5_safeIn 40 ?_
        refine And.intro hc8 (And.intro trivial (And.intro (fun hf => ?_) (fun hf => ?_)))
        · rw [jV_put] at hf
          exact ih _ _ ⟨x + 1, jMin t, w2, p2, he.trans (jSft_f (jb_0.mp hf)), rfl, jinc hx, rfl⟩
        · rw [jV_put] at hf
          have hs : jSafe (jMin t) c.toNatClampNeg := Classical.byContradiction (fun z => hf (jb_f z))
          rw [he, jSft_t hs]
          exact And.intro (by rw [hx]) rfl
      · rintro lv σ' ⟨x, t, hwt, hpt, he, rfl, hx, rfl⟩
        have cond : nI M < x := by
          refine Int32.not_le.mp (fun z => ?_)
          have := (jle (c := x) (x := nI M) hx rfl (by omega) (by omega)).mp z
          omega
        rw [Nat.sub_self] at he
        refine vg_run (cuts := [(40, [0, 1, 2]), (42, [0, 1, 2, 3]), (56, [0, 1, 2, 3])]) m_X5_safeIn 40 ?_
        refine And.intro (fun _ => ?_) (fun z => absurd cond z)
        rw [he]
        exact And.intro rfl rfl
    · have ns : jSafe (jV σ 0) c.toNatClampNeg := Classical.byContradiction (fun z => hz (jb_f z))
      rw [if_pos ns]
      exact And.intro rfl jPut_jV.symm
  next => exact h.elim
theorem c_X5_safeIn : vg_MetF ww_tb ww_nw ww_shp ww_nm ww_cl ww_tyl yX5_safeIn cX5_safeIn 4 (some .int) 6 sp_X5_safeIn := vg_met ww_closed (by decide +kernel) rfl s_X5_safeIn w_X5_safeIn g_X5_safeIn
end
