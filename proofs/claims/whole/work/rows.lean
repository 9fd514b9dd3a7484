section
/-! the tables' words, the names of the classes and of their methods (begun from the printed texts) -/
/-- a private method of a class that the tables say can be made, by its rows of tables_1 -/
def lw_okq (q : MethodName × Nat) : Prop := (q.1.cls ≠ "java/lang/invoke/MethodHandle" ∧ q.1.cls ≠ "java/lang/invoke/VarHandle") ∧ Cond.instantiable q.1.cls q.2 ∈ tables_1 ∧ Cond.privateMethod q.1 ∈ tables_1 ∧ Cond.instanceMethod q.1 ∈ tables_1
theorem lw_p0 : lw_okq (⟨"java/lang/Throwable", "fillInStackTrace", "(I)Ljava/lang/Throwable;"⟩, 6) := ⟨⟨by decide +kernel, by decide +kernel⟩, List.mem_of_getElem? (i := 352) (by decide +kernel), List.mem_of_getElem? (i := 350) (by decide +kernel), List.mem_of_getElem? (i := 351) (by decide +kernel)⟩
theorem lw_p1 : lw_okq (⟨"WarnWave", "checkGroup", "(I)V"⟩, 2) := ⟨⟨by decide +kernel, by decide +kernel⟩, List.mem_of_getElem? (i := 19) (by decide +kernel), List.mem_of_getElem? (i := 390) (by decide +kernel), List.mem_of_getElem? (i := 391) (by decide +kernel)⟩
theorem lw_p2 : lw_okq (⟨"WarnWave$Land", "chooseCalls", "()V"⟩, 14) := ⟨⟨by decide +kernel, by decide +kernel⟩, List.mem_of_getElem? (i := 27) (by decide +kernel), List.mem_of_getElem? (i := 447) (by decide +kernel), List.mem_of_getElem? (i := 448) (by decide +kernel)⟩
theorem lw_p3 : lw_okq (⟨"WarnWave$Land", "firstToCall", "(I)I"⟩, 14) := ⟨⟨by decide +kernel, by decide +kernel⟩, List.mem_of_getElem? (i := 27) (by decide +kernel), List.mem_of_getElem? (i := 451) (by decide +kernel), List.mem_of_getElem? (i := 452) (by decide +kernel)⟩
theorem lw_p4 : lw_okq (⟨"WarnWave$Land", "hearAll", "()V"⟩, 14) := ⟨⟨by decide +kernel, by decide +kernel⟩, List.mem_of_getElem? (i := 27) (by decide +kernel), List.mem_of_getElem? (i := 458) (by decide +kernel), List.mem_of_getElem? (i := 459) (by decide +kernel)⟩
theorem lw_p5 : lw_okq (⟨"WarnWave$Land", "publicWays", "(LWarnWave$Group;LWarnWave$Warning;ZZZ)I"⟩, 14) := ⟨⟨by decide +kernel, by decide +kernel⟩, List.mem_of_getElem? (i := 27) (by decide +kernel), List.mem_of_getElem? (i := 472) (by decide +kernel), List.mem_of_getElem? (i := 473) (by decide +kernel)⟩
theorem lw_p6 : lw_okq (⟨"WarnWave$Land", "hearOne", "(III)V"⟩, 14) := ⟨⟨by decide +kernel, by decide +kernel⟩, List.mem_of_getElem? (i := 27) (by decide +kernel), List.mem_of_getElem? (i := 476) (by decide +kernel), List.mem_of_getElem? (i := 477) (by decide +kernel)⟩
theorem lw_p7 : lw_okq (⟨"WarnWave$Land", "believingNeighbour", "(II)I"⟩, 14) := ⟨⟨by decide +kernel, by decide +kernel⟩, List.mem_of_getElem? (i := 27) (by decide +kernel), List.mem_of_getElem? (i := 480) (by decide +kernel), List.mem_of_getElem? (i := 481) (by decide +kernel)⟩
theorem lw_p8 : lw_okq (⟨"WarnWave$Land", "believeAll", "()I"⟩, 14) := ⟨⟨by decide +kernel, by decide +kernel⟩, List.mem_of_getElem? (i := 27) (by decide +kernel), List.mem_of_getElem? (i := 490) (by decide +kernel), List.mem_of_getElem? (i := 491) (by decide +kernel)⟩
theorem lw_p9 : lw_okq (⟨"WarnWave$Land", "believeOne", "(LWarnWave$Group;)I"⟩, 14) := ⟨⟨by decide +kernel, by decide +kernel⟩, List.mem_of_getElem? (i := 27) (by decide +kernel), List.mem_of_getElem? (i := 494) (by decide +kernel), List.mem_of_getElem? (i := 495) (by decide +kernel)⟩
theorem lw_p10 : lw_okq (⟨"WarnWave$Land", "goAll", "()V"⟩, 14) := ⟨⟨by decide +kernel, by decide +kernel⟩, List.mem_of_getElem? (i := 27) (by decide +kernel), List.mem_of_getElem? (i := 511) (by decide +kernel), List.mem_of_getElem? (i := 512) (by decide +kernel)⟩
theorem lw_p11 : lw_okq (⟨"WarnWave$Land", "goOne", "(LWarnWave$Group;)V"⟩, 14) := ⟨⟨by decide +kernel, by decide +kernel⟩, List.mem_of_getElem? (i := 27) (by decide +kernel), List.mem_of_getElem? (i := 515) (by decide +kernel), List.mem_of_getElem? (i := 516) (by decide +kernel)⟩
theorem lw_p12 : lw_okq (⟨"WarnWave$Land", "nearestWithRoom", "(LWarnWave$Group;)I"⟩, 14) := ⟨⟨by decide +kernel, by decide +kernel⟩, List.mem_of_getElem? (i := 27) (by decide +kernel), List.mem_of_getElem? (i := 519) (by decide +kernel), List.mem_of_getElem? (i := 520) (by decide +kernel)⟩
theorem lw_p13 : lw_okq (⟨"WarnWave$Land", "harmAll", "()V"⟩, 14) := ⟨⟨by decide +kernel, by decide +kernel⟩, List.mem_of_getElem? (i := 27) (by decide +kernel), List.mem_of_getElem? (i := 526) (by decide +kernel), List.mem_of_getElem? (i := 527) (by decide +kernel)⟩
theorem lw_p14 : lw_okq (⟨"WarnWave", "mixHeard", "(JI)J"⟩, 2) := ⟨⟨by decide +kernel, by decide +kernel⟩, List.mem_of_getElem? (i := 19) (by decide +kernel), List.mem_of_getElem? (i := 530) (by decide +kernel), List.mem_of_getElem? (i := 531) (by decide +kernel)⟩
theorem lw_p15 : lw_okq (⟨"WarnWave", "checkWarning", "(I)V"⟩, 2) := ⟨⟨by decide +kernel, by decide +kernel⟩, List.mem_of_getElem? (i := 19) (by decide +kernel), List.mem_of_getElem? (i := 538) (by decide +kernel), List.mem_of_getElem? (i := 539) (by decide +kernel)⟩
def lw_privs_1 : List (MethodName × Nat) := [(⟨"java/lang/Throwable", "fillInStackTrace", "(I)Ljava/lang/Throwable;"⟩, 6), (⟨"WarnWave", "checkGroup", "(I)V"⟩, 2), (⟨"WarnWave$Land", "chooseCalls", "()V"⟩, 14), (⟨"WarnWave$Land", "firstToCall", "(I)I"⟩, 14), (⟨"WarnWave$Land", "hearAll", "()V"⟩, 14), (⟨"WarnWave$Land", "publicWays", "(LWarnWave$Group;LWarnWave$Warning;ZZZ)I"⟩, 14), (⟨"WarnWave$Land", "hearOne", "(III)V"⟩, 14), (⟨"WarnWave$Land", "believingNeighbour", "(II)I"⟩, 14), (⟨"WarnWave$Land", "believeAll", "()I"⟩, 14), (⟨"WarnWave$Land", "believeOne", "(LWarnWave$Group;)I"⟩, 14), (⟨"WarnWave$Land", "goAll", "()V"⟩, 14), (⟨"WarnWave$Land", "goOne", "(LWarnWave$Group;)V"⟩, 14), (⟨"WarnWave$Land", "nearestWithRoom", "(LWarnWave$Group;)I"⟩, 14), (⟨"WarnWave$Land", "harmAll", "()V"⟩, 14), (⟨"WarnWave", "mixHeard", "(JI)J"⟩, 2), (⟨"WarnWave", "checkWarning", "(I)V"⟩, 2)]
theorem lw_r1 : ∀ q ∈ lw_privs_1, lw_okq q := List.forall_mem_cons.mpr ⟨lw_p0, List.forall_mem_cons.mpr ⟨lw_p1, List.forall_mem_cons.mpr ⟨lw_p2, List.forall_mem_cons.mpr ⟨lw_p3, List.forall_mem_cons.mpr ⟨lw_p4, List.forall_mem_cons.mpr ⟨lw_p5, List.forall_mem_cons.mpr ⟨lw_p6, List.forall_mem_cons.mpr ⟨lw_p7, List.forall_mem_cons.mpr ⟨lw_p8, List.forall_mem_cons.mpr ⟨lw_p9, List.forall_mem_cons.mpr ⟨lw_p10, List.forall_mem_cons.mpr ⟨lw_p11, List.forall_mem_cons.mpr ⟨lw_p12, List.forall_mem_cons.mpr ⟨lw_p13, List.forall_mem_cons.mpr ⟨lw_p14, List.forall_mem_cons.mpr ⟨lw_p15, fun _ h => absurd h List.not_mem_nil⟩⟩⟩⟩⟩⟩⟩⟩⟩⟩⟩⟩⟩⟩⟩⟩
theorem lw_p16 : lw_okq (⟨"WarnWave", "draft", "(IIIII)I"⟩, 2) := ⟨⟨by decide +kernel, by decide +kernel⟩, List.mem_of_getElem? (i := 19) (by decide +kernel), List.mem_of_getElem? (i := 686) (by decide +kernel), List.mem_of_getElem? (i := 687) (by decide +kernel)⟩
theorem lw_p17 : lw_okq (⟨"WarnWave", "checkInForce", "(I)V"⟩, 2) := ⟨⟨by decide +kernel, by decide +kernel⟩, List.mem_of_getElem? (i := 19) (by decide +kernel), List.mem_of_getElem? (i := 698) (by decide +kernel), List.mem_of_getElem? (i := 699) (by decide +kernel)⟩
theorem lw_p18 : lw_okq (⟨"WarnWave$Land", "isStillAbout", "(LWarnWave$Warning;)Z"⟩, 14) := ⟨⟨by decide +kernel, by decide +kernel⟩, List.mem_of_getElem? (i := 27) (by decide +kernel), List.mem_of_getElem? (i := 736) (by decide +kernel), List.mem_of_getElem? (i := 737) (by decide +kernel)⟩
theorem lw_p19 : lw_okq (⟨"WarnWave$Land", "judge", "(I)V"⟩, 14) := ⟨⟨by decide +kernel, by decide +kernel⟩, List.mem_of_getElem? (i := 27) (by decide +kernel), List.mem_of_getElem? (i := 745) (by decide +kernel), List.mem_of_getElem? (i := 746) (by decide +kernel)⟩
theorem lw_p20 : lw_okq (⟨"WarnWave$Land", "letOut", "()V"⟩, 14) := ⟨⟨by decide +kernel, by decide +kernel⟩, List.mem_of_getElem? (i := 27) (by decide +kernel), List.mem_of_getElem? (i := 753) (by decide +kernel), List.mem_of_getElem? (i := 754) (by decide +kernel)⟩
theorem lw_p21 : lw_okq (⟨"WarnWaveModel", "no", "(I)I"⟩, 3) := ⟨⟨by decide +kernel, by decide +kernel⟩, List.mem_of_getElem? (i := 823) (by decide +kernel), List.mem_of_getElem? (i := 924) (by decide +kernel), List.mem_of_getElem? (i := 925) (by decide +kernel)⟩
theorem lw_p22 : lw_okq (⟨"WarnWaveModel", "clear", "(II)V"⟩, 3) := ⟨⟨by decide +kernel, by decide +kernel⟩, List.mem_of_getElem? (i := 823) (by decide +kernel), List.mem_of_getElem? (i := 929) (by decide +kernel), List.mem_of_getElem? (i := 930) (by decide +kernel)⟩
theorem lw_p23 : lw_okq (⟨"WarnWaveModel", "isGroup", "(I)Z"⟩, 3) := ⟨⟨by decide +kernel, by decide +kernel⟩, List.mem_of_getElem? (i := 823) (by decide +kernel), List.mem_of_getElem? (i := 941) (by decide +kernel), List.mem_of_getElem? (i := 942) (by decide +kernel)⟩
theorem lw_p24 : lw_okq (⟨"WarnWaveModel", "draft", "(IIIII)I"⟩, 3) := ⟨⟨by decide +kernel, by decide +kernel⟩, List.mem_of_getElem? (i := 823) (by decide +kernel), List.mem_of_getElem? (i := 987) (by decide +kernel), List.mem_of_getElem? (i := 988) (by decide +kernel)⟩
theorem lw_p25 : lw_okq (⟨"WarnWaveModel", "isWarning", "(I)Z"⟩, 3) := ⟨⟨by decide +kernel, by decide +kernel⟩, List.mem_of_getElem? (i := 823) (by decide +kernel), List.mem_of_getElem? (i := 995) (by decide +kernel), List.mem_of_getElem? (i := 996) (by decide +kernel)⟩
theorem lw_p26 : lw_okq (⟨"WarnWaveModel", "lacking", "(I)I"⟩, 3) := ⟨⟨by decide +kernel, by decide +kernel⟩, List.mem_of_getElem? (i := 823) (by decide +kernel), List.mem_of_getElem? (i := 1011) (by decide +kernel), List.mem_of_getElem? (i := 1012) (by decide +kernel)⟩
theorem lw_p27 : lw_okq (⟨"WarnWaveModel", "cancelled", "([I)V"⟩, 3) := ⟨⟨by decide +kernel, by decide +kernel⟩, List.mem_of_getElem? (i := 823) (by decide +kernel), List.mem_of_getElem? (i := 1020) (by decide +kernel), List.mem_of_getElem? (i := 1021) (by decide +kernel)⟩
theorem lw_p28 : lw_okq (⟨"WarnWaveModel$Land", "toCall", "(I)I"⟩, 16) := ⟨⟨by decide +kernel, by decide +kernel⟩, List.mem_of_getElem? (i := 829) (by decide +kernel), List.mem_of_getElem? (i := 1061) (by decide +kernel), List.mem_of_getElem? (i := 1062) (by decide +kernel)⟩
theorem lw_p29 : lw_okq (⟨"WarnWaveModel$Land", "isMeant", "(II)Z"⟩, 16) := ⟨⟨by decide +kernel, by decide +kernel⟩, List.mem_of_getElem? (i := 829) (by decide +kernel), List.mem_of_getElem? (i := 1065) (by decide +kernel), List.mem_of_getElem? (i := 1066) (by decide +kernel)⟩
theorem lw_p30 : lw_okq (⟨"WarnWaveModel$Land", "isIn", "(II)Z"⟩, 16) := ⟨⟨by decide +kernel, by decide +kernel⟩, List.mem_of_getElem? (i := 829) (by decide +kernel), List.mem_of_getElem? (i := 1069) (by decide +kernel), List.mem_of_getElem? (i := 1070) (by decide +kernel)⟩
theorem lw_p31 : lw_okq (⟨"WarnWaveModel$Land", "hear", "(IIZZ)V"⟩, 16) := ⟨⟨by decide +kernel, by decide +kernel⟩, List.mem_of_getElem? (i := 829) (by decide +kernel), List.mem_of_getElem? (i := 1073) (by decide +kernel), List.mem_of_getElem? (i := 1074) (by decide +kernel)⟩
def lw_privs_2 : List (MethodName × Nat) := [(⟨"WarnWave", "draft", "(IIIII)I"⟩, 2), (⟨"WarnWave", "checkInForce", "(I)V"⟩, 2), (⟨"WarnWave$Land", "isStillAbout", "(LWarnWave$Warning;)Z"⟩, 14), (⟨"WarnWave$Land", "judge", "(I)V"⟩, 14), (⟨"WarnWave$Land", "letOut", "()V"⟩, 14), (⟨"WarnWaveModel", "no", "(I)I"⟩, 3), (⟨"WarnWaveModel", "clear", "(II)V"⟩, 3), (⟨"WarnWaveModel", "isGroup", "(I)Z"⟩, 3), (⟨"WarnWaveModel", "draft", "(IIIII)I"⟩, 3), (⟨"WarnWaveModel", "isWarning", "(I)Z"⟩, 3), (⟨"WarnWaveModel", "lacking", "(I)I"⟩, 3), (⟨"WarnWaveModel", "cancelled", "([I)V"⟩, 3), (⟨"WarnWaveModel$Land", "toCall", "(I)I"⟩, 16), (⟨"WarnWaveModel$Land", "isMeant", "(II)Z"⟩, 16), (⟨"WarnWaveModel$Land", "isIn", "(II)Z"⟩, 16), (⟨"WarnWaveModel$Land", "hear", "(IIZZ)V"⟩, 16)]
theorem lw_r2 : ∀ q ∈ lw_privs_2, lw_okq q := List.forall_mem_cons.mpr ⟨lw_p16, List.forall_mem_cons.mpr ⟨lw_p17, List.forall_mem_cons.mpr ⟨lw_p18, List.forall_mem_cons.mpr ⟨lw_p19, List.forall_mem_cons.mpr ⟨lw_p20, List.forall_mem_cons.mpr ⟨lw_p21, List.forall_mem_cons.mpr ⟨lw_p22, List.forall_mem_cons.mpr ⟨lw_p23, List.forall_mem_cons.mpr ⟨lw_p24, List.forall_mem_cons.mpr ⟨lw_p25, List.forall_mem_cons.mpr ⟨lw_p26, List.forall_mem_cons.mpr ⟨lw_p27, List.forall_mem_cons.mpr ⟨lw_p28, List.forall_mem_cons.mpr ⟨lw_p29, List.forall_mem_cons.mpr ⟨lw_p30, List.forall_mem_cons.mpr ⟨lw_p31, fun _ h => absurd h List.not_mem_nil⟩⟩⟩⟩⟩⟩⟩⟩⟩⟩⟩⟩⟩⟩⟩⟩
theorem lw_p32 : lw_okq (⟨"WarnWaveModel$Land", "neighbour", "(II)I"⟩, 16) := ⟨⟨by decide +kernel, by decide +kernel⟩, List.mem_of_getElem? (i := 829) (by decide +kernel), List.mem_of_getElem? (i := 1077) (by decide +kernel), List.mem_of_getElem? (i := 1078) (by decide +kernel)⟩
theorem lw_p33 : lw_okq (⟨"WarnWaveModel$Land", "believe", "(II)I"⟩, 16) := ⟨⟨by decide +kernel, by decide +kernel⟩, List.mem_of_getElem? (i := 829) (by decide +kernel), List.mem_of_getElem? (i := 1088) (by decide +kernel), List.mem_of_getElem? (i := 1089) (by decide +kernel)⟩
theorem lw_p34 : lw_okq (⟨"WarnWaveModel$Land", "go", "([II)V"⟩, 16) := ⟨⟨by decide +kernel, by decide +kernel⟩, List.mem_of_getElem? (i := 829) (by decide +kernel), List.mem_of_getElem? (i := 1093) (by decide +kernel), List.mem_of_getElem? (i := 1094) (by decide +kernel)⟩
theorem lw_p35 : lw_okq (⟨"WarnWaveModel", "inForceNow", "()I"⟩, 3) := ⟨⟨by decide +kernel, by decide +kernel⟩, List.mem_of_getElem? (i := 823) (by decide +kernel), List.mem_of_getElem? (i := 1102) (by decide +kernel), List.mem_of_getElem? (i := 1103) (by decide +kernel)⟩
theorem lw_p36 : lw_okq (⟨"WarnWaveModel", "groupNow", "(II)I"⟩, 3) := ⟨⟨by decide +kernel, by decide +kernel⟩, List.mem_of_getElem? (i := 823) (by decide +kernel), List.mem_of_getElem? (i := 1110) (by decide +kernel), List.mem_of_getElem? (i := 1111) (by decide +kernel)⟩
theorem lw_p37 : lw_okq (⟨"WarnWaveModel", "warningNow", "(II)I"⟩, 3) := ⟨⟨by decide +kernel, by decide +kernel⟩, List.mem_of_getElem? (i := 823) (by decide +kernel), List.mem_of_getElem? (i := 1123) (by decide +kernel), List.mem_of_getElem? (i := 1124) (by decide +kernel)⟩
theorem lw_p38 : lw_okq (⟨"WarnWaveModel", "forceNow", "(I)I"⟩, 3) := ⟨⟨by decide +kernel, by decide +kernel⟩, List.mem_of_getElem? (i := 823) (by decide +kernel), List.mem_of_getElem? (i := 1131) (by decide +kernel), List.mem_of_getElem? (i := 1132) (by decide +kernel)⟩
theorem lw_p39 : lw_okq (⟨"WarnWaveModel", "chainNow", "(II)I"⟩, 3) := ⟨⟨by decide +kernel, by decide +kernel⟩, List.mem_of_getElem? (i := 823) (by decide +kernel), List.mem_of_getElem? (i := 1143) (by decide +kernel), List.mem_of_getElem? (i := 1144) (by decide +kernel)⟩
theorem lw_p40 : lw_okq (⟨"WarnWaveModel", "manyNow", "(I)I"⟩, 3) := ⟨⟨by decide +kernel, by decide +kernel⟩, List.mem_of_getElem? (i := 823) (by decide +kernel), List.mem_of_getElem? (i := 1151) (by decide +kernel), List.mem_of_getElem? (i := 1152) (by decide +kernel)⟩
theorem lw_p41 : lw_okq (⟨"WarnWaveModel", "safeNow", "(II)I"⟩, 3) := ⟨⟨by decide +kernel, by decide +kernel⟩, List.mem_of_getElem? (i := 823) (by decide +kernel), List.mem_of_getElem? (i := 1163) (by decide +kernel), List.mem_of_getElem? (i := 1164) (by decide +kernel)⟩
theorem lw_p42 : lw_okq (⟨"WarnWaveModel", "sirenNow", "(III)I"⟩, 3) := ⟨⟨by decide +kernel, by decide +kernel⟩, List.mem_of_getElem? (i := 823) (by decide +kernel), List.mem_of_getElem? (i := 1178) (by decide +kernel), List.mem_of_getElem? (i := 1179) (by decide +kernel)⟩
def lw_privs_3 : List (MethodName × Nat) := [(⟨"WarnWaveModel$Land", "neighbour", "(II)I"⟩, 16), (⟨"WarnWaveModel$Land", "believe", "(II)I"⟩, 16), (⟨"WarnWaveModel$Land", "go", "([II)V"⟩, 16), (⟨"WarnWaveModel", "inForceNow", "()I"⟩, 3), (⟨"WarnWaveModel", "groupNow", "(II)I"⟩, 3), (⟨"WarnWaveModel", "warningNow", "(II)I"⟩, 3), (⟨"WarnWaveModel", "forceNow", "(I)I"⟩, 3), (⟨"WarnWaveModel", "chainNow", "(II)I"⟩, 3), (⟨"WarnWaveModel", "manyNow", "(I)I"⟩, 3), (⟨"WarnWaveModel", "safeNow", "(II)I"⟩, 3), (⟨"WarnWaveModel", "sirenNow", "(III)I"⟩, 3)]
theorem lw_r3 : ∀ q ∈ lw_privs_3, lw_okq q := List.forall_mem_cons.mpr ⟨lw_p32, List.forall_mem_cons.mpr ⟨lw_p33, List.forall_mem_cons.mpr ⟨lw_p34, List.forall_mem_cons.mpr ⟨lw_p35, List.forall_mem_cons.mpr ⟨lw_p36, List.forall_mem_cons.mpr ⟨lw_p37, List.forall_mem_cons.mpr ⟨lw_p38, List.forall_mem_cons.mpr ⟨lw_p39, List.forall_mem_cons.mpr ⟨lw_p40, List.forall_mem_cons.mpr ⟨lw_p41, List.forall_mem_cons.mpr ⟨lw_p42, fun _ h => absurd h List.not_mem_nil⟩⟩⟩⟩⟩⟩⟩⟩⟩⟩⟩
def lw_privs : List (MethodName × Nat) := lw_privs_1 ++ (lw_privs_2 ++ (lw_privs_3))
def lw_tbl : List Cond := k2_sels lw_privs ++ tables_1
theorem lw_privs_ok : ∀ q ∈ lw_privs, lw_okq q := by
  show ∀ q ∈ lw_privs_1 ++ (lw_privs_2 ++ (lw_privs_3)), lw_okq q
  exact List.forall_mem_append.mpr ⟨lw_r1, List.forall_mem_append.mpr ⟨lw_r2, lw_r3⟩⟩
/-- the streams that the claim lets the run draw from -/
abbrev lw_cs : List Choice := [Jvm.Choice.named "NaN.bits"]
theorem lw_bits : nanBits ∈ lw_cs := by first | decide | exact List.mem_cons_self | simp [lw_cs, nanBits]
def RX0 : String := "WarnWave$Group"
def TX0 : u_T := fun k => match k with
  | 0 => ("WarnWave$Group", "cell", "I", false)
  | 1 => ("WarnWave$Group", "people", "I", false)
  | 2 => ("WarnWave$Group", "tongue", "I", false)
  | 3 => ("WarnWave$Group", "trust", "I", false)
  | 4 => ("WarnWave$Group", "isDeaf", "Z", false)
  | 5 => ("WarnWave$Group", "hasRadio", "Z", false)
  | 6 => ("WarnWave$Group", "shelter", "I", false)
  | 7 => ("WarnWave$Group", "harm", "I", false)
  | 8 => ("WarnWave$Group", "ways", "[I", true)
  | 9 => ("WarnWave$Group", "heardAt", "[I", true)
  | 10 => ("WarnWave$Group", "heardBy", "[I", true)
  | 11 => ("WarnWave$Group", "heardFrom", "[I", true)
  | _ => ("WarnWave$Group", "believedAt", "[I", true)
def tyX0 : Nat → FieldType := fun k => match k with
  | 0 => .int
  | 1 => .int
  | 2 => .int
  | 3 => .int
  | 4 => .boolean
  | 5 => .boolean
  | 6 => .int
  | 7 => .int
  | 8 => .array .int
  | 9 => .array .int
  | 10 => .array .int
  | 11 => .array .int
  | _ => .array .int
abbrev wsX00 : List Cond := u_ws RX0 TX0 13
theorem nmX0 : ∀ a, a < 13 → ∀ b, b < 13 → a ≠ b → (TX0 a).2.1 ≠ (TX0 b).2.1 := by decide +kernel
theorem tyX0_ok : ∀ k, k < 13 → parseFieldDescriptor (TX0 k).2.2.1 = some (tyX0 k) := by decide +kernel
abbrev cX0_init : ByteArray := prog_2_method_1_code
def yX0_init : MethodName := ⟨RX0, "<init>", "()V"⟩
abbrev cX0_becomeLike : ByteArray := prog_2_method_2_code
def yX0_becomeLike : MethodName := ⟨RX0, "becomeLike", "(LWarnWave$Group;)V"⟩
abbrev cX0_isGone : ByteArray := prog_2_method_3_code
def yX0_isGone : MethodName := ⟨RX0, "isGone", "()Z"⟩
abbrev cX0_isSafe : ByteArray := prog_2_method_4_code
def yX0_isSafe : MethodName := ⟨RX0, "isSafe", "()Z"⟩
abbrev cX0_waysNeeded : ByteArray := prog_2_method_5_code
def yX0_waysNeeded : MethodName := ⟨RX0, "waysNeeded", "()I"⟩
abbrev cX0_noteWays : ByteArray := prog_2_method_6_code
def yX0_noteWays : MethodName := ⟨RX0, "noteWays", "(IIII)V"⟩
def RX1 : String := "WarnWave$Land"
def TX1 : u_T := fun k => match k with
  | 0 => ("WarnWave$Land", "now", "I", false)
  | 1 => ("WarnWave$Land", "lines", "I", false)
  | 2 => ("WarnWave$Land", "keys", "I", false)
  | 3 => ("WarnWave$Land", "callsMade", "I", false)
  | 4 => ("WarnWave$Land", "groupCount", "I", false)
  | 5 => ("WarnWave$Land", "shelterCount", "I", false)
  | 6 => ("WarnWave$Land", "warningCount", "I", false)
  | 7 => ("WarnWave$Land", "groups", "[LWarnWave$Group;", true)
  | 8 => ("WarnWave$Land", "shelters", "[LWarnWave$Shelter;", true)
  | 9 => ("WarnWave$Land", "warnings", "[LWarnWave$Warning;", true)
  | 10 => ("WarnWave$Land", "sirens", "LWarnWave$Senders;", true)
  | 11 => ("WarnWave$Land", "masts", "LWarnWave$Senders;", true)
  | 12 => ("WarnWave$Land", "dangerFrom", "[I", true)
  | _ => ("WarnWave$Land", "called", "[I", true)
def tyX1 : Nat → FieldType := fun k => match k with
  | 0 => .int
  | 1 => .int
  | 2 => .int
  | 3 => .int
  | 4 => .int
  | 5 => .int
  | 6 => .int
  | 7 => .array (.object "WarnWave$Group")
  | 8 => .array (.object "WarnWave$Shelter")
  | 9 => .array (.object "WarnWave$Warning")
  | 10 => .object "WarnWave$Senders"
  | 11 => .object "WarnWave$Senders"
  | 12 => .array .int
  | _ => .array .int
abbrev wsX10 : List Cond := u_ws RX1 TX1 14
theorem nmX1 : ∀ a, a < 14 → ∀ b, b < 14 → a ≠ b → (TX1 a).2.1 ≠ (TX1 b).2.1 := by decide +kernel
theorem tyX1_ok : ∀ k, k < 14 → parseFieldDescriptor (TX1 k).2.2.1 = some (tyX1 k) := by decide +kernel
abbrev cX1_init : ByteArray := prog_3_method_1_code
def yX1_init : MethodName := ⟨RX1, "<init>", "()V"⟩
abbrev cX1_becomeLike : ByteArray := prog_3_method_2_code
def yX1_becomeLike : MethodName := ⟨RX1, "becomeLike", "(LWarnWave$Land;)V"⟩
abbrev cX1_hourNow : ByteArray := prog_3_method_3_code
def yX1_hourNow : MethodName := ⟨RX1, "hourNow", "()I"⟩
abbrev cX1_isNight : ByteArray := prog_3_method_4_code
def yX1_isNight : MethodName := ⟨RX1, "isNight", "()Z"⟩
abbrev cX1_isAsleep : ByteArray := prog_3_method_5_code
def yX1_isAsleep : MethodName := ⟨RX1, "isAsleep", "(LWarnWave$Group;)Z"⟩
abbrev cX1_isInDanger : ByteArray := prog_3_method_6_code
def yX1_isInDanger : MethodName := ⟨RX1, "isInDanger", "(I)Z"⟩
abbrev cX1_cellsInDanger : ByteArray := prog_3_method_7_code
def yX1_cellsInDanger : MethodName := ⟨RX1, "cellsInDanger", "()I"⟩
abbrev cX1_latestBelieved : ByteArray := prog_3_method_8_code
def yX1_latestBelieved : MethodName := ⟨RX1, "latestBelieved", "(LWarnWave$Group;)I"⟩
abbrev cX1_countInForce : ByteArray := prog_3_method_9_code
def yX1_countInForce : MethodName := ⟨RX1, "countInForce", "()I"⟩
abbrev cX1_countAsleep : ByteArray := prog_3_method_10_code
def yX1_countAsleep : MethodName := ⟨RX1, "countAsleep", "()I"⟩
abbrev cX1_countBelievers : ByteArray := prog_3_method_11_code
def yX1_countBelievers : MethodName := ⟨RX1, "countBelievers", "(I)I"⟩
abbrev cX1_peopleOfAll : ByteArray := prog_3_method_12_code
def yX1_peopleOfAll : MethodName := ⟨RX1, "peopleOfAll", "()I"⟩
abbrev cX1_peopleSafe : ByteArray := prog_3_method_13_code
def yX1_peopleSafe : MethodName := ⟨RX1, "peopleSafe", "()I"⟩
abbrev cX1_peopleGone : ByteArray := prog_3_method_14_code
def yX1_peopleGone : MethodName := ⟨RX1, "peopleGone", "()I"⟩
abbrev cX1_peopleIn : ByteArray := prog_3_method_15_code
def yX1_peopleIn : MethodName := ⟨RX1, "peopleIn", "(I)I"⟩
abbrev cX1_peopleBelieving : ByteArray := prog_3_method_16_code
def yX1_peopleBelieving : MethodName := ⟨RX1, "peopleBelieving", "()I"⟩
abbrev cX1_keysLacking : ByteArray := prog_3_method_17_code
def yX1_keysLacking : MethodName := ⟨RX1, "keysLacking", "(LWarnWave$Warning;)I"⟩
abbrev cX1_isSendable : ByteArray := prog_3_method_18_code
def yX1_isSendable : MethodName := ⟨RX1, "isSendable", "(LWarnWave$Warning;)Z"⟩
abbrev cX1_isStillAbout : ByteArray := prog_3_method_19_code
def yX1_isStillAbout : MethodName := ⟨RX1, "isStillAbout", "(LWarnWave$Warning;)Z"⟩
abbrev cX1_sendOut : ByteArray := prog_3_method_20_code
def yX1_sendOut : MethodName := ⟨RX1, "sendOut", "(LWarnWave$Warning;)V"⟩
abbrev cX1_judge : ByteArray := prog_3_method_21_code
def yX1_judge : MethodName := ⟨RX1, "judge", "(I)V"⟩
abbrev cX1_letOut : ByteArray := prog_3_method_22_code
def yX1_letOut : MethodName := ⟨RX1, "letOut", "()V"⟩
abbrev cX1_playMinutes : ByteArray := prog_3_method_23_code
def yX1_playMinutes : MethodName := ⟨RX1, "playMinutes", "(I)I"⟩
abbrev cX1_chooseCalls : ByteArray := prog_3_method_24_code
def yX1_chooseCalls : MethodName := ⟨RX1, "chooseCalls", "()V"⟩
abbrev cX1_firstToCall : ByteArray := prog_3_method_25_code
def yX1_firstToCall : MethodName := ⟨RX1, "firstToCall", "(I)I"⟩
abbrev cX1_hearAll : ByteArray := prog_3_method_26_code
def yX1_hearAll : MethodName := ⟨RX1, "hearAll", "()V"⟩
abbrev cX1_publicWays : ByteArray := prog_3_method_27_code
def yX1_publicWays : MethodName := ⟨RX1, "publicWays", "(LWarnWave$Group;LWarnWave$Warning;ZZZ)I"⟩
abbrev cX1_hearOne : ByteArray := prog_3_method_28_code
def yX1_hearOne : MethodName := ⟨RX1, "hearOne", "(III)V"⟩
abbrev cX1_believingNeighbour : ByteArray := prog_3_method_29_code
def yX1_believingNeighbour : MethodName := ⟨RX1, "believingNeighbour", "(II)I"⟩
abbrev cX1_believeAll : ByteArray := prog_3_method_30_code
def yX1_believeAll : MethodName := ⟨RX1, "believeAll", "()I"⟩
abbrev cX1_believeOne : ByteArray := prog_3_method_31_code
def yX1_believeOne : MethodName := ⟨RX1, "believeOne", "(LWarnWave$Group;)I"⟩
abbrev cX1_goAll : ByteArray := prog_3_method_32_code
def yX1_goAll : MethodName := ⟨RX1, "goAll", "()V"⟩
abbrev cX1_goOne : ByteArray := prog_3_method_33_code
def yX1_goOne : MethodName := ⟨RX1, "goOne", "(LWarnWave$Group;)V"⟩
abbrev cX1_nearestWithRoom : ByteArray := prog_3_method_34_code
def yX1_nearestWithRoom : MethodName := ⟨RX1, "nearestWithRoom", "(LWarnWave$Group;)I"⟩
abbrev cX1_harmAll : ByteArray := prog_3_method_35_code
def yX1_harmAll : MethodName := ⟨RX1, "harmAll", "()V"⟩
def RX2 : String := "WarnWave$Senders"
def TX2 : u_T := fun k => match k with
  | 0 => ("WarnWave$Senders", "cells", "[I", true)
  | 1 => ("WarnWave$Senders", "reaches", "[I", true)
  | 2 => ("WarnWave$Senders", "hasPower", "[Z", true)
  | _ => ("WarnWave$Senders", "count", "I", false)
def tyX2 : Nat → FieldType := fun k => match k with
  | 0 => .array .int
  | 1 => .array .int
  | 2 => .array .boolean
  | _ => .int
abbrev wsX20 : List Cond := u_ws RX2 TX2 4
theorem nmX2 : ∀ a, a < 4 → ∀ b, b < 4 → a ≠ b → (TX2 a).2.1 ≠ (TX2 b).2.1 := by decide +kernel
theorem tyX2_ok : ∀ k, k < 4 → parseFieldDescriptor (TX2 k).2.2.1 = some (tyX2 k) := by decide +kernel
abbrev cX2_init : ByteArray := prog_4_method_1_code
def yX2_init : MethodName := ⟨RX2, "<init>", "()V"⟩
abbrev cX2_add : ByteArray := prog_4_method_2_code
def yX2_add : MethodName := ⟨RX2, "add", "(II)I"⟩
abbrev cX2_setPower : ByteArray := prog_4_method_3_code
def yX2_setPower : MethodName := ⟨RX2, "setPower", "(IZ)I"⟩
abbrev cX2_cellsReached : ByteArray := prog_4_method_4_code
def yX2_cellsReached : MethodName := ⟨RX2, "cellsReached", "()I"⟩
abbrev cX2_becomeLike : ByteArray := prog_4_method_5_code
def yX2_becomeLike : MethodName := ⟨RX2, "becomeLike", "(LWarnWave$Senders;)V"⟩
def RX3 : String := "WarnWave$Shelter"
def TX3 : u_T := fun k => match k with
  | 0 => ("WarnWave$Shelter", "cell", "I", false)
  | _ => ("WarnWave$Shelter", "room", "I", false)
def tyX3 : Nat → FieldType := fun k => match k with
  | 0 => .int
  | _ => .int
abbrev wsX30 : List Cond := u_ws RX3 TX3 2
theorem nmX3 : ∀ a, a < 2 → ∀ b, b < 2 → a ≠ b → (TX3 a).2.1 ≠ (TX3 b).2.1 := by decide +kernel
theorem tyX3_ok : ∀ k, k < 2 → parseFieldDescriptor (TX3 k).2.2.1 = some (tyX3 k) := by decide +kernel
abbrev cX3_init : ByteArray := prog_5_method_1_code
def yX3_init : MethodName := ⟨RX3, "<init>", "()V"⟩
def RX4 : String := "WarnWave$Warning"
def TX4 : u_T := fun k => match k with
  | 0 => ("WarnWave$Warning", "kind", "I", false)
  | 1 => ("WarnWave$Warning", "other", "I", false)
  | 2 => ("WarnWave$Warning", "area", "I", false)
  | 3 => ("WarnWave$Warning", "advice", "I", false)
  | 4 => ("WarnWave$Warning", "tongues", "I", false)
  | 5 => ("WarnWave$Warning", "approvals", "I", false)
  | 6 => ("WarnWave$Warning", "sentAt", "I", false)
  | _ => ("WarnWave$Warning", "isInForce", "Z", false)
def tyX4 : Nat → FieldType := fun k => match k with
  | 0 => .int
  | 1 => .int
  | 2 => .int
  | 3 => .int
  | 4 => .int
  | 5 => .int
  | 6 => .int
  | _ => .boolean
abbrev wsX40 : List Cond := u_ws RX4 TX4 8
theorem nmX4 : ∀ a, a < 8 → ∀ b, b < 8 → a ≠ b → (TX4 a).2.1 ≠ (TX4 b).2.1 := by decide +kernel
theorem tyX4_ok : ∀ k, k < 8 → parseFieldDescriptor (TX4 k).2.2.1 = some (tyX4 k) := by decide +kernel
abbrev cX4_init : ByteArray := prog_6_method_1_code
def yX4_init : MethodName := ⟨RX4, "<init>", "()V"⟩
abbrev cX4_becomeLike : ByteArray := prog_6_method_2_code
def yX4_becomeLike : MethodName := ⟨RX4, "becomeLike", "(LWarnWave$Warning;)V"⟩
def RX5 : String := "WarnWave"
def TX5 : u_T := fun k => match k with
  | 0 => ("WarnWave", "land", "LWarnWave$Land;", true)
  | _ => ("WarnWave", "trial", "LWarnWave$Land;", true)
def tyX5 : Nat → FieldType := fun k => match k with
  | 0 => .object "WarnWave$Land"
  | _ => .object "WarnWave$Land"
abbrev wsX50 : List Cond := u_ws RX5 TX5 2
theorem nmX5 : ∀ a, a < 2 → ∀ b, b < 2 → a ≠ b → (TX5 a).2.1 ≠ (TX5 b).2.1 := by decide +kernel
theorem tyX5_ok : ∀ k, k < 2 → parseFieldDescriptor (TX5 k).2.2.1 = some (tyX5 k) := by decide +kernel
abbrev cX5_init : ByteArray := prog_1_method_1_code
def yX5_init : MethodName := ⟨RX5, "<init>", "()V"⟩
abbrev cX5_group : ByteArray := prog_1_method_2_code
def yX5_group : MethodName := ⟨RX5, "group", "(IIIZZ)I"⟩
abbrev cX5_trust : ByteArray := prog_1_method_3_code
def yX5_trust : MethodName := ⟨RX5, "trust", "(II)I"⟩
abbrev cX5_shelter : ByteArray := prog_1_method_4_code
def yX5_shelter : MethodName := ⟨RX5, "shelter", "(II)I"⟩
abbrev cX5_siren : ByteArray := prog_1_method_5_code
def yX5_siren : MethodName := ⟨RX5, "siren", "(II)I"⟩
abbrev cX5_mast : ByteArray := prog_1_method_6_code
def yX5_mast : MethodName := ⟨RX5, "mast", "(II)I"⟩
abbrev cX5_power : ByteArray := prog_1_method_7_code
def yX5_power : MethodName := ⟨RX5, "power", "(IZ)I"⟩
abbrev cX5_lines : ByteArray := prog_1_method_8_code
def yX5_lines : MethodName := ⟨RX5, "lines", "(I)I"⟩
abbrev cX5_danger : ByteArray := prog_1_method_9_code
def yX5_danger : MethodName := ⟨RX5, "danger", "(II)I"⟩
abbrev cX5_key : ByteArray := prog_1_method_10_code
def yX5_key : MethodName := ⟨RX5, "key", "(IZ)Z"⟩
abbrev cX5_alert : ByteArray := prog_1_method_11_code
def yX5_alert : MethodName := ⟨RX5, "alert", "(III)I"⟩
abbrev cX5_update : ByteArray := prog_1_method_12_code
def yX5_update : MethodName := ⟨RX5, "update", "(IIII)I"⟩
abbrev cX5_cancel : ByteArray := prog_1_method_13_code
def yX5_cancel : MethodName := ⟨RX5, "cancel", "(I)I"⟩
abbrev cX5_approve : ByteArray := prog_1_method_14_code
def yX5_approve : MethodName := ⟨RX5, "approve", "(II)I"⟩
abbrev cX5_send : ByteArray := prog_1_method_15_code
def yX5_send : MethodName := ⟨RX5, "send", "(I)I"⟩
abbrev cX5_pass : ByteArray := prog_1_method_16_code
def yX5_pass : MethodName := ⟨RX5, "pass", "(I)I"⟩
abbrev cX5_until : ByteArray := prog_1_method_17_code
def yX5_until : MethodName := ⟨RX5, "until", "(I)I"⟩
abbrev cX5_ofGroup : ByteArray := prog_1_method_18_code
def yX5_ofGroup : MethodName := ⟨RX5, "ofGroup", "(II)I"⟩
abbrev cX5_heard : ByteArray := prog_1_method_19_code
def yX5_heard : MethodName := ⟨RX5, "heard", "(III)I"⟩
abbrev cX5_ofWarning : ByteArray := prog_1_method_20_code
def yX5_ofWarning : MethodName := ⟨RX5, "ofWarning", "(II)I"⟩
abbrev cX5_inForce : ByteArray := prog_1_method_21_code
def yX5_inForce : MethodName := ⟨RX5, "inForce", "(I)I"⟩
abbrev cX5_roomIn : ByteArray := prog_1_method_22_code
def yX5_roomIn : MethodName := ⟨RX5, "roomIn", "(I)I"⟩
abbrev cX5_chain : ByteArray := prog_1_method_23_code
def yX5_chain : MethodName := ⟨RX5, "chain", "(II)I"⟩
abbrev cX5_many : ByteArray := prog_1_method_24_code
def yX5_many : MethodName := ⟨RX5, "many", "(I)I"⟩
abbrev cX5_meanDelay : ByteArray := prog_1_method_25_code
def yX5_meanDelay : MethodName := ⟨RX5, "meanDelay", "(I)D"⟩
abbrev cX5_safeIn : ByteArray := prog_1_method_26_code
def yX5_safeIn : MethodName := ⟨RX5, "safeIn", "(II)I"⟩
abbrev cX5_sirenWould : ByteArray := prog_1_method_27_code
def yX5_sirenWould : MethodName := ⟨RX5, "sirenWould", "(III)I"⟩
abbrev cX5_digest : ByteArray := prog_1_method_28_code
def yX5_digest : MethodName := ⟨RX5, "digest", "()J"⟩
abbrev cX5_mixHeard : ByteArray := prog_1_method_29_code
def yX5_mixHeard : MethodName := ⟨RX5, "mixHeard", "(JI)J"⟩
abbrev cX5_mix : ByteArray := prog_1_method_30_code
def yX5_mix : MethodName := ⟨RX5, "mix", "(JI)J"⟩
abbrev cX5_draft : ByteArray := prog_1_method_31_code
def yX5_draft : MethodName := ⟨RX5, "draft", "(IIIII)I"⟩
abbrev cX5_checkCell : ByteArray := prog_1_method_32_code
def yX5_checkCell : MethodName := ⟨RX5, "checkCell", "(I)V"⟩
abbrev cX5_checkOfficer : ByteArray := prog_1_method_33_code
def yX5_checkOfficer : MethodName := ⟨RX5, "checkOfficer", "(I)V"⟩
abbrev cX5_checkGroup : ByteArray := prog_1_method_34_code
def yX5_checkGroup : MethodName := ⟨RX5, "checkGroup", "(I)V"⟩
abbrev cX5_checkWarning : ByteArray := prog_1_method_35_code
def yX5_checkWarning : MethodName := ⟨RX5, "checkWarning", "(I)V"⟩
abbrev cX5_checkInForce : ByteArray := prog_1_method_36_code
def yX5_checkInForce : MethodName := ⟨RX5, "checkInForce", "(I)V"⟩
abbrev cX5_checkWords : ByteArray := prog_1_method_37_code
def yX5_checkWords : MethodName := ⟨RX5, "checkWords", "(III)V"⟩
abbrev cX5_checkRange : ByteArray := prog_1_method_38_code
def yX5_checkRange : MethodName := ⟨RX5, "checkRange", "(III)V"⟩
abbrev cX5_isIn : ByteArray := prog_1_method_39_code
def yX5_isIn : MethodName := ⟨RX5, "isIn", "(II)Z"⟩
abbrev cX5_distance : ByteArray := prog_1_method_40_code
def yX5_distance : MethodName := ⟨RX5, "distance", "(II)I"⟩
abbrev cX5_stepTowards : ByteArray := prog_1_method_41_code
def yX5_stepTowards : MethodName := ⟨RX5, "stepTowards", "(II)I"⟩
def RJ6 : String := "java/lang/Integer"
abbrev cJ6_bitCount_0f7a4 : ByteArray := prog_14_method_49_code
def yJ6_bitCount_0f7a4 : MethodName := ⟨RJ6, "bitCount", "(I)I"⟩
def RJ9 : String := "java/lang/Math"
abbrev cJ9_floorMod_7cf53 : ByteArray := prog_15_method_50_code
def yJ9_floorMod_7cf53 : MethodName := ⟨RJ9, "floorMod", "(II)I"⟩
abbrev cJ9_abs_0f7a4 : ByteArray := prog_15_method_59_code
def yJ9_abs_0f7a4 : MethodName := ⟨RJ9, "abs", "(I)I"⟩
abbrev cJ9_max_7cf53 : ByteArray := prog_15_method_65_code
def yJ9_max_7cf53 : MethodName := ⟨RJ9, "max", "(II)I"⟩
abbrev cJ9_min_7cf53 : ByteArray := prog_15_method_69_code
def yJ9_min_7cf53 : MethodName := ⟨RJ9, "min", "(II)I"⟩
def RJ0 : String := "java/lang/String"
def RJ10 : String := "java/lang/System"
def RL : String := "WarnWaveLaw"
end
section
/-! A small machine over names: what a method does to a world of fixed shape, as a pure predicate (vg_Go), and that the machine does it (vg_met). A name stands for a cell; a world is the ints of all cells. -/
abbrev vgN : Type := Nat × Nat × Nat
abbrev vgV : Type := Value ⊕ vgN
abbrev vgL : Type := List (Nat × vgV)
abbrev vgT : Type := List vgV
abbrev vgS : Type := vgN → Nat → Int32
abbrev vgH : Type := (Nat × List (Option vgN)) ⊕ ((Nat × Nat) ⊕ (Nat × Nat × (Nat → vgN)))
abbrev vgK : Type := Nat → vgL → vgT → vgS → Prop
abbrev vgO : Type := Option vgV → vgS → Prop
abbrev vgF : Type := vgO → vgK → vgL → vgT → vgS → Prop
def vg_look {α : Type} : List (Nat × α) → Nat → Option α
  | [], _ => none
  | q :: t, i => bif Nat.beq q.1 i then some q.2 else vg_look t i
theorem vg_look_mem {α : Type} {i : Nat} {a : α} : ∀ {l : List (Nat × α)}, vg_look l i = some a → (i, a) ∈ l
  | [], h => by cases h
  | q :: t, h => by
    unfold vg_look at h
    cases hq : Nat.beq q.1 i with
    | true =>
      rw [hq] at h
      cases h
      have e : q.1 = i := Nat.eq_of_beq_eq_true hq
      rw [← e]
      exact List.mem_cons_self
    | false =>
      rw [hq] at h
      exact List.mem_cons_of_mem _ (vg_look_mem h)
/-- a name's address, a value's -/
def vg_cv (ad : vgN → Nat) : vgV → Value
  | .inl v => v
  | .inr n => .ref (ad n)
def vg_ok (nm : List vgN) : vgV → Prop
  | .inl _ => True
  | .inr n => n ∈ nm
def vg_c2 : vgV → Bool
  | .inl (.long _) => true
  | .inl (.double _) => true
  | _ => false
theorem vg_c2_eq (ad : vgN → Nat) (v : vgV) : ((vg_cv ad v).category == 2) = vg_c2 v := by
  cases v with
  | inl v => cases v <;> rfl
  | inr n => rfl
def vg_put (lv : vgL) (i : Nat) (v : vgV) : vgL := (i, v) :: lv.filter (fun q => !(q.1 == i) && !(q.1 + 1 == i && vg_c2 q.2))
def vg_put2 (lv : vgL) (i : Nat) (v : vgV) : vgL := (i, v) :: lv.filter (fun q => !(q.1 == i) && (!(q.1 == i + 1) && !(q.1 + 1 == i && vg_c2 q.2)))
def vg_lm (ad : vgN → Nat) (lv : vgL) : List (Nat × Value) := lv.map (fun q => (q.1, vg_cv ad q.2))
theorem vg_lm_put (ad : vgN → Nat) (lv : vgL) (i : Nat) (v : vgV) : (i, vg_cv ad v) :: (vg_lm ad lv).filter (fun q => !(q.1 == i) && !(q.1 + 1 == i && q.2.category == 2)) = vg_lm ad (vg_put lv i v) := by
  unfold vg_lm vg_put
  rw [List.map_cons, List.filter_map]
  congr 2
  apply List.filter_congr
  intro q _
  show (!(q.1 == i) && !(q.1 + 1 == i && (vg_cv ad q.2).category == 2)) = _
  rw [vg_c2_eq]
theorem vg_lm_put2 (ad : vgN → Nat) (lv : vgL) (i : Nat) (v : vgV) : (i, vg_cv ad v) :: (vg_lm ad lv).filter (fun q => !(q.1 == i) && (!(q.1 == i + 1) && !(q.1 + 1 == i && q.2.category == 2))) = vg_lm ad (vg_put2 lv i v) := by
  unfold vg_lm vg_put2
  rw [List.map_cons, List.filter_map]
  congr 2
  apply List.filter_congr
  intro q _
  show (!(q.1 == i) && (!(q.1 == i + 1) && !(q.1 + 1 == i && (vg_cv ad q.2).category == 2))) = _
  rw [vg_c2_eq]
theorem vg_ok_put {nm : List vgN} {lv : vgL} {i : Nat} {v : vgV} (h : ∀ q ∈ lv, vg_ok nm q.2) (hv : vg_ok nm v) : ∀ q ∈ vg_put lv i v, vg_ok nm q.2 := by
  intro q hq
  rcases List.mem_cons.mp hq with rfl | hq
  · exact hv
  · exact h q (List.mem_filter.mp hq).1
theorem vg_ok_put2 {nm : List vgN} {lv : vgL} {i : Nat} {v : vgV} (h : ∀ q ∈ lv, vg_ok nm q.2) (hv : vg_ok nm v) : ∀ q ∈ vg_put2 lv i v, vg_ok nm q.2 := by
  intro q hq
  rcases List.mem_cons.mp hq with rfl | hq
  · exact hv
  · exact h q (List.mem_filter.mp hq).1
theorem vg_lm_at {ad : vgN → Nat} {lv : vgL} {ls : Array Slot} {nL i : Nat} {v : vgV} (h : lv_has ls nL (vg_lm ad lv)) (hv : vg_look lv i = some v) : ls[i]? = some (.val (vg_cv ad v)) :=
  h.2.2 (i, vg_cv ad v) (List.mem_map.mpr ⟨(i, v), vg_look_mem hv, rfl⟩)
/-- the cells of a world -/
def vg_fs (ad : vgN → Nat) (f : Nat → Int32) : Nat → List (Option vgN) → List Value
  | _, [] => []
  | k, none :: t => .int (f k) :: vg_fs ad f (k + 1) t
  | k, some n :: t => .ref (ad n) :: vg_fs ad f (k + 1) t
def vg_ty (tys : List (ClassId × FieldType)) (t : Nat) : ClassId := match tys[t]? with
  | some q => q.1
  | none => 0
def vg_e (ad : vgN → Nat) (tys : List (ClassId × FieldType)) (h : vgH) (f : Nat → Int32) : va_E := match h with
  | .inl q => .inr (q.1, vg_fs ad f 0 q.2)
  | .inr (.inl q) => .inl (vg_ty tys q.1, q.2, .inl f)
  | .inr (.inr q) => .inl (vg_ty tys q.1, q.2.1, .inr (.inr (.inr (.inr (fun i => some (ad (q.2.2 i)))))))
def vg_ws (shp : vgN → vgH) (nm : List vgN) (ad : vgN → Nat) (tys : List (ClassId × FieldType)) (σ : vgS) : va_W := nm.map (fun n => (ad n, vg_e ad tys (shp n) (σ n)))
def vg_st (σ : vgS) (n : vgN) (k : Nat) (x : Int32) : vgS := fun n' j => if n' = n ∧ j = k then x else σ n' j
def vg_cp (σ : vgS) (m d : vgN) (len : Nat) : vgS := fun n' j => if n' = d ∧ j < len then σ m j else σ n' j
theorem vg_fs_get (ad : vgN → Nat) (f : Nat → Int32) : ∀ (sl : List (Option vgN)) (b k : Nat), (vg_fs ad f b sl)[k]? = (sl[k]?).map (fun o => match o with | none => Value.int (f (b + k)) | some n => .ref (ad n))
  | [], b, k => by simp [vg_fs]
  | none :: t, b, 0 => by simp [vg_fs]
  | some n :: t, b, 0 => by simp [vg_fs]
  | none :: t, b, k + 1 => by
    show (vg_fs ad f (b + 1) t)[k]? = _
    rw [vg_fs_get ad f t (b + 1) k, show b + 1 + k = b + (k + 1) by omega]
    rfl
  | some n :: t, b, k + 1 => by
    show (vg_fs ad f (b + 1) t)[k]? = _
    rw [vg_fs_get ad f t (b + 1) k, show b + 1 + k = b + (k + 1) by omega]
    rfl
theorem vg_fs_len (ad : vgN → Nat) (f : Nat → Int32) : ∀ (sl : List (Option vgN)) (b : Nat), (vg_fs ad f b sl).length = sl.length
  | [], b => rfl
  | none :: t, b => by simp [vg_fs, vg_fs_len ad f t]
  | some n :: t, b => by simp [vg_fs, vg_fs_len ad f t]
theorem vg_fs_set (ad : vgN → Nat) (f : Nat → Int32) (x : Int32) (sl : List (Option vgN)) (k : Nat) (h : sl[k]? = some none) : (vg_fs ad f 0 sl).set k (.int x) = vg_fs ad (fun j => if j = k then x else f j) 0 sl := by
  apply List.ext_getElem?
  intro j
  rw [List.getElem?_set, vg_fs_get, vg_fs_len, vg_fs_get]
  have hl : k < sl.length := (List.getElem?_eq_some_iff.mp h).1
  by_cases hj : k = j
  · subst hj
    rw [if_pos rfl, if_pos hl, h]
    simp
  · rw [if_neg hj]
    cases hs : sl[j]? with
    | none => rfl
    | some o =>
      cases o with
      | none => simp [Ne.symm hj]
      | some n => rfl
theorem vg_ws_get {shp : vgN → vgH} {nm : List vgN} {ad : vgN → Nat} {tys : List (ClassId × FieldType)} {σ : vgS} {n : vgN} (h : n ∈ nm) : ∃ q : Nat, nm[q]? = some n ∧ (vg_ws shp nm ad tys σ)[q]? = some (ad n, vg_e ad tys (shp n) (σ n)) := by
  obtain ⟨q, hq⟩ := List.getElem?_of_mem h
  exact ⟨q, hq, by unfold vg_ws; rw [List.getElem?_map, hq]; rfl⟩
theorem vg_ws_set {shp : vgN → vgH} {nm : List vgN} {ad : vgN → Nat} {tys : List (ClassId × FieldType)} {σ σ' : vgS} {A : Nat → Prop} {n : vgN} {q : Nat} {e : va_E} (hD : va_D A (vg_ws shp nm ad tys σ)) (hq : nm[q]? = some n) (he : e = vg_e ad tys (shp n) (σ' n)) (ho : ∀ n', n' ≠ n → σ' n' = σ n') : (vg_ws shp nm ad tys σ).set q (ad n, e) = vg_ws shp nm ad tys σ' := by
  apply List.ext_getElem?
  intro j
  have hl : q < nm.length := (List.getElem?_eq_some_iff.mp hq).1
  have hw : ∀ (σ : vgS) (j : Nat), (vg_ws shp nm ad tys σ)[j]? = (nm[j]?).map (fun n => (ad n, vg_e ad tys (shp n) (σ n))) := fun σ j => by unfold vg_ws; rw [List.getElem?_map]
  rw [List.getElem?_set]
  by_cases hj : q = j
  · subst hj
    rw [if_pos rfl, if_pos (by unfold vg_ws; rw [List.length_map]; exact hl), hw, hq, he]
    rfl
  · rw [if_neg hj, hw, hw]
    cases hn : nm[j]? with
    | none => rfl
    | some n' =>
      have hne : n' ≠ n := fun z => by
        subst z
        exact hj (hD.1 q j (ad n', vg_e ad tys (shp n') (σ n')) (ad n', vg_e ad tys (shp n') (σ n')) (by rw [hw, hq]; rfl) (by rw [hw, hn]; rfl) rfl)
      show some (ad n', vg_e ad tys (shp n') (σ n')) = some (ad n', vg_e ad tys (shp n') (σ' n'))
      rw [ho n' hne]
theorem vg_ws_D {shp : vgN → vgH} {nm : List vgN} {ad : vgN → Nat} {tys : List (ClassId × FieldType)} {σ : vgS} {A : Nat → Prop} (hD : va_D A (vg_ws shp nm ad tys σ)) (σ' : vgS) : va_D A (vg_ws shp nm ad tys σ') := by
  have key : ∀ (k : Nat) (q : Nat × va_E), (vg_ws shp nm ad tys σ')[k]? = some q → ∃ q', (vg_ws shp nm ad tys σ)[k]? = some q' ∧ q'.1 = q.1 := by
    intro k q hk
    unfold vg_ws at hk ⊢
    rw [List.getElem?_map] at hk ⊢
    cases hn : nm[k]? with
    | none => rw [hn] at hk; cases hk
    | some n => rw [hn] at hk; cases hk; exact ⟨_, rfl, rfl⟩
  refine ⟨fun i j p q hi hj he => ?_, fun k q hk => ?_⟩
  · obtain ⟨p', h1, h2⟩ := key i p hi
    obtain ⟨q', h3, h4⟩ := key j q hj
    exact hD.1 i j p' q' h1 h3 (h2.trans (he.trans h4.symm))
  · obtain ⟨q', h1, h2⟩ := key k q hk
    rw [← h2]
    exact hD.2 k q' h1
/-- the names in a shape are names of the world -/
def vg_closed (shp : vgN → vgH) (nm : List vgN) : Prop := ∀ n ∈ nm, match shp n with
  | .inl q => ∀ m, some m ∈ q.2 → m ∈ nm
  | .inr (.inl _) => True
  | .inr (.inr q) => ∀ i, i < q.2.1 → q.2.2 i ∈ nm
def vg_rm (d : Nat) : Room := { frames := d, cells := 0, slots := 0, locals := 32 * d }
/-- which cells a method may change -/
def vg_A (nm : List vgN) (ad : vgN → Nat) (sz : Nat) : Nat → Prop := fun q => (∃ n, n ∈ nm ∧ ad n = q) ∨ sz ≤ q
/-- a method's end -/
def vg_Q (shp : vgN → vgH) (nm : List vgN) (cl : List vw_C) (D : va_G) (tys : List (ClassId × FieldType)) (ad : vgN → Nat) (A : Nat → Prop) (P : vgO) : Array Value → State → Outcome → State → Prop := fun _ st oc t =>
  (∃ (r : Option vgV) (σ : vgS), oc = .returned (r.map (vg_cv ad)) ∧ P r σ ∧ (∀ v, r = some v → vg_ok nm v) ∧ va_P D cl (vg_ws shp nm ad tys σ) t.heap) ∧ va_F A st t
/-- what stands fast in a method's walk -/
def vg_C (tb : List Cond) (shp : vgN → vgH) (nm : List vgN) (cl : List vw_C) (tyl : List FieldType) (cc : ByteArray) (nL : Nat) (own : String) (ret : Option FieldType) (d : Nat) (p : Program) (R : Room) (s : State) (m : MethodId) (args : Array Value) (meth : Method) (c : Code) (D : va_G) (tys : List (ClassId × FieldType)) (ad : vgN → Nat) (A : Nat → Prop) : Prop :=
  p.tables.exec = Jvm.exec ∧ c.code = cc ∧ c.maxLocals = nL ∧ s.vm.findClass own = some m.cls ∧ (∀ w ∈ tb, w.before args s = true) ∧ va_K D cl tys s ∧ tys.map (fun q => q.2) = tyl ∧ meth.sig.returnType = ret ∧ meth.locks = false ∧ R = vg_rm d ∧ (∀ q, s.heap.size ≤ q → A q) ∧ (∀ σ, va_D A (vg_ws shp nm ad tys σ)) ∧ vg_closed shp nm
/-- the machine, from here on -/
def vg_X (shp : vgN → vgH) (nm : List vgN) (cl : List vw_C) (nL : Nat) (p : Program) (l : Launch) (e : Env) (R : Room) (s : State) (m : MethodId) (args : Array Value) (below : List Frame) (meth : Method) (c : Code) (D : va_G) (tys : List (ClassId × FieldType)) (ad : vgN → Nat) (A : Nat → Prop) (P : vgO) : vgK := fun pc lv st σ =>
  ∀ (H : Heap) (locs : List Loc) (ls : Array Slot), lv_has ls nL (vg_lm ad lv) → (∀ q ∈ lv, vg_ok nm q.2) → (∀ v ∈ st, vg_ok nm v) → va_P D cl (vg_ws shp nm ad tys σ) H → va_S A s.heap H locs →
    W p l e R s m args below meth c H locs 0 0 (MQ below (vg_Q shp nm cl D tys ad A P) args s 0 0 A) (F0 m pc ls (st.map (vg_cv ad)))
def vg_Mono (F : vgF) : Prop := ∀ (P : vgO) (K K' : vgK), (∀ pc lv st σ, K pc lv st σ → K' pc lv st σ) → ∀ lv st σ, F P K lv st σ → F P K' lv st σ
/-- an instruction's row -/
def vg_Snd (tb : List Cond) (shp : vgN → vgH) (nm : List vgN) (cl : List vw_C) (tyl : List FieldType) (cc : ByteArray) (nL : Nat) (own : String) (ret : Option FieldType) (d : Nat) (pc : Nat) (F : vgF) : Prop :=
  vg_Mono F ∧ ∀ (p : Program) (l : Launch) (e : Env) (R : Room) (s : State) (m : MethodId) (args : Array Value) (below : List Frame) (meth : Method) (c : Code) (D : va_G) (tys : List (ClassId × FieldType)) (ad : vgN → Nat) (A : Nat → Prop) (P : vgO),
    vg_C tb shp nm cl tyl cc nL own ret d p R s m args meth c D tys ad A → ∀ lv st σ, F P (vg_X shp nm cl nL p l e R s m args below meth c D tys ad A P) lv st σ → vg_X shp nm cl nL p l e R s m args below meth c D tys ad A P pc lv st σ
/-- the locals of some numbers alone -/
def vg_sel (ks : List Nat) (lv : vgL) : vgL := match ks with
  | [] => []
  | i :: r => match vg_look lv i with
    | some v => (i, v) :: vg_sel r lv
    | none => vg_sel r lv
theorem vg_sel_in {lv : vgL} : ∀ (ks : List Nat) (q : Nat × vgV), q ∈ vg_sel ks lv → q ∈ lv
  | [], q, h => by cases h
  | i :: r, q, h => by
    unfold vg_sel at h
    split at h
    next v hv =>
      rcases List.mem_cons.mp h with rfl | h
      · exact vg_look_mem hv
      · exact vg_sel_in r q h
    next => exact vg_sel_in r q h
/-- from here the method comes to an end with P: the least such predicate -/
def vg_Go (code : List (Nat × vgF)) (P : vgO) : vgK := fun pc lv st σ =>
  ∀ X : vgK, (∀ pc lv st σ, (match vg_look code pc with | some F => F P X lv st σ | none => False) → X pc lv st σ) → (∀ pc lv lv' st σ, (∀ q : Nat × vgV, q ∈ lv' → q ∈ lv) → X pc lv' st σ → X pc lv st σ) → X pc lv st σ
def vg_Code (code : List (Nat × vgF)) : Prop := ∀ q ∈ code, vg_Mono q.2
theorem vg_step {code : List (Nat × vgF)} (hm : vg_Code code) {P : vgO} {pc : Nat} {lv : vgL} {st : vgT} {σ : vgS} (h : match vg_look code pc with | some F => F P (vg_Go code P) lv st σ | none => False) : vg_Go code P pc lv st σ := by
  intro X hX hW
  refine hX pc lv st σ ?_
  cases hF : vg_look code pc with
  | none => rw [hF] at h; exact h
  | some F =>
    rw [hF] at h
    exact hm _ (vg_look_mem hF) P _ _ (fun pc lv st σ g => g X hX hW) lv st σ h
theorem vg_weak {code : List (Nat × vgF)} {P : vgO} {pc : Nat} {lv lv' : vgL} {st : vgT} {σ : vgS} (hs : ∀ q : Nat × vgV, q ∈ lv' → q ∈ lv) (h : vg_Go code P pc lv' st σ) : vg_Go code P pc lv st σ :=
  fun X hX hW => hW pc lv lv' st σ hs (h X hX hW)
/-- some steps on end; at a cut the walk stops, with the locals named there -/
def vg_R (cuts : List (Nat × List Nat)) (code : List (Nat × vgF)) (P : vgO) : Nat → vgK
  | 0 => vg_Go code P
  | n + 1 => fun pc lv st σ => match vg_look code pc with
    | some F => F P (fun pc' lv' st' σ' => match vg_look cuts pc' with
      | some ks => vg_Go code P pc' (vg_sel ks lv') st' σ'
      | none => vg_R cuts code P n pc' lv' st' σ') lv st σ
    | none => False
theorem vg_run {cuts : List (Nat × List Nat)} {code : List (Nat × vgF)} (hm : vg_Code code) {P : vgO} : ∀ (n : Nat) {pc : Nat} {lv : vgL} {st : vgT} {σ : vgS}, vg_R cuts code P n pc lv st σ → vg_Go code P pc lv st σ
  | 0, _, _, _, _, h => h
  | n + 1, pc, lv, st, σ, h => by
    refine vg_step hm ?_
    unfold vg_R at h
    cases hF : vg_look code pc with
    | none => rw [hF] at h; exact h
    | some F =>
      rw [hF] at h
      refine hm _ (vg_look_mem hF) P _ _ (fun pc' lv' st' σ' g => ?_) lv st σ h
      cases hc : vg_look cuts pc' with
      | some ks => rw [hc] at g; exact vg_weak (fun q hq => vg_sel_in ks q hq) g
      | none => rw [hc] at g; exact vg_run hm n g
/-- the machine does it -/
theorem vg_sound {tb : List Cond} {shp : vgN → vgH} {nm : List vgN} {cl : List vw_C} {tyl : List FieldType} {cc : ByteArray} {nL : Nat} {own : String} {ret : Option FieldType} {d : Nat} {code : List (Nat × vgF)} (hs : ∀ q ∈ code, vg_Snd tb shp nm cl tyl cc nL own ret d q.1 q.2)
    {p : Program} {l : Launch} {e : Env} {R : Room} {s : State} {m : MethodId} {args : Array Value} {below : List Frame} {meth : Method} {c : Code} {D : va_G} {tys : List (ClassId × FieldType)} {ad : vgN → Nat} {A : Nat → Prop} {P : vgO}
    (C0 : vg_C tb shp nm cl tyl cc nL own ret d p R s m args meth c D tys ad A) {pc : Nat} {lv : vgL} {st : vgT} {σ : vgS} (h : vg_Go code P pc lv st σ) : vg_X shp nm cl nL p l e R s m args below meth c D tys ad A P pc lv st σ := by
  refine h _ (fun pc lv st σ g => ?_) (fun pc lv lv' st σ hsub g H locs ls hl ho hs hP hS => g H locs ls ⟨hl.1, hl.2.1, fun q hq => ?_⟩ (fun q hq => ho q (hsub q hq)) hs hP hS)
  · cases hL : vg_look code pc with
    | none => rw [hL] at g; exact g.elim
    | some F =>
      rw [hL] at g
      exact (hs _ (vg_look_mem hL)).2 p l e R s m args below meth c D tys ad A P C0 lv st σ g
  · obtain ⟨q', hq', rfl⟩ := List.mem_map.mp hq
    exact hl.2.2 _ (List.mem_map.mpr ⟨q', hsub q' hq', rfl⟩)
/-- a contract: from every world of the shape, with arguments for which 'pre' holds, the method ends with 'post' -/
def vg_Met (tb : List Cond) (shp : vgN → vgH) (nm : List vgN) (cl : List vw_C) (tyl : List FieldType) (y : MethodName) (cc : ByteArray) (nL : Nat) (ret : Option FieldType) (d : Nat) (pre : vgT → vgS → Prop) (post : vgT → vgS → vgO) : Prop :=
  ∀ (l : Launch) (D : va_G) (tys : List (ClassId × FieldType)) (ad : vgN → Nat) (sz : Nat) (av : vgT) (σ : vgS), tys.map (fun q => q.2) = tyl → (∀ v ∈ av, vg_ok nm v) → pre av σ →
    Met l y (.code y cc nL ret :: tb) (vg_rm d) (va_Pc (av.map (vg_cv ad)) (fun U => U.heap.size = sz ∧ va_P D cl (vg_ws shp nm ad tys σ) U.heap ∧ va_K D cl tys U ∧ va_D (fun _ => True) (vg_ws shp nm ad tys σ))) (vg_Q shp nm cl D tys ad (vg_A nm ad sz) (post av σ)) 0 0 (vg_A nm ad sz)
def vg_args : Nat → vgT → vgL
  | _, [] => []
  | i, v :: vs => (i, v) :: vg_args (if vg_c2 v then i + 2 else i + 1) vs
theorem vg_args_eq (ad : vgN → Nat) : ∀ (vs : vgT) (i : Nat), lv_args i (vs.map (vg_cv ad)) = vg_lm ad (vg_args i vs)
  | [], i => rfl
  | v :: vs, i => by
    show (i, vg_cv ad v) :: lv_args (if (vg_cv ad v).category = 2 then i + 2 else i + 1) (vs.map (vg_cv ad)) = (i, vg_cv ad v) :: vg_lm ad (vg_args (if vg_c2 v then i + 2 else i + 1) vs)
    have e : (if (vg_cv ad v).category = 2 then i + 2 else i + 1) = (if vg_c2 v then i + 2 else i + 1) := by
      have h := vg_c2_eq ad v
      cases hc : vg_c2 v with
      | true =>
        rw [hc] at h
        simp [beq_iff_eq.mp h]
      | false =>
        rw [hc] at h
        have h2 : ¬ (vg_cv ad v).category = 2 := fun z => by rw [z] at h; cases h
        simp [h2]
    rw [e, vg_args_eq ad vs]
theorem vg_args_ok {nm : List vgN} : ∀ (vs : vgT) (i : Nat), (∀ v ∈ vs, vg_ok nm v) → ∀ q ∈ vg_args i vs, vg_ok nm q.2
  | [], i, _, q, hq => by cases hq
  | v :: vs, i, h, q, hq => by
    rcases List.mem_cons.mp hq with rfl | hq
    · exact h v List.mem_cons_self
    · exact vg_args_ok vs _ (fun w hw => h w (List.mem_cons_of_mem _ hw)) q hq
def vg_wd (vs : vgT) : Nat := (vs.map (fun v => if vg_c2 v then 2 else 1)).sum
theorem vg_wd_eq (ad : vgN → Nat) : ∀ vs : vgT, (lg_sl (vs.map (vg_cv ad))).length = vg_wd vs
  | [] => rfl
  | v :: vs => by
    have ih := vg_wd_eq ad vs
    have e : (lg_sl ((v :: vs).map (vg_cv ad))).length = (if (vg_cv ad v).category = 2 then 2 else 1) + (lg_sl (vs.map (vg_cv ad))).length := by
      by_cases hc : (vg_cv ad v).category = 2 <;> simp [lg_sl, hc] <;> omega
    have h := vg_c2_eq ad v
    rw [e, ih]
    show _ = (if vg_c2 v then 2 else 1) + vg_wd vs
    cases hc : vg_c2 v with
    | true => rw [hc] at h; simp [beq_iff_eq.mp h]
    | false =>
      rw [hc] at h
      have h2 : ¬ (vg_cv ad v).category = 2 := fun z => by rw [z] at h; cases h
      simp [h2]
theorem vg_met {tb : List Cond} {shp : vgN → vgH} {nm : List vgN} {cl : List vw_C} {tyl : List FieldType} {y : MethodName} {cc : ByteArray} {nL : Nat} {own : String} {ret : Option FieldType} {d : Nat} {pre : vgT → vgS → Prop} {post : vgT → vgS → vgO} {code : List (Nat × vgF)}
    (hcl : vg_closed shp nm) (hy : plainName y.cls = true) (hown : y.cls = own) (hs : ∀ q ∈ code, vg_Snd tb shp nm cl tyl cc nL own ret d q.1 q.2)
    (hw : ∀ av σ, pre av σ → vg_wd av ≤ nL) (go : ∀ av σ, pre av σ → vg_Go code (post av σ) 0 (vg_args 0 av) [] σ) : vg_Met tb shp nm cl tyl y cc nL ret d pre post := by
  intro l D tys ad sz av σ hty hok hpre
  refine Met.ofW (cc := cc) (maxL := nL) (ret := ret) hy rfl ?_
  intro p e s m args below meth c s₁ B hml hv
  obtain ⟨rfl, hsz, hP, hK, hD⟩ := hv
  have hx := B.exec
  have hb := B.bytes
  have hr := B.returns
  have hts : ∀ w ∈ tb, w.before (av.map (vg_cv ad)).toArray s = true := fun w h => atoms_spec (ws := .code y cc nL ret :: tb) B.pre w (List.mem_cons_of_mem _ h)
  have ho : s.vm.findClass own = some m.cls := by rw [← hown]; exact findClass_of_methodNamed B.named
  have hlocks := B.notSynchronized
  subst hsz
  have hDA : ∀ σ', va_D (vg_A nm ad s.heap.size) (vg_ws shp nm ad tys σ') := fun σ' => (vg_ws_D hD σ').weaken (fun k q hk _ => by
    unfold vg_ws at hk
    rw [List.getElem?_map] at hk
    cases hn : nm[k]? with
    | none => rw [hn] at hk; cases hk
    | some n => rw [hn] at hk; cases hk; exact Or.inl ⟨n, List.mem_of_getElem? hn, rfl⟩)
  have C0 : vg_C tb shp nm cl tyl cc nL own ret d p (vg_rm d) s m (av.map (vg_cv ad)).toArray meth c D tys ad (vg_A nm ad s.heap.size) := ⟨hx, hb, hml, ho, hts, hK, hty, hr, hlocks, rfl, fun q h => Or.inr h, hDA, hcl⟩
  have hl := lv_entry (av.map (vg_cv ad)) (n := nL) (by rw [vg_wd_eq]; exact hw av σ hpre)
  rw [vg_args_eq] at hl
  rw [lg_entry_eq]
  exact vg_sound hs C0 (go av σ hpre) s.heap [] _ hl (vg_args_ok av 0 hok) (fun v h => by cases h) hP va_S.rf
end
section
/-! the instructions: what each does to names and ints, and its row over the machine -/
def vi_no : vgF := fun _ _ _ _ _ => False
def vi_icst (v : Int32) (n : Nat) : vgF := fun _ K lv st σ => K n lv (.inl (.int v) :: st) σ
def vi_lcst (v : Int64) (n : Nat) : vgF := fun _ K lv st σ => K n lv (.inl (.long v) :: st) σ
def vi_iload (i n : Nat) : vgF := fun _ K lv st σ => match vg_look lv i with
  | some (.inl (.int x)) => K n lv (.inl (.int x) :: st) σ
  | _ => False
def vi_lload (i n : Nat) : vgF := fun _ K lv st σ => match vg_look lv i with
  | some (.inl (.long x)) => K n lv (.inl (.long x) :: st) σ
  | _ => False
def vi_aload (i n : Nat) : vgF := fun _ K lv st σ => match vg_look lv i with
  | some (.inr x) => K n lv (.inr x :: st) σ
  | _ => False
def vi_istore (i n : Nat) : vgF := fun _ K lv st σ => match st with
  | .inl (.int x) :: t => K n (vg_put lv i (.inl (.int x))) t σ
  | _ => False
def vi_lstore (i n : Nat) : vgF := fun _ K lv st σ => match st with
  | .inl (.long x) :: t => K n (vg_put2 lv i (.inl (.long x))) t σ
  | _ => False
def vi_astore (i n : Nat) : vgF := fun _ K lv st σ => match st with
  | .inr x :: t => K n (vg_put lv i (.inr x)) t σ
  | _ => False
def vi_iinc (i : Nat) (v : Int32) (n : Nat) : vgF := fun _ K lv st σ => match vg_look lv i with
  | some (.inl (.int x)) => K n (vg_put lv i (.inl (.int (x + v)))) st σ
  | _ => False
def vi_bin (f : Int32 → Int32 → Int32) (n : Nat) : vgF := fun _ K lv st σ => match st with
  | .inl (.int y) :: .inl (.int x) :: t => K n lv (.inl (.int (f x y)) :: t) σ
  | _ => False
def vi_div (f : Int32 → Int32 → Int32) (n : Nat) : vgF := fun _ K lv st σ => match st with
  | .inl (.int y) :: .inl (.int x) :: t => ¬ y = 0 ∧ K n lv (.inl (.int (f x y)) :: t) σ
  | _ => False
def vi_un (f : Int32 → Int32) (n : Nat) : vgF := fun _ K lv st σ => match st with
  | .inl (.int x) :: t => K n lv (.inl (.int (f x)) :: t) σ
  | _ => False
def vi_lbin (f : Int64 → Int64 → Int64) (n : Nat) : vgF := fun _ K lv st σ => match st with
  | .inl (.long y) :: .inl (.long x) :: t => K n lv (.inl (.long (f x y)) :: t) σ
  | _ => False
def vi_i2l (n : Nat) : vgF := fun _ K lv st σ => match st with
  | .inl (.int x) :: t => K n lv (.inl (.long x.toInt64) :: t) σ
  | _ => False
def vi_if (c : Int32 → Prop) (g n : Nat) : vgF := fun _ K lv st σ => match st with
  | .inl (.int x) :: t => (c x → K g lv t σ) ∧ (¬ c x → K n lv t σ)
  | _ => False
def vi_cmp (c : Int32 → Int32 → Prop) (g n : Nat) : vgF := fun _ K lv st σ => match st with
  | .inl (.int y) :: .inl (.int x) :: t => (c x y → K g lv t σ) ∧ (¬ c x y → K n lv t σ)
  | _ => False
def vi_goto (g : Nat) : vgF := fun _ K lv st σ => K g lv st σ
def vi_sw0 (x : Int32) (d : Prop) : List (Int32 × Prop) → Prop
  | [] => d
  | q :: r => (x = q.1 → q.2) ∧ (¬ x = q.1 → vi_sw0 x d r)
def vi_sw (cs : List (Int32 × Nat)) (d : Nat) : vgF := fun _ K lv st σ => match st with
  | .inl (.int x) :: t => vi_sw0 x (K d lv t σ) (cs.map (fun q => (q.1, K q.2 lv t σ)))
  | _ => False
def vi_dup (n : Nat) : vgF := fun _ K lv st σ => match st with
  | a :: t => vg_c2 a = false ∧ K n lv (a :: a :: t) σ
  | _ => False
def vi_pop (n : Nat) : vgF := fun _ K lv st σ => match st with
  | a :: t => vg_c2 a = false ∧ K n lv t σ
  | _ => False
def vi_dupx1 (n : Nat) : vgF := fun _ K lv st σ => match st with
  | a :: b :: t => (vg_c2 a = false ∧ vg_c2 b = false) ∧ K n lv (a :: b :: a :: t) σ
  | _ => False
def vi_dup2 (n : Nat) : vgF := fun _ K lv st σ => match st with
  | a :: b :: t => (vg_c2 a = false ∧ vg_c2 b = false) ∧ K n lv (a :: b :: a :: b :: t) σ
  | _ => False
def vg_nth : List (Option vgN) → Nat → Option (Option vgN)
  | [], _ => none
  | a :: _, 0 => some a
  | _ :: t, k + 1 => vg_nth t k
theorem vg_nth_eq : ∀ (l : List (Option vgN)) (k : Nat), vg_nth l k = l[k]?
  | [], k => by simp [vg_nth]
  | a :: t, 0 => by simp [vg_nth]
  | a :: t, k + 1 => by simp [vg_nth, vg_nth_eq t k]
def vi_get (shp : vgN → vgH) (ci k n : Nat) : vgF := fun _ K lv st σ => match st with
  | .inr m :: t => (match shp m with
    | .inl q => bif Nat.beq q.1 ci then (match vg_nth q.2 k with
      | some none => K n lv (.inl (.int (σ m k)) :: t) σ
      | some (some z) => K n lv (.inr z :: t) σ
      | none => False) else False
    | _ => False)
  | _ => False
def vi_put (shp : vgN → vgH) (ci k n : Nat) : vgF := fun _ K lv st σ => match st with
  | .inl (.int x) :: .inr m :: t => (match shp m with
    | .inl q => bif Nat.beq q.1 ci then (match vg_nth q.2 k with
      | some none => K n lv t (vg_st σ m k x)
      | _ => False) else False
    | _ => False)
  | _ => False
def vi_putZ (shp : vgN → vgH) (ci k n : Nat) : vgF := fun _ K lv st σ => match st with
  | .inl (.int x) :: .inr m :: t => (match shp m with
    | .inl q => bif Nat.beq q.1 ci then (match vg_nth q.2 k with
      | some none => (x = 0 ∨ x = 1) ∧ K n lv t (vg_st σ m k x)
      | _ => False) else False
    | _ => False)
  | _ => False
def vi_ald (shp : vgN → vgH) (t0 n : Nat) : vgF := fun _ K lv st σ => match st with
  | .inl (.int i) :: .inr m :: t => (match shp m with
    | .inr (.inl q) => bif Nat.beq q.1 t0 then (vp_in i q.2 ∧ K n lv (.inl (.int (σ m i.toNatClampNeg)) :: t) σ) else False
    | _ => False)
  | _ => False
def vi_ast (shp : vgN → vgH) (t0 n : Nat) : vgF := fun _ K lv st σ => match st with
  | .inl (.int x) :: .inl (.int i) :: .inr m :: t => (match shp m with
    | .inr (.inl q) => bif Nat.beq q.1 t0 then (vp_in i q.2 ∧ K n lv t (vg_st σ m i.toNatClampNeg x)) else False
    | _ => False)
  | _ => False
def vi_astZ (shp : vgN → vgH) (t0 n : Nat) : vgF := fun _ K lv st σ => match st with
  | .inl (.int x) :: .inl (.int i) :: .inr m :: t => (match shp m with
    | .inr (.inl q) => bif Nat.beq q.1 t0 then ((vp_in i q.2 ∧ (x = 0 ∨ x = 1)) ∧ K n lv t (vg_st σ m i.toNatClampNeg x)) else False
    | _ => False)
  | _ => False
def vi_aald (shp : vgN → vgH) (t0 n : Nat) : vgF := fun _ K lv st σ => match st with
  | .inl (.int i) :: .inr m :: t => (match shp m with
    | .inr (.inr q) => bif Nat.beq q.1 t0 then (vp_in i q.2.1 ∧ K n lv (.inr (q.2.2 i.toNatClampNeg) :: t) σ) else False
    | _ => False)
  | _ => False
/-- System.arraycopy of a whole row of ints -/
def vi_cpy (shp : vgN → vgH) (t0 n : Nat) : vgF := fun _ K lv st σ => match st with
  | .inl (.int len) :: .inl (.int dp) :: .inr d :: .inl (.int sp) :: .inr m :: t => (match shp m, shp d with
    | .inr (.inl q), .inr (.inl r) => bif Nat.beq q.1 t0 && Nat.beq r.1 t0 && Nat.ble (vg_wd t) 8 then ((sp = 0 ∧ dp = 0 ∧ ¬ len < 0 ∧ len.toNatClampNeg ≤ q.2 ∧ len.toNatClampNeg ≤ r.2) ∧ K n lv t (vg_cp σ m d len.toNatClampNeg)) else False
    | _, _ => False)
  | _ => False
def vg_pop : Nat → vgT → vgT → Option (vgT × vgT)
  | 0, acc, st => some (acc, st)
  | k + 1, acc, v :: st => vg_pop k (v :: acc) st
  | _ + 1, _, [] => none
abbrev vgC : Type := vgT → vgS → Prop × Option vgV × vgS
def vg_k (K : vgK) (n : Nat) (lv : vgL) (st : vgT) (r : Option vgV) (σ : vgS) : Prop := match r with
  | none => K n lv st σ
  | some v => K n lv (v :: st) σ
/-- a call of a static method by its contract -/
def vi_callS (sp : vgC) (k n : Nat) : vgF := fun _ K lv st σ => match vg_pop k [] st with
  | some q => bif Nat.ble (vg_wd q.2) 8 then ((sp q.1 σ).1 ∧ vg_k K n lv q.2 (sp q.1 σ).2.1 (sp q.1 σ).2.2) else False
  | none => False
/-- a call of an object's method -/
def vi_callV (shp : vgN → vgH) (ci : Nat) (sp : vgC) (k n : Nat) : vgF := fun _ K lv st σ => match vg_pop (k + 1) [] st with
  | some (.inr m :: as, t) => (match shp m with
    | .inl o => bif Nat.beq o.1 ci && Nat.ble (vg_wd t) 8 then ((sp (.inr m :: as) σ).1 ∧ vg_k K n lv t (sp (.inr m :: as) σ).2.1 (sp (.inr m :: as) σ).2.2) else False
    | _ => False)
  | _ => False
def vi_max (n : Nat) : vgF := fun _ K lv st σ => match st with
  | .inl (.int y) :: .inl (.int x) :: t => bif Nat.ble (vg_wd t) 8 then K n lv (.inl (.int (if x < y then y else x)) :: t) σ else False
  | _ => False
def vi_min (n : Nat) : vgF := fun _ K lv st σ => match st with
  | .inl (.int y) :: .inl (.int x) :: t => bif Nat.ble (vg_wd t) 8 then K n lv (.inl (.int (if y < x then y else x)) :: t) σ else False
  | _ => False
def vi_abs (n : Nat) : vgF := fun _ K lv st σ => match st with
  | .inl (.int x) :: t => bif Nat.ble (vg_wd t) 8 then K n lv (.inl (.int (if 0 ≤ x then x else 0 - x)) :: t) σ else False
  | _ => False
def vi_ret : vgF := fun P _ _ st σ => match st with
  | [.inl (.int x)] => P (some (.inl (.int x))) σ
  | _ => False
def vi_retZ : vgF := fun P _ _ st σ => match st with
  | [.inl (.int x)] => (x = 0 ∨ x = 1) ∧ P (some (.inl (.int x))) σ
  | _ => False
def vi_retL : vgF := fun P _ _ st σ => match st with
  | [.inl (.long x)] => P (some (.inl (.long x))) σ
  | _ => False
def vi_retV : vgF := fun P _ _ st σ => match st with
  | [] => P none σ
  | _ => False
section VS
variable {tb : List Cond} {shp : vgN → vgH} {nm : List vgN} {cl : List vw_C} {tyl : List FieldType} {cc : ByteArray} {nL : Nat} {own : String} {ret : Option FieldType} {d pc n : Nat}
theorem vg_okc {v : vgV} {t : vgT} (hv : vg_ok nm v) (h : ∀ w ∈ t, vg_ok nm w) : ∀ w ∈ v :: t, vg_ok nm w := fun w hw => (List.mem_cons.mp hw).elim (fun e => e ▸ hv) (h w)
theorem vg_okt {v : vgV} {t : vgT} (h : ∀ w ∈ v :: t, vg_ok nm w) : ∀ w ∈ t, vg_ok nm w := fun w hw => h w (List.mem_cons_of_mem _ hw)
theorem vg_okh {v : vgV} {t : vgT} (h : ∀ w ∈ v :: t, vg_ok nm w) : vg_ok nm v := h v List.mem_cons_self
theorem vg_okl {lv : vgL} {i : Nat} {v : vgV} (h : ∀ q ∈ lv, vg_ok nm q.2) (hv : vg_look lv i = some v) : vg_ok nm v := h (i, v) (vg_look_mem hv)
theorem vg_lms {ad : vgN → Nat} {lv : vgL} {ls : Array Slot} {nL i : Nat} (h : lv_has ls nL (vg_lm ad lv)) {v : vgV} (hv : vg_look lv i = some v) : i < nL := by
  have := vg_lm_at h hv
  rw [← h.1]
  exact (Array.getElem?_eq_some_iff.mp this).1
theorem vs_no : vg_Snd tb shp nm cl tyl cc nL own ret d pc vi_no := ⟨fun _ _ _ _ _ _ _ h => h, fun _ _ _ _ _ _ _ _ _ _ _ _ _ _ _ _ _ _ _ h => h.elim⟩
theorem vs_iconst {z : Int} {v : Int32} (hd : decode cc pc = .ok (.iconst z, 1)) (hv : Int32.ofInt z = v) (hn : pc + 1 = n) : vg_Snd tb shp nm cl tyl cc nL own ret d pc (vi_icst v n) := by
  subst hn
  refine ⟨fun P K K' h lv st σ g => h _ _ _ _ g, ?_⟩
  intro p l e R s m args below meth c D tys ad A P C0 lv st σ h H locs ls hl ho hs hP hS
  exact lv_iconst C0.1 C0.2.1 hd hv (h H locs ls hl ho (vg_okc trivial hs) hP hS)
theorem vs_bipush {z : Int} {v : Int32} (hd : decode cc pc = .ok (.bipush z, 2)) (hv : (Int8.ofInt z).toInt32 = v) (hn : pc + 2 = n) : vg_Snd tb shp nm cl tyl cc nL own ret d pc (vi_icst v n) := by
  subst hn
  refine ⟨fun P K K' h lv st σ g => h _ _ _ _ g, ?_⟩
  intro p l e R s m args below meth c D tys ad A P C0 lv st σ h H locs ls hl ho hs hP hS
  exact lv_bipush C0.1 C0.2.1 hd hv (h H locs ls hl ho (vg_okc trivial hs) hP hS)
theorem vs_sipush {z : Int} {v : Int32} (hd : decode cc pc = .ok (.sipush z, 3)) (hv : (Int16.ofInt z).toInt32 = v) (hn : pc + 3 = n) : vg_Snd tb shp nm cl tyl cc nL own ret d pc (vi_icst v n) := by
  subst hn
  refine ⟨fun P K K' h lv st σ g => h _ _ _ _ g, ?_⟩
  intro p l e R s m args below meth c D tys ad A P C0 lv st σ h H locs ls hl ho hs hP hS
  exact lv_sipush C0.1 C0.2.1 hd hv (h H locs ls hl ho (vg_okc trivial hs) hP hS)
theorem vs_ldc {ix : Nat} {v : Int32} (hd : decode cc pc = .ok (.ldc ix, 2)) (hw : Cond.constant own ix v ∈ tb) (hn : pc + 2 = n) : vg_Snd tb shp nm cl tyl cc nL own ret d pc (vi_icst v n) := by
  subst hn
  refine ⟨fun P K K' h lv st σ g => h _ _ _ _ g, ?_⟩
  intro p l e R s m args below meth c D tys ad A P C0 lv st σ h H locs ls hl ho hs hP hS
  exact lv_ldc C0.1 C0.2.1 C0.2.2.2.1 (C0.2.2.2.2.1 _ hw) hd (h H locs ls hl ho (vg_okc trivial hs) hP hS)
theorem vs_ldcw {ix : Nat} {v : Int32} (hd : decode cc pc = .ok (.ldc_w ix, 3)) (hw : Cond.constant own ix v ∈ tb) (hn : pc + 3 = n) : vg_Snd tb shp nm cl tyl cc nL own ret d pc (vi_icst v n) := by
  subst hn
  refine ⟨fun P K K' h lv st σ g => h _ _ _ _ g, ?_⟩
  intro p l e R s m args below meth c D tys ad A P C0 lv st σ h H locs ls hl ho hs hP hS
  exact lv_ldcw C0.1 C0.2.1 C0.2.2.2.1 (C0.2.2.2.2.1 _ hw) hd (h H locs ls hl ho (vg_okc trivial hs) hP hS)
theorem vs_ldc2 {ix : Nat} {v : Int64} (hd : decode cc pc = .ok (.ldc2_w ix, 3)) (hw : Cond.constantLong own ix v ∈ tb) (hn : pc + 3 = n) : vg_Snd tb shp nm cl tyl cc nL own ret d pc (vi_lcst v n) := by
  subst hn
  refine ⟨fun P K K' h lv st σ g => h _ _ _ _ g, ?_⟩
  intro p l e R s m args below meth c D tys ad A P C0 lv st σ h H locs ls hl ho hs hP hS
  exact lv_ldc2 C0.1 C0.2.1 C0.2.2.2.1 (C0.2.2.2.2.1 _ hw) hd (h H locs ls hl ho (vg_okc trivial hs) hP hS)
theorem vs_m1 {F : (vgK → vgL → vgT → vgS → Prop)} (h : ∀ (K K' : vgK), (∀ pc lv st σ, K pc lv st σ → K' pc lv st σ) → ∀ lv st σ, F K lv st σ → F K' lv st σ) : vg_Mono (fun _ => F) := fun _ K K' => h K K'
theorem vs_iload_n {k : Fin 4} {i : Nat} (hd : decode cc pc = .ok (.iload_n k, 1)) (hi : (k : Nat) = i) (hn : pc + 1 = n) : vg_Snd tb shp nm cl tyl cc nL own ret d pc (vi_iload i n) := by
  subst hn
  refine ⟨vs_m1 fun K K' h lv st σ g => ?_, ?_⟩
  · split at g
    · exact h _ _ _ _ g
    · exact g
  intro p l e R s m args below meth c D tys ad A P C0 lv st σ h H locs ls hl ho hs hP hS
  unfold vi_iload at h
  split at h
  next x hx => exact lv_iload_n C0.1 C0.2.1 hd hi (vg_lm_at hl hx) (h H locs ls hl ho (vg_okc trivial hs) hP hS)
  next => exact h.elim
theorem vs_iload {i : Nat} (hd : decode cc pc = .ok (.iload i, 2)) (hn : pc + 2 = n) : vg_Snd tb shp nm cl tyl cc nL own ret d pc (vi_iload i n) := by
  subst hn
  refine ⟨vs_m1 fun K K' h lv st σ g => ?_, ?_⟩
  · split at g
    · exact h _ _ _ _ g
    · exact g
  intro p l e R s m args below meth c D tys ad A P C0 lv st σ h H locs ls hl ho hs hP hS
  unfold vi_iload at h
  split at h
  next x hx => exact lv_iload C0.1 C0.2.1 hd (vg_lm_at hl hx) (h H locs ls hl ho (vg_okc trivial hs) hP hS)
  next => exact h.elim
theorem vs_lload_n {k : Fin 4} {i : Nat} (hd : decode cc pc = .ok (.lload_n k, 1)) (hi : (k : Nat) = i) (hn : pc + 1 = n) : vg_Snd tb shp nm cl tyl cc nL own ret d pc (vi_lload i n) := by
  subst hn
  refine ⟨vs_m1 fun K K' h lv st σ g => ?_, ?_⟩
  · split at g
    · exact h _ _ _ _ g
    · exact g
  intro p l e R s m args below meth c D tys ad A P C0 lv st σ h H locs ls hl ho hs hP hS
  unfold vi_lload at h
  split at h
  next x hx => exact lv_lload_n C0.1 C0.2.1 hd hi (vg_lm_at hl hx) (h H locs ls hl ho (vg_okc trivial hs) hP hS)
  next => exact h.elim
theorem vs_lload {i : Nat} (hd : decode cc pc = .ok (.lload i, 2)) (hn : pc + 2 = n) : vg_Snd tb shp nm cl tyl cc nL own ret d pc (vi_lload i n) := by
  subst hn
  refine ⟨vs_m1 fun K K' h lv st σ g => ?_, ?_⟩
  · split at g
    · exact h _ _ _ _ g
    · exact g
  intro p l e R s m args below meth c D tys ad A P C0 lv st σ h H locs ls hl ho hs hP hS
  unfold vi_lload at h
  split at h
  next x hx => exact lv_lload C0.1 C0.2.1 hd (vg_lm_at hl hx) (h H locs ls hl ho (vg_okc trivial hs) hP hS)
  next => exact h.elim
theorem vs_aload_n {k : Fin 4} {i : Nat} (hd : decode cc pc = .ok (.aload_n k, 1)) (hi : (k : Nat) = i) (hn : pc + 1 = n) : vg_Snd tb shp nm cl tyl cc nL own ret d pc (vi_aload i n) := by
  subst hn
  refine ⟨vs_m1 fun K K' h lv st σ g => ?_, ?_⟩
  · split at g
    · exact h _ _ _ _ g
    · exact g
  intro p l e R s m args below meth c D tys ad A P C0 lv st σ h H locs ls hl ho hs hP hS
  unfold vi_aload at h
  split at h
  next x hx => exact lv_aload_n C0.1 C0.2.1 hd hi (vg_lm_at hl hx) (h H locs ls hl ho (vg_okc (vg_okl ho hx) hs) hP hS)
  next => exact h.elim
theorem vs_aload {i : Nat} (hd : decode cc pc = .ok (.aload i, 2)) (hn : pc + 2 = n) : vg_Snd tb shp nm cl tyl cc nL own ret d pc (vi_aload i n) := by
  subst hn
  refine ⟨vs_m1 fun K K' h lv st σ g => ?_, ?_⟩
  · split at g
    · exact h _ _ _ _ g
    · exact g
  intro p l e R s m args below meth c D tys ad A P C0 lv st σ h H locs ls hl ho hs hP hS
  unfold vi_aload at h
  split at h
  next x hx => exact lv_aload C0.1 C0.2.1 hd (vg_lm_at hl hx) (h H locs ls hl ho (vg_okc (vg_okl ho hx) hs) hP hS)
  next => exact h.elim
theorem vs_istore_n {k : Fin 4} {i : Nat} (hd : decode cc pc = .ok (.istore_n k, 1)) (hi : (k : Nat) = i) (hL : i < nL) (hn : pc + 1 = n) : vg_Snd tb shp nm cl tyl cc nL own ret d pc (vi_istore i n) := by
  subst hn
  refine ⟨vs_m1 fun K K' h lv st σ g => ?_, ?_⟩
  · split at g
    · exact h _ _ _ _ g
    · exact g
  intro p l e R s m args below meth c D tys ad A P C0 lv st σ h H locs ls hl ho hs hP hS
  unfold vi_istore at h
  split at h
  next x t => exact lv_istore_n C0.1 C0.2.1 hd hi hl hL (vg_lm_put ad lv i (.inl (.int x))) (fun ls' hl' => h H locs ls' hl' (vg_ok_put ho trivial) (vg_okt hs) hP hS)
  next => exact h.elim
theorem vs_istore {i : Nat} (hd : decode cc pc = .ok (.istore i, 2)) (hL : i < nL) (hn : pc + 2 = n) : vg_Snd tb shp nm cl tyl cc nL own ret d pc (vi_istore i n) := by
  subst hn
  refine ⟨vs_m1 fun K K' h lv st σ g => ?_, ?_⟩
  · split at g
    · exact h _ _ _ _ g
    · exact g
  intro p l e R s m args below meth c D tys ad A P C0 lv st σ h H locs ls hl ho hs hP hS
  unfold vi_istore at h
  split at h
  next x t => exact lv_istore C0.1 C0.2.1 hd hl hL (vg_lm_put ad lv i (.inl (.int x))) (fun ls' hl' => h H locs ls' hl' (vg_ok_put ho trivial) (vg_okt hs) hP hS)
  next => exact h.elim
theorem vs_lstore_n {k : Fin 4} {i : Nat} (hd : decode cc pc = .ok (.lstore_n k, 1)) (hi : (k : Nat) = i) (hL : i + 1 < nL) (hn : pc + 1 = n) : vg_Snd tb shp nm cl tyl cc nL own ret d pc (vi_lstore i n) := by
  subst hn
  refine ⟨vs_m1 fun K K' h lv st σ g => ?_, ?_⟩
  · split at g
    · exact h _ _ _ _ g
    · exact g
  intro p l e R s m args below meth c D tys ad A P C0 lv st σ h H locs ls hl ho hs hP hS
  unfold vi_lstore at h
  split at h
  next x t => exact lv_lstore_n C0.1 C0.2.1 hd hi hl hL (vg_lm_put2 ad lv i (.inl (.long x))) (fun ls' hl' => h H locs ls' hl' (vg_ok_put2 ho trivial) (vg_okt hs) hP hS)
  next => exact h.elim
theorem vs_lstore {i : Nat} (hd : decode cc pc = .ok (.lstore i, 2)) (hL : i + 1 < nL) (hn : pc + 2 = n) : vg_Snd tb shp nm cl tyl cc nL own ret d pc (vi_lstore i n) := by
  subst hn
  refine ⟨vs_m1 fun K K' h lv st σ g => ?_, ?_⟩
  · split at g
    · exact h _ _ _ _ g
    · exact g
  intro p l e R s m args below meth c D tys ad A P C0 lv st σ h H locs ls hl ho hs hP hS
  unfold vi_lstore at h
  split at h
  next x t => exact lv_lstore C0.1 C0.2.1 hd hl hL (vg_lm_put2 ad lv i (.inl (.long x))) (fun ls' hl' => h H locs ls' hl' (vg_ok_put2 ho trivial) (vg_okt hs) hP hS)
  next => exact h.elim
theorem vs_astore_n {k : Fin 4} {i : Nat} (hd : decode cc pc = .ok (.astore_n k, 1)) (hi : (k : Nat) = i) (hL : i < nL) (hn : pc + 1 = n) : vg_Snd tb shp nm cl tyl cc nL own ret d pc (vi_astore i n) := by
  subst hn
  refine ⟨vs_m1 fun K K' h lv st σ g => ?_, ?_⟩
  · split at g
    · exact h _ _ _ _ g
    · exact g
  intro p l e R s m args below meth c D tys ad A P C0 lv st σ h H locs ls hl ho hs hP hS
  unfold vi_astore at h
  split at h
  next x t => exact lv_astore_n C0.1 C0.2.1 hd hi hl hL (vg_lm_put ad lv i (.inr x)) (fun ls' hl' => h H locs ls' hl' (vg_ok_put ho (vg_okh hs)) (vg_okt hs) hP hS)
  next => exact h.elim
theorem vs_astore {i : Nat} (hd : decode cc pc = .ok (.astore i, 2)) (hL : i < nL) (hn : pc + 2 = n) : vg_Snd tb shp nm cl tyl cc nL own ret d pc (vi_astore i n) := by
  subst hn
  refine ⟨vs_m1 fun K K' h lv st σ g => ?_, ?_⟩
  · split at g
    · exact h _ _ _ _ g
    · exact g
  intro p l e R s m args below meth c D tys ad A P C0 lv st σ h H locs ls hl ho hs hP hS
  unfold vi_astore at h
  split at h
  next x t => exact lv_astore C0.1 C0.2.1 hd hl hL (vg_lm_put ad lv i (.inr x)) (fun ls' hl' => h H locs ls' hl' (vg_ok_put ho (vg_okh hs)) (vg_okt hs) hP hS)
  next => exact h.elim
theorem vs_iinc {i : Nat} {z : Int} {v : Int32} (hd : decode cc pc = .ok (.iinc i z, 3)) (hv : Int32.ofInt z = v) (hn : pc + 3 = n) : vg_Snd tb shp nm cl tyl cc nL own ret d pc (vi_iinc i v n) := by
  subst hn
  refine ⟨vs_m1 fun K K' h lv st σ g => ?_, ?_⟩
  · split at g
    · exact h _ _ _ _ g
    · exact g
  intro p l e R s m args below meth c D tys ad A P C0 lv st σ h H locs ls hl ho hs hP hS
  unfold vi_iinc at h
  split at h
  next x hx =>
    obtain ⟨k, hk⟩ := List.getElem?_of_mem (vg_look_mem hx)
    exact lv_iinc (k := k) C0.1 C0.2.1 hd hl (by unfold vg_lm; rw [List.getElem?_map, hk]; rfl) (by rw [hv]) (vg_lms hl hx) (vg_lm_put ad lv i (.inl (.int (x + v)))) (fun ls' hl' => h H locs ls' hl' (vg_ok_put ho trivial) hs hP hS)
  next => exact h.elim
theorem vs_iadd (hd : decode cc pc = .ok (.iadd, 1)) (hn : pc + 1 = n) : vg_Snd tb shp nm cl tyl cc nL own ret d pc (vi_bin (fun x y => x + y) n) := by
  subst hn
  refine ⟨vs_m1 fun K K' h lv st σ g => ?_, ?_⟩
  · split at g
    · exact h _ _ _ _ g
    · exact g
  intro p l e R s m args below meth c D tys ad A P C0 lv st σ h H locs ls hl ho hs hP hS
  unfold vi_bin at h
  split at h
  next y x t => exact lv_iadd C0.1 C0.2.1 hd (h H locs ls hl ho (vg_okc trivial (vg_okt (vg_okt hs))) hP hS)
  next => exact h.elim
theorem vs_isub (hd : decode cc pc = .ok (.isub, 1)) (hn : pc + 1 = n) : vg_Snd tb shp nm cl tyl cc nL own ret d pc (vi_bin (fun x y => x - y) n) := by
  subst hn
  refine ⟨vs_m1 fun K K' h lv st σ g => ?_, ?_⟩
  · split at g
    · exact h _ _ _ _ g
    · exact g
  intro p l e R s m args below meth c D tys ad A P C0 lv st σ h H locs ls hl ho hs hP hS
  unfold vi_bin at h
  split at h
  next y x t => exact lv_isub C0.1 C0.2.1 hd (h H locs ls hl ho (vg_okc trivial (vg_okt (vg_okt hs))) hP hS)
  next => exact h.elim
theorem vs_imul (hd : decode cc pc = .ok (.imul, 1)) (hn : pc + 1 = n) : vg_Snd tb shp nm cl tyl cc nL own ret d pc (vi_bin (fun x y => x * y) n) := by
  subst hn
  refine ⟨vs_m1 fun K K' h lv st σ g => ?_, ?_⟩
  · split at g
    · exact h _ _ _ _ g
    · exact g
  intro p l e R s m args below meth c D tys ad A P C0 lv st σ h H locs ls hl ho hs hP hS
  unfold vi_bin at h
  split at h
  next y x t => exact lv_imul C0.1 C0.2.1 hd (h H locs ls hl ho (vg_okc trivial (vg_okt (vg_okt hs))) hP hS)
  next => exact h.elim
theorem vs_iand (hd : decode cc pc = .ok (.iand, 1)) (hn : pc + 1 = n) : vg_Snd tb shp nm cl tyl cc nL own ret d pc (vi_bin (fun x y => x &&& y) n) := by
  subst hn
  refine ⟨vs_m1 fun K K' h lv st σ g => ?_, ?_⟩
  · split at g
    · exact h _ _ _ _ g
    · exact g
  intro p l e R s m args below meth c D tys ad A P C0 lv st σ h H locs ls hl ho hs hP hS
  unfold vi_bin at h
  split at h
  next y x t => exact lv_iand C0.1 C0.2.1 hd (h H locs ls hl ho (vg_okc trivial (vg_okt (vg_okt hs))) hP hS)
  next => exact h.elim
theorem vs_ior (hd : decode cc pc = .ok (.ior, 1)) (hn : pc + 1 = n) : vg_Snd tb shp nm cl tyl cc nL own ret d pc (vi_bin (fun x y => x ||| y) n) := by
  subst hn
  refine ⟨vs_m1 fun K K' h lv st σ g => ?_, ?_⟩
  · split at g
    · exact h _ _ _ _ g
    · exact g
  intro p l e R s m args below meth c D tys ad A P C0 lv st σ h H locs ls hl ho hs hP hS
  unfold vi_bin at h
  split at h
  next y x t => exact lv_ior C0.1 C0.2.1 hd (h H locs ls hl ho (vg_okc trivial (vg_okt (vg_okt hs))) hP hS)
  next => exact h.elim
theorem vs_ixor (hd : decode cc pc = .ok (.ixor, 1)) (hn : pc + 1 = n) : vg_Snd tb shp nm cl tyl cc nL own ret d pc (vi_bin (fun x y => x ^^^ y) n) := by
  subst hn
  refine ⟨vs_m1 fun K K' h lv st σ g => ?_, ?_⟩
  · split at g
    · exact h _ _ _ _ g
    · exact g
  intro p l e R s m args below meth c D tys ad A P C0 lv st σ h H locs ls hl ho hs hP hS
  unfold vi_bin at h
  split at h
  next y x t => exact lv_ixor C0.1 C0.2.1 hd (h H locs ls hl ho (vg_okc trivial (vg_okt (vg_okt hs))) hP hS)
  next => exact h.elim
theorem vs_ishl (hd : decode cc pc = .ok (.ishl, 1)) (hn : pc + 1 = n) : vg_Snd tb shp nm cl tyl cc nL own ret d pc (vi_bin (fun x y => x <<< (y &&& 31)) n) := by
  subst hn
  refine ⟨vs_m1 fun K K' h lv st σ g => ?_, ?_⟩
  · split at g
    · exact h _ _ _ _ g
    · exact g
  intro p l e R s m args below meth c D tys ad A P C0 lv st σ h H locs ls hl ho hs hP hS
  unfold vi_bin at h
  split at h
  next y x t => exact lv_ishl C0.1 C0.2.1 hd (h H locs ls hl ho (vg_okc trivial (vg_okt (vg_okt hs))) hP hS)
  next => exact h.elim
theorem vs_ishr (hd : decode cc pc = .ok (.ishr, 1)) (hn : pc + 1 = n) : vg_Snd tb shp nm cl tyl cc nL own ret d pc (vi_bin (fun x y => x >>> (y &&& 31)) n) := by
  subst hn
  refine ⟨vs_m1 fun K K' h lv st σ g => ?_, ?_⟩
  · split at g
    · exact h _ _ _ _ g
    · exact g
  intro p l e R s m args below meth c D tys ad A P C0 lv st σ h H locs ls hl ho hs hP hS
  unfold vi_bin at h
  split at h
  next y x t => exact lv_ishr C0.1 C0.2.1 hd (h H locs ls hl ho (vg_okc trivial (vg_okt (vg_okt hs))) hP hS)
  next => exact h.elim
theorem vs_idiv (hd : decode cc pc = .ok (.idiv, 1)) (hn : pc + 1 = n) : vg_Snd tb shp nm cl tyl cc nL own ret d pc (vi_div (fun x y => x / y) n) := by
  subst hn
  refine ⟨vs_m1 fun K K' h lv st σ g => ?_, ?_⟩
  · split at g
    · exact ⟨g.1, h _ _ _ _ g.2⟩
    · exact g
  intro p l e R s m args below meth c D tys ad A P C0 lv st σ h H locs ls hl ho hs hP hS
  unfold vi_div at h
  split at h
  next y x t => exact lv_idiv C0.1 C0.2.1 hd h.1 (h.2 H locs ls hl ho (vg_okc trivial (vg_okt (vg_okt hs))) hP hS)
  next => exact h.elim
theorem vs_irem (hd : decode cc pc = .ok (.irem, 1)) (hn : pc + 1 = n) : vg_Snd tb shp nm cl tyl cc nL own ret d pc (vi_div (fun x y => x - x / y * y) n) := by
  subst hn
  refine ⟨vs_m1 fun K K' h lv st σ g => ?_, ?_⟩
  · split at g
    · exact ⟨g.1, h _ _ _ _ g.2⟩
    · exact g
  intro p l e R s m args below meth c D tys ad A P C0 lv st σ h H locs ls hl ho hs hP hS
  unfold vi_div at h
  split at h
  next y x t => exact lv_irem C0.1 C0.2.1 hd h.1 (h.2 H locs ls hl ho (vg_okc trivial (vg_okt (vg_okt hs))) hP hS)
  next => exact h.elim
theorem vs_ladd (hd : decode cc pc = .ok (.ladd, 1)) (hn : pc + 1 = n) : vg_Snd tb shp nm cl tyl cc nL own ret d pc (vi_lbin (fun x y => x + y) n) := by
  subst hn
  refine ⟨vs_m1 fun K K' h lv st σ g => ?_, ?_⟩
  · split at g
    · exact h _ _ _ _ g
    · exact g
  intro p l e R s m args below meth c D tys ad A P C0 lv st σ h H locs ls hl ho hs hP hS
  unfold vi_lbin at h
  split at h
  next y x t => exact lv_ladd C0.1 C0.2.1 hd (h H locs ls hl ho (vg_okc trivial (vg_okt (vg_okt hs))) hP hS)
  next => exact h.elim
theorem vs_lmul (hd : decode cc pc = .ok (.lmul, 1)) (hn : pc + 1 = n) : vg_Snd tb shp nm cl tyl cc nL own ret d pc (vi_lbin (fun x y => x * y) n) := by
  subst hn
  refine ⟨vs_m1 fun K K' h lv st σ g => ?_, ?_⟩
  · split at g
    · exact h _ _ _ _ g
    · exact g
  intro p l e R s m args below meth c D tys ad A P C0 lv st σ h H locs ls hl ho hs hP hS
  unfold vi_lbin at h
  split at h
  next y x t => exact lv_lmul C0.1 C0.2.1 hd (h H locs ls hl ho (vg_okc trivial (vg_okt (vg_okt hs))) hP hS)
  next => exact h.elim
theorem vs_i2l (hd : decode cc pc = .ok (.i2l, 1)) (hn : pc + 1 = n) : vg_Snd tb shp nm cl tyl cc nL own ret d pc (vi_i2l n) := by
  subst hn
  refine ⟨vs_m1 fun K K' h lv st σ g => ?_, ?_⟩
  · split at g
    · exact h _ _ _ _ g
    · exact g
  intro p l e R s m args below meth c D tys ad A P C0 lv st σ h H locs ls hl ho hs hP hS
  unfold vi_i2l at h
  split at h
  next x t => exact lv_i2l C0.1 C0.2.1 hd rfl (h H locs ls hl ho (vg_okc trivial (vg_okt hs)) hP hS)
  next => exact h.elim
theorem vs_if_eq {off : Int} {g : Nat} (hd : decode cc pc = .ok (.ifCond .eq off, 3)) (ht : (pc : Int) + off = (g : Int)) (hn : pc + 3 = n) : vg_Snd tb shp nm cl tyl cc nL own ret d pc (vi_if (fun x => x = 0) g n) := by
  subst hn
  refine ⟨vs_m1 fun K K' h lv st σ g => ?_, ?_⟩
  · split at g
    · exact ⟨fun q => h _ _ _ _ (g.1 q), fun q => h _ _ _ _ (g.2 q)⟩
    · exact g
  intro p l e R s m args below meth c D tys ad A P C0 lv st σ h H locs ls hl ho hs hP hS
  unfold vi_if at h
  split at h
  next x t => exact lv_if_eq C0.1 C0.2.1 hd ht (fun q => h.1 q H locs ls hl ho (vg_okt hs) hP hS) (fun q => h.2 q H locs ls hl ho (vg_okt hs) hP hS)
  next => exact h.elim
theorem vs_if_ne {off : Int} {g : Nat} (hd : decode cc pc = .ok (.ifCond .ne off, 3)) (ht : (pc : Int) + off = (g : Int)) (hn : pc + 3 = n) : vg_Snd tb shp nm cl tyl cc nL own ret d pc (vi_if (fun x => x = 0) n g) := by
  subst hn
  refine ⟨vs_m1 fun K K' h lv st σ g => ?_, ?_⟩
  · split at g
    · exact ⟨fun q => h _ _ _ _ (g.1 q), fun q => h _ _ _ _ (g.2 q)⟩
    · exact g
  intro p l e R s m args below meth c D tys ad A P C0 lv st σ h H locs ls hl ho hs hP hS
  unfold vi_if at h
  split at h
  next x t => exact lv_if_ne C0.1 C0.2.1 hd ht (fun q => h.2 q H locs ls hl ho (vg_okt hs) hP hS) (fun q => h.1 q H locs ls hl ho (vg_okt hs) hP hS)
  next => exact h.elim
theorem vs_if_lt {off : Int} {g : Nat} (hd : decode cc pc = .ok (.ifCond .lt off, 3)) (ht : (pc : Int) + off = (g : Int)) (hn : pc + 3 = n) : vg_Snd tb shp nm cl tyl cc nL own ret d pc (vi_if (fun x => x < 0) g n) := by
  subst hn
  refine ⟨vs_m1 fun K K' h lv st σ g => ?_, ?_⟩
  · split at g
    · exact ⟨fun q => h _ _ _ _ (g.1 q), fun q => h _ _ _ _ (g.2 q)⟩
    · exact g
  intro p l e R s m args below meth c D tys ad A P C0 lv st σ h H locs ls hl ho hs hP hS
  unfold vi_if at h
  split at h
  next x t => exact lv_if_lt C0.1 C0.2.1 hd ht (fun q => h.1 q H locs ls hl ho (vg_okt hs) hP hS) (fun q => h.2 q H locs ls hl ho (vg_okt hs) hP hS)
  next => exact h.elim
theorem vs_if_ge {off : Int} {g : Nat} (hd : decode cc pc = .ok (.ifCond .ge off, 3)) (ht : (pc : Int) + off = (g : Int)) (hn : pc + 3 = n) : vg_Snd tb shp nm cl tyl cc nL own ret d pc (vi_if (fun x => 0 ≤ x) g n) := by
  subst hn
  refine ⟨vs_m1 fun K K' h lv st σ g => ?_, ?_⟩
  · split at g
    · exact ⟨fun q => h _ _ _ _ (g.1 q), fun q => h _ _ _ _ (g.2 q)⟩
    · exact g
  intro p l e R s m args below meth c D tys ad A P C0 lv st σ h H locs ls hl ho hs hP hS
  unfold vi_if at h
  split at h
  next x t => exact lv_if_ge C0.1 C0.2.1 hd ht (fun q => h.1 q H locs ls hl ho (vg_okt hs) hP hS) (fun q => h.2 q H locs ls hl ho (vg_okt hs) hP hS)
  next => exact h.elim
theorem vs_if_gt {off : Int} {g : Nat} (hd : decode cc pc = .ok (.ifCond .gt off, 3)) (ht : (pc : Int) + off = (g : Int)) (hn : pc + 3 = n) : vg_Snd tb shp nm cl tyl cc nL own ret d pc (vi_if (fun x => 0 < x) g n) := by
  subst hn
  refine ⟨vs_m1 fun K K' h lv st σ g => ?_, ?_⟩
  · split at g
    · exact ⟨fun q => h _ _ _ _ (g.1 q), fun q => h _ _ _ _ (g.2 q)⟩
    · exact g
  intro p l e R s m args below meth c D tys ad A P C0 lv st σ h H locs ls hl ho hs hP hS
  unfold vi_if at h
  split at h
  next x t => exact lv_if_gt C0.1 C0.2.1 hd ht (fun q => h.1 q H locs ls hl ho (vg_okt hs) hP hS) (fun q => h.2 q H locs ls hl ho (vg_okt hs) hP hS)
  next => exact h.elim
theorem vs_if_le {off : Int} {g : Nat} (hd : decode cc pc = .ok (.ifCond .le off, 3)) (ht : (pc : Int) + off = (g : Int)) (hn : pc + 3 = n) : vg_Snd tb shp nm cl tyl cc nL own ret d pc (vi_if (fun x => x ≤ 0) g n) := by
  subst hn
  refine ⟨vs_m1 fun K K' h lv st σ g => ?_, ?_⟩
  · split at g
    · exact ⟨fun q => h _ _ _ _ (g.1 q), fun q => h _ _ _ _ (g.2 q)⟩
    · exact g
  intro p l e R s m args below meth c D tys ad A P C0 lv st σ h H locs ls hl ho hs hP hS
  unfold vi_if at h
  split at h
  next x t => exact lv_if_le C0.1 C0.2.1 hd ht (fun q => h.1 q H locs ls hl ho (vg_okt hs) hP hS) (fun q => h.2 q H locs ls hl ho (vg_okt hs) hP hS)
  next => exact h.elim
theorem vs_cmp_eq {off : Int} {g : Nat} (hd : decode cc pc = .ok (.if_icmp .eq off, 3)) (ht : (pc : Int) + off = (g : Int)) (hn : pc + 3 = n) : vg_Snd tb shp nm cl tyl cc nL own ret d pc (vi_cmp (fun x y => x = y) g n) := by
  subst hn
  refine ⟨vs_m1 fun K K' h lv st σ g => ?_, ?_⟩
  · split at g
    · exact ⟨fun q => h _ _ _ _ (g.1 q), fun q => h _ _ _ _ (g.2 q)⟩
    · exact g
  intro p l e R s m args below meth c D tys ad A P C0 lv st σ h H locs ls hl ho hs hP hS
  unfold vi_cmp at h
  split at h
  next y x t => exact lv_icmp_eq C0.1 C0.2.1 hd ht (fun q => h.1 q H locs ls hl ho (vg_okt (vg_okt hs)) hP hS) (fun q => h.2 q H locs ls hl ho (vg_okt (vg_okt hs)) hP hS)
  next => exact h.elim
theorem vs_cmp_ne {off : Int} {g : Nat} (hd : decode cc pc = .ok (.if_icmp .ne off, 3)) (ht : (pc : Int) + off = (g : Int)) (hn : pc + 3 = n) : vg_Snd tb shp nm cl tyl cc nL own ret d pc (vi_cmp (fun x y => x = y) n g) := by
  subst hn
  refine ⟨vs_m1 fun K K' h lv st σ g => ?_, ?_⟩
  · split at g
    · exact ⟨fun q => h _ _ _ _ (g.1 q), fun q => h _ _ _ _ (g.2 q)⟩
    · exact g
  intro p l e R s m args below meth c D tys ad A P C0 lv st σ h H locs ls hl ho hs hP hS
  unfold vi_cmp at h
  split at h
  next y x t => exact lv_icmp_ne C0.1 C0.2.1 hd ht (fun q => h.2 q H locs ls hl ho (vg_okt (vg_okt hs)) hP hS) (fun q => h.1 q H locs ls hl ho (vg_okt (vg_okt hs)) hP hS)
  next => exact h.elim
theorem vs_cmp_lt {off : Int} {g : Nat} (hd : decode cc pc = .ok (.if_icmp .lt off, 3)) (ht : (pc : Int) + off = (g : Int)) (hn : pc + 3 = n) : vg_Snd tb shp nm cl tyl cc nL own ret d pc (vi_cmp (fun x y => x < y) g n) := by
  subst hn
  refine ⟨vs_m1 fun K K' h lv st σ g => ?_, ?_⟩
  · split at g
    · exact ⟨fun q => h _ _ _ _ (g.1 q), fun q => h _ _ _ _ (g.2 q)⟩
    · exact g
  intro p l e R s m args below meth c D tys ad A P C0 lv st σ h H locs ls hl ho hs hP hS
  unfold vi_cmp at h
  split at h
  next y x t => exact lv_icmp_lt C0.1 C0.2.1 hd ht (fun q => h.1 q H locs ls hl ho (vg_okt (vg_okt hs)) hP hS) (fun q => h.2 q H locs ls hl ho (vg_okt (vg_okt hs)) hP hS)
  next => exact h.elim
theorem vs_cmp_ge {off : Int} {g : Nat} (hd : decode cc pc = .ok (.if_icmp .ge off, 3)) (ht : (pc : Int) + off = (g : Int)) (hn : pc + 3 = n) : vg_Snd tb shp nm cl tyl cc nL own ret d pc (vi_cmp (fun x y => y ≤ x) g n) := by
  subst hn
  refine ⟨vs_m1 fun K K' h lv st σ g => ?_, ?_⟩
  · split at g
    · exact ⟨fun q => h _ _ _ _ (g.1 q), fun q => h _ _ _ _ (g.2 q)⟩
    · exact g
  intro p l e R s m args below meth c D tys ad A P C0 lv st σ h H locs ls hl ho hs hP hS
  unfold vi_cmp at h
  split at h
  next y x t => exact lv_icmp_ge C0.1 C0.2.1 hd ht (fun q => h.1 q H locs ls hl ho (vg_okt (vg_okt hs)) hP hS) (fun q => h.2 q H locs ls hl ho (vg_okt (vg_okt hs)) hP hS)
  next => exact h.elim
theorem vs_cmp_gt {off : Int} {g : Nat} (hd : decode cc pc = .ok (.if_icmp .gt off, 3)) (ht : (pc : Int) + off = (g : Int)) (hn : pc + 3 = n) : vg_Snd tb shp nm cl tyl cc nL own ret d pc (vi_cmp (fun x y => y < x) g n) := by
  subst hn
  refine ⟨vs_m1 fun K K' h lv st σ g => ?_, ?_⟩
  · split at g
    · exact ⟨fun q => h _ _ _ _ (g.1 q), fun q => h _ _ _ _ (g.2 q)⟩
    · exact g
  intro p l e R s m args below meth c D tys ad A P C0 lv st σ h H locs ls hl ho hs hP hS
  unfold vi_cmp at h
  split at h
  next y x t => exact lv_icmp_gt C0.1 C0.2.1 hd ht (fun q => h.1 q H locs ls hl ho (vg_okt (vg_okt hs)) hP hS) (fun q => h.2 q H locs ls hl ho (vg_okt (vg_okt hs)) hP hS)
  next => exact h.elim
theorem vs_cmp_le {off : Int} {g : Nat} (hd : decode cc pc = .ok (.if_icmp .le off, 3)) (ht : (pc : Int) + off = (g : Int)) (hn : pc + 3 = n) : vg_Snd tb shp nm cl tyl cc nL own ret d pc (vi_cmp (fun x y => x ≤ y) g n) := by
  subst hn
  refine ⟨vs_m1 fun K K' h lv st σ g => ?_, ?_⟩
  · split at g
    · exact ⟨fun q => h _ _ _ _ (g.1 q), fun q => h _ _ _ _ (g.2 q)⟩
    · exact g
  intro p l e R s m args below meth c D tys ad A P C0 lv st σ h H locs ls hl ho hs hP hS
  unfold vi_cmp at h
  split at h
  next y x t => exact lv_icmp_le C0.1 C0.2.1 hd ht (fun q => h.1 q H locs ls hl ho (vg_okt (vg_okt hs)) hP hS) (fun q => h.2 q H locs ls hl ho (vg_okt (vg_okt hs)) hP hS)
  next => exact h.elim
theorem vs_goto {off : Int} {g : Nat} (hd : decode cc pc = .ok (.goto off, 3)) (ht : (pc : Int) + off = (g : Int)) : vg_Snd tb shp nm cl tyl cc nL own ret d pc (vi_goto g) := by
  refine ⟨vs_m1 fun K K' h lv st σ g => h _ _ _ _ g, ?_⟩
  intro p l e R s m args below meth c D tys ad A P C0 lv st σ h H locs ls hl ho hs hP hS
  exact lv_goto C0.1 C0.2.1 hd ht (h H locs ls hl ho hs hP hS)
theorem vi_sw0_mono {x : Int32} {d d' : Prop} (hd : d → d') {α : Type} {f f' : α → Prop} (hf : ∀ a, f a → f' a) : ∀ (l : List (Int32 × α)), vi_sw0 x d (l.map (fun q => (q.1, f q.2))) → vi_sw0 x d' (l.map (fun q => (q.1, f' q.2)))
  | [], h => hd h
  | q :: r, h => ⟨fun z => hf _ (h.1 z), fun z => vi_sw0_mono hd hf r (h.2 z)⟩
theorem vs_tsw0 {x : Int32} {dP : Prop} {α : Type} {f : α → Prop} : ∀ (cs : List (Int32 × α)), vi_sw0 x dP (cs.map (fun q => (q.1, f q.2))) → (∃ (i : Nat) (q : Int32 × α), cs[i]? = some q ∧ x = q.1 ∧ f q.2) ∨ ((∀ (i : Nat) (q : Int32 × α), cs[i]? = some q → ¬ x = q.1) ∧ dP)
  | [], h => Or.inr ⟨fun i q hq => by simp at hq, h⟩
  | q :: r, h => by
    by_cases hx : x = q.1
    · exact Or.inl ⟨0, q, rfl, hx, h.1 hx⟩
    · rcases vs_tsw0 r (h.2 hx) with ⟨i, a, h1, h2, h3⟩ | ⟨h1, h2⟩
      · exact Or.inl ⟨i + 1, a, h1, h2, h3⟩
      · refine Or.inr ⟨fun i a ha => ?_, h2⟩
        cases i with
        | zero => cases ha; exact hx
        | succ i => exact h1 i a ha
/-- a tableswitch from 0: its targets in a row -/
theorem vs_tsw {dflt hi : Int} {offs : Array Int} {len g : Nat} {cs : List (Int32 × Nat)} (hd : decode cc pc = .ok (.tableswitch dflt 0 hi offs, len)) (hg : (pc : Int) + dflt = (g : Int)) (hh : hi + 1 = (cs.length : Int))
    (hc : ∀ i : Nat, i < cs.length → ∃ q off, cs[i]? = some q ∧ offs[i]? = some off ∧ q.1.toInt = (i : Int) ∧ (pc : Int) + off = (q.2 : Int)) : vg_Snd tb shp nm cl tyl cc nL own ret d pc (vi_sw cs g) := by
  refine ⟨vs_m1 fun K K' h lv st σ g => ?_, ?_⟩
  · split at g
    · exact vi_sw0_mono (h _ _ _ _) (f := fun q => K q lv _ σ) (f' := fun q => K' q lv _ σ) (fun q => h _ _ _ _) cs g
    · exact g
  intro p l e R s m args below meth c D tys ad A P C0 lv st σ h H locs ls hl ho hs hP hS
  unfold vi_sw at h
  split at h
  next x t =>
    rcases vs_tsw0 (f := fun q => vg_X shp nm cl nL p l e R s m args below meth c D tys ad A P q lv t σ) cs h with ⟨i, q, h1, h2, h3⟩ | ⟨h1, h2⟩
    · have hi := (List.getElem?_eq_some_iff.mp h1).1
      obtain ⟨q', off, e1, e2, e3, e4⟩ := hc i hi
      cases e1.symm.trans h1
      refine lv_tableIn C0.1 C0.2.1 hd (by rw [h2, e3]; omega) (by rw [h2, e3]; omega) (off := off) ?_ e4 (h3 H locs ls hl ho (vg_okt hs) hP hS)
      rw [h2, e3, Int.sub_zero, Int.toNat_natCast]
      exact e2
    · refine lv_tableOut C0.1 C0.2.1 hd ?_ hg (h2 H locs ls hl ho (vg_okt hs) hP hS)
      rcases Int.lt_or_le x.toInt 0 with z | z
      · exact Or.inl z
      · refine Or.inr (Int.not_le.mp fun y => ?_)
        have hi : x.toInt.toNat < cs.length := by omega
        obtain ⟨q', off, e1, e2, e3, e4⟩ := hc _ hi
        exact h1 _ q' e1 (Int32.toInt_inj.mp (by rw [e3]; omega))
  next => exact h.elim
theorem vg_cat1 {ad : vgN → Nat} {v : vgV} (h : vg_c2 v = false) : (vg_cv ad v).category = 1 := by
  cases v with
  | inl v => cases v <;> first | rfl | cases h
  | inr n => rfl
theorem vg_wd_sum (ad : vgN → Nat) : ∀ t : vgT, ((t.map (vg_cv ad)).map fun v => v.category).sum = vg_wd t
  | [] => rfl
  | v :: t => by
    have ih := vg_wd_sum ad t
    have h := vg_c2_eq ad v
    show (vg_cv ad v).category + ((t.map (vg_cv ad)).map fun v => v.category).sum = (if vg_c2 v then 2 else 1) + vg_wd t
    rw [ih]
    cases hc : vg_c2 v with
    | true => rw [hc] at h; simp [beq_iff_eq.mp h]
    | false => simp [vg_cat1 hc]
theorem vs_dup (hd : decode cc pc = .ok (.dup, 1)) (hn : pc + 1 = n) : vg_Snd tb shp nm cl tyl cc nL own ret d pc (vi_dup n) := by
  subst hn
  refine ⟨vs_m1 fun K K' h lv st σ g => ?_, ?_⟩
  · split at g
    · exact ⟨g.1, h _ _ _ _ g.2⟩
    · exact g
  intro p l e R s m args below meth c D tys ad A P C0 lv st σ h H locs ls hl ho hs hP hS
  unfold vi_dup at h
  split at h
  next a t => exact lv_dup C0.1 C0.2.1 hd (vg_cat1 h.1) (h.2 H locs ls hl ho (vg_okc (vg_okh hs) hs) hP hS)
  next => exact h.elim
theorem vs_pop (hd : decode cc pc = .ok (.pop, 1)) (hn : pc + 1 = n) : vg_Snd tb shp nm cl tyl cc nL own ret d pc (vi_pop n) := by
  subst hn
  refine ⟨vs_m1 fun K K' h lv st σ g => ?_, ?_⟩
  · split at g
    · exact ⟨g.1, h _ _ _ _ g.2⟩
    · exact g
  intro p l e R s m args below meth c D tys ad A P C0 lv st σ h H locs ls hl ho hs hP hS
  unfold vi_pop at h
  split at h
  next a t => exact lv_pop C0.1 C0.2.1 hd (vg_cat1 h.1) (h.2 H locs ls hl ho (vg_okt hs) hP hS)
  next => exact h.elim
theorem vs_dup_x1 (hd : decode cc pc = .ok (.dup_x1, 1)) (hn : pc + 1 = n) : vg_Snd tb shp nm cl tyl cc nL own ret d pc (vi_dupx1 n) := by
  subst hn
  refine ⟨vs_m1 fun K K' h lv st σ g => ?_, ?_⟩
  · split at g
    · exact ⟨g.1, h _ _ _ _ g.2⟩
    · exact g
  intro p l e R s m args below meth c D tys ad A P C0 lv st σ h H locs ls hl ho hs hP hS
  unfold vi_dupx1 at h
  split at h
  next a b t => exact lv_dup_x1 C0.1 C0.2.1 hd (vg_cat1 h.1.1) (vg_cat1 h.1.2) (h.2 H locs ls hl ho (vg_okc (vg_okh hs) (vg_okc (vg_okh (vg_okt hs)) (vg_okc (vg_okh hs) (vg_okt (vg_okt hs))))) hP hS)
  next => exact h.elim
theorem vs_dup2 (hd : decode cc pc = .ok (.dup2, 1)) (hn : pc + 1 = n) : vg_Snd tb shp nm cl tyl cc nL own ret d pc (vi_dup2 n) := by
  subst hn
  refine ⟨vs_m1 fun K K' h lv st σ g => ?_, ?_⟩
  · split at g
    · exact ⟨g.1, h _ _ _ _ g.2⟩
    · exact g
  intro p l e R s m args below meth c D tys ad A P C0 lv st σ h H locs ls hl ho hs hP hS
  unfold vi_dup2 at h
  split at h
  next a b t => exact lv_dup2_11 C0.1 C0.2.1 hd (vg_cat1 h.1.1) (vg_cat1 h.1.2) (h.2 H locs ls hl ho (vg_okc (vg_okh hs) (vg_okc (vg_okh (vg_okt hs)) hs)) hP hS)
  next => exact h.elim
theorem vs_ireturn (hd : decode cc pc = .ok (.ireturn, 1)) (hr : ret = some .int) : vg_Snd tb shp nm cl tyl cc nL own ret d pc vi_ret := by
  refine ⟨fun P K K' h lv st σ g => g, ?_⟩
  intro p l e R s m args below meth c D tys ad A P C0 lv st σ h H locs ls hl ho hs hP hS
  unfold vi_ret at h
  split at h
  next x => exact W.iret (v := x) C0.1 C0.2.1 (C0.2.2.2.2.2.2.2.1.trans hr) (fun t ht hW => ⟨⟨some (.inl (.int x)), σ, rfl, h, fun v hv => by cases hv; exact trivial, by rw [ht]; exact hP⟩, hS.F ht⟩) hS.2.2 hd C0.2.2.2.2.2.2.2.2.1
  next => exact h.elim
theorem vs_zreturn (hd : decode cc pc = .ok (.ireturn, 1)) (hr : ret = some .boolean) : vg_Snd tb shp nm cl tyl cc nL own ret d pc vi_retZ := by
  refine ⟨fun P K K' h lv st σ g => g, ?_⟩
  intro p l e R s m args below meth c D tys ad A P C0 lv st σ h H locs ls hl ho hs hP hS
  unfold vi_retZ at h
  split at h
  next x => exact W.zret (v := x) C0.1 C0.2.1 (C0.2.2.2.2.2.2.2.1.trans hr) (by rcases h.1 with rfl | rfl <;> rfl) (fun t ht hW => ⟨⟨some (.inl (.int x)), σ, rfl, h.2, fun v hv => by cases hv; exact trivial, by rw [ht]; exact hP⟩, hS.F ht⟩) hS.2.2 hd C0.2.2.2.2.2.2.2.2.1
  next => exact h.elim
theorem vs_lreturn (hd : decode cc pc = .ok (.lreturn, 1)) (hr : ret = some .long) : vg_Snd tb shp nm cl tyl cc nL own ret d pc vi_retL := by
  refine ⟨fun P K K' h lv st σ g => g, ?_⟩
  intro p l e R s m args below meth c D tys ad A P C0 lv st σ h H locs ls hl ho hs hP hS
  unfold vi_retL at h
  split at h
  next x => exact W.lret (v := x) C0.1 C0.2.1 (C0.2.2.2.2.2.2.2.1.trans hr) (fun t ht hW => ⟨⟨some (.inl (.long x)), σ, rfl, h, fun v hv => by cases hv; exact trivial, by rw [ht]; exact hP⟩, hS.F ht⟩) hS.2.2 hd C0.2.2.2.2.2.2.2.2.1
  next => exact h.elim
theorem vs_return (hd : decode cc pc = .ok (.return_, 1)) (hr : ret = none) : vg_Snd tb shp nm cl tyl cc nL own ret d pc vi_retV := by
  refine ⟨fun P K K' h lv st σ g => g, ?_⟩
  intro p l e R s m args below meth c D tys ad A P C0 lv st σ h H locs ls hl ho hs hP hS
  unfold vi_retV at h
  split at h
  next => exact W.vret C0.1 C0.2.1 (C0.2.2.2.2.2.2.2.1.trans hr) (fun t ht hW => ⟨⟨none, σ, rfl, h, fun v hv => (by cases hv), by rw [ht]; exact hP⟩, hS.F ht⟩) hS.2.2 hd C0.2.2.2.2.2.2.2.2.1
  next => exact h.elim
end VS
end
section
/-! rows that read and write cells, and calls -/
section VS2
variable {tb : List Cond} {shp : vgN → vgH} {nm : List vgN} {cl : List vw_C} {tyl : List FieldType} {cc : ByteArray} {nL : Nat} {own : String} {ret : Option FieldType} {d pc n : Nat}
theorem vg_tys {tys : List (ClassId × FieldType)} {tyl : List FieldType} {t : Nat} {ty : FieldType} (h : tys.map (fun q => q.2) = tyl) (ht : tyl[t]? = some ty) : tys[t]? = some (vg_ty tys t, ty) := by
  subst h
  rw [List.getElem?_map] at ht
  unfold vg_ty
  cases hq : tys[t]? with
  | none => rw [hq] at ht; cases ht
  | some q => rw [hq] at ht; cases ht; rfl
theorem vs_getfield {ci k ix : Nat} {C : String} {T : u_T} {N : Nat} (hd : decode cc pc = .ok (.getfield ix, 3)) (hc : cl[ci]? = some (C, T, N)) (hk : k < N) (hin : ∀ w ∈ u_ws C T N, w ∈ tb) (hw : Cond.fieldLink own ix (T k).1 (T k).2.1 (T k).2.2.1 ∈ tb) (hn : pc + 3 = n) : vg_Snd tb shp nm cl tyl cc nL own ret d pc (vi_get shp ci k n) := by
  subst hn
  refine ⟨vs_m1 fun K K' h lv st σ g => ?_, ?_⟩
  · split at g
    · split at g
      next q _ =>
        cases hb : Nat.beq q.1 ci with
        | false => rw [hb] at g; exact g.elim
        | true =>
          rw [hb] at g
          show (match vg_nth q.2 k with | some none => _ | some (some z) => _ | none => False)
          have g' : (match vg_nth q.2 k with | some none => _ | some (some z) => _ | none => False) := g
          split at g'
          · exact h _ _ _ _ g'
          · exact h _ _ _ _ g'
          · exact g'
      next => exact g
    · exact g
  intro p l e R s m args below meth c D tys ad A P C0 lv st σ h H locs ls hl ho hs hP hS
  unfold vi_get at h
  split at h
  next m0 t =>
    split at h
    next q hq =>
      cases hb : Nat.beq q.1 ci with
      | false => rw [hb] at h; exact h.elim
      | true =>
        rw [hb] at h
        have e : q.1 = ci := Nat.eq_of_beq_eq_true hb
        have h' : (match vg_nth q.2 k with | some none => _ | some (some z) => _ | none => False) := h
        obtain ⟨q0, hq0, hws⟩ := vg_ws_get (shp := shp) (ad := ad) (tys := tys) (σ := σ) (show m0 ∈ nm from vg_okh hs)
        rw [hq] at hws
        have hws2 : (vg_ws shp nm ad tys σ)[q0]? = some (ad m0, .inr (ci, vg_fs ad (σ m0) 0 q.2)) := by rw [hws]; show some (ad m0, Sum.inr (q.1, _)) = _; rw [e]
        have hg := vg_fs_get ad (σ m0) q.2 0 k
        rw [← vg_nth_eq, Nat.zero_add] at hg
        split at h'
        next hz =>
          rw [hz] at hg
          exact va_get (D := D) C0.1 C0.2.1 C0.2.2.2.2.1 hin C0.2.2.2.1 C0.2.2.2.2.2.1 hP q0 hws2 hc k hk (C0.2.2.2.2.1 _ hw) (fun _ z => z) hg hd (h' H locs ls hl ho (vg_okc trivial (vg_okt hs)) hP hS)
        next z hz =>
          rw [hz] at hg
          have hcl := C0.2.2.2.2.2.2.2.2.2.2.2.2 m0 (vg_okh hs)
          rw [hq] at hcl
          have hm : z ∈ nm := hcl z (by rw [vg_nth_eq] at hz; exact List.mem_of_getElem? hz)
          exact va_get (D := D) C0.1 C0.2.1 C0.2.2.2.2.1 hin C0.2.2.2.1 C0.2.2.2.2.2.1 hP q0 hws2 hc k hk (C0.2.2.2.2.1 _ hw) (fun _ z => z) hg hd (h' H locs ls hl ho (vg_okc hm (vg_okt hs)) hP hS)
        next => exact h'.elim
    next => exact h.elim
  next => exact h.elim
theorem vg_put_ws {σ : vgS} {ad : vgN → Nat} {tys : List (ClassId × FieldType)} {A : Nat → Prop} {m0 : vgN} {q0 ci k : Nat} {sl : List (Option vgN)} {x : Int32} (hD : va_D A (vg_ws shp nm ad tys σ)) (hq0 : nm[q0]? = some m0) (hq : shp m0 = .inl (ci, sl)) (hz : sl[k]? = some none) : (vg_ws shp nm ad tys σ).set q0 (ad m0, .inr (ci, (vg_fs ad (σ m0) 0 sl).set k (.int x))) = vg_ws shp nm ad tys (vg_st σ m0 k x) := by
  refine vg_ws_set hD hq0 ?_ (fun n' hn' => ?_)
  · rw [hq, vg_fs_set ad (σ m0) x sl k hz]
    show _ = Sum.inr (ci, vg_fs ad (vg_st σ m0 k x m0) 0 sl)
    congr 3
    funext j
    unfold vg_st
    simp
  · funext j
    unfold vg_st
    simp [hn']
theorem vs_putfield {ci k ix : Nat} {C : String} {T : u_T} {N : Nat} (ty0 : Nat → FieldType) (hd : decode cc pc = .ok (.putfield ix, 3)) (hc : cl[ci]? = some (C, T, N)) (hk : k < N) (hin : ∀ w ∈ u_ws C T N, w ∈ tb) (hty : ∀ k, k < N → parseFieldDescriptor (T k).2.2.1 = some (ty0 k)) (hnm : ∀ a, a < N → ∀ b, b < N → a ≠ b → (T a).2.1 ≠ (T b).2.1) (hfin : (T k).2.2.2 = false) (hti : ty0 k = .int)
    (hw : Cond.fieldLink own ix (T k).1 (T k).2.1 (T k).2.2.1 ∈ tb) (hn : pc + 3 = n) : vg_Snd tb shp nm cl tyl cc nL own ret d pc (vi_put shp ci k n) := by
  subst hn
  refine ⟨vs_m1 fun K K' h lv st σ g => ?_, ?_⟩
  · split at g
    · split at g
      next q _ =>
        cases hb : Nat.beq q.1 ci with
        | false => rw [hb] at g; exact g.elim
        | true =>
          rw [hb] at g
          show (match vg_nth q.2 k with | some none => _ | _ => False)
          have g' : (match vg_nth q.2 k with | some none => _ | _ => False) := g
          split at g'
          · exact h _ _ _ _ g'
          · exact g'
      next => exact g
    · exact g
  intro p l e R s m args below meth c D tys ad A P C0 lv st σ h H locs ls hl ho hs hP hS
  unfold vi_put at h
  split at h
  next x m0 t =>
    split at h
    next q hq =>
      cases hb : Nat.beq q.1 ci with
      | false => rw [hb] at h; exact h.elim
      | true =>
        rw [hb] at h
        have e : q.1 = ci := Nat.eq_of_beq_eq_true hb
        have h' : (match vg_nth q.2 k with | some none => _ | _ => False) := h
        obtain ⟨q0, hq0, hws⟩ := vg_ws_get (shp := shp) (ad := ad) (tys := tys) (σ := σ) (show m0 ∈ nm from vg_okh (vg_okt hs))
        rw [hq] at hws
        have hws2 : (vg_ws shp nm ad tys σ)[q0]? = some (ad m0, .inr (ci, vg_fs ad (σ m0) 0 q.2)) := by rw [hws]; show some (ad m0, Sum.inr (q.1, _)) = _; rw [e]
        have hDA := C0.2.2.2.2.2.2.2.2.2.2.2.1
        split at h'
        next hz =>
          rw [vg_nth_eq] at hz
          have hl2 : k < q.2.length := (List.getElem?_eq_some_iff.mp hz).1
          refine va_put (D := D) (A := A) C0.1 C0.2.1 C0.2.2.2.2.1 hin ty0 hty hnm C0.2.2.2.1 C0.2.2.2.2.2.1 hP (hDA σ) hS q0 hws2 hc k hk (C0.2.2.2.2.1 _ hw) (fun _ z => z) hfin (ty := .int) (v := .int x) (by rw [hty k hk, hti]) rfl rfl (by rw [vg_fs_len]; exact hl2) hd (fun H1 locs1 hP1 _ hS1 => ?_)
          rw [vg_put_ws (hDA σ) hq0 (by rw [hq, ← e]) hz] at hP1
          exact h' H1 locs1 ls hl ho (vg_okt (vg_okt hs)) hP1 hS1
        next => exact h'.elim
    next => exact h.elim
  next => exact h.elim
theorem vs_putfieldZ {ci k ix : Nat} {C : String} {T : u_T} {N : Nat} (ty0 : Nat → FieldType) (hd : decode cc pc = .ok (.putfield ix, 3)) (hc : cl[ci]? = some (C, T, N)) (hk : k < N) (hin : ∀ w ∈ u_ws C T N, w ∈ tb) (hty : ∀ k, k < N → parseFieldDescriptor (T k).2.2.1 = some (ty0 k)) (hnm : ∀ a, a < N → ∀ b, b < N → a ≠ b → (T a).2.1 ≠ (T b).2.1) (hfin : (T k).2.2.2 = false) (hti : ty0 k = .boolean)
    (hw : Cond.fieldLink own ix (T k).1 (T k).2.1 (T k).2.2.1 ∈ tb) (hn : pc + 3 = n) : vg_Snd tb shp nm cl tyl cc nL own ret d pc (vi_putZ shp ci k n) := by
  subst hn
  refine ⟨vs_m1 fun K K' h lv st σ g => ?_, ?_⟩
  · split at g
    · split at g
      next q _ =>
        cases hb : Nat.beq q.1 ci with
        | false => rw [hb] at g; exact g.elim
        | true =>
          rw [hb] at g
          show (match vg_nth q.2 k with | some none => _ | _ => False)
          have g' : (match vg_nth q.2 k with | some none => _ | _ => False) := g
          split at g'
          · exact ⟨g'.1, h _ _ _ _ g'.2⟩
          · exact g'
      next => exact g
    · exact g
  intro p l e R s m args below meth c D tys ad A P C0 lv st σ h H locs ls hl ho hs hP hS
  unfold vi_putZ at h
  split at h
  next x m0 t =>
    split at h
    next q hq =>
      cases hb : Nat.beq q.1 ci with
      | false => rw [hb] at h; exact h.elim
      | true =>
        rw [hb] at h
        have e : q.1 = ci := Nat.eq_of_beq_eq_true hb
        have h' : (match vg_nth q.2 k with | some none => _ | _ => False) := h
        obtain ⟨q0, hq0, hws⟩ := vg_ws_get (shp := shp) (ad := ad) (tys := tys) (σ := σ) (show m0 ∈ nm from vg_okh (vg_okt hs))
        rw [hq] at hws
        have hws2 : (vg_ws shp nm ad tys σ)[q0]? = some (ad m0, .inr (ci, vg_fs ad (σ m0) 0 q.2)) := by rw [hws]; show some (ad m0, Sum.inr (q.1, _)) = _; rw [e]
        have hDA := C0.2.2.2.2.2.2.2.2.2.2.2.1
        split at h'
        next hz =>
          rw [vg_nth_eq] at hz
          have hl2 : k < q.2.length := (List.getElem?_eq_some_iff.mp hz).1
          refine va_put (D := D) (A := A) C0.1 C0.2.1 C0.2.2.2.2.1 hin ty0 hty hnm C0.2.2.2.1 C0.2.2.2.2.2.1 hP (hDA σ) hS q0 hws2 hc k hk (C0.2.2.2.2.1 _ hw) (fun _ z => z) hfin (ty := .boolean) (v := .int x) (by rw [hty k hk, hti]) (by rcases h'.1 with rfl | rfl <;> rfl) (by rcases h'.1 with rfl | rfl <;> rfl) (by rw [vg_fs_len]; exact hl2) hd (fun H1 locs1 hP1 _ hS1 => ?_)
          rw [vg_put_ws (hDA σ) hq0 (by rw [hq, ← e]) hz] at hP1
          exact h'.2 H1 locs1 ls hl ho (vg_okt (vg_okt hs)) hP1 hS1
        next => exact h'.elim
    next => exact h.elim
  next => exact h.elim
theorem vs_iaload {t0 : Nat} (hd : decode cc pc = .ok (.iaload, 1)) (ht : tyl[t0]? = some .int) (hn : pc + 1 = n) : vg_Snd tb shp nm cl tyl cc nL own ret d pc (vi_ald shp t0 n) := by
  subst hn
  refine ⟨vs_m1 fun K K' h lv st σ g => ?_, ?_⟩
  · split at g
    · split at g
      next q _ =>
        cases hb : Nat.beq q.1 t0 with
        | false => rw [hb] at g; exact g.elim
        | true =>
          rw [hb] at g
          exact ⟨g.1, h _ _ _ _ g.2⟩
      next => exact g
    · exact g
  intro p l e R s m args below meth c D tys ad A P C0 lv st σ h H locs ls hl ho hs hP hS
  unfold vi_ald at h
  split at h
  next i m0 t =>
    split at h
    next q hq =>
      cases hb : Nat.beq q.1 t0 with
      | false => rw [hb] at h; exact h.elim
      | true =>
        rw [hb] at h
        have e : q.1 = t0 := Nat.eq_of_beq_eq_true hb
        obtain ⟨q0, hq0, hws⟩ := vg_ws_get (shp := shp) (ad := ad) (tys := tys) (σ := σ) (show m0 ∈ nm from vg_okh (vg_okt hs))
        rw [hq] at hws
        exact va_iald (D := D) C0.1 C0.2.1 C0.2.2.2.2.2.1 hP q0 t0 (by rw [← e]; exact hws) (vg_tys C0.2.2.2.2.2.2.1 ht) h.1 hd (h.2 H locs ls hl ho (vg_okc trivial (vg_okt (vg_okt hs))) hP hS)
    next => exact h.elim
  next => exact h.elim
theorem vs_zaload {t0 : Nat} (hd : decode cc pc = .ok (.baload, 1)) (ht : tyl[t0]? = some .boolean) (hn : pc + 1 = n) : vg_Snd tb shp nm cl tyl cc nL own ret d pc (vi_ald shp t0 n) := by
  subst hn
  refine ⟨vs_m1 fun K K' h lv st σ g => ?_, ?_⟩
  · split at g
    · split at g
      next q _ =>
        cases hb : Nat.beq q.1 t0 with
        | false => rw [hb] at g; exact g.elim
        | true =>
          rw [hb] at g
          exact ⟨g.1, h _ _ _ _ g.2⟩
      next => exact g
    · exact g
  intro p l e R s m args below meth c D tys ad A P C0 lv st σ h H locs ls hl ho hs hP hS
  unfold vi_ald at h
  split at h
  next i m0 t =>
    split at h
    next q hq =>
      cases hb : Nat.beq q.1 t0 with
      | false => rw [hb] at h; exact h.elim
      | true =>
        rw [hb] at h
        have e : q.1 = t0 := Nat.eq_of_beq_eq_true hb
        obtain ⟨q0, hq0, hws⟩ := vg_ws_get (shp := shp) (ad := ad) (tys := tys) (σ := σ) (show m0 ∈ nm from vg_okh (vg_okt hs))
        rw [hq] at hws
        exact va_zald (D := D) C0.1 C0.2.1 C0.2.2.2.2.2.1 hP q0 t0 (by rw [← e]; exact hws) (vg_tys C0.2.2.2.2.2.2.1 ht) h.1 hd (h.2 H locs ls hl ho (vg_okc trivial (vg_okt (vg_okt hs))) hP hS)
    next => exact h.elim
  next => exact h.elim
theorem vg_ast_ws {σ : vgS} {ad : vgN → Nat} {tys : List (ClassId × FieldType)} {A : Nat → Prop} {m0 : vgN} {q0 t0 len k : Nat} {x : Int32} (hD : va_D A (vg_ws shp nm ad tys σ)) (hq0 : nm[q0]? = some m0) (hq : shp m0 = .inr (.inl (t0, len))) : (vg_ws shp nm ad tys σ).set q0 (ad m0, .inl (vg_ty tys t0, len, .inl (upd (σ m0) k x))) = vg_ws shp nm ad tys (vg_st σ m0 k x) := by
  refine vg_ws_set hD hq0 ?_ (fun n' hn' => ?_)
  · rw [hq]
    show _ = Sum.inl (vg_ty tys t0, len, Sum.inl (vg_st σ m0 k x m0))
    congr 4
    funext j
    unfold vg_st upd
    simp
  · funext j
    unfold vg_st
    simp [hn']
theorem vs_iastore {t0 : Nat} (hd : decode cc pc = .ok (.iastore, 1)) (ht : tyl[t0]? = some .int) (hn : pc + 1 = n) : vg_Snd tb shp nm cl tyl cc nL own ret d pc (vi_ast shp t0 n) := by
  subst hn
  refine ⟨vs_m1 fun K K' h lv st σ g => ?_, ?_⟩
  · split at g
    · split at g
      next q _ =>
        cases hb : Nat.beq q.1 t0 with
        | false => rw [hb] at g; exact g.elim
        | true =>
          rw [hb] at g
          exact ⟨g.1, h _ _ _ _ g.2⟩
      next => exact g
    · exact g
  intro p l e R s m args below meth c D tys ad A P C0 lv st σ h H locs ls hl ho hs hP hS
  unfold vi_ast at h
  split at h
  next x i m0 t =>
    split at h
    next q hq =>
      cases hb : Nat.beq q.1 t0 with
      | false => rw [hb] at h; exact h.elim
      | true =>
        rw [hb] at h
        have e : q.1 = t0 := Nat.eq_of_beq_eq_true hb
        obtain ⟨q0, hq0, hws⟩ := vg_ws_get (shp := shp) (ad := ad) (tys := tys) (σ := σ) (show m0 ∈ nm from vg_okh (vg_okt (vg_okt hs)))
        rw [hq] at hws
        have hDA := C0.2.2.2.2.2.2.2.2.2.2.2.1
        refine va_iast (D := D) (A := A) C0.1 C0.2.1 C0.2.2.2.2.2.1 hP (hDA σ) hS q0 t0 (by rw [← e]; exact hws) (vg_tys C0.2.2.2.2.2.2.1 ht) h.1 hd (fun H1 locs1 hP1 _ hS1 => ?_)
        rw [vg_ast_ws (hDA σ) hq0 (by rw [hq, ← e])] at hP1
        exact h.2 H1 locs1 ls hl ho (vg_okt (vg_okt (vg_okt hs))) hP1 hS1
    next => exact h.elim
  next => exact h.elim
theorem vs_zastore {t0 : Nat} (hd : decode cc pc = .ok (.bastore, 1)) (ht : tyl[t0]? = some .boolean) (hn : pc + 1 = n) : vg_Snd tb shp nm cl tyl cc nL own ret d pc (vi_astZ shp t0 n) := by
  subst hn
  refine ⟨vs_m1 fun K K' h lv st σ g => ?_, ?_⟩
  · split at g
    · split at g
      next q _ =>
        cases hb : Nat.beq q.1 t0 with
        | false => rw [hb] at g; exact g.elim
        | true =>
          rw [hb] at g
          exact ⟨g.1, h _ _ _ _ g.2⟩
      next => exact g
    · exact g
  intro p l e R s m args below meth c D tys ad A P C0 lv st σ h H locs ls hl ho hs hP hS
  unfold vi_astZ at h
  split at h
  next x i m0 t =>
    split at h
    next q hq =>
      cases hb : Nat.beq q.1 t0 with
      | false => rw [hb] at h; exact h.elim
      | true =>
        rw [hb] at h
        have e : q.1 = t0 := Nat.eq_of_beq_eq_true hb
        obtain ⟨q0, hq0, hws⟩ := vg_ws_get (shp := shp) (ad := ad) (tys := tys) (σ := σ) (show m0 ∈ nm from vg_okh (vg_okt (vg_okt hs)))
        rw [hq] at hws
        have hDA := C0.2.2.2.2.2.2.2.2.2.2.2.1
        refine va_zast (D := D) (A := A) C0.1 C0.2.1 C0.2.2.2.2.2.1 hP (hDA σ) hS q0 t0 (by rw [← e]; exact hws) (vg_tys C0.2.2.2.2.2.2.1 ht) h.1.1 hd (fun H1 locs1 hP1 _ hS1 => ?_)
        have hx : vp_nar .boolean x = x := by rcases h.1.2 with rfl | rfl <;> rfl
        rw [hx, vg_ast_ws (hDA σ) hq0 (by rw [hq, ← e])] at hP1
        exact h.2 H1 locs1 ls hl ho (vg_okt (vg_okt (vg_okt hs))) hP1 hS1
    next => exact h.elim
  next => exact h.elim
theorem vs_aaload {t0 : Nat} {C : String} (hd : decode cc pc = .ok (.aaload, 1)) (ht : tyl[t0]? = some (.object C)) (hn : pc + 1 = n) : vg_Snd tb shp nm cl tyl cc nL own ret d pc (vi_aald shp t0 n) := by
  subst hn
  refine ⟨vs_m1 fun K K' h lv st σ g => ?_, ?_⟩
  · split at g
    · split at g
      next q _ =>
        cases hb : Nat.beq q.1 t0 with
        | false => rw [hb] at g; exact g.elim
        | true =>
          rw [hb] at g
          exact ⟨g.1, h _ _ _ _ g.2⟩
      next => exact g
    · exact g
  intro p l e R s m args below meth c D tys ad A P C0 lv st σ h H locs ls hl ho hs hP hS
  unfold vi_aald at h
  split at h
  next i m0 t =>
    split at h
    next q hq =>
      cases hb : Nat.beq q.1 t0 with
      | false => rw [hb] at h; exact h.elim
      | true =>
        rw [hb] at h
        have e : q.1 = t0 := Nat.eq_of_beq_eq_true hb
        obtain ⟨q0, hq0, hws⟩ := vg_ws_get (shp := shp) (ad := ad) (tys := tys) (σ := σ) (show m0 ∈ nm from vg_okh (vg_okt hs))
        rw [hq] at hws
        have hcl := C0.2.2.2.2.2.2.2.2.2.2.2.2 m0 (vg_okh (vg_okt hs))
        rw [hq] at hcl
        have hm : q.2.2 i.toNatClampNeg ∈ nm := hcl _ (Nat.not_le.mp fun z => h.1 (Or.inr z))
        exact va_aldq (D := D) C0.1 C0.2.1 C0.2.2.2.2.2.1 hP q0 t0 (f := fun i => some (ad (q.2.2 i))) (by rw [← e]; exact hws) (vg_tys C0.2.2.2.2.2.2.1 ht) h.1 hd (h.2 H locs ls hl ho (vg_okc hm (vg_okt (vg_okt hs))) hP hS)
    next => exact h.elim
  next => exact h.elim
theorem vs_acopy {t0 ix : Nat} (hd : decode cc pc = .ok (.invokestatic ix, 3)) (ht : tyl[t0]? = some .int) (h1 : Cond.methodLink own ix arraycopyName ∈ tb) (h2 : Cond.native arraycopyName ∈ tb) (h3 : Cond.static arraycopyName ∈ tb) (h4 : Cond.initialized "java/lang/System" ∈ tb) (hdd : 1 ≤ d) (hn : pc + 3 = n) : vg_Snd tb shp nm cl tyl cc nL own ret d pc (vi_cpy shp t0 n) := by
  subst hn
  refine ⟨vs_m1 fun K K' h lv st σ g => ?_, ?_⟩
  · split at g
    · split at g
      next q r _ _ =>
        cases hb : Nat.beq q.1 t0 && Nat.beq r.1 t0 && Nat.ble (vg_wd _) 8 with
        | false => rw [hb] at g; exact g.elim
        | true =>
          rw [hb] at g
          exact ⟨g.1, h _ _ _ _ g.2⟩
      next => exact g
    · exact g
  intro p l e R s m args below meth c D tys ad A P C0 lv st σ h H locs ls hl ho hs hP hS
  have hts := C0.2.2.2.2.1
  unfold vi_cpy at h
  split at h
  next len dp dn sp mn t =>
    split at h
    next q r hq hr =>
      cases hb : Nat.beq q.1 t0 && Nat.beq r.1 t0 && Nat.ble (vg_wd t) 8 with
      | false => rw [hb] at h; exact h.elim
      | true =>
        rw [hb] at h
        simp only [Bool.and_eq_true] at hb
        have e : q.1 = t0 := Nat.eq_of_beq_eq_true hb.1.1
        have e' : r.1 = t0 := Nat.eq_of_beq_eq_true hb.1.2
        have hwd : vg_wd t ≤ 8 := Nat.le_of_ble_eq_true hb.2
        obtain ⟨⟨rfl, rfl, hlen, hl1, hl2⟩, hk⟩ := h
        obtain ⟨q0, hq0, hws⟩ := vg_ws_get (shp := shp) (ad := ad) (tys := tys) (σ := σ) (show mn ∈ nm from vg_okh (vg_okt (vg_okt (vg_okt (vg_okt hs)))))
        obtain ⟨q1, hq1, hws1⟩ := vg_ws_get (shp := shp) (ad := ad) (tys := tys) (σ := σ) (show dn ∈ nm from vg_okh (vg_okt (vg_okt hs)))
        rw [hq] at hws
        rw [hr] at hws1
        have hDA := C0.2.2.2.2.2.2.2.2.2.2.2.1
        have hR := C0.2.2.2.2.2.2.2.2.2.1
        have z0 : (0 : Int32).toNatClampNeg = 0 := by decide
        refine va_copyi (D := D) (A := A) C0.1 C0.2.1 (C0.2.2.1.trans hl.1.symm) C0.2.2.2.1 (hts _ h1) (hts _ h2) (hts _ h3) (hts _ h4) C0.2.2.2.2.2.1 hP (hDA σ) hS q0 q1 t0 t0 (by rw [← e]; exact hws) (by rw [← e']; exact hws1) (vg_tys C0.2.2.2.2.2.2.1 ht) (vg_tys C0.2.2.2.2.2.2.1 ht) rfl (by decide) (by decide) hlen (by rw [z0, Nat.zero_add]; exact hl1) (by rw [z0, Nat.zero_add]; exact hl2) (fun _ _ => rfl) (by rw [hR]; exact hdd) ?_ hd (fun H1 locs1 hP1 _ hS1 => ?_)
        · rw [vg_wd_sum, hR]
          have : nativeFrameWords "java/lang/System" "arraycopy" 5 + 11 ≤ 24 := by decide
          show vg_wd t + _ ≤ 32 * d
          omega
        · have e9 : (vg_ws shp nm ad tys σ).set q1 (ad dn, .inl (vg_ty tys t0, r.2, .inl (va_cpy (σ mn) (σ dn) (0 : Int32).toNatClampNeg (0 : Int32).toNatClampNeg len.toNatClampNeg))) = vg_ws shp nm ad tys (vg_cp σ mn dn len.toNatClampNeg) := by
            refine vg_ws_set (hDA σ) hq1 ?_ (fun n' hn' => ?_)
            · rw [hr]
              show _ = Sum.inl (vg_ty tys r.1, r.2, Sum.inl (vg_cp σ mn dn len.toNatClampNeg dn))
              rw [e', z0]
              congr 4
              funext j
              unfold va_cpy vg_cp
              simp
            · funext j
              unfold vg_cp
              simp [hn']
          rw [e9] at hP1
          exact hk H1 locs1 ls hl ho (vg_okt (vg_okt (vg_okt (vg_okt (vg_okt hs))))) hP1 hS1
    next => exact h.elim
  next => exact h.elim
end VS2
end
section
/-! calls by contract -/
section VC
variable {p : Program} {l : Launch} {e : Env} {R : Room} {s : State} {m : MethodId} {args : Array Value} {below : List Frame} {meth : Method} {c : Code} {H : Heap} {locs : List Loc} {Q : State → Prop}
variable {tb : List Cond} {shp : vgN → vgH} {nm : List vgN} {cl : List vw_C} {tyl : List FieldType} {cc : ByteArray} {nL : Nat} {own : String} {ret : Option FieldType} {d pc n : Nat}
theorem vg_callK {D : va_G} {tys : List (ClassId × FieldType)} {ad : vgN → Nat} {A A1 : Nat → Prop} {P : vgO} {a : Array Value} {ls : Array Slot} {st0 rest : List Value}
    (hr : va_Run p l e R s m args below meth c H locs 0 0 0 0 (F0 m pc ls st0) rest (vg_Q shp nm cl D tys ad A1 P a) A1) (hS : va_S A s.heap H locs) (hA : ∀ q, A1 q → A q)
    (kk : ∀ (r : Option vgV) (σ : vgS) (H1 : Heap) (locs1 : List Loc), P r σ → (∀ v, r = some v → vg_ok nm v) → va_P D cl (vg_ws shp nm ad tys σ) H1 → va_S A s.heap H1 locs1 → W p l e R s m args below meth c H1 locs1 0 0 Q (F0 m (pc + 3) ls ((r.map (vg_cv ad)).toList ++ rest))) : W p l e R s m args below meth c H locs 0 0 Q (F0 m pc ls st0) := by
  intro T hT X
  obtain ⟨v, st₀, t, T', L, h0, X', hL, e1, e2, ⟨⟨r, σ', hv, hp, hok, hP1⟩, hz, hk⟩, st⟩ := hr T hT X
  cases hv
  rw [h0] at hz hk
  obtain ⟨t2, a1, b1⟩ := kk r σ' T'.heap (locs ++ L) hp hok (by rw [e1]; exact hP1)
    ⟨Nat.le_trans hS.1 (by rw [e1]; exact hz), fun q h1 h2 => by rw [e1, hk q (Nat.lt_of_lt_of_le h1 hS.1) (fun z => h2 (hA q z))]; exact hS.2.1 q h1 h2, fun q hq => by
      rcases List.mem_append.mp hq with h | h
      · exact hS.2.2 q h
      · exact hA _ (hL q h)⟩ T' rfl X'
  exact ⟨t2, st t2 a1, b1⟩
theorem vg_pop_eq : ∀ (k : Nat) (acc st a t : vgT), vg_pop k acc st = some (a, t) → a.reverse ++ t = acc.reverse ++ st ∧ a.length = k + acc.length
  | 0, acc, st, a, t, h => by
    cases h
    exact ⟨rfl, (Nat.zero_add _).symm⟩
  | k + 1, acc, [], a, t, h => by cases h
  | k + 1, acc, v :: st, a, t, h => by
    obtain ⟨h1, h2⟩ := vg_pop_eq k (v :: acc) st a t h
    refine ⟨by rw [h1]; simp, by rw [h2]; simp; omega⟩
theorem vg_in_A {σ : vgS} {ad : vgN → Nat} {tys : List (ClassId × FieldType)} {A : Nat → Prop} {H0 H : Heap} (hD : va_D A (vg_ws shp nm ad tys σ)) (hA : ∀ q, H0.size ≤ q → A q) (hz : H0.size ≤ H.size) : ∀ q, vg_A nm ad H.size q → A q := by
  intro q h
  rcases h with ⟨n, hn, rfl⟩ | h
  · obtain ⟨k, _, hk⟩ := vg_ws_get (shp := shp) (ad := ad) (tys := tys) (σ := σ) hn
    exact hD.2 k _ hk
  · exact hA q (Nat.le_trans hz h)
theorem vg_k_mono {K K' : vgK} (h : ∀ pc lv st σ, K pc lv st σ → K' pc lv st σ) {n : Nat} {lv : vgL} {st : vgT} {r : Option vgV} {σ : vgS} (g : vg_k K n lv st r σ) : vg_k K' n lv st r σ := by
  cases r with
  | none => exact h _ _ _ _ g
  | some v => exact h _ _ _ _ g
abbrev vg_MetF (tb : List Cond) (shp : vgN → vgH) (nm : List vgN) (cl : List vw_C) (tyl : List FieldType) (y : MethodName) (cc : ByteArray) (nL : Nat) (ret : Option FieldType) (d : Nat) (sp : vgC) : Prop :=
  vg_Met tb shp nm cl tyl y cc nL ret d (fun av σ => (sp av σ).1) (fun av σ r σ' => r = (sp av σ).2.1 ∧ σ' = (sp av σ).2.2)
theorem vg_callB {y : MethodName} {bytes : ByteArray} {mL k ix d' : Nat} {rt : Option FieldType} (hts : ∀ w ∈ tb, w.before args s = true) (hG : tb.all goodWord = true) (hcw : Cond.code y bytes mL rt ∈ tb) (hini : Cond.initialized y.cls ∈ tb) (hl : Cond.methodLink own ix y ∈ tb)
    (hd : y.cls ≠ "java/lang/invoke/MethodHandle" ∧ y.cls ≠ "java/lang/invoke/VarHandle" ∧ (parseMethodDescriptor y.desc).map (fun d => d.parameters.length) = some k) (hR : d' + 1 ≤ d ∧ mL ≤ 13) : CallB (vg_rm d) s args own ix y bytes mL rt (.code y bytes mL rt :: tb) (vg_rm d') 0 0 k := by
  have hg : ∀ w ∈ tb, goodWord w = true := fun w h => List.all_eq_true.mp hG w h
  refine callB_of k hts (fun w hw => ?_) rfl rfl rfl (hts _ hini) (hts _ hl) hd ⟨hR.1, ?_⟩
  · rcases List.mem_cons.mp hw with rfl | hw
    · exact ⟨hcw, good_of_word (hg _ hcw)⟩
    · exact ⟨hw, good_of_word (hg _ hw)⟩
  · show 8 + (mL + 11) + 32 * d' ≤ 32 * d
    omega
theorem vs_callV {ci k ix : Nat} {C : String} {T : u_T} {N : Nat} {y : MethodName} {bytes : ByteArray} {mL d' : Nat} {rt : Option FieldType} {sp : vgC} (hM : vg_MetF tb shp nm cl tyl y bytes mL rt d' sp) (hd : decode cc pc = .ok (.invokevirtual ix, 3)) (hc : cl[ci]? = some (C, T, N))
    (hG : tb.all goodWord = true) (hcw : Cond.code y bytes mL rt ∈ tb) (hini : Cond.initialized C ∈ tb) (hl : Cond.methodLink own ix y ∈ tb) (hi : Cond.instanceMethod y ∈ tb) (hse : Cond.selects C y y ∈ tb)
    (hy : y.cls = C ∧ y.cls ≠ "java/lang/invoke/MethodHandle" ∧ y.cls ≠ "java/lang/invoke/VarHandle" ∧ (parseMethodDescriptor y.desc).map (fun d => d.parameters.length) = some k) (hR : d' + 1 ≤ d ∧ mL ≤ 13) (hn : pc + 3 = n) : vg_Snd tb shp nm cl tyl cc nL own ret d pc (vi_callV shp ci sp k n) := by
  subst hn
  refine ⟨vs_m1 fun K K' h lv st σ g => ?_, ?_⟩
  · split at g
    · split at g
      next o _ =>
        cases hb : Nat.beq o.1 ci && Nat.ble (vg_wd _) 8 with
        | false => rw [hb] at g; exact g.elim
        | true =>
          rw [hb] at g
          exact ⟨g.1, vg_k_mono h g.2⟩
      next => exact g
    · exact g
  intro p l e R s m args below meth c D tys ad A P C0 lv st σ h H locs ls hl0 ho hs hP hS
  unfold vi_callV at h
  split at h
  next m0 as t hpop =>
    split at h
    next o ho0 =>
      cases hb : Nat.beq o.1 ci && Nat.ble (vg_wd t) 8 with
      | false => rw [hb] at h; exact h.elim
      | true =>
        rw [hb] at h
        simp only [Bool.and_eq_true] at hb
        have e : o.1 = ci := Nat.eq_of_beq_eq_true hb.1
        have hwd : vg_wd t ≤ 8 := Nat.le_of_ble_eq_true hb.2
        obtain ⟨hpre, hk⟩ := h
        obtain ⟨hx, hcb, hml, hown, hts, hK, hty, hr, hlocks, hRR, hA, hDA, hclo⟩ := C0
        subst hRR
        obtain ⟨e1, e2⟩ := vg_pop_eq _ _ _ _ _ hpop
        have hst : st = (Sum.inr m0 :: as : vgT).reverse ++ t := by rw [e1]; rfl
        have hav : ∀ v ∈ (Sum.inr m0 :: as : vgT), vg_ok nm v := fun v hv => hs v (by rw [hst]; exact List.mem_append_left _ (List.mem_reverse.mpr hv))
        have ht : ∀ v ∈ t, vg_ok nm v := fun v hv => hs v (by rw [hst]; exact List.mem_append_right _ hv)
        have hlen : as.length = k := by simp at e2; omega
        have hm0 : m0 ∈ nm := hav _ List.mem_cons_self
        obtain ⟨q0, hq0, hws⟩ := vg_ws_get (shp := shp) (ad := ad) (tys := tys) (σ := σ) hm0
        rw [ho0] at hws
        have hws2 : (vg_ws shp nm ad tys σ)[q0]? = some (ad m0, .inr (ci, vg_fs ad (σ m0) 0 o.2)) := by rw [hws]; show some (ad m0, Sum.inr (o.1, _)) = _; rw [e]
        have hstk : st.map (vg_cv ad) = (as.map (vg_cv ad)).reverse ++ .ref (ad m0) :: t.map (vg_cv ad) := by rw [hst]; simp [vg_cv]
        have cw : CallW (vg_rm d) s args own C ix y bytes mL rt (.code y bytes mL rt :: tb) (vg_rm d') 0 0 k := ⟨vg_callB hts hG hcw (by rw [hy.1]; exact hini) hl hy.2 hR, hts _ hi, hts _ hse⟩
        refine vg_callK (va_runV (As := as.map (vg_cv ad)) (b := ad m0) (rest := t.map (vg_cv ad)) ⟨hx, hcb, hml, hown, hts⟩ (hM l D tys ad H.size (.inr m0 :: as) σ hty hav hpre) cw ⟨fun a U g mk q => ?_, va_recv hK hP (ci := ci) (q0 := q0) hc hws2, fun U hU hW => ⟨?_, ?_, ?_, ?_, ?_⟩⟩ rfl (by rw [List.length_map]; exact hlen) hl0.1 hstk (lv_room (by rw [vg_wd_sum]; exact hwd)) hd ⟨Nat.le_refl _, Nat.le_refl _⟩) hS (vg_in_A (hDA σ) hA hS.1) (fun r σ1 H1 locs1 hp hok hP1 hS1 => ?_)
        · obtain ⟨q0, q1, qP, qK, qD⟩ := q
          exact ⟨q0, q1, qP, va_K.moved (u := U) (U := U.calling g mk a) (Vm.Alike.refl U.vm) qK, qD⟩
        · rfl
        · rw [hU]
        · rw [hU]; exact hP
        · exact va_K.moved hW.alike hK
        · exact (hDA σ).weaken (fun _ _ _ _ => trivial)
        · obtain ⟨rfl, rfl⟩ := hp
          unfold vg_k at hk
          cases hre : (sp (.inr m0 :: as) σ).2.1 with
          | none => rw [hre] at hk; exact hk H1 locs1 ls hl0 ho ht hP1 hS1
          | some v => rw [hre] at hk; exact hk H1 locs1 ls hl0 ho (vg_okc (hok v hre) ht) hP1 hS1
    next => exact h.elim
  next => exact h.elim
/-- a static method of the class itself -/
theorem vs_callS {k ix : Nat} {y : MethodName} {bytes : ByteArray} {mL d' : Nat} {rt : Option FieldType} {sp : vgC} (hM : vg_MetF tb shp nm cl tyl y bytes mL rt d' sp) (hd : decode cc pc = .ok (.invokestatic ix, 3))
    (hG : tb.all goodWord = true) (hcw : Cond.code y bytes mL rt ∈ tb) (hini : Cond.initialized y.cls ∈ tb) (hl : Cond.methodLink own ix y ∈ tb) (hi : Cond.static y ∈ tb)
    (hy : y.cls ≠ "java/lang/invoke/MethodHandle" ∧ y.cls ≠ "java/lang/invoke/VarHandle" ∧ (parseMethodDescriptor y.desc).map (fun d => d.parameters.length) = some k) (hR : d' + 1 ≤ d ∧ mL ≤ 13) (hn : pc + 3 = n) : vg_Snd tb shp nm cl tyl cc nL own ret d pc (vi_callS sp k n) := by
  subst hn
  refine ⟨vs_m1 fun K K' h lv st σ g => ?_, ?_⟩
  · split at g
    next q _ =>
      cases hb : Nat.ble (vg_wd q.2) 8 with
      | false => rw [hb] at g; exact g.elim
      | true =>
        rw [hb] at g
        exact ⟨g.1, vg_k_mono h g.2⟩
    next => exact g
  intro p l e R s m args below meth c D tys ad A P C0 lv st σ h H locs ls hl0 ho hs hP hS
  unfold vi_callS at h
  split at h
  next q hpop =>
    cases hb : Nat.ble (vg_wd q.2) 8 with
    | false => rw [hb] at h; exact h.elim
    | true =>
      rw [hb] at h
      obtain ⟨as, t⟩ := q
      have hwd : vg_wd t ≤ 8 := Nat.le_of_ble_eq_true hb
      obtain ⟨hpre, hk⟩ := h
      obtain ⟨hx, hcb, hml, hown, hts, hK, hty, hr, hlocks, hRR, hA, hDA, hclo⟩ := C0
      subst hRR
      obtain ⟨e1, e2⟩ := vg_pop_eq _ _ _ _ _ hpop
      have hst : st = as.reverse ++ t := by rw [e1]; rfl
      have hav : ∀ v ∈ as, vg_ok nm v := fun v hv => hs v (by rw [hst]; exact List.mem_append_left _ (List.mem_reverse.mpr hv))
      have ht : ∀ v ∈ t, vg_ok nm v := fun v hv => hs v (by rw [hst]; exact List.mem_append_right _ hv)
      have hlen : as.length = k := by simp at e2; omega
      have hstk : st.map (vg_cv ad) = (as.map (vg_cv ad)).reverse ++ t.map (vg_cv ad) := by rw [hst]; simp
      refine vg_callK (va_runS (As := as.map (vg_cv ad)) (rest := t.map (vg_cv ad)) ⟨hx, hcb, hml, hown, hts⟩ (hM l D tys ad H.size as σ hty hav hpre) ⟨vg_callB hts hG hcw hini hl hy hR, hts _ hi⟩ ⟨fun a U g mk q => ?_, fun U hU hW => ⟨rfl, ?_, ?_, ?_, ?_⟩⟩ rfl (by rw [List.length_map]; exact hlen) hl0.1 hstk (lv_room (by rw [vg_wd_sum]; exact hwd)) hd ⟨Nat.le_refl _, Nat.le_refl _⟩) hS (vg_in_A (hDA σ) hA hS.1) (fun r σ1 H1 locs1 hp hok hP1 hS1 => ?_)
      · obtain ⟨q0, q1, qP, qK, qD⟩ := q
        exact ⟨q0, q1, qP, va_K.moved (u := U) (U := U.calling g mk a) (Vm.Alike.refl U.vm) qK, qD⟩
      · rw [hU]
      · rw [hU]; exact hP
      · exact va_K.moved hW.alike hK
      · exact (hDA σ).weaken (fun _ _ _ _ => trivial)
      · obtain ⟨rfl, rfl⟩ := hp
        unfold vg_k at hk
        cases hre : (sp as σ).2.1 with
        | none => rw [hre] at hk; exact hk H1 locs1 ls hl0 ho ht hP1 hS1
        | some v => rw [hre] at hk; exact hk H1 locs1 ls hl0 ho (vg_okc (hok v hre) ht) hP1 hS1
  next => exact h.elim
/-- a private static method of a nest mate -/
theorem vs_callSN {k ix : Nat} {host : String} {y : MethodName} {bytes : ByteArray} {mL d' : Nat} {rt : Option FieldType} {sp : vgC} (hM : vg_MetF tb shp nm cl tyl y bytes mL rt d' sp) (hd : decode cc pc = .ok (.invokestatic ix, 3))
    (hG : tb.all goodWord = true) (hcw : Cond.code y bytes mL rt ∈ tb) (hini : Cond.initialized y.cls ∈ tb) (hl : Cond.methodLinkNest own ix y host ∈ tb) (hi : Cond.static y ∈ tb)
    (hy : y.cls ≠ "java/lang/invoke/MethodHandle" ∧ y.cls ≠ "java/lang/invoke/VarHandle" ∧ (parseMethodDescriptor y.desc).map (fun d => d.parameters.length) = some k) (hR : d' + 1 ≤ d ∧ mL ≤ 13) (hn : pc + 3 = n) : vg_Snd tb shp nm cl tyl cc nL own ret d pc (vi_callS sp k n) := by
  subst hn
  refine ⟨vs_m1 fun K K' h lv st σ g => ?_, ?_⟩
  · split at g
    next q _ =>
      cases hb : Nat.ble (vg_wd q.2) 8 with
      | false => rw [hb] at g; exact g.elim
      | true =>
        rw [hb] at g
        exact ⟨g.1, vg_k_mono h g.2⟩
    next => exact g
  intro p l e R s m args below meth c D tys ad A P C0 lv st σ h H locs ls hl0 ho hs hP hS
  unfold vi_callS at h
  split at h
  next q hpop =>
    cases hb : Nat.ble (vg_wd q.2) 8 with
    | false => rw [hb] at h; exact h.elim
    | true =>
      rw [hb] at h
      obtain ⟨as, t⟩ := q
      have hwd : vg_wd t ≤ 8 := Nat.le_of_ble_eq_true hb
      obtain ⟨hpre, hk⟩ := h
      obtain ⟨hx, hcb, hml, hown, hts, hK, hty, hr, hlocks, hRR, hA, hDA, hclo⟩ := C0
      subst hRR
      have hg : ∀ w ∈ tb, goodWord w = true := fun w h => List.all_eq_true.mp hG w h
      obtain ⟨e1, e2⟩ := vg_pop_eq _ _ _ _ _ hpop
      have hst : st = as.reverse ++ t := by rw [e1]; rfl
      have hav : ∀ v ∈ as, vg_ok nm v := fun v hv => hs v (by rw [hst]; exact List.mem_append_left _ (List.mem_reverse.mpr hv))
      have ht : ∀ v ∈ t, vg_ok nm v := fun v hv => hs v (by rw [hst]; exact List.mem_append_right _ hv)
      have hlen : as.length = k := by simp at e2; omega
      have hstk : st.map (vg_cv ad) = (as.map (vg_cv ad)).reverse ++ t.map (vg_cv ad) := by rw [hst]; simp
      have cw : va_CN (vg_rm d) s args own ix y host bytes mL rt (.code y bytes mL rt :: tb) (vg_rm d') 0 0 k := by
        refine va_cnB k hts (fun w hw => ?_) rfl rfl rfl (va_Nw.of rfl (hts _ hl)) (hts _ hini) hy ⟨hR.1, ?_⟩
        · rcases List.mem_cons.mp hw with rfl | hw
          · exact ⟨hcw, good_of_word (hg _ hcw)⟩
          · exact ⟨hw, good_of_word (hg _ hw)⟩
        · show 8 + (mL + 11) + 32 * d' ≤ 32 * d
          omega
      refine vg_callK (va_runSN (As := as.map (vg_cv ad)) (rest := t.map (vg_cv ad)) ⟨hx, hcb, hml, hown, hts⟩ (hM l D tys ad H.size as σ hty hav hpre) ⟨cw, hts _ hi, trivial⟩ ⟨fun a U g mk q => ?_, fun U hU hW => ⟨rfl, ?_, ?_, ?_, ?_⟩⟩ rfl (by rw [List.length_map]; exact hlen) hl0.1 hstk (lv_room (by rw [vg_wd_sum]; exact hwd)) hd ⟨Nat.le_refl _, Nat.le_refl _⟩) hS (vg_in_A (hDA σ) hA hS.1) (fun r σ1 H1 locs1 hp hok hP1 hS1 => ?_)
      · obtain ⟨q0, q1, qP, qK, qD⟩ := q
        exact ⟨q0, q1, qP, va_K.moved (u := U) (U := U.calling g mk a) (Vm.Alike.refl U.vm) qK, qD⟩
      · rw [hU]
      · rw [hU]; exact hP
      · exact va_K.moved hW.alike hK
      · exact (hDA σ).weaken (fun _ _ _ _ => trivial)
      · obtain ⟨rfl, rfl⟩ := hp
        unfold vg_k at hk
        cases hre : (sp as σ).2.1 with
        | none => rw [hre] at hk; exact hk H1 locs1 ls hl0 ho ht hP1 hS1
        | some v => rw [hre] at hk; exact hk H1 locs1 ls hl0 ho (vg_okc (hok v hre) ht) hP1 hS1
  next => exact h.elim
theorem vs_max {ix : Nat} (hd : decode cc pc = .ok (.invokestatic ix, 3)) (h1 : Cond.methodLink own ix Lib.Math.max.name ∈ tb) (h2 : Cond.static Lib.Math.max.name ∈ tb) (h3 : Cond.initialized "java/lang/Math" ∈ tb) (h4 : Cond.code Lib.Math.max.name Lib.Math.max.code 2 (some .int) ∈ tb) (hdd : 1 ≤ d) (hn : pc + 3 = n) : vg_Snd tb shp nm cl tyl cc nL own ret d pc (vi_max n) := by
  subst hn
  refine ⟨vs_m1 fun K K' h lv st σ g => ?_, ?_⟩
  · split at g
    next =>
      cases hb : Nat.ble (vg_wd _) 8 with
      | false => rw [hb] at g; exact g.elim
      | true => rw [hb] at g; exact h _ _ _ _ g
    next => exact g
  intro p l e R s m args below meth c D tys ad A P C0 lv st σ h H locs ls hl ho hs hP hS
  have hts := C0.2.2.2.2.1
  unfold vi_max at h
  split at h
  next y x t =>
    cases hb : Nat.ble (vg_wd t) 8 with
    | false => rw [hb] at h; exact h.elim
    | true =>
      rw [hb] at h
      have hwd : vg_wd t ≤ 8 := Nat.le_of_ble_eq_true hb
      have hR := C0.2.2.2.2.2.2.2.2.2.1
      exact va_mmax C0.1 C0.2.1 (C0.2.2.1.trans hl.1.symm) C0.2.2.2.1 (hts _ h1) (hts _ h2) (hts _ h3) (hts _ h4) (by rw [hR]; exact hdd) (by rw [vg_wd_sum, hR]; show vg_wd t + 13 ≤ 32 * d; omega) (Nat.zero_le _) (Nat.zero_le _) hd (h H locs ls hl ho (vg_okc trivial (vg_okt (vg_okt hs))) hP hS)
  next => exact h.elim
theorem vs_min {ix : Nat} (hd : decode cc pc = .ok (.invokestatic ix, 3)) (h1 : Cond.methodLink own ix Lib.Math.min.name ∈ tb) (h2 : Cond.static Lib.Math.min.name ∈ tb) (h3 : Cond.initialized "java/lang/Math" ∈ tb) (h4 : Cond.code Lib.Math.min.name Lib.Math.min.code 2 (some .int) ∈ tb) (hdd : 1 ≤ d) (hn : pc + 3 = n) : vg_Snd tb shp nm cl tyl cc nL own ret d pc (vi_min n) := by
  subst hn
  refine ⟨vs_m1 fun K K' h lv st σ g => ?_, ?_⟩
  · split at g
    next =>
      cases hb : Nat.ble (vg_wd _) 8 with
      | false => rw [hb] at g; exact g.elim
      | true => rw [hb] at g; exact h _ _ _ _ g
    next => exact g
  intro p l e R s m args below meth c D tys ad A P C0 lv st σ h H locs ls hl ho hs hP hS
  have hts := C0.2.2.2.2.1
  unfold vi_min at h
  split at h
  next y x t =>
    cases hb : Nat.ble (vg_wd t) 8 with
    | false => rw [hb] at h; exact h.elim
    | true =>
      rw [hb] at h
      have hwd : vg_wd t ≤ 8 := Nat.le_of_ble_eq_true hb
      have hR := C0.2.2.2.2.2.2.2.2.2.1
      exact va_mmin C0.1 C0.2.1 (C0.2.2.1.trans hl.1.symm) C0.2.2.2.1 (hts _ h1) (hts _ h2) (hts _ h3) (hts _ h4) (by rw [hR]; exact hdd) (by rw [vg_wd_sum, hR]; show vg_wd t + 13 ≤ 32 * d; omega) (Nat.zero_le _) (Nat.zero_le _) hd (h H locs ls hl ho (vg_okc trivial (vg_okt (vg_okt hs))) hP hS)
  next => exact h.elim
theorem vs_abs {ix : Nat} (hd : decode cc pc = .ok (.invokestatic ix, 3)) (h1 : Cond.methodLink own ix Lib.Math.abs.name ∈ tb) (h2 : Cond.static Lib.Math.abs.name ∈ tb) (h3 : Cond.initialized "java/lang/Math" ∈ tb) (h4 : Cond.code Lib.Math.abs.name Lib.Math.abs.code 1 (some .int) ∈ tb) (hdd : 1 ≤ d) (hn : pc + 3 = n) : vg_Snd tb shp nm cl tyl cc nL own ret d pc (vi_abs n) := by
  subst hn
  refine ⟨vs_m1 fun K K' h lv st σ g => ?_, ?_⟩
  · split at g
    next =>
      cases hb : Nat.ble (vg_wd _) 8 with
      | false => rw [hb] at g; exact g.elim
      | true => rw [hb] at g; exact h _ _ _ _ g
    next => exact g
  intro p l e R s m args below meth c D tys ad A P C0 lv st σ h H locs ls hl ho hs hP hS
  have hts := C0.2.2.2.2.1
  unfold vi_abs at h
  split at h
  next x t =>
    cases hb : Nat.ble (vg_wd t) 8 with
    | false => rw [hb] at h; exact h.elim
    | true =>
      rw [hb] at h
      have hwd : vg_wd t ≤ 8 := Nat.le_of_ble_eq_true hb
      have hR := C0.2.2.2.2.2.2.2.2.2.1
      exact va_mabs C0.1 C0.2.1 (C0.2.2.1.trans hl.1.symm) C0.2.2.2.1 (hts _ h1) (hts _ h2) (hts _ h3) (hts _ h4) (by rw [hR]; exact hdd) (by rw [vg_wd_sum, hR]; show vg_wd t + 13 ≤ 32 * d; omega) (Nat.zero_le _) (Nat.zero_le _) hd (h H locs ls hl ho (vg_okc trivial (vg_okt hs)) hP hS)
  next => exact h.elim
end VC
end
section
/-! the world of one WarnWave: its two lands (b = 0: the land, b = 1: the trial), and all that hangs on them -/
def ww_cl : List vw_C := [(RX5, TX5, 2), (RX1, TX1, 14), (RX2, TX2, 4), (RX3, TX3, 2), (RX4, TX4, 8), (RX0, TX0, 13)]
def ww_tyl : List FieldType := [.int, .boolean, .object "WarnWave$Group", .object "WarnWave$Shelter", .object "WarnWave$Warning"]
def ww_shl : List (Nat × (Nat → Nat → vgH)) := [
  (1, fun b _ => .inl (1, [none, none, none, none, none, none, none, some (2, b, 0), some (3, b, 0), some (4, b, 0), some (5, b, 0), some (5, b, 1), some (6, b, 0), some (12, b, 0)])),
  (9, fun b g => .inl (5, [none, none, none, none, none, none, none, none, some (14, b, g), some (15, b, g), some (16, b, g), some (17, b, g), some (18, b, g)])),
  (11, fun _ _ => .inl (4, [none, none, none, none, none, none, none, none])),
  (2, fun b _ => .inr (.inr (2, 8, fun g => (9, b, g)))),
  (4, fun b _ => .inr (.inr (4, 12, fun w => (11, b, w)))),
  (14, fun _ _ => .inr (.inl (0, 12))), (18, fun _ _ => .inr (.inl (0, 12))), (15, fun _ _ => .inr (.inl (0, 12))), (16, fun _ _ => .inr (.inl (0, 12))), (17, fun _ _ => .inr (.inl (0, 12))),
  (0, fun _ _ => .inl (0, [some (1, 0, 0), some (1, 1, 0)])),
  (3, fun b _ => .inr (.inr (3, 3, fun s => (10, b, s)))),
  (10, fun _ _ => .inl (3, [none, none])),
  (5, fun b j => .inl (2, [some (7, b, j), some (13, b, j), some (8, b, j), none])),
  (6, fun _ _ => .inr (.inl (0, 16))), (12, fun _ _ => .inr (.inl (0, 12))),
  (7, fun _ _ => .inr (.inl (0, 5))), (13, fun _ _ => .inr (.inl (0, 5))), (8, fun _ _ => .inr (.inl (1, 5)))]
def ww_shp : vgN → vgH := fun n => match vg_look ww_shl n.1 with
  | some f => f n.2.1 n.2.2
  | none => .inr (.inl (0, 0))
def ww_nm1 (b : Nat) : List vgN := [(1, b, 0), (2, b, 0), (3, b, 0), (4, b, 0), (5, b, 0), (5, b, 1), (6, b, 0), (12, b, 0), (7, b, 0), (7, b, 1), (13, b, 0), (13, b, 1), (8, b, 0), (8, b, 1)] ++ ((List.range 8).flatMap (fun g => [(9, b, g), (14, b, g), (15, b, g), (16, b, g), (17, b, g), (18, b, g)]) ++ ((List.range 3).map (fun s => (10, b, s)) ++ (List.range 12).map (fun w => (11, b, w))))
def ww_nm : List vgN := (0, 0, 0) :: (ww_nm1 0 ++ ww_nm1 1)
def vg_closedB (shp : vgN → vgH) (nm : List vgN) (n : vgN) : Bool := match shp n with
  | .inl q => q.2.all (fun o => match o with | none => true | some m => nm.elem m)
  | .inr (.inl _) => true
  | .inr (.inr q) => (List.range q.2.1).all (fun i => nm.elem (q.2.2 i))
theorem vg_closed_of {shp : vgN → vgH} {nm : List vgN} (h : nm.all (vg_closedB shp nm) = true) : vg_closed shp nm := by
  intro n hn
  have h1 := List.all_eq_true.mp h n hn
  unfold vg_closedB at h1
  split at h1
  next q hq =>
    rw [hq]
    intro m hm
    have h2 := List.all_eq_true.mp h1 _ hm
    exact List.elem_iff.mp h2
  next q hq => rw [hq]; trivial
  next q hq =>
    rw [hq]
    intro i hi
    have h2 := List.all_eq_true.mp h1 i (List.mem_range.mpr hi)
    exact List.elem_iff.mp h2
theorem ww_closed : vg_closed ww_shp ww_nm := vg_closed_of (by decide +kernel)
def ww_tb : List Cond := lw_tbl.filter goodWord
theorem ww_good : ww_tb.all goodWord = true := List.all_eq_true.mpr (fun w h => (List.mem_filter.mp h).2)
theorem ww_in (ws : List Cond) (h : ws.all (fun w => decide (w ∈ ww_tb)) = true) : ∀ w ∈ ws, w ∈ ww_tb := fun w hw => of_decide_eq_true (List.all_eq_true.mp h w hw)
theorem ww_inX0 : ∀ w ∈ u_ws RX0 TX0 13, w ∈ ww_tb := ww_in _ (by decide +kernel)
theorem ww_inX1 : ∀ w ∈ u_ws RX1 TX1 14, w ∈ ww_tb := ww_in _ (by decide +kernel)
theorem ww_inX2 : ∀ w ∈ u_ws RX2 TX2 4, w ∈ ww_tb := ww_in _ (by decide +kernel)
theorem ww_inX3 : ∀ w ∈ u_ws RX3 TX3 2, w ∈ ww_tb := ww_in _ (by decide +kernel)
theorem ww_inX4 : ∀ w ∈ u_ws RX4 TX4 8, w ∈ ww_tb := ww_in _ (by decide +kernel)
theorem ww_inX5 : ∀ w ∈ u_ws RX5 TX5 2, w ∈ ww_tb := ww_in _ (by decide +kernel)
end
section
/-! what stands at each place of the methods' code (laid by program) -/
theorem dX5_isIn_0 : decode cX5_isIn 0 = .ok (.iload_n 0, 1) := by decide +kernel
theorem dX5_isIn_1 : decode cX5_isIn 1 = .ok (.iload_n 1, 1) := by decide +kernel
theorem dX5_isIn_2 : decode cX5_isIn 2 = .ok (.ishr, 1) := by decide +kernel
theorem dX5_isIn_3 : decode cX5_isIn 3 = .ok (.iconst 1, 1) := by decide +kernel
theorem dX5_isIn_4 : decode cX5_isIn 4 = .ok (.iand, 1) := by decide +kernel
theorem dX5_isIn_5 : decode cX5_isIn 5 = .ok (.iconst 1, 1) := by decide +kernel
theorem dX5_isIn_6 : decode cX5_isIn 6 = .ok (.if_icmp .ne 7, 3) := by decide +kernel
theorem dX5_isIn_9 : decode cX5_isIn 9 = .ok (.iconst 1, 1) := by decide +kernel
theorem dX5_isIn_10 : decode cX5_isIn 10 = .ok (.goto 4, 3) := by decide +kernel
theorem dX5_isIn_13 : decode cX5_isIn 13 = .ok (.iconst 0, 1) := by decide +kernel
theorem dX5_isIn_14 : decode cX5_isIn 14 = .ok (.ireturn, 1) := by decide +kernel
theorem dX5_distance_0 : decode cX5_distance 0 = .ok (.iload_n 0, 1) := by decide +kernel
theorem dX5_distance_1 : decode cX5_distance 1 = .ok (.iconst 4, 1) := by decide +kernel
theorem dX5_distance_2 : decode cX5_distance 2 = .ok (.idiv, 1) := by decide +kernel
theorem dX5_distance_3 : decode cX5_distance 3 = .ok (.iload_n 1, 1) := by decide +kernel
theorem dX5_distance_4 : decode cX5_distance 4 = .ok (.iconst 4, 1) := by decide +kernel
theorem dX5_distance_5 : decode cX5_distance 5 = .ok (.idiv, 1) := by decide +kernel
theorem dX5_distance_6 : decode cX5_distance 6 = .ok (.isub, 1) := by decide +kernel
theorem dX5_distance_7 : decode cX5_distance 7 = .ok (.invokestatic 344, 3) := by decide +kernel
theorem dX5_distance_10 : decode cX5_distance 10 = .ok (.iload_n 0, 1) := by decide +kernel
theorem dX5_distance_11 : decode cX5_distance 11 = .ok (.iconst 4, 1) := by decide +kernel
theorem dX5_distance_12 : decode cX5_distance 12 = .ok (.irem, 1) := by decide +kernel
theorem dX5_distance_13 : decode cX5_distance 13 = .ok (.iload_n 1, 1) := by decide +kernel
theorem dX5_distance_14 : decode cX5_distance 14 = .ok (.iconst 4, 1) := by decide +kernel
theorem dX5_distance_15 : decode cX5_distance 15 = .ok (.irem, 1) := by decide +kernel
theorem dX5_distance_16 : decode cX5_distance 16 = .ok (.isub, 1) := by decide +kernel
theorem dX5_distance_17 : decode cX5_distance 17 = .ok (.invokestatic 344, 3) := by decide +kernel
theorem dX5_distance_20 : decode cX5_distance 20 = .ok (.iadd, 1) := by decide +kernel
theorem dX5_distance_21 : decode cX5_distance 21 = .ok (.ireturn, 1) := by decide +kernel
theorem dX5_stepTowards_0 : decode cX5_stepTowards 0 = .ok (.iload_n 0, 1) := by decide +kernel
theorem dX5_stepTowards_1 : decode cX5_stepTowards 1 = .ok (.iconst 4, 1) := by decide +kernel
theorem dX5_stepTowards_2 : decode cX5_stepTowards 2 = .ok (.idiv, 1) := by decide +kernel
theorem dX5_stepTowards_3 : decode cX5_stepTowards 3 = .ok (.iload_n 1, 1) := by decide +kernel
theorem dX5_stepTowards_4 : decode cX5_stepTowards 4 = .ok (.iconst 4, 1) := by decide +kernel
theorem dX5_stepTowards_5 : decode cX5_stepTowards 5 = .ok (.idiv, 1) := by decide +kernel
theorem dX5_stepTowards_6 : decode cX5_stepTowards 6 = .ok (.if_icmp .eq 18, 3) := by decide +kernel
theorem dX5_stepTowards_9 : decode cX5_stepTowards 9 = .ok (.iload_n 1, 1) := by decide +kernel
theorem dX5_stepTowards_10 : decode cX5_stepTowards 10 = .ok (.iload_n 0, 1) := by decide +kernel
theorem dX5_stepTowards_11 : decode cX5_stepTowards 11 = .ok (.if_icmp .le 9, 3) := by decide +kernel
theorem dX5_stepTowards_14 : decode cX5_stepTowards 14 = .ok (.iload_n 0, 1) := by decide +kernel
theorem dX5_stepTowards_15 : decode cX5_stepTowards 15 = .ok (.iconst 4, 1) := by decide +kernel
theorem dX5_stepTowards_16 : decode cX5_stepTowards 16 = .ok (.iadd, 1) := by decide +kernel
theorem dX5_stepTowards_17 : decode cX5_stepTowards 17 = .ok (.goto 6, 3) := by decide +kernel
theorem dX5_stepTowards_20 : decode cX5_stepTowards 20 = .ok (.iload_n 0, 1) := by decide +kernel
theorem dX5_stepTowards_21 : decode cX5_stepTowards 21 = .ok (.iconst 4, 1) := by decide +kernel
theorem dX5_stepTowards_22 : decode cX5_stepTowards 22 = .ok (.isub, 1) := by decide +kernel
theorem dX5_stepTowards_23 : decode cX5_stepTowards 23 = .ok (.ireturn, 1) := by decide +kernel
theorem dX5_stepTowards_24 : decode cX5_stepTowards 24 = .ok (.iload_n 0, 1) := by decide +kernel
theorem dX5_stepTowards_25 : decode cX5_stepTowards 25 = .ok (.iload_n 1, 1) := by decide +kernel
theorem dX5_stepTowards_26 : decode cX5_stepTowards 26 = .ok (.if_icmp .eq 18, 3) := by decide +kernel
theorem dX5_stepTowards_29 : decode cX5_stepTowards 29 = .ok (.iload_n 1, 1) := by decide +kernel
theorem dX5_stepTowards_30 : decode cX5_stepTowards 30 = .ok (.iload_n 0, 1) := by decide +kernel
theorem dX5_stepTowards_31 : decode cX5_stepTowards 31 = .ok (.if_icmp .le 9, 3) := by decide +kernel
theorem dX5_stepTowards_34 : decode cX5_stepTowards 34 = .ok (.iload_n 0, 1) := by decide +kernel
theorem dX5_stepTowards_35 : decode cX5_stepTowards 35 = .ok (.iconst 1, 1) := by decide +kernel
theorem dX5_stepTowards_36 : decode cX5_stepTowards 36 = .ok (.iadd, 1) := by decide +kernel
theorem dX5_stepTowards_37 : decode cX5_stepTowards 37 = .ok (.goto 6, 3) := by decide +kernel
theorem dX5_stepTowards_40 : decode cX5_stepTowards 40 = .ok (.iload_n 0, 1) := by decide +kernel
theorem dX5_stepTowards_41 : decode cX5_stepTowards 41 = .ok (.iconst 1, 1) := by decide +kernel
theorem dX5_stepTowards_42 : decode cX5_stepTowards 42 = .ok (.isub, 1) := by decide +kernel
theorem dX5_stepTowards_43 : decode cX5_stepTowards 43 = .ok (.ireturn, 1) := by decide +kernel
theorem dX5_stepTowards_44 : decode cX5_stepTowards 44 = .ok (.iload_n 0, 1) := by decide +kernel
theorem dX5_stepTowards_45 : decode cX5_stepTowards 45 = .ok (.ireturn, 1) := by decide +kernel
end
section
/-! words of the tables, each by itself (laid by program) -/
theorem q_0 : Cond.methodLink RX5 344 Lib.Math.abs.name ∈ ww_tb := by decide +kernel
theorem q_1 : Cond.static Lib.Math.abs.name ∈ ww_tb := by decide +kernel
theorem q_2 : Cond.initialized "java/lang/Math" ∈ ww_tb := by decide +kernel
theorem q_3 : Cond.code Lib.Math.abs.name Lib.Math.abs.code 1 (some .int) ∈ ww_tb := by decide +kernel
end
section
/-! the small static methods -/
theorem vg_cons {α : Type} {P : α → Prop} {a : α} {l : List α} (h : P a) (t : ∀ q ∈ l, P q) : ∀ q ∈ a :: l, P q := List.forall_mem_cons.mpr ⟨h, t⟩
/-- what a contract of a pure function is to show -/
abbrev vg_G (k : List (Nat × vgF)) (sp : vgC) : Prop := ∀ av σ, (sp av σ).1 → vg_Go k (fun r σ' => r = (sp av σ).2.1 ∧ σ' = (sp av σ).2.2) 0 (vg_args 0 av) [] σ
abbrev vg_Wd (sp : vgC) (n : Nat) : Prop := ∀ av σ, (sp av σ).1 → vg_wd av ≤ n
def jIn (s i : Int32) : Int32 := if (s >>> (i &&& 31)) &&& 1 = 1 then 1 else 0
theorem jIn_01 (s i : Int32) : jIn s i = 0 ∨ jIn s i = 1 := by
  unfold jIn
  split
  · exact Or.inr rfl
  · exact Or.inl rfl
def sp_X5_isIn : vgC := fun av σ => match av with
  | [.inl (.int s), .inl (.int i)] => (True, some (.inl (.int (jIn s i))), σ)
  | _ => (False, none, σ)
def k_X5_isIn : List (Nat × vgF) := [(0, vi_iload 0 1), (1, vi_iload 1 2), (2, vi_bin (fun x y => x >>> (y &&& 31)) 3), (3, vi_icst (1) 4), (4, vi_bin (fun x y => x &&& y) 5), (5, vi_icst (1) 6), (6, vi_cmp (fun x y => x = y) 9 13), (9, vi_icst (1) 10), (10, vi_goto 14), (13, vi_icst (0) 14), (14, vi_retZ)]
set_option maxRecDepth 20000 in
theorem s_X5_isIn : ∀ q ∈ k_X5_isIn, vg_Snd ww_tb ww_shp ww_nm ww_cl ww_tyl cX5_isIn 2 RX5 (some .boolean) 0 q.1 q.2 := by
  refine vg_cons (vs_iload_n dX5_isIn_0 rfl rfl) ?_
  refine vg_cons (vs_iload_n dX5_isIn_1 rfl rfl) ?_
  refine vg_cons (vs_ishr dX5_isIn_2 rfl) ?_
  refine vg_cons (vs_iconst dX5_isIn_3 rfl rfl) ?_
  refine vg_cons (vs_iand dX5_isIn_4 rfl) ?_
  refine vg_cons (vs_iconst dX5_isIn_5 rfl rfl) ?_
  refine vg_cons (vs_cmp_ne dX5_isIn_6 (by decide) rfl) ?_
  refine vg_cons (vs_iconst dX5_isIn_9 rfl rfl) ?_
  refine vg_cons (vs_goto dX5_isIn_10 (by decide)) ?_
  refine vg_cons (vs_iconst dX5_isIn_13 rfl rfl) ?_
  refine vg_cons (vs_zreturn dX5_isIn_14 rfl) ?_
  exact fun _ h => absurd h List.not_mem_nil
theorem m_X5_isIn : vg_Code k_X5_isIn := fun q h => (s_X5_isIn q h).1

theorem w_X5_isIn : vg_Wd sp_X5_isIn 2 := by
  intro av σ h
  unfold sp_X5_isIn at h
  split at h
  · exact Nat.le_of_ble_eq_true rfl
  · exact h.elim
theorem g_X5_isIn : vg_G k_X5_isIn sp_X5_isIn := by
  intro av σ h
  unfold sp_X5_isIn at h ⊢
  split at h
  next s i =>
    refine vg_run (cuts := []) m_X5_isIn 20 ?_
    refine And.intro (fun hc => ?_) (fun hc => ?_)
    · refine And.intro (Or.inr rfl) (And.intro ?_ rfl)
      show some (Sum.inl (Value.int 1)) = some (Sum.inl (Value.int (jIn s i)))
      rw [jIn, if_pos hc]
    · refine And.intro (Or.inl rfl) (And.intro ?_ rfl)
      show some (Sum.inl (Value.int 0)) = some (Sum.inl (Value.int (jIn s i)))
      rw [jIn, if_neg hc]
  next => exact h.elim
theorem c_X5_isIn : vg_MetF ww_tb ww_shp ww_nm ww_cl ww_tyl yX5_isIn cX5_isIn 2 (some .boolean) 0 sp_X5_isIn := vg_met ww_closed (by decide +kernel) rfl s_X5_isIn w_X5_isIn g_X5_isIn
def jAbs (x : Int32) : Int32 := if 0 ≤ x then x else 0 - x
def jDist (a b : Int32) : Int32 := jAbs (a / 4 - b / 4) + jAbs ((a - a / 4 * 4) - (b - b / 4 * 4))
def sp_X5_distance : vgC := fun av σ => match av with
  | [.inl (.int a), .inl (.int b)] => (True, some (.inl (.int (jDist a b))), σ)
  | _ => (False, none, σ)
def k_X5_distance : List (Nat × vgF) := [(0, vi_iload 0 1), (1, vi_icst (4) 2), (2, vi_div (fun x y => x / y) 3), (3, vi_iload 1 4), (4, vi_icst (4) 5), (5, vi_div (fun x y => x / y) 6), (6, vi_bin (fun x y => x - y) 7), (7, vi_abs 10), (10, vi_iload 0 11), (11, vi_icst (4) 12), (12, vi_div (fun x y => x - x / y * y) 13), (13, vi_iload 1 14), (14, vi_icst (4) 15), (15, vi_div (fun x y => x - x / y * y) 16), (16, vi_bin (fun x y => x - y) 17), (17, vi_abs 20), (20, vi_bin (fun x y => x + y) 21), (21, vi_ret)]
set_option maxRecDepth 20000 in
theorem s_X5_distance : ∀ q ∈ k_X5_distance, vg_Snd ww_tb ww_shp ww_nm ww_cl ww_tyl cX5_distance 2 RX5 (some .int) 1 q.1 q.2 := by
  refine vg_cons (vs_iload_n dX5_distance_0 rfl rfl) ?_
  refine vg_cons (vs_iconst dX5_distance_1 rfl rfl) ?_
  refine vg_cons (vs_idiv dX5_distance_2 rfl) ?_
  refine vg_cons (vs_iload_n dX5_distance_3 rfl rfl) ?_
  refine vg_cons (vs_iconst dX5_distance_4 rfl rfl) ?_
  refine vg_cons (vs_idiv dX5_distance_5 rfl) ?_
  refine vg_cons (vs_isub dX5_distance_6 rfl) ?_
  refine vg_cons (vs_abs dX5_distance_7 q_0 q_1 q_2 q_3 (by decide) rfl) ?_
  refine vg_cons (vs_iload_n dX5_distance_10 rfl rfl) ?_
  refine vg_cons (vs_iconst dX5_distance_11 rfl rfl) ?_
  refine vg_cons (vs_irem dX5_distance_12 rfl) ?_
  refine vg_cons (vs_iload_n dX5_distance_13 rfl rfl) ?_
  refine vg_cons (vs_iconst dX5_distance_14 rfl rfl) ?_
  refine vg_cons (vs_irem dX5_distance_15 rfl) ?_
  refine vg_cons (vs_isub dX5_distance_16 rfl) ?_
  refine vg_cons (vs_abs dX5_distance_17 q_0 q_1 q_2 q_3 (by decide) rfl) ?_
  refine vg_cons (vs_iadd dX5_distance_20 rfl) ?_
  refine vg_cons (vs_ireturn dX5_distance_21 rfl) ?_
  exact fun _ h => absurd h List.not_mem_nil
theorem m_X5_distance : vg_Code k_X5_distance := fun q h => (s_X5_distance q h).1

theorem w_X5_distance : vg_Wd sp_X5_distance 2 := by
  intro av σ h
  unfold sp_X5_distance at h
  split at h
  · exact Nat.le_of_ble_eq_true rfl
  · exact h.elim
theorem g_X5_distance : vg_G k_X5_distance sp_X5_distance := by
  intro av σ h
  unfold sp_X5_distance at h ⊢
  split at h
  next s i =>
    refine vg_run (cuts := []) m_X5_distance 40 ?_
    exact And.intro (by decide) (And.intro (by decide) (And.intro (by decide) (And.intro (by decide) (And.intro rfl rfl))))
  next => exact h.elim
theorem c_X5_distance : vg_MetF ww_tb ww_shp ww_nm ww_cl ww_tyl yX5_distance cX5_distance 2 (some .int) 1 sp_X5_distance := vg_met ww_closed (by decide +kernel) rfl s_X5_distance w_X5_distance g_X5_distance
def jStep (a b : Int32) : Int32 := if a / 4 = b / 4 then (if a = b then a else if a < b then a + 1 else a - 1) else if a < b then a + 4 else a - 4
def sp_X5_stepTowards : vgC := fun av σ => match av with
  | [.inl (.int a), .inl (.int b)] => (True, some (.inl (.int (jStep a b))), σ)
  | _ => (False, none, σ)
def k_X5_stepTowards : List (Nat × vgF) := [(0, vi_iload 0 1), (1, vi_icst (4) 2), (2, vi_div (fun x y => x / y) 3), (3, vi_iload 1 4), (4, vi_icst (4) 5), (5, vi_div (fun x y => x / y) 6), (6, vi_cmp (fun x y => x = y) 24 9), (9, vi_iload 1 10), (10, vi_iload 0 11), (11, vi_cmp (fun x y => x ≤ y) 20 14), (14, vi_iload 0 15), (15, vi_icst (4) 16), (16, vi_bin (fun x y => x + y) 17), (17, vi_goto 23), (20, vi_iload 0 21), (21, vi_icst (4) 22), (22, vi_bin (fun x y => x - y) 23), (23, vi_ret), (24, vi_iload 0 25), (25, vi_iload 1 26), (26, vi_cmp (fun x y => x = y) 44 29), (29, vi_iload 1 30), (30, vi_iload 0 31), (31, vi_cmp (fun x y => x ≤ y) 40 34), (34, vi_iload 0 35), (35, vi_icst (1) 36), (36, vi_bin (fun x y => x + y) 37), (37, vi_goto 43), (40, vi_iload 0 41), (41, vi_icst (1) 42), (42, vi_bin (fun x y => x - y) 43), (43, vi_ret), (44, vi_iload 0 45), (45, vi_ret)]
set_option maxRecDepth 20000 in
theorem s_X5_stepTowards : ∀ q ∈ k_X5_stepTowards, vg_Snd ww_tb ww_shp ww_nm ww_cl ww_tyl cX5_stepTowards 2 RX5 (some .int) 0 q.1 q.2 := by
  refine vg_cons (vs_iload_n dX5_stepTowards_0 rfl rfl) ?_
  refine vg_cons (vs_iconst dX5_stepTowards_1 rfl rfl) ?_
  refine vg_cons (vs_idiv dX5_stepTowards_2 rfl) ?_
  refine vg_cons (vs_iload_n dX5_stepTowards_3 rfl rfl) ?_
  refine vg_cons (vs_iconst dX5_stepTowards_4 rfl rfl) ?_
  refine vg_cons (vs_idiv dX5_stepTowards_5 rfl) ?_
  refine vg_cons (vs_cmp_eq dX5_stepTowards_6 (by decide) rfl) ?_
  refine vg_cons (vs_iload_n dX5_stepTowards_9 rfl rfl) ?_
  refine vg_cons (vs_iload_n dX5_stepTowards_10 rfl rfl) ?_
  refine vg_cons (vs_cmp_le dX5_stepTowards_11 (by decide) rfl) ?_
  refine vg_cons (vs_iload_n dX5_stepTowards_14 rfl rfl) ?_
  refine vg_cons (vs_iconst dX5_stepTowards_15 rfl rfl) ?_
  refine vg_cons (vs_iadd dX5_stepTowards_16 rfl) ?_
  refine vg_cons (vs_goto dX5_stepTowards_17 (by decide)) ?_
  refine vg_cons (vs_iload_n dX5_stepTowards_20 rfl rfl) ?_
  refine vg_cons (vs_iconst dX5_stepTowards_21 rfl rfl) ?_
  refine vg_cons (vs_isub dX5_stepTowards_22 rfl) ?_
  refine vg_cons (vs_ireturn dX5_stepTowards_23 rfl) ?_
  refine vg_cons (vs_iload_n dX5_stepTowards_24 rfl rfl) ?_
  refine vg_cons (vs_iload_n dX5_stepTowards_25 rfl rfl) ?_
  refine vg_cons (vs_cmp_eq dX5_stepTowards_26 (by decide) rfl) ?_
  refine vg_cons (vs_iload_n dX5_stepTowards_29 rfl rfl) ?_
  refine vg_cons (vs_iload_n dX5_stepTowards_30 rfl rfl) ?_
  refine vg_cons (vs_cmp_le dX5_stepTowards_31 (by decide) rfl) ?_
  refine vg_cons (vs_iload_n dX5_stepTowards_34 rfl rfl) ?_
  refine vg_cons (vs_iconst dX5_stepTowards_35 rfl rfl) ?_
  refine vg_cons (vs_iadd dX5_stepTowards_36 rfl) ?_
  refine vg_cons (vs_goto dX5_stepTowards_37 (by decide)) ?_
  refine vg_cons (vs_iload_n dX5_stepTowards_40 rfl rfl) ?_
  refine vg_cons (vs_iconst dX5_stepTowards_41 rfl rfl) ?_
  refine vg_cons (vs_isub dX5_stepTowards_42 rfl) ?_
  refine vg_cons (vs_ireturn dX5_stepTowards_43 rfl) ?_
  refine vg_cons (vs_iload_n dX5_stepTowards_44 rfl rfl) ?_
  refine vg_cons (vs_ireturn dX5_stepTowards_45 rfl) ?_
  exact fun _ h => absurd h List.not_mem_nil
theorem m_X5_stepTowards : vg_Code k_X5_stepTowards := fun q h => (s_X5_stepTowards q h).1

theorem w_X5_stepTowards : vg_Wd sp_X5_stepTowards 2 := by
  intro av σ h
  unfold sp_X5_stepTowards at h
  split at h
  · exact Nat.le_of_ble_eq_true rfl
  · exact h.elim
theorem g_X5_stepTowards : vg_G k_X5_stepTowards sp_X5_stepTowards := by
  intro av σ h
  unfold sp_X5_stepTowards at h ⊢
  split at h
  next a b =>
    refine vg_run (cuts := []) m_X5_stepTowards 60 ?_
    refine And.intro (by decide) (And.intro (by decide) (And.intro (fun hc => ?_) (fun hc => ?_)))
    · refine And.intro (fun hd => ?_) (fun hd => ?_)
      · refine And.intro ?_ rfl
        trace_state
        sorry
      · refine And.intro (fun he => ?_) (fun he => ?_)
        · refine And.intro ?_ rfl
          sorry
        · refine And.intro ?_ rfl
          trace_state
          sorry
    · refine And.intro (fun he => ?_) (fun he => ?_)
      · refine And.intro ?_ rfl
        trace_state
        sorry
      · refine And.intro ?_ rfl
        sorry
  next => exact h.elim
theorem c_X5_stepTowards : vg_MetF ww_tb ww_shp ww_nm ww_cl ww_tyl yX5_stepTowards cX5_stepTowards 2 (some .int) 0 sp_X5_stepTowards := vg_met ww_closed (by decide +kernel) rfl s_X5_stepTowards w_X5_stepTowards g_X5_stepTowards
end
