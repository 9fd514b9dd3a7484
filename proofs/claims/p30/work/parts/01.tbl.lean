/-! the tables' words, the names of the classes and of their methods (begun from the printed texts) -/
/-- a private method of a class that the tables say can be made, by its rows of tables_1 -/
def lw_okq (q : MethodName × Nat) : Prop := (q.1.cls ≠ "java/lang/invoke/MethodHandle" ∧ q.1.cls ≠ "java/lang/invoke/VarHandle") ∧ Cond.instantiable q.1.cls q.2 ∈ tables_1 ∧ Cond.privateMethod q.1 ∈ tables_1 ∧ Cond.instanceMethod q.1 ∈ tables_1
theorem lw_p0 : lw_okq (⟨"java/lang/Throwable", "fillInStackTrace", "(I)Ljava/lang/Throwable;"⟩, 6) := ⟨⟨by decide +kernel, by decide +kernel⟩, List.mem_of_getElem? (i := 65) (by decide +kernel), List.mem_of_getElem? (i := 63) (by decide +kernel), List.mem_of_getElem? (i := 64) (by decide +kernel)⟩
theorem lw_p1 : lw_okq (⟨"WarnWave$Land", "chooseCalls", "()V"⟩, 14) := ⟨⟨by decide +kernel, by decide +kernel⟩, List.mem_of_getElem? (i := 149) (by decide +kernel), List.mem_of_getElem? (i := 147) (by decide +kernel), List.mem_of_getElem? (i := 148) (by decide +kernel)⟩
theorem lw_p2 : lw_okq (⟨"WarnWave$Land", "firstToCall", "(I)I"⟩, 14) := ⟨⟨by decide +kernel, by decide +kernel⟩, List.mem_of_getElem? (i := 149) (by decide +kernel), List.mem_of_getElem? (i := 152) (by decide +kernel), List.mem_of_getElem? (i := 153) (by decide +kernel)⟩
theorem lw_p3 : lw_okq (⟨"WarnWave$Land", "hearAll", "()V"⟩, 14) := ⟨⟨by decide +kernel, by decide +kernel⟩, List.mem_of_getElem? (i := 149) (by decide +kernel), List.mem_of_getElem? (i := 163) (by decide +kernel), List.mem_of_getElem? (i := 164) (by decide +kernel)⟩
theorem lw_p4 : lw_okq (⟨"WarnWave$Land", "publicWays", "(LWarnWave$Group;LWarnWave$Warning;ZZZ)I"⟩, 14) := ⟨⟨by decide +kernel, by decide +kernel⟩, List.mem_of_getElem? (i := 149) (by decide +kernel), List.mem_of_getElem? (i := 193) (by decide +kernel), List.mem_of_getElem? (i := 194) (by decide +kernel)⟩
theorem lw_p5 : lw_okq (⟨"WarnWave$Land", "hearOne", "(III)V"⟩, 14) := ⟨⟨by decide +kernel, by decide +kernel⟩, List.mem_of_getElem? (i := 149) (by decide +kernel), List.mem_of_getElem? (i := 197) (by decide +kernel), List.mem_of_getElem? (i := 198) (by decide +kernel)⟩
theorem lw_p6 : lw_okq (⟨"WarnWave$Land", "believingNeighbour", "(II)I"⟩, 14) := ⟨⟨by decide +kernel, by decide +kernel⟩, List.mem_of_getElem? (i := 149) (by decide +kernel), List.mem_of_getElem? (i := 201) (by decide +kernel), List.mem_of_getElem? (i := 202) (by decide +kernel)⟩
theorem lw_p7 : lw_okq (⟨"WarnWave$Land", "believeAll", "()I"⟩, 14) := ⟨⟨by decide +kernel, by decide +kernel⟩, List.mem_of_getElem? (i := 149) (by decide +kernel), List.mem_of_getElem? (i := 211) (by decide +kernel), List.mem_of_getElem? (i := 212) (by decide +kernel)⟩
theorem lw_p8 : lw_okq (⟨"WarnWave$Land", "believeOne", "(LWarnWave$Group;)I"⟩, 14) := ⟨⟨by decide +kernel, by decide +kernel⟩, List.mem_of_getElem? (i := 149) (by decide +kernel), List.mem_of_getElem? (i := 215) (by decide +kernel), List.mem_of_getElem? (i := 216) (by decide +kernel)⟩
theorem lw_p9 : lw_okq (⟨"WarnWave$Land", "goAll", "()V"⟩, 14) := ⟨⟨by decide +kernel, by decide +kernel⟩, List.mem_of_getElem? (i := 149) (by decide +kernel), List.mem_of_getElem? (i := 232) (by decide +kernel), List.mem_of_getElem? (i := 233) (by decide +kernel)⟩
theorem lw_p10 : lw_okq (⟨"WarnWave$Land", "goOne", "(LWarnWave$Group;)V"⟩, 14) := ⟨⟨by decide +kernel, by decide +kernel⟩, List.mem_of_getElem? (i := 149) (by decide +kernel), List.mem_of_getElem? (i := 240) (by decide +kernel), List.mem_of_getElem? (i := 241) (by decide +kernel)⟩
theorem lw_p11 : lw_okq (⟨"WarnWave$Land", "nearestWithRoom", "(LWarnWave$Group;)I"⟩, 14) := ⟨⟨by decide +kernel, by decide +kernel⟩, List.mem_of_getElem? (i := 149) (by decide +kernel), List.mem_of_getElem? (i := 244) (by decide +kernel), List.mem_of_getElem? (i := 245) (by decide +kernel)⟩
theorem lw_p12 : lw_okq (⟨"WarnWave$Land", "harmAll", "()V"⟩, 14) := ⟨⟨by decide +kernel, by decide +kernel⟩, List.mem_of_getElem? (i := 149) (by decide +kernel), List.mem_of_getElem? (i := 251) (by decide +kernel), List.mem_of_getElem? (i := 252) (by decide +kernel)⟩
theorem lw_p13 : lw_okq (⟨"WarnWave", "checkGroup", "(I)V"⟩, 2) := ⟨⟨by decide +kernel, by decide +kernel⟩, List.mem_of_getElem? (i := 277) (by decide +kernel), List.mem_of_getElem? (i := 275) (by decide +kernel), List.mem_of_getElem? (i := 276) (by decide +kernel)⟩
theorem lw_p14 : lw_okq (⟨"WarnWave", "mixHeard", "(JI)J"⟩, 2) := ⟨⟨by decide +kernel, by decide +kernel⟩, List.mem_of_getElem? (i := 277) (by decide +kernel), List.mem_of_getElem? (i := 356) (by decide +kernel), List.mem_of_getElem? (i := 357) (by decide +kernel)⟩
theorem lw_p15 : lw_okq (⟨"WarnWave", "checkWarning", "(I)V"⟩, 2) := ⟨⟨by decide +kernel, by decide +kernel⟩, List.mem_of_getElem? (i := 277) (by decide +kernel), List.mem_of_getElem? (i := 364) (by decide +kernel), List.mem_of_getElem? (i := 365) (by decide +kernel)⟩
def lw_privs_1 : List (MethodName × Nat) := [(⟨"java/lang/Throwable", "fillInStackTrace", "(I)Ljava/lang/Throwable;"⟩, 6), (⟨"WarnWave$Land", "chooseCalls", "()V"⟩, 14), (⟨"WarnWave$Land", "firstToCall", "(I)I"⟩, 14), (⟨"WarnWave$Land", "hearAll", "()V"⟩, 14), (⟨"WarnWave$Land", "publicWays", "(LWarnWave$Group;LWarnWave$Warning;ZZZ)I"⟩, 14), (⟨"WarnWave$Land", "hearOne", "(III)V"⟩, 14), (⟨"WarnWave$Land", "believingNeighbour", "(II)I"⟩, 14), (⟨"WarnWave$Land", "believeAll", "()I"⟩, 14), (⟨"WarnWave$Land", "believeOne", "(LWarnWave$Group;)I"⟩, 14), (⟨"WarnWave$Land", "goAll", "()V"⟩, 14), (⟨"WarnWave$Land", "goOne", "(LWarnWave$Group;)V"⟩, 14), (⟨"WarnWave$Land", "nearestWithRoom", "(LWarnWave$Group;)I"⟩, 14), (⟨"WarnWave$Land", "harmAll", "()V"⟩, 14), (⟨"WarnWave", "checkGroup", "(I)V"⟩, 2), (⟨"WarnWave", "mixHeard", "(JI)J"⟩, 2), (⟨"WarnWave", "checkWarning", "(I)V"⟩, 2)]
theorem lw_r1 : ∀ q ∈ lw_privs_1, lw_okq q := List.forall_mem_cons.mpr ⟨lw_p0, List.forall_mem_cons.mpr ⟨lw_p1, List.forall_mem_cons.mpr ⟨lw_p2, List.forall_mem_cons.mpr ⟨lw_p3, List.forall_mem_cons.mpr ⟨lw_p4, List.forall_mem_cons.mpr ⟨lw_p5, List.forall_mem_cons.mpr ⟨lw_p6, List.forall_mem_cons.mpr ⟨lw_p7, List.forall_mem_cons.mpr ⟨lw_p8, List.forall_mem_cons.mpr ⟨lw_p9, List.forall_mem_cons.mpr ⟨lw_p10, List.forall_mem_cons.mpr ⟨lw_p11, List.forall_mem_cons.mpr ⟨lw_p12, List.forall_mem_cons.mpr ⟨lw_p13, List.forall_mem_cons.mpr ⟨lw_p14, List.forall_mem_cons.mpr ⟨lw_p15, fun _ h => absurd h List.not_mem_nil⟩⟩⟩⟩⟩⟩⟩⟩⟩⟩⟩⟩⟩⟩⟩⟩
theorem lw_p16 : lw_okq (⟨"WarnWaveLaw$Told", "blank", "(II)V"⟩, 15) := ⟨⟨by decide +kernel, by decide +kernel⟩, List.mem_of_getElem? (i := 393) (by decide +kernel), List.mem_of_getElem? (i := 702) (by decide +kernel), List.mem_of_getElem? (i := 703) (by decide +kernel)⟩
theorem lw_p17 : lw_okq (⟨"WarnWave", "draft", "(IIIII)I"⟩, 2) := ⟨⟨by decide +kernel, by decide +kernel⟩, List.mem_of_getElem? (i := 277) (by decide +kernel), List.mem_of_getElem? (i := 745) (by decide +kernel), List.mem_of_getElem? (i := 746) (by decide +kernel)⟩
theorem lw_p18 : lw_okq (⟨"WarnWave$Land", "isStillAbout", "(LWarnWave$Warning;)Z"⟩, 14) := ⟨⟨by decide +kernel, by decide +kernel⟩, List.mem_of_getElem? (i := 149) (by decide +kernel), List.mem_of_getElem? (i := 774) (by decide +kernel), List.mem_of_getElem? (i := 775) (by decide +kernel)⟩
theorem lw_p19 : lw_okq (⟨"WarnWave$Land", "judge", "(I)V"⟩, 14) := ⟨⟨by decide +kernel, by decide +kernel⟩, List.mem_of_getElem? (i := 149) (by decide +kernel), List.mem_of_getElem? (i := 783) (by decide +kernel), List.mem_of_getElem? (i := 784) (by decide +kernel)⟩
theorem lw_p20 : lw_okq (⟨"WarnWave$Land", "letOut", "()V"⟩, 14) := ⟨⟨by decide +kernel, by decide +kernel⟩, List.mem_of_getElem? (i := 149) (by decide +kernel), List.mem_of_getElem? (i := 791) (by decide +kernel), List.mem_of_getElem? (i := 792) (by decide +kernel)⟩
def lw_privs_2 : List (MethodName × Nat) := [(⟨"WarnWaveLaw$Told", "blank", "(II)V"⟩, 15), (⟨"WarnWave", "draft", "(IIIII)I"⟩, 2), (⟨"WarnWave$Land", "isStillAbout", "(LWarnWave$Warning;)Z"⟩, 14), (⟨"WarnWave$Land", "judge", "(I)V"⟩, 14), (⟨"WarnWave$Land", "letOut", "()V"⟩, 14)]
theorem lw_r2 : ∀ q ∈ lw_privs_2, lw_okq q := List.forall_mem_cons.mpr ⟨lw_p16, List.forall_mem_cons.mpr ⟨lw_p17, List.forall_mem_cons.mpr ⟨lw_p18, List.forall_mem_cons.mpr ⟨lw_p19, List.forall_mem_cons.mpr ⟨lw_p20, fun _ h => absurd h List.not_mem_nil⟩⟩⟩⟩⟩
def lw_privs : List (MethodName × Nat) := lw_privs_1 ++ (lw_privs_2)
def lw_tbl : List Cond := k2_sels lw_privs ++ tables_1
theorem lw_privs_ok : ∀ q ∈ lw_privs, lw_okq q := by
  show ∀ q ∈ lw_privs_1 ++ (lw_privs_2), lw_okq q
  exact List.forall_mem_append.mpr ⟨lw_r1, lw_r2⟩
def RX0 : String := "WarnWave$Group"
def TX0 : u_T := fun k => match k with
  | 0 => ("WarnWave$Group", "cell", "I", false)
  | 1 => ("WarnWave$Group", "people", "I", false)
  | 2 => ("WarnWave$Group", "tongue", "I", false)
  | 3 => ("WarnWave$Group", "trust", "I", false)
  | 4 => ("WarnWave$Group", "isDeaf", "Z", false)
  | 5 => ("WarnWave$Group", "hasRadio", "Z", false)
  | 6 => ("WarnWave$Group", "shelter", "I", false)
  | 7 => ("WarnWave$Group", "harm", "I", false)
  | 8 => ("WarnWave$Group", "ways", "[I", true)
  | 9 => ("WarnWave$Group", "heardAt", "[I", true)
  | 10 => ("WarnWave$Group", "heardBy", "[I", true)
  | 11 => ("WarnWave$Group", "heardFrom", "[I", true)
  | _ => ("WarnWave$Group", "believedAt", "[I", true)
def tyX0 : Nat → FieldType := fun k => match k with
  | 0 => .int
  | 1 => .int
  | 2 => .int
  | 3 => .int
  | 4 => .boolean
  | 5 => .boolean
  | 6 => .int
  | 7 => .int
  | 8 => .array .int
  | 9 => .array .int
  | 10 => .array .int
  | 11 => .array .int
  | _ => .array .int
abbrev wsX00 : List Cond := u_ws RX0 TX0 13
theorem nmX0 : ∀ a, a < 13 → ∀ b, b < 13 → a ≠ b → (TX0 a).2.1 ≠ (TX0 b).2.1 := by decide +kernel
theorem tyX0_ok : ∀ k, k < 13 → parseFieldDescriptor (TX0 k).2.2.1 = some (tyX0 k) := by decide +kernel
abbrev cX0_init : ByteArray := prog_2_method_1_code
def yX0_init : MethodName := ⟨RX0, "<init>", "()V"⟩
abbrev cX0_becomeLike : ByteArray := prog_2_method_2_code
def yX0_becomeLike : MethodName := ⟨RX0, "becomeLike", "(LWarnWave$Group;)V"⟩
abbrev cX0_isGone : ByteArray := prog_2_method_3_code
def yX0_isGone : MethodName := ⟨RX0, "isGone", "()Z"⟩
abbrev cX0_isSafe : ByteArray := prog_2_method_4_code
def yX0_isSafe : MethodName := ⟨RX0, "isSafe", "()Z"⟩
abbrev cX0_waysNeeded : ByteArray := prog_2_method_5_code
def yX0_waysNeeded : MethodName := ⟨RX0, "waysNeeded", "()I"⟩
abbrev cX0_noteWays : ByteArray := prog_2_method_6_code
def yX0_noteWays : MethodName := ⟨RX0, "noteWays", "(IIII)V"⟩
def RX1 : String := "WarnWave$Land"
def TX1 : u_T := fun k => match k with
  | 0 => ("WarnWave$Land", "now", "I", false)
  | 1 => ("WarnWave$Land", "lines", "I", false)
  | 2 => ("WarnWave$Land", "keys", "I", false)
  | 3 => ("WarnWave$Land", "callsMade", "I", false)
  | 4 => ("WarnWave$Land", "groupCount", "I", false)
  | 5 => ("WarnWave$Land", "shelterCount", "I", false)
  | 6 => ("WarnWave$Land", "warningCount", "I", false)
  | 7 => ("WarnWave$Land", "groups", "[LWarnWave$Group;", true)
  | 8 => ("WarnWave$Land", "shelters", "[LWarnWave$Shelter;", true)
  | 9 => ("WarnWave$Land", "warnings", "[LWarnWave$Warning;", true)
  | 10 => ("WarnWave$Land", "sirens", "LWarnWave$Senders;", true)
  | 11 => ("WarnWave$Land", "masts", "LWarnWave$Senders;", true)
  | 12 => ("WarnWave$Land", "dangerFrom", "[I", true)
  | _ => ("WarnWave$Land", "called", "[I", true)
def tyX1 : Nat → FieldType := fun k => match k with
  | 0 => .int
  | 1 => .int
  | 2 => .int
  | 3 => .int
  | 4 => .int
  | 5 => .int
  | 6 => .int
  | 7 => .array (.object "WarnWave$Group")
  | 8 => .array (.object "WarnWave$Shelter")
  | 9 => .array (.object "WarnWave$Warning")
  | 10 => .object "WarnWave$Senders"
  | 11 => .object "WarnWave$Senders"
  | 12 => .array .int
  | _ => .array .int
abbrev wsX10 : List Cond := u_ws RX1 TX1 14
theorem nmX1 : ∀ a, a < 14 → ∀ b, b < 14 → a ≠ b → (TX1 a).2.1 ≠ (TX1 b).2.1 := by decide +kernel
theorem tyX1_ok : ∀ k, k < 14 → parseFieldDescriptor (TX1 k).2.2.1 = some (tyX1 k) := by decide +kernel
abbrev cX1_init : ByteArray := prog_3_method_1_code
def yX1_init : MethodName := ⟨RX1, "<init>", "()V"⟩
abbrev cX1_becomeLike : ByteArray := prog_3_method_2_code
def yX1_becomeLike : MethodName := ⟨RX1, "becomeLike", "(LWarnWave$Land;)V"⟩
abbrev cX1_hourNow : ByteArray := prog_3_method_3_code
def yX1_hourNow : MethodName := ⟨RX1, "hourNow", "()I"⟩
abbrev cX1_isNight : ByteArray := prog_3_method_4_code
def yX1_isNight : MethodName := ⟨RX1, "isNight", "()Z"⟩
abbrev cX1_isAsleep : ByteArray := prog_3_method_5_code
def yX1_isAsleep : MethodName := ⟨RX1, "isAsleep", "(LWarnWave$Group;)Z"⟩
abbrev cX1_isInDanger : ByteArray := prog_3_method_6_code
def yX1_isInDanger : MethodName := ⟨RX1, "isInDanger", "(I)Z"⟩
abbrev cX1_cellsInDanger : ByteArray := prog_3_method_7_code
def yX1_cellsInDanger : MethodName := ⟨RX1, "cellsInDanger", "()I"⟩
abbrev cX1_latestBelieved : ByteArray := prog_3_method_8_code
def yX1_latestBelieved : MethodName := ⟨RX1, "latestBelieved", "(LWarnWave$Group;)I"⟩
abbrev cX1_countInForce : ByteArray := prog_3_method_9_code
def yX1_countInForce : MethodName := ⟨RX1, "countInForce", "()I"⟩
abbrev cX1_countAsleep : ByteArray := prog_3_method_10_code
def yX1_countAsleep : MethodName := ⟨RX1, "countAsleep", "()I"⟩
abbrev cX1_countBelievers : ByteArray := prog_3_method_11_code
def yX1_countBelievers : MethodName := ⟨RX1, "countBelievers", "(I)I"⟩
abbrev cX1_peopleOfAll : ByteArray := prog_3_method_12_code
def yX1_peopleOfAll : MethodName := ⟨RX1, "peopleOfAll", "()I"⟩
abbrev cX1_peopleSafe : ByteArray := prog_3_method_13_code
def yX1_peopleSafe : MethodName := ⟨RX1, "peopleSafe", "()I"⟩
abbrev cX1_peopleGone : ByteArray := prog_3_method_14_code
def yX1_peopleGone : MethodName := ⟨RX1, "peopleGone", "()I"⟩
abbrev cX1_peopleIn : ByteArray := prog_3_method_15_code
def yX1_peopleIn : MethodName := ⟨RX1, "peopleIn", "(I)I"⟩
abbrev cX1_peopleBelieving : ByteArray := prog_3_method_16_code
def yX1_peopleBelieving : MethodName := ⟨RX1, "peopleBelieving", "()I"⟩
abbrev cX1_keysLacking : ByteArray := prog_3_method_17_code
def yX1_keysLacking : MethodName := ⟨RX1, "keysLacking", "(LWarnWave$Warning;)I"⟩
abbrev cX1_isSendable : ByteArray := prog_3_method_18_code
def yX1_isSendable : MethodName := ⟨RX1, "isSendable", "(LWarnWave$Warning;)Z"⟩
abbrev cX1_isStillAbout : ByteArray := prog_3_method_19_code
def yX1_isStillAbout : MethodName := ⟨RX1, "isStillAbout", "(LWarnWave$Warning;)Z"⟩
abbrev cX1_sendOut : ByteArray := prog_3_method_20_code
def yX1_sendOut : MethodName := ⟨RX1, "sendOut", "(LWarnWave$Warning;)V"⟩
abbrev cX1_judge : ByteArray := prog_3_method_21_code
def yX1_judge : MethodName := ⟨RX1, "judge", "(I)V"⟩
abbrev cX1_letOut : ByteArray := prog_3_method_22_code
def yX1_letOut : MethodName := ⟨RX1, "letOut", "()V"⟩
abbrev cX1_playMinutes : ByteArray := prog_3_method_23_code
def yX1_playMinutes : MethodName := ⟨RX1, "playMinutes", "(I)I"⟩
abbrev cX1_chooseCalls : ByteArray := prog_3_method_24_code
def yX1_chooseCalls : MethodName := ⟨RX1, "chooseCalls", "()V"⟩
abbrev cX1_firstToCall : ByteArray := prog_3_method_25_code
def yX1_firstToCall : MethodName := ⟨RX1, "firstToCall", "(I)I"⟩
abbrev cX1_hearAll : ByteArray := prog_3_method_26_code
def yX1_hearAll : MethodName := ⟨RX1, "hearAll", "()V"⟩
abbrev cX1_publicWays : ByteArray := prog_3_method_27_code
def yX1_publicWays : MethodName := ⟨RX1, "publicWays", "(LWarnWave$Group;LWarnWave$Warning;ZZZ)I"⟩
abbrev cX1_hearOne : ByteArray := prog_3_method_28_code
def yX1_hearOne : MethodName := ⟨RX1, "hearOne", "(III)V"⟩
abbrev cX1_believingNeighbour : ByteArray := prog_3_method_29_code
def yX1_believingNeighbour : MethodName := ⟨RX1, "believingNeighbour", "(II)I"⟩
abbrev cX1_believeAll : ByteArray := prog_3_method_30_code
def yX1_believeAll : MethodName := ⟨RX1, "believeAll", "()I"⟩
abbrev cX1_believeOne : ByteArray := prog_3_method_31_code
def yX1_believeOne : MethodName := ⟨RX1, "believeOne", "(LWarnWave$Group;)I"⟩
abbrev cX1_goAll : ByteArray := prog_3_method_32_code
def yX1_goAll : MethodName := ⟨RX1, "goAll", "()V"⟩
abbrev cX1_goOne : ByteArray := prog_3_method_33_code
def yX1_goOne : MethodName := ⟨RX1, "goOne", "(LWarnWave$Group;)V"⟩
abbrev cX1_nearestWithRoom : ByteArray := prog_3_method_34_code
def yX1_nearestWithRoom : MethodName := ⟨RX1, "nearestWithRoom", "(LWarnWave$Group;)I"⟩
abbrev cX1_harmAll : ByteArray := prog_3_method_35_code
def yX1_harmAll : MethodName := ⟨RX1, "harmAll", "()V"⟩
def RX2 : String := "WarnWave$Senders"
def TX2 : u_T := fun k => match k with
  | 0 => ("WarnWave$Senders", "cells", "[I", true)
  | 1 => ("WarnWave$Senders", "reaches", "[I", true)
  | 2 => ("WarnWave$Senders", "hasPower", "[Z", true)
  | _ => ("WarnWave$Senders", "count", "I", false)
def tyX2 : Nat → FieldType := fun k => match k with
  | 0 => .array .int
  | 1 => .array .int
  | 2 => .array .boolean
  | _ => .int
abbrev wsX20 : List Cond := u_ws RX2 TX2 4
theorem nmX2 : ∀ a, a < 4 → ∀ b, b < 4 → a ≠ b → (TX2 a).2.1 ≠ (TX2 b).2.1 := by decide +kernel
theorem tyX2_ok : ∀ k, k < 4 → parseFieldDescriptor (TX2 k).2.2.1 = some (tyX2 k) := by decide +kernel
abbrev cX2_init : ByteArray := prog_4_method_1_code
def yX2_init : MethodName := ⟨RX2, "<init>", "()V"⟩
abbrev cX2_add : ByteArray := prog_4_method_2_code
def yX2_add : MethodName := ⟨RX2, "add", "(II)I"⟩
abbrev cX2_cellsReached : ByteArray := prog_4_method_4_code
def yX2_cellsReached : MethodName := ⟨RX2, "cellsReached", "()I"⟩
abbrev cX2_becomeLike : ByteArray := prog_4_method_5_code
def yX2_becomeLike : MethodName := ⟨RX2, "becomeLike", "(LWarnWave$Senders;)V"⟩
def RX3 : String := "WarnWave$Shelter"
def TX3 : u_T := fun k => match k with
  | 0 => ("WarnWave$Shelter", "cell", "I", false)
  | _ => ("WarnWave$Shelter", "room", "I", false)
def tyX3 : Nat → FieldType := fun k => match k with
  | 0 => .int
  | _ => .int
abbrev wsX30 : List Cond := u_ws RX3 TX3 2
theorem nmX3 : ∀ a, a < 2 → ∀ b, b < 2 → a ≠ b → (TX3 a).2.1 ≠ (TX3 b).2.1 := by decide +kernel
theorem tyX3_ok : ∀ k, k < 2 → parseFieldDescriptor (TX3 k).2.2.1 = some (tyX3 k) := by decide +kernel
abbrev cX3_init : ByteArray := prog_5_method_1_code
def yX3_init : MethodName := ⟨RX3, "<init>", "()V"⟩
def RX4 : String := "WarnWave$Warning"
def TX4 : u_T := fun k => match k with
  | 0 => ("WarnWave$Warning", "kind", "I", false)
  | 1 => ("WarnWave$Warning", "other", "I", false)
  | 2 => ("WarnWave$Warning", "area", "I", false)
  | 3 => ("WarnWave$Warning", "advice", "I", false)
  | 4 => ("WarnWave$Warning", "tongues", "I", false)
  | 5 => ("WarnWave$Warning", "approvals", "I", false)
  | 6 => ("WarnWave$Warning", "sentAt", "I", false)
  | _ => ("WarnWave$Warning", "isInForce", "Z", false)
def tyX4 : Nat → FieldType := fun k => match k with
  | 0 => .int
  | 1 => .int
  | 2 => .int
  | 3 => .int
  | 4 => .int
  | 5 => .int
  | 6 => .int
  | _ => .boolean
abbrev wsX40 : List Cond := u_ws RX4 TX4 8
theorem nmX4 : ∀ a, a < 8 → ∀ b, b < 8 → a ≠ b → (TX4 a).2.1 ≠ (TX4 b).2.1 := by decide +kernel
theorem tyX4_ok : ∀ k, k < 8 → parseFieldDescriptor (TX4 k).2.2.1 = some (tyX4 k) := by decide +kernel
abbrev cX4_init : ByteArray := prog_6_method_1_code
def yX4_init : MethodName := ⟨RX4, "<init>", "()V"⟩
abbrev cX4_becomeLike : ByteArray := prog_6_method_2_code
def yX4_becomeLike : MethodName := ⟨RX4, "becomeLike", "(LWarnWave$Warning;)V"⟩
def RX5 : String := "WarnWave"
def TX5 : u_T := fun k => match k with
  | 0 => ("WarnWave", "land", "LWarnWave$Land;", true)
  | _ => ("WarnWave", "trial", "LWarnWave$Land;", true)
def tyX5 : Nat → FieldType := fun k => match k with
  | 0 => .object "WarnWave$Land"
  | _ => .object "WarnWave$Land"
abbrev wsX50 : List Cond := u_ws RX5 TX5 2
theorem nmX5 : ∀ a, a < 2 → ∀ b, b < 2 → a ≠ b → (TX5 a).2.1 ≠ (TX5 b).2.1 := by decide +kernel
theorem tyX5_ok : ∀ k, k < 2 → parseFieldDescriptor (TX5 k).2.2.1 = some (tyX5 k) := by decide +kernel
abbrev cX5_init : ByteArray := prog_1_method_1_code
def yX5_init : MethodName := ⟨RX5, "<init>", "()V"⟩
abbrev cX5_group : ByteArray := prog_1_method_2_code
def yX5_group : MethodName := ⟨RX5, "group", "(IIIZZ)I"⟩
abbrev cX5_shelter : ByteArray := prog_1_method_4_code
def yX5_shelter : MethodName := ⟨RX5, "shelter", "(II)I"⟩
abbrev cX5_siren : ByteArray := prog_1_method_5_code
def yX5_siren : MethodName := ⟨RX5, "siren", "(II)I"⟩
abbrev cX5_mast : ByteArray := prog_1_method_6_code
def yX5_mast : MethodName := ⟨RX5, "mast", "(II)I"⟩
abbrev cX5_danger : ByteArray := prog_1_method_9_code
def yX5_danger : MethodName := ⟨RX5, "danger", "(II)I"⟩
abbrev cX5_alert : ByteArray := prog_1_method_11_code
def yX5_alert : MethodName := ⟨RX5, "alert", "(III)I"⟩
abbrev cX5_approve : ByteArray := prog_1_method_14_code
def yX5_approve : MethodName := ⟨RX5, "approve", "(II)I"⟩
abbrev cX5_send : ByteArray := prog_1_method_15_code
def yX5_send : MethodName := ⟨RX5, "send", "(I)I"⟩
abbrev cX5_pass : ByteArray := prog_1_method_16_code
def yX5_pass : MethodName := ⟨RX5, "pass", "(I)I"⟩
abbrev cX5_until : ByteArray := prog_1_method_17_code
def yX5_until : MethodName := ⟨RX5, "until", "(I)I"⟩
abbrev cX5_ofGroup : ByteArray := prog_1_method_18_code
def yX5_ofGroup : MethodName := ⟨RX5, "ofGroup", "(II)I"⟩
abbrev cX5_heard : ByteArray := prog_1_method_19_code
def yX5_heard : MethodName := ⟨RX5, "heard", "(III)I"⟩
abbrev cX5_ofWarning : ByteArray := prog_1_method_20_code
def yX5_ofWarning : MethodName := ⟨RX5, "ofWarning", "(II)I"⟩
abbrev cX5_inForce : ByteArray := prog_1_method_21_code
def yX5_inForce : MethodName := ⟨RX5, "inForce", "(I)I"⟩
abbrev cX5_roomIn : ByteArray := prog_1_method_22_code
def yX5_roomIn : MethodName := ⟨RX5, "roomIn", "(I)I"⟩
abbrev cX5_chain : ByteArray := prog_1_method_23_code
def yX5_chain : MethodName := ⟨RX5, "chain", "(II)I"⟩
abbrev cX5_many : ByteArray := prog_1_method_24_code
def yX5_many : MethodName := ⟨RX5, "many", "(I)I"⟩
abbrev cX5_safeIn : ByteArray := prog_1_method_26_code
def yX5_safeIn : MethodName := ⟨RX5, "safeIn", "(II)I"⟩
abbrev cX5_sirenWould : ByteArray := prog_1_method_27_code
def yX5_sirenWould : MethodName := ⟨RX5, "sirenWould", "(III)I"⟩
abbrev cX5_digest : ByteArray := prog_1_method_28_code
def yX5_digest : MethodName := ⟨RX5, "digest", "()J"⟩
abbrev cX5_mixHeard : ByteArray := prog_1_method_29_code
def yX5_mixHeard : MethodName := ⟨RX5, "mixHeard", "(JI)J"⟩
abbrev cX5_mix : ByteArray := prog_1_method_30_code
def yX5_mix : MethodName := ⟨RX5, "mix", "(JI)J"⟩
abbrev cX5_draft : ByteArray := prog_1_method_31_code
def yX5_draft : MethodName := ⟨RX5, "draft", "(IIIII)I"⟩
abbrev cX5_checkCell : ByteArray := prog_1_method_32_code
def yX5_checkCell : MethodName := ⟨RX5, "checkCell", "(I)V"⟩
abbrev cX5_checkOfficer : ByteArray := prog_1_method_33_code
def yX5_checkOfficer : MethodName := ⟨RX5, "checkOfficer", "(I)V"⟩
abbrev cX5_checkGroup : ByteArray := prog_1_method_34_code
def yX5_checkGroup : MethodName := ⟨RX5, "checkGroup", "(I)V"⟩
abbrev cX5_checkWarning : ByteArray := prog_1_method_35_code
def yX5_checkWarning : MethodName := ⟨RX5, "checkWarning", "(I)V"⟩
abbrev cX5_checkWords : ByteArray := prog_1_method_37_code
def yX5_checkWords : MethodName := ⟨RX5, "checkWords", "(III)V"⟩
abbrev cX5_checkRange : ByteArray := prog_1_method_38_code
def yX5_checkRange : MethodName := ⟨RX5, "checkRange", "(III)V"⟩
abbrev cX5_isIn : ByteArray := prog_1_method_39_code
def yX5_isIn : MethodName := ⟨RX5, "isIn", "(II)Z"⟩
abbrev cX5_distance : ByteArray := prog_1_method_40_code
def yX5_distance : MethodName := ⟨RX5, "distance", "(II)I"⟩
abbrev cX5_stepTowards : ByteArray := prog_1_method_41_code
def yX5_stepTowards : MethodName := ⟨RX5, "stepTowards", "(II)I"⟩
def RX6 : String := "WarnWaveLaw$Told"
def TX6 : u_T := fun k => match k with
  | 0 => ("WarnWaveLaw$Told", "m", "LWarnWave;", true)
  | 1 => ("WarnWaveLaw$Told", "s", "[I", true)
  | 2 => ("WarnWaveLaw$Told", "draws", "I", false)
  | 3 => ("WarnWaveLaw$Told", "groups", "[[I", false)
  | 4 => ("WarnWaveLaw$Told", "warnings", "[[I", false)
  | 5 => ("WarnWaveLaw$Told", "heard", "[[[I", true)
  | 6 => ("WarnWaveLaw$Told", "shelters", "[[I", true)
  | 7 => ("WarnWaveLaw$Told", "shelterMany", "I", false)
  | 8 => ("WarnWaveLaw$Told", "sirens", "[[I", false)
  | 9 => ("WarnWaveLaw$Told", "masts", "[[I", false)
  | 10 => ("WarnWaveLaw$Told", "danger", "[I", true)
  | 11 => ("WarnWaveLaw$Told", "now", "I", false)
  | 12 => ("WarnWaveLaw$Told", "lines", "I", false)
  | 13 => ("WarnWaveLaw$Told", "calls", "I", false)
  | _ => ("WarnWaveLaw$Told", "keys", "I", false)
def tyX6 : Nat → FieldType := fun k => match k with
  | 0 => .object "WarnWave"
  | 1 => .array .int
  | 2 => .int
  | 3 => .array (.array .int)
  | 4 => .array (.array .int)
  | 5 => .array (.array (.array .int))
  | 6 => .array (.array .int)
  | 7 => .int
  | 8 => .array (.array .int)
  | 9 => .array (.array .int)
  | 10 => .array .int
  | 11 => .int
  | 12 => .int
  | 13 => .int
  | _ => .int
abbrev wsX60 : List Cond := u_ws RX6 TX6 15
theorem nmX6 : ∀ a, a < 15 → ∀ b, b < 15 → a ≠ b → (TX6 a).2.1 ≠ (TX6 b).2.1 := by decide +kernel
theorem tyX6_ok : ∀ k, k < 15 → parseFieldDescriptor (TX6 k).2.2.1 = some (tyX6 k) := by decide +kernel
abbrev cX6_init : ByteArray := prog_8_method_1_code
def yX6_init : MethodName := ⟨RX6, "<init>", "([II)V"⟩
abbrev cX6_draw : ByteArray := prog_8_method_2_code
def yX6_draw : MethodName := ⟨RX6, "draw", "(I)I"⟩
abbrev cX6_plus : ByteArray := prog_8_method_3_code
def yX6_plus : MethodName := ⟨RX6, "plus", "([[I[I)[[I"⟩
abbrev cX6_blank : ByteArray := prog_8_method_4_code
def yX6_blank : MethodName := ⟨RX6, "blank", "(II)V"⟩
abbrev cX6_group : ByteArray := prog_8_method_5_code
def yX6_group : MethodName := ⟨RX6, "group", "(IIIII)Z"⟩
abbrev cX6_shelter : ByteArray := prog_8_method_6_code
def yX6_shelter : MethodName := ⟨RX6, "shelter", "(II)Z"⟩
abbrev cX6_siren : ByteArray := prog_8_method_7_code
def yX6_siren : MethodName := ⟨RX6, "siren", "(II)Z"⟩
abbrev cX6_mast : ByteArray := prog_8_method_8_code
def yX6_mast : MethodName := ⟨RX6, "mast", "(II)Z"⟩
abbrev cX6_found : ByteArray := prog_8_method_25_code
def yX6_found : MethodName := ⟨RX6, "found", "(I)Z"⟩
def RX7 : String := "WarnWaveModel$Land"
def TX7 : u_T := fun k => match k with
  | _ => ("", "", "", false)
def tyX7 : Nat → FieldType := fun k => match k with
  | _ => .int
abbrev wsX70 : List Cond := u_ws RX7 TX7 0
theorem nmX7 : ∀ a, a < 0 → ∀ b, b < 0 → a ≠ b → (TX7 a).2.1 ≠ (TX7 b).2.1 := by decide +kernel
theorem tyX7_ok : ∀ k, k < 0 → parseFieldDescriptor (TX7 k).2.2.1 = some (tyX7 k) := by decide +kernel
def RX8 : String := "WarnWaveModel"
def TX8 : u_T := fun k => match k with
  | _ => ("", "", "", false)
def tyX8 : Nat → FieldType := fun k => match k with
  | _ => .int
abbrev wsX80 : List Cond := u_ws RX8 TX8 0
theorem nmX8 : ∀ a, a < 0 → ∀ b, b < 0 → a ≠ b → (TX8 a).2.1 ≠ (TX8 b).2.1 := by decide +kernel
theorem tyX8_ok : ∀ k, k < 0 → parseFieldDescriptor (TX8 k).2.2.1 = some (tyX8 k) := by decide +kernel
def RJ6 : String := "java/lang/Integer"
abbrev cJ6_bitCount_0f7a4 : ByteArray := prog_15_method_49_code
def yJ6_bitCount_0f7a4 : MethodName := ⟨RJ6, "bitCount", "(I)I"⟩
def RJ9 : String := "java/lang/Math"
abbrev cJ9_floorMod_7cf53 : ByteArray := prog_16_method_50_code
def yJ9_floorMod_7cf53 : MethodName := ⟨RJ9, "floorMod", "(II)I"⟩
abbrev cJ9_abs_0f7a4 : ByteArray := prog_16_method_59_code
def yJ9_abs_0f7a4 : MethodName := ⟨RJ9, "abs", "(I)I"⟩
abbrev cJ9_max_7cf53 : ByteArray := prog_16_method_65_code
def yJ9_max_7cf53 : MethodName := ⟨RJ9, "max", "(II)I"⟩
abbrev cJ9_min_7cf53 : ByteArray := prog_16_method_69_code
def yJ9_min_7cf53 : MethodName := ⟨RJ9, "min", "(II)I"⟩
def RJ0 : String := "java/lang/String"
def RJ10 : String := "java/lang/System"
def RL : String := "WarnWaveLaw"
abbrev cL_below : ByteArray := method_2_code
def yL_below : MethodName := ⟨RL, "below", "(II)I"⟩
abbrev cL_cell : ByteArray := method_3_code
def yL_cell : MethodName := ⟨RL, "cell", "([II)I"⟩
abbrev cL_law : ByteArray := code
def yL_law : MethodName := ⟨RL, "law", "([I)Z"⟩
abbrev cL_send : ByteArray := method_6_code
def yL_send : MethodName := ⟨RL, "send", "(LWarnWave;II)I"⟩
abbrev cL_people : ByteArray := method_7_code
def yL_people : MethodName := ⟨RL, "people", "(LWarnWave;)I"⟩
