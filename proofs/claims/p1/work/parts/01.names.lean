-- ===== PART A: goes FIRST, ahead of the names: the tables' words, and 'selects' of the private methods out of them =====
/-- a private method of a class that the tables say can be made, by its rows of tables_1 -/
def lw_okq (q : MethodName × Nat) : Prop := (q.1.cls ≠ "java/lang/invoke/MethodHandle" ∧ q.1.cls ≠ "java/lang/invoke/VarHandle") ∧ Cond.instantiable q.1.cls q.2 ∈ tables_1 ∧ Cond.privateMethod q.1 ∈ tables_1 ∧ Cond.instanceMethod q.1 ∈ tables_1
theorem lw_p0 : lw_okq (⟨"java/lang/Throwable", "fillInStackTrace", "(I)Ljava/lang/Throwable;"⟩, 6) := ⟨⟨by decide +kernel, by decide +kernel⟩, List.mem_of_getElem? (i := 438) (by decide +kernel), List.mem_of_getElem? (i := 436) (by decide +kernel), List.mem_of_getElem? (i := 437) (by decide +kernel)⟩
theorem lw_p1 : lw_okq (⟨"Pistekeeper", "requireRun", "(I)V"⟩, 4) := ⟨⟨by decide +kernel, by decide +kernel⟩, List.mem_of_getElem? (i := 26) (by decide +kernel), List.mem_of_getElem? (i := 479) (by decide +kernel), List.mem_of_getElem? (i := 480) (by decide +kernel)⟩
theorem lw_p2 : lw_okq (⟨"Pistekeeper", "digestLayers", "(JI)J"⟩, 4) := ⟨⟨by decide +kernel, by decide +kernel⟩, List.mem_of_getElem? (i := 26) (by decide +kernel), List.mem_of_getElem? (i := 502) (by decide +kernel), List.mem_of_getElem? (i := 503) (by decide +kernel)⟩
theorem lw_p3 : lw_okq (⟨"Pistekeeper", "requireLift", "(I)V"⟩, 4) := ⟨⟨by decide +kernel, by decide +kernel⟩, List.mem_of_getElem? (i := 26) (by decide +kernel), List.mem_of_getElem? (i := 651) (by decide +kernel), List.mem_of_getElem? (i := 652) (by decide +kernel)⟩
theorem lw_p4 : lw_okq (⟨"Pistekeeper", "requireClosed", "(I)V"⟩, 4) := ⟨⟨by decide +kernel, by decide +kernel⟩, List.mem_of_getElem? (i := 26) (by decide +kernel), List.mem_of_getElem? (i := 745) (by decide +kernel), List.mem_of_getElem? (i := 746) (by decide +kernel)⟩
theorem lw_p5 : lw_okq (⟨"PistekeeperModel", "refuse", "(I)I"⟩, 7) := ⟨⟨by decide +kernel, by decide +kernel⟩, List.mem_of_getElem? (i := 834) (by decide +kernel), List.mem_of_getElem? (i := 957) (by decide +kernel), List.mem_of_getElem? (i := 958) (by decide +kernel)⟩
theorem lw_p6 : lw_okq (⟨"java/util/ArrayList", "add", "(Ljava/lang/Object;[Ljava/lang/Object;I)V"⟩, 3) := ⟨⟨by decide +kernel, by decide +kernel⟩, List.mem_of_getElem? (i := 846) (by decide +kernel), List.mem_of_getElem? (i := 969) (by decide +kernel), List.mem_of_getElem? (i := 970) (by decide +kernel)⟩
theorem lw_p7 : lw_okq (⟨"java/util/ArrayList", "grow", "()[Ljava/lang/Object;"⟩, 3) := ⟨⟨by decide +kernel, by decide +kernel⟩, List.mem_of_getElem? (i := 846) (by decide +kernel), List.mem_of_getElem? (i := 973) (by decide +kernel), List.mem_of_getElem? (i := 974) (by decide +kernel)⟩
theorem lw_p8 : lw_okq (⟨"java/util/ArrayList", "grow", "(I)[Ljava/lang/Object;"⟩, 3) := ⟨⟨by decide +kernel, by decide +kernel⟩, List.mem_of_getElem? (i := 846) (by decide +kernel), List.mem_of_getElem? (i := 977) (by decide +kernel), List.mem_of_getElem? (i := 978) (by decide +kernel)⟩
theorem lw_p9 : lw_okq (⟨"PistekeeperModel", "isLift", "(I)Z"⟩, 7) := ⟨⟨by decide +kernel, by decide +kernel⟩, List.mem_of_getElem? (i := 834) (by decide +kernel), List.mem_of_getElem? (i := 1023) (by decide +kernel), List.mem_of_getElem? (i := 1024) (by decide +kernel)⟩
theorem lw_p10 : lw_okq (⟨"PistekeeperModel", "isRun", "(I)Z"⟩, 7) := ⟨⟨by decide +kernel, by decide +kernel⟩, List.mem_of_getElem? (i := 834) (by decide +kernel), List.mem_of_getElem? (i := 1054) (by decide +kernel), List.mem_of_getElem? (i := 1055) (by decide +kernel)⟩
theorem lw_p11 : lw_okq (⟨"PistekeeperModel", "runAt", "(I)[I"⟩, 7) := ⟨⟨by decide +kernel, by decide +kernel⟩, List.mem_of_getElem? (i := 834) (by decide +kernel), List.mem_of_getElem? (i := 1058) (by decide +kernel), List.mem_of_getElem? (i := 1059) (by decide +kernel)⟩
theorem lw_p12 : lw_okq (⟨"PistekeeperModel$Mountain", "pass", "(IIIIII)V"⟩, 12) := ⟨⟨by decide +kernel, by decide +kernel⟩, List.mem_of_getElem? (i := 840) (by decide +kernel), List.mem_of_getElem? (i := 1086) (by decide +kernel), List.mem_of_getElem? (i := 1087) (by decide +kernel)⟩
theorem lw_p13 : lw_okq (⟨"PistekeeperModel$Mountain", "melt", "([II)V"⟩, 12) := ⟨⟨by decide +kernel, by decide +kernel⟩, List.mem_of_getElem? (i := 840) (by decide +kernel), List.mem_of_getElem? (i := 1114) (by decide +kernel), List.mem_of_getElem? (i := 1115) (by decide +kernel)⟩
theorem lw_p14 : lw_okq (⟨"PistekeeperModel$Mountain", "blow", "([III)V"⟩, 12) := ⟨⟨by decide +kernel, by decide +kernel⟩, List.mem_of_getElem? (i := 840) (by decide +kernel), List.mem_of_getElem? (i := 1124) (by decide +kernel), List.mem_of_getElem? (i := 1125) (by decide +kernel)⟩
theorem lw_p15 : lw_okq (⟨"PistekeeperModel$Mountain", "make", "([II)V"⟩, 12) := ⟨⟨by decide +kernel, by decide +kernel⟩, List.mem_of_getElem? (i := 840) (by decide +kernel), List.mem_of_getElem? (i := 1134) (by decide +kernel), List.mem_of_getElem? (i := 1135) (by decide +kernel)⟩
def lw_privs_1 : List (MethodName × Nat) := [(⟨"java/lang/Throwable", "fillInStackTrace", "(I)Ljava/lang/Throwable;"⟩, 6), (⟨"Pistekeeper", "requireRun", "(I)V"⟩, 4), (⟨"Pistekeeper", "digestLayers", "(JI)J"⟩, 4), (⟨"Pistekeeper", "requireLift", "(I)V"⟩, 4), (⟨"Pistekeeper", "requireClosed", "(I)V"⟩, 4), (⟨"PistekeeperModel", "refuse", "(I)I"⟩, 7), (⟨"java/util/ArrayList", "add", "(Ljava/lang/Object;[Ljava/lang/Object;I)V"⟩, 3), (⟨"java/util/ArrayList", "grow", "()[Ljava/lang/Object;"⟩, 3), (⟨"java/util/ArrayList", "grow", "(I)[Ljava/lang/Object;"⟩, 3), (⟨"PistekeeperModel", "isLift", "(I)Z"⟩, 7), (⟨"PistekeeperModel", "isRun", "(I)Z"⟩, 7), (⟨"PistekeeperModel", "runAt", "(I)[I"⟩, 7), (⟨"PistekeeperModel$Mountain", "pass", "(IIIIII)V"⟩, 12), (⟨"PistekeeperModel$Mountain", "melt", "([II)V"⟩, 12), (⟨"PistekeeperModel$Mountain", "blow", "([III)V"⟩, 12), (⟨"PistekeeperModel$Mountain", "make", "([II)V"⟩, 12)]
theorem lw_r1 : ∀ q ∈ lw_privs_1, lw_okq q := List.forall_mem_cons.mpr ⟨lw_p0, List.forall_mem_cons.mpr ⟨lw_p1, List.forall_mem_cons.mpr ⟨lw_p2, List.forall_mem_cons.mpr ⟨lw_p3, List.forall_mem_cons.mpr ⟨lw_p4, List.forall_mem_cons.mpr ⟨lw_p5, List.forall_mem_cons.mpr ⟨lw_p6, List.forall_mem_cons.mpr ⟨lw_p7, List.forall_mem_cons.mpr ⟨lw_p8, List.forall_mem_cons.mpr ⟨lw_p9, List.forall_mem_cons.mpr ⟨lw_p10, List.forall_mem_cons.mpr ⟨lw_p11, List.forall_mem_cons.mpr ⟨lw_p12, List.forall_mem_cons.mpr ⟨lw_p13, List.forall_mem_cons.mpr ⟨lw_p14, List.forall_mem_cons.mpr ⟨lw_p15, fun _ h => absurd h List.not_mem_nil⟩⟩⟩⟩⟩⟩⟩⟩⟩⟩⟩⟩⟩⟩⟩⟩
theorem lw_p16 : lw_okq (⟨"PistekeeperModel$Mountain", "ride", "()V"⟩, 12) := ⟨⟨by decide +kernel, by decide +kernel⟩, List.mem_of_getElem? (i := 840) (by decide +kernel), List.mem_of_getElem? (i := 1210) (by decide +kernel), List.mem_of_getElem? (i := 1211) (by decide +kernel)⟩
theorem lw_p17 : lw_okq (⟨"PistekeeperModel$Mountain", "ski", "([II)V"⟩, 12) := ⟨⟨by decide +kernel, by decide +kernel⟩, List.mem_of_getElem? (i := 840) (by decide +kernel), List.mem_of_getElem? (i := 1218) (by decide +kernel), List.mem_of_getElem? (i := 1219) (by decide +kernel)⟩
theorem lw_p18 : lw_okq (⟨"PistekeeperModel", "isOpen", "(I)Z"⟩, 7) := ⟨⟨by decide +kernel, by decide +kernel⟩, List.mem_of_getElem? (i := 834) (by decide +kernel), List.mem_of_getElem? (i := 1226) (by decide +kernel), List.mem_of_getElem? (i := 1227) (by decide +kernel)⟩
theorem lw_p19 : lw_okq (⟨"PistekeeperModel", "tells", "(I)I"⟩, 7) := ⟨⟨by decide +kernel, by decide +kernel⟩, List.mem_of_getElem? (i := 834) (by decide +kernel), List.mem_of_getElem? (i := 1240) (by decide +kernel), List.mem_of_getElem? (i := 1241) (by decide +kernel)⟩
theorem lw_p20 : lw_okq (⟨"PistekeeperModel", "bars", "(I)I"⟩, 7) := ⟨⟨by decide +kernel, by decide +kernel⟩, List.mem_of_getElem? (i := 834) (by decide +kernel), List.mem_of_getElem? (i := 1262) (by decide +kernel), List.mem_of_getElem? (i := 1263) (by decide +kernel)⟩
theorem lw_p21 : lw_okq (⟨"PistekeeperModel", "isTested", "(I)Z"⟩, 7) := ⟨⟨by decide +kernel, by decide +kernel⟩, List.mem_of_getElem? (i := 834) (by decide +kernel), List.mem_of_getElem? (i := 1266) (by decide +kernel), List.mem_of_getElem? (i := 1267) (by decide +kernel)⟩
theorem lw_p22 : lw_okq (⟨"PistekeeperModel", "barsBelow", "(IZIZ)I"⟩, 7) := ⟨⟨by decide +kernel, by decide +kernel⟩, List.mem_of_getElem? (i := 834) (by decide +kernel), List.mem_of_getElem? (i := 1270) (by decide +kernel), List.mem_of_getElem? (i := 1271) (by decide +kernel)⟩
theorem lw_p23 : lw_okq (⟨"PistekeeperModel", "ofRunNow", "(II)I"⟩, 7) := ⟨⟨by decide +kernel, by decide +kernel⟩, List.mem_of_getElem? (i := 834) (by decide +kernel), List.mem_of_getElem? (i := 1283) (by decide +kernel), List.mem_of_getElem? (i := 1284) (by decide +kernel)⟩
theorem lw_p24 : lw_okq (⟨"PistekeeperModel", "ofLiftNow", "(II)I"⟩, 7) := ⟨⟨by decide +kernel, by decide +kernel⟩, List.mem_of_getElem? (i := 834) (by decide +kernel), List.mem_of_getElem? (i := 1295) (by decide +kernel), List.mem_of_getElem? (i := 1296) (by decide +kernel)⟩
theorem lw_p25 : lw_okq (⟨"PistekeeperModel", "manyNow", "(I)I"⟩, 7) := ⟨⟨by decide +kernel, by decide +kernel⟩, List.mem_of_getElem? (i := 834) (by decide +kernel), List.mem_of_getElem? (i := 1304) (by decide +kernel), List.mem_of_getElem? (i := 1305) (by decide +kernel)⟩
theorem lw_p26 : lw_okq (⟨"PistekeeperModel", "riskNow", "(IIII)I"⟩, 7) := ⟨⟨by decide +kernel, by decide +kernel⟩, List.mem_of_getElem? (i := 834) (by decide +kernel), List.mem_of_getElem? (i := 1321) (by decide +kernel), List.mem_of_getElem? (i := 1322) (by decide +kernel)⟩
theorem lw_p27 : lw_okq (⟨"PistekeeperModel", "makeNow", "(IIII)I"⟩, 7) := ⟨⟨by decide +kernel, by decide +kernel⟩, List.mem_of_getElem? (i := 834) (by decide +kernel), List.mem_of_getElem? (i := 1342) (by decide +kernel), List.mem_of_getElem? (i := 1343) (by decide +kernel)⟩
theorem lw_p28 : lw_okq (⟨"PistekeeperModel", "depthWith", "(IIIII)I"⟩, 7) := ⟨⟨by decide +kernel, by decide +kernel⟩, List.mem_of_getElem? (i := 834) (by decide +kernel), List.mem_of_getElem? (i := 1346) (by decide +kernel), List.mem_of_getElem? (i := 1347) (by decide +kernel)⟩
theorem lw_p29 : lw_okq (⟨"PistekeeperModel", "nextNow", "()I"⟩, 7) := ⟨⟨by decide +kernel, by decide +kernel⟩, List.mem_of_getElem? (i := 834) (by decide +kernel), List.mem_of_getElem? (i := 1354) (by decide +kernel), List.mem_of_getElem? (i := 1355) (by decide +kernel)⟩
theorem lw_p30 : lw_okq (⟨"PistekeeperModel", "couldNow", "()I"⟩, 7) := ⟨⟨by decide +kernel, by decide +kernel⟩, List.mem_of_getElem? (i := 834) (by decide +kernel), List.mem_of_getElem? (i := 1363) (by decide +kernel), List.mem_of_getElem? (i := 1364) (by decide +kernel)⟩
theorem lw_p31 : lw_okq (⟨"PistekeeperModel", "add", "(I)V"⟩, 7) := ⟨⟨by decide +kernel, by decide +kernel⟩, List.mem_of_getElem? (i := 834) (by decide +kernel), List.mem_of_getElem? (i := 1372) (by decide +kernel), List.mem_of_getElem? (i := 1373) (by decide +kernel)⟩
def lw_privs_2 : List (MethodName × Nat) := [(⟨"PistekeeperModel$Mountain", "ride", "()V"⟩, 12), (⟨"PistekeeperModel$Mountain", "ski", "([II)V"⟩, 12), (⟨"PistekeeperModel", "isOpen", "(I)Z"⟩, 7), (⟨"PistekeeperModel", "tells", "(I)I"⟩, 7), (⟨"PistekeeperModel", "bars", "(I)I"⟩, 7), (⟨"PistekeeperModel", "isTested", "(I)Z"⟩, 7), (⟨"PistekeeperModel", "barsBelow", "(IZIZ)I"⟩, 7), (⟨"PistekeeperModel", "ofRunNow", "(II)I"⟩, 7), (⟨"PistekeeperModel", "ofLiftNow", "(II)I"⟩, 7), (⟨"PistekeeperModel", "manyNow", "(I)I"⟩, 7), (⟨"PistekeeperModel", "riskNow", "(IIII)I"⟩, 7), (⟨"PistekeeperModel", "makeNow", "(IIII)I"⟩, 7), (⟨"PistekeeperModel", "depthWith", "(IIIII)I"⟩, 7), (⟨"PistekeeperModel", "nextNow", "()I"⟩, 7), (⟨"PistekeeperModel", "couldNow", "()I"⟩, 7), (⟨"PistekeeperModel", "add", "(I)V"⟩, 7)]
theorem lw_r2 : ∀ q ∈ lw_privs_2, lw_okq q := List.forall_mem_cons.mpr ⟨lw_p16, List.forall_mem_cons.mpr ⟨lw_p17, List.forall_mem_cons.mpr ⟨lw_p18, List.forall_mem_cons.mpr ⟨lw_p19, List.forall_mem_cons.mpr ⟨lw_p20, List.forall_mem_cons.mpr ⟨lw_p21, List.forall_mem_cons.mpr ⟨lw_p22, List.forall_mem_cons.mpr ⟨lw_p23, List.forall_mem_cons.mpr ⟨lw_p24, List.forall_mem_cons.mpr ⟨lw_p25, List.forall_mem_cons.mpr ⟨lw_p26, List.forall_mem_cons.mpr ⟨lw_p27, List.forall_mem_cons.mpr ⟨lw_p28, List.forall_mem_cons.mpr ⟨lw_p29, List.forall_mem_cons.mpr ⟨lw_p30, List.forall_mem_cons.mpr ⟨lw_p31, fun _ h => absurd h List.not_mem_nil⟩⟩⟩⟩⟩⟩⟩⟩⟩⟩⟩⟩⟩⟩⟩⟩
def lw_privs : List (MethodName × Nat) := lw_privs_1 ++ (lw_privs_2)
def lw_tbl : List Cond := k2_sels lw_privs ++ tables_1
theorem lw_privs_ok : ∀ q ∈ lw_privs, lw_okq q := by
  show ∀ q ∈ lw_privs_1 ++ (lw_privs_2), lw_okq q
  exact List.forall_mem_append.mpr ⟨lw_r1, lw_r2⟩
/-- the streams that the claim lets the run draw from -/
abbrev lw_cs : List Choice := [Jvm.Choice.named "NaN.bits"]
theorem lw_bits : nanBits ∈ lw_cs := by first | decide | exact List.mem_cons_self | simp [lw_cs, nanBits]
def RX0 : String := "Pistekeeper$Lift"
def TX0 : u_T := fun k => match k with
  | 0 => ("Pistekeeper$Lift", "capacity", "I", false)
  | 1 => ("Pistekeeper$Lift", "limit", "I", false)
  | 2 => ("Pistekeeper$Lift", "isOn", "Z", false)
  | 3 => ("Pistekeeper$Lift", "isHeld", "Z", false)
  | _ => ("Pistekeeper$Lift", "rides", "I", false)
def tyX0 : Nat → FieldType := fun k => match k with
  | 0 => .int
  | 1 => .int
  | 2 => .boolean
  | 3 => .boolean
  | _ => .int
abbrev wsX00 : List Cond := u_ws RX0 TX0 5
theorem nmX0 : ∀ a, a < 5 → ∀ b, b < 5 → a ≠ b → (TX0 a).2.1 ≠ (TX0 b).2.1 := by decide +kernel
theorem tyX0_ok : ∀ k, k < 5 → parseFieldDescriptor (TX0 k).2.2.1 = some (tyX0 k) := by decide +kernel
abbrev cX0_init : ByteArray := prog_2_method_1_code
def yX0_init : MethodName := ⟨RX0, "<init>", "()V"⟩
abbrev cX0_become : ByteArray := prog_2_method_2_code
def yX0_become : MethodName := ⟨RX0, "become", "(LPistekeeper$Lift;)V"⟩
abbrev cX0_isMoving : ByteArray := prog_2_method_3_code
def yX0_isMoving : MethodName := ⟨RX0, "isMoving", "()Z"⟩
def RX1 : String := "Pistekeeper$Mountain"
def TX1 : u_T := fun k => match k with
  | 0 => ("Pistekeeper$Mountain", "lifts", "[LPistekeeper$Lift;", true)
  | 1 => ("Pistekeeper$Mountain", "runs", "[LPistekeeper$Run;", true)
  | 2 => ("Pistekeeper$Mountain", "liftCount", "I", false)
  | 3 => ("Pistekeeper$Mountain", "runCount", "I", false)
  | 4 => ("Pistekeeper$Mountain", "now", "I", false)
  | 5 => ("Pistekeeper$Mountain", "latestWind", "I", false)
  | 6 => ("Pistekeeper$Mountain", "water", "I", false)
  | 7 => ("Pistekeeper$Mountain", "charges", "I", false)
  | 8 => ("Pistekeeper$Mountain", "fuel", "I", false)
  | 9 => ("Pistekeeper$Mountain", "skiers", "I", false)
  | 10 => ("Pistekeeper$Mountain", "slides", "I", false)
  | 11 => ("Pistekeeper$Mountain", "reached", "I", false)
  | 12 => ("Pistekeeper$Mountain", "accidents", "I", false)
  | 13 => ("Pistekeeper$Mountain", "calls", "I", false)
  | 14 => ("Pistekeeper$Mountain", "rides", "I", false)
  | _ => ("Pistekeeper$Mountain", "waited", "I", false)
def tyX1 : Nat → FieldType := fun k => match k with
  | 0 => .array (.object "Pistekeeper$Lift")
  | 1 => .array (.object "Pistekeeper$Run")
  | 2 => .int
  | 3 => .int
  | 4 => .int
  | 5 => .int
  | 6 => .int
  | 7 => .int
  | 8 => .int
  | 9 => .int
  | 10 => .int
  | 11 => .int
  | 12 => .int
  | 13 => .int
  | 14 => .int
  | _ => .int
abbrev wsX10 : List Cond := u_ws RX1 TX1 16
theorem nmX1 : ∀ a, a < 16 → ∀ b, b < 16 → a ≠ b → (TX1 a).2.1 ≠ (TX1 b).2.1 := by decide +kernel
theorem tyX1_ok : ∀ k, k < 16 → parseFieldDescriptor (TX1 k).2.2.1 = some (tyX1 k) := by decide +kernel
abbrev cX1_init : ByteArray := prog_3_method_1_code
def yX1_init : MethodName := ⟨RX1, "<init>", "()V"⟩
abbrev cX1_become : ByteArray := prog_3_method_2_code
def yX1_become : MethodName := ⟨RX1, "become", "(LPistekeeper$Mountain;)V"⟩
abbrev cX1_removeGuns : ByteArray := prog_3_method_3_code
def yX1_removeGuns : MethodName := ⟨RX1, "removeGuns", "()V"⟩
abbrev cX1_clock : ByteArray := prog_3_method_4_code
def yX1_clock : MethodName := ⟨RX1, "clock", "()I"⟩
abbrev cX1_openRuns : ByteArray := prog_3_method_5_code
def yX1_openRuns : MethodName := ⟨RX1, "openRuns", "()I"⟩
abbrev cX1_openRunsOf : ByteArray := prog_3_method_6_code
def yX1_openRunsOf : MethodName := ⟨RX1, "openRunsOf", "(I)I"⟩
abbrev cX1_depthByArea : ByteArray := prog_3_method_7_code
def yX1_depthByArea : MethodName := ⟨RX1, "depthByArea", "()I"⟩
abbrev cX1_wholeArea : ByteArray := prog_3_method_8_code
def yX1_wholeArea : MethodName := ⟨RX1, "wholeArea", "()I"⟩
abbrev cX1_isTested : ByteArray := prog_3_method_9_code
def yX1_isTested : MethodName := ⟨RX1, "isTested", "(LPistekeeper$Run;)Z"⟩
abbrev cX1_wouldTell : ByteArray := prog_3_method_10_code
def yX1_wouldTell : MethodName := ⟨RX1, "wouldTell", "(ILPistekeeper$Run;)I"⟩
abbrev cX1_barNow : ByteArray := prog_3_method_11_code
def yX1_barNow : MethodName := ⟨RX1, "barNow", "(LPistekeeper$Run;)I"⟩
abbrev cX1_bar : ByteArray := prog_3_method_12_code
def yX1_bar : MethodName := ⟨RX1, "bar", "(LPistekeeper$Run;ZIZ)I"⟩
abbrev cX1_slideOn : ByteArray := prog_3_method_13_code
def yX1_slideOn : MethodName := ⟨RX1, "slideOn", "(LPistekeeper$Run;)I"⟩
abbrev cX1_passHour : ByteArray := prog_3_method_14_code
def yX1_passHour : MethodName := ⟨RX1, "passHour", "(LPistekeeper$Weather;)V"⟩
abbrev cX1_holdLifts : ByteArray := prog_3_method_15_code
def yX1_holdLifts : MethodName := ⟨RX1, "holdLifts", "(I)V"⟩
abbrev cX1_makeSnow : ByteArray := prog_3_method_16_code
def yX1_makeSnow : MethodName := ⟨RX1, "makeSnow", "(LPistekeeper$Run;I)V"⟩
abbrev cX1_carrySkiers : ByteArray := prog_3_method_17_code
def yX1_carrySkiers : MethodName := ⟨RX1, "carrySkiers", "()V"⟩
abbrev cX1_shareOut : ByteArray := prog_3_method_18_code
def yX1_shareOut : MethodName := ⟨RX1, "shareOut", "(III)V"⟩
abbrev cX1_skiOn : ByteArray := prog_3_method_19_code
def yX1_skiOn : MethodName := ⟨RX1, "skiOn", "(LPistekeeper$Run;I)V"⟩
def RX2 : String := "Pistekeeper$Run"
def TX2 : u_T := fun k => match k with
  | 0 => ("Pistekeeper$Run", "snow", "LPistekeeper$Snow;", true)
  | 1 => ("Pistekeeper$Run", "lift", "I", false)
  | 2 => ("Pistekeeper$Run", "height", "I", false)
  | 3 => ("Pistekeeper$Run", "slope", "I", false)
  | 4 => ("Pistekeeper$Run", "aspect", "I", false)
  | 5 => ("Pistekeeper$Run", "area", "I", false)
  | 6 => ("Pistekeeper$Run", "guns", "I", false)
  | 7 => ("Pistekeeper$Run", "heap", "I", false)
  | 8 => ("Pistekeeper$Run", "used", "I", false)
  | 9 => ("Pistekeeper$Run", "slides", "I", false)
  | 10 => ("Pistekeeper$Run", "duds", "I", false)
  | 11 => ("Pistekeeper$Run", "told", "I", false)
  | 12 => ("Pistekeeper$Run", "testedUntil", "I", false)
  | 13 => ("Pistekeeper$Run", "openSince", "I", false)
  | 14 => ("Pistekeeper$Run", "latestRisk", "I", false)
  | 15 => ("Pistekeeper$Run", "isOpen", "Z", false)
  | 16 => ("Pistekeeper$Run", "isWinched", "Z", false)
  | _ => ("Pistekeeper$Run", "isSwept", "Z", false)
def tyX2 : Nat → FieldType := fun k => match k with
  | 0 => .object "Pistekeeper$Snow"
  | 1 => .int
  | 2 => .int
  | 3 => .int
  | 4 => .int
  | 5 => .int
  | 6 => .int
  | 7 => .int
  | 8 => .int
  | 9 => .int
  | 10 => .int
  | 11 => .int
  | 12 => .int
  | 13 => .int
  | 14 => .int
  | 15 => .boolean
  | 16 => .boolean
  | _ => .boolean
abbrev wsX20 : List Cond := u_ws RX2 TX2 18
theorem nmX2 : ∀ a, a < 18 → ∀ b, b < 18 → a ≠ b → (TX2 a).2.1 ≠ (TX2 b).2.1 := by decide +kernel
theorem tyX2_ok : ∀ k, k < 18 → parseFieldDescriptor (TX2 k).2.2.1 = some (tyX2 k) := by decide +kernel
abbrev cX2_init : ByteArray := prog_4_method_1_code
def yX2_init : MethodName := ⟨RX2, "<init>", "()V"⟩
abbrev cX2_become : ByteArray := prog_4_method_2_code
def yX2_become : MethodName := ⟨RX2, "become", "(LPistekeeper$Run;)V"⟩
abbrev cX2_risk : ByteArray := prog_4_method_3_code
def yX2_risk : MethodName := ⟨RX2, "risk", "()I"⟩
abbrev cX2_shear : ByteArray := prog_4_method_4_code
def yX2_shear : MethodName := ⟨RX2, "shear", "()I"⟩
abbrev cX2_sizeFrom : ByteArray := prog_4_method_5_code
def yX2_sizeFrom : MethodName := ⟨RX2, "sizeFrom", "(I)I"⟩
abbrev cX2_weatherSnow : ByteArray := prog_4_method_6_code
def yX2_weatherSnow : MethodName := ⟨RX2, "weatherSnow", "(LPistekeeper$Weather;II)V"⟩
def RX3 : String := "Pistekeeper$Snow"
def TX3 : u_T := fun k => match k with
  | 0 => ("Pistekeeper$Snow", "depth", "[I", true)
  | 1 => ("Pistekeeper$Snow", "hardness", "[I", true)
  | 2 => ("Pistekeeper$Snow", "kind", "[I", true)
  | 3 => ("Pistekeeper$Snow", "count", "I", false)
  | 4 => ("Pistekeeper$Snow", "isWet", "Z", false)
  | _ => ("Pistekeeper$Snow", "hasSnowed", "Z", false)
def tyX3 : Nat → FieldType := fun k => match k with
  | 0 => .array .int
  | 1 => .array .int
  | 2 => .array .int
  | 3 => .int
  | 4 => .boolean
  | _ => .boolean
abbrev wsX30 : List Cond := u_ws RX3 TX3 6
theorem nmX3 : ∀ a, a < 6 → ∀ b, b < 6 → a ≠ b → (TX3 a).2.1 ≠ (TX3 b).2.1 := by decide +kernel
theorem tyX3_ok : ∀ k, k < 6 → parseFieldDescriptor (TX3 k).2.2.1 = some (tyX3 k) := by decide +kernel
abbrev cX3_init : ByteArray := prog_5_method_1_code
def yX3_init : MethodName := ⟨RX3, "<init>", "()V"⟩
abbrev cX3_become : ByteArray := prog_5_method_2_code
def yX3_become : MethodName := ⟨RX3, "become", "(LPistekeeper$Snow;)V"⟩
abbrev cX3_topIs : ByteArray := prog_5_method_3_code
def yX3_topIs : MethodName := ⟨RX3, "topIs", "(I)Z"⟩
abbrev cX3_wholeDepth : ByteArray := prog_5_method_4_code
def yX3_wholeDepth : MethodName := ⟨RX3, "wholeDepth", "()I"⟩
abbrev cX3_depthFrom : ByteArray := prog_5_method_5_code
def yX3_depthFrom : MethodName := ⟨RX3, "depthFrom", "(I)I"⟩
abbrev cX3_thicken : ByteArray := prog_5_method_6_code
def yX3_thicken : MethodName := ⟨RX3, "thicken", "(I)V"⟩
abbrev cX3_thin : ByteArray := prog_5_method_7_code
def yX3_thin : MethodName := ⟨RX3, "thin", "(I)V"⟩
abbrev cX3_melt : ByteArray := prog_5_method_8_code
def yX3_melt : MethodName := ⟨RX3, "melt", "(I)V"⟩
abbrev cX3_lay : ByteArray := prog_5_method_9_code
def yX3_lay : MethodName := ⟨RX3, "lay", "(III)V"⟩
abbrev cX3_joinLowest : ByteArray := prog_5_method_10_code
def yX3_joinLowest : MethodName := ⟨RX3, "joinLowest", "()V"⟩
abbrev cX3_changeTop : ByteArray := prog_5_method_11_code
def yX3_changeTop : MethodName := ⟨RX3, "changeTop", "(II)V"⟩
abbrev cX3_pressTop : ByteArray := prog_5_method_12_code
def yX3_pressTop : MethodName := ⟨RX3, "pressTop", "()I"⟩
abbrev cX3_stress : ByteArray := prog_5_method_13_code
def yX3_stress : MethodName := ⟨RX3, "stress", "(III)I"⟩
abbrev cX3_shear : ByteArray := prog_5_method_14_code
def yX3_shear : MethodName := ⟨RX3, "shear", "(I)I"⟩
abbrev cX3_risk : ByteArray := prog_5_method_15_code
def yX3_risk : MethodName := ⟨RX3, "risk", "(I)I"⟩
abbrev cX3_dropFrom : ByteArray := prog_5_method_16_code
def yX3_dropFrom : MethodName := ⟨RX3, "dropFrom", "(I)V"⟩
abbrev cX3_comeDown : ByteArray := prog_5_method_17_code
def yX3_comeDown : MethodName := ⟨RX3, "comeDown", "(II)V"⟩
abbrev cX3_drift : ByteArray := prog_5_method_18_code
def yX3_drift : MethodName := ⟨RX3, "drift", "(IZZ)V"⟩
abbrev cX3_freeze : ByteArray := prog_5_method_19_code
def yX3_freeze : MethodName := ⟨RX3, "freeze", "()V"⟩
abbrev cX3_growWeak : ByteArray := prog_5_method_20_code
def yX3_growWeak : MethodName := ⟨RX3, "growWeak", "()V"⟩
abbrev cX3_settle : ByteArray := prog_5_method_21_code
def yX3_settle : MethodName := ⟨RX3, "settle", "(Z)V"⟩
def RX4 : String := "Pistekeeper$Weather"
def TX4 : u_T := fun k => match k with
  | 0 => ("Pistekeeper$Weather", "warmth", "I", false)
  | 1 => ("Pistekeeper$Weather", "fall", "I", false)
  | 2 => ("Pistekeeper$Weather", "wind", "I", false)
  | 3 => ("Pistekeeper$Weather", "from", "I", false)
  | _ => ("Pistekeeper$Weather", "humid", "I", false)
def tyX4 : Nat → FieldType := fun k => match k with
  | 0 => .int
  | 1 => .int
  | 2 => .int
  | 3 => .int
  | _ => .int
abbrev wsX40 : List Cond := u_ws RX4 TX4 5
theorem nmX4 : ∀ a, a < 5 → ∀ b, b < 5 → a ≠ b → (TX4 a).2.1 ≠ (TX4 b).2.1 := by decide +kernel
theorem tyX4_ok : ∀ k, k < 5 → parseFieldDescriptor (TX4 k).2.2.1 = some (tyX4 k) := by decide +kernel
abbrev cX4_init : ByteArray := prog_6_method_1_code
def yX4_init : MethodName := ⟨RX4, "<init>", "()V"⟩
abbrev cX4_tell : ByteArray := prog_6_method_2_code
def yX4_tell : MethodName := ⟨RX4, "tell", "(IIIII)V"⟩
def RX5 : String := "Pistekeeper"
def TX5 : u_T := fun k => match k with
  | 0 => ("Pistekeeper", "mountain", "LPistekeeper$Mountain;", true)
  | 1 => ("Pistekeeper", "trial", "LPistekeeper$Mountain;", true)
  | 2 => ("Pistekeeper", "bare", "LPistekeeper$Mountain;", true)
  | _ => ("Pistekeeper", "weather", "LPistekeeper$Weather;", true)
def tyX5 : Nat → FieldType := fun k => match k with
  | 0 => .object "Pistekeeper$Mountain"
  | 1 => .object "Pistekeeper$Mountain"
  | 2 => .object "Pistekeeper$Mountain"
  | _ => .object "Pistekeeper$Weather"
abbrev wsX50 : List Cond := u_ws RX5 TX5 4
theorem nmX5 : ∀ a, a < 4 → ∀ b, b < 4 → a ≠ b → (TX5 a).2.1 ≠ (TX5 b).2.1 := by decide +kernel
theorem tyX5_ok : ∀ k, k < 4 → parseFieldDescriptor (TX5 k).2.2.1 = some (tyX5 k) := by decide +kernel
abbrev cX5_init : ByteArray := prog_1_method_1_code
def yX5_init : MethodName := ⟨RX5, "<init>", "()V"⟩
abbrev cX5_lift : ByteArray := prog_1_method_2_code
def yX5_lift : MethodName := ⟨RX5, "lift", "(II)I"⟩
abbrev cX5_run : ByteArray := prog_1_method_3_code
def yX5_run : MethodName := ⟨RX5, "run", "(IIIII)I"⟩
abbrev cX5_turn : ByteArray := prog_1_method_4_code
def yX5_turn : MethodName := ⟨RX5, "turn", "(IZ)Z"⟩
abbrev cX5_release : ByteArray := prog_1_method_5_code
def yX5_release : MethodName := ⟨RX5, "release", "(I)Z"⟩
abbrev cX5_guns : ByteArray := prog_1_method_6_code
def yX5_guns : MethodName := ⟨RX5, "guns", "(II)I"⟩
abbrev cX5_fill : ByteArray := prog_1_method_7_code
def yX5_fill : MethodName := ⟨RX5, "fill", "(I)I"⟩
abbrev cX5_crowd : ByteArray := prog_1_method_8_code
def yX5_crowd : MethodName := ⟨RX5, "crowd", "(I)I"⟩
abbrev cX5_pass : ByteArray := prog_1_method_9_code
def yX5_pass : MethodName := ⟨RX5, "pass", "(IIIIII)I"⟩
abbrev cX5_blast : ByteArray := prog_1_method_10_code
def yX5_blast : MethodName := ⟨RX5, "blast", "(I)I"⟩
abbrev cX5_search : ByteArray := prog_1_method_11_code
def yX5_search : MethodName := ⟨RX5, "search", "(I)I"⟩
abbrev cX5_test : ByteArray := prog_1_method_12_code
def yX5_test : MethodName := ⟨RX5, "test", "(I)I"⟩
abbrev cX5_sweep : ByteArray := prog_1_method_13_code
def yX5_sweep : MethodName := ⟨RX5, "sweep", "(I)Z"⟩
abbrev cX5_winch : ByteArray := prog_1_method_14_code
def yX5_winch : MethodName := ⟨RX5, "winch", "(IZ)Z"⟩
abbrev cX5_groom : ByteArray := prog_1_method_15_code
def yX5_groom : MethodName := ⟨RX5, "groom", "(I)I"⟩
abbrev cX5_open : ByteArray := prog_1_method_16_code
def yX5_open : MethodName := ⟨RX5, "open", "(I)I"⟩
abbrev cX5_close : ByteArray := prog_1_method_17_code
def yX5_close : MethodName := ⟨RX5, "close", "(I)I"⟩
abbrev cX5_ofRun : ByteArray := prog_1_method_18_code
def yX5_ofRun : MethodName := ⟨RX5, "ofRun", "(II)I"⟩
abbrev cX5_ofLayer : ByteArray := prog_1_method_19_code
def yX5_ofLayer : MethodName := ⟨RX5, "ofLayer", "(III)I"⟩
abbrev cX5_ofLift : ByteArray := prog_1_method_20_code
def yX5_ofLift : MethodName := ⟨RX5, "ofLift", "(II)I"⟩
abbrev cX5_many : ByteArray := prog_1_method_21_code
def yX5_many : MethodName := ⟨RX5, "many", "(I)I"⟩
abbrev cX5_meanDepth : ByteArray := prog_1_method_22_code
def yX5_meanDepth : MethodName := ⟨RX5, "meanDepth", "()D"⟩
abbrev cX5_wouldRisk : ByteArray := prog_1_method_23_code
def yX5_wouldRisk : MethodName := ⟨RX5, "wouldRisk", "(IIII)I"⟩
abbrev cX5_wouldMake : ByteArray := prog_1_method_24_code
def yX5_wouldMake : MethodName := ⟨RX5, "wouldMake", "(IIII)I"⟩
abbrev cX5_nextBlast : ByteArray := prog_1_method_25_code
def yX5_nextBlast : MethodName := ⟨RX5, "nextBlast", "()I"⟩
abbrev cX5_couldOpen : ByteArray := prog_1_method_26_code
def yX5_couldOpen : MethodName := ⟨RX5, "couldOpen", "()I"⟩
abbrev cX5_digest : ByteArray := prog_1_method_27_code
def yX5_digest : MethodName := ⟨RX5, "digest", "()J"⟩
abbrev cX5_digestLayers : ByteArray := prog_1_method_28_code
def yX5_digestLayers : MethodName := ⟨RX5, "digestLayers", "(JI)J"⟩
abbrev cX5_oneIf : ByteArray := prog_1_method_29_code
def yX5_oneIf : MethodName := ⟨RX5, "oneIf", "(Z)I"⟩
abbrev cX5_requireWithin : ByteArray := prog_1_method_30_code
def yX5_requireWithin : MethodName := ⟨RX5, "requireWithin", "(III)V"⟩
abbrev cX5_requireLift : ByteArray := prog_1_method_31_code
def yX5_requireLift : MethodName := ⟨RX5, "requireLift", "(I)V"⟩
abbrev cX5_requireRun : ByteArray := prog_1_method_32_code
def yX5_requireRun : MethodName := ⟨RX5, "requireRun", "(I)V"⟩
abbrev cX5_requireClosed : ByteArray := prog_1_method_33_code
def yX5_requireClosed : MethodName := ⟨RX5, "requireClosed", "(I)V"⟩
def RX6 : String := "PistekeeperModel$Mountain"
def TX6 : u_T := fun k => match k with
  | 0 => ("PistekeeperModel$Mountain", "lifts", "Ljava/util/ArrayList;", true)
  | 1 => ("PistekeeperModel$Mountain", "runs", "Ljava/util/ArrayList;", true)
  | 2 => ("PistekeeperModel$Mountain", "now", "I", false)
  | 3 => ("PistekeeperModel$Mountain", "water", "I", false)
  | 4 => ("PistekeeperModel$Mountain", "skiers", "I", false)
  | 5 => ("PistekeeperModel$Mountain", "slides", "I", false)
  | 6 => ("PistekeeperModel$Mountain", "reached", "I", false)
  | 7 => ("PistekeeperModel$Mountain", "accidents", "I", false)
  | 8 => ("PistekeeperModel$Mountain", "calls", "I", false)
  | 9 => ("PistekeeperModel$Mountain", "waited", "I", false)
  | 10 => ("PistekeeperModel$Mountain", "watched", "I", false)
  | _ => ("PistekeeperModel$Mountain", "greatest", "I", false)
def tyX6 : Nat → FieldType := fun k => match k with
  | 0 => .object "java/util/ArrayList"
  | 1 => .object "java/util/ArrayList"
  | 2 => .int
  | 3 => .int
  | 4 => .int
  | 5 => .int
  | 6 => .int
  | 7 => .int
  | 8 => .int
  | 9 => .int
  | 10 => .int
  | _ => .int
abbrev wsX60 : List Cond := u_ws RX6 TX6 12
theorem nmX6 : ∀ a, a < 12 → ∀ b, b < 12 → a ≠ b → (TX6 a).2.1 ≠ (TX6 b).2.1 := by decide +kernel
theorem tyX6_ok : ∀ k, k < 12 → parseFieldDescriptor (TX6 k).2.2.1 = some (tyX6 k) := by decide +kernel
abbrev cX6_init : ByteArray := prog_9_method_1_code
def yX6_init : MethodName := ⟨RX6, "<init>", "()V"⟩
abbrev cX6_copy : ByteArray := prog_9_method_2_code
def yX6_copy : MethodName := ⟨RX6, "copy", "()LPistekeeperModel$Mountain;"⟩
abbrev cX6_slide : ByteArray := prog_9_method_3_code
def yX6_slide : MethodName := ⟨RX6, "slide", "([I)I"⟩
abbrev cX6_close : ByteArray := prog_9_method_4_code
def yX6_close : MethodName := ⟨RX6, "close", "([I)V"⟩
abbrev cX6_pass : ByteArray := prog_9_method_5_code
def yX6_pass : MethodName := ⟨RX6, "pass", "(IIIII)I"⟩
abbrev cX6_pass_ : ByteArray := prog_9_method_6_code
def yX6_pass_ : MethodName := ⟨RX6, "pass", "(IIIIII)V"⟩
abbrev cX6_melt : ByteArray := prog_9_method_7_code
def yX6_melt : MethodName := ⟨RX6, "melt", "([II)V"⟩
abbrev cX6_blow : ByteArray := prog_9_method_8_code
def yX6_blow : MethodName := ⟨RX6, "blow", "([III)V"⟩
abbrev cX6_make : ByteArray := prog_9_method_9_code
def yX6_make : MethodName := ⟨RX6, "make", "([II)V"⟩
abbrev cX6_opened : ByteArray := prog_9_method_10_code
def yX6_opened : MethodName := ⟨RX6, "opened", "(I)I"⟩
abbrev cX6_ride : ByteArray := prog_9_method_11_code
def yX6_ride : MethodName := ⟨RX6, "ride", "()V"⟩
abbrev cX6_ski : ByteArray := prog_9_method_12_code
def yX6_ski : MethodName := ⟨RX6, "ski", "([II)V"⟩
def RX7 : String := "PistekeeperModel"
def TX7 : u_T := fun k => match k with
  | 0 => ("PistekeeperModel", "thrown", "I", false)
  | 1 => ("PistekeeperModel", "mountain", "LPistekeeperModel$Mountain;", true)
  | 2 => ("PistekeeperModel", "charges", "I", false)
  | 3 => ("PistekeeperModel", "blasts", "I", false)
  | 4 => ("PistekeeperModel", "fuel", "I", false)
  | 5 => ("PistekeeperModel", "latestWind", "I", false)
  | _ => ("PistekeeperModel", "sum", "J", false)
def tyX7 : Nat → FieldType := fun k => match k with
  | 0 => .int
  | 1 => .object "PistekeeperModel$Mountain"
  | 2 => .int
  | 3 => .int
  | 4 => .int
  | 5 => .int
  | _ => .long
abbrev wsX70 : List Cond := u_ws RX7 TX7 7
theorem nmX7 : ∀ a, a < 7 → ∀ b, b < 7 → a ≠ b → (TX7 a).2.1 ≠ (TX7 b).2.1 := by decide +kernel
theorem tyX7_ok : ∀ k, k < 7 → parseFieldDescriptor (TX7 k).2.2.1 = some (tyX7 k) := by decide +kernel
abbrev cX7_init : ByteArray := prog_8_method_1_code
def yX7_init : MethodName := ⟨RX7, "<init>", "()V"⟩
abbrev cX7_thrown : ByteArray := prog_8_method_2_code
def yX7_thrown : MethodName := ⟨RX7, "thrown", "()I"⟩
abbrev cX7_refuse : ByteArray := prog_8_method_3_code
def yX7_refuse : MethodName := ⟨RX7, "refuse", "(I)I"⟩
abbrev cX7_is : ByteArray := prog_8_method_4_code
def yX7_is : MethodName := ⟨RX7, "is", "(III)Z"⟩
abbrev cX7_at : ByteArray := prog_8_method_5_code
def yX7_at : MethodName := ⟨RX7, "at", "([III)I"⟩
abbrev cX7_set : ByteArray := prog_8_method_6_code
def yX7_set : MethodName := ⟨RX7, "set", "([IIII)V"⟩
abbrev cX7_top : ByteArray := prog_8_method_7_code
def yX7_top : MethodName := ⟨RX7, "top", "([I)I"⟩
abbrev cX7_isTop : ByteArray := prog_8_method_8_code
def yX7_isTop : MethodName := ⟨RX7, "isTop", "([II)Z"⟩
abbrev cX7_put : ByteArray := prog_8_method_9_code
def yX7_put : MethodName := ⟨RX7, "put", "([IIIII)V"⟩
abbrev cX7_add : ByteArray := prog_8_method_10_code
def yX7_add : MethodName := ⟨RX7, "add", "([IIII)V"⟩
abbrev cX7_deepen : ByteArray := prog_8_method_11_code
def yX7_deepen : MethodName := ⟨RX7, "deepen", "([II)V"⟩
abbrev cX7_take : ByteArray := prog_8_method_12_code
def yX7_take : MethodName := ⟨RX7, "take", "([II)V"⟩
abbrev cX7_drop : ByteArray := prog_8_method_13_code
def yX7_drop : MethodName := ⟨RX7, "drop", "([II)V"⟩
abbrev cX7_depth : ByteArray := prog_8_method_14_code
def yX7_depth : MethodName := ⟨RX7, "depth", "([II)I"⟩
abbrev cX7_strain : ByteArray := prog_8_method_15_code
def yX7_strain : MethodName := ⟨RX7, "strain", "([II)I"⟩
abbrev cX7_shear : ByteArray := prog_8_method_16_code
def yX7_shear : MethodName := ⟨RX7, "shear", "([I)I"⟩
abbrev cX7_risk : ByteArray := prog_8_method_17_code
def yX7_risk : MethodName := ⟨RX7, "risk", "([I)I"⟩
abbrev cX7_size : ByteArray := prog_8_method_18_code
def yX7_size : MethodName := ⟨RX7, "size", "([I)I"⟩
abbrev cX7_isLift : ByteArray := prog_8_method_19_code
def yX7_isLift : MethodName := ⟨RX7, "isLift", "(I)Z"⟩
abbrev cX7_isRun : ByteArray := prog_8_method_20_code
def yX7_isRun : MethodName := ⟨RX7, "isRun", "(I)Z"⟩
abbrev cX7_runAt : ByteArray := prog_8_method_21_code
def yX7_runAt : MethodName := ⟨RX7, "runAt", "(I)[I"⟩
abbrev cX7_isOpen : ByteArray := prog_8_method_22_code
def yX7_isOpen : MethodName := ⟨RX7, "isOpen", "(I)Z"⟩
abbrev cX7_lift : ByteArray := prog_8_method_23_code
def yX7_lift : MethodName := ⟨RX7, "lift", "(II)I"⟩
abbrev cX7_run : ByteArray := prog_8_method_24_code
def yX7_run : MethodName := ⟨RX7, "run", "(IIIII)I"⟩
abbrev cX7_turn : ByteArray := prog_8_method_25_code
def yX7_turn : MethodName := ⟨RX7, "turn", "(IZ)Z"⟩
abbrev cX7_release : ByteArray := prog_8_method_26_code
def yX7_release : MethodName := ⟨RX7, "release", "(I)Z"⟩
abbrev cX7_guns : ByteArray := prog_8_method_27_code
def yX7_guns : MethodName := ⟨RX7, "guns", "(II)I"⟩
abbrev cX7_fill : ByteArray := prog_8_method_28_code
def yX7_fill : MethodName := ⟨RX7, "fill", "(I)I"⟩
abbrev cX7_crowd : ByteArray := prog_8_method_29_code
def yX7_crowd : MethodName := ⟨RX7, "crowd", "(I)I"⟩
abbrev cX7_areHours : ByteArray := prog_8_method_30_code
def yX7_areHours : MethodName := ⟨RX7, "areHours", "(I)Z"⟩
abbrev cX7_isWarmth : ByteArray := prog_8_method_31_code
def yX7_isWarmth : MethodName := ⟨RX7, "isWarmth", "(I)Z"⟩
abbrev cX7_pass : ByteArray := prog_8_method_32_code
def yX7_pass : MethodName := ⟨RX7, "pass", "(IIIIII)I"⟩
abbrev cX7_blast : ByteArray := prog_8_method_33_code
def yX7_blast : MethodName := ⟨RX7, "blast", "(I)I"⟩
abbrev cX7_search : ByteArray := prog_8_method_34_code
def yX7_search : MethodName := ⟨RX7, "search", "(I)I"⟩
abbrev cX7_tells : ByteArray := prog_8_method_35_code
def yX7_tells : MethodName := ⟨RX7, "tells", "(I)I"⟩
abbrev cX7_test : ByteArray := prog_8_method_36_code
def yX7_test : MethodName := ⟨RX7, "test", "(I)I"⟩
abbrev cX7_sweep : ByteArray := prog_8_method_37_code
def yX7_sweep : MethodName := ⟨RX7, "sweep", "(I)Z"⟩
abbrev cX7_winch : ByteArray := prog_8_method_38_code
def yX7_winch : MethodName := ⟨RX7, "winch", "(IZ)Z"⟩
abbrev cX7_groom : ByteArray := prog_8_method_39_code
def yX7_groom : MethodName := ⟨RX7, "groom", "(I)I"⟩
abbrev cX7_isTested : ByteArray := prog_8_method_40_code
def yX7_isTested : MethodName := ⟨RX7, "isTested", "(I)Z"⟩
abbrev cX7_barsBelow : ByteArray := prog_8_method_41_code
def yX7_barsBelow : MethodName := ⟨RX7, "barsBelow", "(IZIZ)I"⟩
abbrev cX7_bars : ByteArray := prog_8_method_42_code
def yX7_bars : MethodName := ⟨RX7, "bars", "(I)I"⟩
abbrev cX7_open : ByteArray := prog_8_method_43_code
def yX7_open : MethodName := ⟨RX7, "open", "(I)I"⟩
abbrev cX7_close : ByteArray := prog_8_method_44_code
def yX7_close : MethodName := ⟨RX7, "close", "(I)I"⟩
abbrev cX7_ofRunNow : ByteArray := prog_8_method_45_code
def yX7_ofRunNow : MethodName := ⟨RX7, "ofRunNow", "(II)I"⟩
abbrev cX7_ofRun : ByteArray := prog_8_method_46_code
def yX7_ofRun : MethodName := ⟨RX7, "ofRun", "(II)I"⟩
abbrev cX7_ofLayer : ByteArray := prog_8_method_47_code
def yX7_ofLayer : MethodName := ⟨RX7, "ofLayer", "(III)I"⟩
abbrev cX7_ofLiftNow : ByteArray := prog_8_method_48_code
def yX7_ofLiftNow : MethodName := ⟨RX7, "ofLiftNow", "(II)I"⟩
abbrev cX7_ofLift : ByteArray := prog_8_method_49_code
def yX7_ofLift : MethodName := ⟨RX7, "ofLift", "(II)I"⟩
abbrev cX7_manyNow : ByteArray := prog_8_method_50_code
def yX7_manyNow : MethodName := ⟨RX7, "manyNow", "(I)I"⟩
abbrev cX7_many : ByteArray := prog_8_method_51_code
def yX7_many : MethodName := ⟨RX7, "many", "(I)I"⟩
abbrev cX7_meanDepth : ByteArray := prog_8_method_52_code
def yX7_meanDepth : MethodName := ⟨RX7, "meanDepth", "()D"⟩
abbrev cX7_riskNow : ByteArray := prog_8_method_53_code
def yX7_riskNow : MethodName := ⟨RX7, "riskNow", "(IIII)I"⟩
abbrev cX7_wouldRisk : ByteArray := prog_8_method_54_code
def yX7_wouldRisk : MethodName := ⟨RX7, "wouldRisk", "(IIII)I"⟩
abbrev cX7_depthWith : ByteArray := prog_8_method_55_code
def yX7_depthWith : MethodName := ⟨RX7, "depthWith", "(IIIII)I"⟩
abbrev cX7_makeNow : ByteArray := prog_8_method_56_code
def yX7_makeNow : MethodName := ⟨RX7, "makeNow", "(IIII)I"⟩
abbrev cX7_wouldMake : ByteArray := prog_8_method_57_code
def yX7_wouldMake : MethodName := ⟨RX7, "wouldMake", "(IIII)I"⟩
abbrev cX7_nextNow : ByteArray := prog_8_method_58_code
def yX7_nextNow : MethodName := ⟨RX7, "nextNow", "()I"⟩
abbrev cX7_nextBlast : ByteArray := prog_8_method_59_code
def yX7_nextBlast : MethodName := ⟨RX7, "nextBlast", "()I"⟩
abbrev cX7_couldNow : ByteArray := prog_8_method_60_code
def yX7_couldNow : MethodName := ⟨RX7, "couldNow", "()I"⟩
abbrev cX7_couldOpen : ByteArray := prog_8_method_61_code
def yX7_couldOpen : MethodName := ⟨RX7, "couldOpen", "()I"⟩
abbrev cX7_add_ : ByteArray := prog_8_method_62_code
def yX7_add_ : MethodName := ⟨RX7, "add", "(I)V"⟩
abbrev cX7_digest : ByteArray := prog_8_method_63_code
def yX7_digest : MethodName := ⟨RX7, "digest", "()J"⟩
def RJx145de : String := "java/io/Serializable"
def TJx145de : u_T := fun k => match k with
  | _ => ("", "", "", false)
def tyJx145de : Nat → FieldType := fun k => match k with
  | _ => .int
abbrev wsJx145de0 : List Cond := u_ws RJx145de TJx145de 0
theorem nmJx145de : ∀ a, a < 0 → ∀ b, b < 0 → a ≠ b → (TJx145de a).2.1 ≠ (TJx145de b).2.1 := by decide +kernel
theorem tyJx145de_ok : ∀ k, k < 0 → parseFieldDescriptor (TJx145de k).2.2.1 = some (tyJx145de k) := by decide +kernel
def RJx8e188 : String := "java/lang/Cloneable"
def TJx8e188 : u_T := fun k => match k with
  | _ => ("", "", "", false)
def tyJx8e188 : Nat → FieldType := fun k => match k with
  | _ => .int
abbrev wsJx8e1880 : List Cond := u_ws RJx8e188 TJx8e188 0
theorem nmJx8e188 : ∀ a, a < 0 → ∀ b, b < 0 → a ≠ b → (TJx8e188 a).2.1 ≠ (TJx8e188 b).2.1 := by decide +kernel
theorem tyJx8e188_ok : ∀ k, k < 0 → parseFieldDescriptor (TJx8e188 k).2.2.1 = some (tyJx8e188 k) := by decide +kernel
def RJxab1ab : String := "java/lang/Iterable"
def TJxab1ab : u_T := fun k => match k with
  | _ => ("", "", "", false)
def tyJxab1ab : Nat → FieldType := fun k => match k with
  | _ => .int
abbrev wsJxab1ab0 : List Cond := u_ws RJxab1ab TJxab1ab 0
theorem nmJxab1ab : ∀ a, a < 0 → ∀ b, b < 0 → a ≠ b → (TJxab1ab a).2.1 ≠ (TJxab1ab b).2.1 := by decide +kernel
theorem tyJxab1ab_ok : ∀ k, k < 0 → parseFieldDescriptor (TJxab1ab k).2.2.1 = some (tyJxab1ab k) := by decide +kernel
def RJ9 : String := "java/lang/Math"
def TJ9 : u_T := fun k => match k with
  | _ => ("", "", "", false)
def tyJ9 : Nat → FieldType := fun k => match k with
  | _ => .int
abbrev wsJ90 : List Cond := u_ws RJ9 TJ9 0
theorem nmJ9 : ∀ a, a < 0 → ∀ b, b < 0 → a ≠ b → (TJ9 a).2.1 ≠ (TJ9 b).2.1 := by decide +kernel
theorem tyJ9_ok : ∀ k, k < 0 → parseFieldDescriptor (TJ9 k).2.2.1 = some (tyJ9 k) := by decide +kernel
abbrev cJ9_max_7cf53 : ByteArray := prog_17_method_65_code
def yJ9_max_7cf53 : MethodName := ⟨RJ9, "max", "(II)I"⟩
abbrev cJ9_min_7cf53 : ByteArray := prog_17_method_69_code
def yJ9_min_7cf53 : MethodName := ⟨RJ9, "min", "(II)I"⟩
def RJ0 : String := "java/lang/String"
def TJ0 : u_T := fun k => match k with
  | _ => ("", "", "", false)
def tyJ0 : Nat → FieldType := fun k => match k with
  | _ => .int
abbrev wsJ00 : List Cond := u_ws RJ0 TJ0 0
theorem nmJ0 : ∀ a, a < 0 → ∀ b, b < 0 → a ≠ b → (TJ0 a).2.1 ≠ (TJ0 b).2.1 := by decide +kernel
theorem tyJ0_ok : ∀ k, k < 0 → parseFieldDescriptor (TJ0 k).2.2.1 = some (tyJ0 k) := by decide +kernel
def RJ10 : String := "java/lang/System"
def TJ10 : u_T := fun k => match k with
  | _ => ("", "", "", false)
def tyJ10 : Nat → FieldType := fun k => match k with
  | _ => .int
abbrev wsJ100 : List Cond := u_ws RJ10 TJ10 0
theorem nmJ10 : ∀ a, a < 0 → ∀ b, b < 0 → a ≠ b → (TJ10 a).2.1 ≠ (TJ10 b).2.1 := by decide +kernel
theorem tyJ10_ok : ∀ k, k < 0 → parseFieldDescriptor (TJ10 k).2.2.1 = some (tyJ10 k) := by decide +kernel
def RJxa1e45 : String := "java/util/AbstractCollection"
def TJxa1e45 : u_T := fun k => match k with
  | _ => ("", "", "", false)
def tyJxa1e45 : Nat → FieldType := fun k => match k with
  | _ => .int
abbrev wsJxa1e450 : List Cond := u_ws RJxa1e45 TJxa1e45 0
theorem nmJxa1e45 : ∀ a, a < 0 → ∀ b, b < 0 → a ≠ b → (TJxa1e45 a).2.1 ≠ (TJxa1e45 b).2.1 := by decide +kernel
theorem tyJxa1e45_ok : ∀ k, k < 0 → parseFieldDescriptor (TJxa1e45 k).2.2.1 = some (tyJxa1e45 k) := by decide +kernel
abbrev cJxa1e45_init_da8c8 : ByteArray := prog_22_method_1_code
def yJxa1e45_init_da8c8 : MethodName := ⟨RJxa1e45, "<init>", "()V"⟩
def RJxc12de : String := "java/util/AbstractList"
def TJxc12de : u_T := fun k => match k with
  | _ => ("", "", "", false)
def tyJxc12de : Nat → FieldType := fun k => match k with
  | _ => .int
abbrev wsJxc12de0 : List Cond := u_ws RJxc12de TJxc12de 0
theorem nmJxc12de : ∀ a, a < 0 → ∀ b, b < 0 → a ≠ b → (TJxc12de a).2.1 ≠ (TJxc12de b).2.1 := by decide +kernel
theorem tyJxc12de_ok : ∀ k, k < 0 → parseFieldDescriptor (TJxc12de k).2.2.1 = some (tyJxc12de k) := by decide +kernel
abbrev cJxc12de_init_da8c8 : ByteArray := prog_23_method_1_code
def yJxc12de_init_da8c8 : MethodName := ⟨RJxc12de, "<init>", "()V"⟩
def RJx35411 : String := "java/util/ArrayList$Itr"
def TJx35411 : u_T := fun k => match k with
  | 0 => ("java/util/ArrayList$Itr", "cursor", "I", false)
  | 1 => ("java/util/ArrayList$Itr", "lastRet", "I", false)
  | 2 => ("java/util/ArrayList$Itr", "expectedModCount", "I", false)
  | _ => ("java/util/ArrayList$Itr", "this$0", "Ljava/util/ArrayList;", true)
def tyJx35411 : Nat → FieldType := fun k => match k with
  | 0 => .int
  | 1 => .int
  | 2 => .int
  | _ => .object "java/util/ArrayList"
abbrev wsJx354110 : List Cond := u_ws RJx35411 TJx35411 4
theorem nmJx35411 : ∀ a, a < 4 → ∀ b, b < 4 → a ≠ b → (TJx35411 a).2.1 ≠ (TJx35411 b).2.1 := by decide +kernel
theorem tyJx35411_ok : ∀ k, k < 4 → parseFieldDescriptor (TJx35411 k).2.2.1 = some (tyJx35411 k) := by decide +kernel
abbrev cJx35411_init_45d68 : ByteArray := prog_25_method_1_code
def yJx35411_init_45d68 : MethodName := ⟨RJx35411, "<init>", "(Ljava/util/ArrayList;)V"⟩
abbrev cJx35411_hasNext_aae02 : ByteArray := prog_25_method_2_code
def yJx35411_hasNext_aae02 : MethodName := ⟨RJx35411, "hasNext", "()Z"⟩
abbrev cJx35411_next_0502b : ByteArray := prog_25_method_3_code
def yJx35411_next_0502b : MethodName := ⟨RJx35411, "next", "()Ljava/lang/Object;"⟩
abbrev cJx35411_checkForComodification_da8c8 : ByteArray := prog_25_method_6_code
def yJx35411_checkForComodification_da8c8 : MethodName := ⟨RJx35411, "checkForComodification", "()V"⟩
def RJx4a65c : String := "java/util/ArrayList"
def TJx4a65c : u_T := fun k => match k with
  | 0 => ("java/util/AbstractList", "modCount", "I", false)
  | 1 => ("java/util/ArrayList", "elementData", "[Ljava/lang/Object;", false)
  | _ => ("java/util/ArrayList", "size", "I", false)
def tyJx4a65c : Nat → FieldType := fun k => match k with
  | 0 => .int
  | 1 => .array (.object "java/lang/Object")
  | _ => .int
abbrev wsJx4a65c0 : List Cond := u_ws RJx4a65c TJx4a65c 3
theorem nmJx4a65c : ∀ a, a < 3 → ∀ b, b < 3 → a ≠ b → (TJx4a65c a).2.1 ≠ (TJx4a65c b).2.1 := by decide +kernel
theorem tyJx4a65c_ok : ∀ k, k < 3 → parseFieldDescriptor (TJx4a65c k).2.2.1 = some (tyJx4a65c k) := by decide +kernel
abbrev cJx4a65c_init_da8c8 : ByteArray := prog_24_method_2_code
def yJx4a65c_init_da8c8 : MethodName := ⟨RJx4a65c, "<init>", "()V"⟩
abbrev cJx4a65c_grow_92f84 : ByteArray := prog_24_method_6_code
def yJx4a65c_grow_92f84 : MethodName := ⟨RJx4a65c, "grow", "(I)[Ljava/lang/Object;"⟩
abbrev cJx4a65c_grow_d5877 : ByteArray := prog_24_method_7_code
def yJx4a65c_grow_d5877 : MethodName := ⟨RJx4a65c, "grow", "()[Ljava/lang/Object;"⟩
abbrev cJx4a65c_size_8abf5 : ByteArray := prog_24_method_8_code
def yJx4a65c_size_8abf5 : MethodName := ⟨RJx4a65c, "size", "()I"⟩
abbrev cJx4a65c_elementData_915e3 : ByteArray := prog_24_method_18_code
def yJx4a65c_elementData_915e3 : MethodName := ⟨RJx4a65c, "elementData", "(I)Ljava/lang/Object;"⟩
abbrev cJx4a65c_get_915e3 : ByteArray := prog_24_method_20_code
def yJx4a65c_get_915e3 : MethodName := ⟨RJx4a65c, "get", "(I)Ljava/lang/Object;"⟩
abbrev cJx4a65c_add_72be8 : ByteArray := prog_24_method_24_code
def yJx4a65c_add_72be8 : MethodName := ⟨RJx4a65c, "add", "(Ljava/lang/Object;[Ljava/lang/Object;I)V"⟩
abbrev cJx4a65c_add_9ea2d : ByteArray := prog_24_method_25_code
def yJx4a65c_add_9ea2d : MethodName := ⟨RJx4a65c, "add", "(Ljava/lang/Object;)Z"⟩
abbrev cJx4a65c_iterator_32c93 : ByteArray := prog_24_method_55_code
def yJx4a65c_iterator_32c93 : MethodName := ⟨RJx4a65c, "iterator", "()Ljava/util/Iterator;"⟩
def RJ7 : String := "java/util/Arrays"
def TJ7 : u_T := fun k => match k with
  | _ => ("", "", "", false)
def tyJ7 : Nat → FieldType := fun k => match k with
  | _ => .int
abbrev wsJ70 : List Cond := u_ws RJ7 TJ7 0
theorem nmJ7 : ∀ a, a < 0 → ∀ b, b < 0 → a ≠ b → (TJ7 a).2.1 ≠ (TJ7 b).2.1 := by decide +kernel
theorem tyJ7_ok : ∀ k, k < 0 → parseFieldDescriptor (TJ7 k).2.2.1 = some (tyJ7 k) := by decide +kernel
abbrev cJ7_copyOf_1904c : ByteArray := prog_26_method_119_code
def yJ7_copyOf_1904c : MethodName := ⟨RJ7, "copyOf", "([Ljava/lang/Object;I)[Ljava/lang/Object;"⟩
abbrev cJ7_copyOf_6403c : ByteArray := prog_26_method_120_code
def yJ7_copyOf_6403c : MethodName := ⟨RJ7, "copyOf", "([Ljava/lang/Object;ILjava/lang/Class;)[Ljava/lang/Object;"⟩
def RJx5ef63 : String := "java/util/Collection"
def TJx5ef63 : u_T := fun k => match k with
  | _ => ("", "", "", false)
def tyJx5ef63 : Nat → FieldType := fun k => match k with
  | _ => .int
abbrev wsJx5ef630 : List Cond := u_ws RJx5ef63 TJx5ef63 0
theorem nmJx5ef63 : ∀ a, a < 0 → ∀ b, b < 0 → a ≠ b → (TJx5ef63 a).2.1 ≠ (TJx5ef63 b).2.1 := by decide +kernel
theorem tyJx5ef63_ok : ∀ k, k < 0 → parseFieldDescriptor (TJx5ef63 k).2.2.1 = some (tyJx5ef63 k) := by decide +kernel
def RJx4d0d8 : String := "java/util/Iterator"
def TJx4d0d8 : u_T := fun k => match k with
  | _ => ("", "", "", false)
def tyJx4d0d8 : Nat → FieldType := fun k => match k with
  | _ => .int
abbrev wsJx4d0d80 : List Cond := u_ws RJx4d0d8 TJx4d0d8 0
theorem nmJx4d0d8 : ∀ a, a < 0 → ∀ b, b < 0 → a ≠ b → (TJx4d0d8 a).2.1 ≠ (TJx4d0d8 b).2.1 := by decide +kernel
theorem tyJx4d0d8_ok : ∀ k, k < 0 → parseFieldDescriptor (TJx4d0d8 k).2.2.1 = some (tyJx4d0d8 k) := by decide +kernel
def RJxbd725 : String := "java/util/List"
def TJxbd725 : u_T := fun k => match k with
  | _ => ("", "", "", false)
def tyJxbd725 : Nat → FieldType := fun k => match k with
  | _ => .int
abbrev wsJxbd7250 : List Cond := u_ws RJxbd725 TJxbd725 0
theorem nmJxbd725 : ∀ a, a < 0 → ∀ b, b < 0 → a ≠ b → (TJxbd725 a).2.1 ≠ (TJxbd725 b).2.1 := by decide +kernel
theorem tyJxbd725_ok : ∀ k, k < 0 → parseFieldDescriptor (TJxbd725 k).2.2.1 = some (tyJxbd725 k) := by decide +kernel
def RJ15 : String := "java/util/Objects"
def TJ15 : u_T := fun k => match k with
  | _ => ("", "", "", false)
def tyJ15 : Nat → FieldType := fun k => match k with
  | _ => .int
abbrev wsJ150 : List Cond := u_ws RJ15 TJ15 0
theorem nmJ15 : ∀ a, a < 0 → ∀ b, b < 0 → a ≠ b → (TJ15 a).2.1 ≠ (TJ15 b).2.1 := by decide +kernel
theorem tyJ15_ok : ∀ k, k < 0 → parseFieldDescriptor (TJ15 k).2.2.1 = some (tyJ15 k) := by decide +kernel
abbrev cJ15_checkIndex_7cf53 : ByteArray := prog_30_method_17_code
def yJ15_checkIndex_7cf53 : MethodName := ⟨RJ15, "checkIndex", "(II)I"⟩
def RJxf0a74 : String := "java/util/RandomAccess"
def TJxf0a74 : u_T := fun k => match k with
  | _ => ("", "", "", false)
def tyJxf0a74 : Nat → FieldType := fun k => match k with
  | _ => .int
abbrev wsJxf0a740 : List Cond := u_ws RJxf0a74 TJxf0a74 0
theorem nmJxf0a74 : ∀ a, a < 0 → ∀ b, b < 0 → a ≠ b → (TJxf0a74 a).2.1 ≠ (TJxf0a74 b).2.1 := by decide +kernel
theorem tyJxf0a74_ok : ∀ k, k < 0 → parseFieldDescriptor (TJxf0a74 k).2.2.1 = some (tyJxf0a74 k) := by decide +kernel
def RJxa66e6 : String := "java/util/SequencedCollection"
def TJxa66e6 : u_T := fun k => match k with
  | _ => ("", "", "", false)
def tyJxa66e6 : Nat → FieldType := fun k => match k with
  | _ => .int
abbrev wsJxa66e60 : List Cond := u_ws RJxa66e6 TJxa66e6 0
theorem nmJxa66e6 : ∀ a, a < 0 → ∀ b, b < 0 → a ≠ b → (TJxa66e6 a).2.1 ≠ (TJxa66e6 b).2.1 := by decide +kernel
theorem tyJxa66e6_ok : ∀ k, k < 0 → parseFieldDescriptor (TJxa66e6 k).2.2.1 = some (tyJxa66e6 k) := by decide +kernel
def RJ8 : String := "jdk/internal/util/ArraysSupport"
def TJ8 : u_T := fun k => match k with
  | _ => ("", "", "", false)
def tyJ8 : Nat → FieldType := fun k => match k with
  | _ => .int
abbrev wsJ80 : List Cond := u_ws RJ8 TJ8 0
theorem nmJ8 : ∀ a, a < 0 → ∀ b, b < 0 → a ≠ b → (TJ8 a).2.1 ≠ (TJ8 b).2.1 := by decide +kernel
theorem tyJ8_ok : ∀ k, k < 0 → parseFieldDescriptor (TJ8 k).2.2.1 = some (tyJ8 k) := by decide +kernel
abbrev cJ8_newLength_cabcc : ByteArray := prog_33_method_27_code
def yJ8_newLength_cabcc : MethodName := ⟨RJ8, "newLength", "(III)I"⟩
abbrev cJ8_hugeLength_7cf53 : ByteArray := prog_33_method_28_code
def yJ8_hugeLength_7cf53 : MethodName := ⟨RJ8, "hugeLength", "(II)I"⟩
def RJ3 : String := "jdk/internal/util/Preconditions"
def TJ3 : u_T := fun k => match k with
  | _ => ("", "", "", false)
def tyJ3 : Nat → FieldType := fun k => match k with
  | _ => .int
abbrev wsJ30 : List Cond := u_ws RJ3 TJ3 0
theorem nmJ3 : ∀ a, a < 0 → ∀ b, b < 0 → a ≠ b → (TJ3 a).2.1 ≠ (TJ3 b).2.1 := by decide +kernel
theorem tyJ3_ok : ∀ k, k < 0 → parseFieldDescriptor (TJ3 k).2.2.1 = some (tyJ3 k) := by decide +kernel
abbrev cJ3_checkIndex_8e157 : ByteArray := prog_34_method_11_code
def yJ3_checkIndex_8e157 : MethodName := ⟨RJ3, "checkIndex", "(IILjava/util/function/BiFunction;)I"⟩
def RL : String := "PistekeeperLaw"
abbrev cL_lift : ByteArray := method_3_code
def yL_lift : MethodName := ⟨RL, "lift", "(LPistekeeper;II[J)I"⟩
abbrev cL_run : ByteArray := method_4_code
def yL_run : MethodName := ⟨RL, "run", "(LPistekeeper;IIIII[J)I"⟩
abbrev cL_turn : ByteArray := method_5_code
def yL_turn : MethodName := ⟨RL, "turn", "(LPistekeeper;IZ[J)I"⟩
abbrev cL_release : ByteArray := method_6_code
def yL_release : MethodName := ⟨RL, "release", "(LPistekeeper;I[J)I"⟩
abbrev cL_guns : ByteArray := method_7_code
def yL_guns : MethodName := ⟨RL, "guns", "(LPistekeeper;II[J)I"⟩
abbrev cL_fill : ByteArray := method_8_code
def yL_fill : MethodName := ⟨RL, "fill", "(LPistekeeper;I[J)I"⟩
abbrev cL_crowd : ByteArray := method_9_code
def yL_crowd : MethodName := ⟨RL, "crowd", "(LPistekeeper;I[J)I"⟩
abbrev cL_pass : ByteArray := method_10_code
def yL_pass : MethodName := ⟨RL, "pass", "(LPistekeeper;IIIIII[J)I"⟩
abbrev cL_blast : ByteArray := method_11_code
def yL_blast : MethodName := ⟨RL, "blast", "(LPistekeeper;I[J)I"⟩
abbrev cL_search : ByteArray := method_12_code
def yL_search : MethodName := ⟨RL, "search", "(LPistekeeper;I[J)I"⟩
abbrev cL_test : ByteArray := method_13_code
def yL_test : MethodName := ⟨RL, "test", "(LPistekeeper;I[J)I"⟩
abbrev cL_sweep : ByteArray := method_14_code
def yL_sweep : MethodName := ⟨RL, "sweep", "(LPistekeeper;I[J)I"⟩
abbrev cL_winch : ByteArray := method_15_code
def yL_winch : MethodName := ⟨RL, "winch", "(LPistekeeper;IZ[J)I"⟩
abbrev cL_groom : ByteArray := method_16_code
def yL_groom : MethodName := ⟨RL, "groom", "(LPistekeeper;I[J)I"⟩
abbrev cL_open : ByteArray := method_17_code
def yL_open : MethodName := ⟨RL, "open", "(LPistekeeper;I[J)I"⟩
abbrev cL_close : ByteArray := method_18_code
def yL_close : MethodName := ⟨RL, "close", "(LPistekeeper;I[J)I"⟩
abbrev cL_ofRun : ByteArray := method_19_code
def yL_ofRun : MethodName := ⟨RL, "ofRun", "(LPistekeeper;II[J)I"⟩
abbrev cL_ofLayer : ByteArray := method_20_code
def yL_ofLayer : MethodName := ⟨RL, "ofLayer", "(LPistekeeper;III[J)I"⟩
abbrev cL_ofLift : ByteArray := method_21_code
def yL_ofLift : MethodName := ⟨RL, "ofLift", "(LPistekeeper;II[J)I"⟩
abbrev cL_many : ByteArray := method_22_code
def yL_many : MethodName := ⟨RL, "many", "(LPistekeeper;I[J)I"⟩
abbrev cL_wouldRisk : ByteArray := method_23_code
def yL_wouldRisk : MethodName := ⟨RL, "wouldRisk", "(LPistekeeper;IIII[J)I"⟩
abbrev cL_wouldMake : ByteArray := method_24_code
def yL_wouldMake : MethodName := ⟨RL, "wouldMake", "(LPistekeeper;IIII[J)I"⟩
abbrev cL_law : ByteArray := code
def yL_law : MethodName := ⟨RL, "law", "([I)Z"⟩
abbrev vwCl : List vw_C := [(RJx35411, TJx35411, 4), (RJx4a65c, TJx4a65c, 3), (RX0, TX0, 5), (RX1, TX1, 16), (RX2, TX2, 18), (RX3, TX3, 6), (RX4, TX4, 5), (RX5, TX5, 4), (RX6, TX6, 12), (RX7, TX7, 7)]
