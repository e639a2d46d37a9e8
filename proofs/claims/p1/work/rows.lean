section
-- ===== PART A: goes FIRST, ahead of the names: the tables' words, and 'selects' of the private methods out of them =====
/-- a private method of a class that the tables say can be made, by its rows of tables_1 -/
def lw_okq (q : MethodName × Nat) : Prop := (q.1.cls ≠ "java/lang/invoke/MethodHandle" ∧ q.1.cls ≠ "java/lang/invoke/VarHandle") ∧ Cond.instantiable q.1.cls q.2 ∈ tables_1 ∧ Cond.privateMethod q.1 ∈ tables_1 ∧ Cond.instanceMethod q.1 ∈ tables_1
theorem lw_p0 : lw_okq (⟨"java/lang/Throwable", "fillInStackTrace", "(I)Ljava/lang/Throwable;"⟩, 6) := ⟨⟨by decide +kernel, by decide +kernel⟩, List.mem_of_getElem? (i := 438) (by decide +kernel), List.mem_of_getElem? (i := 436) (by decide +kernel), List.mem_of_getElem? (i := 437) (by decide +kernel)⟩
theorem lw_p1 : lw_okq (⟨"Pistekeeper", "requireRun", "(I)V"⟩, 4) := ⟨⟨by decide +kernel, by decide +kernel⟩, List.mem_of_getElem? (i := 26) (by decide +kernel), List.mem_of_getElem? (i := 479) (by decide +kernel), List.mem_of_getElem? (i := 480) (by decide +kernel)⟩
theorem lw_p2 : lw_okq (⟨"Pistekeeper", "digestLayers", "(JI)J"⟩, 4) := ⟨⟨by decide +kernel, by decide +kernel⟩, List.mem_of_getElem? (i := 26) (by decide +kernel), List.mem_of_getElem? (i := 502) (by decide +kernel), List.mem_of_getElem? (i := 503) (by decide +kernel)⟩
theorem lw_p3 : lw_okq (⟨"Pistekeeper", "requireLift", "(I)V"⟩, 4) := ⟨⟨by decide +kernel, by decide +kernel⟩, List.mem_of_getElem? (i := 26) (by decide +kernel), List.mem_of_getElem? (i := 651) (by decide +kernel), List.mem_of_getElem? (i := 652) (by decide +kernel)⟩
theorem lw_p4 : lw_okq (⟨"Pistekeeper", "requireClosed", "(I)V"⟩, 4) := ⟨⟨by decide +kernel, by decide +kernel⟩, List.mem_of_getElem? (i := 26) (by decide +kernel), List.mem_of_getElem? (i := 745) (by decide +kernel), List.mem_of_getElem? (i := 746) (by decide +kernel)⟩
theorem lw_p5 : lw_okq (⟨"PistekeeperModel", "refuse", "(I)I"⟩, 7) := ⟨⟨by decide +kernel, by decide +kernel⟩, List.mem_of_getElem? (i := 834) (by decide +kernel), List.mem_of_getElem? (i := 957) (by decide +kernel), List.mem_of_getElem? (i := 958) (by decide +kernel)⟩
theorem lw_p6 : lw_okq (⟨"java/util/ArrayList", "add", "(Ljava/lang/Object;[Ljava/lang/Object;I)V"⟩, 3) := ⟨⟨by decide +kernel, by decide +kernel⟩, List.mem_of_getElem? (i := 846) (by decide +kernel), List.mem_of_getElem? (i := 969) (by decide +kernel), List.mem_of_getElem? (i := 970) (by decide +kernel)⟩
theorem lw_p7 : lw_okq (⟨"java/util/ArrayList", "grow", "()[Ljava/lang/Object;"⟩, 3) := ⟨⟨by decide +kernel, by decide +kernel⟩, List.mem_of_getElem? (i := 846) (by decide +kernel), List.mem_of_getElem? (i := 973) (by decide +kernel), List.mem_of_getElem? (i := 974) (by decide +kernel)⟩
theorem lw_p8 : lw_okq (⟨"java/util/ArrayList", "grow", "(I)[Ljava/lang/Object;"⟩, 3) := ⟨⟨by decide +kernel, by decide +kernel⟩, List.mem_of_getElem? (i := 846) (by decide +kernel), List.mem_of_getElem? (i := 977) (by decide +kernel), List.mem_of_getElem? (i := 978) (by decide +kernel)⟩
theorem lw_p9 : lw_okq (⟨"PistekeeperModel", "isLift", "(I)Z"⟩, 7) := ⟨⟨by decide +kernel, by decide +kernel⟩, List.mem_of_getElem? (i := 834) (by decide +kernel), List.mem_of_getElem? (i := 1023) (by decide +kernel), List.mem_of_getElem? (i := 1024) (by decide +kernel)⟩
theorem lw_p10 : lw_okq (⟨"PistekeeperModel", "isRun", "(I)Z"⟩, 7) := ⟨⟨by decide +kernel, by decide +kernel⟩, List.mem_of_getElem? (i := 834) (by decide +kernel), List.mem_of_getElem? (i := 1054) (by decide +kernel), List.mem_of_getElem? (i := 1055) (by decide +kernel)⟩
theorem lw_p11 : lw_okq (⟨"PistekeeperModel", "runAt", "(I)[I"⟩, 7) := ⟨⟨by decide +kernel, by decide +kernel⟩, List.mem_of_getElem? (i := 834) (by decide +kernel), List.mem_of_getElem? (i := 1058) (by decide +kernel), List.mem_of_getElem? (i := 1059) (by decide +kernel)⟩
theorem lw_p12 : lw_okq (⟨"PistekeeperModel$Mountain", "pass", "(IIIIII)V"⟩, 12) := ⟨⟨by decide +kernel, by decide +kernel⟩, List.mem_of_getElem? (i := 840) (by decide +kernel), List.mem_of_getElem? (i := 1086) (by decide +kernel), List.mem_of_getElem? (i := 1087) (by decide +kernel)⟩
theorem lw_p13 : lw_okq (⟨"PistekeeperModel$Mountain", "melt", "([II)V"⟩, 12) := ⟨⟨by decide +kernel, by decide +kernel⟩, List.mem_of_getElem? (i := 840) (by decide +kernel), List.mem_of_getElem? (i := 1114) (by decide +kernel), List.mem_of_getElem? (i := 1115) (by decide +kernel)⟩
theorem lw_p14 : lw_okq (⟨"PistekeeperModel$Mountain", "blow", "([III)V"⟩, 12) := ⟨⟨by decide +kernel, by decide +kernel⟩, List.mem_of_getElem? (i := 840) (by decide +kernel), List.mem_of_getElem? (i := 1124) (by decide +kernel), List.mem_of_getElem? (i := 1125) (by decide +kernel)⟩
theorem lw_p15 : lw_okq (⟨"PistekeeperModel$Mountain", "make", "([II)V"⟩, 12) := ⟨⟨by decide +kernel, by decide +kernel⟩, List.mem_of_getElem? (i := 840) (by decide +kernel), List.mem_of_getElem? (i := 1134) (by decide +kernel), List.mem_of_getElem? (i := 1135) (by decide +kernel)⟩
def lw_privs_1 : List (MethodName × Nat) := [(⟨"java/lang/Throwable", "fillInStackTrace", "(I)Ljava/lang/Throwable;"⟩, 6), (⟨"Pistekeeper", "requireRun", "(I)V"⟩, 4), (⟨"Pistekeeper", "digestLayers", "(JI)J"⟩, 4), (⟨"Pistekeeper", "requireLift", "(I)V"⟩, 4), (⟨"Pistekeeper", "requireClosed", "(I)V"⟩, 4), (⟨"PistekeeperModel", "refuse", "(I)I"⟩, 7), (⟨"java/util/ArrayList", "add", "(Ljava/lang/Object;[Ljava/lang/Object;I)V"⟩, 3), (⟨"java/util/ArrayList", "grow", "()[Ljava/lang/Object;"⟩, 3), (⟨"java/util/ArrayList", "grow", "(I)[Ljava/lang/Object;"⟩, 3), (⟨"PistekeeperModel", "isLift", "(I)Z"⟩, 7), (⟨"PistekeeperModel", "isRun", "(I)Z"⟩, 7), (⟨"PistekeeperModel", "runAt", "(I)[I"⟩, 7), (⟨"PistekeeperModel$Mountain", "pass", "(IIIIII)V"⟩, 12), (⟨"PistekeeperModel$Mountain", "melt", "([II)V"⟩, 12), (⟨"PistekeeperModel$Mountain", "blow", "([III)V"⟩, 12), (⟨"PistekeeperModel$Mountain", "make", "([II)V"⟩, 12)]
theorem lw_r1 : ∀ q ∈ lw_privs_1, lw_okq q := List.forall_mem_cons.mpr ⟨lw_p0, List.forall_mem_cons.mpr ⟨lw_p1, List.forall_mem_cons.mpr ⟨lw_p2, List.forall_mem_cons.mpr ⟨lw_p3, List.forall_mem_cons.mpr ⟨lw_p4, List.forall_mem_cons.mpr ⟨lw_p5, List.forall_mem_cons.mpr ⟨lw_p6, List.forall_mem_cons.mpr ⟨lw_p7, List.forall_mem_cons.mpr ⟨lw_p8, List.forall_mem_cons.mpr ⟨lw_p9, List.forall_mem_cons.mpr ⟨lw_p10, List.forall_mem_cons.mpr ⟨lw_p11, List.forall_mem_cons.mpr ⟨lw_p12, List.forall_mem_cons.mpr ⟨lw_p13, List.forall_mem_cons.mpr ⟨lw_p14, List.forall_mem_cons.mpr ⟨lw_p15, fun _ h => absurd h List.not_mem_nil⟩⟩⟩⟩⟩⟩⟩⟩⟩⟩⟩⟩⟩⟩⟩⟩
theorem lw_p16 : lw_okq (⟨"PistekeeperModel$Mountain", "ride", "()V"⟩, 12) := ⟨⟨by decide +kernel, by decide +kernel⟩, List.mem_of_getElem? (i := 840) (by decide +kernel), List.mem_of_getElem? (i := 1210) (by decide +kernel), List.mem_of_getElem? (i := 1211) (by decide +kernel)⟩
theorem lw_p17 : lw_okq (⟨"PistekeeperModel$Mountain", "ski", "([II)V"⟩, 12) := ⟨⟨by decide +kernel, by decide +kernel⟩, List.mem_of_getElem? (i := 840) (by decide +kernel), List.mem_of_getElem? (i := 1218) (by decide +kernel), List.mem_of_getElem? (i := 1219) (by decide +kernel)⟩
theorem lw_p18 : lw_okq (⟨"PistekeeperModel", "isOpen", "(I)Z"⟩, 7) := ⟨⟨by decide +kernel, by decide +kernel⟩, List.mem_of_getElem? (i := 834) (by decide +kernel), List.mem_of_getElem? (i := 1226) (by decide +kernel), List.mem_of_getElem? (i := 1227) (by decide +kernel)⟩
theorem lw_p19 : lw_okq (⟨"PistekeeperModel", "tells", "(I)I"⟩, 7) := ⟨⟨by decide +kernel, by decide +kernel⟩, List.mem_of_getElem? (i := 834) (by decide +kernel), List.mem_of_getElem? (i := 1240) (by decide +kernel), List.mem_of_getElem? (i := 1241) (by decide +kernel)⟩
theorem lw_p20 : lw_okq (⟨"PistekeeperModel", "bars", "(I)I"⟩, 7) := ⟨⟨by decide +kernel, by decide +kernel⟩, List.mem_of_getElem? (i := 834) (by decide +kernel), List.mem_of_getElem? (i := 1262) (by decide +kernel), List.mem_of_getElem? (i := 1263) (by decide +kernel)⟩
theorem lw_p21 : lw_okq (⟨"PistekeeperModel", "isTested", "(I)Z"⟩, 7) := ⟨⟨by decide +kernel, by decide +kernel⟩, List.mem_of_getElem? (i := 834) (by decide +kernel), List.mem_of_getElem? (i := 1266) (by decide +kernel), List.mem_of_getElem? (i := 1267) (by decide +kernel)⟩
theorem lw_p22 : lw_okq (⟨"PistekeeperModel", "barsBelow", "(IZIZ)I"⟩, 7) := ⟨⟨by decide +kernel, by decide +kernel⟩, List.mem_of_getElem? (i := 834) (by decide +kernel), List.mem_of_getElem? (i := 1270) (by decide +kernel), List.mem_of_getElem? (i := 1271) (by decide +kernel)⟩
theorem lw_p23 : lw_okq (⟨"PistekeeperModel", "ofRunNow", "(II)I"⟩, 7) := ⟨⟨by decide +kernel, by decide +kernel⟩, List.mem_of_getElem? (i := 834) (by decide +kernel), List.mem_of_getElem? (i := 1283) (by decide +kernel), List.mem_of_getElem? (i := 1284) (by decide +kernel)⟩
theorem lw_p24 : lw_okq (⟨"PistekeeperModel", "ofLiftNow", "(II)I"⟩, 7) := ⟨⟨by decide +kernel, by decide +kernel⟩, List.mem_of_getElem? (i := 834) (by decide +kernel), List.mem_of_getElem? (i := 1295) (by decide +kernel), List.mem_of_getElem? (i := 1296) (by decide +kernel)⟩
theorem lw_p25 : lw_okq (⟨"PistekeeperModel", "manyNow", "(I)I"⟩, 7) := ⟨⟨by decide +kernel, by decide +kernel⟩, List.mem_of_getElem? (i := 834) (by decide +kernel), List.mem_of_getElem? (i := 1304) (by decide +kernel), List.mem_of_getElem? (i := 1305) (by decide +kernel)⟩
theorem lw_p26 : lw_okq (⟨"PistekeeperModel", "riskNow", "(IIII)I"⟩, 7) := ⟨⟨by decide +kernel, by decide +kernel⟩, List.mem_of_getElem? (i := 834) (by decide +kernel), List.mem_of_getElem? (i := 1321) (by decide +kernel), List.mem_of_getElem? (i := 1322) (by decide +kernel)⟩
theorem lw_p27 : lw_okq (⟨"PistekeeperModel", "makeNow", "(IIII)I"⟩, 7) := ⟨⟨by decide +kernel, by decide +kernel⟩, List.mem_of_getElem? (i := 834) (by decide +kernel), List.mem_of_getElem? (i := 1342) (by decide +kernel), List.mem_of_getElem? (i := 1343) (by decide +kernel)⟩
theorem lw_p28 : lw_okq (⟨"PistekeeperModel", "depthWith", "(IIIII)I"⟩, 7) := ⟨⟨by decide +kernel, by decide +kernel⟩, List.mem_of_getElem? (i := 834) (by decide +kernel), List.mem_of_getElem? (i := 1346) (by decide +kernel), List.mem_of_getElem? (i := 1347) (by decide +kernel)⟩
theorem lw_p29 : lw_okq (⟨"PistekeeperModel", "nextNow", "()I"⟩, 7) := ⟨⟨by decide +kernel, by decide +kernel⟩, List.mem_of_getElem? (i := 834) (by decide +kernel), List.mem_of_getElem? (i := 1354) (by decide +kernel), List.mem_of_getElem? (i := 1355) (by decide +kernel)⟩
theorem lw_p30 : lw_okq (⟨"PistekeeperModel", "couldNow", "()I"⟩, 7) := ⟨⟨by decide +kernel, by decide +kernel⟩, List.mem_of_getElem? (i := 834) (by decide +kernel), List.mem_of_getElem? (i := 1363) (by decide +kernel), List.mem_of_getElem? (i := 1364) (by decide +kernel)⟩
theorem lw_p31 : lw_okq (⟨"PistekeeperModel", "add", "(I)V"⟩, 7) := ⟨⟨by decide +kernel, by decide +kernel⟩, List.mem_of_getElem? (i := 834) (by decide +kernel), List.mem_of_getElem? (i := 1372) (by decide +kernel), List.mem_of_getElem? (i := 1373) (by decide +kernel)⟩
def lw_privs_2 : List (MethodName × Nat) := [(⟨"PistekeeperModel$Mountain", "ride", "()V"⟩, 12), (⟨"PistekeeperModel$Mountain", "ski", "([II)V"⟩, 12), (⟨"PistekeeperModel", "isOpen", "(I)Z"⟩, 7), (⟨"PistekeeperModel", "tells", "(I)I"⟩, 7), (⟨"PistekeeperModel", "bars", "(I)I"⟩, 7), (⟨"PistekeeperModel", "isTested", "(I)Z"⟩, 7), (⟨"PistekeeperModel", "barsBelow", "(IZIZ)I"⟩, 7), (⟨"PistekeeperModel", "ofRunNow", "(II)I"⟩, 7), (⟨"PistekeeperModel", "ofLiftNow", "(II)I"⟩, 7), (⟨"PistekeeperModel", "manyNow", "(I)I"⟩, 7), (⟨"PistekeeperModel", "riskNow", "(IIII)I"⟩, 7), (⟨"PistekeeperModel", "makeNow", "(IIII)I"⟩, 7), (⟨"PistekeeperModel", "depthWith", "(IIIII)I"⟩, 7), (⟨"PistekeeperModel", "nextNow", "()I"⟩, 7), (⟨"PistekeeperModel", "couldNow", "()I"⟩, 7), (⟨"PistekeeperModel", "add", "(I)V"⟩, 7)]
theorem lw_r2 : ∀ q ∈ lw_privs_2, lw_okq q := List.forall_mem_cons.mpr ⟨lw_p16, List.forall_mem_cons.mpr ⟨lw_p17, List.forall_mem_cons.mpr ⟨lw_p18, List.forall_mem_cons.mpr ⟨lw_p19, List.forall_mem_cons.mpr ⟨lw_p20, List.forall_mem_cons.mpr ⟨lw_p21, List.forall_mem_cons.mpr ⟨lw_p22, List.forall_mem_cons.mpr ⟨lw_p23, List.forall_mem_cons.mpr ⟨lw_p24, List.forall_mem_cons.mpr ⟨lw_p25, List.forall_mem_cons.mpr ⟨lw_p26, List.forall_mem_cons.mpr ⟨lw_p27, List.forall_mem_cons.mpr ⟨lw_p28, List.forall_mem_cons.mpr ⟨lw_p29, List.forall_mem_cons.mpr ⟨lw_p30, List.forall_mem_cons.mpr ⟨lw_p31, fun _ h => absurd h List.not_mem_nil⟩⟩⟩⟩⟩⟩⟩⟩⟩⟩⟩⟩⟩⟩⟩⟩
def lw_privs : List (MethodName × Nat) := lw_privs_1 ++ (lw_privs_2)
def lw_tbl : List Cond := k2_sels lw_privs ++ tables_1
theorem lw_privs_ok : ∀ q ∈ lw_privs, lw_okq q := by
  show ∀ q ∈ lw_privs_1 ++ (lw_privs_2), lw_okq q
  exact List.forall_mem_append.mpr ⟨lw_r1, lw_r2⟩
/-- the streams that the claim lets the run draw from -/
abbrev lw_cs : List Choice := [Jvm.Choice.named "NaN.bits"]
theorem lw_bits : nanBits ∈ lw_cs := by first | decide | exact List.mem_cons_self | simp [lw_cs, nanBits]
def RX0 : String := "Pistekeeper$Lift"
def TX0 : u_T := fun k => match k with
  | 0 => ("Pistekeeper$Lift", "capacity", "I", false)
  | 1 => ("Pistekeeper$Lift", "limit", "I", false)
  | 2 => ("Pistekeeper$Lift", "isOn", "Z", false)
  | 3 => ("Pistekeeper$Lift", "isHeld", "Z", false)
  | _ => ("Pistekeeper$Lift", "rides", "I", false)
def tyX0 : Nat → FieldType := fun k => match k with
  | 0 => .int
  | 1 => .int
  | 2 => .boolean
  | 3 => .boolean
  | _ => .int
abbrev wsX00 : List Cond := u_ws RX0 TX0 5
theorem nmX0 : ∀ a, a < 5 → ∀ b, b < 5 → a ≠ b → (TX0 a).2.1 ≠ (TX0 b).2.1 := by decide +kernel
theorem tyX0_ok : ∀ k, k < 5 → parseFieldDescriptor (TX0 k).2.2.1 = some (tyX0 k) := by decide +kernel
abbrev cX0_init : ByteArray := prog_2_method_1_code
def yX0_init : MethodName := ⟨RX0, "<init>", "()V"⟩
abbrev cX0_become : ByteArray := prog_2_method_2_code
def yX0_become : MethodName := ⟨RX0, "become", "(LPistekeeper$Lift;)V"⟩
abbrev cX0_isMoving : ByteArray := prog_2_method_3_code
def yX0_isMoving : MethodName := ⟨RX0, "isMoving", "()Z"⟩
def RX1 : String := "Pistekeeper$Mountain"
def TX1 : u_T := fun k => match k with
  | 0 => ("Pistekeeper$Mountain", "lifts", "[LPistekeeper$Lift;", true)
  | 1 => ("Pistekeeper$Mountain", "runs", "[LPistekeeper$Run;", true)
  | 2 => ("Pistekeeper$Mountain", "liftCount", "I", false)
  | 3 => ("Pistekeeper$Mountain", "runCount", "I", false)
  | 4 => ("Pistekeeper$Mountain", "now", "I", false)
  | 5 => ("Pistekeeper$Mountain", "latestWind", "I", false)
  | 6 => ("Pistekeeper$Mountain", "water", "I", false)
  | 7 => ("Pistekeeper$Mountain", "charges", "I", false)
  | 8 => ("Pistekeeper$Mountain", "fuel", "I", false)
  | 9 => ("Pistekeeper$Mountain", "skiers", "I", false)
  | 10 => ("Pistekeeper$Mountain", "slides", "I", false)
  | 11 => ("Pistekeeper$Mountain", "reached", "I", false)
  | 12 => ("Pistekeeper$Mountain", "accidents", "I", false)
  | 13 => ("Pistekeeper$Mountain", "calls", "I", false)
  | 14 => ("Pistekeeper$Mountain", "rides", "I", false)
  | _ => ("Pistekeeper$Mountain", "waited", "I", false)
def tyX1 : Nat → FieldType := fun k => match k with
  | 0 => .array (.object "Pistekeeper$Lift")
  | 1 => .array (.object "Pistekeeper$Run")
  | 2 => .int
  | 3 => .int
  | 4 => .int
  | 5 => .int
  | 6 => .int
  | 7 => .int
  | 8 => .int
  | 9 => .int
  | 10 => .int
  | 11 => .int
  | 12 => .int
  | 13 => .int
  | 14 => .int
  | _ => .int
abbrev wsX10 : List Cond := u_ws RX1 TX1 16
theorem nmX1 : ∀ a, a < 16 → ∀ b, b < 16 → a ≠ b → (TX1 a).2.1 ≠ (TX1 b).2.1 := by decide +kernel
theorem tyX1_ok : ∀ k, k < 16 → parseFieldDescriptor (TX1 k).2.2.1 = some (tyX1 k) := by decide +kernel
abbrev cX1_init : ByteArray := prog_3_method_1_code
def yX1_init : MethodName := ⟨RX1, "<init>", "()V"⟩
abbrev cX1_become : ByteArray := prog_3_method_2_code
def yX1_become : MethodName := ⟨RX1, "become", "(LPistekeeper$Mountain;)V"⟩
abbrev cX1_removeGuns : ByteArray := prog_3_method_3_code
def yX1_removeGuns : MethodName := ⟨RX1, "removeGuns", "()V"⟩
abbrev cX1_clock : ByteArray := prog_3_method_4_code
def yX1_clock : MethodName := ⟨RX1, "clock", "()I"⟩
abbrev cX1_openRuns : ByteArray := prog_3_method_5_code
def yX1_openRuns : MethodName := ⟨RX1, "openRuns", "()I"⟩
abbrev cX1_openRunsOf : ByteArray := prog_3_method_6_code
def yX1_openRunsOf : MethodName := ⟨RX1, "openRunsOf", "(I)I"⟩
abbrev cX1_depthByArea : ByteArray := prog_3_method_7_code
def yX1_depthByArea : MethodName := ⟨RX1, "depthByArea", "()I"⟩
abbrev cX1_wholeArea : ByteArray := prog_3_method_8_code
def yX1_wholeArea : MethodName := ⟨RX1, "wholeArea", "()I"⟩
abbrev cX1_isTested : ByteArray := prog_3_method_9_code
def yX1_isTested : MethodName := ⟨RX1, "isTested", "(LPistekeeper$Run;)Z"⟩
abbrev cX1_wouldTell : ByteArray := prog_3_method_10_code
def yX1_wouldTell : MethodName := ⟨RX1, "wouldTell", "(ILPistekeeper$Run;)I"⟩
abbrev cX1_barNow : ByteArray := prog_3_method_11_code
def yX1_barNow : MethodName := ⟨RX1, "barNow", "(LPistekeeper$Run;)I"⟩
abbrev cX1_bar : ByteArray := prog_3_method_12_code
def yX1_bar : MethodName := ⟨RX1, "bar", "(LPistekeeper$Run;ZIZ)I"⟩
abbrev cX1_slideOn : ByteArray := prog_3_method_13_code
def yX1_slideOn : MethodName := ⟨RX1, "slideOn", "(LPistekeeper$Run;)I"⟩
abbrev cX1_passHour : ByteArray := prog_3_method_14_code
def yX1_passHour : MethodName := ⟨RX1, "passHour", "(LPistekeeper$Weather;)V"⟩
abbrev cX1_holdLifts : ByteArray := prog_3_method_15_code
def yX1_holdLifts : MethodName := ⟨RX1, "holdLifts", "(I)V"⟩
abbrev cX1_makeSnow : ByteArray := prog_3_method_16_code
def yX1_makeSnow : MethodName := ⟨RX1, "makeSnow", "(LPistekeeper$Run;I)V"⟩
abbrev cX1_carrySkiers : ByteArray := prog_3_method_17_code
def yX1_carrySkiers : MethodName := ⟨RX1, "carrySkiers", "()V"⟩
abbrev cX1_shareOut : ByteArray := prog_3_method_18_code
def yX1_shareOut : MethodName := ⟨RX1, "shareOut", "(III)V"⟩
abbrev cX1_skiOn : ByteArray := prog_3_method_19_code
def yX1_skiOn : MethodName := ⟨RX1, "skiOn", "(LPistekeeper$Run;I)V"⟩
def RX2 : String := "Pistekeeper$Run"
def TX2 : u_T := fun k => match k with
  | 0 => ("Pistekeeper$Run", "snow", "LPistekeeper$Snow;", true)
  | 1 => ("Pistekeeper$Run", "lift", "I", false)
  | 2 => ("Pistekeeper$Run", "height", "I", false)
  | 3 => ("Pistekeeper$Run", "slope", "I", false)
  | 4 => ("Pistekeeper$Run", "aspect", "I", false)
  | 5 => ("Pistekeeper$Run", "area", "I", false)
  | 6 => ("Pistekeeper$Run", "guns", "I", false)
  | 7 => ("Pistekeeper$Run", "heap", "I", false)
  | 8 => ("Pistekeeper$Run", "used", "I", false)
  | 9 => ("Pistekeeper$Run", "slides", "I", false)
  | 10 => ("Pistekeeper$Run", "duds", "I", false)
  | 11 => ("Pistekeeper$Run", "told", "I", false)
  | 12 => ("Pistekeeper$Run", "testedUntil", "I", false)
  | 13 => ("Pistekeeper$Run", "openSince", "I", false)
  | 14 => ("Pistekeeper$Run", "latestRisk", "I", false)
  | 15 => ("Pistekeeper$Run", "isOpen", "Z", false)
  | 16 => ("Pistekeeper$Run", "isWinched", "Z", false)
  | _ => ("Pistekeeper$Run", "isSwept", "Z", false)
def tyX2 : Nat → FieldType := fun k => match k with
  | 0 => .object "Pistekeeper$Snow"
  | 1 => .int
  | 2 => .int
  | 3 => .int
  | 4 => .int
  | 5 => .int
  | 6 => .int
  | 7 => .int
  | 8 => .int
  | 9 => .int
  | 10 => .int
  | 11 => .int
  | 12 => .int
  | 13 => .int
  | 14 => .int
  | 15 => .boolean
  | 16 => .boolean
  | _ => .boolean
abbrev wsX20 : List Cond := u_ws RX2 TX2 18
theorem nmX2 : ∀ a, a < 18 → ∀ b, b < 18 → a ≠ b → (TX2 a).2.1 ≠ (TX2 b).2.1 := by decide +kernel
theorem tyX2_ok : ∀ k, k < 18 → parseFieldDescriptor (TX2 k).2.2.1 = some (tyX2 k) := by decide +kernel
abbrev cX2_init : ByteArray := prog_4_method_1_code
def yX2_init : MethodName := ⟨RX2, "<init>", "()V"⟩
abbrev cX2_become : ByteArray := prog_4_method_2_code
def yX2_become : MethodName := ⟨RX2, "become", "(LPistekeeper$Run;)V"⟩
abbrev cX2_risk : ByteArray := prog_4_method_3_code
def yX2_risk : MethodName := ⟨RX2, "risk", "()I"⟩
abbrev cX2_shear : ByteArray := prog_4_method_4_code
def yX2_shear : MethodName := ⟨RX2, "shear", "()I"⟩
abbrev cX2_sizeFrom : ByteArray := prog_4_method_5_code
def yX2_sizeFrom : MethodName := ⟨RX2, "sizeFrom", "(I)I"⟩
abbrev cX2_weatherSnow : ByteArray := prog_4_method_6_code
def yX2_weatherSnow : MethodName := ⟨RX2, "weatherSnow", "(LPistekeeper$Weather;II)V"⟩
def RX3 : String := "Pistekeeper$Snow"
def TX3 : u_T := fun k => match k with
  | 0 => ("Pistekeeper$Snow", "depth", "[I", true)
  | 1 => ("Pistekeeper$Snow", "hardness", "[I", true)
  | 2 => ("Pistekeeper$Snow", "kind", "[I", true)
  | 3 => ("Pistekeeper$Snow", "count", "I", false)
  | 4 => ("Pistekeeper$Snow", "isWet", "Z", false)
  | _ => ("Pistekeeper$Snow", "hasSnowed", "Z", false)
def tyX3 : Nat → FieldType := fun k => match k with
  | 0 => .array .int
  | 1 => .array .int
  | 2 => .array .int
  | 3 => .int
  | 4 => .boolean
  | _ => .boolean
abbrev wsX30 : List Cond := u_ws RX3 TX3 6
theorem nmX3 : ∀ a, a < 6 → ∀ b, b < 6 → a ≠ b → (TX3 a).2.1 ≠ (TX3 b).2.1 := by decide +kernel
theorem tyX3_ok : ∀ k, k < 6 → parseFieldDescriptor (TX3 k).2.2.1 = some (tyX3 k) := by decide +kernel
abbrev cX3_init : ByteArray := prog_5_method_1_code
def yX3_init : MethodName := ⟨RX3, "<init>", "()V"⟩
abbrev cX3_become : ByteArray := prog_5_method_2_code
def yX3_become : MethodName := ⟨RX3, "become", "(LPistekeeper$Snow;)V"⟩
abbrev cX3_topIs : ByteArray := prog_5_method_3_code
def yX3_topIs : MethodName := ⟨RX3, "topIs", "(I)Z"⟩
abbrev cX3_wholeDepth : ByteArray := prog_5_method_4_code
def yX3_wholeDepth : MethodName := ⟨RX3, "wholeDepth", "()I"⟩
abbrev cX3_depthFrom : ByteArray := prog_5_method_5_code
def yX3_depthFrom : MethodName := ⟨RX3, "depthFrom", "(I)I"⟩
abbrev cX3_thicken : ByteArray := prog_5_method_6_code
def yX3_thicken : MethodName := ⟨RX3, "thicken", "(I)V"⟩
abbrev cX3_thin : ByteArray := prog_5_method_7_code
def yX3_thin : MethodName := ⟨RX3, "thin", "(I)V"⟩
abbrev cX3_melt : ByteArray := prog_5_method_8_code
def yX3_melt : MethodName := ⟨RX3, "melt", "(I)V"⟩
abbrev cX3_lay : ByteArray := prog_5_method_9_code
def yX3_lay : MethodName := ⟨RX3, "lay", "(III)V"⟩
abbrev cX3_joinLowest : ByteArray := prog_5_method_10_code
def yX3_joinLowest : MethodName := ⟨RX3, "joinLowest", "()V"⟩
abbrev cX3_changeTop : ByteArray := prog_5_method_11_code
def yX3_changeTop : MethodName := ⟨RX3, "changeTop", "(II)V"⟩
abbrev cX3_pressTop : ByteArray := prog_5_method_12_code
def yX3_pressTop : MethodName := ⟨RX3, "pressTop", "()I"⟩
abbrev cX3_stress : ByteArray := prog_5_method_13_code
def yX3_stress : MethodName := ⟨RX3, "stress", "(III)I"⟩
abbrev cX3_shear : ByteArray := prog_5_method_14_code
def yX3_shear : MethodName := ⟨RX3, "shear", "(I)I"⟩
abbrev cX3_risk : ByteArray := prog_5_method_15_code
def yX3_risk : MethodName := ⟨RX3, "risk", "(I)I"⟩
abbrev cX3_dropFrom : ByteArray := prog_5_method_16_code
def yX3_dropFrom : MethodName := ⟨RX3, "dropFrom", "(I)V"⟩
abbrev cX3_comeDown : ByteArray := prog_5_method_17_code
def yX3_comeDown : MethodName := ⟨RX3, "comeDown", "(II)V"⟩
abbrev cX3_drift : ByteArray := prog_5_method_18_code
def yX3_drift : MethodName := ⟨RX3, "drift", "(IZZ)V"⟩
abbrev cX3_freeze : ByteArray := prog_5_method_19_code
def yX3_freeze : MethodName := ⟨RX3, "freeze", "()V"⟩
abbrev cX3_growWeak : ByteArray := prog_5_method_20_code
def yX3_growWeak : MethodName := ⟨RX3, "growWeak", "()V"⟩
abbrev cX3_settle : ByteArray := prog_5_method_21_code
def yX3_settle : MethodName := ⟨RX3, "settle", "(Z)V"⟩
def RX4 : String := "Pistekeeper$Weather"
def TX4 : u_T := fun k => match k with
  | 0 => ("Pistekeeper$Weather", "warmth", "I", false)
  | 1 => ("Pistekeeper$Weather", "fall", "I", false)
  | 2 => ("Pistekeeper$Weather", "wind", "I", false)
  | 3 => ("Pistekeeper$Weather", "from", "I", false)
  | _ => ("Pistekeeper$Weather", "humid", "I", false)
def tyX4 : Nat → FieldType := fun k => match k with
  | 0 => .int
  | 1 => .int
  | 2 => .int
  | 3 => .int
  | _ => .int
abbrev wsX40 : List Cond := u_ws RX4 TX4 5
theorem nmX4 : ∀ a, a < 5 → ∀ b, b < 5 → a ≠ b → (TX4 a).2.1 ≠ (TX4 b).2.1 := by decide +kernel
theorem tyX4_ok : ∀ k, k < 5 → parseFieldDescriptor (TX4 k).2.2.1 = some (tyX4 k) := by decide +kernel
abbrev cX4_init : ByteArray := prog_6_method_1_code
def yX4_init : MethodName := ⟨RX4, "<init>", "()V"⟩
abbrev cX4_tell : ByteArray := prog_6_method_2_code
def yX4_tell : MethodName := ⟨RX4, "tell", "(IIIII)V"⟩
def RX5 : String := "Pistekeeper"
def TX5 : u_T := fun k => match k with
  | 0 => ("Pistekeeper", "mountain", "LPistekeeper$Mountain;", true)
  | 1 => ("Pistekeeper", "trial", "LPistekeeper$Mountain;", true)
  | 2 => ("Pistekeeper", "bare", "LPistekeeper$Mountain;", true)
  | _ => ("Pistekeeper", "weather", "LPistekeeper$Weather;", true)
def tyX5 : Nat → FieldType := fun k => match k with
  | 0 => .object "Pistekeeper$Mountain"
  | 1 => .object "Pistekeeper$Mountain"
  | 2 => .object "Pistekeeper$Mountain"
  | _ => .object "Pistekeeper$Weather"
abbrev wsX50 : List Cond := u_ws RX5 TX5 4
theorem nmX5 : ∀ a, a < 4 → ∀ b, b < 4 → a ≠ b → (TX5 a).2.1 ≠ (TX5 b).2.1 := by decide +kernel
theorem tyX5_ok : ∀ k, k < 4 → parseFieldDescriptor (TX5 k).2.2.1 = some (tyX5 k) := by decide +kernel
abbrev cX5_init : ByteArray := prog_1_method_1_code
def yX5_init : MethodName := ⟨RX5, "<init>", "()V"⟩
abbrev cX5_lift : ByteArray := prog_1_method_2_code
def yX5_lift : MethodName := ⟨RX5, "lift", "(II)I"⟩
abbrev cX5_run : ByteArray := prog_1_method_3_code
def yX5_run : MethodName := ⟨RX5, "run", "(IIIII)I"⟩
abbrev cX5_turn : ByteArray := prog_1_method_4_code
def yX5_turn : MethodName := ⟨RX5, "turn", "(IZ)Z"⟩
abbrev cX5_release : ByteArray := prog_1_method_5_code
def yX5_release : MethodName := ⟨RX5, "release", "(I)Z"⟩
abbrev cX5_guns : ByteArray := prog_1_method_6_code
def yX5_guns : MethodName := ⟨RX5, "guns", "(II)I"⟩
abbrev cX5_fill : ByteArray := prog_1_method_7_code
def yX5_fill : MethodName := ⟨RX5, "fill", "(I)I"⟩
abbrev cX5_crowd : ByteArray := prog_1_method_8_code
def yX5_crowd : MethodName := ⟨RX5, "crowd", "(I)I"⟩
abbrev cX5_pass : ByteArray := prog_1_method_9_code
def yX5_pass : MethodName := ⟨RX5, "pass", "(IIIIII)I"⟩
abbrev cX5_blast : ByteArray := prog_1_method_10_code
def yX5_blast : MethodName := ⟨RX5, "blast", "(I)I"⟩
abbrev cX5_search : ByteArray := prog_1_method_11_code
def yX5_search : MethodName := ⟨RX5, "search", "(I)I"⟩
abbrev cX5_test : ByteArray := prog_1_method_12_code
def yX5_test : MethodName := ⟨RX5, "test", "(I)I"⟩
abbrev cX5_sweep : ByteArray := prog_1_method_13_code
def yX5_sweep : MethodName := ⟨RX5, "sweep", "(I)Z"⟩
abbrev cX5_winch : ByteArray := prog_1_method_14_code
def yX5_winch : MethodName := ⟨RX5, "winch", "(IZ)Z"⟩
abbrev cX5_groom : ByteArray := prog_1_method_15_code
def yX5_groom : MethodName := ⟨RX5, "groom", "(I)I"⟩
abbrev cX5_open : ByteArray := prog_1_method_16_code
def yX5_open : MethodName := ⟨RX5, "open", "(I)I"⟩
abbrev cX5_close : ByteArray := prog_1_method_17_code
def yX5_close : MethodName := ⟨RX5, "close", "(I)I"⟩
abbrev cX5_ofRun : ByteArray := prog_1_method_18_code
def yX5_ofRun : MethodName := ⟨RX5, "ofRun", "(II)I"⟩
abbrev cX5_ofLayer : ByteArray := prog_1_method_19_code
def yX5_ofLayer : MethodName := ⟨RX5, "ofLayer", "(III)I"⟩
abbrev cX5_ofLift : ByteArray := prog_1_method_20_code
def yX5_ofLift : MethodName := ⟨RX5, "ofLift", "(II)I"⟩
abbrev cX5_many : ByteArray := prog_1_method_21_code
def yX5_many : MethodName := ⟨RX5, "many", "(I)I"⟩
abbrev cX5_meanDepth : ByteArray := prog_1_method_22_code
def yX5_meanDepth : MethodName := ⟨RX5, "meanDepth", "()D"⟩
abbrev cX5_wouldRisk : ByteArray := prog_1_method_23_code
def yX5_wouldRisk : MethodName := ⟨RX5, "wouldRisk", "(IIII)I"⟩
abbrev cX5_wouldMake : ByteArray := prog_1_method_24_code
def yX5_wouldMake : MethodName := ⟨RX5, "wouldMake", "(IIII)I"⟩
abbrev cX5_nextBlast : ByteArray := prog_1_method_25_code
def yX5_nextBlast : MethodName := ⟨RX5, "nextBlast", "()I"⟩
abbrev cX5_couldOpen : ByteArray := prog_1_method_26_code
def yX5_couldOpen : MethodName := ⟨RX5, "couldOpen", "()I"⟩
abbrev cX5_digest : ByteArray := prog_1_method_27_code
def yX5_digest : MethodName := ⟨RX5, "digest", "()J"⟩
abbrev cX5_digestLayers : ByteArray := prog_1_method_28_code
def yX5_digestLayers : MethodName := ⟨RX5, "digestLayers", "(JI)J"⟩
abbrev cX5_oneIf : ByteArray := prog_1_method_29_code
def yX5_oneIf : MethodName := ⟨RX5, "oneIf", "(Z)I"⟩
abbrev cX5_requireWithin : ByteArray := prog_1_method_30_code
def yX5_requireWithin : MethodName := ⟨RX5, "requireWithin", "(III)V"⟩
abbrev cX5_requireLift : ByteArray := prog_1_method_31_code
def yX5_requireLift : MethodName := ⟨RX5, "requireLift", "(I)V"⟩
abbrev cX5_requireRun : ByteArray := prog_1_method_32_code
def yX5_requireRun : MethodName := ⟨RX5, "requireRun", "(I)V"⟩
abbrev cX5_requireClosed : ByteArray := prog_1_method_33_code
def yX5_requireClosed : MethodName := ⟨RX5, "requireClosed", "(I)V"⟩
def RX6 : String := "PistekeeperModel$Mountain"
def TX6 : u_T := fun k => match k with
  | 0 => ("PistekeeperModel$Mountain", "lifts", "Ljava/util/ArrayList;", true)
  | 1 => ("PistekeeperModel$Mountain", "runs", "Ljava/util/ArrayList;", true)
  | 2 => ("PistekeeperModel$Mountain", "now", "I", false)
  | 3 => ("PistekeeperModel$Mountain", "water", "I", false)
  | 4 => ("PistekeeperModel$Mountain", "skiers", "I", false)
  | 5 => ("PistekeeperModel$Mountain", "slides", "I", false)
  | 6 => ("PistekeeperModel$Mountain", "reached", "I", false)
  | 7 => ("PistekeeperModel$Mountain", "accidents", "I", false)
  | 8 => ("PistekeeperModel$Mountain", "calls", "I", false)
  | 9 => ("PistekeeperModel$Mountain", "waited", "I", false)
  | 10 => ("PistekeeperModel$Mountain", "watched", "I", false)
  | _ => ("PistekeeperModel$Mountain", "greatest", "I", false)
def tyX6 : Nat → FieldType := fun k => match k with
  | 0 => .object "java/util/ArrayList"
  | 1 => .object "java/util/ArrayList"
  | 2 => .int
  | 3 => .int
  | 4 => .int
  | 5 => .int
  | 6 => .int
  | 7 => .int
  | 8 => .int
  | 9 => .int
  | 10 => .int
  | _ => .int
abbrev wsX60 : List Cond := u_ws RX6 TX6 12
theorem nmX6 : ∀ a, a < 12 → ∀ b, b < 12 → a ≠ b → (TX6 a).2.1 ≠ (TX6 b).2.1 := by decide +kernel
theorem tyX6_ok : ∀ k, k < 12 → parseFieldDescriptor (TX6 k).2.2.1 = some (tyX6 k) := by decide +kernel
abbrev cX6_init : ByteArray := prog_9_method_1_code
def yX6_init : MethodName := ⟨RX6, "<init>", "()V"⟩
abbrev cX6_copy : ByteArray := prog_9_method_2_code
def yX6_copy : MethodName := ⟨RX6, "copy", "()LPistekeeperModel$Mountain;"⟩
abbrev cX6_slide : ByteArray := prog_9_method_3_code
def yX6_slide : MethodName := ⟨RX6, "slide", "([I)I"⟩
abbrev cX6_close : ByteArray := prog_9_method_4_code
def yX6_close : MethodName := ⟨RX6, "close", "([I)V"⟩
abbrev cX6_pass : ByteArray := prog_9_method_5_code
def yX6_pass : MethodName := ⟨RX6, "pass", "(IIIII)I"⟩
abbrev cX6_pass_ : ByteArray := prog_9_method_6_code
def yX6_pass_ : MethodName := ⟨RX6, "pass", "(IIIIII)V"⟩
abbrev cX6_melt : ByteArray := prog_9_method_7_code
def yX6_melt : MethodName := ⟨RX6, "melt", "([II)V"⟩
abbrev cX6_blow : ByteArray := prog_9_method_8_code
def yX6_blow : MethodName := ⟨RX6, "blow", "([III)V"⟩
abbrev cX6_make : ByteArray := prog_9_method_9_code
def yX6_make : MethodName := ⟨RX6, "make", "([II)V"⟩
abbrev cX6_opened : ByteArray := prog_9_method_10_code
def yX6_opened : MethodName := ⟨RX6, "opened", "(I)I"⟩
abbrev cX6_ride : ByteArray := prog_9_method_11_code
def yX6_ride : MethodName := ⟨RX6, "ride", "()V"⟩
abbrev cX6_ski : ByteArray := prog_9_method_12_code
def yX6_ski : MethodName := ⟨RX6, "ski", "([II)V"⟩
def RX7 : String := "PistekeeperModel"
def TX7 : u_T := fun k => match k with
  | 0 => ("PistekeeperModel", "thrown", "I", false)
  | 1 => ("PistekeeperModel", "mountain", "LPistekeeperModel$Mountain;", true)
  | 2 => ("PistekeeperModel", "charges", "I", false)
  | 3 => ("PistekeeperModel", "blasts", "I", false)
  | 4 => ("PistekeeperModel", "fuel", "I", false)
  | 5 => ("PistekeeperModel", "latestWind", "I", false)
  | _ => ("PistekeeperModel", "sum", "J", false)
def tyX7 : Nat → FieldType := fun k => match k with
  | 0 => .int
  | 1 => .object "PistekeeperModel$Mountain"
  | 2 => .int
  | 3 => .int
  | 4 => .int
  | 5 => .int
  | _ => .long
abbrev wsX70 : List Cond := u_ws RX7 TX7 7
theorem nmX7 : ∀ a, a < 7 → ∀ b, b < 7 → a ≠ b → (TX7 a).2.1 ≠ (TX7 b).2.1 := by decide +kernel
theorem tyX7_ok : ∀ k, k < 7 → parseFieldDescriptor (TX7 k).2.2.1 = some (tyX7 k) := by decide +kernel
abbrev cX7_init : ByteArray := prog_8_method_1_code
def yX7_init : MethodName := ⟨RX7, "<init>", "()V"⟩
abbrev cX7_thrown : ByteArray := prog_8_method_2_code
def yX7_thrown : MethodName := ⟨RX7, "thrown", "()I"⟩
abbrev cX7_refuse : ByteArray := prog_8_method_3_code
def yX7_refuse : MethodName := ⟨RX7, "refuse", "(I)I"⟩
abbrev cX7_is : ByteArray := prog_8_method_4_code
def yX7_is : MethodName := ⟨RX7, "is", "(III)Z"⟩
abbrev cX7_at : ByteArray := prog_8_method_5_code
def yX7_at : MethodName := ⟨RX7, "at", "([III)I"⟩
abbrev cX7_set : ByteArray := prog_8_method_6_code
def yX7_set : MethodName := ⟨RX7, "set", "([IIII)V"⟩
abbrev cX7_top : ByteArray := prog_8_method_7_code
def yX7_top : MethodName := ⟨RX7, "top", "([I)I"⟩
abbrev cX7_isTop : ByteArray := prog_8_method_8_code
def yX7_isTop : MethodName := ⟨RX7, "isTop", "([II)Z"⟩
abbrev cX7_put : ByteArray := prog_8_method_9_code
def yX7_put : MethodName := ⟨RX7, "put", "([IIIII)V"⟩
abbrev cX7_add : ByteArray := prog_8_method_10_code
def yX7_add : MethodName := ⟨RX7, "add", "([IIII)V"⟩
abbrev cX7_deepen : ByteArray := prog_8_method_11_code
def yX7_deepen : MethodName := ⟨RX7, "deepen", "([II)V"⟩
abbrev cX7_take : ByteArray := prog_8_method_12_code
def yX7_take : MethodName := ⟨RX7, "take", "([II)V"⟩
abbrev cX7_drop : ByteArray := prog_8_method_13_code
def yX7_drop : MethodName := ⟨RX7, "drop", "([II)V"⟩
abbrev cX7_depth : ByteArray := prog_8_method_14_code
def yX7_depth : MethodName := ⟨RX7, "depth", "([II)I"⟩
abbrev cX7_strain : ByteArray := prog_8_method_15_code
def yX7_strain : MethodName := ⟨RX7, "strain", "([II)I"⟩
abbrev cX7_shear : ByteArray := prog_8_method_16_code
def yX7_shear : MethodName := ⟨RX7, "shear", "([I)I"⟩
abbrev cX7_risk : ByteArray := prog_8_method_17_code
def yX7_risk : MethodName := ⟨RX7, "risk", "([I)I"⟩
abbrev cX7_size : ByteArray := prog_8_method_18_code
def yX7_size : MethodName := ⟨RX7, "size", "([I)I"⟩
abbrev cX7_isLift : ByteArray := prog_8_method_19_code
def yX7_isLift : MethodName := ⟨RX7, "isLift", "(I)Z"⟩
abbrev cX7_isRun : ByteArray := prog_8_method_20_code
def yX7_isRun : MethodName := ⟨RX7, "isRun", "(I)Z"⟩
abbrev cX7_runAt : ByteArray := prog_8_method_21_code
def yX7_runAt : MethodName := ⟨RX7, "runAt", "(I)[I"⟩
abbrev cX7_isOpen : ByteArray := prog_8_method_22_code
def yX7_isOpen : MethodName := ⟨RX7, "isOpen", "(I)Z"⟩
abbrev cX7_lift : ByteArray := prog_8_method_23_code
def yX7_lift : MethodName := ⟨RX7, "lift", "(II)I"⟩
abbrev cX7_run : ByteArray := prog_8_method_24_code
def yX7_run : MethodName := ⟨RX7, "run", "(IIIII)I"⟩
abbrev cX7_turn : ByteArray := prog_8_method_25_code
def yX7_turn : MethodName := ⟨RX7, "turn", "(IZ)Z"⟩
abbrev cX7_release : ByteArray := prog_8_method_26_code
def yX7_release : MethodName := ⟨RX7, "release", "(I)Z"⟩
abbrev cX7_guns : ByteArray := prog_8_method_27_code
def yX7_guns : MethodName := ⟨RX7, "guns", "(II)I"⟩
abbrev cX7_fill : ByteArray := prog_8_method_28_code
def yX7_fill : MethodName := ⟨RX7, "fill", "(I)I"⟩
abbrev cX7_crowd : ByteArray := prog_8_method_29_code
def yX7_crowd : MethodName := ⟨RX7, "crowd", "(I)I"⟩
abbrev cX7_areHours : ByteArray := prog_8_method_30_code
def yX7_areHours : MethodName := ⟨RX7, "areHours", "(I)Z"⟩
abbrev cX7_isWarmth : ByteArray := prog_8_method_31_code
def yX7_isWarmth : MethodName := ⟨RX7, "isWarmth", "(I)Z"⟩
abbrev cX7_pass : ByteArray := prog_8_method_32_code
def yX7_pass : MethodName := ⟨RX7, "pass", "(IIIIII)I"⟩
abbrev cX7_blast : ByteArray := prog_8_method_33_code
def yX7_blast : MethodName := ⟨RX7, "blast", "(I)I"⟩
abbrev cX7_search : ByteArray := prog_8_method_34_code
def yX7_search : MethodName := ⟨RX7, "search", "(I)I"⟩
abbrev cX7_tells : ByteArray := prog_8_method_35_code
def yX7_tells : MethodName := ⟨RX7, "tells", "(I)I"⟩
abbrev cX7_test : ByteArray := prog_8_method_36_code
def yX7_test : MethodName := ⟨RX7, "test", "(I)I"⟩
abbrev cX7_sweep : ByteArray := prog_8_method_37_code
def yX7_sweep : MethodName := ⟨RX7, "sweep", "(I)Z"⟩
abbrev cX7_winch : ByteArray := prog_8_method_38_code
def yX7_winch : MethodName := ⟨RX7, "winch", "(IZ)Z"⟩
abbrev cX7_groom : ByteArray := prog_8_method_39_code
def yX7_groom : MethodName := ⟨RX7, "groom", "(I)I"⟩
abbrev cX7_isTested : ByteArray := prog_8_method_40_code
def yX7_isTested : MethodName := ⟨RX7, "isTested", "(I)Z"⟩
abbrev cX7_barsBelow : ByteArray := prog_8_method_41_code
def yX7_barsBelow : MethodName := ⟨RX7, "barsBelow", "(IZIZ)I"⟩
abbrev cX7_bars : ByteArray := prog_8_method_42_code
def yX7_bars : MethodName := ⟨RX7, "bars", "(I)I"⟩
abbrev cX7_open : ByteArray := prog_8_method_43_code
def yX7_open : MethodName := ⟨RX7, "open", "(I)I"⟩
abbrev cX7_close : ByteArray := prog_8_method_44_code
def yX7_close : MethodName := ⟨RX7, "close", "(I)I"⟩
abbrev cX7_ofRunNow : ByteArray := prog_8_method_45_code
def yX7_ofRunNow : MethodName := ⟨RX7, "ofRunNow", "(II)I"⟩
abbrev cX7_ofRun : ByteArray := prog_8_method_46_code
def yX7_ofRun : MethodName := ⟨RX7, "ofRun", "(II)I"⟩
abbrev cX7_ofLayer : ByteArray := prog_8_method_47_code
def yX7_ofLayer : MethodName := ⟨RX7, "ofLayer", "(III)I"⟩
abbrev cX7_ofLiftNow : ByteArray := prog_8_method_48_code
def yX7_ofLiftNow : MethodName := ⟨RX7, "ofLiftNow", "(II)I"⟩
abbrev cX7_ofLift : ByteArray := prog_8_method_49_code
def yX7_ofLift : MethodName := ⟨RX7, "ofLift", "(II)I"⟩
abbrev cX7_manyNow : ByteArray := prog_8_method_50_code
def yX7_manyNow : MethodName := ⟨RX7, "manyNow", "(I)I"⟩
abbrev cX7_many : ByteArray := prog_8_method_51_code
def yX7_many : MethodName := ⟨RX7, "many", "(I)I"⟩
abbrev cX7_meanDepth : ByteArray := prog_8_method_52_code
def yX7_meanDepth : MethodName := ⟨RX7, "meanDepth", "()D"⟩
abbrev cX7_riskNow : ByteArray := prog_8_method_53_code
def yX7_riskNow : MethodName := ⟨RX7, "riskNow", "(IIII)I"⟩
abbrev cX7_wouldRisk : ByteArray := prog_8_method_54_code
def yX7_wouldRisk : MethodName := ⟨RX7, "wouldRisk", "(IIII)I"⟩
abbrev cX7_depthWith : ByteArray := prog_8_method_55_code
def yX7_depthWith : MethodName := ⟨RX7, "depthWith", "(IIIII)I"⟩
abbrev cX7_makeNow : ByteArray := prog_8_method_56_code
def yX7_makeNow : MethodName := ⟨RX7, "makeNow", "(IIII)I"⟩
abbrev cX7_wouldMake : ByteArray := prog_8_method_57_code
def yX7_wouldMake : MethodName := ⟨RX7, "wouldMake", "(IIII)I"⟩
abbrev cX7_nextNow : ByteArray := prog_8_method_58_code
def yX7_nextNow : MethodName := ⟨RX7, "nextNow", "()I"⟩
abbrev cX7_nextBlast : ByteArray := prog_8_method_59_code
def yX7_nextBlast : MethodName := ⟨RX7, "nextBlast", "()I"⟩
abbrev cX7_couldNow : ByteArray := prog_8_method_60_code
def yX7_couldNow : MethodName := ⟨RX7, "couldNow", "()I"⟩
abbrev cX7_couldOpen : ByteArray := prog_8_method_61_code
def yX7_couldOpen : MethodName := ⟨RX7, "couldOpen", "()I"⟩
abbrev cX7_add_ : ByteArray := prog_8_method_62_code
def yX7_add_ : MethodName := ⟨RX7, "add", "(I)V"⟩
abbrev cX7_digest : ByteArray := prog_8_method_63_code
def yX7_digest : MethodName := ⟨RX7, "digest", "()J"⟩
def RJx145de : String := "java/io/Serializable"
def TJx145de : u_T := fun k => match k with
  | _ => ("", "", "", false)
def tyJx145de : Nat → FieldType := fun k => match k with
  | _ => .int
abbrev wsJx145de0 : List Cond := u_ws RJx145de TJx145de 0
theorem nmJx145de : ∀ a, a < 0 → ∀ b, b < 0 → a ≠ b → (TJx145de a).2.1 ≠ (TJx145de b).2.1 := by decide +kernel
theorem tyJx145de_ok : ∀ k, k < 0 → parseFieldDescriptor (TJx145de k).2.2.1 = some (tyJx145de k) := by decide +kernel
def RJx8e188 : String := "java/lang/Cloneable"
def TJx8e188 : u_T := fun k => match k with
  | _ => ("", "", "", false)
def tyJx8e188 : Nat → FieldType := fun k => match k with
  | _ => .int
abbrev wsJx8e1880 : List Cond := u_ws RJx8e188 TJx8e188 0
theorem nmJx8e188 : ∀ a, a < 0 → ∀ b, b < 0 → a ≠ b → (TJx8e188 a).2.1 ≠ (TJx8e188 b).2.1 := by decide +kernel
theorem tyJx8e188_ok : ∀ k, k < 0 → parseFieldDescriptor (TJx8e188 k).2.2.1 = some (tyJx8e188 k) := by decide +kernel
def RJxab1ab : String := "java/lang/Iterable"
def TJxab1ab : u_T := fun k => match k with
  | _ => ("", "", "", false)
def tyJxab1ab : Nat → FieldType := fun k => match k with
  | _ => .int
abbrev wsJxab1ab0 : List Cond := u_ws RJxab1ab TJxab1ab 0
theorem nmJxab1ab : ∀ a, a < 0 → ∀ b, b < 0 → a ≠ b → (TJxab1ab a).2.1 ≠ (TJxab1ab b).2.1 := by decide +kernel
theorem tyJxab1ab_ok : ∀ k, k < 0 → parseFieldDescriptor (TJxab1ab k).2.2.1 = some (tyJxab1ab k) := by decide +kernel
def RJ9 : String := "java/lang/Math"
def TJ9 : u_T := fun k => match k with
  | _ => ("", "", "", false)
def tyJ9 : Nat → FieldType := fun k => match k with
  | _ => .int
abbrev wsJ90 : List Cond := u_ws RJ9 TJ9 0
theorem nmJ9 : ∀ a, a < 0 → ∀ b, b < 0 → a ≠ b → (TJ9 a).2.1 ≠ (TJ9 b).2.1 := by decide +kernel
theorem tyJ9_ok : ∀ k, k < 0 → parseFieldDescriptor (TJ9 k).2.2.1 = some (tyJ9 k) := by decide +kernel
abbrev cJ9_max_7cf53 : ByteArray := prog_17_method_65_code
def yJ9_max_7cf53 : MethodName := ⟨RJ9, "max", "(II)I"⟩
abbrev cJ9_min_7cf53 : ByteArray := prog_17_method_69_code
def yJ9_min_7cf53 : MethodName := ⟨RJ9, "min", "(II)I"⟩
def RJ0 : String := "java/lang/String"
def TJ0 : u_T := fun k => match k with
  | _ => ("", "", "", false)
def tyJ0 : Nat → FieldType := fun k => match k with
  | _ => .int
abbrev wsJ00 : List Cond := u_ws RJ0 TJ0 0
theorem nmJ0 : ∀ a, a < 0 → ∀ b, b < 0 → a ≠ b → (TJ0 a).2.1 ≠ (TJ0 b).2.1 := by decide +kernel
theorem tyJ0_ok : ∀ k, k < 0 → parseFieldDescriptor (TJ0 k).2.2.1 = some (tyJ0 k) := by decide +kernel
def RJ10 : String := "java/lang/System"
def TJ10 : u_T := fun k => match k with
  | _ => ("", "", "", false)
def tyJ10 : Nat → FieldType := fun k => match k with
  | _ => .int
abbrev wsJ100 : List Cond := u_ws RJ10 TJ10 0
theorem nmJ10 : ∀ a, a < 0 → ∀ b, b < 0 → a ≠ b → (TJ10 a).2.1 ≠ (TJ10 b).2.1 := by decide +kernel
theorem tyJ10_ok : ∀ k, k < 0 → parseFieldDescriptor (TJ10 k).2.2.1 = some (tyJ10 k) := by decide +kernel
def RJxa1e45 : String := "java/util/AbstractCollection"
def TJxa1e45 : u_T := fun k => match k with
  | _ => ("", "", "", false)
def tyJxa1e45 : Nat → FieldType := fun k => match k with
  | _ => .int
abbrev wsJxa1e450 : List Cond := u_ws RJxa1e45 TJxa1e45 0
theorem nmJxa1e45 : ∀ a, a < 0 → ∀ b, b < 0 → a ≠ b → (TJxa1e45 a).2.1 ≠ (TJxa1e45 b).2.1 := by decide +kernel
theorem tyJxa1e45_ok : ∀ k, k < 0 → parseFieldDescriptor (TJxa1e45 k).2.2.1 = some (tyJxa1e45 k) := by decide +kernel
abbrev cJxa1e45_init_da8c8 : ByteArray := prog_22_method_1_code
def yJxa1e45_init_da8c8 : MethodName := ⟨RJxa1e45, "<init>", "()V"⟩
def RJxc12de : String := "java/util/AbstractList"
def TJxc12de : u_T := fun k => match k with
  | _ => ("", "", "", false)
def tyJxc12de : Nat → FieldType := fun k => match k with
  | _ => .int
abbrev wsJxc12de0 : List Cond := u_ws RJxc12de TJxc12de 0
theorem nmJxc12de : ∀ a, a < 0 → ∀ b, b < 0 → a ≠ b → (TJxc12de a).2.1 ≠ (TJxc12de b).2.1 := by decide +kernel
theorem tyJxc12de_ok : ∀ k, k < 0 → parseFieldDescriptor (TJxc12de k).2.2.1 = some (tyJxc12de k) := by decide +kernel
abbrev cJxc12de_init_da8c8 : ByteArray := prog_23_method_1_code
def yJxc12de_init_da8c8 : MethodName := ⟨RJxc12de, "<init>", "()V"⟩
def RJx35411 : String := "java/util/ArrayList$Itr"
def TJx35411 : u_T := fun k => match k with
  | 0 => ("java/util/ArrayList$Itr", "cursor", "I", false)
  | 1 => ("java/util/ArrayList$Itr", "lastRet", "I", false)
  | 2 => ("java/util/ArrayList$Itr", "expectedModCount", "I", false)
  | _ => ("java/util/ArrayList$Itr", "this$0", "Ljava/util/ArrayList;", true)
def tyJx35411 : Nat → FieldType := fun k => match k with
  | 0 => .int
  | 1 => .int
  | 2 => .int
  | _ => .object "java/util/ArrayList"
abbrev wsJx354110 : List Cond := u_ws RJx35411 TJx35411 4
theorem nmJx35411 : ∀ a, a < 4 → ∀ b, b < 4 → a ≠ b → (TJx35411 a).2.1 ≠ (TJx35411 b).2.1 := by decide +kernel
theorem tyJx35411_ok : ∀ k, k < 4 → parseFieldDescriptor (TJx35411 k).2.2.1 = some (tyJx35411 k) := by decide +kernel
abbrev cJx35411_init_45d68 : ByteArray := prog_25_method_1_code
def yJx35411_init_45d68 : MethodName := ⟨RJx35411, "<init>", "(Ljava/util/ArrayList;)V"⟩
abbrev cJx35411_hasNext_aae02 : ByteArray := prog_25_method_2_code
def yJx35411_hasNext_aae02 : MethodName := ⟨RJx35411, "hasNext", "()Z"⟩
abbrev cJx35411_next_0502b : ByteArray := prog_25_method_3_code
def yJx35411_next_0502b : MethodName := ⟨RJx35411, "next", "()Ljava/lang/Object;"⟩
abbrev cJx35411_checkForComodification_da8c8 : ByteArray := prog_25_method_6_code
def yJx35411_checkForComodification_da8c8 : MethodName := ⟨RJx35411, "checkForComodification", "()V"⟩
def RJx4a65c : String := "java/util/ArrayList"
def TJx4a65c : u_T := fun k => match k with
  | 0 => ("java/util/AbstractList", "modCount", "I", false)
  | 1 => ("java/util/ArrayList", "elementData", "[Ljava/lang/Object;", false)
  | _ => ("java/util/ArrayList", "size", "I", false)
def tyJx4a65c : Nat → FieldType := fun k => match k with
  | 0 => .int
  | 1 => .array (.object "java/lang/Object")
  | _ => .int
abbrev wsJx4a65c0 : List Cond := u_ws RJx4a65c TJx4a65c 3
theorem nmJx4a65c : ∀ a, a < 3 → ∀ b, b < 3 → a ≠ b → (TJx4a65c a).2.1 ≠ (TJx4a65c b).2.1 := by decide +kernel
theorem tyJx4a65c_ok : ∀ k, k < 3 → parseFieldDescriptor (TJx4a65c k).2.2.1 = some (tyJx4a65c k) := by decide +kernel
abbrev cJx4a65c_init_da8c8 : ByteArray := prog_24_method_2_code
def yJx4a65c_init_da8c8 : MethodName := ⟨RJx4a65c, "<init>", "()V"⟩
abbrev cJx4a65c_grow_92f84 : ByteArray := prog_24_method_6_code
def yJx4a65c_grow_92f84 : MethodName := ⟨RJx4a65c, "grow", "(I)[Ljava/lang/Object;"⟩
abbrev cJx4a65c_grow_d5877 : ByteArray := prog_24_method_7_code
def yJx4a65c_grow_d5877 : MethodName := ⟨RJx4a65c, "grow", "()[Ljava/lang/Object;"⟩
abbrev cJx4a65c_size_8abf5 : ByteArray := prog_24_method_8_code
def yJx4a65c_size_8abf5 : MethodName := ⟨RJx4a65c, "size", "()I"⟩
abbrev cJx4a65c_elementData_915e3 : ByteArray := prog_24_method_18_code
def yJx4a65c_elementData_915e3 : MethodName := ⟨RJx4a65c, "elementData", "(I)Ljava/lang/Object;"⟩
abbrev cJx4a65c_get_915e3 : ByteArray := prog_24_method_20_code
def yJx4a65c_get_915e3 : MethodName := ⟨RJx4a65c, "get", "(I)Ljava/lang/Object;"⟩
abbrev cJx4a65c_add_72be8 : ByteArray := prog_24_method_24_code
def yJx4a65c_add_72be8 : MethodName := ⟨RJx4a65c, "add", "(Ljava/lang/Object;[Ljava/lang/Object;I)V"⟩
abbrev cJx4a65c_add_9ea2d : ByteArray := prog_24_method_25_code
def yJx4a65c_add_9ea2d : MethodName := ⟨RJx4a65c, "add", "(Ljava/lang/Object;)Z"⟩
abbrev cJx4a65c_iterator_32c93 : ByteArray := prog_24_method_55_code
def yJx4a65c_iterator_32c93 : MethodName := ⟨RJx4a65c, "iterator", "()Ljava/util/Iterator;"⟩
def RJ7 : String := "java/util/Arrays"
def TJ7 : u_T := fun k => match k with
  | _ => ("", "", "", false)
def tyJ7 : Nat → FieldType := fun k => match k with
  | _ => .int
abbrev wsJ70 : List Cond := u_ws RJ7 TJ7 0
theorem nmJ7 : ∀ a, a < 0 → ∀ b, b < 0 → a ≠ b → (TJ7 a).2.1 ≠ (TJ7 b).2.1 := by decide +kernel
theorem tyJ7_ok : ∀ k, k < 0 → parseFieldDescriptor (TJ7 k).2.2.1 = some (tyJ7 k) := by decide +kernel
abbrev cJ7_copyOf_1904c : ByteArray := prog_26_method_119_code
def yJ7_copyOf_1904c : MethodName := ⟨RJ7, "copyOf", "([Ljava/lang/Object;I)[Ljava/lang/Object;"⟩
abbrev cJ7_copyOf_6403c : ByteArray := prog_26_method_120_code
def yJ7_copyOf_6403c : MethodName := ⟨RJ7, "copyOf", "([Ljava/lang/Object;ILjava/lang/Class;)[Ljava/lang/Object;"⟩
def RJx5ef63 : String := "java/util/Collection"
def TJx5ef63 : u_T := fun k => match k with
  | _ => ("", "", "", false)
def tyJx5ef63 : Nat → FieldType := fun k => match k with
  | _ => .int
abbrev wsJx5ef630 : List Cond := u_ws RJx5ef63 TJx5ef63 0
theorem nmJx5ef63 : ∀ a, a < 0 → ∀ b, b < 0 → a ≠ b → (TJx5ef63 a).2.1 ≠ (TJx5ef63 b).2.1 := by decide +kernel
theorem tyJx5ef63_ok : ∀ k, k < 0 → parseFieldDescriptor (TJx5ef63 k).2.2.1 = some (tyJx5ef63 k) := by decide +kernel
def RJx4d0d8 : String := "java/util/Iterator"
def TJx4d0d8 : u_T := fun k => match k with
  | _ => ("", "", "", false)
def tyJx4d0d8 : Nat → FieldType := fun k => match k with
  | _ => .int
abbrev wsJx4d0d80 : List Cond := u_ws RJx4d0d8 TJx4d0d8 0
theorem nmJx4d0d8 : ∀ a, a < 0 → ∀ b, b < 0 → a ≠ b → (TJx4d0d8 a).2.1 ≠ (TJx4d0d8 b).2.1 := by decide +kernel
theorem tyJx4d0d8_ok : ∀ k, k < 0 → parseFieldDescriptor (TJx4d0d8 k).2.2.1 = some (tyJx4d0d8 k) := by decide +kernel
def RJxbd725 : String := "java/util/List"
def TJxbd725 : u_T := fun k => match k with
  | _ => ("", "", "", false)
def tyJxbd725 : Nat → FieldType := fun k => match k with
  | _ => .int
abbrev wsJxbd7250 : List Cond := u_ws RJxbd725 TJxbd725 0
theorem nmJxbd725 : ∀ a, a < 0 → ∀ b, b < 0 → a ≠ b → (TJxbd725 a).2.1 ≠ (TJxbd725 b).2.1 := by decide +kernel
theorem tyJxbd725_ok : ∀ k, k < 0 → parseFieldDescriptor (TJxbd725 k).2.2.1 = some (tyJxbd725 k) := by decide +kernel
def RJ15 : String := "java/util/Objects"
def TJ15 : u_T := fun k => match k with
  | _ => ("", "", "", false)
def tyJ15 : Nat → FieldType := fun k => match k with
  | _ => .int
abbrev wsJ150 : List Cond := u_ws RJ15 TJ15 0
theorem nmJ15 : ∀ a, a < 0 → ∀ b, b < 0 → a ≠ b → (TJ15 a).2.1 ≠ (TJ15 b).2.1 := by decide +kernel
theorem tyJ15_ok : ∀ k, k < 0 → parseFieldDescriptor (TJ15 k).2.2.1 = some (tyJ15 k) := by decide +kernel
abbrev cJ15_checkIndex_7cf53 : ByteArray := prog_30_method_17_code
def yJ15_checkIndex_7cf53 : MethodName := ⟨RJ15, "checkIndex", "(II)I"⟩
def RJxf0a74 : String := "java/util/RandomAccess"
def TJxf0a74 : u_T := fun k => match k with
  | _ => ("", "", "", false)
def tyJxf0a74 : Nat → FieldType := fun k => match k with
  | _ => .int
abbrev wsJxf0a740 : List Cond := u_ws RJxf0a74 TJxf0a74 0
theorem nmJxf0a74 : ∀ a, a < 0 → ∀ b, b < 0 → a ≠ b → (TJxf0a74 a).2.1 ≠ (TJxf0a74 b).2.1 := by decide +kernel
theorem tyJxf0a74_ok : ∀ k, k < 0 → parseFieldDescriptor (TJxf0a74 k).2.2.1 = some (tyJxf0a74 k) := by decide +kernel
def RJxa66e6 : String := "java/util/SequencedCollection"
def TJxa66e6 : u_T := fun k => match k with
  | _ => ("", "", "", false)
def tyJxa66e6 : Nat → FieldType := fun k => match k with
  | _ => .int
abbrev wsJxa66e60 : List Cond := u_ws RJxa66e6 TJxa66e6 0
theorem nmJxa66e6 : ∀ a, a < 0 → ∀ b, b < 0 → a ≠ b → (TJxa66e6 a).2.1 ≠ (TJxa66e6 b).2.1 := by decide +kernel
theorem tyJxa66e6_ok : ∀ k, k < 0 → parseFieldDescriptor (TJxa66e6 k).2.2.1 = some (tyJxa66e6 k) := by decide +kernel
def RJ8 : String := "jdk/internal/util/ArraysSupport"
def TJ8 : u_T := fun k => match k with
  | _ => ("", "", "", false)
def tyJ8 : Nat → FieldType := fun k => match k with
  | _ => .int
abbrev wsJ80 : List Cond := u_ws RJ8 TJ8 0
theorem nmJ8 : ∀ a, a < 0 → ∀ b, b < 0 → a ≠ b → (TJ8 a).2.1 ≠ (TJ8 b).2.1 := by decide +kernel
theorem tyJ8_ok : ∀ k, k < 0 → parseFieldDescriptor (TJ8 k).2.2.1 = some (tyJ8 k) := by decide +kernel
abbrev cJ8_newLength_cabcc : ByteArray := prog_33_method_27_code
def yJ8_newLength_cabcc : MethodName := ⟨RJ8, "newLength", "(III)I"⟩
abbrev cJ8_hugeLength_7cf53 : ByteArray := prog_33_method_28_code
def yJ8_hugeLength_7cf53 : MethodName := ⟨RJ8, "hugeLength", "(II)I"⟩
def RJ3 : String := "jdk/internal/util/Preconditions"
def TJ3 : u_T := fun k => match k with
  | _ => ("", "", "", false)
def tyJ3 : Nat → FieldType := fun k => match k with
  | _ => .int
abbrev wsJ30 : List Cond := u_ws RJ3 TJ3 0
theorem nmJ3 : ∀ a, a < 0 → ∀ b, b < 0 → a ≠ b → (TJ3 a).2.1 ≠ (TJ3 b).2.1 := by decide +kernel
theorem tyJ3_ok : ∀ k, k < 0 → parseFieldDescriptor (TJ3 k).2.2.1 = some (tyJ3 k) := by decide +kernel
abbrev cJ3_checkIndex_8e157 : ByteArray := prog_34_method_11_code
def yJ3_checkIndex_8e157 : MethodName := ⟨RJ3, "checkIndex", "(IILjava/util/function/BiFunction;)I"⟩
def RL : String := "PistekeeperLaw"
abbrev cL_lift : ByteArray := method_3_code
def yL_lift : MethodName := ⟨RL, "lift", "(LPistekeeper;II[J)I"⟩
abbrev cL_run : ByteArray := method_4_code
def yL_run : MethodName := ⟨RL, "run", "(LPistekeeper;IIIII[J)I"⟩
abbrev cL_turn : ByteArray := method_5_code
def yL_turn : MethodName := ⟨RL, "turn", "(LPistekeeper;IZ[J)I"⟩
abbrev cL_release : ByteArray := method_6_code
def yL_release : MethodName := ⟨RL, "release", "(LPistekeeper;I[J)I"⟩
abbrev cL_guns : ByteArray := method_7_code
def yL_guns : MethodName := ⟨RL, "guns", "(LPistekeeper;II[J)I"⟩
abbrev cL_fill : ByteArray := method_8_code
def yL_fill : MethodName := ⟨RL, "fill", "(LPistekeeper;I[J)I"⟩
abbrev cL_crowd : ByteArray := method_9_code
def yL_crowd : MethodName := ⟨RL, "crowd", "(LPistekeeper;I[J)I"⟩
abbrev cL_pass : ByteArray := method_10_code
def yL_pass : MethodName := ⟨RL, "pass", "(LPistekeeper;IIIIII[J)I"⟩
abbrev cL_blast : ByteArray := method_11_code
def yL_blast : MethodName := ⟨RL, "blast", "(LPistekeeper;I[J)I"⟩
abbrev cL_search : ByteArray := method_12_code
def yL_search : MethodName := ⟨RL, "search", "(LPistekeeper;I[J)I"⟩
abbrev cL_test : ByteArray := method_13_code
def yL_test : MethodName := ⟨RL, "test", "(LPistekeeper;I[J)I"⟩
abbrev cL_sweep : ByteArray := method_14_code
def yL_sweep : MethodName := ⟨RL, "sweep", "(LPistekeeper;I[J)I"⟩
abbrev cL_winch : ByteArray := method_15_code
def yL_winch : MethodName := ⟨RL, "winch", "(LPistekeeper;IZ[J)I"⟩
abbrev cL_groom : ByteArray := method_16_code
def yL_groom : MethodName := ⟨RL, "groom", "(LPistekeeper;I[J)I"⟩
abbrev cL_open : ByteArray := method_17_code
def yL_open : MethodName := ⟨RL, "open", "(LPistekeeper;I[J)I"⟩
abbrev cL_close : ByteArray := method_18_code
def yL_close : MethodName := ⟨RL, "close", "(LPistekeeper;I[J)I"⟩
abbrev cL_ofRun : ByteArray := method_19_code
def yL_ofRun : MethodName := ⟨RL, "ofRun", "(LPistekeeper;II[J)I"⟩
abbrev cL_ofLayer : ByteArray := method_20_code
def yL_ofLayer : MethodName := ⟨RL, "ofLayer", "(LPistekeeper;III[J)I"⟩
abbrev cL_ofLift : ByteArray := method_21_code
def yL_ofLift : MethodName := ⟨RL, "ofLift", "(LPistekeeper;II[J)I"⟩
abbrev cL_many : ByteArray := method_22_code
def yL_many : MethodName := ⟨RL, "many", "(LPistekeeper;I[J)I"⟩
abbrev cL_wouldRisk : ByteArray := method_23_code
def yL_wouldRisk : MethodName := ⟨RL, "wouldRisk", "(LPistekeeper;IIII[J)I"⟩
abbrev cL_wouldMake : ByteArray := method_24_code
def yL_wouldMake : MethodName := ⟨RL, "wouldMake", "(LPistekeeper;IIII[J)I"⟩
abbrev cL_law : ByteArray := code
def yL_law : MethodName := ⟨RL, "law", "([I)Z"⟩
abbrev vwCl : List vw_C := [(RJx35411, TJx35411, 4), (RJx4a65c, TJx4a65c, 3), (RX0, TX0, 5), (RX1, TX1, 16), (RX2, TX2, 18), (RX3, TX3, 6), (RX4, TX4, 5), (RX5, TX5, 4), (RX6, TX6, 12), (RX7, TX7, 7)]
end
section
/-! tables: which words stand where, fields and methods by number (by program: gen_names.py) -/
def mj_TW : List Cond := lw_tbl.filter goodWord
theorem mj_in {w : Cond} (i : Nat) (h : tables_1[i]? = some w) (hg : goodWord w = true) : w ∈ mj_TW := List.mem_filter.mpr ⟨List.mem_append_right _ (List.mem_of_getElem? h), hg⟩
theorem mj_ip {w : Cond} (i : Nat) (h : (k2_sels lw_privs)[i]? = some w) (hg : goodWord w = true) : w ∈ mj_TW := List.mem_filter.mpr ⟨List.mem_append_left _ (List.mem_of_getElem? h), hg⟩
theorem mj_TWg : ∀ w ∈ mj_TW, goodWord w = true := fun _ h => (List.mem_filter.mp h).2
def mT_C : Nat → String
  | 0 => RJx35411
  | 1 => RJx4a65c
  | 2 => RX0
  | 3 => RX1
  | 4 => RX2
  | 5 => RX3
  | 6 => RX4
  | 7 => RX5
  | 8 => RX6
  | _ => RX7
def mT_T : Nat → u_T
  | 0 => TJx35411
  | 1 => TJx4a65c
  | 2 => TX0
  | 3 => TX1
  | 4 => TX2
  | 5 => TX3
  | 6 => TX4
  | 7 => TX5
  | 8 => TX6
  | _ => TX7
def mT_N : Nat → Nat
  | 0 => 4
  | 1 => 3
  | 2 => 5
  | 3 => 16
  | 4 => 18
  | 5 => 6
  | 6 => 5
  | 7 => 4
  | 8 => 12
  | _ => 7
def mT_ty : Nat → Nat → FieldType
  | 0 => tyJx35411
  | 1 => tyJx4a65c
  | 2 => tyX0
  | 3 => tyX1
  | 4 => tyX2
  | 5 => tyX3
  | 6 => tyX4
  | 7 => tyX5
  | 8 => tyX6
  | _ => tyX7
/-- what a field holds: 0 an int, 1 a reference, 2 a long -/
def mj_isR (ty : FieldType) : Nat := match ty with
  | .int => 0
  | .boolean => 0
  | .long => 2
  | _ => 1
abbrev mT_R (ci k : Nat) : Nat := mj_isR (mT_ty ci k)
theorem mT_at : ∀ ci, ci < 10 → vwCl[ci]? = some (mT_C ci, mT_T ci, mT_N ci)
  | 0, _ => rfl
  | 1, _ => rfl
  | 2, _ => rfl
  | 3, _ => rfl
  | 4, _ => rfl
  | 5, _ => rfl
  | 6, _ => rfl
  | 7, _ => rfl
  | 8, _ => rfl
  | 9, _ => rfl
  | n + 10, h => absurd h (by omega)
theorem mT_nm : ∀ ci, ci < 10 → ∀ a, a < mT_N ci → ∀ b, b < mT_N ci → a ≠ b → (mT_T ci a).2.1 ≠ (mT_T ci b).2.1
  | 0, _ => nmJx35411
  | 1, _ => nmJx4a65c
  | 2, _ => nmX0
  | 3, _ => nmX1
  | 4, _ => nmX2
  | 5, _ => nmX3
  | 6, _ => nmX4
  | 7, _ => nmX5
  | 8, _ => nmX6
  | 9, _ => nmX7
  | n + 10, h => absurd h (by omega)
theorem mT_tyok : ∀ ci, ci < 10 → ∀ k, k < mT_N ci → parseFieldDescriptor (mT_T ci k).2.2.1 = some (mT_ty ci k)
  | 0, _ => tyJx35411_ok
  | 1, _ => tyJx4a65c_ok
  | 2, _ => tyX0_ok
  | 3, _ => tyX1_ok
  | 4, _ => tyX2_ok
  | 5, _ => tyX3_ok
  | 6, _ => tyX4_ok
  | 7, _ => tyX5_ok
  | 8, _ => tyX6_ok
  | 9, _ => tyX7_ok
  | n + 10, h => absurd h (by omega)
theorem mT_in0 : ∀ w ∈ u_ws RJx35411 TJx35411 4, w ∈ mj_TW := by
  intro w hw
  obtain ⟨k, hk, rfl⟩ := List.mem_map.mp hw
  have hk := List.mem_range.mp hk
  match k, hk with
  | 0, _ => exact mj_in 1177 (by decide +kernel) rfl
  | 1, _ => exact mj_in 1179 (by decide +kernel) rfl
  | 2, _ => exact mj_in 1181 (by decide +kernel) rfl
  | 3, _ => exact mj_in 1183 (by decide +kernel) rfl
  | n + 4, h => exact absurd h (by omega)
theorem mT_in1 : ∀ w ∈ u_ws RJx4a65c TJx4a65c 3, w ∈ mj_TW := by
  intro w hw
  obtain ⟨k, hk, rfl⟩ := List.mem_map.mp hw
  have hk := List.mem_range.mp hk
  match k, hk with
  | 0, _ => exact mj_in 871 (by decide +kernel) rfl
  | 1, _ => exact mj_in 867 (by decide +kernel) rfl
  | 2, _ => exact mj_in 869 (by decide +kernel) rfl
  | n + 3, h => exact absurd h (by omega)
theorem mT_in2 : ∀ w ∈ u_ws RX0 TX0 5, w ∈ mj_TW := by
  intro w hw
  obtain ⟨k, hk, rfl⟩ := List.mem_map.mp hw
  have hk := List.mem_range.mp hk
  match k, hk with
  | 0, _ => exact mj_in 60 (by decide +kernel) rfl
  | 1, _ => exact mj_in 62 (by decide +kernel) rfl
  | 2, _ => exact mj_in 64 (by decide +kernel) rfl
  | 3, _ => exact mj_in 66 (by decide +kernel) rfl
  | 4, _ => exact mj_in 68 (by decide +kernel) rfl
  | n + 5, h => exact absurd h (by omega)
theorem mT_in3 : ∀ w ∈ u_ws RX1 TX1 16, w ∈ mj_TW := by
  intro w hw
  obtain ⟨k, hk, rfl⟩ := List.mem_map.mp hw
  have hk := List.mem_range.mp hk
  match k, hk with
  | 0, _ => exact mj_in 229 (by decide +kernel) rfl
  | 1, _ => exact mj_in 231 (by decide +kernel) rfl
  | 2, _ => exact mj_in 233 (by decide +kernel) rfl
  | 3, _ => exact mj_in 235 (by decide +kernel) rfl
  | 4, _ => exact mj_in 237 (by decide +kernel) rfl
  | 5, _ => exact mj_in 239 (by decide +kernel) rfl
  | 6, _ => exact mj_in 241 (by decide +kernel) rfl
  | 7, _ => exact mj_in 243 (by decide +kernel) rfl
  | 8, _ => exact mj_in 245 (by decide +kernel) rfl
  | 9, _ => exact mj_in 247 (by decide +kernel) rfl
  | 10, _ => exact mj_in 249 (by decide +kernel) rfl
  | 11, _ => exact mj_in 251 (by decide +kernel) rfl
  | 12, _ => exact mj_in 253 (by decide +kernel) rfl
  | 13, _ => exact mj_in 255 (by decide +kernel) rfl
  | 14, _ => exact mj_in 257 (by decide +kernel) rfl
  | 15, _ => exact mj_in 259 (by decide +kernel) rfl
  | n + 16, h => exact absurd h (by omega)
theorem mT_in4 : ∀ w ∈ u_ws RX2 TX2 18, w ∈ mj_TW := by
  intro w hw
  obtain ⟨k, hk, rfl⟩ := List.mem_map.mp hw
  have hk := List.mem_range.mp hk
  match k, hk with
  | 0, _ => exact mj_in 160 (by decide +kernel) rfl
  | 1, _ => exact mj_in 162 (by decide +kernel) rfl
  | 2, _ => exact mj_in 164 (by decide +kernel) rfl
  | 3, _ => exact mj_in 166 (by decide +kernel) rfl
  | 4, _ => exact mj_in 168 (by decide +kernel) rfl
  | 5, _ => exact mj_in 170 (by decide +kernel) rfl
  | 6, _ => exact mj_in 172 (by decide +kernel) rfl
  | 7, _ => exact mj_in 174 (by decide +kernel) rfl
  | 8, _ => exact mj_in 176 (by decide +kernel) rfl
  | 9, _ => exact mj_in 178 (by decide +kernel) rfl
  | 10, _ => exact mj_in 180 (by decide +kernel) rfl
  | 11, _ => exact mj_in 182 (by decide +kernel) rfl
  | 12, _ => exact mj_in 184 (by decide +kernel) rfl
  | 13, _ => exact mj_in 186 (by decide +kernel) rfl
  | 14, _ => exact mj_in 188 (by decide +kernel) rfl
  | 15, _ => exact mj_in 190 (by decide +kernel) rfl
  | 16, _ => exact mj_in 192 (by decide +kernel) rfl
  | 17, _ => exact mj_in 194 (by decide +kernel) rfl
  | n + 18, h => exact absurd h (by omega)
theorem mT_in5 : ∀ w ∈ u_ws RX3 TX3 6, w ∈ mj_TW := by
  intro w hw
  obtain ⟨k, hk, rfl⟩ := List.mem_map.mp hw
  have hk := List.mem_range.mp hk
  match k, hk with
  | 0, _ => exact mj_in 95 (by decide +kernel) rfl
  | 1, _ => exact mj_in 97 (by decide +kernel) rfl
  | 2, _ => exact mj_in 99 (by decide +kernel) rfl
  | 3, _ => exact mj_in 101 (by decide +kernel) rfl
  | 4, _ => exact mj_in 103 (by decide +kernel) rfl
  | 5, _ => exact mj_in 105 (by decide +kernel) rfl
  | n + 6, h => exact absurd h (by omega)
theorem mT_in6 : ∀ w ∈ u_ws RX4 TX4 5, w ∈ mj_TW := by
  intro w hw
  obtain ⟨k, hk, rfl⟩ := List.mem_map.mp hw
  have hk := List.mem_range.mp hk
  match k, hk with
  | 0, _ => exact mj_in 279 (by decide +kernel) rfl
  | 1, _ => exact mj_in 281 (by decide +kernel) rfl
  | 2, _ => exact mj_in 283 (by decide +kernel) rfl
  | 3, _ => exact mj_in 285 (by decide +kernel) rfl
  | 4, _ => exact mj_in 287 (by decide +kernel) rfl
  | n + 5, h => exact absurd h (by omega)
theorem mT_in7 : ∀ w ∈ u_ws RX5 TX5 4, w ∈ mj_TW := by
  intro w hw
  obtain ⟨k, hk, rfl⟩ := List.mem_map.mp hw
  have hk := List.mem_range.mp hk
  match k, hk with
  | 0, _ => exact mj_in 294 (by decide +kernel) rfl
  | 1, _ => exact mj_in 296 (by decide +kernel) rfl
  | 2, _ => exact mj_in 298 (by decide +kernel) rfl
  | 3, _ => exact mj_in 300 (by decide +kernel) rfl
  | n + 4, h => exact absurd h (by omega)
theorem mT_in8 : ∀ w ∈ u_ws RX6 TX6 12, w ∈ mj_TW := by
  intro w hw
  obtain ⟨k, hk, rfl⟩ := List.mem_map.mp hw
  have hk := List.mem_range.mp hk
  match k, hk with
  | 0, _ => exact mj_in 898 (by decide +kernel) rfl
  | 1, _ => exact mj_in 900 (by decide +kernel) rfl
  | 2, _ => exact mj_in 902 (by decide +kernel) rfl
  | 3, _ => exact mj_in 904 (by decide +kernel) rfl
  | 4, _ => exact mj_in 906 (by decide +kernel) rfl
  | 5, _ => exact mj_in 908 (by decide +kernel) rfl
  | 6, _ => exact mj_in 910 (by decide +kernel) rfl
  | 7, _ => exact mj_in 912 (by decide +kernel) rfl
  | 8, _ => exact mj_in 914 (by decide +kernel) rfl
  | 9, _ => exact mj_in 916 (by decide +kernel) rfl
  | 10, _ => exact mj_in 918 (by decide +kernel) rfl
  | 11, _ => exact mj_in 920 (by decide +kernel) rfl
  | n + 12, h => exact absurd h (by omega)
theorem mT_in9 : ∀ w ∈ u_ws RX7 TX7 7, w ∈ mj_TW := by
  intro w hw
  obtain ⟨k, hk, rfl⟩ := List.mem_map.mp hw
  have hk := List.mem_range.mp hk
  match k, hk with
  | 0, _ => exact mj_in 930 (by decide +kernel) rfl
  | 1, _ => exact mj_in 932 (by decide +kernel) rfl
  | 2, _ => exact mj_in 934 (by decide +kernel) rfl
  | 3, _ => exact mj_in 936 (by decide +kernel) rfl
  | 4, _ => exact mj_in 938 (by decide +kernel) rfl
  | 5, _ => exact mj_in 940 (by decide +kernel) rfl
  | 6, _ => exact mj_in 942 (by decide +kernel) rfl
  | n + 7, h => exact absurd h (by omega)
theorem mT_in : ∀ ci, ci < 10 → ∀ w ∈ u_ws (mT_C ci) (mT_T ci) (mT_N ci), w ∈ mj_TW
  | 0, _ => mT_in0
  | 1, _ => mT_in1
  | 2, _ => mT_in2
  | 3, _ => mT_in3
  | 4, _ => mT_in4
  | 5, _ => mT_in5
  | 6, _ => mT_in6
  | 7, _ => mT_in7
  | 8, _ => mT_in8
  | 9, _ => mT_in9
  | n + 10, h => absurd h (by omega)
/-- a field by its link -/
def mj_okF (own : String) (idx ci sl : Nat) : Prop := ci < 10 ∧ sl < mT_N ci ∧ Cond.fieldLink own idx (mT_T ci sl).1 (mT_T ci sl).2.1 (mT_T ci sl).2.2.1 ∈ mj_TW
theorem fl_X0_7 : mj_okF RX0 7 2 0 := ⟨by decide, by decide, mj_in 46 (by decide +kernel) rfl⟩
theorem fl_X5_48 : mj_okF RX5 48 2 0 := ⟨by decide, by decide, mj_in 47 (by decide +kernel) rfl⟩
theorem fl_X1_214 : mj_okF RX1 214 2 0 := ⟨by decide, by decide, mj_in 48 (by decide +kernel) rfl⟩
theorem fl_X0_13 : mj_okF RX0 13 2 1 := ⟨by decide, by decide, mj_in 49 (by decide +kernel) rfl⟩
theorem fl_X5_53 : mj_okF RX5 53 2 1 := ⟨by decide, by decide, mj_in 50 (by decide +kernel) rfl⟩
theorem fl_X1_188 : mj_okF RX1 188 2 1 := ⟨by decide, by decide, mj_in 51 (by decide +kernel) rfl⟩
theorem fl_X0_16 : mj_okF RX0 16 2 2 := ⟨by decide, by decide, mj_in 52 (by decide +kernel) rfl⟩
theorem fl_X5_86 : mj_okF RX5 86 2 2 := ⟨by decide, by decide, mj_in 53 (by decide +kernel) rfl⟩
theorem fl_X0_20 : mj_okF RX0 20 2 3 := ⟨by decide, by decide, mj_in 54 (by decide +kernel) rfl⟩
theorem fl_X5_95 : mj_okF RX5 95 2 3 := ⟨by decide, by decide, mj_in 55 (by decide +kernel) rfl⟩
theorem fl_X1_191 : mj_okF RX1 191 2 3 := ⟨by decide, by decide, mj_in 56 (by decide +kernel) rfl⟩
theorem fl_X0_23 : mj_okF RX0 23 2 4 := ⟨by decide, by decide, mj_in 57 (by decide +kernel) rfl⟩
theorem fl_X1_217 : mj_okF RX1 217 2 4 := ⟨by decide, by decide, mj_in 58 (by decide +kernel) rfl⟩
theorem fl_X5_241 : mj_okF RX5 241 2 4 := ⟨by decide, by decide, mj_in 59 (by decide +kernel) rfl⟩
theorem fl_X3_9 : mj_okF RX3 9 5 0 := ⟨by decide, by decide, mj_in 84 (by decide +kernel) rfl⟩
theorem fl_X5_231 : mj_okF RX5 231 5 0 := ⟨by decide, by decide, mj_in 85 (by decide +kernel) rfl⟩
theorem fl_X3_15 : mj_okF RX3 15 5 1 := ⟨by decide, by decide, mj_in 86 (by decide +kernel) rfl⟩
theorem fl_X5_235 : mj_okF RX5 235 5 1 := ⟨by decide, by decide, mj_in 87 (by decide +kernel) rfl⟩
theorem fl_X3_18 : mj_okF RX3 18 5 2 := ⟨by decide, by decide, mj_in 88 (by decide +kernel) rfl⟩
theorem fl_X5_238 : mj_okF RX5 238 5 2 := ⟨by decide, by decide, mj_in 89 (by decide +kernel) rfl⟩
theorem fl_X3_27 : mj_okF RX3 27 5 3 := ⟨by decide, by decide, mj_in 90 (by decide +kernel) rfl⟩
theorem fl_X5_176 : mj_okF RX5 176 5 3 := ⟨by decide, by decide, mj_in 91 (by decide +kernel) rfl⟩
theorem fl_X3_31 : mj_okF RX3 31 5 4 := ⟨by decide, by decide, mj_in 92 (by decide +kernel) rfl⟩
theorem fl_X5_205 : mj_okF RX5 205 5 4 := ⟨by decide, by decide, mj_in 93 (by decide +kernel) rfl⟩
theorem fl_X3_35 : mj_okF RX3 35 5 5 := ⟨by decide, by decide, mj_in 94 (by decide +kernel) rfl⟩
theorem fl_X2_12 : mj_okF RX2 12 4 0 := ⟨by decide, by decide, mj_in 109 (by decide +kernel) rfl⟩
theorem fl_X1_89 : mj_okF RX1 89 4 0 := ⟨by decide, by decide, mj_in 110 (by decide +kernel) rfl⟩
theorem fl_X5_169 : mj_okF RX5 169 4 0 := ⟨by decide, by decide, mj_in 111 (by decide +kernel) rfl⟩
theorem fl_X2_26 : mj_okF RX2 26 4 1 := ⟨by decide, by decide, mj_in 112 (by decide +kernel) rfl⟩
theorem fl_X5_69 : mj_okF RX5 69 4 1 := ⟨by decide, by decide, mj_in 113 (by decide +kernel) rfl⟩
theorem fl_X1_86 : mj_okF RX1 86 4 1 := ⟨by decide, by decide, mj_in 114 (by decide +kernel) rfl⟩
theorem fl_X2_29 : mj_okF RX2 29 4 2 := ⟨by decide, by decide, mj_in 115 (by decide +kernel) rfl⟩
theorem fl_X5_74 : mj_okF RX5 74 4 2 := ⟨by decide, by decide, mj_in 116 (by decide +kernel) rfl⟩
theorem fl_X1_158 : mj_okF RX1 158 4 2 := ⟨by decide, by decide, mj_in 117 (by decide +kernel) rfl⟩
theorem fl_X2_32 : mj_okF RX2 32 4 3 := ⟨by decide, by decide, mj_in 118 (by decide +kernel) rfl⟩
theorem fl_X5_77 : mj_okF RX5 77 4 3 := ⟨by decide, by decide, mj_in 119 (by decide +kernel) rfl⟩
theorem fl_X2_35 : mj_okF RX2 35 4 4 := ⟨by decide, by decide, mj_in 120 (by decide +kernel) rfl⟩
theorem fl_X5_80 : mj_okF RX5 80 4 4 := ⟨by decide, by decide, mj_in 121 (by decide +kernel) rfl⟩
theorem fl_X2_38 : mj_okF RX2 38 4 5 := ⟨by decide, by decide, mj_in 122 (by decide +kernel) rfl⟩
theorem fl_X5_83 : mj_okF RX5 83 4 5 := ⟨by decide, by decide, mj_in 123 (by decide +kernel) rfl⟩
theorem fl_X1_99 : mj_okF RX1 99 4 5 := ⟨by decide, by decide, mj_in 124 (by decide +kernel) rfl⟩
theorem fl_X2_41 : mj_okF RX2 41 4 6 := ⟨by decide, by decide, mj_in 125 (by decide +kernel) rfl⟩
theorem fl_X1_75 : mj_okF RX1 75 4 6 := ⟨by decide, by decide, mj_in 126 (by decide +kernel) rfl⟩
theorem fl_X5_101 : mj_okF RX5 101 4 6 := ⟨by decide, by decide, mj_in 127 (by decide +kernel) rfl⟩
theorem fl_X2_44 : mj_okF RX2 44 4 7 := ⟨by decide, by decide, mj_in 128 (by decide +kernel) rfl⟩
theorem fl_X1_197 : mj_okF RX1 197 4 7 := ⟨by decide, by decide, mj_in 129 (by decide +kernel) rfl⟩
theorem fl_X5_219 : mj_okF RX5 219 4 7 := ⟨by decide, by decide, mj_in 130 (by decide +kernel) rfl⟩
theorem fl_X2_47 : mj_okF RX2 47 4 8 := ⟨by decide, by decide, mj_in 131 (by decide +kernel) rfl⟩
theorem fl_X5_222 : mj_okF RX5 222 4 8 := ⟨by decide, by decide, mj_in 132 (by decide +kernel) rfl⟩
theorem fl_X1_224 : mj_okF RX1 224 4 8 := ⟨by decide, by decide, mj_in 133 (by decide +kernel) rfl⟩
theorem fl_X2_50 : mj_okF RX2 50 4 9 := ⟨by decide, by decide, mj_in 134 (by decide +kernel) rfl⟩
theorem fl_X1_149 : mj_okF RX1 149 4 9 := ⟨by decide, by decide, mj_in 135 (by decide +kernel) rfl⟩
theorem fl_X5_225 : mj_okF RX5 225 4 9 := ⟨by decide, by decide, mj_in 136 (by decide +kernel) rfl⟩
theorem fl_X2_53 : mj_okF RX2 53 4 10 := ⟨by decide, by decide, mj_in 137 (by decide +kernel) rfl⟩
theorem fl_X5_140 : mj_okF RX5 140 4 10 := ⟨by decide, by decide, mj_in 138 (by decide +kernel) rfl⟩
theorem fl_X1_132 : mj_okF RX1 132 4 10 := ⟨by decide, by decide, mj_in 139 (by decide +kernel) rfl⟩
theorem fl_X2_56 : mj_okF RX2 56 4 11 := ⟨by decide, by decide, mj_in 140 (by decide +kernel) rfl⟩
theorem fl_X1_118 : mj_okF RX1 118 4 11 := ⟨by decide, by decide, mj_in 141 (by decide +kernel) rfl⟩
theorem fl_X5_157 : mj_okF RX5 157 4 11 := ⟨by decide, by decide, mj_in 142 (by decide +kernel) rfl⟩
theorem fl_X2_18 : mj_okF RX2 18 4 12 := ⟨by decide, by decide, mj_in 143 (by decide +kernel) rfl⟩
theorem fl_X1_102 : mj_okF RX1 102 4 12 := ⟨by decide, by decide, mj_in 144 (by decide +kernel) rfl⟩
theorem fl_X5_160 : mj_okF RX5 160 4 12 := ⟨by decide, by decide, mj_in 145 (by decide +kernel) rfl⟩
theorem fl_X2_59 : mj_okF RX2 59 4 13 := ⟨by decide, by decide, mj_in 146 (by decide +kernel) rfl⟩
theorem fl_X5_197 : mj_okF RX5 197 4 13 := ⟨by decide, by decide, mj_in 147 (by decide +kernel) rfl⟩
theorem fl_X2_62 : mj_okF RX2 62 4 14 := ⟨by decide, by decide, mj_in 148 (by decide +kernel) rfl⟩
theorem fl_X1_175 : mj_okF RX1 175 4 14 := ⟨by decide, by decide, mj_in 149 (by decide +kernel) rfl⟩
theorem fl_X5_274 : mj_okF RX5 274 4 14 := ⟨by decide, by decide, mj_in 150 (by decide +kernel) rfl⟩
theorem fl_X2_65 : mj_okF RX2 65 4 15 := ⟨by decide, by decide, mj_in 151 (by decide +kernel) rfl⟩
theorem fl_X1_78 : mj_okF RX1 78 4 15 := ⟨by decide, by decide, mj_in 152 (by decide +kernel) rfl⟩
theorem fl_X5_194 : mj_okF RX5 194 4 15 := ⟨by decide, by decide, mj_in 153 (by decide +kernel) rfl⟩
theorem fl_X2_69 : mj_okF RX2 69 4 16 := ⟨by decide, by decide, mj_in 154 (by decide +kernel) rfl⟩
theorem fl_X1_135 : mj_okF RX1 135 4 16 := ⟨by decide, by decide, mj_in 155 (by decide +kernel) rfl⟩
theorem fl_X5_166 : mj_okF RX5 166 4 16 := ⟨by decide, by decide, mj_in 156 (by decide +kernel) rfl⟩
theorem fl_X2_72 : mj_okF RX2 72 4 17 := ⟨by decide, by decide, mj_in 157 (by decide +kernel) rfl⟩
theorem fl_X1_121 : mj_okF RX1 121 4 17 := ⟨by decide, by decide, mj_in 158 (by decide +kernel) rfl⟩
theorem fl_X5_163 : mj_okF RX5 163 4 17 := ⟨by decide, by decide, mj_in 159 (by decide +kernel) rfl⟩
theorem fl_X1_11 : mj_okF RX1 11 3 0 := ⟨by decide, by decide, mj_in 197 (by decide +kernel) rfl⟩
theorem fl_X5_44 : mj_okF RX5 44 3 0 := ⟨by decide, by decide, mj_in 198 (by decide +kernel) rfl⟩
theorem fl_X1_20 : mj_okF RX1 20 3 1 := ⟨by decide, by decide, mj_in 199 (by decide +kernel) rfl⟩
theorem fl_X5_65 : mj_okF RX5 65 3 1 := ⟨by decide, by decide, mj_in 200 (by decide +kernel) rfl⟩
theorem fl_X1_35 : mj_okF RX1 35 3 2 := ⟨by decide, by decide, mj_in 201 (by decide +kernel) rfl⟩
theorem fl_X5_33 : mj_okF RX5 33 3 2 := ⟨by decide, by decide, mj_in 202 (by decide +kernel) rfl⟩
theorem fl_X1_42 : mj_okF RX1 42 3 3 := ⟨by decide, by decide, mj_in 203 (by decide +kernel) rfl⟩
theorem fl_X5_60 : mj_okF RX5 60 3 3 := ⟨by decide, by decide, mj_in 204 (by decide +kernel) rfl⟩
theorem fl_X1_48 : mj_okF RX1 48 3 4 := ⟨by decide, by decide, mj_in 205 (by decide +kernel) rfl⟩
theorem fl_X5_116 : mj_okF RX5 116 3 4 := ⟨by decide, by decide, mj_in 206 (by decide +kernel) rfl⟩
theorem fl_X1_51 : mj_okF RX1 51 3 5 := ⟨by decide, by decide, mj_in 207 (by decide +kernel) rfl⟩
theorem fl_X5_90 : mj_okF RX5 90 3 5 := ⟨by decide, by decide, mj_in 208 (by decide +kernel) rfl⟩
theorem fl_X1_25 : mj_okF RX1 25 3 6 := ⟨by decide, by decide, mj_in 209 (by decide +kernel) rfl⟩
theorem fl_X5_104 : mj_okF RX5 104 3 6 := ⟨by decide, by decide, mj_in 210 (by decide +kernel) rfl⟩
theorem fl_X1_29 : mj_okF RX1 29 3 7 := ⟨by decide, by decide, mj_in 211 (by decide +kernel) rfl⟩
theorem fl_X5_135 : mj_okF RX5 135 3 7 := ⟨by decide, by decide, mj_in 212 (by decide +kernel) rfl⟩
theorem fl_X1_32 : mj_okF RX1 32 3 8 := ⟨by decide, by decide, mj_in 213 (by decide +kernel) rfl⟩
theorem fl_X5_183 : mj_okF RX5 183 3 8 := ⟨by decide, by decide, mj_in 214 (by decide +kernel) rfl⟩
theorem fl_X1_54 : mj_okF RX1 54 3 9 := ⟨by decide, by decide, mj_in 215 (by decide +kernel) rfl⟩
theorem fl_X5_113 : mj_okF RX5 113 3 9 := ⟨by decide, by decide, mj_in 216 (by decide +kernel) rfl⟩
theorem fl_X1_57 : mj_okF RX1 57 3 10 := ⟨by decide, by decide, mj_in 217 (by decide +kernel) rfl⟩
theorem fl_X5_121 : mj_okF RX5 121 3 10 := ⟨by decide, by decide, mj_in 218 (by decide +kernel) rfl⟩
theorem fl_X1_60 : mj_okF RX1 60 3 11 := ⟨by decide, by decide, mj_in 219 (by decide +kernel) rfl⟩
theorem fl_X5_251 : mj_okF RX5 251 3 11 := ⟨by decide, by decide, mj_in 220 (by decide +kernel) rfl⟩
theorem fl_X1_63 : mj_okF RX1 63 3 12 := ⟨by decide, by decide, mj_in 221 (by decide +kernel) rfl⟩
theorem fl_X5_254 : mj_okF RX5 254 3 12 := ⟨by decide, by decide, mj_in 222 (by decide +kernel) rfl⟩
theorem fl_X1_66 : mj_okF RX1 66 3 13 := ⟨by decide, by decide, mj_in 223 (by decide +kernel) rfl⟩
theorem fl_X5_257 : mj_okF RX5 257 3 13 := ⟨by decide, by decide, mj_in 224 (by decide +kernel) rfl⟩
theorem fl_X1_69 : mj_okF RX1 69 3 14 := ⟨by decide, by decide, mj_in 225 (by decide +kernel) rfl⟩
theorem fl_X5_260 : mj_okF RX5 260 3 14 := ⟨by decide, by decide, mj_in 226 (by decide +kernel) rfl⟩
theorem fl_X1_72 : mj_okF RX1 72 3 15 := ⟨by decide, by decide, mj_in 227 (by decide +kernel) rfl⟩
theorem fl_X5_261 : mj_okF RX5 261 3 15 := ⟨by decide, by decide, mj_in 228 (by decide +kernel) rfl⟩
theorem fl_X4_7 : mj_okF RX4 7 6 0 := ⟨by decide, by decide, mj_in 268 (by decide +kernel) rfl⟩
theorem fl_X1_155 : mj_okF RX1 155 6 0 := ⟨by decide, by decide, mj_in 269 (by decide +kernel) rfl⟩
theorem fl_X4_13 : mj_okF RX4 13 6 1 := ⟨by decide, by decide, mj_in 270 (by decide +kernel) rfl⟩
theorem fl_X2_85 : mj_okF RX2 85 6 1 := ⟨by decide, by decide, mj_in 271 (by decide +kernel) rfl⟩
theorem fl_X4_16 : mj_okF RX4 16 6 2 := ⟨by decide, by decide, mj_in 272 (by decide +kernel) rfl⟩
theorem fl_X2_94 : mj_okF RX2 94 6 2 := ⟨by decide, by decide, mj_in 273 (by decide +kernel) rfl⟩
theorem fl_X1_150 : mj_okF RX1 150 6 2 := ⟨by decide, by decide, mj_in 274 (by decide +kernel) rfl⟩
theorem fl_X4_19 : mj_okF RX4 19 6 3 := ⟨by decide, by decide, mj_in 275 (by decide +kernel) rfl⟩
theorem fl_X2_97 : mj_okF RX2 97 6 3 := ⟨by decide, by decide, mj_in 276 (by decide +kernel) rfl⟩
theorem fl_X4_22 : mj_okF RX4 22 6 4 := ⟨by decide, by decide, mj_in 277 (by decide +kernel) rfl⟩
theorem fl_X1_168 : mj_okF RX1 168 6 4 := ⟨by decide, by decide, mj_in 278 (by decide +kernel) rfl⟩
theorem fl_X5_10 : mj_okF RX5 10 7 0 := ⟨by decide, by decide, mj_in 290 (by decide +kernel) rfl⟩
theorem fl_X5_16 : mj_okF RX5 16 7 1 := ⟨by decide, by decide, mj_in 291 (by decide +kernel) rfl⟩
theorem fl_X5_19 : mj_okF RX5 19 7 2 := ⟨by decide, by decide, mj_in 292 (by decide +kernel) rfl⟩
theorem fl_X5_25 : mj_okF RX5 25 7 3 := ⟨by decide, by decide, mj_in 293 (by decide +kernel) rfl⟩
theorem fl_Jx4a65c_9 : mj_okF RJx4a65c 9 1 1 := ⟨by decide, by decide, mj_in 859 (by decide +kernel) rfl⟩
theorem fl_Jx35411_37 : mj_okF RJx35411 37 1 1 := ⟨by decide, by decide, mj_in 860 (by decide +kernel) rfl⟩
theorem fl_Jx4a65c_48 : mj_okF RJx4a65c 48 1 2 := ⟨by decide, by decide, mj_in 862 (by decide +kernel) rfl⟩
theorem fl_X6_12 : mj_okF RX6 12 8 0 := ⟨by decide, by decide, mj_in 874 (by decide +kernel) rfl⟩
theorem fl_X6_18 : mj_okF RX6 18 8 1 := ⟨by decide, by decide, mj_in 876 (by decide +kernel) rfl⟩
theorem fl_X6_52 : mj_okF RX6 52 8 2 := ⟨by decide, by decide, mj_in 878 (by decide +kernel) rfl⟩
theorem fl_X6_21 : mj_okF RX6 21 8 3 := ⟨by decide, by decide, mj_in 880 (by decide +kernel) rfl⟩
theorem fl_X6_55 : mj_okF RX6 55 8 4 := ⟨by decide, by decide, mj_in 882 (by decide +kernel) rfl⟩
theorem fl_X6_69 : mj_okF RX6 69 8 5 := ⟨by decide, by decide, mj_in 884 (by decide +kernel) rfl⟩
theorem fl_X6_72 : mj_okF RX6 72 8 6 := ⟨by decide, by decide, mj_in 886 (by decide +kernel) rfl⟩
theorem fl_X6_145 : mj_okF RX6 145 8 7 := ⟨by decide, by decide, mj_in 888 (by decide +kernel) rfl⟩
theorem fl_X6_165 : mj_okF RX6 165 8 8 := ⟨by decide, by decide, mj_in 890 (by decide +kernel) rfl⟩
theorem fl_X6_162 : mj_okF RX6 162 8 9 := ⟨by decide, by decide, mj_in 892 (by decide +kernel) rfl⟩
theorem fl_X6_25 : mj_okF RX6 25 8 10 := ⟨by decide, by decide, mj_in 894 (by decide +kernel) rfl⟩
theorem fl_X6_136 : mj_okF RX6 136 8 11 := ⟨by decide, by decide, mj_in 896 (by decide +kernel) rfl⟩
theorem fl_X7_23 : mj_okF RX7 23 9 0 := ⟨by decide, by decide, mj_in 923 (by decide +kernel) rfl⟩
theorem fl_X7_12 : mj_okF RX7 12 9 1 := ⟨by decide, by decide, mj_in 924 (by decide +kernel) rfl⟩
theorem fl_X7_16 : mj_okF RX7 16 9 2 := ⟨by decide, by decide, mj_in 925 (by decide +kernel) rfl⟩
theorem fl_X7_135 : mj_okF RX7 135 9 3 := ⟨by decide, by decide, mj_in 926 (by decide +kernel) rfl⟩
theorem fl_X7_20 : mj_okF RX7 20 9 4 := ⟨by decide, by decide, mj_in 927 (by decide +kernel) rfl⟩
theorem fl_X7_107 : mj_okF RX7 107 9 5 := ⟨by decide, by decide, mj_in 928 (by decide +kernel) rfl⟩
theorem fl_X7_235 : mj_okF RX7 235 9 6 := ⟨by decide, by decide, mj_in 929 (by decide +kernel) rfl⟩
theorem fl_Jx35411_25 : mj_okF RJx35411 25 0 0 := ⟨by decide, by decide, mj_in 1173 (by decide +kernel) rfl⟩
theorem fl_Jx35411_13 : mj_okF RJx35411 13 0 1 := ⟨by decide, by decide, mj_in 1174 (by decide +kernel) rfl⟩
theorem fl_Jx35411_22 : mj_okF RJx35411 22 0 2 := ⟨by decide, by decide, mj_in 1175 (by decide +kernel) rfl⟩
theorem fl_Jx35411_1 : mj_okF RJx35411 1 0 3 := ⟨by decide, by decide, mj_in 1176 (by decide +kernel) rfl⟩
abbrev mj_M0 : Type := MethodName × ByteArray × Nat × Option FieldType × String × Bool × List (Nat × Nat × Nat × Nat)
/-- what a call of the method wants of the tables; n: how many arguments without the receiver -/
def mj_okV (K : mj_M0) (n : Nat) : Prop := (Cond.instanceMethod K.1 ∈ mj_TW ∧ Cond.selects K.1.cls K.1 K.1 ∈ mj_TW ∧ Cond.initialized K.1.cls ∈ mj_TW ∧ Cond.code K.1 K.2.1 K.2.2.1 K.2.2.2.1 ∈ mj_TW) ∧ K.1.cls ≠ "java/lang/invoke/MethodHandle" ∧ K.1.cls ≠ "java/lang/invoke/VarHandle" ∧ (parseMethodDescriptor K.1.desc).map (fun d => d.parameters.length) = some n
def mj_okS (K : mj_M0) (n : Nat) : Prop := (Cond.static K.1 ∈ mj_TW ∧ Cond.initialized K.1.cls ∈ mj_TW ∧ Cond.code K.1 K.2.1 K.2.2.1 K.2.2.2.1 ∈ mj_TW) ∧ K.1.cls ≠ "java/lang/invoke/MethodHandle" ∧ K.1.cls ≠ "java/lang/invoke/VarHandle" ∧ (parseMethodDescriptor K.1.desc).map (fun d => d.parameters.length) = some n
def mj_okH (K : mj_M0) (n : Nat) : Prop := (Cond.static K.1 ∈ mj_TW ∧ Cond.initialized K.1.cls ∈ mj_TW ∧ Cond.codeWith K.1 K.2.1 K.2.2.1 K.2.2.2.1 K.2.2.2.2.2.2 ∈ mj_TW) ∧ K.1.cls ≠ "java/lang/invoke/MethodHandle" ∧ K.1.cls ≠ "java/lang/invoke/VarHandle" ∧ (parseMethodDescriptor K.1.desc).map (fun d => d.parameters.length) = some n
def mj_okI (K : mj_M0) (n : Nat) : Prop := (Cond.instanceMethod K.1 ∈ mj_TW ∧ Cond.initialized K.1.cls ∈ mj_TW ∧ Cond.code K.1 K.2.1 K.2.2.1 none ∈ mj_TW) ∧ (K.1.cls ≠ "java/lang/invoke/MethodHandle" ∧ K.1.cls ≠ "java/lang/invoke/VarHandle" ∧ (parseMethodDescriptor K.1.desc).map (fun d => d.parameters.length) = some n) ∧ K.1.name = "<init>" ∧ K.2.2.2.1 = none
abbrev m_J15_checkIndex_7cf53 : mj_M0 := (yJ15_checkIndex_7cf53, cJ15_checkIndex_7cf53, 2, (some .int), RJ15, false, [])
set_option maxRecDepth 100000 in
theorem ok_J15_checkIndex_7cf53 : mj_okS m_J15_checkIndex_7cf53 2 := ⟨⟨mj_in 1035 (by decide +kernel) rfl, mj_in 22 (by decide +kernel) rfl, mj_in 1036 rfl rfl⟩, by decide +kernel, by decide +kernel, by decide +kernel⟩
abbrev m_J3_checkIndex_8e157 : mj_M0 := (yJ3_checkIndex_8e157, cJ3_checkIndex_8e157, 3, (some .int), RJ3, false, [])
set_option maxRecDepth 100000 in
theorem ok_J3_checkIndex_8e157 : mj_okS m_J3_checkIndex_8e157 3 := ⟨⟨mj_in 1038 (by decide +kernel) rfl, mj_in 23 (by decide +kernel) rfl, mj_in 1039 rfl rfl⟩, by decide +kernel, by decide +kernel, by decide +kernel⟩
abbrev m_J7_copyOf_1904c : mj_M0 := (yJ7_copyOf_1904c, cJ7_copyOf_1904c, 2, (some (.array (.object "java/lang/Object"))), RJ7, false, [])
set_option maxRecDepth 100000 in
theorem ok_J7_copyOf_1904c : mj_okS m_J7_copyOf_1904c 2 := ⟨⟨mj_in 989 (by decide +kernel) rfl, mj_in 19 (by decide +kernel) rfl, mj_in 990 rfl rfl⟩, by decide +kernel, by decide +kernel, by decide +kernel⟩
abbrev m_J7_copyOf_6403c : mj_M0 := (yJ7_copyOf_6403c, cJ7_copyOf_6403c, 4, (some (.array (.object "java/lang/Object"))), RJ7, false, [])
set_option maxRecDepth 100000 in
theorem ok_J7_copyOf_6403c : mj_okS m_J7_copyOf_6403c 3 := ⟨⟨mj_in 1009 (by decide +kernel) rfl, mj_in 19 (by decide +kernel) rfl, mj_in 1010 rfl rfl⟩, by decide +kernel, by decide +kernel, by decide +kernel⟩
abbrev m_J8_hugeLength_7cf53 : mj_M0 := (yJ8_hugeLength_7cf53, cJ8_hugeLength_7cf53, 3, (some .int), RJ8, false, [])
set_option maxRecDepth 100000 in
theorem ok_J8_hugeLength_7cf53 : mj_okS m_J8_hugeLength_7cf53 2 := ⟨⟨mj_in 986 (by decide +kernel) rfl, mj_in 17 (by decide +kernel) rfl, mj_in 987 rfl rfl⟩, by decide +kernel, by decide +kernel, by decide +kernel⟩
abbrev m_J8_newLength_cabcc : mj_M0 := (yJ8_newLength_cabcc, cJ8_newLength_cabcc, 4, (some .int), RJ8, false, [])
set_option maxRecDepth 100000 in
theorem ok_J8_newLength_cabcc : mj_okS m_J8_newLength_cabcc 3 := ⟨⟨mj_in 981 (by decide +kernel) rfl, mj_in 17 (by decide +kernel) rfl, mj_in 982 rfl rfl⟩, by decide +kernel, by decide +kernel, by decide +kernel⟩
abbrev m_J9_max_7cf53 : mj_M0 := (yJ9_max_7cf53, cJ9_max_7cf53, 2, (some .int), RJ9, false, [])
set_option maxRecDepth 100000 in
theorem ok_J9_max_7cf53 : mj_okS m_J9_max_7cf53 2 := ⟨⟨mj_in 324 (by decide +kernel) rfl, mj_in 18 (by decide +kernel) rfl, mj_in 325 rfl rfl⟩, by decide +kernel, by decide +kernel, by decide +kernel⟩
abbrev m_J9_min_7cf53 : mj_M0 := (yJ9_min_7cf53, cJ9_min_7cf53, 2, (some .int), RJ9, false, [])
set_option maxRecDepth 100000 in
theorem ok_J9_min_7cf53 : mj_okS m_J9_min_7cf53 2 := ⟨⟨mj_in 347 (by decide +kernel) rfl, mj_in 18 (by decide +kernel) rfl, mj_in 348 rfl rfl⟩, by decide +kernel, by decide +kernel, by decide +kernel⟩
abbrev m_Jx35411_checkForComodification_da8c8 : mj_M0 := (yJx35411_checkForComodification_da8c8, cJx35411_checkForComodification_da8c8, 1, none, RJx35411, false, [])
set_option maxRecDepth 100000 in
theorem ok_Jx35411_checkForComodification_da8c8 : mj_okV m_Jx35411_checkForComodification_da8c8 0 := ⟨⟨mj_in 1206 (by decide +kernel) rfl, mj_in 1207 (by decide +kernel) rfl, mj_in 24 (by decide +kernel) rfl, mj_in 1208 rfl rfl⟩, by decide +kernel, by decide +kernel, by decide +kernel⟩
abbrev m_Jx35411_hasNext_aae02 : mj_M0 := (yJx35411_hasNext_aae02, cJx35411_hasNext_aae02, 1, (some .boolean), RJx35411, false, [])
set_option maxRecDepth 100000 in
abbrev m_Jx35411_init_45d68 : mj_M0 := (yJx35411_init_45d68, cJx35411_init_45d68, 2, none, RJx35411, true, [])
set_option maxRecDepth 100000 in
theorem ok_Jx35411_init_45d68 : mj_okI m_Jx35411_init_45d68 1 := ⟨⟨mj_in 1170 (by decide +kernel) rfl, mj_in 24 (by decide +kernel) rfl, mj_in 1171 rfl rfl⟩, ⟨by decide +kernel, by decide +kernel, by decide +kernel⟩, rfl, rfl⟩
abbrev m_Jx35411_next_0502b : mj_M0 := (yJx35411_next_0502b, cJx35411_next_0502b, 3, (some (.object "java/lang/Object")), RJx35411, false, [])
set_option maxRecDepth 100000 in
abbrev m_Jx4a65c_add_72be8 : mj_M0 := (yJx4a65c_add_72be8, cJx4a65c_add_72be8, 4, none, RJx4a65c, false, [])
set_option maxRecDepth 100000 in
theorem ok_Jx4a65c_add_72be8 : mj_okV m_Jx4a65c_add_72be8 3 := ⟨⟨mj_in 970 (by decide +kernel) rfl, mj_ip 6 (by decide +kernel) rfl, mj_in 11 (by decide +kernel) rfl, mj_in 971 rfl rfl⟩, by decide +kernel, by decide +kernel, by decide +kernel⟩
abbrev m_Jx4a65c_add_9ea2d : mj_M0 := (yJx4a65c_add_9ea2d, cJx4a65c_add_9ea2d, 2, (some .boolean), RJx4a65c, false, [])
set_option maxRecDepth 100000 in
theorem ok_Jx4a65c_add_9ea2d : mj_okV m_Jx4a65c_add_9ea2d 1 := ⟨⟨mj_in 965 (by decide +kernel) rfl, mj_in 966 (by decide +kernel) rfl, mj_in 11 (by decide +kernel) rfl, mj_in 967 rfl rfl⟩, by decide +kernel, by decide +kernel, by decide +kernel⟩
abbrev m_Jx4a65c_elementData_915e3 : mj_M0 := (yJx4a65c_elementData_915e3, cJx4a65c_elementData_915e3, 2, (some (.object "java/lang/Object")), RJx4a65c, false, [])
set_option maxRecDepth 100000 in
theorem ok_Jx4a65c_elementData_915e3 : mj_okV m_Jx4a65c_elementData_915e3 1 := ⟨⟨mj_in 1041 (by decide +kernel) rfl, mj_in 1042 (by decide +kernel) rfl, mj_in 11 (by decide +kernel) rfl, mj_in 1043 rfl rfl⟩, by decide +kernel, by decide +kernel, by decide +kernel⟩
abbrev m_Jx4a65c_get_915e3 : mj_M0 := (yJx4a65c_get_915e3, cJx4a65c_get_915e3, 2, (some (.object "java/lang/Object")), RJx4a65c, false, [])
set_option maxRecDepth 100000 in
theorem ok_Jx4a65c_get_915e3 : mj_okV m_Jx4a65c_get_915e3 1 := ⟨⟨mj_in 1031 (by decide +kernel) rfl, mj_in 1032 (by decide +kernel) rfl, mj_in 11 (by decide +kernel) rfl, mj_in 1033 rfl rfl⟩, by decide +kernel, by decide +kernel, by decide +kernel⟩
abbrev m_Jx4a65c_grow_92f84 : mj_M0 := (yJx4a65c_grow_92f84, cJx4a65c_grow_92f84, 4, (some (.array (.object "java/lang/Object"))), RJx4a65c, false, [])
set_option maxRecDepth 100000 in
theorem ok_Jx4a65c_grow_92f84 : mj_okV m_Jx4a65c_grow_92f84 1 := ⟨⟨mj_in 978 (by decide +kernel) rfl, mj_ip 8 (by decide +kernel) rfl, mj_in 11 (by decide +kernel) rfl, mj_in 979 rfl rfl⟩, by decide +kernel, by decide +kernel, by decide +kernel⟩
abbrev m_Jx4a65c_grow_d5877 : mj_M0 := (yJx4a65c_grow_d5877, cJx4a65c_grow_d5877, 1, (some (.array (.object "java/lang/Object"))), RJx4a65c, false, [])
set_option maxRecDepth 100000 in
theorem ok_Jx4a65c_grow_d5877 : mj_okV m_Jx4a65c_grow_d5877 0 := ⟨⟨mj_in 974 (by decide +kernel) rfl, mj_ip 7 (by decide +kernel) rfl, mj_in 11 (by decide +kernel) rfl, mj_in 975 rfl rfl⟩, by decide +kernel, by decide +kernel, by decide +kernel⟩
abbrev m_Jx4a65c_init_da8c8 : mj_M0 := (yJx4a65c_init_da8c8, cJx4a65c_init_da8c8, 1, none, RJx4a65c, true, [])
set_option maxRecDepth 100000 in
theorem ok_Jx4a65c_init_da8c8 : mj_okI m_Jx4a65c_init_da8c8 0 := ⟨⟨mj_in 848 (by decide +kernel) rfl, mj_in 11 (by decide +kernel) rfl, mj_in 849 rfl rfl⟩, ⟨by decide +kernel, by decide +kernel, by decide +kernel⟩, rfl, rfl⟩
abbrev m_Jx4a65c_iterator_32c93 : mj_M0 := (yJx4a65c_iterator_32c93, cJx4a65c_iterator_32c93, 1, (some (.object "java/util/Iterator")), RJx4a65c, false, [])
set_option maxRecDepth 100000 in
theorem ok_Jx4a65c_iterator_32c93 : mj_okV m_Jx4a65c_iterator_32c93 0 := ⟨⟨mj_in 1164 (by decide +kernel) rfl, mj_in 1165 (by decide +kernel) rfl, mj_in 11 (by decide +kernel) rfl, mj_in 1166 rfl rfl⟩, by decide +kernel, by decide +kernel, by decide +kernel⟩
abbrev m_Jx4a65c_size_8abf5 : mj_M0 := (yJx4a65c_size_8abf5, cJx4a65c_size_8abf5, 1, (some .int), RJx4a65c, false, [])
set_option maxRecDepth 100000 in
theorem ok_Jx4a65c_size_8abf5 : mj_okV m_Jx4a65c_size_8abf5 0 := ⟨⟨mj_in 961 (by decide +kernel) rfl, mj_in 962 (by decide +kernel) rfl, mj_in 11 (by decide +kernel) rfl, mj_in 963 rfl rfl⟩, by decide +kernel, by decide +kernel, by decide +kernel⟩
abbrev m_Jxa1e45_init_da8c8 : mj_M0 := (yJxa1e45_init_da8c8, cJxa1e45_init_da8c8, 1, none, RJxa1e45, true, [])
set_option maxRecDepth 100000 in
theorem ok_Jxa1e45_init_da8c8 : mj_okI m_Jxa1e45_init_da8c8 0 := ⟨⟨mj_in 854 (by decide +kernel) rfl, mj_in 9 (by decide +kernel) rfl, mj_in 855 rfl rfl⟩, ⟨by decide +kernel, by decide +kernel, by decide +kernel⟩, rfl, rfl⟩
abbrev m_Jxc12de_init_da8c8 : mj_M0 := (yJxc12de_init_da8c8, cJxc12de_init_da8c8, 1, none, RJxc12de, true, [])
set_option maxRecDepth 100000 in
theorem ok_Jxc12de_init_da8c8 : mj_okI m_Jxc12de_init_da8c8 0 := ⟨⟨mj_in 851 (by decide +kernel) rfl, mj_in 10 (by decide +kernel) rfl, mj_in 852 rfl rfl⟩, ⟨by decide +kernel, by decide +kernel, by decide +kernel⟩, rfl, rfl⟩
abbrev m_L_blast : mj_M0 := (yL_blast, cL_blast, 4, (some .int), RL, false, [(0, 9, 12, 21), (0, 9, 15, 15)])
set_option maxRecDepth 100000 in
theorem ok_L_blast : mj_okH m_L_blast 3 := ⟨⟨mj_in 738 (by decide +kernel) rfl, mj_in 0 (by decide +kernel) rfl, mj_in 739 rfl rfl⟩, by decide +kernel, by decide +kernel, by decide +kernel⟩
abbrev m_L_close : mj_M0 := (yL_close, cL_close, 4, (some .int), RL, false, [(0, 9, 12, 21), (0, 9, 15, 15)])
set_option maxRecDepth 100000 in
theorem ok_L_close : mj_okH m_L_close 3 := ⟨⟨mj_in 802 (by decide +kernel) rfl, mj_in 0 (by decide +kernel) rfl, mj_in 803 rfl rfl⟩, by decide +kernel, by decide +kernel, by decide +kernel⟩
abbrev m_L_crowd : mj_M0 := (yL_crowd, cL_crowd, 4, (some .int), RL, false, [(0, 9, 12, 13)])
set_option maxRecDepth 100000 in
theorem ok_L_crowd : mj_okH m_L_crowd 3 := ⟨⟨mj_in 723 (by decide +kernel) rfl, mj_in 0 (by decide +kernel) rfl, mj_in 724 rfl rfl⟩, by decide +kernel, by decide +kernel, by decide +kernel⟩
abbrev m_L_fill : mj_M0 := (yL_fill, cL_fill, 4, (some .int), RL, false, [(0, 9, 12, 13)])
set_option maxRecDepth 100000 in
theorem ok_L_fill : mj_okH m_L_fill 3 := ⟨⟨mj_in 715 (by decide +kernel) rfl, mj_in 0 (by decide +kernel) rfl, mj_in 716 rfl rfl⟩, by decide +kernel, by decide +kernel, by decide +kernel⟩
abbrev m_L_groom : mj_M0 := (yL_groom, cL_groom, 4, (some .int), RL, false, [(0, 9, 12, 21), (0, 9, 15, 15)])
set_option maxRecDepth 100000 in
theorem ok_L_groom : mj_okH m_L_groom 3 := ⟨⟨mj_in 781 (by decide +kernel) rfl, mj_in 0 (by decide +kernel) rfl, mj_in 782 rfl rfl⟩, by decide +kernel, by decide +kernel, by decide +kernel⟩
abbrev m_L_guns : mj_M0 := (yL_guns, cL_guns, 5, (some .int), RL, false, [(0, 10, 13, 21), (0, 10, 17, 13)])
set_option maxRecDepth 100000 in
theorem ok_L_guns : mj_okH m_L_guns 4 := ⟨⟨mj_in 708 (by decide +kernel) rfl, mj_in 0 (by decide +kernel) rfl, mj_in 709 rfl rfl⟩, by decide +kernel, by decide +kernel, by decide +kernel⟩
abbrev m_L_lift : mj_M0 := (yL_lift, cL_lift, 5, (some .int), RL, false, [(0, 10, 13, 13), (0, 10, 17, 15)])
set_option maxRecDepth 100000 in
theorem ok_L_lift : mj_okH m_L_lift 4 := ⟨⟨mj_in 659 (by decide +kernel) rfl, mj_in 0 (by decide +kernel) rfl, mj_in 660 rfl rfl⟩, by decide +kernel, by decide +kernel, by decide +kernel⟩
abbrev m_L_many : mj_M0 := (yL_many, cL_many, 4, (some .int), RL, false, [(0, 9, 12, 13)])
set_option maxRecDepth 100000 in
theorem ok_L_many : mj_okH m_L_many 3 := ⟨⟨mj_in 822 (by decide +kernel) rfl, mj_in 0 (by decide +kernel) rfl, mj_in 823 rfl rfl⟩, by decide +kernel, by decide +kernel, by decide +kernel⟩
abbrev m_L_ofLayer : mj_M0 := (yL_ofLayer, cL_ofLayer, 6, (some .int), RL, false, [(0, 12, 15, 21), (0, 12, 19, 13)])
set_option maxRecDepth 100000 in
theorem ok_L_ofLayer : mj_okH m_L_ofLayer 5 := ⟨⟨mj_in 814 (by decide +kernel) rfl, mj_in 0 (by decide +kernel) rfl, mj_in 815 rfl rfl⟩, by decide +kernel, by decide +kernel, by decide +kernel⟩
abbrev m_L_ofLift : mj_M0 := (yL_ofLift, cL_ofLift, 5, (some .int), RL, false, [(0, 10, 13, 21), (0, 10, 17, 13)])
set_option maxRecDepth 100000 in
theorem ok_L_ofLift : mj_okH m_L_ofLift 4 := ⟨⟨mj_in 818 (by decide +kernel) rfl, mj_in 0 (by decide +kernel) rfl, mj_in 819 rfl rfl⟩, by decide +kernel, by decide +kernel, by decide +kernel⟩
abbrev m_L_ofRun : mj_M0 := (yL_ofRun, cL_ofRun, 5, (some .int), RL, false, [(0, 10, 13, 21), (0, 10, 17, 13)])
set_option maxRecDepth 100000 in
theorem ok_L_ofRun : mj_okH m_L_ofRun 4 := ⟨⟨mj_in 810 (by decide +kernel) rfl, mj_in 0 (by decide +kernel) rfl, mj_in 811 rfl rfl⟩, by decide +kernel, by decide +kernel, by decide +kernel⟩
abbrev m_L_open : mj_M0 := (yL_open, cL_open, 4, (some .int), RL, false, [(0, 9, 12, 21), (0, 9, 15, 15)])
set_option maxRecDepth 100000 in
theorem ok_L_open : mj_okH m_L_open 3 := ⟨⟨mj_in 795 (by decide +kernel) rfl, mj_in 0 (by decide +kernel) rfl, mj_in 796 rfl rfl⟩, by decide +kernel, by decide +kernel, by decide +kernel⟩
abbrev m_L_pass : mj_M0 := (yL_pass, cL_pass, 9, (some .int), RL, false, [(0, 18, 21, 13), (0, 18, 25, 15)])
set_option maxRecDepth 100000 in
theorem ok_L_pass : mj_okH m_L_pass 8 := ⟨⟨mj_in 730 (by decide +kernel) rfl, mj_in 0 (by decide +kernel) rfl, mj_in 731 rfl rfl⟩, by decide +kernel, by decide +kernel, by decide +kernel⟩
abbrev m_L_release : mj_M0 := (yL_release, cL_release, 4, (some .int), RL, false, [(0, 16, 19, 21), (0, 16, 22, 15)])
set_option maxRecDepth 100000 in
theorem ok_L_release : mj_okH m_L_release 3 := ⟨⟨mj_in 700 (by decide +kernel) rfl, mj_in 0 (by decide +kernel) rfl, mj_in 701 rfl rfl⟩, by decide +kernel, by decide +kernel, by decide +kernel⟩
abbrev m_L_run : mj_M0 := (yL_run, cL_run, 8, (some .int), RL, false, [(0, 16, 19, 21), (0, 16, 23, 13), (0, 16, 27, 15)])
set_option maxRecDepth 100000 in
theorem ok_L_run : mj_okH m_L_run 7 := ⟨⟨mj_in 684 (by decide +kernel) rfl, mj_in 0 (by decide +kernel) rfl, mj_in 685 rfl rfl⟩, by decide +kernel, by decide +kernel, by decide +kernel⟩
abbrev m_L_search : mj_M0 := (yL_search, cL_search, 4, (some .int), RL, false, [(0, 9, 12, 21), (0, 9, 15, 15)])
set_option maxRecDepth 100000 in
theorem ok_L_search : mj_okH m_L_search 3 := ⟨⟨mj_in 752 (by decide +kernel) rfl, mj_in 0 (by decide +kernel) rfl, mj_in 753 rfl rfl⟩, by decide +kernel, by decide +kernel, by decide +kernel⟩
abbrev m_L_sweep : mj_M0 := (yL_sweep, cL_sweep, 4, (some .int), RL, false, [(0, 16, 19, 21), (0, 16, 22, 15)])
set_option maxRecDepth 100000 in
theorem ok_L_sweep : mj_okH m_L_sweep 3 := ⟨⟨mj_in 767 (by decide +kernel) rfl, mj_in 0 (by decide +kernel) rfl, mj_in 768 rfl rfl⟩, by decide +kernel, by decide +kernel, by decide +kernel⟩
abbrev m_L_test : mj_M0 := (yL_test, cL_test, 4, (some .int), RL, false, [(0, 9, 12, 21)])
set_option maxRecDepth 100000 in
theorem ok_L_test : mj_okH m_L_test 3 := ⟨⟨mj_in 760 (by decide +kernel) rfl, mj_in 0 (by decide +kernel) rfl, mj_in 761 rfl rfl⟩, by decide +kernel, by decide +kernel, by decide +kernel⟩
abbrev m_L_turn : mj_M0 := (yL_turn, cL_turn, 5, (some .int), RL, false, [(0, 17, 20, 21)])
set_option maxRecDepth 100000 in
theorem ok_L_turn : mj_okH m_L_turn 4 := ⟨⟨mj_in 693 (by decide +kernel) rfl, mj_in 0 (by decide +kernel) rfl, mj_in 694 rfl rfl⟩, by decide +kernel, by decide +kernel, by decide +kernel⟩
abbrev m_L_winch : mj_M0 := (yL_winch, cL_winch, 5, (some .int), RL, false, [(0, 17, 20, 21), (0, 17, 24, 15)])
set_option maxRecDepth 100000 in
theorem ok_L_winch : mj_okH m_L_winch 4 := ⟨⟨mj_in 774 (by decide +kernel) rfl, mj_in 0 (by decide +kernel) rfl, mj_in 775 rfl rfl⟩, by decide +kernel, by decide +kernel, by decide +kernel⟩
abbrev m_L_wouldMake : mj_M0 := (yL_wouldMake, cL_wouldMake, 7, (some .int), RL, false, [(0, 14, 17, 21), (0, 14, 21, 13)])
set_option maxRecDepth 100000 in
theorem ok_L_wouldMake : mj_okH m_L_wouldMake 6 := ⟨⟨mj_in 830 (by decide +kernel) rfl, mj_in 0 (by decide +kernel) rfl, mj_in 831 rfl rfl⟩, by decide +kernel, by decide +kernel, by decide +kernel⟩
abbrev m_L_wouldRisk : mj_M0 := (yL_wouldRisk, cL_wouldRisk, 7, (some .int), RL, false, [(0, 14, 17, 21), (0, 14, 21, 13)])
set_option maxRecDepth 100000 in
theorem ok_L_wouldRisk : mj_okH m_L_wouldRisk 6 := ⟨⟨mj_in 826 (by decide +kernel) rfl, mj_in 0 (by decide +kernel) rfl, mj_in 827 rfl rfl⟩, by decide +kernel, by decide +kernel, by decide +kernel⟩
abbrev m_X0_become : mj_M0 := (yX0_become, cX0_become, 2, none, RX0, false, [])
set_option maxRecDepth 100000 in
theorem ok_X0_become : mj_okV m_X0_become 1 := ⟨⟨mj_in 523 (by decide +kernel) rfl, mj_in 524 (by decide +kernel) rfl, mj_in 3 (by decide +kernel) rfl, mj_in 525 rfl rfl⟩, by decide +kernel, by decide +kernel, by decide +kernel⟩
abbrev m_X0_init : mj_M0 := (yX0_init, cX0_init, 1, none, RX0, true, [])
set_option maxRecDepth 100000 in
theorem ok_X0_init : mj_okI m_X0_init 0 := ⟨⟨mj_in 43 (by decide +kernel) rfl, mj_in 3 (by decide +kernel) rfl, mj_in 44 rfl rfl⟩, ⟨by decide +kernel, by decide +kernel, by decide +kernel⟩, rfl, rfl⟩
abbrev m_X0_isMoving : mj_M0 := (yX0_isMoving, cX0_isMoving, 1, (some .boolean), RX0, false, [])
set_option maxRecDepth 100000 in
theorem ok_X0_isMoving : mj_okV m_X0_isMoving 0 := ⟨⟨mj_in 382 (by decide +kernel) rfl, mj_in 383 (by decide +kernel) rfl, mj_in 3 (by decide +kernel) rfl, mj_in 384 rfl rfl⟩, by decide +kernel, by decide +kernel, by decide +kernel⟩
abbrev m_X1_bar : mj_M0 := (yX1_bar, cX1_bar, 6, (some .int), RX1, false, [])
set_option maxRecDepth 100000 in
theorem ok_X1_bar : mj_okV m_X1_bar 4 := ⟨⟨mj_in 378 (by decide +kernel) rfl, mj_in 379 (by decide +kernel) rfl, mj_in 2 (by decide +kernel) rfl, mj_in 380 rfl rfl⟩, by decide +kernel, by decide +kernel, by decide +kernel⟩
abbrev m_X1_barNow : mj_M0 := (yX1_barNow, cX1_barNow, 2, (some .int), RX1, false, [])
set_option maxRecDepth 100000 in
theorem ok_X1_barNow : mj_okV m_X1_barNow 1 := ⟨⟨mj_in 370 (by decide +kernel) rfl, mj_in 371 (by decide +kernel) rfl, mj_in 2 (by decide +kernel) rfl, mj_in 372 rfl rfl⟩, by decide +kernel, by decide +kernel, by decide +kernel⟩
abbrev m_X1_become : mj_M0 := (yX1_become, cX1_become, 3, none, RX1, false, [])
set_option maxRecDepth 100000 in
theorem ok_X1_become : mj_okV m_X1_become 1 := ⟨⟨mj_in 519 (by decide +kernel) rfl, mj_in 520 (by decide +kernel) rfl, mj_in 2 (by decide +kernel) rfl, mj_in 521 rfl rfl⟩, by decide +kernel, by decide +kernel, by decide +kernel⟩
abbrev m_X1_carrySkiers : mj_M0 := (yX1_carrySkiers, cX1_carrySkiers, 5, none, RX1, false, [])
set_option maxRecDepth 100000 in
theorem ok_X1_carrySkiers : mj_okV m_X1_carrySkiers 0 := ⟨⟨mj_in 621 (by decide +kernel) rfl, mj_in 622 (by decide +kernel) rfl, mj_in 2 (by decide +kernel) rfl, mj_in 623 rfl rfl⟩, by decide +kernel, by decide +kernel, by decide +kernel⟩
abbrev m_X1_clock : mj_M0 := (yX1_clock, cX1_clock, 1, (some .int), RX1, false, [])
set_option maxRecDepth 100000 in
theorem ok_X1_clock : mj_okV m_X1_clock 0 := ⟨⟨mj_in 542 (by decide +kernel) rfl, mj_in 543 (by decide +kernel) rfl, mj_in 2 (by decide +kernel) rfl, mj_in 544 rfl rfl⟩, by decide +kernel, by decide +kernel, by decide +kernel⟩
abbrev m_X1_depthByArea : mj_M0 := (yX1_depthByArea, cX1_depthByArea, 3, (some .int), RX1, false, [])
set_option maxRecDepth 100000 in
theorem ok_X1_depthByArea : mj_okV m_X1_depthByArea 0 := ⟨⟨mj_in 312 (by decide +kernel) rfl, mj_in 313 (by decide +kernel) rfl, mj_in 2 (by decide +kernel) rfl, mj_in 314 rfl rfl⟩, by decide +kernel, by decide +kernel, by decide +kernel⟩
abbrev m_X1_holdLifts : mj_M0 := (yX1_holdLifts, cX1_holdLifts, 3, none, RX1, false, [])
set_option maxRecDepth 100000 in
theorem ok_X1_holdLifts : mj_okV m_X1_holdLifts 1 := ⟨⟨mj_in 617 (by decide +kernel) rfl, mj_in 618 (by decide +kernel) rfl, mj_in 2 (by decide +kernel) rfl, mj_in 619 rfl rfl⟩, by decide +kernel, by decide +kernel, by decide +kernel⟩
abbrev m_X1_init : mj_M0 := (yX1_init, cX1_init, 2, none, RX1, true, [])
set_option maxRecDepth 100000 in
theorem ok_X1_init : mj_okI m_X1_init 0 := ⟨⟨mj_in 36 (by decide +kernel) rfl, mj_in 2 (by decide +kernel) rfl, mj_in 37 rfl rfl⟩, ⟨by decide +kernel, by decide +kernel, by decide +kernel⟩, rfl, rfl⟩
abbrev m_X1_isTested : mj_M0 := (yX1_isTested, cX1_isTested, 2, (some .boolean), RX1, false, [])
set_option maxRecDepth 100000 in
theorem ok_X1_isTested : mj_okV m_X1_isTested 1 := ⟨⟨mj_in 374 (by decide +kernel) rfl, mj_in 375 (by decide +kernel) rfl, mj_in 2 (by decide +kernel) rfl, mj_in 376 rfl rfl⟩, by decide +kernel, by decide +kernel, by decide +kernel⟩
abbrev m_X1_makeSnow : mj_M0 := (yX1_makeSnow, cX1_makeSnow, 5, none, RX1, false, [])
set_option maxRecDepth 100000 in
theorem ok_X1_makeSnow : mj_okV m_X1_makeSnow 2 := ⟨⟨mj_in 599 (by decide +kernel) rfl, mj_in 600 (by decide +kernel) rfl, mj_in 2 (by decide +kernel) rfl, mj_in 601 rfl rfl⟩, by decide +kernel, by decide +kernel, by decide +kernel⟩
abbrev m_X1_openRuns : mj_M0 := (yX1_openRuns, cX1_openRuns, 3, (some .int), RX1, false, [])
set_option maxRecDepth 100000 in
theorem ok_X1_openRuns : mj_okV m_X1_openRuns 0 := ⟨⟨mj_in 468 (by decide +kernel) rfl, mj_in 469 (by decide +kernel) rfl, mj_in 2 (by decide +kernel) rfl, mj_in 470 rfl rfl⟩, by decide +kernel, by decide +kernel, by decide +kernel⟩
abbrev m_X1_openRunsOf : mj_M0 := (yX1_openRunsOf, cX1_openRunsOf, 4, (some .int), RX1, false, [])
set_option maxRecDepth 100000 in
theorem ok_X1_openRunsOf : mj_okV m_X1_openRunsOf 1 := ⟨⟨mj_in 625 (by decide +kernel) rfl, mj_in 626 (by decide +kernel) rfl, mj_in 2 (by decide +kernel) rfl, mj_in 627 rfl rfl⟩, by decide +kernel, by decide +kernel, by decide +kernel⟩
abbrev m_X1_passHour : mj_M0 := (yX1_passHour, cX1_passHour, 5, none, RX1, false, [])
set_option maxRecDepth 100000 in
theorem ok_X1_passHour : mj_okV m_X1_passHour 1 := ⟨⟨mj_in 538 (by decide +kernel) rfl, mj_in 539 (by decide +kernel) rfl, mj_in 2 (by decide +kernel) rfl, mj_in 540 rfl rfl⟩, by decide +kernel, by decide +kernel, by decide +kernel⟩
abbrev m_X1_removeGuns : mj_M0 := (yX1_removeGuns, cX1_removeGuns, 2, none, RX1, false, [])
set_option maxRecDepth 100000 in
theorem ok_X1_removeGuns : mj_okV m_X1_removeGuns 0 := ⟨⟨mj_in 643 (by decide +kernel) rfl, mj_in 644 (by decide +kernel) rfl, mj_in 2 (by decide +kernel) rfl, mj_in 645 rfl rfl⟩, by decide +kernel, by decide +kernel, by decide +kernel⟩
abbrev m_X1_shareOut : mj_M0 := (yX1_shareOut, cX1_shareOut, 6, none, RX1, false, [])
set_option maxRecDepth 100000 in
theorem ok_X1_shareOut : mj_okV m_X1_shareOut 3 := ⟨⟨mj_in 629 (by decide +kernel) rfl, mj_in 630 (by decide +kernel) rfl, mj_in 2 (by decide +kernel) rfl, mj_in 631 rfl rfl⟩, by decide +kernel, by decide +kernel, by decide +kernel⟩
abbrev m_X1_skiOn : mj_M0 := (yX1_skiOn, cX1_skiOn, 6, none, RX1, false, [])
set_option maxRecDepth 100000 in
theorem ok_X1_skiOn : mj_okV m_X1_skiOn 2 := ⟨⟨mj_in 633 (by decide +kernel) rfl, mj_in 634 (by decide +kernel) rfl, mj_in 2 (by decide +kernel) rfl, mj_in 635 rfl rfl⟩, by decide +kernel, by decide +kernel, by decide +kernel⟩
abbrev m_X1_slideOn : mj_M0 := (yX1_slideOn, cX1_slideOn, 4, (some .int), RX1, false, [])
set_option maxRecDepth 100000 in
theorem ok_X1_slideOn : mj_okV m_X1_slideOn 1 := ⟨⟨mj_in 607 (by decide +kernel) rfl, mj_in 608 (by decide +kernel) rfl, mj_in 2 (by decide +kernel) rfl, mj_in 609 rfl rfl⟩, by decide +kernel, by decide +kernel, by decide +kernel⟩
abbrev m_X1_wholeArea : mj_M0 := (yX1_wholeArea, cX1_wholeArea, 3, (some .int), RX1, false, [])
set_option maxRecDepth 100000 in
theorem ok_X1_wholeArea : mj_okV m_X1_wholeArea 0 := ⟨⟨mj_in 308 (by decide +kernel) rfl, mj_in 309 (by decide +kernel) rfl, mj_in 2 (by decide +kernel) rfl, mj_in 310 rfl rfl⟩, by decide +kernel, by decide +kernel, by decide +kernel⟩
abbrev m_X1_wouldTell : mj_M0 := (yX1_wouldTell, cX1_wouldTell, 4, (some .int), RX1, false, [])
set_option maxRecDepth 100000 in
theorem ok_X1_wouldTell : mj_okV m_X1_wouldTell 2 := ⟨⟨mj_in 364 (by decide +kernel) rfl, mj_in 365 (by decide +kernel) rfl, mj_in 2 (by decide +kernel) rfl, mj_in 366 rfl rfl⟩, by decide +kernel, by decide +kernel, by decide +kernel⟩
abbrev m_X2_become : mj_M0 := (yX2_become, cX2_become, 2, none, RX2, false, [])
set_option maxRecDepth 100000 in
theorem ok_X2_become : mj_okV m_X2_become 1 := ⟨⟨mj_in 527 (by decide +kernel) rfl, mj_in 528 (by decide +kernel) rfl, mj_in 4 (by decide +kernel) rfl, mj_in 529 rfl rfl⟩, by decide +kernel, by decide +kernel, by decide +kernel⟩
abbrev m_X2_init : mj_M0 := (yX2_init, cX2_init, 1, none, RX2, true, [])
set_option maxRecDepth 100000 in
theorem ok_X2_init : mj_okI m_X2_init 0 := ⟨⟨mj_in 75 (by decide +kernel) rfl, mj_in 4 (by decide +kernel) rfl, mj_in 76 rfl rfl⟩, ⟨by decide +kernel, by decide +kernel, by decide +kernel⟩, rfl, rfl⟩
abbrev m_X2_risk : mj_M0 := (yX2_risk, cX2_risk, 1, (some .int), RX2, false, [])
set_option maxRecDepth 100000 in
theorem ok_X2_risk : mj_okV m_X2_risk 0 := ⟨⟨mj_in 331 (by decide +kernel) rfl, mj_in 332 (by decide +kernel) rfl, mj_in 4 (by decide +kernel) rfl, mj_in 333 rfl rfl⟩, by decide +kernel, by decide +kernel, by decide +kernel⟩
abbrev m_X2_shear : mj_M0 := (yX2_shear, cX2_shear, 1, (some .int), RX2, false, [])
set_option maxRecDepth 100000 in
theorem ok_X2_shear : mj_okV m_X2_shear 0 := ⟨⟨mj_in 350 (by decide +kernel) rfl, mj_in 351 (by decide +kernel) rfl, mj_in 4 (by decide +kernel) rfl, mj_in 352 rfl rfl⟩, by decide +kernel, by decide +kernel, by decide +kernel⟩
abbrev m_X2_sizeFrom : mj_M0 := (yX2_sizeFrom, cX2_sizeFrom, 2, (some .int), RX2, false, [])
set_option maxRecDepth 100000 in
theorem ok_X2_sizeFrom : mj_okV m_X2_sizeFrom 1 := ⟨⟨mj_in 355 (by decide +kernel) rfl, mj_in 356 (by decide +kernel) rfl, mj_in 4 (by decide +kernel) rfl, mj_in 357 rfl rfl⟩, by decide +kernel, by decide +kernel, by decide +kernel⟩
abbrev m_X2_weatherSnow : mj_M0 := (yX2_weatherSnow, cX2_weatherSnow, 5, none, RX2, false, [])
set_option maxRecDepth 100000 in
theorem ok_X2_weatherSnow : mj_okV m_X2_weatherSnow 3 := ⟨⟨mj_in 546 (by decide +kernel) rfl, mj_in 547 (by decide +kernel) rfl, mj_in 4 (by decide +kernel) rfl, mj_in 548 rfl rfl⟩, by decide +kernel, by decide +kernel, by decide +kernel⟩
abbrev m_X3_become : mj_M0 := (yX3_become, cX3_become, 2, none, RX3, false, [])
set_option maxRecDepth 100000 in
theorem ok_X3_become : mj_okV m_X3_become 1 := ⟨⟨mj_in 531 (by decide +kernel) rfl, mj_in 532 (by decide +kernel) rfl, mj_in 5 (by decide +kernel) rfl, mj_in 533 rfl rfl⟩, by decide +kernel, by decide +kernel, by decide +kernel⟩
abbrev m_X3_changeTop : mj_M0 := (yX3_changeTop, cX3_changeTop, 3, none, RX3, false, [])
set_option maxRecDepth 100000 in
theorem ok_X3_changeTop : mj_okV m_X3_changeTop 2 := ⟨⟨mj_in 587 (by decide +kernel) rfl, mj_in 588 (by decide +kernel) rfl, mj_in 5 (by decide +kernel) rfl, mj_in 589 rfl rfl⟩, by decide +kernel, by decide +kernel, by decide +kernel⟩
abbrev m_X3_comeDown : mj_M0 := (yX3_comeDown, cX3_comeDown, 4, none, RX3, false, [])
set_option maxRecDepth 100000 in
theorem ok_X3_comeDown : mj_okV m_X3_comeDown 2 := ⟨⟨mj_in 550 (by decide +kernel) rfl, mj_in 551 (by decide +kernel) rfl, mj_in 5 (by decide +kernel) rfl, mj_in 552 rfl rfl⟩, by decide +kernel, by decide +kernel, by decide +kernel⟩
abbrev m_X3_depthFrom : mj_M0 := (yX3_depthFrom, cX3_depthFrom, 4, (some .int), RX3, false, [])
set_option maxRecDepth 100000 in
theorem ok_X3_depthFrom : mj_okV m_X3_depthFrom 1 := ⟨⟨mj_in 320 (by decide +kernel) rfl, mj_in 321 (by decide +kernel) rfl, mj_in 5 (by decide +kernel) rfl, mj_in 322 rfl rfl⟩, by decide +kernel, by decide +kernel, by decide +kernel⟩
abbrev m_X3_drift : mj_M0 := (yX3_drift, cX3_drift, 4, none, RX3, false, [])
set_option maxRecDepth 100000 in
theorem ok_X3_drift : mj_okV m_X3_drift 3 := ⟨⟨mj_in 578 (by decide +kernel) rfl, mj_in 579 (by decide +kernel) rfl, mj_in 5 (by decide +kernel) rfl, mj_in 580 rfl rfl⟩, by decide +kernel, by decide +kernel, by decide +kernel⟩
abbrev m_X3_dropFrom : mj_M0 := (yX3_dropFrom, cX3_dropFrom, 2, none, RX3, false, [])
set_option maxRecDepth 100000 in
theorem ok_X3_dropFrom : mj_okV m_X3_dropFrom 1 := ⟨⟨mj_in 613 (by decide +kernel) rfl, mj_in 614 (by decide +kernel) rfl, mj_in 5 (by decide +kernel) rfl, mj_in 615 rfl rfl⟩, by decide +kernel, by decide +kernel, by decide +kernel⟩
abbrev m_X3_freeze : mj_M0 := (yX3_freeze, cX3_freeze, 1, none, RX3, false, [])
set_option maxRecDepth 100000 in
theorem ok_X3_freeze : mj_okV m_X3_freeze 0 := ⟨⟨mj_in 583 (by decide +kernel) rfl, mj_in 584 (by decide +kernel) rfl, mj_in 5 (by decide +kernel) rfl, mj_in 585 rfl rfl⟩, by decide +kernel, by decide +kernel, by decide +kernel⟩
abbrev m_X3_growWeak : mj_M0 := (yX3_growWeak, cX3_growWeak, 1, none, RX3, false, [])
set_option maxRecDepth 100000 in
theorem ok_X3_growWeak : mj_okV m_X3_growWeak 0 := ⟨⟨mj_in 591 (by decide +kernel) rfl, mj_in 592 (by decide +kernel) rfl, mj_in 5 (by decide +kernel) rfl, mj_in 593 rfl rfl⟩, by decide +kernel, by decide +kernel, by decide +kernel⟩
abbrev m_X3_init : mj_M0 := (yX3_init, cX3_init, 1, none, RX3, true, [])
set_option maxRecDepth 100000 in
theorem ok_X3_init : mj_okI m_X3_init 0 := ⟨⟨mj_in 81 (by decide +kernel) rfl, mj_in 5 (by decide +kernel) rfl, mj_in 82 rfl rfl⟩, ⟨by decide +kernel, by decide +kernel, by decide +kernel⟩, rfl, rfl⟩
abbrev m_X3_joinLowest : mj_M0 := (yX3_joinLowest, cX3_joinLowest, 2, none, RX3, false, [])
set_option maxRecDepth 100000 in
theorem ok_X3_joinLowest : mj_okV m_X3_joinLowest 0 := ⟨⟨mj_in 566 (by decide +kernel) rfl, mj_in 567 (by decide +kernel) rfl, mj_in 5 (by decide +kernel) rfl, mj_in 568 rfl rfl⟩, by decide +kernel, by decide +kernel, by decide +kernel⟩
abbrev m_X3_lay : mj_M0 := (yX3_lay, cX3_lay, 4, none, RX3, false, [])
set_option maxRecDepth 100000 in
theorem ok_X3_lay : mj_okV m_X3_lay 3 := ⟨⟨mj_in 562 (by decide +kernel) rfl, mj_in 563 (by decide +kernel) rfl, mj_in 5 (by decide +kernel) rfl, mj_in 564 rfl rfl⟩, by decide +kernel, by decide +kernel, by decide +kernel⟩
abbrev m_X3_melt : mj_M0 := (yX3_melt, cX3_melt, 2, none, RX3, false, [])
set_option maxRecDepth 100000 in
theorem ok_X3_melt : mj_okV m_X3_melt 1 := ⟨⟨mj_in 570 (by decide +kernel) rfl, mj_in 571 (by decide +kernel) rfl, mj_in 5 (by decide +kernel) rfl, mj_in 572 rfl rfl⟩, by decide +kernel, by decide +kernel, by decide +kernel⟩
abbrev m_X3_pressTop : mj_M0 := (yX3_pressTop, cX3_pressTop, 3, (some .int), RX3, false, [])
set_option maxRecDepth 100000 in
theorem ok_X3_pressTop : mj_okV m_X3_pressTop 0 := ⟨⟨mj_in 791 (by decide +kernel) rfl, mj_in 792 (by decide +kernel) rfl, mj_in 5 (by decide +kernel) rfl, mj_in 793 rfl rfl⟩, by decide +kernel, by decide +kernel, by decide +kernel⟩
abbrev m_X3_risk : mj_M0 := (yX3_risk, cX3_risk, 3, (some .int), RX3, false, [])
set_option maxRecDepth 100000 in
theorem ok_X3_risk : mj_okV m_X3_risk 1 := ⟨⟨mj_in 335 (by decide +kernel) rfl, mj_in 336 (by decide +kernel) rfl, mj_in 5 (by decide +kernel) rfl, mj_in 337 rfl rfl⟩, by decide +kernel, by decide +kernel, by decide +kernel⟩
abbrev m_X3_settle : mj_M0 := (yX3_settle, cX3_settle, 4, none, RX3, false, [])
set_option maxRecDepth 100000 in
theorem ok_X3_settle : mj_okV m_X3_settle 1 := ⟨⟨mj_in 595 (by decide +kernel) rfl, mj_in 596 (by decide +kernel) rfl, mj_in 5 (by decide +kernel) rfl, mj_in 597 rfl rfl⟩, by decide +kernel, by decide +kernel, by decide +kernel⟩
abbrev m_X3_shear : mj_M0 := (yX3_shear, cX3_shear, 7, (some .int), RX3, false, [])
set_option maxRecDepth 100000 in
theorem ok_X3_shear : mj_okV m_X3_shear 1 := ⟨⟨mj_in 339 (by decide +kernel) rfl, mj_in 340 (by decide +kernel) rfl, mj_in 5 (by decide +kernel) rfl, mj_in 341 rfl rfl⟩, by decide +kernel, by decide +kernel, by decide +kernel⟩
abbrev m_X3_stress : mj_M0 := (yX3_stress, cX3_stress, 6, (some .int), RX3, false, [])
set_option maxRecDepth 100000 in
theorem ok_X3_stress : mj_okV m_X3_stress 3 := ⟨⟨mj_in 343 (by decide +kernel) rfl, mj_in 344 (by decide +kernel) rfl, mj_in 5 (by decide +kernel) rfl, mj_in 345 rfl rfl⟩, by decide +kernel, by decide +kernel, by decide +kernel⟩
abbrev m_X3_thicken : mj_M0 := (yX3_thicken, cX3_thicken, 2, none, RX3, false, [])
set_option maxRecDepth 100000 in
theorem ok_X3_thicken : mj_okV m_X3_thicken 1 := ⟨⟨mj_in 558 (by decide +kernel) rfl, mj_in 559 (by decide +kernel) rfl, mj_in 5 (by decide +kernel) rfl, mj_in 560 rfl rfl⟩, by decide +kernel, by decide +kernel, by decide +kernel⟩
abbrev m_X3_thin : mj_M0 := (yX3_thin, cX3_thin, 2, none, RX3, false, [])
set_option maxRecDepth 100000 in
theorem ok_X3_thin : mj_okV m_X3_thin 1 := ⟨⟨mj_in 574 (by decide +kernel) rfl, mj_in 575 (by decide +kernel) rfl, mj_in 5 (by decide +kernel) rfl, mj_in 576 rfl rfl⟩, by decide +kernel, by decide +kernel, by decide +kernel⟩
abbrev m_X3_topIs : mj_M0 := (yX3_topIs, cX3_topIs, 2, (some .boolean), RX3, false, [])
set_option maxRecDepth 100000 in
theorem ok_X3_topIs : mj_okV m_X3_topIs 1 := ⟨⟨mj_in 554 (by decide +kernel) rfl, mj_in 555 (by decide +kernel) rfl, mj_in 5 (by decide +kernel) rfl, mj_in 556 rfl rfl⟩, by decide +kernel, by decide +kernel, by decide +kernel⟩
abbrev m_X3_wholeDepth : mj_M0 := (yX3_wholeDepth, cX3_wholeDepth, 1, (some .int), RX3, false, [])
set_option maxRecDepth 100000 in
theorem ok_X3_wholeDepth : mj_okV m_X3_wholeDepth 0 := ⟨⟨mj_in 316 (by decide +kernel) rfl, mj_in 317 (by decide +kernel) rfl, mj_in 5 (by decide +kernel) rfl, mj_in 318 rfl rfl⟩, by decide +kernel, by decide +kernel, by decide +kernel⟩
abbrev m_X4_init : mj_M0 := (yX4_init, cX4_init, 1, none, RX4, true, [])
set_option maxRecDepth 100000 in
theorem ok_X4_init : mj_okI m_X4_init 0 := ⟨⟨mj_in 265 (by decide +kernel) rfl, mj_in 6 (by decide +kernel) rfl, mj_in 266 rfl rfl⟩, ⟨by decide +kernel, by decide +kernel, by decide +kernel⟩, rfl, rfl⟩
abbrev m_X4_tell : mj_M0 := (yX4_tell, cX4_tell, 6, none, RX4, false, [])
set_option maxRecDepth 100000 in
theorem ok_X4_tell : mj_okV m_X4_tell 5 := ⟨⟨mj_in 515 (by decide +kernel) rfl, mj_in 516 (by decide +kernel) rfl, mj_in 6 (by decide +kernel) rfl, mj_in 517 rfl rfl⟩, by decide +kernel, by decide +kernel, by decide +kernel⟩
abbrev m_X5_blast : mj_M0 := (yX5_blast, cX5_blast, 3, (some .int), RX5, false, [])
set_option maxRecDepth 100000 in
theorem ok_X5_blast : mj_okV m_X5_blast 1 := ⟨⟨mj_in 741 (by decide +kernel) rfl, mj_in 742 (by decide +kernel) rfl, mj_in 1 (by decide +kernel) rfl, mj_in 743 rfl rfl⟩, by decide +kernel, by decide +kernel, by decide +kernel⟩
abbrev m_X5_close : mj_M0 := (yX5_close, cX5_close, 3, (some .int), RX5, false, [])
set_option maxRecDepth 100000 in
theorem ok_X5_close : mj_okV m_X5_close 1 := ⟨⟨mj_in 805 (by decide +kernel) rfl, mj_in 806 (by decide +kernel) rfl, mj_in 1 (by decide +kernel) rfl, mj_in 807 rfl rfl⟩, by decide +kernel, by decide +kernel, by decide +kernel⟩
abbrev m_X5_couldOpen : mj_M0 := (yX5_couldOpen, cX5_couldOpen, 6, (some .int), RX5, false, [])
set_option maxRecDepth 100000 in
theorem ok_X5_couldOpen : mj_okV m_X5_couldOpen 0 := ⟨⟨mj_in 360 (by decide +kernel) rfl, mj_in 361 (by decide +kernel) rfl, mj_in 1 (by decide +kernel) rfl, mj_in 362 rfl rfl⟩, by decide +kernel, by decide +kernel, by decide +kernel⟩
abbrev m_X5_crowd : mj_M0 := (yX5_crowd, cX5_crowd, 3, (some .int), RX5, false, [])
set_option maxRecDepth 100000 in
theorem ok_X5_crowd : mj_okV m_X5_crowd 1 := ⟨⟨mj_in 726 (by decide +kernel) rfl, mj_in 727 (by decide +kernel) rfl, mj_in 1 (by decide +kernel) rfl, mj_in 728 rfl rfl⟩, by decide +kernel, by decide +kernel, by decide +kernel⟩
abbrev m_X5_digest : mj_M0 := (yX5_digest, cX5_digest, 5, (some .long), RX5, false, [])
set_option maxRecDepth 100000 in
theorem ok_X5_digest : mj_okV m_X5_digest 0 := ⟨⟨mj_in 387 (by decide +kernel) rfl, mj_in 388 (by decide +kernel) rfl, mj_in 1 (by decide +kernel) rfl, mj_in 389 rfl rfl⟩, by decide +kernel, by decide +kernel, by decide +kernel⟩
abbrev m_X5_digestLayers : mj_M0 := (yX5_digestLayers, cX5_digestLayers, 9, (some .long), RX5, false, [])
set_option maxRecDepth 100000 in
theorem ok_X5_digestLayers : mj_okV m_X5_digestLayers 2 := ⟨⟨mj_in 503 (by decide +kernel) rfl, mj_ip 2 (by decide +kernel) rfl, mj_in 1 (by decide +kernel) rfl, mj_in 504 rfl rfl⟩, by decide +kernel, by decide +kernel, by decide +kernel⟩
abbrev m_X5_fill : mj_M0 := (yX5_fill, cX5_fill, 2, (some .int), RX5, false, [])
set_option maxRecDepth 100000 in
theorem ok_X5_fill : mj_okV m_X5_fill 1 := ⟨⟨mj_in 718 (by decide +kernel) rfl, mj_in 719 (by decide +kernel) rfl, mj_in 1 (by decide +kernel) rfl, mj_in 720 rfl rfl⟩, by decide +kernel, by decide +kernel, by decide +kernel⟩
abbrev m_X5_groom : mj_M0 := (yX5_groom, cX5_groom, 4, (some .int), RX5, false, [])
set_option maxRecDepth 100000 in
theorem ok_X5_groom : mj_okV m_X5_groom 1 := ⟨⟨mj_in 784 (by decide +kernel) rfl, mj_in 785 (by decide +kernel) rfl, mj_in 1 (by decide +kernel) rfl, mj_in 786 rfl rfl⟩, by decide +kernel, by decide +kernel, by decide +kernel⟩
abbrev m_X5_guns : mj_M0 := (yX5_guns, cX5_guns, 4, (some .int), RX5, false, [])
set_option maxRecDepth 100000 in
theorem ok_X5_guns : mj_okV m_X5_guns 2 := ⟨⟨mj_in 711 (by decide +kernel) rfl, mj_in 712 (by decide +kernel) rfl, mj_in 1 (by decide +kernel) rfl, mj_in 713 rfl rfl⟩, by decide +kernel, by decide +kernel, by decide +kernel⟩
abbrev m_X5_init : mj_M0 := (yX5_init, cX5_init, 1, none, RX5, true, [])
set_option maxRecDepth 100000 in
theorem ok_X5_init : mj_okI m_X5_init 0 := ⟨⟨mj_in 28 (by decide +kernel) rfl, mj_in 1 (by decide +kernel) rfl, mj_in 29 rfl rfl⟩, ⟨by decide +kernel, by decide +kernel, by decide +kernel⟩, rfl, rfl⟩
abbrev m_X5_lift : mj_M0 := (yX5_lift, cX5_lift, 4, (some .int), RX5, false, [])
set_option maxRecDepth 100000 in
theorem ok_X5_lift : mj_okV m_X5_lift 2 := ⟨⟨mj_in 664 (by decide +kernel) rfl, mj_in 665 (by decide +kernel) rfl, mj_in 1 (by decide +kernel) rfl, mj_in 666 rfl rfl⟩, by decide +kernel, by decide +kernel, by decide +kernel⟩
abbrev m_X5_many : mj_M0 := (yX5_many, cX5_many, 2, (some .int), RX5, false, [])
set_option maxRecDepth 100000 in
theorem ok_X5_many : mj_okV m_X5_many 1 := ⟨⟨mj_in 393 (by decide +kernel) rfl, mj_in 394 (by decide +kernel) rfl, mj_in 1 (by decide +kernel) rfl, mj_in 395 rfl rfl⟩, by decide +kernel, by decide +kernel, by decide +kernel⟩
abbrev m_X5_meanDepth : mj_M0 := (yX5_meanDepth, cX5_meanDepth, 2, (some .double), RX5, false, [])
set_option maxRecDepth 100000 in
theorem ok_X5_meanDepth : mj_okV m_X5_meanDepth 0 := ⟨⟨mj_in 304 (by decide +kernel) rfl, mj_in 305 (by decide +kernel) rfl, mj_in 1 (by decide +kernel) rfl, mj_in 306 rfl rfl⟩, by decide +kernel, by decide +kernel, by decide +kernel⟩
abbrev m_X5_nextBlast : mj_M0 := (yX5_nextBlast, cX5_nextBlast, 7, (some .int), RX5, false, [])
set_option maxRecDepth 100000 in
theorem ok_X5_nextBlast : mj_okV m_X5_nextBlast 0 := ⟨⟨mj_in 327 (by decide +kernel) rfl, mj_in 328 (by decide +kernel) rfl, mj_in 1 (by decide +kernel) rfl, mj_in 329 rfl rfl⟩, by decide +kernel, by decide +kernel, by decide +kernel⟩
abbrev m_X5_ofLayer : mj_M0 := (yX5_ofLayer, cX5_ofLayer, 5, (some .int), RX5, false, [])
set_option maxRecDepth 100000 in
theorem ok_X5_ofLayer : mj_okV m_X5_ofLayer 3 := ⟨⟨mj_in 506 (by decide +kernel) rfl, mj_in 507 (by decide +kernel) rfl, mj_in 1 (by decide +kernel) rfl, mj_in 508 rfl rfl⟩, by decide +kernel, by decide +kernel, by decide +kernel⟩
abbrev m_X5_ofLift : mj_M0 := (yX5_ofLift, cX5_ofLift, 4, (some .int), RX5, false, [])
set_option maxRecDepth 100000 in
theorem ok_X5_ofLift : mj_okV m_X5_ofLift 2 := ⟨⟨mj_in 647 (by decide +kernel) rfl, mj_in 648 (by decide +kernel) rfl, mj_in 1 (by decide +kernel) rfl, mj_in 649 rfl rfl⟩, by decide +kernel, by decide +kernel, by decide +kernel⟩
abbrev m_X5_ofRun : mj_M0 := (yX5_ofRun, cX5_ofRun, 4, (some .int), RX5, false, [])
set_option maxRecDepth 100000 in
theorem ok_X5_ofRun : mj_okV m_X5_ofRun 2 := ⟨⟨mj_in 475 (by decide +kernel) rfl, mj_in 476 (by decide +kernel) rfl, mj_in 1 (by decide +kernel) rfl, mj_in 477 rfl rfl⟩, by decide +kernel, by decide +kernel, by decide +kernel⟩
abbrev m_X5_oneIf : mj_M0 := (yX5_oneIf, cX5_oneIf, 1, (some .int), RX5, false, [])
set_option maxRecDepth 100000 in
theorem ok_X5_oneIf : mj_okS m_X5_oneIf 1 := ⟨⟨mj_in 472 (by decide +kernel) rfl, mj_in 1 (by decide +kernel) rfl, mj_in 473 rfl rfl⟩, by decide +kernel, by decide +kernel, by decide +kernel⟩
abbrev m_X5_open : mj_M0 := (yX5_open, cX5_open, 4, (some .int), RX5, false, [])
set_option maxRecDepth 100000 in
theorem ok_X5_open : mj_okV m_X5_open 1 := ⟨⟨mj_in 798 (by decide +kernel) rfl, mj_in 799 (by decide +kernel) rfl, mj_in 1 (by decide +kernel) rfl, mj_in 800 rfl rfl⟩, by decide +kernel, by decide +kernel, by decide +kernel⟩
abbrev m_X5_pass : mj_M0 := (yX5_pass, cX5_pass, 9, (some .int), RX5, false, [])
set_option maxRecDepth 100000 in
theorem ok_X5_pass : mj_okV m_X5_pass 6 := ⟨⟨mj_in 733 (by decide +kernel) rfl, mj_in 734 (by decide +kernel) rfl, mj_in 1 (by decide +kernel) rfl, mj_in 735 rfl rfl⟩, by decide +kernel, by decide +kernel, by decide +kernel⟩
abbrev m_X5_release : mj_M0 := (yX5_release, cX5_release, 4, (some .boolean), RX5, false, [])
set_option maxRecDepth 100000 in
theorem ok_X5_release : mj_okV m_X5_release 1 := ⟨⟨mj_in 703 (by decide +kernel) rfl, mj_in 704 (by decide +kernel) rfl, mj_in 1 (by decide +kernel) rfl, mj_in 705 rfl rfl⟩, by decide +kernel, by decide +kernel, by decide +kernel⟩
abbrev m_X5_requireClosed : mj_M0 := (yX5_requireClosed, cX5_requireClosed, 2, none, RX5, false, [])
set_option maxRecDepth 100000 in
theorem ok_X5_requireClosed : mj_okV m_X5_requireClosed 1 := ⟨⟨mj_in 746 (by decide +kernel) rfl, mj_ip 4 (by decide +kernel) rfl, mj_in 1 (by decide +kernel) rfl, mj_in 747 rfl rfl⟩, by decide +kernel, by decide +kernel, by decide +kernel⟩
abbrev m_X5_requireLift : mj_M0 := (yX5_requireLift, cX5_requireLift, 2, none, RX5, false, [])
set_option maxRecDepth 100000 in
theorem ok_X5_requireLift : mj_okV m_X5_requireLift 1 := ⟨⟨mj_in 652 (by decide +kernel) rfl, mj_ip 3 (by decide +kernel) rfl, mj_in 1 (by decide +kernel) rfl, mj_in 653 rfl rfl⟩, by decide +kernel, by decide +kernel, by decide +kernel⟩
abbrev m_X5_requireRun : mj_M0 := (yX5_requireRun, cX5_requireRun, 2, none, RX5, false, [])
set_option maxRecDepth 100000 in
theorem ok_X5_requireRun : mj_okV m_X5_requireRun 1 := ⟨⟨mj_in 480 (by decide +kernel) rfl, mj_ip 1 (by decide +kernel) rfl, mj_in 1 (by decide +kernel) rfl, mj_in 481 rfl rfl⟩, by decide +kernel, by decide +kernel, by decide +kernel⟩
abbrev m_X5_requireWithin : mj_M0 := (yX5_requireWithin, cX5_requireWithin, 3, none, RX5, false, [])
set_option maxRecDepth 100000 in
theorem ok_X5_requireWithin : mj_okS m_X5_requireWithin 3 := ⟨⟨mj_in 397 (by decide +kernel) rfl, mj_in 1 (by decide +kernel) rfl, mj_in 398 rfl rfl⟩, by decide +kernel, by decide +kernel, by decide +kernel⟩
abbrev m_X5_run : mj_M0 := (yX5_run, cX5_run, 8, (some .int), RX5, false, [])
set_option maxRecDepth 100000 in
theorem ok_X5_run : mj_okV m_X5_run 5 := ⟨⟨mj_in 688 (by decide +kernel) rfl, mj_in 689 (by decide +kernel) rfl, mj_in 1 (by decide +kernel) rfl, mj_in 690 rfl rfl⟩, by decide +kernel, by decide +kernel, by decide +kernel⟩
abbrev m_X5_search : mj_M0 := (yX5_search, cX5_search, 3, (some .int), RX5, false, [])
set_option maxRecDepth 100000 in
theorem ok_X5_search : mj_okV m_X5_search 1 := ⟨⟨mj_in 755 (by decide +kernel) rfl, mj_in 756 (by decide +kernel) rfl, mj_in 1 (by decide +kernel) rfl, mj_in 757 rfl rfl⟩, by decide +kernel, by decide +kernel, by decide +kernel⟩
abbrev m_X5_sweep : mj_M0 := (yX5_sweep, cX5_sweep, 3, (some .boolean), RX5, false, [])
set_option maxRecDepth 100000 in
theorem ok_X5_sweep : mj_okV m_X5_sweep 1 := ⟨⟨mj_in 770 (by decide +kernel) rfl, mj_in 771 (by decide +kernel) rfl, mj_in 1 (by decide +kernel) rfl, mj_in 772 rfl rfl⟩, by decide +kernel, by decide +kernel, by decide +kernel⟩
abbrev m_X5_test : mj_M0 := (yX5_test, cX5_test, 3, (some .int), RX5, false, [])
set_option maxRecDepth 100000 in
theorem ok_X5_test : mj_okV m_X5_test 1 := ⟨⟨mj_in 763 (by decide +kernel) rfl, mj_in 764 (by decide +kernel) rfl, mj_in 1 (by decide +kernel) rfl, mj_in 765 rfl rfl⟩, by decide +kernel, by decide +kernel, by decide +kernel⟩
abbrev m_X5_turn : mj_M0 := (yX5_turn, cX5_turn, 4, (some .boolean), RX5, false, [])
set_option maxRecDepth 100000 in
theorem ok_X5_turn : mj_okV m_X5_turn 2 := ⟨⟨mj_in 696 (by decide +kernel) rfl, mj_in 697 (by decide +kernel) rfl, mj_in 1 (by decide +kernel) rfl, mj_in 698 rfl rfl⟩, by decide +kernel, by decide +kernel, by decide +kernel⟩
abbrev m_X5_winch : mj_M0 := (yX5_winch, cX5_winch, 4, (some .boolean), RX5, false, [])
set_option maxRecDepth 100000 in
theorem ok_X5_winch : mj_okV m_X5_winch 2 := ⟨⟨mj_in 777 (by decide +kernel) rfl, mj_in 778 (by decide +kernel) rfl, mj_in 1 (by decide +kernel) rfl, mj_in 779 rfl rfl⟩, by decide +kernel, by decide +kernel, by decide +kernel⟩
abbrev m_X5_wouldMake : mj_M0 := (yX5_wouldMake, cX5_wouldMake, 6, (some .int), RX5, false, [])
set_option maxRecDepth 100000 in
theorem ok_X5_wouldMake : mj_okV m_X5_wouldMake 4 := ⟨⟨mj_in 639 (by decide +kernel) rfl, mj_in 640 (by decide +kernel) rfl, mj_in 1 (by decide +kernel) rfl, mj_in 641 rfl rfl⟩, by decide +kernel, by decide +kernel, by decide +kernel⟩
abbrev m_X5_wouldRisk : mj_M0 := (yX5_wouldRisk, cX5_wouldRisk, 7, (some .int), RX5, false, [])
set_option maxRecDepth 100000 in
theorem ok_X5_wouldRisk : mj_okV m_X5_wouldRisk 4 := ⟨⟨mj_in 511 (by decide +kernel) rfl, mj_in 512 (by decide +kernel) rfl, mj_in 1 (by decide +kernel) rfl, mj_in 513 rfl rfl⟩, by decide +kernel, by decide +kernel, by decide +kernel⟩
abbrev m_X6_blow : mj_M0 := (yX6_blow, cX6_blow, 4, none, RX6, false, [])
set_option maxRecDepth 100000 in
theorem ok_X6_blow : mj_okV m_X6_blow 3 := ⟨⟨mj_in 1125 (by decide +kernel) rfl, mj_ip 14 (by decide +kernel) rfl, mj_in 8 (by decide +kernel) rfl, mj_in 1126 rfl rfl⟩, by decide +kernel, by decide +kernel, by decide +kernel⟩
abbrev m_X6_close : mj_M0 := (yX6_close, cX6_close, 2, none, RX6, false, [])
set_option maxRecDepth 100000 in
theorem ok_X6_close : mj_okV m_X6_close 1 := ⟨⟨mj_in 1160 (by decide +kernel) rfl, mj_in 1161 (by decide +kernel) rfl, mj_in 8 (by decide +kernel) rfl, mj_in 1162 rfl rfl⟩, by decide +kernel, by decide +kernel, by decide +kernel⟩
abbrev m_X6_copy : mj_M0 := (yX6_copy, cX6_copy, 4, (some (.object "PistekeeperModel$Mountain")), RX6, false, [])
set_option maxRecDepth 100000 in
theorem ok_X6_copy : mj_okV m_X6_copy 0 := ⟨⟨mj_in 1325 (by decide +kernel) rfl, mj_in 1326 (by decide +kernel) rfl, mj_in 8 (by decide +kernel) rfl, mj_in 1327 rfl rfl⟩, by decide +kernel, by decide +kernel, by decide +kernel⟩
abbrev m_X6_init : mj_M0 := (yX6_init, cX6_init, 1, none, RX6, true, [])
set_option maxRecDepth 100000 in
theorem ok_X6_init : mj_okI m_X6_init 0 := ⟨⟨mj_in 842 (by decide +kernel) rfl, mj_in 8 (by decide +kernel) rfl, mj_in 843 rfl rfl⟩, ⟨by decide +kernel, by decide +kernel, by decide +kernel⟩, rfl, rfl⟩
abbrev m_X6_make : mj_M0 := (yX6_make, cX6_make, 4, none, RX6, false, [])
set_option maxRecDepth 100000 in
theorem ok_X6_make : mj_okV m_X6_make 2 := ⟨⟨mj_in 1135 (by decide +kernel) rfl, mj_ip 15 (by decide +kernel) rfl, mj_in 8 (by decide +kernel) rfl, mj_in 1136 rfl rfl⟩, by decide +kernel, by decide +kernel, by decide +kernel⟩
abbrev m_X6_melt : mj_M0 := (yX6_melt, cX6_melt, 3, none, RX6, false, [])
set_option maxRecDepth 100000 in
theorem ok_X6_melt : mj_okV m_X6_melt 2 := ⟨⟨mj_in 1115 (by decide +kernel) rfl, mj_ip 13 (by decide +kernel) rfl, mj_in 8 (by decide +kernel) rfl, mj_in 1116 rfl rfl⟩, by decide +kernel, by decide +kernel, by decide +kernel⟩
abbrev m_X6_opened : mj_M0 := (yX6_opened, cX6_opened, 5, (some .int), RX6, false, [])
set_option maxRecDepth 100000 in
theorem ok_X6_opened : mj_okV m_X6_opened 1 := ⟨⟨mj_in 1214 (by decide +kernel) rfl, mj_in 1215 (by decide +kernel) rfl, mj_in 8 (by decide +kernel) rfl, mj_in 1216 rfl rfl⟩, by decide +kernel, by decide +kernel, by decide +kernel⟩
abbrev m_X6_pass : mj_M0 := (yX6_pass, cX6_pass, 9, (some .int), RX6, false, [])
set_option maxRecDepth 100000 in
theorem ok_X6_pass : mj_okV m_X6_pass 5 := ⟨⟨mj_in 1081 (by decide +kernel) rfl, mj_in 1082 (by decide +kernel) rfl, mj_in 8 (by decide +kernel) rfl, mj_in 1083 rfl rfl⟩, by decide +kernel, by decide +kernel, by decide +kernel⟩
abbrev m_X6_pass_ : mj_M0 := (yX6_pass_, cX6_pass_, 14, none, RX6, false, [])
set_option maxRecDepth 100000 in
theorem ok_X6_pass_ : mj_okV m_X6_pass_ 6 := ⟨⟨mj_in 1087 (by decide +kernel) rfl, mj_ip 12 (by decide +kernel) rfl, mj_in 8 (by decide +kernel) rfl, mj_in 1088 rfl rfl⟩, by decide +kernel, by decide +kernel, by decide +kernel⟩
abbrev m_X6_ride : mj_M0 := (yX6_ride, cX6_ride, 9, none, RX6, false, [])
set_option maxRecDepth 100000 in
theorem ok_X6_ride : mj_okV m_X6_ride 0 := ⟨⟨mj_in 1211 (by decide +kernel) rfl, mj_ip 16 (by decide +kernel) rfl, mj_in 8 (by decide +kernel) rfl, mj_in 1212 rfl rfl⟩, by decide +kernel, by decide +kernel, by decide +kernel⟩
abbrev m_X6_ski : mj_M0 := (yX6_ski, cX6_ski, 6, none, RX6, false, [])
set_option maxRecDepth 100000 in
theorem ok_X6_ski : mj_okV m_X6_ski 2 := ⟨⟨mj_in 1219 (by decide +kernel) rfl, mj_ip 17 (by decide +kernel) rfl, mj_in 8 (by decide +kernel) rfl, mj_in 1220 rfl rfl⟩, by decide +kernel, by decide +kernel, by decide +kernel⟩
abbrev m_X6_slide : mj_M0 := (yX6_slide, cX6_slide, 3, (some .int), RX6, false, [])
set_option maxRecDepth 100000 in
theorem ok_X6_slide : mj_okV m_X6_slide 1 := ⟨⟨mj_in 1151 (by decide +kernel) rfl, mj_in 1152 (by decide +kernel) rfl, mj_in 8 (by decide +kernel) rfl, mj_in 1153 rfl rfl⟩, by decide +kernel, by decide +kernel, by decide +kernel⟩
abbrev m_X7_add : mj_M0 := (yX7_add, cX7_add, 4, none, RX7, false, [])
set_option maxRecDepth 100000 in
theorem ok_X7_add : mj_okS m_X7_add 4 := ⟨⟨mj_in 1107 (by decide +kernel) rfl, mj_in 7 (by decide +kernel) rfl, mj_in 1108 rfl rfl⟩, by decide +kernel, by decide +kernel, by decide +kernel⟩
abbrev m_X7_add_ : mj_M0 := (yX7_add_, cX7_add_, 2, none, RX7, false, [])
set_option maxRecDepth 100000 in
theorem ok_X7_add_ : mj_okV m_X7_add_ 1 := ⟨⟨mj_in 1373 (by decide +kernel) rfl, mj_ip 31 (by decide +kernel) rfl, mj_in 7 (by decide +kernel) rfl, mj_in 1374 rfl rfl⟩, by decide +kernel, by decide +kernel, by decide +kernel⟩
abbrev m_X7_areHours : mj_M0 := (yX7_areHours, cX7_areHours, 1, (some .boolean), RX7, false, [])
set_option maxRecDepth 100000 in
theorem ok_X7_areHours : mj_okS m_X7_areHours 1 := ⟨⟨mj_in 1075 (by decide +kernel) rfl, mj_in 7 (by decide +kernel) rfl, mj_in 1076 rfl rfl⟩, by decide +kernel, by decide +kernel, by decide +kernel⟩
abbrev m_X7_at : mj_M0 := (yX7_at, cX7_at, 3, (some .int), RX7, false, [])
set_option maxRecDepth 100000 in
theorem ok_X7_at : mj_okS m_X7_at 3 := ⟨⟨mj_in 1098 (by decide +kernel) rfl, mj_in 7 (by decide +kernel) rfl, mj_in 1099 rfl rfl⟩, by decide +kernel, by decide +kernel, by decide +kernel⟩
abbrev m_X7_bars : mj_M0 := (yX7_bars, cX7_bars, 2, (some .int), RX7, false, [])
set_option maxRecDepth 100000 in
theorem ok_X7_bars : mj_okV m_X7_bars 1 := ⟨⟨mj_in 1263 (by decide +kernel) rfl, mj_ip 20 (by decide +kernel) rfl, mj_in 7 (by decide +kernel) rfl, mj_in 1264 rfl rfl⟩, by decide +kernel, by decide +kernel, by decide +kernel⟩
abbrev m_X7_barsBelow : mj_M0 := (yX7_barsBelow, cX7_barsBelow, 7, (some .int), RX7, false, [])
set_option maxRecDepth 100000 in
theorem ok_X7_barsBelow : mj_okV m_X7_barsBelow 4 := ⟨⟨mj_in 1271 (by decide +kernel) rfl, mj_ip 22 (by decide +kernel) rfl, mj_in 7 (by decide +kernel) rfl, mj_in 1272 rfl rfl⟩, by decide +kernel, by decide +kernel, by decide +kernel⟩
abbrev m_X7_blast : mj_M0 := (yX7_blast, cX7_blast, 2, (some .int), RX7, false, [])
set_option maxRecDepth 100000 in
theorem ok_X7_blast : mj_okV m_X7_blast 1 := ⟨⟨mj_in 1222 (by decide +kernel) rfl, mj_in 1223 (by decide +kernel) rfl, mj_in 7 (by decide +kernel) rfl, mj_in 1224 rfl rfl⟩, by decide +kernel, by decide +kernel, by decide +kernel⟩
abbrev m_X7_close : mj_M0 := (yX7_close, cX7_close, 2, (some .int), RX7, false, [])
set_option maxRecDepth 100000 in
theorem ok_X7_close : mj_okV m_X7_close 1 := ⟨⟨mj_in 1274 (by decide +kernel) rfl, mj_in 1275 (by decide +kernel) rfl, mj_in 7 (by decide +kernel) rfl, mj_in 1276 rfl rfl⟩, by decide +kernel, by decide +kernel, by decide +kernel⟩
abbrev m_X7_couldNow : mj_M0 := (yX7_couldNow, cX7_couldNow, 4, (some .int), RX7, false, [])
set_option maxRecDepth 100000 in
theorem ok_X7_couldNow : mj_okV m_X7_couldNow 0 := ⟨⟨mj_in 1364 (by decide +kernel) rfl, mj_ip 30 (by decide +kernel) rfl, mj_in 7 (by decide +kernel) rfl, mj_in 1365 rfl rfl⟩, by decide +kernel, by decide +kernel, by decide +kernel⟩
abbrev m_X7_couldOpen : mj_M0 := (yX7_couldOpen, cX7_couldOpen, 1, (some .int), RX7, false, [])
set_option maxRecDepth 100000 in
theorem ok_X7_couldOpen : mj_okV m_X7_couldOpen 0 := ⟨⟨mj_in 1359 (by decide +kernel) rfl, mj_in 1360 (by decide +kernel) rfl, mj_in 7 (by decide +kernel) rfl, mj_in 1361 rfl rfl⟩, by decide +kernel, by decide +kernel, by decide +kernel⟩
abbrev m_X7_crowd : mj_M0 := (yX7_crowd, cX7_crowd, 3, (some .int), RX7, false, [])
set_option maxRecDepth 100000 in
theorem ok_X7_crowd : mj_okV m_X7_crowd 1 := ⟨⟨mj_in 1067 (by decide +kernel) rfl, mj_in 1068 (by decide +kernel) rfl, mj_in 7 (by decide +kernel) rfl, mj_in 1069 rfl rfl⟩, by decide +kernel, by decide +kernel, by decide +kernel⟩
abbrev m_X7_deepen : mj_M0 := (yX7_deepen, cX7_deepen, 2, none, RX7, false, [])
set_option maxRecDepth 100000 in
theorem ok_X7_deepen : mj_okS m_X7_deepen 2 := ⟨⟨mj_in 1101 (by decide +kernel) rfl, mj_in 7 (by decide +kernel) rfl, mj_in 1102 rfl rfl⟩, by decide +kernel, by decide +kernel, by decide +kernel⟩
abbrev m_X7_depth : mj_M0 := (yX7_depth, cX7_depth, 4, (some .int), RX7, false, [])
set_option maxRecDepth 100000 in
theorem ok_X7_depth : mj_okS m_X7_depth 2 := ⟨⟨mj_in 1147 (by decide +kernel) rfl, mj_in 7 (by decide +kernel) rfl, mj_in 1148 rfl rfl⟩, by decide +kernel, by decide +kernel, by decide +kernel⟩
abbrev m_X7_depthWith : mj_M0 := (yX7_depthWith, cX7_depthWith, 9, (some .int), RX7, false, [])
set_option maxRecDepth 100000 in
theorem ok_X7_depthWith : mj_okV m_X7_depthWith 5 := ⟨⟨mj_in 1347 (by decide +kernel) rfl, mj_ip 28 (by decide +kernel) rfl, mj_in 7 (by decide +kernel) rfl, mj_in 1348 rfl rfl⟩, by decide +kernel, by decide +kernel, by decide +kernel⟩
abbrev m_X7_digest : mj_M0 := (yX7_digest, cX7_digest, 4, (some .long), RX7, false, [])
set_option maxRecDepth 100000 in
theorem ok_X7_digest : mj_okV m_X7_digest 0 := ⟨⟨mj_in 1367 (by decide +kernel) rfl, mj_in 1368 (by decide +kernel) rfl, mj_in 7 (by decide +kernel) rfl, mj_in 1369 rfl rfl⟩, by decide +kernel, by decide +kernel, by decide +kernel⟩
abbrev m_X7_drop : mj_M0 := (yX7_drop, cX7_drop, 3, none, RX7, false, [])
set_option maxRecDepth 100000 in
theorem ok_X7_drop : mj_okS m_X7_drop 2 := ⟨⟨mj_in 1121 (by decide +kernel) rfl, mj_in 7 (by decide +kernel) rfl, mj_in 1122 rfl rfl⟩, by decide +kernel, by decide +kernel, by decide +kernel⟩
abbrev m_X7_fill : mj_M0 := (yX7_fill, cX7_fill, 2, (some .int), RX7, false, [])
set_option maxRecDepth 100000 in
theorem ok_X7_fill : mj_okV m_X7_fill 1 := ⟨⟨mj_in 1062 (by decide +kernel) rfl, mj_in 1063 (by decide +kernel) rfl, mj_in 7 (by decide +kernel) rfl, mj_in 1064 rfl rfl⟩, by decide +kernel, by decide +kernel, by decide +kernel⟩
abbrev m_X7_groom : mj_M0 := (yX7_groom, cX7_groom, 7, (some .int), RX7, false, [])
set_option maxRecDepth 100000 in
theorem ok_X7_groom : mj_okV m_X7_groom 1 := ⟨⟨mj_in 1253 (by decide +kernel) rfl, mj_in 1254 (by decide +kernel) rfl, mj_in 7 (by decide +kernel) rfl, mj_in 1255 rfl rfl⟩, by decide +kernel, by decide +kernel, by decide +kernel⟩
abbrev m_X7_guns : mj_M0 := (yX7_guns, cX7_guns, 4, (some .int), RX7, false, [])
set_option maxRecDepth 100000 in
theorem ok_X7_guns : mj_okV m_X7_guns 2 := ⟨⟨mj_in 1050 (by decide +kernel) rfl, mj_in 1051 (by decide +kernel) rfl, mj_in 7 (by decide +kernel) rfl, mj_in 1052 rfl rfl⟩, by decide +kernel, by decide +kernel, by decide +kernel⟩
abbrev m_X7_init : mj_M0 := (yX7_init, cX7_init, 1, none, RX7, true, [])
set_option maxRecDepth 100000 in
theorem ok_X7_init : mj_okI m_X7_init 0 := ⟨⟨mj_in 836 (by decide +kernel) rfl, mj_in 7 (by decide +kernel) rfl, mj_in 837 rfl rfl⟩, ⟨by decide +kernel, by decide +kernel, by decide +kernel⟩, rfl, rfl⟩
abbrev m_X7_is : mj_M0 := (yX7_is, cX7_is, 3, (some .boolean), RX7, false, [])
set_option maxRecDepth 100000 in
theorem ok_X7_is : mj_okS m_X7_is 3 := ⟨⟨mj_in 954 (by decide +kernel) rfl, mj_in 7 (by decide +kernel) rfl, mj_in 955 rfl rfl⟩, by decide +kernel, by decide +kernel, by decide +kernel⟩
abbrev m_X7_isLift : mj_M0 := (yX7_isLift, cX7_isLift, 2, (some .boolean), RX7, false, [])
set_option maxRecDepth 100000 in
theorem ok_X7_isLift : mj_okV m_X7_isLift 1 := ⟨⟨mj_in 1024 (by decide +kernel) rfl, mj_ip 9 (by decide +kernel) rfl, mj_in 7 (by decide +kernel) rfl, mj_in 1025 rfl rfl⟩, by decide +kernel, by decide +kernel, by decide +kernel⟩
abbrev m_X7_isOpen : mj_M0 := (yX7_isOpen, cX7_isOpen, 2, (some .boolean), RX7, false, [])
set_option maxRecDepth 100000 in
theorem ok_X7_isOpen : mj_okV m_X7_isOpen 1 := ⟨⟨mj_in 1227 (by decide +kernel) rfl, mj_ip 18 (by decide +kernel) rfl, mj_in 7 (by decide +kernel) rfl, mj_in 1228 rfl rfl⟩, by decide +kernel, by decide +kernel, by decide +kernel⟩
abbrev m_X7_isRun : mj_M0 := (yX7_isRun, cX7_isRun, 2, (some .boolean), RX7, false, [])
set_option maxRecDepth 100000 in
theorem ok_X7_isRun : mj_okV m_X7_isRun 1 := ⟨⟨mj_in 1055 (by decide +kernel) rfl, mj_ip 10 (by decide +kernel) rfl, mj_in 7 (by decide +kernel) rfl, mj_in 1056 rfl rfl⟩, by decide +kernel, by decide +kernel, by decide +kernel⟩
abbrev m_X7_isTested : mj_M0 := (yX7_isTested, cX7_isTested, 2, (some .boolean), RX7, false, [])
set_option maxRecDepth 100000 in
theorem ok_X7_isTested : mj_okV m_X7_isTested 1 := ⟨⟨mj_in 1267 (by decide +kernel) rfl, mj_ip 21 (by decide +kernel) rfl, mj_in 7 (by decide +kernel) rfl, mj_in 1268 rfl rfl⟩, by decide +kernel, by decide +kernel, by decide +kernel⟩
abbrev m_X7_isTop : mj_M0 := (yX7_isTop, cX7_isTop, 2, (some .boolean), RX7, false, [])
set_option maxRecDepth 100000 in
theorem ok_X7_isTop : mj_okS m_X7_isTop 2 := ⟨⟨mj_in 1092 (by decide +kernel) rfl, mj_in 7 (by decide +kernel) rfl, mj_in 1093 rfl rfl⟩, by decide +kernel, by decide +kernel, by decide +kernel⟩
abbrev m_X7_isWarmth : mj_M0 := (yX7_isWarmth, cX7_isWarmth, 1, (some .boolean), RX7, false, [])
set_option maxRecDepth 100000 in
theorem ok_X7_isWarmth : mj_okS m_X7_isWarmth 1 := ⟨⟨mj_in 1078 (by decide +kernel) rfl, mj_in 7 (by decide +kernel) rfl, mj_in 1079 rfl rfl⟩, by decide +kernel, by decide +kernel, by decide +kernel⟩
abbrev m_X7_lift : mj_M0 := (yX7_lift, cX7_lift, 4, (some .int), RX7, false, [])
set_option maxRecDepth 100000 in
theorem ok_X7_lift : mj_okV m_X7_lift 2 := ⟨⟨mj_in 950 (by decide +kernel) rfl, mj_in 951 (by decide +kernel) rfl, mj_in 7 (by decide +kernel) rfl, mj_in 952 rfl rfl⟩, by decide +kernel, by decide +kernel, by decide +kernel⟩
abbrev m_X7_makeNow : mj_M0 := (yX7_makeNow, cX7_makeNow, 5, (some .int), RX7, false, [])
set_option maxRecDepth 100000 in
theorem ok_X7_makeNow : mj_okV m_X7_makeNow 4 := ⟨⟨mj_in 1343 (by decide +kernel) rfl, mj_ip 27 (by decide +kernel) rfl, mj_in 7 (by decide +kernel) rfl, mj_in 1344 rfl rfl⟩, by decide +kernel, by decide +kernel, by decide +kernel⟩
abbrev m_X7_many : mj_M0 := (yX7_many, cX7_many, 2, (some .int), RX7, false, [])
set_option maxRecDepth 100000 in
theorem ok_X7_many : mj_okV m_X7_many 1 := ⟨⟨mj_in 1300 (by decide +kernel) rfl, mj_in 1301 (by decide +kernel) rfl, mj_in 7 (by decide +kernel) rfl, mj_in 1302 rfl rfl⟩, by decide +kernel, by decide +kernel, by decide +kernel⟩
abbrev m_X7_manyNow : mj_M0 := (yX7_manyNow, cX7_manyNow, 7, (some .int), RX7, false, [])
set_option maxRecDepth 100000 in
theorem ok_X7_manyNow : mj_okV m_X7_manyNow 1 := ⟨⟨mj_in 1305 (by decide +kernel) rfl, mj_ip 25 (by decide +kernel) rfl, mj_in 7 (by decide +kernel) rfl, mj_in 1306 rfl rfl⟩, by decide +kernel, by decide +kernel, by decide +kernel⟩
abbrev m_X7_meanDepth : mj_M0 := (yX7_meanDepth, cX7_meanDepth, 4, (some .double), RX7, false, [])
set_option maxRecDepth 100000 in
theorem ok_X7_meanDepth : mj_okV m_X7_meanDepth 0 := ⟨⟨mj_in 1313 (by decide +kernel) rfl, mj_in 1314 (by decide +kernel) rfl, mj_in 7 (by decide +kernel) rfl, mj_in 1315 rfl rfl⟩, by decide +kernel, by decide +kernel, by decide +kernel⟩
abbrev m_X7_nextBlast : mj_M0 := (yX7_nextBlast, cX7_nextBlast, 1, (some .int), RX7, false, [])
set_option maxRecDepth 100000 in
theorem ok_X7_nextBlast : mj_okV m_X7_nextBlast 0 := ⟨⟨mj_in 1350 (by decide +kernel) rfl, mj_in 1351 (by decide +kernel) rfl, mj_in 7 (by decide +kernel) rfl, mj_in 1352 rfl rfl⟩, by decide +kernel, by decide +kernel, by decide +kernel⟩
abbrev m_X7_nextNow : mj_M0 := (yX7_nextNow, cX7_nextNow, 4, (some .int), RX7, false, [])
set_option maxRecDepth 100000 in
theorem ok_X7_nextNow : mj_okV m_X7_nextNow 0 := ⟨⟨mj_in 1355 (by decide +kernel) rfl, mj_ip 29 (by decide +kernel) rfl, mj_in 7 (by decide +kernel) rfl, mj_in 1356 rfl rfl⟩, by decide +kernel, by decide +kernel, by decide +kernel⟩
abbrev m_X7_ofLayer : mj_M0 := (yX7_ofLayer, cX7_ofLayer, 4, (some .int), RX7, false, [])
set_option maxRecDepth 100000 in
theorem ok_X7_ofLayer : mj_okV m_X7_ofLayer 3 := ⟨⟨mj_in 1287 (by decide +kernel) rfl, mj_in 1288 (by decide +kernel) rfl, mj_in 7 (by decide +kernel) rfl, mj_in 1289 rfl rfl⟩, by decide +kernel, by decide +kernel, by decide +kernel⟩
abbrev m_X7_ofLift : mj_M0 := (yX7_ofLift, cX7_ofLift, 3, (some .int), RX7, false, [])
set_option maxRecDepth 100000 in
theorem ok_X7_ofLift : mj_okV m_X7_ofLift 2 := ⟨⟨mj_in 1291 (by decide +kernel) rfl, mj_in 1292 (by decide +kernel) rfl, mj_in 7 (by decide +kernel) rfl, mj_in 1293 rfl rfl⟩, by decide +kernel, by decide +kernel, by decide +kernel⟩
abbrev m_X7_ofLiftNow : mj_M0 := (yX7_ofLiftNow, cX7_ofLiftNow, 3, (some .int), RX7, false, [])
set_option maxRecDepth 100000 in
theorem ok_X7_ofLiftNow : mj_okV m_X7_ofLiftNow 2 := ⟨⟨mj_in 1296 (by decide +kernel) rfl, mj_ip 24 (by decide +kernel) rfl, mj_in 7 (by decide +kernel) rfl, mj_in 1297 rfl rfl⟩, by decide +kernel, by decide +kernel, by decide +kernel⟩
abbrev m_X7_ofRun : mj_M0 := (yX7_ofRun, cX7_ofRun, 3, (some .int), RX7, false, [])
set_option maxRecDepth 100000 in
theorem ok_X7_ofRun : mj_okV m_X7_ofRun 2 := ⟨⟨mj_in 1279 (by decide +kernel) rfl, mj_in 1280 (by decide +kernel) rfl, mj_in 7 (by decide +kernel) rfl, mj_in 1281 rfl rfl⟩, by decide +kernel, by decide +kernel, by decide +kernel⟩
abbrev m_X7_ofRunNow : mj_M0 := (yX7_ofRunNow, cX7_ofRunNow, 5, (some .int), RX7, false, [])
set_option maxRecDepth 100000 in
theorem ok_X7_ofRunNow : mj_okV m_X7_ofRunNow 2 := ⟨⟨mj_in 1284 (by decide +kernel) rfl, mj_ip 23 (by decide +kernel) rfl, mj_in 7 (by decide +kernel) rfl, mj_in 1285 rfl rfl⟩, by decide +kernel, by decide +kernel, by decide +kernel⟩
abbrev m_X7_open : mj_M0 := (yX7_open, cX7_open, 3, (some .int), RX7, false, [])
set_option maxRecDepth 100000 in
theorem ok_X7_open : mj_okV m_X7_open 1 := ⟨⟨mj_in 1258 (by decide +kernel) rfl, mj_in 1259 (by decide +kernel) rfl, mj_in 7 (by decide +kernel) rfl, mj_in 1260 rfl rfl⟩, by decide +kernel, by decide +kernel, by decide +kernel⟩
abbrev m_X7_pass : mj_M0 := (yX7_pass, cX7_pass, 9, (some .int), RX7, false, [])
set_option maxRecDepth 100000 in
theorem ok_X7_pass : mj_okV m_X7_pass 6 := ⟨⟨mj_in 1071 (by decide +kernel) rfl, mj_in 1072 (by decide +kernel) rfl, mj_in 7 (by decide +kernel) rfl, mj_in 1073 rfl rfl⟩, by decide +kernel, by decide +kernel, by decide +kernel⟩
abbrev m_X7_put : mj_M0 := (yX7_put, cX7_put, 5, none, RX7, false, [])
set_option maxRecDepth 100000 in
theorem ok_X7_put : mj_okS m_X7_put 5 := ⟨⟨mj_in 1111 (by decide +kernel) rfl, mj_in 7 (by decide +kernel) rfl, mj_in 1112 rfl rfl⟩, by decide +kernel, by decide +kernel, by decide +kernel⟩
abbrev m_X7_refuse : mj_M0 := (yX7_refuse, cX7_refuse, 2, (some .int), RX7, false, [])
set_option maxRecDepth 100000 in
theorem ok_X7_refuse : mj_okV m_X7_refuse 1 := ⟨⟨mj_in 958 (by decide +kernel) rfl, mj_ip 5 (by decide +kernel) rfl, mj_in 7 (by decide +kernel) rfl, mj_in 959 rfl rfl⟩, by decide +kernel, by decide +kernel, by decide +kernel⟩
abbrev m_X7_release : mj_M0 := (yX7_release, cX7_release, 3, (some .boolean), RX7, false, [])
set_option maxRecDepth 100000 in
theorem ok_X7_release : mj_okV m_X7_release 1 := ⟨⟨mj_in 1046 (by decide +kernel) rfl, mj_in 1047 (by decide +kernel) rfl, mj_in 7 (by decide +kernel) rfl, mj_in 1048 rfl rfl⟩, by decide +kernel, by decide +kernel, by decide +kernel⟩
abbrev m_X7_risk : mj_M0 := (yX7_risk, cX7_risk, 1, (some .int), RX7, false, [])
set_option maxRecDepth 100000 in
theorem ok_X7_risk : mj_okS m_X7_risk 1 := ⟨⟨mj_in 1138 (by decide +kernel) rfl, mj_in 7 (by decide +kernel) rfl, mj_in 1139 rfl rfl⟩, by decide +kernel, by decide +kernel, by decide +kernel⟩
abbrev m_X7_riskNow : mj_M0 := (yX7_riskNow, cX7_riskNow, 7, (some .int), RX7, false, [])
set_option maxRecDepth 100000 in
theorem ok_X7_riskNow : mj_okV m_X7_riskNow 4 := ⟨⟨mj_in 1322 (by decide +kernel) rfl, mj_ip 26 (by decide +kernel) rfl, mj_in 7 (by decide +kernel) rfl, mj_in 1323 rfl rfl⟩, by decide +kernel, by decide +kernel, by decide +kernel⟩
abbrev m_X7_run : mj_M0 := (yX7_run, cX7_run, 7, (some .int), RX7, false, [])
set_option maxRecDepth 100000 in
theorem ok_X7_run : mj_okV m_X7_run 5 := ⟨⟨mj_in 1019 (by decide +kernel) rfl, mj_in 1020 (by decide +kernel) rfl, mj_in 7 (by decide +kernel) rfl, mj_in 1021 rfl rfl⟩, by decide +kernel, by decide +kernel, by decide +kernel⟩
abbrev m_X7_runAt : mj_M0 := (yX7_runAt, cX7_runAt, 2, (some (.array .int)), RX7, false, [])
set_option maxRecDepth 100000 in
theorem ok_X7_runAt : mj_okV m_X7_runAt 1 := ⟨⟨mj_in 1059 (by decide +kernel) rfl, mj_ip 11 (by decide +kernel) rfl, mj_in 7 (by decide +kernel) rfl, mj_in 1060 rfl rfl⟩, by decide +kernel, by decide +kernel, by decide +kernel⟩
abbrev m_X7_search : mj_M0 := (yX7_search, cX7_search, 2, (some .int), RX7, false, [])
set_option maxRecDepth 100000 in
theorem ok_X7_search : mj_okV m_X7_search 1 := ⟨⟨mj_in 1232 (by decide +kernel) rfl, mj_in 1233 (by decide +kernel) rfl, mj_in 7 (by decide +kernel) rfl, mj_in 1234 rfl rfl⟩, by decide +kernel, by decide +kernel, by decide +kernel⟩
abbrev m_X7_set : mj_M0 := (yX7_set, cX7_set, 4, none, RX7, false, [])
set_option maxRecDepth 100000 in
theorem ok_X7_set : mj_okS m_X7_set 4 := ⟨⟨mj_in 1104 (by decide +kernel) rfl, mj_in 7 (by decide +kernel) rfl, mj_in 1105 rfl rfl⟩, by decide +kernel, by decide +kernel, by decide +kernel⟩
abbrev m_X7_shear : mj_M0 := (yX7_shear, cX7_shear, 4, (some .int), RX7, false, [])
set_option maxRecDepth 100000 in
theorem ok_X7_shear : mj_okS m_X7_shear 1 := ⟨⟨mj_in 1141 (by decide +kernel) rfl, mj_in 7 (by decide +kernel) rfl, mj_in 1142 rfl rfl⟩, by decide +kernel, by decide +kernel, by decide +kernel⟩
abbrev m_X7_size : mj_M0 := (yX7_size, cX7_size, 1, (some .int), RX7, false, [])
set_option maxRecDepth 100000 in
theorem ok_X7_size : mj_okS m_X7_size 1 := ⟨⟨mj_in 1155 (by decide +kernel) rfl, mj_in 7 (by decide +kernel) rfl, mj_in 1156 rfl rfl⟩, by decide +kernel, by decide +kernel, by decide +kernel⟩
abbrev m_X7_strain : mj_M0 := (yX7_strain, cX7_strain, 3, (some .int), RX7, false, [])
set_option maxRecDepth 100000 in
theorem ok_X7_strain : mj_okS m_X7_strain 2 := ⟨⟨mj_in 1144 (by decide +kernel) rfl, mj_in 7 (by decide +kernel) rfl, mj_in 1145 rfl rfl⟩, by decide +kernel, by decide +kernel, by decide +kernel⟩
abbrev m_X7_sweep : mj_M0 := (yX7_sweep, cX7_sweep, 3, (some .boolean), RX7, false, [])
set_option maxRecDepth 100000 in
theorem ok_X7_sweep : mj_okV m_X7_sweep 1 := ⟨⟨mj_in 1245 (by decide +kernel) rfl, mj_in 1246 (by decide +kernel) rfl, mj_in 7 (by decide +kernel) rfl, mj_in 1247 rfl rfl⟩, by decide +kernel, by decide +kernel, by decide +kernel⟩
abbrev m_X7_take : mj_M0 := (yX7_take, cX7_take, 3, none, RX7, false, [])
set_option maxRecDepth 100000 in
theorem ok_X7_take : mj_okS m_X7_take 2 := ⟨⟨mj_in 1118 (by decide +kernel) rfl, mj_in 7 (by decide +kernel) rfl, mj_in 1119 rfl rfl⟩, by decide +kernel, by decide +kernel, by decide +kernel⟩
abbrev m_X7_tells : mj_M0 := (yX7_tells, cX7_tells, 2, (some .int), RX7, false, [])
set_option maxRecDepth 100000 in
theorem ok_X7_tells : mj_okV m_X7_tells 1 := ⟨⟨mj_in 1241 (by decide +kernel) rfl, mj_ip 19 (by decide +kernel) rfl, mj_in 7 (by decide +kernel) rfl, mj_in 1242 rfl rfl⟩, by decide +kernel, by decide +kernel, by decide +kernel⟩
abbrev m_X7_test : mj_M0 := (yX7_test, cX7_test, 2, (some .int), RX7, false, [])
set_option maxRecDepth 100000 in
theorem ok_X7_test : mj_okV m_X7_test 1 := ⟨⟨mj_in 1236 (by decide +kernel) rfl, mj_in 1237 (by decide +kernel) rfl, mj_in 7 (by decide +kernel) rfl, mj_in 1238 rfl rfl⟩, by decide +kernel, by decide +kernel, by decide +kernel⟩
abbrev m_X7_thrown : mj_M0 := (yX7_thrown, cX7_thrown, 1, (some .int), RX7, false, [])
set_option maxRecDepth 100000 in
theorem ok_X7_thrown : mj_okV m_X7_thrown 0 := ⟨⟨mj_in 946 (by decide +kernel) rfl, mj_in 947 (by decide +kernel) rfl, mj_in 7 (by decide +kernel) rfl, mj_in 948 rfl rfl⟩, by decide +kernel, by decide +kernel, by decide +kernel⟩
abbrev m_X7_top : mj_M0 := (yX7_top, cX7_top, 1, (some .int), RX7, false, [])
set_option maxRecDepth 100000 in
theorem ok_X7_top : mj_okS m_X7_top 1 := ⟨⟨mj_in 1095 (by decide +kernel) rfl, mj_in 7 (by decide +kernel) rfl, mj_in 1096 rfl rfl⟩, by decide +kernel, by decide +kernel, by decide +kernel⟩
abbrev m_X7_turn : mj_M0 := (yX7_turn, cX7_turn, 4, (some .boolean), RX7, false, [])
set_option maxRecDepth 100000 in
theorem ok_X7_turn : mj_okV m_X7_turn 2 := ⟨⟨mj_in 1027 (by decide +kernel) rfl, mj_in 1028 (by decide +kernel) rfl, mj_in 7 (by decide +kernel) rfl, mj_in 1029 rfl rfl⟩, by decide +kernel, by decide +kernel, by decide +kernel⟩
abbrev m_X7_winch : mj_M0 := (yX7_winch, cX7_winch, 4, (some .boolean), RX7, false, [])
set_option maxRecDepth 100000 in
theorem ok_X7_winch : mj_okV m_X7_winch 2 := ⟨⟨mj_in 1249 (by decide +kernel) rfl, mj_in 1250 (by decide +kernel) rfl, mj_in 7 (by decide +kernel) rfl, mj_in 1251 rfl rfl⟩, by decide +kernel, by decide +kernel, by decide +kernel⟩
abbrev m_X7_wouldMake : mj_M0 := (yX7_wouldMake, cX7_wouldMake, 5, (some .int), RX7, false, [])
set_option maxRecDepth 100000 in
theorem ok_X7_wouldMake : mj_okV m_X7_wouldMake 4 := ⟨⟨mj_in 1338 (by decide +kernel) rfl, mj_in 1339 (by decide +kernel) rfl, mj_in 7 (by decide +kernel) rfl, mj_in 1340 rfl rfl⟩, by decide +kernel, by decide +kernel, by decide +kernel⟩
abbrev m_X7_wouldRisk : mj_M0 := (yX7_wouldRisk, cX7_wouldRisk, 5, (some .int), RX7, false, [])
set_option maxRecDepth 100000 in
theorem ok_X7_wouldRisk : mj_okV m_X7_wouldRisk 4 := ⟨⟨mj_in 1317 (by decide +kernel) rfl, mj_in 1318 (by decide +kernel) rfl, mj_in 7 (by decide +kernel) rfl, mj_in 1319 rfl rfl⟩, by decide +kernel, by decide +kernel, by decide +kernel⟩
theorem cl_L_8 : Cond.classLink RL 8 RX5 ∈ mj_TW := mj_in 25 (by decide +kernel) rfl
theorem in_X5 : Cond.instantiable RX5 4 ∈ mj_TW ∧ Cond.initialized RX5 ∈ mj_TW := ⟨mj_in 26 (by decide +kernel) rfl, mj_in 1 (by decide +kernel) rfl⟩
theorem ln_L_89 : Cond.methodLink RL 89 yX5_init ∈ mj_TW := mj_in 27 (by decide +kernel) rfl
theorem ln_X5_1 : Cond.methodLink RX5 1 ⟨"java/lang/Object", "<init>", "()V"⟩ ∈ mj_TW := mj_in 30 (by decide +kernel) rfl
theorem cl_X5_7 : Cond.classLink RX5 7 RX1 ∈ mj_TW := mj_in 33 (by decide +kernel) rfl
theorem in_X1 : Cond.instantiable RX1 16 ∈ mj_TW ∧ Cond.initialized RX1 ∈ mj_TW := ⟨mj_in 34 (by decide +kernel) rfl, mj_in 2 (by decide +kernel) rfl⟩
theorem ln_X5_9 : Cond.methodLink RX5 9 yX1_init ∈ mj_TW := mj_in 35 (by decide +kernel) rfl
theorem ln_X1_3 : Cond.methodLink RX1 3 ⟨"java/lang/Object", "<init>", "()V"⟩ ∈ mj_TW := mj_in 38 (by decide +kernel) rfl
theorem cl_X1_9 : Cond.classLink RX1 9 RX0 ∈ mj_TW := mj_in 39 (by decide +kernel) rfl
theorem in_X0 : Cond.instantiable RX0 5 ∈ mj_TW ∧ Cond.initialized RX0 ∈ mj_TW := ⟨mj_in 41 (by decide +kernel) rfl, mj_in 3 (by decide +kernel) rfl⟩
theorem ln_X0_1 : Cond.methodLink RX0 1 ⟨"java/lang/Object", "<init>", "()V"⟩ ∈ mj_TW := mj_in 45 (by decide +kernel) rfl
theorem cl_X1_18 : Cond.classLink RX1 18 RX2 ∈ mj_TW := mj_in 71 (by decide +kernel) rfl
theorem in_X2 : Cond.instantiable RX2 18 ∈ mj_TW ∧ Cond.initialized RX2 ∈ mj_TW := ⟨mj_in 73 (by decide +kernel) rfl, mj_in 4 (by decide +kernel) rfl⟩
theorem ln_X1_24 : Cond.methodLink RX1 24 yX2_init ∈ mj_TW := mj_in 74 (by decide +kernel) rfl
theorem ln_X2_3 : Cond.methodLink RX2 3 ⟨"java/lang/Object", "<init>", "()V"⟩ ∈ mj_TW := mj_in 77 (by decide +kernel) rfl
theorem cl_X2_9 : Cond.classLink RX2 9 RX3 ∈ mj_TW := mj_in 78 (by decide +kernel) rfl
theorem in_X3 : Cond.instantiable RX3 6 ∈ mj_TW ∧ Cond.initialized RX3 ∈ mj_TW := ⟨mj_in 79 (by decide +kernel) rfl, mj_in 5 (by decide +kernel) rfl⟩
theorem ln_X2_11 : Cond.methodLink RX2 11 yX3_init ∈ mj_TW := mj_in 80 (by decide +kernel) rfl
theorem ln_X3_3 : Cond.methodLink RX3 3 ⟨"java/lang/Object", "<init>", "()V"⟩ ∈ mj_TW := mj_in 83 (by decide +kernel) rfl
theorem cl_X5_22 : Cond.classLink RX5 22 RX4 ∈ mj_TW := mj_in 262 (by decide +kernel) rfl
theorem in_X4 : Cond.instantiable RX4 5 ∈ mj_TW ∧ Cond.initialized RX4 ∈ mj_TW := ⟨mj_in 263 (by decide +kernel) rfl, mj_in 6 (by decide +kernel) rfl⟩
theorem ln_X4_1 : Cond.methodLink RX4 1 ⟨"java/lang/Object", "<init>", "()V"⟩ ∈ mj_TW := mj_in 267 (by decide +kernel) rfl
theorem ln_L_165 : Cond.methodLink RL 165 yX5_meanDepth ∈ mj_TW := mj_in 303 (by decide +kernel) rfl
theorem ln_X5_267 : Cond.methodLink RX5 267 yX1_wholeArea ∈ mj_TW := mj_in 307 (by decide +kernel) rfl
theorem ln_X5_264 : Cond.methodLink RX5 264 yX1_depthByArea ∈ mj_TW := mj_in 311 (by decide +kernel) rfl
theorem ln_X1_93 : Cond.methodLink RX1 93 yX3_wholeDepth ∈ mj_TW := mj_in 315 (by decide +kernel) rfl
theorem ln_X3_38 : Cond.methodLink RX3 38 yX3_depthFrom ∈ mj_TW := mj_in 319 (by decide +kernel) rfl
theorem ln_X3_42 : Cond.methodLink RX3 42 yJ9_max_7cf53 ∈ mj_TW := mj_in 323 (by decide +kernel) rfl
theorem ln_L_177 : Cond.methodLink RL 177 yX5_nextBlast ∈ mj_TW := mj_in 326 (by decide +kernel) rfl
theorem ln_X5_143 : Cond.methodLink RX5 143 yX2_risk ∈ mj_TW := mj_in 330 (by decide +kernel) rfl
theorem ln_X2_75 : Cond.methodLink RX2 75 yX3_risk ∈ mj_TW := mj_in 334 (by decide +kernel) rfl
theorem ln_X3_62 : Cond.methodLink RX3 62 yX3_shear ∈ mj_TW := mj_in 338 (by decide +kernel) rfl
theorem ln_X3_58 : Cond.methodLink RX3 58 yX3_stress ∈ mj_TW := mj_in 342 (by decide +kernel) rfl
theorem ln_X3_48 : Cond.methodLink RX3 48 yJ9_min_7cf53 ∈ mj_TW := mj_in 346 (by decide +kernel) rfl
theorem ln_X5_212 : Cond.methodLink RX5 212 yX2_shear ∈ mj_TW := mj_in 349 (by decide +kernel) rfl
theorem ln_X2_79 : Cond.methodLink RX2 79 yX3_shear ∈ mj_TW := mj_in 353 (by decide +kernel) rfl
theorem ln_X5_283 : Cond.methodLink RX5 283 yX2_sizeFrom ∈ mj_TW := mj_in 354 (by decide +kernel) rfl
theorem ln_X2_82 : Cond.methodLink RX2 82 yX3_depthFrom ∈ mj_TW := mj_in 358 (by decide +kernel) rfl
theorem ln_L_181 : Cond.methodLink RL 181 yX5_couldOpen ∈ mj_TW := mj_in 359 (by decide +kernel) rfl
theorem ln_X5_153 : Cond.methodLink RX5 153 yX1_wouldTell ∈ mj_TW := mj_in 363 (by decide +kernel) rfl
theorem ln_X1_105 : Cond.methodLink RX1 105 yX2_risk ∈ mj_TW := mj_in 367 (by decide +kernel) rfl
theorem ln_X1_108 : Cond.methodLink RX1 108 yJ9_max_7cf53 ∈ mj_TW := mj_in 368 (by decide +kernel) rfl
theorem ln_X5_191 : Cond.methodLink RX5 191 yX1_barNow ∈ mj_TW := mj_in 369 (by decide +kernel) rfl
theorem ln_X1_114 : Cond.methodLink RX1 114 yX1_isTested ∈ mj_TW := mj_in 373 (by decide +kernel) rfl
theorem ln_X1_124 : Cond.methodLink RX1 124 yX1_bar ∈ mj_TW := mj_in 377 (by decide +kernel) rfl
theorem ln_X1_128 : Cond.methodLink RX1 128 yX0_isMoving ∈ mj_TW := mj_in 381 (by decide +kernel) rfl
theorem ln_X5_286 : Cond.methodLink RX5 286 yX1_bar ∈ mj_TW := mj_in 385 (by decide +kernel) rfl
theorem ln_L_185 : Cond.methodLink RL 185 yX5_digest ∈ mj_TW := mj_in 386 (by decide +kernel) rfl
theorem ct_X5_290 : Cond.constantLong RX5 290 (58212 : Int64) ∈ mj_TW := mj_in 390 (by decide +kernel) rfl
theorem ct_X5_292 : Cond.constantLong RX5 292 (31 : Int64) ∈ mj_TW := mj_in 391 (by decide +kernel) rfl
theorem ln_X5_294 : Cond.methodLink RX5 294 yX5_many ∈ mj_TW := mj_in 392 (by decide +kernel) rfl
theorem ln_X5_29 : Cond.methodLink RX5 29 yX5_requireWithin ∈ mj_TW := mj_in 396 (by decide +kernel) rfl
theorem cl_X5_324 : Cond.classLink RX5 324 "java/lang/IllegalArgumentException" ∈ mj_TW := mj_in 399 (by decide +kernel) rfl
theorem ln_X5_328 : Cond.methodLink RX5 328 ⟨"java/lang/IllegalArgumentException", "<init>", "(Ljava/lang/String;)V"⟩ ∈ mj_TW := mj_in 441 (by decide +kernel) rfl
theorem ln_X5_248 : Cond.methodLink RX5 248 yX1_openRuns ∈ mj_TW := mj_in 467 (by decide +kernel) rfl
theorem ln_X5_297 : Cond.methodLink RX5 297 yX5_ofRun ∈ mj_TW := mj_in 474 (by decide +kernel) rfl
theorem ln_X5_98 : Cond.methodLink RX5 98 yX5_requireRun ∈ mj_TW := mj_in 478 (by decide +kernel) rfl
theorem cl_X5_226 : Cond.classLink RX5 226 "java/lang/IndexOutOfBoundsException" ∈ mj_TW := mj_in 482 (by decide +kernel) rfl
theorem ln_X5_230 : Cond.methodLink RX5 230 ⟨"java/lang/IndexOutOfBoundsException", "<init>", "(Ljava/lang/String;)V"⟩ ∈ mj_TW := mj_in 492 (by decide +kernel) rfl
theorem ln_X5_202 : Cond.methodLink RX5 202 yX3_wholeDepth ∈ mj_TW := mj_in 498 (by decide +kernel) rfl
theorem ln_X5_208 : Cond.methodLink RX5 208 yX5_oneIf ∈ mj_TW := mj_in 499 (by decide +kernel) rfl
theorem ln_X5_215 : Cond.methodLink RX5 215 yX1_isTested ∈ mj_TW := mj_in 500 (by decide +kernel) rfl
theorem ln_X5_300 : Cond.methodLink RX5 300 yX5_digestLayers ∈ mj_TW := mj_in 501 (by decide +kernel) rfl
theorem ln_X5_320 : Cond.methodLink RX5 320 yX5_ofLayer ∈ mj_TW := mj_in 505 (by decide +kernel) rfl
theorem ln_X5_304 : Cond.methodLink RX5 304 yX5_wouldRisk ∈ mj_TW := mj_in 510 (by decide +kernel) rfl
theorem ln_X5_124 : Cond.methodLink RX5 124 yX4_tell ∈ mj_TW := mj_in 514 (by decide +kernel) rfl
theorem ln_X5_270 : Cond.methodLink RX5 270 yX1_become ∈ mj_TW := mj_in 518 (by decide +kernel) rfl
theorem ln_X1_38 : Cond.methodLink RX1 38 yX0_become ∈ mj_TW := mj_in 522 (by decide +kernel) rfl
theorem ln_X1_45 : Cond.methodLink RX1 45 yX2_become ∈ mj_TW := mj_in 526 (by decide +kernel) rfl
theorem ln_X2_22 : Cond.methodLink RX2 22 yX3_become ∈ mj_TW := mj_in 530 (by decide +kernel) rfl
theorem ln_X3_21 : Cond.methodLink RX3 21 ⟨"java/lang/System", "arraycopy", "(Ljava/lang/Object;ILjava/lang/Object;II)V"⟩ ∈ mj_TW := mj_in 534 (by decide +kernel) rfl
theorem ln_X5_128 : Cond.methodLink RX5 128 yX1_passHour ∈ mj_TW := mj_in 537 (by decide +kernel) rfl
theorem ln_X1_161 : Cond.methodLink RX1 161 yX1_clock ∈ mj_TW := mj_in 541 (by decide +kernel) rfl
theorem ln_X1_164 : Cond.methodLink RX1 164 yX2_weatherSnow ∈ mj_TW := mj_in 545 (by decide +kernel) rfl
theorem ln_X2_90 : Cond.methodLink RX2 90 yX3_comeDown ∈ mj_TW := mj_in 549 (by decide +kernel) rfl
theorem ln_X3_65 : Cond.methodLink RX3 65 yX3_topIs ∈ mj_TW := mj_in 553 (by decide +kernel) rfl
theorem ln_X3_69 : Cond.methodLink RX3 69 yX3_thicken ∈ mj_TW := mj_in 557 (by decide +kernel) rfl
theorem ln_X3_72 : Cond.methodLink RX3 72 yX3_lay ∈ mj_TW := mj_in 561 (by decide +kernel) rfl
theorem ln_X3_55 : Cond.methodLink RX3 55 yX3_joinLowest ∈ mj_TW := mj_in 565 (by decide +kernel) rfl
theorem ln_X3_76 : Cond.methodLink RX3 76 yX3_melt ∈ mj_TW := mj_in 569 (by decide +kernel) rfl
theorem ln_X3_51 : Cond.methodLink RX3 51 yX3_thin ∈ mj_TW := mj_in 573 (by decide +kernel) rfl
theorem ln_X2_100 : Cond.methodLink RX2 100 yX3_drift ∈ mj_TW := mj_in 577 (by decide +kernel) rfl
theorem ln_X2_104 : Cond.methodLink RX2 104 yX3_melt ∈ mj_TW := mj_in 581 (by decide +kernel) rfl
theorem ln_X2_108 : Cond.methodLink RX2 108 yX3_freeze ∈ mj_TW := mj_in 582 (by decide +kernel) rfl
theorem ln_X3_79 : Cond.methodLink RX3 79 yX3_changeTop ∈ mj_TW := mj_in 586 (by decide +kernel) rfl
theorem ln_X2_111 : Cond.methodLink RX2 111 yX3_growWeak ∈ mj_TW := mj_in 590 (by decide +kernel) rfl
theorem ln_X2_114 : Cond.methodLink RX2 114 yX3_settle ∈ mj_TW := mj_in 594 (by decide +kernel) rfl
theorem ln_X1_171 : Cond.methodLink RX1 171 yX1_makeSnow ∈ mj_TW := mj_in 598 (by decide +kernel) rfl
theorem ln_X1_194 : Cond.methodLink RX1 194 yJ9_min_7cf53 ∈ mj_TW := mj_in 602 (by decide +kernel) rfl
theorem ln_X1_200 : Cond.methodLink RX1 200 yX3_topIs ∈ mj_TW := mj_in 603 (by decide +kernel) rfl
theorem ln_X1_204 : Cond.methodLink RX1 204 yX3_thicken ∈ mj_TW := mj_in 604 (by decide +kernel) rfl
theorem ln_X1_207 : Cond.methodLink RX1 207 yX3_lay ∈ mj_TW := mj_in 605 (by decide +kernel) rfl
theorem ln_X1_178 : Cond.methodLink RX1 178 yX1_slideOn ∈ mj_TW := mj_in 606 (by decide +kernel) rfl
theorem ln_X1_138 : Cond.methodLink RX1 138 yX2_shear ∈ mj_TW := mj_in 610 (by decide +kernel) rfl
theorem ln_X1_141 : Cond.methodLink RX1 141 yX2_sizeFrom ∈ mj_TW := mj_in 611 (by decide +kernel) rfl
theorem ln_X1_145 : Cond.methodLink RX1 145 yX3_dropFrom ∈ mj_TW := mj_in 612 (by decide +kernel) rfl
theorem ln_X1_182 : Cond.methodLink RX1 182 yX1_holdLifts ∈ mj_TW := mj_in 616 (by decide +kernel) rfl
theorem ln_X1_185 : Cond.methodLink RX1 185 yX1_carrySkiers ∈ mj_TW := mj_in 620 (by decide +kernel) rfl
theorem ln_X1_211 : Cond.methodLink RX1 211 yX1_openRunsOf ∈ mj_TW := mj_in 624 (by decide +kernel) rfl
theorem ln_X1_218 : Cond.methodLink RX1 218 yX1_shareOut ∈ mj_TW := mj_in 628 (by decide +kernel) rfl
theorem ln_X1_221 : Cond.methodLink RX1 221 yX1_skiOn ∈ mj_TW := mj_in 632 (by decide +kernel) rfl
theorem ln_X1_227 : Cond.methodLink RX1 227 yX3_thin ∈ mj_TW := mj_in 636 (by decide +kernel) rfl
theorem ln_X5_277 : Cond.methodLink RX5 277 yJ9_max_7cf53 ∈ mj_TW := mj_in 637 (by decide +kernel) rfl
theorem ln_X5_308 : Cond.methodLink RX5 308 yX5_wouldMake ∈ mj_TW := mj_in 638 (by decide +kernel) rfl
theorem ln_X5_280 : Cond.methodLink RX5 280 yX1_removeGuns ∈ mj_TW := mj_in 642 (by decide +kernel) rfl
theorem ln_X5_311 : Cond.methodLink RX5 311 yX5_ofLift ∈ mj_TW := mj_in 646 (by decide +kernel) rfl
theorem ln_X5_56 : Cond.methodLink RX5 56 yX5_requireLift ∈ mj_TW := mj_in 650 (by decide +kernel) rfl
theorem ln_X5_244 : Cond.methodLink RX5 244 yX1_openRunsOf ∈ mj_TW := mj_in 655 (by decide +kernel) rfl
theorem ln_X5_314 : Cond.methodLink RX5 314 yX5_nextBlast ∈ mj_TW := mj_in 656 (by decide +kernel) rfl
theorem ln_X5_317 : Cond.methodLink RX5 317 yX5_couldOpen ∈ mj_TW := mj_in 657 (by decide +kernel) rfl
theorem ln_L_93 : Cond.methodLink RL 93 yL_lift ∈ mj_TW := mj_in 658 (by decide +kernel) rfl
theorem cl_L_13 : Cond.classLink RL 13 "java/lang/IllegalArgumentException" ∈ mj_TW := mj_in 661 (by decide +kernel) rfl
theorem cl_L_15 : Cond.classLink RL 15 "java/lang/IllegalStateException" ∈ mj_TW := mj_in 662 (by decide +kernel) rfl
theorem ln_L_7 : Cond.methodLink RL 7 yX5_lift ∈ mj_TW := mj_in 663 (by decide +kernel) rfl
theorem cl_X5_37 : Cond.classLink RX5 37 "java/lang/IllegalStateException" ∈ mj_TW := mj_in 667 (by decide +kernel) rfl
theorem ln_X5_41 : Cond.methodLink RX5 41 ⟨"java/lang/IllegalStateException", "<init>", "(Ljava/lang/String;)V"⟩ ∈ mj_TW := mj_in 677 (by decide +kernel) rfl
theorem ln_L_103 : Cond.methodLink RL 103 yL_run ∈ mj_TW := mj_in 683 (by decide +kernel) rfl
theorem cl_L_21 : Cond.classLink RL 21 "java/lang/IndexOutOfBoundsException" ∈ mj_TW := mj_in 686 (by decide +kernel) rfl
theorem ln_L_17 : Cond.methodLink RL 17 yX5_run ∈ mj_TW := mj_in 687 (by decide +kernel) rfl
theorem ln_L_107 : Cond.methodLink RL 107 yL_turn ∈ mj_TW := mj_in 692 (by decide +kernel) rfl
theorem ln_L_23 : Cond.methodLink RL 23 yX5_turn ∈ mj_TW := mj_in 695 (by decide +kernel) rfl
theorem ln_L_111 : Cond.methodLink RL 111 yL_release ∈ mj_TW := mj_in 699 (by decide +kernel) rfl
theorem ln_L_27 : Cond.methodLink RL 27 yX5_release ∈ mj_TW := mj_in 702 (by decide +kernel) rfl
theorem ln_L_115 : Cond.methodLink RL 115 yL_guns ∈ mj_TW := mj_in 707 (by decide +kernel) rfl
theorem ln_L_31 : Cond.methodLink RL 31 yX5_guns ∈ mj_TW := mj_in 710 (by decide +kernel) rfl
theorem ln_L_118 : Cond.methodLink RL 118 yL_fill ∈ mj_TW := mj_in 714 (by decide +kernel) rfl
theorem ln_L_34 : Cond.methodLink RL 34 yX5_fill ∈ mj_TW := mj_in 717 (by decide +kernel) rfl
theorem ln_X5_107 : Cond.methodLink RX5 107 yJ9_min_7cf53 ∈ mj_TW := mj_in 721 (by decide +kernel) rfl
theorem ln_L_121 : Cond.methodLink RL 121 yL_crowd ∈ mj_TW := mj_in 722 (by decide +kernel) rfl
theorem ln_L_38 : Cond.methodLink RL 38 yX5_crowd ∈ mj_TW := mj_in 725 (by decide +kernel) rfl
theorem ln_L_124 : Cond.methodLink RL 124 yL_pass ∈ mj_TW := mj_in 729 (by decide +kernel) rfl
theorem ln_L_41 : Cond.methodLink RL 41 yX5_pass ∈ mj_TW := mj_in 732 (by decide +kernel) rfl
theorem ln_L_128 : Cond.methodLink RL 128 yL_blast ∈ mj_TW := mj_in 737 (by decide +kernel) rfl
theorem ln_L_45 : Cond.methodLink RL 45 yX5_blast ∈ mj_TW := mj_in 740 (by decide +kernel) rfl
theorem ln_X5_132 : Cond.methodLink RX5 132 yX5_requireClosed ∈ mj_TW := mj_in 744 (by decide +kernel) rfl
theorem ln_X5_147 : Cond.methodLink RX5 147 yX1_slideOn ∈ mj_TW := mj_in 750 (by decide +kernel) rfl
theorem ln_L_131 : Cond.methodLink RL 131 yL_search ∈ mj_TW := mj_in 751 (by decide +kernel) rfl
theorem ln_L_48 : Cond.methodLink RL 48 yX5_search ∈ mj_TW := mj_in 754 (by decide +kernel) rfl
theorem ln_L_134 : Cond.methodLink RL 134 yL_test ∈ mj_TW := mj_in 759 (by decide +kernel) rfl
theorem ln_L_51 : Cond.methodLink RL 51 yX5_test ∈ mj_TW := mj_in 762 (by decide +kernel) rfl
theorem ln_L_137 : Cond.methodLink RL 137 yL_sweep ∈ mj_TW := mj_in 766 (by decide +kernel) rfl
theorem ln_L_54 : Cond.methodLink RL 54 yX5_sweep ∈ mj_TW := mj_in 769 (by decide +kernel) rfl
theorem ln_L_140 : Cond.methodLink RL 140 yL_winch ∈ mj_TW := mj_in 773 (by decide +kernel) rfl
theorem ln_L_57 : Cond.methodLink RL 57 yX5_winch ∈ mj_TW := mj_in 776 (by decide +kernel) rfl
theorem ln_L_143 : Cond.methodLink RL 143 yL_groom ∈ mj_TW := mj_in 780 (by decide +kernel) rfl
theorem ln_L_60 : Cond.methodLink RL 60 yX5_groom ∈ mj_TW := mj_in 783 (by decide +kernel) rfl
theorem ln_X5_173 : Cond.methodLink RX5 173 yX1_clock ∈ mj_TW := mj_in 787 (by decide +kernel) rfl
theorem ln_X5_188 : Cond.methodLink RX5 188 yX3_pressTop ∈ mj_TW := mj_in 790 (by decide +kernel) rfl
theorem ln_L_146 : Cond.methodLink RL 146 yL_open ∈ mj_TW := mj_in 794 (by decide +kernel) rfl
theorem ln_L_63 : Cond.methodLink RL 63 yX5_open ∈ mj_TW := mj_in 797 (by decide +kernel) rfl
theorem ln_L_149 : Cond.methodLink RL 149 yL_close ∈ mj_TW := mj_in 801 (by decide +kernel) rfl
theorem ln_L_66 : Cond.methodLink RL 66 yX5_close ∈ mj_TW := mj_in 804 (by decide +kernel) rfl
theorem ln_L_152 : Cond.methodLink RL 152 yL_ofRun ∈ mj_TW := mj_in 809 (by decide +kernel) rfl
theorem ln_L_69 : Cond.methodLink RL 69 yX5_ofRun ∈ mj_TW := mj_in 812 (by decide +kernel) rfl
theorem ln_L_155 : Cond.methodLink RL 155 yL_ofLayer ∈ mj_TW := mj_in 813 (by decide +kernel) rfl
theorem ln_L_72 : Cond.methodLink RL 72 yX5_ofLayer ∈ mj_TW := mj_in 816 (by decide +kernel) rfl
theorem ln_L_159 : Cond.methodLink RL 159 yL_ofLift ∈ mj_TW := mj_in 817 (by decide +kernel) rfl
theorem ln_L_76 : Cond.methodLink RL 76 yX5_ofLift ∈ mj_TW := mj_in 820 (by decide +kernel) rfl
theorem ln_L_162 : Cond.methodLink RL 162 yL_many ∈ mj_TW := mj_in 821 (by decide +kernel) rfl
theorem ln_L_79 : Cond.methodLink RL 79 yX5_many ∈ mj_TW := mj_in 824 (by decide +kernel) rfl
theorem ln_L_170 : Cond.methodLink RL 170 yL_wouldRisk ∈ mj_TW := mj_in 825 (by decide +kernel) rfl
theorem ln_L_82 : Cond.methodLink RL 82 yX5_wouldRisk ∈ mj_TW := mj_in 828 (by decide +kernel) rfl
theorem ln_L_174 : Cond.methodLink RL 174 yL_wouldMake ∈ mj_TW := mj_in 829 (by decide +kernel) rfl
theorem ln_L_86 : Cond.methodLink RL 86 yX5_wouldMake ∈ mj_TW := mj_in 832 (by decide +kernel) rfl
theorem cl_L_90 : Cond.classLink RL 90 RX7 ∈ mj_TW := mj_in 833 (by decide +kernel) rfl
theorem in_X7 : Cond.instantiable RX7 7 ∈ mj_TW ∧ Cond.initialized RX7 ∈ mj_TW := ⟨mj_in 834 (by decide +kernel) rfl, mj_in 7 (by decide +kernel) rfl⟩
theorem ln_L_92 : Cond.methodLink RL 92 yX7_init ∈ mj_TW := mj_in 835 (by decide +kernel) rfl
theorem ln_X7_3 : Cond.methodLink RX7 3 ⟨"java/lang/Object", "<init>", "()V"⟩ ∈ mj_TW := mj_in 838 (by decide +kernel) rfl
theorem cl_X7_9 : Cond.classLink RX7 9 RX6 ∈ mj_TW := mj_in 839 (by decide +kernel) rfl
theorem in_X6 : Cond.instantiable RX6 12 ∈ mj_TW ∧ Cond.initialized RX6 ∈ mj_TW := ⟨mj_in 840 (by decide +kernel) rfl, mj_in 8 (by decide +kernel) rfl⟩
theorem ln_X6_3 : Cond.methodLink RX6 3 ⟨"java/lang/Object", "<init>", "()V"⟩ ∈ mj_TW := mj_in 844 (by decide +kernel) rfl
theorem cl_X6_9 : Cond.classLink RX6 9 RJx4a65c ∈ mj_TW := mj_in 845 (by decide +kernel) rfl
theorem in_Jx4a65c : Cond.instantiable RJx4a65c 3 ∈ mj_TW ∧ Cond.initialized RJx4a65c ∈ mj_TW := ⟨mj_in 846 (by decide +kernel) rfl, mj_in 11 (by decide +kernel) rfl⟩
theorem ln_X6_11 : Cond.methodLink RX6 11 yJx4a65c_init_da8c8 ∈ mj_TW := mj_in 847 (by decide +kernel) rfl
theorem ln_Jx4a65c_1 : Cond.methodLink RJx4a65c 1 yJxc12de_init_da8c8 ∈ mj_TW := mj_in 850 (by decide +kernel) rfl
theorem ln_Jxc12de_1 : Cond.methodLink RJxc12de 1 yJxa1e45_init_da8c8 ∈ mj_TW := mj_in 853 (by decide +kernel) rfl
theorem ln_Jxa1e45_1 : Cond.methodLink RJxa1e45 1 ⟨"java/lang/Object", "<init>", "()V"⟩ ∈ mj_TW := mj_in 856 (by decide +kernel) rfl
theorem ln_L_99 : Cond.methodLink RL 99 yX7_thrown ∈ mj_TW := mj_in 945 (by decide +kernel) rfl
theorem ln_L_98 : Cond.methodLink RL 98 yX7_lift ∈ mj_TW := mj_in 949 (by decide +kernel) rfl
theorem ln_X7_78 : Cond.methodLink RX7 78 yX7_is ∈ mj_TW := mj_in 953 (by decide +kernel) rfl
theorem ln_X7_95 : Cond.methodLink RX7 95 yX7_refuse ∈ mj_TW := mj_in 956 (by decide +kernel) rfl
theorem ln_X7_72 : Cond.methodLink RX7 72 yJx4a65c_size_8abf5 ∈ mj_TW := mj_in 960 (by decide +kernel) rfl
theorem ln_X7_99 : Cond.methodLink RX7 99 yJx4a65c_add_9ea2d ∈ mj_TW := mj_in 964 (by decide +kernel) rfl
theorem ln_Jx4a65c_131 : Cond.methodLink RJx4a65c 131 yJx4a65c_add_72be8 ∈ mj_TW := mj_in 968 (by decide +kernel) rfl
theorem ln_Jx4a65c_129 : Cond.methodLink RJx4a65c 129 yJx4a65c_grow_d5877 ∈ mj_TW := mj_in 972 (by decide +kernel) rfl
theorem ln_Jx4a65c_69 : Cond.methodLink RJx4a65c 69 yJx4a65c_grow_92f84 ∈ mj_TW := mj_in 976 (by decide +kernel) rfl
theorem ln_Jx4a65c_73 : Cond.methodLink RJx4a65c 73 yJ8_newLength_cabcc ∈ mj_TW := mj_in 980 (by decide +kernel) rfl
theorem ln_J8_194 : Cond.methodLink RJ8 194 yJ9_max_7cf53 ∈ mj_TW := mj_in 983 (by decide +kernel) rfl
theorem ct_J8_200 : Cond.constant RJ8 200 (2147483639 : Int32) ∈ mj_TW := mj_in 984 (by decide +kernel) rfl
theorem ln_J8_201 : Cond.methodLink RJ8 201 yJ8_hugeLength_7cf53 ∈ mj_TW := mj_in 985 (by decide +kernel) rfl
theorem ln_Jx4a65c_66 : Cond.methodLink RJx4a65c 66 yJ7_copyOf_1904c ∈ mj_TW := mj_in 988 (by decide +kernel) rfl
theorem ln_J7_86 : Cond.methodLink RJ7 86 ⟨"java/lang/Object", "getClass", "()Ljava/lang/Class;"⟩ ∈ mj_TW := mj_in 991 (by decide +kernel) rfl
theorem ln_J7_300 : Cond.methodLink RJ7 300 yJ7_copyOf_6403c ∈ mj_TW := mj_in 1008 (by decide +kernel) rfl
theorem cl_J7_110 : Cond.classLink RJ7 110 "[Ljava/lang/Object;" ∈ mj_TW := mj_in 1011 (by decide +kernel) rfl
theorem cl_J7_2 : Cond.classLink RJ7 2 "java/lang/Object" ∈ mj_TW := mj_in 1013 (by decide +kernel) rfl
theorem ln_J7_304 : Cond.methodLink RJ7 304 yJ9_min_7cf53 ∈ mj_TW := mj_in 1014 (by decide +kernel) rfl
theorem ln_J7_150 : Cond.methodLink RJ7 150 ⟨"java/lang/System", "arraycopy", "(Ljava/lang/Object;ILjava/lang/Object;II)V"⟩ ∈ mj_TW := mj_in 1015 (by decide +kernel) rfl
theorem ln_Jx4a65c_79 : Cond.methodLink RJx4a65c 79 yJ9_max_7cf53 ∈ mj_TW := mj_in 1016 (by decide +kernel) rfl
theorem cl_Jx4a65c_7 : Cond.classLink RJx4a65c 7 "java/lang/Object" ∈ mj_TW := mj_in 1017 (by decide +kernel) rfl
theorem ln_L_106 : Cond.methodLink RL 106 yX7_run ∈ mj_TW := mj_in 1018 (by decide +kernel) rfl
theorem ln_X7_103 : Cond.methodLink RX7 103 yX7_isLift ∈ mj_TW := mj_in 1022 (by decide +kernel) rfl
theorem ln_L_110 : Cond.methodLink RL 110 yX7_turn ∈ mj_TW := mj_in 1026 (by decide +kernel) rfl
theorem ln_X7_85 : Cond.methodLink RX7 85 yJx4a65c_get_915e3 ∈ mj_TW := mj_in 1030 (by decide +kernel) rfl
theorem ln_Jx4a65c_118 : Cond.methodLink RJx4a65c 118 yJ15_checkIndex_7cf53 ∈ mj_TW := mj_in 1034 (by decide +kernel) rfl
theorem ln_J15_105 : Cond.methodLink RJ15 105 yJ3_checkIndex_8e157 ∈ mj_TW := mj_in 1037 (by decide +kernel) rfl
theorem ln_Jx4a65c_123 : Cond.methodLink RJx4a65c 123 yJx4a65c_elementData_915e3 ∈ mj_TW := mj_in 1040 (by decide +kernel) rfl
theorem cl_X7_89 : Cond.classLink RX7 89 "[I" ∈ mj_TW := mj_in 1044 (by decide +kernel) rfl
theorem ln_L_114 : Cond.methodLink RL 114 yX7_release ∈ mj_TW := mj_in 1045 (by decide +kernel) rfl
theorem ln_L_117 : Cond.methodLink RL 117 yX7_guns ∈ mj_TW := mj_in 1049 (by decide +kernel) rfl
theorem ln_X7_110 : Cond.methodLink RX7 110 yX7_isRun ∈ mj_TW := mj_in 1053 (by decide +kernel) rfl
theorem ln_X7_91 : Cond.methodLink RX7 91 yX7_runAt ∈ mj_TW := mj_in 1057 (by decide +kernel) rfl
theorem ln_L_120 : Cond.methodLink RL 120 yX7_fill ∈ mj_TW := mj_in 1061 (by decide +kernel) rfl
theorem ln_X7_38 : Cond.methodLink RX7 38 yJ9_min_7cf53 ∈ mj_TW := mj_in 1065 (by decide +kernel) rfl
theorem ln_L_123 : Cond.methodLink RL 123 yX7_crowd ∈ mj_TW := mj_in 1066 (by decide +kernel) rfl
theorem ln_L_127 : Cond.methodLink RL 127 yX7_pass ∈ mj_TW := mj_in 1070 (by decide +kernel) rfl
theorem ln_X7_119 : Cond.methodLink RX7 119 yX7_areHours ∈ mj_TW := mj_in 1074 (by decide +kernel) rfl
theorem ln_X7_122 : Cond.methodLink RX7 122 yX7_isWarmth ∈ mj_TW := mj_in 1077 (by decide +kernel) rfl
theorem ln_X7_128 : Cond.methodLink RX7 128 yX6_pass ∈ mj_TW := mj_in 1080 (by decide +kernel) rfl
theorem ln_X6_75 : Cond.methodLink RX6 75 yJx4a65c_size_8abf5 ∈ mj_TW := mj_in 1084 (by decide +kernel) rfl
theorem ln_X6_78 : Cond.methodLink RX6 78 yX6_pass_ ∈ mj_TW := mj_in 1085 (by decide +kernel) rfl
theorem ln_X6_89 : Cond.methodLink RX6 89 yJx4a65c_get_915e3 ∈ mj_TW := mj_in 1089 (by decide +kernel) rfl
theorem cl_X6_43 : Cond.classLink RX6 43 "[I" ∈ mj_TW := mj_in 1090 (by decide +kernel) rfl
theorem ln_X7_26 : Cond.methodLink RX7 26 yX7_top ∈ mj_TW := mj_in 1094 (by decide +kernel) rfl
theorem ln_X7_30 : Cond.methodLink RX7 30 yX7_at ∈ mj_TW := mj_in 1097 (by decide +kernel) rfl
theorem ln_X7_34 : Cond.methodLink RX7 34 yX7_set ∈ mj_TW := mj_in 1103 (by decide +kernel) rfl
theorem ln_X7_44 : Cond.methodLink RX7 44 ⟨"java/lang/System", "arraycopy", "(Ljava/lang/Object;ILjava/lang/Object;II)V"⟩ ∈ mj_TW := mj_in 1109 (by decide +kernel) rfl
theorem ln_X7_50 : Cond.methodLink RX7 50 yX7_put ∈ mj_TW := mj_in 1110 (by decide +kernel) rfl
theorem ln_X6_103 : Cond.methodLink RX6 103 yX6_melt ∈ mj_TW := mj_in 1113 (by decide +kernel) rfl
theorem ln_X7_54 : Cond.methodLink RX7 54 yX7_drop ∈ mj_TW := mj_in 1120 (by decide +kernel) rfl
theorem ln_X6_106 : Cond.methodLink RX6 106 yX6_blow ∈ mj_TW := mj_in 1123 (by decide +kernel) rfl
theorem ln_X6_124 : Cond.methodLink RX6 124 yJ9_min_7cf53 ∈ mj_TW := mj_in 1132 (by decide +kernel) rfl
theorem ln_X6_130 : Cond.methodLink RX6 130 yX6_make ∈ mj_TW := mj_in 1133 (by decide +kernel) rfl
theorem ln_X7_65 : Cond.methodLink RX7 65 yX7_shear ∈ mj_TW := mj_in 1140 (by decide +kernel) rfl
theorem ln_X7_62 : Cond.methodLink RX7 62 yX7_strain ∈ mj_TW := mj_in 1143 (by decide +kernel) rfl
theorem ln_X7_58 : Cond.methodLink RX7 58 yX7_depth ∈ mj_TW := mj_in 1146 (by decide +kernel) rfl
theorem ln_X6_139 : Cond.methodLink RX6 139 yJ9_max_7cf53 ∈ mj_TW := mj_in 1149 (by decide +kernel) rfl
theorem ln_X6_142 : Cond.methodLink RX6 142 yX6_slide ∈ mj_TW := mj_in 1150 (by decide +kernel) rfl
theorem ln_X6_148 : Cond.methodLink RX6 148 yX6_close ∈ mj_TW := mj_in 1159 (by decide +kernel) rfl
theorem ln_X6_29 : Cond.methodLink RX6 29 yJx4a65c_iterator_32c93 ∈ mj_TW := mj_in 1163 (by decide +kernel) rfl
theorem cl_Jx4a65c_267 : Cond.classLink RJx4a65c 267 RJx35411 ∈ mj_TW := mj_in 1167 (by decide +kernel) rfl
theorem in_Jx35411 : Cond.instantiable RJx35411 4 ∈ mj_TW ∧ Cond.initialized RJx35411 ∈ mj_TW := ⟨mj_in 1168 (by decide +kernel) rfl, mj_in 24 (by decide +kernel) rfl⟩
theorem ln_Jx4a65c_269 : Cond.methodLink RJx4a65c 269 yJx35411_init_45d68 ∈ mj_TW := mj_in 1169 (by decide +kernel) rfl
theorem ln_Jx35411_7 : Cond.methodLink RJx35411 7 ⟨"java/lang/Object", "<init>", "()V"⟩ ∈ mj_TW := mj_in 1172 (by decide +kernel) rfl
theorem ln_X6_33 : Cond.methodLink RX6 33 ⟨"java/util/Iterator", "hasNext", "()Z"⟩ ∈ mj_TW := mj_in 1187 (by decide +kernel) rfl
theorem ln_X6_39 : Cond.methodLink RX6 39 ⟨"java/util/Iterator", "next", "()Ljava/lang/Object;"⟩ ∈ mj_TW := mj_in 1197 (by decide +kernel) rfl
theorem ln_Jx35411_31 : Cond.methodLink RJx35411 31 yJx35411_checkForComodification_da8c8 ∈ mj_TW := mj_in 1205 (by decide +kernel) rfl
theorem ln_X6_86 : Cond.methodLink RX6 86 yX6_ride ∈ mj_TW := mj_in 1209 (by decide +kernel) rfl
theorem ln_X6_155 : Cond.methodLink RX6 155 yX6_opened ∈ mj_TW := mj_in 1213 (by decide +kernel) rfl
theorem ln_X6_159 : Cond.methodLink RX6 159 yX6_ski ∈ mj_TW := mj_in 1217 (by decide +kernel) rfl
theorem ln_L_130 : Cond.methodLink RL 130 yX7_blast ∈ mj_TW := mj_in 1221 (by decide +kernel) rfl
theorem ln_X7_132 : Cond.methodLink RX7 132 yX7_isOpen ∈ mj_TW := mj_in 1225 (by decide +kernel) rfl
theorem ln_X7_138 : Cond.methodLink RX7 138 yX7_risk ∈ mj_TW := mj_in 1229 (by decide +kernel) rfl
theorem ln_X7_141 : Cond.methodLink RX7 141 yX6_slide ∈ mj_TW := mj_in 1230 (by decide +kernel) rfl
theorem ln_L_133 : Cond.methodLink RL 133 yX7_search ∈ mj_TW := mj_in 1231 (by decide +kernel) rfl
theorem ln_L_136 : Cond.methodLink RL 136 yX7_test ∈ mj_TW := mj_in 1235 (by decide +kernel) rfl
theorem ln_X7_147 : Cond.methodLink RX7 147 yX7_tells ∈ mj_TW := mj_in 1239 (by decide +kernel) rfl
theorem ln_X7_144 : Cond.methodLink RX7 144 yJ9_max_7cf53 ∈ mj_TW := mj_in 1243 (by decide +kernel) rfl
theorem ln_L_139 : Cond.methodLink RL 139 yX7_sweep ∈ mj_TW := mj_in 1244 (by decide +kernel) rfl
theorem ln_L_142 : Cond.methodLink RL 142 yX7_winch ∈ mj_TW := mj_in 1248 (by decide +kernel) rfl
theorem ln_L_145 : Cond.methodLink RL 145 yX7_groom ∈ mj_TW := mj_in 1252 (by decide +kernel) rfl
theorem ln_X7_150 : Cond.methodLink RX7 150 yX7_add ∈ mj_TW := mj_in 1256 (by decide +kernel) rfl
theorem ln_L_148 : Cond.methodLink RL 148 yX7_open ∈ mj_TW := mj_in 1257 (by decide +kernel) rfl
theorem ln_X7_159 : Cond.methodLink RX7 159 yX7_bars ∈ mj_TW := mj_in 1261 (by decide +kernel) rfl
theorem ln_X7_152 : Cond.methodLink RX7 152 yX7_isTested ∈ mj_TW := mj_in 1265 (by decide +kernel) rfl
theorem ln_X7_155 : Cond.methodLink RX7 155 yX7_barsBelow ∈ mj_TW := mj_in 1269 (by decide +kernel) rfl
theorem ln_L_151 : Cond.methodLink RL 151 yX7_close ∈ mj_TW := mj_in 1273 (by decide +kernel) rfl
theorem ln_X7_162 : Cond.methodLink RX7 162 yX6_close ∈ mj_TW := mj_in 1277 (by decide +kernel) rfl
theorem ln_L_154 : Cond.methodLink RL 154 yX7_ofRun ∈ mj_TW := mj_in 1278 (by decide +kernel) rfl
theorem ln_X7_166 : Cond.methodLink RX7 166 yX7_ofRunNow ∈ mj_TW := mj_in 1282 (by decide +kernel) rfl
theorem ln_L_158 : Cond.methodLink RL 158 yX7_ofLayer ∈ mj_TW := mj_in 1286 (by decide +kernel) rfl
theorem ln_L_161 : Cond.methodLink RL 161 yX7_ofLift ∈ mj_TW := mj_in 1290 (by decide +kernel) rfl
theorem ln_X7_172 : Cond.methodLink RX7 172 yX7_ofLiftNow ∈ mj_TW := mj_in 1294 (by decide +kernel) rfl
theorem ln_X7_169 : Cond.methodLink RX7 169 yX6_opened ∈ mj_TW := mj_in 1298 (by decide +kernel) rfl
theorem ln_L_164 : Cond.methodLink RL 164 yX7_many ∈ mj_TW := mj_in 1299 (by decide +kernel) rfl
theorem ln_X7_204 : Cond.methodLink RX7 204 yX7_manyNow ∈ mj_TW := mj_in 1303 (by decide +kernel) rfl
theorem ln_X7_175 : Cond.methodLink RX7 175 yJx4a65c_iterator_32c93 ∈ mj_TW := mj_in 1307 (by decide +kernel) rfl
theorem ln_X7_179 : Cond.methodLink RX7 179 ⟨"java/util/Iterator", "hasNext", "()Z"⟩ ∈ mj_TW := mj_in 1309 (by decide +kernel) rfl
theorem ln_X7_185 : Cond.methodLink RX7 185 ⟨"java/util/Iterator", "next", "()Ljava/lang/Object;"⟩ ∈ mj_TW := mj_in 1311 (by decide +kernel) rfl
theorem ln_L_169 : Cond.methodLink RL 169 yX7_meanDepth ∈ mj_TW := mj_in 1312 (by decide +kernel) rfl
theorem ln_L_173 : Cond.methodLink RL 173 yX7_wouldRisk ∈ mj_TW := mj_in 1316 (by decide +kernel) rfl
theorem ln_X7_217 : Cond.methodLink RX7 217 yX7_riskNow ∈ mj_TW := mj_in 1320 (by decide +kernel) rfl
theorem ln_X7_207 : Cond.methodLink RX7 207 yX6_copy ∈ mj_TW := mj_in 1324 (by decide +kernel) rfl
theorem cl_X6_13 : Cond.classLink RX6 13 RX6 ∈ mj_TW := mj_in 1328 (by decide +kernel) rfl
theorem ln_X6_28 : Cond.methodLink RX6 28 yX6_init ∈ mj_TW := mj_in 1329 (by decide +kernel) rfl
theorem ln_X6_45 : Cond.methodLink RX6 45 ⟨"[I", "clone", "()Ljava/lang/Object;"⟩ ∈ mj_TW := mj_in 1330 (by decide +kernel) rfl
theorem ln_X6_48 : Cond.methodLink RX6 48 yJx4a65c_add_9ea2d ∈ mj_TW := mj_in 1336 (by decide +kernel) rfl
theorem ln_L_176 : Cond.methodLink RL 176 yX7_wouldMake ∈ mj_TW := mj_in 1337 (by decide +kernel) rfl
theorem ln_X7_224 : Cond.methodLink RX7 224 yX7_makeNow ∈ mj_TW := mj_in 1341 (by decide +kernel) rfl
theorem ln_X7_221 : Cond.methodLink RX7 221 yX7_depthWith ∈ mj_TW := mj_in 1345 (by decide +kernel) rfl
theorem ln_L_180 : Cond.methodLink RL 180 yX7_nextBlast ∈ mj_TW := mj_in 1349 (by decide +kernel) rfl
theorem ln_X7_229 : Cond.methodLink RX7 229 yX7_nextNow ∈ mj_TW := mj_in 1353 (by decide +kernel) rfl
theorem ln_X7_227 : Cond.methodLink RX7 227 yX7_size ∈ mj_TW := mj_in 1357 (by decide +kernel) rfl
theorem ln_L_184 : Cond.methodLink RL 184 yX7_couldOpen ∈ mj_TW := mj_in 1358 (by decide +kernel) rfl
theorem ln_X7_232 : Cond.methodLink RX7 232 yX7_couldNow ∈ mj_TW := mj_in 1362 (by decide +kernel) rfl
theorem ln_L_189 : Cond.methodLink RL 189 yX7_digest ∈ mj_TW := mj_in 1366 (by decide +kernel) rfl
theorem ct_X7_241 : Cond.constantLong RX7 241 (58212 : Int64) ∈ mj_TW := mj_in 1370 (by decide +kernel) rfl
theorem ln_X7_243 : Cond.methodLink RX7 243 yX7_add_ ∈ mj_TW := mj_in 1371 (by decide +kernel) rfl
theorem ct_X7_239 : Cond.constantLong RX7 239 (31 : Int64) ∈ mj_TW := mj_in 1375 (by decide +kernel) rfl
theorem aw_int : Cond.arrayClass .int ∈ mj_TW := mj_in 108 (by decide +kernel) rfl
theorem aw_long : Cond.arrayClass .long ∈ mj_TW := mj_in 1376 (by decide +kernel) rfl
end
section
/-! ===== BEGIN words of one list among another's, by their places ===== -/
theorem goodIn_r {big : List Cond} (ws : List Cond) (ps : List Nat) (hp : ws = ps.filterMap (fun i => big[i]?)) (h : ws.all goodWord = true) : GoodIn big ws := by
  intro w hw
  have h1 := List.all_eq_true.mp h w hw
  rw [hp] at hw
  obtain ⟨i, -, hi⟩ := List.mem_filterMap.mp hw
  have hm : w ∈ big := by first | exact List.mem_of_getElem? hi | exact List.getElem?_mem hi
  exact ⟨hm, good_of_word h1⟩
theorem goodIn_app {big a b : List Cond} (ha : GoodIn big a) (hb : GoodIn big b) : GoodIn big (a ++ b) := fun w h => (List.mem_append.mp h).elim (ha w) (hb w)
theorem goodIn_ca {big a b : List Cond} {c : Cond} (ha : GoodIn big (c :: a)) (hb : GoodIn big b) : GoodIn big (c :: (a ++ b)) := fun w h => (List.mem_cons.mp h).elim (fun e => ha w (List.mem_cons.mpr (Or.inl e))) (fun h => (List.mem_append.mp h).elim (fun h => ha w (List.mem_cons.mpr (Or.inr h))) (hb w))
theorem goodIn_sub {big ws : List Cond} (hm : ∀ w ∈ ws, w ∈ big) (h : ws.all goodWord = true) : GoodIn big ws := fun w hw => ⟨hm w hw, good_of_word (List.all_eq_true.mp h w hw)⟩
/-! ===== END ===== -/

/-! ===== BEGIN exceptions that leave a method, and their catching by the caller (launches without stack traces) ===== -/
section VXA
/-! The laws vx_back, vx_callV, vx_callS, vx_callSW, vx_throw0, vx_throwS follow proofs of the library, with one case more: JvmDerived/Free/Laws.lean (Back.of_free), Shelf42/LK1.lean (callV, callS), Shelf/KitTraced.lean (throwNew0V, throwNewS). -/
/-- where a method has thrown q: the class by its name, the cell, what was written, the world -/
def vx_T (XC : String → State → State → Prop) (st : State) (q : Addr) (t : State) (mc ms : Nat) (free : Addr → Prop) : Prop :=
  ∃ (E : String) (ce : Cell) (L : List Loc), XC E st t ∧ t.heap[q]? = some ce ∧ ce.vm = .none ∧ st.vm.findClass E = some ce.cls ∧ st.WarmedH t.vm ∧ st.sameButNew ({ t with vm := st.vm } : State) L mc ms ∧ ∀ z ∈ L, free z.base
def vx_Q (Qc : Array Value → State → Outcome → State → Prop) (XC : String → State → State → Prop) (mc ms : Nat) (free : Addr → Prop) : Array Value → State → Outcome → State → Prop := fun a st o t =>
  (Qc a st o t ∧ ∃ L, FrameEnd st o t L mc ms ∧ ∀ q ∈ L, free q.base) ∨ ∃ q, o = .threw q ∧ vx_T XC st q t mc ms free
/-- a callee that returns or throws -/
def vx_Met (l : Launch) (y : MethodName) (ws : List Cond) (rm : Room) (Pc : Array Value → State → Prop) (Qc : Array Value → State → Outcome → State → Prop) (XC : String → State → State → Prop) (mc ms : Nat) (free : Addr → Prop) : Prop :=
  MetFree l y (headSpec ws rm) Pc (fun _ _ _ _ _ => True) (vx_Q Qc XC mc ms free)
def vx_Post (XC : String → State → State → Prop) (mc ms : Nat) (free : Addr → Prop) : Pt → Array Value → Addr → Pt → Prop := fun A a q B =>
  ∃ (g : JFrame) (mk : MethodId) (t : State) (L : List Loc) (E : String) (ce : Cell), B.U.heap = t.heap ∧ B.U.vm = t.vm ∧ XC E (A.U.calling g mk a) t ∧ t.heap[q]? = some ce ∧ ce.vm = .none ∧ A.U.vm.findClass E = some ce.cls ∧ B.locs = A.locs ++ L ∧ (∀ z ∈ L, free z.base) ∧ B.cells = A.cells + mc ∧ B.slots = A.slots + ms
def vx_Back (l : Launch) (R : Room) (p : Program) (e : Env) (below : List Frame) (s : State) (sargs : Array Value) (y : MethodName) (len W9 : Nat)
    (Pre : Pt → Array Value → Prop) (Post : Pt → Array Value → Option Value → Pt → Prop) (PostX : Pt → Array Value → Addr → Pt → Prop) : Prop :=
  ∀ (m : MethodId) (meth : Method) (c : Code) (A : Pt) (g : JFrame) (ig : Instr) (mk : MethodId) (a : Array Value),
    Stand p l e R s m sargs below meth c A.U A.locs A.cells A.slots → g.method = m → g.locals.size = c.maxLocals → decode c.code g.pc = .ok (ig, len) →
    2 * g.monitorRoom + (g.stack.map fun v => v.category).sum ≤ W9 → A.U.methodNamed? y = some mk → Pre A a →
    (∃ (v : Option Value) (B : Pt), Stand p l e R s m sargs below meth c B.U B.locs B.cells B.slots ∧ Post A a v B ∧
      Steps p.tables e below (doInvoke e (A.U.setTop g) [] mk a).1 (B.U.setTop { g with pc := g.pc + len, stack := v.toList ++ g.stack })) ∨
    (∃ (q : Addr) (B : Pt), Stand p l e R s m sargs below meth c B.U B.locs B.cells B.slots ∧ PostX A a q B ∧
      Steps p.tables e below (doInvoke e (A.U.setTop g) [] mk a).1 ((B.U.setTop g).pushFrame (.throwing q)))
section Payer
variable {l : Launch} {R : Room} {p : Program} {e : Env} {below : List Frame} {s : State} {sargs : Array Value} {y : MethodName} {len W9 : Nat}
theorem vx_back {ws : List Cond} {rm : Room} {Pc : Array Value → State → Prop} {Qc : Array Value → State → Outcome → State → Prop} {XC : String → State → State → Prop} {mc ms : Nat} {free : Addr → Prop} {bytes : ByteArray} {maxL : Nat} {ret : Option FieldType}
    (hM : vx_Met l y ws rm Pc Qc XC mc ms free) (hblind : FrameBlind Pc) (hrc : rm.cells = mc) (hrs : rm.slots = ms)
    (hframes : rm.frames + 1 ≤ R.frames) (hlocals : W9 + (maxL + 11) + rm.locals ≤ R.locals)
    (hws : ∀ w ∈ ws, ∀ a' U, s.WarmedH U.vm → w.before a' U = true) (hcode : Cond.code y bytes maxL ret ∈ ws) (hinit : ∀ a' U, s.WarmedH U.vm → (Cond.initialized y.cls).before a' U = true) :
    vx_Back l R p e below s sargs y len W9 (PreOf R mc ms Pc) (PostOf Qc mc ms free) (vx_Post XC mc ms free) := by
  intro m meth c A g ig mk a X hg hsize hdg hW hn hp
  have h1 : (headSpec ws rm).pre.before a A.U = true := atoms_intro fun w hw => hws w hw _ _ X.warmed
  have h2 : (Cond.code y bytes maxL ret).before a A.U = true := hws _ hcode _ _ X.warmed
  have h3 : (Cond.initialized y.cls).before a A.U = true := hinit _ _ X.warmed
  have h4 : A.cells + (headSpec ws rm).room.cells ≤ R.cells := by rw [show (headSpec ws rm).room.cells = mc from hrc]; exact hp.1
  have h5 : A.slots + (headSpec ws rm).room.slots ≤ R.slots := by rw [show (headSpec ws rm).room.slots = ms from hrs]; exact hp.2.1
  have hPc : Pc a (A.U.calling g mk a) := hblind _ _ _ _ hp.2.2
  obtain ⟨U, Ls, c0, s0⟩ := A
  dsimp only [Pt.U, Pt.locs, Pt.cells, Pt.slots] at h1 h2 h3 h4 h5 X hn hPc ⊢
  obtain ⟨methY, cY, hmY, hcY, -, hlY, -, -, -, -⟩ := Cond.code_spec hn h2
  obtain ⟨kY, hkY, -⟩ := className_of_methodNamed hn
  have hinitY : kY.init = .initialized := Cond.initialized_spec (findClass_of_methodNamed hn) hkY h3
  have h : At U g.method c below := by rw [hg]; exact X.here
  have hlocals9 : W9 + (maxL + 11) + (headSpec ws rm).room.locals ≤ R.locals := hlocals
  have happ : (headSpec ws rm).appliesLoose y e.platform (U.calling g mk a) = true :=
    Spec.appliesLoose_calling (g := g) h hdg hn hkY hinitY
      (X.room_calling (g := g) (R' := (headSpec ws rm).room) hsize hmY hcY hframes (by rw [hlY]; omega) h4 h5) h1
  obtain ⟨mid, hmid⟩ := h.above
  have hfr : (U.setTop g).frames = (.java g :: mid) ++ below := by rw [State.frames_setTop' g h.top, hmid]; rfl
  obtain ⟨o, s₂, hsteps, -, hend, hq⟩ := Steps.callFree hM p X.admits X.cas X.clock (acts := []) hfr happ hPc trivial
  have hq' : vx_Q Qc XC mc ms free a (U.calling g mk a) o s₂ := hq
  rw [State.frames_setTop' g h.top] at hend
  obtain ⟨g₀, hg0⟩ := Option.isSome_iff_exists.mp h.top
  obtain ⟨r, hr⟩ := State.topJava?_eq_some.mp hg0
  have hr' : (({ U with heap := s₂.heap, slotsUsed := s₂.slotsUsed } : State).setVm s₂.vm).frames = .java g₀ :: r := hr
  rcases hq' with ⟨hqc, L, hfe, hL⟩ | ⟨q, rfl, E, ce, L, hx, hce, hcv, hcl, hW₂, hsm, hL⟩
  · obtain ⟨⟨v, rfl⟩, hW₂, e2, q2, q3, q4, q5, q6⟩ := id hfe
    have e3 : s₂ = ({ (U.calling g mk a).setFrames s₂.frames with heap := s₂.heap, slotsUsed := s₂.slotsUsed } : State).setVm s₂.vm := by
      have : s₂ = ({ s₂ with vm := (U.calling g mk a).vm } : State).setVm s₂.vm := rfl
      rw [e2] at this
      exact this
    obtain ⟨c₂, i₂, len₂, hc₂, hd₂, hf₂⟩ := hend
    have hW' : U.WarmedH s₂.vm := hW₂
    have hcc : c₂ = c := by
      have h1 : s₂.code? g.method = U.code? g.method := by
        rw [State.code?_eq, State.code?_eq, hW'.alike.method?]
      exact Option.some.inj (hc₂.symm.trans (h1.trans h.code))
    subst hcc
    have hlen : len₂ = len := by rw [hdg] at hd₂; cases hd₂; rfl
    subst hlen
    have hs₂ : s₂ = (({ U with heap := s₂.heap, slotsUsed := s₂.slotsUsed } : State).setVm s₂.vm).setTop { g with pc := g.pc + len₂, stack := v.toList ++ g.stack } := by
      refine e3.trans ?_
      rw [hf₂, State.calling_eq h.top, State.setFrames_setFrames, State.setTop_of_frames _ hr', hr]
      rfl
    have hsame : U.sameButNew ({ U with heap := s₂.heap, slotsUsed := s₂.slotsUsed } : State) L mc ms := by
      refine ⟨?_, q2, q3, q4, q5, q6⟩
      obtain ⟨t, ht, -⟩ := State.frames_cons hr
      show ({ U with heap := s₂.heap, slotsUsed := s₂.slotsUsed } : State) = { U.setFrames U.frames with heap := s₂.heap, slotsUsed := s₂.slotsUsed }
      rw [State.setFrames_self ht]
    subst hg
    refine Or.inl ⟨v, ⟨(({ U with heap := s₂.heap, slotsUsed := s₂.slotsUsed } : State).setVm s₂.vm), Ls ++ L, c0 + mc, s0 + ms⟩,
      ⟨X.admits, X.cas, X.clock, X.frames, X.room, X.hears, X.method, X.code, (X.here.setHeapUsed s₂.heap s₂.slotsUsed).setVm hW'.alike, X.tail, State.WarmedH.trans X.warmed hW', X.limits, X.bytes, X.same.trans (hsame.setVm s.vm)⟩,
      ⟨g, mk, s₂, L, rfl, rfl, hqc, rfl, hL, rfl, rfl⟩, ?_⟩
    show Steps p.tables e below _ ((({ U with heap := s₂.heap, slotsUsed := s₂.slotsUsed } : State).setVm s₂.vm).setTop { g with pc := g.pc + len₂, stack := v.toList ++ g.stack })
    rw [← hs₂]
    exact hsteps
  · obtain ⟨e2, q2, q3, q4, q5, q6⟩ := id hsm
    have e3 : s₂ = ({ (U.calling g mk a).setFrames s₂.frames with heap := s₂.heap, slotsUsed := s₂.slotsUsed } : State).setVm s₂.vm := by
      have : s₂ = ({ s₂ with vm := (U.calling g mk a).vm } : State).setVm s₂.vm := rfl
      rw [e2] at this
      exact this
    have hf₂ : s₂.frames = .throwing q :: .java g :: U.frames.tail := hend
    have hW' : U.WarmedH s₂.vm := hW₂
    have hs₂ : s₂ = ((({ U with heap := s₂.heap, slotsUsed := s₂.slotsUsed } : State).setVm s₂.vm).setTop g).pushFrame (.throwing q) := by
      refine e3.trans ?_
      rw [hf₂, State.calling_eq h.top, State.setFrames_setFrames, State.pushFrame, State.frames_setTop _ hr', State.setTop_of_frames _ hr', State.setFrames_setFrames, hr]
      rfl
    have hsame : U.sameButNew ({ U with heap := s₂.heap, slotsUsed := s₂.slotsUsed } : State) L mc ms := by
      refine ⟨?_, q2, q3, q4, q5, q6⟩
      obtain ⟨t, ht, -⟩ := State.frames_cons hr
      show ({ U with heap := s₂.heap, slotsUsed := s₂.slotsUsed } : State) = { U.setFrames U.frames with heap := s₂.heap, slotsUsed := s₂.slotsUsed }
      rw [State.setFrames_self ht]
    subst hg
    refine Or.inr ⟨q, ⟨(({ U with heap := s₂.heap, slotsUsed := s₂.slotsUsed } : State).setVm s₂.vm), Ls ++ L, c0 + mc, s0 + ms⟩,
      ⟨X.admits, X.cas, X.clock, X.frames, X.room, X.hears, X.method, X.code, (X.here.setHeapUsed s₂.heap s₂.slotsUsed).setVm hW'.alike, X.tail, State.WarmedH.trans X.warmed hW', X.limits, X.bytes, X.same.trans (hsame.setVm s.vm)⟩,
      ⟨g, mk, s₂, L, E, ce, rfl, rfl, hx, hce, hcv, hcl, rfl, hL, rfl, rfl⟩, ?_⟩
    show Steps p.tables e below _ (((({ U with heap := s₂.heap, slotsUsed := s₂.slotsUsed } : State).setVm s₂.vm).setTop g).pushFrame (.throwing q))
    rw [← hs₂]
    exact hsteps
end Payer
section Calls
variable {p : Program} {l : Launch} {e : Env} {R : Room} {s : State} {m : MethodId} {args : Array Value} {below : List Frame} {meth : Method} {c : Code} {T : State} {locs : List Loc} {cells slots : Nat}
theorem vx_callV (X : Stand p l e R s m args below meth c T locs cells slots) (hexec : p.tables.exec = Jvm.exec) {own C : String} {index : Nat} {y : MethodName} {bytes : ByteArray} {maxL : Nat} {ret : Option FieldType}
    (hown : s.vm.findClass own = some m.cls) (hlink : (Cond.methodLink own index y).before args s = true) (hinst : (Cond.instanceMethod y).before args s = true) (hsel : (Cond.selects C y y).before args s = true)
    (hcode : (Cond.code y bytes maxL ret).before args s = true) (hy : y.cls ≠ "java/lang/invoke/MethodHandle" ∧ y.cls ≠ "java/lang/invoke/VarHandle")
    {W9 : Nat} {Pre : Pt → Array Value → Prop} {Post : Pt → Array Value → Option Value → Pt → Prop} {PostX : Pt → Array Value → Addr → Pt → Prop} (hK : vx_Back l R p e below s args y 3 W9 Pre Post PostX)
    {b : Addr} {cellB : Cell} (hcell : T.heap[b]? = some cellB) (hobj : cellB.vm.isStatics = false) (hcls : s.vm.findClass C = some cellB.cls)
    {g : JFrame} (hg : g.method = m) (hsize : g.locals.size = c.maxLocals) {argsL rest : List Value} (hlen : ∀ sig, parseMethodDescriptor y.desc = some sig → argsL.length = sig.parameters.length)
    (hstack : g.stack = argsL.reverse ++ .ref b :: rest) (hW : 2 * g.monitorRoom + (rest.map fun v => v.category).sum ≤ W9) (hdg : decode c.code g.pc = .ok (.invokevirtual index, 3))
    (hpre : ∀ vm₁, s.WarmedH vm₁ → Pre ⟨T.setVm vm₁, locs, cells, slots⟩ (Value.ref b :: argsL).toArray) :
    (∃ (v : Option Value) (vm₁ : Vm) (B : Pt), s.WarmedH vm₁ ∧ Stand p l e R s m args below meth c B.U B.locs B.cells B.slots ∧ Post ⟨T.setVm vm₁, locs, cells, slots⟩ (Value.ref b :: argsL).toArray v B ∧
      ∀ target, Steps p.tables e below (B.U.setTop { g with pc := g.pc + 3, stack := v.toList ++ rest }) target → Steps p.tables e below (T.setTop g) target) ∨
    (∃ (q : Addr) (vm₁ : Vm) (B : Pt), s.WarmedH vm₁ ∧ Stand p l e R s m args below meth c B.U B.locs B.cells B.slots ∧ PostX ⟨T.setVm vm₁, locs, cells, slots⟩ (Value.ref b :: argsL).toArray q B ∧
      Steps p.tables e below (T.setTop g) ((B.U.setTop { g with stack := rest }).pushFrame (.throwing q))) := by
  obtain ⟨mk, methM, hnamed, hmethM, hstM, habM⟩ := Cond.instanceMethod_spec hinst
  obtain ⟨methM', cM, hmethM', -, -, -, -, -, -, hsigM⟩ := Cond.code_spec hnamed hcode
  cases hmethM.symm.trans hmethM'
  obtain ⟨c2, r2, m2, q1, q2, q3, q4, kP, hkP, hkPi⟩ := Cond.selects_spec hsel
  cases hcls.symm.trans q1
  cases (State.methodFound?_of_named hnamed hy).symm.trans q2
  cases hnamed.symm.trans q3
  have hselP : selectMethod e.platform s.vm cellB.cls mk = .method mk := by rw [Launch.admits_selectMethod X.admits]; exact q4
  obtain ⟨vm₁, X₁, hstep₁⟩ := X.invokevirtual hexec hown hlink hnamed hmethM hstM hkP hkPi hy (a := b) (cell := cellB) hcell
    (fun z h => by rw [h] at hobj; cases hobj) hselP hmethM habM hkP hkPi (g := g) hg (argsL := argsL) (rest := rest) (hlen _ hsigM) hstack hdg
  rcases hK m meth c ⟨T.setVm vm₁, locs, cells, slots⟩ { g with stack := rest } (.invokevirtual index) mk (Value.ref b :: argsL).toArray X₁ hg hsize hdg hW (X₁.named hnamed) (hpre vm₁ X₁.warmed) with ⟨v, B, X', hpost, hsteps⟩ | ⟨q, B, X', hpost, hsteps⟩
  · exact Or.inl ⟨v, vm₁, B, X₁.warmed, X', hpost, fun target h => hstep₁ _ fun acts => by rw [doInvoke_state]; exact hsteps.trans h⟩
  · exact Or.inr ⟨q, vm₁, B, X₁.warmed, X', hpost, hstep₁ _ fun acts => by rw [doInvoke_state]; exact hsteps⟩
theorem vx_callS (X : Stand p l e R s m args below meth c T locs cells slots) (hexec : p.tables.exec = Jvm.exec) {own : String} {index : Nat} {y : MethodName} {bytes : ByteArray} {maxL : Nat} {ret : Option FieldType}
    (hown : s.vm.findClass own = some m.cls) (hlink : (Cond.methodLink own index y).before args s = true) (hstat : (Cond.static y).before args s = true) (hinit : (Cond.initialized y.cls).before args s = true)
    (hcode : (Cond.code y bytes maxL ret).before args s = true) (hy : y.cls ≠ "java/lang/invoke/MethodHandle" ∧ y.cls ≠ "java/lang/invoke/VarHandle")
    {W9 : Nat} {Pre : Pt → Array Value → Prop} {Post : Pt → Array Value → Option Value → Pt → Prop} {PostX : Pt → Array Value → Addr → Pt → Prop} (hK : vx_Back l R p e below s args y 3 W9 Pre Post PostX)
    {g : JFrame} (hg : g.method = m) (hsize : g.locals.size = c.maxLocals) {argsL rest : List Value} (hlen : ∀ sig, parseMethodDescriptor y.desc = some sig → argsL.length = sig.parameters.length)
    (hstack : g.stack = argsL.reverse ++ rest) (hW : 2 * g.monitorRoom + (rest.map fun v => v.category).sum ≤ W9) (hdg : decode c.code g.pc = .ok (.invokestatic index, 3))
    (hpre : ∀ vm₁, s.WarmedH vm₁ → Pre ⟨T.setVm vm₁, locs, cells, slots⟩ argsL.toArray) :
    (∃ (v : Option Value) (vm₁ : Vm) (B : Pt), s.WarmedH vm₁ ∧ Stand p l e R s m args below meth c B.U B.locs B.cells B.slots ∧ Post ⟨T.setVm vm₁, locs, cells, slots⟩ argsL.toArray v B ∧
      ∀ target, Steps p.tables e below (B.U.setTop { g with pc := g.pc + 3, stack := v.toList ++ rest }) target → Steps p.tables e below (T.setTop g) target) ∨
    (∃ (q : Addr) (vm₁ : Vm) (B : Pt), s.WarmedH vm₁ ∧ Stand p l e R s m args below meth c B.U B.locs B.cells B.slots ∧ PostX ⟨T.setVm vm₁, locs, cells, slots⟩ argsL.toArray q B ∧
      Steps p.tables e below (T.setTop g) ((B.U.setTop { g with stack := rest }).pushFrame (.throwing q))) := by
  obtain ⟨mk, hnamed⟩ := Cond.code_named hcode
  obtain ⟨methM, cM, hmethM, -, -, -, -, -, -, hsigM⟩ := Cond.code_spec hnamed hcode
  have hstatic : methM.isStatic = true := Cond.static_spec hnamed hmethM hstat
  obtain ⟨kP, hkP, -⟩ := className_of_methodNamed hnamed
  have hinitP : kP.init = .initialized := Cond.initialized_spec (findClass_of_methodNamed hnamed) hkP hinit
  obtain ⟨vm₁, X₁, hstep₁⟩ := X.invokestatic hexec hown hlink hnamed hmethM hstatic hkP hinitP hy (g := g) hg (argsL := argsL) (rest := rest) (hlen _ hsigM) hstack hdg
  rcases hK m meth c ⟨T.setVm vm₁, locs, cells, slots⟩ { g with stack := rest } (.invokestatic index) mk argsL.toArray X₁ hg hsize hdg hW (X₁.named hnamed) (hpre vm₁ X₁.warmed) with ⟨v, B, X', hpost, hsteps⟩ | ⟨q, B, X', hpost, hsteps⟩
  · exact Or.inl ⟨v, vm₁, B, X₁.warmed, X', hpost, fun target h => hstep₁ _ fun acts => by rw [doInvoke_state]; exact hsteps.trans h⟩
  · exact Or.inr ⟨q, vm₁, B, X₁.warmed, X', hpost, hstep₁ _ fun acts => by rw [doInvoke_state]; exact hsteps⟩
end Calls
theorem vx_cls {s : State} {T : State} {vm₁ : Vm} {E : String} {k : ClassId} (hW : s.WarmedH vm₁) (h : (T.setVm vm₁).vm.findClass E = some k) : s.vm.findClass E = some k := by
  have h1 : vm₁.findClass E = some k := h
  rw [hW.alike.findClass] at h1
  exact h1
/-- the method's frame g, with q thrown over it -/
def vx_W (p : Program) (l : Launch) (e : Env) (R : Room) (s : State) (m : MethodId) (args : Array Value) (below : List Frame) (meth : Method) (c : Code) (H : Heap) (locs : List Loc) (cells slots : Nat) (Q : State → Prop) (g : JFrame) (q : Addr) : Prop :=
  ∀ T : State, T.heap = H → Stand p l e R s m args below meth c T locs cells slots → ∃ t, Steps p.tables e below ((T.setTop g).pushFrame (.throwing q)) t ∧ Q t
def vx_Run (p : Program) (l : Launch) (e : Env) (R : Room) (s : State) (m : MethodId) (args : Array Value) (below : List Frame) (meth : Method) (c : Code) (H : Heap) (locs : List Loc) (cells slots mc ms : Nat) (g : JFrame) (rest : List Value) (Qa : State → Outcome → State → Prop) (XC : String → State → State → Prop) (free : Addr → Prop) : Prop :=
  ∀ T : State, T.heap = H → Stand p l e R s m args below meth c T locs cells slots →
    (∃ (v : Option Value) (st₀ t T' : State) (L : List Loc), st₀.heap = H ∧ Stand p l e R s m args below meth c T' (locs ++ L) (cells + mc) (slots + ms) ∧ (∀ q ∈ L, free q.base) ∧ T'.heap = t.heap ∧ T'.vm = t.vm ∧ Qa st₀ (.returned v) t ∧
      Goes p e below T g T' { g with pc := g.pc + 3, stack := v.toList ++ rest }) ∨
    (∃ (q : Addr) (st₀ t T' : State) (L : List Loc) (E : String) (ce : Cell), st₀.heap = H ∧ Stand p l e R s m args below meth c T' (locs ++ L) (cells + mc) (slots + ms) ∧ (∀ z ∈ L, free z.base) ∧ T'.heap = t.heap ∧ T'.vm = t.vm ∧ XC E st₀ t ∧ t.heap[q]? = some ce ∧ ce.vm = .none ∧ s.vm.findClass E = some ce.cls ∧
      Steps p.tables e below (T.setTop g) ((T'.setTop { g with stack := rest }).pushFrame (.throwing q)))
def vx_X {S : Type} (px : S → Prop) (B : String → S → State → Prop) (A : Nat → Prop) : String → State → State → Prop := fun E st t => ∃ u : S, px u ∧ B E u t ∧ va_F A st t
section Runs
variable {p : Program} {l : Launch} {e : Env} {R : Room} {s : State} {m : MethodId} {args : Array Value} {below : List Frame} {meth : Method} {c : Code} {H : Heap} {locs : List Loc} {cells slots : Nat}
variable {y : MethodName} {bytes cc : ByteArray} {maxL nL mc ms n index : Nat} {ret : Option FieldType} {ws : List Cond} {rm : Room} {Pc : Array Value → State → Prop} {Qc : Array Value → State → Outcome → State → Prop} {XC : String → State → State → Prop} {free : Addr → Prop} {Ts : List Cond} {own C : String} {b : Addr} {As rest : List Value} {g : JFrame}
theorem vx_callBack (cb : CallB R s args own index y bytes maxL ret ws rm mc ms n) (hM : vx_Met l y ws rm Pc Qc XC mc ms free) (hbl : FrameBlind Pc) : vx_Back l R p e below s args y 3 8 (PreOf R mc ms Pc) (PostOf Qc mc ms free) (vx_Post XC mc ms free) := by
  obtain ⟨hrc, hrs, hfr, hlo, hws, hcw, -, hini, -⟩ := cb
  exact vx_back (bytes := bytes) (maxL := maxL) (ret := ret) hM hbl hrc hrs hfr hlo hws hcw (fun a' U hW => word_at hW (Or.inl (by first | rfl | simp [Cond.onTables, Cond.keeps, Cond.steady])) hini)
theorem vx_runV (S : CallFix p m c cc nL s args Ts own) (hM : vx_Met l y ws rm Pc Qc XC mc ms free) (cw : CallW R s args own C index y bytes maxL ret ws rm mc ms n) (hp : PreV s H C b Pc As)
    (hg : g.method = m) (hn : As.length = n) (hsize : g.locals.size = nL) (hstack : g.stack = As.reverse ++ .ref b :: rest) (hW : 2 * g.monitorRoom + (rest.map fun v => v.category).sum ≤ 8) (hdg : decode cc g.pc = .ok (.invokevirtual index, 3)) (hf : cells + mc ≤ R.cells ∧ slots + ms ≤ R.slots) :
    vx_Run p l e R s m args below meth c H locs cells slots mc ms g rest (Qc (Value.ref b :: As).toArray) XC free := by
  have hK : vx_Back l R p e below s args y 3 8 (PreOf R mc ms Pc) (PostOf Qc mc ms free) (vx_Post XC mc ms free) := vx_callBack cw.1 hM hp.1
  obtain ⟨⟨-, -, -, -, -, -, hcode, -, hy, hlen, hl⟩, hin, hse⟩ := cw
  obtain ⟨hx, hb, hml, ho, -⟩ := S
  obtain ⟨-, ⟨cellB, hcB, hoB, hclB⟩, hPc⟩ := hp
  intro T hT X
  rcases vx_callV X hx (C := C) (bytes := bytes) (maxL := maxL) (ret := ret) ho hl hin hse hcode hy hK (by rw [hT]; exact hcB) hoB hclB hg (hsize.trans hml.symm) (argsL := As) (rest := rest) (fun sig h => hn.trans (hlen sig h)) hstack hW (by rw [hb]; exact hdg)
    (fun vm₁ hW₁ => ⟨hf.1, hf.2, hPc (T.setVm vm₁) hT hW₁⟩) with ⟨v, vm₁, ⟨U', l2, c2, s2⟩, hW₁, X', ⟨g', mk, t, L, e1, e2, hq, h1, hL, h2, h3⟩, st⟩ | ⟨q, vm₁, ⟨U', l2, c2, s2⟩, hW₁, X', ⟨g', mk, t, L, E, ce, e1, e2, hq, hce, hcv, hcl, h1, hL, h2, h3⟩, st⟩
  · dsimp only [Pt.U, Pt.locs, Pt.cells, Pt.slots] at X' e1 e2 h1 h2 h3 st
    subst h1; subst h2; subst h3
    exact Or.inl ⟨v, (T.setVm vm₁).calling g' mk (Value.ref b :: As).toArray, t, U', L, hT, X', hL, e1, e2, hq, st⟩
  · dsimp only [Pt.U, Pt.locs, Pt.cells, Pt.slots] at X' e1 e2 h1 h2 h3 st hcl
    subst h1; subst h2; subst h3
    exact Or.inr ⟨q, (T.setVm vm₁).calling g' mk (Value.ref b :: As).toArray, t, U', L, E, ce, hT, X', hL, e1, e2, hq, hce, hcv, vx_cls hW₁ hcl, st⟩
theorem vx_runS (S : CallFix p m c cc nL s args Ts own) (hM : vx_Met l y ws rm Pc Qc XC mc ms free) (cw : CallB R s args own index y bytes maxL ret ws rm mc ms n ∧ (Cond.static y).before args s = true) (hp : PreS s H Pc As)
    (hg : g.method = m) (hn : As.length = n) (hsize : g.locals.size = nL) (hstack : g.stack = As.reverse ++ rest) (hW : 2 * g.monitorRoom + (rest.map fun v => v.category).sum ≤ 8) (hdg : decode cc g.pc = .ok (.invokestatic index, 3)) (hf : cells + mc ≤ R.cells ∧ slots + ms ≤ R.slots) :
    vx_Run p l e R s m args below meth c H locs cells slots mc ms g rest (Qc As.toArray) XC free := by
  have hK : vx_Back l R p e below s args y 3 8 (PreOf R mc ms Pc) (PostOf Qc mc ms free) (vx_Post XC mc ms free) := vx_callBack cw.1 hM hp.1
  obtain ⟨⟨-, -, -, -, -, -, hcode, hini, hy, hlen, hl⟩, hstt⟩ := cw
  obtain ⟨hx, hb, hml, ho, -⟩ := S
  intro T hT X
  rcases vx_callS X hx (bytes := bytes) (maxL := maxL) (ret := ret) ho hl hstt hini hcode hy hK hg (hsize.trans hml.symm) (argsL := As) (rest := rest) (fun sig h => hn.trans (hlen sig h)) hstack hW (by rw [hb]; exact hdg)
    (fun vm₁ hW₁ => ⟨hf.1, hf.2, hp.2 (T.setVm vm₁) hT hW₁⟩) with ⟨v, vm₁, ⟨U', l2, c2, s2⟩, hW₁, X', ⟨g', mk, t, L, e1, e2, hq, h1, hL, h2, h3⟩, st⟩ | ⟨q, vm₁, ⟨U', l2, c2, s2⟩, hW₁, X', ⟨g', mk, t, L, E, ce, e1, e2, hq, hce, hcv, hcl, h1, hL, h2, h3⟩, st⟩
  · dsimp only [Pt.U, Pt.locs, Pt.cells, Pt.slots] at X' e1 e2 h1 h2 h3 st
    subst h1; subst h2; subst h3
    exact Or.inl ⟨v, (T.setVm vm₁).calling g' mk As.toArray, t, U', L, hT, X', hL, e1, e2, hq, st⟩
  · dsimp only [Pt.U, Pt.locs, Pt.cells, Pt.slots] at X' e1 e2 h1 h2 h3 st hcl
    subst h1; subst h2; subst h3
    exact Or.inr ⟨q, (T.setVm vm₁).calling g' mk As.toArray, t, U', L, E, ce, hT, X', hL, e1, e2, hq, hce, hcv, vx_cls hW₁ hcl, st⟩
end Runs
section Rows
variable {p : Program} {l : Launch} {e : Env} {R : Room} {s : State} {m : MethodId} {args : Array Value} {below : List Frame} {meth : Method} {c : Code} {H : Heap} {locs : List Loc} {cells slots : Nat} {Q : State → Prop}
variable {mc ms : Nat} {free : Addr → Prop} {A0 A1 : Nat → Prop} {H0 : Heap} {a : Array Value} {pc : Nat} {ls : Array Slot} {st0 rest : List Value}
theorem vx_keep {st₀ t T' : State} {L : List Loc} (h0 : st₀.heap = H) (e1 : T'.heap = t.heap) (hS : va_S A0 H0 H locs) (hA : ∀ q, q < H.size → A1 q → A0 q) (hf : ∀ q, free q → A0 q) (hL : ∀ q ∈ L, free q.base) (hF : va_F A1 st₀ t) :
    H.size ≤ T'.heap.size ∧ (∀ q : Nat, q < H.size → ¬ A1 q → T'.heap[q]? = H[q]?) ∧ va_S A0 H0 T'.heap (locs ++ L) := by
  obtain ⟨hz, hk⟩ := hF
  rw [h0] at hz hk
  exact ⟨by rw [e1]; exact hz, fun q h1 h2 => by rw [e1]; exact hk q h1 h2,
    ⟨Nat.le_trans hS.1 (by rw [e1]; exact hz), fun q h1 h2 => by rw [e1, hk q (Nat.lt_of_lt_of_le h1 hS.1) (fun z => h2 (hA q (Nat.lt_of_lt_of_le h1 hS.1) z))]; exact hS.2.1 q h1 h2, fun q hq => by
      rcases List.mem_append.mp hq with h | h
      · exact hS.2.2 q h
      · exact hf _ (hL q h)⟩⟩
theorem vx_calli {S SX : Type} {post : Int32 → S → Prop} {px : SX → Prop} {B : S → State → Prop} {BX : String → SX → State → Prop} {AX : Nat → Prop} (hr : vx_Run p l e R s m args below meth c H locs cells slots mc ms (F0 m pc ls st0) rest (va_Qi post B A1 a) (vx_X px BX AX) free) (hS : va_S A0 H0 H locs) (hA : ∀ q, q < H.size → A1 q → A0 q) (hf : ∀ q, free q → A0 q) (hAX : ∀ q, q < H.size → AX q → A0 q)
    (kx : ∀ (E : String) (ce : Cell) (q9 : Addr) (u : SX) (t : State) (H1 : Heap) (locs1 : List Loc), t.heap = H1 → s.vm.Alike t.vm → px u → BX E u t → H.size ≤ H1.size → (∀ q : Nat, q < H.size → ¬ AX q → H1[q]? = H[q]?) → va_S A0 H0 H1 locs1 → H1[q9]? = some ce → ce.vm = .none → s.vm.findClass E = some ce.cls → vx_W p l e R s m args below meth c H1 locs1 (cells + mc) (slots + ms) Q (F0 m pc ls rest) q9)
    (kk : ∀ (r : Int32) (u : S) (t : State) (H1 : Heap) (locs1 : List Loc), t.heap = H1 → s.vm.Alike t.vm → post r u → B u t → H.size ≤ H1.size → (∀ q : Nat, q < H.size → ¬ A1 q → H1[q]? = H[q]?) → va_S A0 H0 H1 locs1 → W p l e R s m args below meth c H1 locs1 (cells + mc) (slots + ms) Q (F0 m (pc + 3) ls (.int r :: rest))) : W p l e R s m args below meth c H locs cells slots Q (F0 m pc ls st0) := by
  intro T hT X
  rcases hr T hT X with ⟨v, st₀, t, T', L, h0, X', hL, e1, e2, ⟨⟨r, u, hv, hp, hb⟩, hF⟩, st⟩ | ⟨q, st₀, t, T', L, E, ce, h0, X', hL, e1, e2, ⟨u, hp, hb, hF⟩, hce, hcv, hcl, st⟩
  · cases hv
    obtain ⟨k1, k2, k3⟩ := vx_keep h0 e1 hS hA hf hL hF
    obtain ⟨t2, a1, b1⟩ := kk r u t T'.heap (locs ++ L) e1.symm (by rw [← e2]; exact X'.warmed.alike) hp hb k1 k2 k3 T' rfl X'
    exact ⟨t2, st t2 a1, b1⟩
  · obtain ⟨k1, k2, k3⟩ := vx_keep h0 e1 hS hAX hf hL hF
    obtain ⟨t2, a1, b1⟩ := kx E ce q u t T'.heap (locs ++ L) e1.symm (by rw [← e2]; exact X'.warmed.alike) hp hb k1 k2 k3 (by rw [e1]; exact hce) hcv hcl T' rfl X'
    exact ⟨t2, st.trans a1, b1⟩
theorem vx_calll {S SX : Type} {post : Int64 → S → Prop} {px : SX → Prop} {B : S → State → Prop} {BX : String → SX → State → Prop} {AX : Nat → Prop} (hr : vx_Run p l e R s m args below meth c H locs cells slots mc ms (F0 m pc ls st0) rest (va_Ql post B A1 a) (vx_X px BX AX) free) (hS : va_S A0 H0 H locs) (hA : ∀ q, q < H.size → A1 q → A0 q) (hf : ∀ q, free q → A0 q) (hAX : ∀ q, q < H.size → AX q → A0 q)
    (kx : ∀ (E : String) (ce : Cell) (q9 : Addr) (u : SX) (t : State) (H1 : Heap) (locs1 : List Loc), t.heap = H1 → s.vm.Alike t.vm → px u → BX E u t → H.size ≤ H1.size → (∀ q : Nat, q < H.size → ¬ AX q → H1[q]? = H[q]?) → va_S A0 H0 H1 locs1 → H1[q9]? = some ce → ce.vm = .none → s.vm.findClass E = some ce.cls → vx_W p l e R s m args below meth c H1 locs1 (cells + mc) (slots + ms) Q (F0 m pc ls rest) q9)
    (kk : ∀ (r : Int64) (u : S) (t : State) (H1 : Heap) (locs1 : List Loc), t.heap = H1 → s.vm.Alike t.vm → post r u → B u t → H.size ≤ H1.size → (∀ q : Nat, q < H.size → ¬ A1 q → H1[q]? = H[q]?) → va_S A0 H0 H1 locs1 → W p l e R s m args below meth c H1 locs1 (cells + mc) (slots + ms) Q (F0 m (pc + 3) ls (.long r :: rest))) : W p l e R s m args below meth c H locs cells slots Q (F0 m pc ls st0) := by
  intro T hT X
  rcases hr T hT X with ⟨v, st₀, t, T', L, h0, X', hL, e1, e2, ⟨⟨r, u, hv, hp, hb⟩, hF⟩, st⟩ | ⟨q, st₀, t, T', L, E, ce, h0, X', hL, e1, e2, ⟨u, hp, hb, hF⟩, hce, hcv, hcl, st⟩
  · cases hv
    obtain ⟨k1, k2, k3⟩ := vx_keep h0 e1 hS hA hf hL hF
    obtain ⟨t2, a1, b1⟩ := kk r u t T'.heap (locs ++ L) e1.symm (by rw [← e2]; exact X'.warmed.alike) hp hb k1 k2 k3 T' rfl X'
    exact ⟨t2, st t2 a1, b1⟩
  · obtain ⟨k1, k2, k3⟩ := vx_keep h0 e1 hS hAX hf hL hF
    obtain ⟨t2, a1, b1⟩ := kx E ce q u t T'.heap (locs ++ L) e1.symm (by rw [← e2]; exact X'.warmed.alike) hp hb k1 k2 k3 (by rw [e1]; exact hce) hcv hcl T' rfl X'
    exact ⟨t2, st.trans a1, b1⟩
theorem vx_callf {S SX : Type} {post : UInt32 → S → Prop} {px : SX → Prop} {B : S → State → Prop} {BX : String → SX → State → Prop} {AX : Nat → Prop} (hr : vx_Run p l e R s m args below meth c H locs cells slots mc ms (F0 m pc ls st0) rest (va_Qf post B A1 a) (vx_X px BX AX) free) (hS : va_S A0 H0 H locs) (hA : ∀ q, q < H.size → A1 q → A0 q) (hf : ∀ q, free q → A0 q) (hAX : ∀ q, q < H.size → AX q → A0 q)
    (kx : ∀ (E : String) (ce : Cell) (q9 : Addr) (u : SX) (t : State) (H1 : Heap) (locs1 : List Loc), t.heap = H1 → s.vm.Alike t.vm → px u → BX E u t → H.size ≤ H1.size → (∀ q : Nat, q < H.size → ¬ AX q → H1[q]? = H[q]?) → va_S A0 H0 H1 locs1 → H1[q9]? = some ce → ce.vm = .none → s.vm.findClass E = some ce.cls → vx_W p l e R s m args below meth c H1 locs1 (cells + mc) (slots + ms) Q (F0 m pc ls rest) q9)
    (kk : ∀ (r : UInt32) (u : S) (t : State) (H1 : Heap) (locs1 : List Loc), t.heap = H1 → s.vm.Alike t.vm → post r u → B u t → H.size ≤ H1.size → (∀ q : Nat, q < H.size → ¬ A1 q → H1[q]? = H[q]?) → va_S A0 H0 H1 locs1 → W p l e R s m args below meth c H1 locs1 (cells + mc) (slots + ms) Q (F0 m (pc + 3) ls (.float r :: rest))) : W p l e R s m args below meth c H locs cells slots Q (F0 m pc ls st0) := by
  intro T hT X
  rcases hr T hT X with ⟨v, st₀, t, T', L, h0, X', hL, e1, e2, ⟨⟨r, u, hv, hp, hb⟩, hF⟩, st⟩ | ⟨q, st₀, t, T', L, E, ce, h0, X', hL, e1, e2, ⟨u, hp, hb, hF⟩, hce, hcv, hcl, st⟩
  · cases hv
    obtain ⟨k1, k2, k3⟩ := vx_keep h0 e1 hS hA hf hL hF
    obtain ⟨t2, a1, b1⟩ := kk r u t T'.heap (locs ++ L) e1.symm (by rw [← e2]; exact X'.warmed.alike) hp hb k1 k2 k3 T' rfl X'
    exact ⟨t2, st t2 a1, b1⟩
  · obtain ⟨k1, k2, k3⟩ := vx_keep h0 e1 hS hAX hf hL hF
    obtain ⟨t2, a1, b1⟩ := kx E ce q u t T'.heap (locs ++ L) e1.symm (by rw [← e2]; exact X'.warmed.alike) hp hb k1 k2 k3 (by rw [e1]; exact hce) hcv hcl T' rfl X'
    exact ⟨t2, st.trans a1, b1⟩
theorem vx_calld {S SX : Type} {post : UInt64 → S → Prop} {px : SX → Prop} {B : S → State → Prop} {BX : String → SX → State → Prop} {AX : Nat → Prop} (hr : vx_Run p l e R s m args below meth c H locs cells slots mc ms (F0 m pc ls st0) rest (va_Qd post B A1 a) (vx_X px BX AX) free) (hS : va_S A0 H0 H locs) (hA : ∀ q, q < H.size → A1 q → A0 q) (hf : ∀ q, free q → A0 q) (hAX : ∀ q, q < H.size → AX q → A0 q)
    (kx : ∀ (E : String) (ce : Cell) (q9 : Addr) (u : SX) (t : State) (H1 : Heap) (locs1 : List Loc), t.heap = H1 → s.vm.Alike t.vm → px u → BX E u t → H.size ≤ H1.size → (∀ q : Nat, q < H.size → ¬ AX q → H1[q]? = H[q]?) → va_S A0 H0 H1 locs1 → H1[q9]? = some ce → ce.vm = .none → s.vm.findClass E = some ce.cls → vx_W p l e R s m args below meth c H1 locs1 (cells + mc) (slots + ms) Q (F0 m pc ls rest) q9)
    (kk : ∀ (r : UInt64) (u : S) (t : State) (H1 : Heap) (locs1 : List Loc), t.heap = H1 → s.vm.Alike t.vm → post r u → B u t → H.size ≤ H1.size → (∀ q : Nat, q < H.size → ¬ A1 q → H1[q]? = H[q]?) → va_S A0 H0 H1 locs1 → W p l e R s m args below meth c H1 locs1 (cells + mc) (slots + ms) Q (F0 m (pc + 3) ls (.double r :: rest))) : W p l e R s m args below meth c H locs cells slots Q (F0 m pc ls st0) := by
  intro T hT X
  rcases hr T hT X with ⟨v, st₀, t, T', L, h0, X', hL, e1, e2, ⟨⟨r, u, hv, hp, hb⟩, hF⟩, st⟩ | ⟨q, st₀, t, T', L, E, ce, h0, X', hL, e1, e2, ⟨u, hp, hb, hF⟩, hce, hcv, hcl, st⟩
  · cases hv
    obtain ⟨k1, k2, k3⟩ := vx_keep h0 e1 hS hA hf hL hF
    obtain ⟨t2, a1, b1⟩ := kk r u t T'.heap (locs ++ L) e1.symm (by rw [← e2]; exact X'.warmed.alike) hp hb k1 k2 k3 T' rfl X'
    exact ⟨t2, st t2 a1, b1⟩
  · obtain ⟨k1, k2, k3⟩ := vx_keep h0 e1 hS hAX hf hL hF
    obtain ⟨t2, a1, b1⟩ := kx E ce q u t T'.heap (locs ++ L) e1.symm (by rw [← e2]; exact X'.warmed.alike) hp hb k1 k2 k3 (by rw [e1]; exact hce) hcv hcl T' rfl X'
    exact ⟨t2, st.trans a1, b1⟩
theorem vx_callv {S SX : Type} {post : S → Prop} {px : SX → Prop} {B : S → State → Prop} {BX : String → SX → State → Prop} {AX : Nat → Prop} (hr : vx_Run p l e R s m args below meth c H locs cells slots mc ms (F0 m pc ls st0) rest (va_Qv post B A1 a) (vx_X px BX AX) free) (hS : va_S A0 H0 H locs) (hA : ∀ q, q < H.size → A1 q → A0 q) (hf : ∀ q, free q → A0 q) (hAX : ∀ q, q < H.size → AX q → A0 q)
    (kx : ∀ (E : String) (ce : Cell) (q9 : Addr) (u : SX) (t : State) (H1 : Heap) (locs1 : List Loc), t.heap = H1 → s.vm.Alike t.vm → px u → BX E u t → H.size ≤ H1.size → (∀ q : Nat, q < H.size → ¬ AX q → H1[q]? = H[q]?) → va_S A0 H0 H1 locs1 → H1[q9]? = some ce → ce.vm = .none → s.vm.findClass E = some ce.cls → vx_W p l e R s m args below meth c H1 locs1 (cells + mc) (slots + ms) Q (F0 m pc ls rest) q9)
    (kk : ∀ (u : S) (t : State) (H1 : Heap) (locs1 : List Loc), t.heap = H1 → s.vm.Alike t.vm → post u → B u t → H.size ≤ H1.size → (∀ q : Nat, q < H.size → ¬ A1 q → H1[q]? = H[q]?) → va_S A0 H0 H1 locs1 → W p l e R s m args below meth c H1 locs1 (cells + mc) (slots + ms) Q (F0 m (pc + 3) ls (rest))) : W p l e R s m args below meth c H locs cells slots Q (F0 m pc ls st0) := by
  intro T hT X
  rcases hr T hT X with ⟨v, st₀, t, T', L, h0, X', hL, e1, e2, ⟨⟨u, hv, hp, hb⟩, hF⟩, st⟩ | ⟨q, st₀, t, T', L, E, ce, h0, X', hL, e1, e2, ⟨u, hp, hb, hF⟩, hce, hcv, hcl, st⟩
  · cases hv
    obtain ⟨k1, k2, k3⟩ := vx_keep h0 e1 hS hA hf hL hF
    obtain ⟨t2, a1, b1⟩ := kk u t T'.heap (locs ++ L) e1.symm (by rw [← e2]; exact X'.warmed.alike) hp hb k1 k2 k3 T' rfl X'
    exact ⟨t2, st t2 a1, b1⟩
  · obtain ⟨k1, k2, k3⟩ := vx_keep h0 e1 hS hAX hf hL hF
    obtain ⟨t2, a1, b1⟩ := kx E ce q u t T'.heap (locs ++ L) e1.symm (by rw [← e2]; exact X'.warmed.alike) hp hb k1 k2 k3 (by rw [e1]; exact hce) hcv hcl T' rfl X'
    exact ⟨t2, st.trans a1, b1⟩
/-- caught by the row x of this method's table; the rows ahead don't take it -/
theorem vx_catch {own name : String} {E : String} {ce : Cell} {q : Addr} (hown : s.vm.findClass own = some m.cls) (pre : List ExceptionTableEntry) (x : ExceptionTableEntry) (suf : List ExceptionTableEntry) (hsplit : c.exceptionTable.toList = pre ++ x :: suf)
    (hpass : ∀ z ∈ pre, covers z pc = false ∨ (z.catchType ≠ 0 ∧ ∃ nm : String, (Cond.classLink own z.catchType nm).before args s = true ∧ va_Nc E nm s)) (hx : covers x pc = true) (h0 : x.catchType ≠ 0)
    (hlink : (Cond.classLink own x.catchType name).before args s = true) (hcast : (Cond.castable E name).before args s = true) (hcell : H[q]? = some ce) (hv : ce.vm = .none) (hcl : s.vm.findClass E = some ce.cls)
    (kk : W p l e R s m args below meth c H locs cells slots Q (F0 m x.handlerPc ls [.ref q])) : vx_W p l e R s m args below meth c H locs cells slots Q (F0 m pc ls rest) q := by
  intro T hT X
  have hpl : e.platform.magicAccessors = ({} : Platform).magicAccessors := by rw [X.admits.platform]
  obtain ⟨c3, c4, hc3, hc4, hasg⟩ := Cond.castable_spec hcast
  cases Option.some.inj (hc3.symm.trans hcl)
  obtain ⟨c5, hc5, hcl5⟩ := Cond.classLink_spec hown hlink e.platform hpl
  cases Option.some.inj (hc4.symm.trans hc5)
  obtain ⟨vm', X', st⟩ := X.thenCaughtThrough q (g := F0 m pc ls rest) rfl (Steps.refl _) (by rw [hT]; exact hcell) (by rw [hv]; rfl) (by obtain ⟨k9, h9, -⟩ := Vm.findClass_spec hcl; exact ⟨k9, h9⟩) pre x suf hsplit
    (fun z hz => by
      rcases hpass z hz with h | ⟨hz0, nm, hl1, hn1⟩
      · exact Or.inl h
      · obtain ⟨c6, hc6, hcl6⟩ := Cond.classLink_spec hown hl1 e.platform hpl
        obtain ⟨a8, b8, h1, h2, h3⟩ := hn1
        cases Option.some.inj (h1.symm.trans hcl)
        cases Option.some.inj (h2.symm.trans hc6)
        exact Or.inr ⟨hz0, _, hcl6, h3⟩) hx (Or.inr ⟨h0, c4, hcl5, hasg⟩)
  obtain ⟨t, a1, b1⟩ := kk (T.setVm vm') hT X'
  exact ⟨t, st.trans a1, b1⟩
end Rows
section Ends
variable {p : Program} {l : Launch} {e : Env} {R : Room} {s : State} {m : MethodId} {args : Array Value} {below : List Frame} {meth : Method} {c : Code} {H : Heap} {locs : List Loc} {cells slots : Nat} {Q : State → Prop}
variable {mc ms : Nat} {free : Addr → Prop} {A0 A1 : Nat → Prop} {H0 : Heap} {a : Array Value} {ls : Array Slot} {st0 rest : List Value}
variable {Qc : Array Value → State → Outcome → State → Prop} {XC : String → State → State → Prop}
/-- what a body that may throw owes at its end -/
def vx_MQ (below : List Frame) (Qc : Array Value → State → Outcome → State → Prop) (XC : String → State → State → Prop) (a : Array Value) (s : State) (mc ms : Nat) (free : Addr → Prop) : State → Prop := fun t =>
  ∃ o, t.status = .running ∧ Ended t below o ∧ vx_Q Qc XC mc ms free a s o t
theorem vx_ret {g : JFrame} {mc ms : Nat} (k : W p l e R s m args below meth c H locs cells slots (MQ below Qc args s mc ms free) g) : W p l e R s m args below meth c H locs cells slots (vx_MQ below Qc XC args s mc ms free) g := by
  intro T hT X
  obtain ⟨t, a1, o, b1, b2, b3, b4⟩ := k T hT X
  exact ⟨t, a1, o, b1, b2, Or.inl ⟨b3, b4⟩⟩
/-- not caught here: it goes on to the caller -/
theorem vx_widen {g : JFrame} {q : Addr} {k n : Nat} (h1 : cells ≤ k) (h2 : slots ≤ n) (kk : vx_W p l e R s m args below meth c H locs k n Q g q) : vx_W p l e R s m args below meth c H locs cells slots Q g q := fun T hT X => kk T hT (stand_widen X h1 h2)
theorem vx_out {pc : Nat} {E : String} {ce : Cell} {q : Addr} {mc ms : Nat} (hout : ∀ x ∈ c.exceptionTable.toList, covers x pc = false) (hlocks : meth.locks = false) (hcell : H[q]? = some ce) (hv : ce.vm = .none) (hcl : s.vm.findClass E = some ce.cls)
    (hx : ∀ t : State, t.heap = H → s.vm.Alike t.vm → XC E s t) (hf : ∀ z ∈ locs, free z.base) (hc : cells ≤ mc) (hs : slots ≤ ms) :
    vx_W p l e R s m args below meth c H locs cells slots (vx_MQ below Qc XC args s mc ms free) (F0 m pc ls rest) q := by
  intro T hT X
  obtain ⟨st1, hrun, hend, hW, hsm⟩ := X.leaveThrown q (g := F0 m pc ls rest) rfl rfl rfl hout hlocks
  have hcell9 : (T.setFrames (.throwing q :: below)).heap[q]? = some ce := by
    show T.heap[q]? = some ce
    rw [hT]; exact hcell
  exact ⟨_, st1, .threw q, hrun, hend, Or.inr ⟨q, rfl, E, ce, locs, hx _ hT hW.alike, hcell9, hv, hcl, hW, hsm.mono hc hs, hf⟩⟩
theorem vx_frame {U : State} {k n : Nat} (h : s.sameButNew ({ U with vm := s.vm } : State) locs k n) : s.heap.size ≤ U.heap.size ∧ ∀ q : Nat, q < s.heap.size → (∀ z ∈ locs, z.base ≠ q) → U.heap[q]? = s.heap[q]? := by
  obtain ⟨-, h2, -, -, -, h6⟩ := h
  refine ⟨h2, fun q hq hz => ?_⟩
  obtain ⟨c9, e1, e2, e3, e4⟩ := h6 q _ (Array.getElem?_eq_getElem hq)
  have hs : c9.slots = (s.heap[q]).slots := Array.ext_getElem? fun i => e4 i fun hm => hz _ hm rfl
  have h9 : c9 = s.heap[q] := by
    rw [hs] at e2
    exact e2
  have e5 : U.heap[q]? = some c9 := e1
  rw [e5, h9, Array.getElem?_eq_getElem hq]
/-- the words of a throw but the four that speak of the heap -/
def vx_no (w : Cond) : Bool := decide (w ≠ .isRef (.static Bundle.tN "UNASSIGNED_STACK" Bundle.steD)) && decide (w ≠ .isRef (.static Bundle.tN "SUPPRESSED_SENTINEL" Bundle.listD)) && decide (w ≠ .laysStatic Bundle.tN "UNASSIGNED_STACK" Bundle.steD) && decide (w ≠ .laysStatic Bundle.tN "SUPPRESSED_SENTINEL" Bundle.listD)
def vx_at0 (own : String) (ic : Nat) (X : String) (names : List String) : List Cond := (Bundle.ownAtoms0 own ic X names).filter vx_no
def vx_atS (own : String) (ic : Nat) (X : String) (names : List String) : List Cond := (Bundle.ownAtoms own ic X names).filter vx_no
/-- a word that the tables alone decide, or a good one -/
def vx_ot (w : Cond) : Bool := w.onTables || goodWord w
theorem vx_ot_at {args a' : Array Value} {s U : State} {w : Cond} (hW : s.WarmedH U.vm) (hvm : s.vm = U.vm) (hg : vx_ot w = true) (h : w.before args s = true) : w.before a' U = true := by
  simp only [vx_ot, Bool.or_eq_true] at hg
  rcases hg with hg | hg
  · exact va_tabs hg hvm h
  · exact word_at hW (good_of_word hg) h
/-- a list's words: the good ones out of the method's own list, the others by premises of their own -/
theorem vx_hat {args : Array Value} {s : State} {L B : List Cond} (h1 : ∀ w ∈ L.filter goodWord, w.before args s = true) (h2 : ∀ w ∈ L.filter (fun w => !goodWord w), w ∈ B) (h3 : ∀ w ∈ B, w.before args s = true) : ∀ w ∈ L, w.before args s = true := by
  intro w hw
  by_cases g : goodWord w = true
  · exact h1 w (List.mem_filter.mpr ⟨hw, g⟩)
  · refine h3 w (h2 w (List.mem_filter.mpr ⟨hw, ?_⟩))
    show (!goodWord w) = true
    cases hgw : goodWord w
    · rfl
    · exact absurd hgw g
theorem vx_c {args : Array Value} {s : State} {w : Cond} {B : List Cond} (h : w.before args s = true) (t : ∀ w ∈ B, w.before args s = true) : ∀ w' ∈ w :: B, w'.before args s = true := fun w' h' => (List.mem_cons.mp h').elim (fun e => by rw [e]; exact h) (t w')
theorem vx_n {args : Array Value} {s : State} : ∀ w ∈ ([] : List Cond), w.before args s = true := fun _ h => nomatch h
theorem vx_own {args : Array Value} {s : State} {L : List Cond} (h1 : ∀ w ∈ L.filter vx_no, w.before args s = true)
    (hU : (Cond.isRef (.static Bundle.tN "UNASSIGNED_STACK" Bundle.steD)).before args s = true) (hN : (Cond.isRef (.static Bundle.tN "SUPPRESSED_SENTINEL" Bundle.listD)).before args s = true)
    (lU : (Cond.laysStatic Bundle.tN "UNASSIGNED_STACK" Bundle.steD).before args s = true) (lN : (Cond.laysStatic Bundle.tN "SUPPRESSED_SENTINEL" Bundle.listD).before args s = true) : ∀ w ∈ L, w.before args s = true := by
  intro w hw
  by_cases e1 : w = .isRef (.static Bundle.tN "UNASSIGNED_STACK" Bundle.steD)
  · rw [e1]; exact hU
  · by_cases e2 : w = .isRef (.static Bundle.tN "SUPPRESSED_SENTINEL" Bundle.listD)
    · rw [e2]; exact hN
    · by_cases e3 : w = .laysStatic Bundle.tN "UNASSIGNED_STACK" Bundle.steD
      · rw [e3]; exact lU
      · by_cases e4 : w = .laysStatic Bundle.tN "SUPPRESSED_SENTINEL" Bundle.listD
        · rw [e4]; exact lN
        · exact h1 w (List.mem_filter.mpr ⟨hw, by unfold vx_no; rw [decide_eq_true e1, decide_eq_true e2, decide_eq_true e3, decide_eq_true e4]; rfl⟩)
/-- where a static field lies, its class's statics cell in H -/
def vx_L (C n d : String) (A : Nat → Prop) (U : State) (H : Heap) : Prop := ∃ (c : ClassId) (k : Class) (i : Nat) (f : Field) (a : Nat) (cell : Cell), U.vm.findClass C = some c ∧ U.fieldFound? C n d = some (c, k, i, f) ∧ f.isStatic = true ∧ k.statics = some a ∧ H[a]? = some cell ∧ cell.vm.isStatics = true ∧ cell.cls = c ∧ f.slot < cell.slots.size ∧ k.staticTypes[f.slot]? = some f.type ∧ ¬ A a
theorem vx_L.moved {C n d : String} {A : Nat → Prop} {u U : State} {H : Heap} (hvm : u.vm.Alike U.vm) (h : vx_L C n d A u H) : vx_L C n d A U H := by
  obtain ⟨c, k, i, f, a, cell, h1, h2, h3, h4, h5, h6, h7, h8, h9, h10⟩ := h
  obtain ⟨k', hi', he⟩ := State.fieldFound?_setVm hvm h2
  exact ⟨c, k', i, f, a, cell, by rw [hvm.findClass]; exact h1, hi', h3, by rw [he]; exact h4, h5, h6, h7, h8, by rw [he]; exact h9, h10⟩
theorem vx_L.kept {C n d : String} {A : Nat → Prop} {U : State} {H H1 : Heap} (h : vx_L C n d A U H) (hq : ∀ a : Nat, a < H.size → ¬ A a → H1[a]? = H[a]?) : vx_L C n d A U H1 := by
  obtain ⟨c, k, i, f, a, cell, h1, h2, h3, h4, h5, h6, h7, h8, h9, h10⟩ := h
  exact ⟨c, k, i, f, a, cell, h1, h2, h3, h4, by rw [hq a (Array.getElem?_eq_some_iff.mp h5).1 h10]; exact h5, h6, h7, h8, h9, h10⟩
theorem vx_L.narrow {C n d : String} {A B : Nat → Prop} {U : State} {H : Heap} (h : vx_L C n d A U H) (hAB : ∀ q, B q → A q) : vx_L C n d B U H := by
  obtain ⟨c, k, i, f, a, cell, h1, h2, h3, h4, h5, h6, h7, h8, h9, h10⟩ := h
  exact ⟨c, k, i, f, a, cell, h1, h2, h3, h4, h5, h6, h7, h8, h9, fun z => h10 (hAB _ z)⟩
theorem vx_L.word {C n d : String} {A : Nat → Prop} {s : State} {args : Array Value} (h : vx_L C n d A s s.heap) : (Cond.laysStatic C n d).before args s = true := by
  obtain ⟨c, k, i, f, a, cell, h1, h2, h3, h4, h5, h6, h7, h8, h9, -⟩ := h
  show (Cond.laysStatic C n d).holds args s none s [] = true
  exact Cond.laysStatic_of h1 h2 h3 h4 h5 h6 h7 h8 h9
/-- .. and what it holds: null or some reference -/
def vx_Zq (C n d : String) (A : Nat → Prop) (U : State) (H : Heap) : Prop := va_Zq C n d A U H ∧ vx_L C n d A U H
theorem vx_Zq.moved {C n d : String} {A : Nat → Prop} {u U : State} {H : Heap} (hvm : u.vm.Alike U.vm) (h : vx_Zq C n d A u H) : vx_Zq C n d A U H := ⟨va_Zq.moved hvm h.1, vx_L.moved hvm h.2⟩
theorem vx_Zq.kept {C n d : String} {A : Nat → Prop} {U : State} {H H1 : Heap} (h : vx_Zq C n d A U H) (hq : ∀ a : Nat, a < H.size → ¬ A a → H1[a]? = H[a]?) : vx_Zq C n d A U H1 := ⟨va_Zq.kept h.1 hq, vx_L.kept h.2 hq⟩
theorem vx_Zq.narrow {C n d : String} {A B : Nat → Prop} {U : State} {H : Heap} (h : vx_Zq C n d A U H) (hAB : ∀ q, B q → A q) : vx_Zq C n d B U H := ⟨va_Zq.narrow h.1 hAB, vx_L.narrow h.2 hAB⟩
theorem vx_Zqof {args : Array Value} {s : State} {C n d : String} {A : Nat → Prop} (hl : (Cond.laysStatic C n d).before args s = true) (hini : (Cond.initialized C).before args s = true) (h : (Cond.isRef (.static C n d)).before args s = true) (hA : ∀ a : Nat, a < s.heap.size → ¬ A a) : vx_Zq C n d A s s.heap := by
  refine ⟨va_Zqof hl hini h hA, ?_⟩
  obtain ⟨c, k, i, f, a, cell, h1, h2, h3, h4, h5, h6, h7, h8, h9⟩ := Cond.laysStatic_spec hl
  exact ⟨c, k, i, f, a, cell, h1, h2, h3, h4, h5, h6, h7, h8, h9, hA a (Array.getElem?_eq_some_iff.mp h5).1⟩
theorem vx_isRef {C n d : String} {v : Value} {A : Nat → Prop} {s : State} {args : Array Value} (h : va_Z C n d v A s s.heap) (hv : v.isRef = true) : (Cond.isRef (.static C n d)).before args s = true := by
  obtain ⟨cf, kf, fi, f, a, cell, h1, h2, h3, h4, h5, h6, h7, -⟩ := h
  have he : (Term.static C n d).eval args s none [] s = some v := by
    simp [Term.eval, State.fieldNamed?, h1, h2, h4, h5, h6, h7]
  simp only [Cond.before, Cond.holds, Cond.value, he]
  cases v <;> simp_all [Value.isRef]
theorem vx_isRefq {C n d : String} {A : Nat → Prop} {s : State} {args : Array Value} (h : va_Zq C n d A s s.heap) : (Cond.isRef (.static C n d)).before args s = true := by
  rcases h with h | ⟨t, h⟩
  · exact vx_isRef h rfl
  · exact vx_isRef h rfl
/-- the same frame, seen from here: as if the method were called anew in this heap -/
theorem vx_rebase {T : State} (X : Stand p l e R s m args below meth c T locs cells slots) {R' : Room} (hf : R'.frames ≤ R.frames) (hl : R'.locals ≤ R.locals) (hc : cells + R'.cells ≤ R.cells) (hs : slots + R'.slots ≤ R.slots) :
    Stand p l e R' ((T.setVm s.vm).setFrames (.invoking m args :: below)) m args below meth c T [] 0 0 := by
  have htop : (T.setVm s.vm).topJava?.isSome := X.here.top
  have hF : ((T.setVm s.vm).setFrames (.invoking m args :: below)).frames = .invoking m args :: below := State.frames_setFrames _ (State.cur_lt_of_top htop)
  obtain ⟨g₀, hg0⟩ := Option.isSome_iff_exists.mp htop
  obtain ⟨r, hr⟩ := State.topJava?_eq_some.mp hg0
  have hl9 : e.platform.stackLimits (T.setVm s.vm).me = e.platform.stackLimits s.me := X.limits
  have hb9 : (T.setVm s.vm).me.stackBytes = s.me.stackBytes := X.bytes
  refine ⟨X.admits, X.cas, X.clock, hF, ?_, X.hears, X.method, X.code, X.here, X.tail, X.warmed, ?_, ?_, ?_⟩
  · have h := X.room
    have hU : ((T.setVm s.vm).setFrames (.invoking m args :: below)).localsInUse = s.localsInUse := by
      rw [State.localsInUse_invoking hF (meth := meth) (c := c) X.method X.code, State.localsInUse_invoking X.frames X.method X.code]
    simp only [State.hasRoom, Bool.and_eq_true, decide_eq_true_eq] at h ⊢
    obtain ⟨⟨⟨⟨h1, h2, h3, h4, h5, h6⟩, h7⟩, h8⟩, h9⟩ := h
    rw [X.frames, List.length_cons] at h2 h3
    have q1 := X.heapSize
    have q2 := X.used
    simp only [hF, hU, List.length_cons, State.stackLimits_setFrames, State.stackBytes_setFrames, hl9, hb9]
    refine ⟨⟨⟨⟨by omega, by omega, by omega, by omega, by omega, h6⟩, ?_⟩, ?_⟩, X.book⟩
    · show T.heap.size + R'.cells ≤ e.platform.maxCells
      omega
    · show T.slotsUsed + R'.slots ≤ e.platform.maxSlots
      omega
  · rw [State.stackLimits_setFrames]; rfl
  · rw [State.stackBytes_setFrames]; rfl
  · refine ⟨?_, Nat.le_refl _, Nat.le_refl _, ?_, ?_, fun a c9 h9 => ⟨c9, h9, rfl, rfl, fun _ _ => rfl⟩⟩
    · obtain ⟨t, ht, -⟩ := State.frames_cons hr
      show T.setVm s.vm = { ((T.setVm s.vm).setFrames (.invoking m args :: below)).setFrames (T.setVm s.vm).frames with heap := T.heap, slotsUsed := T.slotsUsed }
      rw [State.setFrames_setFrames, State.setFrames_self ht]
      rfl
    · show T.slotsUsed = T.slotsUsed + ((T.heap.toList.drop T.heap.size).map (·.slots.size)).sum
      rw [List.drop_eq_nil_of_le (Nat.le_of_eq Array.length_toList)]
      rfl
    · show ((T.heap.toList.drop T.heap.size).map (·.slots.size)).sum ≤ 0
      rw [List.drop_eq_nil_of_le (Nat.le_of_eq Array.length_toList)]
      exact Nat.le_refl _
/-- 'throw new E()': new; dup; invokespecial; athrow -/
theorem vx_throw0 {cc : ByteArray} {pc : Nat} (hexec : p.tables.exec = Jvm.exec) (hb : c.code = cc) (hl : l.stackTraces = false) {own cls : String} {names : List String} {ik ic mc ms : Nat} {A : Nat → Prop}
    (hown : s.vm.findClass own = some m.cls) (hcls : Bundle.fit cls = true) (hnames : ∀ n ∈ names, Bundle.fit n = true)
    (hk : (Cond.classLink own ik cls).before args s = true) (hini : (Cond.initialized cls).before args s = true) (hat : ∀ w ∈ vx_at0 own ic cls names, w.before args s = true)
    (hgood : ∀ w ∈ Cond.classLink own ik cls :: Cond.initialized cls :: vx_at0 own ic cls names, vx_ot w = true)
    (hU : vx_Zq Bundle.tN "UNASSIGNED_STACK" Bundle.steD A s s.heap) (hN : vx_Zq Bundle.tN "SUPPRESSED_SENTINEL" Bundle.listD A s s.heap) (hS : va_S A s.heap H locs) (hsize : ls.size = c.maxLocals)
    (d0 : decode cc pc = .ok (.new ik, 3)) (d3 : decode cc (pc + 3) = .ok (.dup, 1)) (d4 : decode cc (pc + 4) = .ok (.invokespecial ic, 3)) (d7 : decode cc (pc + 7) = .ok (.athrow, 1))
    (hout : ∀ x ∈ c.exceptionTable.toList, covers x (pc + 7) = false)
    (hRframes : names.length + 3 < R.frames) (hRlocals : (rest.map fun v => v.category).sum + (13 * (names.length + 1) + 42) ≤ R.locals) (hRcells : cells + 1 ≤ R.cells) (hRslots : slots + 6 ≤ R.slots) (hlocks : meth.locks = false)
    (hx : ∀ t : State, s.vm.Alike t.vm → H.size ≤ t.heap.size → (∀ q : Nat, q < H.size → t.heap[q]? = H[q]?) → XC cls s t)
    (hf : ∀ z ∈ locs, free z.base) (hc : cells + 1 ≤ mc) (hs : slots + 6 ≤ ms) :
    W p l e R s m args below meth c H locs cells slots (vx_MQ below Qc XC args s mc ms free) (F0 m pc ls rest) := by
  intro T hT X
  have htr : e.platform.stackTraces = false := (show e.platform.stackTraces = l.stackTraces by rw [X.admits.platform]).trans hl
  have Y := vx_rebase X (R' := { frames := R.frames, locals := R.locals, cells := 1, slots := 6 }) (Nat.le_refl _) (Nat.le_refl _) hRcells hRslots
  obtain ⟨s', hA⟩ : ∃ z, z = (T.setVm s.vm).setFrames (.invoking m args :: below) := ⟨_, rfl⟩
  rw [← hA] at Y
  have hvm : s'.vm = s.vm := by rw [hA]; rfl
  have hhp : s'.heap = H := by rw [hA]; exact hT
  have hW0 : s.WarmedH s'.vm := by rw [hvm]; exact State.WarmedH.refl s
  have hat' : ∀ w ∈ vx_at0 own ic cls names, w.before args s' = true := fun w hw => vx_ot_at hW0 hvm.symm (hgood w (List.mem_cons_of_mem _ (List.mem_cons_of_mem _ hw))) (hat w hw)
  have hk' : (Cond.classLink own ik cls).before args s' = true := vx_ot_at hW0 hvm.symm (hgood _ List.mem_cons_self) hk
  have hini' : (Cond.initialized cls).before args s' = true := vx_ot_at hW0 hvm.symm (hgood _ (List.mem_cons_of_mem _ List.mem_cons_self)) hini
  have hU' : vx_Zq Bundle.tN "UNASSIGNED_STACK" Bundle.steD A s' s'.heap := by rw [hhp]; exact vx_Zq.moved hW0.alike (hU.kept hS.2.1)
  have hN' : vx_Zq Bundle.tN "SUPPRESSED_SENTINEL" Bundle.listD A s' s'.heap := by rw [hhp]; exact vx_Zq.moved hW0.alike (hN.kept hS.2.1)
  have h : ∀ w ∈ Bundle.ownAtoms0 own ic cls names, w.before args s' = true := vx_own hat' (vx_isRefq hU'.1) (vx_isRefq hN'.1) hU'.2.word hN'.2.word
  have hown' : s'.vm.findClass own = some m.cls := by rw [hvm]; exact hown
  have hins : (Cond.instantiable cls 6).before args s' = true := h _ (by simp [Bundle.ownAtoms0])
  obtain ⟨vm₁, cX, kX, hfX, hkX, -, -, X₁, st1⟩ := Y.newCold hexec (own := own) (C := cls) (index := ik) (n := 6) hown' hk' hins hini'
    (g := F0 m pc ls rest) rfl (by rw [hb]; exact d0) (Nat.le_refl _) (Nat.le_refl _)
  generalize hT1 : (T.setVm vm₁).pushCell { cls := cX, slots := kX.instanceTypes.map defaultValue, vm := .none } = T1 at X₁ st1
  have hcat : (Value.ref T.heap.size).category = 1 := rfl
  have hcellA : T1.heap[T.heap.size]? = some (freshCell cX kX) := by rw [← hT1]; exact State.heap_pushCell_size _ _
  have d3' : decode c.code (pc + 3) = .ok (.dup, 1) := by rw [hb]; exact d3
  obtain ⟨U, hsteps, hrun, hend, hW, hsame, ce, hce, hO⟩ := X₁.ctorThrow0 hexec htr (own := own) (cls := cls) (names := names) (ic := ic) hown' hcls hnames h (fun x hx => nomatch hx) hfX hkX hcellA (by rw [hhp, hT]; exact Nat.le_refl _)
    (g := { method := m, pc := pc + 4, locals := ls, stack := .ref T.heap.size :: .ref T.heap.size :: rest, locked := none }) rfl hsize rfl rfl (rest := rest) rfl
    (by rw [hb]; exact d4) (by rw [hb]; exact d7) hout hRframes (by simp only [List.map_cons, List.sum_cons, hcat]; omega) hlocks
  obtain ⟨f1, f2⟩ := vx_frame hsame
  rw [hhp] at f1 f2
  have hWs : s.WarmedH U.vm := State.WarmedH.trans hW0 hW
  have hcl : s.vm.findClass cls = some ce.cls := by
    have h9 := hO.cls
    rw [hvm] at h9
    exact h9
  have hall : s.sameButNew ({ U with vm := s.vm } : State) locs mc ms := by
    subst hA
    obtain ⟨e1, e2⟩ := hsame
    rw [State.setFrames_setFrames] at e1
    have h2 : (T.setVm s.vm).sameButNew ({ U with vm := s.vm } : State) [] (0 + 1) (0 + 6) := ⟨e1, e2⟩
    have h3 := X.same.trans h2
    rw [List.append_nil] at h3
    exact h3.mono hc hs
  refine ⟨U, ?_, .threw T.heap.size, hrun, hend, Or.inr ⟨T.heap.size, rfl, cls, ce, locs, hx U hWs.alike f1 (fun q hq => f2 q hq (fun z hz => nomatch hz)), hce, hO.vm, hcl, hWs, hall, hf⟩⟩
  refine st1 _ ?_
  show Steps p.tables e below (T1.setTop { method := m, pc := pc + 3, locals := ls, stack := .ref T.heap.size :: rest, locked := none }) _
  jvm_step X₁.here [X₁.here.top, hexec, d3', Value.category]
  exact hsteps
/-- 'throw new E("text")': new; dup; ldc; invokespecial; athrow -/
theorem vx_throwS {cc : ByteArray} {pc : Nat} (hexec : p.tables.exec = Jvm.exec) (hb : c.code = cc) (hl : l.stackTraces = false) {own cls text : String} {names : List String} {ik is ic mc ms sa : Nat} {A : Nat → Prop}
    (hown : s.vm.findClass own = some m.cls) (hcls : Bundle.fit cls = true) (hnames : ∀ n ∈ names, Bundle.fit n = true)
    (hk : (Cond.classLink own ik cls).before args s = true) (hini : (Cond.initialized cls).before args s = true) (hstr : vk_R own is text sa s) (hat : ∀ w ∈ vx_atS own ic cls names, w.before args s = true)
    (hgood : ∀ w ∈ Cond.classLink own ik cls :: Cond.initialized cls :: vx_atS own ic cls names, vx_ot w = true)
    (hU : vx_Zq Bundle.tN "UNASSIGNED_STACK" Bundle.steD A s s.heap) (hN : vx_Zq Bundle.tN "SUPPRESSED_SENTINEL" Bundle.listD A s s.heap) (hS : va_S A s.heap H locs) (hsize : ls.size = c.maxLocals)
    (d0 : decode cc pc = .ok (.new ik, 3)) (d3 : decode cc (pc + 3) = .ok (.dup, 1)) (d4 : decode cc (pc + 4) = .ok (.ldc is, 2)) (d6 : decode cc (pc + 6) = .ok (.invokespecial ic, 3)) (d9 : decode cc (pc + 9) = .ok (.athrow, 1))
    (hout : ∀ x ∈ c.exceptionTable.toList, covers x (pc + 9) = false)
    (hRframes : names.length + 3 < R.frames) (hRlocals : (rest.map fun v => v.category).sum + (13 * (names.length + 1) + 43) ≤ R.locals) (hRcells : cells + 1 ≤ R.cells) (hRslots : slots + 6 ≤ R.slots) (hlocks : meth.locks = false)
    (hx : ∀ t : State, s.vm.Alike t.vm → H.size ≤ t.heap.size → (∀ q : Nat, q < H.size → t.heap[q]? = H[q]?) → XC cls s t)
    (hf : ∀ z ∈ locs, free z.base) (hc : cells + 1 ≤ mc) (hs : slots + 6 ≤ ms) :
    W p l e R s m args below meth c H locs cells slots (vx_MQ below Qc XC args s mc ms free) (F0 m pc ls rest) := by
  intro T hT X
  have htr : e.platform.stackTraces = false := (show e.platform.stackTraces = l.stackTraces by rw [X.admits.platform]).trans hl
  have Y := vx_rebase X (R' := { frames := R.frames, locals := R.locals, cells := 1, slots := 6 }) (Nat.le_refl _) (Nat.le_refl _) hRcells hRslots
  obtain ⟨s', hA⟩ : ∃ z, z = (T.setVm s.vm).setFrames (.invoking m args :: below) := ⟨_, rfl⟩
  rw [← hA] at Y
  have hvm : s'.vm = s.vm := by rw [hA]; rfl
  have hhp : s'.heap = H := by rw [hA]; exact hT
  have hW0 : s.WarmedH s'.vm := by rw [hvm]; exact State.WarmedH.refl s
  have hat' : ∀ w ∈ vx_atS own ic cls names, w.before args s' = true := fun w hw => vx_ot_at hW0 hvm.symm (hgood w (List.mem_cons_of_mem _ (List.mem_cons_of_mem _ hw))) (hat w hw)
  have hk' : (Cond.classLink own ik cls).before args s' = true := vx_ot_at hW0 hvm.symm (hgood _ List.mem_cons_self) hk
  have hini' : (Cond.initialized cls).before args s' = true := vx_ot_at hW0 hvm.symm (hgood _ (List.mem_cons_of_mem _ List.mem_cons_self)) hini
  have hU' : vx_Zq Bundle.tN "UNASSIGNED_STACK" Bundle.steD A s' s'.heap := by rw [hhp]; exact vx_Zq.moved hW0.alike (hU.kept hS.2.1)
  have hN' : vx_Zq Bundle.tN "SUPPRESSED_SENTINEL" Bundle.listD A s' s'.heap := by rw [hhp]; exact vx_Zq.moved hW0.alike (hN.kept hS.2.1)
  have h : ∀ w ∈ Bundle.ownAtoms own ic cls names, w.before args s' = true := vx_own hat' (vx_isRefq hU'.1) (vx_isRefq hN'.1) hU'.2.word hN'.2.word
  have hown' : s'.vm.findClass own = some m.cls := by rw [hvm]; exact hown
  have hins : (Cond.instantiable cls 6).before args s' = true := h _ (by simp [Bundle.ownAtoms])
  obtain ⟨vm₁, cX, kX, hfX, hkX, -, -, X₁, st1⟩ := Y.newCold hexec (own := own) (C := cls) (index := ik) (n := 6) hown' hk' hins hini'
    (g := F0 m pc ls rest) rfl (by rw [hb]; exact d0) (Nat.le_refl _) (Nat.le_refl _)
  generalize hT1 : (T.setVm vm₁).pushCell { cls := cX, slots := kX.instanceTypes.map defaultValue, vm := .none } = T1 at X₁ st1
  have hcat : (Value.ref T.heap.size).category = 1 := rfl
  have hcellA : T1.heap[T.heap.size]? = some (freshCell cX kX) := by rw [← hT1]; exact State.heap_pushCell_size _ _
  have d3' : decode c.code (pc + 3) = .ok (.dup, 1) := by rw [hb]; exact d3
  have d4' : decode c.code (pc + 4) = .ok (.ldc is, 2) := by rw [hb]; exact d4
  have hstr' : vk_R own is text sa s' := vk_R.warm hW0 hstr
  obtain ⟨U, hsteps, hrun, hend, hW, hsame, ce, hce, hO⟩ := X₁.ctorThrowS hexec htr (own := own) (cls := cls) (names := names) (ic := ic) hown' hcls hnames h (fun x hx => nomatch hx) hfX hkX hcellA (by rw [hhp, hT]; exact Nat.le_refl _) (msg := .ref sa) rfl
    (g := { method := m, pc := pc + 6, locals := ls, stack := .ref sa :: .ref T.heap.size :: .ref T.heap.size :: rest, locked := none }) rfl hsize rfl rfl (rest := rest) rfl
    (by rw [hb]; exact d6) (by rw [hb]; exact d9) hout hRframes (by simp only [List.map_cons, List.sum_cons, hcat]; omega) hlocks
  obtain ⟨f1, f2⟩ := vx_frame hsame
  rw [hhp] at f1 f2
  have hWs : s.WarmedH U.vm := State.WarmedH.trans hW0 hW
  have hcl : s.vm.findClass cls = some ce.cls := by
    have h9 := hO.cls
    rw [hvm] at h9
    exact h9
  have hall : s.sameButNew ({ U with vm := s.vm } : State) locs mc ms := by
    subst hA
    obtain ⟨e1, e2⟩ := hsame
    rw [State.setFrames_setFrames] at e1
    have h2 : (T.setVm s.vm).sameButNew ({ U with vm := s.vm } : State) [] (0 + 1) (0 + 6) := ⟨e1, e2⟩
    have h3 := X.same.trans h2
    rw [List.append_nil] at h3
    exact h3.mono hc hs
  refine ⟨U, ?_, .threw T.heap.size, hrun, hend, Or.inr ⟨T.heap.size, rfl, cls, ce, locs, hx U hWs.alike f1 (fun q hq => f2 q hq (fun z hz => nomatch hz)), hce, hO.vm, hcl, hWs, hall, hf⟩⟩
  refine st1 _ ?_
  show Steps p.tables e below (T1.setTop { method := m, pc := pc + 3, locals := ls, stack := .ref T.heap.size :: rest, locked := none }) _
  jvm_step X₁.here [X₁.here.top, hexec, d3', Value.category]
  exact X₁.ldcString hexec (own := own) (text := text) (index := is) (a := sa) hown' hstr'.1 hstr'.2
    (g := { method := m, pc := pc + 4, locals := ls, stack := .ref T.heap.size :: .ref T.heap.size :: rest, locked := none }) rfl d4' _ hsteps
/-- 'throw new E("text")', the text by a wide index -/
theorem vx_throwSW {cc : ByteArray} {pc : Nat} (hexec : p.tables.exec = Jvm.exec) (hb : c.code = cc) (hl : l.stackTraces = false) {own cls text : String} {names : List String} {ik is ic mc ms sa : Nat} {A : Nat → Prop}
    (hown : s.vm.findClass own = some m.cls) (hcls : Bundle.fit cls = true) (hnames : ∀ n ∈ names, Bundle.fit n = true)
    (hk : (Cond.classLink own ik cls).before args s = true) (hini : (Cond.initialized cls).before args s = true) (hstr : vk_R own is text sa s) (hat : ∀ w ∈ vx_atS own ic cls names, w.before args s = true)
    (hgood : ∀ w ∈ Cond.classLink own ik cls :: Cond.initialized cls :: vx_atS own ic cls names, vx_ot w = true)
    (hU : vx_Zq Bundle.tN "UNASSIGNED_STACK" Bundle.steD A s s.heap) (hN : vx_Zq Bundle.tN "SUPPRESSED_SENTINEL" Bundle.listD A s s.heap) (hS : va_S A s.heap H locs) (hsize : ls.size = c.maxLocals)
    (d0 : decode cc pc = .ok (.new ik, 3)) (d3 : decode cc (pc + 3) = .ok (.dup, 1)) (d4 : decode cc (pc + 4) = .ok (.ldc_w is, 3)) (d7 : decode cc (pc + 7) = .ok (.invokespecial ic, 3)) (d10 : decode cc (pc + 10) = .ok (.athrow, 1))
    (hout : ∀ x ∈ c.exceptionTable.toList, covers x (pc + 10) = false)
    (hRframes : names.length + 3 < R.frames) (hRlocals : (rest.map fun v => v.category).sum + (13 * (names.length + 1) + 43) ≤ R.locals) (hRcells : cells + 1 ≤ R.cells) (hRslots : slots + 6 ≤ R.slots) (hlocks : meth.locks = false)
    (hx : ∀ t : State, s.vm.Alike t.vm → H.size ≤ t.heap.size → (∀ q : Nat, q < H.size → t.heap[q]? = H[q]?) → XC cls s t)
    (hf : ∀ z ∈ locs, free z.base) (hc : cells + 1 ≤ mc) (hs : slots + 6 ≤ ms) :
    W p l e R s m args below meth c H locs cells slots (vx_MQ below Qc XC args s mc ms free) (F0 m pc ls rest) := by
  intro T hT X
  have htr : e.platform.stackTraces = false := (show e.platform.stackTraces = l.stackTraces by rw [X.admits.platform]).trans hl
  have Y := vx_rebase X (R' := { frames := R.frames, locals := R.locals, cells := 1, slots := 6 }) (Nat.le_refl _) (Nat.le_refl _) hRcells hRslots
  obtain ⟨s', hA⟩ : ∃ z, z = (T.setVm s.vm).setFrames (.invoking m args :: below) := ⟨_, rfl⟩
  rw [← hA] at Y
  have hvm : s'.vm = s.vm := by rw [hA]; rfl
  have hhp : s'.heap = H := by rw [hA]; exact hT
  have hW0 : s.WarmedH s'.vm := by rw [hvm]; exact State.WarmedH.refl s
  have hat' : ∀ w ∈ vx_atS own ic cls names, w.before args s' = true := fun w hw => vx_ot_at hW0 hvm.symm (hgood w (List.mem_cons_of_mem _ (List.mem_cons_of_mem _ hw))) (hat w hw)
  have hk' : (Cond.classLink own ik cls).before args s' = true := vx_ot_at hW0 hvm.symm (hgood _ List.mem_cons_self) hk
  have hini' : (Cond.initialized cls).before args s' = true := vx_ot_at hW0 hvm.symm (hgood _ (List.mem_cons_of_mem _ List.mem_cons_self)) hini
  have hU' : vx_Zq Bundle.tN "UNASSIGNED_STACK" Bundle.steD A s' s'.heap := by rw [hhp]; exact vx_Zq.moved hW0.alike (hU.kept hS.2.1)
  have hN' : vx_Zq Bundle.tN "SUPPRESSED_SENTINEL" Bundle.listD A s' s'.heap := by rw [hhp]; exact vx_Zq.moved hW0.alike (hN.kept hS.2.1)
  have h : ∀ w ∈ Bundle.ownAtoms own ic cls names, w.before args s' = true := vx_own hat' (vx_isRefq hU'.1) (vx_isRefq hN'.1) hU'.2.word hN'.2.word
  have hown' : s'.vm.findClass own = some m.cls := by rw [hvm]; exact hown
  have hins : (Cond.instantiable cls 6).before args s' = true := h _ (by simp [Bundle.ownAtoms])
  obtain ⟨vm₁, cX, kX, hfX, hkX, -, -, X₁, st1⟩ := Y.newCold hexec (own := own) (C := cls) (index := ik) (n := 6) hown' hk' hins hini'
    (g := F0 m pc ls rest) rfl (by rw [hb]; exact d0) (Nat.le_refl _) (Nat.le_refl _)
  generalize hT1 : (T.setVm vm₁).pushCell { cls := cX, slots := kX.instanceTypes.map defaultValue, vm := .none } = T1 at X₁ st1
  have hcat : (Value.ref T.heap.size).category = 1 := rfl
  have hcellA : T1.heap[T.heap.size]? = some (freshCell cX kX) := by rw [← hT1]; exact State.heap_pushCell_size _ _
  have d3' : decode c.code (pc + 3) = .ok (.dup, 1) := by rw [hb]; exact d3
  have d4' : decode c.code (pc + 4) = .ok (.ldc_w is, 3) := by rw [hb]; exact d4
  have hstr' : vk_R own is text sa s' := vk_R.warm hW0 hstr
  obtain ⟨U, hsteps, hrun, hend, hW, hsame, ce, hce, hO⟩ := X₁.ctorThrowS hexec htr (own := own) (cls := cls) (names := names) (ic := ic) hown' hcls hnames h (fun x hx => nomatch hx) hfX hkX hcellA (by rw [hhp, hT]; exact Nat.le_refl _) (msg := .ref sa) rfl
    (g := { method := m, pc := pc + 7, locals := ls, stack := .ref sa :: .ref T.heap.size :: .ref T.heap.size :: rest, locked := none }) rfl hsize rfl rfl (rest := rest) rfl
    (by rw [hb]; exact d7) (by rw [hb]; exact d10) hout hRframes (by simp only [List.map_cons, List.sum_cons, hcat]; omega) hlocks
  obtain ⟨f1, f2⟩ := vx_frame hsame
  rw [hhp] at f1 f2
  have hWs : s.WarmedH U.vm := State.WarmedH.trans hW0 hW
  have hcl : s.vm.findClass cls = some ce.cls := by
    have h9 := hO.cls
    rw [hvm] at h9
    exact h9
  have hall : s.sameButNew ({ U with vm := s.vm } : State) locs mc ms := by
    subst hA
    obtain ⟨e1, e2⟩ := hsame
    rw [State.setFrames_setFrames] at e1
    have h2 : (T.setVm s.vm).sameButNew ({ U with vm := s.vm } : State) [] (0 + 1) (0 + 6) := ⟨e1, e2⟩
    have h3 := X.same.trans h2
    rw [List.append_nil] at h3
    exact h3.mono hc hs
  refine ⟨U, ?_, .threw T.heap.size, hrun, hend, Or.inr ⟨T.heap.size, rfl, cls, ce, locs, hx U hWs.alike f1 (fun q hq => f2 q hq (fun z hz => nomatch hz)), hce, hO.vm, hcl, hWs, hall, hf⟩⟩
  refine st1 _ ?_
  show Steps p.tables e below (T1.setTop { method := m, pc := pc + 3, locals := ls, stack := .ref T.heap.size :: rest, locked := none }) _
  jvm_step X₁.here [X₁.here.top, hexec, d3', Value.category]
  exact X₁.ldcStringW hexec (own := own) (text := text) (index := is) (a := sa) hown' hstr'.1 hstr'.2
    (g := { method := m, pc := pc + 4, locals := ls, stack := .ref T.heap.size :: .ref T.heap.size :: rest, locked := none }) rfl d4' _ hsteps
end Ends
section Bodies
variable {l : Launch}
theorem vx_ofW {y : MethodName} {ws ws' : List Cond} {rm : Room} {Pc : Array Value → State → Prop} {Qc : Array Value → State → Outcome → State → Prop} {XC : String → State → State → Prop} {mc ms : Nat} {free : Addr → Prop} {cc : ByteArray} {maxL : Nat} {ret : Option FieldType}
    (hy : plainName y.cls = true) (hw : ws = Cond.code y cc maxL ret :: ws')
    (body : ∀ p e s m args below meth c s₁, BodyLoose p l y (headSpec ws rm) cc maxL ret e s m args below meth c s₁ → c.maxLocals = maxL → (∀ x ∈ c.exceptionTable.toList, False) → Pc args s →
      W p l e (headSpec ws rm).room s m args below meth c s.heap [] 0 0 (vx_MQ below Qc XC args s mc ms free) (entryFrame m args maxL)) : vx_Met l y ws rm Pc Qc XC mc ms free := by
  refine MetFree.of_bodyS (code := cc) (maxLocals := maxL) (ret := ret) hy ?_ ?_
  · intro args s m h hn
    obtain ⟨meth, c, h1, h2, h3, h4, h5, h6, -, -⟩ := Cond.code_spec hn (atoms_spec (ws := ws) h _ (by rw [hw]; exact List.mem_cons_self))
    exact ⟨meth, c, h1, h2, h3, h4, h5, h6⟩
  · intro p e s m args below meth c s₁ B hml hP _
    have hh0 : s₁.heap = s.heap := by rw [B.state]; rfl
    have ht : ∀ x ∈ c.exceptionTable.toList, False := by
      obtain ⟨meth9, c9, h1, h2, -, -, -, -, h7, -⟩ := Cond.code_spec B.named (atoms_spec (ws := ws) B.pre _ (by rw [hw]; exact List.mem_cons_self))
      cases Option.some.inj (h1.symm.trans B.method)
      cases Option.some.inj (h2.symm.trans (Stand.of_body B).code)
      intro x hx
      rw [Array.isEmpty_iff.mp h7] at hx
      cases hx
    obtain ⟨t, a1, o, b1, b2, b3⟩ := body p e s m args below meth c s₁ B hml ht hP s₁ hh0 (Stand.of_body B)
    exact ⟨t, o, a1, b1, b2, b3⟩
/-- the table of a body with handlers -/
theorem vx_table {p : Program} {x y : MethodName} {S : Spec} {cc bytes : ByteArray} {maxL maxL' : Nat} {ret ret' : Option FieldType} {e : Env} {s s₁ : State} {m : MethodId} {args : Array Value} {below : List Frame} {meth : Method} {c : Code} {hh : List (Nat × Nat × Nat × Nat)}
    (B : BodyLoose p l y S cc maxL ret e s m args below meth c s₁) (h : (Cond.codeWith y bytes maxL' ret' hh).before args s = true) : c.exceptionTable.toList = tableOf hh := by
  obtain ⟨m9, meth9, c9, hn9, h1, h2, -, -, h6, -⟩ := Cond.codeWith_spec h
  cases Option.some.inj (hn9.symm.trans B.named)
  cases Option.some.inj (h1.symm.trans B.method)
  cases Option.some.inj (h2.symm.trans (Stand.of_body B).code)
  rw [← h6, table_eq]
end Bodies
end VXA
/-! ===== END ===== -/
/-! ===== BEGIN a static call of a method with an exception table ===== -/
section VXS
variable {p : Program} {l : Launch} {e : Env} {R : Room} {s : State} {m : MethodId} {args : Array Value} {below : List Frame} {meth : Method} {c : Code} {T : State} {H : Heap} {locs : List Loc} {cells slots : Nat}
abbrev vx_CSW (R : Room) (s : State) (args : Array Value) (own : String) (index : Nat) (y : MethodName) (bytes : ByteArray) (maxL : Nat) (ret : Option FieldType) (hh : List (Nat × Nat × Nat × Nat)) (ws : List Cond) (rm : Room) (mc ms n : Nat) : Prop :=
  (rm.cells = mc ∧ rm.slots = ms ∧ rm.frames + 1 ≤ R.frames ∧ 8 + (maxL + 11) + rm.locals ≤ R.locals ∧ (∀ w ∈ ws, ∀ (a' : Array Value) (U : State), s.WarmedH U.vm → w.before a' U = true) ∧ Cond.codeWith y bytes maxL ret hh ∈ ws) ∧
  (Cond.codeWith y bytes maxL ret hh).before args s = true ∧ (Cond.initialized y.cls).before args s = true ∧ (y.cls ≠ "java/lang/invoke/MethodHandle" ∧ y.cls ≠ "java/lang/invoke/VarHandle") ∧
  (∀ sig, parseMethodDescriptor y.desc = some sig → n = sig.parameters.length) ∧ (Cond.methodLink own index y).before args s = true ∧ (Cond.static y).before args s = true
theorem vx_cwSW {own : String} {index maxL mc ms : Nat} {y : MethodName} {bytes : ByteArray} {ret : Option FieldType} {hh : List (Nat × Nat × Nat × Nat)} {Ts ws ws' : List Cond} {rm : Room} (n : Nat) (ht : ∀ w ∈ Ts, w.before args s = true) (hT : GoodIn Ts (va_wsS own index y ws)) (hw : ws = Cond.codeWith y bytes maxL ret hh :: ws') (hrc : rm.cells = mc) (hrs : rm.slots = ms)
    (hd : y.cls ≠ "java/lang/invoke/MethodHandle" ∧ y.cls ≠ "java/lang/invoke/VarHandle" ∧ (parseMethodDescriptor y.desc).map (fun d => d.parameters.length) = some n) (hR : rm.frames + 1 ≤ R.frames ∧ 8 + (maxL + 11) + rm.locals ≤ R.locals) :
    vx_CSW R s args own index y bytes maxL ret hh ws rm mc ms n := by
  have ok : ∀ w ∈ va_wsS own index y ws, w.before args s = true := fun w h => ht w (hT w h).1
  have hG : GoodIn Ts ws := fun w h => hT w (by unfold va_wsS; exact List.mem_append_right _ h)
  have hc : Cond.codeWith y bytes maxL ret hh ∈ ws := by rw [hw]; exact List.mem_cons_self
  refine ⟨⟨hrc, hrs, hR.1, hR.2, pay_in ht hG, hc⟩, ht _ (hG _ hc).1, ok _ (by simp [va_wsS]), ⟨hd.1, hd.2.1⟩, fun sig h => ?_, ok _ (by simp [va_wsS]), ok _ (by simp [va_wsS])⟩
  have h2 := hd.2.2
  rw [h] at h2
  exact (Option.some.inj h2).symm
theorem vx_callSW (X : Stand p l e R s m args below meth c T locs cells slots) (hexec : p.tables.exec = Jvm.exec) {own : String} {index : Nat} {y : MethodName} {bytes : ByteArray} {maxL : Nat} {ret : Option FieldType} {hh : List (Nat × Nat × Nat × Nat)}
    (hown : s.vm.findClass own = some m.cls) (hlink : (Cond.methodLink own index y).before args s = true) (hstat : (Cond.static y).before args s = true) (hinit : (Cond.initialized y.cls).before args s = true)
    (hcode : (Cond.codeWith y bytes maxL ret hh).before args s = true) (hy : y.cls ≠ "java/lang/invoke/MethodHandle" ∧ y.cls ≠ "java/lang/invoke/VarHandle")
    {W9 : Nat} {Pre : Pt → Array Value → Prop} {Post : Pt → Array Value → Option Value → Pt → Prop} (hK : Back l R p e below s args y 3 W9 Pre Post)
    {g : JFrame} (hg : g.method = m) (hsize : g.locals.size = c.maxLocals) {argsL rest : List Value} (hlen : ∀ sig, parseMethodDescriptor y.desc = some sig → argsL.length = sig.parameters.length)
    (hstack : g.stack = argsL.reverse ++ rest) (hW : 2 * g.monitorRoom + (rest.map fun v => v.category).sum ≤ W9) (hdg : decode c.code g.pc = .ok (.invokestatic index, 3))
    (hpre : ∀ vm₁, s.WarmedH vm₁ → Pre ⟨T.setVm vm₁, locs, cells, slots⟩ argsL.toArray) :
    ∃ (v : Option Value) (vm₁ : Vm) (B : Pt), s.WarmedH vm₁ ∧ Stand p l e R s m args below meth c B.U B.locs B.cells B.slots ∧ Post ⟨T.setVm vm₁, locs, cells, slots⟩ argsL.toArray v B ∧
      ∀ target, Steps p.tables e below (B.U.setTop { g with pc := g.pc + 3, stack := v.toList ++ rest }) target → Steps p.tables e below (T.setTop g) target := by
  obtain ⟨mk, methM, cM, hnamed, hmethM, -, -, -, -, -, -, hsigM⟩ := Cond.codeWith_spec hcode
  have hstatic : methM.isStatic = true := Cond.static_spec hnamed hmethM hstat
  obtain ⟨kP, hkP, -⟩ := className_of_methodNamed hnamed
  have hinitP : kP.init = .initialized := Cond.initialized_spec (findClass_of_methodNamed hnamed) hkP hinit
  obtain ⟨vm₁, X₁, hstep₁⟩ := X.invokestatic hexec hown hlink hnamed hmethM hstatic hkP hinitP hy (g := g) hg (argsL := argsL) (rest := rest) (hlen _ hsigM) hstack hdg
  obtain ⟨v, B, X', hpost, hsteps⟩ := hK m meth c ⟨T.setVm vm₁, locs, cells, slots⟩ { g with stack := rest } (.invokestatic index) mk argsL.toArray X₁ hg hsize hdg hW (X₁.named hnamed) (hpre vm₁ X₁.warmed)
  exact ⟨v, vm₁, B, X₁.warmed, X', hpost, fun target h => hstep₁ _ fun acts => by rw [doInvoke_state]; exact hsteps.trans h⟩
theorem vx_runSW {y : MethodName} {bytes cc : ByteArray} {maxL nL mc ms n index : Nat} {ret : Option FieldType} {hh : List (Nat × Nat × Nat × Nat)} {ws : List Cond} {rm : Room} {Pc : Array Value → State → Prop} {Qc : Array Value → State → Outcome → State → Prop} {free : Addr → Prop} {Ts : List Cond} {own : String} {As rest : List Value} {g : JFrame}
    (S : CallFix p m c cc nL s args Ts own) (hM : Met l y ws rm Pc Qc mc ms free) (cw : vx_CSW R s args own index y bytes maxL ret hh ws rm mc ms n) (hp : PreS s H Pc As)
    (hg : g.method = m) (hn : As.length = n) (hsize : g.locals.size = nL) (hstack : g.stack = As.reverse ++ rest) (hW : 2 * g.monitorRoom + (rest.map fun v => v.category).sum ≤ 8) (hdg : decode cc g.pc = .ok (.invokestatic index, 3)) (hf : cells + mc ≤ R.cells ∧ slots + ms ≤ R.slots) :
    va_Run p l e R s m args below meth c H locs cells slots mc ms g rest (Qc As.toArray) (free) := by
  obtain ⟨⟨hrc, hrs, hfr, hlo, hws, hcw⟩, hcode, hini, hy, hlen, hl, hstt⟩ := cw
  have hK : Back l R p e below s args y 3 8 (PreOf R mc ms Pc) (PostOf Qc mc ms free) := va_backW (hh := hh) (bytes := bytes) (maxL := maxL) (ret := ret) hM hp.1 hrc hrs hfr hlo hws hcw (fun a' U hW => word_at hW (Or.inl (by first | rfl | simp [Cond.onTables, Cond.keeps, Cond.steady])) hini)
  obtain ⟨hx, hb, hml, ho, -⟩ := S
  intro T hT X
  obtain ⟨v, vm₁, ⟨U', l2, c2, s2⟩, hW₁, X', ⟨g', mk, t, L, e1, e2, hq, h1, hL, h2, h3⟩, st⟩ := vx_callSW X hx (hh := hh) (bytes := bytes) (maxL := maxL) (ret := ret) ho hl hstt hini hcode hy hK hg (hsize.trans hml.symm) (argsL := As) (rest := rest) (fun sig h => hn.trans (hlen sig h)) hstack hW (by rw [hb]; exact hdg)
    (fun vm₁ hW₁ => ⟨hf.1, hf.2, hp.2 (T.setVm vm₁) hT hW₁⟩)
  dsimp only [Pt.U, Pt.locs, Pt.cells, Pt.slots] at X' e1 e2 h1 h2 h3 st
  subst h1; subst h2; subst h3
  exact ⟨v, (T.setVm vm₁).calling g' mk As.toArray, t, U', L, hT, X', hL, e1, e2, hq, st⟩
/-- not caught here, past rows that name other classes: it goes on to the caller -/
theorem vx_outP {p : Program} {l : Launch} {e : Env} {R : Room} {s : State} {m : MethodId} {args : Array Value} {below : List Frame} {meth : Method} {c : Code} {H : Heap} {locs : List Loc} {cells slots : Nat} {free : Addr → Prop} {ls : Array Slot} {rest : List Value} {Qc : Array Value → State → Outcome → State → Prop} {XC : String → State → State → Prop}
    {pc : Nat} {own E : String} {ce : Cell} {q : Addr} {mc ms : Nat} (hown : s.vm.findClass own = some m.cls) (hlocks : meth.locks = false)
    (hpass : ∀ z ∈ c.exceptionTable.toList, covers z pc = false ∨ (z.catchType ≠ 0 ∧ ∃ nm : String, (Cond.classLink own z.catchType nm).before args s = true ∧ va_Nc E nm s)) (hcell : H[q]? = some ce) (hv : ce.vm = .none) (hcl : s.vm.findClass E = some ce.cls)
    (hx : ∀ t : State, t.heap = H → s.vm.Alike t.vm → XC E s t) (hf : ∀ z ∈ locs, free z.base) (hc : cells ≤ mc) (hs : slots ≤ ms) :
    vx_W p l e R s m args below meth c H locs cells slots (vx_MQ below Qc XC args s mc ms free) (F0 m pc ls rest) q := by
  intro T hT X
  have hpl : e.platform.magicAccessors = ({} : Platform).magicAccessors := by rw [X.admits.platform]
  obtain ⟨vm', hW', X', st⟩ := X.outThrough hlocks q (g := F0 m pc ls rest) rfl rfl rfl (cell := ce) (by rw [hT]; exact hcell) (by rw [hv]; rfl)
    (by obtain ⟨k9, h9, -⟩ := Vm.findClass_spec hcl; exact ⟨k9, h9⟩) (fun z hz => by
      rcases hpass z hz with h | ⟨hz0, nm, hl1, hn1⟩
      · exact Or.inl h
      · obtain ⟨c6, hc6, hcl6⟩ := Cond.classLink_spec hown hl1 e.platform hpl
        obtain ⟨a8, b8, h1, h2, h3⟩ := hn1
        cases Option.some.inj (h1.symm.trans hcl)
        cases Option.some.inj (h2.symm.trans hc6)
        exact Or.inr ⟨hz0, _, hcl6, h3⟩)
  obtain ⟨g₀, hfr⟩ := X'.frames_eq
  have hcell9 : ((T.setVm vm').setFrames (.throwing q :: below)).heap[q]? = some ce := by
    show T.heap[q]? = some ce
    rw [hT]; exact hcell
  have hend : Ended ((T.setVm vm').setFrames (.throwing q :: below)) below (.threw q) := State.frames_setFrames _ (State.cur_lt_of_frames hfr)
  refine ⟨(T.setVm vm').setFrames (.throwing q :: below), ?_, .threw q, X'.here.running, hend, Or.inr ⟨q, rfl, E, ce, locs, hx _ hT (X'.ends _).1.alike, hcell9, hv, hcl, (X'.ends _).1, (X'.ends _).2.mono hc hs, hf⟩⟩
  rw [X.pushThrowing_eq]
  exact st
/-- a thing of a world lies in the heap -/
theorem vx_lt {D : va_G} {cl : List vw_C} {ws : va_W} {H1 : Heap} (h : va_P D cl ws H1) {k : Nat} {q : Nat × va_E} (hk : ws[k]? = some q) : q.1 < H1.size := (h k q hk).lt
end VXS
/-! ===== END ===== -/
/-! ===== BEGIN methods with a table of their own: called by a name, returning or throwing ===== -/
section VXH
/-! vx_backW, vx_callVX, vx_callSX, vx_callVW, vx_runVW, vx_runVX, vx_runSX, vx_ofWH follow the same proofs as their sisters above (Free/Laws.lean, Shelf42/LK1.lean); vx_outP calls Shelf42/NT130.lean (outThrough). -/
section
variable {l : Launch} {R : Room} {p : Program} {e : Env} {below : List Frame} {s : State} {sargs : Array Value} {y : MethodName} {len W9 : Nat}
theorem vx_backW {ws : List Cond} {rm : Room} {Pc : Array Value → State → Prop} {Qc : Array Value → State → Outcome → State → Prop} {XC : String → State → State → Prop} {mc ms : Nat} {free : Addr → Prop} {bytes : ByteArray} {maxL : Nat} {ret : Option FieldType} {hh : List (Nat × Nat × Nat × Nat)}
    (hM : vx_Met l y ws rm Pc Qc XC mc ms free) (hblind : FrameBlind Pc) (hrc : rm.cells = mc) (hrs : rm.slots = ms)
    (hframes : rm.frames + 1 ≤ R.frames) (hlocals : W9 + (maxL + 11) + rm.locals ≤ R.locals)
    (hws : ∀ w ∈ ws, ∀ a' U, s.WarmedH U.vm → w.before a' U = true) (hcode : Cond.codeWith y bytes maxL ret hh ∈ ws) (hinit : ∀ a' U, s.WarmedH U.vm → (Cond.initialized y.cls).before a' U = true) :
    vx_Back l R p e below s sargs y len W9 (PreOf R mc ms Pc) (PostOf Qc mc ms free) (vx_Post XC mc ms free) := by
  intro m meth c A g ig mk a X hg hsize hdg hW hn hp
  have h1 : (headSpec ws rm).pre.before a A.U = true := atoms_intro fun w hw => hws w hw _ _ X.warmed
  have h2 : (Cond.codeWith y bytes maxL ret hh).before a A.U = true := hws _ hcode _ _ X.warmed
  have h3 : (Cond.initialized y.cls).before a A.U = true := hinit _ _ X.warmed
  have h4 : A.cells + (headSpec ws rm).room.cells ≤ R.cells := by rw [show (headSpec ws rm).room.cells = mc from hrc]; exact hp.1
  have h5 : A.slots + (headSpec ws rm).room.slots ≤ R.slots := by rw [show (headSpec ws rm).room.slots = ms from hrs]; exact hp.2.1
  have hPc : Pc a (A.U.calling g mk a) := hblind _ _ _ _ hp.2.2
  obtain ⟨U, Ls, c0, s0⟩ := A
  dsimp only [Pt.U, Pt.locs, Pt.cells, Pt.slots] at h1 h2 h3 h4 h5 X hn hPc ⊢
  obtain ⟨m9, methY, cY, hn9, hmY, hcY, -, hlY, -⟩ := Cond.codeWith_spec h2
  cases Option.some.inj (hn9.symm.trans hn)
  obtain ⟨kY, hkY, -⟩ := className_of_methodNamed hn
  have hinitY : kY.init = .initialized := Cond.initialized_spec (findClass_of_methodNamed hn) hkY h3
  have h : At U g.method c below := by rw [hg]; exact X.here
  have hlocals9 : W9 + (maxL + 11) + (headSpec ws rm).room.locals ≤ R.locals := hlocals
  have happ : (headSpec ws rm).appliesLoose y e.platform (U.calling g mk a) = true :=
    Spec.appliesLoose_calling (g := g) h hdg hn hkY hinitY
      (X.room_calling (g := g) (R' := (headSpec ws rm).room) hsize hmY hcY hframes (by rw [hlY]; omega) h4 h5) h1
  obtain ⟨mid, hmid⟩ := h.above
  have hfr : (U.setTop g).frames = (.java g :: mid) ++ below := by rw [State.frames_setTop' g h.top, hmid]; rfl
  obtain ⟨o, s₂, hsteps, -, hend, hq⟩ := Steps.callFree hM p X.admits X.cas X.clock (acts := []) hfr happ hPc trivial
  have hq' : vx_Q Qc XC mc ms free a (U.calling g mk a) o s₂ := hq
  rw [State.frames_setTop' g h.top] at hend
  obtain ⟨g₀, hg0⟩ := Option.isSome_iff_exists.mp h.top
  obtain ⟨r, hr⟩ := State.topJava?_eq_some.mp hg0
  have hr' : (({ U with heap := s₂.heap, slotsUsed := s₂.slotsUsed } : State).setVm s₂.vm).frames = .java g₀ :: r := hr
  rcases hq' with ⟨hqc, L, hfe, hL⟩ | ⟨q, rfl, E, ce, L, hx, hce, hcv, hcl, hW₂, hsm, hL⟩
  · obtain ⟨⟨v, rfl⟩, hW₂, e2, q2, q3, q4, q5, q6⟩ := id hfe
    have e3 : s₂ = ({ (U.calling g mk a).setFrames s₂.frames with heap := s₂.heap, slotsUsed := s₂.slotsUsed } : State).setVm s₂.vm := by
      have : s₂ = ({ s₂ with vm := (U.calling g mk a).vm } : State).setVm s₂.vm := rfl
      rw [e2] at this
      exact this
    obtain ⟨c₂, i₂, len₂, hc₂, hd₂, hf₂⟩ := hend
    have hW' : U.WarmedH s₂.vm := hW₂
    have hcc : c₂ = c := by
      have h1 : s₂.code? g.method = U.code? g.method := by
        rw [State.code?_eq, State.code?_eq, hW'.alike.method?]
      exact Option.some.inj (hc₂.symm.trans (h1.trans h.code))
    subst hcc
    have hlen : len₂ = len := by rw [hdg] at hd₂; cases hd₂; rfl
    subst hlen
    have hs₂ : s₂ = (({ U with heap := s₂.heap, slotsUsed := s₂.slotsUsed } : State).setVm s₂.vm).setTop { g with pc := g.pc + len₂, stack := v.toList ++ g.stack } := by
      refine e3.trans ?_
      rw [hf₂, State.calling_eq h.top, State.setFrames_setFrames, State.setTop_of_frames _ hr', hr]
      rfl
    have hsame : U.sameButNew ({ U with heap := s₂.heap, slotsUsed := s₂.slotsUsed } : State) L mc ms := by
      refine ⟨?_, q2, q3, q4, q5, q6⟩
      obtain ⟨t, ht, -⟩ := State.frames_cons hr
      show ({ U with heap := s₂.heap, slotsUsed := s₂.slotsUsed } : State) = { U.setFrames U.frames with heap := s₂.heap, slotsUsed := s₂.slotsUsed }
      rw [State.setFrames_self ht]
    subst hg
    refine Or.inl ⟨v, ⟨(({ U with heap := s₂.heap, slotsUsed := s₂.slotsUsed } : State).setVm s₂.vm), Ls ++ L, c0 + mc, s0 + ms⟩,
      ⟨X.admits, X.cas, X.clock, X.frames, X.room, X.hears, X.method, X.code, (X.here.setHeapUsed s₂.heap s₂.slotsUsed).setVm hW'.alike, X.tail, State.WarmedH.trans X.warmed hW', X.limits, X.bytes, X.same.trans (hsame.setVm s.vm)⟩,
      ⟨g, mk, s₂, L, rfl, rfl, hqc, rfl, hL, rfl, rfl⟩, ?_⟩
    show Steps p.tables e below _ ((({ U with heap := s₂.heap, slotsUsed := s₂.slotsUsed } : State).setVm s₂.vm).setTop { g with pc := g.pc + len₂, stack := v.toList ++ g.stack })
    rw [← hs₂]
    exact hsteps
  · obtain ⟨e2, q2, q3, q4, q5, q6⟩ := id hsm
    have e3 : s₂ = ({ (U.calling g mk a).setFrames s₂.frames with heap := s₂.heap, slotsUsed := s₂.slotsUsed } : State).setVm s₂.vm := by
      have : s₂ = ({ s₂ with vm := (U.calling g mk a).vm } : State).setVm s₂.vm := rfl
      rw [e2] at this
      exact this
    have hf₂ : s₂.frames = .throwing q :: .java g :: U.frames.tail := hend
    have hW' : U.WarmedH s₂.vm := hW₂
    have hs₂ : s₂ = ((({ U with heap := s₂.heap, slotsUsed := s₂.slotsUsed } : State).setVm s₂.vm).setTop g).pushFrame (.throwing q) := by
      refine e3.trans ?_
      rw [hf₂, State.calling_eq h.top, State.setFrames_setFrames, State.pushFrame, State.frames_setTop _ hr', State.setTop_of_frames _ hr', State.setFrames_setFrames, hr]
      rfl
    have hsame : U.sameButNew ({ U with heap := s₂.heap, slotsUsed := s₂.slotsUsed } : State) L mc ms := by
      refine ⟨?_, q2, q3, q4, q5, q6⟩
      obtain ⟨t, ht, -⟩ := State.frames_cons hr
      show ({ U with heap := s₂.heap, slotsUsed := s₂.slotsUsed } : State) = { U.setFrames U.frames with heap := s₂.heap, slotsUsed := s₂.slotsUsed }
      rw [State.setFrames_self ht]
    subst hg
    refine Or.inr ⟨q, ⟨(({ U with heap := s₂.heap, slotsUsed := s₂.slotsUsed } : State).setVm s₂.vm), Ls ++ L, c0 + mc, s0 + ms⟩,
      ⟨X.admits, X.cas, X.clock, X.frames, X.room, X.hears, X.method, X.code, (X.here.setHeapUsed s₂.heap s₂.slotsUsed).setVm hW'.alike, X.tail, State.WarmedH.trans X.warmed hW', X.limits, X.bytes, X.same.trans (hsame.setVm s.vm)⟩,
      ⟨g, mk, s₂, L, E, ce, rfl, rfl, hx, hce, hcv, hcl, rfl, hL, rfl, rfl⟩, ?_⟩
    show Steps p.tables e below _ (((({ U with heap := s₂.heap, slotsUsed := s₂.slotsUsed } : State).setVm s₂.vm).setTop g).pushFrame (.throwing q))
    rw [← hs₂]
    exact hsteps
end
variable {p : Program} {l : Launch} {e : Env} {R : Room} {s : State} {m : MethodId} {args : Array Value} {below : List Frame} {meth : Method} {c : Code} {T : State} {H : Heap} {locs : List Loc} {cells slots : Nat}
theorem vx_callVX (X : Stand p l e R s m args below meth c T locs cells slots) (hexec : p.tables.exec = Jvm.exec) {own C : String} {index : Nat} {y : MethodName} {bytes : ByteArray} {maxL : Nat} {ret : Option FieldType} {hh : List (Nat × Nat × Nat × Nat)}
    (hown : s.vm.findClass own = some m.cls) (hlink : (Cond.methodLink own index y).before args s = true) (hinst : (Cond.instanceMethod y).before args s = true) (hsel : (Cond.selects C y y).before args s = true)
    (hcode : (Cond.codeWith y bytes maxL ret hh).before args s = true) (hy : y.cls ≠ "java/lang/invoke/MethodHandle" ∧ y.cls ≠ "java/lang/invoke/VarHandle")
    {W9 : Nat} {Pre : Pt → Array Value → Prop} {Post : Pt → Array Value → Option Value → Pt → Prop} {PostX : Pt → Array Value → Addr → Pt → Prop} (hK : vx_Back l R p e below s args y 3 W9 Pre Post PostX)
    {b : Addr} {cellB : Cell} (hcell : T.heap[b]? = some cellB) (hobj : cellB.vm.isStatics = false) (hcls : s.vm.findClass C = some cellB.cls)
    {g : JFrame} (hg : g.method = m) (hsize : g.locals.size = c.maxLocals) {argsL rest : List Value} (hlen : ∀ sig, parseMethodDescriptor y.desc = some sig → argsL.length = sig.parameters.length)
    (hstack : g.stack = argsL.reverse ++ .ref b :: rest) (hW : 2 * g.monitorRoom + (rest.map fun v => v.category).sum ≤ W9) (hdg : decode c.code g.pc = .ok (.invokevirtual index, 3))
    (hpre : ∀ vm₁, s.WarmedH vm₁ → Pre ⟨T.setVm vm₁, locs, cells, slots⟩ (Value.ref b :: argsL).toArray) :
    (∃ (v : Option Value) (vm₁ : Vm) (B : Pt), s.WarmedH vm₁ ∧ Stand p l e R s m args below meth c B.U B.locs B.cells B.slots ∧ Post ⟨T.setVm vm₁, locs, cells, slots⟩ (Value.ref b :: argsL).toArray v B ∧
      ∀ target, Steps p.tables e below (B.U.setTop { g with pc := g.pc + 3, stack := v.toList ++ rest }) target → Steps p.tables e below (T.setTop g) target) ∨
    (∃ (q : Addr) (vm₁ : Vm) (B : Pt), s.WarmedH vm₁ ∧ Stand p l e R s m args below meth c B.U B.locs B.cells B.slots ∧ PostX ⟨T.setVm vm₁, locs, cells, slots⟩ (Value.ref b :: argsL).toArray q B ∧
      Steps p.tables e below (T.setTop g) ((B.U.setTop { g with stack := rest }).pushFrame (.throwing q))) := by
  obtain ⟨mk, methM, hnamed, hmethM, hstM, habM⟩ := Cond.instanceMethod_spec hinst
  obtain ⟨m8, methM', cM, hn8, hmethM', -, -, -, -, -, -, hsigM⟩ := Cond.codeWith_spec hcode
  cases Option.some.inj (hn8.symm.trans hnamed)
  cases hmethM.symm.trans hmethM'
  obtain ⟨c2, r2, m2, q1, q2, q3, q4, kP, hkP, hkPi⟩ := Cond.selects_spec hsel
  cases hcls.symm.trans q1
  cases (State.methodFound?_of_named hnamed hy).symm.trans q2
  cases hnamed.symm.trans q3
  have hselP : selectMethod e.platform s.vm cellB.cls mk = .method mk := by rw [Launch.admits_selectMethod X.admits]; exact q4
  obtain ⟨vm₁, X₁, hstep₁⟩ := X.invokevirtual hexec hown hlink hnamed hmethM hstM hkP hkPi hy (a := b) (cell := cellB) hcell
    (fun z h => by rw [h] at hobj; cases hobj) hselP hmethM habM hkP hkPi (g := g) hg (argsL := argsL) (rest := rest) (hlen _ hsigM) hstack hdg
  rcases hK m meth c ⟨T.setVm vm₁, locs, cells, slots⟩ { g with stack := rest } (.invokevirtual index) mk (Value.ref b :: argsL).toArray X₁ hg hsize hdg hW (X₁.named hnamed) (hpre vm₁ X₁.warmed) with ⟨v, B, X', hpost, hsteps⟩ | ⟨q, B, X', hpost, hsteps⟩
  · exact Or.inl ⟨v, vm₁, B, X₁.warmed, X', hpost, fun target h => hstep₁ _ fun acts => by rw [doInvoke_state]; exact hsteps.trans h⟩
  · exact Or.inr ⟨q, vm₁, B, X₁.warmed, X', hpost, hstep₁ _ fun acts => by rw [doInvoke_state]; exact hsteps⟩
theorem vx_callSX (X : Stand p l e R s m args below meth c T locs cells slots) (hexec : p.tables.exec = Jvm.exec) {own : String} {index : Nat} {y : MethodName} {bytes : ByteArray} {maxL : Nat} {ret : Option FieldType} {hh : List (Nat × Nat × Nat × Nat)}
    (hown : s.vm.findClass own = some m.cls) (hlink : (Cond.methodLink own index y).before args s = true) (hstat : (Cond.static y).before args s = true) (hinit : (Cond.initialized y.cls).before args s = true)
    (hcode : (Cond.codeWith y bytes maxL ret hh).before args s = true) (hy : y.cls ≠ "java/lang/invoke/MethodHandle" ∧ y.cls ≠ "java/lang/invoke/VarHandle")
    {W9 : Nat} {Pre : Pt → Array Value → Prop} {Post : Pt → Array Value → Option Value → Pt → Prop} {PostX : Pt → Array Value → Addr → Pt → Prop} (hK : vx_Back l R p e below s args y 3 W9 Pre Post PostX)
    {g : JFrame} (hg : g.method = m) (hsize : g.locals.size = c.maxLocals) {argsL rest : List Value} (hlen : ∀ sig, parseMethodDescriptor y.desc = some sig → argsL.length = sig.parameters.length)
    (hstack : g.stack = argsL.reverse ++ rest) (hW : 2 * g.monitorRoom + (rest.map fun v => v.category).sum ≤ W9) (hdg : decode c.code g.pc = .ok (.invokestatic index, 3))
    (hpre : ∀ vm₁, s.WarmedH vm₁ → Pre ⟨T.setVm vm₁, locs, cells, slots⟩ argsL.toArray) :
    (∃ (v : Option Value) (vm₁ : Vm) (B : Pt), s.WarmedH vm₁ ∧ Stand p l e R s m args below meth c B.U B.locs B.cells B.slots ∧ Post ⟨T.setVm vm₁, locs, cells, slots⟩ argsL.toArray v B ∧
      ∀ target, Steps p.tables e below (B.U.setTop { g with pc := g.pc + 3, stack := v.toList ++ rest }) target → Steps p.tables e below (T.setTop g) target) ∨
    (∃ (q : Addr) (vm₁ : Vm) (B : Pt), s.WarmedH vm₁ ∧ Stand p l e R s m args below meth c B.U B.locs B.cells B.slots ∧ PostX ⟨T.setVm vm₁, locs, cells, slots⟩ argsL.toArray q B ∧
      Steps p.tables e below (T.setTop g) ((B.U.setTop { g with stack := rest }).pushFrame (.throwing q))) := by
  obtain ⟨mk, methM, cM, hnamed, hmethM, -, -, -, -, -, -, hsigM⟩ := Cond.codeWith_spec hcode
  have hstatic : methM.isStatic = true := Cond.static_spec hnamed hmethM hstat
  obtain ⟨kP, hkP, -⟩ := className_of_methodNamed hnamed
  have hinitP : kP.init = .initialized := Cond.initialized_spec (findClass_of_methodNamed hnamed) hkP hinit
  obtain ⟨vm₁, X₁, hstep₁⟩ := X.invokestatic hexec hown hlink hnamed hmethM hstatic hkP hinitP hy (g := g) hg (argsL := argsL) (rest := rest) (hlen _ hsigM) hstack hdg
  rcases hK m meth c ⟨T.setVm vm₁, locs, cells, slots⟩ { g with stack := rest } (.invokestatic index) mk argsL.toArray X₁ hg hsize hdg hW (X₁.named hnamed) (hpre vm₁ X₁.warmed) with ⟨v, B, X', hpost, hsteps⟩ | ⟨q, B, X', hpost, hsteps⟩
  · exact Or.inl ⟨v, vm₁, B, X₁.warmed, X', hpost, fun target h => hstep₁ _ fun acts => by rw [doInvoke_state]; exact hsteps.trans h⟩
  · exact Or.inr ⟨q, vm₁, B, X₁.warmed, X', hpost, hstep₁ _ fun acts => by rw [doInvoke_state]; exact hsteps⟩
theorem vx_callVW (X : Stand p l e R s m args below meth c T locs cells slots) (hexec : p.tables.exec = Jvm.exec) {own C : String} {index : Nat} {y : MethodName} {bytes : ByteArray} {maxL : Nat} {ret : Option FieldType} {hh : List (Nat × Nat × Nat × Nat)}
    (hown : s.vm.findClass own = some m.cls) (hlink : (Cond.methodLink own index y).before args s = true) (hinst : (Cond.instanceMethod y).before args s = true) (hsel : (Cond.selects C y y).before args s = true)
    (hcode : (Cond.codeWith y bytes maxL ret hh).before args s = true) (hy : y.cls ≠ "java/lang/invoke/MethodHandle" ∧ y.cls ≠ "java/lang/invoke/VarHandle")
    {W9 : Nat} {Pre : Pt → Array Value → Prop} {Post : Pt → Array Value → Option Value → Pt → Prop} (hK : Back l R p e below s args y 3 W9 Pre Post)
    {b : Addr} {cellB : Cell} (hcell : T.heap[b]? = some cellB) (hobj : cellB.vm.isStatics = false) (hcls : s.vm.findClass C = some cellB.cls)
    {g : JFrame} (hg : g.method = m) (hsize : g.locals.size = c.maxLocals) {argsL rest : List Value} (hlen : ∀ sig, parseMethodDescriptor y.desc = some sig → argsL.length = sig.parameters.length)
    (hstack : g.stack = argsL.reverse ++ .ref b :: rest) (hW : 2 * g.monitorRoom + (rest.map fun v => v.category).sum ≤ W9) (hdg : decode c.code g.pc = .ok (.invokevirtual index, 3))
    (hpre : ∀ vm₁, s.WarmedH vm₁ → Pre ⟨T.setVm vm₁, locs, cells, slots⟩ (Value.ref b :: argsL).toArray) :
    ∃ (v : Option Value) (vm₁ : Vm) (B : Pt), s.WarmedH vm₁ ∧ Stand p l e R s m args below meth c B.U B.locs B.cells B.slots ∧ Post ⟨T.setVm vm₁, locs, cells, slots⟩ (Value.ref b :: argsL).toArray v B ∧
      ∀ target, Steps p.tables e below (B.U.setTop { g with pc := g.pc + 3, stack := v.toList ++ rest }) target → Steps p.tables e below (T.setTop g) target := by
  obtain ⟨mk, methM, hnamed, hmethM, hstM, habM⟩ := Cond.instanceMethod_spec hinst
  obtain ⟨m8, methM', cM, hn8, hmethM', -, -, -, -, -, -, hsigM⟩ := Cond.codeWith_spec hcode
  cases Option.some.inj (hn8.symm.trans hnamed)
  cases hmethM.symm.trans hmethM'
  obtain ⟨c2, r2, m2, q1, q2, q3, q4, kP, hkP, hkPi⟩ := Cond.selects_spec hsel
  cases hcls.symm.trans q1
  cases (State.methodFound?_of_named hnamed hy).symm.trans q2
  cases hnamed.symm.trans q3
  have hselP : selectMethod e.platform s.vm cellB.cls mk = .method mk := by rw [Launch.admits_selectMethod X.admits]; exact q4
  obtain ⟨vm₁, X₁, hstep₁⟩ := X.invokevirtual hexec hown hlink hnamed hmethM hstM hkP hkPi hy (a := b) (cell := cellB) hcell
    (fun z h => by rw [h] at hobj; cases hobj) hselP hmethM habM hkP hkPi (g := g) hg (argsL := argsL) (rest := rest) (hlen _ hsigM) hstack hdg
  obtain ⟨v, B, X', hpost, hsteps⟩ := hK m meth c ⟨T.setVm vm₁, locs, cells, slots⟩ { g with stack := rest } (.invokevirtual index) mk (Value.ref b :: argsL).toArray X₁ hg hsize hdg hW (X₁.named hnamed) (hpre vm₁ X₁.warmed)
  exact ⟨v, vm₁, B, X₁.warmed, X', hpost, fun target h => hstep₁ _ fun acts => by rw [doInvoke_state]; exact hsteps.trans h⟩
abbrev vx_CVW (R : Room) (s : State) (args : Array Value) (own C : String) (index : Nat) (y : MethodName) (bytes : ByteArray) (maxL : Nat) (ret : Option FieldType) (hh : List (Nat × Nat × Nat × Nat)) (ws : List Cond) (rm : Room) (mc ms n : Nat) : Prop :=
  (rm.cells = mc ∧ rm.slots = ms ∧ rm.frames + 1 ≤ R.frames ∧ 8 + (maxL + 11) + rm.locals ≤ R.locals ∧ (∀ w ∈ ws, ∀ (a' : Array Value) (U : State), s.WarmedH U.vm → w.before a' U = true) ∧ Cond.codeWith y bytes maxL ret hh ∈ ws) ∧
  (Cond.codeWith y bytes maxL ret hh).before args s = true ∧ (Cond.initialized y.cls).before args s = true ∧ (y.cls ≠ "java/lang/invoke/MethodHandle" ∧ y.cls ≠ "java/lang/invoke/VarHandle") ∧
  (∀ sig, parseMethodDescriptor y.desc = some sig → n = sig.parameters.length) ∧ (Cond.methodLink own index y).before args s = true ∧ (Cond.instanceMethod y).before args s = true ∧ (Cond.selects C y y).before args s = true
theorem vx_cwVW {own C : String} {index maxL mc ms : Nat} {y : MethodName} {bytes : ByteArray} {ret : Option FieldType} {hh : List (Nat × Nat × Nat × Nat)} {Ts ws ws' : List Cond} {rm : Room} (n : Nat) (ht : ∀ w ∈ Ts, w.before args s = true) (hT : GoodIn Ts (wsV own index C y ws)) (hw : ws = Cond.codeWith y bytes maxL ret hh :: ws') (hrc : rm.cells = mc) (hrs : rm.slots = ms)
    (hd : y.cls = C ∧ y.cls ≠ "java/lang/invoke/MethodHandle" ∧ y.cls ≠ "java/lang/invoke/VarHandle" ∧ (parseMethodDescriptor y.desc).map (fun d => d.parameters.length) = some n) (hR : rm.frames + 1 ≤ R.frames ∧ 8 + (maxL + 11) + rm.locals ≤ R.locals) :
    vx_CVW R s args own C index y bytes maxL ret hh ws rm mc ms n := by
  obtain ⟨hC, hd⟩ := hd
  subst hC
  have ok : ∀ w ∈ wsV own index y.cls y ws, w.before args s = true := fun w h => ht w (hT w h).1
  have hG : GoodIn Ts ws := fun w h => hT w (by unfold wsV; exact List.mem_append_right _ h)
  have hc : Cond.codeWith y bytes maxL ret hh ∈ ws := by rw [hw]; exact List.mem_cons_self
  refine ⟨⟨hrc, hrs, hR.1, hR.2, pay_in ht hG, hc⟩, ht _ (hG _ hc).1, ok _ (by simp [wsV]), ⟨hd.1, hd.2.1⟩, fun sig h => ?_, ok _ (by simp [wsV]), ok _ (by simp [wsV]), ok _ (by simp [wsV])⟩
  have h2 := hd.2.2
  rw [h] at h2
  exact (Option.some.inj h2).symm
theorem vx_runVW {y : MethodName} {bytes cc : ByteArray} {maxL nL mc ms n index : Nat} {ret : Option FieldType} {hh : List (Nat × Nat × Nat × Nat)} {ws : List Cond} {rm : Room} {Pc : Array Value → State → Prop} {Qc : Array Value → State → Outcome → State → Prop} {free : Addr → Prop} {Ts : List Cond} {own C : String} {b : Addr} {As rest : List Value} {g : JFrame}
    (S : CallFix p m c cc nL s args Ts own) (hM : Met l y ws rm Pc Qc mc ms free) (cw : vx_CVW R s args own C index y bytes maxL ret hh ws rm mc ms n) (hp : PreV s H C b Pc As)
    (hg : g.method = m) (hn : As.length = n) (hsize : g.locals.size = nL) (hstack : g.stack = As.reverse ++ .ref b :: rest) (hW : 2 * g.monitorRoom + (rest.map fun v => v.category).sum ≤ 8) (hdg : decode cc g.pc = .ok (.invokevirtual index, 3)) (hf : cells + mc ≤ R.cells ∧ slots + ms ≤ R.slots) :
    va_Run p l e R s m args below meth c H locs cells slots mc ms g rest (Qc (Value.ref b :: As).toArray) free := by
  obtain ⟨⟨hrc, hrs, hfr, hlo, hws, hcw⟩, hcode, hini, hy, hlen, hl, hin, hse⟩ := cw
  have hK : Back l R p e below s args y 3 8 (PreOf R mc ms Pc) (PostOf Qc mc ms free) := va_backW (hh := hh) (bytes := bytes) (maxL := maxL) (ret := ret) hM hp.1 hrc hrs hfr hlo hws hcw (fun a' U hW => word_at hW (Or.inl (by first | rfl | simp [Cond.onTables, Cond.keeps, Cond.steady])) hini)
  obtain ⟨hx, hb, hml, ho, -⟩ := S
  obtain ⟨-, ⟨cellB, hcB, hoB, hclB⟩, hPc⟩ := hp
  intro T hT X
  obtain ⟨v, vm₁, ⟨U', l2, c2, s2⟩, hW₁, X', ⟨g', mk, t, L, e1, e2, hq, h1, hL, h2, h3⟩, st⟩ := vx_callVW X hx (C := C) (hh := hh) (bytes := bytes) (maxL := maxL) (ret := ret) ho hl hin hse hcode hy hK (by rw [hT]; exact hcB) hoB hclB hg (hsize.trans hml.symm) (argsL := As) (rest := rest) (fun sig h => hn.trans (hlen sig h)) hstack hW (by rw [hb]; exact hdg)
    (fun vm₁ hW₁ => ⟨hf.1, hf.2, hPc (T.setVm vm₁) hT hW₁⟩)
  dsimp only [Pt.U, Pt.locs, Pt.cells, Pt.slots] at X' e1 e2 h1 h2 h3 st
  subst h1; subst h2; subst h3
  exact ⟨v, (T.setVm vm₁).calling g' mk (Value.ref b :: As).toArray, t, U', L, hT, X', hL, e1, e2, hq, st⟩
section
variable {y : MethodName} {bytes cc : ByteArray} {maxL nL mc ms n index : Nat} {ret : Option FieldType} {ws : List Cond} {rm : Room} {Pc : Array Value → State → Prop} {Qc : Array Value → State → Outcome → State → Prop} {XC : String → State → State → Prop} {free : Addr → Prop} {Ts : List Cond} {own C : String} {b : Addr} {As rest : List Value} {g : JFrame}
theorem vx_runVX {hh : List (Nat × Nat × Nat × Nat)} (S : CallFix p m c cc nL s args Ts own) (hM : vx_Met l y ws rm Pc Qc XC mc ms free) (cw : vx_CVW R s args own C index y bytes maxL ret hh ws rm mc ms n) (hp : PreV s H C b Pc As)
    (hg : g.method = m) (hn : As.length = n) (hsize : g.locals.size = nL) (hstack : g.stack = As.reverse ++ .ref b :: rest) (hW : 2 * g.monitorRoom + (rest.map fun v => v.category).sum ≤ 8) (hdg : decode cc g.pc = .ok (.invokevirtual index, 3)) (hf : cells + mc ≤ R.cells ∧ slots + ms ≤ R.slots) :
    vx_Run p l e R s m args below meth c H locs cells slots mc ms g rest (Qc (Value.ref b :: As).toArray) XC free := by
  obtain ⟨⟨hrc, hrs, hfr, hlo, hws, hcw⟩, hcode, hini, hy, hlen, hl, hin, hse⟩ := cw
  have hK : vx_Back l R p e below s args y 3 8 (PreOf R mc ms Pc) (PostOf Qc mc ms free) (vx_Post XC mc ms free) := vx_backW (hh := hh) (bytes := bytes) (maxL := maxL) (ret := ret) hM hp.1 hrc hrs hfr hlo hws hcw (fun a' U hW => word_at hW (Or.inl (by first | rfl | simp [Cond.onTables, Cond.keeps, Cond.steady])) hini)
  obtain ⟨hx, hb, hml, ho, -⟩ := S
  obtain ⟨-, ⟨cellB, hcB, hoB, hclB⟩, hPc⟩ := hp
  intro T hT X
  rcases vx_callVX X hx (C := C) (hh := hh) (bytes := bytes) (maxL := maxL) (ret := ret) ho hl hin hse hcode hy hK (by rw [hT]; exact hcB) hoB hclB hg (hsize.trans hml.symm) (argsL := As) (rest := rest) (fun sig h => hn.trans (hlen sig h)) hstack hW (by rw [hb]; exact hdg)
    (fun vm₁ hW₁ => ⟨hf.1, hf.2, hPc (T.setVm vm₁) hT hW₁⟩) with ⟨v, vm₁, ⟨U', l2, c2, s2⟩, hW₁, X', ⟨g', mk, t, L, e1, e2, hq, h1, hL, h2, h3⟩, st⟩ | ⟨q, vm₁, ⟨U', l2, c2, s2⟩, hW₁, X', ⟨g', mk, t, L, E, ce, e1, e2, hq, hce, hcv, hcl, h1, hL, h2, h3⟩, st⟩
  · dsimp only [Pt.U, Pt.locs, Pt.cells, Pt.slots] at X' e1 e2 h1 h2 h3 st
    subst h1; subst h2; subst h3
    exact Or.inl ⟨v, (T.setVm vm₁).calling g' mk (Value.ref b :: As).toArray, t, U', L, hT, X', hL, e1, e2, hq, st⟩
  · dsimp only [Pt.U, Pt.locs, Pt.cells, Pt.slots] at X' e1 e2 h1 h2 h3 st hcl
    subst h1; subst h2; subst h3
    exact Or.inr ⟨q, (T.setVm vm₁).calling g' mk (Value.ref b :: As).toArray, t, U', L, E, ce, hT, X', hL, e1, e2, hq, hce, hcv, vx_cls hW₁ hcl, st⟩
theorem vx_runSX {hh : List (Nat × Nat × Nat × Nat)} (S : CallFix p m c cc nL s args Ts own) (hM : vx_Met l y ws rm Pc Qc XC mc ms free) (cw : vx_CSW R s args own index y bytes maxL ret hh ws rm mc ms n) (hp : PreS s H Pc As)
    (hg : g.method = m) (hn : As.length = n) (hsize : g.locals.size = nL) (hstack : g.stack = As.reverse ++ rest) (hW : 2 * g.monitorRoom + (rest.map fun v => v.category).sum ≤ 8) (hdg : decode cc g.pc = .ok (.invokestatic index, 3)) (hf : cells + mc ≤ R.cells ∧ slots + ms ≤ R.slots) :
    vx_Run p l e R s m args below meth c H locs cells slots mc ms g rest (Qc As.toArray) XC free := by
  obtain ⟨⟨hrc, hrs, hfr, hlo, hws, hcw⟩, hcode, hini, hy, hlen, hl, hstt⟩ := cw
  have hK : vx_Back l R p e below s args y 3 8 (PreOf R mc ms Pc) (PostOf Qc mc ms free) (vx_Post XC mc ms free) := vx_backW (hh := hh) (bytes := bytes) (maxL := maxL) (ret := ret) hM hp.1 hrc hrs hfr hlo hws hcw (fun a' U hW => word_at hW (Or.inl (by first | rfl | simp [Cond.onTables, Cond.keeps, Cond.steady])) hini)
  obtain ⟨hx, hb, hml, ho, -⟩ := S
  intro T hT X
  rcases vx_callSX X hx (hh := hh) (bytes := bytes) (maxL := maxL) (ret := ret) ho hl hstt hini hcode hy hK hg (hsize.trans hml.symm) (argsL := As) (rest := rest) (fun sig h => hn.trans (hlen sig h)) hstack hW (by rw [hb]; exact hdg)
    (fun vm₁ hW₁ => ⟨hf.1, hf.2, hp.2 (T.setVm vm₁) hT hW₁⟩) with ⟨v, vm₁, ⟨U', l2, c2, s2⟩, hW₁, X', ⟨g', mk, t, L, e1, e2, hq, h1, hL, h2, h3⟩, st⟩ | ⟨q, vm₁, ⟨U', l2, c2, s2⟩, hW₁, X', ⟨g', mk, t, L, E, ce, e1, e2, hq, hce, hcv, hcl, h1, hL, h2, h3⟩, st⟩
  · dsimp only [Pt.U, Pt.locs, Pt.cells, Pt.slots] at X' e1 e2 h1 h2 h3 st
    subst h1; subst h2; subst h3
    exact Or.inl ⟨v, (T.setVm vm₁).calling g' mk As.toArray, t, U', L, hT, X', hL, e1, e2, hq, st⟩
  · dsimp only [Pt.U, Pt.locs, Pt.cells, Pt.slots] at X' e1 e2 h1 h2 h3 st hcl
    subst h1; subst h2; subst h3
    exact Or.inr ⟨q, (T.setVm vm₁).calling g' mk As.toArray, t, U', L, E, ce, hT, X', hL, e1, e2, hq, hce, hcv, vx_cls hW₁ hcl, st⟩
end
end VXH
theorem vx_ofWH {l : Launch} {y : MethodName} {ws ws' : List Cond} {rm : Room} {Pc : Array Value → State → Prop} {Qc : Array Value → State → Outcome → State → Prop} {XC : String → State → State → Prop} {mc ms : Nat} {free : Addr → Prop} {cc : ByteArray} {maxL : Nat} {ret : Option FieldType} {hh : List (Nat × Nat × Nat × Nat)}
    (hy : plainName y.cls = true) (hw : ws = Cond.codeWith y cc maxL ret hh :: ws')
    (body : ∀ p e s m args below meth c s₁, BodyLoose p l y (headSpec ws rm) cc maxL ret e s m args below meth c s₁ → c.maxLocals = maxL → Pc args s →
      W p l e (headSpec ws rm).room s m args below meth c s.heap [] 0 0 (vx_MQ below Qc XC args s mc ms free) (entryFrame m args maxL)) : vx_Met l y ws rm Pc Qc XC mc ms free := by
  refine MetFree.of_bodyS (code := cc) (maxLocals := maxL) (ret := ret) hy ?_ ?_
  · intro args s m h hn
    obtain ⟨m9, meth, c, hn9, h1, h2, h3, h4, -, h5, h6, -⟩ := Cond.codeWith_spec (atoms_spec (ws := ws) h _ (by rw [hw]; exact List.mem_cons_self))
    cases hn.symm.trans hn9
    exact ⟨meth, c, h1, h2, h3, h4, h5, h6⟩
  · intro p e s m args below meth c s₁ B hml hP _
    have hh0 : s₁.heap = s.heap := by rw [B.state]; rfl
    obtain ⟨t, a1, o, b1, b2, b3⟩ := body p e s m args below meth c s₁ B hml hP s₁ hh0 (Stand.of_body B)
    exact ⟨t, o, a1, b1, b2, b3⟩
/-! ===== END ===== -/
end
section
/-! ===== BEGIN a constructor that throws (launches without stack traces) ===== -/
section VXIA
variable {p : Program} {l : Launch} {e : Env} {R : Room} {s : State} {m : MethodId} {args : Array Value} {below : List Frame} {meth : Method} {c : Code} {T : State} {locs : List Loc} {cells slots : Nat}
theorem vx_callI (X : Stand p l e R s m args below meth c T locs cells slots) (hexec : p.tables.exec = Jvm.exec) {own : String} {index : Nat} {y : MethodName} {bytes : ByteArray} {maxL : Nat}
    (hown : s.vm.findClass own = some m.cls) (hy1 : y.name = "<init>") (hlink : (Cond.methodLink own index y).before args s = true) (hinst : (Cond.instanceMethod y).before args s = true)
    (hcode : (Cond.code y bytes maxL none).before args s = true) (hy : y.cls ≠ "java/lang/invoke/MethodHandle" ∧ y.cls ≠ "java/lang/invoke/VarHandle")
    {W9 : Nat} {Pre : Pt → Array Value → Prop} {Post : Pt → Array Value → Option Value → Pt → Prop} {PostX : Pt → Array Value → Addr → Pt → Prop} (hK : vx_Back l R p e below s args y 3 W9 Pre Post PostX)
    {g : JFrame} (hg : g.method = m) (hsize : g.locals.size = c.maxLocals) {a : Addr} {argsL rest : List Value} (hlen : ∀ sig, parseMethodDescriptor y.desc = some sig → argsL.length = sig.parameters.length)
    (hstack : g.stack = argsL.reverse ++ .ref a :: rest) (hW : 2 * g.monitorRoom + (rest.map fun v => v.category).sum ≤ W9) (hdg : decode c.code g.pc = .ok (.invokespecial index, 3))
    (hpre : ∀ vm₁, s.WarmedH vm₁ → Pre ⟨T.setVm vm₁, locs, cells, slots⟩ (Value.ref a :: argsL).toArray) :
    (∃ (v : Option Value) (vm₁ : Vm) (B : Pt), s.WarmedH vm₁ ∧ Stand p l e R s m args below meth c B.U B.locs B.cells B.slots ∧ Post ⟨T.setVm vm₁, locs, cells, slots⟩ (Value.ref a :: argsL).toArray v B ∧
      ∀ target, Steps p.tables e below (B.U.setTop { g with pc := g.pc + 3, stack := v.toList ++ rest }) target → Steps p.tables e below (T.setTop g) target) ∨
    (∃ (q : Addr) (vm₁ : Vm) (B : Pt), s.WarmedH vm₁ ∧ Stand p l e R s m args below meth c B.U B.locs B.cells B.slots ∧ PostX ⟨T.setVm vm₁, locs, cells, slots⟩ (Value.ref a :: argsL).toArray q B ∧
      Steps p.tables e below (T.setTop g) ((B.U.setTop { g with stack := rest }).pushFrame (.throwing q))) := by
  subst hg
  have hpl : e.platform.magicAccessors = ({} : Platform).magicAccessors := by rw [X.admits.platform]
  obtain ⟨mk, methM, cM, kP, vm₁, hnamed, hmethM, hcodeM, -, hlocalsM, -, hkP, -, hW₁, hstep₁⟩ := Steps.initColdArgs (e := e) X.here hexec X.warmed hpl hown hy1 hy hlink hinst hcode (f := g) rfl hlen hstack hdg
  have X₁ := X.noted hW₁
  rcases hK g.method meth c ⟨T.setVm vm₁, locs, cells, slots⟩ { g with stack := rest } (.invokespecial index) mk (Value.ref a :: argsL).toArray X₁ rfl hsize hdg hW (X₁.named hnamed) (hpre vm₁ X₁.warmed) with ⟨v, B, X', hpost, hsteps⟩ | ⟨q, B, X', hpost, hsteps⟩
  · exact Or.inl ⟨v, vm₁, B, X₁.warmed, X', hpost, fun target h => hstep₁ _ fun acts => by rw [doInvoke_state]; exact hsteps.trans h⟩
  · exact Or.inr ⟨q, vm₁, B, X₁.warmed, X', hpost, hstep₁ _ fun acts => by rw [doInvoke_state]; exact hsteps⟩
end VXIA
section VXIB
variable {p : Program} {l : Launch} {e : Env} {R : Room} {s : State} {m : MethodId} {args : Array Value} {below : List Frame} {meth : Method} {c : Code} {H : Heap} {locs : List Loc} {cells slots : Nat}
variable {y : MethodName} {bytes cc : ByteArray} {maxL nL mc ms n index : Nat} {ret : Option FieldType} {ws : List Cond} {rm : Room} {Pc : Array Value → State → Prop} {Qc : Array Value → State → Outcome → State → Prop} {XC : String → State → State → Prop} {free : Addr → Prop} {Ts : List Cond} {own C : String} {b : Addr} {As rest : List Value} {g : JFrame}
theorem vx_runI (S : CallFix p m c cc nL s args Ts own) (hM : vx_Met l y ws rm Pc Qc XC mc ms free) (cw : CallB R s args own index y bytes maxL none ws rm mc ms n ∧ y.name = "<init>" ∧ (Cond.instanceMethod y).before args s = true) (hp : PreS s H Pc (.ref b :: As))
    (hg : g.method = m) (hn : As.length = n) (hsize : g.locals.size = nL) (hstack : g.stack = As.reverse ++ .ref b :: rest) (hW : 2 * g.monitorRoom + (rest.map fun v => v.category).sum ≤ 8) (hdg : decode cc g.pc = .ok (.invokespecial index, 3)) (hf : cells + mc ≤ R.cells ∧ slots + ms ≤ R.slots) :
    vx_Run p l e R s m args below meth c H locs cells slots mc ms g rest (Qc (Value.ref b :: As).toArray) XC free := by
  have hK : vx_Back l R p e below s args y 3 8 (PreOf R mc ms Pc) (PostOf Qc mc ms free) (vx_Post XC mc ms free) := vx_callBack cw.1 hM hp.1
  obtain ⟨⟨-, -, -, -, -, -, hcode, -, hy, hlen, hl⟩, hy1, hin⟩ := cw
  obtain ⟨hx, hb, hml, ho, -⟩ := S
  have hPc := hp.2
  intro T hT X
  rcases vx_callI X hx (bytes := bytes) (maxL := maxL) ho hy1 hl hin hcode hy hK hg (hsize.trans hml.symm) (a := b) (argsL := As) (rest := rest) (fun sig h => hn.trans (hlen sig h)) hstack hW (by rw [hb]; exact hdg)
    (fun vm₁ hW₁ => ⟨hf.1, hf.2, hPc (T.setVm vm₁) hT hW₁⟩) with ⟨v, vm₁, ⟨U', l2, c2, s2⟩, hW₁, X', ⟨g', mk, t, L, e1, e2, hq, h1, hL, h2, h3⟩, st⟩ | ⟨q, vm₁, ⟨U', l2, c2, s2⟩, hW₁, X', ⟨g', mk, t, L, E, ce, e1, e2, hq, hce, hcv, hcl, h1, hL, h2, h3⟩, st⟩
  · dsimp only [Pt.U, Pt.locs, Pt.cells, Pt.slots] at X' e1 e2 h1 h2 h3 st
    subst h1; subst h2; subst h3
    exact Or.inl ⟨v, (T.setVm vm₁).calling g' mk (Value.ref b :: As).toArray, t, U', L, hT, X', hL, e1, e2, hq, st⟩
  · dsimp only [Pt.U, Pt.locs, Pt.cells, Pt.slots] at X' e1 e2 h1 h2 h3 st hcl
    subst h1; subst h2; subst h3
    exact Or.inr ⟨q, (T.setVm vm₁).calling g' mk (Value.ref b :: As).toArray, t, U', L, E, ce, hT, X', hL, e1, e2, hq, hce, hcv, vx_cls hW₁ hcl, st⟩
end VXIB
/-! ===== END ===== -/
/-! ===== BEGIN a private constructor of a nest mate that throws ===== -/
section VXIC
variable {p : Program} {l : Launch} {e : Env} {R : Room} {s : State} {m : MethodId} {args : Array Value} {below : List Frame} {meth : Method} {c : Code} {T : State} {locs : List Loc} {cells slots : Nat}
theorem vx_callIN (X : Stand p l e R s m args below meth c T locs cells slots) (hexec : p.tables.exec = Jvm.exec) {own : String} {index : Nat} {host : String} {y : MethodName} {bytes : ByteArray} {maxL : Nat}
    (hown : s.vm.findClass own = some m.cls) (hy1 : y.name = "<init>") (hlink : (Cond.methodLinkNest own index y host).before args s = true) (hinst : (Cond.instanceMethod y).before args s = true)
    (hcode : (Cond.code y bytes maxL none).before args s = true) (hy : y.cls ≠ "java/lang/invoke/MethodHandle" ∧ y.cls ≠ "java/lang/invoke/VarHandle")
    {W9 : Nat} {Pre : Pt → Array Value → Prop} {Post : Pt → Array Value → Option Value → Pt → Prop} {PostX : Pt → Array Value → Addr → Pt → Prop} (hK : vx_Back l R p e below s args y 3 W9 Pre Post PostX)
    {g : JFrame} (hg : g.method = m) (hsize : g.locals.size = c.maxLocals) {a : Addr} {argsL rest : List Value} (hlen : ∀ sig, parseMethodDescriptor y.desc = some sig → argsL.length = sig.parameters.length)
    (hstack : g.stack = argsL.reverse ++ .ref a :: rest) (hW : 2 * g.monitorRoom + (rest.map fun v => v.category).sum ≤ W9) (hdg : decode c.code g.pc = .ok (.invokespecial index, 3))
    (hpre : ∀ vm₁, s.WarmedH vm₁ → Pre ⟨T.setVm vm₁, locs, cells, slots⟩ (Value.ref a :: argsL).toArray) :
    (∃ (v : Option Value) (vm₁ : Vm) (B : Pt), s.WarmedH vm₁ ∧ Stand p l e R s m args below meth c B.U B.locs B.cells B.slots ∧ Post ⟨T.setVm vm₁, locs, cells, slots⟩ (Value.ref a :: argsL).toArray v B ∧
      ∀ target, Steps p.tables e below (B.U.setTop { g with pc := g.pc + 3, stack := v.toList ++ rest }) target → Steps p.tables e below (T.setTop g) target) ∨
    (∃ (q : Addr) (vm₁ : Vm) (B : Pt), s.WarmedH vm₁ ∧ Stand p l e R s m args below meth c B.U B.locs B.cells B.slots ∧ PostX ⟨T.setVm vm₁, locs, cells, slots⟩ (Value.ref a :: argsL).toArray q B ∧
      Steps p.tables e below (T.setTop g) ((B.U.setTop { g with stack := rest }).pushFrame (.throwing q))) := by
  subst hg
  have hpl : e.platform.magicAccessors = ({} : Platform).magicAccessors := by rw [X.admits.platform]
  obtain ⟨mk, methM, cM, kP, vm₁, hnamed, hmethM, hcodeM, -, hlocalsM, -, hkP, -, hW₁, hstep₁⟩ := Steps.initColdArgsNest (e := e) X.here hexec X.warmed hpl hown hy1 hy hlink hinst hcode (f := g) rfl hlen hstack hdg
  have X₁ := X.noted hW₁
  rcases hK g.method meth c ⟨T.setVm vm₁, locs, cells, slots⟩ { g with stack := rest } (.invokespecial index) mk (Value.ref a :: argsL).toArray X₁ rfl hsize hdg hW (X₁.named hnamed) (hpre vm₁ X₁.warmed) with ⟨v, B, X', hpost, hsteps⟩ | ⟨q, B, X', hpost, hsteps⟩
  · exact Or.inl ⟨v, vm₁, B, X₁.warmed, X', hpost, fun target h => hstep₁ _ fun acts => by rw [doInvoke_state]; exact hsteps.trans h⟩
  · exact Or.inr ⟨q, vm₁, B, X₁.warmed, X', hpost, hstep₁ _ fun acts => by rw [doInvoke_state]; exact hsteps⟩
end VXIC
section VXID
variable {p : Program} {l : Launch} {e : Env} {R : Room} {s : State} {m : MethodId} {args : Array Value} {below : List Frame} {meth : Method} {c : Code} {H : Heap} {locs : List Loc} {cells slots : Nat}
theorem vx_runIN {y : MethodName} {bytes cc : ByteArray} {maxL nL mc ms n index : Nat} {ws : List Cond} {rm : Room} {Pc : Array Value → State → Prop} {Qc : Array Value → State → Outcome → State → Prop} {XC : String → State → State → Prop} {free : Addr → Prop} {Ts : List Cond} {own host : String} {b : Addr} {As rest : List Value} {g : JFrame}
    (S : CallFix p m c cc nL s args Ts own) (hM : vx_Met l y ws rm Pc Qc XC mc ms free) (cw : va_CN R s args own index y host bytes maxL none ws rm mc ms n ∧ y.name = "<init>" ∧ (Cond.instanceMethod y).before args s = true) (hp : PreS s H Pc (.ref b :: As))
    (hg : g.method = m) (hn : As.length = n) (hsize : g.locals.size = nL) (hstack : g.stack = As.reverse ++ .ref b :: rest) (hW : 2 * g.monitorRoom + (rest.map fun v => v.category).sum ≤ 8) (hdg : decode cc g.pc = .ok (.invokespecial index, 3)) (hf : cells + mc ≤ R.cells ∧ slots + ms ≤ R.slots) :
    vx_Run p l e R s m args below meth c H locs cells slots mc ms g rest (Qc (Value.ref b :: As).toArray) XC free := by
  obtain ⟨⟨⟨hrc, hrs, hfr, hlo, hws, hcw⟩, hcode, hini, hy, hlen, hl⟩, hx1, hx2⟩ := cw
  have hK : vx_Back l R p e below s args y 3 8 (PreOf R mc ms Pc) (PostOf Qc mc ms free) (vx_Post XC mc ms free) := vx_back (bytes := bytes) (maxL := maxL) (ret := none) hM hp.1 hrc hrs hfr hlo hws hcw (fun a' U hW => word_at hW (Or.inl (by first | rfl | simp [Cond.onTables, Cond.keeps, Cond.steady])) hini)
  obtain ⟨hx, hb, hml, ho, -⟩ := S
  have hPc := hp.2
  intro T hT X
  rcases vx_callIN X hx (bytes := bytes) (maxL := maxL) ho hx1 hl hx2 hcode hy hK hg (hsize.trans hml.symm) (a := b) (argsL := As) (rest := rest) (fun sig h => hn.trans (hlen sig h)) hstack hW (by rw [hb]; exact hdg)
    (fun vm₁ hW₁ => ⟨hf.1, hf.2, hPc (T.setVm vm₁) hT hW₁⟩) with ⟨v, vm₁, ⟨U', l2, c2, s2⟩, hW₁, X', ⟨g', mk, t, L, e1, e2, hq, h1, hL, h2, h3⟩, st⟩ | ⟨q, vm₁, ⟨U', l2, c2, s2⟩, hW₁, X', ⟨g', mk, t, L, E, ce, e1, e2, hq, hce, hcv, hcl, h1, hL, h2, h3⟩, st⟩
  · dsimp only [Pt.U, Pt.locs, Pt.cells, Pt.slots] at X' e1 e2 h1 h2 h3 st
    subst h1; subst h2; subst h3
    exact Or.inl ⟨v, (T.setVm vm₁).calling g' mk (Value.ref b :: As).toArray, t, U', L, hT, X', hL, e1, e2, hq, st⟩
  · dsimp only [Pt.U, Pt.locs, Pt.cells, Pt.slots] at X' e1 e2 h1 h2 h3 st hcl
    subst h1; subst h2; subst h3
    exact Or.inr ⟨q, (T.setVm vm₁).calling g' mk (Value.ref b :: As).toArray, t, U', L, E, ce, hT, X', hL, e1, e2, hq, hce, hcv, vx_cls hW₁ hcl, st⟩
end VXID
/-! ===== END ===== -/
/-! ===== BEGIN a private method of a nest mate that may throw (follows va_callVN, va_callSN, va_runVN, va_runSN) ===== -/
section
variable {p : Program} {l : Launch} {e : Env} {R : Room} {s : State} {m : MethodId} {args : Array Value} {below : List Frame} {meth : Method} {c : Code} {H : Heap} {locs : List Loc} {cells slots : Nat}
variable {T : State}
theorem vx_callVN (X : Stand p l e R s m args below meth c T locs cells slots) (hexec : p.tables.exec = Jvm.exec) {own C : String} {index : Nat} {host : String} {y : MethodName} {bytes : ByteArray} {maxL : Nat} {ret : Option FieldType}
    (hown : s.vm.findClass own = some m.cls) (hlink : (Cond.methodLinkNest own index y host).before args s = true) (hinst : (Cond.instanceMethod y).before args s = true) (hsel : (Cond.selects C y y).before args s = true)
    (hcode : (Cond.code y bytes maxL ret).before args s = true) (hy : y.cls ≠ "java/lang/invoke/MethodHandle" ∧ y.cls ≠ "java/lang/invoke/VarHandle")
    {W : Nat} {Pre : Pt → Array Value → Prop} {Post : Pt → Array Value → Option Value → Pt → Prop} {PostX : Pt → Array Value → Addr → Pt → Prop} (hK : vx_Back l R p e below s args y 3 W Pre Post PostX)
    {b : Addr} {cellB : Cell} (hcell : T.heap[b]? = some cellB) (hobj : cellB.vm.isStatics = false) (hcls : s.vm.findClass C = some cellB.cls)
    {g : JFrame} (hg : g.method = m) (hsize : g.locals.size = c.maxLocals) {argsL rest : List Value} (hlen : ∀ sig, parseMethodDescriptor y.desc = some sig → argsL.length = sig.parameters.length)
    (hstack : g.stack = argsL.reverse ++ .ref b :: rest) (hW : 2 * g.monitorRoom + (rest.map fun v => v.category).sum ≤ W) (hdg : decode c.code g.pc = .ok (.invokevirtual index, 3))
    (hpre : ∀ vm₁, s.WarmedH vm₁ → Pre ⟨T.setVm vm₁, locs, cells, slots⟩ (Value.ref b :: argsL).toArray) :
    (∃ (v : Option Value) (vm₁ : Vm) (B : Pt), s.WarmedH vm₁ ∧ Stand p l e R s m args below meth c B.U B.locs B.cells B.slots ∧ Post ⟨T.setVm vm₁, locs, cells, slots⟩ (Value.ref b :: argsL).toArray v B ∧
      ∀ target, Steps p.tables e below (B.U.setTop { g with pc := g.pc + 3, stack := v.toList ++ rest }) target → Steps p.tables e below (T.setTop g) target) ∨
    (∃ (q : Addr) (vm₁ : Vm) (B : Pt), s.WarmedH vm₁ ∧ Stand p l e R s m args below meth c B.U B.locs B.cells B.slots ∧ PostX ⟨T.setVm vm₁, locs, cells, slots⟩ (Value.ref b :: argsL).toArray q B ∧
      Steps p.tables e below (T.setTop g) ((B.U.setTop { g with stack := rest }).pushFrame (.throwing q))) := by
  obtain ⟨mk, methM, hnamed, hmethM, hstM, habM⟩ := Cond.instanceMethod_spec hinst
  obtain ⟨methM', cM, hmethM', -, -, -, -, -, -, hsigM⟩ := Cond.code_spec hnamed hcode
  cases hmethM.symm.trans hmethM'
  obtain ⟨c2, r2, m2, q1, q2, q3, q4, kP, hkP, hkPi⟩ := Cond.selects_spec hsel
  cases hcls.symm.trans q1
  cases (State.methodFound?_of_named hnamed hy).symm.trans q2
  cases hnamed.symm.trans q3
  have hselP : selectMethod e.platform s.vm cellB.cls mk = .method mk := by rw [Launch.admits_selectMethod X.admits]; exact q4
  obtain ⟨vm₁, X₁, hstep₁⟩ := X.invokevirtualNest hexec hown hlink hnamed hmethM hstM hkP hkPi hy (a := b) (cell := cellB) hcell
    (fun z h => by rw [h] at hobj; cases hobj) hselP hmethM habM hkP hkPi (g := g) hg (argsL := argsL) (rest := rest) (hlen _ hsigM) hstack hdg
  rcases hK m meth c ⟨T.setVm vm₁, locs, cells, slots⟩ { g with stack := rest } (.invokevirtual index) mk (Value.ref b :: argsL).toArray X₁ hg hsize hdg hW (X₁.named hnamed) (hpre vm₁ X₁.warmed) with ⟨v, B, X', hpost, hsteps⟩ | ⟨q, B, X', hpost, hsteps⟩
  · exact Or.inl ⟨v, vm₁, B, X₁.warmed, X', hpost, fun target h => hstep₁ _ fun acts => by rw [doInvoke_state]; exact hsteps.trans h⟩
  · exact Or.inr ⟨q, vm₁, B, X₁.warmed, X', hpost, hstep₁ _ fun acts => by rw [doInvoke_state]; exact hsteps⟩
theorem vx_callSN (X : Stand p l e R s m args below meth c T locs cells slots) (hexec : p.tables.exec = Jvm.exec) {own : String} {index : Nat} {host : String} {y : MethodName} {bytes : ByteArray} {maxL : Nat} {ret : Option FieldType}
    (hown : s.vm.findClass own = some m.cls) (hlink : (Cond.methodLinkNest own index y host).before args s = true) (hstat : (Cond.static y).before args s = true) (hinit : (Cond.initialized y.cls).before args s = true)
    (hcode : (Cond.code y bytes maxL ret).before args s = true) (hy : y.cls ≠ "java/lang/invoke/MethodHandle" ∧ y.cls ≠ "java/lang/invoke/VarHandle")
    {W : Nat} {Pre : Pt → Array Value → Prop} {Post : Pt → Array Value → Option Value → Pt → Prop} {PostX : Pt → Array Value → Addr → Pt → Prop} (hK : vx_Back l R p e below s args y 3 W Pre Post PostX)
    {g : JFrame} (hg : g.method = m) (hsize : g.locals.size = c.maxLocals) {argsL rest : List Value} (hlen : ∀ sig, parseMethodDescriptor y.desc = some sig → argsL.length = sig.parameters.length)
    (hstack : g.stack = argsL.reverse ++ rest) (hW : 2 * g.monitorRoom + (rest.map fun v => v.category).sum ≤ W) (hdg : decode c.code g.pc = .ok (.invokestatic index, 3))
    (hpre : ∀ vm₁, s.WarmedH vm₁ → Pre ⟨T.setVm vm₁, locs, cells, slots⟩ argsL.toArray) :
    (∃ (v : Option Value) (vm₁ : Vm) (B : Pt), s.WarmedH vm₁ ∧ Stand p l e R s m args below meth c B.U B.locs B.cells B.slots ∧ Post ⟨T.setVm vm₁, locs, cells, slots⟩ argsL.toArray v B ∧
      ∀ target, Steps p.tables e below (B.U.setTop { g with pc := g.pc + 3, stack := v.toList ++ rest }) target → Steps p.tables e below (T.setTop g) target) ∨
    (∃ (q : Addr) (vm₁ : Vm) (B : Pt), s.WarmedH vm₁ ∧ Stand p l e R s m args below meth c B.U B.locs B.cells B.slots ∧ PostX ⟨T.setVm vm₁, locs, cells, slots⟩ argsL.toArray q B ∧
      Steps p.tables e below (T.setTop g) ((B.U.setTop { g with stack := rest }).pushFrame (.throwing q))) := by
  obtain ⟨mk, hnamed⟩ := Cond.code_named hcode
  obtain ⟨methM, cM, hmethM, -, -, -, -, -, -, hsigM⟩ := Cond.code_spec hnamed hcode
  have hstatic : methM.isStatic = true := Cond.static_spec hnamed hmethM hstat
  obtain ⟨kP, hkP, -⟩ := className_of_methodNamed hnamed
  have hinitP : kP.init = .initialized := Cond.initialized_spec (findClass_of_methodNamed hnamed) hkP hinit
  obtain ⟨vm₁, X₁, hstep₁⟩ := X.invokestaticNest hexec hown hlink hnamed hmethM hstatic hkP hinitP hy (g := g) hg (argsL := argsL) (rest := rest) (hlen _ hsigM) hstack hdg
  rcases hK m meth c ⟨T.setVm vm₁, locs, cells, slots⟩ { g with stack := rest } (.invokestatic index) mk argsL.toArray X₁ hg hsize hdg hW (X₁.named hnamed) (hpre vm₁ X₁.warmed) with ⟨v, B, X', hpost, hsteps⟩ | ⟨q, B, X', hpost, hsteps⟩
  · exact Or.inl ⟨v, vm₁, B, X₁.warmed, X', hpost, fun target h => hstep₁ _ fun acts => by rw [doInvoke_state]; exact hsteps.trans h⟩
  · exact Or.inr ⟨q, vm₁, B, X₁.warmed, X', hpost, hstep₁ _ fun acts => by rw [doInvoke_state]; exact hsteps⟩
theorem vx_runVN {y : MethodName} {bytes cc : ByteArray} {maxL nL mc ms n index : Nat} {ret : Option FieldType} {ws : List Cond} {rm : Room} {Pc : Array Value → State → Prop} {Qc : Array Value → State → Outcome → State → Prop} {XC : String → State → State → Prop} {free : Addr → Prop} {Ts : List Cond} {own C host : String} {b : Addr} {As rest : List Value} {g : JFrame}
    (S : CallFix p m c cc nL s args Ts own) (hM : vx_Met l y ws rm Pc Qc XC mc ms free) (cw : va_CN R s args own index y host bytes maxL ret ws rm mc ms n ∧ (Cond.instanceMethod y).before args s = true ∧ (Cond.selects C y y).before args s = true) (hp : PreV s H C b Pc As)
    (hg : g.method = m) (hn : As.length = n) (hsize : g.locals.size = nL) (hstack : g.stack = As.reverse ++ .ref b :: rest) (hW : 2 * g.monitorRoom + (rest.map fun v => v.category).sum ≤ 8) (hdg : decode cc g.pc = .ok (.invokevirtual index, 3)) (hf : cells + mc ≤ R.cells ∧ slots + ms ≤ R.slots) :
    vx_Run p l e R s m args below meth c H locs cells slots mc ms g rest (Qc (Value.ref b :: As).toArray) XC free := by
  obtain ⟨⟨⟨hrc, hrs, hfr, hlo, hws, hcw⟩, hcode, hini, hy, hlen, hl⟩, hx1, hx2⟩ := cw
  have hK : vx_Back l R p e below s args y 3 8 (PreOf R mc ms Pc) (PostOf Qc mc ms free) (vx_Post XC mc ms free) := vx_back (bytes := bytes) (maxL := maxL) (ret := ret) hM hp.1 hrc hrs hfr hlo hws hcw (fun a' U hW => word_at hW (Or.inl (by first | rfl | simp [Cond.onTables, Cond.keeps, Cond.steady])) hini)
  obtain ⟨hx, hb, hml, ho, -⟩ := S
  obtain ⟨-, ⟨cellB, hcB, hoB, hclB⟩, hPc⟩ := hp
  intro T hT X
  rcases vx_callVN X hx (C := C) (bytes := bytes) (maxL := maxL) (ret := ret) ho hl hx1 hx2 hcode hy hK (by rw [hT]; exact hcB) hoB hclB hg (hsize.trans hml.symm) (argsL := As) (rest := rest) (fun sig h => hn.trans (hlen sig h)) hstack hW (by rw [hb]; exact hdg)
    (fun vm₁ hW₁ => ⟨hf.1, hf.2, hPc (T.setVm vm₁) hT hW₁⟩) with ⟨v, vm₁, ⟨U', l2, c2, s2⟩, hW₁, X', ⟨g', mk, t, L, e1, e2, hq, h1, hL, h2, h3⟩, st⟩ | ⟨q, vm₁, ⟨U', l2, c2, s2⟩, hW₁, X', ⟨g', mk, t, L, E, ce, e1, e2, hq, hce, hcv, hcl, h1, hL, h2, h3⟩, st⟩
  · dsimp only [Pt.U, Pt.locs, Pt.cells, Pt.slots] at X' e1 e2 h1 h2 h3 st
    subst h1; subst h2; subst h3
    exact Or.inl ⟨v, (T.setVm vm₁).calling g' mk (Value.ref b :: As).toArray, t, U', L, hT, X', hL, e1, e2, hq, st⟩
  · dsimp only [Pt.U, Pt.locs, Pt.cells, Pt.slots] at X' e1 e2 h1 h2 h3 st hcl
    subst h1; subst h2; subst h3
    exact Or.inr ⟨q, (T.setVm vm₁).calling g' mk (Value.ref b :: As).toArray, t, U', L, E, ce, hT, X', hL, e1, e2, hq, hce, hcv, vx_cls hW₁ hcl, st⟩
theorem vx_runSN {y : MethodName} {bytes cc : ByteArray} {maxL nL mc ms n index : Nat} {ret : Option FieldType} {ws : List Cond} {rm : Room} {Pc : Array Value → State → Prop} {Qc : Array Value → State → Outcome → State → Prop} {XC : String → State → State → Prop} {free : Addr → Prop} {Ts : List Cond} {own host : String} {As rest : List Value} {g : JFrame}
    (S : CallFix p m c cc nL s args Ts own) (hM : vx_Met l y ws rm Pc Qc XC mc ms free) (cw : va_CN R s args own index y host bytes maxL ret ws rm mc ms n ∧ (Cond.static y).before args s = true ∧ True) (hp : PreS s H Pc As)
    (hg : g.method = m) (hn : As.length = n) (hsize : g.locals.size = nL) (hstack : g.stack = As.reverse ++ rest) (hW : 2 * g.monitorRoom + (rest.map fun v => v.category).sum ≤ 8) (hdg : decode cc g.pc = .ok (.invokestatic index, 3)) (hf : cells + mc ≤ R.cells ∧ slots + ms ≤ R.slots) :
    vx_Run p l e R s m args below meth c H locs cells slots mc ms g rest (Qc As.toArray) XC free := by
  obtain ⟨⟨⟨hrc, hrs, hfr, hlo, hws, hcw⟩, hcode, hini, hy, hlen, hl⟩, hx1, hx2⟩ := cw
  have hK : vx_Back l R p e below s args y 3 8 (PreOf R mc ms Pc) (PostOf Qc mc ms free) (vx_Post XC mc ms free) := vx_back (bytes := bytes) (maxL := maxL) (ret := ret) hM hp.1 hrc hrs hfr hlo hws hcw (fun a' U hW => word_at hW (Or.inl (by first | rfl | simp [Cond.onTables, Cond.keeps, Cond.steady])) hini)
  obtain ⟨hx, hb, hml, ho, -⟩ := S
  have hPc := hp.2
  intro T hT X
  rcases vx_callSN X hx (bytes := bytes) (maxL := maxL) (ret := ret) ho hl hx1 hini hcode hy hK hg (hsize.trans hml.symm) (argsL := As) (rest := rest) (fun sig h => hn.trans (hlen sig h)) hstack hW (by rw [hb]; exact hdg)
    (fun vm₁ hW₁ => ⟨hf.1, hf.2, hPc (T.setVm vm₁) hT hW₁⟩) with ⟨v, vm₁, ⟨U', l2, c2, s2⟩, hW₁, X', ⟨g', mk, t, L, e1, e2, hq, h1, hL, h2, h3⟩, st⟩ | ⟨q, vm₁, ⟨U', l2, c2, s2⟩, hW₁, X', ⟨g', mk, t, L, E, ce, e1, e2, hq, hce, hcv, hcl, h1, hL, h2, h3⟩, st⟩
  · dsimp only [Pt.U, Pt.locs, Pt.cells, Pt.slots] at X' e1 e2 h1 h2 h3 st
    subst h1; subst h2; subst h3
    exact Or.inl ⟨v, (T.setVm vm₁).calling g' mk As.toArray, t, U', L, hT, X', hL, e1, e2, hq, st⟩
  · dsimp only [Pt.U, Pt.locs, Pt.cells, Pt.slots] at X' e1 e2 h1 h2 h3 st hcl
    subst h1; subst h2; subst h3
    exact Or.inr ⟨q, (T.setVm vm₁).calling g' mk As.toArray, t, U', L, E, ce, hT, X', hL, e1, e2, hq, hce, hcv, vx_cls hW₁ hcl, st⟩
end
/-! ===== END ===== -/
/-! ===== BEGIN calls by an interface of methods that may throw (vx_callIF, vx_runF follow va_callIF, va_runF of this kit) ===== -/
section
variable {p : Program} {l : Launch} {e : Env} {R : Room} {s : State} {m : MethodId} {args : Array Value} {below : List Frame} {meth : Method} {c : Code} {H : Heap} {locs : List Loc} {cells slots : Nat} {Q : State → Prop}
variable {mc ms : Nat} {free : Addr → Prop} {A0 A1 : Nat → Prop} {H0 : Heap} {a : Array Value} {pc : Nat} {ls : Array Slot} {st0 rest : List Value}
def vx_Run5 (p : Program) (l : Launch) (e : Env) (R : Room) (s : State) (m : MethodId) (args : Array Value) (below : List Frame) (meth : Method) (c : Code) (H : Heap) (locs : List Loc) (cells slots mc ms : Nat) (g : JFrame) (rest : List Value) (Qa : State → Outcome → State → Prop) (XC : String → State → State → Prop) (free : Addr → Prop) : Prop :=
  ∀ T : State, T.heap = H → Stand p l e R s m args below meth c T locs cells slots →
    (∃ (v : Option Value) (st₀ t T' : State) (L : List Loc), st₀.heap = H ∧ Stand p l e R s m args below meth c T' (locs ++ L) (cells + mc) (slots + ms) ∧ (∀ q ∈ L, free q.base) ∧ T'.heap = t.heap ∧ T'.vm = t.vm ∧ Qa st₀ (.returned v) t ∧
      Goes p e below T g T' { g with pc := g.pc + 5, stack := v.toList ++ rest }) ∨
    (∃ (q : Addr) (st₀ t T' : State) (L : List Loc) (E : String) (ce : Cell), st₀.heap = H ∧ Stand p l e R s m args below meth c T' (locs ++ L) (cells + mc) (slots + ms) ∧ (∀ z ∈ L, free z.base) ∧ T'.heap = t.heap ∧ T'.vm = t.vm ∧ XC E st₀ t ∧ t.heap[q]? = some ce ∧ ce.vm = .none ∧ s.vm.findClass E = some ce.cls ∧
      Steps p.tables e below (T.setTop g) ((T'.setTop { g with stack := rest }).pushFrame (.throwing q)))
theorem vx_callIF {T : State} (X : Stand p l e R s m args below meth c T locs cells slots) (hexec : p.tables.exec = Jvm.exec) {own C : String} {index count : Nat} {x y : MethodName} {bytes : ByteArray} {maxL : Nat} {ret : Option FieldType}
    (hown : s.vm.findClass own = some m.cls) (hlink : (Cond.methodLink own index x).before args s = true) (hdecl : (Cond.declares x).before args s = true) (hface : (Cond.interfaceMethod x.cls x.cls x.name x.desc).before args s = true)
    (hsel : (Cond.selects C x y).before args s = true) (hinst : (Cond.instanceMethod y).before args s = true) (hpub : (Cond.publicMethod y).before args s = true) (hunh : (Cond.unhidden C x.name x.desc).before args s = true)
    (hcast : (Cond.castable C x.cls).before args s = true) (hcode : (Cond.code y bytes maxL ret).before args s = true) (hx : x.cls ≠ "java/lang/invoke/MethodHandle" ∧ x.cls ≠ "java/lang/invoke/VarHandle")
    {W9 : Nat} {Pre : Pt → Array Value → Prop} {Post : Pt → Array Value → Option Value → Pt → Prop} {PostX : Pt → Array Value → Addr → Pt → Prop} (hK : vx_Back l R p e below s args y 5 W9 Pre Post PostX)
    {b : Addr} {cellB : Cell} {kB : Class} (hcell : T.heap[b]? = some cellB) (hobj : cellB.vm.isStatics = false) (hcls : s.vm.findClass C = some cellB.cls) (hkB : s.vm.classes[cellB.cls]? = some kB)
    {g : JFrame} (hg : g.method = m) (hsize : g.locals.size = c.maxLocals) {argsL rest : List Value} (hlen : ∀ sig, parseMethodDescriptor x.desc = some sig → argsL.length = sig.parameters.length)
    (hstack : g.stack = argsL.reverse ++ .ref b :: rest) (hW : 2 * g.monitorRoom + (rest.map fun v => v.category).sum ≤ W9) (hdg : decode c.code g.pc = .ok (.invokeinterface index count, 5))
    (hpre : ∀ vm₁, s.WarmedH vm₁ → Pre ⟨T.setVm vm₁, locs, cells, slots⟩ (Value.ref b :: argsL).toArray) :
    (∃ (v : Option Value) (vm₁ : Vm) (B : Pt), s.WarmedH vm₁ ∧ Stand p l e R s m args below meth c B.U B.locs B.cells B.slots ∧ Post ⟨T.setVm vm₁, locs, cells, slots⟩ (Value.ref b :: argsL).toArray v B ∧
      ∀ target, Steps p.tables e below (B.U.setTop { g with pc := g.pc + 5, stack := v.toList ++ rest }) target → Steps p.tables e below (T.setTop g) target) ∨
    (∃ (q : Addr) (vm₁ : Vm) (B : Pt), s.WarmedH vm₁ ∧ Stand p l e R s m args below meth c B.U B.locs B.cells B.slots ∧ PostX ⟨T.setVm vm₁, locs, cells, slots⟩ (Value.ref b :: argsL).toArray q B ∧
      Steps p.tables e below (T.setTop g) ((B.U.setTop { g with stack := rest }).pushFrame (.throwing q))) := by
  obtain ⟨r0, r, hn, hrm, hstR, hsigR⟩ := Cond.declares_spec hdecl
  obtain ⟨cL, kL, r1, hcL, hkL, hiL, hfoundL, hn1⟩ := Cond.interfaceMethod_spec hface
  cases hn.symm.trans hn1
  have hr0cls : r0.cls = cL := Option.some.inj ((findClass_of_methodNamed hn).symm.trans hcL)
  obtain ⟨hnameR, hdescR⟩ := name_of_methodNamed hn hrm
  obtain ⟨mk, methM, hnamed, hmethM, -, habM⟩ := Cond.instanceMethod_spec hinst
  obtain ⟨c2, r2, m2, q1, q2, q3, q4, -⟩ := Cond.selects_spec hsel
  cases hcls.symm.trans q1
  cases hfoundL.symm.trans q2
  cases hnamed.symm.trans q3
  have hselP : selectMethod e.platform s.vm cellB.cls r0 = .method mk := by rw [Launch.admits_selectMethod X.admits]; exact q4
  have hpubM : hasFlag methM.accessFlags Acc.public_ = true := Cond.publicMethod_spec hnamed hmethM hpub
  have hway : ((cellB.cls :: s.vm.superclasses cellB.cls).any fun k => (declaredIn s.vm r.name r.desc k).any fun (_, z) => z.isPrivate || z.isStatic) = false := by
    rw [hnameR, hdescR]; exact Cond.unhidden_spec hcls hunh
  obtain ⟨c3, t3, w1, w2, w3⟩ := Cond.castable_spec hcast
  cases hcls.symm.trans w1
  cases hcL.symm.trans w2
  obtain ⟨vm₁, X₁, hstep₁⟩ := X.invokeinterface hexec hown hlink hn hrm hstR (by rw [hr0cls]; exact hkL) hiL hx (a := b) (cell := cellB) (kcell := kB) hcell
    (fun z h => by rw [h] at hobj; cases hobj) hkB (by rw [hr0cls]; exact w3) hselP hmethM hway hpubM habM (g := g) hg (argsL := argsL) (rest := rest) (hlen _ hsigR) hstack hdg
  rcases hK m meth c ⟨T.setVm vm₁, locs, cells, slots⟩ { g with stack := rest } (.invokeinterface index count) mk (Value.ref b :: argsL).toArray X₁ hg hsize hdg hW (X₁.named hnamed) (hpre vm₁ X₁.warmed) with ⟨v, B, X', hpost, hsteps⟩ | ⟨q, B, X', hpost, hsteps⟩
  · exact Or.inl ⟨v, vm₁, B, X₁.warmed, X', hpost, fun target h => hstep₁ _ fun acts => by rw [doInvoke_state]; exact hsteps.trans h⟩
  · exact Or.inr ⟨q, vm₁, B, X₁.warmed, X', hpost, hstep₁ _ fun acts => by rw [doInvoke_state]; exact hsteps⟩
theorem vx_runF {x y : MethodName} {bytes cc : ByteArray} {maxL nL mc ms n index count : Nat} {ret : Option FieldType} {ws : List Cond} {rm : Room} {Pc : Array Value → State → Prop} {Qc : Array Value → State → Outcome → State → Prop} {XC : String → State → State → Prop} {free : Addr → Prop} {Ts : List Cond} {own C : String} {cC : ClassId} {b : Addr} {As rest : List Value} {g : JFrame}
    (hat : ClassAt s C cC) (S : CallFix p m c cc nL s args Ts own) (hM : vx_Met l y ws rm Pc Qc XC mc ms free) (cw : va_CI R s args own C index x y bytes maxL ret ws rm mc ms n) (hp : PreV s H C b Pc As)
    (hg : g.method = m) (hn : As.length = n) (hsize : g.locals.size = nL) (hstack : g.stack = As.reverse ++ .ref b :: rest) (hW : 2 * g.monitorRoom + (rest.map fun v => v.category).sum ≤ 8) (hdg : decode cc g.pc = .ok (.invokeinterface index count, 5)) (hf : cells + mc ≤ R.cells ∧ slots + ms ≤ R.slots) :
    vx_Run5 p l e R s m args below meth c H locs cells slots mc ms g rest (Qc (Value.ref b :: As).toArray) XC free := by
  obtain ⟨hrc, hrs, hfr, hlo, hws, hcw⟩ := cw.back
  have hini := cw.init
  have hK : vx_Back l R p e below s args y 5 8 (PreOf R mc ms Pc) (PostOf Qc mc ms free) (vx_Post XC mc ms free) := vx_back (bytes := bytes) (maxL := maxL) (ret := ret) hM hp.1 hrc hrs hfr hlo hws hcw (fun a' U hW => word_at hW (Or.inl (by first | rfl | simp [Cond.onTables, Cond.keeps, Cond.steady])) hini)
  obtain ⟨hx, hb, hml, ho, -⟩ := S
  obtain ⟨-, ⟨cellB, hcB, hoB, hclB⟩, hPc⟩ := hp
  obtain ⟨hfc, kB, hkB, -⟩ := hat
  cases hfc.symm.trans hclB
  intro T hT X
  rcases vx_callIF X hx (C := C) (bytes := bytes) (maxL := maxL) (ret := ret) ho cw.link cw.decl cw.face cw.sel cw.inst cw.pub cw.unh cw.cast cw.code cw.notMH hK (by rw [hT]; exact hcB) hoB hclB hkB hg (hsize.trans hml.symm) (argsL := As) (rest := rest) (fun sig h => hn.trans (cw.len sig h)) hstack hW (by rw [hb]; exact hdg)
    (fun vm₁ hW₁ => ⟨hf.1, hf.2, hPc (T.setVm vm₁) hT hW₁⟩) with ⟨v, vm₁, ⟨U', l2, c2, s2⟩, hW₁, X', ⟨g', mk, t, L, e1, e2, hq, h1, hL, h2, h3⟩, st⟩ | ⟨q, vm₁, ⟨U', l2, c2, s2⟩, hW₁, X', ⟨g', mk, t, L, E, ce, e1, e2, hq, hce, hcv, hcl, h1, hL, h2, h3⟩, st⟩
  · dsimp only [Pt.U, Pt.locs, Pt.cells, Pt.slots] at X' e1 e2 h1 h2 h3 st
    subst h1; subst h2; subst h3
    exact Or.inl ⟨v, (T.setVm vm₁).calling g' mk (Value.ref b :: As).toArray, t, U', L, hT, X', hL, e1, e2, hq, st⟩
  · dsimp only [Pt.U, Pt.locs, Pt.cells, Pt.slots] at X' e1 e2 h1 h2 h3 st hcl
    subst h1; subst h2; subst h3
    exact Or.inr ⟨q, (T.setVm vm₁).calling g' mk (Value.ref b :: As).toArray, t, U', L, E, ce, hT, X', hL, e1, e2, hq, hce, hcv, vx_cls hW₁ hcl, st⟩
theorem vx_callFv {S SX : Type} {post : S → Prop} {px : SX → Prop} {B : S → State → Prop} {BX : String → SX → State → Prop} {AX : Nat → Prop} (hr : vx_Run5 p l e R s m args below meth c H locs cells slots mc ms (F0 m pc ls st0) rest (va_Qv post B A1 a) (vx_X px BX AX) free) (hS : va_S A0 H0 H locs) (hA : ∀ q, q < H.size → A1 q → A0 q) (hf : ∀ q, free q → A0 q) (hAX : ∀ q, q < H.size → AX q → A0 q)
    (kx : ∀ (E : String) (ce : Cell) (q9 : Addr) (u : SX) (t : State) (H1 : Heap) (locs1 : List Loc), t.heap = H1 → s.vm.Alike t.vm → px u → BX E u t → H.size ≤ H1.size → (∀ q : Nat, q < H.size → ¬ AX q → H1[q]? = H[q]?) → va_S A0 H0 H1 locs1 → H1[q9]? = some ce → ce.vm = .none → s.vm.findClass E = some ce.cls → vx_W p l e R s m args below meth c H1 locs1 (cells + mc) (slots + ms) Q (F0 m pc ls rest) q9)
    (kk : ∀ (u : S) (t : State) (H1 : Heap) (locs1 : List Loc), t.heap = H1 → s.vm.Alike t.vm → post u → B u t → H.size ≤ H1.size → (∀ q : Nat, q < H.size → ¬ A1 q → H1[q]? = H[q]?) → va_S A0 H0 H1 locs1 → W p l e R s m args below meth c H1 locs1 (cells + mc) (slots + ms) Q (F0 m (pc + 5) ls (rest))) : W p l e R s m args below meth c H locs cells slots Q (F0 m pc ls st0) := by
  intro T hT X
  rcases hr T hT X with ⟨v, st₀, t, T', L, h0, X', hL, e1, e2, ⟨⟨u, hv, hp, hb⟩, hF⟩, st⟩ | ⟨q, st₀, t, T', L, E, ce, h0, X', hL, e1, e2, ⟨u, hp, hb, hF⟩, hce, hcv, hcl, st⟩
  · cases hv
    obtain ⟨k1, k2, k3⟩ := vx_keep h0 e1 hS hA hf hL hF
    obtain ⟨t2, a1, b1⟩ := kk u t T'.heap (locs ++ L) e1.symm (by rw [← e2]; exact X'.warmed.alike) hp hb k1 k2 k3 T' rfl X'
    exact ⟨t2, st t2 a1, b1⟩
  · obtain ⟨k1, k2, k3⟩ := vx_keep h0 e1 hS hAX hf hL hF
    obtain ⟨t2, a1, b1⟩ := kx E ce q u t T'.heap (locs ++ L) e1.symm (by rw [← e2]; exact X'.warmed.alike) hp hb k1 k2 k3 (by rw [e1]; exact hce) hcv hcl T' rfl X'
    exact ⟨t2, st.trans a1, b1⟩
theorem vx_callFi {S SX : Type} {post : Int32 → S → Prop} {px : SX → Prop} {B : S → State → Prop} {BX : String → SX → State → Prop} {AX : Nat → Prop} (hr : vx_Run5 p l e R s m args below meth c H locs cells slots mc ms (F0 m pc ls st0) rest (va_Qi post B A1 a) (vx_X px BX AX) free) (hS : va_S A0 H0 H locs) (hA : ∀ q, q < H.size → A1 q → A0 q) (hf : ∀ q, free q → A0 q) (hAX : ∀ q, q < H.size → AX q → A0 q)
    (kx : ∀ (E : String) (ce : Cell) (q9 : Addr) (u : SX) (t : State) (H1 : Heap) (locs1 : List Loc), t.heap = H1 → s.vm.Alike t.vm → px u → BX E u t → H.size ≤ H1.size → (∀ q : Nat, q < H.size → ¬ AX q → H1[q]? = H[q]?) → va_S A0 H0 H1 locs1 → H1[q9]? = some ce → ce.vm = .none → s.vm.findClass E = some ce.cls → vx_W p l e R s m args below meth c H1 locs1 (cells + mc) (slots + ms) Q (F0 m pc ls rest) q9)
    (kk : ∀ (r : Int32) (u : S) (t : State) (H1 : Heap) (locs1 : List Loc), t.heap = H1 → s.vm.Alike t.vm → post r u → B u t → H.size ≤ H1.size → (∀ q : Nat, q < H.size → ¬ A1 q → H1[q]? = H[q]?) → va_S A0 H0 H1 locs1 → W p l e R s m args below meth c H1 locs1 (cells + mc) (slots + ms) Q (F0 m (pc + 5) ls (.int r :: rest))) : W p l e R s m args below meth c H locs cells slots Q (F0 m pc ls st0) := by
  intro T hT X
  rcases hr T hT X with ⟨v, st₀, t, T', L, h0, X', hL, e1, e2, ⟨⟨r, u, hv, hp, hb⟩, hF⟩, st⟩ | ⟨q, st₀, t, T', L, E, ce, h0, X', hL, e1, e2, ⟨u, hp, hb, hF⟩, hce, hcv, hcl, st⟩
  · cases hv
    obtain ⟨k1, k2, k3⟩ := vx_keep h0 e1 hS hA hf hL hF
    obtain ⟨t2, a1, b1⟩ := kk r u t T'.heap (locs ++ L) e1.symm (by rw [← e2]; exact X'.warmed.alike) hp hb k1 k2 k3 T' rfl X'
    exact ⟨t2, st t2 a1, b1⟩
  · obtain ⟨k1, k2, k3⟩ := vx_keep h0 e1 hS hAX hf hL hF
    obtain ⟨t2, a1, b1⟩ := kx E ce q u t T'.heap (locs ++ L) e1.symm (by rw [← e2]; exact X'.warmed.alike) hp hb k1 k2 k3 (by rw [e1]; exact hce) hcv hcl T' rfl X'
    exact ⟨t2, st.trans a1, b1⟩
theorem vx_callFl {S SX : Type} {post : Int64 → S → Prop} {px : SX → Prop} {B : S → State → Prop} {BX : String → SX → State → Prop} {AX : Nat → Prop} (hr : vx_Run5 p l e R s m args below meth c H locs cells slots mc ms (F0 m pc ls st0) rest (va_Ql post B A1 a) (vx_X px BX AX) free) (hS : va_S A0 H0 H locs) (hA : ∀ q, q < H.size → A1 q → A0 q) (hf : ∀ q, free q → A0 q) (hAX : ∀ q, q < H.size → AX q → A0 q)
    (kx : ∀ (E : String) (ce : Cell) (q9 : Addr) (u : SX) (t : State) (H1 : Heap) (locs1 : List Loc), t.heap = H1 → s.vm.Alike t.vm → px u → BX E u t → H.size ≤ H1.size → (∀ q : Nat, q < H.size → ¬ AX q → H1[q]? = H[q]?) → va_S A0 H0 H1 locs1 → H1[q9]? = some ce → ce.vm = .none → s.vm.findClass E = some ce.cls → vx_W p l e R s m args below meth c H1 locs1 (cells + mc) (slots + ms) Q (F0 m pc ls rest) q9)
    (kk : ∀ (r : Int64) (u : S) (t : State) (H1 : Heap) (locs1 : List Loc), t.heap = H1 → s.vm.Alike t.vm → post r u → B u t → H.size ≤ H1.size → (∀ q : Nat, q < H.size → ¬ A1 q → H1[q]? = H[q]?) → va_S A0 H0 H1 locs1 → W p l e R s m args below meth c H1 locs1 (cells + mc) (slots + ms) Q (F0 m (pc + 5) ls (.long r :: rest))) : W p l e R s m args below meth c H locs cells slots Q (F0 m pc ls st0) := by
  intro T hT X
  rcases hr T hT X with ⟨v, st₀, t, T', L, h0, X', hL, e1, e2, ⟨⟨r, u, hv, hp, hb⟩, hF⟩, st⟩ | ⟨q, st₀, t, T', L, E, ce, h0, X', hL, e1, e2, ⟨u, hp, hb, hF⟩, hce, hcv, hcl, st⟩
  · cases hv
    obtain ⟨k1, k2, k3⟩ := vx_keep h0 e1 hS hA hf hL hF
    obtain ⟨t2, a1, b1⟩ := kk r u t T'.heap (locs ++ L) e1.symm (by rw [← e2]; exact X'.warmed.alike) hp hb k1 k2 k3 T' rfl X'
    exact ⟨t2, st t2 a1, b1⟩
  · obtain ⟨k1, k2, k3⟩ := vx_keep h0 e1 hS hAX hf hL hF
    obtain ⟨t2, a1, b1⟩ := kx E ce q u t T'.heap (locs ++ L) e1.symm (by rw [← e2]; exact X'.warmed.alike) hp hb k1 k2 k3 (by rw [e1]; exact hce) hcv hcl T' rfl X'
    exact ⟨t2, st.trans a1, b1⟩
theorem vx_callFf {S SX : Type} {post : UInt32 → S → Prop} {px : SX → Prop} {B : S → State → Prop} {BX : String → SX → State → Prop} {AX : Nat → Prop} (hr : vx_Run5 p l e R s m args below meth c H locs cells slots mc ms (F0 m pc ls st0) rest (va_Qf post B A1 a) (vx_X px BX AX) free) (hS : va_S A0 H0 H locs) (hA : ∀ q, q < H.size → A1 q → A0 q) (hf : ∀ q, free q → A0 q) (hAX : ∀ q, q < H.size → AX q → A0 q)
    (kx : ∀ (E : String) (ce : Cell) (q9 : Addr) (u : SX) (t : State) (H1 : Heap) (locs1 : List Loc), t.heap = H1 → s.vm.Alike t.vm → px u → BX E u t → H.size ≤ H1.size → (∀ q : Nat, q < H.size → ¬ AX q → H1[q]? = H[q]?) → va_S A0 H0 H1 locs1 → H1[q9]? = some ce → ce.vm = .none → s.vm.findClass E = some ce.cls → vx_W p l e R s m args below meth c H1 locs1 (cells + mc) (slots + ms) Q (F0 m pc ls rest) q9)
    (kk : ∀ (r : UInt32) (u : S) (t : State) (H1 : Heap) (locs1 : List Loc), t.heap = H1 → s.vm.Alike t.vm → post r u → B u t → H.size ≤ H1.size → (∀ q : Nat, q < H.size → ¬ A1 q → H1[q]? = H[q]?) → va_S A0 H0 H1 locs1 → W p l e R s m args below meth c H1 locs1 (cells + mc) (slots + ms) Q (F0 m (pc + 5) ls (.float r :: rest))) : W p l e R s m args below meth c H locs cells slots Q (F0 m pc ls st0) := by
  intro T hT X
  rcases hr T hT X with ⟨v, st₀, t, T', L, h0, X', hL, e1, e2, ⟨⟨r, u, hv, hp, hb⟩, hF⟩, st⟩ | ⟨q, st₀, t, T', L, E, ce, h0, X', hL, e1, e2, ⟨u, hp, hb, hF⟩, hce, hcv, hcl, st⟩
  · cases hv
    obtain ⟨k1, k2, k3⟩ := vx_keep h0 e1 hS hA hf hL hF
    obtain ⟨t2, a1, b1⟩ := kk r u t T'.heap (locs ++ L) e1.symm (by rw [← e2]; exact X'.warmed.alike) hp hb k1 k2 k3 T' rfl X'
    exact ⟨t2, st t2 a1, b1⟩
  · obtain ⟨k1, k2, k3⟩ := vx_keep h0 e1 hS hAX hf hL hF
    obtain ⟨t2, a1, b1⟩ := kx E ce q u t T'.heap (locs ++ L) e1.symm (by rw [← e2]; exact X'.warmed.alike) hp hb k1 k2 k3 (by rw [e1]; exact hce) hcv hcl T' rfl X'
    exact ⟨t2, st.trans a1, b1⟩
theorem vx_callFd {S SX : Type} {post : UInt64 → S → Prop} {px : SX → Prop} {B : S → State → Prop} {BX : String → SX → State → Prop} {AX : Nat → Prop} (hr : vx_Run5 p l e R s m args below meth c H locs cells slots mc ms (F0 m pc ls st0) rest (va_Qd post B A1 a) (vx_X px BX AX) free) (hS : va_S A0 H0 H locs) (hA : ∀ q, q < H.size → A1 q → A0 q) (hf : ∀ q, free q → A0 q) (hAX : ∀ q, q < H.size → AX q → A0 q)
    (kx : ∀ (E : String) (ce : Cell) (q9 : Addr) (u : SX) (t : State) (H1 : Heap) (locs1 : List Loc), t.heap = H1 → s.vm.Alike t.vm → px u → BX E u t → H.size ≤ H1.size → (∀ q : Nat, q < H.size → ¬ AX q → H1[q]? = H[q]?) → va_S A0 H0 H1 locs1 → H1[q9]? = some ce → ce.vm = .none → s.vm.findClass E = some ce.cls → vx_W p l e R s m args below meth c H1 locs1 (cells + mc) (slots + ms) Q (F0 m pc ls rest) q9)
    (kk : ∀ (r : UInt64) (u : S) (t : State) (H1 : Heap) (locs1 : List Loc), t.heap = H1 → s.vm.Alike t.vm → post r u → B u t → H.size ≤ H1.size → (∀ q : Nat, q < H.size → ¬ A1 q → H1[q]? = H[q]?) → va_S A0 H0 H1 locs1 → W p l e R s m args below meth c H1 locs1 (cells + mc) (slots + ms) Q (F0 m (pc + 5) ls (.double r :: rest))) : W p l e R s m args below meth c H locs cells slots Q (F0 m pc ls st0) := by
  intro T hT X
  rcases hr T hT X with ⟨v, st₀, t, T', L, h0, X', hL, e1, e2, ⟨⟨r, u, hv, hp, hb⟩, hF⟩, st⟩ | ⟨q, st₀, t, T', L, E, ce, h0, X', hL, e1, e2, ⟨u, hp, hb, hF⟩, hce, hcv, hcl, st⟩
  · cases hv
    obtain ⟨k1, k2, k3⟩ := vx_keep h0 e1 hS hA hf hL hF
    obtain ⟨t2, a1, b1⟩ := kk r u t T'.heap (locs ++ L) e1.symm (by rw [← e2]; exact X'.warmed.alike) hp hb k1 k2 k3 T' rfl X'
    exact ⟨t2, st t2 a1, b1⟩
  · obtain ⟨k1, k2, k3⟩ := vx_keep h0 e1 hS hAX hf hL hF
    obtain ⟨t2, a1, b1⟩ := kx E ce q u t T'.heap (locs ++ L) e1.symm (by rw [← e2]; exact X'.warmed.alike) hp hb k1 k2 k3 (by rw [e1]; exact hce) hcv hcl T' rfl X'
    exact ⟨t2, st.trans a1, b1⟩
end
/-! ===== END ===== -/
end
section
/-! texts, the iterator by its face, the chain of exceptions: words that are not among the good ones -/
def mj_XS (s : State) : Prop := (∃ a, vk_R RX5 326 "out of its bounds" a s) ∧ (∃ a, vk_R RX5 329 "no such lift" a s) ∧ (∃ a, vk_R RX5 331 "no such run" a s) ∧ va_Fw "java/util/ArrayList$Itr" ⟨"java/util/Iterator", "hasNext", "()Z"⟩ yJx35411_hasNext_aae02 s ∧ va_Nw (.declares ⟨"java/lang/RuntimeException", "<init>", "(Ljava/lang/String;)V"⟩) s ∧ va_Nw (.declares ⟨"java/lang/Exception", "<init>", "(Ljava/lang/String;)V"⟩) s ∧ va_Nw (.declares ⟨"java/lang/Throwable", "<init>", "(Ljava/lang/String;)V"⟩) s
theorem mj_XS.warm {s U : State} (hW : s.WarmedH U.vm) (h : mj_XS s) : mj_XS U := by
  obtain ⟨h0, h1, h2, h3, h4, h5, h6⟩ := h
  exact ⟨h0.imp fun _ z => vk_R.warm hW z, h1.imp fun _ z => vk_R.warm hW z, h2.imp fun _ z => vk_R.warm hW z, va_Fw.moved (by decide) hW.alike h3, va_Nw.warmD hW h4, va_Nw.warmD hW h5, va_Nw.warmD hW h6⟩
end
section
def mj_XW (s : State) : Prop := va_Nw (.methodLinkNest RX1 17 yX0_init "Pistekeeper") s ∧ va_Nw (.methodLinkNest RX5 24 yX4_init "Pistekeeper") s ∧ va_Nw (.methodLinkNest RX1 82 yX5_oneIf "Pistekeeper") s ∧ va_Nw (.methodLinkNest RX7 11 yX6_init "PistekeeperModel") s ∧ va_Nw (.methodLinkNest RX6 93 yX7_isTop "PistekeeperModel") s ∧ va_Nw (.methodLinkNest RX6 97 yX7_deepen "PistekeeperModel") s ∧ va_Nw (.methodLinkNest RX6 100 yX7_add "PistekeeperModel") s ∧ va_Nw (.methodLinkNest RX6 152 yX7_take "PistekeeperModel") s ∧ va_Nw (.methodLinkNest RX6 82 yX7_is "PistekeeperModel") s ∧ va_Nw (.methodLinkNest RX6 110 yX7_top "PistekeeperModel") s ∧ va_Nw (.methodLinkNest RX6 113 yX7_set "PistekeeperModel") s ∧ va_Nw (.methodLinkNest RX6 116 yX7_at "PistekeeperModel") s ∧ va_Nw (.methodLinkNest RX6 120 yX7_put "PistekeeperModel") s ∧ va_Nw (.methodLinkNest RX6 133 yX7_risk "PistekeeperModel") s ∧ va_Nw (.methodLinkNest RX6 58 yX7_size "PistekeeperModel") s ∧ va_Nw (.methodLinkNest RX6 62 yX7_shear "PistekeeperModel") s ∧ va_Nw (.methodLinkNest RX6 65 yX7_drop "PistekeeperModel") s ∧ va_Nw (.fieldLinkNest RJx35411 28 "java/util/ArrayList" "size" "I" "java/util/ArrayList") s ∧ va_Nw (.fieldLinkNest RX7 68 "PistekeeperModel$Mountain" "lifts" "Ljava/util/ArrayList;" "PistekeeperModel") s ∧ va_Nw (.fieldLinkNest RX7 82 "PistekeeperModel$Mountain" "runs" "Ljava/util/ArrayList;" "PistekeeperModel") s ∧ va_Nw (.fieldLinkNest RX7 125 "PistekeeperModel$Mountain" "now" "I" "PistekeeperModel") s ∧ va_Nw (.fieldLinkNest RX7 113 "PistekeeperModel$Mountain" "water" "I" "PistekeeperModel") s ∧ va_Nw (.fieldLinkNest RX7 116 "PistekeeperModel$Mountain" "skiers" "I" "PistekeeperModel") s ∧ va_Nw (.fieldLinkNest RX7 189 "PistekeeperModel$Mountain" "slides" "I" "PistekeeperModel") s ∧ va_Nw (.fieldLinkNest RX7 192 "PistekeeperModel$Mountain" "reached" "I" "PistekeeperModel") s ∧ va_Nw (.fieldLinkNest RX7 195 "PistekeeperModel$Mountain" "accidents" "I" "PistekeeperModel") s ∧ va_Nw (.fieldLinkNest RX7 198 "PistekeeperModel$Mountain" "calls" "I" "PistekeeperModel") s ∧ va_Nw (.fieldLinkNest RX7 201 "PistekeeperModel$Mountain" "waited" "I" "PistekeeperModel") s ∧ va_Nw (.fieldLinkNest RX7 211 "PistekeeperModel$Mountain" "watched" "I" "PistekeeperModel") s ∧ va_Nw (.fieldLinkNest RX7 214 "PistekeeperModel$Mountain" "greatest" "I" "PistekeeperModel") s ∧ va_AO RX0 s ∧ va_AO RX2 s ∧ va_AO "java/lang/Object" s ∧ va_Nw (.castable "java/lang/IllegalArgumentException" "java/lang/IllegalArgumentException") s ∧ va_Nw (.castable "java/lang/IndexOutOfBoundsException" "java/lang/IndexOutOfBoundsException") s ∧ va_Nw (.castable "java/lang/IllegalStateException" "java/lang/IllegalStateException") s ∧ mj_XS s
theorem mj_XW.warm {s U : State} (hW : s.WarmedH U.vm) (h : mj_XW s) : mj_XW U := by
  obtain ⟨h0, h1, h2, h3, h4, h5, h6, h7, h8, h9, h10, h11, h12, h13, h14, h15, h16, h17, h18, h19, h20, h21, h22, h23, h24, h25, h26, h27, h28, h29, h30, h31, h32, h33, h34, h35, hS⟩ := h
  exact ⟨va_Nw.warmM hW h0, va_Nw.warmM hW h1, va_Nw.warmM hW h2, va_Nw.warmM hW h3, va_Nw.warmM hW h4, va_Nw.warmM hW h5, va_Nw.warmM hW h6, va_Nw.warmM hW h7, va_Nw.warmM hW h8, va_Nw.warmM hW h9, va_Nw.warmM hW h10, va_Nw.warmM hW h11, va_Nw.warmM hW h12, va_Nw.warmM hW h13, va_Nw.warmM hW h14, va_Nw.warmM hW h15, va_Nw.warmM hW h16, va_Nw.warmF hW h17, va_Nw.warmF hW h18, va_Nw.warmF hW h19, va_Nw.warmF hW h20, va_Nw.warmF hW h21, va_Nw.warmF hW h22, va_Nw.warmF hW h23, va_Nw.warmF hW h24, va_Nw.warmF hW h25, va_Nw.warmF hW h26, va_Nw.warmF hW h27, va_Nw.warmF hW h28, va_Nw.warmF hW h29, va_AO.moved hW.alike h30, va_AO.moved hW.alike h31, va_AO.moved hW.alike h32, va_Nw.warmC hW h33, va_Nw.warmC hW h34, va_Nw.warmC hW h35, mj_XS.warm hW hS⟩
theorem mj_XW.of {A : Array Value} {s : State} (h : ∀ w ∈ lw_tbl, w.before A s = true) (hS : mj_XS s) : mj_XW s := ⟨va_Nw.of rfl (h _ (List.mem_append_right _ (List.mem_of_getElem? (i := 42) (by decide +kernel)))), va_Nw.of rfl (h _ (List.mem_append_right _ (List.mem_of_getElem? (i := 264) (by decide +kernel)))), va_Nw.of rfl (h _ (List.mem_append_right _ (List.mem_of_getElem? (i := 471) (by decide +kernel)))), va_Nw.of rfl (h _ (List.mem_append_right _ (List.mem_of_getElem? (i := 841) (by decide +kernel)))), va_Nw.of rfl (h _ (List.mem_append_right _ (List.mem_of_getElem? (i := 1091) (by decide +kernel)))), va_Nw.of rfl (h _ (List.mem_append_right _ (List.mem_of_getElem? (i := 1100) (by decide +kernel)))), va_Nw.of rfl (h _ (List.mem_append_right _ (List.mem_of_getElem? (i := 1106) (by decide +kernel)))), va_Nw.of rfl (h _ (List.mem_append_right _ (List.mem_of_getElem? (i := 1117) (by decide +kernel)))), va_Nw.of rfl (h _ (List.mem_append_right _ (List.mem_of_getElem? (i := 1127) (by decide +kernel)))), va_Nw.of rfl (h _ (List.mem_append_right _ (List.mem_of_getElem? (i := 1128) (by decide +kernel)))), va_Nw.of rfl (h _ (List.mem_append_right _ (List.mem_of_getElem? (i := 1129) (by decide +kernel)))), va_Nw.of rfl (h _ (List.mem_append_right _ (List.mem_of_getElem? (i := 1130) (by decide +kernel)))), va_Nw.of rfl (h _ (List.mem_append_right _ (List.mem_of_getElem? (i := 1131) (by decide +kernel)))), va_Nw.of rfl (h _ (List.mem_append_right _ (List.mem_of_getElem? (i := 1137) (by decide +kernel)))), va_Nw.of rfl (h _ (List.mem_append_right _ (List.mem_of_getElem? (i := 1154) (by decide +kernel)))), va_Nw.of rfl (h _ (List.mem_append_right _ (List.mem_of_getElem? (i := 1157) (by decide +kernel)))), va_Nw.of rfl (h _ (List.mem_append_right _ (List.mem_of_getElem? (i := 1158) (by decide +kernel)))), va_Nw.of rfl (h _ (List.mem_append_right _ (List.mem_of_getElem? (i := 861) (by decide +kernel)))), va_Nw.of rfl (h _ (List.mem_append_right _ (List.mem_of_getElem? (i := 875) (by decide +kernel)))), va_Nw.of rfl (h _ (List.mem_append_right _ (List.mem_of_getElem? (i := 877) (by decide +kernel)))), va_Nw.of rfl (h _ (List.mem_append_right _ (List.mem_of_getElem? (i := 879) (by decide +kernel)))), va_Nw.of rfl (h _ (List.mem_append_right _ (List.mem_of_getElem? (i := 881) (by decide +kernel)))), va_Nw.of rfl (h _ (List.mem_append_right _ (List.mem_of_getElem? (i := 883) (by decide +kernel)))), va_Nw.of rfl (h _ (List.mem_append_right _ (List.mem_of_getElem? (i := 885) (by decide +kernel)))), va_Nw.of rfl (h _ (List.mem_append_right _ (List.mem_of_getElem? (i := 887) (by decide +kernel)))), va_Nw.of rfl (h _ (List.mem_append_right _ (List.mem_of_getElem? (i := 889) (by decide +kernel)))), va_Nw.of rfl (h _ (List.mem_append_right _ (List.mem_of_getElem? (i := 891) (by decide +kernel)))), va_Nw.of rfl (h _ (List.mem_append_right _ (List.mem_of_getElem? (i := 893) (by decide +kernel)))), va_Nw.of rfl (h _ (List.mem_append_right _ (List.mem_of_getElem? (i := 895) (by decide +kernel)))), va_Nw.of rfl (h _ (List.mem_append_right _ (List.mem_of_getElem? (i := 897) (by decide +kernel)))), va_AO.of (h _ (List.mem_append_right _ (List.mem_of_getElem? (i := 40) (by decide +kernel)))), va_AO.of (h _ (List.mem_append_right _ (List.mem_of_getElem? (i := 72) (by decide +kernel)))), va_AO.of (h _ (List.mem_append_right _ (List.mem_of_getElem? (i := 1012) (by decide +kernel)))), va_Nw.of rfl (h _ (List.mem_append_right _ (List.mem_of_getElem? (i := 401) (by decide +kernel)))), va_Nw.of rfl (h _ (List.mem_append_right _ (List.mem_of_getElem? (i := 484) (by decide +kernel)))), va_Nw.of rfl (h _ (List.mem_append_right _ (List.mem_of_getElem? (i := 669) (by decide +kernel)))), hS⟩
/-! parts -/
theorem mj_XW.str_within {s : State} (h : mj_XW s) : ∃ a, vk_R RX5 326 "out of its bounds" a s := h.2.2.2.2.2.2.2.2.2.2.2.2.2.2.2.2.2.2.2.2.2.2.2.2.2.2.2.2.2.2.2.2.2.2.2.2.1
theorem mj_XW.str_lift {s : State} (h : mj_XW s) : ∃ a, vk_R RX5 329 "no such lift" a s := h.2.2.2.2.2.2.2.2.2.2.2.2.2.2.2.2.2.2.2.2.2.2.2.2.2.2.2.2.2.2.2.2.2.2.2.2.2.1
theorem mj_XW.str_run {s : State} (h : mj_XW s) : ∃ a, vk_R RX5 331 "no such run" a s := h.2.2.2.2.2.2.2.2.2.2.2.2.2.2.2.2.2.2.2.2.2.2.2.2.2.2.2.2.2.2.2.2.2.2.2.2.2.2.1
theorem mj_XW.face {s : State} (h : mj_XW s) : va_Fw "java/util/ArrayList$Itr" ⟨"java/util/Iterator", "hasNext", "()Z"⟩ yJx35411_hasNext_aae02 s := h.2.2.2.2.2.2.2.2.2.2.2.2.2.2.2.2.2.2.2.2.2.2.2.2.2.2.2.2.2.2.2.2.2.2.2.2.2.2.2.1
theorem mj_XW.dec0 {s : State} (h : mj_XW s) : va_Nw (.declares ⟨"java/lang/RuntimeException", "<init>", "(Ljava/lang/String;)V"⟩) s := h.2.2.2.2.2.2.2.2.2.2.2.2.2.2.2.2.2.2.2.2.2.2.2.2.2.2.2.2.2.2.2.2.2.2.2.2.2.2.2.2.1
theorem mj_XW.dec1 {s : State} (h : mj_XW s) : va_Nw (.declares ⟨"java/lang/Exception", "<init>", "(Ljava/lang/String;)V"⟩) s := h.2.2.2.2.2.2.2.2.2.2.2.2.2.2.2.2.2.2.2.2.2.2.2.2.2.2.2.2.2.2.2.2.2.2.2.2.2.2.2.2.2.1
theorem mj_XW.dec2 {s : State} (h : mj_XW s) : va_Nw (.declares ⟨"java/lang/Throwable", "<init>", "(Ljava/lang/String;)V"⟩) s := h.2.2.2.2.2.2.2.2.2.2.2.2.2.2.2.2.2.2.2.2.2.2.2.2.2.2.2.2.2.2.2.2.2.2.2.2.2.2.2.2.2.2
theorem mj_XW.cast0 {s : State} (h : mj_XW s) : va_Nw (.castable "java/lang/IllegalArgumentException" "java/lang/IllegalArgumentException") s := h.2.2.2.2.2.2.2.2.2.2.2.2.2.2.2.2.2.2.2.2.2.2.2.2.2.2.2.2.2.2.2.2.2.1
theorem mj_XW.cast1 {s : State} (h : mj_XW s) : va_Nw (.castable "java/lang/IndexOutOfBoundsException" "java/lang/IndexOutOfBoundsException") s := h.2.2.2.2.2.2.2.2.2.2.2.2.2.2.2.2.2.2.2.2.2.2.2.2.2.2.2.2.2.2.2.2.2.2.1
theorem mj_XW.cast2 {s : State} (h : mj_XW s) : va_Nw (.castable "java/lang/IllegalStateException" "java/lang/IllegalStateException") s := h.2.2.2.2.2.2.2.2.2.2.2.2.2.2.2.2.2.2.2.2.2.2.2.2.2.2.2.2.2.2.2.2.2.2.2.1
theorem mj_XW.nm_X1_17 {s : State} (h : mj_XW s) : va_Nw (.methodLinkNest RX1 17 yX0_init "Pistekeeper") s := h.1
theorem mj_XW.nm_X5_24 {s : State} (h : mj_XW s) : va_Nw (.methodLinkNest RX5 24 yX4_init "Pistekeeper") s := h.2.1
theorem mj_XW.nm_X1_82 {s : State} (h : mj_XW s) : va_Nw (.methodLinkNest RX1 82 yX5_oneIf "Pistekeeper") s := h.2.2.1
theorem mj_XW.nm_X7_11 {s : State} (h : mj_XW s) : va_Nw (.methodLinkNest RX7 11 yX6_init "PistekeeperModel") s := h.2.2.2.1
theorem mj_XW.nm_X6_93 {s : State} (h : mj_XW s) : va_Nw (.methodLinkNest RX6 93 yX7_isTop "PistekeeperModel") s := h.2.2.2.2.1
theorem mj_XW.nm_X6_97 {s : State} (h : mj_XW s) : va_Nw (.methodLinkNest RX6 97 yX7_deepen "PistekeeperModel") s := h.2.2.2.2.2.1
theorem mj_XW.nm_X6_100 {s : State} (h : mj_XW s) : va_Nw (.methodLinkNest RX6 100 yX7_add "PistekeeperModel") s := h.2.2.2.2.2.2.1
theorem mj_XW.nm_X6_152 {s : State} (h : mj_XW s) : va_Nw (.methodLinkNest RX6 152 yX7_take "PistekeeperModel") s := h.2.2.2.2.2.2.2.1
theorem mj_XW.nm_X6_82 {s : State} (h : mj_XW s) : va_Nw (.methodLinkNest RX6 82 yX7_is "PistekeeperModel") s := h.2.2.2.2.2.2.2.2.1
theorem mj_XW.nm_X6_110 {s : State} (h : mj_XW s) : va_Nw (.methodLinkNest RX6 110 yX7_top "PistekeeperModel") s := h.2.2.2.2.2.2.2.2.2.1
theorem mj_XW.nm_X6_113 {s : State} (h : mj_XW s) : va_Nw (.methodLinkNest RX6 113 yX7_set "PistekeeperModel") s := h.2.2.2.2.2.2.2.2.2.2.1
theorem mj_XW.nm_X6_116 {s : State} (h : mj_XW s) : va_Nw (.methodLinkNest RX6 116 yX7_at "PistekeeperModel") s := h.2.2.2.2.2.2.2.2.2.2.2.1
theorem mj_XW.nm_X6_120 {s : State} (h : mj_XW s) : va_Nw (.methodLinkNest RX6 120 yX7_put "PistekeeperModel") s := h.2.2.2.2.2.2.2.2.2.2.2.2.1
theorem mj_XW.nm_X6_133 {s : State} (h : mj_XW s) : va_Nw (.methodLinkNest RX6 133 yX7_risk "PistekeeperModel") s := h.2.2.2.2.2.2.2.2.2.2.2.2.2.1
theorem mj_XW.nm_X6_58 {s : State} (h : mj_XW s) : va_Nw (.methodLinkNest RX6 58 yX7_size "PistekeeperModel") s := h.2.2.2.2.2.2.2.2.2.2.2.2.2.2.1
theorem mj_XW.nm_X6_62 {s : State} (h : mj_XW s) : va_Nw (.methodLinkNest RX6 62 yX7_shear "PistekeeperModel") s := h.2.2.2.2.2.2.2.2.2.2.2.2.2.2.2.1
theorem mj_XW.nm_X6_65 {s : State} (h : mj_XW s) : va_Nw (.methodLinkNest RX6 65 yX7_drop "PistekeeperModel") s := h.2.2.2.2.2.2.2.2.2.2.2.2.2.2.2.2.1
theorem mj_XW.nf_Jx35411_28 {s : State} (h : mj_XW s) : va_Nw (.fieldLinkNest RJx35411 28 "java/util/ArrayList" "size" "I" "java/util/ArrayList") s := h.2.2.2.2.2.2.2.2.2.2.2.2.2.2.2.2.2.1
theorem mj_XW.nf_X7_68 {s : State} (h : mj_XW s) : va_Nw (.fieldLinkNest RX7 68 "PistekeeperModel$Mountain" "lifts" "Ljava/util/ArrayList;" "PistekeeperModel") s := h.2.2.2.2.2.2.2.2.2.2.2.2.2.2.2.2.2.2.1
theorem mj_XW.nf_X7_82 {s : State} (h : mj_XW s) : va_Nw (.fieldLinkNest RX7 82 "PistekeeperModel$Mountain" "runs" "Ljava/util/ArrayList;" "PistekeeperModel") s := h.2.2.2.2.2.2.2.2.2.2.2.2.2.2.2.2.2.2.2.1
theorem mj_XW.nf_X7_125 {s : State} (h : mj_XW s) : va_Nw (.fieldLinkNest RX7 125 "PistekeeperModel$Mountain" "now" "I" "PistekeeperModel") s := h.2.2.2.2.2.2.2.2.2.2.2.2.2.2.2.2.2.2.2.2.1
theorem mj_XW.nf_X7_113 {s : State} (h : mj_XW s) : va_Nw (.fieldLinkNest RX7 113 "PistekeeperModel$Mountain" "water" "I" "PistekeeperModel") s := h.2.2.2.2.2.2.2.2.2.2.2.2.2.2.2.2.2.2.2.2.2.1
theorem mj_XW.nf_X7_116 {s : State} (h : mj_XW s) : va_Nw (.fieldLinkNest RX7 116 "PistekeeperModel$Mountain" "skiers" "I" "PistekeeperModel") s := h.2.2.2.2.2.2.2.2.2.2.2.2.2.2.2.2.2.2.2.2.2.2.1
theorem mj_XW.nf_X7_189 {s : State} (h : mj_XW s) : va_Nw (.fieldLinkNest RX7 189 "PistekeeperModel$Mountain" "slides" "I" "PistekeeperModel") s := h.2.2.2.2.2.2.2.2.2.2.2.2.2.2.2.2.2.2.2.2.2.2.2.1
theorem mj_XW.nf_X7_192 {s : State} (h : mj_XW s) : va_Nw (.fieldLinkNest RX7 192 "PistekeeperModel$Mountain" "reached" "I" "PistekeeperModel") s := h.2.2.2.2.2.2.2.2.2.2.2.2.2.2.2.2.2.2.2.2.2.2.2.2.1
theorem mj_XW.nf_X7_195 {s : State} (h : mj_XW s) : va_Nw (.fieldLinkNest RX7 195 "PistekeeperModel$Mountain" "accidents" "I" "PistekeeperModel") s := h.2.2.2.2.2.2.2.2.2.2.2.2.2.2.2.2.2.2.2.2.2.2.2.2.2.1
theorem mj_XW.nf_X7_198 {s : State} (h : mj_XW s) : va_Nw (.fieldLinkNest RX7 198 "PistekeeperModel$Mountain" "calls" "I" "PistekeeperModel") s := h.2.2.2.2.2.2.2.2.2.2.2.2.2.2.2.2.2.2.2.2.2.2.2.2.2.2.1
theorem mj_XW.nf_X7_201 {s : State} (h : mj_XW s) : va_Nw (.fieldLinkNest RX7 201 "PistekeeperModel$Mountain" "waited" "I" "PistekeeperModel") s := h.2.2.2.2.2.2.2.2.2.2.2.2.2.2.2.2.2.2.2.2.2.2.2.2.2.2.2.1
theorem mj_XW.nf_X7_211 {s : State} (h : mj_XW s) : va_Nw (.fieldLinkNest RX7 211 "PistekeeperModel$Mountain" "watched" "I" "PistekeeperModel") s := h.2.2.2.2.2.2.2.2.2.2.2.2.2.2.2.2.2.2.2.2.2.2.2.2.2.2.2.2.1
theorem mj_XW.nf_X7_214 {s : State} (h : mj_XW s) : va_Nw (.fieldLinkNest RX7 214 "PistekeeperModel$Mountain" "greatest" "I" "PistekeeperModel") s := h.2.2.2.2.2.2.2.2.2.2.2.2.2.2.2.2.2.2.2.2.2.2.2.2.2.2.2.2.2.1
theorem mj_XW.ao30 {s : State} (h : mj_XW s) : va_AO RX0 s := h.2.2.2.2.2.2.2.2.2.2.2.2.2.2.2.2.2.2.2.2.2.2.2.2.2.2.2.2.2.2.1
theorem mj_XW.ao31 {s : State} (h : mj_XW s) : va_AO RX2 s := h.2.2.2.2.2.2.2.2.2.2.2.2.2.2.2.2.2.2.2.2.2.2.2.2.2.2.2.2.2.2.2.1
theorem mj_XW.ao32 {s : State} (h : mj_XW s) : va_AO "java/lang/Object" s := h.2.2.2.2.2.2.2.2.2.2.2.2.2.2.2.2.2.2.2.2.2.2.2.2.2.2.2.2.2.2.2.2.1
end
section
/-! THE MINI MACHINE, with throws, longs and lists: cells by number (0: the script; each new cell the next number), ints and references in two functions of cell and place, a long as two ints at k and k + 64; locals as a list by place (null: nothing known); mj_W is the walk over it, for every real machine that holds it; mj_C a method's contract: what it returns, and what it throws (classes by number). e0: where ArrayList's shared empty row lies. -/
abbrev mj_K : Type := Nat × Nat × Nat
abbrev mj_H : Type := Nat × (Nat → mj_K) × (Nat → Nat → Int32) × (Nat → Nat → Option Nat)
def mj_t (as : List Nat) (v : Value) : Value := match v with
  | .ref k => .ref (as.getD k 0)
  | v => v
def mj_ok (n : Nat) (v : Value) : Prop := match v with
  | .ref k => k < n
  | _ => True
def mj_oks (n : Nat) : List Value → Prop
  | [] => True
  | v :: st => mj_ok n v ∧ mj_oks n st
def mj_up {α : Type} (f : Nat → Nat → α) (a k : Nat) (v : α) : Nat → Nat → α := fun b j => if b = a ∧ j = k then v else f b j
def mj_row {α : Type} (f : Nat → α) (a : Nat) (v : α) : Nat → α := fun b => if b = a then v else f b
/-- a long out of two ints, and back -/
def mj_lg (a b : Int32) : Int64 := Int64.ofInt (a.toInt * 4294967296 + b.toInt % 4294967296)
def mj_lh (x : Int64) : Int32 := Int32.ofInt (x.toInt / 4294967296)
def mj_ll (x : Int64) : Int32 := Int32.ofInt (x.toInt % 4294967296)
def mj_fv (as : List Nat) (ci : Nat) (f : Nat → Int32) (g : Nat → Option Nat) (k : Nat) : Value :=
  if mT_R ci k = 1 then va_rf ((g k).map fun b => as.getD b 0) else if mT_R ci k = 2 then .long (mj_lg (f k) (f (k + 64))) else .int (f k)
def mj_fs (as : List Nat) (ci : Nat) (f : Nat → Int32) (g : Nat → Option Nat) : List Value :=
  (List.range (mT_N ci)).map fun k => mj_fv as ci f g k
def mj_cell (tys : List (ClassId × FieldType)) (e0 : Nat) (as : List Nat) (K : mj_K) (f : Nat → Int32) (g : Nat → Option Nat) (e : va_E) : Prop :=
  (K.1 = 0 ∧ ∃ (cA : ClassId) (t0 : Nat), tys[t0]? = some (cA, .int) ∧ e = .inl (cA, K.2.1, .inl f)) ∨
  (K.1 = 1 ∧ ∃ (cA : ClassId) (t0 : Nat), tys[t0]? = some (cA, .object (mT_C K.2.2)) ∧ e = .inl (cA, K.2.1, .inr (.inr (.inr (.inr fun j => (g j).map fun b => as.getD b 0))))) ∨
  (K.1 = 2 ∧ K.2.1 < 10 ∧ e = .inr (K.2.1, mj_fs as K.2.1 f g)) ∨
  (K.1 = 4 ∧ ∃ (cA : ClassId) (t0 : Nat) (F : Nat → Int64), tys[t0]? = some (cA, .long) ∧ e = .inl (cA, K.2.1, .inr (.inl F)) ∧ ∀ j, j < K.2.1 → F j = mj_lg (f j) (f (j + 64))) ∨
  (K.1 = 5 ∧ ∃ e1 : Nat, e = .inr (1, [.int (f 0), .ref e1, .int (f 2)]) ∧ (f 2 = 0 → e1 = e0))
def mj_Hp (D : va_G) (b e0 : Nat) (as : List Nat) (h : mj_H) (A : Nat → Prop) (s : State) (H : Heap) : Prop := ∃ (ws : va_W) (tys : List (ClassId × FieldType)),
  as = b :: ws.map (·.1) ∧ h.1 = ws.length + 1 ∧ (∀ k j c, h.2.2.2 k j = some c → c < h.1) ∧
  (∀ k q, ws[k]? = some q → mj_cell tys e0 as (h.2.1 (k + 1)) (h.2.2.1 (k + 1)) (h.2.2.2 (k + 1)) q.2) ∧
  va_K D vwCl tys s ∧ va_P D vwCl ws H ∧ va_D A ws ∧ (h.2.1 0).1 = 3 ∧ va_X b (h.2.1 0).2.1 (h.2.2.1 0) s H
/-- the statics that a throw and a new list read -/
def mj_S0 (e0 : Nat) (A : Nat → Prop) (s : State) : Prop :=
  vx_Zq Bundle.tN "UNASSIGNED_STACK" Bundle.steD A s s.heap ∧ vx_Zq Bundle.tN "SUPPRESSED_SENTINEL" Bundle.listD A s s.heap ∧
  va_Z "java/util/ArrayList" "DEFAULTCAPACITY_EMPTY_ELEMENTDATA" "[Ljava/lang/Object;" (.ref e0) A s s.heap ∧ ¬ A e0 ∧ ∃ scr : Cell, s.heap[e0]? = some scr ∧ (∃ ty, s.isArrayOf scr ty) ∧ scr.slots.size = 0
def mj_al (as : List Nat) : Nat → List Value → List (Nat × Value)
  | _, [] => []
  | i, v :: r => match v with
    | .null => mj_al as (i + 1) r
    | v => (i, mj_t as v) :: mj_al as (i + 1) r
abbrev mj_M : Type := MethodName × ByteArray × Nat × Option FieldType × String × Bool × List (Nat × Nat × Nat × Nat)
def mj_X (M : mj_M) (d b e0 B0 MC MS : Nat) (p : Program) (l : Launch) (R : Room) (s : State) (m : MethodId) (args : Array Value) (meth : Method) (c : Code) : Prop :=
  p.tables.exec = Jvm.exec ∧ c.code = M.2.1 ∧ c.maxLocals = M.2.2.1 ∧ s.vm.findClass M.2.2.2.2.1 = some m.cls ∧ (∀ w ∈ mj_TW, w.before args s = true) ∧ mj_XW s ∧
  meth.sig.returnType = M.2.2.2.1 ∧ meth.locks = false ∧ (M.2.2.2.2.2.1 = true → meth.name = "<init>") ∧ d ≤ R.frames ∧ 40 * d ≤ R.locals ∧ MC ≤ R.cells ∧ MS ≤ R.slots ∧ b < B0 ∧
  B0 ≤ s.heap.size ∧ mj_S0 e0 (fun q => B0 ≤ q) s ∧ l.stackTraces = false ∧ c.exceptionTable.toList.map (fun h => (h.startPc, h.endPc, h.handlerPc, h.catchType)) = M.2.2.2.2.2.2
def mj_St (M : mj_M) (mc ms : Nat) (D : va_G) (b e0 B0 MC MS : Nat) (as0 as : List Nat) (s : State) (H : Heap) (locs : List Loc) (ls : Array Slot) (cells slots : Nat) (lv st : List Value) (h : mj_H) : Prop :=
  mj_Hp D b e0 as h (fun q => B0 ≤ q) s H ∧ va_S (fun q => B0 ≤ q) s.heap H locs ∧ (∃ ex, as = as0 ++ ex) ∧ lv_has ls M.2.2.1 (mj_al as 0 lv) ∧ mj_oks h.1 lv ∧ mj_oks h.1 st ∧ cells + mc ≤ MC ∧ slots + ms ≤ MS
def mj_ri (v : Option Value) : Instr := match v with
  | some (.int _) => .ireturn
  | some (.long _) => .lreturn
  | some (.double _) => .dreturn
  | some (.ref _) => .areturn
  | _ => .return_
def mj_rv (M : mj_M) (v : Option Value) : Prop := match v with
  | none => M.2.2.2.1 = none
  | some (.int x) => ∃ ty, M.2.2.2.1 = some ty ∧ narrow ty (.int x) = .int x
  | some (.long _) => M.2.2.2.1 = some .long
  | some (.double _) => M.2.2.2.1 = some .double
  | some (.ref _) => ∃ rt, M.2.2.2.1 = some rt ∧ ((∃ n, rt = .object n) ∨ ∃ t, rt = .array t)
  | _ => False
/-- what is returned, what is thrown (a class by its number) -/
abbrev mj_Q : Type := (Option Value → mj_H → Prop) × (Nat → mj_H → Prop)
def mj_xn (n : Nat) : String := match n with
  | 0 => "java/lang/IllegalArgumentException"
  | 1 => "java/lang/IndexOutOfBoundsException"
  | _ => "java/lang/IllegalStateException"
def mj_XC (D : va_G) (b e0 B0 : Nat) (as : List Nat) (QX : Nat → mj_H → Prop) : String → State → State → Prop := fun E st t =>
  (∃ (n : Nat) (as1 : List Nat) (h1 : mj_H), E = mj_xn n ∧ QX n h1 ∧ (∃ ex, as1 = as ++ ex) ∧ mj_Hp D b e0 as1 h1 (fun q => B0 ≤ q) t t.heap) ∧ va_F (fun q => B0 ≤ q) st t
/-- what the walk comes to at a return, and where it throws -/
def mj_E (M : mj_M) (Q : mj_Q) (p : Program) (l : Launch) (e : Env) (R : Room) (s : State) (m : MethodId) (args : Array Value) (below : List Frame) (meth : Method) (c : Code) (D : va_G) (b e0 B0 MC MS : Nat) (as0 : List Nat) (QQ : State → Prop) : Prop :=
  (∀ (as : List Nat) (H : Heap) (locs : List Loc) (ls : Array Slot) (cells slots pc : Nat) (v : Option Value) (lv : List Value) (h : mj_H), Q.1 v h → mj_rv M v → decode M.2.1 pc = .ok (mj_ri v, 1) →
    mj_St M 0 0 D b e0 B0 MC MS as0 as s H locs ls cells slots lv v.toList h → W p l e R s m args below meth c H locs cells slots QQ (F0 m pc ls (v.toList.map (mj_t as)))) ∧
  ∀ t : State, vx_MQ below (fun _ _ _ _ => False) (mj_XC D b e0 B0 as0 Q.2) args s MC MS (fun q => B0 ≤ q) t → QQ t
def mj_W (M : mj_M) (d mc ms : Nat) (Q : mj_Q) (pc : Nat) (lv st : List Value) (h : mj_H) : Prop :=
  ∀ (p : Program) (l : Launch) (e : Env) (R : Room) (s : State) (m : MethodId) (args : Array Value) (below : List Frame) (meth : Method) (c : Code) (D : va_G) (b e0 B0 MC MS : Nat) (as0 : List Nat) (QQ : State → Prop),
    mj_X M d b e0 B0 MC MS p l R s m args meth c → mj_E M Q p l e R s m args below meth c D b e0 B0 MC MS as0 QQ → ∀ (as : List Nat) (H : Heap) (locs : List Loc) (ls : Array Slot) (cells slots : Nat),
    mj_St M mc ms D b e0 B0 MC MS as0 as s H locs ls cells slots lv st h → W p l e R s m args below meth c H locs cells slots QQ (F0 m pc ls (st.map (mj_t as)))
/-- a throw of class n has come to pc -/
def mj_T (M : mj_M) (d mc ms : Nat) (Q : mj_Q) (pc : Nat) (lv : List Value) (n : Nat) (h : mj_H) : Prop :=
  ∀ (p : Program) (l : Launch) (e : Env) (R : Room) (s : State) (m : MethodId) (args : Array Value) (below : List Frame) (meth : Method) (c : Code) (D : va_G) (b e0 B0 MC MS : Nat) (as0 : List Nat) (QQ : State → Prop),
    mj_X M d b e0 B0 MC MS p l R s m args meth c → mj_E M Q p l e R s m args below meth c D b e0 B0 MC MS as0 QQ → ∀ (as : List Nat) (H : Heap) (locs : List Loc) (ls : Array Slot) (cells slots : Nat) (st : List Value) (q : Nat) (ce : Cell),
    mj_St M mc ms D b e0 B0 MC MS as0 as s H locs ls cells slots lv [] h → H[q]? = some ce → ce.vm = .none → s.vm.findClass (mj_xn n) = some ce.cls → vx_W p l e R s m args below meth c H locs cells slots QQ (F0 m pc ls st) q
def mj_Pc (D : va_G) (b e0 B0 : Nat) (as : List Nat) (args : List Value) (h : mj_H) : Array Value → State → Prop := fun a U =>
  a = (args.map (mj_t as)).toArray ∧ mj_Hp D b e0 as h (fun q => B0 ≤ q) U U.heap ∧ mj_oks h.1 args ∧ mj_XW U ∧ b < B0 ∧ B0 ≤ U.heap.size ∧ mj_S0 e0 (fun q => B0 ≤ q) U
def mj_Qc (D : va_G) (b e0 B0 : Nat) (as : List Nat) (Q : mj_Q) : Array Value → State → Outcome → State → Prop := fun _ st oc t =>
  (∃ (v : Option Value) (as1 : List Nat) (h1 : mj_H), oc = .returned (v.map (mj_t as1)) ∧ Q.1 v h1 ∧ (∃ ex, as1 = as ++ ex) ∧ mj_Hp D b e0 as1 h1 (fun q => B0 ≤ q) t t.heap ∧ mj_oks h1.1 v.toList) ∧ va_F (fun q => B0 ≤ q) st t
abbrev mj_ws (K : mj_M) : List Cond := Cond.code K.1 K.2.1 K.2.2.1 K.2.2.2.1 :: mj_TW
abbrev mj_wsH (K : mj_M) : List Cond := Cond.codeWith K.1 K.2.1 K.2.2.1 K.2.2.2.1 K.2.2.2.2.2.2 :: mj_TW
abbrev mj_rm (d mc ms : Nat) : Room := { frames := d, cells := mc, slots := ms, locals := 40 * d }
def mj_C (K : mj_M) (d mc ms : Nat) (args : List Value) (h : mj_H) (Q : mj_Q) : Prop :=
  ∀ (l : Launch), l.stackTraces = false → ∀ (D : va_G) (b e0 B0 : Nat) (as : List Nat), vx_Met l K.1 (mj_ws K) (mj_rm d mc ms) (mj_Pc D b e0 B0 as args h) (mj_Qc D b e0 B0 as Q) (mj_XC D b e0 B0 as Q.2) mc ms (fun q => B0 ≤ q)
/-- .. of a method with handlers -/
def mj_CH (K : mj_M) (d mc ms : Nat) (args : List Value) (h : mj_H) (Q : mj_Q) : Prop :=
  ∀ (l : Launch), l.stackTraces = false → ∀ (D : va_G) (b e0 B0 : Nat) (as : List Nat), vx_Met l K.1 (mj_wsH K) (mj_rm d mc ms) (mj_Pc D b e0 B0 as args h) (mj_Qc D b e0 B0 as Q) (mj_XC D b e0 B0 as Q.2) mc ms (fun q => B0 ≤ q)
theorem mj_lg_eq (x : Int64) : mj_lg (mj_lh x) (mj_ll x) = x := by
  unfold mj_lg mj_lh mj_ll
  have h1 := x.le_toInt
  have h2 := x.toInt_lt
  apply Int64.toInt_inj.mp
  rw [Int64.toInt_ofInt, Int32.toInt_ofInt, Int32.toInt_ofInt, Int32.size, Int64.size]
  have e1 : (x.toInt / 4294967296).bmod 4294967296 = x.toInt / 4294967296 := Int.bmod_eq_of_le (by omega) (by omega)
  have e2 : ((x.toInt % 4294967296).bmod 4294967296) % 4294967296 = x.toInt % 4294967296 := by
    have h := Int.bmod_emod (x := x.toInt % 4294967296) (m := 4294967296)
    rw [show ((4294967296 : Nat) : Int) = 4294967296 from rfl] at h
    rw [h]
    omega
  rw [e1, e2]
  have e3 : x.toInt / 4294967296 * 4294967296 + x.toInt % 4294967296 = x.toInt := by omega
  rw [e3]
  exact Int.bmod_eq_of_le (by omega) (by omega)
/-! lists -/
theorem mj_t_cat (as : List Nat) (v : Value) : (mj_t as v).category = v.category := by cases v <;> rfl
theorem mj_cats (as : List Nat) (st : List Value) : ((st.map (mj_t as)).map fun v => v.category).sum = (st.map fun v => v.category).sum := by
  induction st with
  | nil => rfl
  | cons v st ih => simp only [List.map_cons, List.sum_cons, ih, mj_t_cat]
theorem mj_ok_mono {n k : Nat} (hnk : n ≤ k) {v : Value} (h : mj_ok n v) : mj_ok k v := by
  cases v <;> first | trivial | exact Nat.lt_of_lt_of_le h hnk
theorem mj_oks_mono {n k : Nat} (hnk : n ≤ k) : ∀ {st : List Value}, mj_oks n st → mj_oks k st
  | [], _ => trivial
  | _ :: _, h => ⟨mj_ok_mono hnk h.1, mj_oks_mono hnk h.2⟩
theorem mj_oks_app {n : Nat} : ∀ {a b : List Value}, mj_oks n (a ++ b) ↔ mj_oks n a ∧ mj_oks n b
  | [], b => by simp [mj_oks]
  | v :: a, b => by simp [mj_oks, mj_oks_app (a := a) (b := b), and_assoc]
theorem mj_oks_rev {n : Nat} : ∀ {a : List Value}, mj_oks n a.reverse ↔ mj_oks n a
  | [] => by simp [mj_oks]
  | v :: a => by simp [mj_oks, mj_oks_app, mj_oks_rev (a := a), and_comm]
theorem mj_oks_get {n : Nat} : ∀ {lv : List Value} {i : Nat} {v : Value}, mj_oks n lv → lv[i]? = some v → mj_ok n v
  | [], i, v, _, h => by simp at h
  | w :: lv, 0, v, h, e => by simp at e; subst e; exact h.1
  | w :: lv, i + 1, v, h, e => by simp at e; exact mj_oks_get h.2 e
theorem mj_oks_set {n : Nat} : ∀ {lv : List Value} {i : Nat} {v : Value}, mj_oks n lv → mj_ok n v → mj_oks n (lv.set i v)
  | [], i, v, h, _ => h
  | w :: lv, 0, v, h, e => ⟨e, h.2⟩
  | w :: lv, i + 1, v, h, e => ⟨h.1, mj_oks_set h.2 e⟩
theorem mj_t_app {as ex : List Nat} {v : Value} (h : mj_ok as.length v) : mj_t (as ++ ex) v = mj_t as v := by
  cases v <;> first | rfl | skip
  rename_i k
  have hk : k < as.length := h
  show Value.ref _ = Value.ref _
  rw [List.getD_eq_getElem?_getD, List.getD_eq_getElem?_getD, List.getElem?_append_left hk]
theorem mj_ts_app {as ex : List Nat} : ∀ {st : List Value}, mj_oks as.length st → st.map (mj_t (as ++ ex)) = st.map (mj_t as)
  | [], _ => rfl
  | v :: st, h => by rw [List.map_cons, List.map_cons, mj_t_app h.1, mj_ts_app h.2]
theorem mj_al_mem {as : List Nat} : ∀ (lv : List Value) (i0 : Nat) (q : Nat × Value), q ∈ mj_al as i0 lv ↔ ∃ (i : Nat) (v : Value), lv[i]? = some v ∧ v ≠ .null ∧ q = (i0 + i, mj_t as v)
  | [], i0, q => by simp [mj_al]
  | w :: lv, i0, q => by
    have ih := mj_al_mem (as := as) lv (i0 + 1) q
    by_cases hw : w = .null
    · subst hw
      rw [show mj_al as i0 (.null :: lv) = mj_al as (i0 + 1) lv from rfl, ih]
      constructor
      · rintro ⟨i, v, h1, h2, h3⟩
        exact ⟨i + 1, v, by simpa using h1, h2, by rw [h3]; congr 1; omega⟩
      · rintro ⟨i, v, h1, h2, h3⟩
        cases i with
        | zero => simp at h1; exact absurd h1.symm h2
        | succ i => exact ⟨i, v, by simpa using h1, h2, by rw [h3]; congr 1; omega⟩
    · have e : mj_al as i0 (w :: lv) = (i0, mj_t as w) :: mj_al as (i0 + 1) lv := by
        cases w <;> first | rfl | exact absurd rfl hw
      rw [e, List.mem_cons, ih]
      constructor
      · rintro (h | ⟨i, v, h1, h2, h3⟩)
        · exact ⟨0, w, by simp, hw, by rw [h]; rfl⟩
        · exact ⟨i + 1, v, by simpa using h1, h2, by rw [h3]; congr 1; omega⟩
      · rintro ⟨i, v, h1, h2, h3⟩
        cases i with
        | zero => simp at h1; subst h1; exact Or.inl h3
        | succ i => exact Or.inr ⟨i, v, by simpa using h1, h2, by rw [h3]; congr 1; omega⟩
theorem mj_al_app {as ex : List Nat} : ∀ (lv : List Value) (i0 : Nat), mj_oks as.length lv → mj_al (as ++ ex) i0 lv = mj_al as i0 lv
  | [], _, _ => rfl
  | w :: lv, i0, h => by
    have ih := mj_al_app (ex := ex) lv (i0 + 1) h.2
    have hw := mj_t_app (ex := ex) h.1
    cases w <;> first | exact ih | (show _ :: _ = _ :: _; rw [ih]; first | rfl | (rw [show mj_t (as ++ ex) _ = _ from hw]))
theorem mj_at {ls : Array Slot} {nL : Nat} {as : List Nat} {lv : List Value} (h : lv_has ls nL (mj_al as 0 lv)) {i : Nat} {v : Value} (hv : lv[i]? = some v) (hn : v ≠ .null) : ls[i]? = some (.val (mj_t as v)) := by
  have := h.2.2 (i, mj_t as v) ((mj_al_mem lv 0 _).mpr ⟨i, v, hv, hn, by rw [Nat.zero_add]⟩)
  exact this
/-- a place ahead holds no long -/
def mj_c1 (lv : List Value) (i : Nat) : Bool := match i with
  | 0 => true
  | j + 1 => match lv[j]? with
    | some w => w.category == 1
    | none => true
theorem mj_c1_spec {lv : List Value} {i j : Nat} {w : Value} (h : mj_c1 lv i = true) (hj : j + 1 = i) (hw : lv[j]? = some w) : ¬ w.category = 2 := by
  subst hj
  simp only [mj_c1, hw] at h
  have : w.category = 1 := by simpa using h
  omega
theorem mj_has_sub {ls : Array Slot} {nL : Nat} {l l' : List (Nat × Value)} (h : lv_has ls nL l) (hs : ∀ q ∈ l', q ∈ l) : lv_has ls nL l' := ⟨h.1, h.2.1, fun q hq => h.2.2 q (hs q hq)⟩
theorem mj_store1 {as : List Nat} {lv : List Value} {i : Nat} {v : Value} (hc : mj_c1 lv i = true) : ∀ q ∈ mj_al as 0 (lv.set i v), q ∈ (i, mj_t as v) :: (mj_al as 0 lv).filter (fun q => !(q.1 == i) && !(q.1 + 1 == i && q.2.category == 2)) := by
  intro q hq
  obtain ⟨j, w, h1, h2, rfl⟩ := (mj_al_mem _ 0 q).mp hq
  rw [Nat.zero_add]
  rw [List.getElem?_set] at h1
  by_cases hj : i = j
  · subst hj
    rw [if_pos rfl] at h1
    split at h1
    · cases h1; exact List.mem_cons_self
    · cases h1
  · rw [if_neg hj] at h1
    refine List.mem_cons_of_mem _ (List.mem_filter.mpr ⟨(mj_al_mem lv 0 _).mpr ⟨j, w, h1, h2, by rw [Nat.zero_add]⟩, ?_⟩)
    have hne : ¬ j = i := fun e => hj e.symm
    by_cases hji : j + 1 = i
    · have := mj_c1_spec hc hji h1
      simp [hne, mj_t_cat, this]
    · simp [hne, hji]
theorem mj_store2 {as : List Nat} {lv : List Value} {i : Nat} {v : Value} (hc : mj_c1 lv i = true) : ∀ q ∈ mj_al as 0 ((lv.set i v).set (i + 1) .null), q ∈ (i, mj_t as v) :: (mj_al as 0 lv).filter (fun q => !(q.1 == i) && (!(q.1 == i + 1) && !(q.1 + 1 == i && q.2.category == 2))) := by
  intro q hq
  obtain ⟨j, w, h1, h2, rfl⟩ := (mj_al_mem _ 0 q).mp hq
  rw [Nat.zero_add]
  rw [List.getElem?_set] at h1
  by_cases hj1 : i + 1 = j
  · rw [if_pos hj1] at h1
    split at h1
    · cases h1; exact absurd rfl h2
    · cases h1
  · rw [if_neg hj1, List.getElem?_set] at h1
    by_cases hj : i = j
    · subst hj
      rw [if_pos rfl] at h1
      split at h1
      · cases h1; exact List.mem_cons_self
      · cases h1
    · rw [if_neg hj] at h1
      refine List.mem_cons_of_mem _ (List.mem_filter.mpr ⟨(mj_al_mem lv 0 _).mpr ⟨j, w, h1, h2, by rw [Nat.zero_add]⟩, ?_⟩)
      have hne : ¬ j = i := fun e => hj e.symm
      have hne1 : ¬ j = i + 1 := fun e => hj1 e.symm
      by_cases hji : j + 1 = i
      · have := mj_c1_spec hc hji h1
        simp [hne, hne1, mj_t_cat, this]
      · simp [hne, hne1, hji]
end
section
/-! THE RULES: an instruction each, over the mini machine -/
theorem mj_rem (x y : Int32) : x - x / y * y = x % y := by
  apply Int32.toInt_inj.mp
  rw [Int32.toInt_sub, Int32.toInt_mul, Int32.toInt_div]
  rw [Int.bmod_mul_bmod, Int.sub_bmod_bmod]
  have h := Int.tmod_add_mul_tdiv x.toInt y.toInt
  have e : x.toInt - x.toInt.tdiv y.toInt * y.toInt = (x % y).toInt := by
    rw [Int32.toInt_mod, Int.mul_comm]
    omega
  rw [e, show (2 : Nat) ^ 32 = 4294967296 from rfl, Int32.toInt_bmod]
theorem mj_Hp.moved {D : va_G} {b e0 : Nat} {as : List Nat} {h : mj_H} {A : Nat → Prop} {u U : State} {H : Heap} (hvm : u.vm.Alike U.vm) (hH : mj_Hp D b e0 as h A u H) : mj_Hp D b e0 as h A U H := by
  obtain ⟨ws, tys, h1, h2, h3, h4, h5, h6, h7, h8, h9⟩ := hH
  exact ⟨ws, tys, h1, h2, h3, h4, va_K.moved hvm h5, h6, h7, h8, va_X.moved hvm h9⟩
section MJ1
variable {M : mj_M} {d mc ms : Nat} {Q : mj_Q} {pc q : Nat} {lv st : List Value} {h : mj_H}
theorem mj_pure {st1 st2 : List Value}
    (hs : ∀ (p : Program) (l : Launch) (e : Env) (R : Room) (s : State) (m : MethodId) (args : Array Value) (below : List Frame) (meth : Method) (c : Code) (H : Heap) (locs : List Loc) (cells slots : Nat) (QQ : State → Prop) (ls : Array Slot) (as : List Nat), p.tables.exec = Jvm.exec → c.code = M.2.1 →
      W p l e R s m args below meth c H locs cells slots QQ (F0 m q ls (st2.map (mj_t as))) → W p l e R s m args below meth c H locs cells slots QQ (F0 m pc ls (st1.map (mj_t as))))
    (ho : ∀ n, mj_oks n st1 → mj_oks n st2) (k : mj_W M d mc ms Q q lv st2 h) : mj_W M d mc ms Q pc lv st1 h := by
  intro p l e R s m args below meth c D b e0 B0 MC MS as0 QQ X E as H locs ls cells slots S
  obtain ⟨s1, s2, s3, s4, s5, s6, s7, s8⟩ := S
  exact hs p l e R s m args below meth c H locs cells slots QQ ls as X.1 X.2.1 (k p l e R s m args below meth c D b e0 B0 MC MS as0 QQ X E as H locs ls cells slots ⟨s1, s2, s3, s4, s5, ho _ s6, s7, s8⟩)
theorem mj_load {i : Nat} {v : Value} (hl : lv[i]? = some v) (hn : v ≠ .null)
    (hs : ∀ (p : Program) (l : Launch) (e : Env) (R : Room) (s : State) (m : MethodId) (args : Array Value) (below : List Frame) (meth : Method) (c : Code) (H : Heap) (locs : List Loc) (cells slots : Nat) (QQ : State → Prop) (ls : Array Slot) (as : List Nat), p.tables.exec = Jvm.exec → c.code = M.2.1 → ls[i]? = some (.val (mj_t as v)) →
      W p l e R s m args below meth c H locs cells slots QQ (F0 m q ls ((v :: st).map (mj_t as))) → W p l e R s m args below meth c H locs cells slots QQ (F0 m pc ls (st.map (mj_t as))))
    (k : mj_W M d mc ms Q q lv (v :: st) h) : mj_W M d mc ms Q pc lv st h := by
  intro p l e R s m args below meth c D b e0 B0 MC MS as0 QQ X E as H locs ls cells slots S
  obtain ⟨s1, s2, s3, s4, s5, s6, s7, s8⟩ := S
  exact hs p l e R s m args below meth c H locs cells slots QQ ls as X.1 X.2.1 (mj_at s4 hl hn) (k p l e R s m args below meth c D b e0 B0 MC MS as0 QQ X E as H locs ls cells slots ⟨s1, s2, s3, s4, s5, ⟨mj_oks_get s5 hl, s6⟩, s7, s8⟩)
theorem mj_iadd {x y : Int32} (hd : decode M.2.1 pc = .ok (.iadd, 1)) (hq : pc + 1 = q) (k : mj_W M d mc ms Q q lv (.int (x + y) :: st) h) : mj_W M d mc ms Q pc lv (.int y :: .int x :: st) h := by
  subst hq
  exact mj_pure (st1 := .int y :: .int x :: st) (st2 := .int (x + y) :: st) (fun _ _ _ _ _ _ _ _ _ _ _ _ _ _ _ _ _ hx hb => lv_iadd hx hb hd) (fun _ h => ⟨trivial, h.2.2⟩) k
theorem mj_isub {x y : Int32} (hd : decode M.2.1 pc = .ok (.isub, 1)) (hq : pc + 1 = q) (k : mj_W M d mc ms Q q lv (.int (x - y) :: st) h) : mj_W M d mc ms Q pc lv (.int y :: .int x :: st) h := by
  subst hq
  exact mj_pure (st1 := .int y :: .int x :: st) (st2 := .int (x - y) :: st) (fun _ _ _ _ _ _ _ _ _ _ _ _ _ _ _ _ _ hx hb => lv_isub hx hb hd) (fun _ h => ⟨trivial, h.2.2⟩) k
theorem mj_imul {x y : Int32} (hd : decode M.2.1 pc = .ok (.imul, 1)) (hq : pc + 1 = q) (k : mj_W M d mc ms Q q lv (.int (x * y) :: st) h) : mj_W M d mc ms Q pc lv (.int y :: .int x :: st) h := by
  subst hq
  exact mj_pure (st1 := .int y :: .int x :: st) (st2 := .int (x * y) :: st) (fun _ _ _ _ _ _ _ _ _ _ _ _ _ _ _ _ _ hx hb => lv_imul hx hb hd) (fun _ h => ⟨trivial, h.2.2⟩) k
theorem mj_iand {x y : Int32} (hd : decode M.2.1 pc = .ok (.iand, 1)) (hq : pc + 1 = q) (k : mj_W M d mc ms Q q lv (.int (x &&& y) :: st) h) : mj_W M d mc ms Q pc lv (.int y :: .int x :: st) h := by
  subst hq
  exact mj_pure (st1 := .int y :: .int x :: st) (st2 := .int (x &&& y) :: st) (fun _ _ _ _ _ _ _ _ _ _ _ _ _ _ _ _ _ hx hb => lv_iand hx hb hd) (fun _ h => ⟨trivial, h.2.2⟩) k
theorem mj_ior {x y : Int32} (hd : decode M.2.1 pc = .ok (.ior, 1)) (hq : pc + 1 = q) (k : mj_W M d mc ms Q q lv (.int (x ||| y) :: st) h) : mj_W M d mc ms Q pc lv (.int y :: .int x :: st) h := by
  subst hq
  exact mj_pure (st1 := .int y :: .int x :: st) (st2 := .int (x ||| y) :: st) (fun _ _ _ _ _ _ _ _ _ _ _ _ _ _ _ _ _ hx hb => lv_ior hx hb hd) (fun _ h => ⟨trivial, h.2.2⟩) k
theorem mj_ladd {x y : Int64} (hd : decode M.2.1 pc = .ok (.ladd, 1)) (hq : pc + 1 = q) (k : mj_W M d mc ms Q q lv (.long (x + y) :: st) h) : mj_W M d mc ms Q pc lv (.long y :: .long x :: st) h := by
  subst hq
  exact mj_pure (st1 := .long y :: .long x :: st) (st2 := .long (x + y) :: st) (fun _ _ _ _ _ _ _ _ _ _ _ _ _ _ _ _ _ hx hb => lv_ladd hx hb hd) (fun _ h => ⟨trivial, h.2.2⟩) k
theorem mj_lmul {x y : Int64} (hd : decode M.2.1 pc = .ok (.lmul, 1)) (hq : pc + 1 = q) (k : mj_W M d mc ms Q q lv (.long (x * y) :: st) h) : mj_W M d mc ms Q pc lv (.long y :: .long x :: st) h := by
  subst hq
  exact mj_pure (st1 := .long y :: .long x :: st) (st2 := .long (x * y) :: st) (fun _ _ _ _ _ _ _ _ _ _ _ _ _ _ _ _ _ hx hb => lv_lmul hx hb hd) (fun _ h => ⟨trivial, h.2.2⟩) k
theorem mj_land {x y : Int64} (hd : decode M.2.1 pc = .ok (.land, 1)) (hq : pc + 1 = q) (k : mj_W M d mc ms Q q lv (.long (x &&& y) :: st) h) : mj_W M d mc ms Q pc lv (.long y :: .long x :: st) h := by
  subst hq
  exact mj_pure (st1 := .long y :: .long x :: st) (st2 := .long (x &&& y) :: st) (fun _ _ _ _ _ _ _ _ _ _ _ _ _ _ _ _ _ hx hb => lv_land hx hb hd) (fun _ h => ⟨trivial, h.2.2⟩) k
theorem mj_idiv {x y : Int32} (hne : ¬ y = 0) (hd : decode M.2.1 pc = .ok (.idiv, 1)) (hq : pc + 1 = q) (k : mj_W M d mc ms Q q lv (.int (x / y) :: st) h) : mj_W M d mc ms Q pc lv (.int y :: .int x :: st) h := by
  subst hq
  exact mj_pure (st1 := .int y :: .int x :: st) (st2 := .int (x / y) :: st) (fun _ _ _ _ _ _ _ _ _ _ _ _ _ _ _ _ _ hx hb => lv_idiv hx hb hd hne) (fun _ h => ⟨trivial, h.2.2⟩) k
theorem mj_irem {x y : Int32} (hne : ¬ y = 0) (hd : decode M.2.1 pc = .ok (.irem, 1)) (hq : pc + 1 = q) (k : mj_W M d mc ms Q q lv (.int (x % y) :: st) h) : mj_W M d mc ms Q pc lv (.int y :: .int x :: st) h := by
  subst hq
  exact mj_pure (st1 := .int y :: .int x :: st) (st2 := .int (x % y) :: st) (fun _ _ _ _ _ _ _ _ _ _ _ _ _ _ _ _ _ hx hb => by rw [← mj_rem]; exact lv_irem hx hb hd hne) (fun _ h => ⟨trivial, h.2.2⟩) k
theorem mj_ishl {x y : Int32} (hd : decode M.2.1 pc = .ok (.ishl, 1)) (hq : pc + 1 = q) (k : mj_W M d mc ms Q q lv (.int (x <<< (y &&& 31)) :: st) h) : mj_W M d mc ms Q pc lv (.int y :: .int x :: st) h := by
  subst hq
  exact mj_pure (st1 := .int y :: .int x :: st) (st2 := .int (x <<< (y &&& 31)) :: st) (fun _ _ _ _ _ _ _ _ _ _ _ _ _ _ _ _ _ hx hb => lv_ishl hx hb hd) (fun _ h => ⟨trivial, h.2.2⟩) k
theorem mj_ishr {x y : Int32} (hd : decode M.2.1 pc = .ok (.ishr, 1)) (hq : pc + 1 = q) (k : mj_W M d mc ms Q q lv (.int (x >>> (y &&& 31)) :: st) h) : mj_W M d mc ms Q pc lv (.int y :: .int x :: st) h := by
  subst hq
  exact mj_pure (st1 := .int y :: .int x :: st) (st2 := .int (x >>> (y &&& 31)) :: st) (fun _ _ _ _ _ _ _ _ _ _ _ _ _ _ _ _ _ hx hb => lv_ishr hx hb hd) (fun _ h => ⟨trivial, h.2.2⟩) k
theorem mj_ineg {x : Int32} (hd : decode M.2.1 pc = .ok (.ineg, 1)) (hq : pc + 1 = q) (k : mj_W M d mc ms Q q lv (.int (0 - x) :: st) h) : mj_W M d mc ms Q pc lv (.int x :: st) h := by
  subst hq
  exact mj_pure (st1 := .int x :: st) (st2 := .int (0 - x) :: st) (fun _ _ _ _ _ _ _ _ _ _ _ _ _ _ _ _ _ hx hb => lv_ineg hx hb hd) (fun _ h => ⟨trivial, h.2⟩) k
theorem mj_i2l {x : Int32} (hd : decode M.2.1 pc = .ok (.i2l, 1)) (hq : pc + 1 = q) (k : mj_W M d mc ms Q q lv (.long x.toInt64 :: st) h) : mj_W M d mc ms Q pc lv (.int x :: st) h := by
  subst hq
  exact mj_pure (st1 := .int x :: st) (st2 := .long x.toInt64 :: st) (fun _ _ _ _ _ _ _ _ _ _ _ _ _ _ _ _ _ hx hb => lv_i2l hx hb hd rfl) (fun _ h => ⟨trivial, h.2⟩) k
theorem mj_i2d {x : Int32} (hd : decode M.2.1 pc = .ok (.i2d, 1)) (hq : pc + 1 = q) (k : mj_W M d mc ms Q q lv (.double (FP.i2d x) :: st) h) : mj_W M d mc ms Q pc lv (.int x :: st) h := by
  subst hq
  exact mj_pure (st1 := .int x :: st) (st2 := .double (FP.i2d x) :: st) (fun _ _ _ _ _ _ _ _ _ _ _ _ _ _ _ _ _ hx hb => lv_i2d hx hb hd) (fun _ h => ⟨trivial, h.2⟩) k
theorem mj_iconst {n : Int} (hd : decode M.2.1 pc = .ok (.iconst n, 1)) (hq : pc + 1 = q) (k : mj_W M d mc ms Q q lv (.int (Int32.ofInt n) :: st) h) : mj_W M d mc ms Q pc lv (st) h := by
  subst hq
  exact mj_pure (st1 := st) (st2 := .int (Int32.ofInt n) :: st) (fun _ _ _ _ _ _ _ _ _ _ _ _ _ _ _ _ _ hx hb => lv_iconst hx hb hd rfl) (fun _ h => ⟨trivial, h⟩) k
theorem mj_bipush {n : Int} (hd : decode M.2.1 pc = .ok (.bipush n, 2)) (hq : pc + 2 = q) (k : mj_W M d mc ms Q q lv (.int ((Int8.ofInt n).toInt32) :: st) h) : mj_W M d mc ms Q pc lv (st) h := by
  subst hq
  exact mj_pure (st1 := st) (st2 := .int ((Int8.ofInt n).toInt32) :: st) (fun _ _ _ _ _ _ _ _ _ _ _ _ _ _ _ _ _ hx hb => lv_bipush hx hb hd rfl) (fun _ h => ⟨trivial, h⟩) k
theorem mj_sipush {n : Int} (hd : decode M.2.1 pc = .ok (.sipush n, 3)) (hq : pc + 3 = q) (k : mj_W M d mc ms Q q lv (.int ((Int16.ofInt n).toInt32) :: st) h) : mj_W M d mc ms Q pc lv (st) h := by
  subst hq
  exact mj_pure (st1 := st) (st2 := .int ((Int16.ofInt n).toInt32) :: st) (fun _ _ _ _ _ _ _ _ _ _ _ _ _ _ _ _ _ hx hb => lv_sipush hx hb hd rfl) (fun _ h => ⟨trivial, h⟩) k
theorem mj_num1 {n : Int} {v : Int32} (hv : Int32.ofInt n = v) (hd : decode M.2.1 pc = .ok (.iconst n, 1)) (hq : pc + 1 = q) (k : mj_W M d mc ms Q q lv (.int v :: st) h) : mj_W M d mc ms Q pc lv (st) h := by
  subst hq
  exact mj_pure (st1 := st) (st2 := .int v :: st) (fun _ _ _ _ _ _ _ _ _ _ _ _ _ _ _ _ _ hx hb => lv_iconst hx hb hd hv) (fun _ h => ⟨trivial, h⟩) k
theorem mj_num2 {n : Int} {v : Int32} (hv : (Int8.ofInt n).toInt32 = v) (hd : decode M.2.1 pc = .ok (.bipush n, 2)) (hq : pc + 2 = q) (k : mj_W M d mc ms Q q lv (.int v :: st) h) : mj_W M d mc ms Q pc lv (st) h := by
  subst hq
  exact mj_pure (st1 := st) (st2 := .int v :: st) (fun _ _ _ _ _ _ _ _ _ _ _ _ _ _ _ _ _ hx hb => lv_bipush hx hb hd hv) (fun _ h => ⟨trivial, h⟩) k
theorem mj_num3 {n : Int} {v : Int32} (hv : (Int16.ofInt n).toInt32 = v) (hd : decode M.2.1 pc = .ok (.sipush n, 3)) (hq : pc + 3 = q) (k : mj_W M d mc ms Q q lv (.int v :: st) h) : mj_W M d mc ms Q pc lv (st) h := by
  subst hq
  exact mj_pure (st1 := st) (st2 := .int v :: st) (fun _ _ _ _ _ _ _ _ _ _ _ _ _ _ _ _ _ hx hb => lv_sipush hx hb hd hv) (fun _ h => ⟨trivial, h⟩) k
theorem mj_dconst0  (hd : decode M.2.1 pc = .ok (.dconst 0, 1)) (hq : pc + 1 = q) (k : mj_W M d mc ms Q q lv (.double FP.dconst0 :: st) h) : mj_W M d mc ms Q pc lv (st) h := by
  subst hq
  exact mj_pure (st1 := st) (st2 := .double FP.dconst0 :: st) (fun _ _ _ _ _ _ _ _ _ _ _ _ _ _ _ _ _ hx hb => lv_dconst0 hx hb hd) (fun _ h => ⟨trivial, h⟩) k
theorem mj_dup {v : Value} (hc : v.category = 1) (hd : decode M.2.1 pc = .ok (.dup, 1)) (hq : pc + 1 = q) (k : mj_W M d mc ms Q q lv (v :: v :: st) h) : mj_W M d mc ms Q pc lv (v :: st) h := by
  subst hq
  exact mj_pure (st1 := v :: st) (st2 := v :: v :: st) (fun _ _ _ _ _ _ _ _ _ _ _ _ _ _ _ _ _ hx hb => lv_dup hx hb hd (by rw [mj_t_cat]; exact hc)) (fun _ h => ⟨h.1, h⟩) k
theorem mj_pop {v : Value} (hc : v.category = 1) (hd : decode M.2.1 pc = .ok (.pop, 1)) (hq : pc + 1 = q) (k : mj_W M d mc ms Q q lv (st) h) : mj_W M d mc ms Q pc lv (v :: st) h := by
  subst hq
  exact mj_pure (st1 := v :: st) (st2 := st) (fun _ _ _ _ _ _ _ _ _ _ _ _ _ _ _ _ _ hx hb => lv_pop hx hb hd (by rw [mj_t_cat]; exact hc)) (fun _ h => h.2) k
theorem mj_dup2 {v w : Value} (hc : v.category = 1) (hw : w.category = 1) (hd : decode M.2.1 pc = .ok (.dup2, 1)) (hq : pc + 1 = q) (k : mj_W M d mc ms Q q lv (v :: w :: v :: w :: st) h) : mj_W M d mc ms Q pc lv (v :: w :: st) h := by
  subst hq
  exact mj_pure (st1 := v :: w :: st) (st2 := v :: w :: v :: w :: st) (fun _ _ _ _ _ _ _ _ _ _ _ _ _ _ _ _ _ hx hb => lv_dup2_11 hx hb hd (by rw [mj_t_cat]; exact hc) (by rw [mj_t_cat]; exact hw)) (fun _ h => ⟨h.1, h.2.1, h⟩) k
theorem mj_lcmp {x y : Int64} (hd : decode M.2.1 pc = .ok (.lcmp, 1)) (hq : pc + 1 = q) (k : mj_W M d mc ms Q q lv (.int (lg_cmp x y) :: st) h) : mj_W M d mc ms Q pc lv (.long y :: .long x :: st) h := by
  subst hq
  exact mj_pure (st1 := .long y :: .long x :: st) (st2 := .int (lg_cmp x y) :: st) (fun _ _ _ _ _ _ _ _ _ _ _ _ _ _ _ _ _ hx hb => W.lcmp hx hb hd) (fun _ h => ⟨trivial, h.2.2⟩) k
theorem mj_dcmp {x y : UInt64} {op : CmpOp} (hd : decode M.2.1 pc = .ok (.dcmp op, 1)) (hq : pc + 1 = q) (k : mj_W M d mc ms Q q lv (.int (Op.cmpValue (FP.dcmp x y) op) :: st) h) : mj_W M d mc ms Q pc lv (.double y :: .double x :: st) h := by
  subst hq
  exact mj_pure (st1 := .double y :: .double x :: st) (st2 := .int (Op.cmpValue (FP.dcmp x y) op) :: st) (fun _ _ _ _ _ _ _ _ _ _ _ _ _ _ _ _ _ hx hb => lv_dcmp hx hb hd) (fun _ h => ⟨trivial, h.2.2⟩) k
theorem mj_dsub {x y : UInt64} (hne : vf_n64 (FP.dsub x y)) (hd : decode M.2.1 pc = .ok (.dsub, 1)) (hq : pc + 1 = q) (k : mj_W M d mc ms Q q lv (.double (FP.dsub x y) :: st) h) : mj_W M d mc ms Q pc lv (.double y :: .double x :: st) h := by
  subst hq
  exact mj_pure (st1 := .double y :: .double x :: st) (st2 := .double (FP.dsub x y) :: st) (fun _ _ _ _ _ _ _ _ _ _ _ _ _ _ _ _ _ hx hb => lv_dsub hx hb hd hne) (fun _ h => ⟨trivial, h.2.2⟩) k
theorem mj_dmul {x y : UInt64} (hne : vf_n64 (FP.dmul x y)) (hd : decode M.2.1 pc = .ok (.dmul, 1)) (hq : pc + 1 = q) (k : mj_W M d mc ms Q q lv (.double (FP.dmul x y) :: st) h) : mj_W M d mc ms Q pc lv (.double y :: .double x :: st) h := by
  subst hq
  exact mj_pure (st1 := .double y :: .double x :: st) (st2 := .double (FP.dmul x y) :: st) (fun _ _ _ _ _ _ _ _ _ _ _ _ _ _ _ _ _ hx hb => lv_dmul hx hb hd hne) (fun _ h => ⟨trivial, h.2.2⟩) k
theorem mj_ddiv {x y : UInt64} (hne : vf_n64 (FP.ddiv x y)) (hd : decode M.2.1 pc = .ok (.ddiv, 1)) (hq : pc + 1 = q) (k : mj_W M d mc ms Q q lv (.double (FP.ddiv x y) :: st) h) : mj_W M d mc ms Q pc lv (.double y :: .double x :: st) h := by
  subst hq
  exact mj_pure (st1 := .double y :: .double x :: st) (st2 := .double (FP.ddiv x y) :: st) (fun _ _ _ _ _ _ _ _ _ _ _ _ _ _ _ _ _ hx hb => lv_ddiv hx hb hd hne) (fun _ h => ⟨trivial, h.2.2⟩) k
theorem mj_iload {i : Nat} {x : Int32} (hd : decode M.2.1 pc = .ok (.iload i, 2)) (hq : pc + 2 = q) (hl : lv[i]? = some (.int x)) (k : mj_W M d mc ms Q q lv (.int x :: st) h) : mj_W M d mc ms Q pc lv st h := by
  subst hq
  exact mj_load hl (by simp) (fun _ _ _ _ _ _ _ _ _ _ _ _ _ _ _ _ _ hx hb ha => lv_iload hx hb hd ha) k
theorem mj_iload_n {i : Nat} {j : Fin 4} {x : Int32} (hd : decode M.2.1 pc = .ok (.iload_n j, 1)) (hi : (j : Nat) = i) (hq : pc + 1 = q) (hl : lv[i]? = some (.int x)) (k : mj_W M d mc ms Q q lv (.int x :: st) h) : mj_W M d mc ms Q pc lv st h := by
  subst hq
  exact mj_load hl (by simp) (fun _ _ _ _ _ _ _ _ _ _ _ _ _ _ _ _ _ hx hb ha => lv_iload_n hx hb hd hi ha) k
theorem mj_lload {i : Nat} {x : Int64} (hd : decode M.2.1 pc = .ok (.lload i, 2)) (hq : pc + 2 = q) (hl : lv[i]? = some (.long x)) (k : mj_W M d mc ms Q q lv (.long x :: st) h) : mj_W M d mc ms Q pc lv st h := by
  subst hq
  exact mj_load hl (by simp) (fun _ _ _ _ _ _ _ _ _ _ _ _ _ _ _ _ _ hx hb ha => lv_lload hx hb hd ha) k
theorem mj_lload_n {i : Nat} {j : Fin 4} {x : Int64} (hd : decode M.2.1 pc = .ok (.lload_n j, 1)) (hi : (j : Nat) = i) (hq : pc + 1 = q) (hl : lv[i]? = some (.long x)) (k : mj_W M d mc ms Q q lv (.long x :: st) h) : mj_W M d mc ms Q pc lv st h := by
  subst hq
  exact mj_load hl (by simp) (fun _ _ _ _ _ _ _ _ _ _ _ _ _ _ _ _ _ hx hb ha => lv_lload_n hx hb hd hi ha) k
theorem mj_aload {i : Nat} {x : Nat} (hd : decode M.2.1 pc = .ok (.aload i, 2)) (hq : pc + 2 = q) (hl : lv[i]? = some (.ref x)) (k : mj_W M d mc ms Q q lv (.ref x :: st) h) : mj_W M d mc ms Q pc lv st h := by
  subst hq
  exact mj_load hl (by simp) (fun _ _ _ _ _ _ _ _ _ _ _ _ _ _ _ _ _ hx hb ha => lv_aload hx hb hd ha) k
theorem mj_aload_n {i : Nat} {j : Fin 4} {x : Nat} (hd : decode M.2.1 pc = .ok (.aload_n j, 1)) (hi : (j : Nat) = i) (hq : pc + 1 = q) (hl : lv[i]? = some (.ref x)) (k : mj_W M d mc ms Q q lv (.ref x :: st) h) : mj_W M d mc ms Q pc lv st h := by
  subst hq
  exact mj_load hl (by simp) (fun _ _ _ _ _ _ _ _ _ _ _ _ _ _ _ _ _ hx hb ha => lv_aload_n hx hb hd hi ha) k
theorem mj_dload {i : Nat} {x : UInt64} (hd : decode M.2.1 pc = .ok (.dload i, 2)) (hq : pc + 2 = q) (hl : lv[i]? = some (.double x)) (k : mj_W M d mc ms Q q lv (.double x :: st) h) : mj_W M d mc ms Q pc lv st h := by
  subst hq
  exact mj_load hl (by simp) (fun _ _ _ _ _ _ _ _ _ _ _ _ _ _ _ _ _ hx hb ha => lv_dload hx hb hd ha) k
theorem mj_dload_n {i : Nat} {j : Fin 4} {x : UInt64} (hd : decode M.2.1 pc = .ok (.dload_n j, 1)) (hi : (j : Nat) = i) (hq : pc + 1 = q) (hl : lv[i]? = some (.double x)) (k : mj_W M d mc ms Q q lv (.double x :: st) h) : mj_W M d mc ms Q pc lv st h := by
  subst hq
  exact mj_load hl (by simp) (fun _ _ _ _ _ _ _ _ _ _ _ _ _ _ _ _ _ hx hb ha => lv_dload_n hx hb hd hi ha) k
theorem mj_istore {i : Nat} {x : Int32} (hd : decode M.2.1 pc = .ok (.istore i, 2)) (hq : pc + 2 = q) (hlt : i < M.2.2.1) (hc : mj_c1 lv i = true) (k : mj_W M d mc ms Q q (lv.set i (.int x)) st h) : mj_W M d mc ms Q pc lv (.int x :: st) h := by
  subst hq
  intro p l e R s m args below meth c D b e0 B0 MC MS as0 QQ X E as H locs ls cells slots S
  obtain ⟨s1, s2, s3, s4, s5, s6, s7, s8⟩ := S
  exact lv_istore X.1 X.2.1 hd s4 hlt rfl (fun ls' hl' => k p l e R s m args below meth c D b e0 B0 MC MS as0 QQ X E as H locs ls' cells slots ⟨s1, s2, s3, mj_has_sub hl' (mj_store1 hc), mj_oks_set s5 trivial, s6.2, s7, s8⟩)
theorem mj_istore_n {i : Nat} {j : Fin 4} {x : Int32} (hd : decode M.2.1 pc = .ok (.istore_n j, 1)) (hi : (j : Nat) = i) (hq : pc + 1 = q) (hlt : i < M.2.2.1) (hc : mj_c1 lv i = true) (k : mj_W M d mc ms Q q (lv.set i (.int x)) st h) : mj_W M d mc ms Q pc lv (.int x :: st) h := by
  subst hq
  intro p l e R s m args below meth c D b e0 B0 MC MS as0 QQ X E as H locs ls cells slots S
  obtain ⟨s1, s2, s3, s4, s5, s6, s7, s8⟩ := S
  exact lv_istore_n X.1 X.2.1 hd hi s4 hlt rfl (fun ls' hl' => k p l e R s m args below meth c D b e0 B0 MC MS as0 QQ X E as H locs ls' cells slots ⟨s1, s2, s3, mj_has_sub hl' (mj_store1 hc), mj_oks_set s5 trivial, s6.2, s7, s8⟩)
theorem mj_lstore {i : Nat} {x : Int64} (hd : decode M.2.1 pc = .ok (.lstore i, 2)) (hq : pc + 2 = q) (hlt : i + 1 < M.2.2.1) (hc : mj_c1 lv i = true) (k : mj_W M d mc ms Q q ((lv.set i (.long x)).set (i + 1) .null) st h) : mj_W M d mc ms Q pc lv (.long x :: st) h := by
  subst hq
  intro p l e R s m args below meth c D b e0 B0 MC MS as0 QQ X E as H locs ls cells slots S
  obtain ⟨s1, s2, s3, s4, s5, s6, s7, s8⟩ := S
  exact lv_lstore X.1 X.2.1 hd s4 hlt rfl (fun ls' hl' => k p l e R s m args below meth c D b e0 B0 MC MS as0 QQ X E as H locs ls' cells slots ⟨s1, s2, s3, mj_has_sub hl' (mj_store2 hc), mj_oks_set (mj_oks_set s5 trivial) trivial, s6.2, s7, s8⟩)
theorem mj_lstore_n {i : Nat} {j : Fin 4} {x : Int64} (hd : decode M.2.1 pc = .ok (.lstore_n j, 1)) (hi : (j : Nat) = i) (hq : pc + 1 = q) (hlt : i + 1 < M.2.2.1) (hc : mj_c1 lv i = true) (k : mj_W M d mc ms Q q ((lv.set i (.long x)).set (i + 1) .null) st h) : mj_W M d mc ms Q pc lv (.long x :: st) h := by
  subst hq
  intro p l e R s m args below meth c D b e0 B0 MC MS as0 QQ X E as H locs ls cells slots S
  obtain ⟨s1, s2, s3, s4, s5, s6, s7, s8⟩ := S
  exact lv_lstore_n X.1 X.2.1 hd hi s4 hlt rfl (fun ls' hl' => k p l e R s m args below meth c D b e0 B0 MC MS as0 QQ X E as H locs ls' cells slots ⟨s1, s2, s3, mj_has_sub hl' (mj_store2 hc), mj_oks_set (mj_oks_set s5 trivial) trivial, s6.2, s7, s8⟩)
theorem mj_astore {i : Nat} {x : Nat} (hd : decode M.2.1 pc = .ok (.astore i, 2)) (hq : pc + 2 = q) (hlt : i < M.2.2.1) (hc : mj_c1 lv i = true) (k : mj_W M d mc ms Q q (lv.set i (.ref x)) st h) : mj_W M d mc ms Q pc lv (.ref x :: st) h := by
  subst hq
  intro p l e R s m args below meth c D b e0 B0 MC MS as0 QQ X E as H locs ls cells slots S
  obtain ⟨s1, s2, s3, s4, s5, s6, s7, s8⟩ := S
  exact lv_astore X.1 X.2.1 hd s4 hlt rfl (fun ls' hl' => k p l e R s m args below meth c D b e0 B0 MC MS as0 QQ X E as H locs ls' cells slots ⟨s1, s2, s3, mj_has_sub hl' (mj_store1 hc), mj_oks_set s5 s6.1, s6.2, s7, s8⟩)
theorem mj_astore_n {i : Nat} {j : Fin 4} {x : Nat} (hd : decode M.2.1 pc = .ok (.astore_n j, 1)) (hi : (j : Nat) = i) (hq : pc + 1 = q) (hlt : i < M.2.2.1) (hc : mj_c1 lv i = true) (k : mj_W M d mc ms Q q (lv.set i (.ref x)) st h) : mj_W M d mc ms Q pc lv (.ref x :: st) h := by
  subst hq
  intro p l e R s m args below meth c D b e0 B0 MC MS as0 QQ X E as H locs ls cells slots S
  obtain ⟨s1, s2, s3, s4, s5, s6, s7, s8⟩ := S
  exact lv_astore_n X.1 X.2.1 hd hi s4 hlt rfl (fun ls' hl' => k p l e R s m args below meth c D b e0 B0 MC MS as0 QQ X E as H locs ls' cells slots ⟨s1, s2, s3, mj_has_sub hl' (mj_store1 hc), mj_oks_set s5 s6.1, s6.2, s7, s8⟩)
theorem mj_dstore {i : Nat} {x : UInt64} (hd : decode M.2.1 pc = .ok (.dstore i, 2)) (hq : pc + 2 = q) (hlt : i + 1 < M.2.2.1) (hc : mj_c1 lv i = true) (k : mj_W M d mc ms Q q ((lv.set i (.double x)).set (i + 1) .null) st h) : mj_W M d mc ms Q pc lv (.double x :: st) h := by
  subst hq
  intro p l e R s m args below meth c D b e0 B0 MC MS as0 QQ X E as H locs ls cells slots S
  obtain ⟨s1, s2, s3, s4, s5, s6, s7, s8⟩ := S
  exact lv_dstore X.1 X.2.1 hd s4 hlt rfl (fun ls' hl' => k p l e R s m args below meth c D b e0 B0 MC MS as0 QQ X E as H locs ls' cells slots ⟨s1, s2, s3, mj_has_sub hl' (mj_store2 hc), mj_oks_set (mj_oks_set s5 trivial) trivial, s6.2, s7, s8⟩)
theorem mj_dstore_n {i : Nat} {j : Fin 4} {x : UInt64} (hd : decode M.2.1 pc = .ok (.dstore_n j, 1)) (hi : (j : Nat) = i) (hq : pc + 1 = q) (hlt : i + 1 < M.2.2.1) (hc : mj_c1 lv i = true) (k : mj_W M d mc ms Q q ((lv.set i (.double x)).set (i + 1) .null) st h) : mj_W M d mc ms Q pc lv (.double x :: st) h := by
  subst hq
  intro p l e R s m args below meth c D b e0 B0 MC MS as0 QQ X E as H locs ls cells slots S
  obtain ⟨s1, s2, s3, s4, s5, s6, s7, s8⟩ := S
  exact lv_dstore_n X.1 X.2.1 hd hi s4 hlt rfl (fun ls' hl' => k p l e R s m args below meth c D b e0 B0 MC MS as0 QQ X E as H locs ls' cells slots ⟨s1, s2, s3, mj_has_sub hl' (mj_store2 hc), mj_oks_set (mj_oks_set s5 trivial) trivial, s6.2, s7, s8⟩)
theorem mj_iinc {i : Nat} {n : Int} {x : Int32} (hd : decode M.2.1 pc = .ok (.iinc i n, 3)) (hq : pc + 3 = q) (hl : lv[i]? = some (.int x)) (hlt : i < M.2.2.1) (hc : mj_c1 lv i = true) (k : mj_W M d mc ms Q q (lv.set i (.int (x + Int32.ofInt n))) st h) : mj_W M d mc ms Q pc lv st h := by
  subst hq
  intro p l e R s m args below meth c D b e0 B0 MC MS as0 QQ X E as H locs ls cells slots S
  obtain ⟨s1, s2, s3, s4, s5, s6, s7, s8⟩ := S
  obtain ⟨j, hj⟩ := List.mem_iff_getElem?.mp ((mj_al_mem (as := as) lv 0 (i, .int x)).mpr ⟨i, .int x, hl, by simp, by rw [Nat.zero_add]; rfl⟩)
  exact lv_iinc X.1 X.2.1 hd s4 hj rfl hlt rfl (fun ls' hl' => k p l e R s m args below meth c D b e0 B0 MC MS as0 QQ X E as H locs ls' cells slots ⟨s1, s2, s3, mj_has_sub hl' (mj_store1 hc), mj_oks_set s5 trivial, s6, s7, s8⟩)
theorem mj_goto {off : Int} (hd : decode M.2.1 pc = .ok (.goto off, 3)) (ht : (pc : Int) + off = (q : Int)) (k : mj_W M d mc ms Q q lv st h) : mj_W M d mc ms Q pc lv st h := mj_pure (fun _ _ _ _ _ _ _ _ _ _ _ _ _ _ _ _ _ hx hb => lv_goto hx hb hd ht) (fun _ h => h) k
theorem mj_if_eq {x : Int32} {off : Int} {tgt : Nat} (hd : decode M.2.1 pc = .ok (.ifCond .eq off, 3)) (ht : (pc : Int) + off = (tgt : Int)) (hq : pc + 3 = q) (kt : x = 0 → mj_W M d mc ms Q tgt lv st h) (kf : ¬ x = 0 → mj_W M d mc ms Q q lv st h) : mj_W M d mc ms Q pc lv (.int x :: st) h := by
  subst hq
  intro p l e R s m args below meth c D b e0 B0 MC MS as0 QQ X E as H locs ls cells slots S
  obtain ⟨s1, s2, s3, s4, s5, s6, s7, s8⟩ := S
  exact lv_if_eq X.1 X.2.1 hd ht (fun hh => kt hh p l e R s m args below meth c D b e0 B0 MC MS as0 QQ X E as H locs ls cells slots ⟨s1, s2, s3, s4, s5, s6.2, s7, s8⟩) (fun hh => kf hh p l e R s m args below meth c D b e0 B0 MC MS as0 QQ X E as H locs ls cells slots ⟨s1, s2, s3, s4, s5, s6.2, s7, s8⟩)
theorem mj_if_lt {x : Int32} {off : Int} {tgt : Nat} (hd : decode M.2.1 pc = .ok (.ifCond .lt off, 3)) (ht : (pc : Int) + off = (tgt : Int)) (hq : pc + 3 = q) (kt : x < 0 → mj_W M d mc ms Q tgt lv st h) (kf : ¬ x < 0 → mj_W M d mc ms Q q lv st h) : mj_W M d mc ms Q pc lv (.int x :: st) h := by
  subst hq
  intro p l e R s m args below meth c D b e0 B0 MC MS as0 QQ X E as H locs ls cells slots S
  obtain ⟨s1, s2, s3, s4, s5, s6, s7, s8⟩ := S
  exact lv_if_lt X.1 X.2.1 hd ht (fun hh => kt hh p l e R s m args below meth c D b e0 B0 MC MS as0 QQ X E as H locs ls cells slots ⟨s1, s2, s3, s4, s5, s6.2, s7, s8⟩) (fun hh => kf hh p l e R s m args below meth c D b e0 B0 MC MS as0 QQ X E as H locs ls cells slots ⟨s1, s2, s3, s4, s5, s6.2, s7, s8⟩)
theorem mj_if_ge {x : Int32} {off : Int} {tgt : Nat} (hd : decode M.2.1 pc = .ok (.ifCond .ge off, 3)) (ht : (pc : Int) + off = (tgt : Int)) (hq : pc + 3 = q) (kt : 0 ≤ x → mj_W M d mc ms Q tgt lv st h) (kf : ¬ 0 ≤ x → mj_W M d mc ms Q q lv st h) : mj_W M d mc ms Q pc lv (.int x :: st) h := by
  subst hq
  intro p l e R s m args below meth c D b e0 B0 MC MS as0 QQ X E as H locs ls cells slots S
  obtain ⟨s1, s2, s3, s4, s5, s6, s7, s8⟩ := S
  exact lv_if_ge X.1 X.2.1 hd ht (fun hh => kt hh p l e R s m args below meth c D b e0 B0 MC MS as0 QQ X E as H locs ls cells slots ⟨s1, s2, s3, s4, s5, s6.2, s7, s8⟩) (fun hh => kf hh p l e R s m args below meth c D b e0 B0 MC MS as0 QQ X E as H locs ls cells slots ⟨s1, s2, s3, s4, s5, s6.2, s7, s8⟩)
theorem mj_if_gt {x : Int32} {off : Int} {tgt : Nat} (hd : decode M.2.1 pc = .ok (.ifCond .gt off, 3)) (ht : (pc : Int) + off = (tgt : Int)) (hq : pc + 3 = q) (kt : 0 < x → mj_W M d mc ms Q tgt lv st h) (kf : ¬ 0 < x → mj_W M d mc ms Q q lv st h) : mj_W M d mc ms Q pc lv (.int x :: st) h := by
  subst hq
  intro p l e R s m args below meth c D b e0 B0 MC MS as0 QQ X E as H locs ls cells slots S
  obtain ⟨s1, s2, s3, s4, s5, s6, s7, s8⟩ := S
  exact lv_if_gt X.1 X.2.1 hd ht (fun hh => kt hh p l e R s m args below meth c D b e0 B0 MC MS as0 QQ X E as H locs ls cells slots ⟨s1, s2, s3, s4, s5, s6.2, s7, s8⟩) (fun hh => kf hh p l e R s m args below meth c D b e0 B0 MC MS as0 QQ X E as H locs ls cells slots ⟨s1, s2, s3, s4, s5, s6.2, s7, s8⟩)
theorem mj_if_le {x : Int32} {off : Int} {tgt : Nat} (hd : decode M.2.1 pc = .ok (.ifCond .le off, 3)) (ht : (pc : Int) + off = (tgt : Int)) (hq : pc + 3 = q) (kt : x ≤ 0 → mj_W M d mc ms Q tgt lv st h) (kf : ¬ x ≤ 0 → mj_W M d mc ms Q q lv st h) : mj_W M d mc ms Q pc lv (.int x :: st) h := by
  subst hq
  intro p l e R s m args below meth c D b e0 B0 MC MS as0 QQ X E as H locs ls cells slots S
  obtain ⟨s1, s2, s3, s4, s5, s6, s7, s8⟩ := S
  exact lv_if_le X.1 X.2.1 hd ht (fun hh => kt hh p l e R s m args below meth c D b e0 B0 MC MS as0 QQ X E as H locs ls cells slots ⟨s1, s2, s3, s4, s5, s6.2, s7, s8⟩) (fun hh => kf hh p l e R s m args below meth c D b e0 B0 MC MS as0 QQ X E as H locs ls cells slots ⟨s1, s2, s3, s4, s5, s6.2, s7, s8⟩)
theorem mj_icmp_eq {x y : Int32} {off : Int} {tgt : Nat} (hd : decode M.2.1 pc = .ok (.if_icmp .eq off, 3)) (ht : (pc : Int) + off = (tgt : Int)) (hq : pc + 3 = q) (kt : x = y → mj_W M d mc ms Q tgt lv st h) (kf : ¬ x = y → mj_W M d mc ms Q q lv st h) : mj_W M d mc ms Q pc lv (.int y :: .int x :: st) h := by
  subst hq
  intro p l e R s m args below meth c D b e0 B0 MC MS as0 QQ X E as H locs ls cells slots S
  obtain ⟨s1, s2, s3, s4, s5, s6, s7, s8⟩ := S
  exact lv_icmp_eq X.1 X.2.1 hd ht (fun hh => kt hh p l e R s m args below meth c D b e0 B0 MC MS as0 QQ X E as H locs ls cells slots ⟨s1, s2, s3, s4, s5, s6.2.2, s7, s8⟩) (fun hh => kf hh p l e R s m args below meth c D b e0 B0 MC MS as0 QQ X E as H locs ls cells slots ⟨s1, s2, s3, s4, s5, s6.2.2, s7, s8⟩)
theorem mj_icmp_lt {x y : Int32} {off : Int} {tgt : Nat} (hd : decode M.2.1 pc = .ok (.if_icmp .lt off, 3)) (ht : (pc : Int) + off = (tgt : Int)) (hq : pc + 3 = q) (kt : x < y → mj_W M d mc ms Q tgt lv st h) (kf : ¬ x < y → mj_W M d mc ms Q q lv st h) : mj_W M d mc ms Q pc lv (.int y :: .int x :: st) h := by
  subst hq
  intro p l e R s m args below meth c D b e0 B0 MC MS as0 QQ X E as H locs ls cells slots S
  obtain ⟨s1, s2, s3, s4, s5, s6, s7, s8⟩ := S
  exact lv_icmp_lt X.1 X.2.1 hd ht (fun hh => kt hh p l e R s m args below meth c D b e0 B0 MC MS as0 QQ X E as H locs ls cells slots ⟨s1, s2, s3, s4, s5, s6.2.2, s7, s8⟩) (fun hh => kf hh p l e R s m args below meth c D b e0 B0 MC MS as0 QQ X E as H locs ls cells slots ⟨s1, s2, s3, s4, s5, s6.2.2, s7, s8⟩)
theorem mj_icmp_ge {x y : Int32} {off : Int} {tgt : Nat} (hd : decode M.2.1 pc = .ok (.if_icmp .ge off, 3)) (ht : (pc : Int) + off = (tgt : Int)) (hq : pc + 3 = q) (kt : y ≤ x → mj_W M d mc ms Q tgt lv st h) (kf : ¬ y ≤ x → mj_W M d mc ms Q q lv st h) : mj_W M d mc ms Q pc lv (.int y :: .int x :: st) h := by
  subst hq
  intro p l e R s m args below meth c D b e0 B0 MC MS as0 QQ X E as H locs ls cells slots S
  obtain ⟨s1, s2, s3, s4, s5, s6, s7, s8⟩ := S
  exact lv_icmp_ge X.1 X.2.1 hd ht (fun hh => kt hh p l e R s m args below meth c D b e0 B0 MC MS as0 QQ X E as H locs ls cells slots ⟨s1, s2, s3, s4, s5, s6.2.2, s7, s8⟩) (fun hh => kf hh p l e R s m args below meth c D b e0 B0 MC MS as0 QQ X E as H locs ls cells slots ⟨s1, s2, s3, s4, s5, s6.2.2, s7, s8⟩)
theorem mj_icmp_gt {x y : Int32} {off : Int} {tgt : Nat} (hd : decode M.2.1 pc = .ok (.if_icmp .gt off, 3)) (ht : (pc : Int) + off = (tgt : Int)) (hq : pc + 3 = q) (kt : y < x → mj_W M d mc ms Q tgt lv st h) (kf : ¬ y < x → mj_W M d mc ms Q q lv st h) : mj_W M d mc ms Q pc lv (.int y :: .int x :: st) h := by
  subst hq
  intro p l e R s m args below meth c D b e0 B0 MC MS as0 QQ X E as H locs ls cells slots S
  obtain ⟨s1, s2, s3, s4, s5, s6, s7, s8⟩ := S
  exact lv_icmp_gt X.1 X.2.1 hd ht (fun hh => kt hh p l e R s m args below meth c D b e0 B0 MC MS as0 QQ X E as H locs ls cells slots ⟨s1, s2, s3, s4, s5, s6.2.2, s7, s8⟩) (fun hh => kf hh p l e R s m args below meth c D b e0 B0 MC MS as0 QQ X E as H locs ls cells slots ⟨s1, s2, s3, s4, s5, s6.2.2, s7, s8⟩)
theorem mj_icmp_le {x y : Int32} {off : Int} {tgt : Nat} (hd : decode M.2.1 pc = .ok (.if_icmp .le off, 3)) (ht : (pc : Int) + off = (tgt : Int)) (hq : pc + 3 = q) (kt : x ≤ y → mj_W M d mc ms Q tgt lv st h) (kf : ¬ x ≤ y → mj_W M d mc ms Q q lv st h) : mj_W M d mc ms Q pc lv (.int y :: .int x :: st) h := by
  subst hq
  intro p l e R s m args below meth c D b e0 B0 MC MS as0 QQ X E as H locs ls cells slots S
  obtain ⟨s1, s2, s3, s4, s5, s6, s7, s8⟩ := S
  exact lv_icmp_le X.1 X.2.1 hd ht (fun hh => kt hh p l e R s m args below meth c D b e0 B0 MC MS as0 QQ X E as H locs ls cells slots ⟨s1, s2, s3, s4, s5, s6.2.2, s7, s8⟩) (fun hh => kf hh p l e R s m args below meth c D b e0 B0 MC MS as0 QQ X E as H locs ls cells slots ⟨s1, s2, s3, s4, s5, s6.2.2, s7, s8⟩)
theorem mj_if_ne {x : Int32} {off : Int} {tgt : Nat} (hd : decode M.2.1 pc = .ok (.ifCond .ne off, 3)) (ht : (pc : Int) + off = (tgt : Int)) (hq : pc + 3 = q) (kt : ¬ x = 0 → mj_W M d mc ms Q tgt lv st h) (kf : x = 0 → mj_W M d mc ms Q q lv st h) : mj_W M d mc ms Q pc lv (.int x :: st) h := by
  subst hq
  intro p l e R s m args below meth c D b e0 B0 MC MS as0 QQ X E as H locs ls cells slots S
  obtain ⟨s1, s2, s3, s4, s5, s6, s7, s8⟩ := S
  exact lv_if_ne X.1 X.2.1 hd ht (fun hh => kt hh p l e R s m args below meth c D b e0 B0 MC MS as0 QQ X E as H locs ls cells slots ⟨s1, s2, s3, s4, s5, s6.2, s7, s8⟩) (fun hh => kf hh p l e R s m args below meth c D b e0 B0 MC MS as0 QQ X E as H locs ls cells slots ⟨s1, s2, s3, s4, s5, s6.2, s7, s8⟩)
theorem mj_icmp_ne {x y : Int32} {off : Int} {tgt : Nat} (hd : decode M.2.1 pc = .ok (.if_icmp .ne off, 3)) (ht : (pc : Int) + off = (tgt : Int)) (hq : pc + 3 = q) (kt : ¬ x = y → mj_W M d mc ms Q tgt lv st h) (kf : x = y → mj_W M d mc ms Q q lv st h) : mj_W M d mc ms Q pc lv (.int y :: .int x :: st) h := by
  subst hq
  intro p l e R s m args below meth c D b e0 B0 MC MS as0 QQ X E as H locs ls cells slots S
  obtain ⟨s1, s2, s3, s4, s5, s6, s7, s8⟩ := S
  exact lv_icmp_ne X.1 X.2.1 hd ht (fun hh => kt hh p l e R s m args below meth c D b e0 B0 MC MS as0 QQ X E as H locs ls cells slots ⟨s1, s2, s3, s4, s5, s6.2.2, s7, s8⟩) (fun hh => kf hh p l e R s m args below meth c D b e0 B0 MC MS as0 QQ X E as H locs ls cells slots ⟨s1, s2, s3, s4, s5, s6.2.2, s7, s8⟩)
theorem mj_tabIn {dflt lo hi : Int} {offs : Array Int} {len : Nat} {x : Int32} {off : Int} (hd : decode M.2.1 pc = .ok (.tableswitch dflt lo hi offs, len)) (h1 : ¬ x.toInt < lo) (h2 : ¬ hi < x.toInt) (ho : offs[(x.toInt - lo).toNat]? = some off) (ht : (pc : Int) + off = (q : Int)) (k : mj_W M d mc ms Q q lv st h) : mj_W M d mc ms Q pc lv (.int x :: st) h := mj_pure (fun _ _ _ _ _ _ _ _ _ _ _ _ _ _ _ _ _ hx hb => lv_tableIn hx hb hd h1 h2 ho ht) (fun _ h => h.2) k
theorem mj_tabOut {dflt lo hi : Int} {offs : Array Int} {len : Nat} {x : Int32} (hd : decode M.2.1 pc = .ok (.tableswitch dflt lo hi offs, len)) (h1 : x.toInt < lo ∨ hi < x.toInt) (ht : (pc : Int) + dflt = (q : Int)) (k : mj_W M d mc ms Q q lv st h) : mj_W M d mc ms Q pc lv (.int x :: st) h := mj_pure (fun _ _ _ _ _ _ _ _ _ _ _ _ _ _ _ _ _ hx hb => lv_tableOut hx hb hd h1 ht) (fun _ h => h.2) k
theorem mj_ret {v : Option Value} (hd : decode M.2.1 pc = .ok (mj_ri v, 1)) (hr : mj_rv M v) (hq : Q.1 v h) : mj_W M d mc ms Q pc lv v.toList h := by
  intro p l e R s m args below meth c D b e0 B0 MC MS as0 QQ X E as H locs ls cells slots S
  obtain ⟨s1, s2, s3, s4, s5, s6, s7, s8⟩ := S
  exact E.1 as H locs ls cells slots pc v lv h hq hr hd ⟨s1, s2, s3, s4, s5, s6, by omega, by omega⟩
theorem mj_ireturn {x : Int32} (hd : decode M.2.1 pc = .ok (.ireturn, 1)) (hr : ∃ ty, M.2.2.2.1 = some ty ∧ narrow ty (.int x) = .int x) (hq : Q.1 (some (.int x)) h) : mj_W M d mc ms Q pc lv [.int x] h := mj_ret (v := some (.int x)) hd hr hq
theorem mj_lreturn {x : Int64} (hd : decode M.2.1 pc = .ok (.lreturn, 1)) (hr : M.2.2.2.1 = some .long) (hq : Q.1 (some (.long x)) h) : mj_W M d mc ms Q pc lv [.long x] h := mj_ret (v := some (.long x)) hd hr hq
theorem mj_dreturn {x : UInt64} (hd : decode M.2.1 pc = .ok (.dreturn, 1)) (hr : M.2.2.2.1 = some .double) (hq : Q.1 (some (.double x)) h) : mj_W M d mc ms Q pc lv [.double x] h := mj_ret (v := some (.double x)) hd hr hq
theorem mj_areturn {x : Nat} (hd : decode M.2.1 pc = .ok (.areturn, 1)) (hr : ∃ rt, M.2.2.2.1 = some rt ∧ ((∃ n, rt = .object n) ∨ ∃ t, rt = .array t)) (hq : Q.1 (some (.ref x)) h) : mj_W M d mc ms Q pc lv [.ref x] h := mj_ret (v := some (.ref x)) hd hr hq
theorem mj_return {h : mj_H} (hd : decode M.2.1 pc = .ok (.return_, 1)) (hr : M.2.2.2.1 = none) (hq : Q.1 none h) : mj_W M d mc ms Q pc lv [] h := mj_ret (v := none) hd hr hq
theorem mj_budget {mc1 ms1 : Nat} (h1 : mc1 ≤ mc) (h2 : ms1 ≤ ms) (k : mj_W M d mc1 ms1 Q pc lv st h) : mj_W M d mc ms Q pc lv st h := by
  intro p l e R s m args below meth c D b e0 B0 MC MS as0 QQ X E as H locs ls cells slots S
  obtain ⟨s1, s2, s3, s4, s5, s6, s7, s8⟩ := S
  exact k p l e R s m args below meth c D b e0 B0 MC MS as0 QQ X E as H locs ls cells slots ⟨s1, s2, s3, s4, s5, s6, by omega, by omega⟩
theorem mj_mono {Q1 : mj_Q} (hQ : ∀ v h1, Q1.1 v h1 → Q.1 v h1) (hX : ∀ n h1, Q1.2 n h1 → Q.2 n h1) (k : mj_W M d mc ms Q1 pc lv st h) : mj_W M d mc ms Q pc lv st h := by
  intro p l e R s m args below meth c D b e0 B0 MC MS as0 QQ X E as H locs ls cells slots S
  refine k p l e R s m args below meth c D b e0 B0 MC MS as0 QQ X ⟨fun as H locs ls cells slots pc v lv h hq => E.1 as H locs ls cells slots pc v lv h (hQ v h hq), ?_⟩ as H locs ls cells slots S
  rintro t ⟨o, b1, b2, b3⟩
  refine E.2 t ⟨o, b1, b2, ?_⟩
  rcases b3 with ⟨z, -⟩ | ⟨q, h0, E9, ce, L, ⟨⟨n, as1, h1, g1, g2, g3, g4⟩, g5⟩, h2⟩
  · exact z.elim
  · exact Or.inr ⟨q, h0, E9, ce, L, ⟨⟨n, as1, h1, g1, hX n h1 g2, g3, g4⟩, g5⟩, h2⟩
/-- fewer known locals -/
theorem mj_forget {lv2 : List Value} (hs : ∀ (i : Nat) (v : Value), lv2[i]? = some v → v ≠ Value.null → lv[i]? = some v) (hn : ∀ n, mj_oks n lv → mj_oks n lv2) (k : mj_W M d mc ms Q pc lv2 st h) : mj_W M d mc ms Q pc lv st h := by
  intro p l e R s m args below meth c D b e0 B0 MC MS as0 QQ X E as H locs ls cells slots S
  obtain ⟨s1, s2, s3, s4, s5, s6, s7, s8⟩ := S
  exact k p l e R s m args below meth c D b e0 B0 MC MS as0 QQ X E as H locs ls cells slots ⟨s1, s2, s3, mj_has_sub s4 (fun q hq => by
    obtain ⟨i, v, h1, h2, h3⟩ := (mj_al_mem _ _ _).mp hq
    exact (mj_al_mem _ _ _).mpr ⟨i, v, hs i v h1 h2, h2, h3⟩), hn _ s5, s6, s7, s8⟩
/-- a throw that is not caught here -/
theorem mj_T_out {n : Nat} (hh : M.2.2.2.2.2.2 = []) (hq : Q.2 n h) : mj_T M d mc ms Q pc lv n h := by
  intro p l e R s m args below meth c D b e0 B0 MC MS as0 QQ X E as H locs ls cells slots st q ce S hce hv hcl
  obtain ⟨s1, s2, s3, s4, s5, s6, s7, s8⟩ := S
  obtain ⟨x1, x2, x3, x4, x5, x6, x7, x8, x9, x10, x11, x12, x13, x14, x15, x16, x17, x18⟩ := id X
  have ht : ∀ x ∈ c.exceptionTable.toList, covers x pc = false := by
    rw [hh] at x18
    rw [List.map_eq_nil_iff.mp x18]
    intro x hx
    cases hx
  have k := vx_out (p := p) (l := l) (e := e) (R := R) (s := s) (m := m) (args := args) (below := below) (meth := meth) (c := c) (H := H) (locs := locs) (cells := cells) (slots := slots) (ls := ls) (rest := st) (free := fun q => B0 ≤ q) (Qc := fun _ _ _ _ => False) (XC := mj_XC D b e0 B0 as0 Q.2) (mc := MC) (ms := MS) (pc := pc) ht x8 hce hv hcl
    (fun t ht2 hW => ⟨⟨n, as, h, rfl, hq, s3, by rw [ht2]; exact mj_Hp.moved hW s1⟩, s2.F ht2⟩) s2.2.2 (by omega) (by omega)
  intro T hT XT
  obtain ⟨t, a1, b1⟩ := k T hT XT
  exact ⟨t, a1, E.2 t b1⟩
end MJ1
end
section
/-! RULES over the heap of the mini machine -/
theorem mT_le : ∀ ci, mT_N ci ≤ 18 := fun ci => by
  match ci with
  | 0 => decide
  | 1 => decide
  | 2 => decide
  | 3 => decide
  | 4 => decide
  | 5 => decide
  | 6 => decide
  | 7 => decide
  | 8 => decide
  | z + 9 => exact (by decide : (7 : Nat) ≤ 18)
theorem mj_fs_get (as : List Nat) (ci : Nat) (f : Nat → Int32) (g : Nat → Option Nat) {k : Nat} (hk : k < mT_N ci) : (mj_fs as ci f g)[k]? = some (mj_fv as ci f g k) := by
  unfold mj_fs
  rw [List.getElem?_map, List.getElem?_range hk]
  rfl
theorem mj_fs_len (as : List Nat) (ci : Nat) (f : Nat → Int32) (g : Nat → Option Nat) : (mj_fs as ci f g).length = mT_N ci := by
  unfold mj_fs
  rw [List.length_map, List.length_range]
theorem mj_fs_set {as : List Nat} {ci : Nat} {f f1 : Nat → Int32} {g g1 : Nat → Option Nat} {k : Nat} {v : Value} (hk : mj_fv as ci f1 g1 k = v) (hkN : k < mT_N ci)
    (hf : ∀ j, j ≠ k → j ≠ k + 64 → f1 j = f j) (hg : ∀ j, j ≠ k → g1 j = g j) : (mj_fs as ci f g).set k v = mj_fs as ci f1 g1 := by
  have hN := mT_le ci
  apply List.ext_getElem?
  intro j
  rw [List.getElem?_set]
  by_cases hj : k = j
  · subst hj
    rw [if_pos rfl, mj_fs_len, if_pos hkN, mj_fs_get _ _ _ _ hkN, hk]
  · rw [if_neg hj]
    have hj' : j ≠ k := fun e => hj e.symm
    by_cases hN : j < mT_N ci
    · rw [mj_fs_get _ _ _ _ hN, mj_fs_get _ _ _ _ hN]
      unfold mj_fv
      rw [hf j hj' (by omega), hg j hj', hf (j + 64) (by omega) (by omega)]
    · rw [List.getElem?_eq_none (by rw [mj_fs_len]; omega), List.getElem?_eq_none (by rw [mj_fs_len]; omega)]
theorem mj_fv0 {as : List Nat} {ci : Nat} {f : Nat → Int32} {g : Nat → Option Nat} {k : Nat} (h : mT_R ci k = 0) : mj_fv as ci f g k = .int (f k) := by
  unfold mj_fv
  rw [if_neg (by rw [h]; decide), if_neg (by rw [h]; decide)]
theorem mj_fv1 {as : List Nat} {ci : Nat} {f : Nat → Int32} {g : Nat → Option Nat} {k : Nat} (h : mT_R ci k = 1) : mj_fv as ci f g k = va_rf ((g k).map fun b => as.getD b 0) := by
  unfold mj_fv
  rw [if_pos h]
theorem mj_fv2 {as : List Nat} {ci : Nat} {f : Nat → Int32} {g : Nat → Option Nat} {k : Nat} (h : mT_R ci k = 2) : mj_fv as ci f g k = .long (mj_lg (f k) (f (k + 64))) := by
  unfold mj_fv
  rw [if_neg (by rw [h]; decide), if_pos h]
/-! a cell's contents by its kind -/
theorem mj_cell0 {tys : List (ClassId × FieldType)} {e0 : Nat} {as : List Nat} {L x : Nat} {f : Nat → Int32} {g : Nat → Option Nat} {e : va_E} (h : mj_cell tys e0 as (0, L, x) f g e) : ∃ (cA : ClassId) (t0 : Nat), tys[t0]? = some (cA, .int) ∧ e = .inl (cA, L, .inl f) := by
  rcases h with ⟨-, h⟩ | ⟨h, -⟩ | ⟨h, -⟩ | ⟨h, -⟩ | ⟨h, -⟩ <;> first | exact h | cases h
theorem mj_cell1 {tys : List (ClassId × FieldType)} {e0 : Nat} {as : List Nat} {L x : Nat} {f : Nat → Int32} {g : Nat → Option Nat} {e : va_E} (h : mj_cell tys e0 as (1, L, x) f g e) : ∃ (cA : ClassId) (t0 : Nat), tys[t0]? = some (cA, .object (mT_C x)) ∧ e = .inl (cA, L, .inr (.inr (.inr (.inr fun j => (g j).map fun b => as.getD b 0)))) := by
  rcases h with ⟨h, -⟩ | ⟨-, h⟩ | ⟨h, -⟩ | ⟨h, -⟩ | ⟨h, -⟩ <;> first | exact h | cases h
theorem mj_cell2 {tys : List (ClassId × FieldType)} {e0 : Nat} {as : List Nat} {ci x : Nat} {f : Nat → Int32} {g : Nat → Option Nat} {e : va_E} (h : mj_cell tys e0 as (2, ci, x) f g e) : ci < 10 ∧ e = .inr (ci, mj_fs as ci f g) := by
  rcases h with ⟨h, -⟩ | ⟨h, -⟩ | ⟨-, h⟩ | ⟨h, -⟩ | ⟨h, -⟩ <;> first | exact h | cases h
theorem mj_cell4 {tys : List (ClassId × FieldType)} {e0 : Nat} {as : List Nat} {L x : Nat} {f : Nat → Int32} {g : Nat → Option Nat} {e : va_E} (h : mj_cell tys e0 as (4, L, x) f g e) : ∃ (cA : ClassId) (t0 : Nat) (F : Nat → Int64), tys[t0]? = some (cA, .long) ∧ e = .inl (cA, L, .inr (.inl F)) ∧ ∀ j, j < L → F j = mj_lg (f j) (f (j + 64)) := by
  rcases h with ⟨h, -⟩ | ⟨h, -⟩ | ⟨h, -⟩ | ⟨-, h⟩ | ⟨h, -⟩ <;> first | exact h | cases h
theorem mj_cell5 {tys : List (ClassId × FieldType)} {e0 : Nat} {as : List Nat} {L x : Nat} {f : Nat → Int32} {g : Nat → Option Nat} {e : va_E} (h : mj_cell tys e0 as (5, L, x) f g e) : ∃ e1 : Nat, e = .inr (1, [.int (f 0), .ref e1, .int (f 2)]) ∧ (f 2 = 0 → e1 = e0) := by
  rcases h with ⟨h, -⟩ | ⟨h, -⟩ | ⟨h, -⟩ | ⟨h, -⟩ | ⟨-, h⟩ <;> first | exact h | cases h
theorem mj_mk0 {tys : List (ClassId × FieldType)} {e0 : Nat} {as : List Nat} {L x t0 : Nat} {cA : ClassId} {f : Nat → Int32} {g : Nat → Option Nat} (h : tys[t0]? = some (cA, .int)) : mj_cell tys e0 as (0, L, x) f g (.inl (cA, L, .inl f)) := Or.inl ⟨rfl, cA, t0, h, rfl⟩
theorem mj_mk1 {tys : List (ClassId × FieldType)} {e0 : Nat} {as : List Nat} {L x t0 : Nat} {cA : ClassId} {f : Nat → Int32} {g : Nat → Option Nat} (h : tys[t0]? = some (cA, .object (mT_C x))) : mj_cell tys e0 as (1, L, x) f g (.inl (cA, L, .inr (.inr (.inr (.inr fun j => (g j).map fun b => as.getD b 0))))) := Or.inr (Or.inl ⟨rfl, cA, t0, h, rfl⟩)
theorem mj_mk2 {tys : List (ClassId × FieldType)} {e0 : Nat} {as : List Nat} {ci x : Nat} {f : Nat → Int32} {g : Nat → Option Nat} (h : ci < 10) : mj_cell tys e0 as (2, ci, x) f g (.inr (ci, mj_fs as ci f g)) := Or.inr (Or.inr (Or.inl ⟨rfl, h, rfl⟩))
theorem mj_mk4 {tys : List (ClassId × FieldType)} {e0 : Nat} {as : List Nat} {L x t0 : Nat} {cA : ClassId} {F : Nat → Int64} {f : Nat → Int32} {g : Nat → Option Nat} (h : tys[t0]? = some (cA, .long)) (hF : ∀ j, j < L → F j = mj_lg (f j) (f (j + 64))) : mj_cell tys e0 as (4, L, x) f g (.inl (cA, L, .inr (.inl F))) := Or.inr (Or.inr (Or.inr (Or.inl ⟨rfl, cA, t0, F, h, rfl, hF⟩)))
theorem mj_mk5 {tys : List (ClassId × FieldType)} {e0 : Nat} {as : List Nat} {L x e1 : Nat} {f : Nat → Int32} {g : Nat → Option Nat} (h : f 2 = 0 → e1 = e0) : mj_cell tys e0 as (5, L, x) f g (.inr (1, [.int (f 0), .ref e1, .int (f 2)])) := Or.inr (Or.inr (Or.inr (Or.inr ⟨rfl, e1, rfl, h⟩)))
theorem mj_getD {as : List Nat} {b : Nat} {ws : va_W} (h : as = b :: ws.map (·.1)) {k : Nat} {q : Nat × va_E} (hk : ws[k]? = some q) : as.getD (k + 1) 0 = q.1 := by
  rw [h, List.getD_eq_getElem?_getD, List.getElem?_cons_succ, List.getElem?_map, hk]
  rfl
/-- a cell's place in the world -/
theorem mj_place {tys : List (ClassId × FieldType)} {as : List Nat} {b e0 n a : Nat} {K : Nat → mj_K} {f : Nat → Nat → Int32} {g : Nat → Nat → Option Nat} {ws : va_W} (h1 : as = b :: ws.map (·.1)) (h2 : n = ws.length + 1) (h4 : ∀ k q, ws[k]? = some q → mj_cell tys e0 as (K (k + 1)) (f (k + 1)) (g (k + 1)) q.2) (h8 : (K 0).1 = 3) (ha : a < n) (hK : (K a).1 ≠ 3) :
    ∃ (k : Nat) (e : va_E), a = k + 1 ∧ ws[k]? = some (as.getD a 0, e) ∧ mj_cell tys e0 as (K a) (f a) (g a) e := by
  cases a with
  | zero => exact absurd h8 hK
  | succ k =>
    have hk : k < ws.length := by omega
    have e := List.getElem?_eq_getElem hk
    refine ⟨k, (ws[k]).2, rfl, ?_, h4 k _ e⟩
    rw [mj_getD h1 e, e]
theorem mj_set_map {ws : va_W} {k : Nat} {a : Nat} {e0 e : va_E} (hk : ws[k]? = some (a, e0)) : (ws.set k (a, e)).map (·.1) = ws.map (·.1) := by
  apply List.ext_getElem?
  intro j
  rw [List.getElem?_map, List.getElem?_map, List.getElem?_set]
  by_cases hj : k = j
  · subst hj
    rw [if_pos rfl, hk]
    split
    · rfl
    · rename_i h
      rw [List.getElem?_eq_none (by omega)] at hk
      cases hk
  · rw [if_neg hj]
/-- the script's cell behind a step -/
theorem mj_scr {b B0 L : Nat} {xs : Nat → Int32} {s : State} {H H1 : Heap} {locs locs1 : List Loc} (hX : va_X b L xs s H) (hS : va_S (fun q => B0 ≤ q) s.heap H locs) (hS1 : va_S (fun q => B0 ≤ q) s.heap H1 locs1) (hb : b < B0) (hB : B0 ≤ s.heap.size) : va_X b L xs s H1 := by
  refine va_X.kept hX ?_
  rw [hS1.2.1 b (by omega) (by omega), hS.2.1 b (by omega) (by omega)]
theorem mj_Hp_set {D : va_G} {b e0 n k a : Nat} {as : List Nat} {K : Nat → mj_K} {f f1 : Nat → Nat → Int32} {g g1 : Nat → Nat → Option Nat} {A : Nat → Prop} {s : State} {H1 : Heap} {ws : va_W} {tys : List (ClassId × FieldType)} {ea e : va_E}
    (h1 : as = b :: ws.map (·.1)) (h2 : n = ws.length + 1) (h3 : ∀ k j c, g1 k j = some c → c < n) (h4 : ∀ k q, ws[k]? = some q → mj_cell tys e0 as (K (k + 1)) (f (k + 1)) (g (k + 1)) q.2) (h5 : va_K D vwCl tys s) (h8 : (K 0).1 = 3)
    (hk : ws[k]? = some (a, ea)) (hP : va_P D vwCl (ws.set k (a, e)) H1) (hD : va_D A (ws.set k (a, e))) (hX : va_X b (K 0).2.1 (f 0) s H1) (hc : mj_cell tys e0 as (K (k + 1)) (f1 (k + 1)) (g1 (k + 1)) e) (hf : ∀ j, j ≠ k + 1 → f1 j = f j) (hg : ∀ j, j ≠ k + 1 → g1 j = g j) :
    mj_Hp D b e0 as (n, K, f1, g1) A s H1 := by
  refine ⟨ws.set k (a, e), tys, by rw [mj_set_map hk]; exact h1, by rw [List.length_set]; exact h2, h3, ?_, h5, hP, hD, h8, ?_⟩
  · intro j q hj
    rw [List.getElem?_set] at hj
    by_cases hkj : k = j
    · subst hkj
      rw [if_pos rfl] at hj
      split at hj
      · cases hj; exact hc
      · cases hj
    · rw [if_neg hkj] at hj
      show mj_cell tys e0 as (K (j + 1)) (f1 (j + 1)) (g1 (j + 1)) q.2
      rw [hf (j + 1) (by omega), hg (j + 1) (by omega)]
      exact h4 j q hj
  · show va_X b (K 0).2.1 (f1 0) s H1
    rw [hf 0 (by omega)]
    exact hX
section MJ2
variable {M : mj_M} {d mc ms : Nat} {Q : mj_Q} {pc q : Nat} {lv st : List Value} {n : Nat} {K : Nat → mj_K} {f : Nat → Nat → Int32} {g : Nat → Nat → Option Nat}
theorem mj_getf {a idx ci sl x : Nat} (hd : decode M.2.1 pc = .ok (.getfield idx, 3)) (hF : mj_okF M.2.2.2.2.1 idx ci sl) (hr : mT_R ci sl = 0) (hq : pc + 3 = q) (hK : K a = (2, ci, x))
    (k : mj_W M d mc ms Q q lv (.int (f a sl) :: st) (n, K, f, g)) : mj_W M d mc ms Q pc lv (.ref a :: st) (n, K, f, g) := by
  subst hq
  intro p l e R s m args below meth c D b e0 B0 MC MS as0 QQ X E as H locs ls cells slots S
  obtain ⟨s1, s2, s3, s4, s5, s6, s7, s8⟩ := S
  obtain ⟨ws, tys, h1, h2, h3, h4, h5, h6, h7, h8, h9⟩ := id s1
  dsimp only at h2 h3 h4 h8 h9
  obtain ⟨j, e1, rfl, hj, hc⟩ := mj_place h1 h2 h4 h8 s6.1 (by rw [hK]; simp)
  rw [hK] at hc
  obtain ⟨hci, he⟩ := mj_cell2 hc
  subst he
  obtain ⟨f1, f2, f3⟩ := hF
  refine va_get (ref := (mT_T ci sl).1) (C := mT_C ci) (T := mT_T ci) (N := mT_N ci) X.1 X.2.1 X.2.2.2.2.1 (mT_in ci f1) X.2.2.2.1 h5 h6 j hj (mT_at ci f1) sl f2 (X.2.2.2.2.1 _ f3) (fun _ z => z) (mj_fs_get _ _ _ _ f2) hd ?_
  rw [mj_fv0 hr]
  exact k p l e R s m args below meth c D b e0 B0 MC MS as0 QQ X E as H locs ls cells slots ⟨s1, s2, s3, s4, s5, ⟨trivial, s6.2⟩, s7, s8⟩
theorem mj_getr {a idx ci sl x r : Nat} (hd : decode M.2.1 pc = .ok (.getfield idx, 3)) (hF : mj_okF M.2.2.2.2.1 idx ci sl) (hr : mT_R ci sl = 1) (hq : pc + 3 = q) (hK : K a = (2, ci, x)) (hg : g a sl = some r)
    (k : mj_W M d mc ms Q q lv (.ref r :: st) (n, K, f, g)) : mj_W M d mc ms Q pc lv (.ref a :: st) (n, K, f, g) := by
  subst hq
  intro p l e R s m args below meth c D b e0 B0 MC MS as0 QQ X E as H locs ls cells slots S
  obtain ⟨s1, s2, s3, s4, s5, s6, s7, s8⟩ := S
  obtain ⟨ws, tys, h1, h2, h3, h4, h5, h6, h7, h8, h9⟩ := id s1
  dsimp only at h2 h3 h4 h8 h9
  obtain ⟨j, e1, rfl, hj, hc⟩ := mj_place h1 h2 h4 h8 s6.1 (by rw [hK]; simp)
  rw [hK] at hc
  obtain ⟨hci, he⟩ := mj_cell2 hc
  subst he
  obtain ⟨f1, f2, f3⟩ := hF
  refine va_get (ref := (mT_T ci sl).1) (C := mT_C ci) (T := mT_T ci) (N := mT_N ci) X.1 X.2.1 X.2.2.2.2.1 (mT_in ci f1) X.2.2.2.1 h5 h6 j hj (mT_at ci f1) sl f2 (X.2.2.2.2.1 _ f3) (fun _ z => z) (mj_fs_get _ _ _ _ f2) hd ?_
  rw [mj_fv1 hr, hg]
  exact k p l e R s m args below meth c D b e0 B0 MC MS as0 QQ X E as H locs ls cells slots ⟨s1, s2, s3, s4, s5, ⟨h3 _ _ _ hg, s6.2⟩, s7, s8⟩
theorem mj_putf {a idx ci sl x : Nat} {v : Int32} (hd : decode M.2.1 pc = .ok (.putfield idx, 3)) (hF : mj_okF M.2.2.2.2.1 idx ci sl) (hr : mT_R ci sl = 0) (hq : pc + 3 = q) (hK : K a = (2, ci, x)) (hfin : (mT_T ci sl).2.2.2 = false) (hn : narrow (mT_ty ci sl) (.int v) = .int v) (hfit : fits (mT_ty ci sl) (.int v) = true)
    (k : mj_W M d mc ms Q q lv st (n, K, mj_up f a sl v, g)) : mj_W M d mc ms Q pc lv (.int v :: .ref a :: st) (n, K, f, g) := by
  subst hq
  intro p l e R s m args below meth c D b e0 B0 MC MS as0 QQ X E as H locs ls cells slots S
  obtain ⟨s1, s2, s3, s4, s5, s6, s7, s8⟩ := S
  obtain ⟨ws, tys, h1, h2, h3, h4, h5, h6, h7, h8, h9⟩ := id s1
  dsimp only at h2 h3 h4 h8 h9
  obtain ⟨j, e1, rfl, hj, hc⟩ := mj_place h1 h2 h4 h8 s6.2.1 (by rw [hK]; simp)
  rw [hK] at hc
  obtain ⟨hci, he⟩ := mj_cell2 hc
  subst he
  obtain ⟨f1, f2, f3⟩ := hF
  refine va_put (ref := (mT_T ci sl).1) (C := mT_C ci) (T := mT_T ci) (N := mT_N ci) X.1 X.2.1 X.2.2.2.2.1 (mT_in ci f1) (mT_ty ci) (mT_tyok ci f1) (mT_nm ci f1) X.2.2.2.1 h5 h6 h7 s2 j hj (mT_at ci f1) sl f2 (X.2.2.2.2.1 _ f3) (fun _ z => z) hfin (mT_tyok ci f1 sl f2) hn hfit (by rw [mj_fs_len]; exact f2) hd (fun H1 locs1 hP hD hS => ?_)
  refine k p l e R s m args below meth c D b e0 B0 MC MS as0 QQ X E as H1 locs1 ls cells slots ⟨?_, hS, s3, s4, s5, s6.2.2, s7, s8⟩
  refine mj_Hp_set h1 h2 h3 h4 h5 h8 hj hP hD (mj_scr h9 s2 hS X.2.2.2.2.2.2.2.2.2.2.2.2.2.1 X.2.2.2.2.2.2.2.2.2.2.2.2.2.2.1) ?_ (fun i hi => by funext z; simp [mj_up, hi]) (fun i hi => rfl)
  rw [hK, mj_fs_set (f1 := mj_up f (j + 1) sl v (j + 1)) (g1 := g (j + 1)) (by rw [mj_fv0 hr]; simp [mj_up]; rfl) f2 (fun i hi _ => by simp [mj_up, hi]) (fun i hi => rfl)]
  exact mj_mk2 f1
theorem mj_putr {a idx ci sl x r : Nat} (hd : decode M.2.1 pc = .ok (.putfield idx, 3)) (hF : mj_okF M.2.2.2.2.1 idx ci sl) (hr : mT_R ci sl = 1) (hq : pc + 3 = q) (hK : K a = (2, ci, x)) (hfin : (mT_T ci sl).2.2.2 = true) (hi : M.2.2.2.2.2.1 = true) (hde : (mT_T ci sl).1 = M.2.2.2.2.1) (hn : ∀ z, narrow (mT_ty ci sl) (.ref z) = .ref z) (hfit : ∀ z, fits (mT_ty ci sl) (.ref z) = true)
    (k : mj_W M d mc ms Q q lv st (n, K, f, mj_up g a sl (some r))) : mj_W M d mc ms Q pc lv (.ref r :: .ref a :: st) (n, K, f, g) := by
  subst hq
  intro p l e R s m args below meth c D b e0 B0 MC MS as0 QQ X E as H locs ls cells slots S
  obtain ⟨s1, s2, s3, s4, s5, s6, s7, s8⟩ := S
  obtain ⟨ws, tys, h1, h2, h3, h4, h5, h6, h7, h8, h9⟩ := id s1
  dsimp only at h2 h3 h4 h8 h9
  obtain ⟨j, e1, rfl, hj, hc⟩ := mj_place h1 h2 h4 h8 s6.2.1 (by rw [hK]; simp)
  rw [hK] at hc
  obtain ⟨hci, he⟩ := mj_cell2 hc
  subst he
  obtain ⟨f1, f2, f3⟩ := hF
  refine va_putF (ref := (mT_T ci sl).1) (C := mT_C ci) (T := mT_T ci) (N := mT_N ci) X.1 X.2.1 X.2.2.2.2.1 (mT_in ci f1) (mT_ty ci) (mT_tyok ci f1) (mT_nm ci f1) X.2.2.2.1 h5 h6 h7 s2 j hj (mT_at ci f1) sl f2 (X.2.2.2.2.1 _ f3) (fun _ z => z) hfin (X.2.2.2.2.2.2.2.2.1 hi) hde (mT_tyok ci f1 sl f2) (hn _) (hfit _) (by rw [mj_fs_len]; exact f2) hd (fun H1 locs1 hP hD hS => ?_)
  refine k p l e R s m args below meth c D b e0 B0 MC MS as0 QQ X E as H1 locs1 ls cells slots ⟨?_, hS, s3, s4, s5, s6.2.2, s7, s8⟩
  refine mj_Hp_set h1 h2 ?_ h4 h5 h8 hj hP hD (mj_scr h9 s2 hS X.2.2.2.2.2.2.2.2.2.2.2.2.2.1 X.2.2.2.2.2.2.2.2.2.2.2.2.2.2.1) ?_ (fun i hi => rfl) (fun i hi => by funext z; simp [mj_up, hi])
  · intro k0 j0 c0 hc0
    unfold mj_up at hc0
    split at hc0
    · cases hc0; exact s6.1
    · exact h3 _ _ _ hc0
  rw [hK, mj_fs_set (f1 := f (j + 1)) (g1 := mj_up g (j + 1) sl (some r) (j + 1)) (by rw [mj_fv1 hr]; simp [mj_up]; rfl) f2 (fun i hi _ => rfl) (fun i hi => by simp [mj_up, hi])]
  exact mj_mk2 f1
theorem mj_iald {a L : Nat} {i : Int32} (hd : decode M.2.1 pc = .ok (.iaload, 1)) (hq : pc + 1 = q) (hK : K a = (0, L, 0)) (hin : vp_in i L)
    (k : mj_W M d mc ms Q q lv (.int (f a i.toNatClampNeg) :: st) (n, K, f, g)) : mj_W M d mc ms Q pc lv (.int i :: .ref a :: st) (n, K, f, g) := by
  subst hq
  intro p l e R s m args below meth c D b e0 B0 MC MS as0 QQ X E as H locs ls cells slots S
  obtain ⟨s1, s2, s3, s4, s5, s6, s7, s8⟩ := S
  obtain ⟨ws, tys, h1, h2, h3, h4, h5, h6, h7, h8, h9⟩ := id s1
  dsimp only at h2 h3 h4 h8 h9
  obtain ⟨j, e1, rfl, hj, hc⟩ := mj_place h1 h2 h4 h8 s6.2.1 (by rw [hK]; simp)
  rw [hK] at hc
  obtain ⟨cA, t0, ht, he⟩ := mj_cell0 hc
  subst he
  exact va_iald X.1 X.2.1 h5 h6 j t0 hj ht hin hd (k p l e R s m args below meth c D b e0 B0 MC MS as0 QQ X E as H locs ls cells slots ⟨s1, s2, s3, s4, s5, ⟨trivial, s6.2.2⟩, s7, s8⟩)
theorem mj_iast {a L : Nat} {i v : Int32} (hd : decode M.2.1 pc = .ok (.iastore, 1)) (hq : pc + 1 = q) (hK : K a = (0, L, 0)) (hin : vp_in i L)
    (k : mj_W M d mc ms Q q lv st (n, K, mj_up f a i.toNatClampNeg v, g)) : mj_W M d mc ms Q pc lv (.int v :: .int i :: .ref a :: st) (n, K, f, g) := by
  subst hq
  intro p l e R s m args below meth c D b e0 B0 MC MS as0 QQ X E as H locs ls cells slots S
  obtain ⟨s1, s2, s3, s4, s5, s6, s7, s8⟩ := S
  obtain ⟨ws, tys, h1, h2, h3, h4, h5, h6, h7, h8, h9⟩ := id s1
  dsimp only at h2 h3 h4 h8 h9
  obtain ⟨j, e1, rfl, hj, hc⟩ := mj_place h1 h2 h4 h8 s6.2.2.1 (by rw [hK]; simp)
  rw [hK] at hc
  obtain ⟨cA, t0, ht, he⟩ := mj_cell0 hc
  subst he
  refine va_iast X.1 X.2.1 h5 h6 h7 s2 j t0 hj ht hin hd (fun H1 locs1 hP hD hS => ?_)
  refine k p l e R s m args below meth c D b e0 B0 MC MS as0 QQ X E as H1 locs1 ls cells slots ⟨?_, hS, s3, s4, s5, s6.2.2.2, s7, s8⟩
  refine mj_Hp_set h1 h2 h3 h4 h5 h8 hj hP hD (mj_scr h9 s2 hS X.2.2.2.2.2.2.2.2.2.2.2.2.2.1 X.2.2.2.2.2.2.2.2.2.2.2.2.2.2.1) ?_ (fun i hi => by funext z; simp [mj_up, hi]) (fun i hi => rfl)
  rw [hK, show upd (f (j + 1)) i.toNatClampNeg v = mj_up f (j + 1) i.toNatClampNeg v (j + 1) from by funext z; simp [mj_up, upd]]
  exact mj_mk0 ht
theorem mj_aald {a L ci r : Nat} {i : Int32} (hd : decode M.2.1 pc = .ok (.aaload, 1)) (hq : pc + 1 = q) (hK : K a = (1, L, ci)) (hin : vp_in i L) (hg : g a i.toNatClampNeg = some r)
    (k : mj_W M d mc ms Q q lv (.ref r :: st) (n, K, f, g)) : mj_W M d mc ms Q pc lv (.int i :: .ref a :: st) (n, K, f, g) := by
  subst hq
  intro p l e R s m args below meth c D b e0 B0 MC MS as0 QQ X E as H locs ls cells slots S
  obtain ⟨s1, s2, s3, s4, s5, s6, s7, s8⟩ := S
  obtain ⟨ws, tys, h1, h2, h3, h4, h5, h6, h7, h8, h9⟩ := id s1
  dsimp only at h2 h3 h4 h8 h9
  obtain ⟨j, e1, rfl, hj, hc⟩ := mj_place h1 h2 h4 h8 s6.2.1 (by rw [hK]; simp)
  rw [hK] at hc
  obtain ⟨cA, t0, ht, he⟩ := mj_cell1 hc
  subst he
  · refine va_aldq X.1 X.2.1 h5 h6 j t0 hj ht hin hd ?_
    rw [hg]
    exact k p l e R s m args below meth c D b e0 B0 MC MS as0 QQ X E as H locs ls cells slots ⟨s1, s2, s3, s4, s5, ⟨h3 _ _ _ hg, s6.2.2⟩, s7, s8⟩
theorem mj_aast {a L ci r y : Nat} {i : Int32} (hd : decode M.2.1 pc = .ok (.aastore, 1)) (hq : pc + 1 = q) (hK : K a = (1, L, ci)) (hin : vp_in i L) (hr : K r = (2, ci, y))
    (k : mj_W M d mc ms Q q lv st (n, K, f, mj_up g a i.toNatClampNeg (some r))) : mj_W M d mc ms Q pc lv (.ref r :: .int i :: .ref a :: st) (n, K, f, g) := by
  subst hq
  intro p l e R s m args below meth c D b e0 B0 MC MS as0 QQ X E as H locs ls cells slots S
  obtain ⟨s1, s2, s3, s4, s5, s6, s7, s8⟩ := S
  obtain ⟨ws, tys, h1, h2, h3, h4, h5, h6, h7, h8, h9⟩ := id s1
  dsimp only at h2 h3 h4 h8 h9
  obtain ⟨j, e1, rfl, hj, hc⟩ := mj_place h1 h2 h4 h8 s6.2.2.1 (by rw [hK]; simp)
  obtain ⟨j2, e2, rfl, hj2, hc2⟩ := mj_place h1 h2 h4 h8 s6.1 (by rw [hr]; simp)
  rw [hK] at hc
  obtain ⟨cA, t0, ht, he⟩ := mj_cell1 hc
  rw [hr] at hc2
  obtain ⟨hci, he2⟩ := mj_cell2 hc2
  subst he
  subst he2
  refine va_astq X.1 X.2.1 h5 h6 h7 s2 j t0 j2 ci hj ht hj2 (mT_at ci hci) hin hd (fun H1 locs1 hP hD hS => ?_)
  refine k p l e R s m args below meth c D b e0 B0 MC MS as0 QQ X E as H1 locs1 ls cells slots ⟨?_, hS, s3, s4, s5, s6.2.2.2, s7, s8⟩
  refine mj_Hp_set h1 h2 ?_ h4 h5 h8 hj hP hD (mj_scr h9 s2 hS X.2.2.2.2.2.2.2.2.2.2.2.2.2.1 X.2.2.2.2.2.2.2.2.2.2.2.2.2.2.1) ?_ (fun i hi => rfl) (fun i hi => by funext z; simp [mj_up, hi])
  · intro k0 j0 c0 hc0
    unfold mj_up at hc0
    split at hc0
    · cases hc0; exact s6.1
    · exact h3 _ _ _ hc0
  rw [hK, show va_up (fun j2 => (g (j + 1) j2).map fun b => as.getD b 0) i.toNatClampNeg (some (as.getD (j2 + 1) 0)) = fun z => (mj_up g (j + 1) i.toNatClampNeg (some (j2 + 1)) (j + 1) z).map fun b => as.getD b 0 from by
    funext z
    simp only [mj_up, va_up]
    by_cases hz : z = i.toNatClampNeg
    · simp [hz]
    · simp [hz]]
  exact mj_mk1 ht
theorem mj_alen {a L t : Nat} {v : Int32} (hd : decode M.2.1 pc = .ok (.arraylength, 1)) (hq : pc + 1 = q) (hK : K a = (0, L, t)) (hv : Int32.ofNat L = v)
    (k : mj_W M d mc ms Q q lv (.int v :: st) (n, K, f, g)) : mj_W M d mc ms Q pc lv (.ref a :: st) (n, K, f, g) := by
  subst hq
  intro p l e R s m args below meth c D b e0 B0 MC MS as0 QQ X E as H locs ls cells slots S
  obtain ⟨s1, s2, s3, s4, s5, s6, s7, s8⟩ := S
  obtain ⟨ws, tys, h1, h2, h3, h4, h5, h6, h7, h8, h9⟩ := id s1
  dsimp only at h2 h3 h4 h8 h9
  obtain ⟨j, e1, rfl, hj, hc⟩ := mj_place h1 h2 h4 h8 s6.1 (by rw [hK]; simp)
  rw [hK] at hc
  obtain ⟨cA, t0, ht, he⟩ := mj_cell0 hc
  subst he
  exact va_alen X.1 X.2.1 h5 h6 j t0 hj ht hv hd (k p l e R s m args below meth c D b e0 B0 MC MS as0 QQ X E as H locs ls cells slots ⟨s1, s2, s3, s4, s5, ⟨trivial, s6.2⟩, s7, s8⟩)
/-- the script: cell 0 -/
theorem mj_sld {L : Nat} {i : Int32} (hd : decode M.2.1 pc = .ok (.iaload, 1)) (hq : pc + 1 = q) (hK : K 0 = (3, L, 0)) (hin : vp_in i L)
    (k : mj_W M d mc ms Q q lv (.int (f 0 i.toNatClampNeg) :: st) (n, K, f, g)) : mj_W M d mc ms Q pc lv (.int i :: .ref 0 :: st) (n, K, f, g) := by
  subst hq
  intro p l e R s m args below meth c D b e0 B0 MC MS as0 QQ X E as H locs ls cells slots S
  obtain ⟨s1, s2, s3, s4, s5, s6, s7, s8⟩ := S
  obtain ⟨ws, tys, h1, h2, h3, h4, h5, h6, h7, h8, h9⟩ := id s1
  dsimp only at h2 h3 h4 h8 h9
  rw [hK] at h9
  obtain ⟨scr, g1, g2, g3, g4, g5⟩ := h9
  have hlt : i.toNatClampNeg < L := Nat.not_le.mp fun z => hin (Or.inr z)
  have h0 : as.getD 0 0 = b := by rw [h1]; rfl
  have hst : List.map (mj_t as) (.int i :: .ref 0 :: st) = .int i :: .ref b :: st.map (mj_t as) := by
    show _ :: Value.ref (as.getD 0 0) :: _ = _
    rw [h0]
    rfl
  rw [hst]
  exact W.iald (v := .int (f 0 i.toNatClampNeg)) X.1 X.2.1 g1 g2 g3 (by rw [g4]; exact hin) (g5 _ hlt) rfl rfl hd (k p l e R s m args below meth c D b e0 B0 MC MS as0 QQ X E as H locs ls cells slots ⟨s1, s2, s3, s4, s5, ⟨trivial, s6.2.2⟩, s7, s8⟩)
theorem mj_slen {L : Nat} {v : Int32} (hd : decode M.2.1 pc = .ok (.arraylength, 1)) (hq : pc + 1 = q) (hK : K 0 = (3, L, 0)) (hv : Int32.ofNat L = v)
    (k : mj_W M d mc ms Q q lv (.int v :: st) (n, K, f, g)) : mj_W M d mc ms Q pc lv (.ref 0 :: st) (n, K, f, g) := by
  subst hq
  subst hv
  intro p l e R s m args below meth c D b e0 B0 MC MS as0 QQ X E as H locs ls cells slots S
  obtain ⟨s1, s2, s3, s4, s5, s6, s7, s8⟩ := S
  obtain ⟨ws, tys, h1, h2, h3, h4, h5, h6, h7, h8, h9⟩ := id s1
  dsimp only at h2 h3 h4 h8 h9
  rw [hK] at h9
  obtain ⟨scr, g1, g2, g3, g4, g5⟩ := h9
  have h0 : as.getD 0 0 = b := by rw [h1]; rfl
  have hst : List.map (mj_t as) (.ref 0 :: st) = .ref b :: st.map (mj_t as) := by
    show Value.ref (as.getD 0 0) :: _ = _
    rw [h0]
  rw [hst]
  exact W.alen (n := Int32.ofNat L) X.1 X.2.1 g1 g2 (by rw [g4] <;> rfl) rfl rfl hd (k p l e R s m args below meth c D b e0 B0 MC MS as0 QQ X E as H locs ls cells slots ⟨s1, s2, s3, s4, s5, ⟨trivial, s6.2⟩, s7, s8⟩)
theorem mj_getl {a idx ci sl x : Nat} (hd : decode M.2.1 pc = .ok (.getfield idx, 3)) (hF : mj_okF M.2.2.2.2.1 idx ci sl) (hr : mT_R ci sl = 2) (hq : pc + 3 = q) (hK : K a = (2, ci, x))
    (k : mj_W M d mc ms Q q lv (.long (mj_lg (f a sl) (f a (sl + 64))) :: st) (n, K, f, g)) : mj_W M d mc ms Q pc lv (.ref a :: st) (n, K, f, g) := by
  subst hq
  intro p l e R s m args below meth c D b e0 B0 MC MS as0 QQ X E as H locs ls cells slots S
  obtain ⟨s1, s2, s3, s4, s5, s6, s7, s8⟩ := S
  obtain ⟨ws, tys, h1, h2, h3, h4, h5, h6, h7, h8, h9⟩ := id s1
  dsimp only at h2 h3 h4 h8 h9
  obtain ⟨j, e1, rfl, hj, hc⟩ := mj_place h1 h2 h4 h8 s6.1 (by rw [hK]; simp)
  rw [hK] at hc
  obtain ⟨hci, he⟩ := mj_cell2 hc
  subst he
  obtain ⟨f1, f2, f3⟩ := hF
  refine va_get (ref := (mT_T ci sl).1) (C := mT_C ci) (T := mT_T ci) (N := mT_N ci) X.1 X.2.1 X.2.2.2.2.1 (mT_in ci f1) X.2.2.2.1 h5 h6 j hj (mT_at ci f1) sl f2 (X.2.2.2.2.1 _ f3) (fun _ z => z) (mj_fs_get _ _ _ _ f2) hd ?_
  rw [mj_fv2 hr]
  exact k p l e R s m args below meth c D b e0 B0 MC MS as0 QQ X E as H locs ls cells slots ⟨s1, s2, s3, s4, s5, ⟨trivial, s6.2⟩, s7, s8⟩
/-- a long is put as two ints -/
def mj_upl (f : Nat → Nat → Int32) (a k : Nat) (v : Int64) : Nat → Nat → Int32 := mj_up (mj_up f a k (mj_lh v)) a (k + 64) (mj_ll v)
theorem mj_upl_get (f : Nat → Nat → Int32) (a k : Nat) (v : Int64) : mj_lg (mj_upl f a k v a k) (mj_upl f a k v a (k + 64)) = v := by
  have e1 : mj_upl f a k v a k = mj_lh v := by simp [mj_upl, mj_up]
  have e2 : mj_upl f a k v a (k + 64) = mj_ll v := by simp [mj_upl, mj_up]
  rw [e1, e2]
  exact mj_lg_eq v
theorem mj_putl {a idx ci sl x : Nat} {v : Int64} (hd : decode M.2.1 pc = .ok (.putfield idx, 3)) (hF : mj_okF M.2.2.2.2.1 idx ci sl) (hr : mT_R ci sl = 2) (hq : pc + 3 = q) (hK : K a = (2, ci, x)) (hfin : (mT_T ci sl).2.2.2 = false) (hn : narrow (mT_ty ci sl) (.long v) = .long v) (hfit : fits (mT_ty ci sl) (.long v) = true)
    (k : mj_W M d mc ms Q q lv st (n, K, mj_upl f a sl v, g)) : mj_W M d mc ms Q pc lv (.long v :: .ref a :: st) (n, K, f, g) := by
  subst hq
  intro p l e R s m args below meth c D b e0 B0 MC MS as0 QQ X E as H locs ls cells slots S
  obtain ⟨s1, s2, s3, s4, s5, s6, s7, s8⟩ := S
  obtain ⟨ws, tys, h1, h2, h3, h4, h5, h6, h7, h8, h9⟩ := id s1
  dsimp only at h2 h3 h4 h8 h9
  obtain ⟨j, e1, rfl, hj, hc⟩ := mj_place h1 h2 h4 h8 s6.2.1 (by rw [hK]; simp)
  rw [hK] at hc
  obtain ⟨hci, he⟩ := mj_cell2 hc
  subst he
  obtain ⟨f1, f2, f3⟩ := hF
  refine va_put (ref := (mT_T ci sl).1) (C := mT_C ci) (T := mT_T ci) (N := mT_N ci) X.1 X.2.1 X.2.2.2.2.1 (mT_in ci f1) (mT_ty ci) (mT_tyok ci f1) (mT_nm ci f1) X.2.2.2.1 h5 h6 h7 s2 j hj (mT_at ci f1) sl f2 (X.2.2.2.2.1 _ f3) (fun _ z => z) hfin (mT_tyok ci f1 sl f2) hn hfit (by rw [mj_fs_len]; exact f2) hd (fun H1 locs1 hP hD hS => ?_)
  refine k p l e R s m args below meth c D b e0 B0 MC MS as0 QQ X E as H1 locs1 ls cells slots ⟨?_, hS, s3, s4, s5, s6.2.2, s7, s8⟩
  refine mj_Hp_set h1 h2 h3 h4 h5 h8 hj hP hD (mj_scr h9 s2 hS X.2.2.2.2.2.2.2.2.2.2.2.2.2.1 X.2.2.2.2.2.2.2.2.2.2.2.2.2.2.1) ?_ (fun i hi => by funext z; simp [mj_upl, mj_up, hi]) (fun i hi => rfl)
  rw [hK, mj_fs_set (f1 := mj_upl f (j + 1) sl v (j + 1)) (g1 := g (j + 1)) (by rw [mj_fv2 hr, mj_upl_get]; rfl) f2 (fun i hi hi2 => by simp [mj_upl, mj_up, hi, hi2]) (fun i hi => rfl)]
  exact mj_mk2 f1
theorem mj_lald {a L x : Nat} {i : Int32} (hd : decode M.2.1 pc = .ok (.laload, 1)) (hq : pc + 1 = q) (hK : K a = (4, L, x)) (hin : vp_in i L)
    (k : mj_W M d mc ms Q q lv (.long (mj_lg (f a i.toNatClampNeg) (f a (i.toNatClampNeg + 64))) :: st) (n, K, f, g)) : mj_W M d mc ms Q pc lv (.int i :: .ref a :: st) (n, K, f, g) := by
  subst hq
  intro p l e R s m args below meth c D b e0 B0 MC MS as0 QQ X E as H locs ls cells slots S
  obtain ⟨s1, s2, s3, s4, s5, s6, s7, s8⟩ := S
  obtain ⟨ws, tys, h1, h2, h3, h4, h5, h6, h7, h8, h9⟩ := id s1
  dsimp only at h2 h3 h4 h8 h9
  obtain ⟨j, e1, rfl, hj, hc⟩ := mj_place h1 h2 h4 h8 s6.2.1 (by rw [hK]; simp)
  rw [hK] at hc
  obtain ⟨cA, t0, F, ht, he, hF⟩ := mj_cell4 hc
  subst he
  have hF := hF _ (Nat.not_le.mp fun z => hin (Or.inr z))
  refine va_lald X.1 X.2.1 h5 h6 j t0 hj ht hin hd ?_
  rw [hF]
  exact (k p l e R s m args below meth c D b e0 B0 MC MS as0 QQ X E as H locs ls cells slots ⟨s1, s2, s3, s4, s5, ⟨trivial, s6.2.2⟩, s7, s8⟩)
/-- out[0] -/
theorem mj_last0 {a x : Nat} {v : Int64} (hd : decode M.2.1 pc = .ok (.lastore, 1)) (hq : pc + 1 = q) (hK : K a = (4, 1, x))
    (k : mj_W M d mc ms Q q lv st (n, K, mj_upl f a 0 v, g)) : mj_W M d mc ms Q pc lv (.long v :: .int 0 :: .ref a :: st) (n, K, f, g) := by
  subst hq
  intro p l e R s m args below meth c D b e0 B0 MC MS as0 QQ X E as H locs ls cells slots S
  obtain ⟨s1, s2, s3, s4, s5, s6, s7, s8⟩ := S
  obtain ⟨ws, tys, h1, h2, h3, h4, h5, h6, h7, h8, h9⟩ := id s1
  dsimp only at h2 h3 h4 h8 h9
  obtain ⟨j, e1, rfl, hj, hc⟩ := mj_place h1 h2 h4 h8 s6.2.2.1 (by rw [hK]; simp)
  rw [hK] at hc
  obtain ⟨cA, t0, F, ht, he, hF⟩ := mj_cell4 hc
  subst he
  refine va_last (i := 0) X.1 X.2.1 h5 h6 h7 s2 j t0 hj ht (vp_in_nI (n := 0) (N := 1) (by decide) (by decide)) hd (fun H1 locs1 hP hD hS => ?_)
  refine k p l e R s m args below meth c D b e0 B0 MC MS as0 QQ X E as H1 locs1 ls cells slots ⟨?_, hS, s3, s4, s5, s6.2.2.2, s7, s8⟩
  refine mj_Hp_set h1 h2 h3 h4 h5 h8 hj hP hD (mj_scr h9 s2 hS X.2.2.2.2.2.2.2.2.2.2.2.2.2.1 X.2.2.2.2.2.2.2.2.2.2.2.2.2.2.1) ?_ (fun i hi => by funext z; simp [mj_upl, mj_up, hi]) (fun i hi => rfl)
  rw [hK]
  refine mj_mk4 ht (fun i hi => ?_)
  have hi0 : i = 0 := by omega
  subst hi0
  rw [mj_upl_get]
  rfl
end MJ2
end
section
/-! CALLS, entries; a call may throw -/
theorem mj_goodc (w0 : Cond) (hc : w0 ∈ mj_TW) : GoodIn mj_TW (w0 :: mj_TW) := by
  intro w hw
  rcases List.mem_cons.mp hw with rfl | h
  · exact ⟨hc, good_of_word (mj_TWg _ hc)⟩
  · exact ⟨h, good_of_word (mj_TWg _ h)⟩
theorem mj_S0.kept {e0 B0 : Nat} {s U : State} {H : Heap} {locs : List Loc} (h : mj_S0 e0 (fun q => B0 ≤ q) s) (hS : va_S (fun q => B0 ≤ q) s.heap H locs) (hU : U.heap = H) (hW : s.WarmedH U.vm) : mj_S0 e0 (fun q => B0 ≤ q) U := by
  obtain ⟨h1, h2, h3, h4, scr, h5, ⟨ty, h6⟩, h7⟩ := h
  rw [← hU] at hS
  exact ⟨vx_Zq.moved hW.alike (vx_Zq.kept h1 hS.2.1), vx_Zq.moved hW.alike (vx_Zq.kept h2 hS.2.1), va_Z.moved hW.alike (va_Z.kept h3 hS.2.1), h4, scr, by rw [hS.2.1 e0 (Array.getElem?_eq_some_iff.mp h5).1 h4]; exact h5, ⟨ty, State.isArrayOf_alike hW.alike h6⟩, h7⟩
theorem mj_lvcat (as : List Nat) : ∀ (vs : List Value), (lg_sl (vs.map (mj_t as))).length = (lg_sl vs).length
  | [] => rfl
  | v :: vs => by
    have ih := mj_lvcat as vs
    unfold lg_sl at ih ⊢
    rw [List.map_cons, List.flatMap_cons, List.flatMap_cons, List.length_append, List.length_append, ih, mj_t_cat]
    split <;> rfl
/-- the locals at an entry -/
def mj_lv0 : List Value → List Value
  | [] => []
  | v :: vs => if v.category = 2 then v :: .null :: mj_lv0 vs else v :: mj_lv0 vs
theorem mj_lv0_args (as : List Nat) : ∀ (vs : List Value) (i : Nat) (q : Nat × Value), q ∈ mj_al as i (mj_lv0 vs) → q ∈ lv_args i (vs.map (mj_t as))
  | [], i, q, h => by simp [mj_lv0, mj_al] at h
  | v :: vs, i, q, h => by
    rw [List.map_cons, lv_args, mj_t_cat]
    by_cases hv : v.category = 2
    · rw [if_pos hv]
      rw [mj_lv0, if_pos hv] at h
      have hn : v ≠ .null := by rintro rfl; cases hv
      have e : mj_al as i (v :: .null :: mj_lv0 vs) = (i, mj_t as v) :: mj_al as (i + 2) (mj_lv0 vs) := by
        cases v <;> first | rfl | exact absurd rfl hn
      rw [e] at h
      rcases List.mem_cons.mp h with h | h
      · exact List.mem_cons.mpr (Or.inl h)
      · exact List.mem_cons.mpr (Or.inr (mj_lv0_args as vs (i + 2) q h))
    · rw [if_neg hv]
      rw [mj_lv0, if_neg hv] at h
      by_cases hn : v = .null
      · subst hn
        exact List.mem_cons.mpr (Or.inr (mj_lv0_args as vs (i + 1) q h))
      · have e : mj_al as i (v :: mj_lv0 vs) = (i, mj_t as v) :: mj_al as (i + 1) (mj_lv0 vs) := by
          cases v <;> first | rfl | exact absurd rfl hn
        rw [e] at h
        rcases List.mem_cons.mp h with h | h
        · exact List.mem_cons.mpr (Or.inl h)
        · exact List.mem_cons.mpr (Or.inr (mj_lv0_args as vs (i + 1) q h))
theorem mj_oks_lv0 {n : Nat} : ∀ {vs : List Value}, mj_oks n vs → mj_oks n (mj_lv0 vs)
  | [], _ => trivial
  | v :: vs, h => by
    rw [mj_lv0]
    split
    · exact ⟨h.1, trivial, mj_oks_lv0 h.2⟩
    · exact ⟨h.1, mj_oks_lv0 h.2⟩
theorem mj_al_null (as : List Nat) : ∀ (k : Nat) (lv : List Value) (i : Nat), mj_al as i (lv ++ List.replicate k .null) = mj_al as i lv
  | k, v :: lv, i => by
    have ih := mj_al_null as k lv (i + 1)
    cases v <;> first | exact ih | (show _ :: mj_al as (i + 1) (lv ++ List.replicate k .null) = _ :: mj_al as (i + 1) lv; rw [ih])
  | 0, [], i => rfl
  | k + 1, [], i => mj_al_null as k [] (i + 1)
theorem mj_oks_null {n : Nat} : ∀ (k : Nat), mj_oks n (List.replicate k .null)
  | 0 => trivial
  | k + 1 => ⟨trivial, mj_oks_null k⟩
def mj_lvE (M : mj_M) (args : List Value) : List Value := mj_lv0 args ++ List.replicate (M.2.2.1 - (mj_lv0 args).length) .null
/-- what a program decides of a method -/
def mj_fine (K : mj_M) (args : List Value) : Prop := plainName K.1.cls = true ∧ (K.2.2.2.2.2.1 = true → K.1.name = "<init>") ∧ K.2.2.2.2.1 = K.1.cls ∧ (lg_sl args).length ≤ K.2.2.1
theorem mj_enter {K : mj_M} {d mc ms : Nat} {args : List Value} {h : mj_H} {Q : mj_Q} {p : Program} {l : Launch} {e : Env} {s : State} {m : MethodId} {below : List Frame} {meth : Method} {c : Code} {D : va_G} {b e0 B0 : Nat} {as : List Nat}
    (hl : l.stackTraces = false) (hx : p.tables.exec = Jvm.exec) (hb : c.code = K.2.1) (hml : c.maxLocals = K.2.2.1) (hown : s.vm.findClass K.2.2.2.2.1 = some m.cls) (hts : ∀ w ∈ mj_TW, w.before (args.map (mj_t as)).toArray s = true)
    (hr : meth.sig.returnType = K.2.2.2.1) (hlocks : meth.locks = false) (hnm : K.2.2.2.2.2.1 = true → meth.name = "<init>") (htab : c.exceptionTable.toList.map (fun h => (h.startPc, h.endPc, h.handlerPc, h.catchType)) = K.2.2.2.2.2.2) (hlen : (lg_sl args).length ≤ K.2.2.1)
    (hH : mj_Hp D b e0 as h (fun q => B0 ≤ q) s s.heap) (hok : mj_oks h.1 args) (hxw : mj_XW s) (hb0 : b < B0) (hB0 : B0 ≤ s.heap.size) (hS0 : mj_S0 e0 (fun q => B0 ≤ q) s) (hw : mj_W K d mc ms Q 0 (mj_lvE K args) [] h) :
    W p l e (mj_rm d mc ms) s m (args.map (mj_t as)).toArray below meth c s.heap [] 0 0 (vx_MQ below (mj_Qc D b e0 B0 as Q) (mj_XC D b e0 B0 as Q.2) (args.map (mj_t as)).toArray s mc ms (fun q => B0 ≤ q)) (entryFrame m (args.map (mj_t as)).toArray K.2.2.1) := by
  have hll := lv_entry (args.map (mj_t as)) (n := K.2.2.1) (by rw [mj_lvcat]; exact hlen)
  rw [lg_entry_eq]
  generalize (lg_sl (args.map (mj_t as)) ++ List.replicate (K.2.2.1 - (lg_sl (args.map (mj_t as))).length) Slot.unset).toArray = ls at hll ⊢
  refine hw p l e _ s m _ below meth c D b e0 B0 mc ms as _ ⟨hx, hb, hml, hown, hts, hxw, hr, hlocks, hnm, Nat.le_refl _, Nat.le_refl _, Nat.le_refl _, Nat.le_refl _, hb0, hB0, hS0, hl, htab⟩ ⟨?_, ?_⟩ as s.heap [] ls 0 0 ⟨hH, va_S.rf, ⟨[], by simp⟩, ?_, ?_, trivial, by omega, by omega⟩
  · intro as2 H locs ls cells slots pc v lv h hq hrv hd S
    obtain ⟨s1, s2, s3, s4, s5, s6, s7, s8⟩ := S
    refine vx_ret (W.widen (k := mc) (n := ms) (by omega) (by omega) ?_)
    have hfin : ∀ t : State, t.heap = H → s.WarmedH t.vm → mj_Qc D b e0 B0 as Q (args.map (mj_t as)).toArray s (.returned (v.map (mj_t as2))) t := fun t ht hW =>
      ⟨⟨v, as2, h, rfl, hq, s3, by rw [ht]; exact mj_Hp.moved hW.alike s1, s6⟩, s2.F ht⟩
    rcases v with _ | v
    · exact W.vret hx hb (hr.trans hrv) hfin s2.2.2 hd
    · cases v <;> first | exact absurd hrv (fun z => z) | skip
      · obtain ⟨ty, h1, h2⟩ := hrv
        exact W.zret hx hb (hr.trans h1) h2 hfin s2.2.2 hd
      · exact W.lret hx hb (hr.trans hrv) hfin s2.2.2 hd
      · exact W.dret hx hb (hr.trans hrv) hfin s2.2.2 hd
      · obtain ⟨rt, h1, h2⟩ := hrv
        exact W.aret hx hb (hr.trans h1) h2 (Or.inr ⟨_, rfl⟩) hfin s2.2.2 hd
  · rintro t ⟨o, b1, b2, b3⟩
    refine ⟨o, b1, b2, ?_⟩
    rcases b3 with ⟨z, -⟩ | b3
    · exact z.elim
    · exact Or.inr b3
  · refine mj_has_sub hll (fun q hq => ?_)
    rw [mj_lvE, mj_al_null] at hq
    exact mj_lv0_args as args 0 q hq
  · rw [mj_lvE, mj_oks_app]
    exact ⟨mj_oks_lv0 hok, mj_oks_null _⟩
theorem mj_entry {K : mj_M} {d mc ms : Nat} {args : List Value} {h : mj_H} {Q : mj_Q} (hf : mj_fine K args) (hw : mj_W K d mc ms Q 0 (mj_lvE K args) [] h) (hh : K.2.2.2.2.2.2 = [] := by rfl) : mj_C K d mc ms args h Q := by
  intro l hl D b e0 B0 as
  obtain ⟨hy, hi, ho, hlen⟩ := hf
  refine vx_ofW (cc := K.2.1) (maxL := K.2.2.1) (ret := K.2.2.2.1) hy rfl ?_
  intro p e s m args' below meth c s₁ B hml htab hv
  obtain ⟨rfl, hH, hok, hxw, hb0, hB0, hS0⟩ := hv
  have hts := atoms_spec (ws := mj_ws K) B.pre
  have hown : s.vm.findClass K.1.cls = some m.cls := findClass_of_methodNamed B.named
  exact mj_enter hl B.exec B.bytes hml (by rw [ho]; exact hown) (fun w hw => hts w (List.mem_cons_of_mem _ hw)) B.returns B.notSynchronized (fun h => (name_of_methodNamed B.named B.method).1.trans (hi h))
    (by rw [hh, List.map_eq_nil_iff]; exact List.eq_nil_iff_forall_not_mem.mpr htab) hlen hH hok hxw hb0 hB0 hS0 hw
theorem mj_entryH {K : mj_M} {d mc ms : Nat} {args : List Value} {h : mj_H} {Q : mj_Q} (hf : mj_fine K args) (hw : mj_W K d mc ms Q 0 (mj_lvE K args) [] h) : mj_CH K d mc ms args h Q := by
  intro l hl D b e0 B0 as
  obtain ⟨hy, hi, ho, hlen⟩ := hf
  refine vx_ofWH (cc := K.2.1) (maxL := K.2.2.1) (ret := K.2.2.2.1) (hh := K.2.2.2.2.2.2) hy rfl ?_
  intro p e s m args' below meth c s₁ B hml hv
  obtain ⟨rfl, hH, hok, hxw, hb0, hB0, hS0⟩ := hv
  have hts := atoms_spec (ws := mj_wsH K) B.pre
  have hown : s.vm.findClass K.1.cls = some m.cls := findClass_of_methodNamed B.named
  have htab : c.exceptionTable.toList.map (fun h => (h.startPc, h.endPc, h.handlerPc, h.catchType)) = K.2.2.2.2.2.2 := by
    obtain ⟨m9, meth9, c9, h0, h1, h2, -, -, h7, -, -, -⟩ := Cond.codeWith_spec (hts _ List.mem_cons_self)
    cases Option.some.inj (h0.symm.trans B.named)
    cases Option.some.inj (h1.symm.trans B.method)
    cases Option.some.inj (h2.symm.trans (Stand.of_body B).code)
    exact h7
  exact mj_enter hl B.exec B.bytes hml (by rw [ho]; exact hown) (fun w hw => hts w (List.mem_cons_of_mem _ hw)) B.returns B.notSynchronized (fun h => (name_of_methodNamed B.named B.method).1.trans (hi h)) htab hlen hH hok hxw hb0 hB0 hS0 hw
theorem mj_Pc_blind (D : va_G) (b e0 B0 : Nat) (as : List Nat) (args : List Value) (h : mj_H) : FrameBlind (mj_Pc D b e0 B0 as args h) := by
  intro a U g mk q
  obtain ⟨q1, q2, q3, q4, q5, q6, q7⟩ := q
  exact ⟨q1, mj_Hp.moved (Vm.Alike.refl U.vm) q2, q3, mj_XW.warm (U := U.calling g mk a) (State.WarmedH.refl U) q4, q5, q6, mj_S0.kept (U := U.calling g mk a) (locs := []) q7 va_S.rf rfl (State.WarmedH.refl U)⟩
section MJ3
variable {M K : mj_M} {d mc ms mc1 ms1 : Nat} {Q Q1 : mj_Q} {pc q : Nat} {lv st : List Value} {h : mj_H} {n idx : Nat}
/-- behind a call: len its length -/
theorem mj_after0 {p : Program} {l : Launch} {e : Env} {R : Room} {s : State} {m : MethodId} {args : Array Value} {below : List Frame} {meth : Method} {c : Code} {D : va_G} {b e0 B0 MC MS : Nat} {as0 as : List Nat} {QQ : State → Prop} {H : Heap} {locs : List Loc} {ls : Array Slot} {cells slots : Nat} {st0 : List Value} {a : Array Value} {q : Nat}
    (X : mj_X M (d + 1) b e0 B0 MC MS p l R s m args meth c) (E : mj_E M Q p l e R s m args below meth c D b e0 B0 MC MS as0 QQ) (S : mj_St M (mc1 + mc) (ms1 + ms) D b e0 B0 MC MS as0 as s H locs ls cells slots lv st h)
    (hr : ∀ T : State, T.heap = H → Stand p l e R s m args below meth c T locs cells slots →
      (∃ (v : Option Value) (st₀ t T' : State) (L : List Loc), st₀.heap = H ∧ Stand p l e R s m args below meth c T' (locs ++ L) (cells + mc1) (slots + ms1) ∧ (∀ q ∈ L, B0 ≤ q.base) ∧ T'.heap = t.heap ∧ T'.vm = t.vm ∧ mj_Qc D b e0 B0 as Q1 a st₀ (.returned v) t ∧
        Goes p e below T (F0 m pc ls st0) T' (F0 m q ls (v.toList ++ st.map (mj_t as)))) ∨
      (∃ (q : Addr) (st₀ t T' : State) (L : List Loc) (E : String) (ce : Cell), st₀.heap = H ∧ Stand p l e R s m args below meth c T' (locs ++ L) (cells + mc1) (slots + ms1) ∧ (∀ z ∈ L, B0 ≤ z.base) ∧ T'.heap = t.heap ∧ T'.vm = t.vm ∧ mj_XC D b e0 B0 as Q1.2 E st₀ t ∧ t.heap[q]? = some ce ∧ ce.vm = .none ∧ s.vm.findClass E = some ce.cls ∧
        Steps p.tables e below (T.setTop (F0 m pc ls st0)) ((T'.setTop (F0 m pc ls (st.map (mj_t as)))).pushFrame (.throwing q))))
    (k : ∀ v h1, Q1.1 v h1 → mj_W M (d + 1) mc ms Q q lv (v.toList ++ st) h1) (kx : ∀ n h1, Q1.2 n h1 → mj_T M (d + 1) mc ms Q pc lv n h1) : W p l e R s m args below meth c H locs cells slots QQ (F0 m pc ls st0) := by
  obtain ⟨s1, s2, s3, s4, s5, s6, s7, s8⟩ := S
  have hn : h.1 = as.length := by
    obtain ⟨ws, tys, g1, g2, -⟩ := s1
    rw [g1, g2, List.length_cons, List.length_map]
  have hn1 : ∀ {as1 : List Nat} {h1 : mj_H} {t : State} {H1 : Heap}, mj_Hp D b e0 as1 h1 (fun q => B0 ≤ q) t H1 → h1.1 = as1.length := by
    intro as1 h1 t H1 hH
    obtain ⟨ws, tys, g1, g2, -⟩ := hH
    rw [g1, g2, List.length_cons, List.length_map]
  intro T hT XT
  rcases hr T hT XT with ⟨v0, st₀, t, T', L, h0, X', hL, e1, e2, ⟨⟨v, as1, h1, hv, hq, ⟨ex, rfl⟩, hH, hok⟩, hz, hk⟩, stp⟩ | ⟨qx, st₀, t, T', L, Ex, ce, h0, X', hL, e1, e2, ⟨⟨nx, as1, h1, rfl, hq, ⟨ex, rfl⟩, hH⟩, hz, hk⟩, hce, hcv, hcl, stp⟩
  · cases hv
    rw [h0] at hz hk
    have halike : t.vm.Alike s.vm := by rw [← e2]; exact X'.warmed.alike.symm
    have hle : h.1 ≤ h1.1 := by rw [hn, hn1 hH, List.length_append]; omega
    have hS : va_S (fun q => B0 ≤ q) s.heap T'.heap (locs ++ L) := ⟨Nat.le_trans s2.1 (by rw [e1]; exact hz), fun q h1 h2 => by rw [e1, hk q (Nat.lt_of_lt_of_le h1 s2.1) h2]; exact s2.2.1 q h1 h2, fun q hq => by
        rcases List.mem_append.mp hq with h | h
        · exact s2.2.2 q h
        · exact hL q h⟩
    obtain ⟨t2, a1, b1⟩ := k v h1 hq p l e R s m args below meth c D b e0 B0 MC MS as0 QQ X E (as ++ ex) T'.heap (locs ++ L) ls (cells + mc1) (slots + ms1)
      ⟨by rw [e1]; exact mj_Hp.moved halike hH, hS, by obtain ⟨ex0, rfl⟩ := s3; exact ⟨ex0 ++ ex, by rw [List.append_assoc]⟩, by rw [mj_al_app lv 0 (by rw [← hn]; exact s5)]; exact s4, mj_oks_mono hle s5, by rw [mj_oks_app]; exact ⟨hok, mj_oks_mono hle s6⟩, by omega, by omega⟩ T' rfl X'
    refine ⟨t2, stp t2 ?_, b1⟩
    rw [List.map_append, mj_ts_app (st := st) (by rw [← hn]; exact s6)] at a1
    have ev : List.map (mj_t (as ++ ex)) v.toList = (v.map (mj_t (as ++ ex))).toList := by cases v <;> rfl
    rw [ev] at a1
    exact a1
  · rw [h0] at hz hk
    have halike : t.vm.Alike s.vm := by rw [← e2]; exact X'.warmed.alike.symm
    have hle : h.1 ≤ h1.1 := by rw [hn, hn1 hH, List.length_append]; omega
    have hS : va_S (fun q => B0 ≤ q) s.heap T'.heap (locs ++ L) := ⟨Nat.le_trans s2.1 (by rw [e1]; exact hz), fun q h1 h2 => by rw [e1, hk q (Nat.lt_of_lt_of_le h1 s2.1) h2]; exact s2.2.1 q h1 h2, fun q hq => by
        rcases List.mem_append.mp hq with h | h
        · exact s2.2.2 q h
        · exact hL q h⟩
    obtain ⟨t2, a1, b1⟩ := kx nx h1 hq p l e R s m args below meth c D b e0 B0 MC MS as0 QQ X E (as ++ ex) T'.heap (locs ++ L) ls (cells + mc1) (slots + ms1) (st.map (mj_t as)) qx ce
      ⟨by rw [e1]; exact mj_Hp.moved halike hH, hS, by obtain ⟨ex0, rfl⟩ := s3; exact ⟨ex0 ++ ex, by rw [List.append_assoc]⟩, by rw [mj_al_app lv 0 (by rw [← hn]; exact s5)]; exact s4, mj_oks_mono hle s5, trivial, by omega, by omega⟩ (by rw [e1]; exact hce) hcv hcl T' rfl X'
    exact ⟨t2, stp.trans a1, b1⟩
/-- what a call's receiver is: an object of the class C -/
def mj_rc (k : mj_K) (C : String) : Prop := (k.1 = 2 ∧ mT_C k.2.1 = C) ∨ (k.1 = 5 ∧ mT_C 1 = C)
theorem mj_recv {D : va_G} {b e0 a : Nat} {as : List Nat} {A : Nat → Prop} {s : State} {H : Heap} {C : String} (hH : mj_Hp D b e0 as h A s H) (ha : a < h.1) (hK : mj_rc (h.2.1 a) C) : ∃ cellB, H[as.getD a 0]? = some cellB ∧ cellB.vm.isStatics = false ∧ s.vm.findClass C = some cellB.cls := by
  obtain ⟨ws, tys, h1, h2, h3, h4, h5, h6, h7, h8, h9⟩ := hH
  obtain ⟨j, e1, rfl, hj, hc⟩ := mj_place h1 h2 h4 h8 ha (by rcases hK with ⟨h, -⟩ | ⟨h, -⟩ <;> rw [h] <;> decide)
  rcases hK with ⟨hk, rfl⟩ | ⟨hk, rfl⟩
  · have e9 : h.2.1 (j + 1) = (2, (h.2.1 (j + 1)).2.1, (h.2.1 (j + 1)).2.2) := by rw [← hk]
    rw [e9] at hc
    obtain ⟨hci, he⟩ := mj_cell2 hc
    subst he
    exact va_recv h5 h6 (mT_at _ hci) hj
  · have e9 : h.2.1 (j + 1) = (5, (h.2.1 (j + 1)).2.1, (h.2.1 (j + 1)).2.2) := by rw [← hk]
    rw [e9] at hc
    obtain ⟨e1, he, -⟩ := mj_cell5 hc
    subst he
    exact va_recv h5 h6 (mT_at 1 (by decide)) hj
theorem mj_callV {a : Nat} (As : List Value) (hd : decode M.2.1 pc = .ok (.invokevirtual idx, 3)) (hln : Cond.methodLink M.2.2.2.2.1 idx K.1 ∈ mj_TW) (hok : mj_okV K n) (hn : As.length = n) (hcat : (st.map fun v => v.category).sum ≤ 8) (hL : K.2.2.1 ≤ 21) (hK : mj_rc (h.2.1 a) K.1.cls)
    (hM : mj_C K d mc1 ms1 (.ref a :: As) h Q1) (k : ∀ v h1, Q1.1 v h1 → mj_W M (d + 1) mc ms Q (pc + 3) lv (v.toList ++ st) h1) (kx : ∀ n h1, Q1.2 n h1 → mj_T M (d + 1) mc ms Q pc lv n h1) : mj_W M (d + 1) (mc1 + mc) (ms1 + ms) Q pc lv (As.reverse ++ .ref a :: st) h := by
  intro p l e R s m args below meth c D b e0 B0 MC MS as0 QQ X E as H locs ls cells slots S
  obtain ⟨s1, s2, s3, s4, s5, s6, s7, s8⟩ := id S
  rw [mj_oks_app, mj_oks_rev] at s6
  obtain ⟨w, o4, o5, o6⟩ := hok
  obtain ⟨o1, o2, o3, o7⟩ := w
  obtain ⟨x1, x2, x3, x4, x5, x6, x7, x8, x9, x10, x11, x12, x13, x14, x15, x16, x17, x18⟩ := id X
  have hrecv := mj_recv s1 s6.2.1 hK
  have hrun := vx_runV (p := p) (l := l) (e := e) (R := R) (s := s) (m := m) (args := args) (below := below) (meth := meth) (c := c) (H := H) (locs := locs) (cells := cells) (slots := slots) (cc := M.2.1) (nL := M.2.2.1) (own := M.2.2.2.2.1) (C := K.1.cls) (b := as.getD a 0) (As := As.map (mj_t as)) (rest := st.map (mj_t as)) (g := F0 m pc ls ((As.reverse ++ .ref a :: st).map (mj_t as))) (index := idx) (n := n) (y := K.1) (bytes := K.2.1) (maxL := K.2.2.1) (ret := K.2.2.2.1) (mc := mc1) (ms := ms1)
    ⟨x1, x2, x3, x4, x5⟩ (hM l x17 D b e0 B0 as)
    ⟨⟨rfl, rfl, by show d + 1 ≤ R.frames; omega, by show 8 + (K.2.2.1 + 11) + 40 * d ≤ R.locals; omega, pay_in x5 (mj_goodc _ o7), List.mem_cons_self, x5 _ o7, x5 _ o3, ⟨o4, o5⟩, fun sig hs => by rw [hs] at o6; simpa using o6.symm, x5 _ hln⟩, x5 _ o1, x5 _ o2⟩
    ⟨mj_Pc_blind _ _ _ _ _ _ _, hrecv, fun U hU hW => ⟨rfl, by rw [hU]; exact mj_Hp.moved hW.alike s1, ⟨s6.2.1, s6.1⟩, mj_XW.warm hW x6, x14, by rw [hU]; exact Nat.le_trans x15 s2.1, mj_S0.kept x16 s2 hU hW⟩⟩
    rfl (by rw [List.length_map]; exact hn) s4.1 (by show List.map (mj_t as) _ = _; rw [List.map_append, List.map_reverse]; rfl) (lv_room (by rw [mj_cats]; exact hcat)) hd ⟨by show cells + mc1 ≤ R.cells; omega, by show slots + ms1 ≤ R.slots; omega⟩
  exact mj_after0 X E ⟨s1, s2, s3, s4, s5, s6.2.2, s7, s8⟩ hrun k kx
theorem mj_callS (As : List Value) (hd : decode M.2.1 pc = .ok (.invokestatic idx, 3)) (hln : Cond.methodLink M.2.2.2.2.1 idx K.1 ∈ mj_TW) (hok : mj_okS K n) (hn : As.length = n) (hcat : (st.map fun v => v.category).sum ≤ 8) (hL : K.2.2.1 ≤ 21)
    (hM : mj_C K d mc1 ms1 As h Q1) (k : ∀ v h1, Q1.1 v h1 → mj_W M (d + 1) mc ms Q (pc + 3) lv (v.toList ++ st) h1) (kx : ∀ n h1, Q1.2 n h1 → mj_T M (d + 1) mc ms Q pc lv n h1) : mj_W M (d + 1) (mc1 + mc) (ms1 + ms) Q pc lv (As.reverse ++ st) h := by
  intro p l e R s m args below meth c D b e0 B0 MC MS as0 QQ X E as H locs ls cells slots S
  obtain ⟨s1, s2, s3, s4, s5, s6, s7, s8⟩ := id S
  rw [mj_oks_app, mj_oks_rev] at s6
  obtain ⟨w, o4, o5, o6⟩ := hok
  obtain ⟨o1, o3, o7⟩ := w
  obtain ⟨x1, x2, x3, x4, x5, x6, x7, x8, x9, x10, x11, x12, x13, x14, x15, x16, x17, x18⟩ := id X
  have hrun := vx_runS (p := p) (l := l) (e := e) (R := R) (s := s) (m := m) (args := args) (below := below) (meth := meth) (c := c) (H := H) (locs := locs) (cells := cells) (slots := slots) (cc := M.2.1) (nL := M.2.2.1) (own := M.2.2.2.2.1) (As := As.map (mj_t as)) (rest := st.map (mj_t as)) (g := F0 m pc ls ((As.reverse ++ st).map (mj_t as))) (index := idx) (n := n) (y := K.1) (bytes := K.2.1) (maxL := K.2.2.1) (ret := K.2.2.2.1) (mc := mc1) (ms := ms1)
    ⟨x1, x2, x3, x4, x5⟩ (hM l x17 D b e0 B0 as)
    ⟨⟨rfl, rfl, by show d + 1 ≤ R.frames; omega, by show 8 + (K.2.2.1 + 11) + 40 * d ≤ R.locals; omega, pay_in x5 (mj_goodc _ o7), List.mem_cons_self, x5 _ o7, x5 _ o3, ⟨o4, o5⟩, fun sig hs => by rw [hs] at o6; simpa using o6.symm, x5 _ hln⟩, x5 _ o1⟩
    ⟨mj_Pc_blind _ _ _ _ _ _ _, fun U hU hW => ⟨rfl, by rw [hU]; exact mj_Hp.moved hW.alike s1, s6.1, mj_XW.warm hW x6, x14, by rw [hU]; exact Nat.le_trans x15 s2.1, mj_S0.kept x16 s2 hU hW⟩⟩
    rfl (by rw [List.length_map]; exact hn) s4.1 (by show List.map (mj_t as) _ = _; rw [List.map_append, List.map_reverse]) (lv_room (by rw [mj_cats]; exact hcat)) hd ⟨by show cells + mc1 ≤ R.cells; omega, by show slots + ms1 ≤ R.slots; omega⟩
  exact mj_after0 X E ⟨s1, s2, s3, s4, s5, s6.2, s7, s8⟩ hrun k kx
/-- a static method with handlers -/
theorem mj_callH (As : List Value) (hd : decode M.2.1 pc = .ok (.invokestatic idx, 3)) (hln : Cond.methodLink M.2.2.2.2.1 idx K.1 ∈ mj_TW) (hok : mj_okH K n) (hn : As.length = n) (hcat : (st.map fun v => v.category).sum ≤ 8) (hL : K.2.2.1 ≤ 21)
    (hM : mj_CH K d mc1 ms1 As h Q1) (k : ∀ v h1, Q1.1 v h1 → mj_W M (d + 1) mc ms Q (pc + 3) lv (v.toList ++ st) h1) (kx : ∀ n h1, Q1.2 n h1 → mj_T M (d + 1) mc ms Q pc lv n h1) : mj_W M (d + 1) (mc1 + mc) (ms1 + ms) Q pc lv (As.reverse ++ st) h := by
  intro p l e R s m args below meth c D b e0 B0 MC MS as0 QQ X E as H locs ls cells slots S
  obtain ⟨s1, s2, s3, s4, s5, s6, s7, s8⟩ := id S
  rw [mj_oks_app, mj_oks_rev] at s6
  obtain ⟨w, o4, o5, o6⟩ := hok
  obtain ⟨o1, o3, o7⟩ := w
  obtain ⟨x1, x2, x3, x4, x5, x6, x7, x8, x9, x10, x11, x12, x13, x14, x15, x16, x17, x18⟩ := id X
  have hrun := vx_runSX (p := p) (l := l) (e := e) (R := R) (s := s) (m := m) (args := args) (below := below) (meth := meth) (c := c) (H := H) (locs := locs) (cells := cells) (slots := slots) (cc := M.2.1) (nL := M.2.2.1) (own := M.2.2.2.2.1) (As := As.map (mj_t as)) (rest := st.map (mj_t as)) (g := F0 m pc ls ((As.reverse ++ st).map (mj_t as))) (index := idx) (n := n) (y := K.1) (bytes := K.2.1) (maxL := K.2.2.1) (ret := K.2.2.2.1) (mc := mc1) (ms := ms1)
    ⟨x1, x2, x3, x4, x5⟩ (hM l x17 D b e0 B0 as)
    ⟨⟨rfl, rfl, by show d + 1 ≤ R.frames; omega, by show 8 + (K.2.2.1 + 11) + 40 * d ≤ R.locals; omega, pay_in x5 (mj_goodc _ o7), List.mem_cons_self⟩, x5 _ o7, x5 _ o3, ⟨o4, o5⟩, fun sig hs => by rw [hs] at o6; simpa using o6.symm, x5 _ hln, x5 _ o1⟩
    ⟨mj_Pc_blind _ _ _ _ _ _ _, fun U hU hW => ⟨rfl, by rw [hU]; exact mj_Hp.moved hW.alike s1, s6.1, mj_XW.warm hW x6, x14, by rw [hU]; exact Nat.le_trans x15 s2.1, mj_S0.kept x16 s2 hU hW⟩⟩
    rfl (by rw [List.length_map]; exact hn) s4.1 (by show List.map (mj_t as) _ = _; rw [List.map_append, List.map_reverse]) (lv_room (by rw [mj_cats]; exact hcat)) hd ⟨by show cells + mc1 ≤ R.cells; omega, by show slots + ms1 ≤ R.slots; omega⟩
  exact mj_after0 X E ⟨s1, s2, s3, s4, s5, s6.2, s7, s8⟩ hrun k kx
/-- a static method of a nest mate -/
theorem mj_callSN {host : String} (As : List Value) (hd : decode M.2.1 pc = .ok (.invokestatic idx, 3)) (hln : ∀ s, mj_XW s → va_Nw (.methodLinkNest M.2.2.2.2.1 idx K.1 host) s) (hok : mj_okS K n) (hn : As.length = n) (hcat : (st.map fun v => v.category).sum ≤ 8) (hL : K.2.2.1 ≤ 21)
    (hM : mj_C K d mc1 ms1 As h Q1) (k : ∀ v h1, Q1.1 v h1 → mj_W M (d + 1) mc ms Q (pc + 3) lv (v.toList ++ st) h1) (kx : ∀ n h1, Q1.2 n h1 → mj_T M (d + 1) mc ms Q pc lv n h1) : mj_W M (d + 1) (mc1 + mc) (ms1 + ms) Q pc lv (As.reverse ++ st) h := by
  intro p l e R s m args below meth c D b e0 B0 MC MS as0 QQ X E as H locs ls cells slots S
  obtain ⟨s1, s2, s3, s4, s5, s6, s7, s8⟩ := id S
  rw [mj_oks_app, mj_oks_rev] at s6
  obtain ⟨w, o4, o5, o6⟩ := hok
  obtain ⟨o1, o3, o7⟩ := w
  obtain ⟨x1, x2, x3, x4, x5, x6, x7, x8, x9, x10, x11, x12, x13, x14, x15, x16, x17, x18⟩ := id X
  have hrun := vx_runSN (p := p) (l := l) (e := e) (R := R) (s := s) (m := m) (args := args) (below := below) (meth := meth) (c := c) (H := H) (locs := locs) (cells := cells) (slots := slots) (cc := M.2.1) (nL := M.2.2.1) (own := M.2.2.2.2.1) (host := host) (As := As.map (mj_t as)) (rest := st.map (mj_t as)) (g := F0 m pc ls ((As.reverse ++ st).map (mj_t as))) (index := idx) (n := n) (y := K.1) (bytes := K.2.1) (maxL := K.2.2.1) (ret := K.2.2.2.1) (mc := mc1) (ms := ms1)
    ⟨x1, x2, x3, x4, x5⟩ (hM l x17 D b e0 B0 as)
    ⟨⟨⟨rfl, rfl, by show d + 1 ≤ R.frames; omega, by show 8 + (K.2.2.1 + 11) + 40 * d ≤ R.locals; omega, pay_in x5 (mj_goodc _ o7), List.mem_cons_self⟩, x5 _ o7, x5 _ o3, ⟨o4, o5⟩, fun sig hs => by rw [hs] at o6; simpa using o6.symm, va_Nw.use rfl (hln s x6)⟩, x5 _ o1, trivial⟩
    ⟨mj_Pc_blind _ _ _ _ _ _ _, fun U hU hW => ⟨rfl, by rw [hU]; exact mj_Hp.moved hW.alike s1, s6.1, mj_XW.warm hW x6, x14, by rw [hU]; exact Nat.le_trans x15 s2.1, mj_S0.kept x16 s2 hU hW⟩⟩
    rfl (by rw [List.length_map]; exact hn) s4.1 (by show List.map (mj_t as) _ = _; rw [List.map_append, List.map_reverse]) (lv_room (by rw [mj_cats]; exact hcat)) hd ⟨by show cells + mc1 ≤ R.cells; omega, by show slots + ms1 ≤ R.slots; omega⟩
  exact mj_after0 X E ⟨s1, s2, s3, s4, s5, s6.2, s7, s8⟩ hrun k kx
theorem mj_callI {a : Nat} (As : List Value) (hd : decode M.2.1 pc = .ok (.invokespecial idx, 3)) (hln : Cond.methodLink M.2.2.2.2.1 idx K.1 ∈ mj_TW) (hok : mj_okI K n) (hn : As.length = n) (hcat : (st.map fun v => v.category).sum ≤ 8) (hL : K.2.2.1 ≤ 21)
    (hM : mj_C K d mc1 ms1 (.ref a :: As) h Q1) (k : ∀ v h1, Q1.1 v h1 → mj_W M (d + 1) mc ms Q (pc + 3) lv (v.toList ++ st) h1) (kx : ∀ n h1, Q1.2 n h1 → mj_T M (d + 1) mc ms Q pc lv n h1) : mj_W M (d + 1) (mc1 + mc) (ms1 + ms) Q pc lv (As.reverse ++ .ref a :: st) h := by
  intro p l e R s m args below meth c D b e0 B0 MC MS as0 QQ X E as H locs ls cells slots S
  obtain ⟨s1, s2, s3, s4, s5, s6, s7, s8⟩ := id S
  rw [mj_oks_app, mj_oks_rev] at s6
  obtain ⟨w, o4, o5, o6⟩ := hok
  obtain ⟨o1, o3, o7⟩ := w
  obtain ⟨o8, o9, o10⟩ := o4
  obtain ⟨x1, x2, x3, x4, x5, x6, x7, x8, x9, x10, x11, x12, x13, x14, x15, x16, x17, x18⟩ := id X
  have hMl := hM l x17 D b e0 B0 as
  unfold mj_ws at hMl
  rw [o6] at hMl
  have hrun := vx_runI (p := p) (l := l) (e := e) (R := R) (s := s) (m := m) (args := args) (below := below) (meth := meth) (c := c) (H := H) (locs := locs) (cells := cells) (slots := slots) (cc := M.2.1) (nL := M.2.2.1) (own := M.2.2.2.2.1) (b := as.getD a 0) (As := As.map (mj_t as)) (rest := st.map (mj_t as)) (g := F0 m pc ls ((As.reverse ++ .ref a :: st).map (mj_t as))) (index := idx) (n := n) (y := K.1) (bytes := K.2.1) (maxL := K.2.2.1) (mc := mc1) (ms := ms1)
    ⟨x1, x2, x3, x4, x5⟩ hMl
    ⟨⟨rfl, rfl, by show d + 1 ≤ R.frames; omega, by show 8 + (K.2.2.1 + 11) + 40 * d ≤ R.locals; omega, pay_in x5 (by have := mj_goodc _ o7; exact this), List.mem_cons_self, x5 _ o7, x5 _ o3, ⟨o8, o9⟩, fun sig hs => by rw [hs] at o10; simpa using o10.symm, x5 _ hln⟩, o5, x5 _ o1⟩
    ⟨mj_Pc_blind _ _ _ _ _ _ _, fun U hU hW => ⟨rfl, by rw [hU]; exact mj_Hp.moved hW.alike s1, ⟨s6.2.1, s6.1⟩, mj_XW.warm hW x6, x14, by rw [hU]; exact Nat.le_trans x15 s2.1, mj_S0.kept x16 s2 hU hW⟩⟩
    rfl (by rw [List.length_map]; exact hn) s4.1 (by show List.map (mj_t as) _ = _; rw [List.map_append, List.map_reverse]; rfl) (lv_room (by rw [mj_cats]; exact hcat)) hd ⟨by show cells + mc1 ≤ R.cells; omega, by show slots + ms1 ≤ R.slots; omega⟩
  exact mj_after0 X E ⟨s1, s2, s3, s4, s5, s6.2.2, s7, s8⟩ hrun k kx
theorem mj_callIN {a : Nat} {host : String} (As : List Value) (hd : decode M.2.1 pc = .ok (.invokespecial idx, 3)) (hln : ∀ s, mj_XW s → va_Nw (.methodLinkNest M.2.2.2.2.1 idx K.1 host) s) (hok : mj_okI K n) (hn : As.length = n) (hcat : (st.map fun v => v.category).sum ≤ 8) (hL : K.2.2.1 ≤ 21)
    (hM : mj_C K d mc1 ms1 (.ref a :: As) h Q1) (k : ∀ v h1, Q1.1 v h1 → mj_W M (d + 1) mc ms Q (pc + 3) lv (v.toList ++ st) h1) (kx : ∀ n h1, Q1.2 n h1 → mj_T M (d + 1) mc ms Q pc lv n h1) : mj_W M (d + 1) (mc1 + mc) (ms1 + ms) Q pc lv (As.reverse ++ .ref a :: st) h := by
  intro p l e R s m args below meth c D b e0 B0 MC MS as0 QQ X E as H locs ls cells slots S
  obtain ⟨s1, s2, s3, s4, s5, s6, s7, s8⟩ := id S
  rw [mj_oks_app, mj_oks_rev] at s6
  obtain ⟨w, o4, o5, o6⟩ := hok
  obtain ⟨o1, o3, o7⟩ := w
  obtain ⟨o8, o9, o10⟩ := o4
  obtain ⟨x1, x2, x3, x4, x5, x6, x7, x8, x9, x10, x11, x12, x13, x14, x15, x16, x17, x18⟩ := id X
  have hMl := hM l x17 D b e0 B0 as
  unfold mj_ws at hMl
  rw [o6] at hMl
  have hrun := vx_runIN (p := p) (l := l) (e := e) (R := R) (s := s) (m := m) (args := args) (below := below) (meth := meth) (c := c) (H := H) (locs := locs) (cells := cells) (slots := slots) (cc := M.2.1) (nL := M.2.2.1) (own := M.2.2.2.2.1) (host := host) (b := as.getD a 0) (As := As.map (mj_t as)) (rest := st.map (mj_t as)) (g := F0 m pc ls ((As.reverse ++ .ref a :: st).map (mj_t as))) (index := idx) (n := n) (y := K.1) (bytes := K.2.1) (maxL := K.2.2.1) (mc := mc1) (ms := ms1)
    ⟨x1, x2, x3, x4, x5⟩ hMl
    ⟨⟨⟨rfl, rfl, by show d + 1 ≤ R.frames; omega, by show 8 + (K.2.2.1 + 11) + 40 * d ≤ R.locals; omega, pay_in x5 (by have := mj_goodc _ o7; exact this), List.mem_cons_self⟩, x5 _ o7, x5 _ o3, ⟨o8, o9⟩, fun sig hs => by rw [hs] at o10; simpa using o10.symm, va_Nw.use rfl (hln s x6)⟩, o5, x5 _ o1⟩
    ⟨mj_Pc_blind _ _ _ _ _ _ _, fun U hU hW => ⟨rfl, by rw [hU]; exact mj_Hp.moved hW.alike s1, ⟨s6.2.1, s6.1⟩, mj_XW.warm hW x6, x14, by rw [hU]; exact Nat.le_trans x15 s2.1, mj_S0.kept x16 s2 hU hW⟩⟩
    rfl (by rw [List.length_map]; exact hn) s4.1 (by show List.map (mj_t as) _ = _; rw [List.map_append, List.map_reverse]; rfl) (lv_room (by rw [mj_cats]; exact hcat)) hd ⟨by show cells + mc1 ≤ R.cells; omega, by show slots + ms1 ≤ R.slots; omega⟩
  exact mj_after0 X E ⟨s1, s2, s3, s4, s5, s6.2.2, s7, s8⟩ hrun k kx
/-- the thrown object is caught: the rows ahead don't take it; its handler begins with a store -/
theorem mj_T_catch {nx hpc ct i q : Nat} {name : String} (pre suf : List (Nat × Nat × Nat × Nat)) (sp ep : Nat) (htab : M.2.2.2.2.2.2 = pre ++ (sp, ep, hpc, ct) :: suf)
    (hpre : ∀ z ∈ pre, z.2.2.2 ≠ 0 ∧ ∃ nm : String, Cond.classLink M.2.2.2.2.1 z.2.2.2 nm ∈ mj_TW ∧ ∀ s, mj_XW s → va_Nc (mj_xn nx) nm s) (hsp : sp ≤ pc) (hep : pc < ep) (h0 : ct ≠ 0)
    (hlink : Cond.classLink M.2.2.2.2.1 ct name ∈ mj_TW) (hcast : ∀ s, mj_XW s → va_Nw (.castable (mj_xn nx) name) s)
    (hds : (decode M.2.1 hpc = .ok (.astore i, 2) ∧ hpc + 2 = q) ∨ (∃ j : Fin 4, decode M.2.1 hpc = .ok (.astore_n j, 1) ∧ (j : Nat) = i ∧ hpc + 1 = q)) (hi : i < M.2.2.1) (hc : mj_c1 lv i = true)
    (k : mj_W M d mc ms Q q (lv.set i .null) [] h) : mj_T M d mc ms Q pc lv nx h := by
  intro p l e R s m args below meth c D b e0 B0 MC MS as0 QQ X E as H locs ls cells slots st qx ce S hce hv hcl
  obtain ⟨s1, s2, s3, s4, s5, s6, s7, s8⟩ := id S
  obtain ⟨x1, x2, x3, x4, x5, x6, x7, x8, x9, x10, x11, x12, x13, x14, x15, x16, x17, x18⟩ := id X
  rw [htab] at x18
  obtain ⟨pre', r1, e1, e2, e3⟩ := List.map_eq_append_iff.mp x18
  obtain ⟨x', suf', e4, e5, e6⟩ := List.map_eq_cons_iff.mp e3
  have ex : x'.startPc = sp ∧ x'.endPc = ep ∧ x'.handlerPc = hpc ∧ x'.catchType = ct := by
    simp only [Prod.mk.injEq] at e5
    exact e5
  refine vx_catch (own := M.2.2.2.2.1) (name := name) (E := mj_xn nx) x4 pre' x' suf' (by rw [e1, e4]) ?_ ?_ (by rw [ex.2.2.2]; exact h0) (by rw [ex.2.2.2]; exact x5 _ hlink) (va_Nw.use rfl (hcast s x6)) hce hv hcl ?_
  · intro z hz
    refine Or.inr ?_
    have hm : (z.startPc, z.endPc, z.handlerPc, z.catchType) ∈ pre := by rw [← e2]; exact List.mem_map_of_mem hz
    obtain ⟨g1, nm, g2, g3⟩ := hpre _ hm
    exact ⟨g1, nm, x5 _ g2, g3 s x6⟩
  · simp only [covers, ex.1, ex.2.1, Bool.and_eq_true, decide_eq_true_eq]
    exact ⟨hsp, hep⟩
  rw [ex.2.2.1]
  have kk : ∀ ls2 : Array Slot, lv_has ls2 M.2.2.1 (mj_al as 0 (lv.set i .null)) → W p l e R s m args below meth c H locs cells slots QQ (F0 m q ls2 []) := fun ls2 hls =>
    k p l e R s m args below meth c D b e0 B0 MC MS as0 QQ X E as H locs ls2 cells slots ⟨s1, s2, s3, hls, mj_oks_set s5 trivial, trivial, s7, s8⟩
  have hsub : ∀ (v : Value), v.category = 1 → ∀ q2 ∈ mj_al as 0 (lv.set i .null), q2 ∈ (i, v) :: (mj_al as 0 lv).filter (fun q => !(q.1 == i) && !(q.1 + 1 == i && q.2.category == 2)) := by
    intro v _ q2 hq2
    have h9 := mj_store1 (as := as) (lv := lv) (i := i) (v := .null) hc q2 hq2
    rcases List.mem_cons.mp h9 with h9 | h9
    · obtain ⟨j9, w, g1, g2, g3⟩ := (mj_al_mem _ _ _).mp hq2
      rw [Nat.zero_add] at g3
      rw [h9] at g3
      have e9 := congrArg Prod.fst g3
      dsimp only at e9
      subst e9
      rw [List.getElem?_set] at g1
      rw [if_pos rfl] at g1
      split at g1
      · cases g1; exact absurd rfl g2
      · cases g1
    · exact List.mem_cons_of_mem _ h9
  rcases hds with ⟨hd, rfl⟩ | ⟨j, hd, hj, rfl⟩
  · exact lv_astore x1 x2 hd s4 hi rfl (fun ls2 hls => kk ls2 (mj_has_sub hls (hsub _ rfl)))
  · subst hj
    exact lv_astore_n x1 x2 hd rfl s4 hi rfl (fun ls2 hls => kk ls2 (mj_has_sub hls (hsub _ rfl)))
end MJ3
end
section
/-! NEW CELLS, and the JDK's own: Object(), arraycopy, throws, lists -/
theorem mj_cell_ext {tys t2 : List (ClassId × FieldType)} {e0 : Nat} {as ex : List Nat} {K : mj_K} {f : Nat → Int32} {g : Nat → Option Nat} {e : va_E} (hg : ∀ j c, g j = some c → c < as.length) (h : mj_cell tys e0 as K f g e) : mj_cell (tys ++ t2) e0 (as ++ ex) K f g e := by
  have hr : ∀ j, ((g j).map fun b => (as ++ ex).getD b 0) = ((g j).map fun b => as.getD b 0) := by
    intro j
    cases hj : g j with
    | none => rfl
    | some c =>
      have hc := hg j c hj
      show some ((as ++ ex).getD c 0) = some (as.getD c 0)
      rw [List.getD_eq_getElem?_getD, List.getD_eq_getElem?_getD, List.getElem?_append_left hc]
  have ht : ∀ (t0 : Nat) (x : ClassId × FieldType), tys[t0]? = some x → (tys ++ t2)[t0]? = some x := fun t0 x hx => by
    rw [List.getElem?_append_left (List.getElem?_eq_some_iff.mp hx).1]; exact hx
  rcases h with ⟨h1, cA, t0, h2, h3⟩ | ⟨h1, cA, t0, h2, h3⟩ | ⟨h1, h2, h3⟩ | ⟨h1, cA, t0, F, h2, h3, h4⟩ | ⟨h1, h2⟩
  · exact Or.inl ⟨h1, cA, t0, ht _ _ h2, h3⟩
  · refine Or.inr (Or.inl ⟨h1, cA, t0, ht _ _ h2, ?_⟩)
    rw [h3]
    congr 7
    funext j
    exact (hr j).symm
  · refine Or.inr (Or.inr (Or.inl ⟨h1, h2, ?_⟩))
    rw [h3]
    congr 2
    unfold mj_fs
    apply List.map_congr_left
    intro k _
    unfold mj_fv
    rw [hr k]
  · exact Or.inr (Or.inr (Or.inr (Or.inl ⟨h1, cA, t0, F, ht _ _ h2, h3, h4⟩)))
  · exact Or.inr (Or.inr (Or.inr (Or.inr ⟨h1, h2⟩)))
theorem mj_Hp_new {D : va_G} {b e0 n a : Nat} {as : List Nat} {K : Nat → mj_K} {f : Nat → Nat → Int32} {g : Nat → Nat → Option Nat} {A : Nat → Prop} {s : State} {H1 : Heap} {ws : va_W} {tys t2 : List (ClassId × FieldType)} {e : va_E} {kk : mj_K}
    (h1 : as = b :: ws.map (·.1)) (h2 : n = ws.length + 1) (h3 : ∀ k j c, g k j = some c → c < n) (h4 : ∀ k q, ws[k]? = some q → mj_cell tys e0 as (K (k + 1)) (f (k + 1)) (g (k + 1)) q.2) (h5 : va_K D vwCl (tys ++ t2) s) (h8 : (K 0).1 = 3)
    (hP : va_P D vwCl (ws ++ [(a, e)]) H1) (hD : va_D A (ws ++ [(a, e)])) (hX : va_X b (K 0).2.1 (f 0) s H1) (hc : mj_cell (tys ++ t2) e0 (as ++ [a]) kk (fun _ => 0) (fun _ => none) e) :
    mj_Hp D b e0 (as ++ [a]) (n + 1, mj_row K n kk, mj_row f n (fun _ => 0), mj_row g n (fun _ => none)) A s H1 := by
  have hlen : as.length = n := by rw [h1, List.length_cons, List.length_map, h2]
  refine ⟨ws ++ [(a, e)], tys ++ t2, by rw [h1, List.map_append]; rfl, by show n + 1 = _; rw [List.length_append, h2]; rfl, ?_, ?_, h5, hP, hD, ?_, ?_⟩
  · intro k j c hc
    show c < n + 1
    have hc : mj_row g n (fun _ => none) k j = some c := hc
    unfold mj_row at hc
    split at hc
    · cases hc
    · exact Nat.lt_succ_of_lt (h3 _ _ _ hc)
  · intro k q hq
    show mj_cell (tys ++ t2) e0 (as ++ [a]) (mj_row K n kk (k + 1)) (mj_row f n (fun _ => 0) (k + 1)) (mj_row g n (fun _ => none) (k + 1)) q.2
    by_cases hk : k < ws.length
    · rw [List.getElem?_append_left hk] at hq
      unfold mj_row
      rw [if_neg (by omega), if_neg (by omega), if_neg (by omega)]
      exact mj_cell_ext (fun j c hj => by rw [hlen]; exact h3 _ _ _ hj) (h4 k q hq)
    · have hk2 : k = ws.length := by
        have := (List.getElem?_eq_some_iff.mp hq).1
        rw [List.length_append] at this
        simp at this
        omega
      subst hk2
      rw [List.getElem?_concat_length] at hq
      cases hq
      unfold mj_row
      rw [if_pos (by omega), if_pos (by omega), if_pos (by omega)]
      exact hc
  · show (mj_row K n kk 0).1 = 3
    unfold mj_row
    rw [if_neg (by omega)]
    exact h8
  · show va_X b (mj_row K n kk 0).2.1 (mj_row f n (fun _ => 0) 0) s H1
    unfold mj_row
    rw [if_neg (by omega), if_neg (by omega)]
    exact hX
theorem mj_dflt : ∀ ci, ci < 10 → ∀ (as : List Nat) (j : Nat), j < mT_N ci → defaultValue (mT_ty ci j) = vp_V (mj_fs as ci (fun _ => 0) (fun _ => none)) j := by
  intro ci hci as j hj
  unfold vp_V
  rw [List.getD_eq_getElem?_getD, mj_fs_get _ _ _ _ hj]
  match ci, hci with
  | 0, _ =>
    match j, hj with
    | 0, _ => rfl
    | 1, _ => rfl
    | 2, _ => rfl
    | 3, _ => rfl
    | z + 4, h => exact absurd h (by show ¬ z + 4 < 4; omega)
  | 1, _ =>
    match j, hj with
    | 0, _ => rfl
    | 1, _ => rfl
    | 2, _ => rfl
    | z + 3, h => exact absurd h (by show ¬ z + 3 < 3; omega)
  | 2, _ =>
    match j, hj with
    | 0, _ => rfl
    | 1, _ => rfl
    | 2, _ => rfl
    | 3, _ => rfl
    | 4, _ => rfl
    | z + 5, h => exact absurd h (by show ¬ z + 5 < 5; omega)
  | 3, _ =>
    match j, hj with
    | 0, _ => rfl
    | 1, _ => rfl
    | 2, _ => rfl
    | 3, _ => rfl
    | 4, _ => rfl
    | 5, _ => rfl
    | 6, _ => rfl
    | 7, _ => rfl
    | 8, _ => rfl
    | 9, _ => rfl
    | 10, _ => rfl
    | 11, _ => rfl
    | 12, _ => rfl
    | 13, _ => rfl
    | 14, _ => rfl
    | 15, _ => rfl
    | z + 16, h => exact absurd h (by show ¬ z + 16 < 16; omega)
  | 4, _ =>
    match j, hj with
    | 0, _ => rfl
    | 1, _ => rfl
    | 2, _ => rfl
    | 3, _ => rfl
    | 4, _ => rfl
    | 5, _ => rfl
    | 6, _ => rfl
    | 7, _ => rfl
    | 8, _ => rfl
    | 9, _ => rfl
    | 10, _ => rfl
    | 11, _ => rfl
    | 12, _ => rfl
    | 13, _ => rfl
    | 14, _ => rfl
    | 15, _ => rfl
    | 16, _ => rfl
    | 17, _ => rfl
    | z + 18, h => exact absurd h (by show ¬ z + 18 < 18; omega)
  | 5, _ =>
    match j, hj with
    | 0, _ => rfl
    | 1, _ => rfl
    | 2, _ => rfl
    | 3, _ => rfl
    | 4, _ => rfl
    | 5, _ => rfl
    | z + 6, h => exact absurd h (by show ¬ z + 6 < 6; omega)
  | 6, _ =>
    match j, hj with
    | 0, _ => rfl
    | 1, _ => rfl
    | 2, _ => rfl
    | 3, _ => rfl
    | 4, _ => rfl
    | z + 5, h => exact absurd h (by show ¬ z + 5 < 5; omega)
  | 7, _ =>
    match j, hj with
    | 0, _ => rfl
    | 1, _ => rfl
    | 2, _ => rfl
    | 3, _ => rfl
    | z + 4, h => exact absurd h (by show ¬ z + 4 < 4; omega)
  | 8, _ =>
    match j, hj with
    | 0, _ => rfl
    | 1, _ => rfl
    | 2, _ => rfl
    | 3, _ => rfl
    | 4, _ => rfl
    | 5, _ => rfl
    | 6, _ => rfl
    | 7, _ => rfl
    | 8, _ => rfl
    | 9, _ => rfl
    | 10, _ => rfl
    | 11, _ => rfl
    | z + 12, h => exact absurd h (by show ¬ z + 12 < 12; omega)
  | 9, _ =>
    match j, hj with
    | 0, _ => rfl
    | 1, _ => rfl
    | 2, _ => rfl
    | 3, _ => rfl
    | 4, _ => rfl
    | 5, _ => rfl
    | 6, _ => exact (by decide : Value.long 0 = Value.long (mj_lg 0 0))
    | z + 7, h => exact absurd h (by show ¬ z + 7 < 7; omega)
  | z + 10, h => exact absurd h (by omega)
theorem mj_P_old {D : va_G} {cl : List vw_C} {ws : va_W} {H H1 : Heap} (h : va_P D cl ws H) (ho : ∀ q : Nat, q < H.size → H1[q]? = H[q]?) : va_P D cl ws H1 := by
  refine va_P.kept h (fun k q hk => ho _ ?_)
  have h9 := h k q hk
  unfold va_at at h9
  split at h9
  · exact (Array.getElem?_eq_some_iff.mp h9).1
  · obtain ⟨r, -, h8⟩ := h9
    obtain ⟨cell, h7, -⟩ := h8
    exact (Array.getElem?_eq_some_iff.mp h7).1
section MJ4
variable {M : mj_M} {d mc ms idx : Nat} {Q : mj_Q} {pc q : Nat} {lv st : List Value} {n : Nat} {K : Nat → mj_K} {f : Nat → Nat → Int32} {g : Nat → Nat → Option Nat}
theorem mj_new {idx ci : Nat} (hd : decode M.2.1 pc = .ok (.new idx, 3)) (hci : ci < 10) (hcl : Cond.classLink M.2.2.2.2.1 idx (mT_C ci) ∈ mj_TW) (hin : Cond.instantiable (mT_C ci) (mT_N ci) ∈ mj_TW ∧ Cond.initialized (mT_C ci) ∈ mj_TW) (hq : pc + 3 = q)
    (k : mj_W M d mc ms Q q lv (.ref n :: st) (n + 1, mj_row K n (2, ci, 0), mj_row f n (fun _ => 0), mj_row g n (fun _ => none))) : mj_W M d (1 + mc) (mT_N ci + ms) Q pc lv st (n, K, f, g) := by
  subst hq
  intro p l e R s m args below meth c D b e0 B0 MC MS as0 QQ X E as H locs ls cells slots S
  obtain ⟨s1, s2, s3, s4, s5, s6, s7, s8⟩ := S
  obtain ⟨ws, tys, h1, h2, h3, h4, h5, h6, h7, h8, h9⟩ := id s1
  dsimp only at h2 h3 h4 h8 h9 s5 s6
  obtain ⟨x1, x2, x3, x4, x5, x6, x7, x8, x9, x10, x11, x12, x13, x14, x15, x16, x17, x18⟩ := id X
  have hlen : as.length = n := by rw [h1, List.length_cons, List.length_map, h2]
  refine va_new (C := mT_C ci) (T := mT_T ci) (N := mT_N ci) (ci := ci) (A := fun q => B0 ≤ q) (fs := mj_fs as ci (fun _ => 0) (fun _ => none)) x1 x2 x5 (mT_in ci hci) (mT_ty ci) (mT_tyok ci hci) x4 (x5 _ hcl) (x5 _ hin.1) (x5 _ hin.2) h5 h6 h7 s2 (fun q h => Nat.le_trans x15 h) (mT_at ci hci) (fun j hj => mj_dflt ci hci as j hj) (by omega) (by omega) hd (fun q H1 hP hD hS => ?_)
  have e1 : st.map (mj_t as) = st.map (mj_t (as ++ [q])) := (mj_ts_app (by rw [hlen]; exact s6)).symm
  have e2 : Value.ref q = mj_t (as ++ [q]) (.ref n) := by
    show Value.ref q = Value.ref _
    rw [List.getD_eq_getElem?_getD, ← hlen, List.getElem?_concat_length]
    rfl
  rw [e1, e2]
  refine k p l e R s m args below meth c D b e0 B0 MC MS as0 QQ X E (as ++ [q]) H1 locs ls (cells + 1) (slots + mT_N ci) ⟨?_, hS, by obtain ⟨ex, rfl⟩ := s3; exact ⟨ex ++ [q], by rw [List.append_assoc]⟩, by rw [mj_al_app lv 0 (by rw [hlen]; exact s5)]; exact s4, mj_oks_mono (Nat.le_succ n) s5, ⟨Nat.lt_succ_self n, mj_oks_mono (Nat.le_succ n) s6⟩, by omega, by omega⟩
  refine mj_Hp_new (t2 := []) h1 h2 h3 h4 (by rw [List.append_nil]; exact h5) h8 hP hD (mj_scr h9 s2 hS x14 x15) (mj_mk2 (as := as ++ [q]) hci)
theorem mj_newa {x : Int32} {L : Nat} (hd : decode M.2.1 pc = .ok (.newarray .int, 2)) (hw : Cond.arrayClass .int ∈ mj_TW) (hx : ¬ x < 0) (hL : x.toNatClampNeg = L) (hsz : L ≤ 1000) (hq : pc + 2 = q)
    (k : mj_W M d mc ms Q q lv (.ref n :: st) (n + 1, mj_row K n (0, L, 0), mj_row f n (fun _ => 0), mj_row g n (fun _ => none))) : mj_W M d (1 + mc) (L + ms) Q pc lv (.int x :: st) (n, K, f, g) := by
  subst hq
  intro p l e R s m args below meth c D b e0 B0 MC MS as0 QQ X E as H locs ls cells slots S
  obtain ⟨s1, s2, s3, s4, s5, s6, s7, s8⟩ := S
  obtain ⟨ws, tys, h1, h2, h3, h4, h5, h6, h7, h8, h9⟩ := id s1
  dsimp only at h2 h3 h4 h8 h9 s5 s6
  obtain ⟨x1, x2, x3, x4, x5, x6, x7, x8, x9, x10, x11, x12, x13, x14, x15, x16, x17, x18⟩ := id X
  have s6 := s6.2
  have hlen : as.length = n := by rw [h1, List.length_cons, List.length_map, h2]
  refine va_newa (atype := .int) (ty := .int) (A := fun q => B0 ≤ q) (a0 := (L, .inl (fun _ => 0))) x1 x2 (x5 _ hw) rfl h5 h6 h7 s2 (fun q h => Nat.le_trans x15 h) (fun cA => rfl) hx hL (by show L * 4 ≤ 536870912; omega) (by omega) (by omega) hd (fun q cA H1 hK hP hD hS => ?_)
  have e1 : st.map (mj_t as) = st.map (mj_t (as ++ [q])) := (mj_ts_app (by rw [hlen]; exact s6)).symm
  have e2 : Value.ref q = mj_t (as ++ [q]) (.ref n) := by
    show Value.ref q = Value.ref _
    rw [List.getD_eq_getElem?_getD, ← hlen, List.getElem?_concat_length]
    rfl
  rw [e1, e2]
  refine k p l e R s m args below meth c D b e0 B0 MC MS as0 QQ X E (as ++ [q]) H1 locs ls (cells + 1) (slots + L) ⟨?_, hS, by obtain ⟨ex, rfl⟩ := s3; exact ⟨ex ++ [q], by rw [List.append_assoc]⟩, by rw [mj_al_app lv 0 (by rw [hlen]; exact s5)]; exact s4, mj_oks_mono (Nat.le_succ n) s5, ⟨Nat.lt_succ_self n, mj_oks_mono (Nat.le_succ n) s6⟩, by omega, by omega⟩
  exact mj_Hp_new (t2 := [(cA, .int)]) h1 h2 h3 h4 hK h8 hP hD (mj_scr h9 s2 hS x14 x15) (mj_mk0 (t0 := tys.length) List.getElem?_concat_length)
theorem mj_newq {x : Int32} {L idx ci : Nat} (hd : decode M.2.1 pc = .ok (.anewarray idx, 3)) (hcl : Cond.classLink M.2.2.2.2.1 idx (mT_C ci) ∈ mj_TW) (hao : ∀ s, mj_XW s → va_AO (mT_C ci) s) (hx : ¬ x < 0) (hL : x.toNatClampNeg = L) (hsz : L ≤ 1000) (hq : pc + 3 = q)
    (k : mj_W M d mc ms Q q lv (.ref n :: st) (n + 1, mj_row K n (1, L, ci), mj_row f n (fun _ => 0), mj_row g n (fun _ => none))) : mj_W M d (1 + mc) (L + ms) Q pc lv (.int x :: st) (n, K, f, g) := by
  subst hq
  intro p l e R s m args below meth c D b e0 B0 MC MS as0 QQ X E as H locs ls cells slots S
  obtain ⟨s1, s2, s3, s4, s5, s6, s7, s8⟩ := S
  obtain ⟨ws, tys, h1, h2, h3, h4, h5, h6, h7, h8, h9⟩ := id s1
  dsimp only at h2 h3 h4 h8 h9 s5 s6
  obtain ⟨x1, x2, x3, x4, x5, x6, x7, x8, x9, x10, x11, x12, x13, x14, x15, x16, x17, x18⟩ := id X
  have s6 := s6.2
  have hlen : as.length = n := by rw [h1, List.length_cons, List.length_map, h2]
  refine va_newq (C := mT_C ci) (A := fun q => B0 ≤ q) x1 x2 x4 (x5 _ hcl) (hao s x6) h5 h6 h7 s2 (fun q h => Nat.le_trans x15 h) hx hL (by omega) (by omega) (by omega) hd (fun q cA H1 hK hP hD hS => ?_)
  have e1 : st.map (mj_t as) = st.map (mj_t (as ++ [q])) := (mj_ts_app (by rw [hlen]; exact s6)).symm
  have e2 : Value.ref q = mj_t (as ++ [q]) (.ref n) := by
    show Value.ref q = Value.ref _
    rw [List.getD_eq_getElem?_getD, ← hlen, List.getElem?_concat_length]
    rfl
  rw [e1, e2]
  refine k p l e R s m args below meth c D b e0 B0 MC MS as0 QQ X E (as ++ [q]) H1 locs ls (cells + 1) (slots + L) ⟨?_, hS, by obtain ⟨ex, rfl⟩ := s3; exact ⟨ex ++ [q], by rw [List.append_assoc]⟩, by rw [mj_al_app lv 0 (by rw [hlen]; exact s5)]; exact s4, mj_oks_mono (Nat.le_succ n) s5, ⟨Nat.lt_succ_self n, mj_oks_mono (Nat.le_succ n) s6⟩, by omega, by omega⟩
  exact mj_Hp_new (t2 := [(cA, .object (mT_C ci))]) h1 h2 h3 h4 hK h8 hP hD (mj_scr h9 s2 hS x14 x15) (mj_mk1 (t0 := tys.length) List.getElem?_concat_length)
theorem mj_objInit {h : mj_H} {idx a : Nat} (hd : decode M.2.1 pc = .ok (.invokespecial idx, 3)) (hln : Cond.methodLink M.2.2.2.2.1 idx Lib.objectInit ∈ mj_TW) (hcat : (st.map fun v => v.category).sum ≤ 8) (hq : pc + 3 = q)
    (k : mj_W M (d + 1) mc ms Q q lv st h) : mj_W M (d + 1) mc ms Q pc lv (.ref a :: st) h := by
  subst hq
  intro p l e R s m args below meth c D b e0 B0 MC MS as0 QQ X E as H locs ls cells slots S
  obtain ⟨s1, s2, s3, s4, s5, s6, s7, s8⟩ := S
  obtain ⟨x1, x2, x3, x4, x5, x6, x7, x8, x9, x10, x11, x12, x13, x14, x15, x16, x17, x18⟩ := id X
  exact W.objInit (g := F0 m pc ls ((.ref a :: st).map (mj_t as))) x1 x2 x4 (x5 _ hln) (x5 _ (mj_in 31 (by decide +kernel) rfl)) (x5 _ (mj_in 32 (by decide +kernel) rfl)) rfl (s4.1.trans x3.symm) rfl hd (by omega) (by show 2 * 0 + _ + 12 ≤ _; rw [mj_cats]; omega)
    (k p l e R s m args below meth c D b e0 B0 MC MS as0 QQ X E as H locs ls cells slots ⟨s1, s2, s3, s4, s5, s6.2, s7, s8⟩)
theorem mj_ldc {h : mj_H} {idx : Nat} {x : Int32} (hd : decode M.2.1 pc = .ok (.ldc idx, 2)) (hw : Cond.constant M.2.2.2.2.1 idx x ∈ mj_TW) (hq : pc + 2 = q) (k : mj_W M d mc ms Q q lv (.int x :: st) h) : mj_W M d mc ms Q pc lv st h := by
  subst hq
  intro p l e R s m args below meth c D b e0 B0 MC MS as0 QQ X E as H locs ls cells slots S
  obtain ⟨s1, s2, s3, s4, s5, s6, s7, s8⟩ := S
  exact lv_ldc X.1 X.2.1 X.2.2.2.1 (X.2.2.2.2.1 _ hw) hd (k p l e R s m args below meth c D b e0 B0 MC MS as0 QQ X E as H locs ls cells slots ⟨s1, s2, s3, s4, s5, ⟨trivial, s6⟩, s7, s8⟩)
theorem mj_ldcw {h : mj_H} {idx : Nat} {x : Int32} (hd : decode M.2.1 pc = .ok (.ldc_w idx, 3)) (hw : Cond.constant M.2.2.2.2.1 idx x ∈ mj_TW) (hq : pc + 3 = q) (k : mj_W M d mc ms Q q lv (.int x :: st) h) : mj_W M d mc ms Q pc lv st h := by
  subst hq
  intro p l e R s m args below meth c D b e0 B0 MC MS as0 QQ X E as H locs ls cells slots S
  obtain ⟨s1, s2, s3, s4, s5, s6, s7, s8⟩ := S
  exact lv_ldcw X.1 X.2.1 X.2.2.2.1 (X.2.2.2.2.1 _ hw) hd (k p l e R s m args below meth c D b e0 B0 MC MS as0 QQ X E as H locs ls cells slots ⟨s1, s2, s3, s4, s5, ⟨trivial, s6⟩, s7, s8⟩)
theorem mj_ldc2 {h : mj_H} {idx : Nat} {x : Int64} (hd : decode M.2.1 pc = .ok (.ldc2_w idx, 3)) (hw : Cond.constantLong M.2.2.2.2.1 idx x ∈ mj_TW) (hq : pc + 3 = q) (k : mj_W M d mc ms Q q lv (.long x :: st) h) : mj_W M d mc ms Q pc lv st h := by
  subst hq
  intro p l e R s m args below meth c D b e0 B0 MC MS as0 QQ X E as H locs ls cells slots S
  obtain ⟨s1, s2, s3, s4, s5, s6, s7, s8⟩ := S
  exact lv_ldc2 X.1 X.2.1 X.2.2.2.1 (X.2.2.2.2.1 _ hw) hd (k p l e R s m args below meth c D b e0 B0 MC MS as0 QQ X E as H locs ls cells slots ⟨s1, s2, s3, s4, s5, ⟨trivial, s6⟩, s7, s8⟩)
theorem mj_ldc2d {h : mj_H} {idx : Nat} {x : UInt64} (hd : decode M.2.1 pc = .ok (.ldc2_w idx, 3)) (hw : Cond.constantDouble M.2.2.2.2.1 idx x ∈ mj_TW) (hq : pc + 3 = q) (k : mj_W M d mc ms Q q lv (.double x :: st) h) : mj_W M d mc ms Q pc lv st h := by
  subst hq
  intro p l e R s m args below meth c D b e0 B0 MC MS as0 QQ X E as H locs ls cells slots S
  obtain ⟨s1, s2, s3, s4, s5, s6, s7, s8⟩ := S
  exact lv_ldc2d X.1 X.2.1 X.2.2.2.1 (X.2.2.2.2.1 _ hw) hd (k p l e R s m args below meth c D b e0 B0 MC MS as0 QQ X E as H locs ls cells slots ⟨s1, s2, s3, s4, s5, ⟨trivial, s6⟩, s7, s8⟩)
theorem mj_newl {x : Int32} (hd : decode M.2.1 pc = .ok (.newarray .long, 2)) (hw : Cond.arrayClass .long ∈ mj_TW) (hx : x = 1) (hq : pc + 2 = q)
    (k : mj_W M d mc ms Q q lv (.ref n :: st) (n + 1, mj_row K n (4, 1, 0), mj_row f n (fun _ => 0), mj_row g n (fun _ => none))) : mj_W M d (1 + mc) (1 + ms) Q pc lv (.int x :: st) (n, K, f, g) := by
  subst hq
  subst hx
  intro p l e R s m args below meth c D b e0 B0 MC MS as0 QQ X E as H locs ls cells slots S
  obtain ⟨s1, s2, s3, s4, s5, s6, s7, s8⟩ := S
  obtain ⟨ws, tys, h1, h2, h3, h4, h5, h6, h7, h8, h9⟩ := id s1
  dsimp only at h2 h3 h4 h8 h9 s5 s6
  obtain ⟨x1, x2, x3, x4, x5, x6, x7, x8, x9, x10, x11, x12, x13, x14, x15, x16, x17, x18⟩ := id X
  have s6 := s6.2
  have hlen : as.length = n := by rw [h1, List.length_cons, List.length_map, h2]
  refine va_newa (atype := .long) (ty := .long) (A := fun q => B0 ≤ q) (a0 := (1, .inr (.inl (fun _ => 0)))) x1 x2 (x5 _ hw) rfl h5 h6 h7 s2 (fun q h => Nat.le_trans x15 h) (fun cA => rfl) (by decide) (N' := 1) (by decide) (by decide) (by omega) (by omega) hd (fun q cA H1 hK hP hD hS => ?_)
  have e1 : st.map (mj_t as) = st.map (mj_t (as ++ [q])) := (mj_ts_app (by rw [hlen]; exact s6)).symm
  have e2 : Value.ref q = mj_t (as ++ [q]) (.ref n) := by
    show Value.ref q = Value.ref _
    rw [List.getD_eq_getElem?_getD, ← hlen, List.getElem?_concat_length]
    rfl
  rw [e1, e2]
  refine k p l e R s m args below meth c D b e0 B0 MC MS as0 QQ X E (as ++ [q]) H1 locs ls (cells + 1) (slots + 1) ⟨?_, hS, by obtain ⟨ex, rfl⟩ := s3; exact ⟨ex ++ [q], by rw [List.append_assoc]⟩, by rw [mj_al_app lv 0 (by rw [hlen]; exact s5)]; exact s4, mj_oks_mono (Nat.le_succ n) s5, ⟨Nat.lt_succ_self n, mj_oks_mono (Nat.le_succ n) s6⟩, by omega, by omega⟩
  exact mj_Hp_new (t2 := [(cA, .long)]) h1 h2 h3 h4 hK h8 hP hD (mj_scr h9 s2 hS x14 x15) (mj_mk4 (t0 := tys.length) List.getElem?_concat_length (fun j hj => by
    have hj0 : j = 0 := by omega
    subst hj0
    decide))
/-- a private field of a nest mate -/
def mj_okFN (own : String) (idx ci sl : Nat) (host : String) : Prop := ci < 10 ∧ sl < mT_N ci ∧ ∀ s, mj_XW s → va_Nw (.fieldLinkNest own idx (mT_T ci sl).1 (mT_T ci sl).2.1 (mT_T ci sl).2.2.1 host) s
theorem mj_getfN {host : String} {a idx ci sl x : Nat} (hd : decode M.2.1 pc = .ok (.getfield idx, 3)) (hF : mj_okFN M.2.2.2.2.1 idx ci sl host) (hr : mT_R ci sl = 0) (hq : pc + 3 = q) (hK : K a = (2, ci, x))
    (k : mj_W M d mc ms Q q lv (.int (f a sl) :: st) (n, K, f, g)) : mj_W M d mc ms Q pc lv (.ref a :: st) (n, K, f, g) := by
  subst hq
  intro p l e R s m args below meth c D b e0 B0 MC MS as0 QQ X E as H locs ls cells slots S
  obtain ⟨s1, s2, s3, s4, s5, s6, s7, s8⟩ := S
  obtain ⟨ws, tys, h1, h2, h3, h4, h5, h6, h7, h8, h9⟩ := id s1
  dsimp only at h2 h3 h4 h8 h9
  obtain ⟨j, e1, rfl, hj, hc⟩ := mj_place h1 h2 h4 h8 s6.1 (by rw [hK]; simp)
  rw [hK] at hc
  obtain ⟨hci, he⟩ := mj_cell2 hc
  subst he
  obtain ⟨f1, f2, f3⟩ := hF
  refine va_getN (host := host) (ref := (mT_T ci sl).1) (C := mT_C ci) (T := mT_T ci) (N := mT_N ci) X.1 X.2.1 X.2.2.2.2.1 (mT_in ci f1) X.2.2.2.1 h5 h6 j hj (mT_at ci f1) sl f2 (va_Nw.use rfl (f3 s X.2.2.2.2.2.1)) (fun _ z => z) (mj_fs_get _ _ _ _ f2) hd ?_
  rw [mj_fv0 hr]
  exact k p l e R s m args below meth c D b e0 B0 MC MS as0 QQ X E as H locs ls cells slots ⟨s1, s2, s3, s4, s5, ⟨trivial, s6.2⟩, s7, s8⟩
theorem mj_getrN {host : String} {a idx ci sl x r : Nat} (hd : decode M.2.1 pc = .ok (.getfield idx, 3)) (hF : mj_okFN M.2.2.2.2.1 idx ci sl host) (hr : mT_R ci sl = 1) (hq : pc + 3 = q) (hK : K a = (2, ci, x)) (hg : g a sl = some r)
    (k : mj_W M d mc ms Q q lv (.ref r :: st) (n, K, f, g)) : mj_W M d mc ms Q pc lv (.ref a :: st) (n, K, f, g) := by
  subst hq
  intro p l e R s m args below meth c D b e0 B0 MC MS as0 QQ X E as H locs ls cells slots S
  obtain ⟨s1, s2, s3, s4, s5, s6, s7, s8⟩ := S
  obtain ⟨ws, tys, h1, h2, h3, h4, h5, h6, h7, h8, h9⟩ := id s1
  dsimp only at h2 h3 h4 h8 h9
  obtain ⟨j, e1, rfl, hj, hc⟩ := mj_place h1 h2 h4 h8 s6.1 (by rw [hK]; simp)
  rw [hK] at hc
  obtain ⟨hci, he⟩ := mj_cell2 hc
  subst he
  obtain ⟨f1, f2, f3⟩ := hF
  refine va_getN (host := host) (ref := (mT_T ci sl).1) (C := mT_C ci) (T := mT_T ci) (N := mT_N ci) X.1 X.2.1 X.2.2.2.2.1 (mT_in ci f1) X.2.2.2.1 h5 h6 j hj (mT_at ci f1) sl f2 (va_Nw.use rfl (f3 s X.2.2.2.2.2.1)) (fun _ z => z) (mj_fs_get _ _ _ _ f2) hd ?_
  rw [mj_fv1 hr, hg]
  exact k p l e R s m args below meth c D b e0 B0 MC MS as0 QQ X E as H locs ls cells slots ⟨s1, s2, s3, s4, s5, ⟨h3 _ _ _ hg, s6.2⟩, s7, s8⟩
theorem mj_putfN {host : String} {a idx ci sl x : Nat} {v : Int32} (hd : decode M.2.1 pc = .ok (.putfield idx, 3)) (hF : mj_okFN M.2.2.2.2.1 idx ci sl host) (hr : mT_R ci sl = 0) (hq : pc + 3 = q) (hK : K a = (2, ci, x)) (hfin : (mT_T ci sl).2.2.2 = false) (hn : narrow (mT_ty ci sl) (.int v) = .int v) (hfit : fits (mT_ty ci sl) (.int v) = true)
    (k : mj_W M d mc ms Q q lv st (n, K, mj_up f a sl v, g)) : mj_W M d mc ms Q pc lv (.int v :: .ref a :: st) (n, K, f, g) := by
  subst hq
  intro p l e R s m args below meth c D b e0 B0 MC MS as0 QQ X E as H locs ls cells slots S
  obtain ⟨s1, s2, s3, s4, s5, s6, s7, s8⟩ := S
  obtain ⟨ws, tys, h1, h2, h3, h4, h5, h6, h7, h8, h9⟩ := id s1
  dsimp only at h2 h3 h4 h8 h9
  obtain ⟨j, e1, rfl, hj, hc⟩ := mj_place h1 h2 h4 h8 s6.2.1 (by rw [hK]; simp)
  rw [hK] at hc
  obtain ⟨hci, he⟩ := mj_cell2 hc
  subst he
  obtain ⟨f1, f2, f3⟩ := hF
  refine va_putN (host := host) (ref := (mT_T ci sl).1) (C := mT_C ci) (T := mT_T ci) (N := mT_N ci) X.1 X.2.1 X.2.2.2.2.1 (mT_in ci f1) (mT_ty ci) (mT_tyok ci f1) (mT_nm ci f1) X.2.2.2.1 h5 h6 h7 s2 j hj (mT_at ci f1) sl f2 (va_Nw.use rfl (f3 s X.2.2.2.2.2.1)) (fun _ z => z) hfin (mT_tyok ci f1 sl f2) hn hfit (by rw [mj_fs_len]; exact f2) hd (fun H1 locs1 hP hD hS => ?_)
  refine k p l e R s m args below meth c D b e0 B0 MC MS as0 QQ X E as H1 locs1 ls cells slots ⟨?_, hS, s3, s4, s5, s6.2.2, s7, s8⟩
  refine mj_Hp_set h1 h2 h3 h4 h5 h8 hj hP hD (mj_scr h9 s2 hS X.2.2.2.2.2.2.2.2.2.2.2.2.2.1 X.2.2.2.2.2.2.2.2.2.2.2.2.2.2.1) ?_ (fun i hi => by funext z; simp [mj_up, hi]) (fun i hi => rfl)
  rw [hK, mj_fs_set (f1 := mj_up f (j + 1) sl v (j + 1)) (g1 := g (j + 1)) (by rw [mj_fv0 hr]; simp [mj_up]; rfl) f2 (fun i hi _ => by simp [mj_up, hi]) (fun i hi => rfl)]
  exact mj_mk2 f1
/-- a list's size, its count of changes -/
theorem mj_getL {a idx sl L x : Nat} {own : String} (hown9 : own = M.2.2.2.2.1) (hd : decode M.2.1 pc = .ok (.getfield idx, 3)) (hsl : sl = 0 ∨ sl = 2) (hq : pc + 3 = q) (hK : K a = (5, L, x))
    (hl : ∀ (s : State) (args : Array Value), (∀ w ∈ mj_TW, w.before args s = true) → mj_XW s → ∃ ref : String, (∀ z, s.fieldFound? (mT_T 1 sl).1 (mT_T 1 sl).2.1 (mT_T 1 sl).2.2.1 = some z → s.fieldFound? ref (mT_T 1 sl).2.1 (mT_T 1 sl).2.2.1 = some z) ∧ ((Cond.fieldLink own idx ref (mT_T 1 sl).2.1 (mT_T 1 sl).2.2.1).before args s = true ∨ ∃ host, (Cond.fieldLinkNest own idx ref (mT_T 1 sl).2.1 (mT_T 1 sl).2.2.1 host).before args s = true))
    (k : mj_W M d mc ms Q q lv (.int (f a sl) :: st) (n, K, f, g)) : mj_W M d mc ms Q pc lv (.ref a :: st) (n, K, f, g) := by
  subst hq
  subst hown9
  intro p l e R s m args below meth c D b e0 B0 MC MS as0 QQ X E as H locs ls cells slots S
  obtain ⟨s1, s2, s3, s4, s5, s6, s7, s8⟩ := S
  obtain ⟨ws, tys, h1, h2, h3, h4, h5, h6, h7, h8, h9⟩ := id s1
  dsimp only at h2 h3 h4 h8 h9
  obtain ⟨j, e1, rfl, hj, hc⟩ := mj_place h1 h2 h4 h8 s6.1 (by rw [hK]; simp)
  rw [hK] at hc
  obtain ⟨e9, he, -⟩ := mj_cell5 hc
  subst he
  obtain ⟨ref, hsame, hlk⟩ := hl s args X.2.2.2.2.1 X.2.2.2.2.2.1
  have hv : ([Value.int (f (j + 1) 0), .ref e9, .int (f (j + 1) 2)] : List Value)[sl]? = some (.int (f (j + 1) sl)) := by
    rcases hsl with rfl | rfl <;> rfl
  have hN : sl < mT_N 1 := by rcases hsl with rfl | rfl <;> decide
  have kk := k p l e R s m args below meth c D b e0 B0 MC MS as0 QQ X E as H locs ls cells slots ⟨s1, s2, s3, s4, s5, ⟨trivial, s6.2⟩, s7, s8⟩
  rcases hlk with hlk | ⟨host, hlk⟩
  · exact va_get (ref := ref) (C := mT_C 1) (T := mT_T 1) (N := mT_N 1) X.1 X.2.1 X.2.2.2.2.1 (mT_in 1 (by decide)) X.2.2.2.1 h5 h6 j hj (mT_at 1 (by decide)) sl hN hlk hsame hv hd kk
  · exact va_getN (ref := ref) (host := host) (C := mT_C 1) (T := mT_T 1) (N := mT_N 1) X.1 X.2.1 X.2.2.2.2.1 (mT_in 1 (by decide)) X.2.2.2.1 h5 h6 j hj (mT_at 1 (by decide)) sl hN hlk hsame hv hd kk
/-- an iterator's hasNext, by its interface -/
theorem mj_callF0 {a ci x count mc1 ms1 : Nat} {Kc : mj_M} {xm : MethodName} {h : mj_H} {Q1 : mj_Q} (hd : decode M.2.1 pc = .ok (.invokeinterface idx count, 5)) (hln : Cond.methodLink M.2.2.2.2.1 idx xm ∈ mj_TW) (hsel : Cond.selects Kc.1.cls xm Kc.1 ∈ mj_TW) (hinst : Cond.instanceMethod Kc.1 ∈ mj_TW) (hini : Cond.initialized Kc.1.cls ∈ mj_TW) (hcode : Cond.code Kc.1 Kc.2.1 Kc.2.2.1 Kc.2.2.2.1 ∈ mj_TW)
    (hF : ∀ s, mj_XW s → va_Fw Kc.1.cls xm Kc.1 s) (hx : xm.cls ≠ "java/lang/invoke/MethodHandle" ∧ xm.cls ≠ "java/lang/invoke/VarHandle" ∧ (parseMethodDescriptor xm.desc).map (fun d => d.parameters.length) = some 0) (hcat : (st.map fun v => v.category).sum ≤ 8) (hL : Kc.2.2.1 ≤ 21) (hci : ci < 10) (hK : h.2.1 a = (2, ci, x)) (hC : mT_C ci = Kc.1.cls)
    (hM : mj_C Kc d mc1 ms1 [.ref a] h Q1) (hq : pc + 5 = q) (k : ∀ v h1, Q1.1 v h1 → mj_W M (d + 1) mc ms Q q lv (v.toList ++ st) h1) (kx : ∀ n h1, Q1.2 n h1 → mj_T M (d + 1) mc ms Q pc lv n h1) : mj_W M (d + 1) (mc1 + mc) (ms1 + ms) Q pc lv (.ref a :: st) h := by
  intro p l e R s m args below meth c D b e0 B0 MC MS as0 QQ X E as H locs ls cells slots S
  obtain ⟨s1, s2, s3, s4, s5, s6, s7, s8⟩ := id S
  obtain ⟨x1, x2, x3, x4, x5, x6, x7, x8, x9, x10, x11, x12, x13, x14, x15, x16, x17, x18⟩ := id X
  have hrecv := mj_recv s1 s6.1 (C := Kc.1.cls) (Or.inl (by rw [hK]; exact ⟨rfl, hC⟩))
  obtain ⟨ws, tys, h1, h2, h3, h4, h5, h6, h7, h8, h9⟩ := id s1
  have hG : GoodIn mj_TW (va_wsF M.2.2.2.2.1 idx Kc.1.cls xm Kc.1 (mj_ws Kc)) := by
    intro w hw
    have hm : w ∈ mj_TW := by
      unfold va_wsF at hw
      rcases List.mem_append.mp hw with hw | hw
      · simp only [List.mem_cons, List.not_mem_nil, or_false] at hw
        rcases hw with rfl | rfl | rfl | rfl <;> assumption
      · rcases List.mem_cons.mp hw with rfl | hw
        · exact hcode
        · exact hw
    exact ⟨hm, good_of_word (mj_TWg _ hm)⟩
  have cw := va_cwF (R := R) (s := s) (args := args) (own := M.2.2.2.2.1) (C := Kc.1.cls) (index := idx) (x := xm) (y := Kc.1) (bytes := Kc.2.1) (maxL := Kc.2.2.1) (ret := Kc.2.2.2.1) (ws := mj_ws Kc) (rm := mj_rm d mc1 ms1) (mc := mc1) (ms := ms1) 0 x5 hG rfl rfl rfl (hF s x6) hx ⟨by show d + 1 ≤ R.frames; omega, by show 8 + (Kc.2.2.1 + 11) + 40 * d ≤ R.locals; omega⟩
  have hat : ClassAt s Kc.1.cls (D.1 ci) := by
    rw [← hC]
    exact (h5.1 ci _ (mT_at ci hci)).2
  have hrun := vx_runF (p := p) (l := l) (e := e) (R := R) (s := s) (m := m) (args := args) (below := below) (meth := meth) (c := c) (H := H) (locs := locs) (cells := cells) (slots := slots) (cc := M.2.1) (nL := M.2.2.1) (own := M.2.2.2.2.1) (C := Kc.1.cls) (b := as.getD a 0) (As := []) (rest := st.map (mj_t as)) (g := F0 m pc ls ((.ref a :: st).map (mj_t as))) (index := idx) (count := count) (n := 0) (x := xm) (y := Kc.1) (bytes := Kc.2.1) (maxL := Kc.2.2.1) (ret := Kc.2.2.2.1) (mc := mc1) (ms := ms1)
    hat ⟨x1, x2, x3, x4, x5⟩ (hM l x17 D b e0 B0 as) cw
    ⟨mj_Pc_blind _ _ _ _ _ _ _, hrecv, fun U hU hW => ⟨rfl, by rw [hU]; exact mj_Hp.moved hW.alike s1, ⟨s6.1, trivial⟩, mj_XW.warm hW x6, x14, by rw [hU]; exact Nat.le_trans x15 s2.1, mj_S0.kept x16 s2 hU hW⟩⟩
    rfl rfl s4.1 rfl (lv_room (by rw [mj_cats]; exact hcat)) hd ⟨by show cells + mc1 ≤ R.cells; omega, by show slots + ms1 ≤ R.slots; omega⟩
  subst hq
  exact mj_after0 X E ⟨s1, s2, s3, s4, s5, s6.2, s7, s8⟩ hrun k kx
/-- new X(text) is thrown -/
theorem mj_throw {ik is ic nx : Nat} {text : String} (hM : M.2.2.2.2.2.2 = []) (d0 : decode M.2.1 pc = .ok (.new ik, 3)) (d3 : decode M.2.1 (pc + 3) = .ok (.dup, 1)) (d4 : decode M.2.1 (pc + 4) = .ok (.ldc is, 2)) (d6 : decode M.2.1 (pc + 6) = .ok (.invokespecial ic, 3)) (d9 : decode M.2.1 (pc + 9) = .ok (.athrow, 1))
    (hfit : Bundle.fit (mj_xn nx) = true) (hk : Cond.classLink M.2.2.2.2.1 ik (mj_xn nx) ∈ mj_TW) (hini : Cond.initialized (mj_xn nx) ∈ mj_TW) (hstr : ∀ s, mj_XW s → ∃ sa, vk_R M.2.2.2.2.1 is text sa s)
    (hat : ∀ (s : State) (args : Array Value), (∀ w ∈ mj_TW, w.before args s = true) → mj_XW s → ∀ w ∈ vx_atS M.2.2.2.2.1 ic (mj_xn nx) ["java/lang/RuntimeException", "java/lang/Exception"], w.before args s = true)
    (hgood : ∀ w ∈ Cond.classLink M.2.2.2.2.1 ik (mj_xn nx) :: Cond.initialized (mj_xn nx) :: vx_atS M.2.2.2.2.1 ic (mj_xn nx) ["java/lang/RuntimeException", "java/lang/Exception"], vx_ot w = true)
    (hd : 6 ≤ d) (hcat : (st.map fun v => v.category).sum ≤ 8) {h : mj_H} (hq : Q.2 nx h) : mj_W M d (1 + mc) (6 + ms) Q pc lv st h := by
  intro p l e R s m args below meth c D b e0 B0 MC MS as0 QQ X E as H locs ls cells slots S
  obtain ⟨s1, s2, s3, s4, s5, s6, s7, s8⟩ := id S
  obtain ⟨x1, x2, x3, x4, x5, x6, x7, x8, x9, x10, x11, x12, x13, x14, x15, x16, x17, x18⟩ := id X
  obtain ⟨sa, hsa⟩ := hstr s x6
  have htab : c.exceptionTable.toList = [] := by
    rw [hM] at x18
    exact List.map_eq_nil_iff.mp x18
  have k := vx_throwS (p := p) (l := l) (e := e) (R := R) (s := s) (m := m) (args := args) (below := below) (meth := meth) (c := c) (H := H) (locs := locs) (cells := cells) (slots := slots) (ls := ls) (rest := st.map (mj_t as)) (free := fun q => B0 ≤ q) (Qc := fun _ _ _ _ => False) (XC := mj_XC D b e0 B0 as0 Q.2) (mc := MC) (ms := MS) (cc := M.2.1) (pc := pc) (A := fun q => B0 ≤ q) (text := text) (names := ["java/lang/RuntimeException", "java/lang/Exception"])
    x1 x2 x17 x4 hfit (by decide +kernel) (x5 _ hk) (x5 _ hini) hsa (hat s args x5 x6) hgood x16.1 x16.2.1 s2 (s4.1.trans x3.symm) d0 d3 d4 d6 d9 (by rw [htab]; intro x hx; cases hx)
    (by show 2 + 3 < R.frames; omega) (by rw [mj_cats]; show _ + (13 * (2 + 1) + 43) ≤ R.locals; omega) (by omega) (by omega) x8
    (fun t hal hsz hold => ⟨⟨nx, as, h, rfl, hq, s3, by
      obtain ⟨ws, tys, h1, h2, h3, h4, h5, h6, h7, h8, h9⟩ := s1
      exact ⟨ws, tys, h1, h2, h3, h4, va_K.moved hal h5, mj_P_old h6 hold, h7, h8, va_X.moved hal (va_X.kept h9 (hold _ (Nat.lt_of_lt_of_le x14 (Nat.le_trans x15 s2.1))))⟩⟩, Nat.le_trans s2.1 hsz, fun q hq1 hq2 => by rw [hold q (Nat.lt_of_lt_of_le hq1 s2.1)]; exact s2.2.1 q hq1 hq2⟩)
    s2.2.2 (by omega) (by omega)
  intro T hT XT
  obtain ⟨t, a1, b1⟩ := k T hT XT
  exact ⟨t, a1, E.2 t b1⟩
end MJ4
end
section
/-! the words of a throw -/
set_option maxRecDepth 100000 in
theorem at_IAE_g : (vx_atS RX5 328 (mj_xn 0) ["java/lang/RuntimeException", "java/lang/Exception"]).filter goodWord = ([44, 453, 462, 466, 469, 471, 454, 455, 63, 64, 456, 461, 467, 487, 443, 488, 445, 489, 447, 457, 459, 449, 483, 484, 486, 449, 474, 475, 476, 477, 477, 478, 479, 480, 480, 481, 482, 483, 473, 432, 440, 441, 442, 444, 446, 448, 452, 451, 450] : List Nat).filterMap (fun i => lw_tbl[i]?) := by decide +kernel
set_option maxRecDepth 100000 in
theorem at_IAE_b : (vx_atS RX5 328 (mj_xn 0) ["java/lang/RuntimeException", "java/lang/Exception"]).filter (fun w => !goodWord w) = [Cond.declares ⟨"java/lang/RuntimeException", "<init>", "(Ljava/lang/String;)V"⟩, Cond.declares ⟨"java/lang/Exception", "<init>", "(Ljava/lang/String;)V"⟩, Cond.declares ⟨"java/lang/Throwable", "<init>", "(Ljava/lang/String;)V"⟩, Cond.castable "java/lang/IllegalArgumentException" "java/lang/IllegalArgumentException"] := by decide +kernel
theorem at_IAE (s : State) (args : Array Value) (ht : ∀ w ∈ mj_TW, w.before args s = true) (hx : mj_XW s) : ∀ w ∈ vx_atS RX5 328 (mj_xn 0) ["java/lang/RuntimeException", "java/lang/Exception"], w.before args s = true := by
  refine vx_hat (B := [Cond.declares ⟨"java/lang/RuntimeException", "<init>", "(Ljava/lang/String;)V"⟩, Cond.declares ⟨"java/lang/Exception", "<init>", "(Ljava/lang/String;)V"⟩, Cond.declares ⟨"java/lang/Throwable", "<init>", "(Ljava/lang/String;)V"⟩, Cond.castable "java/lang/IllegalArgumentException" "java/lang/IllegalArgumentException"]) (fun w hw => ?_) (fun w hw => by rw [at_IAE_b] at hw; exact hw) ?_
  · have hg := (List.mem_filter.mp hw).2
    rw [at_IAE_g] at hw
    obtain ⟨i, -, hi⟩ := List.mem_filterMap.mp hw
    exact ht w (List.mem_filter.mpr ⟨List.mem_of_getElem? hi, hg⟩)
  · exact vx_c (va_Nw.use rfl (mj_XW.dec0 hx)) (vx_c (va_Nw.use rfl (mj_XW.dec1 hx)) (vx_c (va_Nw.use rfl (mj_XW.dec2 hx)) (vx_c (va_Nw.use rfl (mj_XW.cast0 hx)) vx_n)))
set_option maxRecDepth 100000 in
theorem at_IAE_ot : ∀ w ∈ vx_atS RX5 328 (mj_xn 0) ["java/lang/RuntimeException", "java/lang/Exception"], vx_ot w = true := List.all_eq_true.mp (by decide +kernel)
set_option maxRecDepth 100000 in
theorem at_IOB_g : (vx_atS RX5 230 (mj_xn 1) ["java/lang/RuntimeException", "java/lang/Exception"]).filter goodWord = ([44, 453, 462, 466, 469, 471, 454, 455, 63, 64, 456, 461, 467, 487, 443, 488, 445, 489, 447, 457, 459, 449, 483, 484, 486, 449, 525, 526, 527, 477, 477, 478, 479, 480, 480, 481, 482, 483, 524, 515, 517, 465, 518, 519, 520, 521, 452, 451, 522] : List Nat).filterMap (fun i => lw_tbl[i]?) := by decide +kernel
set_option maxRecDepth 100000 in
theorem at_IOB_b : (vx_atS RX5 230 (mj_xn 1) ["java/lang/RuntimeException", "java/lang/Exception"]).filter (fun w => !goodWord w) = [Cond.declares ⟨"java/lang/RuntimeException", "<init>", "(Ljava/lang/String;)V"⟩, Cond.declares ⟨"java/lang/Exception", "<init>", "(Ljava/lang/String;)V"⟩, Cond.declares ⟨"java/lang/Throwable", "<init>", "(Ljava/lang/String;)V"⟩, Cond.castable "java/lang/IndexOutOfBoundsException" "java/lang/IndexOutOfBoundsException"] := by decide +kernel
theorem at_IOB (s : State) (args : Array Value) (ht : ∀ w ∈ mj_TW, w.before args s = true) (hx : mj_XW s) : ∀ w ∈ vx_atS RX5 230 (mj_xn 1) ["java/lang/RuntimeException", "java/lang/Exception"], w.before args s = true := by
  refine vx_hat (B := [Cond.declares ⟨"java/lang/RuntimeException", "<init>", "(Ljava/lang/String;)V"⟩, Cond.declares ⟨"java/lang/Exception", "<init>", "(Ljava/lang/String;)V"⟩, Cond.declares ⟨"java/lang/Throwable", "<init>", "(Ljava/lang/String;)V"⟩, Cond.castable "java/lang/IndexOutOfBoundsException" "java/lang/IndexOutOfBoundsException"]) (fun w hw => ?_) (fun w hw => by rw [at_IOB_b] at hw; exact hw) ?_
  · have hg := (List.mem_filter.mp hw).2
    rw [at_IOB_g] at hw
    obtain ⟨i, -, hi⟩ := List.mem_filterMap.mp hw
    exact ht w (List.mem_filter.mpr ⟨List.mem_of_getElem? hi, hg⟩)
  · exact vx_c (va_Nw.use rfl (mj_XW.dec0 hx)) (vx_c (va_Nw.use rfl (mj_XW.dec1 hx)) (vx_c (va_Nw.use rfl (mj_XW.dec2 hx)) (vx_c (va_Nw.use rfl (mj_XW.cast1 hx)) vx_n)))
set_option maxRecDepth 100000 in
theorem at_IOB_ot : ∀ w ∈ vx_atS RX5 230 (mj_xn 1) ["java/lang/RuntimeException", "java/lang/Exception"], vx_ot w = true := List.all_eq_true.mp (by decide +kernel)
end
section
theorem dX0_init_0 : decode cX0_init 0 = .ok (.aload_n 0, 1) := by decide +kernel
theorem dX0_init_1 : decode cX0_init 1 = .ok (.invokespecial 1, 3) := by decide +kernel
theorem dX0_init_4 : decode cX0_init 4 = .ok (.return_, 1) := by decide +kernel
theorem dX1_init_0 : decode cX1_init 0 = .ok (.aload_n 0, 1) := by decide +kernel
theorem dX1_init_1 : decode cX1_init 1 = .ok (.invokespecial 3, 3) := by decide +kernel
theorem dX1_init_4 : decode cX1_init 4 = .ok (.aload_n 0, 1) := by decide +kernel
theorem dX1_init_5 : decode cX1_init 5 = .ok (.iconst 4, 1) := by decide +kernel
theorem dX1_init_6 : decode cX1_init 6 = .ok (.anewarray 9, 3) := by decide +kernel
theorem dX1_init_9 : decode cX1_init 9 = .ok (.putfield 11, 3) := by decide +kernel
theorem dX1_init_12 : decode cX1_init 12 = .ok (.iconst 0, 1) := by decide +kernel
theorem dX1_init_13 : decode cX1_init 13 = .ok (.istore_n 1, 1) := by decide +kernel
theorem dX1_init_14 : decode cX1_init 14 = .ok (.iload_n 1, 1) := by decide +kernel
theorem dX1_init_15 : decode cX1_init 15 = .ok (.iconst 4, 1) := by decide +kernel
theorem dX1_init_16 : decode cX1_init 16 = .ok (.if_icmp .ge 22, 3) := by decide +kernel
theorem dX1_init_19 : decode cX1_init 19 = .ok (.aload_n 0, 1) := by decide +kernel
theorem dX1_init_20 : decode cX1_init 20 = .ok (.getfield 11, 3) := by decide +kernel
theorem dX1_init_23 : decode cX1_init 23 = .ok (.iload_n 1, 1) := by decide +kernel
theorem dX1_init_24 : decode cX1_init 24 = .ok (.new 9, 3) := by decide +kernel
theorem dX1_init_27 : decode cX1_init 27 = .ok (.dup, 1) := by decide +kernel
theorem dX1_init_28 : decode cX1_init 28 = .ok (.invokespecial 17, 3) := by decide +kernel
theorem dX1_init_31 : decode cX1_init 31 = .ok (.aastore, 1) := by decide +kernel
theorem dX1_init_32 : decode cX1_init 32 = .ok (.iinc 1 1, 3) := by decide +kernel
theorem dX1_init_35 : decode cX1_init 35 = .ok (.goto (-21), 3) := by decide +kernel
theorem dX1_init_38 : decode cX1_init 38 = .ok (.aload_n 0, 1) := by decide +kernel
theorem dX1_init_39 : decode cX1_init 39 = .ok (.bipush 8, 2) := by decide +kernel
theorem dX1_init_41 : decode cX1_init 41 = .ok (.anewarray 18, 3) := by decide +kernel
theorem dX1_init_44 : decode cX1_init 44 = .ok (.putfield 20, 3) := by decide +kernel
theorem dX1_init_47 : decode cX1_init 47 = .ok (.iconst 0, 1) := by decide +kernel
theorem dX1_init_48 : decode cX1_init 48 = .ok (.istore_n 1, 1) := by decide +kernel
theorem dX1_init_49 : decode cX1_init 49 = .ok (.iload_n 1, 1) := by decide +kernel
theorem dX1_init_50 : decode cX1_init 50 = .ok (.bipush 8, 2) := by decide +kernel
theorem dX1_init_52 : decode cX1_init 52 = .ok (.if_icmp .ge 22, 3) := by decide +kernel
theorem dX1_init_55 : decode cX1_init 55 = .ok (.aload_n 0, 1) := by decide +kernel
theorem dX1_init_56 : decode cX1_init 56 = .ok (.getfield 20, 3) := by decide +kernel
theorem dX1_init_59 : decode cX1_init 59 = .ok (.iload_n 1, 1) := by decide +kernel
theorem dX1_init_60 : decode cX1_init 60 = .ok (.new 18, 3) := by decide +kernel
theorem dX1_init_63 : decode cX1_init 63 = .ok (.dup, 1) := by decide +kernel
theorem dX1_init_64 : decode cX1_init 64 = .ok (.invokespecial 24, 3) := by decide +kernel
theorem dX1_init_67 : decode cX1_init 67 = .ok (.aastore, 1) := by decide +kernel
theorem dX1_init_68 : decode cX1_init 68 = .ok (.iinc 1 1, 3) := by decide +kernel
theorem dX1_init_71 : decode cX1_init 71 = .ok (.goto (-22), 3) := by decide +kernel
theorem dX1_init_74 : decode cX1_init 74 = .ok (.aload_n 0, 1) := by decide +kernel
theorem dX1_init_75 : decode cX1_init 75 = .ok (.sipush 500, 3) := by decide +kernel
theorem dX1_init_78 : decode cX1_init 78 = .ok (.putfield 25, 3) := by decide +kernel
theorem dX1_init_81 : decode cX1_init 81 = .ok (.aload_n 0, 1) := by decide +kernel
theorem dX1_init_82 : decode cX1_init 82 = .ok (.bipush 50, 2) := by decide +kernel
theorem dX1_init_84 : decode cX1_init 84 = .ok (.putfield 29, 3) := by decide +kernel
theorem dX1_init_87 : decode cX1_init 87 = .ok (.aload_n 0, 1) := by decide +kernel
theorem dX1_init_88 : decode cX1_init 88 = .ok (.bipush 100, 2) := by decide +kernel
theorem dX1_init_90 : decode cX1_init 90 = .ok (.putfield 32, 3) := by decide +kernel
theorem dX1_init_93 : decode cX1_init 93 = .ok (.return_, 1) := by decide +kernel
theorem dX1_clock_0 : decode cX1_clock 0 = .ok (.aload_n 0, 1) := by decide +kernel
theorem dX1_clock_1 : decode cX1_clock 1 = .ok (.getfield 48, 3) := by decide +kernel
theorem dX1_clock_4 : decode cX1_clock 4 = .ok (.bipush 24, 2) := by decide +kernel
theorem dX1_clock_6 : decode cX1_clock 6 = .ok (.irem, 1) := by decide +kernel
theorem dX1_clock_7 : decode cX1_clock 7 = .ok (.ireturn, 1) := by decide +kernel
theorem dX1_openRuns_0 : decode cX1_openRuns 0 = .ok (.iconst 0, 1) := by decide +kernel
theorem dX1_openRuns_1 : decode cX1_openRuns 1 = .ok (.istore_n 1, 1) := by decide +kernel
theorem dX1_openRuns_2 : decode cX1_openRuns 2 = .ok (.iconst 0, 1) := by decide +kernel
theorem dX1_openRuns_3 : decode cX1_openRuns 3 = .ok (.istore_n 2, 1) := by decide +kernel
theorem dX1_openRuns_4 : decode cX1_openRuns 4 = .ok (.iload_n 2, 1) := by decide +kernel
theorem dX1_openRuns_5 : decode cX1_openRuns 5 = .ok (.aload_n 0, 1) := by decide +kernel
theorem dX1_openRuns_6 : decode cX1_openRuns 6 = .ok (.getfield 42, 3) := by decide +kernel
theorem dX1_openRuns_9 : decode cX1_openRuns 9 = .ok (.if_icmp .ge 24, 3) := by decide +kernel
theorem dX1_openRuns_12 : decode cX1_openRuns 12 = .ok (.iload_n 1, 1) := by decide +kernel
theorem dX1_openRuns_13 : decode cX1_openRuns 13 = .ok (.aload_n 0, 1) := by decide +kernel
theorem dX1_openRuns_14 : decode cX1_openRuns 14 = .ok (.getfield 20, 3) := by decide +kernel
theorem dX1_openRuns_17 : decode cX1_openRuns 17 = .ok (.iload_n 2, 1) := by decide +kernel
theorem dX1_openRuns_18 : decode cX1_openRuns 18 = .ok (.aaload, 1) := by decide +kernel
theorem dX1_openRuns_19 : decode cX1_openRuns 19 = .ok (.getfield 78, 3) := by decide +kernel
theorem dX1_openRuns_22 : decode cX1_openRuns 22 = .ok (.invokestatic 82, 3) := by decide +kernel
theorem dX1_openRuns_25 : decode cX1_openRuns 25 = .ok (.iadd, 1) := by decide +kernel
theorem dX1_openRuns_26 : decode cX1_openRuns 26 = .ok (.istore_n 1, 1) := by decide +kernel
theorem dX1_openRuns_27 : decode cX1_openRuns 27 = .ok (.iinc 2 1, 3) := by decide +kernel
theorem dX1_openRuns_30 : decode cX1_openRuns 30 = .ok (.goto (-26), 3) := by decide +kernel
theorem dX1_openRuns_33 : decode cX1_openRuns 33 = .ok (.iload_n 1, 1) := by decide +kernel
theorem dX1_openRuns_34 : decode cX1_openRuns 34 = .ok (.ireturn, 1) := by decide +kernel
theorem dX1_depthByArea_0 : decode cX1_depthByArea 0 = .ok (.iconst 0, 1) := by decide +kernel
theorem dX1_depthByArea_1 : decode cX1_depthByArea 1 = .ok (.istore_n 1, 1) := by decide +kernel
theorem dX1_depthByArea_2 : decode cX1_depthByArea 2 = .ok (.iconst 0, 1) := by decide +kernel
theorem dX1_depthByArea_3 : decode cX1_depthByArea 3 = .ok (.istore_n 2, 1) := by decide +kernel
theorem dX1_depthByArea_4 : decode cX1_depthByArea 4 = .ok (.iload_n 2, 1) := by decide +kernel
theorem dX1_depthByArea_5 : decode cX1_depthByArea 5 = .ok (.aload_n 0, 1) := by decide +kernel
theorem dX1_depthByArea_6 : decode cX1_depthByArea 6 = .ok (.getfield 42, 3) := by decide +kernel
theorem dX1_depthByArea_9 : decode cX1_depthByArea 9 = .ok (.if_icmp .ge 34, 3) := by decide +kernel
theorem dX1_depthByArea_12 : decode cX1_depthByArea 12 = .ok (.iload_n 1, 1) := by decide +kernel
theorem dX1_depthByArea_13 : decode cX1_depthByArea 13 = .ok (.aload_n 0, 1) := by decide +kernel
theorem dX1_depthByArea_14 : decode cX1_depthByArea 14 = .ok (.getfield 20, 3) := by decide +kernel
theorem dX1_depthByArea_17 : decode cX1_depthByArea 17 = .ok (.iload_n 2, 1) := by decide +kernel
theorem dX1_depthByArea_18 : decode cX1_depthByArea 18 = .ok (.aaload, 1) := by decide +kernel
theorem dX1_depthByArea_19 : decode cX1_depthByArea 19 = .ok (.getfield 89, 3) := by decide +kernel
theorem dX1_depthByArea_22 : decode cX1_depthByArea 22 = .ok (.invokevirtual 93, 3) := by decide +kernel
theorem dX1_depthByArea_25 : decode cX1_depthByArea 25 = .ok (.aload_n 0, 1) := by decide +kernel
theorem dX1_depthByArea_26 : decode cX1_depthByArea 26 = .ok (.getfield 20, 3) := by decide +kernel
theorem dX1_depthByArea_29 : decode cX1_depthByArea 29 = .ok (.iload_n 2, 1) := by decide +kernel
theorem dX1_depthByArea_30 : decode cX1_depthByArea 30 = .ok (.aaload, 1) := by decide +kernel
theorem dX1_depthByArea_31 : decode cX1_depthByArea 31 = .ok (.getfield 99, 3) := by decide +kernel
theorem dX1_depthByArea_34 : decode cX1_depthByArea 34 = .ok (.imul, 1) := by decide +kernel
theorem dX1_depthByArea_35 : decode cX1_depthByArea 35 = .ok (.iadd, 1) := by decide +kernel
theorem dX1_depthByArea_36 : decode cX1_depthByArea 36 = .ok (.istore_n 1, 1) := by decide +kernel
theorem dX1_depthByArea_37 : decode cX1_depthByArea 37 = .ok (.iinc 2 1, 3) := by decide +kernel
theorem dX1_depthByArea_40 : decode cX1_depthByArea 40 = .ok (.goto (-36), 3) := by decide +kernel
theorem dX1_depthByArea_43 : decode cX1_depthByArea 43 = .ok (.iload_n 1, 1) := by decide +kernel
theorem dX1_depthByArea_44 : decode cX1_depthByArea 44 = .ok (.ireturn, 1) := by decide +kernel
theorem dX1_wholeArea_0 : decode cX1_wholeArea 0 = .ok (.iconst 0, 1) := by decide +kernel
theorem dX1_wholeArea_1 : decode cX1_wholeArea 1 = .ok (.istore_n 1, 1) := by decide +kernel
theorem dX1_wholeArea_2 : decode cX1_wholeArea 2 = .ok (.iconst 0, 1) := by decide +kernel
theorem dX1_wholeArea_3 : decode cX1_wholeArea 3 = .ok (.istore_n 2, 1) := by decide +kernel
theorem dX1_wholeArea_4 : decode cX1_wholeArea 4 = .ok (.iload_n 2, 1) := by decide +kernel
theorem dX1_wholeArea_5 : decode cX1_wholeArea 5 = .ok (.aload_n 0, 1) := by decide +kernel
theorem dX1_wholeArea_6 : decode cX1_wholeArea 6 = .ok (.getfield 42, 3) := by decide +kernel
theorem dX1_wholeArea_9 : decode cX1_wholeArea 9 = .ok (.if_icmp .ge 21, 3) := by decide +kernel
theorem dX1_wholeArea_12 : decode cX1_wholeArea 12 = .ok (.iload_n 1, 1) := by decide +kernel
theorem dX1_wholeArea_13 : decode cX1_wholeArea 13 = .ok (.aload_n 0, 1) := by decide +kernel
theorem dX1_wholeArea_14 : decode cX1_wholeArea 14 = .ok (.getfield 20, 3) := by decide +kernel
theorem dX1_wholeArea_17 : decode cX1_wholeArea 17 = .ok (.iload_n 2, 1) := by decide +kernel
theorem dX1_wholeArea_18 : decode cX1_wholeArea 18 = .ok (.aaload, 1) := by decide +kernel
theorem dX1_wholeArea_19 : decode cX1_wholeArea 19 = .ok (.getfield 99, 3) := by decide +kernel
theorem dX1_wholeArea_22 : decode cX1_wholeArea 22 = .ok (.iadd, 1) := by decide +kernel
theorem dX1_wholeArea_23 : decode cX1_wholeArea 23 = .ok (.istore_n 1, 1) := by decide +kernel
theorem dX1_wholeArea_24 : decode cX1_wholeArea 24 = .ok (.iinc 2 1, 3) := by decide +kernel
theorem dX1_wholeArea_27 : decode cX1_wholeArea 27 = .ok (.goto (-23), 3) := by decide +kernel
theorem dX1_wholeArea_30 : decode cX1_wholeArea 30 = .ok (.iload_n 1, 1) := by decide +kernel
theorem dX1_wholeArea_31 : decode cX1_wholeArea 31 = .ok (.ireturn, 1) := by decide +kernel
theorem dX1_passHour_0 : decode cX1_passHour 0 = .ok (.aload_n 0, 1) := by decide +kernel
theorem dX1_passHour_1 : decode cX1_passHour 1 = .ok (.dup, 1) := by decide +kernel
theorem dX1_passHour_2 : decode cX1_passHour 2 = .ok (.getfield 48, 3) := by decide +kernel
theorem dX1_passHour_5 : decode cX1_passHour 5 = .ok (.iconst 1, 1) := by decide +kernel
theorem dX1_passHour_6 : decode cX1_passHour 6 = .ok (.iadd, 1) := by decide +kernel
theorem dX1_passHour_7 : decode cX1_passHour 7 = .ok (.putfield 48, 3) := by decide +kernel
theorem dX1_passHour_10 : decode cX1_passHour 10 = .ok (.aload_n 0, 1) := by decide +kernel
theorem dX1_passHour_11 : decode cX1_passHour 11 = .ok (.aload_n 1, 1) := by decide +kernel
theorem dX1_passHour_12 : decode cX1_passHour 12 = .ok (.getfield 150, 3) := by decide +kernel
theorem dX1_passHour_15 : decode cX1_passHour 15 = .ok (.putfield 51, 3) := by decide +kernel
theorem dX1_passHour_18 : decode cX1_passHour 18 = .ok (.iconst 0, 1) := by decide +kernel
theorem dX1_passHour_19 : decode cX1_passHour 19 = .ok (.istore_n 2, 1) := by decide +kernel
theorem dX1_passHour_20 : decode cX1_passHour 20 = .ok (.iload_n 2, 1) := by decide +kernel
theorem dX1_passHour_21 : decode cX1_passHour 21 = .ok (.aload_n 0, 1) := by decide +kernel
theorem dX1_passHour_22 : decode cX1_passHour 22 = .ok (.getfield 42, 3) := by decide +kernel
theorem dX1_passHour_25 : decode cX1_passHour 25 = .ok (.if_icmp .ge 102, 3) := by decide +kernel
theorem dX1_passHour_28 : decode cX1_passHour 28 = .ok (.aload_n 0, 1) := by decide +kernel
theorem dX1_passHour_29 : decode cX1_passHour 29 = .ok (.getfield 20, 3) := by decide +kernel
theorem dX1_passHour_32 : decode cX1_passHour 32 = .ok (.iload_n 2, 1) := by decide +kernel
theorem dX1_passHour_33 : decode cX1_passHour 33 = .ok (.aaload, 1) := by decide +kernel
theorem dX1_passHour_34 : decode cX1_passHour 34 = .ok (.astore_n 3, 1) := by decide +kernel
theorem dX1_passHour_35 : decode cX1_passHour 35 = .ok (.aload_n 1, 1) := by decide +kernel
theorem dX1_passHour_36 : decode cX1_passHour 36 = .ok (.getfield 155, 3) := by decide +kernel
theorem dX1_passHour_39 : decode cX1_passHour 39 = .ok (.aload_n 3, 1) := by decide +kernel
theorem dX1_passHour_40 : decode cX1_passHour 40 = .ok (.getfield 158, 3) := by decide +kernel
theorem dX1_passHour_43 : decode cX1_passHour 43 = .ok (.iconst 2, 1) := by decide +kernel
theorem dX1_passHour_44 : decode cX1_passHour 44 = .ok (.idiv, 1) := by decide +kernel
theorem dX1_passHour_45 : decode cX1_passHour 45 = .ok (.isub, 1) := by decide +kernel
theorem dX1_passHour_46 : decode cX1_passHour 46 = .ok (.istore 4, 2) := by decide +kernel
theorem dX1_passHour_48 : decode cX1_passHour 48 = .ok (.aload_n 3, 1) := by decide +kernel
theorem dX1_passHour_49 : decode cX1_passHour 49 = .ok (.aload_n 1, 1) := by decide +kernel
theorem dX1_passHour_50 : decode cX1_passHour 50 = .ok (.iload 4, 2) := by decide +kernel
theorem dX1_passHour_52 : decode cX1_passHour 52 = .ok (.aload_n 0, 1) := by decide +kernel
theorem dX1_passHour_53 : decode cX1_passHour 53 = .ok (.invokevirtual 161, 3) := by decide +kernel
theorem dX1_passHour_56 : decode cX1_passHour 56 = .ok (.invokevirtual 164, 3) := by decide +kernel
theorem dX1_passHour_59 : decode cX1_passHour 59 = .ok (.aload_n 0, 1) := by decide +kernel
theorem dX1_passHour_60 : decode cX1_passHour 60 = .ok (.aload_n 3, 1) := by decide +kernel
theorem dX1_passHour_61 : decode cX1_passHour 61 = .ok (.iload 4, 2) := by decide +kernel
theorem dX1_passHour_63 : decode cX1_passHour 63 = .ok (.bipush 100, 2) := by decide +kernel
theorem dX1_passHour_65 : decode cX1_passHour 65 = .ok (.aload_n 1, 1) := by decide +kernel
theorem dX1_passHour_66 : decode cX1_passHour 66 = .ok (.getfield 168, 3) := by decide +kernel
theorem dX1_passHour_69 : decode cX1_passHour 69 = .ok (.isub, 1) := by decide +kernel
theorem dX1_passHour_70 : decode cX1_passHour 70 = .ok (.bipush 10, 2) := by decide +kernel
theorem dX1_passHour_72 : decode cX1_passHour 72 = .ok (.idiv, 1) := by decide +kernel
theorem dX1_passHour_73 : decode cX1_passHour 73 = .ok (.isub, 1) := by decide +kernel
theorem dX1_passHour_74 : decode cX1_passHour 74 = .ok (.invokevirtual 171, 3) := by decide +kernel
theorem dX1_passHour_77 : decode cX1_passHour 77 = .ok (.aload_n 3, 1) := by decide +kernel
theorem dX1_passHour_78 : decode cX1_passHour 78 = .ok (.aload_n 3, 1) := by decide +kernel
theorem dX1_passHour_79 : decode cX1_passHour 79 = .ok (.invokevirtual 105, 3) := by decide +kernel
theorem dX1_passHour_82 : decode cX1_passHour 82 = .ok (.putfield 175, 3) := by decide +kernel
theorem dX1_passHour_85 : decode cX1_passHour 85 = .ok (.aload_n 3, 1) := by decide +kernel
theorem dX1_passHour_86 : decode cX1_passHour 86 = .ok (.getfield 175, 3) := by decide +kernel
theorem dX1_passHour_89 : decode cX1_passHour 89 = .ok (.bipush 100, 2) := by decide +kernel
theorem dX1_passHour_91 : decode cX1_passHour 91 = .ok (.if_icmp .lt 30, 3) := by decide +kernel
theorem dX1_passHour_94 : decode cX1_passHour 94 = .ok (.aload_n 0, 1) := by decide +kernel
theorem dX1_passHour_95 : decode cX1_passHour 95 = .ok (.dup, 1) := by decide +kernel
theorem dX1_passHour_96 : decode cX1_passHour 96 = .ok (.getfield 63, 3) := by decide +kernel
theorem dX1_passHour_99 : decode cX1_passHour 99 = .ok (.aload_n 3, 1) := by decide +kernel
theorem dX1_passHour_100 : decode cX1_passHour 100 = .ok (.getfield 78, 3) := by decide +kernel
theorem dX1_passHour_103 : decode cX1_passHour 103 = .ok (.invokestatic 82, 3) := by decide +kernel
theorem dX1_passHour_106 : decode cX1_passHour 106 = .ok (.iadd, 1) := by decide +kernel
theorem dX1_passHour_107 : decode cX1_passHour 107 = .ok (.putfield 63, 3) := by decide +kernel
theorem dX1_passHour_110 : decode cX1_passHour 110 = .ok (.aload_n 3, 1) := by decide +kernel
theorem dX1_passHour_111 : decode cX1_passHour 111 = .ok (.iconst 0, 1) := by decide +kernel
theorem dX1_passHour_112 : decode cX1_passHour 112 = .ok (.putfield 78, 3) := by decide +kernel
theorem dX1_passHour_115 : decode cX1_passHour 115 = .ok (.aload_n 0, 1) := by decide +kernel
theorem dX1_passHour_116 : decode cX1_passHour 116 = .ok (.aload_n 3, 1) := by decide +kernel
theorem dX1_passHour_117 : decode cX1_passHour 117 = .ok (.invokevirtual 178, 3) := by decide +kernel
theorem dX1_passHour_120 : decode cX1_passHour 120 = .ok (.pop, 1) := by decide +kernel
theorem dX1_passHour_121 : decode cX1_passHour 121 = .ok (.iinc 2 1, 3) := by decide +kernel
theorem dX1_passHour_124 : decode cX1_passHour 124 = .ok (.goto (-104), 3) := by decide +kernel
theorem dX1_passHour_127 : decode cX1_passHour 127 = .ok (.aload_n 0, 1) := by decide +kernel
theorem dX1_passHour_128 : decode cX1_passHour 128 = .ok (.aload_n 1, 1) := by decide +kernel
theorem dX1_passHour_129 : decode cX1_passHour 129 = .ok (.getfield 150, 3) := by decide +kernel
theorem dX1_passHour_132 : decode cX1_passHour 132 = .ok (.invokevirtual 182, 3) := by decide +kernel
theorem dX1_passHour_135 : decode cX1_passHour 135 = .ok (.aload_n 0, 1) := by decide +kernel
theorem dX1_passHour_136 : decode cX1_passHour 136 = .ok (.invokevirtual 161, 3) := by decide +kernel
theorem dX1_passHour_139 : decode cX1_passHour 139 = .ok (.bipush 9, 2) := by decide +kernel
theorem dX1_passHour_141 : decode cX1_passHour 141 = .ok (.if_icmp .lt 16, 3) := by decide +kernel
theorem dX1_passHour_144 : decode cX1_passHour 144 = .ok (.aload_n 0, 1) := by decide +kernel
theorem dX1_passHour_145 : decode cX1_passHour 145 = .ok (.invokevirtual 161, 3) := by decide +kernel
theorem dX1_passHour_148 : decode cX1_passHour 148 = .ok (.bipush 16, 2) := by decide +kernel
theorem dX1_passHour_150 : decode cX1_passHour 150 = .ok (.if_icmp .gt 7, 3) := by decide +kernel
theorem dX1_passHour_153 : decode cX1_passHour 153 = .ok (.aload_n 0, 1) := by decide +kernel
theorem dX1_passHour_154 : decode cX1_passHour 154 = .ok (.invokevirtual 185, 3) := by decide +kernel
theorem dX1_passHour_157 : decode cX1_passHour 157 = .ok (.return_, 1) := by decide +kernel
theorem dX1_holdLifts_0 : decode cX1_holdLifts 0 = .ok (.iconst 0, 1) := by decide +kernel
theorem dX1_holdLifts_1 : decode cX1_holdLifts 1 = .ok (.istore_n 2, 1) := by decide +kernel
theorem dX1_holdLifts_2 : decode cX1_holdLifts 2 = .ok (.iload_n 2, 1) := by decide +kernel
theorem dX1_holdLifts_3 : decode cX1_holdLifts 3 = .ok (.aload_n 0, 1) := by decide +kernel
theorem dX1_holdLifts_4 : decode cX1_holdLifts 4 = .ok (.getfield 35, 3) := by decide +kernel
theorem dX1_holdLifts_7 : decode cX1_holdLifts 7 = .ok (.if_icmp .ge 32, 3) := by decide +kernel
theorem dX1_holdLifts_10 : decode cX1_holdLifts 10 = .ok (.iload_n 1, 1) := by decide +kernel
theorem dX1_holdLifts_11 : decode cX1_holdLifts 11 = .ok (.aload_n 0, 1) := by decide +kernel
theorem dX1_holdLifts_12 : decode cX1_holdLifts 12 = .ok (.getfield 11, 3) := by decide +kernel
theorem dX1_holdLifts_15 : decode cX1_holdLifts 15 = .ok (.iload_n 2, 1) := by decide +kernel
theorem dX1_holdLifts_16 : decode cX1_holdLifts 16 = .ok (.aaload, 1) := by decide +kernel
theorem dX1_holdLifts_17 : decode cX1_holdLifts 17 = .ok (.getfield 188, 3) := by decide +kernel
theorem dX1_holdLifts_20 : decode cX1_holdLifts 20 = .ok (.if_icmp .le 13, 3) := by decide +kernel
theorem dX1_holdLifts_23 : decode cX1_holdLifts 23 = .ok (.aload_n 0, 1) := by decide +kernel
theorem dX1_holdLifts_24 : decode cX1_holdLifts 24 = .ok (.getfield 11, 3) := by decide +kernel
theorem dX1_holdLifts_27 : decode cX1_holdLifts 27 = .ok (.iload_n 2, 1) := by decide +kernel
theorem dX1_holdLifts_28 : decode cX1_holdLifts 28 = .ok (.aaload, 1) := by decide +kernel
theorem dX1_holdLifts_29 : decode cX1_holdLifts 29 = .ok (.iconst 1, 1) := by decide +kernel
theorem dX1_holdLifts_30 : decode cX1_holdLifts 30 = .ok (.putfield 191, 3) := by decide +kernel
theorem dX1_holdLifts_33 : decode cX1_holdLifts 33 = .ok (.iinc 2 1, 3) := by decide +kernel
theorem dX1_holdLifts_36 : decode cX1_holdLifts 36 = .ok (.goto (-34), 3) := by decide +kernel
theorem dX1_holdLifts_39 : decode cX1_holdLifts 39 = .ok (.return_, 1) := by decide +kernel
theorem dX1_carrySkiers_0 : decode cX1_carrySkiers 0 = .ok (.aload_n 0, 1) := by decide +kernel
theorem dX1_carrySkiers_1 : decode cX1_carrySkiers 1 = .ok (.getfield 54, 3) := by decide +kernel
theorem dX1_carrySkiers_4 : decode cX1_carrySkiers 4 = .ok (.istore_n 1, 1) := by decide +kernel
theorem dX1_carrySkiers_5 : decode cX1_carrySkiers 5 = .ok (.iconst 0, 1) := by decide +kernel
theorem dX1_carrySkiers_6 : decode cX1_carrySkiers 6 = .ok (.istore_n 2, 1) := by decide +kernel
theorem dX1_carrySkiers_7 : decode cX1_carrySkiers 7 = .ok (.iload_n 2, 1) := by decide +kernel
theorem dX1_carrySkiers_8 : decode cX1_carrySkiers 8 = .ok (.aload_n 0, 1) := by decide +kernel
theorem dX1_carrySkiers_9 : decode cX1_carrySkiers 9 = .ok (.getfield 35, 3) := by decide +kernel
theorem dX1_carrySkiers_12 : decode cX1_carrySkiers 12 = .ok (.if_icmp .ge 86, 3) := by decide +kernel
theorem dX1_carrySkiers_15 : decode cX1_carrySkiers 15 = .ok (.aload_n 0, 1) := by decide +kernel
theorem dX1_carrySkiers_16 : decode cX1_carrySkiers 16 = .ok (.iload_n 2, 1) := by decide +kernel
theorem dX1_carrySkiers_17 : decode cX1_carrySkiers 17 = .ok (.invokevirtual 211, 3) := by decide +kernel
theorem dX1_carrySkiers_20 : decode cX1_carrySkiers 20 = .ok (.istore_n 3, 1) := by decide +kernel
theorem dX1_carrySkiers_21 : decode cX1_carrySkiers 21 = .ok (.aload_n 0, 1) := by decide +kernel
theorem dX1_carrySkiers_22 : decode cX1_carrySkiers 22 = .ok (.getfield 11, 3) := by decide +kernel
theorem dX1_carrySkiers_25 : decode cX1_carrySkiers 25 = .ok (.iload_n 2, 1) := by decide +kernel
theorem dX1_carrySkiers_26 : decode cX1_carrySkiers 26 = .ok (.aaload, 1) := by decide +kernel
theorem dX1_carrySkiers_27 : decode cX1_carrySkiers 27 = .ok (.invokevirtual 128, 3) := by decide +kernel
theorem dX1_carrySkiers_30 : decode cX1_carrySkiers 30 = .ok (.ifCond .eq 62, 3) := by decide +kernel
theorem dX1_carrySkiers_33 : decode cX1_carrySkiers 33 = .ok (.iload_n 3, 1) := by decide +kernel
theorem dX1_carrySkiers_34 : decode cX1_carrySkiers 34 = .ok (.ifCond .le 58, 3) := by decide +kernel
theorem dX1_carrySkiers_37 : decode cX1_carrySkiers 37 = .ok (.aload_n 0, 1) := by decide +kernel
theorem dX1_carrySkiers_38 : decode cX1_carrySkiers 38 = .ok (.getfield 11, 3) := by decide +kernel
theorem dX1_carrySkiers_41 : decode cX1_carrySkiers 41 = .ok (.iload_n 2, 1) := by decide +kernel
theorem dX1_carrySkiers_42 : decode cX1_carrySkiers 42 = .ok (.aaload, 1) := by decide +kernel
theorem dX1_carrySkiers_43 : decode cX1_carrySkiers 43 = .ok (.getfield 214, 3) := by decide +kernel
theorem dX1_carrySkiers_46 : decode cX1_carrySkiers 46 = .ok (.iload_n 1, 1) := by decide +kernel
theorem dX1_carrySkiers_47 : decode cX1_carrySkiers 47 = .ok (.invokestatic 194, 3) := by decide +kernel
theorem dX1_carrySkiers_50 : decode cX1_carrySkiers 50 = .ok (.istore 4, 2) := by decide +kernel
theorem dX1_carrySkiers_52 : decode cX1_carrySkiers 52 = .ok (.iload_n 1, 1) := by decide +kernel
theorem dX1_carrySkiers_53 : decode cX1_carrySkiers 53 = .ok (.iload 4, 2) := by decide +kernel
theorem dX1_carrySkiers_55 : decode cX1_carrySkiers 55 = .ok (.isub, 1) := by decide +kernel
theorem dX1_carrySkiers_56 : decode cX1_carrySkiers 56 = .ok (.istore_n 1, 1) := by decide +kernel
theorem dX1_carrySkiers_57 : decode cX1_carrySkiers 57 = .ok (.aload_n 0, 1) := by decide +kernel
theorem dX1_carrySkiers_58 : decode cX1_carrySkiers 58 = .ok (.dup, 1) := by decide +kernel
theorem dX1_carrySkiers_59 : decode cX1_carrySkiers 59 = .ok (.getfield 69, 3) := by decide +kernel
theorem dX1_carrySkiers_62 : decode cX1_carrySkiers 62 = .ok (.iload 4, 2) := by decide +kernel
theorem dX1_carrySkiers_64 : decode cX1_carrySkiers 64 = .ok (.iadd, 1) := by decide +kernel
theorem dX1_carrySkiers_65 : decode cX1_carrySkiers 65 = .ok (.putfield 69, 3) := by decide +kernel
theorem dX1_carrySkiers_68 : decode cX1_carrySkiers 68 = .ok (.aload_n 0, 1) := by decide +kernel
theorem dX1_carrySkiers_69 : decode cX1_carrySkiers 69 = .ok (.getfield 11, 3) := by decide +kernel
theorem dX1_carrySkiers_72 : decode cX1_carrySkiers 72 = .ok (.iload_n 2, 1) := by decide +kernel
theorem dX1_carrySkiers_73 : decode cX1_carrySkiers 73 = .ok (.aaload, 1) := by decide +kernel
theorem dX1_carrySkiers_74 : decode cX1_carrySkiers 74 = .ok (.dup, 1) := by decide +kernel
theorem dX1_carrySkiers_75 : decode cX1_carrySkiers 75 = .ok (.getfield 217, 3) := by decide +kernel
theorem dX1_carrySkiers_78 : decode cX1_carrySkiers 78 = .ok (.iload 4, 2) := by decide +kernel
theorem dX1_carrySkiers_80 : decode cX1_carrySkiers 80 = .ok (.iadd, 1) := by decide +kernel
theorem dX1_carrySkiers_81 : decode cX1_carrySkiers 81 = .ok (.putfield 217, 3) := by decide +kernel
theorem dX1_carrySkiers_84 : decode cX1_carrySkiers 84 = .ok (.aload_n 0, 1) := by decide +kernel
theorem dX1_carrySkiers_85 : decode cX1_carrySkiers 85 = .ok (.iload_n 2, 1) := by decide +kernel
theorem dX1_carrySkiers_86 : decode cX1_carrySkiers 86 = .ok (.iload 4, 2) := by decide +kernel
theorem dX1_carrySkiers_88 : decode cX1_carrySkiers 88 = .ok (.iload_n 3, 1) := by decide +kernel
theorem dX1_carrySkiers_89 : decode cX1_carrySkiers 89 = .ok (.invokevirtual 218, 3) := by decide +kernel
theorem dX1_carrySkiers_92 : decode cX1_carrySkiers 92 = .ok (.iinc 2 1, 3) := by decide +kernel
theorem dX1_carrySkiers_95 : decode cX1_carrySkiers 95 = .ok (.goto (-88), 3) := by decide +kernel
theorem dX1_carrySkiers_98 : decode cX1_carrySkiers 98 = .ok (.aload_n 0, 1) := by decide +kernel
theorem dX1_carrySkiers_99 : decode cX1_carrySkiers 99 = .ok (.dup, 1) := by decide +kernel
theorem dX1_carrySkiers_100 : decode cX1_carrySkiers 100 = .ok (.getfield 72, 3) := by decide +kernel
theorem dX1_carrySkiers_103 : decode cX1_carrySkiers 103 = .ok (.iload_n 1, 1) := by decide +kernel
theorem dX1_carrySkiers_104 : decode cX1_carrySkiers 104 = .ok (.iadd, 1) := by decide +kernel
theorem dX1_carrySkiers_105 : decode cX1_carrySkiers 105 = .ok (.putfield 72, 3) := by decide +kernel
theorem dX1_carrySkiers_108 : decode cX1_carrySkiers 108 = .ok (.return_, 1) := by decide +kernel
theorem dX2_init_0 : decode cX2_init 0 = .ok (.aload_n 0, 1) := by decide +kernel
theorem dX2_init_1 : decode cX2_init 1 = .ok (.invokespecial 3, 3) := by decide +kernel
theorem dX2_init_4 : decode cX2_init 4 = .ok (.aload_n 0, 1) := by decide +kernel
theorem dX2_init_5 : decode cX2_init 5 = .ok (.new 9, 3) := by decide +kernel
theorem dX2_init_8 : decode cX2_init 8 = .ok (.dup, 1) := by decide +kernel
theorem dX2_init_9 : decode cX2_init 9 = .ok (.invokespecial 11, 3) := by decide +kernel
theorem dX2_init_12 : decode cX2_init 12 = .ok (.putfield 12, 3) := by decide +kernel
theorem dX2_init_15 : decode cX2_init 15 = .ok (.aload_n 0, 1) := by decide +kernel
theorem dX2_init_16 : decode cX2_init 16 = .ok (.iconst (-1), 1) := by decide +kernel
theorem dX2_init_17 : decode cX2_init 17 = .ok (.putfield 18, 3) := by decide +kernel
theorem dX2_init_20 : decode cX2_init 20 = .ok (.return_, 1) := by decide +kernel
theorem dX3_init_0 : decode cX3_init 0 = .ok (.aload_n 0, 1) := by decide +kernel
theorem dX3_init_1 : decode cX3_init 1 = .ok (.invokespecial 3, 3) := by decide +kernel
theorem dX3_init_4 : decode cX3_init 4 = .ok (.aload_n 0, 1) := by decide +kernel
theorem dX3_init_5 : decode cX3_init 5 = .ok (.bipush 8, 2) := by decide +kernel
theorem dX3_init_7 : decode cX3_init 7 = .ok (.newarray .int, 2) := by decide +kernel
theorem dX3_init_9 : decode cX3_init 9 = .ok (.putfield 9, 3) := by decide +kernel
theorem dX3_init_12 : decode cX3_init 12 = .ok (.aload_n 0, 1) := by decide +kernel
theorem dX3_init_13 : decode cX3_init 13 = .ok (.bipush 8, 2) := by decide +kernel
theorem dX3_init_15 : decode cX3_init 15 = .ok (.newarray .int, 2) := by decide +kernel
theorem dX3_init_17 : decode cX3_init 17 = .ok (.putfield 15, 3) := by decide +kernel
theorem dX3_init_20 : decode cX3_init 20 = .ok (.aload_n 0, 1) := by decide +kernel
theorem dX3_init_21 : decode cX3_init 21 = .ok (.bipush 8, 2) := by decide +kernel
theorem dX3_init_23 : decode cX3_init 23 = .ok (.newarray .int, 2) := by decide +kernel
theorem dX3_init_25 : decode cX3_init 25 = .ok (.putfield 18, 3) := by decide +kernel
theorem dX3_init_28 : decode cX3_init 28 = .ok (.return_, 1) := by decide +kernel
theorem dX4_init_0 : decode cX4_init 0 = .ok (.aload_n 0, 1) := by decide +kernel
theorem dX4_init_1 : decode cX4_init 1 = .ok (.invokespecial 1, 3) := by decide +kernel
theorem dX4_init_4 : decode cX4_init 4 = .ok (.return_, 1) := by decide +kernel
theorem dX4_tell_0 : decode cX4_tell 0 = .ok (.aload_n 0, 1) := by decide +kernel
theorem dX4_tell_1 : decode cX4_tell 1 = .ok (.iload_n 1, 1) := by decide +kernel
theorem dX4_tell_2 : decode cX4_tell 2 = .ok (.putfield 7, 3) := by decide +kernel
theorem dX4_tell_5 : decode cX4_tell 5 = .ok (.aload_n 0, 1) := by decide +kernel
theorem dX4_tell_6 : decode cX4_tell 6 = .ok (.iload_n 2, 1) := by decide +kernel
theorem dX4_tell_7 : decode cX4_tell 7 = .ok (.putfield 13, 3) := by decide +kernel
theorem dX4_tell_10 : decode cX4_tell 10 = .ok (.aload_n 0, 1) := by decide +kernel
theorem dX4_tell_11 : decode cX4_tell 11 = .ok (.iload_n 3, 1) := by decide +kernel
theorem dX4_tell_12 : decode cX4_tell 12 = .ok (.putfield 16, 3) := by decide +kernel
theorem dX4_tell_15 : decode cX4_tell 15 = .ok (.aload_n 0, 1) := by decide +kernel
theorem dX4_tell_16 : decode cX4_tell 16 = .ok (.iload 4, 2) := by decide +kernel
theorem dX4_tell_18 : decode cX4_tell 18 = .ok (.putfield 19, 3) := by decide +kernel
theorem dX4_tell_21 : decode cX4_tell 21 = .ok (.aload_n 0, 1) := by decide +kernel
theorem dX4_tell_22 : decode cX4_tell 22 = .ok (.iload 5, 2) := by decide +kernel
theorem dX4_tell_24 : decode cX4_tell 24 = .ok (.putfield 22, 3) := by decide +kernel
theorem dX4_tell_27 : decode cX4_tell 27 = .ok (.return_, 1) := by decide +kernel
theorem dX5_init_0 : decode cX5_init 0 = .ok (.aload_n 0, 1) := by decide +kernel
theorem dX5_init_1 : decode cX5_init 1 = .ok (.invokespecial 1, 3) := by decide +kernel
theorem dX5_init_4 : decode cX5_init 4 = .ok (.aload_n 0, 1) := by decide +kernel
theorem dX5_init_5 : decode cX5_init 5 = .ok (.new 7, 3) := by decide +kernel
theorem dX5_init_8 : decode cX5_init 8 = .ok (.dup, 1) := by decide +kernel
theorem dX5_init_9 : decode cX5_init 9 = .ok (.invokespecial 9, 3) := by decide +kernel
theorem dX5_init_12 : decode cX5_init 12 = .ok (.putfield 10, 3) := by decide +kernel
theorem dX5_init_15 : decode cX5_init 15 = .ok (.aload_n 0, 1) := by decide +kernel
theorem dX5_init_16 : decode cX5_init 16 = .ok (.new 7, 3) := by decide +kernel
theorem dX5_init_19 : decode cX5_init 19 = .ok (.dup, 1) := by decide +kernel
theorem dX5_init_20 : decode cX5_init 20 = .ok (.invokespecial 9, 3) := by decide +kernel
theorem dX5_init_23 : decode cX5_init 23 = .ok (.putfield 16, 3) := by decide +kernel
theorem dX5_init_26 : decode cX5_init 26 = .ok (.aload_n 0, 1) := by decide +kernel
theorem dX5_init_27 : decode cX5_init 27 = .ok (.new 7, 3) := by decide +kernel
theorem dX5_init_30 : decode cX5_init 30 = .ok (.dup, 1) := by decide +kernel
theorem dX5_init_31 : decode cX5_init 31 = .ok (.invokespecial 9, 3) := by decide +kernel
theorem dX5_init_34 : decode cX5_init 34 = .ok (.putfield 19, 3) := by decide +kernel
theorem dX5_init_37 : decode cX5_init 37 = .ok (.aload_n 0, 1) := by decide +kernel
theorem dX5_init_38 : decode cX5_init 38 = .ok (.new 22, 3) := by decide +kernel
theorem dX5_init_41 : decode cX5_init 41 = .ok (.dup, 1) := by decide +kernel
theorem dX5_init_42 : decode cX5_init 42 = .ok (.invokespecial 24, 3) := by decide +kernel
theorem dX5_init_45 : decode cX5_init 45 = .ok (.putfield 25, 3) := by decide +kernel
theorem dX5_init_48 : decode cX5_init 48 = .ok (.return_, 1) := by decide +kernel
theorem dX5_lift_0 : decode cX5_lift 0 = .ok (.iload_n 1, 1) := by decide +kernel
theorem dX5_lift_1 : decode cX5_lift 1 = .ok (.bipush 10, 2) := by decide +kernel
theorem dX5_lift_3 : decode cX5_lift 3 = .ok (.sipush 999, 3) := by decide +kernel
theorem dX5_lift_6 : decode cX5_lift 6 = .ok (.invokestatic 29, 3) := by decide +kernel
theorem dX5_lift_9 : decode cX5_lift 9 = .ok (.iload_n 2, 1) := by decide +kernel
theorem dX5_lift_10 : decode cX5_lift 10 = .ok (.iconst 3, 1) := by decide +kernel
theorem dX5_lift_11 : decode cX5_lift 11 = .ok (.bipush 9, 2) := by decide +kernel
theorem dX5_lift_13 : decode cX5_lift 13 = .ok (.invokestatic 29, 3) := by decide +kernel
theorem dX5_lift_16 : decode cX5_lift 16 = .ok (.aload_n 0, 1) := by decide +kernel
theorem dX5_lift_17 : decode cX5_lift 17 = .ok (.getfield 10, 3) := by decide +kernel
theorem dX5_lift_20 : decode cX5_lift 20 = .ok (.getfield 33, 3) := by decide +kernel
theorem dX5_lift_23 : decode cX5_lift 23 = .ok (.iconst 4, 1) := by decide +kernel
theorem dX5_lift_24 : decode cX5_lift 24 = .ok (.if_icmp .lt 13, 3) := by decide +kernel
theorem dX5_lift_27 : decode cX5_lift 27 = .ok (.new 37, 3) := by decide +kernel
theorem dX5_lift_30 : decode cX5_lift 30 = .ok (.dup, 1) := by decide +kernel
theorem dX5_lift_31 : decode cX5_lift 31 = .ok (.ldc 39, 2) := by decide +kernel
theorem dX5_lift_33 : decode cX5_lift 33 = .ok (.invokespecial 41, 3) := by decide +kernel
theorem dX5_lift_36 : decode cX5_lift 36 = .ok (.athrow, 1) := by decide +kernel
theorem dX5_lift_37 : decode cX5_lift 37 = .ok (.aload_n 0, 1) := by decide +kernel
theorem dX5_lift_38 : decode cX5_lift 38 = .ok (.getfield 10, 3) := by decide +kernel
theorem dX5_lift_41 : decode cX5_lift 41 = .ok (.getfield 33, 3) := by decide +kernel
theorem dX5_lift_44 : decode cX5_lift 44 = .ok (.istore_n 3, 1) := by decide +kernel
theorem dX5_lift_45 : decode cX5_lift 45 = .ok (.aload_n 0, 1) := by decide +kernel
theorem dX5_lift_46 : decode cX5_lift 46 = .ok (.getfield 10, 3) := by decide +kernel
theorem dX5_lift_49 : decode cX5_lift 49 = .ok (.getfield 44, 3) := by decide +kernel
theorem dX5_lift_52 : decode cX5_lift 52 = .ok (.iload_n 3, 1) := by decide +kernel
theorem dX5_lift_53 : decode cX5_lift 53 = .ok (.aaload, 1) := by decide +kernel
theorem dX5_lift_54 : decode cX5_lift 54 = .ok (.iload_n 1, 1) := by decide +kernel
theorem dX5_lift_55 : decode cX5_lift 55 = .ok (.putfield 48, 3) := by decide +kernel
theorem dX5_lift_58 : decode cX5_lift 58 = .ok (.aload_n 0, 1) := by decide +kernel
theorem dX5_lift_59 : decode cX5_lift 59 = .ok (.getfield 10, 3) := by decide +kernel
theorem dX5_lift_62 : decode cX5_lift 62 = .ok (.getfield 44, 3) := by decide +kernel
theorem dX5_lift_65 : decode cX5_lift 65 = .ok (.iload_n 3, 1) := by decide +kernel
theorem dX5_lift_66 : decode cX5_lift 66 = .ok (.aaload, 1) := by decide +kernel
theorem dX5_lift_67 : decode cX5_lift 67 = .ok (.iload_n 2, 1) := by decide +kernel
theorem dX5_lift_68 : decode cX5_lift 68 = .ok (.putfield 53, 3) := by decide +kernel
theorem dX5_lift_71 : decode cX5_lift 71 = .ok (.aload_n 0, 1) := by decide +kernel
theorem dX5_lift_72 : decode cX5_lift 72 = .ok (.getfield 10, 3) := by decide +kernel
theorem dX5_lift_75 : decode cX5_lift 75 = .ok (.dup, 1) := by decide +kernel
theorem dX5_lift_76 : decode cX5_lift 76 = .ok (.getfield 33, 3) := by decide +kernel
theorem dX5_lift_79 : decode cX5_lift 79 = .ok (.iconst 1, 1) := by decide +kernel
theorem dX5_lift_80 : decode cX5_lift 80 = .ok (.iadd, 1) := by decide +kernel
theorem dX5_lift_81 : decode cX5_lift 81 = .ok (.putfield 33, 3) := by decide +kernel
theorem dX5_lift_84 : decode cX5_lift 84 = .ok (.iload_n 3, 1) := by decide +kernel
theorem dX5_lift_85 : decode cX5_lift 85 = .ok (.ireturn, 1) := by decide +kernel
theorem dX5_run_0 : decode cX5_run 0 = .ok (.aload_n 0, 1) := by decide +kernel
theorem dX5_run_1 : decode cX5_run 1 = .ok (.iload_n 1, 1) := by decide +kernel
theorem dX5_run_2 : decode cX5_run 2 = .ok (.invokevirtual 56, 3) := by decide +kernel
theorem dX5_run_5 : decode cX5_run 5 = .ok (.iload_n 2, 1) := by decide +kernel
theorem dX5_run_6 : decode cX5_run 6 = .ok (.iconst 0, 1) := by decide +kernel
theorem dX5_run_7 : decode cX5_run 7 = .ok (.bipush 30, 2) := by decide +kernel
theorem dX5_run_9 : decode cX5_run 9 = .ok (.invokestatic 29, 3) := by decide +kernel
theorem dX5_run_12 : decode cX5_run 12 = .ok (.iload_n 3, 1) := by decide +kernel
theorem dX5_run_13 : decode cX5_run 13 = .ok (.iconst 5, 1) := by decide +kernel
theorem dX5_run_14 : decode cX5_run 14 = .ok (.bipush 45, 2) := by decide +kernel
theorem dX5_run_16 : decode cX5_run 16 = .ok (.invokestatic 29, 3) := by decide +kernel
theorem dX5_run_19 : decode cX5_run 19 = .ok (.iload 4, 2) := by decide +kernel
theorem dX5_run_21 : decode cX5_run 21 = .ok (.iconst 0, 1) := by decide +kernel
theorem dX5_run_22 : decode cX5_run 22 = .ok (.iconst 3, 1) := by decide +kernel
theorem dX5_run_23 : decode cX5_run 23 = .ok (.invokestatic 29, 3) := by decide +kernel
theorem dX5_run_26 : decode cX5_run 26 = .ok (.iload 5, 2) := by decide +kernel
theorem dX5_run_28 : decode cX5_run 28 = .ok (.iconst 1, 1) := by decide +kernel
theorem dX5_run_29 : decode cX5_run 29 = .ok (.bipush 9, 2) := by decide +kernel
theorem dX5_run_31 : decode cX5_run 31 = .ok (.invokestatic 29, 3) := by decide +kernel
theorem dX5_run_34 : decode cX5_run 34 = .ok (.aload_n 0, 1) := by decide +kernel
theorem dX5_run_35 : decode cX5_run 35 = .ok (.getfield 10, 3) := by decide +kernel
theorem dX5_run_38 : decode cX5_run 38 = .ok (.getfield 60, 3) := by decide +kernel
theorem dX5_run_41 : decode cX5_run 41 = .ok (.bipush 8, 2) := by decide +kernel
theorem dX5_run_43 : decode cX5_run 43 = .ok (.if_icmp .lt 13, 3) := by decide +kernel
theorem dX5_run_46 : decode cX5_run 46 = .ok (.new 37, 3) := by decide +kernel
theorem dX5_run_49 : decode cX5_run 49 = .ok (.dup, 1) := by decide +kernel
theorem dX5_run_50 : decode cX5_run 50 = .ok (.ldc 63, 2) := by decide +kernel
theorem dX5_run_52 : decode cX5_run 52 = .ok (.invokespecial 41, 3) := by decide +kernel
theorem dX5_run_55 : decode cX5_run 55 = .ok (.athrow, 1) := by decide +kernel
theorem dX5_run_56 : decode cX5_run 56 = .ok (.aload_n 0, 1) := by decide +kernel
theorem dX5_run_57 : decode cX5_run 57 = .ok (.getfield 10, 3) := by decide +kernel
theorem dX5_run_60 : decode cX5_run 60 = .ok (.getfield 60, 3) := by decide +kernel
theorem dX5_run_63 : decode cX5_run 63 = .ok (.istore 6, 2) := by decide +kernel
theorem dX5_run_65 : decode cX5_run 65 = .ok (.aload_n 0, 1) := by decide +kernel
theorem dX5_run_66 : decode cX5_run 66 = .ok (.getfield 10, 3) := by decide +kernel
theorem dX5_run_69 : decode cX5_run 69 = .ok (.getfield 65, 3) := by decide +kernel
theorem dX5_run_72 : decode cX5_run 72 = .ok (.iload 6, 2) := by decide +kernel
theorem dX5_run_74 : decode cX5_run 74 = .ok (.aaload, 1) := by decide +kernel
theorem dX5_run_75 : decode cX5_run 75 = .ok (.astore 7, 2) := by decide +kernel
theorem dX5_run_77 : decode cX5_run 77 = .ok (.aload 7, 2) := by decide +kernel
theorem dX5_run_79 : decode cX5_run 79 = .ok (.iload_n 1, 1) := by decide +kernel
theorem dX5_run_80 : decode cX5_run 80 = .ok (.putfield 69, 3) := by decide +kernel
theorem dX5_run_83 : decode cX5_run 83 = .ok (.aload 7, 2) := by decide +kernel
theorem dX5_run_85 : decode cX5_run 85 = .ok (.iload_n 2, 1) := by decide +kernel
theorem dX5_run_86 : decode cX5_run 86 = .ok (.putfield 74, 3) := by decide +kernel
theorem dX5_run_89 : decode cX5_run 89 = .ok (.aload 7, 2) := by decide +kernel
theorem dX5_run_91 : decode cX5_run 91 = .ok (.iload_n 3, 1) := by decide +kernel
theorem dX5_run_92 : decode cX5_run 92 = .ok (.putfield 77, 3) := by decide +kernel
theorem dX5_run_95 : decode cX5_run 95 = .ok (.aload 7, 2) := by decide +kernel
theorem dX5_run_97 : decode cX5_run 97 = .ok (.iload 4, 2) := by decide +kernel
theorem dX5_run_99 : decode cX5_run 99 = .ok (.putfield 80, 3) := by decide +kernel
theorem dX5_run_102 : decode cX5_run 102 = .ok (.aload 7, 2) := by decide +kernel
theorem dX5_run_104 : decode cX5_run 104 = .ok (.iload 5, 2) := by decide +kernel
theorem dX5_run_106 : decode cX5_run 106 = .ok (.putfield 83, 3) := by decide +kernel
theorem dX5_run_109 : decode cX5_run 109 = .ok (.aload_n 0, 1) := by decide +kernel
theorem dX5_run_110 : decode cX5_run 110 = .ok (.getfield 10, 3) := by decide +kernel
theorem dX5_run_113 : decode cX5_run 113 = .ok (.dup, 1) := by decide +kernel
theorem dX5_run_114 : decode cX5_run 114 = .ok (.getfield 60, 3) := by decide +kernel
theorem dX5_run_117 : decode cX5_run 117 = .ok (.iconst 1, 1) := by decide +kernel
theorem dX5_run_118 : decode cX5_run 118 = .ok (.iadd, 1) := by decide +kernel
theorem dX5_run_119 : decode cX5_run 119 = .ok (.putfield 60, 3) := by decide +kernel
theorem dX5_run_122 : decode cX5_run 122 = .ok (.iload 6, 2) := by decide +kernel
theorem dX5_run_124 : decode cX5_run 124 = .ok (.ireturn, 1) := by decide +kernel
theorem dX5_turn_0 : decode cX5_turn 0 = .ok (.aload_n 0, 1) := by decide +kernel
theorem dX5_turn_1 : decode cX5_turn 1 = .ok (.iload_n 1, 1) := by decide +kernel
theorem dX5_turn_2 : decode cX5_turn 2 = .ok (.invokevirtual 56, 3) := by decide +kernel
theorem dX5_turn_5 : decode cX5_turn 5 = .ok (.aload_n 0, 1) := by decide +kernel
theorem dX5_turn_6 : decode cX5_turn 6 = .ok (.getfield 10, 3) := by decide +kernel
theorem dX5_turn_9 : decode cX5_turn 9 = .ok (.getfield 44, 3) := by decide +kernel
theorem dX5_turn_12 : decode cX5_turn 12 = .ok (.iload_n 1, 1) := by decide +kernel
theorem dX5_turn_13 : decode cX5_turn 13 = .ok (.aaload, 1) := by decide +kernel
theorem dX5_turn_14 : decode cX5_turn 14 = .ok (.getfield 86, 3) := by decide +kernel
theorem dX5_turn_17 : decode cX5_turn 17 = .ok (.istore_n 3, 1) := by decide +kernel
theorem dX5_turn_18 : decode cX5_turn 18 = .ok (.aload_n 0, 1) := by decide +kernel
theorem dX5_turn_19 : decode cX5_turn 19 = .ok (.getfield 10, 3) := by decide +kernel
theorem dX5_turn_22 : decode cX5_turn 22 = .ok (.getfield 44, 3) := by decide +kernel
theorem dX5_turn_25 : decode cX5_turn 25 = .ok (.iload_n 1, 1) := by decide +kernel
theorem dX5_turn_26 : decode cX5_turn 26 = .ok (.aaload, 1) := by decide +kernel
theorem dX5_turn_27 : decode cX5_turn 27 = .ok (.iload_n 2, 1) := by decide +kernel
theorem dX5_turn_28 : decode cX5_turn 28 = .ok (.putfield 86, 3) := by decide +kernel
theorem dX5_turn_31 : decode cX5_turn 31 = .ok (.iload_n 3, 1) := by decide +kernel
theorem dX5_turn_32 : decode cX5_turn 32 = .ok (.ireturn, 1) := by decide +kernel
theorem dX5_release_0 : decode cX5_release 0 = .ok (.aload_n 0, 1) := by decide +kernel
theorem dX5_release_1 : decode cX5_release 1 = .ok (.iload_n 1, 1) := by decide +kernel
theorem dX5_release_2 : decode cX5_release 2 = .ok (.invokevirtual 56, 3) := by decide +kernel
theorem dX5_release_5 : decode cX5_release 5 = .ok (.aload_n 0, 1) := by decide +kernel
theorem dX5_release_6 : decode cX5_release 6 = .ok (.getfield 10, 3) := by decide +kernel
theorem dX5_release_9 : decode cX5_release 9 = .ok (.getfield 44, 3) := by decide +kernel
theorem dX5_release_12 : decode cX5_release 12 = .ok (.iload_n 1, 1) := by decide +kernel
theorem dX5_release_13 : decode cX5_release 13 = .ok (.aaload, 1) := by decide +kernel
theorem dX5_release_14 : decode cX5_release 14 = .ok (.astore_n 2, 1) := by decide +kernel
theorem dX5_release_15 : decode cX5_release 15 = .ok (.aload_n 0, 1) := by decide +kernel
theorem dX5_release_16 : decode cX5_release 16 = .ok (.getfield 10, 3) := by decide +kernel
theorem dX5_release_19 : decode cX5_release 19 = .ok (.getfield 90, 3) := by decide +kernel
theorem dX5_release_22 : decode cX5_release 22 = .ok (.aload_n 2, 1) := by decide +kernel
theorem dX5_release_23 : decode cX5_release 23 = .ok (.getfield 53, 3) := by decide +kernel
theorem dX5_release_26 : decode cX5_release 26 = .ok (.iconst 2, 1) := by decide +kernel
theorem dX5_release_27 : decode cX5_release 27 = .ok (.isub, 1) := by decide +kernel
theorem dX5_release_28 : decode cX5_release 28 = .ok (.if_icmp .le 13, 3) := by decide +kernel
theorem dX5_release_31 : decode cX5_release 31 = .ok (.new 37, 3) := by decide +kernel
theorem dX5_release_34 : decode cX5_release 34 = .ok (.dup, 1) := by decide +kernel
theorem dX5_release_35 : decode cX5_release 35 = .ok (.ldc 93, 2) := by decide +kernel
theorem dX5_release_37 : decode cX5_release 37 = .ok (.invokespecial 41, 3) := by decide +kernel
theorem dX5_release_40 : decode cX5_release 40 = .ok (.athrow, 1) := by decide +kernel
theorem dX5_release_41 : decode cX5_release 41 = .ok (.aload_n 2, 1) := by decide +kernel
theorem dX5_release_42 : decode cX5_release 42 = .ok (.getfield 95, 3) := by decide +kernel
theorem dX5_release_45 : decode cX5_release 45 = .ok (.istore_n 3, 1) := by decide +kernel
theorem dX5_release_46 : decode cX5_release 46 = .ok (.aload_n 2, 1) := by decide +kernel
theorem dX5_release_47 : decode cX5_release 47 = .ok (.iconst 0, 1) := by decide +kernel
theorem dX5_release_48 : decode cX5_release 48 = .ok (.putfield 95, 3) := by decide +kernel
theorem dX5_release_51 : decode cX5_release 51 = .ok (.iload_n 3, 1) := by decide +kernel
theorem dX5_release_52 : decode cX5_release 52 = .ok (.ireturn, 1) := by decide +kernel
theorem dX5_guns_0 : decode cX5_guns 0 = .ok (.aload_n 0, 1) := by decide +kernel
theorem dX5_guns_1 : decode cX5_guns 1 = .ok (.iload_n 1, 1) := by decide +kernel
theorem dX5_guns_2 : decode cX5_guns 2 = .ok (.invokevirtual 98, 3) := by decide +kernel
theorem dX5_guns_5 : decode cX5_guns 5 = .ok (.iload_n 2, 1) := by decide +kernel
theorem dX5_guns_6 : decode cX5_guns 6 = .ok (.iconst 0, 1) := by decide +kernel
theorem dX5_guns_7 : decode cX5_guns 7 = .ok (.bipush 9, 2) := by decide +kernel
theorem dX5_guns_9 : decode cX5_guns 9 = .ok (.invokestatic 29, 3) := by decide +kernel
theorem dX5_guns_12 : decode cX5_guns 12 = .ok (.aload_n 0, 1) := by decide +kernel
theorem dX5_guns_13 : decode cX5_guns 13 = .ok (.getfield 10, 3) := by decide +kernel
theorem dX5_guns_16 : decode cX5_guns 16 = .ok (.getfield 65, 3) := by decide +kernel
theorem dX5_guns_19 : decode cX5_guns 19 = .ok (.iload_n 1, 1) := by decide +kernel
theorem dX5_guns_20 : decode cX5_guns 20 = .ok (.aaload, 1) := by decide +kernel
theorem dX5_guns_21 : decode cX5_guns 21 = .ok (.getfield 101, 3) := by decide +kernel
theorem dX5_guns_24 : decode cX5_guns 24 = .ok (.istore_n 3, 1) := by decide +kernel
theorem dX5_guns_25 : decode cX5_guns 25 = .ok (.aload_n 0, 1) := by decide +kernel
theorem dX5_guns_26 : decode cX5_guns 26 = .ok (.getfield 10, 3) := by decide +kernel
theorem dX5_guns_29 : decode cX5_guns 29 = .ok (.getfield 65, 3) := by decide +kernel
theorem dX5_guns_32 : decode cX5_guns 32 = .ok (.iload_n 1, 1) := by decide +kernel
theorem dX5_guns_33 : decode cX5_guns 33 = .ok (.aaload, 1) := by decide +kernel
theorem dX5_guns_34 : decode cX5_guns 34 = .ok (.iload_n 2, 1) := by decide +kernel
theorem dX5_guns_35 : decode cX5_guns 35 = .ok (.putfield 101, 3) := by decide +kernel
theorem dX5_guns_38 : decode cX5_guns 38 = .ok (.iload_n 3, 1) := by decide +kernel
theorem dX5_guns_39 : decode cX5_guns 39 = .ok (.ireturn, 1) := by decide +kernel
theorem dX5_fill_0 : decode cX5_fill 0 = .ok (.iload_n 1, 1) := by decide +kernel
theorem dX5_fill_1 : decode cX5_fill 1 = .ok (.iconst 1, 1) := by decide +kernel
theorem dX5_fill_2 : decode cX5_fill 2 = .ok (.sipush 5000, 3) := by decide +kernel
theorem dX5_fill_5 : decode cX5_fill 5 = .ok (.invokestatic 29, 3) := by decide +kernel
theorem dX5_fill_8 : decode cX5_fill 8 = .ok (.aload_n 0, 1) := by decide +kernel
theorem dX5_fill_9 : decode cX5_fill 9 = .ok (.getfield 10, 3) := by decide +kernel
theorem dX5_fill_12 : decode cX5_fill 12 = .ok (.aload_n 0, 1) := by decide +kernel
theorem dX5_fill_13 : decode cX5_fill 13 = .ok (.getfield 10, 3) := by decide +kernel
theorem dX5_fill_16 : decode cX5_fill 16 = .ok (.getfield 104, 3) := by decide +kernel
theorem dX5_fill_19 : decode cX5_fill 19 = .ok (.iload_n 1, 1) := by decide +kernel
theorem dX5_fill_20 : decode cX5_fill 20 = .ok (.iadd, 1) := by decide +kernel
theorem dX5_fill_21 : decode cX5_fill 21 = .ok (.sipush 5000, 3) := by decide +kernel
theorem dX5_fill_24 : decode cX5_fill 24 = .ok (.invokestatic 107, 3) := by decide +kernel
theorem dX5_fill_27 : decode cX5_fill 27 = .ok (.putfield 104, 3) := by decide +kernel
theorem dX5_fill_30 : decode cX5_fill 30 = .ok (.aload_n 0, 1) := by decide +kernel
theorem dX5_fill_31 : decode cX5_fill 31 = .ok (.getfield 10, 3) := by decide +kernel
theorem dX5_fill_34 : decode cX5_fill 34 = .ok (.getfield 104, 3) := by decide +kernel
theorem dX5_fill_37 : decode cX5_fill 37 = .ok (.ireturn, 1) := by decide +kernel
theorem dX5_crowd_0 : decode cX5_crowd 0 = .ok (.iload_n 1, 1) := by decide +kernel
theorem dX5_crowd_1 : decode cX5_crowd 1 = .ok (.iconst 0, 1) := by decide +kernel
theorem dX5_crowd_2 : decode cX5_crowd 2 = .ok (.sipush 5000, 3) := by decide +kernel
theorem dX5_crowd_5 : decode cX5_crowd 5 = .ok (.invokestatic 29, 3) := by decide +kernel
theorem dX5_crowd_8 : decode cX5_crowd 8 = .ok (.aload_n 0, 1) := by decide +kernel
theorem dX5_crowd_9 : decode cX5_crowd 9 = .ok (.getfield 10, 3) := by decide +kernel
theorem dX5_crowd_12 : decode cX5_crowd 12 = .ok (.getfield 113, 3) := by decide +kernel
theorem dX5_crowd_15 : decode cX5_crowd 15 = .ok (.istore_n 2, 1) := by decide +kernel
theorem dX5_crowd_16 : decode cX5_crowd 16 = .ok (.aload_n 0, 1) := by decide +kernel
theorem dX5_crowd_17 : decode cX5_crowd 17 = .ok (.getfield 10, 3) := by decide +kernel
theorem dX5_crowd_20 : decode cX5_crowd 20 = .ok (.iload_n 1, 1) := by decide +kernel
theorem dX5_crowd_21 : decode cX5_crowd 21 = .ok (.putfield 113, 3) := by decide +kernel
theorem dX5_crowd_24 : decode cX5_crowd 24 = .ok (.iload_n 2, 1) := by decide +kernel
theorem dX5_crowd_25 : decode cX5_crowd 25 = .ok (.ireturn, 1) := by decide +kernel
theorem dX5_pass_0 : decode cX5_pass 0 = .ok (.iload_n 1, 1) := by decide +kernel
theorem dX5_pass_1 : decode cX5_pass 1 = .ok (.iconst 1, 1) := by decide +kernel
theorem dX5_pass_2 : decode cX5_pass 2 = .ok (.bipush 48, 2) := by decide +kernel
theorem dX5_pass_4 : decode cX5_pass 4 = .ok (.invokestatic 29, 3) := by decide +kernel
theorem dX5_pass_7 : decode cX5_pass 7 = .ok (.iload_n 2, 1) := by decide +kernel
theorem dX5_pass_8 : decode cX5_pass 8 = .ok (.bipush (-20), 2) := by decide +kernel
theorem dX5_pass_10 : decode cX5_pass 10 = .ok (.bipush 20, 2) := by decide +kernel
theorem dX5_pass_12 : decode cX5_pass 12 = .ok (.invokestatic 29, 3) := by decide +kernel
theorem dX5_pass_15 : decode cX5_pass 15 = .ok (.iload_n 3, 1) := by decide +kernel
theorem dX5_pass_16 : decode cX5_pass 16 = .ok (.iconst 0, 1) := by decide +kernel
theorem dX5_pass_17 : decode cX5_pass 17 = .ok (.bipush 9, 2) := by decide +kernel
theorem dX5_pass_19 : decode cX5_pass 19 = .ok (.invokestatic 29, 3) := by decide +kernel
theorem dX5_pass_22 : decode cX5_pass 22 = .ok (.iload 4, 2) := by decide +kernel
theorem dX5_pass_24 : decode cX5_pass 24 = .ok (.iconst 0, 1) := by decide +kernel
theorem dX5_pass_25 : decode cX5_pass 25 = .ok (.bipush 9, 2) := by decide +kernel
theorem dX5_pass_27 : decode cX5_pass 27 = .ok (.invokestatic 29, 3) := by decide +kernel
theorem dX5_pass_30 : decode cX5_pass 30 = .ok (.iload 5, 2) := by decide +kernel
theorem dX5_pass_32 : decode cX5_pass 32 = .ok (.iconst 0, 1) := by decide +kernel
theorem dX5_pass_33 : decode cX5_pass 33 = .ok (.iconst 3, 1) := by decide +kernel
theorem dX5_pass_34 : decode cX5_pass 34 = .ok (.invokestatic 29, 3) := by decide +kernel
theorem dX5_pass_37 : decode cX5_pass 37 = .ok (.iload 6, 2) := by decide +kernel
theorem dX5_pass_39 : decode cX5_pass 39 = .ok (.iconst 0, 1) := by decide +kernel
theorem dX5_pass_40 : decode cX5_pass 40 = .ok (.bipush 100, 2) := by decide +kernel
theorem dX5_pass_42 : decode cX5_pass 42 = .ok (.invokestatic 29, 3) := by decide +kernel
theorem dX5_pass_45 : decode cX5_pass 45 = .ok (.aload_n 0, 1) := by decide +kernel
theorem dX5_pass_46 : decode cX5_pass 46 = .ok (.getfield 10, 3) := by decide +kernel
theorem dX5_pass_49 : decode cX5_pass 49 = .ok (.getfield 116, 3) := by decide +kernel
theorem dX5_pass_52 : decode cX5_pass 52 = .ok (.iload_n 1, 1) := by decide +kernel
theorem dX5_pass_53 : decode cX5_pass 53 = .ok (.iadd, 1) := by decide +kernel
theorem dX5_pass_54 : decode cX5_pass 54 = .ok (.sipush 9999, 3) := by decide +kernel
theorem dX5_pass_57 : decode cX5_pass 57 = .ok (.if_icmp .le 13, 3) := by decide +kernel
theorem dX5_pass_60 : decode cX5_pass 60 = .ok (.new 37, 3) := by decide +kernel
theorem dX5_pass_63 : decode cX5_pass 63 = .ok (.dup, 1) := by decide +kernel
theorem dX5_pass_64 : decode cX5_pass 64 = .ok (.ldc 119, 2) := by decide +kernel
theorem dX5_pass_66 : decode cX5_pass 66 = .ok (.invokespecial 41, 3) := by decide +kernel
theorem dX5_pass_69 : decode cX5_pass 69 = .ok (.athrow, 1) := by decide +kernel
theorem dX5_pass_70 : decode cX5_pass 70 = .ok (.aload_n 0, 1) := by decide +kernel
theorem dX5_pass_71 : decode cX5_pass 71 = .ok (.getfield 10, 3) := by decide +kernel
theorem dX5_pass_74 : decode cX5_pass 74 = .ok (.getfield 121, 3) := by decide +kernel
theorem dX5_pass_77 : decode cX5_pass 77 = .ok (.istore 7, 2) := by decide +kernel
theorem dX5_pass_79 : decode cX5_pass 79 = .ok (.aload_n 0, 1) := by decide +kernel
theorem dX5_pass_80 : decode cX5_pass 80 = .ok (.getfield 25, 3) := by decide +kernel
theorem dX5_pass_83 : decode cX5_pass 83 = .ok (.iload_n 2, 1) := by decide +kernel
theorem dX5_pass_84 : decode cX5_pass 84 = .ok (.iload_n 3, 1) := by decide +kernel
theorem dX5_pass_85 : decode cX5_pass 85 = .ok (.iload 4, 2) := by decide +kernel
theorem dX5_pass_87 : decode cX5_pass 87 = .ok (.iload 5, 2) := by decide +kernel
theorem dX5_pass_89 : decode cX5_pass 89 = .ok (.iload 6, 2) := by decide +kernel
theorem dX5_pass_91 : decode cX5_pass 91 = .ok (.invokevirtual 124, 3) := by decide +kernel
theorem dX5_pass_94 : decode cX5_pass 94 = .ok (.iconst 0, 1) := by decide +kernel
theorem dX5_pass_95 : decode cX5_pass 95 = .ok (.istore 8, 2) := by decide +kernel
theorem dX5_pass_97 : decode cX5_pass 97 = .ok (.iload 8, 2) := by decide +kernel
theorem dX5_pass_99 : decode cX5_pass 99 = .ok (.iload_n 1, 1) := by decide +kernel
theorem dX5_pass_100 : decode cX5_pass 100 = .ok (.if_icmp .ge 20, 3) := by decide +kernel
theorem dX5_pass_103 : decode cX5_pass 103 = .ok (.aload_n 0, 1) := by decide +kernel
theorem dX5_pass_104 : decode cX5_pass 104 = .ok (.getfield 10, 3) := by decide +kernel
theorem dX5_pass_107 : decode cX5_pass 107 = .ok (.aload_n 0, 1) := by decide +kernel
theorem dX5_pass_108 : decode cX5_pass 108 = .ok (.getfield 25, 3) := by decide +kernel
theorem dX5_pass_111 : decode cX5_pass 111 = .ok (.invokevirtual 128, 3) := by decide +kernel
theorem dX5_pass_114 : decode cX5_pass 114 = .ok (.iinc 8 1, 3) := by decide +kernel
theorem dX5_pass_117 : decode cX5_pass 117 = .ok (.goto (-20), 3) := by decide +kernel
theorem dX5_pass_120 : decode cX5_pass 120 = .ok (.aload_n 0, 1) := by decide +kernel
theorem dX5_pass_121 : decode cX5_pass 121 = .ok (.getfield 10, 3) := by decide +kernel
theorem dX5_pass_124 : decode cX5_pass 124 = .ok (.getfield 121, 3) := by decide +kernel
theorem dX5_pass_127 : decode cX5_pass 127 = .ok (.iload 7, 2) := by decide +kernel
theorem dX5_pass_129 : decode cX5_pass 129 = .ok (.isub, 1) := by decide +kernel
theorem dX5_pass_130 : decode cX5_pass 130 = .ok (.ireturn, 1) := by decide +kernel
theorem dX5_blast_0 : decode cX5_blast 0 = .ok (.aload_n 0, 1) := by decide +kernel
theorem dX5_blast_1 : decode cX5_blast 1 = .ok (.iload_n 1, 1) := by decide +kernel
theorem dX5_blast_2 : decode cX5_blast 2 = .ok (.invokevirtual 132, 3) := by decide +kernel
theorem dX5_blast_5 : decode cX5_blast 5 = .ok (.aload_n 0, 1) := by decide +kernel
theorem dX5_blast_6 : decode cX5_blast 6 = .ok (.getfield 10, 3) := by decide +kernel
theorem dX5_blast_9 : decode cX5_blast 9 = .ok (.getfield 135, 3) := by decide +kernel
theorem dX5_blast_12 : decode cX5_blast 12 = .ok (.iconst 1, 1) := by decide +kernel
theorem dX5_blast_13 : decode cX5_blast 13 = .ok (.if_icmp .ge 13, 3) := by decide +kernel
theorem dX5_blast_16 : decode cX5_blast 16 = .ok (.new 37, 3) := by decide +kernel
theorem dX5_blast_19 : decode cX5_blast 19 = .ok (.dup, 1) := by decide +kernel
theorem dX5_blast_20 : decode cX5_blast 20 = .ok (.ldc 138, 2) := by decide +kernel
theorem dX5_blast_22 : decode cX5_blast 22 = .ok (.invokespecial 41, 3) := by decide +kernel
theorem dX5_blast_25 : decode cX5_blast 25 = .ok (.athrow, 1) := by decide +kernel
theorem dX5_blast_26 : decode cX5_blast 26 = .ok (.aload_n 0, 1) := by decide +kernel
theorem dX5_blast_27 : decode cX5_blast 27 = .ok (.getfield 10, 3) := by decide +kernel
theorem dX5_blast_30 : decode cX5_blast 30 = .ok (.getfield 65, 3) := by decide +kernel
theorem dX5_blast_33 : decode cX5_blast 33 = .ok (.iload_n 1, 1) := by decide +kernel
theorem dX5_blast_34 : decode cX5_blast 34 = .ok (.aaload, 1) := by decide +kernel
theorem dX5_blast_35 : decode cX5_blast 35 = .ok (.astore_n 2, 1) := by decide +kernel
theorem dX5_blast_36 : decode cX5_blast 36 = .ok (.aload_n 0, 1) := by decide +kernel
theorem dX5_blast_37 : decode cX5_blast 37 = .ok (.getfield 10, 3) := by decide +kernel
theorem dX5_blast_40 : decode cX5_blast 40 = .ok (.dup, 1) := by decide +kernel
theorem dX5_blast_41 : decode cX5_blast 41 = .ok (.getfield 135, 3) := by decide +kernel
theorem dX5_blast_44 : decode cX5_blast 44 = .ok (.iconst 1, 1) := by decide +kernel
theorem dX5_blast_45 : decode cX5_blast 45 = .ok (.isub, 1) := by decide +kernel
theorem dX5_blast_46 : decode cX5_blast 46 = .ok (.putfield 135, 3) := by decide +kernel
theorem dX5_blast_49 : decode cX5_blast 49 = .ok (.bipush 50, 2) := by decide +kernel
theorem dX5_blast_51 : decode cX5_blast 51 = .ok (.aload_n 0, 1) := by decide +kernel
theorem dX5_blast_52 : decode cX5_blast 52 = .ok (.getfield 10, 3) := by decide +kernel
theorem dX5_blast_55 : decode cX5_blast 55 = .ok (.getfield 135, 3) := by decide +kernel
theorem dX5_blast_58 : decode cX5_blast 58 = .ok (.isub, 1) := by decide +kernel
theorem dX5_blast_59 : decode cX5_blast 59 = .ok (.bipush 7, 2) := by decide +kernel
theorem dX5_blast_61 : decode cX5_blast 61 = .ok (.irem, 1) := by decide +kernel
theorem dX5_blast_62 : decode cX5_blast 62 = .ok (.ifCond .ne 16, 3) := by decide +kernel
theorem dX5_blast_65 : decode cX5_blast 65 = .ok (.aload_n 2, 1) := by decide +kernel
theorem dX5_blast_66 : decode cX5_blast 66 = .ok (.dup, 1) := by decide +kernel
theorem dX5_blast_67 : decode cX5_blast 67 = .ok (.getfield 140, 3) := by decide +kernel
theorem dX5_blast_70 : decode cX5_blast 70 = .ok (.iconst 1, 1) := by decide +kernel
theorem dX5_blast_71 : decode cX5_blast 71 = .ok (.iadd, 1) := by decide +kernel
theorem dX5_blast_72 : decode cX5_blast 72 = .ok (.putfield 140, 3) := by decide +kernel
theorem dX5_blast_75 : decode cX5_blast 75 = .ok (.bipush (-2), 2) := by decide +kernel
theorem dX5_blast_77 : decode cX5_blast 77 = .ok (.ireturn, 1) := by decide +kernel
theorem dX5_blast_78 : decode cX5_blast 78 = .ok (.aload_n 2, 1) := by decide +kernel
theorem dX5_blast_79 : decode cX5_blast 79 = .ok (.invokevirtual 143, 3) := by decide +kernel
theorem dX5_blast_82 : decode cX5_blast 82 = .ok (.bipush 40, 2) := by decide +kernel
theorem dX5_blast_84 : decode cX5_blast 84 = .ok (.if_icmp .lt 14, 3) := by decide +kernel
theorem dX5_blast_87 : decode cX5_blast 87 = .ok (.aload_n 0, 1) := by decide +kernel
theorem dX5_blast_88 : decode cX5_blast 88 = .ok (.getfield 10, 3) := by decide +kernel
theorem dX5_blast_91 : decode cX5_blast 91 = .ok (.aload_n 2, 1) := by decide +kernel
theorem dX5_blast_92 : decode cX5_blast 92 = .ok (.invokevirtual 147, 3) := by decide +kernel
theorem dX5_blast_95 : decode cX5_blast 95 = .ok (.goto 4, 3) := by decide +kernel
theorem dX5_blast_98 : decode cX5_blast 98 = .ok (.iconst 0, 1) := by decide +kernel
theorem dX5_blast_99 : decode cX5_blast 99 = .ok (.ireturn, 1) := by decide +kernel
theorem dX5_search_0 : decode cX5_search 0 = .ok (.aload_n 0, 1) := by decide +kernel
theorem dX5_search_1 : decode cX5_search 1 = .ok (.iload_n 1, 1) := by decide +kernel
theorem dX5_search_2 : decode cX5_search 2 = .ok (.invokevirtual 98, 3) := by decide +kernel
theorem dX5_search_5 : decode cX5_search 5 = .ok (.aload_n 0, 1) := by decide +kernel
theorem dX5_search_6 : decode cX5_search 6 = .ok (.getfield 10, 3) := by decide +kernel
theorem dX5_search_9 : decode cX5_search 9 = .ok (.getfield 65, 3) := by decide +kernel
theorem dX5_search_12 : decode cX5_search 12 = .ok (.iload_n 1, 1) := by decide +kernel
end
section
theorem dX5_search_13 : decode cX5_search 13 = .ok (.aaload, 1) := by decide +kernel
theorem dX5_search_14 : decode cX5_search 14 = .ok (.astore_n 2, 1) := by decide +kernel
theorem dX5_search_15 : decode cX5_search 15 = .ok (.aload_n 2, 1) := by decide +kernel
theorem dX5_search_16 : decode cX5_search 16 = .ok (.getfield 140, 3) := by decide +kernel
theorem dX5_search_19 : decode cX5_search 19 = .ok (.iconst 1, 1) := by decide +kernel
theorem dX5_search_20 : decode cX5_search 20 = .ok (.if_icmp .ge 13, 3) := by decide +kernel
theorem dX5_search_23 : decode cX5_search 23 = .ok (.new 37, 3) := by decide +kernel
theorem dX5_search_26 : decode cX5_search 26 = .ok (.dup, 1) := by decide +kernel
theorem dX5_search_27 : decode cX5_search 27 = .ok (.ldc 151, 2) := by decide +kernel
theorem dX5_search_29 : decode cX5_search 29 = .ok (.invokespecial 41, 3) := by decide +kernel
theorem dX5_search_32 : decode cX5_search 32 = .ok (.athrow, 1) := by decide +kernel
theorem dX5_search_33 : decode cX5_search 33 = .ok (.aload_n 2, 1) := by decide +kernel
theorem dX5_search_34 : decode cX5_search 34 = .ok (.dup, 1) := by decide +kernel
theorem dX5_search_35 : decode cX5_search 35 = .ok (.getfield 140, 3) := by decide +kernel
theorem dX5_search_38 : decode cX5_search 38 = .ok (.iconst 1, 1) := by decide +kernel
theorem dX5_search_39 : decode cX5_search 39 = .ok (.isub, 1) := by decide +kernel
theorem dX5_search_40 : decode cX5_search 40 = .ok (.putfield 140, 3) := by decide +kernel
theorem dX5_search_43 : decode cX5_search 43 = .ok (.aload_n 2, 1) := by decide +kernel
theorem dX5_search_44 : decode cX5_search 44 = .ok (.getfield 140, 3) := by decide +kernel
theorem dX5_search_47 : decode cX5_search 47 = .ok (.ireturn, 1) := by decide +kernel
theorem dX5_test_0 : decode cX5_test 0 = .ok (.aload_n 0, 1) := by decide +kernel
theorem dX5_test_1 : decode cX5_test 1 = .ok (.iload_n 1, 1) := by decide +kernel
theorem dX5_test_2 : decode cX5_test 2 = .ok (.invokevirtual 98, 3) := by decide +kernel
theorem dX5_test_5 : decode cX5_test 5 = .ok (.aload_n 0, 1) := by decide +kernel
theorem dX5_test_6 : decode cX5_test 6 = .ok (.getfield 10, 3) := by decide +kernel
theorem dX5_test_9 : decode cX5_test 9 = .ok (.getfield 65, 3) := by decide +kernel
theorem dX5_test_12 : decode cX5_test 12 = .ok (.iload_n 1, 1) := by decide +kernel
theorem dX5_test_13 : decode cX5_test 13 = .ok (.aaload, 1) := by decide +kernel
theorem dX5_test_14 : decode cX5_test 14 = .ok (.astore_n 2, 1) := by decide +kernel
theorem dX5_test_15 : decode cX5_test 15 = .ok (.aload_n 2, 1) := by decide +kernel
theorem dX5_test_16 : decode cX5_test 16 = .ok (.aload_n 0, 1) := by decide +kernel
theorem dX5_test_17 : decode cX5_test 17 = .ok (.getfield 10, 3) := by decide +kernel
theorem dX5_test_20 : decode cX5_test 20 = .ok (.iload_n 1, 1) := by decide +kernel
theorem dX5_test_21 : decode cX5_test 21 = .ok (.aload_n 2, 1) := by decide +kernel
theorem dX5_test_22 : decode cX5_test 22 = .ok (.invokevirtual 153, 3) := by decide +kernel
theorem dX5_test_25 : decode cX5_test 25 = .ok (.putfield 157, 3) := by decide +kernel
theorem dX5_test_28 : decode cX5_test 28 = .ok (.aload_n 2, 1) := by decide +kernel
theorem dX5_test_29 : decode cX5_test 29 = .ok (.aload_n 0, 1) := by decide +kernel
theorem dX5_test_30 : decode cX5_test 30 = .ok (.getfield 10, 3) := by decide +kernel
theorem dX5_test_33 : decode cX5_test 33 = .ok (.getfield 116, 3) := by decide +kernel
theorem dX5_test_36 : decode cX5_test 36 = .ok (.bipush 12, 2) := by decide +kernel
theorem dX5_test_38 : decode cX5_test 38 = .ok (.iadd, 1) := by decide +kernel
theorem dX5_test_39 : decode cX5_test 39 = .ok (.putfield 160, 3) := by decide +kernel
theorem dX5_test_42 : decode cX5_test 42 = .ok (.aload_n 2, 1) := by decide +kernel
theorem dX5_test_43 : decode cX5_test 43 = .ok (.getfield 157, 3) := by decide +kernel
theorem dX5_test_46 : decode cX5_test 46 = .ok (.ireturn, 1) := by decide +kernel
theorem dX5_sweep_0 : decode cX5_sweep 0 = .ok (.aload_n 0, 1) := by decide +kernel
theorem dX5_sweep_1 : decode cX5_sweep 1 = .ok (.iload_n 1, 1) := by decide +kernel
theorem dX5_sweep_2 : decode cX5_sweep 2 = .ok (.invokevirtual 132, 3) := by decide +kernel
theorem dX5_sweep_5 : decode cX5_sweep 5 = .ok (.aload_n 0, 1) := by decide +kernel
theorem dX5_sweep_6 : decode cX5_sweep 6 = .ok (.getfield 10, 3) := by decide +kernel
theorem dX5_sweep_9 : decode cX5_sweep 9 = .ok (.getfield 65, 3) := by decide +kernel
theorem dX5_sweep_12 : decode cX5_sweep 12 = .ok (.iload_n 1, 1) := by decide +kernel
theorem dX5_sweep_13 : decode cX5_sweep 13 = .ok (.aaload, 1) := by decide +kernel
theorem dX5_sweep_14 : decode cX5_sweep 14 = .ok (.getfield 163, 3) := by decide +kernel
theorem dX5_sweep_17 : decode cX5_sweep 17 = .ok (.istore_n 2, 1) := by decide +kernel
theorem dX5_sweep_18 : decode cX5_sweep 18 = .ok (.aload_n 0, 1) := by decide +kernel
theorem dX5_sweep_19 : decode cX5_sweep 19 = .ok (.getfield 10, 3) := by decide +kernel
theorem dX5_sweep_22 : decode cX5_sweep 22 = .ok (.getfield 65, 3) := by decide +kernel
theorem dX5_sweep_25 : decode cX5_sweep 25 = .ok (.iload_n 1, 1) := by decide +kernel
theorem dX5_sweep_26 : decode cX5_sweep 26 = .ok (.aaload, 1) := by decide +kernel
theorem dX5_sweep_27 : decode cX5_sweep 27 = .ok (.iconst 1, 1) := by decide +kernel
theorem dX5_sweep_28 : decode cX5_sweep 28 = .ok (.putfield 163, 3) := by decide +kernel
theorem dX5_sweep_31 : decode cX5_sweep 31 = .ok (.iload_n 2, 1) := by decide +kernel
theorem dX5_sweep_32 : decode cX5_sweep 32 = .ok (.ifCond .ne 7, 3) := by decide +kernel
theorem dX5_sweep_35 : decode cX5_sweep 35 = .ok (.iconst 1, 1) := by decide +kernel
theorem dX5_sweep_36 : decode cX5_sweep 36 = .ok (.goto 4, 3) := by decide +kernel
theorem dX5_sweep_39 : decode cX5_sweep 39 = .ok (.iconst 0, 1) := by decide +kernel
theorem dX5_sweep_40 : decode cX5_sweep 40 = .ok (.ireturn, 1) := by decide +kernel
theorem dX5_winch_0 : decode cX5_winch 0 = .ok (.aload_n 0, 1) := by decide +kernel
theorem dX5_winch_1 : decode cX5_winch 1 = .ok (.iload_n 1, 1) := by decide +kernel
theorem dX5_winch_2 : decode cX5_winch 2 = .ok (.invokevirtual 132, 3) := by decide +kernel
theorem dX5_winch_5 : decode cX5_winch 5 = .ok (.aload_n 0, 1) := by decide +kernel
theorem dX5_winch_6 : decode cX5_winch 6 = .ok (.getfield 10, 3) := by decide +kernel
theorem dX5_winch_9 : decode cX5_winch 9 = .ok (.getfield 65, 3) := by decide +kernel
theorem dX5_winch_12 : decode cX5_winch 12 = .ok (.iload_n 1, 1) := by decide +kernel
theorem dX5_winch_13 : decode cX5_winch 13 = .ok (.aaload, 1) := by decide +kernel
theorem dX5_winch_14 : decode cX5_winch 14 = .ok (.getfield 166, 3) := by decide +kernel
theorem dX5_winch_17 : decode cX5_winch 17 = .ok (.istore_n 3, 1) := by decide +kernel
theorem dX5_winch_18 : decode cX5_winch 18 = .ok (.aload_n 0, 1) := by decide +kernel
theorem dX5_winch_19 : decode cX5_winch 19 = .ok (.getfield 10, 3) := by decide +kernel
theorem dX5_winch_22 : decode cX5_winch 22 = .ok (.getfield 65, 3) := by decide +kernel
theorem dX5_winch_25 : decode cX5_winch 25 = .ok (.iload_n 1, 1) := by decide +kernel
theorem dX5_winch_26 : decode cX5_winch 26 = .ok (.aaload, 1) := by decide +kernel
theorem dX5_winch_27 : decode cX5_winch 27 = .ok (.iload_n 2, 1) := by decide +kernel
theorem dX5_winch_28 : decode cX5_winch 28 = .ok (.putfield 166, 3) := by decide +kernel
theorem dX5_winch_31 : decode cX5_winch 31 = .ok (.iload_n 3, 1) := by decide +kernel
theorem dX5_winch_32 : decode cX5_winch 32 = .ok (.ireturn, 1) := by decide +kernel
theorem dX5_groom_0 : decode cX5_groom 0 = .ok (.aload_n 0, 1) := by decide +kernel
theorem dX5_groom_1 : decode cX5_groom 1 = .ok (.iload_n 1, 1) := by decide +kernel
theorem dX5_groom_2 : decode cX5_groom 2 = .ok (.invokevirtual 132, 3) := by decide +kernel
theorem dX5_groom_5 : decode cX5_groom 5 = .ok (.aload_n 0, 1) := by decide +kernel
theorem dX5_groom_6 : decode cX5_groom 6 = .ok (.getfield 10, 3) := by decide +kernel
theorem dX5_groom_9 : decode cX5_groom 9 = .ok (.getfield 65, 3) := by decide +kernel
theorem dX5_groom_12 : decode cX5_groom 12 = .ok (.iload_n 1, 1) := by decide +kernel
theorem dX5_groom_13 : decode cX5_groom 13 = .ok (.aaload, 1) := by decide +kernel
theorem dX5_groom_14 : decode cX5_groom 14 = .ok (.getfield 169, 3) := by decide +kernel
theorem dX5_groom_17 : decode cX5_groom 17 = .ok (.astore_n 2, 1) := by decide +kernel
theorem dX5_groom_18 : decode cX5_groom 18 = .ok (.aload_n 0, 1) := by decide +kernel
theorem dX5_groom_19 : decode cX5_groom 19 = .ok (.getfield 10, 3) := by decide +kernel
theorem dX5_groom_22 : decode cX5_groom 22 = .ok (.invokevirtual 173, 3) := by decide +kernel
theorem dX5_groom_25 : decode cX5_groom 25 = .ok (.istore_n 3, 1) := by decide +kernel
theorem dX5_groom_26 : decode cX5_groom 26 = .ok (.aload_n 2, 1) := by decide +kernel
theorem dX5_groom_27 : decode cX5_groom 27 = .ok (.getfield 176, 3) := by decide +kernel
theorem dX5_groom_30 : decode cX5_groom 30 = .ok (.iconst 2, 1) := by decide +kernel
theorem dX5_groom_31 : decode cX5_groom 31 = .ok (.if_icmp .lt 15, 3) := by decide +kernel
theorem dX5_groom_34 : decode cX5_groom 34 = .ok (.iload_n 3, 1) := by decide +kernel
theorem dX5_groom_35 : decode cX5_groom 35 = .ok (.bipush 6, 2) := by decide +kernel
theorem dX5_groom_37 : decode cX5_groom 37 = .ok (.if_icmp .le 19, 3) := by decide +kernel
theorem dX5_groom_40 : decode cX5_groom 40 = .ok (.iload_n 3, 1) := by decide +kernel
theorem dX5_groom_41 : decode cX5_groom 41 = .ok (.bipush 18, 2) := by decide +kernel
theorem dX5_groom_43 : decode cX5_groom 43 = .ok (.if_icmp .ge 13, 3) := by decide +kernel
theorem dX5_groom_46 : decode cX5_groom 46 = .ok (.new 37, 3) := by decide +kernel
theorem dX5_groom_49 : decode cX5_groom 49 = .ok (.dup, 1) := by decide +kernel
theorem dX5_groom_50 : decode cX5_groom 50 = .ok (.ldc 181, 2) := by decide +kernel
theorem dX5_groom_52 : decode cX5_groom 52 = .ok (.invokespecial 41, 3) := by decide +kernel
theorem dX5_groom_55 : decode cX5_groom 55 = .ok (.athrow, 1) := by decide +kernel
theorem dX5_groom_56 : decode cX5_groom 56 = .ok (.aload_n 0, 1) := by decide +kernel
theorem dX5_groom_57 : decode cX5_groom 57 = .ok (.getfield 10, 3) := by decide +kernel
theorem dX5_groom_60 : decode cX5_groom 60 = .ok (.getfield 183, 3) := by decide +kernel
theorem dX5_groom_63 : decode cX5_groom 63 = .ok (.iconst 5, 1) := by decide +kernel
theorem dX5_groom_64 : decode cX5_groom 64 = .ok (.if_icmp .ge 13, 3) := by decide +kernel
theorem dX5_groom_67 : decode cX5_groom 67 = .ok (.new 37, 3) := by decide +kernel
theorem dX5_groom_70 : decode cX5_groom 70 = .ok (.dup, 1) := by decide +kernel
theorem dX5_groom_71 : decode cX5_groom 71 = .ok (.ldc 186, 2) := by decide +kernel
theorem dX5_groom_73 : decode cX5_groom 73 = .ok (.invokespecial 41, 3) := by decide +kernel
theorem dX5_groom_76 : decode cX5_groom 76 = .ok (.athrow, 1) := by decide +kernel
theorem dX5_groom_77 : decode cX5_groom 77 = .ok (.aload_n 0, 1) := by decide +kernel
theorem dX5_groom_78 : decode cX5_groom 78 = .ok (.getfield 10, 3) := by decide +kernel
theorem dX5_groom_81 : decode cX5_groom 81 = .ok (.dup, 1) := by decide +kernel
theorem dX5_groom_82 : decode cX5_groom 82 = .ok (.getfield 183, 3) := by decide +kernel
theorem dX5_groom_85 : decode cX5_groom 85 = .ok (.iconst 5, 1) := by decide +kernel
theorem dX5_groom_86 : decode cX5_groom 86 = .ok (.isub, 1) := by decide +kernel
theorem dX5_groom_87 : decode cX5_groom 87 = .ok (.putfield 183, 3) := by decide +kernel
theorem dX5_groom_90 : decode cX5_groom 90 = .ok (.aload_n 2, 1) := by decide +kernel
theorem dX5_groom_91 : decode cX5_groom 91 = .ok (.invokevirtual 188, 3) := by decide +kernel
theorem dX5_groom_94 : decode cX5_groom 94 = .ok (.ireturn, 1) := by decide +kernel
theorem dX5_open_0 : decode cX5_open 0 = .ok (.aload_n 0, 1) := by decide +kernel
theorem dX5_open_1 : decode cX5_open 1 = .ok (.iload_n 1, 1) := by decide +kernel
theorem dX5_open_2 : decode cX5_open 2 = .ok (.invokevirtual 132, 3) := by decide +kernel
theorem dX5_open_5 : decode cX5_open 5 = .ok (.aload_n 0, 1) := by decide +kernel
theorem dX5_open_6 : decode cX5_open 6 = .ok (.getfield 10, 3) := by decide +kernel
theorem dX5_open_9 : decode cX5_open 9 = .ok (.getfield 65, 3) := by decide +kernel
theorem dX5_open_12 : decode cX5_open 12 = .ok (.iload_n 1, 1) := by decide +kernel
theorem dX5_open_13 : decode cX5_open 13 = .ok (.aaload, 1) := by decide +kernel
theorem dX5_open_14 : decode cX5_open 14 = .ok (.astore_n 2, 1) := by decide +kernel
theorem dX5_open_15 : decode cX5_open 15 = .ok (.aload_n 0, 1) := by decide +kernel
theorem dX5_open_16 : decode cX5_open 16 = .ok (.getfield 10, 3) := by decide +kernel
theorem dX5_open_19 : decode cX5_open 19 = .ok (.aload_n 2, 1) := by decide +kernel
theorem dX5_open_20 : decode cX5_open 20 = .ok (.invokevirtual 191, 3) := by decide +kernel
theorem dX5_open_23 : decode cX5_open 23 = .ok (.istore_n 3, 1) := by decide +kernel
theorem dX5_open_24 : decode cX5_open 24 = .ok (.iload_n 3, 1) := by decide +kernel
theorem dX5_open_25 : decode cX5_open 25 = .ok (.ifCond .ne 19, 3) := by decide +kernel
theorem dX5_open_28 : decode cX5_open 28 = .ok (.aload_n 2, 1) := by decide +kernel
theorem dX5_open_29 : decode cX5_open 29 = .ok (.iconst 1, 1) := by decide +kernel
theorem dX5_open_30 : decode cX5_open 30 = .ok (.putfield 194, 3) := by decide +kernel
theorem dX5_open_33 : decode cX5_open 33 = .ok (.aload_n 2, 1) := by decide +kernel
theorem dX5_open_34 : decode cX5_open 34 = .ok (.aload_n 0, 1) := by decide +kernel
theorem dX5_open_35 : decode cX5_open 35 = .ok (.getfield 10, 3) := by decide +kernel
theorem dX5_open_38 : decode cX5_open 38 = .ok (.getfield 116, 3) := by decide +kernel
theorem dX5_open_41 : decode cX5_open 41 = .ok (.putfield 197, 3) := by decide +kernel
theorem dX5_open_44 : decode cX5_open 44 = .ok (.iload_n 3, 1) := by decide +kernel
theorem dX5_open_45 : decode cX5_open 45 = .ok (.ireturn, 1) := by decide +kernel
theorem dX5_close_0 : decode cX5_close 0 = .ok (.aload_n 0, 1) := by decide +kernel
theorem dX5_close_1 : decode cX5_close 1 = .ok (.iload_n 1, 1) := by decide +kernel
theorem dX5_close_2 : decode cX5_close 2 = .ok (.invokevirtual 98, 3) := by decide +kernel
theorem dX5_close_5 : decode cX5_close 5 = .ok (.aload_n 0, 1) := by decide +kernel
theorem dX5_close_6 : decode cX5_close 6 = .ok (.getfield 10, 3) := by decide +kernel
theorem dX5_close_9 : decode cX5_close 9 = .ok (.getfield 65, 3) := by decide +kernel
theorem dX5_close_12 : decode cX5_close 12 = .ok (.iload_n 1, 1) := by decide +kernel
theorem dX5_close_13 : decode cX5_close 13 = .ok (.aaload, 1) := by decide +kernel
theorem dX5_close_14 : decode cX5_close 14 = .ok (.astore_n 2, 1) := by decide +kernel
theorem dX5_close_15 : decode cX5_close 15 = .ok (.aload_n 2, 1) := by decide +kernel
theorem dX5_close_16 : decode cX5_close 16 = .ok (.getfield 194, 3) := by decide +kernel
theorem dX5_close_19 : decode cX5_close 19 = .ok (.ifCond .ne 13, 3) := by decide +kernel
theorem dX5_close_22 : decode cX5_close 22 = .ok (.new 37, 3) := by decide +kernel
theorem dX5_close_25 : decode cX5_close 25 = .ok (.dup, 1) := by decide +kernel
theorem dX5_close_26 : decode cX5_close 26 = .ok (.ldc 200, 2) := by decide +kernel
theorem dX5_close_28 : decode cX5_close 28 = .ok (.invokespecial 41, 3) := by decide +kernel
theorem dX5_close_31 : decode cX5_close 31 = .ok (.athrow, 1) := by decide +kernel
theorem dX5_close_32 : decode cX5_close 32 = .ok (.aload_n 2, 1) := by decide +kernel
theorem dX5_close_33 : decode cX5_close 33 = .ok (.iconst 0, 1) := by decide +kernel
theorem dX5_close_34 : decode cX5_close 34 = .ok (.putfield 194, 3) := by decide +kernel
theorem dX5_close_37 : decode cX5_close 37 = .ok (.aload_n 2, 1) := by decide +kernel
theorem dX5_close_38 : decode cX5_close 38 = .ok (.iconst 0, 1) := by decide +kernel
theorem dX5_close_39 : decode cX5_close 39 = .ok (.putfield 163, 3) := by decide +kernel
theorem dX5_close_42 : decode cX5_close 42 = .ok (.aload_n 0, 1) := by decide +kernel
theorem dX5_close_43 : decode cX5_close 43 = .ok (.getfield 10, 3) := by decide +kernel
theorem dX5_close_46 : decode cX5_close 46 = .ok (.getfield 116, 3) := by decide +kernel
theorem dX5_close_49 : decode cX5_close 49 = .ok (.aload_n 2, 1) := by decide +kernel
theorem dX5_close_50 : decode cX5_close 50 = .ok (.getfield 197, 3) := by decide +kernel
theorem dX5_close_53 : decode cX5_close 53 = .ok (.isub, 1) := by decide +kernel
theorem dX5_close_54 : decode cX5_close 54 = .ok (.ireturn, 1) := by decide +kernel
theorem dX5_ofRun_0 : decode cX5_ofRun 0 = .ok (.aload_n 0, 1) := by decide +kernel
theorem dX5_ofRun_1 : decode cX5_ofRun 1 = .ok (.iload_n 1, 1) := by decide +kernel
theorem dX5_ofRun_2 : decode cX5_ofRun 2 = .ok (.invokevirtual 98, 3) := by decide +kernel
theorem dX5_ofRun_5 : decode cX5_ofRun 5 = .ok (.iload_n 2, 1) := by decide +kernel
theorem dX5_ofRun_6 : decode cX5_ofRun 6 = .ok (.iconst 0, 1) := by decide +kernel
theorem dX5_ofRun_7 : decode cX5_ofRun 7 = .ok (.bipush 13, 2) := by decide +kernel
theorem dX5_ofRun_9 : decode cX5_ofRun 9 = .ok (.invokestatic 29, 3) := by decide +kernel
theorem dX5_ofRun_12 : decode cX5_ofRun 12 = .ok (.aload_n 0, 1) := by decide +kernel
theorem dX5_ofRun_13 : decode cX5_ofRun 13 = .ok (.getfield 10, 3) := by decide +kernel
theorem dX5_ofRun_16 : decode cX5_ofRun 16 = .ok (.getfield 65, 3) := by decide +kernel
theorem dX5_ofRun_19 : decode cX5_ofRun 19 = .ok (.iload_n 1, 1) := by decide +kernel
theorem dX5_ofRun_20 : decode cX5_ofRun 20 = .ok (.aaload, 1) := by decide +kernel
theorem dX5_ofRun_21 : decode cX5_ofRun 21 = .ok (.astore_n 3, 1) := by decide +kernel
theorem dX5_ofRun_22 : decode cX5_ofRun 22 = .ok (.iload_n 2, 1) := by decide +kernel
theorem dX5_ofRun_23 : decode cX5_ofRun 23 = .ok (.tableswitch 164 0 12 #[65, 70, 78, 86, 97, 102, 107, 115, 120, 129, 149, 154, 159], 65) := by decide +kernel
theorem dX5_ofRun_88 : decode cX5_ofRun 88 = .ok (.aload_n 3, 1) := by decide +kernel
theorem dX5_ofRun_89 : decode cX5_ofRun 89 = .ok (.getfield 69, 3) := by decide +kernel
theorem dX5_ofRun_92 : decode cX5_ofRun 92 = .ok (.ireturn, 1) := by decide +kernel
theorem dX5_ofRun_93 : decode cX5_ofRun 93 = .ok (.aload_n 3, 1) := by decide +kernel
theorem dX5_ofRun_94 : decode cX5_ofRun 94 = .ok (.getfield 169, 3) := by decide +kernel
theorem dX5_ofRun_97 : decode cX5_ofRun 97 = .ok (.getfield 176, 3) := by decide +kernel
theorem dX5_ofRun_100 : decode cX5_ofRun 100 = .ok (.ireturn, 1) := by decide +kernel
theorem dX5_ofRun_101 : decode cX5_ofRun 101 = .ok (.aload_n 3, 1) := by decide +kernel
theorem dX5_ofRun_102 : decode cX5_ofRun 102 = .ok (.getfield 169, 3) := by decide +kernel
theorem dX5_ofRun_105 : decode cX5_ofRun 105 = .ok (.invokevirtual 202, 3) := by decide +kernel
theorem dX5_ofRun_108 : decode cX5_ofRun 108 = .ok (.ireturn, 1) := by decide +kernel
theorem dX5_ofRun_109 : decode cX5_ofRun 109 = .ok (.aload_n 3, 1) := by decide +kernel
theorem dX5_ofRun_110 : decode cX5_ofRun 110 = .ok (.getfield 169, 3) := by decide +kernel
theorem dX5_ofRun_113 : decode cX5_ofRun 113 = .ok (.getfield 205, 3) := by decide +kernel
theorem dX5_ofRun_116 : decode cX5_ofRun 116 = .ok (.invokestatic 208, 3) := by decide +kernel
theorem dX5_ofRun_119 : decode cX5_ofRun 119 = .ok (.ireturn, 1) := by decide +kernel
theorem dX5_ofRun_120 : decode cX5_ofRun 120 = .ok (.aload_n 3, 1) := by decide +kernel
theorem dX5_ofRun_121 : decode cX5_ofRun 121 = .ok (.invokevirtual 143, 3) := by decide +kernel
theorem dX5_ofRun_124 : decode cX5_ofRun 124 = .ok (.ireturn, 1) := by decide +kernel
theorem dX5_ofRun_125 : decode cX5_ofRun 125 = .ok (.aload_n 3, 1) := by decide +kernel
theorem dX5_ofRun_126 : decode cX5_ofRun 126 = .ok (.invokevirtual 212, 3) := by decide +kernel
theorem dX5_ofRun_129 : decode cX5_ofRun 129 = .ok (.ireturn, 1) := by decide +kernel
theorem dX5_ofRun_130 : decode cX5_ofRun 130 = .ok (.aload_n 3, 1) := by decide +kernel
theorem dX5_ofRun_131 : decode cX5_ofRun 131 = .ok (.getfield 194, 3) := by decide +kernel
theorem dX5_ofRun_134 : decode cX5_ofRun 134 = .ok (.invokestatic 208, 3) := by decide +kernel
theorem dX5_ofRun_137 : decode cX5_ofRun 137 = .ok (.ireturn, 1) := by decide +kernel
theorem dX5_ofRun_138 : decode cX5_ofRun 138 = .ok (.aload_n 3, 1) := by decide +kernel
theorem dX5_ofRun_139 : decode cX5_ofRun 139 = .ok (.getfield 140, 3) := by decide +kernel
theorem dX5_ofRun_142 : decode cX5_ofRun 142 = .ok (.ireturn, 1) := by decide +kernel
theorem dX5_ofRun_143 : decode cX5_ofRun 143 = .ok (.aload_n 0, 1) := by decide +kernel
theorem dX5_ofRun_144 : decode cX5_ofRun 144 = .ok (.getfield 10, 3) := by decide +kernel
theorem dX5_ofRun_147 : decode cX5_ofRun 147 = .ok (.aload_n 3, 1) := by decide +kernel
theorem dX5_ofRun_148 : decode cX5_ofRun 148 = .ok (.invokevirtual 191, 3) := by decide +kernel
theorem dX5_ofRun_151 : decode cX5_ofRun 151 = .ok (.ireturn, 1) := by decide +kernel
theorem dX5_ofRun_152 : decode cX5_ofRun 152 = .ok (.aload_n 0, 1) := by decide +kernel
theorem dX5_ofRun_153 : decode cX5_ofRun 153 = .ok (.getfield 10, 3) := by decide +kernel
theorem dX5_ofRun_156 : decode cX5_ofRun 156 = .ok (.aload_n 3, 1) := by decide +kernel
theorem dX5_ofRun_157 : decode cX5_ofRun 157 = .ok (.invokevirtual 215, 3) := by decide +kernel
theorem dX5_ofRun_160 : decode cX5_ofRun 160 = .ok (.ifCond .eq 10, 3) := by decide +kernel
theorem dX5_ofRun_163 : decode cX5_ofRun 163 = .ok (.aload_n 3, 1) := by decide +kernel
theorem dX5_ofRun_164 : decode cX5_ofRun 164 = .ok (.getfield 157, 3) := by decide +kernel
theorem dX5_ofRun_167 : decode cX5_ofRun 167 = .ok (.goto 4, 3) := by decide +kernel
theorem dX5_ofRun_170 : decode cX5_ofRun 170 = .ok (.iconst (-1), 1) := by decide +kernel
theorem dX5_ofRun_171 : decode cX5_ofRun 171 = .ok (.ireturn, 1) := by decide +kernel
theorem dX5_ofRun_172 : decode cX5_ofRun 172 = .ok (.aload_n 3, 1) := by decide +kernel
theorem dX5_ofRun_173 : decode cX5_ofRun 173 = .ok (.getfield 219, 3) := by decide +kernel
theorem dX5_ofRun_176 : decode cX5_ofRun 176 = .ok (.ireturn, 1) := by decide +kernel
theorem dX5_ofRun_177 : decode cX5_ofRun 177 = .ok (.aload_n 3, 1) := by decide +kernel
theorem dX5_ofRun_178 : decode cX5_ofRun 178 = .ok (.getfield 222, 3) := by decide +kernel
theorem dX5_ofRun_181 : decode cX5_ofRun 181 = .ok (.ireturn, 1) := by decide +kernel
theorem dX5_ofRun_182 : decode cX5_ofRun 182 = .ok (.aload_n 3, 1) := by decide +kernel
theorem dX5_ofRun_183 : decode cX5_ofRun 183 = .ok (.getfield 225, 3) := by decide +kernel
theorem dX5_ofRun_186 : decode cX5_ofRun 186 = .ok (.ireturn, 1) := by decide +kernel
theorem dX5_ofRun_187 : decode cX5_ofRun 187 = .ok (.aload_n 3, 1) := by decide +kernel
theorem dX5_ofRun_188 : decode cX5_ofRun 188 = .ok (.getfield 163, 3) := by decide +kernel
theorem dX5_ofRun_191 : decode cX5_ofRun 191 = .ok (.invokestatic 208, 3) := by decide +kernel
theorem dX5_ofRun_194 : decode cX5_ofRun 194 = .ok (.ireturn, 1) := by decide +kernel
theorem dX5_ofLayer_0 : decode cX5_ofLayer 0 = .ok (.aload_n 0, 1) := by decide +kernel
theorem dX5_ofLayer_1 : decode cX5_ofLayer 1 = .ok (.iload_n 1, 1) := by decide +kernel
theorem dX5_ofLayer_2 : decode cX5_ofLayer 2 = .ok (.invokevirtual 98, 3) := by decide +kernel
theorem dX5_ofLayer_5 : decode cX5_ofLayer 5 = .ok (.aload_n 0, 1) := by decide +kernel
theorem dX5_ofLayer_6 : decode cX5_ofLayer 6 = .ok (.getfield 10, 3) := by decide +kernel
theorem dX5_ofLayer_9 : decode cX5_ofLayer 9 = .ok (.getfield 65, 3) := by decide +kernel
theorem dX5_ofLayer_12 : decode cX5_ofLayer 12 = .ok (.iload_n 1, 1) := by decide +kernel
theorem dX5_ofLayer_13 : decode cX5_ofLayer 13 = .ok (.aaload, 1) := by decide +kernel
theorem dX5_ofLayer_14 : decode cX5_ofLayer 14 = .ok (.getfield 169, 3) := by decide +kernel
theorem dX5_ofLayer_17 : decode cX5_ofLayer 17 = .ok (.astore 4, 2) := by decide +kernel
theorem dX5_ofLayer_19 : decode cX5_ofLayer 19 = .ok (.iload_n 2, 1) := by decide +kernel
theorem dX5_ofLayer_20 : decode cX5_ofLayer 20 = .ok (.ifCond .lt 12, 3) := by decide +kernel
theorem dX5_ofLayer_23 : decode cX5_ofLayer 23 = .ok (.iload_n 2, 1) := by decide +kernel
theorem dX5_ofLayer_24 : decode cX5_ofLayer 24 = .ok (.aload 4, 2) := by decide +kernel
theorem dX5_ofLayer_26 : decode cX5_ofLayer 26 = .ok (.getfield 176, 3) := by decide +kernel
theorem dX5_ofLayer_29 : decode cX5_ofLayer 29 = .ok (.if_icmp .lt 13, 3) := by decide +kernel
theorem dX5_ofLayer_32 : decode cX5_ofLayer 32 = .ok (.new 226, 3) := by decide +kernel
theorem dX5_ofLayer_35 : decode cX5_ofLayer 35 = .ok (.dup, 1) := by decide +kernel
theorem dX5_ofLayer_36 : decode cX5_ofLayer 36 = .ok (.ldc 228, 2) := by decide +kernel
theorem dX5_ofLayer_38 : decode cX5_ofLayer 38 = .ok (.invokespecial 230, 3) := by decide +kernel
theorem dX5_ofLayer_41 : decode cX5_ofLayer 41 = .ok (.athrow, 1) := by decide +kernel
theorem dX5_ofLayer_42 : decode cX5_ofLayer 42 = .ok (.iload_n 3, 1) := by decide +kernel
theorem dX5_ofLayer_43 : decode cX5_ofLayer 43 = .ok (.iconst 0, 1) := by decide +kernel
theorem dX5_ofLayer_44 : decode cX5_ofLayer 44 = .ok (.iconst 2, 1) := by decide +kernel
theorem dX5_ofLayer_45 : decode cX5_ofLayer 45 = .ok (.invokestatic 29, 3) := by decide +kernel
theorem dX5_ofLayer_48 : decode cX5_ofLayer 48 = .ok (.iload_n 3, 1) := by decide +kernel
theorem dX5_ofLayer_49 : decode cX5_ofLayer 49 = .ok (.lookupswitch 43 #[(0, 27), (1, 35)], 27) := by decide +kernel
theorem dX5_ofLayer_76 : decode cX5_ofLayer 76 = .ok (.aload 4, 2) := by decide +kernel
theorem dX5_ofLayer_78 : decode cX5_ofLayer 78 = .ok (.getfield 231, 3) := by decide +kernel
theorem dX5_ofLayer_81 : decode cX5_ofLayer 81 = .ok (.iload_n 2, 1) := by decide +kernel
theorem dX5_ofLayer_82 : decode cX5_ofLayer 82 = .ok (.iaload, 1) := by decide +kernel
theorem dX5_ofLayer_83 : decode cX5_ofLayer 83 = .ok (.ireturn, 1) := by decide +kernel
theorem dX5_ofLayer_84 : decode cX5_ofLayer 84 = .ok (.aload 4, 2) := by decide +kernel
theorem dX5_ofLayer_86 : decode cX5_ofLayer 86 = .ok (.getfield 235, 3) := by decide +kernel
theorem dX5_ofLayer_89 : decode cX5_ofLayer 89 = .ok (.iload_n 2, 1) := by decide +kernel
theorem dX5_ofLayer_90 : decode cX5_ofLayer 90 = .ok (.iaload, 1) := by decide +kernel
theorem dX5_ofLayer_91 : decode cX5_ofLayer 91 = .ok (.ireturn, 1) := by decide +kernel
theorem dX5_ofLayer_92 : decode cX5_ofLayer 92 = .ok (.aload 4, 2) := by decide +kernel
theorem dX5_ofLayer_94 : decode cX5_ofLayer 94 = .ok (.getfield 238, 3) := by decide +kernel
theorem dX5_ofLayer_97 : decode cX5_ofLayer 97 = .ok (.iload_n 2, 1) := by decide +kernel
theorem dX5_ofLayer_98 : decode cX5_ofLayer 98 = .ok (.iaload, 1) := by decide +kernel
theorem dX5_ofLayer_99 : decode cX5_ofLayer 99 = .ok (.ireturn, 1) := by decide +kernel
theorem dX5_ofLift_0 : decode cX5_ofLift 0 = .ok (.aload_n 0, 1) := by decide +kernel
theorem dX5_ofLift_1 : decode cX5_ofLift 1 = .ok (.iload_n 1, 1) := by decide +kernel
theorem dX5_ofLift_2 : decode cX5_ofLift 2 = .ok (.invokevirtual 56, 3) := by decide +kernel
theorem dX5_ofLift_5 : decode cX5_ofLift 5 = .ok (.iload_n 2, 1) := by decide +kernel
theorem dX5_ofLift_6 : decode cX5_ofLift 6 = .ok (.iconst 0, 1) := by decide +kernel
theorem dX5_ofLift_7 : decode cX5_ofLift 7 = .ok (.iconst 5, 1) := by decide +kernel
theorem dX5_ofLift_8 : decode cX5_ofLift 8 = .ok (.invokestatic 29, 3) := by decide +kernel
theorem dX5_ofLift_11 : decode cX5_ofLift 11 = .ok (.aload_n 0, 1) := by decide +kernel
theorem dX5_ofLift_12 : decode cX5_ofLift 12 = .ok (.getfield 10, 3) := by decide +kernel
theorem dX5_ofLift_15 : decode cX5_ofLift 15 = .ok (.getfield 44, 3) := by decide +kernel
theorem dX5_ofLift_18 : decode cX5_ofLift 18 = .ok (.iload_n 1, 1) := by decide +kernel
theorem dX5_ofLift_19 : decode cX5_ofLift 19 = .ok (.aaload, 1) := by decide +kernel
theorem dX5_ofLift_20 : decode cX5_ofLift 20 = .ok (.astore_n 3, 1) := by decide +kernel
theorem dX5_ofLift_21 : decode cX5_ofLift 21 = .ok (.iload_n 2, 1) := by decide +kernel
theorem dX5_ofLift_22 : decode cX5_ofLift 22 = .ok (.tableswitch 65 0 4 #[34, 39, 44, 52, 60], 34) := by decide +kernel
theorem dX5_ofLift_56 : decode cX5_ofLift 56 = .ok (.aload_n 3, 1) := by decide +kernel
theorem dX5_ofLift_57 : decode cX5_ofLift 57 = .ok (.getfield 48, 3) := by decide +kernel
theorem dX5_ofLift_60 : decode cX5_ofLift 60 = .ok (.ireturn, 1) := by decide +kernel
theorem dX5_ofLift_61 : decode cX5_ofLift 61 = .ok (.aload_n 3, 1) := by decide +kernel
theorem dX5_ofLift_62 : decode cX5_ofLift 62 = .ok (.getfield 53, 3) := by decide +kernel
theorem dX5_ofLift_65 : decode cX5_ofLift 65 = .ok (.ireturn, 1) := by decide +kernel
theorem dX5_ofLift_66 : decode cX5_ofLift 66 = .ok (.aload_n 3, 1) := by decide +kernel
theorem dX5_ofLift_67 : decode cX5_ofLift 67 = .ok (.getfield 86, 3) := by decide +kernel
theorem dX5_ofLift_70 : decode cX5_ofLift 70 = .ok (.invokestatic 208, 3) := by decide +kernel
theorem dX5_ofLift_73 : decode cX5_ofLift 73 = .ok (.ireturn, 1) := by decide +kernel
theorem dX5_ofLift_74 : decode cX5_ofLift 74 = .ok (.aload_n 3, 1) := by decide +kernel
theorem dX5_ofLift_75 : decode cX5_ofLift 75 = .ok (.getfield 95, 3) := by decide +kernel
theorem dX5_ofLift_78 : decode cX5_ofLift 78 = .ok (.invokestatic 208, 3) := by decide +kernel
theorem dX5_ofLift_81 : decode cX5_ofLift 81 = .ok (.ireturn, 1) := by decide +kernel
theorem dX5_ofLift_82 : decode cX5_ofLift 82 = .ok (.aload_n 3, 1) := by decide +kernel
theorem dX5_ofLift_83 : decode cX5_ofLift 83 = .ok (.getfield 241, 3) := by decide +kernel
theorem dX5_ofLift_86 : decode cX5_ofLift 86 = .ok (.ireturn, 1) := by decide +kernel
theorem dX5_ofLift_87 : decode cX5_ofLift 87 = .ok (.aload_n 0, 1) := by decide +kernel
theorem dX5_ofLift_88 : decode cX5_ofLift 88 = .ok (.getfield 10, 3) := by decide +kernel
theorem dX5_ofLift_91 : decode cX5_ofLift 91 = .ok (.iload_n 1, 1) := by decide +kernel
theorem dX5_ofLift_92 : decode cX5_ofLift 92 = .ok (.invokevirtual 244, 3) := by decide +kernel
theorem dX5_ofLift_95 : decode cX5_ofLift 95 = .ok (.ireturn, 1) := by decide +kernel
theorem dX5_many_0 : decode cX5_many 0 = .ok (.iload_n 1, 1) := by decide +kernel
theorem dX5_many_1 : decode cX5_many 1 = .ok (.iconst 0, 1) := by decide +kernel
theorem dX5_many_2 : decode cX5_many 2 = .ok (.bipush 14, 2) := by decide +kernel
theorem dX5_many_4 : decode cX5_many 4 = .ok (.invokestatic 29, 3) := by decide +kernel
theorem dX5_many_7 : decode cX5_many 7 = .ok (.iload_n 1, 1) := by decide +kernel
theorem dX5_many_8 : decode cX5_many 8 = .ok (.tableswitch 184 0 13 #[72, 80, 88, 96, 104, 112, 120, 128, 136, 144, 152, 160, 168, 176], 72) := by decide +kernel
theorem dX5_many_80 : decode cX5_many 80 = .ok (.aload_n 0, 1) := by decide +kernel
theorem dX5_many_81 : decode cX5_many 81 = .ok (.getfield 10, 3) := by decide +kernel
theorem dX5_many_84 : decode cX5_many 84 = .ok (.getfield 116, 3) := by decide +kernel
theorem dX5_many_87 : decode cX5_many 87 = .ok (.ireturn, 1) := by decide +kernel
theorem dX5_many_88 : decode cX5_many 88 = .ok (.aload_n 0, 1) := by decide +kernel
theorem dX5_many_89 : decode cX5_many 89 = .ok (.getfield 10, 3) := by decide +kernel
theorem dX5_many_92 : decode cX5_many 92 = .ok (.getfield 33, 3) := by decide +kernel
theorem dX5_many_95 : decode cX5_many 95 = .ok (.ireturn, 1) := by decide +kernel
theorem dX5_many_96 : decode cX5_many 96 = .ok (.aload_n 0, 1) := by decide +kernel
theorem dX5_many_97 : decode cX5_many 97 = .ok (.getfield 10, 3) := by decide +kernel
theorem dX5_many_100 : decode cX5_many 100 = .ok (.getfield 60, 3) := by decide +kernel
theorem dX5_many_103 : decode cX5_many 103 = .ok (.ireturn, 1) := by decide +kernel
theorem dX5_many_104 : decode cX5_many 104 = .ok (.aload_n 0, 1) := by decide +kernel
theorem dX5_many_105 : decode cX5_many 105 = .ok (.getfield 10, 3) := by decide +kernel
theorem dX5_many_108 : decode cX5_many 108 = .ok (.invokevirtual 248, 3) := by decide +kernel
theorem dX5_many_111 : decode cX5_many 111 = .ok (.ireturn, 1) := by decide +kernel
theorem dX5_many_112 : decode cX5_many 112 = .ok (.aload_n 0, 1) := by decide +kernel
theorem dX5_many_113 : decode cX5_many 113 = .ok (.getfield 10, 3) := by decide +kernel
theorem dX5_many_116 : decode cX5_many 116 = .ok (.getfield 104, 3) := by decide +kernel
theorem dX5_many_119 : decode cX5_many 119 = .ok (.ireturn, 1) := by decide +kernel
theorem dX5_many_120 : decode cX5_many 120 = .ok (.aload_n 0, 1) := by decide +kernel
theorem dX5_many_121 : decode cX5_many 121 = .ok (.getfield 10, 3) := by decide +kernel
theorem dX5_many_124 : decode cX5_many 124 = .ok (.getfield 135, 3) := by decide +kernel
theorem dX5_many_127 : decode cX5_many 127 = .ok (.ireturn, 1) := by decide +kernel
theorem dX5_many_128 : decode cX5_many 128 = .ok (.aload_n 0, 1) := by decide +kernel
theorem dX5_many_129 : decode cX5_many 129 = .ok (.getfield 10, 3) := by decide +kernel
theorem dX5_many_132 : decode cX5_many 132 = .ok (.getfield 183, 3) := by decide +kernel
theorem dX5_many_135 : decode cX5_many 135 = .ok (.ireturn, 1) := by decide +kernel
theorem dX5_many_136 : decode cX5_many 136 = .ok (.aload_n 0, 1) := by decide +kernel
theorem dX5_many_137 : decode cX5_many 137 = .ok (.getfield 10, 3) := by decide +kernel
theorem dX5_many_140 : decode cX5_many 140 = .ok (.getfield 113, 3) := by decide +kernel
theorem dX5_many_143 : decode cX5_many 143 = .ok (.ireturn, 1) := by decide +kernel
theorem dX5_many_144 : decode cX5_many 144 = .ok (.aload_n 0, 1) := by decide +kernel
theorem dX5_many_145 : decode cX5_many 145 = .ok (.getfield 10, 3) := by decide +kernel
theorem dX5_many_148 : decode cX5_many 148 = .ok (.getfield 121, 3) := by decide +kernel
theorem dX5_many_151 : decode cX5_many 151 = .ok (.ireturn, 1) := by decide +kernel
theorem dX5_many_152 : decode cX5_many 152 = .ok (.aload_n 0, 1) := by decide +kernel
theorem dX5_many_153 : decode cX5_many 153 = .ok (.getfield 10, 3) := by decide +kernel
theorem dX5_many_156 : decode cX5_many 156 = .ok (.getfield 251, 3) := by decide +kernel
theorem dX5_many_159 : decode cX5_many 159 = .ok (.ireturn, 1) := by decide +kernel
theorem dX5_many_160 : decode cX5_many 160 = .ok (.aload_n 0, 1) := by decide +kernel
theorem dX5_many_161 : decode cX5_many 161 = .ok (.getfield 10, 3) := by decide +kernel
theorem dX5_many_164 : decode cX5_many 164 = .ok (.getfield 254, 3) := by decide +kernel
theorem dX5_many_167 : decode cX5_many 167 = .ok (.ireturn, 1) := by decide +kernel
theorem dX5_many_168 : decode cX5_many 168 = .ok (.aload_n 0, 1) := by decide +kernel
theorem dX5_many_169 : decode cX5_many 169 = .ok (.getfield 10, 3) := by decide +kernel
theorem dX5_many_172 : decode cX5_many 172 = .ok (.getfield 257, 3) := by decide +kernel
theorem dX5_many_175 : decode cX5_many 175 = .ok (.ireturn, 1) := by decide +kernel
theorem dX5_many_176 : decode cX5_many 176 = .ok (.aload_n 0, 1) := by decide +kernel
theorem dX5_many_177 : decode cX5_many 177 = .ok (.getfield 10, 3) := by decide +kernel
theorem dX5_many_180 : decode cX5_many 180 = .ok (.getfield 260, 3) := by decide +kernel
theorem dX5_many_183 : decode cX5_many 183 = .ok (.ireturn, 1) := by decide +kernel
theorem dX5_many_184 : decode cX5_many 184 = .ok (.aload_n 0, 1) := by decide +kernel
theorem dX5_many_185 : decode cX5_many 185 = .ok (.getfield 10, 3) := by decide +kernel
theorem dX5_many_188 : decode cX5_many 188 = .ok (.getfield 261, 3) := by decide +kernel
theorem dX5_many_191 : decode cX5_many 191 = .ok (.ireturn, 1) := by decide +kernel
theorem dX5_many_192 : decode cX5_many 192 = .ok (.aload_n 0, 1) := by decide +kernel
theorem dX5_many_193 : decode cX5_many 193 = .ok (.getfield 10, 3) := by decide +kernel
theorem dX5_many_196 : decode cX5_many 196 = .ok (.invokevirtual 264, 3) := by decide +kernel
theorem dX5_many_199 : decode cX5_many 199 = .ok (.ireturn, 1) := by decide +kernel
theorem dX5_meanDepth_0 : decode cX5_meanDepth 0 = .ok (.aload_n 0, 1) := by decide +kernel
theorem dX5_meanDepth_1 : decode cX5_meanDepth 1 = .ok (.getfield 10, 3) := by decide +kernel
theorem dX5_meanDepth_4 : decode cX5_meanDepth 4 = .ok (.invokevirtual 267, 3) := by decide +kernel
theorem dX5_meanDepth_7 : decode cX5_meanDepth 7 = .ok (.istore_n 1, 1) := by decide +kernel
theorem dX5_meanDepth_8 : decode cX5_meanDepth 8 = .ok (.iload_n 1, 1) := by decide +kernel
theorem dX5_meanDepth_9 : decode cX5_meanDepth 9 = .ok (.iconst 1, 1) := by decide +kernel
theorem dX5_meanDepth_10 : decode cX5_meanDepth 10 = .ok (.if_icmp .ge 7, 3) := by decide +kernel
theorem dX5_meanDepth_13 : decode cX5_meanDepth 13 = .ok (.dconst 0, 1) := by decide +kernel
theorem dX5_meanDepth_14 : decode cX5_meanDepth 14 = .ok (.goto 14, 3) := by decide +kernel
theorem dX5_meanDepth_17 : decode cX5_meanDepth 17 = .ok (.aload_n 0, 1) := by decide +kernel
theorem dX5_meanDepth_18 : decode cX5_meanDepth 18 = .ok (.getfield 10, 3) := by decide +kernel
theorem dX5_meanDepth_21 : decode cX5_meanDepth 21 = .ok (.invokevirtual 264, 3) := by decide +kernel
theorem dX5_meanDepth_24 : decode cX5_meanDepth 24 = .ok (.i2d, 1) := by decide +kernel
theorem dX5_meanDepth_25 : decode cX5_meanDepth 25 = .ok (.iload_n 1, 1) := by decide +kernel
theorem dX5_meanDepth_26 : decode cX5_meanDepth 26 = .ok (.i2d, 1) := by decide +kernel
theorem dX5_meanDepth_27 : decode cX5_meanDepth 27 = .ok (.ddiv, 1) := by decide +kernel
theorem dX5_meanDepth_28 : decode cX5_meanDepth 28 = .ok (.dreturn, 1) := by decide +kernel
theorem dX5_wouldRisk_0 : decode cX5_wouldRisk 0 = .ok (.aload_n 0, 1) := by decide +kernel
theorem dX5_wouldRisk_1 : decode cX5_wouldRisk 1 = .ok (.iload_n 1, 1) := by decide +kernel
theorem dX5_wouldRisk_2 : decode cX5_wouldRisk 2 = .ok (.invokevirtual 98, 3) := by decide +kernel
theorem dX5_wouldRisk_5 : decode cX5_wouldRisk 5 = .ok (.iload_n 2, 1) := by decide +kernel
theorem dX5_wouldRisk_6 : decode cX5_wouldRisk 6 = .ok (.iconst 1, 1) := by decide +kernel
theorem dX5_wouldRisk_7 : decode cX5_wouldRisk 7 = .ok (.bipush 48, 2) := by decide +kernel
theorem dX5_wouldRisk_9 : decode cX5_wouldRisk 9 = .ok (.invokestatic 29, 3) := by decide +kernel
theorem dX5_wouldRisk_12 : decode cX5_wouldRisk 12 = .ok (.iload_n 3, 1) := by decide +kernel
theorem dX5_wouldRisk_13 : decode cX5_wouldRisk 13 = .ok (.bipush (-20), 2) := by decide +kernel
theorem dX5_wouldRisk_15 : decode cX5_wouldRisk 15 = .ok (.bipush 20, 2) := by decide +kernel
theorem dX5_wouldRisk_17 : decode cX5_wouldRisk 17 = .ok (.invokestatic 29, 3) := by decide +kernel
theorem dX5_wouldRisk_20 : decode cX5_wouldRisk 20 = .ok (.iload 4, 2) := by decide +kernel
theorem dX5_wouldRisk_22 : decode cX5_wouldRisk 22 = .ok (.iconst 0, 1) := by decide +kernel
theorem dX5_wouldRisk_23 : decode cX5_wouldRisk 23 = .ok (.bipush 9, 2) := by decide +kernel
theorem dX5_wouldRisk_25 : decode cX5_wouldRisk 25 = .ok (.invokestatic 29, 3) := by decide +kernel
theorem dX5_wouldRisk_28 : decode cX5_wouldRisk 28 = .ok (.aload_n 0, 1) := by decide +kernel
theorem dX5_wouldRisk_29 : decode cX5_wouldRisk 29 = .ok (.getfield 25, 3) := by decide +kernel
theorem dX5_wouldRisk_32 : decode cX5_wouldRisk 32 = .ok (.iload_n 3, 1) := by decide +kernel
theorem dX5_wouldRisk_33 : decode cX5_wouldRisk 33 = .ok (.iload 4, 2) := by decide +kernel
theorem dX5_wouldRisk_35 : decode cX5_wouldRisk 35 = .ok (.iconst 0, 1) := by decide +kernel
theorem dX5_wouldRisk_36 : decode cX5_wouldRisk 36 = .ok (.iconst 0, 1) := by decide +kernel
theorem dX5_wouldRisk_37 : decode cX5_wouldRisk 37 = .ok (.bipush 100, 2) := by decide +kernel
theorem dX5_wouldRisk_39 : decode cX5_wouldRisk 39 = .ok (.invokevirtual 124, 3) := by decide +kernel
theorem dX5_wouldRisk_42 : decode cX5_wouldRisk 42 = .ok (.aload_n 0, 1) := by decide +kernel
theorem dX5_wouldRisk_43 : decode cX5_wouldRisk 43 = .ok (.getfield 16, 3) := by decide +kernel
theorem dX5_wouldRisk_46 : decode cX5_wouldRisk 46 = .ok (.aload_n 0, 1) := by decide +kernel
theorem dX5_wouldRisk_47 : decode cX5_wouldRisk 47 = .ok (.getfield 10, 3) := by decide +kernel
theorem dX5_wouldRisk_50 : decode cX5_wouldRisk 50 = .ok (.invokevirtual 270, 3) := by decide +kernel
theorem dX5_wouldRisk_53 : decode cX5_wouldRisk 53 = .ok (.iconst 0, 1) := by decide +kernel
theorem dX5_wouldRisk_54 : decode cX5_wouldRisk 54 = .ok (.istore 5, 2) := by decide +kernel
theorem dX5_wouldRisk_56 : decode cX5_wouldRisk 56 = .ok (.iconst 0, 1) := by decide +kernel
theorem dX5_wouldRisk_57 : decode cX5_wouldRisk 57 = .ok (.istore 6, 2) := by decide +kernel
theorem dX5_wouldRisk_59 : decode cX5_wouldRisk 59 = .ok (.iload 6, 2) := by decide +kernel
theorem dX5_wouldRisk_61 : decode cX5_wouldRisk 61 = .ok (.iload_n 2, 1) := by decide +kernel
theorem dX5_wouldRisk_62 : decode cX5_wouldRisk 62 = .ok (.if_icmp .ge 39, 3) := by decide +kernel
theorem dX5_wouldRisk_65 : decode cX5_wouldRisk 65 = .ok (.aload_n 0, 1) := by decide +kernel
theorem dX5_wouldRisk_66 : decode cX5_wouldRisk 66 = .ok (.getfield 16, 3) := by decide +kernel
theorem dX5_wouldRisk_69 : decode cX5_wouldRisk 69 = .ok (.aload_n 0, 1) := by decide +kernel
theorem dX5_wouldRisk_70 : decode cX5_wouldRisk 70 = .ok (.getfield 25, 3) := by decide +kernel
theorem dX5_wouldRisk_73 : decode cX5_wouldRisk 73 = .ok (.invokevirtual 128, 3) := by decide +kernel
theorem dX5_wouldRisk_76 : decode cX5_wouldRisk 76 = .ok (.iload 5, 2) := by decide +kernel
theorem dX5_wouldRisk_78 : decode cX5_wouldRisk 78 = .ok (.aload_n 0, 1) := by decide +kernel
theorem dX5_wouldRisk_79 : decode cX5_wouldRisk 79 = .ok (.getfield 16, 3) := by decide +kernel
theorem dX5_wouldRisk_82 : decode cX5_wouldRisk 82 = .ok (.getfield 65, 3) := by decide +kernel
theorem dX5_wouldRisk_85 : decode cX5_wouldRisk 85 = .ok (.iload_n 1, 1) := by decide +kernel
theorem dX5_wouldRisk_86 : decode cX5_wouldRisk 86 = .ok (.aaload, 1) := by decide +kernel
theorem dX5_wouldRisk_87 : decode cX5_wouldRisk 87 = .ok (.getfield 274, 3) := by decide +kernel
theorem dX5_wouldRisk_90 : decode cX5_wouldRisk 90 = .ok (.invokestatic 277, 3) := by decide +kernel
theorem dX5_wouldRisk_93 : decode cX5_wouldRisk 93 = .ok (.istore 5, 2) := by decide +kernel
theorem dX5_wouldRisk_95 : decode cX5_wouldRisk 95 = .ok (.iinc 6 1, 3) := by decide +kernel
theorem dX5_wouldRisk_98 : decode cX5_wouldRisk 98 = .ok (.goto (-39), 3) := by decide +kernel
theorem dX5_wouldRisk_101 : decode cX5_wouldRisk 101 = .ok (.iload 5, 2) := by decide +kernel
theorem dX5_wouldRisk_103 : decode cX5_wouldRisk 103 = .ok (.ireturn, 1) := by decide +kernel
theorem dX5_wouldMake_0 : decode cX5_wouldMake 0 = .ok (.aload_n 0, 1) := by decide +kernel
theorem dX5_wouldMake_1 : decode cX5_wouldMake 1 = .ok (.iload_n 1, 1) := by decide +kernel
theorem dX5_wouldMake_2 : decode cX5_wouldMake 2 = .ok (.invokevirtual 98, 3) := by decide +kernel
theorem dX5_wouldMake_5 : decode cX5_wouldMake 5 = .ok (.iload_n 2, 1) := by decide +kernel
theorem dX5_wouldMake_6 : decode cX5_wouldMake 6 = .ok (.iconst 1, 1) := by decide +kernel
theorem dX5_wouldMake_7 : decode cX5_wouldMake 7 = .ok (.bipush 48, 2) := by decide +kernel
theorem dX5_wouldMake_9 : decode cX5_wouldMake 9 = .ok (.invokestatic 29, 3) := by decide +kernel
theorem dX5_wouldMake_12 : decode cX5_wouldMake 12 = .ok (.iload_n 3, 1) := by decide +kernel
theorem dX5_wouldMake_13 : decode cX5_wouldMake 13 = .ok (.bipush (-20), 2) := by decide +kernel
theorem dX5_wouldMake_15 : decode cX5_wouldMake 15 = .ok (.bipush 20, 2) := by decide +kernel
theorem dX5_wouldMake_17 : decode cX5_wouldMake 17 = .ok (.invokestatic 29, 3) := by decide +kernel
theorem dX5_wouldMake_20 : decode cX5_wouldMake 20 = .ok (.iload 4, 2) := by decide +kernel
theorem dX5_wouldMake_22 : decode cX5_wouldMake 22 = .ok (.iconst 0, 1) := by decide +kernel
theorem dX5_wouldMake_23 : decode cX5_wouldMake 23 = .ok (.bipush 100, 2) := by decide +kernel
theorem dX5_wouldMake_25 : decode cX5_wouldMake 25 = .ok (.invokestatic 29, 3) := by decide +kernel
theorem dX5_wouldMake_28 : decode cX5_wouldMake 28 = .ok (.aload_n 0, 1) := by decide +kernel
theorem dX5_wouldMake_29 : decode cX5_wouldMake 29 = .ok (.getfield 10, 3) := by decide +kernel
theorem dX5_wouldMake_32 : decode cX5_wouldMake 32 = .ok (.getfield 65, 3) := by decide +kernel
theorem dX5_wouldMake_35 : decode cX5_wouldMake 35 = .ok (.iload_n 1, 1) := by decide +kernel
theorem dX5_wouldMake_36 : decode cX5_wouldMake 36 = .ok (.aaload, 1) := by decide +kernel
theorem dX5_wouldMake_37 : decode cX5_wouldMake 37 = .ok (.getfield 101, 3) := by decide +kernel
theorem dX5_wouldMake_40 : decode cX5_wouldMake 40 = .ok (.iconst 1, 1) := by decide +kernel
theorem dX5_wouldMake_41 : decode cX5_wouldMake 41 = .ok (.if_icmp .ge 5, 3) := by decide +kernel
theorem dX5_wouldMake_44 : decode cX5_wouldMake 44 = .ok (.iconst 0, 1) := by decide +kernel
theorem dX5_wouldMake_45 : decode cX5_wouldMake 45 = .ok (.ireturn, 1) := by decide +kernel
theorem dX5_wouldMake_46 : decode cX5_wouldMake 46 = .ok (.aload_n 0, 1) := by decide +kernel
theorem dX5_wouldMake_47 : decode cX5_wouldMake 47 = .ok (.getfield 25, 3) := by decide +kernel
theorem dX5_wouldMake_50 : decode cX5_wouldMake 50 = .ok (.iload_n 3, 1) := by decide +kernel
theorem dX5_wouldMake_51 : decode cX5_wouldMake 51 = .ok (.iconst 0, 1) := by decide +kernel
theorem dX5_wouldMake_52 : decode cX5_wouldMake 52 = .ok (.iconst 0, 1) := by decide +kernel
theorem dX5_wouldMake_53 : decode cX5_wouldMake 53 = .ok (.iconst 0, 1) := by decide +kernel
theorem dX5_wouldMake_54 : decode cX5_wouldMake 54 = .ok (.iload 4, 2) := by decide +kernel
theorem dX5_wouldMake_56 : decode cX5_wouldMake 56 = .ok (.invokevirtual 124, 3) := by decide +kernel
theorem dX5_wouldMake_59 : decode cX5_wouldMake 59 = .ok (.aload_n 0, 1) := by decide +kernel
theorem dX5_wouldMake_60 : decode cX5_wouldMake 60 = .ok (.getfield 19, 3) := by decide +kernel
theorem dX5_wouldMake_63 : decode cX5_wouldMake 63 = .ok (.aload_n 0, 1) := by decide +kernel
theorem dX5_wouldMake_64 : decode cX5_wouldMake 64 = .ok (.getfield 10, 3) := by decide +kernel
theorem dX5_wouldMake_67 : decode cX5_wouldMake 67 = .ok (.invokevirtual 270, 3) := by decide +kernel
theorem dX5_wouldMake_70 : decode cX5_wouldMake 70 = .ok (.aload_n 0, 1) := by decide +kernel
theorem dX5_wouldMake_71 : decode cX5_wouldMake 71 = .ok (.getfield 19, 3) := by decide +kernel
theorem dX5_wouldMake_74 : decode cX5_wouldMake 74 = .ok (.invokevirtual 280, 3) := by decide +kernel
theorem dX5_wouldMake_77 : decode cX5_wouldMake 77 = .ok (.aload_n 0, 1) := by decide +kernel
theorem dX5_wouldMake_78 : decode cX5_wouldMake 78 = .ok (.getfield 16, 3) := by decide +kernel
theorem dX5_wouldMake_81 : decode cX5_wouldMake 81 = .ok (.aload_n 0, 1) := by decide +kernel
theorem dX5_wouldMake_82 : decode cX5_wouldMake 82 = .ok (.getfield 19, 3) := by decide +kernel
theorem dX5_wouldMake_85 : decode cX5_wouldMake 85 = .ok (.invokevirtual 270, 3) := by decide +kernel
theorem dX5_wouldMake_88 : decode cX5_wouldMake 88 = .ok (.aload_n 0, 1) := by decide +kernel
theorem dX5_wouldMake_89 : decode cX5_wouldMake 89 = .ok (.getfield 16, 3) := by decide +kernel
theorem dX5_wouldMake_92 : decode cX5_wouldMake 92 = .ok (.getfield 65, 3) := by decide +kernel
theorem dX5_wouldMake_95 : decode cX5_wouldMake 95 = .ok (.iload_n 1, 1) := by decide +kernel
theorem dX5_wouldMake_96 : decode cX5_wouldMake 96 = .ok (.aaload, 1) := by decide +kernel
theorem dX5_wouldMake_97 : decode cX5_wouldMake 97 = .ok (.aload_n 0, 1) := by decide +kernel
theorem dX5_wouldMake_98 : decode cX5_wouldMake 98 = .ok (.getfield 10, 3) := by decide +kernel
theorem dX5_wouldMake_101 : decode cX5_wouldMake 101 = .ok (.getfield 65, 3) := by decide +kernel
theorem dX5_wouldMake_104 : decode cX5_wouldMake 104 = .ok (.iload_n 1, 1) := by decide +kernel
theorem dX5_wouldMake_105 : decode cX5_wouldMake 105 = .ok (.aaload, 1) := by decide +kernel
theorem dX5_wouldMake_106 : decode cX5_wouldMake 106 = .ok (.getfield 101, 3) := by decide +kernel
theorem dX5_wouldMake_109 : decode cX5_wouldMake 109 = .ok (.putfield 101, 3) := by decide +kernel
theorem dX5_wouldMake_112 : decode cX5_wouldMake 112 = .ok (.iconst 0, 1) := by decide +kernel
theorem dX5_wouldMake_113 : decode cX5_wouldMake 113 = .ok (.istore 5, 2) := by decide +kernel
theorem dX5_wouldMake_115 : decode cX5_wouldMake 115 = .ok (.iload 5, 2) := by decide +kernel
theorem dX5_wouldMake_117 : decode cX5_wouldMake 117 = .ok (.iload_n 2, 1) := by decide +kernel
theorem dX5_wouldMake_118 : decode cX5_wouldMake 118 = .ok (.if_icmp .ge 31, 3) := by decide +kernel
theorem dX5_wouldMake_121 : decode cX5_wouldMake 121 = .ok (.aload_n 0, 1) := by decide +kernel
theorem dX5_wouldMake_122 : decode cX5_wouldMake 122 = .ok (.getfield 16, 3) := by decide +kernel
theorem dX5_wouldMake_125 : decode cX5_wouldMake 125 = .ok (.aload_n 0, 1) := by decide +kernel
theorem dX5_wouldMake_126 : decode cX5_wouldMake 126 = .ok (.getfield 25, 3) := by decide +kernel
theorem dX5_wouldMake_129 : decode cX5_wouldMake 129 = .ok (.invokevirtual 128, 3) := by decide +kernel
theorem dX5_wouldMake_132 : decode cX5_wouldMake 132 = .ok (.aload_n 0, 1) := by decide +kernel
theorem dX5_wouldMake_133 : decode cX5_wouldMake 133 = .ok (.getfield 19, 3) := by decide +kernel
theorem dX5_wouldMake_136 : decode cX5_wouldMake 136 = .ok (.aload_n 0, 1) := by decide +kernel
theorem dX5_wouldMake_137 : decode cX5_wouldMake 137 = .ok (.getfield 25, 3) := by decide +kernel
theorem dX5_wouldMake_140 : decode cX5_wouldMake 140 = .ok (.invokevirtual 128, 3) := by decide +kernel
theorem dX5_wouldMake_143 : decode cX5_wouldMake 143 = .ok (.iinc 5 1, 3) := by decide +kernel
theorem dX5_wouldMake_146 : decode cX5_wouldMake 146 = .ok (.goto (-31), 3) := by decide +kernel
theorem dX5_wouldMake_149 : decode cX5_wouldMake 149 = .ok (.aload_n 0, 1) := by decide +kernel
theorem dX5_wouldMake_150 : decode cX5_wouldMake 150 = .ok (.getfield 16, 3) := by decide +kernel
theorem dX5_wouldMake_153 : decode cX5_wouldMake 153 = .ok (.getfield 65, 3) := by decide +kernel
theorem dX5_wouldMake_156 : decode cX5_wouldMake 156 = .ok (.iload_n 1, 1) := by decide +kernel
theorem dX5_wouldMake_157 : decode cX5_wouldMake 157 = .ok (.aaload, 1) := by decide +kernel
theorem dX5_wouldMake_158 : decode cX5_wouldMake 158 = .ok (.getfield 169, 3) := by decide +kernel
theorem dX5_wouldMake_161 : decode cX5_wouldMake 161 = .ok (.invokevirtual 202, 3) := by decide +kernel
theorem dX5_wouldMake_164 : decode cX5_wouldMake 164 = .ok (.aload_n 0, 1) := by decide +kernel
theorem dX5_wouldMake_165 : decode cX5_wouldMake 165 = .ok (.getfield 19, 3) := by decide +kernel
theorem dX5_wouldMake_168 : decode cX5_wouldMake 168 = .ok (.getfield 65, 3) := by decide +kernel
theorem dX5_wouldMake_171 : decode cX5_wouldMake 171 = .ok (.iload_n 1, 1) := by decide +kernel
theorem dX5_wouldMake_172 : decode cX5_wouldMake 172 = .ok (.aaload, 1) := by decide +kernel
theorem dX5_wouldMake_173 : decode cX5_wouldMake 173 = .ok (.getfield 169, 3) := by decide +kernel
theorem dX5_wouldMake_176 : decode cX5_wouldMake 176 = .ok (.invokevirtual 202, 3) := by decide +kernel
theorem dX5_wouldMake_179 : decode cX5_wouldMake 179 = .ok (.isub, 1) := by decide +kernel
theorem dX5_wouldMake_180 : decode cX5_wouldMake 180 = .ok (.ireturn, 1) := by decide +kernel
theorem dX5_nextBlast_0 : decode cX5_nextBlast 0 = .ok (.iconst (-1), 1) := by decide +kernel
theorem dX5_nextBlast_1 : decode cX5_nextBlast 1 = .ok (.istore_n 1, 1) := by decide +kernel
theorem dX5_nextBlast_2 : decode cX5_nextBlast 2 = .ok (.iconst 0, 1) := by decide +kernel
theorem dX5_nextBlast_3 : decode cX5_nextBlast 3 = .ok (.istore_n 2, 1) := by decide +kernel
theorem dX5_nextBlast_4 : decode cX5_nextBlast 4 = .ok (.iconst 0, 1) := by decide +kernel
theorem dX5_nextBlast_5 : decode cX5_nextBlast 5 = .ok (.istore_n 3, 1) := by decide +kernel
theorem dX5_nextBlast_6 : decode cX5_nextBlast 6 = .ok (.iload_n 3, 1) := by decide +kernel
theorem dX5_nextBlast_7 : decode cX5_nextBlast 7 = .ok (.aload_n 0, 1) := by decide +kernel
theorem dX5_nextBlast_8 : decode cX5_nextBlast 8 = .ok (.getfield 10, 3) := by decide +kernel
theorem dX5_nextBlast_11 : decode cX5_nextBlast 11 = .ok (.getfield 60, 3) := by decide +kernel
theorem dX5_nextBlast_14 : decode cX5_nextBlast 14 = .ok (.if_icmp .ge 85, 3) := by decide +kernel
theorem dX5_nextBlast_17 : decode cX5_nextBlast 17 = .ok (.aload_n 0, 1) := by decide +kernel
theorem dX5_nextBlast_18 : decode cX5_nextBlast 18 = .ok (.getfield 10, 3) := by decide +kernel
theorem dX5_nextBlast_21 : decode cX5_nextBlast 21 = .ok (.getfield 65, 3) := by decide +kernel
theorem dX5_nextBlast_24 : decode cX5_nextBlast 24 = .ok (.iload_n 3, 1) := by decide +kernel
theorem dX5_nextBlast_25 : decode cX5_nextBlast 25 = .ok (.aaload, 1) := by decide +kernel
theorem dX5_nextBlast_26 : decode cX5_nextBlast 26 = .ok (.astore 4, 2) := by decide +kernel
theorem dX5_nextBlast_28 : decode cX5_nextBlast 28 = .ok (.aload 4, 2) := by decide +kernel
theorem dX5_nextBlast_30 : decode cX5_nextBlast 30 = .ok (.getfield 194, 3) := by decide +kernel
theorem dX5_nextBlast_33 : decode cX5_nextBlast 33 = .ok (.ifCond .ne 25, 3) := by decide +kernel
theorem dX5_nextBlast_36 : decode cX5_nextBlast 36 = .ok (.aload 4, 2) := by decide +kernel
theorem dX5_nextBlast_38 : decode cX5_nextBlast 38 = .ok (.getfield 140, 3) := by decide +kernel
theorem dX5_nextBlast_41 : decode cX5_nextBlast 41 = .ok (.ifCond .ne 17, 3) := by decide +kernel
theorem dX5_nextBlast_44 : decode cX5_nextBlast 44 = .ok (.aload 4, 2) := by decide +kernel
theorem dX5_nextBlast_46 : decode cX5_nextBlast 46 = .ok (.invokevirtual 143, 3) := by decide +kernel
theorem dX5_nextBlast_49 : decode cX5_nextBlast 49 = .ok (.bipush 40, 2) := by decide +kernel
theorem dX5_nextBlast_51 : decode cX5_nextBlast 51 = .ok (.if_icmp .lt 7, 3) := by decide +kernel
theorem dX5_nextBlast_54 : decode cX5_nextBlast 54 = .ok (.iconst 1, 1) := by decide +kernel
theorem dX5_nextBlast_55 : decode cX5_nextBlast 55 = .ok (.goto 4, 3) := by decide +kernel
theorem dX5_nextBlast_58 : decode cX5_nextBlast 58 = .ok (.iconst 0, 1) := by decide +kernel
theorem dX5_nextBlast_59 : decode cX5_nextBlast 59 = .ok (.istore 5, 2) := by decide +kernel
theorem dX5_nextBlast_61 : decode cX5_nextBlast 61 = .ok (.iload 5, 2) := by decide +kernel
theorem dX5_nextBlast_63 : decode cX5_nextBlast 63 = .ok (.ifCond .eq 16, 3) := by decide +kernel
theorem dX5_nextBlast_66 : decode cX5_nextBlast 66 = .ok (.aload 4, 2) := by decide +kernel
theorem dX5_nextBlast_68 : decode cX5_nextBlast 68 = .ok (.aload 4, 2) := by decide +kernel
theorem dX5_nextBlast_70 : decode cX5_nextBlast 70 = .ok (.invokevirtual 212, 3) := by decide +kernel
theorem dX5_nextBlast_73 : decode cX5_nextBlast 73 = .ok (.invokevirtual 283, 3) := by decide +kernel
theorem dX5_nextBlast_76 : decode cX5_nextBlast 76 = .ok (.goto 4, 3) := by decide +kernel
theorem dX5_nextBlast_79 : decode cX5_nextBlast 79 = .ok (.iconst 0, 1) := by decide +kernel
theorem dX5_nextBlast_80 : decode cX5_nextBlast 80 = .ok (.istore 6, 2) := by decide +kernel
theorem dX5_nextBlast_82 : decode cX5_nextBlast 82 = .ok (.iload 6, 2) := by decide +kernel
theorem dX5_nextBlast_84 : decode cX5_nextBlast 84 = .ok (.iload_n 2, 1) := by decide +kernel
theorem dX5_nextBlast_85 : decode cX5_nextBlast 85 = .ok (.if_icmp .le 8, 3) := by decide +kernel
theorem dX5_nextBlast_88 : decode cX5_nextBlast 88 = .ok (.iload 6, 2) := by decide +kernel
theorem dX5_nextBlast_90 : decode cX5_nextBlast 90 = .ok (.istore_n 2, 1) := by decide +kernel
theorem dX5_nextBlast_91 : decode cX5_nextBlast 91 = .ok (.iload_n 3, 1) := by decide +kernel
theorem dX5_nextBlast_92 : decode cX5_nextBlast 92 = .ok (.istore_n 1, 1) := by decide +kernel
theorem dX5_nextBlast_93 : decode cX5_nextBlast 93 = .ok (.iinc 3 1, 3) := by decide +kernel
theorem dX5_nextBlast_96 : decode cX5_nextBlast 96 = .ok (.goto (-90), 3) := by decide +kernel
theorem dX5_nextBlast_99 : decode cX5_nextBlast 99 = .ok (.iload_n 1, 1) := by decide +kernel
theorem dX5_nextBlast_100 : decode cX5_nextBlast 100 = .ok (.ireturn, 1) := by decide +kernel
theorem dX5_couldOpen_0 : decode cX5_couldOpen 0 = .ok (.iconst 0, 1) := by decide +kernel
theorem dX5_couldOpen_1 : decode cX5_couldOpen 1 = .ok (.istore_n 1, 1) := by decide +kernel
theorem dX5_couldOpen_2 : decode cX5_couldOpen 2 = .ok (.iconst 0, 1) := by decide +kernel
theorem dX5_couldOpen_3 : decode cX5_couldOpen 3 = .ok (.istore_n 2, 1) := by decide +kernel
theorem dX5_couldOpen_4 : decode cX5_couldOpen 4 = .ok (.iload_n 2, 1) := by decide +kernel
theorem dX5_couldOpen_5 : decode cX5_couldOpen 5 = .ok (.aload_n 0, 1) := by decide +kernel
theorem dX5_couldOpen_6 : decode cX5_couldOpen 6 = .ok (.getfield 10, 3) := by decide +kernel
theorem dX5_couldOpen_9 : decode cX5_couldOpen 9 = .ok (.getfield 60, 3) := by decide +kernel
theorem dX5_couldOpen_12 : decode cX5_couldOpen 12 = .ok (.if_icmp .ge 81, 3) := by decide +kernel
theorem dX5_couldOpen_15 : decode cX5_couldOpen 15 = .ok (.aload_n 0, 1) := by decide +kernel
theorem dX5_couldOpen_16 : decode cX5_couldOpen 16 = .ok (.getfield 10, 3) := by decide +kernel
theorem dX5_couldOpen_19 : decode cX5_couldOpen 19 = .ok (.getfield 65, 3) := by decide +kernel
theorem dX5_couldOpen_22 : decode cX5_couldOpen 22 = .ok (.iload_n 2, 1) := by decide +kernel
theorem dX5_couldOpen_23 : decode cX5_couldOpen 23 = .ok (.aaload, 1) := by decide +kernel
theorem dX5_couldOpen_24 : decode cX5_couldOpen 24 = .ok (.astore_n 3, 1) := by decide +kernel
theorem dX5_couldOpen_25 : decode cX5_couldOpen 25 = .ok (.aload_n 0, 1) := by decide +kernel
theorem dX5_couldOpen_26 : decode cX5_couldOpen 26 = .ok (.getfield 10, 3) := by decide +kernel
theorem dX5_couldOpen_29 : decode cX5_couldOpen 29 = .ok (.iload_n 2, 1) := by decide +kernel
theorem dX5_couldOpen_30 : decode cX5_couldOpen 30 = .ok (.aload_n 3, 1) := by decide +kernel
theorem dX5_couldOpen_31 : decode cX5_couldOpen 31 = .ok (.invokevirtual 153, 3) := by decide +kernel
theorem dX5_couldOpen_34 : decode cX5_couldOpen 34 = .ok (.istore 4, 2) := by decide +kernel
theorem dX5_couldOpen_36 : decode cX5_couldOpen 36 = .ok (.aload_n 0, 1) := by decide +kernel
theorem dX5_couldOpen_37 : decode cX5_couldOpen 37 = .ok (.getfield 10, 3) := by decide +kernel
theorem dX5_couldOpen_40 : decode cX5_couldOpen 40 = .ok (.aload_n 3, 1) := by decide +kernel
theorem dX5_couldOpen_41 : decode cX5_couldOpen 41 = .ok (.invokevirtual 191, 3) := by decide +kernel
theorem dX5_couldOpen_44 : decode cX5_couldOpen 44 = .ok (.ifCond .eq 18, 3) := by decide +kernel
theorem dX5_couldOpen_47 : decode cX5_couldOpen 47 = .ok (.aload_n 0, 1) := by decide +kernel
theorem dX5_couldOpen_48 : decode cX5_couldOpen 48 = .ok (.getfield 10, 3) := by decide +kernel
theorem dX5_couldOpen_51 : decode cX5_couldOpen 51 = .ok (.aload_n 3, 1) := by decide +kernel
theorem dX5_couldOpen_52 : decode cX5_couldOpen 52 = .ok (.iconst 1, 1) := by decide +kernel
theorem dX5_couldOpen_53 : decode cX5_couldOpen 53 = .ok (.iload 4, 2) := by decide +kernel
theorem dX5_couldOpen_55 : decode cX5_couldOpen 55 = .ok (.iconst 1, 1) := by decide +kernel
theorem dX5_couldOpen_56 : decode cX5_couldOpen 56 = .ok (.invokevirtual 286, 3) := by decide +kernel
theorem dX5_couldOpen_59 : decode cX5_couldOpen 59 = .ok (.ifCond .ne 7, 3) := by decide +kernel
theorem dX5_couldOpen_62 : decode cX5_couldOpen 62 = .ok (.iconst 1, 1) := by decide +kernel
theorem dX5_couldOpen_63 : decode cX5_couldOpen 63 = .ok (.goto 4, 3) := by decide +kernel
theorem dX5_couldOpen_66 : decode cX5_couldOpen 66 = .ok (.iconst 0, 1) := by decide +kernel
theorem dX5_couldOpen_67 : decode cX5_couldOpen 67 = .ok (.istore 5, 2) := by decide +kernel
theorem dX5_couldOpen_69 : decode cX5_couldOpen 69 = .ok (.aload_n 3, 1) := by decide +kernel
theorem dX5_couldOpen_70 : decode cX5_couldOpen 70 = .ok (.getfield 194, 3) := by decide +kernel
theorem dX5_couldOpen_73 : decode cX5_couldOpen 73 = .ok (.ifCond .ne 14, 3) := by decide +kernel
theorem dX5_couldOpen_76 : decode cX5_couldOpen 76 = .ok (.iload 5, 2) := by decide +kernel
theorem dX5_couldOpen_78 : decode cX5_couldOpen 78 = .ok (.ifCond .eq 9, 3) := by decide +kernel
theorem dX5_couldOpen_81 : decode cX5_couldOpen 81 = .ok (.iload_n 1, 1) := by decide +kernel
theorem dX5_couldOpen_82 : decode cX5_couldOpen 82 = .ok (.iconst 1, 1) := by decide +kernel
theorem dX5_couldOpen_83 : decode cX5_couldOpen 83 = .ok (.iload_n 2, 1) := by decide +kernel
theorem dX5_couldOpen_84 : decode cX5_couldOpen 84 = .ok (.ishl, 1) := by decide +kernel
theorem dX5_couldOpen_85 : decode cX5_couldOpen 85 = .ok (.ior, 1) := by decide +kernel
theorem dX5_couldOpen_86 : decode cX5_couldOpen 86 = .ok (.istore_n 1, 1) := by decide +kernel
theorem dX5_couldOpen_87 : decode cX5_couldOpen 87 = .ok (.iinc 2 1, 3) := by decide +kernel
theorem dX5_couldOpen_90 : decode cX5_couldOpen 90 = .ok (.goto (-86), 3) := by decide +kernel
theorem dX5_couldOpen_93 : decode cX5_couldOpen 93 = .ok (.iload_n 1, 1) := by decide +kernel
theorem dX5_couldOpen_94 : decode cX5_couldOpen 94 = .ok (.ireturn, 1) := by decide +kernel
theorem dX5_digest_0 : decode cX5_digest 0 = .ok (.ldc2_w 290, 3) := by decide +kernel
theorem dX5_digest_3 : decode cX5_digest 3 = .ok (.lstore_n 1, 1) := by decide +kernel
theorem dX5_digest_4 : decode cX5_digest 4 = .ok (.iconst 0, 1) := by decide +kernel
theorem dX5_digest_5 : decode cX5_digest 5 = .ok (.istore_n 3, 1) := by decide +kernel
theorem dX5_digest_6 : decode cX5_digest 6 = .ok (.iload_n 3, 1) := by decide +kernel
theorem dX5_digest_7 : decode cX5_digest 7 = .ok (.bipush 14, 2) := by decide +kernel
theorem dX5_digest_9 : decode cX5_digest 9 = .ok (.if_icmp .gt 22, 3) := by decide +kernel
theorem dX5_digest_12 : decode cX5_digest 12 = .ok (.lload_n 1, 1) := by decide +kernel
theorem dX5_digest_13 : decode cX5_digest 13 = .ok (.ldc2_w 292, 3) := by decide +kernel
theorem dX5_digest_16 : decode cX5_digest 16 = .ok (.lmul, 1) := by decide +kernel
theorem dX5_digest_17 : decode cX5_digest 17 = .ok (.aload_n 0, 1) := by decide +kernel
theorem dX5_digest_18 : decode cX5_digest 18 = .ok (.iload_n 3, 1) := by decide +kernel
theorem dX5_digest_19 : decode cX5_digest 19 = .ok (.invokevirtual 294, 3) := by decide +kernel
theorem dX5_digest_22 : decode cX5_digest 22 = .ok (.i2l, 1) := by decide +kernel
theorem dX5_digest_23 : decode cX5_digest 23 = .ok (.ladd, 1) := by decide +kernel
theorem dX5_digest_24 : decode cX5_digest 24 = .ok (.lstore_n 1, 1) := by decide +kernel
theorem dX5_digest_25 : decode cX5_digest 25 = .ok (.iinc 3 1, 3) := by decide +kernel
theorem dX5_digest_28 : decode cX5_digest 28 = .ok (.goto (-22), 3) := by decide +kernel
theorem dX5_digest_31 : decode cX5_digest 31 = .ok (.iconst 0, 1) := by decide +kernel
theorem dX5_digest_32 : decode cX5_digest 32 = .ok (.istore_n 3, 1) := by decide +kernel
theorem dX5_digest_33 : decode cX5_digest 33 = .ok (.iload_n 3, 1) := by decide +kernel
theorem dX5_digest_34 : decode cX5_digest 34 = .ok (.aload_n 0, 1) := by decide +kernel
theorem dX5_digest_35 : decode cX5_digest 35 = .ok (.getfield 10, 3) := by decide +kernel
theorem dX5_digest_38 : decode cX5_digest 38 = .ok (.getfield 60, 3) := by decide +kernel
theorem dX5_digest_41 : decode cX5_digest 41 = .ok (.if_icmp .ge 84, 3) := by decide +kernel
end
section
theorem dX5_digest_44 : decode cX5_digest 44 = .ok (.iconst 0, 1) := by decide +kernel
theorem dX5_digest_45 : decode cX5_digest 45 = .ok (.istore 4, 2) := by decide +kernel
theorem dX5_digest_47 : decode cX5_digest 47 = .ok (.iload 4, 2) := by decide +kernel
theorem dX5_digest_49 : decode cX5_digest 49 = .ok (.bipush 13, 2) := by decide +kernel
theorem dX5_digest_51 : decode cX5_digest 51 = .ok (.if_icmp .gt 24, 3) := by decide +kernel
theorem dX5_digest_54 : decode cX5_digest 54 = .ok (.lload_n 1, 1) := by decide +kernel
theorem dX5_digest_55 : decode cX5_digest 55 = .ok (.ldc2_w 292, 3) := by decide +kernel
theorem dX5_digest_58 : decode cX5_digest 58 = .ok (.lmul, 1) := by decide +kernel
theorem dX5_digest_59 : decode cX5_digest 59 = .ok (.aload_n 0, 1) := by decide +kernel
theorem dX5_digest_60 : decode cX5_digest 60 = .ok (.iload_n 3, 1) := by decide +kernel
theorem dX5_digest_61 : decode cX5_digest 61 = .ok (.iload 4, 2) := by decide +kernel
theorem dX5_digest_63 : decode cX5_digest 63 = .ok (.invokevirtual 297, 3) := by decide +kernel
theorem dX5_digest_66 : decode cX5_digest 66 = .ok (.i2l, 1) := by decide +kernel
theorem dX5_digest_67 : decode cX5_digest 67 = .ok (.ladd, 1) := by decide +kernel
theorem dX5_digest_68 : decode cX5_digest 68 = .ok (.lstore_n 1, 1) := by decide +kernel
theorem dX5_digest_69 : decode cX5_digest 69 = .ok (.iinc 4 1, 3) := by decide +kernel
theorem dX5_digest_72 : decode cX5_digest 72 = .ok (.goto (-25), 3) := by decide +kernel
theorem dX5_digest_75 : decode cX5_digest 75 = .ok (.aload_n 0, 1) := by decide +kernel
theorem dX5_digest_76 : decode cX5_digest 76 = .ok (.lload_n 1, 1) := by decide +kernel
theorem dX5_digest_77 : decode cX5_digest 77 = .ok (.iload_n 3, 1) := by decide +kernel
theorem dX5_digest_78 : decode cX5_digest 78 = .ok (.invokevirtual 300, 3) := by decide +kernel
theorem dX5_digest_81 : decode cX5_digest 81 = .ok (.lstore_n 1, 1) := by decide +kernel
theorem dX5_digest_82 : decode cX5_digest 82 = .ok (.lload_n 1, 1) := by decide +kernel
theorem dX5_digest_83 : decode cX5_digest 83 = .ok (.ldc2_w 292, 3) := by decide +kernel
theorem dX5_digest_86 : decode cX5_digest 86 = .ok (.lmul, 1) := by decide +kernel
theorem dX5_digest_87 : decode cX5_digest 87 = .ok (.aload_n 0, 1) := by decide +kernel
theorem dX5_digest_88 : decode cX5_digest 88 = .ok (.iload_n 3, 1) := by decide +kernel
theorem dX5_digest_89 : decode cX5_digest 89 = .ok (.bipush 12, 2) := by decide +kernel
theorem dX5_digest_91 : decode cX5_digest 91 = .ok (.bipush (-6), 2) := by decide +kernel
theorem dX5_digest_93 : decode cX5_digest 93 = .ok (.iconst 3, 1) := by decide +kernel
theorem dX5_digest_94 : decode cX5_digest 94 = .ok (.invokevirtual 304, 3) := by decide +kernel
theorem dX5_digest_97 : decode cX5_digest 97 = .ok (.i2l, 1) := by decide +kernel
theorem dX5_digest_98 : decode cX5_digest 98 = .ok (.ladd, 1) := by decide +kernel
theorem dX5_digest_99 : decode cX5_digest 99 = .ok (.lstore_n 1, 1) := by decide +kernel
theorem dX5_digest_100 : decode cX5_digest 100 = .ok (.lload_n 1, 1) := by decide +kernel
theorem dX5_digest_101 : decode cX5_digest 101 = .ok (.ldc2_w 292, 3) := by decide +kernel
theorem dX5_digest_104 : decode cX5_digest 104 = .ok (.lmul, 1) := by decide +kernel
theorem dX5_digest_105 : decode cX5_digest 105 = .ok (.aload_n 0, 1) := by decide +kernel
theorem dX5_digest_106 : decode cX5_digest 106 = .ok (.iload_n 3, 1) := by decide +kernel
theorem dX5_digest_107 : decode cX5_digest 107 = .ok (.bipush 9, 2) := by decide +kernel
theorem dX5_digest_109 : decode cX5_digest 109 = .ok (.bipush (-9), 2) := by decide +kernel
theorem dX5_digest_111 : decode cX5_digest 111 = .ok (.bipush 60, 2) := by decide +kernel
theorem dX5_digest_113 : decode cX5_digest 113 = .ok (.invokevirtual 308, 3) := by decide +kernel
theorem dX5_digest_116 : decode cX5_digest 116 = .ok (.i2l, 1) := by decide +kernel
theorem dX5_digest_117 : decode cX5_digest 117 = .ok (.ladd, 1) := by decide +kernel
theorem dX5_digest_118 : decode cX5_digest 118 = .ok (.lstore_n 1, 1) := by decide +kernel
theorem dX5_digest_119 : decode cX5_digest 119 = .ok (.iinc 3 1, 3) := by decide +kernel
theorem dX5_digest_122 : decode cX5_digest 122 = .ok (.goto (-89), 3) := by decide +kernel
theorem dX5_digest_125 : decode cX5_digest 125 = .ok (.iconst 0, 1) := by decide +kernel
theorem dX5_digest_126 : decode cX5_digest 126 = .ok (.istore_n 3, 1) := by decide +kernel
theorem dX5_digest_127 : decode cX5_digest 127 = .ok (.iload_n 3, 1) := by decide +kernel
theorem dX5_digest_128 : decode cX5_digest 128 = .ok (.aload_n 0, 1) := by decide +kernel
theorem dX5_digest_129 : decode cX5_digest 129 = .ok (.getfield 10, 3) := by decide +kernel
theorem dX5_digest_132 : decode cX5_digest 132 = .ok (.getfield 33, 3) := by decide +kernel
theorem dX5_digest_135 : decode cX5_digest 135 = .ok (.if_icmp .ge 39, 3) := by decide +kernel
theorem dX5_digest_138 : decode cX5_digest 138 = .ok (.iconst 0, 1) := by decide +kernel
theorem dX5_digest_139 : decode cX5_digest 139 = .ok (.istore 4, 2) := by decide +kernel
theorem dX5_digest_141 : decode cX5_digest 141 = .ok (.iload 4, 2) := by decide +kernel
theorem dX5_digest_143 : decode cX5_digest 143 = .ok (.iconst 5, 1) := by decide +kernel
theorem dX5_digest_144 : decode cX5_digest 144 = .ok (.if_icmp .gt 24, 3) := by decide +kernel
theorem dX5_digest_147 : decode cX5_digest 147 = .ok (.lload_n 1, 1) := by decide +kernel
theorem dX5_digest_148 : decode cX5_digest 148 = .ok (.ldc2_w 292, 3) := by decide +kernel
theorem dX5_digest_151 : decode cX5_digest 151 = .ok (.lmul, 1) := by decide +kernel
theorem dX5_digest_152 : decode cX5_digest 152 = .ok (.aload_n 0, 1) := by decide +kernel
theorem dX5_digest_153 : decode cX5_digest 153 = .ok (.iload_n 3, 1) := by decide +kernel
theorem dX5_digest_154 : decode cX5_digest 154 = .ok (.iload 4, 2) := by decide +kernel
theorem dX5_digest_156 : decode cX5_digest 156 = .ok (.invokevirtual 311, 3) := by decide +kernel
theorem dX5_digest_159 : decode cX5_digest 159 = .ok (.i2l, 1) := by decide +kernel
theorem dX5_digest_160 : decode cX5_digest 160 = .ok (.ladd, 1) := by decide +kernel
theorem dX5_digest_161 : decode cX5_digest 161 = .ok (.lstore_n 1, 1) := by decide +kernel
theorem dX5_digest_162 : decode cX5_digest 162 = .ok (.iinc 4 1, 3) := by decide +kernel
theorem dX5_digest_165 : decode cX5_digest 165 = .ok (.goto (-24), 3) := by decide +kernel
theorem dX5_digest_168 : decode cX5_digest 168 = .ok (.iinc 3 1, 3) := by decide +kernel
theorem dX5_digest_171 : decode cX5_digest 171 = .ok (.goto (-44), 3) := by decide +kernel
theorem dX5_digest_174 : decode cX5_digest 174 = .ok (.lload_n 1, 1) := by decide +kernel
theorem dX5_digest_175 : decode cX5_digest 175 = .ok (.ldc2_w 292, 3) := by decide +kernel
theorem dX5_digest_178 : decode cX5_digest 178 = .ok (.lmul, 1) := by decide +kernel
theorem dX5_digest_179 : decode cX5_digest 179 = .ok (.aload_n 0, 1) := by decide +kernel
theorem dX5_digest_180 : decode cX5_digest 180 = .ok (.invokevirtual 314, 3) := by decide +kernel
theorem dX5_digest_183 : decode cX5_digest 183 = .ok (.i2l, 1) := by decide +kernel
theorem dX5_digest_184 : decode cX5_digest 184 = .ok (.ladd, 1) := by decide +kernel
theorem dX5_digest_185 : decode cX5_digest 185 = .ok (.lstore_n 1, 1) := by decide +kernel
theorem dX5_digest_186 : decode cX5_digest 186 = .ok (.lload_n 1, 1) := by decide +kernel
theorem dX5_digest_187 : decode cX5_digest 187 = .ok (.ldc2_w 292, 3) := by decide +kernel
theorem dX5_digest_190 : decode cX5_digest 190 = .ok (.lmul, 1) := by decide +kernel
theorem dX5_digest_191 : decode cX5_digest 191 = .ok (.aload_n 0, 1) := by decide +kernel
theorem dX5_digest_192 : decode cX5_digest 192 = .ok (.invokevirtual 317, 3) := by decide +kernel
theorem dX5_digest_195 : decode cX5_digest 195 = .ok (.i2l, 1) := by decide +kernel
theorem dX5_digest_196 : decode cX5_digest 196 = .ok (.ladd, 1) := by decide +kernel
theorem dX5_digest_197 : decode cX5_digest 197 = .ok (.lreturn, 1) := by decide +kernel
theorem dX5_requireWithin_0 : decode cX5_requireWithin 0 = .ok (.iload_n 0, 1) := by decide +kernel
theorem dX5_requireWithin_1 : decode cX5_requireWithin 1 = .ok (.iload_n 1, 1) := by decide +kernel
theorem dX5_requireWithin_2 : decode cX5_requireWithin 2 = .ok (.if_icmp .lt 8, 3) := by decide +kernel
theorem dX5_requireWithin_5 : decode cX5_requireWithin 5 = .ok (.iload_n 0, 1) := by decide +kernel
theorem dX5_requireWithin_6 : decode cX5_requireWithin 6 = .ok (.iload_n 2, 1) := by decide +kernel
theorem dX5_requireWithin_7 : decode cX5_requireWithin 7 = .ok (.if_icmp .le 14, 3) := by decide +kernel
theorem dX5_requireWithin_10 : decode cX5_requireWithin 10 = .ok (.new 324, 3) := by decide +kernel
theorem dX5_requireWithin_13 : decode cX5_requireWithin 13 = .ok (.dup, 1) := by decide +kernel
theorem dX5_requireWithin_14 : decode cX5_requireWithin 14 = .ok (.ldc_w 326, 3) := by decide +kernel
theorem dX5_requireWithin_17 : decode cX5_requireWithin 17 = .ok (.invokespecial 328, 3) := by decide +kernel
theorem dX5_requireWithin_20 : decode cX5_requireWithin 20 = .ok (.athrow, 1) := by decide +kernel
theorem dX5_requireWithin_21 : decode cX5_requireWithin 21 = .ok (.return_, 1) := by decide +kernel
theorem dX5_requireLift_0 : decode cX5_requireLift 0 = .ok (.iload_n 1, 1) := by decide +kernel
theorem dX5_requireLift_1 : decode cX5_requireLift 1 = .ok (.ifCond .lt 14, 3) := by decide +kernel
theorem dX5_requireLift_4 : decode cX5_requireLift 4 = .ok (.iload_n 1, 1) := by decide +kernel
theorem dX5_requireLift_5 : decode cX5_requireLift 5 = .ok (.aload_n 0, 1) := by decide +kernel
theorem dX5_requireLift_6 : decode cX5_requireLift 6 = .ok (.getfield 10, 3) := by decide +kernel
theorem dX5_requireLift_9 : decode cX5_requireLift 9 = .ok (.getfield 33, 3) := by decide +kernel
theorem dX5_requireLift_12 : decode cX5_requireLift 12 = .ok (.if_icmp .lt 14, 3) := by decide +kernel
theorem dX5_requireLift_15 : decode cX5_requireLift 15 = .ok (.new 226, 3) := by decide +kernel
theorem dX5_requireLift_18 : decode cX5_requireLift 18 = .ok (.dup, 1) := by decide +kernel
theorem dX5_requireLift_19 : decode cX5_requireLift 19 = .ok (.ldc_w 329, 3) := by decide +kernel
theorem dX5_requireLift_22 : decode cX5_requireLift 22 = .ok (.invokespecial 230, 3) := by decide +kernel
theorem dX5_requireLift_25 : decode cX5_requireLift 25 = .ok (.athrow, 1) := by decide +kernel
theorem dX5_requireLift_26 : decode cX5_requireLift 26 = .ok (.return_, 1) := by decide +kernel
theorem dX5_requireRun_0 : decode cX5_requireRun 0 = .ok (.iload_n 1, 1) := by decide +kernel
theorem dX5_requireRun_1 : decode cX5_requireRun 1 = .ok (.ifCond .lt 14, 3) := by decide +kernel
theorem dX5_requireRun_4 : decode cX5_requireRun 4 = .ok (.iload_n 1, 1) := by decide +kernel
theorem dX5_requireRun_5 : decode cX5_requireRun 5 = .ok (.aload_n 0, 1) := by decide +kernel
theorem dX5_requireRun_6 : decode cX5_requireRun 6 = .ok (.getfield 10, 3) := by decide +kernel
theorem dX5_requireRun_9 : decode cX5_requireRun 9 = .ok (.getfield 60, 3) := by decide +kernel
theorem dX5_requireRun_12 : decode cX5_requireRun 12 = .ok (.if_icmp .lt 14, 3) := by decide +kernel
theorem dX5_requireRun_15 : decode cX5_requireRun 15 = .ok (.new 226, 3) := by decide +kernel
theorem dX5_requireRun_18 : decode cX5_requireRun 18 = .ok (.dup, 1) := by decide +kernel
theorem dX5_requireRun_19 : decode cX5_requireRun 19 = .ok (.ldc_w 331, 3) := by decide +kernel
theorem dX5_requireRun_22 : decode cX5_requireRun 22 = .ok (.invokespecial 230, 3) := by decide +kernel
theorem dX5_requireRun_25 : decode cX5_requireRun 25 = .ok (.athrow, 1) := by decide +kernel
theorem dX5_requireRun_26 : decode cX5_requireRun 26 = .ok (.return_, 1) := by decide +kernel
theorem dX5_requireClosed_0 : decode cX5_requireClosed 0 = .ok (.aload_n 0, 1) := by decide +kernel
theorem dX5_requireClosed_1 : decode cX5_requireClosed 1 = .ok (.iload_n 1, 1) := by decide +kernel
theorem dX5_requireClosed_2 : decode cX5_requireClosed 2 = .ok (.invokevirtual 98, 3) := by decide +kernel
theorem dX5_requireClosed_5 : decode cX5_requireClosed 5 = .ok (.aload_n 0, 1) := by decide +kernel
theorem dX5_requireClosed_6 : decode cX5_requireClosed 6 = .ok (.getfield 10, 3) := by decide +kernel
theorem dX5_requireClosed_9 : decode cX5_requireClosed 9 = .ok (.getfield 65, 3) := by decide +kernel
theorem dX5_requireClosed_12 : decode cX5_requireClosed 12 = .ok (.iload_n 1, 1) := by decide +kernel
theorem dX5_requireClosed_13 : decode cX5_requireClosed 13 = .ok (.aaload, 1) := by decide +kernel
theorem dX5_requireClosed_14 : decode cX5_requireClosed 14 = .ok (.getfield 194, 3) := by decide +kernel
theorem dX5_requireClosed_17 : decode cX5_requireClosed 17 = .ok (.ifCond .eq 14, 3) := by decide +kernel
theorem dX5_requireClosed_20 : decode cX5_requireClosed 20 = .ok (.new 37, 3) := by decide +kernel
theorem dX5_requireClosed_23 : decode cX5_requireClosed 23 = .ok (.dup, 1) := by decide +kernel
theorem dX5_requireClosed_24 : decode cX5_requireClosed 24 = .ok (.ldc_w 333, 3) := by decide +kernel
theorem dX5_requireClosed_27 : decode cX5_requireClosed 27 = .ok (.invokespecial 41, 3) := by decide +kernel
theorem dX5_requireClosed_30 : decode cX5_requireClosed 30 = .ok (.athrow, 1) := by decide +kernel
theorem dX5_requireClosed_31 : decode cX5_requireClosed 31 = .ok (.return_, 1) := by decide +kernel
theorem dX6_init_0 : decode cX6_init 0 = .ok (.aload_n 0, 1) := by decide +kernel
theorem dX6_init_1 : decode cX6_init 1 = .ok (.invokespecial 3, 3) := by decide +kernel
theorem dX6_init_4 : decode cX6_init 4 = .ok (.aload_n 0, 1) := by decide +kernel
theorem dX6_init_5 : decode cX6_init 5 = .ok (.new 9, 3) := by decide +kernel
theorem dX6_init_8 : decode cX6_init 8 = .ok (.dup, 1) := by decide +kernel
theorem dX6_init_9 : decode cX6_init 9 = .ok (.invokespecial 11, 3) := by decide +kernel
theorem dX6_init_12 : decode cX6_init 12 = .ok (.putfield 12, 3) := by decide +kernel
theorem dX6_init_15 : decode cX6_init 15 = .ok (.aload_n 0, 1) := by decide +kernel
theorem dX6_init_16 : decode cX6_init 16 = .ok (.new 9, 3) := by decide +kernel
theorem dX6_init_19 : decode cX6_init 19 = .ok (.dup, 1) := by decide +kernel
theorem dX6_init_20 : decode cX6_init 20 = .ok (.invokespecial 11, 3) := by decide +kernel
theorem dX6_init_23 : decode cX6_init 23 = .ok (.putfield 18, 3) := by decide +kernel
theorem dX6_init_26 : decode cX6_init 26 = .ok (.aload_n 0, 1) := by decide +kernel
theorem dX6_init_27 : decode cX6_init 27 = .ok (.sipush 500, 3) := by decide +kernel
theorem dX6_init_30 : decode cX6_init 30 = .ok (.putfield 21, 3) := by decide +kernel
theorem dX6_init_33 : decode cX6_init 33 = .ok (.aload_n 0, 1) := by decide +kernel
theorem dX6_init_34 : decode cX6_init 34 = .ok (.iconst (-1), 1) := by decide +kernel
theorem dX6_init_35 : decode cX6_init 35 = .ok (.putfield 25, 3) := by decide +kernel
theorem dX6_init_38 : decode cX6_init 38 = .ok (.return_, 1) := by decide +kernel
theorem dX6_pass_0 : decode cX6_pass 0 = .ok (.aload_n 0, 1) := by decide +kernel
theorem dX6_pass_1 : decode cX6_pass 1 = .ok (.getfield 69, 3) := by decide +kernel
theorem dX6_pass_4 : decode cX6_pass 4 = .ok (.istore 6, 2) := by decide +kernel
theorem dX6_pass_6 : decode cX6_pass 6 = .ok (.aload_n 0, 1) := by decide +kernel
theorem dX6_pass_7 : decode cX6_pass 7 = .ok (.dup, 1) := by decide +kernel
theorem dX6_pass_8 : decode cX6_pass 8 = .ok (.getfield 52, 3) := by decide +kernel
theorem dX6_pass_11 : decode cX6_pass 11 = .ok (.iconst 1, 1) := by decide +kernel
theorem dX6_pass_12 : decode cX6_pass 12 = .ok (.iadd, 1) := by decide +kernel
theorem dX6_pass_13 : decode cX6_pass 13 = .ok (.putfield 52, 3) := by decide +kernel
theorem dX6_pass_16 : decode cX6_pass 16 = .ok (.iconst 0, 1) := by decide +kernel
theorem dX6_pass_17 : decode cX6_pass 17 = .ok (.istore 7, 2) := by decide +kernel
theorem dX6_pass_19 : decode cX6_pass 19 = .ok (.iload 7, 2) := by decide +kernel
theorem dX6_pass_21 : decode cX6_pass 21 = .ok (.aload_n 0, 1) := by decide +kernel
theorem dX6_pass_22 : decode cX6_pass 22 = .ok (.getfield 18, 3) := by decide +kernel
theorem dX6_pass_25 : decode cX6_pass 25 = .ok (.invokevirtual 75, 3) := by decide +kernel
theorem dX6_pass_28 : decode cX6_pass 28 = .ok (.if_icmp .ge 22, 3) := by decide +kernel
theorem dX6_pass_31 : decode cX6_pass 31 = .ok (.aload_n 0, 1) := by decide +kernel
theorem dX6_pass_32 : decode cX6_pass 32 = .ok (.iload 7, 2) := by decide +kernel
theorem dX6_pass_34 : decode cX6_pass 34 = .ok (.iload_n 1, 1) := by decide +kernel
theorem dX6_pass_35 : decode cX6_pass 35 = .ok (.iload_n 2, 1) := by decide +kernel
theorem dX6_pass_36 : decode cX6_pass 36 = .ok (.iload_n 3, 1) := by decide +kernel
theorem dX6_pass_37 : decode cX6_pass 37 = .ok (.iload 4, 2) := by decide +kernel
theorem dX6_pass_39 : decode cX6_pass 39 = .ok (.iload 5, 2) := by decide +kernel
theorem dX6_pass_41 : decode cX6_pass 41 = .ok (.invokevirtual 78, 3) := by decide +kernel
theorem dX6_pass_44 : decode cX6_pass 44 = .ok (.iinc 7 1, 3) := by decide +kernel
theorem dX6_pass_47 : decode cX6_pass 47 = .ok (.goto (-28), 3) := by decide +kernel
theorem dX6_pass_50 : decode cX6_pass 50 = .ok (.aload_n 0, 1) := by decide +kernel
theorem dX6_pass_51 : decode cX6_pass 51 = .ok (.getfield 12, 3) := by decide +kernel
theorem dX6_pass_54 : decode cX6_pass 54 = .ok (.invokevirtual 29, 3) := by decide +kernel
theorem dX6_pass_57 : decode cX6_pass 57 = .ok (.astore 7, 2) := by decide +kernel
theorem dX6_pass_59 : decode cX6_pass 59 = .ok (.aload 7, 2) := by decide +kernel
theorem dX6_pass_61 : decode cX6_pass 61 = .ok (.invokeinterface 33 1, 5) := by decide +kernel
theorem dX6_pass_66 : decode cX6_pass 66 = .ok (.ifCond .eq 31, 3) := by decide +kernel
theorem dX6_pass_69 : decode cX6_pass 69 = .ok (.aload 7, 2) := by decide +kernel
theorem dX6_pass_71 : decode cX6_pass 71 = .ok (.invokeinterface 39 1, 5) := by decide +kernel
theorem dX6_pass_76 : decode cX6_pass 76 = .ok (.checkcast 43, 3) := by decide +kernel
theorem dX6_pass_79 : decode cX6_pass 79 = .ok (.astore 8, 2) := by decide +kernel
theorem dX6_pass_81 : decode cX6_pass 81 = .ok (.iload_n 3, 1) := by decide +kernel
theorem dX6_pass_82 : decode cX6_pass 82 = .ok (.aload 8, 2) := by decide +kernel
theorem dX6_pass_84 : decode cX6_pass 84 = .ok (.iconst 1, 1) := by decide +kernel
theorem dX6_pass_85 : decode cX6_pass 85 = .ok (.iaload, 1) := by decide +kernel
theorem dX6_pass_86 : decode cX6_pass 86 = .ok (.if_icmp .le 8, 3) := by decide +kernel
theorem dX6_pass_89 : decode cX6_pass 89 = .ok (.aload 8, 2) := by decide +kernel
theorem dX6_pass_91 : decode cX6_pass 91 = .ok (.iconst 3, 1) := by decide +kernel
theorem dX6_pass_92 : decode cX6_pass 92 = .ok (.iconst 1, 1) := by decide +kernel
theorem dX6_pass_93 : decode cX6_pass 93 = .ok (.iastore, 1) := by decide +kernel
theorem dX6_pass_94 : decode cX6_pass 94 = .ok (.goto (-35), 3) := by decide +kernel
theorem dX6_pass_97 : decode cX6_pass 97 = .ok (.aload_n 0, 1) := by decide +kernel
theorem dX6_pass_98 : decode cX6_pass 98 = .ok (.getfield 52, 3) := by decide +kernel
theorem dX6_pass_101 : decode cX6_pass 101 = .ok (.bipush 24, 2) := by decide +kernel
theorem dX6_pass_103 : decode cX6_pass 103 = .ok (.irem, 1) := by decide +kernel
theorem dX6_pass_104 : decode cX6_pass 104 = .ok (.bipush 9, 2) := by decide +kernel
theorem dX6_pass_106 : decode cX6_pass 106 = .ok (.bipush 16, 2) := by decide +kernel
theorem dX6_pass_108 : decode cX6_pass 108 = .ok (.invokestatic 82, 3) := by decide +kernel
theorem dX6_pass_111 : decode cX6_pass 111 = .ok (.ifCond .eq 7, 3) := by decide +kernel
theorem dX6_pass_114 : decode cX6_pass 114 = .ok (.aload_n 0, 1) := by decide +kernel
theorem dX6_pass_115 : decode cX6_pass 115 = .ok (.invokevirtual 86, 3) := by decide +kernel
theorem dX6_pass_118 : decode cX6_pass 118 = .ok (.aload_n 0, 1) := by decide +kernel
theorem dX6_pass_119 : decode cX6_pass 119 = .ok (.getfield 69, 3) := by decide +kernel
theorem dX6_pass_122 : decode cX6_pass 122 = .ok (.iload 6, 2) := by decide +kernel
theorem dX6_pass_124 : decode cX6_pass 124 = .ok (.isub, 1) := by decide +kernel
theorem dX6_pass_125 : decode cX6_pass 125 = .ok (.ireturn, 1) := by decide +kernel
theorem dX6_ride_0 : decode cX6_ride 0 = .ok (.aload_n 0, 1) := by decide +kernel
theorem dX6_ride_1 : decode cX6_ride 1 = .ok (.getfield 55, 3) := by decide +kernel
theorem dX6_ride_4 : decode cX6_ride 4 = .ok (.istore_n 1, 1) := by decide +kernel
theorem dX6_ride_5 : decode cX6_ride 5 = .ok (.iconst 0, 1) := by decide +kernel
theorem dX6_ride_6 : decode cX6_ride 6 = .ok (.istore_n 2, 1) := by decide +kernel
theorem dX6_ride_7 : decode cX6_ride 7 = .ok (.iload_n 2, 1) := by decide +kernel
theorem dX6_ride_8 : decode cX6_ride 8 = .ok (.aload_n 0, 1) := by decide +kernel
theorem dX6_ride_9 : decode cX6_ride 9 = .ok (.getfield 12, 3) := by decide +kernel
theorem dX6_ride_12 : decode cX6_ride 12 = .ok (.invokevirtual 75, 3) := by decide +kernel
theorem dX6_ride_15 : decode cX6_ride 15 = .ok (.if_icmp .ge 147, 3) := by decide +kernel
theorem dX6_ride_18 : decode cX6_ride 18 = .ok (.aload_n 0, 1) := by decide +kernel
theorem dX6_ride_19 : decode cX6_ride 19 = .ok (.getfield 12, 3) := by decide +kernel
theorem dX6_ride_22 : decode cX6_ride 22 = .ok (.iload_n 2, 1) := by decide +kernel
theorem dX6_ride_23 : decode cX6_ride 23 = .ok (.invokevirtual 89, 3) := by decide +kernel
theorem dX6_ride_26 : decode cX6_ride 26 = .ok (.checkcast 43, 3) := by decide +kernel
theorem dX6_ride_29 : decode cX6_ride 29 = .ok (.astore_n 3, 1) := by decide +kernel
theorem dX6_ride_30 : decode cX6_ride 30 = .ok (.aload_n 0, 1) := by decide +kernel
theorem dX6_ride_31 : decode cX6_ride 31 = .ok (.iload_n 2, 1) := by decide +kernel
theorem dX6_ride_32 : decode cX6_ride 32 = .ok (.invokevirtual 155, 3) := by decide +kernel
theorem dX6_ride_35 : decode cX6_ride 35 = .ok (.istore 4, 2) := by decide +kernel
theorem dX6_ride_37 : decode cX6_ride 37 = .ok (.aload_n 3, 1) := by decide +kernel
theorem dX6_ride_38 : decode cX6_ride 38 = .ok (.iconst 2, 1) := by decide +kernel
theorem dX6_ride_39 : decode cX6_ride 39 = .ok (.iaload, 1) := by decide +kernel
theorem dX6_ride_40 : decode cX6_ride 40 = .ok (.ifCond .eq 116, 3) := by decide +kernel
theorem dX6_ride_43 : decode cX6_ride 43 = .ok (.aload_n 3, 1) := by decide +kernel
theorem dX6_ride_44 : decode cX6_ride 44 = .ok (.iconst 3, 1) := by decide +kernel
theorem dX6_ride_45 : decode cX6_ride 45 = .ok (.iaload, 1) := by decide +kernel
theorem dX6_ride_46 : decode cX6_ride 46 = .ok (.iconst 1, 1) := by decide +kernel
theorem dX6_ride_47 : decode cX6_ride 47 = .ok (.if_icmp .eq 109, 3) := by decide +kernel
theorem dX6_ride_50 : decode cX6_ride 50 = .ok (.iload 4, 2) := by decide +kernel
theorem dX6_ride_52 : decode cX6_ride 52 = .ok (.ifCond .ne 6, 3) := by decide +kernel
theorem dX6_ride_55 : decode cX6_ride 55 = .ok (.goto 101, 3) := by decide +kernel
theorem dX6_ride_58 : decode cX6_ride 58 = .ok (.aload_n 3, 1) := by decide +kernel
theorem dX6_ride_59 : decode cX6_ride 59 = .ok (.iconst 0, 1) := by decide +kernel
theorem dX6_ride_60 : decode cX6_ride 60 = .ok (.iaload, 1) := by decide +kernel
theorem dX6_ride_61 : decode cX6_ride 61 = .ok (.iload_n 1, 1) := by decide +kernel
theorem dX6_ride_62 : decode cX6_ride 62 = .ok (.invokestatic 124, 3) := by decide +kernel
theorem dX6_ride_65 : decode cX6_ride 65 = .ok (.istore 5, 2) := by decide +kernel
theorem dX6_ride_67 : decode cX6_ride 67 = .ok (.iload_n 1, 1) := by decide +kernel
theorem dX6_ride_68 : decode cX6_ride 68 = .ok (.iload 5, 2) := by decide +kernel
theorem dX6_ride_70 : decode cX6_ride 70 = .ok (.isub, 1) := by decide +kernel
theorem dX6_ride_71 : decode cX6_ride 71 = .ok (.istore_n 1, 1) := by decide +kernel
theorem dX6_ride_72 : decode cX6_ride 72 = .ok (.aload_n 3, 1) := by decide +kernel
theorem dX6_ride_73 : decode cX6_ride 73 = .ok (.iconst 4, 1) := by decide +kernel
theorem dX6_ride_74 : decode cX6_ride 74 = .ok (.dup2, 1) := by decide +kernel
theorem dX6_ride_75 : decode cX6_ride 75 = .ok (.iaload, 1) := by decide +kernel
theorem dX6_ride_76 : decode cX6_ride 76 = .ok (.iload 5, 2) := by decide +kernel
theorem dX6_ride_78 : decode cX6_ride 78 = .ok (.iadd, 1) := by decide +kernel
theorem dX6_ride_79 : decode cX6_ride 79 = .ok (.iastore, 1) := by decide +kernel
theorem dX6_ride_80 : decode cX6_ride 80 = .ok (.iload 5, 2) := by decide +kernel
theorem dX6_ride_82 : decode cX6_ride 82 = .ok (.iload 4, 2) := by decide +kernel
theorem dX6_ride_84 : decode cX6_ride 84 = .ok (.irem, 1) := by decide +kernel
theorem dX6_ride_85 : decode cX6_ride 85 = .ok (.istore 6, 2) := by decide +kernel
theorem dX6_ride_87 : decode cX6_ride 87 = .ok (.aload_n 0, 1) := by decide +kernel
theorem dX6_ride_88 : decode cX6_ride 88 = .ok (.getfield 18, 3) := by decide +kernel
theorem dX6_ride_91 : decode cX6_ride 91 = .ok (.invokevirtual 29, 3) := by decide +kernel
theorem dX6_ride_94 : decode cX6_ride 94 = .ok (.astore 7, 2) := by decide +kernel
theorem dX6_ride_96 : decode cX6_ride 96 = .ok (.aload 7, 2) := by decide +kernel
theorem dX6_ride_98 : decode cX6_ride 98 = .ok (.invokeinterface 33 1, 5) := by decide +kernel
theorem dX6_ride_103 : decode cX6_ride 103 = .ok (.ifCond .eq 53, 3) := by decide +kernel
theorem dX6_ride_106 : decode cX6_ride 106 = .ok (.aload 7, 2) := by decide +kernel
theorem dX6_ride_108 : decode cX6_ride 108 = .ok (.invokeinterface 39 1, 5) := by decide +kernel
theorem dX6_ride_113 : decode cX6_ride 113 = .ok (.checkcast 43, 3) := by decide +kernel
theorem dX6_ride_116 : decode cX6_ride 116 = .ok (.astore 8, 2) := by decide +kernel
theorem dX6_ride_118 : decode cX6_ride 118 = .ok (.aload 8, 2) := by decide +kernel
theorem dX6_ride_120 : decode cX6_ride 120 = .ok (.iconst 0, 1) := by decide +kernel
theorem dX6_ride_121 : decode cX6_ride 121 = .ok (.iaload, 1) := by decide +kernel
theorem dX6_ride_122 : decode cX6_ride 122 = .ok (.iload_n 2, 1) := by decide +kernel
theorem dX6_ride_123 : decode cX6_ride 123 = .ok (.if_icmp .ne (-27), 3) := by decide +kernel
theorem dX6_ride_126 : decode cX6_ride 126 = .ok (.aload 8, 2) := by decide +kernel
theorem dX6_ride_128 : decode cX6_ride 128 = .ok (.iconst 5, 1) := by decide +kernel
theorem dX6_ride_129 : decode cX6_ride 129 = .ok (.iaload, 1) := by decide +kernel
theorem dX6_ride_130 : decode cX6_ride 130 = .ok (.ifCond .ne 6, 3) := by decide +kernel
theorem dX6_ride_133 : decode cX6_ride 133 = .ok (.goto (-37), 3) := by decide +kernel
theorem dX6_ride_136 : decode cX6_ride 136 = .ok (.aload_n 0, 1) := by decide +kernel
theorem dX6_ride_137 : decode cX6_ride 137 = .ok (.aload 8, 2) := by decide +kernel
theorem dX6_ride_139 : decode cX6_ride 139 = .ok (.iload 5, 2) := by decide +kernel
theorem dX6_ride_141 : decode cX6_ride 141 = .ok (.iload 4, 2) := by decide +kernel
theorem dX6_ride_143 : decode cX6_ride 143 = .ok (.idiv, 1) := by decide +kernel
theorem dX6_ride_144 : decode cX6_ride 144 = .ok (.iload 6, 2) := by decide +kernel
theorem dX6_ride_146 : decode cX6_ride 146 = .ok (.iadd, 1) := by decide +kernel
theorem dX6_ride_147 : decode cX6_ride 147 = .ok (.invokevirtual 159, 3) := by decide +kernel
theorem dX6_ride_150 : decode cX6_ride 150 = .ok (.iconst 0, 1) := by decide +kernel
theorem dX6_ride_151 : decode cX6_ride 151 = .ok (.istore 6, 2) := by decide +kernel
theorem dX6_ride_153 : decode cX6_ride 153 = .ok (.goto (-57), 3) := by decide +kernel
theorem dX6_ride_156 : decode cX6_ride 156 = .ok (.iinc 2 1, 3) := by decide +kernel
theorem dX6_ride_159 : decode cX6_ride 159 = .ok (.goto (-152), 3) := by decide +kernel
theorem dX6_ride_162 : decode cX6_ride 162 = .ok (.aload_n 0, 1) := by decide +kernel
theorem dX6_ride_163 : decode cX6_ride 163 = .ok (.dup, 1) := by decide +kernel
theorem dX6_ride_164 : decode cX6_ride 164 = .ok (.getfield 162, 3) := by decide +kernel
theorem dX6_ride_167 : decode cX6_ride 167 = .ok (.iload_n 1, 1) := by decide +kernel
theorem dX6_ride_168 : decode cX6_ride 168 = .ok (.iadd, 1) := by decide +kernel
theorem dX6_ride_169 : decode cX6_ride 169 = .ok (.putfield 162, 3) := by decide +kernel
theorem dX6_ride_172 : decode cX6_ride 172 = .ok (.return_, 1) := by decide +kernel
theorem dX7_init_0 : decode cX7_init 0 = .ok (.aload_n 0, 1) := by decide +kernel
theorem dX7_init_1 : decode cX7_init 1 = .ok (.invokespecial 3, 3) := by decide +kernel
theorem dX7_init_4 : decode cX7_init 4 = .ok (.aload_n 0, 1) := by decide +kernel
theorem dX7_init_5 : decode cX7_init 5 = .ok (.new 9, 3) := by decide +kernel
theorem dX7_init_8 : decode cX7_init 8 = .ok (.dup, 1) := by decide +kernel
theorem dX7_init_9 : decode cX7_init 9 = .ok (.invokespecial 11, 3) := by decide +kernel
theorem dX7_init_12 : decode cX7_init 12 = .ok (.putfield 12, 3) := by decide +kernel
theorem dX7_init_15 : decode cX7_init 15 = .ok (.aload_n 0, 1) := by decide +kernel
theorem dX7_init_16 : decode cX7_init 16 = .ok (.bipush 50, 2) := by decide +kernel
theorem dX7_init_18 : decode cX7_init 18 = .ok (.putfield 16, 3) := by decide +kernel
theorem dX7_init_21 : decode cX7_init 21 = .ok (.aload_n 0, 1) := by decide +kernel
theorem dX7_init_22 : decode cX7_init 22 = .ok (.bipush 100, 2) := by decide +kernel
theorem dX7_init_24 : decode cX7_init 24 = .ok (.putfield 20, 3) := by decide +kernel
theorem dX7_init_27 : decode cX7_init 27 = .ok (.return_, 1) := by decide +kernel
theorem dX7_thrown_0 : decode cX7_thrown 0 = .ok (.aload_n 0, 1) := by decide +kernel
theorem dX7_thrown_1 : decode cX7_thrown 1 = .ok (.getfield 23, 3) := by decide +kernel
theorem dX7_thrown_4 : decode cX7_thrown 4 = .ok (.ireturn, 1) := by decide +kernel
theorem dX7_refuse_0 : decode cX7_refuse 0 = .ok (.aload_n 0, 1) := by decide +kernel
theorem dX7_refuse_1 : decode cX7_refuse 1 = .ok (.iload_n 1, 1) := by decide +kernel
theorem dX7_refuse_2 : decode cX7_refuse 2 = .ok (.putfield 23, 3) := by decide +kernel
theorem dX7_refuse_5 : decode cX7_refuse 5 = .ok (.iconst 0, 1) := by decide +kernel
theorem dX7_refuse_6 : decode cX7_refuse 6 = .ok (.ireturn, 1) := by decide +kernel
theorem dX7_is_0 : decode cX7_is 0 = .ok (.iload_n 0, 1) := by decide +kernel
theorem dX7_is_1 : decode cX7_is 1 = .ok (.iload_n 1, 1) := by decide +kernel
theorem dX7_is_2 : decode cX7_is 2 = .ok (.if_icmp .lt 12, 3) := by decide +kernel
theorem dX7_is_5 : decode cX7_is 5 = .ok (.iload_n 0, 1) := by decide +kernel
theorem dX7_is_6 : decode cX7_is 6 = .ok (.iload_n 2, 1) := by decide +kernel
theorem dX7_is_7 : decode cX7_is 7 = .ok (.if_icmp .gt 7, 3) := by decide +kernel
theorem dX7_is_10 : decode cX7_is 10 = .ok (.iconst 1, 1) := by decide +kernel
theorem dX7_is_11 : decode cX7_is 11 = .ok (.goto 4, 3) := by decide +kernel
theorem dX7_is_14 : decode cX7_is 14 = .ok (.iconst 0, 1) := by decide +kernel
theorem dX7_is_15 : decode cX7_is 15 = .ok (.ireturn, 1) := by decide +kernel
theorem dX7_isLift_0 : decode cX7_isLift 0 = .ok (.iload_n 1, 1) := by decide +kernel
theorem dX7_isLift_1 : decode cX7_isLift 1 = .ok (.iconst 0, 1) := by decide +kernel
theorem dX7_isLift_2 : decode cX7_isLift 2 = .ok (.aload_n 0, 1) := by decide +kernel
theorem dX7_isLift_3 : decode cX7_isLift 3 = .ok (.getfield 12, 3) := by decide +kernel
theorem dX7_isLift_6 : decode cX7_isLift 6 = .ok (.getfield 68, 3) := by decide +kernel
theorem dX7_isLift_9 : decode cX7_isLift 9 = .ok (.invokevirtual 72, 3) := by decide +kernel
theorem dX7_isLift_12 : decode cX7_isLift 12 = .ok (.iconst 1, 1) := by decide +kernel
theorem dX7_isLift_13 : decode cX7_isLift 13 = .ok (.isub, 1) := by decide +kernel
theorem dX7_isLift_14 : decode cX7_isLift 14 = .ok (.invokestatic 78, 3) := by decide +kernel
theorem dX7_isLift_17 : decode cX7_isLift 17 = .ok (.ireturn, 1) := by decide +kernel
theorem dX7_isRun_0 : decode cX7_isRun 0 = .ok (.iload_n 1, 1) := by decide +kernel
theorem dX7_isRun_1 : decode cX7_isRun 1 = .ok (.iconst 0, 1) := by decide +kernel
theorem dX7_isRun_2 : decode cX7_isRun 2 = .ok (.aload_n 0, 1) := by decide +kernel
theorem dX7_isRun_3 : decode cX7_isRun 3 = .ok (.getfield 12, 3) := by decide +kernel
theorem dX7_isRun_6 : decode cX7_isRun 6 = .ok (.getfield 82, 3) := by decide +kernel
theorem dX7_isRun_9 : decode cX7_isRun 9 = .ok (.invokevirtual 72, 3) := by decide +kernel
theorem dX7_isRun_12 : decode cX7_isRun 12 = .ok (.iconst 1, 1) := by decide +kernel
theorem dX7_isRun_13 : decode cX7_isRun 13 = .ok (.isub, 1) := by decide +kernel
theorem dX7_isRun_14 : decode cX7_isRun 14 = .ok (.invokestatic 78, 3) := by decide +kernel
theorem dX7_isRun_17 : decode cX7_isRun 17 = .ok (.ireturn, 1) := by decide +kernel
theorem dX7_lift_0 : decode cX7_lift 0 = .ok (.aload_n 0, 1) := by decide +kernel
theorem dX7_lift_1 : decode cX7_lift 1 = .ok (.iconst 0, 1) := by decide +kernel
theorem dX7_lift_2 : decode cX7_lift 2 = .ok (.putfield 23, 3) := by decide +kernel
theorem dX7_lift_5 : decode cX7_lift 5 = .ok (.iload_n 1, 1) := by decide +kernel
theorem dX7_lift_6 : decode cX7_lift 6 = .ok (.bipush 10, 2) := by decide +kernel
theorem dX7_lift_8 : decode cX7_lift 8 = .ok (.sipush 999, 3) := by decide +kernel
theorem dX7_lift_11 : decode cX7_lift 11 = .ok (.invokestatic 78, 3) := by decide +kernel
theorem dX7_lift_14 : decode cX7_lift 14 = .ok (.ifCond .eq 13, 3) := by decide +kernel
theorem dX7_lift_17 : decode cX7_lift 17 = .ok (.iload_n 2, 1) := by decide +kernel
theorem dX7_lift_18 : decode cX7_lift 18 = .ok (.iconst 3, 1) := by decide +kernel
theorem dX7_lift_19 : decode cX7_lift 19 = .ok (.bipush 9, 2) := by decide +kernel
theorem dX7_lift_21 : decode cX7_lift 21 = .ok (.invokestatic 78, 3) := by decide +kernel
theorem dX7_lift_24 : decode cX7_lift 24 = .ok (.ifCond .ne 9, 3) := by decide +kernel
theorem dX7_lift_27 : decode cX7_lift 27 = .ok (.aload_n 0, 1) := by decide +kernel
theorem dX7_lift_28 : decode cX7_lift 28 = .ok (.iconst 1, 1) := by decide +kernel
theorem dX7_lift_29 : decode cX7_lift 29 = .ok (.invokevirtual 95, 3) := by decide +kernel
theorem dX7_lift_32 : decode cX7_lift 32 = .ok (.ireturn, 1) := by decide +kernel
theorem dX7_lift_33 : decode cX7_lift 33 = .ok (.aload_n 0, 1) := by decide +kernel
theorem dX7_lift_34 : decode cX7_lift 34 = .ok (.getfield 12, 3) := by decide +kernel
theorem dX7_lift_37 : decode cX7_lift 37 = .ok (.getfield 68, 3) := by decide +kernel
theorem dX7_lift_40 : decode cX7_lift 40 = .ok (.invokevirtual 72, 3) := by decide +kernel
theorem dX7_lift_43 : decode cX7_lift 43 = .ok (.iconst 4, 1) := by decide +kernel
theorem dX7_lift_44 : decode cX7_lift 44 = .ok (.if_icmp .ne 9, 3) := by decide +kernel
theorem dX7_lift_47 : decode cX7_lift 47 = .ok (.aload_n 0, 1) := by decide +kernel
theorem dX7_lift_48 : decode cX7_lift 48 = .ok (.iconst 2, 1) := by decide +kernel
theorem dX7_lift_49 : decode cX7_lift 49 = .ok (.invokevirtual 95, 3) := by decide +kernel
theorem dX7_lift_52 : decode cX7_lift 52 = .ok (.ireturn, 1) := by decide +kernel
theorem dX7_lift_53 : decode cX7_lift 53 = .ok (.iconst 5, 1) := by decide +kernel
theorem dX7_lift_54 : decode cX7_lift 54 = .ok (.newarray .int, 2) := by decide +kernel
theorem dX7_lift_56 : decode cX7_lift 56 = .ok (.astore_n 3, 1) := by decide +kernel
theorem dX7_lift_57 : decode cX7_lift 57 = .ok (.aload_n 3, 1) := by decide +kernel
theorem dX7_lift_58 : decode cX7_lift 58 = .ok (.iconst 0, 1) := by decide +kernel
theorem dX7_lift_59 : decode cX7_lift 59 = .ok (.iload_n 1, 1) := by decide +kernel
theorem dX7_lift_60 : decode cX7_lift 60 = .ok (.iastore, 1) := by decide +kernel
theorem dX7_lift_61 : decode cX7_lift 61 = .ok (.aload_n 3, 1) := by decide +kernel
theorem dX7_lift_62 : decode cX7_lift 62 = .ok (.iconst 1, 1) := by decide +kernel
theorem dX7_lift_63 : decode cX7_lift 63 = .ok (.iload_n 2, 1) := by decide +kernel
theorem dX7_lift_64 : decode cX7_lift 64 = .ok (.iastore, 1) := by decide +kernel
theorem dX7_lift_65 : decode cX7_lift 65 = .ok (.aload_n 0, 1) := by decide +kernel
theorem dX7_lift_66 : decode cX7_lift 66 = .ok (.getfield 12, 3) := by decide +kernel
theorem dX7_lift_69 : decode cX7_lift 69 = .ok (.getfield 68, 3) := by decide +kernel
theorem dX7_lift_72 : decode cX7_lift 72 = .ok (.aload_n 3, 1) := by decide +kernel
theorem dX7_lift_73 : decode cX7_lift 73 = .ok (.invokevirtual 99, 3) := by decide +kernel
theorem dX7_lift_76 : decode cX7_lift 76 = .ok (.pop, 1) := by decide +kernel
theorem dX7_lift_77 : decode cX7_lift 77 = .ok (.aload_n 0, 1) := by decide +kernel
theorem dX7_lift_78 : decode cX7_lift 78 = .ok (.getfield 12, 3) := by decide +kernel
theorem dX7_lift_81 : decode cX7_lift 81 = .ok (.getfield 68, 3) := by decide +kernel
theorem dX7_lift_84 : decode cX7_lift 84 = .ok (.invokevirtual 72, 3) := by decide +kernel
theorem dX7_lift_87 : decode cX7_lift 87 = .ok (.iconst 1, 1) := by decide +kernel
theorem dX7_lift_88 : decode cX7_lift 88 = .ok (.isub, 1) := by decide +kernel
theorem dX7_lift_89 : decode cX7_lift 89 = .ok (.ireturn, 1) := by decide +kernel
theorem dX7_run_0 : decode cX7_run 0 = .ok (.aload_n 0, 1) := by decide +kernel
theorem dX7_run_1 : decode cX7_run 1 = .ok (.iconst 0, 1) := by decide +kernel
theorem dX7_run_2 : decode cX7_run 2 = .ok (.putfield 23, 3) := by decide +kernel
theorem dX7_run_5 : decode cX7_run 5 = .ok (.aload_n 0, 1) := by decide +kernel
theorem dX7_run_6 : decode cX7_run 6 = .ok (.iload_n 1, 1) := by decide +kernel
theorem dX7_run_7 : decode cX7_run 7 = .ok (.invokevirtual 103, 3) := by decide +kernel
theorem dX7_run_10 : decode cX7_run 10 = .ok (.ifCond .ne 9, 3) := by decide +kernel
theorem dX7_run_13 : decode cX7_run 13 = .ok (.aload_n 0, 1) := by decide +kernel
theorem dX7_run_14 : decode cX7_run 14 = .ok (.iconst 1, 1) := by decide +kernel
theorem dX7_run_15 : decode cX7_run 15 = .ok (.invokevirtual 95, 3) := by decide +kernel
theorem dX7_run_18 : decode cX7_run 18 = .ok (.ireturn, 1) := by decide +kernel
theorem dX7_run_19 : decode cX7_run 19 = .ok (.iload_n 2, 1) := by decide +kernel
theorem dX7_run_20 : decode cX7_run 20 = .ok (.iconst 0, 1) := by decide +kernel
theorem dX7_run_21 : decode cX7_run 21 = .ok (.bipush 30, 2) := by decide +kernel
theorem dX7_run_23 : decode cX7_run 23 = .ok (.invokestatic 78, 3) := by decide +kernel
theorem dX7_run_26 : decode cX7_run 26 = .ok (.ifCond .eq 34, 3) := by decide +kernel
theorem dX7_run_29 : decode cX7_run 29 = .ok (.iload_n 3, 1) := by decide +kernel
theorem dX7_run_30 : decode cX7_run 30 = .ok (.iconst 5, 1) := by decide +kernel
theorem dX7_run_31 : decode cX7_run 31 = .ok (.bipush 45, 2) := by decide +kernel
theorem dX7_run_33 : decode cX7_run 33 = .ok (.invokestatic 78, 3) := by decide +kernel
theorem dX7_run_36 : decode cX7_run 36 = .ok (.ifCond .eq 24, 3) := by decide +kernel
theorem dX7_run_39 : decode cX7_run 39 = .ok (.iload 4, 2) := by decide +kernel
theorem dX7_run_41 : decode cX7_run 41 = .ok (.iconst 0, 1) := by decide +kernel
theorem dX7_run_42 : decode cX7_run 42 = .ok (.iconst 3, 1) := by decide +kernel
theorem dX7_run_43 : decode cX7_run 43 = .ok (.invokestatic 78, 3) := by decide +kernel
theorem dX7_run_46 : decode cX7_run 46 = .ok (.ifCond .eq 14, 3) := by decide +kernel
theorem dX7_run_49 : decode cX7_run 49 = .ok (.iload 5, 2) := by decide +kernel
theorem dX7_run_51 : decode cX7_run 51 = .ok (.iconst 1, 1) := by decide +kernel
theorem dX7_run_52 : decode cX7_run 52 = .ok (.bipush 9, 2) := by decide +kernel
theorem dX7_run_54 : decode cX7_run 54 = .ok (.invokestatic 78, 3) := by decide +kernel
theorem dX7_run_57 : decode cX7_run 57 = .ok (.ifCond .ne 9, 3) := by decide +kernel
theorem dX7_run_60 : decode cX7_run 60 = .ok (.aload_n 0, 1) := by decide +kernel
theorem dX7_run_61 : decode cX7_run 61 = .ok (.iconst 2, 1) := by decide +kernel
theorem dX7_run_62 : decode cX7_run 62 = .ok (.invokevirtual 95, 3) := by decide +kernel
theorem dX7_run_65 : decode cX7_run 65 = .ok (.ireturn, 1) := by decide +kernel
theorem dX7_run_66 : decode cX7_run 66 = .ok (.aload_n 0, 1) := by decide +kernel
theorem dX7_run_67 : decode cX7_run 67 = .ok (.getfield 12, 3) := by decide +kernel
theorem dX7_run_70 : decode cX7_run 70 = .ok (.getfield 82, 3) := by decide +kernel
theorem dX7_run_73 : decode cX7_run 73 = .ok (.invokevirtual 72, 3) := by decide +kernel
theorem dX7_run_76 : decode cX7_run 76 = .ok (.bipush 8, 2) := by decide +kernel
theorem dX7_run_78 : decode cX7_run 78 = .ok (.if_icmp .ne 9, 3) := by decide +kernel
theorem dX7_run_81 : decode cX7_run 81 = .ok (.aload_n 0, 1) := by decide +kernel
theorem dX7_run_82 : decode cX7_run 82 = .ok (.iconst 3, 1) := by decide +kernel
theorem dX7_run_83 : decode cX7_run 83 = .ok (.invokevirtual 95, 3) := by decide +kernel
theorem dX7_run_86 : decode cX7_run 86 = .ok (.ireturn, 1) := by decide +kernel
theorem dX7_run_87 : decode cX7_run 87 = .ok (.bipush 43, 2) := by decide +kernel
theorem dX7_run_89 : decode cX7_run 89 = .ok (.newarray .int, 2) := by decide +kernel
theorem dX7_run_91 : decode cX7_run 91 = .ok (.astore 6, 2) := by decide +kernel
theorem dX7_run_93 : decode cX7_run 93 = .ok (.aload 6, 2) := by decide +kernel
theorem dX7_run_95 : decode cX7_run 95 = .ok (.iconst 0, 1) := by decide +kernel
theorem dX7_run_96 : decode cX7_run 96 = .ok (.iload_n 1, 1) := by decide +kernel
theorem dX7_run_97 : decode cX7_run 97 = .ok (.iastore, 1) := by decide +kernel
theorem dX7_run_98 : decode cX7_run 98 = .ok (.aload 6, 2) := by decide +kernel
theorem dX7_run_100 : decode cX7_run 100 = .ok (.iconst 1, 1) := by decide +kernel
theorem dX7_run_101 : decode cX7_run 101 = .ok (.iload_n 2, 1) := by decide +kernel
theorem dX7_run_102 : decode cX7_run 102 = .ok (.iastore, 1) := by decide +kernel
theorem dX7_run_103 : decode cX7_run 103 = .ok (.aload 6, 2) := by decide +kernel
theorem dX7_run_105 : decode cX7_run 105 = .ok (.iconst 2, 1) := by decide +kernel
theorem dX7_run_106 : decode cX7_run 106 = .ok (.iload_n 3, 1) := by decide +kernel
theorem dX7_run_107 : decode cX7_run 107 = .ok (.iastore, 1) := by decide +kernel
theorem dX7_run_108 : decode cX7_run 108 = .ok (.aload 6, 2) := by decide +kernel
theorem dX7_run_110 : decode cX7_run 110 = .ok (.iconst 3, 1) := by decide +kernel
theorem dX7_run_111 : decode cX7_run 111 = .ok (.iload 4, 2) := by decide +kernel
theorem dX7_run_113 : decode cX7_run 113 = .ok (.iastore, 1) := by decide +kernel
theorem dX7_run_114 : decode cX7_run 114 = .ok (.aload 6, 2) := by decide +kernel
theorem dX7_run_116 : decode cX7_run 116 = .ok (.iconst 4, 1) := by decide +kernel
theorem dX7_run_117 : decode cX7_run 117 = .ok (.iload 5, 2) := by decide +kernel
theorem dX7_run_119 : decode cX7_run 119 = .ok (.iastore, 1) := by decide +kernel
theorem dX7_run_120 : decode cX7_run 120 = .ok (.aload 6, 2) := by decide +kernel
theorem dX7_run_122 : decode cX7_run 122 = .ok (.bipush 14, 2) := by decide +kernel
theorem dX7_run_124 : decode cX7_run 124 = .ok (.iconst (-1), 1) := by decide +kernel
theorem dX7_run_125 : decode cX7_run 125 = .ok (.iastore, 1) := by decide +kernel
theorem dX7_run_126 : decode cX7_run 126 = .ok (.aload_n 0, 1) := by decide +kernel
theorem dX7_run_127 : decode cX7_run 127 = .ok (.getfield 12, 3) := by decide +kernel
theorem dX7_run_130 : decode cX7_run 130 = .ok (.getfield 82, 3) := by decide +kernel
theorem dX7_run_133 : decode cX7_run 133 = .ok (.aload 6, 2) := by decide +kernel
theorem dX7_run_135 : decode cX7_run 135 = .ok (.invokevirtual 99, 3) := by decide +kernel
theorem dX7_run_138 : decode cX7_run 138 = .ok (.pop, 1) := by decide +kernel
theorem dX7_run_139 : decode cX7_run 139 = .ok (.aload_n 0, 1) := by decide +kernel
theorem dX7_run_140 : decode cX7_run 140 = .ok (.getfield 12, 3) := by decide +kernel
theorem dX7_run_143 : decode cX7_run 143 = .ok (.getfield 82, 3) := by decide +kernel
theorem dX7_run_146 : decode cX7_run 146 = .ok (.invokevirtual 72, 3) := by decide +kernel
theorem dX7_run_149 : decode cX7_run 149 = .ok (.iconst 1, 1) := by decide +kernel
theorem dX7_run_150 : decode cX7_run 150 = .ok (.isub, 1) := by decide +kernel
theorem dX7_run_151 : decode cX7_run 151 = .ok (.ireturn, 1) := by decide +kernel
theorem dX7_turn_0 : decode cX7_turn 0 = .ok (.aload_n 0, 1) := by decide +kernel
theorem dX7_turn_1 : decode cX7_turn 1 = .ok (.aload_n 0, 1) := by decide +kernel
theorem dX7_turn_2 : decode cX7_turn 2 = .ok (.iload_n 1, 1) := by decide +kernel
theorem dX7_turn_3 : decode cX7_turn 3 = .ok (.invokevirtual 103, 3) := by decide +kernel
theorem dX7_turn_6 : decode cX7_turn 6 = .ok (.ifCond .eq 7, 3) := by decide +kernel
theorem dX7_turn_9 : decode cX7_turn 9 = .ok (.iconst 0, 1) := by decide +kernel
theorem dX7_turn_10 : decode cX7_turn 10 = .ok (.goto 4, 3) := by decide +kernel
theorem dX7_turn_13 : decode cX7_turn 13 = .ok (.iconst 1, 1) := by decide +kernel
theorem dX7_turn_14 : decode cX7_turn 14 = .ok (.putfield 23, 3) := by decide +kernel
theorem dX7_turn_17 : decode cX7_turn 17 = .ok (.aload_n 0, 1) := by decide +kernel
theorem dX7_turn_18 : decode cX7_turn 18 = .ok (.getfield 23, 3) := by decide +kernel
theorem dX7_turn_21 : decode cX7_turn 21 = .ok (.ifCond .le 5, 3) := by decide +kernel
theorem dX7_turn_24 : decode cX7_turn 24 = .ok (.iconst 0, 1) := by decide +kernel
theorem dX7_turn_25 : decode cX7_turn 25 = .ok (.ireturn, 1) := by decide +kernel
theorem dX7_turn_26 : decode cX7_turn 26 = .ok (.aload_n 0, 1) := by decide +kernel
theorem dX7_turn_27 : decode cX7_turn 27 = .ok (.getfield 12, 3) := by decide +kernel
theorem dX7_turn_30 : decode cX7_turn 30 = .ok (.getfield 68, 3) := by decide +kernel
theorem dX7_turn_33 : decode cX7_turn 33 = .ok (.iload_n 1, 1) := by decide +kernel
theorem dX7_turn_34 : decode cX7_turn 34 = .ok (.invokevirtual 85, 3) := by decide +kernel
theorem dX7_turn_37 : decode cX7_turn 37 = .ok (.checkcast 89, 3) := by decide +kernel
theorem dX7_turn_40 : decode cX7_turn 40 = .ok (.iconst 2, 1) := by decide +kernel
theorem dX7_turn_41 : decode cX7_turn 41 = .ok (.iaload, 1) := by decide +kernel
theorem dX7_turn_42 : decode cX7_turn 42 = .ok (.iconst 1, 1) := by decide +kernel
theorem dX7_turn_43 : decode cX7_turn 43 = .ok (.if_icmp .ne 7, 3) := by decide +kernel
theorem dX7_turn_46 : decode cX7_turn 46 = .ok (.iconst 1, 1) := by decide +kernel
theorem dX7_turn_47 : decode cX7_turn 47 = .ok (.goto 4, 3) := by decide +kernel
theorem dX7_turn_50 : decode cX7_turn 50 = .ok (.iconst 0, 1) := by decide +kernel
theorem dX7_turn_51 : decode cX7_turn 51 = .ok (.istore_n 3, 1) := by decide +kernel
theorem dX7_turn_52 : decode cX7_turn 52 = .ok (.aload_n 0, 1) := by decide +kernel
theorem dX7_turn_53 : decode cX7_turn 53 = .ok (.getfield 12, 3) := by decide +kernel
theorem dX7_turn_56 : decode cX7_turn 56 = .ok (.getfield 68, 3) := by decide +kernel
theorem dX7_turn_59 : decode cX7_turn 59 = .ok (.iload_n 1, 1) := by decide +kernel
theorem dX7_turn_60 : decode cX7_turn 60 = .ok (.invokevirtual 85, 3) := by decide +kernel
theorem dX7_turn_63 : decode cX7_turn 63 = .ok (.checkcast 89, 3) := by decide +kernel
theorem dX7_turn_66 : decode cX7_turn 66 = .ok (.iconst 2, 1) := by decide +kernel
theorem dX7_turn_67 : decode cX7_turn 67 = .ok (.iload_n 2, 1) := by decide +kernel
theorem dX7_turn_68 : decode cX7_turn 68 = .ok (.ifCond .eq 7, 3) := by decide +kernel
theorem dX7_turn_71 : decode cX7_turn 71 = .ok (.iconst 1, 1) := by decide +kernel
theorem dX7_turn_72 : decode cX7_turn 72 = .ok (.goto 4, 3) := by decide +kernel
theorem dX7_turn_75 : decode cX7_turn 75 = .ok (.iconst 0, 1) := by decide +kernel
theorem dX7_turn_76 : decode cX7_turn 76 = .ok (.iastore, 1) := by decide +kernel
theorem dX7_turn_77 : decode cX7_turn 77 = .ok (.iload_n 3, 1) := by decide +kernel
theorem dX7_turn_78 : decode cX7_turn 78 = .ok (.ireturn, 1) := by decide +kernel
theorem dX7_release_0 : decode cX7_release 0 = .ok (.aload_n 0, 1) := by decide +kernel
theorem dX7_release_1 : decode cX7_release 1 = .ok (.aload_n 0, 1) := by decide +kernel
theorem dX7_release_2 : decode cX7_release 2 = .ok (.iload_n 1, 1) := by decide +kernel
theorem dX7_release_3 : decode cX7_release 3 = .ok (.invokevirtual 103, 3) := by decide +kernel
theorem dX7_release_6 : decode cX7_release 6 = .ok (.ifCond .ne 7, 3) := by decide +kernel
theorem dX7_release_9 : decode cX7_release 9 = .ok (.iconst 1, 1) := by decide +kernel
theorem dX7_release_10 : decode cX7_release 10 = .ok (.goto 33, 3) := by decide +kernel
theorem dX7_release_13 : decode cX7_release 13 = .ok (.aload_n 0, 1) := by decide +kernel
theorem dX7_release_14 : decode cX7_release 14 = .ok (.getfield 107, 3) := by decide +kernel
theorem dX7_release_17 : decode cX7_release 17 = .ok (.aload_n 0, 1) := by decide +kernel
theorem dX7_release_18 : decode cX7_release 18 = .ok (.getfield 12, 3) := by decide +kernel
theorem dX7_release_21 : decode cX7_release 21 = .ok (.getfield 68, 3) := by decide +kernel
theorem dX7_release_24 : decode cX7_release 24 = .ok (.iload_n 1, 1) := by decide +kernel
theorem dX7_release_25 : decode cX7_release 25 = .ok (.invokevirtual 85, 3) := by decide +kernel
theorem dX7_release_28 : decode cX7_release 28 = .ok (.checkcast 89, 3) := by decide +kernel
theorem dX7_release_31 : decode cX7_release 31 = .ok (.iconst 1, 1) := by decide +kernel
theorem dX7_release_32 : decode cX7_release 32 = .ok (.iaload, 1) := by decide +kernel
theorem dX7_release_33 : decode cX7_release 33 = .ok (.iconst 2, 1) := by decide +kernel
theorem dX7_release_34 : decode cX7_release 34 = .ok (.isub, 1) := by decide +kernel
theorem dX7_release_35 : decode cX7_release 35 = .ok (.if_icmp .le 7, 3) := by decide +kernel
theorem dX7_release_38 : decode cX7_release 38 = .ok (.iconst 2, 1) := by decide +kernel
theorem dX7_release_39 : decode cX7_release 39 = .ok (.goto 4, 3) := by decide +kernel
theorem dX7_release_42 : decode cX7_release 42 = .ok (.iconst 0, 1) := by decide +kernel
theorem dX7_release_43 : decode cX7_release 43 = .ok (.putfield 23, 3) := by decide +kernel
theorem dX7_release_46 : decode cX7_release 46 = .ok (.aload_n 0, 1) := by decide +kernel
theorem dX7_release_47 : decode cX7_release 47 = .ok (.getfield 23, 3) := by decide +kernel
theorem dX7_release_50 : decode cX7_release 50 = .ok (.ifCond .le 5, 3) := by decide +kernel
theorem dX7_release_53 : decode cX7_release 53 = .ok (.iconst 0, 1) := by decide +kernel
theorem dX7_release_54 : decode cX7_release 54 = .ok (.ireturn, 1) := by decide +kernel
theorem dX7_release_55 : decode cX7_release 55 = .ok (.aload_n 0, 1) := by decide +kernel
theorem dX7_release_56 : decode cX7_release 56 = .ok (.getfield 12, 3) := by decide +kernel
theorem dX7_release_59 : decode cX7_release 59 = .ok (.getfield 68, 3) := by decide +kernel
theorem dX7_release_62 : decode cX7_release 62 = .ok (.iload_n 1, 1) := by decide +kernel
theorem dX7_release_63 : decode cX7_release 63 = .ok (.invokevirtual 85, 3) := by decide +kernel
theorem dX7_release_66 : decode cX7_release 66 = .ok (.checkcast 89, 3) := by decide +kernel
theorem dX7_release_69 : decode cX7_release 69 = .ok (.iconst 3, 1) := by decide +kernel
theorem dX7_release_70 : decode cX7_release 70 = .ok (.iaload, 1) := by decide +kernel
theorem dX7_release_71 : decode cX7_release 71 = .ok (.iconst 1, 1) := by decide +kernel
theorem dX7_release_72 : decode cX7_release 72 = .ok (.if_icmp .ne 7, 3) := by decide +kernel
theorem dX7_release_75 : decode cX7_release 75 = .ok (.iconst 1, 1) := by decide +kernel
theorem dX7_release_76 : decode cX7_release 76 = .ok (.goto 4, 3) := by decide +kernel
theorem dX7_release_79 : decode cX7_release 79 = .ok (.iconst 0, 1) := by decide +kernel
theorem dX7_release_80 : decode cX7_release 80 = .ok (.istore_n 2, 1) := by decide +kernel
theorem dX7_release_81 : decode cX7_release 81 = .ok (.aload_n 0, 1) := by decide +kernel
theorem dX7_release_82 : decode cX7_release 82 = .ok (.getfield 12, 3) := by decide +kernel
theorem dX7_release_85 : decode cX7_release 85 = .ok (.getfield 68, 3) := by decide +kernel
theorem dX7_release_88 : decode cX7_release 88 = .ok (.iload_n 1, 1) := by decide +kernel
theorem dX7_release_89 : decode cX7_release 89 = .ok (.invokevirtual 85, 3) := by decide +kernel
theorem dX7_release_92 : decode cX7_release 92 = .ok (.checkcast 89, 3) := by decide +kernel
theorem dX7_release_95 : decode cX7_release 95 = .ok (.iconst 3, 1) := by decide +kernel
theorem dX7_release_96 : decode cX7_release 96 = .ok (.iconst 0, 1) := by decide +kernel
theorem dX7_release_97 : decode cX7_release 97 = .ok (.iastore, 1) := by decide +kernel
theorem dX7_release_98 : decode cX7_release 98 = .ok (.iload_n 2, 1) := by decide +kernel
theorem dX7_release_99 : decode cX7_release 99 = .ok (.ireturn, 1) := by decide +kernel
theorem dX7_guns_0 : decode cX7_guns 0 = .ok (.aload_n 0, 1) := by decide +kernel
theorem dX7_guns_1 : decode cX7_guns 1 = .ok (.iconst 0, 1) := by decide +kernel
theorem dX7_guns_2 : decode cX7_guns 2 = .ok (.putfield 23, 3) := by decide +kernel
theorem dX7_guns_5 : decode cX7_guns 5 = .ok (.aload_n 0, 1) := by decide +kernel
theorem dX7_guns_6 : decode cX7_guns 6 = .ok (.iload_n 1, 1) := by decide +kernel
theorem dX7_guns_7 : decode cX7_guns 7 = .ok (.invokevirtual 110, 3) := by decide +kernel
theorem dX7_guns_10 : decode cX7_guns 10 = .ok (.ifCond .ne 9, 3) := by decide +kernel
theorem dX7_guns_13 : decode cX7_guns 13 = .ok (.aload_n 0, 1) := by decide +kernel
theorem dX7_guns_14 : decode cX7_guns 14 = .ok (.iconst 1, 1) := by decide +kernel
theorem dX7_guns_15 : decode cX7_guns 15 = .ok (.invokevirtual 95, 3) := by decide +kernel
theorem dX7_guns_18 : decode cX7_guns 18 = .ok (.ireturn, 1) := by decide +kernel
theorem dX7_guns_19 : decode cX7_guns 19 = .ok (.iload_n 2, 1) := by decide +kernel
theorem dX7_guns_20 : decode cX7_guns 20 = .ok (.iconst 0, 1) := by decide +kernel
theorem dX7_guns_21 : decode cX7_guns 21 = .ok (.bipush 9, 2) := by decide +kernel
theorem dX7_guns_23 : decode cX7_guns 23 = .ok (.invokestatic 78, 3) := by decide +kernel
theorem dX7_guns_26 : decode cX7_guns 26 = .ok (.ifCond .ne 9, 3) := by decide +kernel
theorem dX7_guns_29 : decode cX7_guns 29 = .ok (.aload_n 0, 1) := by decide +kernel
theorem dX7_guns_30 : decode cX7_guns 30 = .ok (.iconst 2, 1) := by decide +kernel
theorem dX7_guns_31 : decode cX7_guns 31 = .ok (.invokevirtual 95, 3) := by decide +kernel
theorem dX7_guns_34 : decode cX7_guns 34 = .ok (.ireturn, 1) := by decide +kernel
theorem dX7_guns_35 : decode cX7_guns 35 = .ok (.aload_n 0, 1) := by decide +kernel
theorem dX7_guns_36 : decode cX7_guns 36 = .ok (.iload_n 1, 1) := by decide +kernel
theorem dX7_guns_37 : decode cX7_guns 37 = .ok (.invokevirtual 91, 3) := by decide +kernel
theorem dX7_guns_40 : decode cX7_guns 40 = .ok (.bipush 8, 2) := by decide +kernel
theorem dX7_guns_42 : decode cX7_guns 42 = .ok (.iaload, 1) := by decide +kernel
theorem dX7_guns_43 : decode cX7_guns 43 = .ok (.istore_n 3, 1) := by decide +kernel
theorem dX7_guns_44 : decode cX7_guns 44 = .ok (.aload_n 0, 1) := by decide +kernel
theorem dX7_guns_45 : decode cX7_guns 45 = .ok (.iload_n 1, 1) := by decide +kernel
theorem dX7_guns_46 : decode cX7_guns 46 = .ok (.invokevirtual 91, 3) := by decide +kernel
theorem dX7_guns_49 : decode cX7_guns 49 = .ok (.bipush 8, 2) := by decide +kernel
theorem dX7_guns_51 : decode cX7_guns 51 = .ok (.iload_n 2, 1) := by decide +kernel
theorem dX7_guns_52 : decode cX7_guns 52 = .ok (.iastore, 1) := by decide +kernel
theorem dX7_guns_53 : decode cX7_guns 53 = .ok (.iload_n 3, 1) := by decide +kernel
theorem dX7_guns_54 : decode cX7_guns 54 = .ok (.ireturn, 1) := by decide +kernel
theorem dX7_fill_0 : decode cX7_fill 0 = .ok (.aload_n 0, 1) := by decide +kernel
theorem dX7_fill_1 : decode cX7_fill 1 = .ok (.iconst 0, 1) := by decide +kernel
theorem dX7_fill_2 : decode cX7_fill 2 = .ok (.putfield 23, 3) := by decide +kernel
theorem dX7_fill_5 : decode cX7_fill 5 = .ok (.iload_n 1, 1) := by decide +kernel
theorem dX7_fill_6 : decode cX7_fill 6 = .ok (.iconst 1, 1) := by decide +kernel
theorem dX7_fill_7 : decode cX7_fill 7 = .ok (.sipush 5000, 3) := by decide +kernel
theorem dX7_fill_10 : decode cX7_fill 10 = .ok (.invokestatic 78, 3) := by decide +kernel
theorem dX7_fill_13 : decode cX7_fill 13 = .ok (.ifCond .ne 9, 3) := by decide +kernel
theorem dX7_fill_16 : decode cX7_fill 16 = .ok (.aload_n 0, 1) := by decide +kernel
theorem dX7_fill_17 : decode cX7_fill 17 = .ok (.iconst 1, 1) := by decide +kernel
theorem dX7_fill_18 : decode cX7_fill 18 = .ok (.invokevirtual 95, 3) := by decide +kernel
theorem dX7_fill_21 : decode cX7_fill 21 = .ok (.ireturn, 1) := by decide +kernel
theorem dX7_fill_22 : decode cX7_fill 22 = .ok (.aload_n 0, 1) := by decide +kernel
theorem dX7_fill_23 : decode cX7_fill 23 = .ok (.getfield 12, 3) := by decide +kernel
theorem dX7_fill_26 : decode cX7_fill 26 = .ok (.sipush 5000, 3) := by decide +kernel
theorem dX7_fill_29 : decode cX7_fill 29 = .ok (.aload_n 0, 1) := by decide +kernel
theorem dX7_fill_30 : decode cX7_fill 30 = .ok (.getfield 12, 3) := by decide +kernel
theorem dX7_fill_33 : decode cX7_fill 33 = .ok (.getfield 113, 3) := by decide +kernel
theorem dX7_fill_36 : decode cX7_fill 36 = .ok (.iload_n 1, 1) := by decide +kernel
theorem dX7_fill_37 : decode cX7_fill 37 = .ok (.iadd, 1) := by decide +kernel
theorem dX7_fill_38 : decode cX7_fill 38 = .ok (.invokestatic 38, 3) := by decide +kernel
theorem dX7_fill_41 : decode cX7_fill 41 = .ok (.putfield 113, 3) := by decide +kernel
theorem dX7_fill_44 : decode cX7_fill 44 = .ok (.aload_n 0, 1) := by decide +kernel
theorem dX7_fill_45 : decode cX7_fill 45 = .ok (.getfield 12, 3) := by decide +kernel
theorem dX7_fill_48 : decode cX7_fill 48 = .ok (.getfield 113, 3) := by decide +kernel
theorem dX7_fill_51 : decode cX7_fill 51 = .ok (.ireturn, 1) := by decide +kernel
theorem dX7_crowd_0 : decode cX7_crowd 0 = .ok (.aload_n 0, 1) := by decide +kernel
theorem dX7_crowd_1 : decode cX7_crowd 1 = .ok (.iconst 0, 1) := by decide +kernel
theorem dX7_crowd_2 : decode cX7_crowd 2 = .ok (.putfield 23, 3) := by decide +kernel
theorem dX7_crowd_5 : decode cX7_crowd 5 = .ok (.iload_n 1, 1) := by decide +kernel
theorem dX7_crowd_6 : decode cX7_crowd 6 = .ok (.iconst 0, 1) := by decide +kernel
theorem dX7_crowd_7 : decode cX7_crowd 7 = .ok (.sipush 5000, 3) := by decide +kernel
theorem dX7_crowd_10 : decode cX7_crowd 10 = .ok (.invokestatic 78, 3) := by decide +kernel
theorem dX7_crowd_13 : decode cX7_crowd 13 = .ok (.ifCond .ne 9, 3) := by decide +kernel
theorem dX7_crowd_16 : decode cX7_crowd 16 = .ok (.aload_n 0, 1) := by decide +kernel
theorem dX7_crowd_17 : decode cX7_crowd 17 = .ok (.iconst 1, 1) := by decide +kernel
theorem dX7_crowd_18 : decode cX7_crowd 18 = .ok (.invokevirtual 95, 3) := by decide +kernel
theorem dX7_crowd_21 : decode cX7_crowd 21 = .ok (.ireturn, 1) := by decide +kernel
theorem dX7_crowd_22 : decode cX7_crowd 22 = .ok (.aload_n 0, 1) := by decide +kernel
theorem dX7_crowd_23 : decode cX7_crowd 23 = .ok (.getfield 12, 3) := by decide +kernel
theorem dX7_crowd_26 : decode cX7_crowd 26 = .ok (.getfield 116, 3) := by decide +kernel
theorem dX7_crowd_29 : decode cX7_crowd 29 = .ok (.istore_n 2, 1) := by decide +kernel
theorem dX7_crowd_30 : decode cX7_crowd 30 = .ok (.aload_n 0, 1) := by decide +kernel
theorem dX7_crowd_31 : decode cX7_crowd 31 = .ok (.getfield 12, 3) := by decide +kernel
theorem dX7_crowd_34 : decode cX7_crowd 34 = .ok (.iload_n 1, 1) := by decide +kernel
theorem dX7_crowd_35 : decode cX7_crowd 35 = .ok (.putfield 116, 3) := by decide +kernel
theorem dX7_crowd_38 : decode cX7_crowd 38 = .ok (.iload_n 2, 1) := by decide +kernel
theorem dX7_crowd_39 : decode cX7_crowd 39 = .ok (.ireturn, 1) := by decide +kernel
theorem dX7_areHours_0 : decode cX7_areHours 0 = .ok (.iload_n 0, 1) := by decide +kernel
theorem dX7_areHours_1 : decode cX7_areHours 1 = .ok (.iconst 1, 1) := by decide +kernel
theorem dX7_areHours_2 : decode cX7_areHours 2 = .ok (.bipush 48, 2) := by decide +kernel
theorem dX7_areHours_4 : decode cX7_areHours 4 = .ok (.invokestatic 78, 3) := by decide +kernel
theorem dX7_areHours_7 : decode cX7_areHours 7 = .ok (.ireturn, 1) := by decide +kernel
theorem dX7_isWarmth_0 : decode cX7_isWarmth 0 = .ok (.iload_n 0, 1) := by decide +kernel
theorem dX7_isWarmth_1 : decode cX7_isWarmth 1 = .ok (.bipush (-20), 2) := by decide +kernel
theorem dX7_isWarmth_3 : decode cX7_isWarmth 3 = .ok (.bipush 20, 2) := by decide +kernel
theorem dX7_isWarmth_5 : decode cX7_isWarmth 5 = .ok (.invokestatic 78, 3) := by decide +kernel
theorem dX7_isWarmth_8 : decode cX7_isWarmth 8 = .ok (.ireturn, 1) := by decide +kernel
theorem dX7_pass_0 : decode cX7_pass 0 = .ok (.aload_n 0, 1) := by decide +kernel
theorem dX7_pass_1 : decode cX7_pass 1 = .ok (.iconst 0, 1) := by decide +kernel
theorem dX7_pass_2 : decode cX7_pass 2 = .ok (.putfield 23, 3) := by decide +kernel
theorem dX7_pass_5 : decode cX7_pass 5 = .ok (.iload_n 1, 1) := by decide +kernel
end
section
theorem dX7_pass_6 : decode cX7_pass 6 = .ok (.invokestatic 119, 3) := by decide +kernel
theorem dX7_pass_9 : decode cX7_pass 9 = .ok (.ifCond .eq 52, 3) := by decide +kernel
theorem dX7_pass_12 : decode cX7_pass 12 = .ok (.iload_n 2, 1) := by decide +kernel
theorem dX7_pass_13 : decode cX7_pass 13 = .ok (.invokestatic 122, 3) := by decide +kernel
theorem dX7_pass_16 : decode cX7_pass 16 = .ok (.ifCond .eq 45, 3) := by decide +kernel
theorem dX7_pass_19 : decode cX7_pass 19 = .ok (.iload_n 3, 1) := by decide +kernel
theorem dX7_pass_20 : decode cX7_pass 20 = .ok (.iconst 0, 1) := by decide +kernel
theorem dX7_pass_21 : decode cX7_pass 21 = .ok (.bipush 9, 2) := by decide +kernel
theorem dX7_pass_23 : decode cX7_pass 23 = .ok (.invokestatic 78, 3) := by decide +kernel
theorem dX7_pass_26 : decode cX7_pass 26 = .ok (.ifCond .eq 35, 3) := by decide +kernel
theorem dX7_pass_29 : decode cX7_pass 29 = .ok (.iload 4, 2) := by decide +kernel
theorem dX7_pass_31 : decode cX7_pass 31 = .ok (.iconst 0, 1) := by decide +kernel
theorem dX7_pass_32 : decode cX7_pass 32 = .ok (.bipush 9, 2) := by decide +kernel
theorem dX7_pass_34 : decode cX7_pass 34 = .ok (.invokestatic 78, 3) := by decide +kernel
theorem dX7_pass_37 : decode cX7_pass 37 = .ok (.ifCond .eq 24, 3) := by decide +kernel
theorem dX7_pass_40 : decode cX7_pass 40 = .ok (.iload 5, 2) := by decide +kernel
theorem dX7_pass_42 : decode cX7_pass 42 = .ok (.iconst 0, 1) := by decide +kernel
theorem dX7_pass_43 : decode cX7_pass 43 = .ok (.iconst 3, 1) := by decide +kernel
theorem dX7_pass_44 : decode cX7_pass 44 = .ok (.invokestatic 78, 3) := by decide +kernel
theorem dX7_pass_47 : decode cX7_pass 47 = .ok (.ifCond .eq 14, 3) := by decide +kernel
theorem dX7_pass_50 : decode cX7_pass 50 = .ok (.iload 6, 2) := by decide +kernel
theorem dX7_pass_52 : decode cX7_pass 52 = .ok (.iconst 0, 1) := by decide +kernel
theorem dX7_pass_53 : decode cX7_pass 53 = .ok (.bipush 100, 2) := by decide +kernel
theorem dX7_pass_55 : decode cX7_pass 55 = .ok (.invokestatic 78, 3) := by decide +kernel
theorem dX7_pass_58 : decode cX7_pass 58 = .ok (.ifCond .ne 9, 3) := by decide +kernel
theorem dX7_pass_61 : decode cX7_pass 61 = .ok (.aload_n 0, 1) := by decide +kernel
theorem dX7_pass_62 : decode cX7_pass 62 = .ok (.iconst 1, 1) := by decide +kernel
theorem dX7_pass_63 : decode cX7_pass 63 = .ok (.invokevirtual 95, 3) := by decide +kernel
theorem dX7_pass_66 : decode cX7_pass 66 = .ok (.ireturn, 1) := by decide +kernel
theorem dX7_pass_67 : decode cX7_pass 67 = .ok (.aload_n 0, 1) := by decide +kernel
theorem dX7_pass_68 : decode cX7_pass 68 = .ok (.getfield 12, 3) := by decide +kernel
theorem dX7_pass_71 : decode cX7_pass 71 = .ok (.getfield 125, 3) := by decide +kernel
theorem dX7_pass_74 : decode cX7_pass 74 = .ok (.iload_n 1, 1) := by decide +kernel
theorem dX7_pass_75 : decode cX7_pass 75 = .ok (.iadd, 1) := by decide +kernel
theorem dX7_pass_76 : decode cX7_pass 76 = .ok (.sipush 9999, 3) := by decide +kernel
theorem dX7_pass_79 : decode cX7_pass 79 = .ok (.if_icmp .le 9, 3) := by decide +kernel
theorem dX7_pass_82 : decode cX7_pass 82 = .ok (.aload_n 0, 1) := by decide +kernel
theorem dX7_pass_83 : decode cX7_pass 83 = .ok (.iconst 2, 1) := by decide +kernel
theorem dX7_pass_84 : decode cX7_pass 84 = .ok (.invokevirtual 95, 3) := by decide +kernel
theorem dX7_pass_87 : decode cX7_pass 87 = .ok (.ireturn, 1) := by decide +kernel
theorem dX7_pass_88 : decode cX7_pass 88 = .ok (.iconst 0, 1) := by decide +kernel
theorem dX7_pass_89 : decode cX7_pass 89 = .ok (.istore 7, 2) := by decide +kernel
theorem dX7_pass_91 : decode cX7_pass 91 = .ok (.iconst 0, 1) := by decide +kernel
theorem dX7_pass_92 : decode cX7_pass 92 = .ok (.istore 8, 2) := by decide +kernel
theorem dX7_pass_94 : decode cX7_pass 94 = .ok (.iload 8, 2) := by decide +kernel
theorem dX7_pass_96 : decode cX7_pass 96 = .ok (.iload_n 1, 1) := by decide +kernel
theorem dX7_pass_97 : decode cX7_pass 97 = .ok (.if_icmp .ge 29, 3) := by decide +kernel
theorem dX7_pass_100 : decode cX7_pass 100 = .ok (.iload 7, 2) := by decide +kernel
theorem dX7_pass_102 : decode cX7_pass 102 = .ok (.aload_n 0, 1) := by decide +kernel
theorem dX7_pass_103 : decode cX7_pass 103 = .ok (.getfield 12, 3) := by decide +kernel
theorem dX7_pass_106 : decode cX7_pass 106 = .ok (.iload_n 2, 1) := by decide +kernel
theorem dX7_pass_107 : decode cX7_pass 107 = .ok (.iload_n 3, 1) := by decide +kernel
theorem dX7_pass_108 : decode cX7_pass 108 = .ok (.iload 4, 2) := by decide +kernel
theorem dX7_pass_110 : decode cX7_pass 110 = .ok (.iload 5, 2) := by decide +kernel
theorem dX7_pass_112 : decode cX7_pass 112 = .ok (.iload 6, 2) := by decide +kernel
theorem dX7_pass_114 : decode cX7_pass 114 = .ok (.invokevirtual 128, 3) := by decide +kernel
theorem dX7_pass_117 : decode cX7_pass 117 = .ok (.iadd, 1) := by decide +kernel
theorem dX7_pass_118 : decode cX7_pass 118 = .ok (.istore 7, 2) := by decide +kernel
theorem dX7_pass_120 : decode cX7_pass 120 = .ok (.iinc 8 1, 3) := by decide +kernel
theorem dX7_pass_123 : decode cX7_pass 123 = .ok (.goto (-29), 3) := by decide +kernel
theorem dX7_pass_126 : decode cX7_pass 126 = .ok (.aload_n 0, 1) := by decide +kernel
theorem dX7_pass_127 : decode cX7_pass 127 = .ok (.iload 4, 2) := by decide +kernel
theorem dX7_pass_129 : decode cX7_pass 129 = .ok (.putfield 107, 3) := by decide +kernel
theorem dX7_pass_132 : decode cX7_pass 132 = .ok (.iload 7, 2) := by decide +kernel
theorem dX7_pass_134 : decode cX7_pass 134 = .ok (.ireturn, 1) := by decide +kernel
theorem dX7_blast_0 : decode cX7_blast 0 = .ok (.aload_n 0, 1) := by decide +kernel
theorem dX7_blast_1 : decode cX7_blast 1 = .ok (.iconst 0, 1) := by decide +kernel
theorem dX7_blast_2 : decode cX7_blast 2 = .ok (.putfield 23, 3) := by decide +kernel
theorem dX7_blast_5 : decode cX7_blast 5 = .ok (.aload_n 0, 1) := by decide +kernel
theorem dX7_blast_6 : decode cX7_blast 6 = .ok (.iload_n 1, 1) := by decide +kernel
theorem dX7_blast_7 : decode cX7_blast 7 = .ok (.invokevirtual 110, 3) := by decide +kernel
theorem dX7_blast_10 : decode cX7_blast 10 = .ok (.ifCond .ne 9, 3) := by decide +kernel
theorem dX7_blast_13 : decode cX7_blast 13 = .ok (.aload_n 0, 1) := by decide +kernel
theorem dX7_blast_14 : decode cX7_blast 14 = .ok (.iconst 1, 1) := by decide +kernel
theorem dX7_blast_15 : decode cX7_blast 15 = .ok (.invokevirtual 95, 3) := by decide +kernel
theorem dX7_blast_18 : decode cX7_blast 18 = .ok (.ireturn, 1) := by decide +kernel
theorem dX7_blast_19 : decode cX7_blast 19 = .ok (.aload_n 0, 1) := by decide +kernel
theorem dX7_blast_20 : decode cX7_blast 20 = .ok (.iload_n 1, 1) := by decide +kernel
theorem dX7_blast_21 : decode cX7_blast 21 = .ok (.invokevirtual 132, 3) := by decide +kernel
theorem dX7_blast_24 : decode cX7_blast 24 = .ok (.ifCond .ne 10, 3) := by decide +kernel
theorem dX7_blast_27 : decode cX7_blast 27 = .ok (.aload_n 0, 1) := by decide +kernel
theorem dX7_blast_28 : decode cX7_blast 28 = .ok (.getfield 16, 3) := by decide +kernel
theorem dX7_blast_31 : decode cX7_blast 31 = .ok (.ifCond .ne 9, 3) := by decide +kernel
theorem dX7_blast_34 : decode cX7_blast 34 = .ok (.aload_n 0, 1) := by decide +kernel
theorem dX7_blast_35 : decode cX7_blast 35 = .ok (.iconst 2, 1) := by decide +kernel
theorem dX7_blast_36 : decode cX7_blast 36 = .ok (.invokevirtual 95, 3) := by decide +kernel
theorem dX7_blast_39 : decode cX7_blast 39 = .ok (.ireturn, 1) := by decide +kernel
theorem dX7_blast_40 : decode cX7_blast 40 = .ok (.aload_n 0, 1) := by decide +kernel
theorem dX7_blast_41 : decode cX7_blast 41 = .ok (.dup, 1) := by decide +kernel
theorem dX7_blast_42 : decode cX7_blast 42 = .ok (.getfield 16, 3) := by decide +kernel
theorem dX7_blast_45 : decode cX7_blast 45 = .ok (.iconst 1, 1) := by decide +kernel
theorem dX7_blast_46 : decode cX7_blast 46 = .ok (.isub, 1) := by decide +kernel
theorem dX7_blast_47 : decode cX7_blast 47 = .ok (.putfield 16, 3) := by decide +kernel
theorem dX7_blast_50 : decode cX7_blast 50 = .ok (.aload_n 0, 1) := by decide +kernel
theorem dX7_blast_51 : decode cX7_blast 51 = .ok (.dup, 1) := by decide +kernel
theorem dX7_blast_52 : decode cX7_blast 52 = .ok (.getfield 135, 3) := by decide +kernel
theorem dX7_blast_55 : decode cX7_blast 55 = .ok (.iconst 1, 1) := by decide +kernel
theorem dX7_blast_56 : decode cX7_blast 56 = .ok (.iadd, 1) := by decide +kernel
theorem dX7_blast_57 : decode cX7_blast 57 = .ok (.putfield 135, 3) := by decide +kernel
theorem dX7_blast_60 : decode cX7_blast 60 = .ok (.aload_n 0, 1) := by decide +kernel
theorem dX7_blast_61 : decode cX7_blast 61 = .ok (.getfield 135, 3) := by decide +kernel
theorem dX7_blast_64 : decode cX7_blast 64 = .ok (.bipush 7, 2) := by decide +kernel
theorem dX7_blast_66 : decode cX7_blast 66 = .ok (.irem, 1) := by decide +kernel
theorem dX7_blast_67 : decode cX7_blast 67 = .ok (.ifCond .ne 18, 3) := by decide +kernel
theorem dX7_blast_70 : decode cX7_blast 70 = .ok (.aload_n 0, 1) := by decide +kernel
theorem dX7_blast_71 : decode cX7_blast 71 = .ok (.iload_n 1, 1) := by decide +kernel
theorem dX7_blast_72 : decode cX7_blast 72 = .ok (.invokevirtual 91, 3) := by decide +kernel
theorem dX7_blast_75 : decode cX7_blast 75 = .ok (.bipush 7, 2) := by decide +kernel
theorem dX7_blast_77 : decode cX7_blast 77 = .ok (.dup2, 1) := by decide +kernel
theorem dX7_blast_78 : decode cX7_blast 78 = .ok (.iaload, 1) := by decide +kernel
theorem dX7_blast_79 : decode cX7_blast 79 = .ok (.iconst 1, 1) := by decide +kernel
theorem dX7_blast_80 : decode cX7_blast 80 = .ok (.iadd, 1) := by decide +kernel
theorem dX7_blast_81 : decode cX7_blast 81 = .ok (.iastore, 1) := by decide +kernel
theorem dX7_blast_82 : decode cX7_blast 82 = .ok (.bipush (-2), 2) := by decide +kernel
theorem dX7_blast_84 : decode cX7_blast 84 = .ok (.ireturn, 1) := by decide +kernel
theorem dX7_blast_85 : decode cX7_blast 85 = .ok (.aload_n 0, 1) := by decide +kernel
theorem dX7_blast_86 : decode cX7_blast 86 = .ok (.iload_n 1, 1) := by decide +kernel
theorem dX7_blast_87 : decode cX7_blast 87 = .ok (.invokevirtual 91, 3) := by decide +kernel
theorem dX7_blast_90 : decode cX7_blast 90 = .ok (.invokestatic 138, 3) := by decide +kernel
theorem dX7_blast_93 : decode cX7_blast 93 = .ok (.bipush 40, 2) := by decide +kernel
theorem dX7_blast_95 : decode cX7_blast 95 = .ok (.if_icmp .lt 18, 3) := by decide +kernel
theorem dX7_blast_98 : decode cX7_blast 98 = .ok (.aload_n 0, 1) := by decide +kernel
theorem dX7_blast_99 : decode cX7_blast 99 = .ok (.getfield 12, 3) := by decide +kernel
theorem dX7_blast_102 : decode cX7_blast 102 = .ok (.aload_n 0, 1) := by decide +kernel
theorem dX7_blast_103 : decode cX7_blast 103 = .ok (.iload_n 1, 1) := by decide +kernel
theorem dX7_blast_104 : decode cX7_blast 104 = .ok (.invokevirtual 91, 3) := by decide +kernel
theorem dX7_blast_107 : decode cX7_blast 107 = .ok (.invokevirtual 141, 3) := by decide +kernel
theorem dX7_blast_110 : decode cX7_blast 110 = .ok (.goto 4, 3) := by decide +kernel
theorem dX7_blast_113 : decode cX7_blast 113 = .ok (.iconst 0, 1) := by decide +kernel
theorem dX7_blast_114 : decode cX7_blast 114 = .ok (.ireturn, 1) := by decide +kernel
theorem dX7_search_0 : decode cX7_search 0 = .ok (.aload_n 0, 1) := by decide +kernel
theorem dX7_search_1 : decode cX7_search 1 = .ok (.iconst 0, 1) := by decide +kernel
theorem dX7_search_2 : decode cX7_search 2 = .ok (.putfield 23, 3) := by decide +kernel
theorem dX7_search_5 : decode cX7_search 5 = .ok (.aload_n 0, 1) := by decide +kernel
theorem dX7_search_6 : decode cX7_search 6 = .ok (.iload_n 1, 1) := by decide +kernel
theorem dX7_search_7 : decode cX7_search 7 = .ok (.invokevirtual 110, 3) := by decide +kernel
theorem dX7_search_10 : decode cX7_search 10 = .ok (.ifCond .ne 9, 3) := by decide +kernel
theorem dX7_search_13 : decode cX7_search 13 = .ok (.aload_n 0, 1) := by decide +kernel
theorem dX7_search_14 : decode cX7_search 14 = .ok (.iconst 1, 1) := by decide +kernel
theorem dX7_search_15 : decode cX7_search 15 = .ok (.invokevirtual 95, 3) := by decide +kernel
theorem dX7_search_18 : decode cX7_search 18 = .ok (.ireturn, 1) := by decide +kernel
theorem dX7_search_19 : decode cX7_search 19 = .ok (.aload_n 0, 1) := by decide +kernel
theorem dX7_search_20 : decode cX7_search 20 = .ok (.iload_n 1, 1) := by decide +kernel
theorem dX7_search_21 : decode cX7_search 21 = .ok (.invokevirtual 91, 3) := by decide +kernel
theorem dX7_search_24 : decode cX7_search 24 = .ok (.bipush 7, 2) := by decide +kernel
theorem dX7_search_26 : decode cX7_search 26 = .ok (.iaload, 1) := by decide +kernel
theorem dX7_search_27 : decode cX7_search 27 = .ok (.ifCond .ne 9, 3) := by decide +kernel
theorem dX7_search_30 : decode cX7_search 30 = .ok (.aload_n 0, 1) := by decide +kernel
theorem dX7_search_31 : decode cX7_search 31 = .ok (.iconst 2, 1) := by decide +kernel
theorem dX7_search_32 : decode cX7_search 32 = .ok (.invokevirtual 95, 3) := by decide +kernel
theorem dX7_search_35 : decode cX7_search 35 = .ok (.ireturn, 1) := by decide +kernel
theorem dX7_search_36 : decode cX7_search 36 = .ok (.aload_n 0, 1) := by decide +kernel
theorem dX7_search_37 : decode cX7_search 37 = .ok (.iload_n 1, 1) := by decide +kernel
theorem dX7_search_38 : decode cX7_search 38 = .ok (.invokevirtual 91, 3) := by decide +kernel
theorem dX7_search_41 : decode cX7_search 41 = .ok (.bipush 7, 2) := by decide +kernel
theorem dX7_search_43 : decode cX7_search 43 = .ok (.dup2, 1) := by decide +kernel
theorem dX7_search_44 : decode cX7_search 44 = .ok (.iaload, 1) := by decide +kernel
theorem dX7_search_45 : decode cX7_search 45 = .ok (.iconst 1, 1) := by decide +kernel
theorem dX7_search_46 : decode cX7_search 46 = .ok (.isub, 1) := by decide +kernel
theorem dX7_search_47 : decode cX7_search 47 = .ok (.iastore, 1) := by decide +kernel
theorem dX7_search_48 : decode cX7_search 48 = .ok (.aload_n 0, 1) := by decide +kernel
theorem dX7_search_49 : decode cX7_search 49 = .ok (.iload_n 1, 1) := by decide +kernel
theorem dX7_search_50 : decode cX7_search 50 = .ok (.invokevirtual 91, 3) := by decide +kernel
theorem dX7_search_53 : decode cX7_search 53 = .ok (.bipush 7, 2) := by decide +kernel
theorem dX7_search_55 : decode cX7_search 55 = .ok (.iaload, 1) := by decide +kernel
theorem dX7_search_56 : decode cX7_search 56 = .ok (.ireturn, 1) := by decide +kernel
theorem dX7_test_0 : decode cX7_test 0 = .ok (.aload_n 0, 1) := by decide +kernel
theorem dX7_test_1 : decode cX7_test 1 = .ok (.iconst 0, 1) := by decide +kernel
theorem dX7_test_2 : decode cX7_test 2 = .ok (.putfield 23, 3) := by decide +kernel
theorem dX7_test_5 : decode cX7_test 5 = .ok (.aload_n 0, 1) := by decide +kernel
theorem dX7_test_6 : decode cX7_test 6 = .ok (.iload_n 1, 1) := by decide +kernel
theorem dX7_test_7 : decode cX7_test 7 = .ok (.invokevirtual 110, 3) := by decide +kernel
theorem dX7_test_10 : decode cX7_test 10 = .ok (.ifCond .ne 9, 3) := by decide +kernel
theorem dX7_test_13 : decode cX7_test 13 = .ok (.aload_n 0, 1) := by decide +kernel
theorem dX7_test_14 : decode cX7_test 14 = .ok (.iconst 1, 1) := by decide +kernel
theorem dX7_test_15 : decode cX7_test 15 = .ok (.invokevirtual 95, 3) := by decide +kernel
theorem dX7_test_18 : decode cX7_test 18 = .ok (.ireturn, 1) := by decide +kernel
theorem dX7_test_19 : decode cX7_test 19 = .ok (.aload_n 0, 1) := by decide +kernel
theorem dX7_test_20 : decode cX7_test 20 = .ok (.iload_n 1, 1) := by decide +kernel
theorem dX7_test_21 : decode cX7_test 21 = .ok (.invokevirtual 91, 3) := by decide +kernel
theorem dX7_test_24 : decode cX7_test 24 = .ok (.bipush 13, 2) := by decide +kernel
theorem dX7_test_26 : decode cX7_test 26 = .ok (.aload_n 0, 1) := by decide +kernel
theorem dX7_test_27 : decode cX7_test 27 = .ok (.iload_n 1, 1) := by decide +kernel
theorem dX7_test_28 : decode cX7_test 28 = .ok (.invokevirtual 147, 3) := by decide +kernel
theorem dX7_test_31 : decode cX7_test 31 = .ok (.iastore, 1) := by decide +kernel
theorem dX7_test_32 : decode cX7_test 32 = .ok (.aload_n 0, 1) := by decide +kernel
theorem dX7_test_33 : decode cX7_test 33 = .ok (.iload_n 1, 1) := by decide +kernel
theorem dX7_test_34 : decode cX7_test 34 = .ok (.invokevirtual 91, 3) := by decide +kernel
theorem dX7_test_37 : decode cX7_test 37 = .ok (.bipush 14, 2) := by decide +kernel
theorem dX7_test_39 : decode cX7_test 39 = .ok (.aload_n 0, 1) := by decide +kernel
theorem dX7_test_40 : decode cX7_test 40 = .ok (.getfield 12, 3) := by decide +kernel
theorem dX7_test_43 : decode cX7_test 43 = .ok (.getfield 125, 3) := by decide +kernel
theorem dX7_test_46 : decode cX7_test 46 = .ok (.bipush 12, 2) := by decide +kernel
theorem dX7_test_48 : decode cX7_test 48 = .ok (.iadd, 1) := by decide +kernel
theorem dX7_test_49 : decode cX7_test 49 = .ok (.iastore, 1) := by decide +kernel
theorem dX7_test_50 : decode cX7_test 50 = .ok (.aload_n 0, 1) := by decide +kernel
theorem dX7_test_51 : decode cX7_test 51 = .ok (.iload_n 1, 1) := by decide +kernel
theorem dX7_test_52 : decode cX7_test 52 = .ok (.invokevirtual 91, 3) := by decide +kernel
theorem dX7_test_55 : decode cX7_test 55 = .ok (.bipush 13, 2) := by decide +kernel
theorem dX7_test_57 : decode cX7_test 57 = .ok (.iaload, 1) := by decide +kernel
theorem dX7_test_58 : decode cX7_test 58 = .ok (.ireturn, 1) := by decide +kernel
theorem dX7_sweep_0 : decode cX7_sweep 0 = .ok (.aload_n 0, 1) := by decide +kernel
theorem dX7_sweep_1 : decode cX7_sweep 1 = .ok (.aload_n 0, 1) := by decide +kernel
theorem dX7_sweep_2 : decode cX7_sweep 2 = .ok (.iload_n 1, 1) := by decide +kernel
theorem dX7_sweep_3 : decode cX7_sweep 3 = .ok (.invokevirtual 110, 3) := by decide +kernel
theorem dX7_sweep_6 : decode cX7_sweep 6 = .ok (.ifCond .ne 7, 3) := by decide +kernel
theorem dX7_sweep_9 : decode cX7_sweep 9 = .ok (.iconst 1, 1) := by decide +kernel
theorem dX7_sweep_10 : decode cX7_sweep 10 = .ok (.goto 16, 3) := by decide +kernel
theorem dX7_sweep_13 : decode cX7_sweep 13 = .ok (.aload_n 0, 1) := by decide +kernel
theorem dX7_sweep_14 : decode cX7_sweep 14 = .ok (.iload_n 1, 1) := by decide +kernel
theorem dX7_sweep_15 : decode cX7_sweep 15 = .ok (.invokevirtual 132, 3) := by decide +kernel
theorem dX7_sweep_18 : decode cX7_sweep 18 = .ok (.ifCond .eq 7, 3) := by decide +kernel
theorem dX7_sweep_21 : decode cX7_sweep 21 = .ok (.iconst 2, 1) := by decide +kernel
theorem dX7_sweep_22 : decode cX7_sweep 22 = .ok (.goto 4, 3) := by decide +kernel
theorem dX7_sweep_25 : decode cX7_sweep 25 = .ok (.iconst 0, 1) := by decide +kernel
theorem dX7_sweep_26 : decode cX7_sweep 26 = .ok (.putfield 23, 3) := by decide +kernel
theorem dX7_sweep_29 : decode cX7_sweep 29 = .ok (.aload_n 0, 1) := by decide +kernel
theorem dX7_sweep_30 : decode cX7_sweep 30 = .ok (.getfield 23, 3) := by decide +kernel
theorem dX7_sweep_33 : decode cX7_sweep 33 = .ok (.ifCond .le 5, 3) := by decide +kernel
theorem dX7_sweep_36 : decode cX7_sweep 36 = .ok (.iconst 0, 1) := by decide +kernel
theorem dX7_sweep_37 : decode cX7_sweep 37 = .ok (.ireturn, 1) := by decide +kernel
theorem dX7_sweep_38 : decode cX7_sweep 38 = .ok (.aload_n 0, 1) := by decide +kernel
theorem dX7_sweep_39 : decode cX7_sweep 39 = .ok (.iload_n 1, 1) := by decide +kernel
theorem dX7_sweep_40 : decode cX7_sweep 40 = .ok (.invokevirtual 91, 3) := by decide +kernel
theorem dX7_sweep_43 : decode cX7_sweep 43 = .ok (.bipush 12, 2) := by decide +kernel
theorem dX7_sweep_45 : decode cX7_sweep 45 = .ok (.iaload, 1) := by decide +kernel
theorem dX7_sweep_46 : decode cX7_sweep 46 = .ok (.iconst 1, 1) := by decide +kernel
theorem dX7_sweep_47 : decode cX7_sweep 47 = .ok (.if_icmp .ne 7, 3) := by decide +kernel
theorem dX7_sweep_50 : decode cX7_sweep 50 = .ok (.iconst 1, 1) := by decide +kernel
theorem dX7_sweep_51 : decode cX7_sweep 51 = .ok (.goto 4, 3) := by decide +kernel
theorem dX7_sweep_54 : decode cX7_sweep 54 = .ok (.iconst 0, 1) := by decide +kernel
theorem dX7_sweep_55 : decode cX7_sweep 55 = .ok (.istore_n 2, 1) := by decide +kernel
theorem dX7_sweep_56 : decode cX7_sweep 56 = .ok (.aload_n 0, 1) := by decide +kernel
theorem dX7_sweep_57 : decode cX7_sweep 57 = .ok (.iload_n 1, 1) := by decide +kernel
theorem dX7_sweep_58 : decode cX7_sweep 58 = .ok (.invokevirtual 91, 3) := by decide +kernel
theorem dX7_sweep_61 : decode cX7_sweep 61 = .ok (.bipush 12, 2) := by decide +kernel
theorem dX7_sweep_63 : decode cX7_sweep 63 = .ok (.iconst 1, 1) := by decide +kernel
theorem dX7_sweep_64 : decode cX7_sweep 64 = .ok (.iastore, 1) := by decide +kernel
theorem dX7_sweep_65 : decode cX7_sweep 65 = .ok (.iload_n 2, 1) := by decide +kernel
theorem dX7_sweep_66 : decode cX7_sweep 66 = .ok (.ifCond .ne 7, 3) := by decide +kernel
theorem dX7_sweep_69 : decode cX7_sweep 69 = .ok (.iconst 1, 1) := by decide +kernel
theorem dX7_sweep_70 : decode cX7_sweep 70 = .ok (.goto 4, 3) := by decide +kernel
theorem dX7_sweep_73 : decode cX7_sweep 73 = .ok (.iconst 0, 1) := by decide +kernel
theorem dX7_sweep_74 : decode cX7_sweep 74 = .ok (.ireturn, 1) := by decide +kernel
theorem dX7_winch_0 : decode cX7_winch 0 = .ok (.aload_n 0, 1) := by decide +kernel
theorem dX7_winch_1 : decode cX7_winch 1 = .ok (.aload_n 0, 1) := by decide +kernel
theorem dX7_winch_2 : decode cX7_winch 2 = .ok (.iload_n 1, 1) := by decide +kernel
theorem dX7_winch_3 : decode cX7_winch 3 = .ok (.invokevirtual 110, 3) := by decide +kernel
theorem dX7_winch_6 : decode cX7_winch 6 = .ok (.ifCond .ne 7, 3) := by decide +kernel
theorem dX7_winch_9 : decode cX7_winch 9 = .ok (.iconst 1, 1) := by decide +kernel
theorem dX7_winch_10 : decode cX7_winch 10 = .ok (.goto 16, 3) := by decide +kernel
theorem dX7_winch_13 : decode cX7_winch 13 = .ok (.aload_n 0, 1) := by decide +kernel
theorem dX7_winch_14 : decode cX7_winch 14 = .ok (.iload_n 1, 1) := by decide +kernel
theorem dX7_winch_15 : decode cX7_winch 15 = .ok (.invokevirtual 132, 3) := by decide +kernel
theorem dX7_winch_18 : decode cX7_winch 18 = .ok (.ifCond .eq 7, 3) := by decide +kernel
theorem dX7_winch_21 : decode cX7_winch 21 = .ok (.iconst 2, 1) := by decide +kernel
theorem dX7_winch_22 : decode cX7_winch 22 = .ok (.goto 4, 3) := by decide +kernel
theorem dX7_winch_25 : decode cX7_winch 25 = .ok (.iconst 0, 1) := by decide +kernel
theorem dX7_winch_26 : decode cX7_winch 26 = .ok (.putfield 23, 3) := by decide +kernel
theorem dX7_winch_29 : decode cX7_winch 29 = .ok (.aload_n 0, 1) := by decide +kernel
theorem dX7_winch_30 : decode cX7_winch 30 = .ok (.getfield 23, 3) := by decide +kernel
theorem dX7_winch_33 : decode cX7_winch 33 = .ok (.ifCond .le 5, 3) := by decide +kernel
theorem dX7_winch_36 : decode cX7_winch 36 = .ok (.iconst 0, 1) := by decide +kernel
theorem dX7_winch_37 : decode cX7_winch 37 = .ok (.ireturn, 1) := by decide +kernel
theorem dX7_winch_38 : decode cX7_winch 38 = .ok (.aload_n 0, 1) := by decide +kernel
theorem dX7_winch_39 : decode cX7_winch 39 = .ok (.iload_n 1, 1) := by decide +kernel
theorem dX7_winch_40 : decode cX7_winch 40 = .ok (.invokevirtual 91, 3) := by decide +kernel
theorem dX7_winch_43 : decode cX7_winch 43 = .ok (.bipush 6, 2) := by decide +kernel
theorem dX7_winch_45 : decode cX7_winch 45 = .ok (.iaload, 1) := by decide +kernel
theorem dX7_winch_46 : decode cX7_winch 46 = .ok (.iconst 1, 1) := by decide +kernel
theorem dX7_winch_47 : decode cX7_winch 47 = .ok (.if_icmp .ne 7, 3) := by decide +kernel
theorem dX7_winch_50 : decode cX7_winch 50 = .ok (.iconst 1, 1) := by decide +kernel
theorem dX7_winch_51 : decode cX7_winch 51 = .ok (.goto 4, 3) := by decide +kernel
theorem dX7_winch_54 : decode cX7_winch 54 = .ok (.iconst 0, 1) := by decide +kernel
theorem dX7_winch_55 : decode cX7_winch 55 = .ok (.istore_n 3, 1) := by decide +kernel
theorem dX7_winch_56 : decode cX7_winch 56 = .ok (.aload_n 0, 1) := by decide +kernel
theorem dX7_winch_57 : decode cX7_winch 57 = .ok (.iload_n 1, 1) := by decide +kernel
theorem dX7_winch_58 : decode cX7_winch 58 = .ok (.invokevirtual 91, 3) := by decide +kernel
theorem dX7_winch_61 : decode cX7_winch 61 = .ok (.bipush 6, 2) := by decide +kernel
theorem dX7_winch_63 : decode cX7_winch 63 = .ok (.iload_n 2, 1) := by decide +kernel
theorem dX7_winch_64 : decode cX7_winch 64 = .ok (.ifCond .eq 7, 3) := by decide +kernel
theorem dX7_winch_67 : decode cX7_winch 67 = .ok (.iconst 1, 1) := by decide +kernel
theorem dX7_winch_68 : decode cX7_winch 68 = .ok (.goto 4, 3) := by decide +kernel
theorem dX7_winch_71 : decode cX7_winch 71 = .ok (.iconst 0, 1) := by decide +kernel
theorem dX7_winch_72 : decode cX7_winch 72 = .ok (.iastore, 1) := by decide +kernel
theorem dX7_winch_73 : decode cX7_winch 73 = .ok (.iload_n 3, 1) := by decide +kernel
theorem dX7_winch_74 : decode cX7_winch 74 = .ok (.ireturn, 1) := by decide +kernel
theorem dX7_groom_0 : decode cX7_groom 0 = .ok (.aload_n 0, 1) := by decide +kernel
theorem dX7_groom_1 : decode cX7_groom 1 = .ok (.iconst 0, 1) := by decide +kernel
theorem dX7_groom_2 : decode cX7_groom 2 = .ok (.putfield 23, 3) := by decide +kernel
theorem dX7_groom_5 : decode cX7_groom 5 = .ok (.aload_n 0, 1) := by decide +kernel
theorem dX7_groom_6 : decode cX7_groom 6 = .ok (.iload_n 1, 1) := by decide +kernel
theorem dX7_groom_7 : decode cX7_groom 7 = .ok (.invokevirtual 110, 3) := by decide +kernel
theorem dX7_groom_10 : decode cX7_groom 10 = .ok (.ifCond .ne 9, 3) := by decide +kernel
theorem dX7_groom_13 : decode cX7_groom 13 = .ok (.aload_n 0, 1) := by decide +kernel
theorem dX7_groom_14 : decode cX7_groom 14 = .ok (.iconst 1, 1) := by decide +kernel
theorem dX7_groom_15 : decode cX7_groom 15 = .ok (.invokevirtual 95, 3) := by decide +kernel
theorem dX7_groom_18 : decode cX7_groom 18 = .ok (.ireturn, 1) := by decide +kernel
theorem dX7_groom_19 : decode cX7_groom 19 = .ok (.aload_n 0, 1) := by decide +kernel
theorem dX7_groom_20 : decode cX7_groom 20 = .ok (.iload_n 1, 1) := by decide +kernel
theorem dX7_groom_21 : decode cX7_groom 21 = .ok (.invokevirtual 91, 3) := by decide +kernel
theorem dX7_groom_24 : decode cX7_groom 24 = .ok (.astore_n 2, 1) := by decide +kernel
theorem dX7_groom_25 : decode cX7_groom 25 = .ok (.aload_n 0, 1) := by decide +kernel
theorem dX7_groom_26 : decode cX7_groom 26 = .ok (.getfield 12, 3) := by decide +kernel
theorem dX7_groom_29 : decode cX7_groom 29 = .ok (.getfield 125, 3) := by decide +kernel
theorem dX7_groom_32 : decode cX7_groom 32 = .ok (.bipush 24, 2) := by decide +kernel
theorem dX7_groom_34 : decode cX7_groom 34 = .ok (.irem, 1) := by decide +kernel
theorem dX7_groom_35 : decode cX7_groom 35 = .ok (.bipush 7, 2) := by decide +kernel
theorem dX7_groom_37 : decode cX7_groom 37 = .ok (.bipush 17, 2) := by decide +kernel
theorem dX7_groom_39 : decode cX7_groom 39 = .ok (.invokestatic 78, 3) := by decide +kernel
theorem dX7_groom_42 : decode cX7_groom 42 = .ok (.ifCond .ne 7, 3) := by decide +kernel
theorem dX7_groom_45 : decode cX7_groom 45 = .ok (.iconst 1, 1) := by decide +kernel
theorem dX7_groom_46 : decode cX7_groom 46 = .ok (.goto 4, 3) := by decide +kernel
theorem dX7_groom_49 : decode cX7_groom 49 = .ok (.iconst 0, 1) := by decide +kernel
theorem dX7_groom_50 : decode cX7_groom 50 = .ok (.istore_n 3, 1) := by decide +kernel
theorem dX7_groom_51 : decode cX7_groom 51 = .ok (.aload_n 0, 1) := by decide +kernel
theorem dX7_groom_52 : decode cX7_groom 52 = .ok (.iload_n 1, 1) := by decide +kernel
theorem dX7_groom_53 : decode cX7_groom 53 = .ok (.invokevirtual 132, 3) := by decide +kernel
theorem dX7_groom_56 : decode cX7_groom 56 = .ok (.ifCond .ne 23, 3) := by decide +kernel
theorem dX7_groom_59 : decode cX7_groom 59 = .ok (.aload_n 2, 1) := by decide +kernel
theorem dX7_groom_60 : decode cX7_groom 60 = .ok (.bipush 18, 2) := by decide +kernel
theorem dX7_groom_62 : decode cX7_groom 62 = .ok (.iaload, 1) := by decide +kernel
theorem dX7_groom_63 : decode cX7_groom 63 = .ok (.iconst 2, 1) := by decide +kernel
theorem dX7_groom_64 : decode cX7_groom 64 = .ok (.if_icmp .lt 15, 3) := by decide +kernel
theorem dX7_groom_67 : decode cX7_groom 67 = .ok (.iload_n 3, 1) := by decide +kernel
theorem dX7_groom_68 : decode cX7_groom 68 = .ok (.ifCond .eq 11, 3) := by decide +kernel
theorem dX7_groom_71 : decode cX7_groom 71 = .ok (.aload_n 0, 1) := by decide +kernel
theorem dX7_groom_72 : decode cX7_groom 72 = .ok (.getfield 20, 3) := by decide +kernel
theorem dX7_groom_75 : decode cX7_groom 75 = .ok (.iconst 5, 1) := by decide +kernel
theorem dX7_groom_76 : decode cX7_groom 76 = .ok (.if_icmp .ge 9, 3) := by decide +kernel
theorem dX7_groom_79 : decode cX7_groom 79 = .ok (.aload_n 0, 1) := by decide +kernel
theorem dX7_groom_80 : decode cX7_groom 80 = .ok (.iconst 2, 1) := by decide +kernel
theorem dX7_groom_81 : decode cX7_groom 81 = .ok (.invokevirtual 95, 3) := by decide +kernel
theorem dX7_groom_84 : decode cX7_groom 84 = .ok (.ireturn, 1) := by decide +kernel
theorem dX7_groom_85 : decode cX7_groom 85 = .ok (.aload_n 0, 1) := by decide +kernel
theorem dX7_groom_86 : decode cX7_groom 86 = .ok (.dup, 1) := by decide +kernel
theorem dX7_groom_87 : decode cX7_groom 87 = .ok (.getfield 20, 3) := by decide +kernel
theorem dX7_groom_90 : decode cX7_groom 90 = .ok (.iconst 5, 1) := by decide +kernel
theorem dX7_groom_91 : decode cX7_groom 91 = .ok (.isub, 1) := by decide +kernel
theorem dX7_groom_92 : decode cX7_groom 92 = .ok (.putfield 20, 3) := by decide +kernel
theorem dX7_groom_95 : decode cX7_groom 95 = .ok (.aload_n 2, 1) := by decide +kernel
theorem dX7_groom_96 : decode cX7_groom 96 = .ok (.invokestatic 26, 3) := by decide +kernel
theorem dX7_groom_99 : decode cX7_groom 99 = .ok (.istore 4, 2) := by decide +kernel
theorem dX7_groom_101 : decode cX7_groom 101 = .ok (.sipush 300, 3) := by decide +kernel
theorem dX7_groom_104 : decode cX7_groom 104 = .ok (.bipush 9, 2) := by decide +kernel
theorem dX7_groom_106 : decode cX7_groom 106 = .ok (.aload_n 2, 1) := by decide +kernel
theorem dX7_groom_107 : decode cX7_groom 107 = .ok (.iload 4, 2) := by decide +kernel
theorem dX7_groom_109 : decode cX7_groom 109 = .ok (.iconst 1, 1) := by decide +kernel
theorem dX7_groom_110 : decode cX7_groom 110 = .ok (.isub, 1) := by decide +kernel
theorem dX7_groom_111 : decode cX7_groom 111 = .ok (.invokestatic 58, 3) := by decide +kernel
theorem dX7_groom_114 : decode cX7_groom 114 = .ok (.imul, 1) := by decide +kernel
theorem dX7_groom_115 : decode cX7_groom 115 = .ok (.bipush 10, 2) := by decide +kernel
theorem dX7_groom_117 : decode cX7_groom 117 = .ok (.idiv, 1) := by decide +kernel
theorem dX7_groom_118 : decode cX7_groom 118 = .ok (.invokestatic 38, 3) := by decide +kernel
theorem dX7_groom_121 : decode cX7_groom 121 = .ok (.istore 5, 2) := by decide +kernel
theorem dX7_groom_123 : decode cX7_groom 123 = .ok (.bipush 100, 2) := by decide +kernel
theorem dX7_groom_125 : decode cX7_groom 125 = .ok (.aload_n 2, 1) := by decide +kernel
theorem dX7_groom_126 : decode cX7_groom 126 = .ok (.iload 4, 2) := by decide +kernel
theorem dX7_groom_128 : decode cX7_groom 128 = .ok (.iconst 1, 1) := by decide +kernel
theorem dX7_groom_129 : decode cX7_groom 129 = .ok (.invokestatic 30, 3) := by decide +kernel
theorem dX7_groom_132 : decode cX7_groom 132 = .ok (.aload_n 2, 1) := by decide +kernel
theorem dX7_groom_133 : decode cX7_groom 133 = .ok (.iload 4, 2) := by decide +kernel
theorem dX7_groom_135 : decode cX7_groom 135 = .ok (.iconst 1, 1) := by decide +kernel
theorem dX7_groom_136 : decode cX7_groom 136 = .ok (.isub, 1) := by decide +kernel
theorem dX7_groom_137 : decode cX7_groom 137 = .ok (.iconst 1, 1) := by decide +kernel
theorem dX7_groom_138 : decode cX7_groom 138 = .ok (.invokestatic 30, 3) := by decide +kernel
theorem dX7_groom_141 : decode cX7_groom 141 = .ok (.invokestatic 144, 3) := by decide +kernel
theorem dX7_groom_144 : decode cX7_groom 144 = .ok (.bipush 10, 2) := by decide +kernel
theorem dX7_groom_146 : decode cX7_groom 146 = .ok (.iadd, 1) := by decide +kernel
theorem dX7_groom_147 : decode cX7_groom 147 = .ok (.invokestatic 38, 3) := by decide +kernel
theorem dX7_groom_150 : decode cX7_groom 150 = .ok (.istore 6, 2) := by decide +kernel
theorem dX7_groom_152 : decode cX7_groom 152 = .ok (.aload_n 2, 1) := by decide +kernel
theorem dX7_groom_153 : decode cX7_groom 153 = .ok (.iload 4, 2) := by decide +kernel
theorem dX7_groom_155 : decode cX7_groom 155 = .ok (.iconst 1, 1) := by decide +kernel
theorem dX7_groom_156 : decode cX7_groom 156 = .ok (.isub, 1) := by decide +kernel
theorem dX7_groom_157 : decode cX7_groom 157 = .ok (.invokestatic 54, 3) := by decide +kernel
theorem dX7_groom_160 : decode cX7_groom 160 = .ok (.aload_n 2, 1) := by decide +kernel
theorem dX7_groom_161 : decode cX7_groom 161 = .ok (.iload 5, 2) := by decide +kernel
theorem dX7_groom_163 : decode cX7_groom 163 = .ok (.iload 6, 2) := by decide +kernel
theorem dX7_groom_165 : decode cX7_groom 165 = .ok (.iconst 3, 1) := by decide +kernel
theorem dX7_groom_166 : decode cX7_groom 166 = .ok (.invokestatic 150, 3) := by decide +kernel
theorem dX7_groom_169 : decode cX7_groom 169 = .ok (.iload 5, 2) := by decide +kernel
theorem dX7_groom_171 : decode cX7_groom 171 = .ok (.ireturn, 1) := by decide +kernel
theorem dX7_open_0 : decode cX7_open 0 = .ok (.aload_n 0, 1) := by decide +kernel
theorem dX7_open_1 : decode cX7_open 1 = .ok (.iconst 0, 1) := by decide +kernel
theorem dX7_open_2 : decode cX7_open 2 = .ok (.putfield 23, 3) := by decide +kernel
theorem dX7_open_5 : decode cX7_open 5 = .ok (.aload_n 0, 1) := by decide +kernel
theorem dX7_open_6 : decode cX7_open 6 = .ok (.iload_n 1, 1) := by decide +kernel
theorem dX7_open_7 : decode cX7_open 7 = .ok (.invokevirtual 110, 3) := by decide +kernel
theorem dX7_open_10 : decode cX7_open 10 = .ok (.ifCond .ne 9, 3) := by decide +kernel
theorem dX7_open_13 : decode cX7_open 13 = .ok (.aload_n 0, 1) := by decide +kernel
theorem dX7_open_14 : decode cX7_open 14 = .ok (.iconst 1, 1) := by decide +kernel
theorem dX7_open_15 : decode cX7_open 15 = .ok (.invokevirtual 95, 3) := by decide +kernel
theorem dX7_open_18 : decode cX7_open 18 = .ok (.ireturn, 1) := by decide +kernel
theorem dX7_open_19 : decode cX7_open 19 = .ok (.aload_n 0, 1) := by decide +kernel
theorem dX7_open_20 : decode cX7_open 20 = .ok (.iload_n 1, 1) := by decide +kernel
theorem dX7_open_21 : decode cX7_open 21 = .ok (.invokevirtual 132, 3) := by decide +kernel
theorem dX7_open_24 : decode cX7_open 24 = .ok (.ifCond .eq 9, 3) := by decide +kernel
theorem dX7_open_27 : decode cX7_open 27 = .ok (.aload_n 0, 1) := by decide +kernel
theorem dX7_open_28 : decode cX7_open 28 = .ok (.iconst 2, 1) := by decide +kernel
theorem dX7_open_29 : decode cX7_open 29 = .ok (.invokevirtual 95, 3) := by decide +kernel
theorem dX7_open_32 : decode cX7_open 32 = .ok (.ireturn, 1) := by decide +kernel
theorem dX7_open_33 : decode cX7_open 33 = .ok (.aload_n 0, 1) := by decide +kernel
theorem dX7_open_34 : decode cX7_open 34 = .ok (.iload_n 1, 1) := by decide +kernel
theorem dX7_open_35 : decode cX7_open 35 = .ok (.invokevirtual 159, 3) := by decide +kernel
theorem dX7_open_38 : decode cX7_open 38 = .ok (.istore_n 2, 1) := by decide +kernel
theorem dX7_open_39 : decode cX7_open 39 = .ok (.iload_n 2, 1) := by decide +kernel
theorem dX7_open_40 : decode cX7_open 40 = .ok (.ifCond .le 5, 3) := by decide +kernel
theorem dX7_open_43 : decode cX7_open 43 = .ok (.iload_n 2, 1) := by decide +kernel
theorem dX7_open_44 : decode cX7_open 44 = .ok (.ireturn, 1) := by decide +kernel
theorem dX7_open_45 : decode cX7_open 45 = .ok (.aload_n 0, 1) := by decide +kernel
theorem dX7_open_46 : decode cX7_open 46 = .ok (.iload_n 1, 1) := by decide +kernel
theorem dX7_open_47 : decode cX7_open 47 = .ok (.invokevirtual 91, 3) := by decide +kernel
theorem dX7_open_50 : decode cX7_open 50 = .ok (.iconst 5, 1) := by decide +kernel
theorem dX7_open_51 : decode cX7_open 51 = .ok (.iconst 1, 1) := by decide +kernel
theorem dX7_open_52 : decode cX7_open 52 = .ok (.iastore, 1) := by decide +kernel
theorem dX7_open_53 : decode cX7_open 53 = .ok (.aload_n 0, 1) := by decide +kernel
theorem dX7_open_54 : decode cX7_open 54 = .ok (.iload_n 1, 1) := by decide +kernel
theorem dX7_open_55 : decode cX7_open 55 = .ok (.invokevirtual 91, 3) := by decide +kernel
theorem dX7_open_58 : decode cX7_open 58 = .ok (.bipush 15, 2) := by decide +kernel
theorem dX7_open_60 : decode cX7_open 60 = .ok (.aload_n 0, 1) := by decide +kernel
theorem dX7_open_61 : decode cX7_open 61 = .ok (.getfield 12, 3) := by decide +kernel
theorem dX7_open_64 : decode cX7_open 64 = .ok (.getfield 125, 3) := by decide +kernel
theorem dX7_open_67 : decode cX7_open 67 = .ok (.iastore, 1) := by decide +kernel
theorem dX7_open_68 : decode cX7_open 68 = .ok (.iconst 0, 1) := by decide +kernel
theorem dX7_open_69 : decode cX7_open 69 = .ok (.ireturn, 1) := by decide +kernel
theorem dX7_close_0 : decode cX7_close 0 = .ok (.aload_n 0, 1) := by decide +kernel
theorem dX7_close_1 : decode cX7_close 1 = .ok (.iconst 0, 1) := by decide +kernel
theorem dX7_close_2 : decode cX7_close 2 = .ok (.putfield 23, 3) := by decide +kernel
theorem dX7_close_5 : decode cX7_close 5 = .ok (.aload_n 0, 1) := by decide +kernel
theorem dX7_close_6 : decode cX7_close 6 = .ok (.iload_n 1, 1) := by decide +kernel
theorem dX7_close_7 : decode cX7_close 7 = .ok (.invokevirtual 110, 3) := by decide +kernel
theorem dX7_close_10 : decode cX7_close 10 = .ok (.ifCond .ne 9, 3) := by decide +kernel
theorem dX7_close_13 : decode cX7_close 13 = .ok (.aload_n 0, 1) := by decide +kernel
theorem dX7_close_14 : decode cX7_close 14 = .ok (.iconst 1, 1) := by decide +kernel
theorem dX7_close_15 : decode cX7_close 15 = .ok (.invokevirtual 95, 3) := by decide +kernel
theorem dX7_close_18 : decode cX7_close 18 = .ok (.ireturn, 1) := by decide +kernel
theorem dX7_close_19 : decode cX7_close 19 = .ok (.aload_n 0, 1) := by decide +kernel
theorem dX7_close_20 : decode cX7_close 20 = .ok (.iload_n 1, 1) := by decide +kernel
theorem dX7_close_21 : decode cX7_close 21 = .ok (.invokevirtual 132, 3) := by decide +kernel
theorem dX7_close_24 : decode cX7_close 24 = .ok (.ifCond .ne 9, 3) := by decide +kernel
theorem dX7_close_27 : decode cX7_close 27 = .ok (.aload_n 0, 1) := by decide +kernel
theorem dX7_close_28 : decode cX7_close 28 = .ok (.iconst 2, 1) := by decide +kernel
theorem dX7_close_29 : decode cX7_close 29 = .ok (.invokevirtual 95, 3) := by decide +kernel
theorem dX7_close_32 : decode cX7_close 32 = .ok (.ireturn, 1) := by decide +kernel
theorem dX7_close_33 : decode cX7_close 33 = .ok (.aload_n 0, 1) := by decide +kernel
theorem dX7_close_34 : decode cX7_close 34 = .ok (.getfield 12, 3) := by decide +kernel
theorem dX7_close_37 : decode cX7_close 37 = .ok (.aload_n 0, 1) := by decide +kernel
theorem dX7_close_38 : decode cX7_close 38 = .ok (.iload_n 1, 1) := by decide +kernel
theorem dX7_close_39 : decode cX7_close 39 = .ok (.invokevirtual 91, 3) := by decide +kernel
theorem dX7_close_42 : decode cX7_close 42 = .ok (.invokevirtual 162, 3) := by decide +kernel
theorem dX7_close_45 : decode cX7_close 45 = .ok (.aload_n 0, 1) := by decide +kernel
theorem dX7_close_46 : decode cX7_close 46 = .ok (.getfield 12, 3) := by decide +kernel
theorem dX7_close_49 : decode cX7_close 49 = .ok (.getfield 125, 3) := by decide +kernel
theorem dX7_close_52 : decode cX7_close 52 = .ok (.aload_n 0, 1) := by decide +kernel
theorem dX7_close_53 : decode cX7_close 53 = .ok (.iload_n 1, 1) := by decide +kernel
theorem dX7_close_54 : decode cX7_close 54 = .ok (.invokevirtual 91, 3) := by decide +kernel
theorem dX7_close_57 : decode cX7_close 57 = .ok (.bipush 15, 2) := by decide +kernel
theorem dX7_close_59 : decode cX7_close 59 = .ok (.iaload, 1) := by decide +kernel
theorem dX7_close_60 : decode cX7_close 60 = .ok (.isub, 1) := by decide +kernel
theorem dX7_close_61 : decode cX7_close 61 = .ok (.ireturn, 1) := by decide +kernel
theorem dX7_ofRun_0 : decode cX7_ofRun 0 = .ok (.aload_n 0, 1) := by decide +kernel
theorem dX7_ofRun_1 : decode cX7_ofRun 1 = .ok (.iconst 0, 1) := by decide +kernel
theorem dX7_ofRun_2 : decode cX7_ofRun 2 = .ok (.putfield 23, 3) := by decide +kernel
theorem dX7_ofRun_5 : decode cX7_ofRun 5 = .ok (.aload_n 0, 1) := by decide +kernel
theorem dX7_ofRun_6 : decode cX7_ofRun 6 = .ok (.iload_n 1, 1) := by decide +kernel
theorem dX7_ofRun_7 : decode cX7_ofRun 7 = .ok (.invokevirtual 110, 3) := by decide +kernel
theorem dX7_ofRun_10 : decode cX7_ofRun 10 = .ok (.ifCond .ne 9, 3) := by decide +kernel
theorem dX7_ofRun_13 : decode cX7_ofRun 13 = .ok (.aload_n 0, 1) := by decide +kernel
theorem dX7_ofRun_14 : decode cX7_ofRun 14 = .ok (.iconst 1, 1) := by decide +kernel
theorem dX7_ofRun_15 : decode cX7_ofRun 15 = .ok (.invokevirtual 95, 3) := by decide +kernel
theorem dX7_ofRun_18 : decode cX7_ofRun 18 = .ok (.ireturn, 1) := by decide +kernel
theorem dX7_ofRun_19 : decode cX7_ofRun 19 = .ok (.iload_n 2, 1) := by decide +kernel
theorem dX7_ofRun_20 : decode cX7_ofRun 20 = .ok (.iconst 0, 1) := by decide +kernel
theorem dX7_ofRun_21 : decode cX7_ofRun 21 = .ok (.bipush 13, 2) := by decide +kernel
theorem dX7_ofRun_23 : decode cX7_ofRun 23 = .ok (.invokestatic 78, 3) := by decide +kernel
theorem dX7_ofRun_26 : decode cX7_ofRun 26 = .ok (.ifCond .eq 12, 3) := by decide +kernel
theorem dX7_ofRun_29 : decode cX7_ofRun 29 = .ok (.aload_n 0, 1) := by decide +kernel
theorem dX7_ofRun_30 : decode cX7_ofRun 30 = .ok (.iload_n 1, 1) := by decide +kernel
theorem dX7_ofRun_31 : decode cX7_ofRun 31 = .ok (.iload_n 2, 1) := by decide +kernel
theorem dX7_ofRun_32 : decode cX7_ofRun 32 = .ok (.invokevirtual 166, 3) := by decide +kernel
theorem dX7_ofRun_35 : decode cX7_ofRun 35 = .ok (.goto 8, 3) := by decide +kernel
theorem dX7_ofRun_38 : decode cX7_ofRun 38 = .ok (.aload_n 0, 1) := by decide +kernel
theorem dX7_ofRun_39 : decode cX7_ofRun 39 = .ok (.iconst 2, 1) := by decide +kernel
theorem dX7_ofRun_40 : decode cX7_ofRun 40 = .ok (.invokevirtual 95, 3) := by decide +kernel
theorem dX7_ofRun_43 : decode cX7_ofRun 43 = .ok (.ireturn, 1) := by decide +kernel
theorem dX7_ofLayer_0 : decode cX7_ofLayer 0 = .ok (.aload_n 0, 1) := by decide +kernel
theorem dX7_ofLayer_1 : decode cX7_ofLayer 1 = .ok (.iconst 0, 1) := by decide +kernel
theorem dX7_ofLayer_2 : decode cX7_ofLayer 2 = .ok (.putfield 23, 3) := by decide +kernel
theorem dX7_ofLayer_5 : decode cX7_ofLayer 5 = .ok (.aload_n 0, 1) := by decide +kernel
theorem dX7_ofLayer_6 : decode cX7_ofLayer 6 = .ok (.iload_n 1, 1) := by decide +kernel
theorem dX7_ofLayer_7 : decode cX7_ofLayer 7 = .ok (.invokevirtual 110, 3) := by decide +kernel
theorem dX7_ofLayer_10 : decode cX7_ofLayer 10 = .ok (.ifCond .eq 19, 3) := by decide +kernel
theorem dX7_ofLayer_13 : decode cX7_ofLayer 13 = .ok (.iload_n 2, 1) := by decide +kernel
theorem dX7_ofLayer_14 : decode cX7_ofLayer 14 = .ok (.iconst 0, 1) := by decide +kernel
theorem dX7_ofLayer_15 : decode cX7_ofLayer 15 = .ok (.aload_n 0, 1) := by decide +kernel
theorem dX7_ofLayer_16 : decode cX7_ofLayer 16 = .ok (.iload_n 1, 1) := by decide +kernel
theorem dX7_ofLayer_17 : decode cX7_ofLayer 17 = .ok (.invokevirtual 91, 3) := by decide +kernel
theorem dX7_ofLayer_20 : decode cX7_ofLayer 20 = .ok (.invokestatic 26, 3) := by decide +kernel
theorem dX7_ofLayer_23 : decode cX7_ofLayer 23 = .ok (.invokestatic 78, 3) := by decide +kernel
theorem dX7_ofLayer_26 : decode cX7_ofLayer 26 = .ok (.ifCond .ne 9, 3) := by decide +kernel
theorem dX7_ofLayer_29 : decode cX7_ofLayer 29 = .ok (.aload_n 0, 1) := by decide +kernel
theorem dX7_ofLayer_30 : decode cX7_ofLayer 30 = .ok (.iconst 1, 1) := by decide +kernel
theorem dX7_ofLayer_31 : decode cX7_ofLayer 31 = .ok (.invokevirtual 95, 3) := by decide +kernel
theorem dX7_ofLayer_34 : decode cX7_ofLayer 34 = .ok (.ireturn, 1) := by decide +kernel
theorem dX7_ofLayer_35 : decode cX7_ofLayer 35 = .ok (.iload_n 3, 1) := by decide +kernel
theorem dX7_ofLayer_36 : decode cX7_ofLayer 36 = .ok (.iconst 0, 1) := by decide +kernel
theorem dX7_ofLayer_37 : decode cX7_ofLayer 37 = .ok (.iconst 2, 1) := by decide +kernel
theorem dX7_ofLayer_38 : decode cX7_ofLayer 38 = .ok (.invokestatic 78, 3) := by decide +kernel
theorem dX7_ofLayer_41 : decode cX7_ofLayer 41 = .ok (.ifCond .eq 16, 3) := by decide +kernel
theorem dX7_ofLayer_44 : decode cX7_ofLayer 44 = .ok (.aload_n 0, 1) := by decide +kernel
theorem dX7_ofLayer_45 : decode cX7_ofLayer 45 = .ok (.iload_n 1, 1) := by decide +kernel
theorem dX7_ofLayer_46 : decode cX7_ofLayer 46 = .ok (.invokevirtual 91, 3) := by decide +kernel
theorem dX7_ofLayer_49 : decode cX7_ofLayer 49 = .ok (.iload_n 2, 1) := by decide +kernel
theorem dX7_ofLayer_50 : decode cX7_ofLayer 50 = .ok (.iload_n 3, 1) := by decide +kernel
theorem dX7_ofLayer_51 : decode cX7_ofLayer 51 = .ok (.invokestatic 30, 3) := by decide +kernel
theorem dX7_ofLayer_54 : decode cX7_ofLayer 54 = .ok (.goto 8, 3) := by decide +kernel
theorem dX7_ofLayer_57 : decode cX7_ofLayer 57 = .ok (.aload_n 0, 1) := by decide +kernel
theorem dX7_ofLayer_58 : decode cX7_ofLayer 58 = .ok (.iconst 2, 1) := by decide +kernel
theorem dX7_ofLayer_59 : decode cX7_ofLayer 59 = .ok (.invokevirtual 95, 3) := by decide +kernel
theorem dX7_ofLayer_62 : decode cX7_ofLayer 62 = .ok (.ireturn, 1) := by decide +kernel
theorem dX7_ofLift_0 : decode cX7_ofLift 0 = .ok (.aload_n 0, 1) := by decide +kernel
theorem dX7_ofLift_1 : decode cX7_ofLift 1 = .ok (.iconst 0, 1) := by decide +kernel
theorem dX7_ofLift_2 : decode cX7_ofLift 2 = .ok (.putfield 23, 3) := by decide +kernel
theorem dX7_ofLift_5 : decode cX7_ofLift 5 = .ok (.aload_n 0, 1) := by decide +kernel
theorem dX7_ofLift_6 : decode cX7_ofLift 6 = .ok (.iload_n 1, 1) := by decide +kernel
theorem dX7_ofLift_7 : decode cX7_ofLift 7 = .ok (.invokevirtual 103, 3) := by decide +kernel
theorem dX7_ofLift_10 : decode cX7_ofLift 10 = .ok (.ifCond .ne 9, 3) := by decide +kernel
theorem dX7_ofLift_13 : decode cX7_ofLift 13 = .ok (.aload_n 0, 1) := by decide +kernel
theorem dX7_ofLift_14 : decode cX7_ofLift 14 = .ok (.iconst 1, 1) := by decide +kernel
theorem dX7_ofLift_15 : decode cX7_ofLift 15 = .ok (.invokevirtual 95, 3) := by decide +kernel
theorem dX7_ofLift_18 : decode cX7_ofLift 18 = .ok (.ireturn, 1) := by decide +kernel
theorem dX7_ofLift_19 : decode cX7_ofLift 19 = .ok (.iload_n 2, 1) := by decide +kernel
theorem dX7_ofLift_20 : decode cX7_ofLift 20 = .ok (.iconst 0, 1) := by decide +kernel
theorem dX7_ofLift_21 : decode cX7_ofLift 21 = .ok (.iconst 5, 1) := by decide +kernel
theorem dX7_ofLift_22 : decode cX7_ofLift 22 = .ok (.invokestatic 78, 3) := by decide +kernel
theorem dX7_ofLift_25 : decode cX7_ofLift 25 = .ok (.ifCond .eq 12, 3) := by decide +kernel
theorem dX7_ofLift_28 : decode cX7_ofLift 28 = .ok (.aload_n 0, 1) := by decide +kernel
theorem dX7_ofLift_29 : decode cX7_ofLift 29 = .ok (.iload_n 1, 1) := by decide +kernel
theorem dX7_ofLift_30 : decode cX7_ofLift 30 = .ok (.iload_n 2, 1) := by decide +kernel
theorem dX7_ofLift_31 : decode cX7_ofLift 31 = .ok (.invokevirtual 172, 3) := by decide +kernel
theorem dX7_ofLift_34 : decode cX7_ofLift 34 = .ok (.goto 8, 3) := by decide +kernel
theorem dX7_ofLift_37 : decode cX7_ofLift 37 = .ok (.aload_n 0, 1) := by decide +kernel
theorem dX7_ofLift_38 : decode cX7_ofLift 38 = .ok (.iconst 2, 1) := by decide +kernel
theorem dX7_ofLift_39 : decode cX7_ofLift 39 = .ok (.invokevirtual 95, 3) := by decide +kernel
theorem dX7_ofLift_42 : decode cX7_ofLift 42 = .ok (.ireturn, 1) := by decide +kernel
theorem dX7_manyNow_0 : decode cX7_manyNow 0 = .ok (.iconst 0, 1) := by decide +kernel
theorem dX7_manyNow_1 : decode cX7_manyNow 1 = .ok (.istore_n 2, 1) := by decide +kernel
theorem dX7_manyNow_2 : decode cX7_manyNow 2 = .ok (.iconst 0, 1) := by decide +kernel
theorem dX7_manyNow_3 : decode cX7_manyNow 3 = .ok (.istore_n 3, 1) := by decide +kernel
theorem dX7_manyNow_4 : decode cX7_manyNow 4 = .ok (.iconst 0, 1) := by decide +kernel
theorem dX7_manyNow_5 : decode cX7_manyNow 5 = .ok (.istore 4, 2) := by decide +kernel
theorem dX7_manyNow_7 : decode cX7_manyNow 7 = .ok (.aload_n 0, 1) := by decide +kernel
theorem dX7_manyNow_8 : decode cX7_manyNow 8 = .ok (.getfield 12, 3) := by decide +kernel
theorem dX7_manyNow_11 : decode cX7_manyNow 11 = .ok (.getfield 68, 3) := by decide +kernel
theorem dX7_manyNow_14 : decode cX7_manyNow 14 = .ok (.invokevirtual 175, 3) := by decide +kernel
theorem dX7_manyNow_17 : decode cX7_manyNow 17 = .ok (.astore 5, 2) := by decide +kernel
theorem dX7_manyNow_19 : decode cX7_manyNow 19 = .ok (.aload 5, 2) := by decide +kernel
theorem dX7_manyNow_21 : decode cX7_manyNow 21 = .ok (.invokeinterface 179 1, 5) := by decide +kernel
theorem dX7_manyNow_26 : decode cX7_manyNow 26 = .ok (.ifCond .eq 25, 3) := by decide +kernel
theorem dX7_manyNow_29 : decode cX7_manyNow 29 = .ok (.aload 5, 2) := by decide +kernel
theorem dX7_manyNow_31 : decode cX7_manyNow 31 = .ok (.invokeinterface 185 1, 5) := by decide +kernel
theorem dX7_manyNow_36 : decode cX7_manyNow 36 = .ok (.checkcast 89, 3) := by decide +kernel
theorem dX7_manyNow_39 : decode cX7_manyNow 39 = .ok (.astore 6, 2) := by decide +kernel
theorem dX7_manyNow_41 : decode cX7_manyNow 41 = .ok (.iload_n 3, 1) := by decide +kernel
theorem dX7_manyNow_42 : decode cX7_manyNow 42 = .ok (.aload 6, 2) := by decide +kernel
theorem dX7_manyNow_44 : decode cX7_manyNow 44 = .ok (.iconst 4, 1) := by decide +kernel
theorem dX7_manyNow_45 : decode cX7_manyNow 45 = .ok (.iaload, 1) := by decide +kernel
theorem dX7_manyNow_46 : decode cX7_manyNow 46 = .ok (.iadd, 1) := by decide +kernel
theorem dX7_manyNow_47 : decode cX7_manyNow 47 = .ok (.istore_n 3, 1) := by decide +kernel
theorem dX7_manyNow_48 : decode cX7_manyNow 48 = .ok (.goto (-29), 3) := by decide +kernel
theorem dX7_manyNow_51 : decode cX7_manyNow 51 = .ok (.aload_n 0, 1) := by decide +kernel
theorem dX7_manyNow_52 : decode cX7_manyNow 52 = .ok (.getfield 12, 3) := by decide +kernel
theorem dX7_manyNow_55 : decode cX7_manyNow 55 = .ok (.getfield 82, 3) := by decide +kernel
theorem dX7_manyNow_58 : decode cX7_manyNow 58 = .ok (.invokevirtual 175, 3) := by decide +kernel
theorem dX7_manyNow_61 : decode cX7_manyNow 61 = .ok (.astore 5, 2) := by decide +kernel
theorem dX7_manyNow_63 : decode cX7_manyNow 63 = .ok (.aload 5, 2) := by decide +kernel
theorem dX7_manyNow_65 : decode cX7_manyNow 65 = .ok (.invokeinterface 179 1, 5) := by decide +kernel
theorem dX7_manyNow_70 : decode cX7_manyNow 70 = .ok (.ifCond .eq 41, 3) := by decide +kernel
theorem dX7_manyNow_73 : decode cX7_manyNow 73 = .ok (.aload 5, 2) := by decide +kernel
theorem dX7_manyNow_75 : decode cX7_manyNow 75 = .ok (.invokeinterface 185 1, 5) := by decide +kernel
theorem dX7_manyNow_80 : decode cX7_manyNow 80 = .ok (.checkcast 89, 3) := by decide +kernel
theorem dX7_manyNow_83 : decode cX7_manyNow 83 = .ok (.astore 6, 2) := by decide +kernel
theorem dX7_manyNow_85 : decode cX7_manyNow 85 = .ok (.iload_n 2, 1) := by decide +kernel
theorem dX7_manyNow_86 : decode cX7_manyNow 86 = .ok (.aload 6, 2) := by decide +kernel
theorem dX7_manyNow_88 : decode cX7_manyNow 88 = .ok (.iconst 5, 1) := by decide +kernel
theorem dX7_manyNow_89 : decode cX7_manyNow 89 = .ok (.iaload, 1) := by decide +kernel
theorem dX7_manyNow_90 : decode cX7_manyNow 90 = .ok (.iadd, 1) := by decide +kernel
theorem dX7_manyNow_91 : decode cX7_manyNow 91 = .ok (.istore_n 2, 1) := by decide +kernel
theorem dX7_manyNow_92 : decode cX7_manyNow 92 = .ok (.iload 4, 2) := by decide +kernel
theorem dX7_manyNow_94 : decode cX7_manyNow 94 = .ok (.aload 6, 2) := by decide +kernel
theorem dX7_manyNow_96 : decode cX7_manyNow 96 = .ok (.iconst 0, 1) := by decide +kernel
theorem dX7_manyNow_97 : decode cX7_manyNow 97 = .ok (.invokestatic 58, 3) := by decide +kernel
theorem dX7_manyNow_100 : decode cX7_manyNow 100 = .ok (.aload 6, 2) := by decide +kernel
theorem dX7_manyNow_102 : decode cX7_manyNow 102 = .ok (.iconst 4, 1) := by decide +kernel
theorem dX7_manyNow_103 : decode cX7_manyNow 103 = .ok (.iaload, 1) := by decide +kernel
theorem dX7_manyNow_104 : decode cX7_manyNow 104 = .ok (.imul, 1) := by decide +kernel
theorem dX7_manyNow_105 : decode cX7_manyNow 105 = .ok (.iadd, 1) := by decide +kernel
theorem dX7_manyNow_106 : decode cX7_manyNow 106 = .ok (.istore 4, 2) := by decide +kernel
theorem dX7_manyNow_108 : decode cX7_manyNow 108 = .ok (.goto (-45), 3) := by decide +kernel
theorem dX7_manyNow_111 : decode cX7_manyNow 111 = .ok (.bipush 15, 2) := by decide +kernel
theorem dX7_manyNow_113 : decode cX7_manyNow 113 = .ok (.newarray .int, 2) := by decide +kernel
theorem dX7_manyNow_115 : decode cX7_manyNow 115 = .ok (.dup, 1) := by decide +kernel
theorem dX7_manyNow_116 : decode cX7_manyNow 116 = .ok (.iconst 0, 1) := by decide +kernel
theorem dX7_manyNow_117 : decode cX7_manyNow 117 = .ok (.aload_n 0, 1) := by decide +kernel
theorem dX7_manyNow_118 : decode cX7_manyNow 118 = .ok (.getfield 12, 3) := by decide +kernel
theorem dX7_manyNow_121 : decode cX7_manyNow 121 = .ok (.getfield 125, 3) := by decide +kernel
theorem dX7_manyNow_124 : decode cX7_manyNow 124 = .ok (.iastore, 1) := by decide +kernel
theorem dX7_manyNow_125 : decode cX7_manyNow 125 = .ok (.dup, 1) := by decide +kernel
theorem dX7_manyNow_126 : decode cX7_manyNow 126 = .ok (.iconst 1, 1) := by decide +kernel
theorem dX7_manyNow_127 : decode cX7_manyNow 127 = .ok (.aload_n 0, 1) := by decide +kernel
theorem dX7_manyNow_128 : decode cX7_manyNow 128 = .ok (.getfield 12, 3) := by decide +kernel
theorem dX7_manyNow_131 : decode cX7_manyNow 131 = .ok (.getfield 68, 3) := by decide +kernel
theorem dX7_manyNow_134 : decode cX7_manyNow 134 = .ok (.invokevirtual 72, 3) := by decide +kernel
theorem dX7_manyNow_137 : decode cX7_manyNow 137 = .ok (.iastore, 1) := by decide +kernel
theorem dX7_manyNow_138 : decode cX7_manyNow 138 = .ok (.dup, 1) := by decide +kernel
theorem dX7_manyNow_139 : decode cX7_manyNow 139 = .ok (.iconst 2, 1) := by decide +kernel
theorem dX7_manyNow_140 : decode cX7_manyNow 140 = .ok (.aload_n 0, 1) := by decide +kernel
theorem dX7_manyNow_141 : decode cX7_manyNow 141 = .ok (.getfield 12, 3) := by decide +kernel
theorem dX7_manyNow_144 : decode cX7_manyNow 144 = .ok (.getfield 82, 3) := by decide +kernel
theorem dX7_manyNow_147 : decode cX7_manyNow 147 = .ok (.invokevirtual 72, 3) := by decide +kernel
theorem dX7_manyNow_150 : decode cX7_manyNow 150 = .ok (.iastore, 1) := by decide +kernel
theorem dX7_manyNow_151 : decode cX7_manyNow 151 = .ok (.dup, 1) := by decide +kernel
theorem dX7_manyNow_152 : decode cX7_manyNow 152 = .ok (.iconst 3, 1) := by decide +kernel
theorem dX7_manyNow_153 : decode cX7_manyNow 153 = .ok (.iload_n 2, 1) := by decide +kernel
theorem dX7_manyNow_154 : decode cX7_manyNow 154 = .ok (.iastore, 1) := by decide +kernel
theorem dX7_manyNow_155 : decode cX7_manyNow 155 = .ok (.dup, 1) := by decide +kernel
theorem dX7_manyNow_156 : decode cX7_manyNow 156 = .ok (.iconst 4, 1) := by decide +kernel
theorem dX7_manyNow_157 : decode cX7_manyNow 157 = .ok (.aload_n 0, 1) := by decide +kernel
theorem dX7_manyNow_158 : decode cX7_manyNow 158 = .ok (.getfield 12, 3) := by decide +kernel
theorem dX7_manyNow_161 : decode cX7_manyNow 161 = .ok (.getfield 113, 3) := by decide +kernel
theorem dX7_manyNow_164 : decode cX7_manyNow 164 = .ok (.iastore, 1) := by decide +kernel
theorem dX7_manyNow_165 : decode cX7_manyNow 165 = .ok (.dup, 1) := by decide +kernel
theorem dX7_manyNow_166 : decode cX7_manyNow 166 = .ok (.iconst 5, 1) := by decide +kernel
theorem dX7_manyNow_167 : decode cX7_manyNow 167 = .ok (.aload_n 0, 1) := by decide +kernel
theorem dX7_manyNow_168 : decode cX7_manyNow 168 = .ok (.getfield 16, 3) := by decide +kernel
theorem dX7_manyNow_171 : decode cX7_manyNow 171 = .ok (.iastore, 1) := by decide +kernel
theorem dX7_manyNow_172 : decode cX7_manyNow 172 = .ok (.dup, 1) := by decide +kernel
theorem dX7_manyNow_173 : decode cX7_manyNow 173 = .ok (.bipush 6, 2) := by decide +kernel
theorem dX7_manyNow_175 : decode cX7_manyNow 175 = .ok (.aload_n 0, 1) := by decide +kernel
theorem dX7_manyNow_176 : decode cX7_manyNow 176 = .ok (.getfield 20, 3) := by decide +kernel
theorem dX7_manyNow_179 : decode cX7_manyNow 179 = .ok (.iastore, 1) := by decide +kernel
theorem dX7_manyNow_180 : decode cX7_manyNow 180 = .ok (.dup, 1) := by decide +kernel
theorem dX7_manyNow_181 : decode cX7_manyNow 181 = .ok (.bipush 7, 2) := by decide +kernel
theorem dX7_manyNow_183 : decode cX7_manyNow 183 = .ok (.aload_n 0, 1) := by decide +kernel
theorem dX7_manyNow_184 : decode cX7_manyNow 184 = .ok (.getfield 12, 3) := by decide +kernel
theorem dX7_manyNow_187 : decode cX7_manyNow 187 = .ok (.getfield 116, 3) := by decide +kernel
theorem dX7_manyNow_190 : decode cX7_manyNow 190 = .ok (.iastore, 1) := by decide +kernel
theorem dX7_manyNow_191 : decode cX7_manyNow 191 = .ok (.dup, 1) := by decide +kernel
theorem dX7_manyNow_192 : decode cX7_manyNow 192 = .ok (.bipush 8, 2) := by decide +kernel
theorem dX7_manyNow_194 : decode cX7_manyNow 194 = .ok (.aload_n 0, 1) := by decide +kernel
theorem dX7_manyNow_195 : decode cX7_manyNow 195 = .ok (.getfield 12, 3) := by decide +kernel
theorem dX7_manyNow_198 : decode cX7_manyNow 198 = .ok (.getfield 189, 3) := by decide +kernel
theorem dX7_manyNow_201 : decode cX7_manyNow 201 = .ok (.iastore, 1) := by decide +kernel
theorem dX7_manyNow_202 : decode cX7_manyNow 202 = .ok (.dup, 1) := by decide +kernel
theorem dX7_manyNow_203 : decode cX7_manyNow 203 = .ok (.bipush 9, 2) := by decide +kernel
theorem dX7_manyNow_205 : decode cX7_manyNow 205 = .ok (.aload_n 0, 1) := by decide +kernel
theorem dX7_manyNow_206 : decode cX7_manyNow 206 = .ok (.getfield 12, 3) := by decide +kernel
theorem dX7_manyNow_209 : decode cX7_manyNow 209 = .ok (.getfield 192, 3) := by decide +kernel
theorem dX7_manyNow_212 : decode cX7_manyNow 212 = .ok (.iastore, 1) := by decide +kernel
theorem dX7_manyNow_213 : decode cX7_manyNow 213 = .ok (.dup, 1) := by decide +kernel
theorem dX7_manyNow_214 : decode cX7_manyNow 214 = .ok (.bipush 10, 2) := by decide +kernel
theorem dX7_manyNow_216 : decode cX7_manyNow 216 = .ok (.aload_n 0, 1) := by decide +kernel
theorem dX7_manyNow_217 : decode cX7_manyNow 217 = .ok (.getfield 12, 3) := by decide +kernel
theorem dX7_manyNow_220 : decode cX7_manyNow 220 = .ok (.getfield 195, 3) := by decide +kernel
theorem dX7_manyNow_223 : decode cX7_manyNow 223 = .ok (.iastore, 1) := by decide +kernel
theorem dX7_manyNow_224 : decode cX7_manyNow 224 = .ok (.dup, 1) := by decide +kernel
theorem dX7_manyNow_225 : decode cX7_manyNow 225 = .ok (.bipush 11, 2) := by decide +kernel
theorem dX7_manyNow_227 : decode cX7_manyNow 227 = .ok (.aload_n 0, 1) := by decide +kernel
theorem dX7_manyNow_228 : decode cX7_manyNow 228 = .ok (.getfield 12, 3) := by decide +kernel
theorem dX7_manyNow_231 : decode cX7_manyNow 231 = .ok (.getfield 198, 3) := by decide +kernel
theorem dX7_manyNow_234 : decode cX7_manyNow 234 = .ok (.iastore, 1) := by decide +kernel
theorem dX7_manyNow_235 : decode cX7_manyNow 235 = .ok (.dup, 1) := by decide +kernel
theorem dX7_manyNow_236 : decode cX7_manyNow 236 = .ok (.bipush 12, 2) := by decide +kernel
theorem dX7_manyNow_238 : decode cX7_manyNow 238 = .ok (.iload_n 3, 1) := by decide +kernel
theorem dX7_manyNow_239 : decode cX7_manyNow 239 = .ok (.iastore, 1) := by decide +kernel
theorem dX7_manyNow_240 : decode cX7_manyNow 240 = .ok (.dup, 1) := by decide +kernel
theorem dX7_manyNow_241 : decode cX7_manyNow 241 = .ok (.bipush 13, 2) := by decide +kernel
theorem dX7_manyNow_243 : decode cX7_manyNow 243 = .ok (.aload_n 0, 1) := by decide +kernel
theorem dX7_manyNow_244 : decode cX7_manyNow 244 = .ok (.getfield 12, 3) := by decide +kernel
theorem dX7_manyNow_247 : decode cX7_manyNow 247 = .ok (.getfield 201, 3) := by decide +kernel
theorem dX7_manyNow_250 : decode cX7_manyNow 250 = .ok (.iastore, 1) := by decide +kernel
theorem dX7_manyNow_251 : decode cX7_manyNow 251 = .ok (.dup, 1) := by decide +kernel
theorem dX7_manyNow_252 : decode cX7_manyNow 252 = .ok (.bipush 14, 2) := by decide +kernel
theorem dX7_manyNow_254 : decode cX7_manyNow 254 = .ok (.iload 4, 2) := by decide +kernel
theorem dX7_manyNow_256 : decode cX7_manyNow 256 = .ok (.iastore, 1) := by decide +kernel
theorem dX7_manyNow_257 : decode cX7_manyNow 257 = .ok (.astore 5, 2) := by decide +kernel
theorem dX7_manyNow_259 : decode cX7_manyNow 259 = .ok (.aload 5, 2) := by decide +kernel
theorem dX7_manyNow_261 : decode cX7_manyNow 261 = .ok (.iload_n 1, 1) := by decide +kernel
theorem dX7_manyNow_262 : decode cX7_manyNow 262 = .ok (.iaload, 1) := by decide +kernel
theorem dX7_manyNow_263 : decode cX7_manyNow 263 = .ok (.ireturn, 1) := by decide +kernel
theorem dX7_many_0 : decode cX7_many 0 = .ok (.aload_n 0, 1) := by decide +kernel
theorem dX7_many_1 : decode cX7_many 1 = .ok (.iconst 0, 1) := by decide +kernel
theorem dX7_many_2 : decode cX7_many 2 = .ok (.putfield 23, 3) := by decide +kernel
theorem dX7_many_5 : decode cX7_many 5 = .ok (.iload_n 1, 1) := by decide +kernel
theorem dX7_many_6 : decode cX7_many 6 = .ok (.iconst 0, 1) := by decide +kernel
theorem dX7_many_7 : decode cX7_many 7 = .ok (.bipush 14, 2) := by decide +kernel
theorem dX7_many_9 : decode cX7_many 9 = .ok (.invokestatic 78, 3) := by decide +kernel
theorem dX7_many_12 : decode cX7_many 12 = .ok (.ifCond .eq 11, 3) := by decide +kernel
theorem dX7_many_15 : decode cX7_many 15 = .ok (.aload_n 0, 1) := by decide +kernel
end
section
theorem dX7_many_16 : decode cX7_many 16 = .ok (.iload_n 1, 1) := by decide +kernel
theorem dX7_many_17 : decode cX7_many 17 = .ok (.invokevirtual 204, 3) := by decide +kernel
theorem dX7_many_20 : decode cX7_many 20 = .ok (.goto 8, 3) := by decide +kernel
theorem dX7_many_23 : decode cX7_many 23 = .ok (.aload_n 0, 1) := by decide +kernel
theorem dX7_many_24 : decode cX7_many 24 = .ok (.iconst 1, 1) := by decide +kernel
theorem dX7_many_25 : decode cX7_many 25 = .ok (.invokevirtual 95, 3) := by decide +kernel
theorem dX7_many_28 : decode cX7_many 28 = .ok (.ireturn, 1) := by decide +kernel
theorem dX7_meanDepth_0 : decode cX7_meanDepth 0 = .ok (.aload_n 0, 1) := by decide +kernel
theorem dX7_meanDepth_1 : decode cX7_meanDepth 1 = .ok (.iconst 0, 1) := by decide +kernel
theorem dX7_meanDepth_2 : decode cX7_meanDepth 2 = .ok (.putfield 23, 3) := by decide +kernel
theorem dX7_meanDepth_5 : decode cX7_meanDepth 5 = .ok (.iconst 0, 1) := by decide +kernel
theorem dX7_meanDepth_6 : decode cX7_meanDepth 6 = .ok (.istore_n 1, 1) := by decide +kernel
theorem dX7_meanDepth_7 : decode cX7_meanDepth 7 = .ok (.aload_n 0, 1) := by decide +kernel
theorem dX7_meanDepth_8 : decode cX7_meanDepth 8 = .ok (.getfield 12, 3) := by decide +kernel
theorem dX7_meanDepth_11 : decode cX7_meanDepth 11 = .ok (.getfield 82, 3) := by decide +kernel
theorem dX7_meanDepth_14 : decode cX7_meanDepth 14 = .ok (.invokevirtual 175, 3) := by decide +kernel
theorem dX7_meanDepth_17 : decode cX7_meanDepth 17 = .ok (.astore_n 2, 1) := by decide +kernel
theorem dX7_meanDepth_18 : decode cX7_meanDepth 18 = .ok (.aload_n 2, 1) := by decide +kernel
theorem dX7_meanDepth_19 : decode cX7_meanDepth 19 = .ok (.invokeinterface 179 1, 5) := by decide +kernel
theorem dX7_meanDepth_24 : decode cX7_meanDepth 24 = .ok (.ifCond .eq 22, 3) := by decide +kernel
theorem dX7_meanDepth_27 : decode cX7_meanDepth 27 = .ok (.aload_n 2, 1) := by decide +kernel
theorem dX7_meanDepth_28 : decode cX7_meanDepth 28 = .ok (.invokeinterface 185 1, 5) := by decide +kernel
theorem dX7_meanDepth_33 : decode cX7_meanDepth 33 = .ok (.checkcast 89, 3) := by decide +kernel
theorem dX7_meanDepth_36 : decode cX7_meanDepth 36 = .ok (.astore_n 3, 1) := by decide +kernel
theorem dX7_meanDepth_37 : decode cX7_meanDepth 37 = .ok (.iload_n 1, 1) := by decide +kernel
theorem dX7_meanDepth_38 : decode cX7_meanDepth 38 = .ok (.aload_n 3, 1) := by decide +kernel
theorem dX7_meanDepth_39 : decode cX7_meanDepth 39 = .ok (.iconst 4, 1) := by decide +kernel
theorem dX7_meanDepth_40 : decode cX7_meanDepth 40 = .ok (.iaload, 1) := by decide +kernel
theorem dX7_meanDepth_41 : decode cX7_meanDepth 41 = .ok (.iadd, 1) := by decide +kernel
theorem dX7_meanDepth_42 : decode cX7_meanDepth 42 = .ok (.istore_n 1, 1) := by decide +kernel
theorem dX7_meanDepth_43 : decode cX7_meanDepth 43 = .ok (.goto (-25), 3) := by decide +kernel
theorem dX7_meanDepth_46 : decode cX7_meanDepth 46 = .ok (.iload_n 1, 1) := by decide +kernel
theorem dX7_meanDepth_47 : decode cX7_meanDepth 47 = .ok (.ifCond .ne 7, 3) := by decide +kernel
theorem dX7_meanDepth_50 : decode cX7_meanDepth 50 = .ok (.dconst 0, 1) := by decide +kernel
theorem dX7_meanDepth_51 : decode cX7_meanDepth 51 = .ok (.goto 13, 3) := by decide +kernel
theorem dX7_meanDepth_54 : decode cX7_meanDepth 54 = .ok (.aload_n 0, 1) := by decide +kernel
theorem dX7_meanDepth_55 : decode cX7_meanDepth 55 = .ok (.bipush 14, 2) := by decide +kernel
theorem dX7_meanDepth_57 : decode cX7_meanDepth 57 = .ok (.invokevirtual 204, 3) := by decide +kernel
theorem dX7_meanDepth_60 : decode cX7_meanDepth 60 = .ok (.i2d, 1) := by decide +kernel
theorem dX7_meanDepth_61 : decode cX7_meanDepth 61 = .ok (.iload_n 1, 1) := by decide +kernel
theorem dX7_meanDepth_62 : decode cX7_meanDepth 62 = .ok (.i2d, 1) := by decide +kernel
theorem dX7_meanDepth_63 : decode cX7_meanDepth 63 = .ok (.ddiv, 1) := by decide +kernel
theorem dX7_meanDepth_64 : decode cX7_meanDepth 64 = .ok (.dreturn, 1) := by decide +kernel
theorem dX7_wouldRisk_0 : decode cX7_wouldRisk 0 = .ok (.aload_n 0, 1) := by decide +kernel
theorem dX7_wouldRisk_1 : decode cX7_wouldRisk 1 = .ok (.iconst 0, 1) := by decide +kernel
theorem dX7_wouldRisk_2 : decode cX7_wouldRisk 2 = .ok (.putfield 23, 3) := by decide +kernel
theorem dX7_wouldRisk_5 : decode cX7_wouldRisk 5 = .ok (.aload_n 0, 1) := by decide +kernel
theorem dX7_wouldRisk_6 : decode cX7_wouldRisk 6 = .ok (.iload_n 1, 1) := by decide +kernel
theorem dX7_wouldRisk_7 : decode cX7_wouldRisk 7 = .ok (.invokevirtual 110, 3) := by decide +kernel
theorem dX7_wouldRisk_10 : decode cX7_wouldRisk 10 = .ok (.ifCond .ne 9, 3) := by decide +kernel
theorem dX7_wouldRisk_13 : decode cX7_wouldRisk 13 = .ok (.aload_n 0, 1) := by decide +kernel
theorem dX7_wouldRisk_14 : decode cX7_wouldRisk 14 = .ok (.iconst 1, 1) := by decide +kernel
theorem dX7_wouldRisk_15 : decode cX7_wouldRisk 15 = .ok (.invokevirtual 95, 3) := by decide +kernel
theorem dX7_wouldRisk_18 : decode cX7_wouldRisk 18 = .ok (.ireturn, 1) := by decide +kernel
theorem dX7_wouldRisk_19 : decode cX7_wouldRisk 19 = .ok (.iload_n 2, 1) := by decide +kernel
theorem dX7_wouldRisk_20 : decode cX7_wouldRisk 20 = .ok (.invokestatic 119, 3) := by decide +kernel
theorem dX7_wouldRisk_23 : decode cX7_wouldRisk 23 = .ok (.ifCond .eq 33, 3) := by decide +kernel
theorem dX7_wouldRisk_26 : decode cX7_wouldRisk 26 = .ok (.iload_n 3, 1) := by decide +kernel
theorem dX7_wouldRisk_27 : decode cX7_wouldRisk 27 = .ok (.invokestatic 122, 3) := by decide +kernel
theorem dX7_wouldRisk_30 : decode cX7_wouldRisk 30 = .ok (.ifCond .eq 26, 3) := by decide +kernel
theorem dX7_wouldRisk_33 : decode cX7_wouldRisk 33 = .ok (.iload 4, 2) := by decide +kernel
theorem dX7_wouldRisk_35 : decode cX7_wouldRisk 35 = .ok (.iconst 0, 1) := by decide +kernel
theorem dX7_wouldRisk_36 : decode cX7_wouldRisk 36 = .ok (.bipush 9, 2) := by decide +kernel
theorem dX7_wouldRisk_38 : decode cX7_wouldRisk 38 = .ok (.invokestatic 78, 3) := by decide +kernel
theorem dX7_wouldRisk_41 : decode cX7_wouldRisk 41 = .ok (.ifCond .eq 15, 3) := by decide +kernel
theorem dX7_wouldRisk_44 : decode cX7_wouldRisk 44 = .ok (.aload_n 0, 1) := by decide +kernel
theorem dX7_wouldRisk_45 : decode cX7_wouldRisk 45 = .ok (.iload_n 1, 1) := by decide +kernel
theorem dX7_wouldRisk_46 : decode cX7_wouldRisk 46 = .ok (.iload_n 2, 1) := by decide +kernel
theorem dX7_wouldRisk_47 : decode cX7_wouldRisk 47 = .ok (.iload_n 3, 1) := by decide +kernel
theorem dX7_wouldRisk_48 : decode cX7_wouldRisk 48 = .ok (.iload 4, 2) := by decide +kernel
theorem dX7_wouldRisk_50 : decode cX7_wouldRisk 50 = .ok (.invokevirtual 217, 3) := by decide +kernel
theorem dX7_wouldRisk_53 : decode cX7_wouldRisk 53 = .ok (.goto 8, 3) := by decide +kernel
theorem dX7_wouldRisk_56 : decode cX7_wouldRisk 56 = .ok (.aload_n 0, 1) := by decide +kernel
theorem dX7_wouldRisk_57 : decode cX7_wouldRisk 57 = .ok (.iconst 2, 1) := by decide +kernel
theorem dX7_wouldRisk_58 : decode cX7_wouldRisk 58 = .ok (.invokevirtual 95, 3) := by decide +kernel
theorem dX7_wouldRisk_61 : decode cX7_wouldRisk 61 = .ok (.ireturn, 1) := by decide +kernel
theorem dX7_wouldMake_0 : decode cX7_wouldMake 0 = .ok (.aload_n 0, 1) := by decide +kernel
theorem dX7_wouldMake_1 : decode cX7_wouldMake 1 = .ok (.iconst 0, 1) := by decide +kernel
theorem dX7_wouldMake_2 : decode cX7_wouldMake 2 = .ok (.putfield 23, 3) := by decide +kernel
theorem dX7_wouldMake_5 : decode cX7_wouldMake 5 = .ok (.aload_n 0, 1) := by decide +kernel
theorem dX7_wouldMake_6 : decode cX7_wouldMake 6 = .ok (.iload_n 1, 1) := by decide +kernel
theorem dX7_wouldMake_7 : decode cX7_wouldMake 7 = .ok (.invokevirtual 110, 3) := by decide +kernel
theorem dX7_wouldMake_10 : decode cX7_wouldMake 10 = .ok (.ifCond .ne 9, 3) := by decide +kernel
theorem dX7_wouldMake_13 : decode cX7_wouldMake 13 = .ok (.aload_n 0, 1) := by decide +kernel
theorem dX7_wouldMake_14 : decode cX7_wouldMake 14 = .ok (.iconst 1, 1) := by decide +kernel
theorem dX7_wouldMake_15 : decode cX7_wouldMake 15 = .ok (.invokevirtual 95, 3) := by decide +kernel
theorem dX7_wouldMake_18 : decode cX7_wouldMake 18 = .ok (.ireturn, 1) := by decide +kernel
theorem dX7_wouldMake_19 : decode cX7_wouldMake 19 = .ok (.iload_n 2, 1) := by decide +kernel
theorem dX7_wouldMake_20 : decode cX7_wouldMake 20 = .ok (.invokestatic 119, 3) := by decide +kernel
theorem dX7_wouldMake_23 : decode cX7_wouldMake 23 = .ok (.ifCond .eq 33, 3) := by decide +kernel
theorem dX7_wouldMake_26 : decode cX7_wouldMake 26 = .ok (.iload_n 3, 1) := by decide +kernel
theorem dX7_wouldMake_27 : decode cX7_wouldMake 27 = .ok (.invokestatic 122, 3) := by decide +kernel
theorem dX7_wouldMake_30 : decode cX7_wouldMake 30 = .ok (.ifCond .eq 26, 3) := by decide +kernel
theorem dX7_wouldMake_33 : decode cX7_wouldMake 33 = .ok (.iload 4, 2) := by decide +kernel
theorem dX7_wouldMake_35 : decode cX7_wouldMake 35 = .ok (.iconst 0, 1) := by decide +kernel
theorem dX7_wouldMake_36 : decode cX7_wouldMake 36 = .ok (.bipush 100, 2) := by decide +kernel
theorem dX7_wouldMake_38 : decode cX7_wouldMake 38 = .ok (.invokestatic 78, 3) := by decide +kernel
theorem dX7_wouldMake_41 : decode cX7_wouldMake 41 = .ok (.ifCond .eq 15, 3) := by decide +kernel
theorem dX7_wouldMake_44 : decode cX7_wouldMake 44 = .ok (.aload_n 0, 1) := by decide +kernel
theorem dX7_wouldMake_45 : decode cX7_wouldMake 45 = .ok (.iload_n 1, 1) := by decide +kernel
theorem dX7_wouldMake_46 : decode cX7_wouldMake 46 = .ok (.iload_n 2, 1) := by decide +kernel
theorem dX7_wouldMake_47 : decode cX7_wouldMake 47 = .ok (.iload_n 3, 1) := by decide +kernel
theorem dX7_wouldMake_48 : decode cX7_wouldMake 48 = .ok (.iload 4, 2) := by decide +kernel
theorem dX7_wouldMake_50 : decode cX7_wouldMake 50 = .ok (.invokevirtual 224, 3) := by decide +kernel
theorem dX7_wouldMake_53 : decode cX7_wouldMake 53 = .ok (.goto 8, 3) := by decide +kernel
theorem dX7_wouldMake_56 : decode cX7_wouldMake 56 = .ok (.aload_n 0, 1) := by decide +kernel
theorem dX7_wouldMake_57 : decode cX7_wouldMake 57 = .ok (.iconst 2, 1) := by decide +kernel
theorem dX7_wouldMake_58 : decode cX7_wouldMake 58 = .ok (.invokevirtual 95, 3) := by decide +kernel
theorem dX7_wouldMake_61 : decode cX7_wouldMake 61 = .ok (.ireturn, 1) := by decide +kernel
theorem dX7_nextNow_0 : decode cX7_nextNow 0 = .ok (.iconst (-1), 1) := by decide +kernel
theorem dX7_nextNow_1 : decode cX7_nextNow 1 = .ok (.istore_n 1, 1) := by decide +kernel
theorem dX7_nextNow_2 : decode cX7_nextNow 2 = .ok (.iconst 0, 1) := by decide +kernel
theorem dX7_nextNow_3 : decode cX7_nextNow 3 = .ok (.istore_n 2, 1) := by decide +kernel
theorem dX7_nextNow_4 : decode cX7_nextNow 4 = .ok (.iload_n 2, 1) := by decide +kernel
theorem dX7_nextNow_5 : decode cX7_nextNow 5 = .ok (.aload_n 0, 1) := by decide +kernel
theorem dX7_nextNow_6 : decode cX7_nextNow 6 = .ok (.getfield 12, 3) := by decide +kernel
theorem dX7_nextNow_9 : decode cX7_nextNow 9 = .ok (.getfield 82, 3) := by decide +kernel
theorem dX7_nextNow_12 : decode cX7_nextNow 12 = .ok (.invokevirtual 72, 3) := by decide +kernel
theorem dX7_nextNow_15 : decode cX7_nextNow 15 = .ok (.if_icmp .ge 63, 3) := by decide +kernel
theorem dX7_nextNow_18 : decode cX7_nextNow 18 = .ok (.aload_n 0, 1) := by decide +kernel
theorem dX7_nextNow_19 : decode cX7_nextNow 19 = .ok (.iload_n 2, 1) := by decide +kernel
theorem dX7_nextNow_20 : decode cX7_nextNow 20 = .ok (.invokevirtual 91, 3) := by decide +kernel
theorem dX7_nextNow_23 : decode cX7_nextNow 23 = .ok (.astore_n 3, 1) := by decide +kernel
theorem dX7_nextNow_24 : decode cX7_nextNow 24 = .ok (.aload_n 3, 1) := by decide +kernel
theorem dX7_nextNow_25 : decode cX7_nextNow 25 = .ok (.iconst 5, 1) := by decide +kernel
theorem dX7_nextNow_26 : decode cX7_nextNow 26 = .ok (.iaload, 1) := by decide +kernel
theorem dX7_nextNow_27 : decode cX7_nextNow 27 = .ok (.iconst 1, 1) := by decide +kernel
theorem dX7_nextNow_28 : decode cX7_nextNow 28 = .ok (.if_icmp .eq 44, 3) := by decide +kernel
theorem dX7_nextNow_31 : decode cX7_nextNow 31 = .ok (.aload_n 3, 1) := by decide +kernel
theorem dX7_nextNow_32 : decode cX7_nextNow 32 = .ok (.bipush 7, 2) := by decide +kernel
theorem dX7_nextNow_34 : decode cX7_nextNow 34 = .ok (.iaload, 1) := by decide +kernel
theorem dX7_nextNow_35 : decode cX7_nextNow 35 = .ok (.ifCond .gt 37, 3) := by decide +kernel
theorem dX7_nextNow_38 : decode cX7_nextNow 38 = .ok (.aload_n 3, 1) := by decide +kernel
theorem dX7_nextNow_39 : decode cX7_nextNow 39 = .ok (.invokestatic 138, 3) := by decide +kernel
theorem dX7_nextNow_42 : decode cX7_nextNow 42 = .ok (.bipush 40, 2) := by decide +kernel
theorem dX7_nextNow_44 : decode cX7_nextNow 44 = .ok (.if_icmp .ge 6, 3) := by decide +kernel
theorem dX7_nextNow_47 : decode cX7_nextNow 47 = .ok (.goto 25, 3) := by decide +kernel
theorem dX7_nextNow_50 : decode cX7_nextNow 50 = .ok (.iload_n 1, 1) := by decide +kernel
theorem dX7_nextNow_51 : decode cX7_nextNow 51 = .ok (.iconst (-1), 1) := by decide +kernel
theorem dX7_nextNow_52 : decode cX7_nextNow 52 = .ok (.if_icmp .eq 18, 3) := by decide +kernel
theorem dX7_nextNow_55 : decode cX7_nextNow 55 = .ok (.aload_n 3, 1) := by decide +kernel
theorem dX7_nextNow_56 : decode cX7_nextNow 56 = .ok (.invokestatic 227, 3) := by decide +kernel
theorem dX7_nextNow_59 : decode cX7_nextNow 59 = .ok (.aload_n 0, 1) := by decide +kernel
theorem dX7_nextNow_60 : decode cX7_nextNow 60 = .ok (.iload_n 1, 1) := by decide +kernel
theorem dX7_nextNow_61 : decode cX7_nextNow 61 = .ok (.invokevirtual 91, 3) := by decide +kernel
theorem dX7_nextNow_64 : decode cX7_nextNow 64 = .ok (.invokestatic 227, 3) := by decide +kernel
theorem dX7_nextNow_67 : decode cX7_nextNow 67 = .ok (.if_icmp .le 5, 3) := by decide +kernel
theorem dX7_nextNow_70 : decode cX7_nextNow 70 = .ok (.iload_n 2, 1) := by decide +kernel
theorem dX7_nextNow_71 : decode cX7_nextNow 71 = .ok (.istore_n 1, 1) := by decide +kernel
theorem dX7_nextNow_72 : decode cX7_nextNow 72 = .ok (.iinc 2 1, 3) := by decide +kernel
theorem dX7_nextNow_75 : decode cX7_nextNow 75 = .ok (.goto (-71), 3) := by decide +kernel
theorem dX7_nextNow_78 : decode cX7_nextNow 78 = .ok (.iload_n 1, 1) := by decide +kernel
theorem dX7_nextNow_79 : decode cX7_nextNow 79 = .ok (.ireturn, 1) := by decide +kernel
theorem dX7_nextBlast_0 : decode cX7_nextBlast 0 = .ok (.aload_n 0, 1) := by decide +kernel
theorem dX7_nextBlast_1 : decode cX7_nextBlast 1 = .ok (.iconst 0, 1) := by decide +kernel
theorem dX7_nextBlast_2 : decode cX7_nextBlast 2 = .ok (.putfield 23, 3) := by decide +kernel
theorem dX7_nextBlast_5 : decode cX7_nextBlast 5 = .ok (.aload_n 0, 1) := by decide +kernel
theorem dX7_nextBlast_6 : decode cX7_nextBlast 6 = .ok (.invokevirtual 229, 3) := by decide +kernel
theorem dX7_nextBlast_9 : decode cX7_nextBlast 9 = .ok (.ireturn, 1) := by decide +kernel
theorem dX7_couldNow_0 : decode cX7_couldNow 0 = .ok (.iconst 0, 1) := by decide +kernel
theorem dX7_couldNow_1 : decode cX7_couldNow 1 = .ok (.istore_n 1, 1) := by decide +kernel
theorem dX7_couldNow_2 : decode cX7_couldNow 2 = .ok (.iconst 0, 1) := by decide +kernel
theorem dX7_couldNow_3 : decode cX7_couldNow 3 = .ok (.istore_n 2, 1) := by decide +kernel
theorem dX7_couldNow_4 : decode cX7_couldNow 4 = .ok (.iload_n 2, 1) := by decide +kernel
theorem dX7_couldNow_5 : decode cX7_couldNow 5 = .ok (.aload_n 0, 1) := by decide +kernel
theorem dX7_couldNow_6 : decode cX7_couldNow 6 = .ok (.getfield 12, 3) := by decide +kernel
theorem dX7_couldNow_9 : decode cX7_couldNow 9 = .ok (.getfield 82, 3) := by decide +kernel
theorem dX7_couldNow_12 : decode cX7_couldNow 12 = .ok (.invokevirtual 72, 3) := by decide +kernel
theorem dX7_couldNow_15 : decode cX7_couldNow 15 = .ok (.if_icmp .ge 56, 3) := by decide +kernel
theorem dX7_couldNow_18 : decode cX7_couldNow 18 = .ok (.aload_n 0, 1) := by decide +kernel
theorem dX7_couldNow_19 : decode cX7_couldNow 19 = .ok (.iload_n 2, 1) := by decide +kernel
theorem dX7_couldNow_20 : decode cX7_couldNow 20 = .ok (.invokevirtual 159, 3) := by decide +kernel
theorem dX7_couldNow_23 : decode cX7_couldNow 23 = .ok (.ifCond .eq 18, 3) := by decide +kernel
theorem dX7_couldNow_26 : decode cX7_couldNow 26 = .ok (.aload_n 0, 1) := by decide +kernel
theorem dX7_couldNow_27 : decode cX7_couldNow 27 = .ok (.iload_n 2, 1) := by decide +kernel
theorem dX7_couldNow_28 : decode cX7_couldNow 28 = .ok (.iconst 1, 1) := by decide +kernel
theorem dX7_couldNow_29 : decode cX7_couldNow 29 = .ok (.aload_n 0, 1) := by decide +kernel
theorem dX7_couldNow_30 : decode cX7_couldNow 30 = .ok (.iload_n 2, 1) := by decide +kernel
theorem dX7_couldNow_31 : decode cX7_couldNow 31 = .ok (.invokevirtual 147, 3) := by decide +kernel
theorem dX7_couldNow_34 : decode cX7_couldNow 34 = .ok (.iconst 1, 1) := by decide +kernel
theorem dX7_couldNow_35 : decode cX7_couldNow 35 = .ok (.invokevirtual 155, 3) := by decide +kernel
theorem dX7_couldNow_38 : decode cX7_couldNow 38 = .ok (.ifCond .ne 7, 3) := by decide +kernel
theorem dX7_couldNow_41 : decode cX7_couldNow 41 = .ok (.iconst 1, 1) := by decide +kernel
theorem dX7_couldNow_42 : decode cX7_couldNow 42 = .ok (.goto 4, 3) := by decide +kernel
theorem dX7_couldNow_45 : decode cX7_couldNow 45 = .ok (.iconst 0, 1) := by decide +kernel
theorem dX7_couldNow_46 : decode cX7_couldNow 46 = .ok (.istore_n 3, 1) := by decide +kernel
theorem dX7_couldNow_47 : decode cX7_couldNow 47 = .ok (.aload_n 0, 1) := by decide +kernel
theorem dX7_couldNow_48 : decode cX7_couldNow 48 = .ok (.iload_n 2, 1) := by decide +kernel
theorem dX7_couldNow_49 : decode cX7_couldNow 49 = .ok (.invokevirtual 132, 3) := by decide +kernel
theorem dX7_couldNow_52 : decode cX7_couldNow 52 = .ok (.ifCond .ne 13, 3) := by decide +kernel
theorem dX7_couldNow_55 : decode cX7_couldNow 55 = .ok (.iload_n 3, 1) := by decide +kernel
theorem dX7_couldNow_56 : decode cX7_couldNow 56 = .ok (.ifCond .eq 9, 3) := by decide +kernel
theorem dX7_couldNow_59 : decode cX7_couldNow 59 = .ok (.iload_n 1, 1) := by decide +kernel
theorem dX7_couldNow_60 : decode cX7_couldNow 60 = .ok (.iconst 1, 1) := by decide +kernel
theorem dX7_couldNow_61 : decode cX7_couldNow 61 = .ok (.iload_n 2, 1) := by decide +kernel
theorem dX7_couldNow_62 : decode cX7_couldNow 62 = .ok (.ishl, 1) := by decide +kernel
theorem dX7_couldNow_63 : decode cX7_couldNow 63 = .ok (.ior, 1) := by decide +kernel
theorem dX7_couldNow_64 : decode cX7_couldNow 64 = .ok (.istore_n 1, 1) := by decide +kernel
theorem dX7_couldNow_65 : decode cX7_couldNow 65 = .ok (.iinc 2 1, 3) := by decide +kernel
theorem dX7_couldNow_68 : decode cX7_couldNow 68 = .ok (.goto (-64), 3) := by decide +kernel
theorem dX7_couldNow_71 : decode cX7_couldNow 71 = .ok (.iload_n 1, 1) := by decide +kernel
theorem dX7_couldNow_72 : decode cX7_couldNow 72 = .ok (.ireturn, 1) := by decide +kernel
theorem dX7_couldOpen_0 : decode cX7_couldOpen 0 = .ok (.aload_n 0, 1) := by decide +kernel
theorem dX7_couldOpen_1 : decode cX7_couldOpen 1 = .ok (.iconst 0, 1) := by decide +kernel
theorem dX7_couldOpen_2 : decode cX7_couldOpen 2 = .ok (.putfield 23, 3) := by decide +kernel
theorem dX7_couldOpen_5 : decode cX7_couldOpen 5 = .ok (.aload_n 0, 1) := by decide +kernel
theorem dX7_couldOpen_6 : decode cX7_couldOpen 6 = .ok (.invokevirtual 232, 3) := by decide +kernel
theorem dX7_couldOpen_9 : decode cX7_couldOpen 9 = .ok (.ireturn, 1) := by decide +kernel
theorem dX7_add__0 : decode cX7_add_ 0 = .ok (.aload_n 0, 1) := by decide +kernel
theorem dX7_add__1 : decode cX7_add_ 1 = .ok (.aload_n 0, 1) := by decide +kernel
theorem dX7_add__2 : decode cX7_add_ 2 = .ok (.getfield 235, 3) := by decide +kernel
theorem dX7_add__5 : decode cX7_add_ 5 = .ok (.ldc2_w 239, 3) := by decide +kernel
theorem dX7_add__8 : decode cX7_add_ 8 = .ok (.lmul, 1) := by decide +kernel
theorem dX7_add__9 : decode cX7_add_ 9 = .ok (.iload_n 1, 1) := by decide +kernel
theorem dX7_add__10 : decode cX7_add_ 10 = .ok (.i2l, 1) := by decide +kernel
theorem dX7_add__11 : decode cX7_add_ 11 = .ok (.ladd, 1) := by decide +kernel
theorem dX7_add__12 : decode cX7_add_ 12 = .ok (.putfield 235, 3) := by decide +kernel
theorem dX7_add__15 : decode cX7_add_ 15 = .ok (.return_, 1) := by decide +kernel
theorem dX7_digest_0 : decode cX7_digest 0 = .ok (.aload_n 0, 1) := by decide +kernel
theorem dX7_digest_1 : decode cX7_digest 1 = .ok (.iconst 0, 1) := by decide +kernel
theorem dX7_digest_2 : decode cX7_digest 2 = .ok (.putfield 23, 3) := by decide +kernel
theorem dX7_digest_5 : decode cX7_digest 5 = .ok (.aload_n 0, 1) := by decide +kernel
theorem dX7_digest_6 : decode cX7_digest 6 = .ok (.ldc2_w 241, 3) := by decide +kernel
theorem dX7_digest_9 : decode cX7_digest 9 = .ok (.putfield 235, 3) := by decide +kernel
theorem dX7_digest_12 : decode cX7_digest 12 = .ok (.iconst 0, 1) := by decide +kernel
theorem dX7_digest_13 : decode cX7_digest 13 = .ok (.istore_n 1, 1) := by decide +kernel
theorem dX7_digest_14 : decode cX7_digest 14 = .ok (.iload_n 1, 1) := by decide +kernel
theorem dX7_digest_15 : decode cX7_digest 15 = .ok (.bipush 15, 2) := by decide +kernel
theorem dX7_digest_17 : decode cX7_digest 17 = .ok (.if_icmp .ge 18, 3) := by decide +kernel
theorem dX7_digest_20 : decode cX7_digest 20 = .ok (.aload_n 0, 1) := by decide +kernel
theorem dX7_digest_21 : decode cX7_digest 21 = .ok (.aload_n 0, 1) := by decide +kernel
theorem dX7_digest_22 : decode cX7_digest 22 = .ok (.iload_n 1, 1) := by decide +kernel
theorem dX7_digest_23 : decode cX7_digest 23 = .ok (.invokevirtual 204, 3) := by decide +kernel
theorem dX7_digest_26 : decode cX7_digest 26 = .ok (.invokevirtual 243, 3) := by decide +kernel
theorem dX7_digest_29 : decode cX7_digest 29 = .ok (.iinc 1 1, 3) := by decide +kernel
theorem dX7_digest_32 : decode cX7_digest 32 = .ok (.goto (-18), 3) := by decide +kernel
theorem dX7_digest_35 : decode cX7_digest 35 = .ok (.iconst 0, 1) := by decide +kernel
theorem dX7_digest_36 : decode cX7_digest 36 = .ok (.istore_n 1, 1) := by decide +kernel
theorem dX7_digest_37 : decode cX7_digest 37 = .ok (.iload_n 1, 1) := by decide +kernel
theorem dX7_digest_38 : decode cX7_digest 38 = .ok (.aload_n 0, 1) := by decide +kernel
theorem dX7_digest_39 : decode cX7_digest 39 = .ok (.getfield 12, 3) := by decide +kernel
theorem dX7_digest_42 : decode cX7_digest 42 = .ok (.getfield 82, 3) := by decide +kernel
theorem dX7_digest_45 : decode cX7_digest 45 = .ok (.invokevirtual 72, 3) := by decide +kernel
theorem dX7_digest_48 : decode cX7_digest 48 = .ok (.if_icmp .ge 96, 3) := by decide +kernel
theorem dX7_digest_51 : decode cX7_digest 51 = .ok (.iconst 0, 1) := by decide +kernel
theorem dX7_digest_52 : decode cX7_digest 52 = .ok (.istore_n 2, 1) := by decide +kernel
theorem dX7_digest_53 : decode cX7_digest 53 = .ok (.iload_n 2, 1) := by decide +kernel
theorem dX7_digest_54 : decode cX7_digest 54 = .ok (.bipush 14, 2) := by decide +kernel
theorem dX7_digest_56 : decode cX7_digest 56 = .ok (.if_icmp .ge 19, 3) := by decide +kernel
theorem dX7_digest_59 : decode cX7_digest 59 = .ok (.aload_n 0, 1) := by decide +kernel
theorem dX7_digest_60 : decode cX7_digest 60 = .ok (.aload_n 0, 1) := by decide +kernel
theorem dX7_digest_61 : decode cX7_digest 61 = .ok (.iload_n 1, 1) := by decide +kernel
theorem dX7_digest_62 : decode cX7_digest 62 = .ok (.iload_n 2, 1) := by decide +kernel
theorem dX7_digest_63 : decode cX7_digest 63 = .ok (.invokevirtual 166, 3) := by decide +kernel
theorem dX7_digest_66 : decode cX7_digest 66 = .ok (.invokevirtual 243, 3) := by decide +kernel
theorem dX7_digest_69 : decode cX7_digest 69 = .ok (.iinc 2 1, 3) := by decide +kernel
theorem dX7_digest_72 : decode cX7_digest 72 = .ok (.goto (-19), 3) := by decide +kernel
theorem dX7_digest_75 : decode cX7_digest 75 = .ok (.aload_n 0, 1) := by decide +kernel
theorem dX7_digest_76 : decode cX7_digest 76 = .ok (.iload_n 1, 1) := by decide +kernel
theorem dX7_digest_77 : decode cX7_digest 77 = .ok (.invokevirtual 91, 3) := by decide +kernel
theorem dX7_digest_80 : decode cX7_digest 80 = .ok (.astore_n 2, 1) := by decide +kernel
theorem dX7_digest_81 : decode cX7_digest 81 = .ok (.iconst 0, 1) := by decide +kernel
theorem dX7_digest_82 : decode cX7_digest 82 = .ok (.istore_n 3, 1) := by decide +kernel
theorem dX7_digest_83 : decode cX7_digest 83 = .ok (.iload_n 3, 1) := by decide +kernel
theorem dX7_digest_84 : decode cX7_digest 84 = .ok (.iconst 3, 1) := by decide +kernel
theorem dX7_digest_85 : decode cX7_digest 85 = .ok (.aload_n 2, 1) := by decide +kernel
theorem dX7_digest_86 : decode cX7_digest 86 = .ok (.bipush 18, 2) := by decide +kernel
theorem dX7_digest_88 : decode cX7_digest 88 = .ok (.iaload, 1) := by decide +kernel
theorem dX7_digest_89 : decode cX7_digest 89 = .ok (.imul, 1) := by decide +kernel
theorem dX7_digest_90 : decode cX7_digest 90 = .ok (.if_icmp .ge 19, 3) := by decide +kernel
theorem dX7_digest_93 : decode cX7_digest 93 = .ok (.aload_n 0, 1) := by decide +kernel
theorem dX7_digest_94 : decode cX7_digest 94 = .ok (.aload_n 2, 1) := by decide +kernel
theorem dX7_digest_95 : decode cX7_digest 95 = .ok (.bipush 19, 2) := by decide +kernel
theorem dX7_digest_97 : decode cX7_digest 97 = .ok (.iload_n 3, 1) := by decide +kernel
theorem dX7_digest_98 : decode cX7_digest 98 = .ok (.iadd, 1) := by decide +kernel
theorem dX7_digest_99 : decode cX7_digest 99 = .ok (.iaload, 1) := by decide +kernel
theorem dX7_digest_100 : decode cX7_digest 100 = .ok (.invokevirtual 243, 3) := by decide +kernel
theorem dX7_digest_103 : decode cX7_digest 103 = .ok (.iinc 3 1, 3) := by decide +kernel
theorem dX7_digest_106 : decode cX7_digest 106 = .ok (.goto (-23), 3) := by decide +kernel
theorem dX7_digest_109 : decode cX7_digest 109 = .ok (.aload_n 0, 1) := by decide +kernel
theorem dX7_digest_110 : decode cX7_digest 110 = .ok (.aload_n 0, 1) := by decide +kernel
theorem dX7_digest_111 : decode cX7_digest 111 = .ok (.iload_n 1, 1) := by decide +kernel
theorem dX7_digest_112 : decode cX7_digest 112 = .ok (.bipush 12, 2) := by decide +kernel
theorem dX7_digest_114 : decode cX7_digest 114 = .ok (.bipush (-6), 2) := by decide +kernel
theorem dX7_digest_116 : decode cX7_digest 116 = .ok (.iconst 3, 1) := by decide +kernel
theorem dX7_digest_117 : decode cX7_digest 117 = .ok (.invokevirtual 217, 3) := by decide +kernel
theorem dX7_digest_120 : decode cX7_digest 120 = .ok (.invokevirtual 243, 3) := by decide +kernel
theorem dX7_digest_123 : decode cX7_digest 123 = .ok (.aload_n 0, 1) := by decide +kernel
theorem dX7_digest_124 : decode cX7_digest 124 = .ok (.aload_n 0, 1) := by decide +kernel
theorem dX7_digest_125 : decode cX7_digest 125 = .ok (.iload_n 1, 1) := by decide +kernel
theorem dX7_digest_126 : decode cX7_digest 126 = .ok (.bipush 9, 2) := by decide +kernel
theorem dX7_digest_128 : decode cX7_digest 128 = .ok (.bipush (-9), 2) := by decide +kernel
theorem dX7_digest_130 : decode cX7_digest 130 = .ok (.bipush 60, 2) := by decide +kernel
theorem dX7_digest_132 : decode cX7_digest 132 = .ok (.invokevirtual 224, 3) := by decide +kernel
theorem dX7_digest_135 : decode cX7_digest 135 = .ok (.invokevirtual 243, 3) := by decide +kernel
theorem dX7_digest_138 : decode cX7_digest 138 = .ok (.iinc 1 1, 3) := by decide +kernel
theorem dX7_digest_141 : decode cX7_digest 141 = .ok (.goto (-104), 3) := by decide +kernel
theorem dX7_digest_144 : decode cX7_digest 144 = .ok (.iconst 0, 1) := by decide +kernel
theorem dX7_digest_145 : decode cX7_digest 145 = .ok (.istore_n 1, 1) := by decide +kernel
theorem dX7_digest_146 : decode cX7_digest 146 = .ok (.iload_n 1, 1) := by decide +kernel
theorem dX7_digest_147 : decode cX7_digest 147 = .ok (.aload_n 0, 1) := by decide +kernel
theorem dX7_digest_148 : decode cX7_digest 148 = .ok (.getfield 12, 3) := by decide +kernel
theorem dX7_digest_151 : decode cX7_digest 151 = .ok (.getfield 68, 3) := by decide +kernel
theorem dX7_digest_154 : decode cX7_digest 154 = .ok (.invokevirtual 72, 3) := by decide +kernel
theorem dX7_digest_157 : decode cX7_digest 157 = .ok (.if_icmp .ge 33, 3) := by decide +kernel
theorem dX7_digest_160 : decode cX7_digest 160 = .ok (.iconst 0, 1) := by decide +kernel
theorem dX7_digest_161 : decode cX7_digest 161 = .ok (.istore_n 2, 1) := by decide +kernel
theorem dX7_digest_162 : decode cX7_digest 162 = .ok (.iload_n 2, 1) := by decide +kernel
theorem dX7_digest_163 : decode cX7_digest 163 = .ok (.bipush 6, 2) := by decide +kernel
theorem dX7_digest_165 : decode cX7_digest 165 = .ok (.if_icmp .ge 19, 3) := by decide +kernel
theorem dX7_digest_168 : decode cX7_digest 168 = .ok (.aload_n 0, 1) := by decide +kernel
theorem dX7_digest_169 : decode cX7_digest 169 = .ok (.aload_n 0, 1) := by decide +kernel
theorem dX7_digest_170 : decode cX7_digest 170 = .ok (.iload_n 1, 1) := by decide +kernel
theorem dX7_digest_171 : decode cX7_digest 171 = .ok (.iload_n 2, 1) := by decide +kernel
theorem dX7_digest_172 : decode cX7_digest 172 = .ok (.invokevirtual 172, 3) := by decide +kernel
theorem dX7_digest_175 : decode cX7_digest 175 = .ok (.invokevirtual 243, 3) := by decide +kernel
theorem dX7_digest_178 : decode cX7_digest 178 = .ok (.iinc 2 1, 3) := by decide +kernel
theorem dX7_digest_181 : decode cX7_digest 181 = .ok (.goto (-19), 3) := by decide +kernel
theorem dX7_digest_184 : decode cX7_digest 184 = .ok (.iinc 1 1, 3) := by decide +kernel
theorem dX7_digest_187 : decode cX7_digest 187 = .ok (.goto (-41), 3) := by decide +kernel
theorem dX7_digest_190 : decode cX7_digest 190 = .ok (.aload_n 0, 1) := by decide +kernel
theorem dX7_digest_191 : decode cX7_digest 191 = .ok (.aload_n 0, 1) := by decide +kernel
theorem dX7_digest_192 : decode cX7_digest 192 = .ok (.invokevirtual 229, 3) := by decide +kernel
theorem dX7_digest_195 : decode cX7_digest 195 = .ok (.invokevirtual 243, 3) := by decide +kernel
theorem dX7_digest_198 : decode cX7_digest 198 = .ok (.aload_n 0, 1) := by decide +kernel
theorem dX7_digest_199 : decode cX7_digest 199 = .ok (.aload_n 0, 1) := by decide +kernel
theorem dX7_digest_200 : decode cX7_digest 200 = .ok (.invokevirtual 232, 3) := by decide +kernel
theorem dX7_digest_203 : decode cX7_digest 203 = .ok (.invokevirtual 243, 3) := by decide +kernel
theorem dX7_digest_206 : decode cX7_digest 206 = .ok (.aload_n 0, 1) := by decide +kernel
theorem dX7_digest_207 : decode cX7_digest 207 = .ok (.getfield 235, 3) := by decide +kernel
theorem dX7_digest_210 : decode cX7_digest 210 = .ok (.lreturn, 1) := by decide +kernel
theorem dJxa1e45_init_da8c8_0 : decode cJxa1e45_init_da8c8 0 = .ok (.aload_n 0, 1) := by decide +kernel
theorem dJxa1e45_init_da8c8_1 : decode cJxa1e45_init_da8c8 1 = .ok (.invokespecial 1, 3) := by decide +kernel
theorem dJxa1e45_init_da8c8_4 : decode cJxa1e45_init_da8c8 4 = .ok (.return_, 1) := by decide +kernel
theorem dJxc12de_init_da8c8_0 : decode cJxc12de_init_da8c8 0 = .ok (.aload_n 0, 1) := by decide +kernel
theorem dJxc12de_init_da8c8_1 : decode cJxc12de_init_da8c8 1 = .ok (.invokespecial 1, 3) := by decide +kernel
theorem dJxc12de_init_da8c8_4 : decode cJxc12de_init_da8c8 4 = .ok (.aload_n 0, 1) := by decide +kernel
theorem dJxc12de_init_da8c8_5 : decode cJxc12de_init_da8c8 5 = .ok (.iconst 0, 1) := by decide +kernel
theorem dJxc12de_init_da8c8_6 : decode cJxc12de_init_da8c8 6 = .ok (.putfield 7, 3) := by decide +kernel
theorem dJxc12de_init_da8c8_9 : decode cJxc12de_init_da8c8 9 = .ok (.return_, 1) := by decide +kernel
theorem dJx35411_init_45d68_0 : decode cJx35411_init_45d68 0 = .ok (.aload_n 0, 1) := by decide +kernel
theorem dJx35411_init_45d68_1 : decode cJx35411_init_45d68 1 = .ok (.aload_n 1, 1) := by decide +kernel
theorem dJx35411_init_45d68_2 : decode cJx35411_init_45d68 2 = .ok (.putfield 1, 3) := by decide +kernel
theorem dJx35411_init_45d68_5 : decode cJx35411_init_45d68 5 = .ok (.aload_n 0, 1) := by decide +kernel
theorem dJx35411_init_45d68_6 : decode cJx35411_init_45d68 6 = .ok (.invokespecial 7, 3) := by decide +kernel
theorem dJx35411_init_45d68_9 : decode cJx35411_init_45d68 9 = .ok (.aload_n 0, 1) := by decide +kernel
theorem dJx35411_init_45d68_10 : decode cJx35411_init_45d68 10 = .ok (.iconst (-1), 1) := by decide +kernel
theorem dJx35411_init_45d68_11 : decode cJx35411_init_45d68 11 = .ok (.putfield 13, 3) := by decide +kernel
theorem dJx35411_init_45d68_14 : decode cJx35411_init_45d68 14 = .ok (.aload_n 0, 1) := by decide +kernel
theorem dJx35411_init_45d68_15 : decode cJx35411_init_45d68 15 = .ok (.aload_n 0, 1) := by decide +kernel
theorem dJx35411_init_45d68_16 : decode cJx35411_init_45d68 16 = .ok (.getfield 1, 3) := by decide +kernel
theorem dJx35411_init_45d68_19 : decode cJx35411_init_45d68 19 = .ok (.getfield 17, 3) := by decide +kernel
theorem dJx35411_init_45d68_22 : decode cJx35411_init_45d68 22 = .ok (.putfield 22, 3) := by decide +kernel
theorem dJx35411_init_45d68_25 : decode cJx35411_init_45d68 25 = .ok (.return_, 1) := by decide +kernel
theorem dJx35411_hasNext_aae02_0 : decode cJx35411_hasNext_aae02 0 = .ok (.aload_n 0, 1) := by decide +kernel
theorem dJx35411_hasNext_aae02_1 : decode cJx35411_hasNext_aae02 1 = .ok (.getfield 25, 3) := by decide +kernel
theorem dJx35411_hasNext_aae02_4 : decode cJx35411_hasNext_aae02 4 = .ok (.aload_n 0, 1) := by decide +kernel
theorem dJx35411_hasNext_aae02_5 : decode cJx35411_hasNext_aae02 5 = .ok (.getfield 1, 3) := by decide +kernel
theorem dJx35411_hasNext_aae02_8 : decode cJx35411_hasNext_aae02 8 = .ok (.getfield 28, 3) := by decide +kernel
theorem dJx35411_hasNext_aae02_11 : decode cJx35411_hasNext_aae02 11 = .ok (.if_icmp .eq 7, 3) := by decide +kernel
theorem dJx35411_hasNext_aae02_14 : decode cJx35411_hasNext_aae02 14 = .ok (.iconst 1, 1) := by decide +kernel
theorem dJx35411_hasNext_aae02_15 : decode cJx35411_hasNext_aae02 15 = .ok (.goto 4, 3) := by decide +kernel
theorem dJx35411_hasNext_aae02_18 : decode cJx35411_hasNext_aae02 18 = .ok (.iconst 0, 1) := by decide +kernel
theorem dJx35411_hasNext_aae02_19 : decode cJx35411_hasNext_aae02 19 = .ok (.ireturn, 1) := by decide +kernel
theorem dJx4a65c_init_da8c8_0 : decode cJx4a65c_init_da8c8 0 = .ok (.aload_n 0, 1) := by decide +kernel
theorem dJx4a65c_init_da8c8_1 : decode cJx4a65c_init_da8c8 1 = .ok (.invokespecial 1, 3) := by decide +kernel
theorem dJx4a65c_init_da8c8_4 : decode cJx4a65c_init_da8c8 4 = .ok (.aload_n 0, 1) := by decide +kernel
theorem dJx4a65c_init_da8c8_5 : decode cJx4a65c_init_da8c8 5 = .ok (.getstatic 39, 3) := by decide +kernel
theorem dJx4a65c_init_da8c8_8 : decode cJx4a65c_init_da8c8 8 = .ok (.putfield 9, 3) := by decide +kernel
theorem dJx4a65c_init_da8c8_11 : decode cJx4a65c_init_da8c8 11 = .ok (.return_, 1) := by decide +kernel
theorem dJx4a65c_grow_92f84_0 : decode cJx4a65c_grow_92f84 0 = .ok (.aload_n 0, 1) := by decide +kernel
theorem dJx4a65c_grow_92f84_1 : decode cJx4a65c_grow_92f84 1 = .ok (.getfield 9, 3) := by decide +kernel
theorem dJx4a65c_grow_92f84_4 : decode cJx4a65c_grow_92f84 4 = .ok (.arraylength, 1) := by decide +kernel
theorem dJx4a65c_grow_92f84_5 : decode cJx4a65c_grow_92f84 5 = .ok (.istore_n 2, 1) := by decide +kernel
theorem dJx4a65c_grow_92f84_6 : decode cJx4a65c_grow_92f84 6 = .ok (.iload_n 2, 1) := by decide +kernel
theorem dJx4a65c_grow_92f84_7 : decode cJx4a65c_grow_92f84 7 = .ok (.ifCond .gt 13, 3) := by decide +kernel
theorem dJx4a65c_grow_92f84_10 : decode cJx4a65c_grow_92f84 10 = .ok (.aload_n 0, 1) := by decide +kernel
theorem dJx4a65c_grow_92f84_11 : decode cJx4a65c_grow_92f84 11 = .ok (.getfield 9, 3) := by decide +kernel
theorem dJx4a65c_grow_92f84_14 : decode cJx4a65c_grow_92f84 14 = .ok (.getstatic 39, 3) := by decide +kernel
theorem dJx4a65c_grow_92f84_17 : decode cJx4a65c_grow_92f84 17 = .ok (.if_acmp .eq 28, 3) := by decide +kernel
theorem dJx4a65c_grow_92f84_20 : decode cJx4a65c_grow_92f84 20 = .ok (.iload_n 2, 1) := by decide +kernel
theorem dJx4a65c_grow_92f84_21 : decode cJx4a65c_grow_92f84 21 = .ok (.iload_n 1, 1) := by decide +kernel
theorem dJx4a65c_grow_92f84_22 : decode cJx4a65c_grow_92f84 22 = .ok (.iload_n 2, 1) := by decide +kernel
theorem dJx4a65c_grow_92f84_23 : decode cJx4a65c_grow_92f84 23 = .ok (.isub, 1) := by decide +kernel
theorem dJx4a65c_grow_92f84_24 : decode cJx4a65c_grow_92f84 24 = .ok (.iload_n 2, 1) := by decide +kernel
theorem dJx4a65c_grow_92f84_25 : decode cJx4a65c_grow_92f84 25 = .ok (.iconst 1, 1) := by decide +kernel
theorem dJx4a65c_grow_92f84_26 : decode cJx4a65c_grow_92f84 26 = .ok (.ishr, 1) := by decide +kernel
theorem dJx4a65c_grow_92f84_27 : decode cJx4a65c_grow_92f84 27 = .ok (.invokestatic 73, 3) := by decide +kernel
theorem dJx4a65c_grow_92f84_30 : decode cJx4a65c_grow_92f84 30 = .ok (.istore_n 3, 1) := by decide +kernel
theorem dJx4a65c_grow_92f84_31 : decode cJx4a65c_grow_92f84 31 = .ok (.aload_n 0, 1) := by decide +kernel
theorem dJx4a65c_grow_92f84_32 : decode cJx4a65c_grow_92f84 32 = .ok (.aload_n 0, 1) := by decide +kernel
theorem dJx4a65c_grow_92f84_33 : decode cJx4a65c_grow_92f84 33 = .ok (.getfield 9, 3) := by decide +kernel
theorem dJx4a65c_grow_92f84_36 : decode cJx4a65c_grow_92f84 36 = .ok (.iload_n 3, 1) := by decide +kernel
theorem dJx4a65c_grow_92f84_37 : decode cJx4a65c_grow_92f84 37 = .ok (.invokestatic 66, 3) := by decide +kernel
theorem dJx4a65c_grow_92f84_40 : decode cJx4a65c_grow_92f84 40 = .ok (.dup_x1, 1) := by decide +kernel
theorem dJx4a65c_grow_92f84_41 : decode cJx4a65c_grow_92f84 41 = .ok (.putfield 9, 3) := by decide +kernel
theorem dJx4a65c_grow_92f84_44 : decode cJx4a65c_grow_92f84 44 = .ok (.areturn, 1) := by decide +kernel
theorem dJx4a65c_grow_92f84_45 : decode cJx4a65c_grow_92f84 45 = .ok (.aload_n 0, 1) := by decide +kernel
theorem dJx4a65c_grow_92f84_46 : decode cJx4a65c_grow_92f84 46 = .ok (.bipush 10, 2) := by decide +kernel
theorem dJx4a65c_grow_92f84_48 : decode cJx4a65c_grow_92f84 48 = .ok (.iload_n 1, 1) := by decide +kernel
theorem dJx4a65c_grow_92f84_49 : decode cJx4a65c_grow_92f84 49 = .ok (.invokestatic 79, 3) := by decide +kernel
theorem dJx4a65c_grow_92f84_52 : decode cJx4a65c_grow_92f84 52 = .ok (.anewarray 7, 3) := by decide +kernel
theorem dJx4a65c_grow_92f84_55 : decode cJx4a65c_grow_92f84 55 = .ok (.dup_x1, 1) := by decide +kernel
theorem dJx4a65c_grow_92f84_56 : decode cJx4a65c_grow_92f84 56 = .ok (.putfield 9, 3) := by decide +kernel
theorem dJx4a65c_grow_92f84_59 : decode cJx4a65c_grow_92f84 59 = .ok (.areturn, 1) := by decide +kernel
theorem dJx4a65c_grow_d5877_0 : decode cJx4a65c_grow_d5877 0 = .ok (.aload_n 0, 1) := by decide +kernel
theorem dJx4a65c_grow_d5877_1 : decode cJx4a65c_grow_d5877 1 = .ok (.aload_n 0, 1) := by decide +kernel
theorem dJx4a65c_grow_d5877_2 : decode cJx4a65c_grow_d5877 2 = .ok (.getfield 48, 3) := by decide +kernel
theorem dJx4a65c_grow_d5877_5 : decode cJx4a65c_grow_d5877 5 = .ok (.iconst 1, 1) := by decide +kernel
theorem dJx4a65c_grow_d5877_6 : decode cJx4a65c_grow_d5877 6 = .ok (.iadd, 1) := by decide +kernel
theorem dJx4a65c_grow_d5877_7 : decode cJx4a65c_grow_d5877 7 = .ok (.invokevirtual 69, 3) := by decide +kernel
theorem dJx4a65c_grow_d5877_10 : decode cJx4a65c_grow_d5877 10 = .ok (.areturn, 1) := by decide +kernel
theorem dJx4a65c_size_8abf5_0 : decode cJx4a65c_size_8abf5 0 = .ok (.aload_n 0, 1) := by decide +kernel
theorem dJx4a65c_size_8abf5_1 : decode cJx4a65c_size_8abf5 1 = .ok (.getfield 48, 3) := by decide +kernel
theorem dJx4a65c_size_8abf5_4 : decode cJx4a65c_size_8abf5 4 = .ok (.ireturn, 1) := by decide +kernel
theorem dJx4a65c_add_72be8_0 : decode cJx4a65c_add_72be8 0 = .ok (.iload_n 3, 1) := by decide +kernel
theorem dJx4a65c_add_72be8_1 : decode cJx4a65c_add_72be8 1 = .ok (.aload_n 2, 1) := by decide +kernel
theorem dJx4a65c_add_72be8_2 : decode cJx4a65c_add_72be8 2 = .ok (.arraylength, 1) := by decide +kernel
theorem dJx4a65c_add_72be8_3 : decode cJx4a65c_add_72be8 3 = .ok (.if_icmp .ne 8, 3) := by decide +kernel
theorem dJx4a65c_add_72be8_6 : decode cJx4a65c_add_72be8 6 = .ok (.aload_n 0, 1) := by decide +kernel
theorem dJx4a65c_add_72be8_7 : decode cJx4a65c_add_72be8 7 = .ok (.invokevirtual 129, 3) := by decide +kernel
theorem dJx4a65c_add_72be8_10 : decode cJx4a65c_add_72be8 10 = .ok (.astore_n 2, 1) := by decide +kernel
theorem dJx4a65c_add_72be8_11 : decode cJx4a65c_add_72be8 11 = .ok (.aload_n 2, 1) := by decide +kernel
theorem dJx4a65c_add_72be8_12 : decode cJx4a65c_add_72be8 12 = .ok (.iload_n 3, 1) := by decide +kernel
theorem dJx4a65c_add_72be8_13 : decode cJx4a65c_add_72be8 13 = .ok (.aload_n 1, 1) := by decide +kernel
theorem dJx4a65c_add_72be8_14 : decode cJx4a65c_add_72be8 14 = .ok (.aastore, 1) := by decide +kernel
theorem dJx4a65c_add_72be8_15 : decode cJx4a65c_add_72be8 15 = .ok (.aload_n 0, 1) := by decide +kernel
theorem dJx4a65c_add_72be8_16 : decode cJx4a65c_add_72be8 16 = .ok (.iload_n 3, 1) := by decide +kernel
theorem dJx4a65c_add_72be8_17 : decode cJx4a65c_add_72be8 17 = .ok (.iconst 1, 1) := by decide +kernel
theorem dJx4a65c_add_72be8_18 : decode cJx4a65c_add_72be8 18 = .ok (.iadd, 1) := by decide +kernel
theorem dJx4a65c_add_72be8_19 : decode cJx4a65c_add_72be8 19 = .ok (.putfield 48, 3) := by decide +kernel
theorem dJx4a65c_add_72be8_22 : decode cJx4a65c_add_72be8 22 = .ok (.return_, 1) := by decide +kernel
theorem dJx4a65c_add_9ea2d_0 : decode cJx4a65c_add_9ea2d 0 = .ok (.aload_n 0, 1) := by decide +kernel
theorem dJx4a65c_add_9ea2d_1 : decode cJx4a65c_add_9ea2d 1 = .ok (.dup, 1) := by decide +kernel
theorem dJx4a65c_add_9ea2d_2 : decode cJx4a65c_add_9ea2d 2 = .ok (.getfield 63, 3) := by decide +kernel
theorem dJx4a65c_add_9ea2d_5 : decode cJx4a65c_add_9ea2d 5 = .ok (.iconst 1, 1) := by decide +kernel
theorem dJx4a65c_add_9ea2d_6 : decode cJx4a65c_add_9ea2d 6 = .ok (.iadd, 1) := by decide +kernel
theorem dJx4a65c_add_9ea2d_7 : decode cJx4a65c_add_9ea2d 7 = .ok (.putfield 63, 3) := by decide +kernel
theorem dJx4a65c_add_9ea2d_10 : decode cJx4a65c_add_9ea2d 10 = .ok (.aload_n 0, 1) := by decide +kernel
theorem dJx4a65c_add_9ea2d_11 : decode cJx4a65c_add_9ea2d 11 = .ok (.aload_n 1, 1) := by decide +kernel
theorem dJx4a65c_add_9ea2d_12 : decode cJx4a65c_add_9ea2d 12 = .ok (.aload_n 0, 1) := by decide +kernel
theorem dJx4a65c_add_9ea2d_13 : decode cJx4a65c_add_9ea2d 13 = .ok (.getfield 9, 3) := by decide +kernel
theorem dJx4a65c_add_9ea2d_16 : decode cJx4a65c_add_9ea2d 16 = .ok (.aload_n 0, 1) := by decide +kernel
theorem dJx4a65c_add_9ea2d_17 : decode cJx4a65c_add_9ea2d 17 = .ok (.getfield 48, 3) := by decide +kernel
theorem dJx4a65c_add_9ea2d_20 : decode cJx4a65c_add_9ea2d 20 = .ok (.invokevirtual 131, 3) := by decide +kernel
theorem dJx4a65c_add_9ea2d_23 : decode cJx4a65c_add_9ea2d 23 = .ok (.iconst 1, 1) := by decide +kernel
theorem dJx4a65c_add_9ea2d_24 : decode cJx4a65c_add_9ea2d 24 = .ok (.ireturn, 1) := by decide +kernel
theorem dJx4a65c_iterator_32c93_0 : decode cJx4a65c_iterator_32c93 0 = .ok (.new 267, 3) := by decide +kernel
theorem dJx4a65c_iterator_32c93_3 : decode cJx4a65c_iterator_32c93 3 = .ok (.dup, 1) := by decide +kernel
theorem dJx4a65c_iterator_32c93_4 : decode cJx4a65c_iterator_32c93 4 = .ok (.aload_n 0, 1) := by decide +kernel
theorem dJx4a65c_iterator_32c93_5 : decode cJx4a65c_iterator_32c93 5 = .ok (.invokespecial 269, 3) := by decide +kernel
theorem dJx4a65c_iterator_32c93_8 : decode cJx4a65c_iterator_32c93 8 = .ok (.areturn, 1) := by decide +kernel
theorem dL_lift_0 : decode cL_lift 0 = .ok (.aload_n 3, 1) := by decide +kernel
theorem dL_lift_1 : decode cL_lift 1 = .ok (.iconst 0, 1) := by decide +kernel
theorem dL_lift_2 : decode cL_lift 2 = .ok (.aload_n 0, 1) := by decide +kernel
theorem dL_lift_3 : decode cL_lift 3 = .ok (.iload_n 1, 1) := by decide +kernel
theorem dL_lift_4 : decode cL_lift 4 = .ok (.iload_n 2, 1) := by decide +kernel
theorem dL_lift_5 : decode cL_lift 5 = .ok (.invokevirtual 7, 3) := by decide +kernel
theorem dL_lift_8 : decode cL_lift 8 = .ok (.i2l, 1) := by decide +kernel
theorem dL_lift_9 : decode cL_lift 9 = .ok (.lastore, 1) := by decide +kernel
theorem dL_lift_10 : decode cL_lift 10 = .ok (.goto 11, 3) := by decide +kernel
theorem dL_lift_13 : decode cL_lift 13 = .ok (.astore 4, 2) := by decide +kernel
theorem dL_lift_15 : decode cL_lift 15 = .ok (.iconst 1, 1) := by decide +kernel
theorem dL_lift_16 : decode cL_lift 16 = .ok (.ireturn, 1) := by decide +kernel
theorem dL_lift_17 : decode cL_lift 17 = .ok (.astore 4, 2) := by decide +kernel
theorem dL_lift_19 : decode cL_lift 19 = .ok (.iconst 2, 1) := by decide +kernel
theorem dL_lift_20 : decode cL_lift 20 = .ok (.ireturn, 1) := by decide +kernel
theorem dL_lift_21 : decode cL_lift 21 = .ok (.iconst 0, 1) := by decide +kernel
theorem dL_lift_22 : decode cL_lift 22 = .ok (.ireturn, 1) := by decide +kernel
theorem dL_run_0 : decode cL_run 0 = .ok (.aload 6, 2) := by decide +kernel
theorem dL_run_2 : decode cL_run 2 = .ok (.iconst 0, 1) := by decide +kernel
theorem dL_run_3 : decode cL_run 3 = .ok (.aload_n 0, 1) := by decide +kernel
theorem dL_run_4 : decode cL_run 4 = .ok (.iload_n 1, 1) := by decide +kernel
theorem dL_run_5 : decode cL_run 5 = .ok (.iload_n 2, 1) := by decide +kernel
theorem dL_run_6 : decode cL_run 6 = .ok (.iload_n 3, 1) := by decide +kernel
theorem dL_run_7 : decode cL_run 7 = .ok (.iload 4, 2) := by decide +kernel
theorem dL_run_9 : decode cL_run 9 = .ok (.iload 5, 2) := by decide +kernel
theorem dL_run_11 : decode cL_run 11 = .ok (.invokevirtual 17, 3) := by decide +kernel
theorem dL_run_14 : decode cL_run 14 = .ok (.i2l, 1) := by decide +kernel
theorem dL_run_15 : decode cL_run 15 = .ok (.lastore, 1) := by decide +kernel
theorem dL_run_16 : decode cL_run 16 = .ok (.goto 15, 3) := by decide +kernel
theorem dL_run_19 : decode cL_run 19 = .ok (.astore 7, 2) := by decide +kernel
theorem dL_run_21 : decode cL_run 21 = .ok (.iconst 1, 1) := by decide +kernel
theorem dL_run_22 : decode cL_run 22 = .ok (.ireturn, 1) := by decide +kernel
theorem dL_run_23 : decode cL_run 23 = .ok (.astore 7, 2) := by decide +kernel
theorem dL_run_25 : decode cL_run 25 = .ok (.iconst 2, 1) := by decide +kernel
theorem dL_run_26 : decode cL_run 26 = .ok (.ireturn, 1) := by decide +kernel
theorem dL_run_27 : decode cL_run 27 = .ok (.astore 7, 2) := by decide +kernel
theorem dL_run_29 : decode cL_run 29 = .ok (.iconst 3, 1) := by decide +kernel
theorem dL_run_30 : decode cL_run 30 = .ok (.ireturn, 1) := by decide +kernel
theorem dL_run_31 : decode cL_run 31 = .ok (.iconst 0, 1) := by decide +kernel
theorem dL_run_32 : decode cL_run 32 = .ok (.ireturn, 1) := by decide +kernel
theorem dL_turn_0 : decode cL_turn 0 = .ok (.aload_n 3, 1) := by decide +kernel
theorem dL_turn_1 : decode cL_turn 1 = .ok (.iconst 0, 1) := by decide +kernel
theorem dL_turn_2 : decode cL_turn 2 = .ok (.aload_n 0, 1) := by decide +kernel
theorem dL_turn_3 : decode cL_turn 3 = .ok (.iload_n 1, 1) := by decide +kernel
theorem dL_turn_4 : decode cL_turn 4 = .ok (.iload_n 2, 1) := by decide +kernel
theorem dL_turn_5 : decode cL_turn 5 = .ok (.invokevirtual 23, 3) := by decide +kernel
theorem dL_turn_8 : decode cL_turn 8 = .ok (.ifCond .eq 7, 3) := by decide +kernel
theorem dL_turn_11 : decode cL_turn 11 = .ok (.lconst 1, 1) := by decide +kernel
theorem dL_turn_12 : decode cL_turn 12 = .ok (.goto 4, 3) := by decide +kernel
theorem dL_turn_15 : decode cL_turn 15 = .ok (.lconst 0, 1) := by decide +kernel
theorem dL_turn_16 : decode cL_turn 16 = .ok (.lastore, 1) := by decide +kernel
theorem dL_turn_17 : decode cL_turn 17 = .ok (.goto 7, 3) := by decide +kernel
theorem dL_turn_20 : decode cL_turn 20 = .ok (.astore 4, 2) := by decide +kernel
theorem dL_turn_22 : decode cL_turn 22 = .ok (.iconst 1, 1) := by decide +kernel
theorem dL_turn_23 : decode cL_turn 23 = .ok (.ireturn, 1) := by decide +kernel
theorem dL_turn_24 : decode cL_turn 24 = .ok (.iconst 0, 1) := by decide +kernel
theorem dL_turn_25 : decode cL_turn 25 = .ok (.ireturn, 1) := by decide +kernel
theorem dL_release_0 : decode cL_release 0 = .ok (.aload_n 2, 1) := by decide +kernel
theorem dL_release_1 : decode cL_release 1 = .ok (.iconst 0, 1) := by decide +kernel
theorem dL_release_2 : decode cL_release 2 = .ok (.aload_n 0, 1) := by decide +kernel
theorem dL_release_3 : decode cL_release 3 = .ok (.iload_n 1, 1) := by decide +kernel
theorem dL_release_4 : decode cL_release 4 = .ok (.invokevirtual 27, 3) := by decide +kernel
theorem dL_release_7 : decode cL_release 7 = .ok (.ifCond .eq 7, 3) := by decide +kernel
theorem dL_release_10 : decode cL_release 10 = .ok (.lconst 1, 1) := by decide +kernel
theorem dL_release_11 : decode cL_release 11 = .ok (.goto 4, 3) := by decide +kernel
theorem dL_release_14 : decode cL_release 14 = .ok (.lconst 0, 1) := by decide +kernel
theorem dL_release_15 : decode cL_release 15 = .ok (.lastore, 1) := by decide +kernel
theorem dL_release_16 : decode cL_release 16 = .ok (.goto 9, 3) := by decide +kernel
theorem dL_release_19 : decode cL_release 19 = .ok (.astore_n 3, 1) := by decide +kernel
theorem dL_release_20 : decode cL_release 20 = .ok (.iconst 1, 1) := by decide +kernel
theorem dL_release_21 : decode cL_release 21 = .ok (.ireturn, 1) := by decide +kernel
theorem dL_release_22 : decode cL_release 22 = .ok (.astore_n 3, 1) := by decide +kernel
theorem dL_release_23 : decode cL_release 23 = .ok (.iconst 2, 1) := by decide +kernel
theorem dL_release_24 : decode cL_release 24 = .ok (.ireturn, 1) := by decide +kernel
theorem dL_release_25 : decode cL_release 25 = .ok (.iconst 0, 1) := by decide +kernel
theorem dL_release_26 : decode cL_release 26 = .ok (.ireturn, 1) := by decide +kernel
theorem dL_guns_0 : decode cL_guns 0 = .ok (.aload_n 3, 1) := by decide +kernel
theorem dL_guns_1 : decode cL_guns 1 = .ok (.iconst 0, 1) := by decide +kernel
theorem dL_guns_2 : decode cL_guns 2 = .ok (.aload_n 0, 1) := by decide +kernel
theorem dL_guns_3 : decode cL_guns 3 = .ok (.iload_n 1, 1) := by decide +kernel
theorem dL_guns_4 : decode cL_guns 4 = .ok (.iload_n 2, 1) := by decide +kernel
theorem dL_guns_5 : decode cL_guns 5 = .ok (.invokevirtual 31, 3) := by decide +kernel
theorem dL_guns_8 : decode cL_guns 8 = .ok (.i2l, 1) := by decide +kernel
theorem dL_guns_9 : decode cL_guns 9 = .ok (.lastore, 1) := by decide +kernel
theorem dL_guns_10 : decode cL_guns 10 = .ok (.goto 11, 3) := by decide +kernel
theorem dL_guns_13 : decode cL_guns 13 = .ok (.astore 4, 2) := by decide +kernel
theorem dL_guns_15 : decode cL_guns 15 = .ok (.iconst 1, 1) := by decide +kernel
theorem dL_guns_16 : decode cL_guns 16 = .ok (.ireturn, 1) := by decide +kernel
theorem dL_guns_17 : decode cL_guns 17 = .ok (.astore 4, 2) := by decide +kernel
theorem dL_guns_19 : decode cL_guns 19 = .ok (.iconst 2, 1) := by decide +kernel
theorem dL_guns_20 : decode cL_guns 20 = .ok (.ireturn, 1) := by decide +kernel
theorem dL_guns_21 : decode cL_guns 21 = .ok (.iconst 0, 1) := by decide +kernel
theorem dL_guns_22 : decode cL_guns 22 = .ok (.ireturn, 1) := by decide +kernel
theorem dL_fill_0 : decode cL_fill 0 = .ok (.aload_n 2, 1) := by decide +kernel
theorem dL_fill_1 : decode cL_fill 1 = .ok (.iconst 0, 1) := by decide +kernel
theorem dL_fill_2 : decode cL_fill 2 = .ok (.aload_n 0, 1) := by decide +kernel
theorem dL_fill_3 : decode cL_fill 3 = .ok (.iload_n 1, 1) := by decide +kernel
theorem dL_fill_4 : decode cL_fill 4 = .ok (.invokevirtual 34, 3) := by decide +kernel
theorem dL_fill_7 : decode cL_fill 7 = .ok (.i2l, 1) := by decide +kernel
theorem dL_fill_8 : decode cL_fill 8 = .ok (.lastore, 1) := by decide +kernel
theorem dL_fill_9 : decode cL_fill 9 = .ok (.goto 6, 3) := by decide +kernel
theorem dL_fill_12 : decode cL_fill 12 = .ok (.astore_n 3, 1) := by decide +kernel
theorem dL_fill_13 : decode cL_fill 13 = .ok (.iconst 1, 1) := by decide +kernel
theorem dL_fill_14 : decode cL_fill 14 = .ok (.ireturn, 1) := by decide +kernel
theorem dL_fill_15 : decode cL_fill 15 = .ok (.iconst 0, 1) := by decide +kernel
theorem dL_fill_16 : decode cL_fill 16 = .ok (.ireturn, 1) := by decide +kernel
theorem dL_crowd_0 : decode cL_crowd 0 = .ok (.aload_n 2, 1) := by decide +kernel
theorem dL_crowd_1 : decode cL_crowd 1 = .ok (.iconst 0, 1) := by decide +kernel
theorem dL_crowd_2 : decode cL_crowd 2 = .ok (.aload_n 0, 1) := by decide +kernel
theorem dL_crowd_3 : decode cL_crowd 3 = .ok (.iload_n 1, 1) := by decide +kernel
theorem dL_crowd_4 : decode cL_crowd 4 = .ok (.invokevirtual 38, 3) := by decide +kernel
theorem dL_crowd_7 : decode cL_crowd 7 = .ok (.i2l, 1) := by decide +kernel
theorem dL_crowd_8 : decode cL_crowd 8 = .ok (.lastore, 1) := by decide +kernel
theorem dL_crowd_9 : decode cL_crowd 9 = .ok (.goto 6, 3) := by decide +kernel
theorem dL_crowd_12 : decode cL_crowd 12 = .ok (.astore_n 3, 1) := by decide +kernel
theorem dL_crowd_13 : decode cL_crowd 13 = .ok (.iconst 1, 1) := by decide +kernel
theorem dL_crowd_14 : decode cL_crowd 14 = .ok (.ireturn, 1) := by decide +kernel
theorem dL_crowd_15 : decode cL_crowd 15 = .ok (.iconst 0, 1) := by decide +kernel
theorem dL_crowd_16 : decode cL_crowd 16 = .ok (.ireturn, 1) := by decide +kernel
theorem dL_pass_0 : decode cL_pass 0 = .ok (.aload 7, 2) := by decide +kernel
theorem dL_pass_2 : decode cL_pass 2 = .ok (.iconst 0, 1) := by decide +kernel
theorem dL_pass_3 : decode cL_pass 3 = .ok (.aload_n 0, 1) := by decide +kernel
theorem dL_pass_4 : decode cL_pass 4 = .ok (.iload_n 1, 1) := by decide +kernel
theorem dL_pass_5 : decode cL_pass 5 = .ok (.iload_n 2, 1) := by decide +kernel
theorem dL_pass_6 : decode cL_pass 6 = .ok (.iload_n 3, 1) := by decide +kernel
theorem dL_pass_7 : decode cL_pass 7 = .ok (.iload 4, 2) := by decide +kernel
theorem dL_pass_9 : decode cL_pass 9 = .ok (.iload 5, 2) := by decide +kernel
theorem dL_pass_11 : decode cL_pass 11 = .ok (.iload 6, 2) := by decide +kernel
theorem dL_pass_13 : decode cL_pass 13 = .ok (.invokevirtual 41, 3) := by decide +kernel
theorem dL_pass_16 : decode cL_pass 16 = .ok (.i2l, 1) := by decide +kernel
theorem dL_pass_17 : decode cL_pass 17 = .ok (.lastore, 1) := by decide +kernel
theorem dL_pass_18 : decode cL_pass 18 = .ok (.goto 11, 3) := by decide +kernel
theorem dL_pass_21 : decode cL_pass 21 = .ok (.astore 8, 2) := by decide +kernel
theorem dL_pass_23 : decode cL_pass 23 = .ok (.iconst 1, 1) := by decide +kernel
theorem dL_pass_24 : decode cL_pass 24 = .ok (.ireturn, 1) := by decide +kernel
theorem dL_pass_25 : decode cL_pass 25 = .ok (.astore 8, 2) := by decide +kernel
theorem dL_pass_27 : decode cL_pass 27 = .ok (.iconst 2, 1) := by decide +kernel
theorem dL_pass_28 : decode cL_pass 28 = .ok (.ireturn, 1) := by decide +kernel
theorem dL_pass_29 : decode cL_pass 29 = .ok (.iconst 0, 1) := by decide +kernel
theorem dL_pass_30 : decode cL_pass 30 = .ok (.ireturn, 1) := by decide +kernel
theorem dL_blast_0 : decode cL_blast 0 = .ok (.aload_n 2, 1) := by decide +kernel
theorem dL_blast_1 : decode cL_blast 1 = .ok (.iconst 0, 1) := by decide +kernel
theorem dL_blast_2 : decode cL_blast 2 = .ok (.aload_n 0, 1) := by decide +kernel
theorem dL_blast_3 : decode cL_blast 3 = .ok (.iload_n 1, 1) := by decide +kernel
theorem dL_blast_4 : decode cL_blast 4 = .ok (.invokevirtual 45, 3) := by decide +kernel
theorem dL_blast_7 : decode cL_blast 7 = .ok (.i2l, 1) := by decide +kernel
theorem dL_blast_8 : decode cL_blast 8 = .ok (.lastore, 1) := by decide +kernel
theorem dL_blast_9 : decode cL_blast 9 = .ok (.goto 9, 3) := by decide +kernel
theorem dL_blast_12 : decode cL_blast 12 = .ok (.astore_n 3, 1) := by decide +kernel
theorem dL_blast_13 : decode cL_blast 13 = .ok (.iconst 1, 1) := by decide +kernel
theorem dL_blast_14 : decode cL_blast 14 = .ok (.ireturn, 1) := by decide +kernel
theorem dL_blast_15 : decode cL_blast 15 = .ok (.astore_n 3, 1) := by decide +kernel
theorem dL_blast_16 : decode cL_blast 16 = .ok (.iconst 2, 1) := by decide +kernel
theorem dL_blast_17 : decode cL_blast 17 = .ok (.ireturn, 1) := by decide +kernel
theorem dL_blast_18 : decode cL_blast 18 = .ok (.iconst 0, 1) := by decide +kernel
theorem dL_blast_19 : decode cL_blast 19 = .ok (.ireturn, 1) := by decide +kernel
theorem dL_search_0 : decode cL_search 0 = .ok (.aload_n 2, 1) := by decide +kernel
theorem dL_search_1 : decode cL_search 1 = .ok (.iconst 0, 1) := by decide +kernel
theorem dL_search_2 : decode cL_search 2 = .ok (.aload_n 0, 1) := by decide +kernel
theorem dL_search_3 : decode cL_search 3 = .ok (.iload_n 1, 1) := by decide +kernel
theorem dL_search_4 : decode cL_search 4 = .ok (.invokevirtual 48, 3) := by decide +kernel
theorem dL_search_7 : decode cL_search 7 = .ok (.i2l, 1) := by decide +kernel
theorem dL_search_8 : decode cL_search 8 = .ok (.lastore, 1) := by decide +kernel
theorem dL_search_9 : decode cL_search 9 = .ok (.goto 9, 3) := by decide +kernel
theorem dL_search_12 : decode cL_search 12 = .ok (.astore_n 3, 1) := by decide +kernel
theorem dL_search_13 : decode cL_search 13 = .ok (.iconst 1, 1) := by decide +kernel
theorem dL_search_14 : decode cL_search 14 = .ok (.ireturn, 1) := by decide +kernel
theorem dL_search_15 : decode cL_search 15 = .ok (.astore_n 3, 1) := by decide +kernel
theorem dL_search_16 : decode cL_search 16 = .ok (.iconst 2, 1) := by decide +kernel
theorem dL_search_17 : decode cL_search 17 = .ok (.ireturn, 1) := by decide +kernel
theorem dL_search_18 : decode cL_search 18 = .ok (.iconst 0, 1) := by decide +kernel
theorem dL_search_19 : decode cL_search 19 = .ok (.ireturn, 1) := by decide +kernel
theorem dL_test_0 : decode cL_test 0 = .ok (.aload_n 2, 1) := by decide +kernel
theorem dL_test_1 : decode cL_test 1 = .ok (.iconst 0, 1) := by decide +kernel
theorem dL_test_2 : decode cL_test 2 = .ok (.aload_n 0, 1) := by decide +kernel
theorem dL_test_3 : decode cL_test 3 = .ok (.iload_n 1, 1) := by decide +kernel
theorem dL_test_4 : decode cL_test 4 = .ok (.invokevirtual 51, 3) := by decide +kernel
theorem dL_test_7 : decode cL_test 7 = .ok (.i2l, 1) := by decide +kernel
theorem dL_test_8 : decode cL_test 8 = .ok (.lastore, 1) := by decide +kernel
theorem dL_test_9 : decode cL_test 9 = .ok (.goto 6, 3) := by decide +kernel
theorem dL_test_12 : decode cL_test 12 = .ok (.astore_n 3, 1) := by decide +kernel
theorem dL_test_13 : decode cL_test 13 = .ok (.iconst 1, 1) := by decide +kernel
theorem dL_test_14 : decode cL_test 14 = .ok (.ireturn, 1) := by decide +kernel
theorem dL_test_15 : decode cL_test 15 = .ok (.iconst 0, 1) := by decide +kernel
theorem dL_test_16 : decode cL_test 16 = .ok (.ireturn, 1) := by decide +kernel
theorem dL_sweep_0 : decode cL_sweep 0 = .ok (.aload_n 2, 1) := by decide +kernel
theorem dL_sweep_1 : decode cL_sweep 1 = .ok (.iconst 0, 1) := by decide +kernel
theorem dL_sweep_2 : decode cL_sweep 2 = .ok (.aload_n 0, 1) := by decide +kernel
theorem dL_sweep_3 : decode cL_sweep 3 = .ok (.iload_n 1, 1) := by decide +kernel
theorem dL_sweep_4 : decode cL_sweep 4 = .ok (.invokevirtual 54, 3) := by decide +kernel
theorem dL_sweep_7 : decode cL_sweep 7 = .ok (.ifCond .eq 7, 3) := by decide +kernel
theorem dL_sweep_10 : decode cL_sweep 10 = .ok (.lconst 1, 1) := by decide +kernel
theorem dL_sweep_11 : decode cL_sweep 11 = .ok (.goto 4, 3) := by decide +kernel
theorem dL_sweep_14 : decode cL_sweep 14 = .ok (.lconst 0, 1) := by decide +kernel
theorem dL_sweep_15 : decode cL_sweep 15 = .ok (.lastore, 1) := by decide +kernel
theorem dL_sweep_16 : decode cL_sweep 16 = .ok (.goto 9, 3) := by decide +kernel
theorem dL_sweep_19 : decode cL_sweep 19 = .ok (.astore_n 3, 1) := by decide +kernel
theorem dL_sweep_20 : decode cL_sweep 20 = .ok (.iconst 1, 1) := by decide +kernel
theorem dL_sweep_21 : decode cL_sweep 21 = .ok (.ireturn, 1) := by decide +kernel
theorem dL_sweep_22 : decode cL_sweep 22 = .ok (.astore_n 3, 1) := by decide +kernel
theorem dL_sweep_23 : decode cL_sweep 23 = .ok (.iconst 2, 1) := by decide +kernel
theorem dL_sweep_24 : decode cL_sweep 24 = .ok (.ireturn, 1) := by decide +kernel
theorem dL_sweep_25 : decode cL_sweep 25 = .ok (.iconst 0, 1) := by decide +kernel
theorem dL_sweep_26 : decode cL_sweep 26 = .ok (.ireturn, 1) := by decide +kernel
theorem dL_winch_0 : decode cL_winch 0 = .ok (.aload_n 3, 1) := by decide +kernel
theorem dL_winch_1 : decode cL_winch 1 = .ok (.iconst 0, 1) := by decide +kernel
theorem dL_winch_2 : decode cL_winch 2 = .ok (.aload_n 0, 1) := by decide +kernel
theorem dL_winch_3 : decode cL_winch 3 = .ok (.iload_n 1, 1) := by decide +kernel
theorem dL_winch_4 : decode cL_winch 4 = .ok (.iload_n 2, 1) := by decide +kernel
theorem dL_winch_5 : decode cL_winch 5 = .ok (.invokevirtual 57, 3) := by decide +kernel
theorem dL_winch_8 : decode cL_winch 8 = .ok (.ifCond .eq 7, 3) := by decide +kernel
theorem dL_winch_11 : decode cL_winch 11 = .ok (.lconst 1, 1) := by decide +kernel
theorem dL_winch_12 : decode cL_winch 12 = .ok (.goto 4, 3) := by decide +kernel
theorem dL_winch_15 : decode cL_winch 15 = .ok (.lconst 0, 1) := by decide +kernel
theorem dL_winch_16 : decode cL_winch 16 = .ok (.lastore, 1) := by decide +kernel
theorem dL_winch_17 : decode cL_winch 17 = .ok (.goto 11, 3) := by decide +kernel
theorem dL_winch_20 : decode cL_winch 20 = .ok (.astore 4, 2) := by decide +kernel
theorem dL_winch_22 : decode cL_winch 22 = .ok (.iconst 1, 1) := by decide +kernel
theorem dL_winch_23 : decode cL_winch 23 = .ok (.ireturn, 1) := by decide +kernel
theorem dL_winch_24 : decode cL_winch 24 = .ok (.astore 4, 2) := by decide +kernel
theorem dL_winch_26 : decode cL_winch 26 = .ok (.iconst 2, 1) := by decide +kernel
theorem dL_winch_27 : decode cL_winch 27 = .ok (.ireturn, 1) := by decide +kernel
theorem dL_winch_28 : decode cL_winch 28 = .ok (.iconst 0, 1) := by decide +kernel
theorem dL_winch_29 : decode cL_winch 29 = .ok (.ireturn, 1) := by decide +kernel
theorem dL_groom_0 : decode cL_groom 0 = .ok (.aload_n 2, 1) := by decide +kernel
theorem dL_groom_1 : decode cL_groom 1 = .ok (.iconst 0, 1) := by decide +kernel
theorem dL_groom_2 : decode cL_groom 2 = .ok (.aload_n 0, 1) := by decide +kernel
theorem dL_groom_3 : decode cL_groom 3 = .ok (.iload_n 1, 1) := by decide +kernel
theorem dL_groom_4 : decode cL_groom 4 = .ok (.invokevirtual 60, 3) := by decide +kernel
theorem dL_groom_7 : decode cL_groom 7 = .ok (.i2l, 1) := by decide +kernel
theorem dL_groom_8 : decode cL_groom 8 = .ok (.lastore, 1) := by decide +kernel
theorem dL_groom_9 : decode cL_groom 9 = .ok (.goto 9, 3) := by decide +kernel
theorem dL_groom_12 : decode cL_groom 12 = .ok (.astore_n 3, 1) := by decide +kernel
theorem dL_groom_13 : decode cL_groom 13 = .ok (.iconst 1, 1) := by decide +kernel
theorem dL_groom_14 : decode cL_groom 14 = .ok (.ireturn, 1) := by decide +kernel
theorem dL_groom_15 : decode cL_groom 15 = .ok (.astore_n 3, 1) := by decide +kernel
theorem dL_groom_16 : decode cL_groom 16 = .ok (.iconst 2, 1) := by decide +kernel
theorem dL_groom_17 : decode cL_groom 17 = .ok (.ireturn, 1) := by decide +kernel
theorem dL_groom_18 : decode cL_groom 18 = .ok (.iconst 0, 1) := by decide +kernel
theorem dL_groom_19 : decode cL_groom 19 = .ok (.ireturn, 1) := by decide +kernel
theorem dL_open_0 : decode cL_open 0 = .ok (.aload_n 2, 1) := by decide +kernel
theorem dL_open_1 : decode cL_open 1 = .ok (.iconst 0, 1) := by decide +kernel
theorem dL_open_2 : decode cL_open 2 = .ok (.aload_n 0, 1) := by decide +kernel
theorem dL_open_3 : decode cL_open 3 = .ok (.iload_n 1, 1) := by decide +kernel
theorem dL_open_4 : decode cL_open 4 = .ok (.invokevirtual 63, 3) := by decide +kernel
theorem dL_open_7 : decode cL_open 7 = .ok (.i2l, 1) := by decide +kernel
theorem dL_open_8 : decode cL_open 8 = .ok (.lastore, 1) := by decide +kernel
theorem dL_open_9 : decode cL_open 9 = .ok (.goto 9, 3) := by decide +kernel
end
section
theorem dL_open_12 : decode cL_open 12 = .ok (.astore_n 3, 1) := by decide +kernel
theorem dL_open_13 : decode cL_open 13 = .ok (.iconst 1, 1) := by decide +kernel
theorem dL_open_14 : decode cL_open 14 = .ok (.ireturn, 1) := by decide +kernel
theorem dL_open_15 : decode cL_open 15 = .ok (.astore_n 3, 1) := by decide +kernel
theorem dL_open_16 : decode cL_open 16 = .ok (.iconst 2, 1) := by decide +kernel
theorem dL_open_17 : decode cL_open 17 = .ok (.ireturn, 1) := by decide +kernel
theorem dL_open_18 : decode cL_open 18 = .ok (.iconst 0, 1) := by decide +kernel
theorem dL_open_19 : decode cL_open 19 = .ok (.ireturn, 1) := by decide +kernel
theorem dL_close_0 : decode cL_close 0 = .ok (.aload_n 2, 1) := by decide +kernel
theorem dL_close_1 : decode cL_close 1 = .ok (.iconst 0, 1) := by decide +kernel
theorem dL_close_2 : decode cL_close 2 = .ok (.aload_n 0, 1) := by decide +kernel
theorem dL_close_3 : decode cL_close 3 = .ok (.iload_n 1, 1) := by decide +kernel
theorem dL_close_4 : decode cL_close 4 = .ok (.invokevirtual 66, 3) := by decide +kernel
theorem dL_close_7 : decode cL_close 7 = .ok (.i2l, 1) := by decide +kernel
theorem dL_close_8 : decode cL_close 8 = .ok (.lastore, 1) := by decide +kernel
theorem dL_close_9 : decode cL_close 9 = .ok (.goto 9, 3) := by decide +kernel
theorem dL_close_12 : decode cL_close 12 = .ok (.astore_n 3, 1) := by decide +kernel
theorem dL_close_13 : decode cL_close 13 = .ok (.iconst 1, 1) := by decide +kernel
theorem dL_close_14 : decode cL_close 14 = .ok (.ireturn, 1) := by decide +kernel
theorem dL_close_15 : decode cL_close 15 = .ok (.astore_n 3, 1) := by decide +kernel
theorem dL_close_16 : decode cL_close 16 = .ok (.iconst 2, 1) := by decide +kernel
theorem dL_close_17 : decode cL_close 17 = .ok (.ireturn, 1) := by decide +kernel
theorem dL_close_18 : decode cL_close 18 = .ok (.iconst 0, 1) := by decide +kernel
theorem dL_close_19 : decode cL_close 19 = .ok (.ireturn, 1) := by decide +kernel
theorem dL_ofRun_0 : decode cL_ofRun 0 = .ok (.aload_n 3, 1) := by decide +kernel
theorem dL_ofRun_1 : decode cL_ofRun 1 = .ok (.iconst 0, 1) := by decide +kernel
theorem dL_ofRun_2 : decode cL_ofRun 2 = .ok (.aload_n 0, 1) := by decide +kernel
theorem dL_ofRun_3 : decode cL_ofRun 3 = .ok (.iload_n 1, 1) := by decide +kernel
theorem dL_ofRun_4 : decode cL_ofRun 4 = .ok (.iload_n 2, 1) := by decide +kernel
theorem dL_ofRun_5 : decode cL_ofRun 5 = .ok (.invokevirtual 69, 3) := by decide +kernel
theorem dL_ofRun_8 : decode cL_ofRun 8 = .ok (.i2l, 1) := by decide +kernel
theorem dL_ofRun_9 : decode cL_ofRun 9 = .ok (.lastore, 1) := by decide +kernel
theorem dL_ofRun_10 : decode cL_ofRun 10 = .ok (.goto 11, 3) := by decide +kernel
theorem dL_ofRun_13 : decode cL_ofRun 13 = .ok (.astore 4, 2) := by decide +kernel
theorem dL_ofRun_15 : decode cL_ofRun 15 = .ok (.iconst 1, 1) := by decide +kernel
theorem dL_ofRun_16 : decode cL_ofRun 16 = .ok (.ireturn, 1) := by decide +kernel
theorem dL_ofRun_17 : decode cL_ofRun 17 = .ok (.astore 4, 2) := by decide +kernel
theorem dL_ofRun_19 : decode cL_ofRun 19 = .ok (.iconst 2, 1) := by decide +kernel
theorem dL_ofRun_20 : decode cL_ofRun 20 = .ok (.ireturn, 1) := by decide +kernel
theorem dL_ofRun_21 : decode cL_ofRun 21 = .ok (.iconst 0, 1) := by decide +kernel
theorem dL_ofRun_22 : decode cL_ofRun 22 = .ok (.ireturn, 1) := by decide +kernel
theorem dL_ofLayer_0 : decode cL_ofLayer 0 = .ok (.aload 4, 2) := by decide +kernel
theorem dL_ofLayer_2 : decode cL_ofLayer 2 = .ok (.iconst 0, 1) := by decide +kernel
theorem dL_ofLayer_3 : decode cL_ofLayer 3 = .ok (.aload_n 0, 1) := by decide +kernel
theorem dL_ofLayer_4 : decode cL_ofLayer 4 = .ok (.iload_n 1, 1) := by decide +kernel
theorem dL_ofLayer_5 : decode cL_ofLayer 5 = .ok (.iload_n 2, 1) := by decide +kernel
theorem dL_ofLayer_6 : decode cL_ofLayer 6 = .ok (.iload_n 3, 1) := by decide +kernel
theorem dL_ofLayer_7 : decode cL_ofLayer 7 = .ok (.invokevirtual 72, 3) := by decide +kernel
theorem dL_ofLayer_10 : decode cL_ofLayer 10 = .ok (.i2l, 1) := by decide +kernel
theorem dL_ofLayer_11 : decode cL_ofLayer 11 = .ok (.lastore, 1) := by decide +kernel
theorem dL_ofLayer_12 : decode cL_ofLayer 12 = .ok (.goto 11, 3) := by decide +kernel
theorem dL_ofLayer_15 : decode cL_ofLayer 15 = .ok (.astore 5, 2) := by decide +kernel
theorem dL_ofLayer_17 : decode cL_ofLayer 17 = .ok (.iconst 1, 1) := by decide +kernel
theorem dL_ofLayer_18 : decode cL_ofLayer 18 = .ok (.ireturn, 1) := by decide +kernel
theorem dL_ofLayer_19 : decode cL_ofLayer 19 = .ok (.astore 5, 2) := by decide +kernel
theorem dL_ofLayer_21 : decode cL_ofLayer 21 = .ok (.iconst 2, 1) := by decide +kernel
theorem dL_ofLayer_22 : decode cL_ofLayer 22 = .ok (.ireturn, 1) := by decide +kernel
theorem dL_ofLayer_23 : decode cL_ofLayer 23 = .ok (.iconst 0, 1) := by decide +kernel
theorem dL_ofLayer_24 : decode cL_ofLayer 24 = .ok (.ireturn, 1) := by decide +kernel
theorem dL_ofLift_0 : decode cL_ofLift 0 = .ok (.aload_n 3, 1) := by decide +kernel
theorem dL_ofLift_1 : decode cL_ofLift 1 = .ok (.iconst 0, 1) := by decide +kernel
theorem dL_ofLift_2 : decode cL_ofLift 2 = .ok (.aload_n 0, 1) := by decide +kernel
theorem dL_ofLift_3 : decode cL_ofLift 3 = .ok (.iload_n 1, 1) := by decide +kernel
theorem dL_ofLift_4 : decode cL_ofLift 4 = .ok (.iload_n 2, 1) := by decide +kernel
theorem dL_ofLift_5 : decode cL_ofLift 5 = .ok (.invokevirtual 76, 3) := by decide +kernel
theorem dL_ofLift_8 : decode cL_ofLift 8 = .ok (.i2l, 1) := by decide +kernel
theorem dL_ofLift_9 : decode cL_ofLift 9 = .ok (.lastore, 1) := by decide +kernel
theorem dL_ofLift_10 : decode cL_ofLift 10 = .ok (.goto 11, 3) := by decide +kernel
theorem dL_ofLift_13 : decode cL_ofLift 13 = .ok (.astore 4, 2) := by decide +kernel
theorem dL_ofLift_15 : decode cL_ofLift 15 = .ok (.iconst 1, 1) := by decide +kernel
theorem dL_ofLift_16 : decode cL_ofLift 16 = .ok (.ireturn, 1) := by decide +kernel
theorem dL_ofLift_17 : decode cL_ofLift 17 = .ok (.astore 4, 2) := by decide +kernel
theorem dL_ofLift_19 : decode cL_ofLift 19 = .ok (.iconst 2, 1) := by decide +kernel
theorem dL_ofLift_20 : decode cL_ofLift 20 = .ok (.ireturn, 1) := by decide +kernel
theorem dL_ofLift_21 : decode cL_ofLift 21 = .ok (.iconst 0, 1) := by decide +kernel
theorem dL_ofLift_22 : decode cL_ofLift 22 = .ok (.ireturn, 1) := by decide +kernel
theorem dL_many_0 : decode cL_many 0 = .ok (.aload_n 2, 1) := by decide +kernel
theorem dL_many_1 : decode cL_many 1 = .ok (.iconst 0, 1) := by decide +kernel
theorem dL_many_2 : decode cL_many 2 = .ok (.aload_n 0, 1) := by decide +kernel
theorem dL_many_3 : decode cL_many 3 = .ok (.iload_n 1, 1) := by decide +kernel
theorem dL_many_4 : decode cL_many 4 = .ok (.invokevirtual 79, 3) := by decide +kernel
theorem dL_many_7 : decode cL_many 7 = .ok (.i2l, 1) := by decide +kernel
theorem dL_many_8 : decode cL_many 8 = .ok (.lastore, 1) := by decide +kernel
theorem dL_many_9 : decode cL_many 9 = .ok (.goto 6, 3) := by decide +kernel
theorem dL_many_12 : decode cL_many 12 = .ok (.astore_n 3, 1) := by decide +kernel
theorem dL_many_13 : decode cL_many 13 = .ok (.iconst 1, 1) := by decide +kernel
theorem dL_many_14 : decode cL_many 14 = .ok (.ireturn, 1) := by decide +kernel
theorem dL_many_15 : decode cL_many 15 = .ok (.iconst 0, 1) := by decide +kernel
theorem dL_many_16 : decode cL_many 16 = .ok (.ireturn, 1) := by decide +kernel
theorem dL_wouldRisk_0 : decode cL_wouldRisk 0 = .ok (.aload 5, 2) := by decide +kernel
theorem dL_wouldRisk_2 : decode cL_wouldRisk 2 = .ok (.iconst 0, 1) := by decide +kernel
theorem dL_wouldRisk_3 : decode cL_wouldRisk 3 = .ok (.aload_n 0, 1) := by decide +kernel
theorem dL_wouldRisk_4 : decode cL_wouldRisk 4 = .ok (.iload_n 1, 1) := by decide +kernel
theorem dL_wouldRisk_5 : decode cL_wouldRisk 5 = .ok (.iload_n 2, 1) := by decide +kernel
theorem dL_wouldRisk_6 : decode cL_wouldRisk 6 = .ok (.iload_n 3, 1) := by decide +kernel
theorem dL_wouldRisk_7 : decode cL_wouldRisk 7 = .ok (.iload 4, 2) := by decide +kernel
theorem dL_wouldRisk_9 : decode cL_wouldRisk 9 = .ok (.invokevirtual 82, 3) := by decide +kernel
theorem dL_wouldRisk_12 : decode cL_wouldRisk 12 = .ok (.i2l, 1) := by decide +kernel
theorem dL_wouldRisk_13 : decode cL_wouldRisk 13 = .ok (.lastore, 1) := by decide +kernel
theorem dL_wouldRisk_14 : decode cL_wouldRisk 14 = .ok (.goto 11, 3) := by decide +kernel
theorem dL_wouldRisk_17 : decode cL_wouldRisk 17 = .ok (.astore 6, 2) := by decide +kernel
theorem dL_wouldRisk_19 : decode cL_wouldRisk 19 = .ok (.iconst 1, 1) := by decide +kernel
theorem dL_wouldRisk_20 : decode cL_wouldRisk 20 = .ok (.ireturn, 1) := by decide +kernel
theorem dL_wouldRisk_21 : decode cL_wouldRisk 21 = .ok (.astore 6, 2) := by decide +kernel
theorem dL_wouldRisk_23 : decode cL_wouldRisk 23 = .ok (.iconst 2, 1) := by decide +kernel
theorem dL_wouldRisk_24 : decode cL_wouldRisk 24 = .ok (.ireturn, 1) := by decide +kernel
theorem dL_wouldRisk_25 : decode cL_wouldRisk 25 = .ok (.iconst 0, 1) := by decide +kernel
theorem dL_wouldRisk_26 : decode cL_wouldRisk 26 = .ok (.ireturn, 1) := by decide +kernel
theorem dL_wouldMake_0 : decode cL_wouldMake 0 = .ok (.aload 5, 2) := by decide +kernel
theorem dL_wouldMake_2 : decode cL_wouldMake 2 = .ok (.iconst 0, 1) := by decide +kernel
theorem dL_wouldMake_3 : decode cL_wouldMake 3 = .ok (.aload_n 0, 1) := by decide +kernel
theorem dL_wouldMake_4 : decode cL_wouldMake 4 = .ok (.iload_n 1, 1) := by decide +kernel
theorem dL_wouldMake_5 : decode cL_wouldMake 5 = .ok (.iload_n 2, 1) := by decide +kernel
theorem dL_wouldMake_6 : decode cL_wouldMake 6 = .ok (.iload_n 3, 1) := by decide +kernel
theorem dL_wouldMake_7 : decode cL_wouldMake 7 = .ok (.iload 4, 2) := by decide +kernel
theorem dL_wouldMake_9 : decode cL_wouldMake 9 = .ok (.invokevirtual 86, 3) := by decide +kernel
theorem dL_wouldMake_12 : decode cL_wouldMake 12 = .ok (.i2l, 1) := by decide +kernel
theorem dL_wouldMake_13 : decode cL_wouldMake 13 = .ok (.lastore, 1) := by decide +kernel
theorem dL_wouldMake_14 : decode cL_wouldMake 14 = .ok (.goto 11, 3) := by decide +kernel
theorem dL_wouldMake_17 : decode cL_wouldMake 17 = .ok (.astore 6, 2) := by decide +kernel
theorem dL_wouldMake_19 : decode cL_wouldMake 19 = .ok (.iconst 1, 1) := by decide +kernel
theorem dL_wouldMake_20 : decode cL_wouldMake 20 = .ok (.ireturn, 1) := by decide +kernel
theorem dL_wouldMake_21 : decode cL_wouldMake 21 = .ok (.astore 6, 2) := by decide +kernel
theorem dL_wouldMake_23 : decode cL_wouldMake 23 = .ok (.iconst 2, 1) := by decide +kernel
theorem dL_wouldMake_24 : decode cL_wouldMake 24 = .ok (.ireturn, 1) := by decide +kernel
theorem dL_wouldMake_25 : decode cL_wouldMake 25 = .ok (.iconst 0, 1) := by decide +kernel
theorem dL_wouldMake_26 : decode cL_wouldMake 26 = .ok (.ireturn, 1) := by decide +kernel
theorem dL_law_0 : decode cL_law 0 = .ok (.new 8, 3) := by decide +kernel
theorem dL_law_3 : decode cL_law 3 = .ok (.dup, 1) := by decide +kernel
theorem dL_law_4 : decode cL_law 4 = .ok (.invokespecial 89, 3) := by decide +kernel
theorem dL_law_7 : decode cL_law 7 = .ok (.astore_n 1, 1) := by decide +kernel
theorem dL_law_8 : decode cL_law 8 = .ok (.new 90, 3) := by decide +kernel
theorem dL_law_11 : decode cL_law 11 = .ok (.dup, 1) := by decide +kernel
theorem dL_law_12 : decode cL_law 12 = .ok (.invokespecial 92, 3) := by decide +kernel
theorem dL_law_15 : decode cL_law 15 = .ok (.astore_n 2, 1) := by decide +kernel
theorem dL_law_16 : decode cL_law 16 = .ok (.iconst 1, 1) := by decide +kernel
theorem dL_law_17 : decode cL_law 17 = .ok (.newarray .long, 2) := by decide +kernel
theorem dL_law_19 : decode cL_law 19 = .ok (.astore_n 3, 1) := by decide +kernel
theorem dL_law_20 : decode cL_law 20 = .ok (.iconst 0, 1) := by decide +kernel
theorem dL_law_21 : decode cL_law 21 = .ok (.istore 4, 2) := by decide +kernel
theorem dL_law_23 : decode cL_law 23 = .ok (.iload 4, 2) := by decide +kernel
theorem dL_law_25 : decode cL_law 25 = .ok (.aload_n 0, 1) := by decide +kernel
theorem dL_law_26 : decode cL_law 26 = .ok (.arraylength, 1) := by decide +kernel
theorem dL_law_27 : decode cL_law 27 = .ok (.bipush 7, 2) := by decide +kernel
theorem dL_law_29 : decode cL_law 29 = .ok (.isub, 1) := by decide +kernel
theorem dL_law_30 : decode cL_law 30 = .ok (.if_icmp .gt 1787, 3) := by decide +kernel
theorem dL_law_33 : decode cL_law 33 = .ok (.aload_n 0, 1) := by decide +kernel
theorem dL_law_34 : decode cL_law 34 = .ok (.iload 4, 2) := by decide +kernel
theorem dL_law_36 : decode cL_law 36 = .ok (.iaload, 1) := by decide +kernel
theorem dL_law_37 : decode cL_law 37 = .ok (.bipush 31, 2) := by decide +kernel
theorem dL_law_39 : decode cL_law 39 = .ok (.iand, 1) := by decide +kernel
theorem dL_law_40 : decode cL_law 40 = .ok (.tableswitch 1771 0 25 #[120, 188, 292, 383, 446, 514, 570, 626, 744, 800, 856, 912, 975, 1066, 1122, 1178, 1234, 1302, 1382, 1450, 1506, 1547, 1639, 1731, 1744, 1757], 120) := by decide +kernel
theorem dL_law_160 : decode cL_law 160 = .ok (.aload_n 1, 1) := by decide +kernel
theorem dL_law_161 : decode cL_law 161 = .ok (.aload_n 0, 1) := by decide +kernel
theorem dL_law_162 : decode cL_law 162 = .ok (.iload 4, 2) := by decide +kernel
theorem dL_law_164 : decode cL_law 164 = .ok (.iconst 1, 1) := by decide +kernel
theorem dL_law_165 : decode cL_law 165 = .ok (.iadd, 1) := by decide +kernel
theorem dL_law_166 : decode cL_law 166 = .ok (.iaload, 1) := by decide +kernel
theorem dL_law_167 : decode cL_law 167 = .ok (.aload_n 0, 1) := by decide +kernel
theorem dL_law_168 : decode cL_law 168 = .ok (.iload 4, 2) := by decide +kernel
theorem dL_law_170 : decode cL_law 170 = .ok (.iconst 2, 1) := by decide +kernel
theorem dL_law_171 : decode cL_law 171 = .ok (.iadd, 1) := by decide +kernel
theorem dL_law_172 : decode cL_law 172 = .ok (.iaload, 1) := by decide +kernel
theorem dL_law_173 : decode cL_law 173 = .ok (.aload_n 3, 1) := by decide +kernel
theorem dL_law_174 : decode cL_law 174 = .ok (.invokestatic 93, 3) := by decide +kernel
theorem dL_law_177 : decode cL_law 177 = .ok (.istore 5, 2) := by decide +kernel
theorem dL_law_179 : decode cL_law 179 = .ok (.aload_n 2, 1) := by decide +kernel
theorem dL_law_180 : decode cL_law 180 = .ok (.aload_n 0, 1) := by decide +kernel
theorem dL_law_181 : decode cL_law 181 = .ok (.iload 4, 2) := by decide +kernel
theorem dL_law_183 : decode cL_law 183 = .ok (.iconst 1, 1) := by decide +kernel
theorem dL_law_184 : decode cL_law 184 = .ok (.iadd, 1) := by decide +kernel
theorem dL_law_185 : decode cL_law 185 = .ok (.iaload, 1) := by decide +kernel
theorem dL_law_186 : decode cL_law 186 = .ok (.aload_n 0, 1) := by decide +kernel
theorem dL_law_187 : decode cL_law 187 = .ok (.iload 4, 2) := by decide +kernel
theorem dL_law_189 : decode cL_law 189 = .ok (.iconst 2, 1) := by decide +kernel
theorem dL_law_190 : decode cL_law 190 = .ok (.iadd, 1) := by decide +kernel
theorem dL_law_191 : decode cL_law 191 = .ok (.iaload, 1) := by decide +kernel
theorem dL_law_192 : decode cL_law 192 = .ok (.invokevirtual 98, 3) := by decide +kernel
theorem dL_law_195 : decode cL_law 195 = .ok (.istore 6, 2) := by decide +kernel
theorem dL_law_197 : decode cL_law 197 = .ok (.aload_n 2, 1) := by decide +kernel
theorem dL_law_198 : decode cL_law 198 = .ok (.invokevirtual 99, 3) := by decide +kernel
theorem dL_law_201 : decode cL_law 201 = .ok (.iload 5, 2) := by decide +kernel
theorem dL_law_203 : decode cL_law 203 = .ok (.if_icmp .eq 5, 3) := by decide +kernel
theorem dL_law_206 : decode cL_law 206 = .ok (.iconst 0, 1) := by decide +kernel
theorem dL_law_207 : decode cL_law 207 = .ok (.ireturn, 1) := by decide +kernel
theorem dL_law_208 : decode cL_law 208 = .ok (.iload 5, 2) := by decide +kernel
theorem dL_law_210 : decode cL_law 210 = .ok (.ifCond .ne 15, 3) := by decide +kernel
theorem dL_law_213 : decode cL_law 213 = .ok (.aload_n 3, 1) := by decide +kernel
theorem dL_law_214 : decode cL_law 214 = .ok (.iconst 0, 1) := by decide +kernel
theorem dL_law_215 : decode cL_law 215 = .ok (.laload, 1) := by decide +kernel
theorem dL_law_216 : decode cL_law 216 = .ok (.iload 6, 2) := by decide +kernel
theorem dL_law_218 : decode cL_law 218 = .ok (.i2l, 1) := by decide +kernel
theorem dL_law_219 : decode cL_law 219 = .ok (.lcmp, 1) := by decide +kernel
theorem dL_law_220 : decode cL_law 220 = .ok (.ifCond .eq 5, 3) := by decide +kernel
theorem dL_law_223 : decode cL_law 223 = .ok (.iconst 0, 1) := by decide +kernel
theorem dL_law_224 : decode cL_law 224 = .ok (.ireturn, 1) := by decide +kernel
theorem dL_law_225 : decode cL_law 225 = .ok (.goto 1586, 3) := by decide +kernel
theorem dL_law_228 : decode cL_law 228 = .ok (.aload_n 1, 1) := by decide +kernel
theorem dL_law_229 : decode cL_law 229 = .ok (.aload_n 0, 1) := by decide +kernel
theorem dL_law_230 : decode cL_law 230 = .ok (.iload 4, 2) := by decide +kernel
theorem dL_law_232 : decode cL_law 232 = .ok (.iconst 1, 1) := by decide +kernel
theorem dL_law_233 : decode cL_law 233 = .ok (.iadd, 1) := by decide +kernel
theorem dL_law_234 : decode cL_law 234 = .ok (.iaload, 1) := by decide +kernel
theorem dL_law_235 : decode cL_law 235 = .ok (.aload_n 0, 1) := by decide +kernel
theorem dL_law_236 : decode cL_law 236 = .ok (.iload 4, 2) := by decide +kernel
theorem dL_law_238 : decode cL_law 238 = .ok (.iconst 2, 1) := by decide +kernel
theorem dL_law_239 : decode cL_law 239 = .ok (.iadd, 1) := by decide +kernel
theorem dL_law_240 : decode cL_law 240 = .ok (.iaload, 1) := by decide +kernel
theorem dL_law_241 : decode cL_law 241 = .ok (.aload_n 0, 1) := by decide +kernel
theorem dL_law_242 : decode cL_law 242 = .ok (.iload 4, 2) := by decide +kernel
theorem dL_law_244 : decode cL_law 244 = .ok (.iconst 3, 1) := by decide +kernel
theorem dL_law_245 : decode cL_law 245 = .ok (.iadd, 1) := by decide +kernel
theorem dL_law_246 : decode cL_law 246 = .ok (.iaload, 1) := by decide +kernel
theorem dL_law_247 : decode cL_law 247 = .ok (.aload_n 0, 1) := by decide +kernel
theorem dL_law_248 : decode cL_law 248 = .ok (.iload 4, 2) := by decide +kernel
theorem dL_law_250 : decode cL_law 250 = .ok (.iconst 4, 1) := by decide +kernel
theorem dL_law_251 : decode cL_law 251 = .ok (.iadd, 1) := by decide +kernel
theorem dL_law_252 : decode cL_law 252 = .ok (.iaload, 1) := by decide +kernel
theorem dL_law_253 : decode cL_law 253 = .ok (.aload_n 0, 1) := by decide +kernel
theorem dL_law_254 : decode cL_law 254 = .ok (.iload 4, 2) := by decide +kernel
theorem dL_law_256 : decode cL_law 256 = .ok (.iconst 5, 1) := by decide +kernel
theorem dL_law_257 : decode cL_law 257 = .ok (.iadd, 1) := by decide +kernel
theorem dL_law_258 : decode cL_law 258 = .ok (.iaload, 1) := by decide +kernel
theorem dL_law_259 : decode cL_law 259 = .ok (.aload_n 3, 1) := by decide +kernel
theorem dL_law_260 : decode cL_law 260 = .ok (.invokestatic 103, 3) := by decide +kernel
theorem dL_law_263 : decode cL_law 263 = .ok (.istore 5, 2) := by decide +kernel
theorem dL_law_265 : decode cL_law 265 = .ok (.aload_n 2, 1) := by decide +kernel
theorem dL_law_266 : decode cL_law 266 = .ok (.aload_n 0, 1) := by decide +kernel
theorem dL_law_267 : decode cL_law 267 = .ok (.iload 4, 2) := by decide +kernel
theorem dL_law_269 : decode cL_law 269 = .ok (.iconst 1, 1) := by decide +kernel
theorem dL_law_270 : decode cL_law 270 = .ok (.iadd, 1) := by decide +kernel
theorem dL_law_271 : decode cL_law 271 = .ok (.iaload, 1) := by decide +kernel
theorem dL_law_272 : decode cL_law 272 = .ok (.aload_n 0, 1) := by decide +kernel
theorem dL_law_273 : decode cL_law 273 = .ok (.iload 4, 2) := by decide +kernel
theorem dL_law_275 : decode cL_law 275 = .ok (.iconst 2, 1) := by decide +kernel
theorem dL_law_276 : decode cL_law 276 = .ok (.iadd, 1) := by decide +kernel
theorem dL_law_277 : decode cL_law 277 = .ok (.iaload, 1) := by decide +kernel
theorem dL_law_278 : decode cL_law 278 = .ok (.aload_n 0, 1) := by decide +kernel
theorem dL_law_279 : decode cL_law 279 = .ok (.iload 4, 2) := by decide +kernel
theorem dL_law_281 : decode cL_law 281 = .ok (.iconst 3, 1) := by decide +kernel
theorem dL_law_282 : decode cL_law 282 = .ok (.iadd, 1) := by decide +kernel
theorem dL_law_283 : decode cL_law 283 = .ok (.iaload, 1) := by decide +kernel
theorem dL_law_284 : decode cL_law 284 = .ok (.aload_n 0, 1) := by decide +kernel
theorem dL_law_285 : decode cL_law 285 = .ok (.iload 4, 2) := by decide +kernel
theorem dL_law_287 : decode cL_law 287 = .ok (.iconst 4, 1) := by decide +kernel
theorem dL_law_288 : decode cL_law 288 = .ok (.iadd, 1) := by decide +kernel
theorem dL_law_289 : decode cL_law 289 = .ok (.iaload, 1) := by decide +kernel
theorem dL_law_290 : decode cL_law 290 = .ok (.aload_n 0, 1) := by decide +kernel
theorem dL_law_291 : decode cL_law 291 = .ok (.iload 4, 2) := by decide +kernel
theorem dL_law_293 : decode cL_law 293 = .ok (.iconst 5, 1) := by decide +kernel
theorem dL_law_294 : decode cL_law 294 = .ok (.iadd, 1) := by decide +kernel
theorem dL_law_295 : decode cL_law 295 = .ok (.iaload, 1) := by decide +kernel
theorem dL_law_296 : decode cL_law 296 = .ok (.invokevirtual 106, 3) := by decide +kernel
theorem dL_law_299 : decode cL_law 299 = .ok (.istore 6, 2) := by decide +kernel
theorem dL_law_301 : decode cL_law 301 = .ok (.aload_n 2, 1) := by decide +kernel
theorem dL_law_302 : decode cL_law 302 = .ok (.invokevirtual 99, 3) := by decide +kernel
theorem dL_law_305 : decode cL_law 305 = .ok (.iload 5, 2) := by decide +kernel
theorem dL_law_307 : decode cL_law 307 = .ok (.if_icmp .eq 5, 3) := by decide +kernel
theorem dL_law_310 : decode cL_law 310 = .ok (.iconst 0, 1) := by decide +kernel
theorem dL_law_311 : decode cL_law 311 = .ok (.ireturn, 1) := by decide +kernel
theorem dL_law_312 : decode cL_law 312 = .ok (.iload 5, 2) := by decide +kernel
theorem dL_law_314 : decode cL_law 314 = .ok (.ifCond .ne 15, 3) := by decide +kernel
theorem dL_law_317 : decode cL_law 317 = .ok (.aload_n 3, 1) := by decide +kernel
theorem dL_law_318 : decode cL_law 318 = .ok (.iconst 0, 1) := by decide +kernel
theorem dL_law_319 : decode cL_law 319 = .ok (.laload, 1) := by decide +kernel
theorem dL_law_320 : decode cL_law 320 = .ok (.iload 6, 2) := by decide +kernel
theorem dL_law_322 : decode cL_law 322 = .ok (.i2l, 1) := by decide +kernel
theorem dL_law_323 : decode cL_law 323 = .ok (.lcmp, 1) := by decide +kernel
theorem dL_law_324 : decode cL_law 324 = .ok (.ifCond .eq 5, 3) := by decide +kernel
theorem dL_law_327 : decode cL_law 327 = .ok (.iconst 0, 1) := by decide +kernel
theorem dL_law_328 : decode cL_law 328 = .ok (.ireturn, 1) := by decide +kernel
theorem dL_law_329 : decode cL_law 329 = .ok (.goto 1482, 3) := by decide +kernel
theorem dL_law_332 : decode cL_law 332 = .ok (.aload_n 1, 1) := by decide +kernel
theorem dL_law_333 : decode cL_law 333 = .ok (.aload_n 0, 1) := by decide +kernel
theorem dL_law_334 : decode cL_law 334 = .ok (.iload 4, 2) := by decide +kernel
theorem dL_law_336 : decode cL_law 336 = .ok (.iconst 1, 1) := by decide +kernel
theorem dL_law_337 : decode cL_law 337 = .ok (.iadd, 1) := by decide +kernel
theorem dL_law_338 : decode cL_law 338 = .ok (.iaload, 1) := by decide +kernel
theorem dL_law_339 : decode cL_law 339 = .ok (.aload_n 0, 1) := by decide +kernel
theorem dL_law_340 : decode cL_law 340 = .ok (.iload 4, 2) := by decide +kernel
theorem dL_law_342 : decode cL_law 342 = .ok (.iconst 2, 1) := by decide +kernel
theorem dL_law_343 : decode cL_law 343 = .ok (.iadd, 1) := by decide +kernel
theorem dL_law_344 : decode cL_law 344 = .ok (.iaload, 1) := by decide +kernel
theorem dL_law_345 : decode cL_law 345 = .ok (.ifCond .eq 7, 3) := by decide +kernel
theorem dL_law_348 : decode cL_law 348 = .ok (.iconst 1, 1) := by decide +kernel
theorem dL_law_349 : decode cL_law 349 = .ok (.goto 4, 3) := by decide +kernel
theorem dL_law_352 : decode cL_law 352 = .ok (.iconst 0, 1) := by decide +kernel
theorem dL_law_353 : decode cL_law 353 = .ok (.aload_n 3, 1) := by decide +kernel
theorem dL_law_354 : decode cL_law 354 = .ok (.invokestatic 107, 3) := by decide +kernel
theorem dL_law_357 : decode cL_law 357 = .ok (.istore 5, 2) := by decide +kernel
theorem dL_law_359 : decode cL_law 359 = .ok (.aload_n 2, 1) := by decide +kernel
theorem dL_law_360 : decode cL_law 360 = .ok (.aload_n 0, 1) := by decide +kernel
theorem dL_law_361 : decode cL_law 361 = .ok (.iload 4, 2) := by decide +kernel
theorem dL_law_363 : decode cL_law 363 = .ok (.iconst 1, 1) := by decide +kernel
theorem dL_law_364 : decode cL_law 364 = .ok (.iadd, 1) := by decide +kernel
theorem dL_law_365 : decode cL_law 365 = .ok (.iaload, 1) := by decide +kernel
theorem dL_law_366 : decode cL_law 366 = .ok (.aload_n 0, 1) := by decide +kernel
theorem dL_law_367 : decode cL_law 367 = .ok (.iload 4, 2) := by decide +kernel
theorem dL_law_369 : decode cL_law 369 = .ok (.iconst 2, 1) := by decide +kernel
theorem dL_law_370 : decode cL_law 370 = .ok (.iadd, 1) := by decide +kernel
theorem dL_law_371 : decode cL_law 371 = .ok (.iaload, 1) := by decide +kernel
theorem dL_law_372 : decode cL_law 372 = .ok (.ifCond .eq 7, 3) := by decide +kernel
theorem dL_law_375 : decode cL_law 375 = .ok (.iconst 1, 1) := by decide +kernel
theorem dL_law_376 : decode cL_law 376 = .ok (.goto 4, 3) := by decide +kernel
theorem dL_law_379 : decode cL_law 379 = .ok (.iconst 0, 1) := by decide +kernel
theorem dL_law_380 : decode cL_law 380 = .ok (.invokevirtual 110, 3) := by decide +kernel
theorem dL_law_383 : decode cL_law 383 = .ok (.istore 6, 2) := by decide +kernel
theorem dL_law_385 : decode cL_law 385 = .ok (.aload_n 2, 1) := by decide +kernel
theorem dL_law_386 : decode cL_law 386 = .ok (.invokevirtual 99, 3) := by decide +kernel
theorem dL_law_389 : decode cL_law 389 = .ok (.iload 5, 2) := by decide +kernel
theorem dL_law_391 : decode cL_law 391 = .ok (.if_icmp .eq 5, 3) := by decide +kernel
theorem dL_law_394 : decode cL_law 394 = .ok (.iconst 0, 1) := by decide +kernel
theorem dL_law_395 : decode cL_law 395 = .ok (.ireturn, 1) := by decide +kernel
theorem dL_law_396 : decode cL_law 396 = .ok (.iload 5, 2) := by decide +kernel
theorem dL_law_398 : decode cL_law 398 = .ok (.ifCond .ne 22, 3) := by decide +kernel
theorem dL_law_401 : decode cL_law 401 = .ok (.aload_n 3, 1) := by decide +kernel
theorem dL_law_402 : decode cL_law 402 = .ok (.iconst 0, 1) := by decide +kernel
theorem dL_law_403 : decode cL_law 403 = .ok (.laload, 1) := by decide +kernel
theorem dL_law_404 : decode cL_law 404 = .ok (.iload 6, 2) := by decide +kernel
theorem dL_law_406 : decode cL_law 406 = .ok (.ifCond .eq 7, 3) := by decide +kernel
theorem dL_law_409 : decode cL_law 409 = .ok (.lconst 1, 1) := by decide +kernel
theorem dL_law_410 : decode cL_law 410 = .ok (.goto 4, 3) := by decide +kernel
theorem dL_law_413 : decode cL_law 413 = .ok (.lconst 0, 1) := by decide +kernel
theorem dL_law_414 : decode cL_law 414 = .ok (.lcmp, 1) := by decide +kernel
theorem dL_law_415 : decode cL_law 415 = .ok (.ifCond .eq 5, 3) := by decide +kernel
theorem dL_law_418 : decode cL_law 418 = .ok (.iconst 0, 1) := by decide +kernel
theorem dL_law_419 : decode cL_law 419 = .ok (.ireturn, 1) := by decide +kernel
theorem dL_law_420 : decode cL_law 420 = .ok (.goto 1391, 3) := by decide +kernel
theorem dL_law_423 : decode cL_law 423 = .ok (.aload_n 1, 1) := by decide +kernel
theorem dL_law_424 : decode cL_law 424 = .ok (.aload_n 0, 1) := by decide +kernel
theorem dL_law_425 : decode cL_law 425 = .ok (.iload 4, 2) := by decide +kernel
theorem dL_law_427 : decode cL_law 427 = .ok (.iconst 1, 1) := by decide +kernel
theorem dL_law_428 : decode cL_law 428 = .ok (.iadd, 1) := by decide +kernel
theorem dL_law_429 : decode cL_law 429 = .ok (.iaload, 1) := by decide +kernel
theorem dL_law_430 : decode cL_law 430 = .ok (.aload_n 3, 1) := by decide +kernel
theorem dL_law_431 : decode cL_law 431 = .ok (.invokestatic 111, 3) := by decide +kernel
theorem dL_law_434 : decode cL_law 434 = .ok (.istore 5, 2) := by decide +kernel
theorem dL_law_436 : decode cL_law 436 = .ok (.aload_n 2, 1) := by decide +kernel
theorem dL_law_437 : decode cL_law 437 = .ok (.aload_n 0, 1) := by decide +kernel
theorem dL_law_438 : decode cL_law 438 = .ok (.iload 4, 2) := by decide +kernel
theorem dL_law_440 : decode cL_law 440 = .ok (.iconst 1, 1) := by decide +kernel
theorem dL_law_441 : decode cL_law 441 = .ok (.iadd, 1) := by decide +kernel
theorem dL_law_442 : decode cL_law 442 = .ok (.iaload, 1) := by decide +kernel
theorem dL_law_443 : decode cL_law 443 = .ok (.invokevirtual 114, 3) := by decide +kernel
theorem dL_law_446 : decode cL_law 446 = .ok (.istore 6, 2) := by decide +kernel
theorem dL_law_448 : decode cL_law 448 = .ok (.aload_n 2, 1) := by decide +kernel
theorem dL_law_449 : decode cL_law 449 = .ok (.invokevirtual 99, 3) := by decide +kernel
theorem dL_law_452 : decode cL_law 452 = .ok (.iload 5, 2) := by decide +kernel
theorem dL_law_454 : decode cL_law 454 = .ok (.if_icmp .eq 5, 3) := by decide +kernel
theorem dL_law_457 : decode cL_law 457 = .ok (.iconst 0, 1) := by decide +kernel
theorem dL_law_458 : decode cL_law 458 = .ok (.ireturn, 1) := by decide +kernel
theorem dL_law_459 : decode cL_law 459 = .ok (.iload 5, 2) := by decide +kernel
theorem dL_law_461 : decode cL_law 461 = .ok (.ifCond .ne 22, 3) := by decide +kernel
theorem dL_law_464 : decode cL_law 464 = .ok (.aload_n 3, 1) := by decide +kernel
theorem dL_law_465 : decode cL_law 465 = .ok (.iconst 0, 1) := by decide +kernel
theorem dL_law_466 : decode cL_law 466 = .ok (.laload, 1) := by decide +kernel
theorem dL_law_467 : decode cL_law 467 = .ok (.iload 6, 2) := by decide +kernel
theorem dL_law_469 : decode cL_law 469 = .ok (.ifCond .eq 7, 3) := by decide +kernel
theorem dL_law_472 : decode cL_law 472 = .ok (.lconst 1, 1) := by decide +kernel
theorem dL_law_473 : decode cL_law 473 = .ok (.goto 4, 3) := by decide +kernel
theorem dL_law_476 : decode cL_law 476 = .ok (.lconst 0, 1) := by decide +kernel
theorem dL_law_477 : decode cL_law 477 = .ok (.lcmp, 1) := by decide +kernel
theorem dL_law_478 : decode cL_law 478 = .ok (.ifCond .eq 5, 3) := by decide +kernel
theorem dL_law_481 : decode cL_law 481 = .ok (.iconst 0, 1) := by decide +kernel
theorem dL_law_482 : decode cL_law 482 = .ok (.ireturn, 1) := by decide +kernel
theorem dL_law_483 : decode cL_law 483 = .ok (.goto 1328, 3) := by decide +kernel
theorem dL_law_486 : decode cL_law 486 = .ok (.aload_n 1, 1) := by decide +kernel
theorem dL_law_487 : decode cL_law 487 = .ok (.aload_n 0, 1) := by decide +kernel
theorem dL_law_488 : decode cL_law 488 = .ok (.iload 4, 2) := by decide +kernel
theorem dL_law_490 : decode cL_law 490 = .ok (.iconst 1, 1) := by decide +kernel
theorem dL_law_491 : decode cL_law 491 = .ok (.iadd, 1) := by decide +kernel
theorem dL_law_492 : decode cL_law 492 = .ok (.iaload, 1) := by decide +kernel
theorem dL_law_493 : decode cL_law 493 = .ok (.aload_n 0, 1) := by decide +kernel
theorem dL_law_494 : decode cL_law 494 = .ok (.iload 4, 2) := by decide +kernel
theorem dL_law_496 : decode cL_law 496 = .ok (.iconst 2, 1) := by decide +kernel
theorem dL_law_497 : decode cL_law 497 = .ok (.iadd, 1) := by decide +kernel
theorem dL_law_498 : decode cL_law 498 = .ok (.iaload, 1) := by decide +kernel
theorem dL_law_499 : decode cL_law 499 = .ok (.aload_n 3, 1) := by decide +kernel
theorem dL_law_500 : decode cL_law 500 = .ok (.invokestatic 115, 3) := by decide +kernel
theorem dL_law_503 : decode cL_law 503 = .ok (.istore 5, 2) := by decide +kernel
theorem dL_law_505 : decode cL_law 505 = .ok (.aload_n 2, 1) := by decide +kernel
theorem dL_law_506 : decode cL_law 506 = .ok (.aload_n 0, 1) := by decide +kernel
theorem dL_law_507 : decode cL_law 507 = .ok (.iload 4, 2) := by decide +kernel
theorem dL_law_509 : decode cL_law 509 = .ok (.iconst 1, 1) := by decide +kernel
theorem dL_law_510 : decode cL_law 510 = .ok (.iadd, 1) := by decide +kernel
theorem dL_law_511 : decode cL_law 511 = .ok (.iaload, 1) := by decide +kernel
theorem dL_law_512 : decode cL_law 512 = .ok (.aload_n 0, 1) := by decide +kernel
theorem dL_law_513 : decode cL_law 513 = .ok (.iload 4, 2) := by decide +kernel
theorem dL_law_515 : decode cL_law 515 = .ok (.iconst 2, 1) := by decide +kernel
theorem dL_law_516 : decode cL_law 516 = .ok (.iadd, 1) := by decide +kernel
theorem dL_law_517 : decode cL_law 517 = .ok (.iaload, 1) := by decide +kernel
theorem dL_law_518 : decode cL_law 518 = .ok (.invokevirtual 117, 3) := by decide +kernel
theorem dL_law_521 : decode cL_law 521 = .ok (.istore 6, 2) := by decide +kernel
theorem dL_law_523 : decode cL_law 523 = .ok (.aload_n 2, 1) := by decide +kernel
theorem dL_law_524 : decode cL_law 524 = .ok (.invokevirtual 99, 3) := by decide +kernel
theorem dL_law_527 : decode cL_law 527 = .ok (.iload 5, 2) := by decide +kernel
theorem dL_law_529 : decode cL_law 529 = .ok (.if_icmp .eq 5, 3) := by decide +kernel
theorem dL_law_532 : decode cL_law 532 = .ok (.iconst 0, 1) := by decide +kernel
theorem dL_law_533 : decode cL_law 533 = .ok (.ireturn, 1) := by decide +kernel
theorem dL_law_534 : decode cL_law 534 = .ok (.iload 5, 2) := by decide +kernel
theorem dL_law_536 : decode cL_law 536 = .ok (.ifCond .ne 15, 3) := by decide +kernel
theorem dL_law_539 : decode cL_law 539 = .ok (.aload_n 3, 1) := by decide +kernel
theorem dL_law_540 : decode cL_law 540 = .ok (.iconst 0, 1) := by decide +kernel
theorem dL_law_541 : decode cL_law 541 = .ok (.laload, 1) := by decide +kernel
theorem dL_law_542 : decode cL_law 542 = .ok (.iload 6, 2) := by decide +kernel
theorem dL_law_544 : decode cL_law 544 = .ok (.i2l, 1) := by decide +kernel
theorem dL_law_545 : decode cL_law 545 = .ok (.lcmp, 1) := by decide +kernel
theorem dL_law_546 : decode cL_law 546 = .ok (.ifCond .eq 5, 3) := by decide +kernel
theorem dL_law_549 : decode cL_law 549 = .ok (.iconst 0, 1) := by decide +kernel
theorem dL_law_550 : decode cL_law 550 = .ok (.ireturn, 1) := by decide +kernel
theorem dL_law_551 : decode cL_law 551 = .ok (.goto 1260, 3) := by decide +kernel
theorem dL_law_554 : decode cL_law 554 = .ok (.aload_n 1, 1) := by decide +kernel
theorem dL_law_555 : decode cL_law 555 = .ok (.aload_n 0, 1) := by decide +kernel
theorem dL_law_556 : decode cL_law 556 = .ok (.iload 4, 2) := by decide +kernel
theorem dL_law_558 : decode cL_law 558 = .ok (.iconst 1, 1) := by decide +kernel
theorem dL_law_559 : decode cL_law 559 = .ok (.iadd, 1) := by decide +kernel
theorem dL_law_560 : decode cL_law 560 = .ok (.iaload, 1) := by decide +kernel
theorem dL_law_561 : decode cL_law 561 = .ok (.aload_n 3, 1) := by decide +kernel
theorem dL_law_562 : decode cL_law 562 = .ok (.invokestatic 118, 3) := by decide +kernel
theorem dL_law_565 : decode cL_law 565 = .ok (.istore 5, 2) := by decide +kernel
theorem dL_law_567 : decode cL_law 567 = .ok (.aload_n 2, 1) := by decide +kernel
theorem dL_law_568 : decode cL_law 568 = .ok (.aload_n 0, 1) := by decide +kernel
theorem dL_law_569 : decode cL_law 569 = .ok (.iload 4, 2) := by decide +kernel
theorem dL_law_571 : decode cL_law 571 = .ok (.iconst 1, 1) := by decide +kernel
theorem dL_law_572 : decode cL_law 572 = .ok (.iadd, 1) := by decide +kernel
theorem dL_law_573 : decode cL_law 573 = .ok (.iaload, 1) := by decide +kernel
theorem dL_law_574 : decode cL_law 574 = .ok (.invokevirtual 120, 3) := by decide +kernel
theorem dL_law_577 : decode cL_law 577 = .ok (.istore 6, 2) := by decide +kernel
theorem dL_law_579 : decode cL_law 579 = .ok (.aload_n 2, 1) := by decide +kernel
theorem dL_law_580 : decode cL_law 580 = .ok (.invokevirtual 99, 3) := by decide +kernel
theorem dL_law_583 : decode cL_law 583 = .ok (.iload 5, 2) := by decide +kernel
theorem dL_law_585 : decode cL_law 585 = .ok (.if_icmp .eq 5, 3) := by decide +kernel
theorem dL_law_588 : decode cL_law 588 = .ok (.iconst 0, 1) := by decide +kernel
theorem dL_law_589 : decode cL_law 589 = .ok (.ireturn, 1) := by decide +kernel
theorem dL_law_590 : decode cL_law 590 = .ok (.iload 5, 2) := by decide +kernel
theorem dL_law_592 : decode cL_law 592 = .ok (.ifCond .ne 15, 3) := by decide +kernel
theorem dL_law_595 : decode cL_law 595 = .ok (.aload_n 3, 1) := by decide +kernel
theorem dL_law_596 : decode cL_law 596 = .ok (.iconst 0, 1) := by decide +kernel
theorem dL_law_597 : decode cL_law 597 = .ok (.laload, 1) := by decide +kernel
theorem dL_law_598 : decode cL_law 598 = .ok (.iload 6, 2) := by decide +kernel
theorem dL_law_600 : decode cL_law 600 = .ok (.i2l, 1) := by decide +kernel
theorem dL_law_601 : decode cL_law 601 = .ok (.lcmp, 1) := by decide +kernel
theorem dL_law_602 : decode cL_law 602 = .ok (.ifCond .eq 5, 3) := by decide +kernel
theorem dL_law_605 : decode cL_law 605 = .ok (.iconst 0, 1) := by decide +kernel
theorem dL_law_606 : decode cL_law 606 = .ok (.ireturn, 1) := by decide +kernel
theorem dL_law_607 : decode cL_law 607 = .ok (.goto 1204, 3) := by decide +kernel
theorem dL_law_610 : decode cL_law 610 = .ok (.aload_n 1, 1) := by decide +kernel
theorem dL_law_611 : decode cL_law 611 = .ok (.aload_n 0, 1) := by decide +kernel
theorem dL_law_612 : decode cL_law 612 = .ok (.iload 4, 2) := by decide +kernel
theorem dL_law_614 : decode cL_law 614 = .ok (.iconst 1, 1) := by decide +kernel
theorem dL_law_615 : decode cL_law 615 = .ok (.iadd, 1) := by decide +kernel
theorem dL_law_616 : decode cL_law 616 = .ok (.iaload, 1) := by decide +kernel
theorem dL_law_617 : decode cL_law 617 = .ok (.aload_n 3, 1) := by decide +kernel
theorem dL_law_618 : decode cL_law 618 = .ok (.invokestatic 121, 3) := by decide +kernel
theorem dL_law_621 : decode cL_law 621 = .ok (.istore 5, 2) := by decide +kernel
theorem dL_law_623 : decode cL_law 623 = .ok (.aload_n 2, 1) := by decide +kernel
theorem dL_law_624 : decode cL_law 624 = .ok (.aload_n 0, 1) := by decide +kernel
theorem dL_law_625 : decode cL_law 625 = .ok (.iload 4, 2) := by decide +kernel
theorem dL_law_627 : decode cL_law 627 = .ok (.iconst 1, 1) := by decide +kernel
theorem dL_law_628 : decode cL_law 628 = .ok (.iadd, 1) := by decide +kernel
theorem dL_law_629 : decode cL_law 629 = .ok (.iaload, 1) := by decide +kernel
theorem dL_law_630 : decode cL_law 630 = .ok (.invokevirtual 123, 3) := by decide +kernel
theorem dL_law_633 : decode cL_law 633 = .ok (.istore 6, 2) := by decide +kernel
theorem dL_law_635 : decode cL_law 635 = .ok (.aload_n 2, 1) := by decide +kernel
theorem dL_law_636 : decode cL_law 636 = .ok (.invokevirtual 99, 3) := by decide +kernel
theorem dL_law_639 : decode cL_law 639 = .ok (.iload 5, 2) := by decide +kernel
theorem dL_law_641 : decode cL_law 641 = .ok (.if_icmp .eq 5, 3) := by decide +kernel
theorem dL_law_644 : decode cL_law 644 = .ok (.iconst 0, 1) := by decide +kernel
theorem dL_law_645 : decode cL_law 645 = .ok (.ireturn, 1) := by decide +kernel
theorem dL_law_646 : decode cL_law 646 = .ok (.iload 5, 2) := by decide +kernel
theorem dL_law_648 : decode cL_law 648 = .ok (.ifCond .ne 15, 3) := by decide +kernel
theorem dL_law_651 : decode cL_law 651 = .ok (.aload_n 3, 1) := by decide +kernel
theorem dL_law_652 : decode cL_law 652 = .ok (.iconst 0, 1) := by decide +kernel
theorem dL_law_653 : decode cL_law 653 = .ok (.laload, 1) := by decide +kernel
theorem dL_law_654 : decode cL_law 654 = .ok (.iload 6, 2) := by decide +kernel
theorem dL_law_656 : decode cL_law 656 = .ok (.i2l, 1) := by decide +kernel
theorem dL_law_657 : decode cL_law 657 = .ok (.lcmp, 1) := by decide +kernel
theorem dL_law_658 : decode cL_law 658 = .ok (.ifCond .eq 5, 3) := by decide +kernel
theorem dL_law_661 : decode cL_law 661 = .ok (.iconst 0, 1) := by decide +kernel
theorem dL_law_662 : decode cL_law 662 = .ok (.ireturn, 1) := by decide +kernel
theorem dL_law_663 : decode cL_law 663 = .ok (.goto 1148, 3) := by decide +kernel
theorem dL_law_666 : decode cL_law 666 = .ok (.aload_n 1, 1) := by decide +kernel
theorem dL_law_667 : decode cL_law 667 = .ok (.aload_n 0, 1) := by decide +kernel
theorem dL_law_668 : decode cL_law 668 = .ok (.iload 4, 2) := by decide +kernel
theorem dL_law_670 : decode cL_law 670 = .ok (.iconst 1, 1) := by decide +kernel
theorem dL_law_671 : decode cL_law 671 = .ok (.iadd, 1) := by decide +kernel
theorem dL_law_672 : decode cL_law 672 = .ok (.iaload, 1) := by decide +kernel
theorem dL_law_673 : decode cL_law 673 = .ok (.aload_n 0, 1) := by decide +kernel
theorem dL_law_674 : decode cL_law 674 = .ok (.iload 4, 2) := by decide +kernel
theorem dL_law_676 : decode cL_law 676 = .ok (.iconst 2, 1) := by decide +kernel
theorem dL_law_677 : decode cL_law 677 = .ok (.iadd, 1) := by decide +kernel
theorem dL_law_678 : decode cL_law 678 = .ok (.iaload, 1) := by decide +kernel
theorem dL_law_679 : decode cL_law 679 = .ok (.aload_n 0, 1) := by decide +kernel
theorem dL_law_680 : decode cL_law 680 = .ok (.iload 4, 2) := by decide +kernel
theorem dL_law_682 : decode cL_law 682 = .ok (.iconst 3, 1) := by decide +kernel
theorem dL_law_683 : decode cL_law 683 = .ok (.iadd, 1) := by decide +kernel
theorem dL_law_684 : decode cL_law 684 = .ok (.iaload, 1) := by decide +kernel
theorem dL_law_685 : decode cL_law 685 = .ok (.aload_n 0, 1) := by decide +kernel
theorem dL_law_686 : decode cL_law 686 = .ok (.iload 4, 2) := by decide +kernel
theorem dL_law_688 : decode cL_law 688 = .ok (.iconst 4, 1) := by decide +kernel
theorem dL_law_689 : decode cL_law 689 = .ok (.iadd, 1) := by decide +kernel
theorem dL_law_690 : decode cL_law 690 = .ok (.iaload, 1) := by decide +kernel
theorem dL_law_691 : decode cL_law 691 = .ok (.aload_n 0, 1) := by decide +kernel
theorem dL_law_692 : decode cL_law 692 = .ok (.iload 4, 2) := by decide +kernel
theorem dL_law_694 : decode cL_law 694 = .ok (.iconst 5, 1) := by decide +kernel
theorem dL_law_695 : decode cL_law 695 = .ok (.iadd, 1) := by decide +kernel
theorem dL_law_696 : decode cL_law 696 = .ok (.iaload, 1) := by decide +kernel
theorem dL_law_697 : decode cL_law 697 = .ok (.aload_n 0, 1) := by decide +kernel
theorem dL_law_698 : decode cL_law 698 = .ok (.iload 4, 2) := by decide +kernel
theorem dL_law_700 : decode cL_law 700 = .ok (.bipush 6, 2) := by decide +kernel
theorem dL_law_702 : decode cL_law 702 = .ok (.iadd, 1) := by decide +kernel
theorem dL_law_703 : decode cL_law 703 = .ok (.iaload, 1) := by decide +kernel
theorem dL_law_704 : decode cL_law 704 = .ok (.aload_n 3, 1) := by decide +kernel
theorem dL_law_705 : decode cL_law 705 = .ok (.invokestatic 124, 3) := by decide +kernel
theorem dL_law_708 : decode cL_law 708 = .ok (.istore 5, 2) := by decide +kernel
theorem dL_law_710 : decode cL_law 710 = .ok (.aload_n 2, 1) := by decide +kernel
theorem dL_law_711 : decode cL_law 711 = .ok (.aload_n 0, 1) := by decide +kernel
theorem dL_law_712 : decode cL_law 712 = .ok (.iload 4, 2) := by decide +kernel
theorem dL_law_714 : decode cL_law 714 = .ok (.iconst 1, 1) := by decide +kernel
theorem dL_law_715 : decode cL_law 715 = .ok (.iadd, 1) := by decide +kernel
theorem dL_law_716 : decode cL_law 716 = .ok (.iaload, 1) := by decide +kernel
theorem dL_law_717 : decode cL_law 717 = .ok (.aload_n 0, 1) := by decide +kernel
theorem dL_law_718 : decode cL_law 718 = .ok (.iload 4, 2) := by decide +kernel
theorem dL_law_720 : decode cL_law 720 = .ok (.iconst 2, 1) := by decide +kernel
theorem dL_law_721 : decode cL_law 721 = .ok (.iadd, 1) := by decide +kernel
theorem dL_law_722 : decode cL_law 722 = .ok (.iaload, 1) := by decide +kernel
theorem dL_law_723 : decode cL_law 723 = .ok (.aload_n 0, 1) := by decide +kernel
theorem dL_law_724 : decode cL_law 724 = .ok (.iload 4, 2) := by decide +kernel
theorem dL_law_726 : decode cL_law 726 = .ok (.iconst 3, 1) := by decide +kernel
theorem dL_law_727 : decode cL_law 727 = .ok (.iadd, 1) := by decide +kernel
theorem dL_law_728 : decode cL_law 728 = .ok (.iaload, 1) := by decide +kernel
theorem dL_law_729 : decode cL_law 729 = .ok (.aload_n 0, 1) := by decide +kernel
theorem dL_law_730 : decode cL_law 730 = .ok (.iload 4, 2) := by decide +kernel
theorem dL_law_732 : decode cL_law 732 = .ok (.iconst 4, 1) := by decide +kernel
theorem dL_law_733 : decode cL_law 733 = .ok (.iadd, 1) := by decide +kernel
theorem dL_law_734 : decode cL_law 734 = .ok (.iaload, 1) := by decide +kernel
theorem dL_law_735 : decode cL_law 735 = .ok (.aload_n 0, 1) := by decide +kernel
theorem dL_law_736 : decode cL_law 736 = .ok (.iload 4, 2) := by decide +kernel
theorem dL_law_738 : decode cL_law 738 = .ok (.iconst 5, 1) := by decide +kernel
theorem dL_law_739 : decode cL_law 739 = .ok (.iadd, 1) := by decide +kernel
theorem dL_law_740 : decode cL_law 740 = .ok (.iaload, 1) := by decide +kernel
theorem dL_law_741 : decode cL_law 741 = .ok (.aload_n 0, 1) := by decide +kernel
theorem dL_law_742 : decode cL_law 742 = .ok (.iload 4, 2) := by decide +kernel
theorem dL_law_744 : decode cL_law 744 = .ok (.bipush 6, 2) := by decide +kernel
theorem dL_law_746 : decode cL_law 746 = .ok (.iadd, 1) := by decide +kernel
theorem dL_law_747 : decode cL_law 747 = .ok (.iaload, 1) := by decide +kernel
theorem dL_law_748 : decode cL_law 748 = .ok (.invokevirtual 127, 3) := by decide +kernel
theorem dL_law_751 : decode cL_law 751 = .ok (.istore 6, 2) := by decide +kernel
theorem dL_law_753 : decode cL_law 753 = .ok (.aload_n 2, 1) := by decide +kernel
theorem dL_law_754 : decode cL_law 754 = .ok (.invokevirtual 99, 3) := by decide +kernel
theorem dL_law_757 : decode cL_law 757 = .ok (.iload 5, 2) := by decide +kernel
theorem dL_law_759 : decode cL_law 759 = .ok (.if_icmp .eq 5, 3) := by decide +kernel
theorem dL_law_762 : decode cL_law 762 = .ok (.iconst 0, 1) := by decide +kernel
theorem dL_law_763 : decode cL_law 763 = .ok (.ireturn, 1) := by decide +kernel
theorem dL_law_764 : decode cL_law 764 = .ok (.iload 5, 2) := by decide +kernel
theorem dL_law_766 : decode cL_law 766 = .ok (.ifCond .ne 15, 3) := by decide +kernel
theorem dL_law_769 : decode cL_law 769 = .ok (.aload_n 3, 1) := by decide +kernel
theorem dL_law_770 : decode cL_law 770 = .ok (.iconst 0, 1) := by decide +kernel
theorem dL_law_771 : decode cL_law 771 = .ok (.laload, 1) := by decide +kernel
theorem dL_law_772 : decode cL_law 772 = .ok (.iload 6, 2) := by decide +kernel
theorem dL_law_774 : decode cL_law 774 = .ok (.i2l, 1) := by decide +kernel
theorem dL_law_775 : decode cL_law 775 = .ok (.lcmp, 1) := by decide +kernel
theorem dL_law_776 : decode cL_law 776 = .ok (.ifCond .eq 5, 3) := by decide +kernel
theorem dL_law_779 : decode cL_law 779 = .ok (.iconst 0, 1) := by decide +kernel
theorem dL_law_780 : decode cL_law 780 = .ok (.ireturn, 1) := by decide +kernel
theorem dL_law_781 : decode cL_law 781 = .ok (.goto 1030, 3) := by decide +kernel
theorem dL_law_784 : decode cL_law 784 = .ok (.aload_n 1, 1) := by decide +kernel
theorem dL_law_785 : decode cL_law 785 = .ok (.aload_n 0, 1) := by decide +kernel
theorem dL_law_786 : decode cL_law 786 = .ok (.iload 4, 2) := by decide +kernel
theorem dL_law_788 : decode cL_law 788 = .ok (.iconst 1, 1) := by decide +kernel
theorem dL_law_789 : decode cL_law 789 = .ok (.iadd, 1) := by decide +kernel
theorem dL_law_790 : decode cL_law 790 = .ok (.iaload, 1) := by decide +kernel
theorem dL_law_791 : decode cL_law 791 = .ok (.aload_n 3, 1) := by decide +kernel
theorem dL_law_792 : decode cL_law 792 = .ok (.invokestatic 128, 3) := by decide +kernel
theorem dL_law_795 : decode cL_law 795 = .ok (.istore 5, 2) := by decide +kernel
theorem dL_law_797 : decode cL_law 797 = .ok (.aload_n 2, 1) := by decide +kernel
theorem dL_law_798 : decode cL_law 798 = .ok (.aload_n 0, 1) := by decide +kernel
theorem dL_law_799 : decode cL_law 799 = .ok (.iload 4, 2) := by decide +kernel
theorem dL_law_801 : decode cL_law 801 = .ok (.iconst 1, 1) := by decide +kernel
theorem dL_law_802 : decode cL_law 802 = .ok (.iadd, 1) := by decide +kernel
theorem dL_law_803 : decode cL_law 803 = .ok (.iaload, 1) := by decide +kernel
theorem dL_law_804 : decode cL_law 804 = .ok (.invokevirtual 130, 3) := by decide +kernel
theorem dL_law_807 : decode cL_law 807 = .ok (.istore 6, 2) := by decide +kernel
theorem dL_law_809 : decode cL_law 809 = .ok (.aload_n 2, 1) := by decide +kernel
theorem dL_law_810 : decode cL_law 810 = .ok (.invokevirtual 99, 3) := by decide +kernel
theorem dL_law_813 : decode cL_law 813 = .ok (.iload 5, 2) := by decide +kernel
theorem dL_law_815 : decode cL_law 815 = .ok (.if_icmp .eq 5, 3) := by decide +kernel
theorem dL_law_818 : decode cL_law 818 = .ok (.iconst 0, 1) := by decide +kernel
theorem dL_law_819 : decode cL_law 819 = .ok (.ireturn, 1) := by decide +kernel
theorem dL_law_820 : decode cL_law 820 = .ok (.iload 5, 2) := by decide +kernel
theorem dL_law_822 : decode cL_law 822 = .ok (.ifCond .ne 15, 3) := by decide +kernel
theorem dL_law_825 : decode cL_law 825 = .ok (.aload_n 3, 1) := by decide +kernel
theorem dL_law_826 : decode cL_law 826 = .ok (.iconst 0, 1) := by decide +kernel
theorem dL_law_827 : decode cL_law 827 = .ok (.laload, 1) := by decide +kernel
theorem dL_law_828 : decode cL_law 828 = .ok (.iload 6, 2) := by decide +kernel
theorem dL_law_830 : decode cL_law 830 = .ok (.i2l, 1) := by decide +kernel
theorem dL_law_831 : decode cL_law 831 = .ok (.lcmp, 1) := by decide +kernel
theorem dL_law_832 : decode cL_law 832 = .ok (.ifCond .eq 5, 3) := by decide +kernel
theorem dL_law_835 : decode cL_law 835 = .ok (.iconst 0, 1) := by decide +kernel
theorem dL_law_836 : decode cL_law 836 = .ok (.ireturn, 1) := by decide +kernel
theorem dL_law_837 : decode cL_law 837 = .ok (.goto 974, 3) := by decide +kernel
theorem dL_law_840 : decode cL_law 840 = .ok (.aload_n 1, 1) := by decide +kernel
theorem dL_law_841 : decode cL_law 841 = .ok (.aload_n 0, 1) := by decide +kernel
theorem dL_law_842 : decode cL_law 842 = .ok (.iload 4, 2) := by decide +kernel
theorem dL_law_844 : decode cL_law 844 = .ok (.iconst 1, 1) := by decide +kernel
theorem dL_law_845 : decode cL_law 845 = .ok (.iadd, 1) := by decide +kernel
theorem dL_law_846 : decode cL_law 846 = .ok (.iaload, 1) := by decide +kernel
theorem dL_law_847 : decode cL_law 847 = .ok (.aload_n 3, 1) := by decide +kernel
theorem dL_law_848 : decode cL_law 848 = .ok (.invokestatic 131, 3) := by decide +kernel
theorem dL_law_851 : decode cL_law 851 = .ok (.istore 5, 2) := by decide +kernel
theorem dL_law_853 : decode cL_law 853 = .ok (.aload_n 2, 1) := by decide +kernel
theorem dL_law_854 : decode cL_law 854 = .ok (.aload_n 0, 1) := by decide +kernel
theorem dL_law_855 : decode cL_law 855 = .ok (.iload 4, 2) := by decide +kernel
theorem dL_law_857 : decode cL_law 857 = .ok (.iconst 1, 1) := by decide +kernel
theorem dL_law_858 : decode cL_law 858 = .ok (.iadd, 1) := by decide +kernel
theorem dL_law_859 : decode cL_law 859 = .ok (.iaload, 1) := by decide +kernel
theorem dL_law_860 : decode cL_law 860 = .ok (.invokevirtual 133, 3) := by decide +kernel
theorem dL_law_863 : decode cL_law 863 = .ok (.istore 6, 2) := by decide +kernel
theorem dL_law_865 : decode cL_law 865 = .ok (.aload_n 2, 1) := by decide +kernel
theorem dL_law_866 : decode cL_law 866 = .ok (.invokevirtual 99, 3) := by decide +kernel
theorem dL_law_869 : decode cL_law 869 = .ok (.iload 5, 2) := by decide +kernel
theorem dL_law_871 : decode cL_law 871 = .ok (.if_icmp .eq 5, 3) := by decide +kernel
theorem dL_law_874 : decode cL_law 874 = .ok (.iconst 0, 1) := by decide +kernel
theorem dL_law_875 : decode cL_law 875 = .ok (.ireturn, 1) := by decide +kernel
theorem dL_law_876 : decode cL_law 876 = .ok (.iload 5, 2) := by decide +kernel
theorem dL_law_878 : decode cL_law 878 = .ok (.ifCond .ne 15, 3) := by decide +kernel
theorem dL_law_881 : decode cL_law 881 = .ok (.aload_n 3, 1) := by decide +kernel
theorem dL_law_882 : decode cL_law 882 = .ok (.iconst 0, 1) := by decide +kernel
theorem dL_law_883 : decode cL_law 883 = .ok (.laload, 1) := by decide +kernel
theorem dL_law_884 : decode cL_law 884 = .ok (.iload 6, 2) := by decide +kernel
theorem dL_law_886 : decode cL_law 886 = .ok (.i2l, 1) := by decide +kernel
theorem dL_law_887 : decode cL_law 887 = .ok (.lcmp, 1) := by decide +kernel
theorem dL_law_888 : decode cL_law 888 = .ok (.ifCond .eq 5, 3) := by decide +kernel
theorem dL_law_891 : decode cL_law 891 = .ok (.iconst 0, 1) := by decide +kernel
theorem dL_law_892 : decode cL_law 892 = .ok (.ireturn, 1) := by decide +kernel
theorem dL_law_893 : decode cL_law 893 = .ok (.goto 918, 3) := by decide +kernel
theorem dL_law_896 : decode cL_law 896 = .ok (.aload_n 1, 1) := by decide +kernel
theorem dL_law_897 : decode cL_law 897 = .ok (.aload_n 0, 1) := by decide +kernel
theorem dL_law_898 : decode cL_law 898 = .ok (.iload 4, 2) := by decide +kernel
theorem dL_law_900 : decode cL_law 900 = .ok (.iconst 1, 1) := by decide +kernel
theorem dL_law_901 : decode cL_law 901 = .ok (.iadd, 1) := by decide +kernel
theorem dL_law_902 : decode cL_law 902 = .ok (.iaload, 1) := by decide +kernel
theorem dL_law_903 : decode cL_law 903 = .ok (.aload_n 3, 1) := by decide +kernel
theorem dL_law_904 : decode cL_law 904 = .ok (.invokestatic 134, 3) := by decide +kernel
theorem dL_law_907 : decode cL_law 907 = .ok (.istore 5, 2) := by decide +kernel
theorem dL_law_909 : decode cL_law 909 = .ok (.aload_n 2, 1) := by decide +kernel
theorem dL_law_910 : decode cL_law 910 = .ok (.aload_n 0, 1) := by decide +kernel
theorem dL_law_911 : decode cL_law 911 = .ok (.iload 4, 2) := by decide +kernel
theorem dL_law_913 : decode cL_law 913 = .ok (.iconst 1, 1) := by decide +kernel
theorem dL_law_914 : decode cL_law 914 = .ok (.iadd, 1) := by decide +kernel
theorem dL_law_915 : decode cL_law 915 = .ok (.iaload, 1) := by decide +kernel
theorem dL_law_916 : decode cL_law 916 = .ok (.invokevirtual 136, 3) := by decide +kernel
theorem dL_law_919 : decode cL_law 919 = .ok (.istore 6, 2) := by decide +kernel
theorem dL_law_921 : decode cL_law 921 = .ok (.aload_n 2, 1) := by decide +kernel
theorem dL_law_922 : decode cL_law 922 = .ok (.invokevirtual 99, 3) := by decide +kernel
theorem dL_law_925 : decode cL_law 925 = .ok (.iload 5, 2) := by decide +kernel
theorem dL_law_927 : decode cL_law 927 = .ok (.if_icmp .eq 5, 3) := by decide +kernel
theorem dL_law_930 : decode cL_law 930 = .ok (.iconst 0, 1) := by decide +kernel
theorem dL_law_931 : decode cL_law 931 = .ok (.ireturn, 1) := by decide +kernel
theorem dL_law_932 : decode cL_law 932 = .ok (.iload 5, 2) := by decide +kernel
theorem dL_law_934 : decode cL_law 934 = .ok (.ifCond .ne 15, 3) := by decide +kernel
theorem dL_law_937 : decode cL_law 937 = .ok (.aload_n 3, 1) := by decide +kernel
theorem dL_law_938 : decode cL_law 938 = .ok (.iconst 0, 1) := by decide +kernel
theorem dL_law_939 : decode cL_law 939 = .ok (.laload, 1) := by decide +kernel
theorem dL_law_940 : decode cL_law 940 = .ok (.iload 6, 2) := by decide +kernel
theorem dL_law_942 : decode cL_law 942 = .ok (.i2l, 1) := by decide +kernel
theorem dL_law_943 : decode cL_law 943 = .ok (.lcmp, 1) := by decide +kernel
theorem dL_law_944 : decode cL_law 944 = .ok (.ifCond .eq 5, 3) := by decide +kernel
theorem dL_law_947 : decode cL_law 947 = .ok (.iconst 0, 1) := by decide +kernel
theorem dL_law_948 : decode cL_law 948 = .ok (.ireturn, 1) := by decide +kernel
theorem dL_law_949 : decode cL_law 949 = .ok (.goto 862, 3) := by decide +kernel
theorem dL_law_952 : decode cL_law 952 = .ok (.aload_n 1, 1) := by decide +kernel
theorem dL_law_953 : decode cL_law 953 = .ok (.aload_n 0, 1) := by decide +kernel
theorem dL_law_954 : decode cL_law 954 = .ok (.iload 4, 2) := by decide +kernel
theorem dL_law_956 : decode cL_law 956 = .ok (.iconst 1, 1) := by decide +kernel
theorem dL_law_957 : decode cL_law 957 = .ok (.iadd, 1) := by decide +kernel
theorem dL_law_958 : decode cL_law 958 = .ok (.iaload, 1) := by decide +kernel
theorem dL_law_959 : decode cL_law 959 = .ok (.aload_n 3, 1) := by decide +kernel
theorem dL_law_960 : decode cL_law 960 = .ok (.invokestatic 137, 3) := by decide +kernel
theorem dL_law_963 : decode cL_law 963 = .ok (.istore 5, 2) := by decide +kernel
theorem dL_law_965 : decode cL_law 965 = .ok (.aload_n 2, 1) := by decide +kernel
theorem dL_law_966 : decode cL_law 966 = .ok (.aload_n 0, 1) := by decide +kernel
theorem dL_law_967 : decode cL_law 967 = .ok (.iload 4, 2) := by decide +kernel
theorem dL_law_969 : decode cL_law 969 = .ok (.iconst 1, 1) := by decide +kernel
theorem dL_law_970 : decode cL_law 970 = .ok (.iadd, 1) := by decide +kernel
theorem dL_law_971 : decode cL_law 971 = .ok (.iaload, 1) := by decide +kernel
theorem dL_law_972 : decode cL_law 972 = .ok (.invokevirtual 139, 3) := by decide +kernel
theorem dL_law_975 : decode cL_law 975 = .ok (.istore 6, 2) := by decide +kernel
theorem dL_law_977 : decode cL_law 977 = .ok (.aload_n 2, 1) := by decide +kernel
theorem dL_law_978 : decode cL_law 978 = .ok (.invokevirtual 99, 3) := by decide +kernel
theorem dL_law_981 : decode cL_law 981 = .ok (.iload 5, 2) := by decide +kernel
theorem dL_law_983 : decode cL_law 983 = .ok (.if_icmp .eq 5, 3) := by decide +kernel
theorem dL_law_986 : decode cL_law 986 = .ok (.iconst 0, 1) := by decide +kernel
theorem dL_law_987 : decode cL_law 987 = .ok (.ireturn, 1) := by decide +kernel
theorem dL_law_988 : decode cL_law 988 = .ok (.iload 5, 2) := by decide +kernel
theorem dL_law_990 : decode cL_law 990 = .ok (.ifCond .ne 22, 3) := by decide +kernel
theorem dL_law_993 : decode cL_law 993 = .ok (.aload_n 3, 1) := by decide +kernel
theorem dL_law_994 : decode cL_law 994 = .ok (.iconst 0, 1) := by decide +kernel
theorem dL_law_995 : decode cL_law 995 = .ok (.laload, 1) := by decide +kernel
theorem dL_law_996 : decode cL_law 996 = .ok (.iload 6, 2) := by decide +kernel
end
section
theorem dL_law_998 : decode cL_law 998 = .ok (.ifCond .eq 7, 3) := by decide +kernel
theorem dL_law_1001 : decode cL_law 1001 = .ok (.lconst 1, 1) := by decide +kernel
theorem dL_law_1002 : decode cL_law 1002 = .ok (.goto 4, 3) := by decide +kernel
theorem dL_law_1005 : decode cL_law 1005 = .ok (.lconst 0, 1) := by decide +kernel
theorem dL_law_1006 : decode cL_law 1006 = .ok (.lcmp, 1) := by decide +kernel
theorem dL_law_1007 : decode cL_law 1007 = .ok (.ifCond .eq 5, 3) := by decide +kernel
theorem dL_law_1010 : decode cL_law 1010 = .ok (.iconst 0, 1) := by decide +kernel
theorem dL_law_1011 : decode cL_law 1011 = .ok (.ireturn, 1) := by decide +kernel
theorem dL_law_1012 : decode cL_law 1012 = .ok (.goto 799, 3) := by decide +kernel
theorem dL_law_1015 : decode cL_law 1015 = .ok (.aload_n 1, 1) := by decide +kernel
theorem dL_law_1016 : decode cL_law 1016 = .ok (.aload_n 0, 1) := by decide +kernel
theorem dL_law_1017 : decode cL_law 1017 = .ok (.iload 4, 2) := by decide +kernel
theorem dL_law_1019 : decode cL_law 1019 = .ok (.iconst 1, 1) := by decide +kernel
theorem dL_law_1020 : decode cL_law 1020 = .ok (.iadd, 1) := by decide +kernel
theorem dL_law_1021 : decode cL_law 1021 = .ok (.iaload, 1) := by decide +kernel
theorem dL_law_1022 : decode cL_law 1022 = .ok (.aload_n 0, 1) := by decide +kernel
theorem dL_law_1023 : decode cL_law 1023 = .ok (.iload 4, 2) := by decide +kernel
theorem dL_law_1025 : decode cL_law 1025 = .ok (.iconst 2, 1) := by decide +kernel
theorem dL_law_1026 : decode cL_law 1026 = .ok (.iadd, 1) := by decide +kernel
theorem dL_law_1027 : decode cL_law 1027 = .ok (.iaload, 1) := by decide +kernel
theorem dL_law_1028 : decode cL_law 1028 = .ok (.ifCond .eq 7, 3) := by decide +kernel
theorem dL_law_1031 : decode cL_law 1031 = .ok (.iconst 1, 1) := by decide +kernel
theorem dL_law_1032 : decode cL_law 1032 = .ok (.goto 4, 3) := by decide +kernel
theorem dL_law_1035 : decode cL_law 1035 = .ok (.iconst 0, 1) := by decide +kernel
theorem dL_law_1036 : decode cL_law 1036 = .ok (.aload_n 3, 1) := by decide +kernel
theorem dL_law_1037 : decode cL_law 1037 = .ok (.invokestatic 140, 3) := by decide +kernel
theorem dL_law_1040 : decode cL_law 1040 = .ok (.istore 5, 2) := by decide +kernel
theorem dL_law_1042 : decode cL_law 1042 = .ok (.aload_n 2, 1) := by decide +kernel
theorem dL_law_1043 : decode cL_law 1043 = .ok (.aload_n 0, 1) := by decide +kernel
theorem dL_law_1044 : decode cL_law 1044 = .ok (.iload 4, 2) := by decide +kernel
theorem dL_law_1046 : decode cL_law 1046 = .ok (.iconst 1, 1) := by decide +kernel
theorem dL_law_1047 : decode cL_law 1047 = .ok (.iadd, 1) := by decide +kernel
theorem dL_law_1048 : decode cL_law 1048 = .ok (.iaload, 1) := by decide +kernel
theorem dL_law_1049 : decode cL_law 1049 = .ok (.aload_n 0, 1) := by decide +kernel
theorem dL_law_1050 : decode cL_law 1050 = .ok (.iload 4, 2) := by decide +kernel
theorem dL_law_1052 : decode cL_law 1052 = .ok (.iconst 2, 1) := by decide +kernel
theorem dL_law_1053 : decode cL_law 1053 = .ok (.iadd, 1) := by decide +kernel
theorem dL_law_1054 : decode cL_law 1054 = .ok (.iaload, 1) := by decide +kernel
theorem dL_law_1055 : decode cL_law 1055 = .ok (.ifCond .eq 7, 3) := by decide +kernel
theorem dL_law_1058 : decode cL_law 1058 = .ok (.iconst 1, 1) := by decide +kernel
theorem dL_law_1059 : decode cL_law 1059 = .ok (.goto 4, 3) := by decide +kernel
theorem dL_law_1062 : decode cL_law 1062 = .ok (.iconst 0, 1) := by decide +kernel
theorem dL_law_1063 : decode cL_law 1063 = .ok (.invokevirtual 142, 3) := by decide +kernel
theorem dL_law_1066 : decode cL_law 1066 = .ok (.istore 6, 2) := by decide +kernel
theorem dL_law_1068 : decode cL_law 1068 = .ok (.aload_n 2, 1) := by decide +kernel
theorem dL_law_1069 : decode cL_law 1069 = .ok (.invokevirtual 99, 3) := by decide +kernel
theorem dL_law_1072 : decode cL_law 1072 = .ok (.iload 5, 2) := by decide +kernel
theorem dL_law_1074 : decode cL_law 1074 = .ok (.if_icmp .eq 5, 3) := by decide +kernel
theorem dL_law_1077 : decode cL_law 1077 = .ok (.iconst 0, 1) := by decide +kernel
theorem dL_law_1078 : decode cL_law 1078 = .ok (.ireturn, 1) := by decide +kernel
theorem dL_law_1079 : decode cL_law 1079 = .ok (.iload 5, 2) := by decide +kernel
theorem dL_law_1081 : decode cL_law 1081 = .ok (.ifCond .ne 22, 3) := by decide +kernel
theorem dL_law_1084 : decode cL_law 1084 = .ok (.aload_n 3, 1) := by decide +kernel
theorem dL_law_1085 : decode cL_law 1085 = .ok (.iconst 0, 1) := by decide +kernel
theorem dL_law_1086 : decode cL_law 1086 = .ok (.laload, 1) := by decide +kernel
theorem dL_law_1087 : decode cL_law 1087 = .ok (.iload 6, 2) := by decide +kernel
theorem dL_law_1089 : decode cL_law 1089 = .ok (.ifCond .eq 7, 3) := by decide +kernel
theorem dL_law_1092 : decode cL_law 1092 = .ok (.lconst 1, 1) := by decide +kernel
theorem dL_law_1093 : decode cL_law 1093 = .ok (.goto 4, 3) := by decide +kernel
theorem dL_law_1096 : decode cL_law 1096 = .ok (.lconst 0, 1) := by decide +kernel
theorem dL_law_1097 : decode cL_law 1097 = .ok (.lcmp, 1) := by decide +kernel
theorem dL_law_1098 : decode cL_law 1098 = .ok (.ifCond .eq 5, 3) := by decide +kernel
theorem dL_law_1101 : decode cL_law 1101 = .ok (.iconst 0, 1) := by decide +kernel
theorem dL_law_1102 : decode cL_law 1102 = .ok (.ireturn, 1) := by decide +kernel
theorem dL_law_1103 : decode cL_law 1103 = .ok (.goto 708, 3) := by decide +kernel
theorem dL_law_1106 : decode cL_law 1106 = .ok (.aload_n 1, 1) := by decide +kernel
theorem dL_law_1107 : decode cL_law 1107 = .ok (.aload_n 0, 1) := by decide +kernel
theorem dL_law_1108 : decode cL_law 1108 = .ok (.iload 4, 2) := by decide +kernel
theorem dL_law_1110 : decode cL_law 1110 = .ok (.iconst 1, 1) := by decide +kernel
theorem dL_law_1111 : decode cL_law 1111 = .ok (.iadd, 1) := by decide +kernel
theorem dL_law_1112 : decode cL_law 1112 = .ok (.iaload, 1) := by decide +kernel
theorem dL_law_1113 : decode cL_law 1113 = .ok (.aload_n 3, 1) := by decide +kernel
theorem dL_law_1114 : decode cL_law 1114 = .ok (.invokestatic 143, 3) := by decide +kernel
theorem dL_law_1117 : decode cL_law 1117 = .ok (.istore 5, 2) := by decide +kernel
theorem dL_law_1119 : decode cL_law 1119 = .ok (.aload_n 2, 1) := by decide +kernel
theorem dL_law_1120 : decode cL_law 1120 = .ok (.aload_n 0, 1) := by decide +kernel
theorem dL_law_1121 : decode cL_law 1121 = .ok (.iload 4, 2) := by decide +kernel
theorem dL_law_1123 : decode cL_law 1123 = .ok (.iconst 1, 1) := by decide +kernel
theorem dL_law_1124 : decode cL_law 1124 = .ok (.iadd, 1) := by decide +kernel
theorem dL_law_1125 : decode cL_law 1125 = .ok (.iaload, 1) := by decide +kernel
theorem dL_law_1126 : decode cL_law 1126 = .ok (.invokevirtual 145, 3) := by decide +kernel
theorem dL_law_1129 : decode cL_law 1129 = .ok (.istore 6, 2) := by decide +kernel
theorem dL_law_1131 : decode cL_law 1131 = .ok (.aload_n 2, 1) := by decide +kernel
theorem dL_law_1132 : decode cL_law 1132 = .ok (.invokevirtual 99, 3) := by decide +kernel
theorem dL_law_1135 : decode cL_law 1135 = .ok (.iload 5, 2) := by decide +kernel
theorem dL_law_1137 : decode cL_law 1137 = .ok (.if_icmp .eq 5, 3) := by decide +kernel
theorem dL_law_1140 : decode cL_law 1140 = .ok (.iconst 0, 1) := by decide +kernel
theorem dL_law_1141 : decode cL_law 1141 = .ok (.ireturn, 1) := by decide +kernel
theorem dL_law_1142 : decode cL_law 1142 = .ok (.iload 5, 2) := by decide +kernel
theorem dL_law_1144 : decode cL_law 1144 = .ok (.ifCond .ne 15, 3) := by decide +kernel
theorem dL_law_1147 : decode cL_law 1147 = .ok (.aload_n 3, 1) := by decide +kernel
theorem dL_law_1148 : decode cL_law 1148 = .ok (.iconst 0, 1) := by decide +kernel
theorem dL_law_1149 : decode cL_law 1149 = .ok (.laload, 1) := by decide +kernel
theorem dL_law_1150 : decode cL_law 1150 = .ok (.iload 6, 2) := by decide +kernel
theorem dL_law_1152 : decode cL_law 1152 = .ok (.i2l, 1) := by decide +kernel
theorem dL_law_1153 : decode cL_law 1153 = .ok (.lcmp, 1) := by decide +kernel
theorem dL_law_1154 : decode cL_law 1154 = .ok (.ifCond .eq 5, 3) := by decide +kernel
theorem dL_law_1157 : decode cL_law 1157 = .ok (.iconst 0, 1) := by decide +kernel
theorem dL_law_1158 : decode cL_law 1158 = .ok (.ireturn, 1) := by decide +kernel
theorem dL_law_1159 : decode cL_law 1159 = .ok (.goto 652, 3) := by decide +kernel
theorem dL_law_1162 : decode cL_law 1162 = .ok (.aload_n 1, 1) := by decide +kernel
theorem dL_law_1163 : decode cL_law 1163 = .ok (.aload_n 0, 1) := by decide +kernel
theorem dL_law_1164 : decode cL_law 1164 = .ok (.iload 4, 2) := by decide +kernel
theorem dL_law_1166 : decode cL_law 1166 = .ok (.iconst 1, 1) := by decide +kernel
theorem dL_law_1167 : decode cL_law 1167 = .ok (.iadd, 1) := by decide +kernel
theorem dL_law_1168 : decode cL_law 1168 = .ok (.iaload, 1) := by decide +kernel
theorem dL_law_1169 : decode cL_law 1169 = .ok (.aload_n 3, 1) := by decide +kernel
theorem dL_law_1170 : decode cL_law 1170 = .ok (.invokestatic 146, 3) := by decide +kernel
theorem dL_law_1173 : decode cL_law 1173 = .ok (.istore 5, 2) := by decide +kernel
theorem dL_law_1175 : decode cL_law 1175 = .ok (.aload_n 2, 1) := by decide +kernel
theorem dL_law_1176 : decode cL_law 1176 = .ok (.aload_n 0, 1) := by decide +kernel
theorem dL_law_1177 : decode cL_law 1177 = .ok (.iload 4, 2) := by decide +kernel
theorem dL_law_1179 : decode cL_law 1179 = .ok (.iconst 1, 1) := by decide +kernel
theorem dL_law_1180 : decode cL_law 1180 = .ok (.iadd, 1) := by decide +kernel
theorem dL_law_1181 : decode cL_law 1181 = .ok (.iaload, 1) := by decide +kernel
theorem dL_law_1182 : decode cL_law 1182 = .ok (.invokevirtual 148, 3) := by decide +kernel
theorem dL_law_1185 : decode cL_law 1185 = .ok (.istore 6, 2) := by decide +kernel
theorem dL_law_1187 : decode cL_law 1187 = .ok (.aload_n 2, 1) := by decide +kernel
theorem dL_law_1188 : decode cL_law 1188 = .ok (.invokevirtual 99, 3) := by decide +kernel
theorem dL_law_1191 : decode cL_law 1191 = .ok (.iload 5, 2) := by decide +kernel
theorem dL_law_1193 : decode cL_law 1193 = .ok (.if_icmp .eq 5, 3) := by decide +kernel
theorem dL_law_1196 : decode cL_law 1196 = .ok (.iconst 0, 1) := by decide +kernel
theorem dL_law_1197 : decode cL_law 1197 = .ok (.ireturn, 1) := by decide +kernel
theorem dL_law_1198 : decode cL_law 1198 = .ok (.iload 5, 2) := by decide +kernel
theorem dL_law_1200 : decode cL_law 1200 = .ok (.ifCond .ne 15, 3) := by decide +kernel
theorem dL_law_1203 : decode cL_law 1203 = .ok (.aload_n 3, 1) := by decide +kernel
theorem dL_law_1204 : decode cL_law 1204 = .ok (.iconst 0, 1) := by decide +kernel
theorem dL_law_1205 : decode cL_law 1205 = .ok (.laload, 1) := by decide +kernel
theorem dL_law_1206 : decode cL_law 1206 = .ok (.iload 6, 2) := by decide +kernel
theorem dL_law_1208 : decode cL_law 1208 = .ok (.i2l, 1) := by decide +kernel
theorem dL_law_1209 : decode cL_law 1209 = .ok (.lcmp, 1) := by decide +kernel
theorem dL_law_1210 : decode cL_law 1210 = .ok (.ifCond .eq 5, 3) := by decide +kernel
theorem dL_law_1213 : decode cL_law 1213 = .ok (.iconst 0, 1) := by decide +kernel
theorem dL_law_1214 : decode cL_law 1214 = .ok (.ireturn, 1) := by decide +kernel
theorem dL_law_1215 : decode cL_law 1215 = .ok (.goto 596, 3) := by decide +kernel
theorem dL_law_1218 : decode cL_law 1218 = .ok (.aload_n 1, 1) := by decide +kernel
theorem dL_law_1219 : decode cL_law 1219 = .ok (.aload_n 0, 1) := by decide +kernel
theorem dL_law_1220 : decode cL_law 1220 = .ok (.iload 4, 2) := by decide +kernel
theorem dL_law_1222 : decode cL_law 1222 = .ok (.iconst 1, 1) := by decide +kernel
theorem dL_law_1223 : decode cL_law 1223 = .ok (.iadd, 1) := by decide +kernel
theorem dL_law_1224 : decode cL_law 1224 = .ok (.iaload, 1) := by decide +kernel
theorem dL_law_1225 : decode cL_law 1225 = .ok (.aload_n 3, 1) := by decide +kernel
theorem dL_law_1226 : decode cL_law 1226 = .ok (.invokestatic 149, 3) := by decide +kernel
theorem dL_law_1229 : decode cL_law 1229 = .ok (.istore 5, 2) := by decide +kernel
theorem dL_law_1231 : decode cL_law 1231 = .ok (.aload_n 2, 1) := by decide +kernel
theorem dL_law_1232 : decode cL_law 1232 = .ok (.aload_n 0, 1) := by decide +kernel
theorem dL_law_1233 : decode cL_law 1233 = .ok (.iload 4, 2) := by decide +kernel
theorem dL_law_1235 : decode cL_law 1235 = .ok (.iconst 1, 1) := by decide +kernel
theorem dL_law_1236 : decode cL_law 1236 = .ok (.iadd, 1) := by decide +kernel
theorem dL_law_1237 : decode cL_law 1237 = .ok (.iaload, 1) := by decide +kernel
theorem dL_law_1238 : decode cL_law 1238 = .ok (.invokevirtual 151, 3) := by decide +kernel
theorem dL_law_1241 : decode cL_law 1241 = .ok (.istore 6, 2) := by decide +kernel
theorem dL_law_1243 : decode cL_law 1243 = .ok (.aload_n 2, 1) := by decide +kernel
theorem dL_law_1244 : decode cL_law 1244 = .ok (.invokevirtual 99, 3) := by decide +kernel
theorem dL_law_1247 : decode cL_law 1247 = .ok (.iload 5, 2) := by decide +kernel
theorem dL_law_1249 : decode cL_law 1249 = .ok (.if_icmp .eq 5, 3) := by decide +kernel
theorem dL_law_1252 : decode cL_law 1252 = .ok (.iconst 0, 1) := by decide +kernel
theorem dL_law_1253 : decode cL_law 1253 = .ok (.ireturn, 1) := by decide +kernel
theorem dL_law_1254 : decode cL_law 1254 = .ok (.iload 5, 2) := by decide +kernel
theorem dL_law_1256 : decode cL_law 1256 = .ok (.ifCond .ne 15, 3) := by decide +kernel
theorem dL_law_1259 : decode cL_law 1259 = .ok (.aload_n 3, 1) := by decide +kernel
theorem dL_law_1260 : decode cL_law 1260 = .ok (.iconst 0, 1) := by decide +kernel
theorem dL_law_1261 : decode cL_law 1261 = .ok (.laload, 1) := by decide +kernel
theorem dL_law_1262 : decode cL_law 1262 = .ok (.iload 6, 2) := by decide +kernel
theorem dL_law_1264 : decode cL_law 1264 = .ok (.i2l, 1) := by decide +kernel
theorem dL_law_1265 : decode cL_law 1265 = .ok (.lcmp, 1) := by decide +kernel
theorem dL_law_1266 : decode cL_law 1266 = .ok (.ifCond .eq 5, 3) := by decide +kernel
theorem dL_law_1269 : decode cL_law 1269 = .ok (.iconst 0, 1) := by decide +kernel
theorem dL_law_1270 : decode cL_law 1270 = .ok (.ireturn, 1) := by decide +kernel
theorem dL_law_1271 : decode cL_law 1271 = .ok (.goto 540, 3) := by decide +kernel
theorem dL_law_1274 : decode cL_law 1274 = .ok (.aload_n 1, 1) := by decide +kernel
theorem dL_law_1275 : decode cL_law 1275 = .ok (.aload_n 0, 1) := by decide +kernel
theorem dL_law_1276 : decode cL_law 1276 = .ok (.iload 4, 2) := by decide +kernel
theorem dL_law_1278 : decode cL_law 1278 = .ok (.iconst 1, 1) := by decide +kernel
theorem dL_law_1279 : decode cL_law 1279 = .ok (.iadd, 1) := by decide +kernel
theorem dL_law_1280 : decode cL_law 1280 = .ok (.iaload, 1) := by decide +kernel
theorem dL_law_1281 : decode cL_law 1281 = .ok (.aload_n 0, 1) := by decide +kernel
theorem dL_law_1282 : decode cL_law 1282 = .ok (.iload 4, 2) := by decide +kernel
theorem dL_law_1284 : decode cL_law 1284 = .ok (.iconst 2, 1) := by decide +kernel
theorem dL_law_1285 : decode cL_law 1285 = .ok (.iadd, 1) := by decide +kernel
theorem dL_law_1286 : decode cL_law 1286 = .ok (.iaload, 1) := by decide +kernel
theorem dL_law_1287 : decode cL_law 1287 = .ok (.aload_n 3, 1) := by decide +kernel
theorem dL_law_1288 : decode cL_law 1288 = .ok (.invokestatic 152, 3) := by decide +kernel
theorem dL_law_1291 : decode cL_law 1291 = .ok (.istore 5, 2) := by decide +kernel
theorem dL_law_1293 : decode cL_law 1293 = .ok (.aload_n 2, 1) := by decide +kernel
theorem dL_law_1294 : decode cL_law 1294 = .ok (.aload_n 0, 1) := by decide +kernel
theorem dL_law_1295 : decode cL_law 1295 = .ok (.iload 4, 2) := by decide +kernel
theorem dL_law_1297 : decode cL_law 1297 = .ok (.iconst 1, 1) := by decide +kernel
theorem dL_law_1298 : decode cL_law 1298 = .ok (.iadd, 1) := by decide +kernel
theorem dL_law_1299 : decode cL_law 1299 = .ok (.iaload, 1) := by decide +kernel
theorem dL_law_1300 : decode cL_law 1300 = .ok (.aload_n 0, 1) := by decide +kernel
theorem dL_law_1301 : decode cL_law 1301 = .ok (.iload 4, 2) := by decide +kernel
theorem dL_law_1303 : decode cL_law 1303 = .ok (.iconst 2, 1) := by decide +kernel
theorem dL_law_1304 : decode cL_law 1304 = .ok (.iadd, 1) := by decide +kernel
theorem dL_law_1305 : decode cL_law 1305 = .ok (.iaload, 1) := by decide +kernel
theorem dL_law_1306 : decode cL_law 1306 = .ok (.invokevirtual 154, 3) := by decide +kernel
theorem dL_law_1309 : decode cL_law 1309 = .ok (.istore 6, 2) := by decide +kernel
theorem dL_law_1311 : decode cL_law 1311 = .ok (.aload_n 2, 1) := by decide +kernel
theorem dL_law_1312 : decode cL_law 1312 = .ok (.invokevirtual 99, 3) := by decide +kernel
theorem dL_law_1315 : decode cL_law 1315 = .ok (.iload 5, 2) := by decide +kernel
theorem dL_law_1317 : decode cL_law 1317 = .ok (.if_icmp .eq 5, 3) := by decide +kernel
theorem dL_law_1320 : decode cL_law 1320 = .ok (.iconst 0, 1) := by decide +kernel
theorem dL_law_1321 : decode cL_law 1321 = .ok (.ireturn, 1) := by decide +kernel
theorem dL_law_1322 : decode cL_law 1322 = .ok (.iload 5, 2) := by decide +kernel
theorem dL_law_1324 : decode cL_law 1324 = .ok (.ifCond .ne 15, 3) := by decide +kernel
theorem dL_law_1327 : decode cL_law 1327 = .ok (.aload_n 3, 1) := by decide +kernel
theorem dL_law_1328 : decode cL_law 1328 = .ok (.iconst 0, 1) := by decide +kernel
theorem dL_law_1329 : decode cL_law 1329 = .ok (.laload, 1) := by decide +kernel
theorem dL_law_1330 : decode cL_law 1330 = .ok (.iload 6, 2) := by decide +kernel
theorem dL_law_1332 : decode cL_law 1332 = .ok (.i2l, 1) := by decide +kernel
theorem dL_law_1333 : decode cL_law 1333 = .ok (.lcmp, 1) := by decide +kernel
theorem dL_law_1334 : decode cL_law 1334 = .ok (.ifCond .eq 5, 3) := by decide +kernel
theorem dL_law_1337 : decode cL_law 1337 = .ok (.iconst 0, 1) := by decide +kernel
theorem dL_law_1338 : decode cL_law 1338 = .ok (.ireturn, 1) := by decide +kernel
theorem dL_law_1339 : decode cL_law 1339 = .ok (.goto 472, 3) := by decide +kernel
theorem dL_law_1342 : decode cL_law 1342 = .ok (.aload_n 1, 1) := by decide +kernel
theorem dL_law_1343 : decode cL_law 1343 = .ok (.aload_n 0, 1) := by decide +kernel
theorem dL_law_1344 : decode cL_law 1344 = .ok (.iload 4, 2) := by decide +kernel
theorem dL_law_1346 : decode cL_law 1346 = .ok (.iconst 1, 1) := by decide +kernel
theorem dL_law_1347 : decode cL_law 1347 = .ok (.iadd, 1) := by decide +kernel
theorem dL_law_1348 : decode cL_law 1348 = .ok (.iaload, 1) := by decide +kernel
theorem dL_law_1349 : decode cL_law 1349 = .ok (.aload_n 0, 1) := by decide +kernel
theorem dL_law_1350 : decode cL_law 1350 = .ok (.iload 4, 2) := by decide +kernel
theorem dL_law_1352 : decode cL_law 1352 = .ok (.iconst 2, 1) := by decide +kernel
theorem dL_law_1353 : decode cL_law 1353 = .ok (.iadd, 1) := by decide +kernel
theorem dL_law_1354 : decode cL_law 1354 = .ok (.iaload, 1) := by decide +kernel
theorem dL_law_1355 : decode cL_law 1355 = .ok (.aload_n 0, 1) := by decide +kernel
theorem dL_law_1356 : decode cL_law 1356 = .ok (.iload 4, 2) := by decide +kernel
theorem dL_law_1358 : decode cL_law 1358 = .ok (.iconst 3, 1) := by decide +kernel
theorem dL_law_1359 : decode cL_law 1359 = .ok (.iadd, 1) := by decide +kernel
theorem dL_law_1360 : decode cL_law 1360 = .ok (.iaload, 1) := by decide +kernel
theorem dL_law_1361 : decode cL_law 1361 = .ok (.aload_n 3, 1) := by decide +kernel
theorem dL_law_1362 : decode cL_law 1362 = .ok (.invokestatic 155, 3) := by decide +kernel
theorem dL_law_1365 : decode cL_law 1365 = .ok (.istore 5, 2) := by decide +kernel
theorem dL_law_1367 : decode cL_law 1367 = .ok (.aload_n 2, 1) := by decide +kernel
theorem dL_law_1368 : decode cL_law 1368 = .ok (.aload_n 0, 1) := by decide +kernel
theorem dL_law_1369 : decode cL_law 1369 = .ok (.iload 4, 2) := by decide +kernel
theorem dL_law_1371 : decode cL_law 1371 = .ok (.iconst 1, 1) := by decide +kernel
theorem dL_law_1372 : decode cL_law 1372 = .ok (.iadd, 1) := by decide +kernel
theorem dL_law_1373 : decode cL_law 1373 = .ok (.iaload, 1) := by decide +kernel
theorem dL_law_1374 : decode cL_law 1374 = .ok (.aload_n 0, 1) := by decide +kernel
theorem dL_law_1375 : decode cL_law 1375 = .ok (.iload 4, 2) := by decide +kernel
theorem dL_law_1377 : decode cL_law 1377 = .ok (.iconst 2, 1) := by decide +kernel
theorem dL_law_1378 : decode cL_law 1378 = .ok (.iadd, 1) := by decide +kernel
theorem dL_law_1379 : decode cL_law 1379 = .ok (.iaload, 1) := by decide +kernel
theorem dL_law_1380 : decode cL_law 1380 = .ok (.aload_n 0, 1) := by decide +kernel
theorem dL_law_1381 : decode cL_law 1381 = .ok (.iload 4, 2) := by decide +kernel
theorem dL_law_1383 : decode cL_law 1383 = .ok (.iconst 3, 1) := by decide +kernel
theorem dL_law_1384 : decode cL_law 1384 = .ok (.iadd, 1) := by decide +kernel
theorem dL_law_1385 : decode cL_law 1385 = .ok (.iaload, 1) := by decide +kernel
theorem dL_law_1386 : decode cL_law 1386 = .ok (.invokevirtual 158, 3) := by decide +kernel
theorem dL_law_1389 : decode cL_law 1389 = .ok (.istore 6, 2) := by decide +kernel
theorem dL_law_1391 : decode cL_law 1391 = .ok (.aload_n 2, 1) := by decide +kernel
theorem dL_law_1392 : decode cL_law 1392 = .ok (.invokevirtual 99, 3) := by decide +kernel
theorem dL_law_1395 : decode cL_law 1395 = .ok (.iload 5, 2) := by decide +kernel
theorem dL_law_1397 : decode cL_law 1397 = .ok (.if_icmp .eq 5, 3) := by decide +kernel
theorem dL_law_1400 : decode cL_law 1400 = .ok (.iconst 0, 1) := by decide +kernel
theorem dL_law_1401 : decode cL_law 1401 = .ok (.ireturn, 1) := by decide +kernel
theorem dL_law_1402 : decode cL_law 1402 = .ok (.iload 5, 2) := by decide +kernel
theorem dL_law_1404 : decode cL_law 1404 = .ok (.ifCond .ne 15, 3) := by decide +kernel
theorem dL_law_1407 : decode cL_law 1407 = .ok (.aload_n 3, 1) := by decide +kernel
theorem dL_law_1408 : decode cL_law 1408 = .ok (.iconst 0, 1) := by decide +kernel
theorem dL_law_1409 : decode cL_law 1409 = .ok (.laload, 1) := by decide +kernel
theorem dL_law_1410 : decode cL_law 1410 = .ok (.iload 6, 2) := by decide +kernel
theorem dL_law_1412 : decode cL_law 1412 = .ok (.i2l, 1) := by decide +kernel
theorem dL_law_1413 : decode cL_law 1413 = .ok (.lcmp, 1) := by decide +kernel
theorem dL_law_1414 : decode cL_law 1414 = .ok (.ifCond .eq 5, 3) := by decide +kernel
theorem dL_law_1417 : decode cL_law 1417 = .ok (.iconst 0, 1) := by decide +kernel
theorem dL_law_1418 : decode cL_law 1418 = .ok (.ireturn, 1) := by decide +kernel
theorem dL_law_1419 : decode cL_law 1419 = .ok (.goto 392, 3) := by decide +kernel
theorem dL_law_1422 : decode cL_law 1422 = .ok (.aload_n 1, 1) := by decide +kernel
theorem dL_law_1423 : decode cL_law 1423 = .ok (.aload_n 0, 1) := by decide +kernel
theorem dL_law_1424 : decode cL_law 1424 = .ok (.iload 4, 2) := by decide +kernel
theorem dL_law_1426 : decode cL_law 1426 = .ok (.iconst 1, 1) := by decide +kernel
theorem dL_law_1427 : decode cL_law 1427 = .ok (.iadd, 1) := by decide +kernel
theorem dL_law_1428 : decode cL_law 1428 = .ok (.iaload, 1) := by decide +kernel
theorem dL_law_1429 : decode cL_law 1429 = .ok (.aload_n 0, 1) := by decide +kernel
theorem dL_law_1430 : decode cL_law 1430 = .ok (.iload 4, 2) := by decide +kernel
theorem dL_law_1432 : decode cL_law 1432 = .ok (.iconst 2, 1) := by decide +kernel
theorem dL_law_1433 : decode cL_law 1433 = .ok (.iadd, 1) := by decide +kernel
theorem dL_law_1434 : decode cL_law 1434 = .ok (.iaload, 1) := by decide +kernel
theorem dL_law_1435 : decode cL_law 1435 = .ok (.aload_n 3, 1) := by decide +kernel
theorem dL_law_1436 : decode cL_law 1436 = .ok (.invokestatic 159, 3) := by decide +kernel
theorem dL_law_1439 : decode cL_law 1439 = .ok (.istore 5, 2) := by decide +kernel
theorem dL_law_1441 : decode cL_law 1441 = .ok (.aload_n 2, 1) := by decide +kernel
theorem dL_law_1442 : decode cL_law 1442 = .ok (.aload_n 0, 1) := by decide +kernel
theorem dL_law_1443 : decode cL_law 1443 = .ok (.iload 4, 2) := by decide +kernel
theorem dL_law_1445 : decode cL_law 1445 = .ok (.iconst 1, 1) := by decide +kernel
theorem dL_law_1446 : decode cL_law 1446 = .ok (.iadd, 1) := by decide +kernel
theorem dL_law_1447 : decode cL_law 1447 = .ok (.iaload, 1) := by decide +kernel
theorem dL_law_1448 : decode cL_law 1448 = .ok (.aload_n 0, 1) := by decide +kernel
theorem dL_law_1449 : decode cL_law 1449 = .ok (.iload 4, 2) := by decide +kernel
theorem dL_law_1451 : decode cL_law 1451 = .ok (.iconst 2, 1) := by decide +kernel
theorem dL_law_1452 : decode cL_law 1452 = .ok (.iadd, 1) := by decide +kernel
theorem dL_law_1453 : decode cL_law 1453 = .ok (.iaload, 1) := by decide +kernel
theorem dL_law_1454 : decode cL_law 1454 = .ok (.invokevirtual 161, 3) := by decide +kernel
theorem dL_law_1457 : decode cL_law 1457 = .ok (.istore 6, 2) := by decide +kernel
theorem dL_law_1459 : decode cL_law 1459 = .ok (.aload_n 2, 1) := by decide +kernel
theorem dL_law_1460 : decode cL_law 1460 = .ok (.invokevirtual 99, 3) := by decide +kernel
theorem dL_law_1463 : decode cL_law 1463 = .ok (.iload 5, 2) := by decide +kernel
theorem dL_law_1465 : decode cL_law 1465 = .ok (.if_icmp .eq 5, 3) := by decide +kernel
theorem dL_law_1468 : decode cL_law 1468 = .ok (.iconst 0, 1) := by decide +kernel
theorem dL_law_1469 : decode cL_law 1469 = .ok (.ireturn, 1) := by decide +kernel
theorem dL_law_1470 : decode cL_law 1470 = .ok (.iload 5, 2) := by decide +kernel
theorem dL_law_1472 : decode cL_law 1472 = .ok (.ifCond .ne 15, 3) := by decide +kernel
theorem dL_law_1475 : decode cL_law 1475 = .ok (.aload_n 3, 1) := by decide +kernel
theorem dL_law_1476 : decode cL_law 1476 = .ok (.iconst 0, 1) := by decide +kernel
theorem dL_law_1477 : decode cL_law 1477 = .ok (.laload, 1) := by decide +kernel
theorem dL_law_1478 : decode cL_law 1478 = .ok (.iload 6, 2) := by decide +kernel
theorem dL_law_1480 : decode cL_law 1480 = .ok (.i2l, 1) := by decide +kernel
theorem dL_law_1481 : decode cL_law 1481 = .ok (.lcmp, 1) := by decide +kernel
theorem dL_law_1482 : decode cL_law 1482 = .ok (.ifCond .eq 5, 3) := by decide +kernel
theorem dL_law_1485 : decode cL_law 1485 = .ok (.iconst 0, 1) := by decide +kernel
theorem dL_law_1486 : decode cL_law 1486 = .ok (.ireturn, 1) := by decide +kernel
theorem dL_law_1487 : decode cL_law 1487 = .ok (.goto 324, 3) := by decide +kernel
theorem dL_law_1490 : decode cL_law 1490 = .ok (.aload_n 1, 1) := by decide +kernel
theorem dL_law_1491 : decode cL_law 1491 = .ok (.aload_n 0, 1) := by decide +kernel
theorem dL_law_1492 : decode cL_law 1492 = .ok (.iload 4, 2) := by decide +kernel
theorem dL_law_1494 : decode cL_law 1494 = .ok (.iconst 1, 1) := by decide +kernel
theorem dL_law_1495 : decode cL_law 1495 = .ok (.iadd, 1) := by decide +kernel
theorem dL_law_1496 : decode cL_law 1496 = .ok (.iaload, 1) := by decide +kernel
theorem dL_law_1497 : decode cL_law 1497 = .ok (.aload_n 3, 1) := by decide +kernel
theorem dL_law_1498 : decode cL_law 1498 = .ok (.invokestatic 162, 3) := by decide +kernel
theorem dL_law_1501 : decode cL_law 1501 = .ok (.istore 5, 2) := by decide +kernel
theorem dL_law_1503 : decode cL_law 1503 = .ok (.aload_n 2, 1) := by decide +kernel
theorem dL_law_1504 : decode cL_law 1504 = .ok (.aload_n 0, 1) := by decide +kernel
theorem dL_law_1505 : decode cL_law 1505 = .ok (.iload 4, 2) := by decide +kernel
theorem dL_law_1507 : decode cL_law 1507 = .ok (.iconst 1, 1) := by decide +kernel
theorem dL_law_1508 : decode cL_law 1508 = .ok (.iadd, 1) := by decide +kernel
theorem dL_law_1509 : decode cL_law 1509 = .ok (.iaload, 1) := by decide +kernel
theorem dL_law_1510 : decode cL_law 1510 = .ok (.invokevirtual 164, 3) := by decide +kernel
theorem dL_law_1513 : decode cL_law 1513 = .ok (.istore 6, 2) := by decide +kernel
theorem dL_law_1515 : decode cL_law 1515 = .ok (.aload_n 2, 1) := by decide +kernel
theorem dL_law_1516 : decode cL_law 1516 = .ok (.invokevirtual 99, 3) := by decide +kernel
theorem dL_law_1519 : decode cL_law 1519 = .ok (.iload 5, 2) := by decide +kernel
theorem dL_law_1521 : decode cL_law 1521 = .ok (.if_icmp .eq 5, 3) := by decide +kernel
theorem dL_law_1524 : decode cL_law 1524 = .ok (.iconst 0, 1) := by decide +kernel
theorem dL_law_1525 : decode cL_law 1525 = .ok (.ireturn, 1) := by decide +kernel
theorem dL_law_1526 : decode cL_law 1526 = .ok (.iload 5, 2) := by decide +kernel
theorem dL_law_1528 : decode cL_law 1528 = .ok (.ifCond .ne 15, 3) := by decide +kernel
theorem dL_law_1531 : decode cL_law 1531 = .ok (.aload_n 3, 1) := by decide +kernel
theorem dL_law_1532 : decode cL_law 1532 = .ok (.iconst 0, 1) := by decide +kernel
theorem dL_law_1533 : decode cL_law 1533 = .ok (.laload, 1) := by decide +kernel
theorem dL_law_1534 : decode cL_law 1534 = .ok (.iload 6, 2) := by decide +kernel
theorem dL_law_1536 : decode cL_law 1536 = .ok (.i2l, 1) := by decide +kernel
theorem dL_law_1537 : decode cL_law 1537 = .ok (.lcmp, 1) := by decide +kernel
theorem dL_law_1538 : decode cL_law 1538 = .ok (.ifCond .eq 5, 3) := by decide +kernel
theorem dL_law_1541 : decode cL_law 1541 = .ok (.iconst 0, 1) := by decide +kernel
theorem dL_law_1542 : decode cL_law 1542 = .ok (.ireturn, 1) := by decide +kernel
theorem dL_law_1543 : decode cL_law 1543 = .ok (.goto 268, 3) := by decide +kernel
theorem dL_law_1546 : decode cL_law 1546 = .ok (.aload_n 1, 1) := by decide +kernel
theorem dL_law_1547 : decode cL_law 1547 = .ok (.invokevirtual 165, 3) := by decide +kernel
theorem dL_law_1550 : decode cL_law 1550 = .ok (.dstore 5, 2) := by decide +kernel
theorem dL_law_1552 : decode cL_law 1552 = .ok (.aload_n 2, 1) := by decide +kernel
theorem dL_law_1553 : decode cL_law 1553 = .ok (.invokevirtual 169, 3) := by decide +kernel
theorem dL_law_1556 : decode cL_law 1556 = .ok (.dstore 7, 2) := by decide +kernel
theorem dL_law_1558 : decode cL_law 1558 = .ok (.dload 5, 2) := by decide +kernel
theorem dL_law_1560 : decode cL_law 1560 = .ok (.dload 7, 2) := by decide +kernel
theorem dL_law_1562 : decode cL_law 1562 = .ok (.dcmp .l, 1) := by decide +kernel
theorem dL_law_1563 : decode cL_law 1563 = .ok (.ifCond .eq 21, 3) := by decide +kernel
theorem dL_law_1566 : decode cL_law 1566 = .ok (.dload 5, 2) := by decide +kernel
theorem dL_law_1568 : decode cL_law 1568 = .ok (.dload 5, 2) := by decide +kernel
theorem dL_law_1570 : decode cL_law 1570 = .ok (.dcmp .l, 1) := by decide +kernel
theorem dL_law_1571 : decode cL_law 1571 = .ok (.ifCond .eq 11, 3) := by decide +kernel
theorem dL_law_1574 : decode cL_law 1574 = .ok (.dload 7, 2) := by decide +kernel
theorem dL_law_1576 : decode cL_law 1576 = .ok (.dload 7, 2) := by decide +kernel
theorem dL_law_1578 : decode cL_law 1578 = .ok (.dcmp .l, 1) := by decide +kernel
theorem dL_law_1579 : decode cL_law 1579 = .ok (.ifCond .ne 5, 3) := by decide +kernel
theorem dL_law_1582 : decode cL_law 1582 = .ok (.iconst 0, 1) := by decide +kernel
theorem dL_law_1583 : decode cL_law 1583 = .ok (.ireturn, 1) := by decide +kernel
theorem dL_law_1584 : decode cL_law 1584 = .ok (.goto 227, 3) := by decide +kernel
theorem dL_law_1587 : decode cL_law 1587 = .ok (.aload_n 1, 1) := by decide +kernel
theorem dL_law_1588 : decode cL_law 1588 = .ok (.aload_n 0, 1) := by decide +kernel
theorem dL_law_1589 : decode cL_law 1589 = .ok (.iload 4, 2) := by decide +kernel
theorem dL_law_1591 : decode cL_law 1591 = .ok (.iconst 1, 1) := by decide +kernel
theorem dL_law_1592 : decode cL_law 1592 = .ok (.iadd, 1) := by decide +kernel
theorem dL_law_1593 : decode cL_law 1593 = .ok (.iaload, 1) := by decide +kernel
theorem dL_law_1594 : decode cL_law 1594 = .ok (.aload_n 0, 1) := by decide +kernel
theorem dL_law_1595 : decode cL_law 1595 = .ok (.iload 4, 2) := by decide +kernel
theorem dL_law_1597 : decode cL_law 1597 = .ok (.iconst 2, 1) := by decide +kernel
theorem dL_law_1598 : decode cL_law 1598 = .ok (.iadd, 1) := by decide +kernel
theorem dL_law_1599 : decode cL_law 1599 = .ok (.iaload, 1) := by decide +kernel
theorem dL_law_1600 : decode cL_law 1600 = .ok (.aload_n 0, 1) := by decide +kernel
theorem dL_law_1601 : decode cL_law 1601 = .ok (.iload 4, 2) := by decide +kernel
theorem dL_law_1603 : decode cL_law 1603 = .ok (.iconst 3, 1) := by decide +kernel
theorem dL_law_1604 : decode cL_law 1604 = .ok (.iadd, 1) := by decide +kernel
theorem dL_law_1605 : decode cL_law 1605 = .ok (.iaload, 1) := by decide +kernel
theorem dL_law_1606 : decode cL_law 1606 = .ok (.aload_n 0, 1) := by decide +kernel
theorem dL_law_1607 : decode cL_law 1607 = .ok (.iload 4, 2) := by decide +kernel
theorem dL_law_1609 : decode cL_law 1609 = .ok (.iconst 4, 1) := by decide +kernel
theorem dL_law_1610 : decode cL_law 1610 = .ok (.iadd, 1) := by decide +kernel
theorem dL_law_1611 : decode cL_law 1611 = .ok (.iaload, 1) := by decide +kernel
theorem dL_law_1612 : decode cL_law 1612 = .ok (.aload_n 3, 1) := by decide +kernel
theorem dL_law_1613 : decode cL_law 1613 = .ok (.invokestatic 170, 3) := by decide +kernel
theorem dL_law_1616 : decode cL_law 1616 = .ok (.istore 5, 2) := by decide +kernel
theorem dL_law_1618 : decode cL_law 1618 = .ok (.aload_n 2, 1) := by decide +kernel
theorem dL_law_1619 : decode cL_law 1619 = .ok (.aload_n 0, 1) := by decide +kernel
theorem dL_law_1620 : decode cL_law 1620 = .ok (.iload 4, 2) := by decide +kernel
theorem dL_law_1622 : decode cL_law 1622 = .ok (.iconst 1, 1) := by decide +kernel
theorem dL_law_1623 : decode cL_law 1623 = .ok (.iadd, 1) := by decide +kernel
theorem dL_law_1624 : decode cL_law 1624 = .ok (.iaload, 1) := by decide +kernel
theorem dL_law_1625 : decode cL_law 1625 = .ok (.aload_n 0, 1) := by decide +kernel
theorem dL_law_1626 : decode cL_law 1626 = .ok (.iload 4, 2) := by decide +kernel
theorem dL_law_1628 : decode cL_law 1628 = .ok (.iconst 2, 1) := by decide +kernel
theorem dL_law_1629 : decode cL_law 1629 = .ok (.iadd, 1) := by decide +kernel
theorem dL_law_1630 : decode cL_law 1630 = .ok (.iaload, 1) := by decide +kernel
theorem dL_law_1631 : decode cL_law 1631 = .ok (.aload_n 0, 1) := by decide +kernel
theorem dL_law_1632 : decode cL_law 1632 = .ok (.iload 4, 2) := by decide +kernel
theorem dL_law_1634 : decode cL_law 1634 = .ok (.iconst 3, 1) := by decide +kernel
theorem dL_law_1635 : decode cL_law 1635 = .ok (.iadd, 1) := by decide +kernel
theorem dL_law_1636 : decode cL_law 1636 = .ok (.iaload, 1) := by decide +kernel
theorem dL_law_1637 : decode cL_law 1637 = .ok (.aload_n 0, 1) := by decide +kernel
theorem dL_law_1638 : decode cL_law 1638 = .ok (.iload 4, 2) := by decide +kernel
theorem dL_law_1640 : decode cL_law 1640 = .ok (.iconst 4, 1) := by decide +kernel
theorem dL_law_1641 : decode cL_law 1641 = .ok (.iadd, 1) := by decide +kernel
theorem dL_law_1642 : decode cL_law 1642 = .ok (.iaload, 1) := by decide +kernel
theorem dL_law_1643 : decode cL_law 1643 = .ok (.invokevirtual 173, 3) := by decide +kernel
theorem dL_law_1646 : decode cL_law 1646 = .ok (.istore 6, 2) := by decide +kernel
theorem dL_law_1648 : decode cL_law 1648 = .ok (.aload_n 2, 1) := by decide +kernel
theorem dL_law_1649 : decode cL_law 1649 = .ok (.invokevirtual 99, 3) := by decide +kernel
theorem dL_law_1652 : decode cL_law 1652 = .ok (.iload 5, 2) := by decide +kernel
theorem dL_law_1654 : decode cL_law 1654 = .ok (.if_icmp .eq 5, 3) := by decide +kernel
theorem dL_law_1657 : decode cL_law 1657 = .ok (.iconst 0, 1) := by decide +kernel
theorem dL_law_1658 : decode cL_law 1658 = .ok (.ireturn, 1) := by decide +kernel
theorem dL_law_1659 : decode cL_law 1659 = .ok (.iload 5, 2) := by decide +kernel
theorem dL_law_1661 : decode cL_law 1661 = .ok (.ifCond .ne 15, 3) := by decide +kernel
theorem dL_law_1664 : decode cL_law 1664 = .ok (.aload_n 3, 1) := by decide +kernel
theorem dL_law_1665 : decode cL_law 1665 = .ok (.iconst 0, 1) := by decide +kernel
theorem dL_law_1666 : decode cL_law 1666 = .ok (.laload, 1) := by decide +kernel
theorem dL_law_1667 : decode cL_law 1667 = .ok (.iload 6, 2) := by decide +kernel
theorem dL_law_1669 : decode cL_law 1669 = .ok (.i2l, 1) := by decide +kernel
theorem dL_law_1670 : decode cL_law 1670 = .ok (.lcmp, 1) := by decide +kernel
theorem dL_law_1671 : decode cL_law 1671 = .ok (.ifCond .eq 5, 3) := by decide +kernel
theorem dL_law_1674 : decode cL_law 1674 = .ok (.iconst 0, 1) := by decide +kernel
theorem dL_law_1675 : decode cL_law 1675 = .ok (.ireturn, 1) := by decide +kernel
theorem dL_law_1676 : decode cL_law 1676 = .ok (.goto 135, 3) := by decide +kernel
theorem dL_law_1679 : decode cL_law 1679 = .ok (.aload_n 1, 1) := by decide +kernel
theorem dL_law_1680 : decode cL_law 1680 = .ok (.aload_n 0, 1) := by decide +kernel
theorem dL_law_1681 : decode cL_law 1681 = .ok (.iload 4, 2) := by decide +kernel
theorem dL_law_1683 : decode cL_law 1683 = .ok (.iconst 1, 1) := by decide +kernel
theorem dL_law_1684 : decode cL_law 1684 = .ok (.iadd, 1) := by decide +kernel
theorem dL_law_1685 : decode cL_law 1685 = .ok (.iaload, 1) := by decide +kernel
theorem dL_law_1686 : decode cL_law 1686 = .ok (.aload_n 0, 1) := by decide +kernel
theorem dL_law_1687 : decode cL_law 1687 = .ok (.iload 4, 2) := by decide +kernel
theorem dL_law_1689 : decode cL_law 1689 = .ok (.iconst 2, 1) := by decide +kernel
theorem dL_law_1690 : decode cL_law 1690 = .ok (.iadd, 1) := by decide +kernel
theorem dL_law_1691 : decode cL_law 1691 = .ok (.iaload, 1) := by decide +kernel
theorem dL_law_1692 : decode cL_law 1692 = .ok (.aload_n 0, 1) := by decide +kernel
theorem dL_law_1693 : decode cL_law 1693 = .ok (.iload 4, 2) := by decide +kernel
theorem dL_law_1695 : decode cL_law 1695 = .ok (.iconst 3, 1) := by decide +kernel
theorem dL_law_1696 : decode cL_law 1696 = .ok (.iadd, 1) := by decide +kernel
theorem dL_law_1697 : decode cL_law 1697 = .ok (.iaload, 1) := by decide +kernel
theorem dL_law_1698 : decode cL_law 1698 = .ok (.aload_n 0, 1) := by decide +kernel
theorem dL_law_1699 : decode cL_law 1699 = .ok (.iload 4, 2) := by decide +kernel
theorem dL_law_1701 : decode cL_law 1701 = .ok (.iconst 4, 1) := by decide +kernel
theorem dL_law_1702 : decode cL_law 1702 = .ok (.iadd, 1) := by decide +kernel
theorem dL_law_1703 : decode cL_law 1703 = .ok (.iaload, 1) := by decide +kernel
theorem dL_law_1704 : decode cL_law 1704 = .ok (.aload_n 3, 1) := by decide +kernel
theorem dL_law_1705 : decode cL_law 1705 = .ok (.invokestatic 174, 3) := by decide +kernel
theorem dL_law_1708 : decode cL_law 1708 = .ok (.istore 5, 2) := by decide +kernel
theorem dL_law_1710 : decode cL_law 1710 = .ok (.aload_n 2, 1) := by decide +kernel
theorem dL_law_1711 : decode cL_law 1711 = .ok (.aload_n 0, 1) := by decide +kernel
theorem dL_law_1712 : decode cL_law 1712 = .ok (.iload 4, 2) := by decide +kernel
theorem dL_law_1714 : decode cL_law 1714 = .ok (.iconst 1, 1) := by decide +kernel
theorem dL_law_1715 : decode cL_law 1715 = .ok (.iadd, 1) := by decide +kernel
theorem dL_law_1716 : decode cL_law 1716 = .ok (.iaload, 1) := by decide +kernel
theorem dL_law_1717 : decode cL_law 1717 = .ok (.aload_n 0, 1) := by decide +kernel
theorem dL_law_1718 : decode cL_law 1718 = .ok (.iload 4, 2) := by decide +kernel
theorem dL_law_1720 : decode cL_law 1720 = .ok (.iconst 2, 1) := by decide +kernel
theorem dL_law_1721 : decode cL_law 1721 = .ok (.iadd, 1) := by decide +kernel
theorem dL_law_1722 : decode cL_law 1722 = .ok (.iaload, 1) := by decide +kernel
theorem dL_law_1723 : decode cL_law 1723 = .ok (.aload_n 0, 1) := by decide +kernel
theorem dL_law_1724 : decode cL_law 1724 = .ok (.iload 4, 2) := by decide +kernel
theorem dL_law_1726 : decode cL_law 1726 = .ok (.iconst 3, 1) := by decide +kernel
theorem dL_law_1727 : decode cL_law 1727 = .ok (.iadd, 1) := by decide +kernel
theorem dL_law_1728 : decode cL_law 1728 = .ok (.iaload, 1) := by decide +kernel
theorem dL_law_1729 : decode cL_law 1729 = .ok (.aload_n 0, 1) := by decide +kernel
theorem dL_law_1730 : decode cL_law 1730 = .ok (.iload 4, 2) := by decide +kernel
theorem dL_law_1732 : decode cL_law 1732 = .ok (.iconst 4, 1) := by decide +kernel
theorem dL_law_1733 : decode cL_law 1733 = .ok (.iadd, 1) := by decide +kernel
theorem dL_law_1734 : decode cL_law 1734 = .ok (.iaload, 1) := by decide +kernel
theorem dL_law_1735 : decode cL_law 1735 = .ok (.invokevirtual 176, 3) := by decide +kernel
theorem dL_law_1738 : decode cL_law 1738 = .ok (.istore 6, 2) := by decide +kernel
theorem dL_law_1740 : decode cL_law 1740 = .ok (.aload_n 2, 1) := by decide +kernel
theorem dL_law_1741 : decode cL_law 1741 = .ok (.invokevirtual 99, 3) := by decide +kernel
theorem dL_law_1744 : decode cL_law 1744 = .ok (.iload 5, 2) := by decide +kernel
theorem dL_law_1746 : decode cL_law 1746 = .ok (.if_icmp .eq 5, 3) := by decide +kernel
theorem dL_law_1749 : decode cL_law 1749 = .ok (.iconst 0, 1) := by decide +kernel
theorem dL_law_1750 : decode cL_law 1750 = .ok (.ireturn, 1) := by decide +kernel
theorem dL_law_1751 : decode cL_law 1751 = .ok (.iload 5, 2) := by decide +kernel
theorem dL_law_1753 : decode cL_law 1753 = .ok (.ifCond .ne 15, 3) := by decide +kernel
theorem dL_law_1756 : decode cL_law 1756 = .ok (.aload_n 3, 1) := by decide +kernel
theorem dL_law_1757 : decode cL_law 1757 = .ok (.iconst 0, 1) := by decide +kernel
theorem dL_law_1758 : decode cL_law 1758 = .ok (.laload, 1) := by decide +kernel
theorem dL_law_1759 : decode cL_law 1759 = .ok (.iload 6, 2) := by decide +kernel
theorem dL_law_1761 : decode cL_law 1761 = .ok (.i2l, 1) := by decide +kernel
theorem dL_law_1762 : decode cL_law 1762 = .ok (.lcmp, 1) := by decide +kernel
theorem dL_law_1763 : decode cL_law 1763 = .ok (.ifCond .eq 5, 3) := by decide +kernel
theorem dL_law_1766 : decode cL_law 1766 = .ok (.iconst 0, 1) := by decide +kernel
theorem dL_law_1767 : decode cL_law 1767 = .ok (.ireturn, 1) := by decide +kernel
theorem dL_law_1768 : decode cL_law 1768 = .ok (.goto 43, 3) := by decide +kernel
theorem dL_law_1771 : decode cL_law 1771 = .ok (.aload_n 1, 1) := by decide +kernel
theorem dL_law_1772 : decode cL_law 1772 = .ok (.invokevirtual 177, 3) := by decide +kernel
theorem dL_law_1775 : decode cL_law 1775 = .ok (.aload_n 2, 1) := by decide +kernel
theorem dL_law_1776 : decode cL_law 1776 = .ok (.invokevirtual 180, 3) := by decide +kernel
theorem dL_law_1779 : decode cL_law 1779 = .ok (.if_icmp .eq 32, 3) := by decide +kernel
theorem dL_law_1782 : decode cL_law 1782 = .ok (.iconst 0, 1) := by decide +kernel
theorem dL_law_1783 : decode cL_law 1783 = .ok (.ireturn, 1) := by decide +kernel
theorem dL_law_1784 : decode cL_law 1784 = .ok (.aload_n 1, 1) := by decide +kernel
theorem dL_law_1785 : decode cL_law 1785 = .ok (.invokevirtual 181, 3) := by decide +kernel
theorem dL_law_1788 : decode cL_law 1788 = .ok (.aload_n 2, 1) := by decide +kernel
theorem dL_law_1789 : decode cL_law 1789 = .ok (.invokevirtual 184, 3) := by decide +kernel
theorem dL_law_1792 : decode cL_law 1792 = .ok (.if_icmp .eq 19, 3) := by decide +kernel
theorem dL_law_1795 : decode cL_law 1795 = .ok (.iconst 0, 1) := by decide +kernel
theorem dL_law_1796 : decode cL_law 1796 = .ok (.ireturn, 1) := by decide +kernel
theorem dL_law_1797 : decode cL_law 1797 = .ok (.aload_n 1, 1) := by decide +kernel
theorem dL_law_1798 : decode cL_law 1798 = .ok (.invokevirtual 185, 3) := by decide +kernel
theorem dL_law_1801 : decode cL_law 1801 = .ok (.aload_n 2, 1) := by decide +kernel
theorem dL_law_1802 : decode cL_law 1802 = .ok (.invokevirtual 189, 3) := by decide +kernel
theorem dL_law_1805 : decode cL_law 1805 = .ok (.lcmp, 1) := by decide +kernel
theorem dL_law_1806 : decode cL_law 1806 = .ok (.ifCond .eq 5, 3) := by decide +kernel
theorem dL_law_1809 : decode cL_law 1809 = .ok (.iconst 0, 1) := by decide +kernel
theorem dL_law_1810 : decode cL_law 1810 = .ok (.ireturn, 1) := by decide +kernel
theorem dL_law_1811 : decode cL_law 1811 = .ok (.iinc 4 7, 3) := by decide +kernel
theorem dL_law_1814 : decode cL_law 1814 = .ok (.goto (-1791), 3) := by decide +kernel
theorem dL_law_1817 : decode cL_law 1817 = .ok (.iconst 1, 1) := by decide +kernel
theorem dL_law_1818 : decode cL_law 1818 = .ok (.ireturn, 1) := by decide +kernel
end
