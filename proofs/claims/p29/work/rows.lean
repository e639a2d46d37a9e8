section
-- ===== PART A: goes FIRST, ahead of the names: the tables' words, and 'selects' of the private methods out of them =====
/-- a private method of a class that the tables say can be made, by its rows of tables_1 -/
def lw_okq (q : MethodName × Nat) : Prop := (q.1.cls ≠ "java/lang/invoke/MethodHandle" ∧ q.1.cls ≠ "java/lang/invoke/VarHandle") ∧ Cond.instantiable q.1.cls q.2 ∈ tables_1 ∧ Cond.privateMethod q.1 ∈ tables_1 ∧ Cond.instanceMethod q.1 ∈ tables_1
theorem lw_p0 : lw_okq (⟨"java/lang/Throwable", "fillInStackTrace", "(I)Ljava/lang/Throwable;"⟩, 6) := ⟨⟨by decide +kernel, by decide +kernel⟩, List.mem_of_getElem? (i := 339) (by decide +kernel), List.mem_of_getElem? (i := 337) (by decide +kernel), List.mem_of_getElem? (i := 338) (by decide +kernel)⟩
theorem lw_p1 : lw_okq (⟨"Pistekeeper", "requireLift", "(I)V"⟩, 4) := ⟨⟨by decide +kernel, by decide +kernel⟩, List.mem_of_getElem? (i := 18) (by decide +kernel), List.mem_of_getElem? (i := 389) (by decide +kernel), List.mem_of_getElem? (i := 390) (by decide +kernel)⟩
theorem lw_p2 : lw_okq (⟨"Pistekeeper", "requireRun", "(I)V"⟩, 4) := ⟨⟨by decide +kernel, by decide +kernel⟩, List.mem_of_getElem? (i := 18) (by decide +kernel), List.mem_of_getElem? (i := 418) (by decide +kernel), List.mem_of_getElem? (i := 419) (by decide +kernel)⟩
theorem lw_p3 : lw_okq (⟨"Pistekeeper", "requireClosed", "(I)V"⟩, 4) := ⟨⟨by decide +kernel, by decide +kernel⟩, List.mem_of_getElem? (i := 18) (by decide +kernel), List.mem_of_getElem? (i := 438) (by decide +kernel), List.mem_of_getElem? (i := 439) (by decide +kernel)⟩
theorem lw_p4 : lw_okq (⟨"Pistekeeper", "digestLayers", "(JI)J"⟩, 4) := ⟨⟨by decide +kernel, by decide +kernel⟩, List.mem_of_getElem? (i := 18) (by decide +kernel), List.mem_of_getElem? (i := 592) (by decide +kernel), List.mem_of_getElem? (i := 593) (by decide +kernel)⟩
def lw_privs_1 : List (MethodName × Nat) := [(⟨"java/lang/Throwable", "fillInStackTrace", "(I)Ljava/lang/Throwable;"⟩, 6), (⟨"Pistekeeper", "requireLift", "(I)V"⟩, 4), (⟨"Pistekeeper", "requireRun", "(I)V"⟩, 4), (⟨"Pistekeeper", "requireClosed", "(I)V"⟩, 4), (⟨"Pistekeeper", "digestLayers", "(JI)J"⟩, 4)]
theorem lw_r1 : ∀ q ∈ lw_privs_1, lw_okq q := List.forall_mem_cons.mpr ⟨lw_p0, List.forall_mem_cons.mpr ⟨lw_p1, List.forall_mem_cons.mpr ⟨lw_p2, List.forall_mem_cons.mpr ⟨lw_p3, List.forall_mem_cons.mpr ⟨lw_p4, fun _ h => absurd h List.not_mem_nil⟩⟩⟩⟩⟩
def lw_privs : List (MethodName × Nat) := lw_privs_1
def lw_tbl : List Cond := k2_sels lw_privs ++ tables_1
theorem lw_privs_ok : ∀ q ∈ lw_privs, lw_okq q := lw_r1
/-- the streams that the claim lets the run draw from -/
abbrev lw_cs : List Choice := [Jvm.Choice.named "NaN.bits", Jvm.Choice.named "NaN.copy"]
theorem lw_bits : nanBits ∈ lw_cs := by first | decide | exact List.mem_cons_self | simp [lw_cs, nanBits]
def RX0 : String := "Pistekeeper$Lift"
def TX0 : u_T := fun k => match k with
  | 0 => ("Pistekeeper$Lift", "capacity", "I", false)
  | 1 => ("Pistekeeper$Lift", "limit", "I", false)
  | 2 => ("Pistekeeper$Lift", "isOn", "Z", false)
  | 3 => ("Pistekeeper$Lift", "isHeld", "Z", false)
  | _ => ("Pistekeeper$Lift", "rides", "I", false)
def tyX0 : Nat → FieldType := fun k => match k with
  | 0 => .int
  | 1 => .int
  | 2 => .boolean
  | 3 => .boolean
  | _ => .int
abbrev wsX00 : List Cond := u_ws RX0 TX0 5
theorem nmX0 : ∀ a, a < 5 → ∀ b, b < 5 → a ≠ b → (TX0 a).2.1 ≠ (TX0 b).2.1 := by decide +kernel
theorem tyX0_ok : ∀ k, k < 5 → parseFieldDescriptor (TX0 k).2.2.1 = some (tyX0 k) := by decide +kernel
abbrev cX0_init : ByteArray := prog_2_method_1_code
def yX0_init : MethodName := ⟨RX0, "<init>", "()V"⟩
abbrev cX0_become : ByteArray := prog_2_method_2_code
def yX0_become : MethodName := ⟨RX0, "become", "(LPistekeeper$Lift;)V"⟩
abbrev cX0_isMoving : ByteArray := prog_2_method_3_code
def yX0_isMoving : MethodName := ⟨RX0, "isMoving", "()Z"⟩
def RX1 : String := "Pistekeeper$Mountain"
def TX1 : u_T := fun k => match k with
  | 0 => ("Pistekeeper$Mountain", "lifts", "[LPistekeeper$Lift;", true)
  | 1 => ("Pistekeeper$Mountain", "runs", "[LPistekeeper$Run;", true)
  | 2 => ("Pistekeeper$Mountain", "liftCount", "I", false)
  | 3 => ("Pistekeeper$Mountain", "runCount", "I", false)
  | 4 => ("Pistekeeper$Mountain", "now", "I", false)
  | 5 => ("Pistekeeper$Mountain", "latestWind", "I", false)
  | 6 => ("Pistekeeper$Mountain", "water", "I", false)
  | 7 => ("Pistekeeper$Mountain", "charges", "I", false)
  | 8 => ("Pistekeeper$Mountain", "fuel", "I", false)
  | 9 => ("Pistekeeper$Mountain", "skiers", "I", false)
  | 10 => ("Pistekeeper$Mountain", "slides", "I", false)
  | 11 => ("Pistekeeper$Mountain", "reached", "I", false)
  | 12 => ("Pistekeeper$Mountain", "accidents", "I", false)
  | 13 => ("Pistekeeper$Mountain", "calls", "I", false)
  | 14 => ("Pistekeeper$Mountain", "rides", "I", false)
  | _ => ("Pistekeeper$Mountain", "waited", "I", false)
def tyX1 : Nat → FieldType := fun k => match k with
  | 0 => .array (.object "Pistekeeper$Lift")
  | 1 => .array (.object "Pistekeeper$Run")
  | 2 => .int
  | 3 => .int
  | 4 => .int
  | 5 => .int
  | 6 => .int
  | 7 => .int
  | 8 => .int
  | 9 => .int
  | 10 => .int
  | 11 => .int
  | 12 => .int
  | 13 => .int
  | 14 => .int
  | _ => .int
abbrev wsX10 : List Cond := u_ws RX1 TX1 16
theorem nmX1 : ∀ a, a < 16 → ∀ b, b < 16 → a ≠ b → (TX1 a).2.1 ≠ (TX1 b).2.1 := by decide +kernel
theorem tyX1_ok : ∀ k, k < 16 → parseFieldDescriptor (TX1 k).2.2.1 = some (tyX1 k) := by decide +kernel
abbrev cX1_init : ByteArray := prog_3_method_1_code
def yX1_init : MethodName := ⟨RX1, "<init>", "()V"⟩
abbrev cX1_become : ByteArray := prog_3_method_2_code
def yX1_become : MethodName := ⟨RX1, "become", "(LPistekeeper$Mountain;)V"⟩
abbrev cX1_removeGuns : ByteArray := prog_3_method_3_code
def yX1_removeGuns : MethodName := ⟨RX1, "removeGuns", "()V"⟩
abbrev cX1_clock : ByteArray := prog_3_method_4_code
def yX1_clock : MethodName := ⟨RX1, "clock", "()I"⟩
abbrev cX1_openRuns : ByteArray := prog_3_method_5_code
def yX1_openRuns : MethodName := ⟨RX1, "openRuns", "()I"⟩
abbrev cX1_openRunsOf : ByteArray := prog_3_method_6_code
def yX1_openRunsOf : MethodName := ⟨RX1, "openRunsOf", "(I)I"⟩
abbrev cX1_depthByArea : ByteArray := prog_3_method_7_code
def yX1_depthByArea : MethodName := ⟨RX1, "depthByArea", "()I"⟩
abbrev cX1_wholeArea : ByteArray := prog_3_method_8_code
def yX1_wholeArea : MethodName := ⟨RX1, "wholeArea", "()I"⟩
abbrev cX1_isTested : ByteArray := prog_3_method_9_code
def yX1_isTested : MethodName := ⟨RX1, "isTested", "(LPistekeeper$Run;)Z"⟩
abbrev cX1_wouldTell : ByteArray := prog_3_method_10_code
def yX1_wouldTell : MethodName := ⟨RX1, "wouldTell", "(ILPistekeeper$Run;)I"⟩
abbrev cX1_barNow : ByteArray := prog_3_method_11_code
def yX1_barNow : MethodName := ⟨RX1, "barNow", "(LPistekeeper$Run;)I"⟩
abbrev cX1_bar : ByteArray := prog_3_method_12_code
def yX1_bar : MethodName := ⟨RX1, "bar", "(LPistekeeper$Run;ZIZ)I"⟩
abbrev cX1_slideOn : ByteArray := prog_3_method_13_code
def yX1_slideOn : MethodName := ⟨RX1, "slideOn", "(LPistekeeper$Run;)I"⟩
abbrev cX1_passHour : ByteArray := prog_3_method_14_code
def yX1_passHour : MethodName := ⟨RX1, "passHour", "(LPistekeeper$Weather;)V"⟩
abbrev cX1_holdLifts : ByteArray := prog_3_method_15_code
def yX1_holdLifts : MethodName := ⟨RX1, "holdLifts", "(I)V"⟩
abbrev cX1_makeSnow : ByteArray := prog_3_method_16_code
def yX1_makeSnow : MethodName := ⟨RX1, "makeSnow", "(LPistekeeper$Run;I)V"⟩
abbrev cX1_carrySkiers : ByteArray := prog_3_method_17_code
def yX1_carrySkiers : MethodName := ⟨RX1, "carrySkiers", "()V"⟩
abbrev cX1_shareOut : ByteArray := prog_3_method_18_code
def yX1_shareOut : MethodName := ⟨RX1, "shareOut", "(III)V"⟩
abbrev cX1_skiOn : ByteArray := prog_3_method_19_code
def yX1_skiOn : MethodName := ⟨RX1, "skiOn", "(LPistekeeper$Run;I)V"⟩
def RX2 : String := "Pistekeeper$Run"
def TX2 : u_T := fun k => match k with
  | 0 => ("Pistekeeper$Run", "snow", "LPistekeeper$Snow;", true)
  | 1 => ("Pistekeeper$Run", "lift", "I", false)
  | 2 => ("Pistekeeper$Run", "height", "I", false)
  | 3 => ("Pistekeeper$Run", "slope", "I", false)
  | 4 => ("Pistekeeper$Run", "aspect", "I", false)
  | 5 => ("Pistekeeper$Run", "area", "I", false)
  | 6 => ("Pistekeeper$Run", "guns", "I", false)
  | 7 => ("Pistekeeper$Run", "heap", "I", false)
  | 8 => ("Pistekeeper$Run", "used", "I", false)
  | 9 => ("Pistekeeper$Run", "slides", "I", false)
  | 10 => ("Pistekeeper$Run", "duds", "I", false)
  | 11 => ("Pistekeeper$Run", "told", "I", false)
  | 12 => ("Pistekeeper$Run", "testedUntil", "I", false)
  | 13 => ("Pistekeeper$Run", "openSince", "I", false)
  | 14 => ("Pistekeeper$Run", "latestRisk", "I", false)
  | 15 => ("Pistekeeper$Run", "isOpen", "Z", false)
  | 16 => ("Pistekeeper$Run", "isWinched", "Z", false)
  | _ => ("Pistekeeper$Run", "isSwept", "Z", false)
def tyX2 : Nat → FieldType := fun k => match k with
  | 0 => .object "Pistekeeper$Snow"
  | 1 => .int
  | 2 => .int
  | 3 => .int
  | 4 => .int
  | 5 => .int
  | 6 => .int
  | 7 => .int
  | 8 => .int
  | 9 => .int
  | 10 => .int
  | 11 => .int
  | 12 => .int
  | 13 => .int
  | 14 => .int
  | 15 => .boolean
  | 16 => .boolean
  | _ => .boolean
abbrev wsX20 : List Cond := u_ws RX2 TX2 18
theorem nmX2 : ∀ a, a < 18 → ∀ b, b < 18 → a ≠ b → (TX2 a).2.1 ≠ (TX2 b).2.1 := by decide +kernel
theorem tyX2_ok : ∀ k, k < 18 → parseFieldDescriptor (TX2 k).2.2.1 = some (tyX2 k) := by decide +kernel
abbrev cX2_init : ByteArray := prog_4_method_1_code
def yX2_init : MethodName := ⟨RX2, "<init>", "()V"⟩
abbrev cX2_become : ByteArray := prog_4_method_2_code
def yX2_become : MethodName := ⟨RX2, "become", "(LPistekeeper$Run;)V"⟩
abbrev cX2_risk : ByteArray := prog_4_method_3_code
def yX2_risk : MethodName := ⟨RX2, "risk", "()I"⟩
abbrev cX2_shear : ByteArray := prog_4_method_4_code
def yX2_shear : MethodName := ⟨RX2, "shear", "()I"⟩
abbrev cX2_sizeFrom : ByteArray := prog_4_method_5_code
def yX2_sizeFrom : MethodName := ⟨RX2, "sizeFrom", "(I)I"⟩
abbrev cX2_weatherSnow : ByteArray := prog_4_method_6_code
def yX2_weatherSnow : MethodName := ⟨RX2, "weatherSnow", "(LPistekeeper$Weather;II)V"⟩
def RX3 : String := "Pistekeeper$Snow"
def TX3 : u_T := fun k => match k with
  | 0 => ("Pistekeeper$Snow", "depth", "[I", true)
  | 1 => ("Pistekeeper$Snow", "hardness", "[I", true)
  | 2 => ("Pistekeeper$Snow", "kind", "[I", true)
  | 3 => ("Pistekeeper$Snow", "count", "I", false)
  | 4 => ("Pistekeeper$Snow", "isWet", "Z", false)
  | _ => ("Pistekeeper$Snow", "hasSnowed", "Z", false)
def tyX3 : Nat → FieldType := fun k => match k with
  | 0 => .array .int
  | 1 => .array .int
  | 2 => .array .int
  | 3 => .int
  | 4 => .boolean
  | _ => .boolean
abbrev wsX30 : List Cond := u_ws RX3 TX3 6
theorem nmX3 : ∀ a, a < 6 → ∀ b, b < 6 → a ≠ b → (TX3 a).2.1 ≠ (TX3 b).2.1 := by decide +kernel
theorem tyX3_ok : ∀ k, k < 6 → parseFieldDescriptor (TX3 k).2.2.1 = some (tyX3 k) := by decide +kernel
abbrev cX3_init : ByteArray := prog_5_method_1_code
def yX3_init : MethodName := ⟨RX3, "<init>", "()V"⟩
abbrev cX3_become : ByteArray := prog_5_method_2_code
def yX3_become : MethodName := ⟨RX3, "become", "(LPistekeeper$Snow;)V"⟩
abbrev cX3_topIs : ByteArray := prog_5_method_3_code
def yX3_topIs : MethodName := ⟨RX3, "topIs", "(I)Z"⟩
abbrev cX3_wholeDepth : ByteArray := prog_5_method_4_code
def yX3_wholeDepth : MethodName := ⟨RX3, "wholeDepth", "()I"⟩
abbrev cX3_depthFrom : ByteArray := prog_5_method_5_code
def yX3_depthFrom : MethodName := ⟨RX3, "depthFrom", "(I)I"⟩
abbrev cX3_thicken : ByteArray := prog_5_method_6_code
def yX3_thicken : MethodName := ⟨RX3, "thicken", "(I)V"⟩
abbrev cX3_thin : ByteArray := prog_5_method_7_code
def yX3_thin : MethodName := ⟨RX3, "thin", "(I)V"⟩
abbrev cX3_melt : ByteArray := prog_5_method_8_code
def yX3_melt : MethodName := ⟨RX3, "melt", "(I)V"⟩
abbrev cX3_lay : ByteArray := prog_5_method_9_code
def yX3_lay : MethodName := ⟨RX3, "lay", "(III)V"⟩
abbrev cX3_joinLowest : ByteArray := prog_5_method_10_code
def yX3_joinLowest : MethodName := ⟨RX3, "joinLowest", "()V"⟩
abbrev cX3_changeTop : ByteArray := prog_5_method_11_code
def yX3_changeTop : MethodName := ⟨RX3, "changeTop", "(II)V"⟩
abbrev cX3_pressTop : ByteArray := prog_5_method_12_code
def yX3_pressTop : MethodName := ⟨RX3, "pressTop", "()I"⟩
abbrev cX3_stress : ByteArray := prog_5_method_13_code
def yX3_stress : MethodName := ⟨RX3, "stress", "(III)I"⟩
abbrev cX3_shear : ByteArray := prog_5_method_14_code
def yX3_shear : MethodName := ⟨RX3, "shear", "(I)I"⟩
abbrev cX3_risk : ByteArray := prog_5_method_15_code
def yX3_risk : MethodName := ⟨RX3, "risk", "(I)I"⟩
abbrev cX3_dropFrom : ByteArray := prog_5_method_16_code
def yX3_dropFrom : MethodName := ⟨RX3, "dropFrom", "(I)V"⟩
abbrev cX3_comeDown : ByteArray := prog_5_method_17_code
def yX3_comeDown : MethodName := ⟨RX3, "comeDown", "(II)V"⟩
abbrev cX3_drift : ByteArray := prog_5_method_18_code
def yX3_drift : MethodName := ⟨RX3, "drift", "(IZZ)V"⟩
abbrev cX3_freeze : ByteArray := prog_5_method_19_code
def yX3_freeze : MethodName := ⟨RX3, "freeze", "()V"⟩
abbrev cX3_growWeak : ByteArray := prog_5_method_20_code
def yX3_growWeak : MethodName := ⟨RX3, "growWeak", "()V"⟩
abbrev cX3_settle : ByteArray := prog_5_method_21_code
def yX3_settle : MethodName := ⟨RX3, "settle", "(Z)V"⟩
def RX4 : String := "Pistekeeper$Weather"
def TX4 : u_T := fun k => match k with
  | 0 => ("Pistekeeper$Weather", "warmth", "I", false)
  | 1 => ("Pistekeeper$Weather", "fall", "I", false)
  | 2 => ("Pistekeeper$Weather", "wind", "I", false)
  | 3 => ("Pistekeeper$Weather", "from", "I", false)
  | _ => ("Pistekeeper$Weather", "humid", "I", false)
def tyX4 : Nat → FieldType := fun k => match k with
  | 0 => .int
  | 1 => .int
  | 2 => .int
  | 3 => .int
  | _ => .int
abbrev wsX40 : List Cond := u_ws RX4 TX4 5
theorem nmX4 : ∀ a, a < 5 → ∀ b, b < 5 → a ≠ b → (TX4 a).2.1 ≠ (TX4 b).2.1 := by decide +kernel
theorem tyX4_ok : ∀ k, k < 5 → parseFieldDescriptor (TX4 k).2.2.1 = some (tyX4 k) := by decide +kernel
abbrev cX4_init : ByteArray := prog_6_method_1_code
def yX4_init : MethodName := ⟨RX4, "<init>", "()V"⟩
abbrev cX4_tell : ByteArray := prog_6_method_2_code
def yX4_tell : MethodName := ⟨RX4, "tell", "(IIIII)V"⟩
def RX5 : String := "Pistekeeper"
def TX5 : u_T := fun k => match k with
  | 0 => ("Pistekeeper", "mountain", "LPistekeeper$Mountain;", true)
  | 1 => ("Pistekeeper", "trial", "LPistekeeper$Mountain;", true)
  | 2 => ("Pistekeeper", "bare", "LPistekeeper$Mountain;", true)
  | _ => ("Pistekeeper", "weather", "LPistekeeper$Weather;", true)
def tyX5 : Nat → FieldType := fun k => match k with
  | 0 => .object "Pistekeeper$Mountain"
  | 1 => .object "Pistekeeper$Mountain"
  | 2 => .object "Pistekeeper$Mountain"
  | _ => .object "Pistekeeper$Weather"
abbrev wsX50 : List Cond := u_ws RX5 TX5 4
theorem nmX5 : ∀ a, a < 4 → ∀ b, b < 4 → a ≠ b → (TX5 a).2.1 ≠ (TX5 b).2.1 := by decide +kernel
theorem tyX5_ok : ∀ k, k < 4 → parseFieldDescriptor (TX5 k).2.2.1 = some (tyX5 k) := by decide +kernel
abbrev cX5_init : ByteArray := prog_1_method_1_code
def yX5_init : MethodName := ⟨RX5, "<init>", "()V"⟩
abbrev cX5_lift : ByteArray := prog_1_method_2_code
def yX5_lift : MethodName := ⟨RX5, "lift", "(II)I"⟩
abbrev cX5_run : ByteArray := prog_1_method_3_code
def yX5_run : MethodName := ⟨RX5, "run", "(IIIII)I"⟩
abbrev cX5_turn : ByteArray := prog_1_method_4_code
def yX5_turn : MethodName := ⟨RX5, "turn", "(IZ)Z"⟩
abbrev cX5_guns : ByteArray := prog_1_method_6_code
def yX5_guns : MethodName := ⟨RX5, "guns", "(II)I"⟩
abbrev cX5_fill : ByteArray := prog_1_method_7_code
def yX5_fill : MethodName := ⟨RX5, "fill", "(I)I"⟩
abbrev cX5_crowd : ByteArray := prog_1_method_8_code
def yX5_crowd : MethodName := ⟨RX5, "crowd", "(I)I"⟩
abbrev cX5_pass : ByteArray := prog_1_method_9_code
def yX5_pass : MethodName := ⟨RX5, "pass", "(IIIIII)I"⟩
abbrev cX5_blast : ByteArray := prog_1_method_10_code
def yX5_blast : MethodName := ⟨RX5, "blast", "(I)I"⟩
abbrev cX5_search : ByteArray := prog_1_method_11_code
def yX5_search : MethodName := ⟨RX5, "search", "(I)I"⟩
abbrev cX5_test : ByteArray := prog_1_method_12_code
def yX5_test : MethodName := ⟨RX5, "test", "(I)I"⟩
abbrev cX5_sweep : ByteArray := prog_1_method_13_code
def yX5_sweep : MethodName := ⟨RX5, "sweep", "(I)Z"⟩
abbrev cX5_groom : ByteArray := prog_1_method_15_code
def yX5_groom : MethodName := ⟨RX5, "groom", "(I)I"⟩
abbrev cX5_open : ByteArray := prog_1_method_16_code
def yX5_open : MethodName := ⟨RX5, "open", "(I)I"⟩
abbrev cX5_close : ByteArray := prog_1_method_17_code
def yX5_close : MethodName := ⟨RX5, "close", "(I)I"⟩
abbrev cX5_ofRun : ByteArray := prog_1_method_18_code
def yX5_ofRun : MethodName := ⟨RX5, "ofRun", "(II)I"⟩
abbrev cX5_ofLayer : ByteArray := prog_1_method_19_code
def yX5_ofLayer : MethodName := ⟨RX5, "ofLayer", "(III)I"⟩
abbrev cX5_ofLift : ByteArray := prog_1_method_20_code
def yX5_ofLift : MethodName := ⟨RX5, "ofLift", "(II)I"⟩
abbrev cX5_many : ByteArray := prog_1_method_21_code
def yX5_many : MethodName := ⟨RX5, "many", "(I)I"⟩
abbrev cX5_meanDepth : ByteArray := prog_1_method_22_code
def yX5_meanDepth : MethodName := ⟨RX5, "meanDepth", "()D"⟩
abbrev cX5_wouldRisk : ByteArray := prog_1_method_23_code
def yX5_wouldRisk : MethodName := ⟨RX5, "wouldRisk", "(IIII)I"⟩
abbrev cX5_wouldMake : ByteArray := prog_1_method_24_code
def yX5_wouldMake : MethodName := ⟨RX5, "wouldMake", "(IIII)I"⟩
abbrev cX5_nextBlast : ByteArray := prog_1_method_25_code
def yX5_nextBlast : MethodName := ⟨RX5, "nextBlast", "()I"⟩
abbrev cX5_couldOpen : ByteArray := prog_1_method_26_code
def yX5_couldOpen : MethodName := ⟨RX5, "couldOpen", "()I"⟩
abbrev cX5_digest : ByteArray := prog_1_method_27_code
def yX5_digest : MethodName := ⟨RX5, "digest", "()J"⟩
abbrev cX5_digestLayers : ByteArray := prog_1_method_28_code
def yX5_digestLayers : MethodName := ⟨RX5, "digestLayers", "(JI)J"⟩
abbrev cX5_oneIf : ByteArray := prog_1_method_29_code
def yX5_oneIf : MethodName := ⟨RX5, "oneIf", "(Z)I"⟩
abbrev cX5_requireWithin : ByteArray := prog_1_method_30_code
def yX5_requireWithin : MethodName := ⟨RX5, "requireWithin", "(III)V"⟩
abbrev cX5_requireLift : ByteArray := prog_1_method_31_code
def yX5_requireLift : MethodName := ⟨RX5, "requireLift", "(I)V"⟩
abbrev cX5_requireRun : ByteArray := prog_1_method_32_code
def yX5_requireRun : MethodName := ⟨RX5, "requireRun", "(I)V"⟩
abbrev cX5_requireClosed : ByteArray := prog_1_method_33_code
def yX5_requireClosed : MethodName := ⟨RX5, "requireClosed", "(I)V"⟩
def RX6 : String := "PistekeeperModel$Mountain"
def TX6 : u_T := fun k => match k with
  | _ => ("", "", "", false)
def tyX6 : Nat → FieldType := fun k => match k with
  | _ => .int
abbrev wsX60 : List Cond := u_ws RX6 TX6 0
theorem nmX6 : ∀ a, a < 0 → ∀ b, b < 0 → a ≠ b → (TX6 a).2.1 ≠ (TX6 b).2.1 := by decide +kernel
theorem tyX6_ok : ∀ k, k < 0 → parseFieldDescriptor (TX6 k).2.2.1 = some (tyX6 k) := by decide +kernel
def RX7 : String := "PistekeeperModel"
def TX7 : u_T := fun k => match k with
  | _ => ("", "", "", false)
def tyX7 : Nat → FieldType := fun k => match k with
  | _ => .int
abbrev wsX70 : List Cond := u_ws RX7 TX7 0
theorem nmX7 : ∀ a, a < 0 → ∀ b, b < 0 → a ≠ b → (TX7 a).2.1 ≠ (TX7 b).2.1 := by decide +kernel
theorem tyX7_ok : ∀ k, k < 0 → parseFieldDescriptor (TX7 k).2.2.1 = some (tyX7 k) := by decide +kernel
def RJx145de : String := "java/io/Serializable"
def RJxb160c : String := "java/lang/Comparable"
def RJxe99ae : String := "java/lang/Double"
def RJ9 : String := "java/lang/Math"
abbrev cJ9_abs_0f7a4 : ByteArray := prog_15_method_59_code
def yJ9_abs_0f7a4 : MethodName := ⟨RJ9, "abs", "(I)I"⟩
abbrev cJ9_abs_294c1 : ByteArray := prog_15_method_64_code
def yJ9_abs_294c1 : MethodName := ⟨RJ9, "abs", "(D)D"⟩
abbrev cJ9_max_7cf53 : ByteArray := prog_15_method_65_code
def yJ9_max_7cf53 : MethodName := ⟨RJ9, "max", "(II)I"⟩
abbrev cJ9_min_7cf53 : ByteArray := prog_15_method_69_code
def yJ9_min_7cf53 : MethodName := ⟨RJ9, "min", "(II)I"⟩
def RJxd2413 : String := "java/lang/Number"
def RJ0 : String := "java/lang/String"
def RJ10 : String := "java/lang/System"
def RJxfd54e : String := "java/lang/constant/Constable"
def RJx3cf43 : String := "java/lang/constant/ConstantDesc"
def RL : String := "PistekeeperLaw"
abbrev cL_below : ByteArray := method_2_code
def yL_below : MethodName := ⟨RL, "below", "(II)I"⟩
abbrev cL_cell : ByteArray := method_3_code
def yL_cell : MethodName := ⟨RL, "cell", "([II)I"⟩
abbrev cL_weather : ByteArray := method_4_code
def yL_weather : MethodName := ⟨RL, "weather", "(I)[I"⟩
abbrev cL_pass : ByteArray := method_5_code
def yL_pass : MethodName := ⟨RL, "pass", "(LPistekeeper;I[I)I"⟩
abbrev cL_law : ByteArray := code
def yL_law : MethodName := ⟨RL, "law", "([I)Z"⟩
abbrev cL_isSo : ByteArray := method_7_code
def yL_isSo : MethodName := ⟨RL, "isSo", "(LPistekeeper;II[I)Z"⟩
abbrev vwCl : List vw_C := [(RX0, TX0, 5), (RX1, TX1, 16), (RX2, TX2, 18), (RX3, TX3, 6), (RX4, TX4, 5), (RX5, TX5, 4)]
end
section
/-! tables: which words stand where, fields and methods by number (by program: gen_names.py) -/
def mj_TW : List Cond := lw_tbl.filter goodWord
theorem mj_in {w : Cond} (i : Nat) (h : tables_1[i]? = some w) (hg : goodWord w = true) : w ∈ mj_TW := List.mem_filter.mpr ⟨List.mem_append_right _ (List.mem_of_getElem? h), hg⟩
theorem mj_ip {w : Cond} (i : Nat) (h : (k2_sels lw_privs)[i]? = some w) (hg : goodWord w = true) : w ∈ mj_TW := List.mem_filter.mpr ⟨List.mem_append_left _ (List.mem_of_getElem? h), hg⟩
theorem mj_TWg : ∀ w ∈ mj_TW, goodWord w = true := fun _ h => (List.mem_filter.mp h).2
def mT_C : Nat → String
  | 0 => RX0
  | 1 => RX1
  | 2 => RX2
  | 3 => RX3
  | 4 => RX4
  | _ => RX5
def mT_T : Nat → u_T
  | 0 => TX0
  | 1 => TX1
  | 2 => TX2
  | 3 => TX3
  | 4 => TX4
  | _ => TX5
def mT_N : Nat → Nat
  | 0 => 5
  | 1 => 16
  | 2 => 18
  | 3 => 6
  | 4 => 5
  | _ => 4
def mT_ty : Nat → Nat → FieldType
  | 0 => tyX0
  | 1 => tyX1
  | 2 => tyX2
  | 3 => tyX3
  | 4 => tyX4
  | _ => tyX5
def mj_isR (ty : FieldType) : Bool := match ty with
  | .int => false
  | .boolean => false
  | _ => true
abbrev mT_R (ci k : Nat) : Bool := mj_isR (mT_ty ci k)
theorem mT_at : ∀ ci, ci < 6 → vwCl[ci]? = some (mT_C ci, mT_T ci, mT_N ci)
  | 0, _ => rfl
  | 1, _ => rfl
  | 2, _ => rfl
  | 3, _ => rfl
  | 4, _ => rfl
  | 5, _ => rfl
  | n + 6, h => absurd h (by omega)
theorem mT_nm : ∀ ci, ci < 6 → ∀ a, a < mT_N ci → ∀ b, b < mT_N ci → a ≠ b → (mT_T ci a).2.1 ≠ (mT_T ci b).2.1
  | 0, _ => nmX0
  | 1, _ => nmX1
  | 2, _ => nmX2
  | 3, _ => nmX3
  | 4, _ => nmX4
  | 5, _ => nmX5
  | n + 6, h => absurd h (by omega)
theorem mT_tyok : ∀ ci, ci < 6 → ∀ k, k < mT_N ci → parseFieldDescriptor (mT_T ci k).2.2.1 = some (mT_ty ci k)
  | 0, _ => tyX0_ok
  | 1, _ => tyX1_ok
  | 2, _ => tyX2_ok
  | 3, _ => tyX3_ok
  | 4, _ => tyX4_ok
  | 5, _ => tyX5_ok
  | n + 6, h => absurd h (by omega)
theorem mT_in0 : ∀ w ∈ u_ws RX0 TX0 5, w ∈ mj_TW := by
  intro w hw
  obtain ⟨k, hk, rfl⟩ := List.mem_map.mp hw
  have hk := List.mem_range.mp hk
  match k, hk with
  | 0, _ => exact mj_in 52 (by decide +kernel) rfl
  | 1, _ => exact mj_in 54 (by decide +kernel) rfl
  | 2, _ => exact mj_in 56 (by decide +kernel) rfl
  | 3, _ => exact mj_in 58 (by decide +kernel) rfl
  | 4, _ => exact mj_in 60 (by decide +kernel) rfl
  | n + 5, h => exact absurd h (by omega)
theorem mT_in1 : ∀ w ∈ u_ws RX1 TX1 16, w ∈ mj_TW := by
  intro w hw
  obtain ⟨k, hk, rfl⟩ := List.mem_map.mp hw
  have hk := List.mem_range.mp hk
  match k, hk with
  | 0, _ => exact mj_in 219 (by decide +kernel) rfl
  | 1, _ => exact mj_in 221 (by decide +kernel) rfl
  | 2, _ => exact mj_in 223 (by decide +kernel) rfl
  | 3, _ => exact mj_in 225 (by decide +kernel) rfl
  | 4, _ => exact mj_in 227 (by decide +kernel) rfl
  | 5, _ => exact mj_in 229 (by decide +kernel) rfl
  | 6, _ => exact mj_in 231 (by decide +kernel) rfl
  | 7, _ => exact mj_in 233 (by decide +kernel) rfl
  | 8, _ => exact mj_in 235 (by decide +kernel) rfl
  | 9, _ => exact mj_in 237 (by decide +kernel) rfl
  | 10, _ => exact mj_in 239 (by decide +kernel) rfl
  | 11, _ => exact mj_in 241 (by decide +kernel) rfl
  | 12, _ => exact mj_in 243 (by decide +kernel) rfl
  | 13, _ => exact mj_in 245 (by decide +kernel) rfl
  | 14, _ => exact mj_in 247 (by decide +kernel) rfl
  | 15, _ => exact mj_in 249 (by decide +kernel) rfl
  | n + 16, h => exact absurd h (by omega)
theorem mT_in2 : ∀ w ∈ u_ws RX2 TX2 18, w ∈ mj_TW := by
  intro w hw
  obtain ⟨k, hk, rfl⟩ := List.mem_map.mp hw
  have hk := List.mem_range.mp hk
  match k, hk with
  | 0, _ => exact mj_in 151 (by decide +kernel) rfl
  | 1, _ => exact mj_in 153 (by decide +kernel) rfl
  | 2, _ => exact mj_in 155 (by decide +kernel) rfl
  | 3, _ => exact mj_in 157 (by decide +kernel) rfl
  | 4, _ => exact mj_in 159 (by decide +kernel) rfl
  | 5, _ => exact mj_in 161 (by decide +kernel) rfl
  | 6, _ => exact mj_in 163 (by decide +kernel) rfl
  | 7, _ => exact mj_in 165 (by decide +kernel) rfl
  | 8, _ => exact mj_in 167 (by decide +kernel) rfl
  | 9, _ => exact mj_in 169 (by decide +kernel) rfl
  | 10, _ => exact mj_in 171 (by decide +kernel) rfl
  | 11, _ => exact mj_in 173 (by decide +kernel) rfl
  | 12, _ => exact mj_in 175 (by decide +kernel) rfl
  | 13, _ => exact mj_in 177 (by decide +kernel) rfl
  | 14, _ => exact mj_in 179 (by decide +kernel) rfl
  | 15, _ => exact mj_in 181 (by decide +kernel) rfl
  | 16, _ => exact mj_in 183 (by decide +kernel) rfl
  | 17, _ => exact mj_in 185 (by decide +kernel) rfl
  | n + 18, h => exact absurd h (by omega)
theorem mT_in3 : ∀ w ∈ u_ws RX3 TX3 6, w ∈ mj_TW := by
  intro w hw
  obtain ⟨k, hk, rfl⟩ := List.mem_map.mp hw
  have hk := List.mem_range.mp hk
  match k, hk with
  | 0, _ => exact mj_in 87 (by decide +kernel) rfl
  | 1, _ => exact mj_in 89 (by decide +kernel) rfl
  | 2, _ => exact mj_in 91 (by decide +kernel) rfl
  | 3, _ => exact mj_in 93 (by decide +kernel) rfl
  | 4, _ => exact mj_in 95 (by decide +kernel) rfl
  | 5, _ => exact mj_in 97 (by decide +kernel) rfl
  | n + 6, h => exact absurd h (by omega)
theorem mT_in4 : ∀ w ∈ u_ws RX4 TX4 5, w ∈ mj_TW := by
  intro w hw
  obtain ⟨k, hk, rfl⟩ := List.mem_map.mp hw
  have hk := List.mem_range.mp hk
  match k, hk with
  | 0, _ => exact mj_in 269 (by decide +kernel) rfl
  | 1, _ => exact mj_in 271 (by decide +kernel) rfl
  | 2, _ => exact mj_in 273 (by decide +kernel) rfl
  | 3, _ => exact mj_in 275 (by decide +kernel) rfl
  | 4, _ => exact mj_in 277 (by decide +kernel) rfl
  | n + 5, h => exact absurd h (by omega)
theorem mT_in5 : ∀ w ∈ u_ws RX5 TX5 4, w ∈ mj_TW := by
  intro w hw
  obtain ⟨k, hk, rfl⟩ := List.mem_map.mp hw
  have hk := List.mem_range.mp hk
  match k, hk with
  | 0, _ => exact mj_in 284 (by decide +kernel) rfl
  | 1, _ => exact mj_in 286 (by decide +kernel) rfl
  | 2, _ => exact mj_in 288 (by decide +kernel) rfl
  | 3, _ => exact mj_in 290 (by decide +kernel) rfl
  | n + 4, h => exact absurd h (by omega)
theorem mT_in : ∀ ci, ci < 6 → ∀ w ∈ u_ws (mT_C ci) (mT_T ci) (mT_N ci), w ∈ mj_TW
  | 0, _ => mT_in0
  | 1, _ => mT_in1
  | 2, _ => mT_in2
  | 3, _ => mT_in3
  | 4, _ => mT_in4
  | 5, _ => mT_in5
  | n + 6, h => absurd h (by omega)
/-- a field by its link -/
def mj_okF (own : String) (idx ci sl : Nat) : Prop := ci < 6 ∧ sl < mT_N ci ∧ Cond.fieldLink own idx (mT_T ci sl).1 (mT_T ci sl).2.1 (mT_T ci sl).2.2.1 ∈ mj_TW
theorem fl_X0_7 : mj_okF RX0 7 0 0 := ⟨by decide, by decide, mj_in 38 (by decide +kernel) rfl⟩
theorem fl_X5_48 : mj_okF RX5 48 0 0 := ⟨by decide, by decide, mj_in 39 (by decide +kernel) rfl⟩
theorem fl_X1_214 : mj_okF RX1 214 0 0 := ⟨by decide, by decide, mj_in 40 (by decide +kernel) rfl⟩
theorem fl_X0_13 : mj_okF RX0 13 0 1 := ⟨by decide, by decide, mj_in 41 (by decide +kernel) rfl⟩
theorem fl_X5_53 : mj_okF RX5 53 0 1 := ⟨by decide, by decide, mj_in 42 (by decide +kernel) rfl⟩
theorem fl_X1_188 : mj_okF RX1 188 0 1 := ⟨by decide, by decide, mj_in 43 (by decide +kernel) rfl⟩
theorem fl_X0_16 : mj_okF RX0 16 0 2 := ⟨by decide, by decide, mj_in 44 (by decide +kernel) rfl⟩
theorem fl_X5_86 : mj_okF RX5 86 0 2 := ⟨by decide, by decide, mj_in 45 (by decide +kernel) rfl⟩
theorem fl_X0_20 : mj_okF RX0 20 0 3 := ⟨by decide, by decide, mj_in 46 (by decide +kernel) rfl⟩
theorem fl_X1_191 : mj_okF RX1 191 0 3 := ⟨by decide, by decide, mj_in 47 (by decide +kernel) rfl⟩
theorem fl_X5_95 : mj_okF RX5 95 0 3 := ⟨by decide, by decide, mj_in 48 (by decide +kernel) rfl⟩
theorem fl_X0_23 : mj_okF RX0 23 0 4 := ⟨by decide, by decide, mj_in 49 (by decide +kernel) rfl⟩
theorem fl_X1_217 : mj_okF RX1 217 0 4 := ⟨by decide, by decide, mj_in 50 (by decide +kernel) rfl⟩
theorem fl_X5_241 : mj_okF RX5 241 0 4 := ⟨by decide, by decide, mj_in 51 (by decide +kernel) rfl⟩
theorem fl_X3_9 : mj_okF RX3 9 3 0 := ⟨by decide, by decide, mj_in 76 (by decide +kernel) rfl⟩
theorem fl_X5_231 : mj_okF RX5 231 3 0 := ⟨by decide, by decide, mj_in 77 (by decide +kernel) rfl⟩
theorem fl_X3_15 : mj_okF RX3 15 3 1 := ⟨by decide, by decide, mj_in 78 (by decide +kernel) rfl⟩
theorem fl_X5_235 : mj_okF RX5 235 3 1 := ⟨by decide, by decide, mj_in 79 (by decide +kernel) rfl⟩
theorem fl_X3_18 : mj_okF RX3 18 3 2 := ⟨by decide, by decide, mj_in 80 (by decide +kernel) rfl⟩
theorem fl_X5_238 : mj_okF RX5 238 3 2 := ⟨by decide, by decide, mj_in 81 (by decide +kernel) rfl⟩
theorem fl_X3_27 : mj_okF RX3 27 3 3 := ⟨by decide, by decide, mj_in 82 (by decide +kernel) rfl⟩
theorem fl_X5_176 : mj_okF RX5 176 3 3 := ⟨by decide, by decide, mj_in 83 (by decide +kernel) rfl⟩
theorem fl_X3_31 : mj_okF RX3 31 3 4 := ⟨by decide, by decide, mj_in 84 (by decide +kernel) rfl⟩
theorem fl_X5_205 : mj_okF RX5 205 3 4 := ⟨by decide, by decide, mj_in 85 (by decide +kernel) rfl⟩
theorem fl_X3_35 : mj_okF RX3 35 3 5 := ⟨by decide, by decide, mj_in 86 (by decide +kernel) rfl⟩
theorem fl_X2_12 : mj_okF RX2 12 2 0 := ⟨by decide, by decide, mj_in 101 (by decide +kernel) rfl⟩
theorem fl_X1_89 : mj_okF RX1 89 2 0 := ⟨by decide, by decide, mj_in 102 (by decide +kernel) rfl⟩
theorem fl_X5_169 : mj_okF RX5 169 2 0 := ⟨by decide, by decide, mj_in 103 (by decide +kernel) rfl⟩
theorem fl_X2_26 : mj_okF RX2 26 2 1 := ⟨by decide, by decide, mj_in 104 (by decide +kernel) rfl⟩
theorem fl_X5_69 : mj_okF RX5 69 2 1 := ⟨by decide, by decide, mj_in 105 (by decide +kernel) rfl⟩
theorem fl_X1_86 : mj_okF RX1 86 2 1 := ⟨by decide, by decide, mj_in 106 (by decide +kernel) rfl⟩
theorem fl_X2_29 : mj_okF RX2 29 2 2 := ⟨by decide, by decide, mj_in 107 (by decide +kernel) rfl⟩
theorem fl_X5_74 : mj_okF RX5 74 2 2 := ⟨by decide, by decide, mj_in 108 (by decide +kernel) rfl⟩
theorem fl_X1_158 : mj_okF RX1 158 2 2 := ⟨by decide, by decide, mj_in 109 (by decide +kernel) rfl⟩
theorem fl_X2_32 : mj_okF RX2 32 2 3 := ⟨by decide, by decide, mj_in 110 (by decide +kernel) rfl⟩
theorem fl_X5_77 : mj_okF RX5 77 2 3 := ⟨by decide, by decide, mj_in 111 (by decide +kernel) rfl⟩
theorem fl_X2_35 : mj_okF RX2 35 2 4 := ⟨by decide, by decide, mj_in 112 (by decide +kernel) rfl⟩
theorem fl_X5_80 : mj_okF RX5 80 2 4 := ⟨by decide, by decide, mj_in 113 (by decide +kernel) rfl⟩
theorem fl_X2_38 : mj_okF RX2 38 2 5 := ⟨by decide, by decide, mj_in 114 (by decide +kernel) rfl⟩
theorem fl_X5_83 : mj_okF RX5 83 2 5 := ⟨by decide, by decide, mj_in 115 (by decide +kernel) rfl⟩
theorem fl_X1_99 : mj_okF RX1 99 2 5 := ⟨by decide, by decide, mj_in 116 (by decide +kernel) rfl⟩
theorem fl_X2_41 : mj_okF RX2 41 2 6 := ⟨by decide, by decide, mj_in 117 (by decide +kernel) rfl⟩
theorem fl_X1_75 : mj_okF RX1 75 2 6 := ⟨by decide, by decide, mj_in 118 (by decide +kernel) rfl⟩
theorem fl_X5_101 : mj_okF RX5 101 2 6 := ⟨by decide, by decide, mj_in 119 (by decide +kernel) rfl⟩
theorem fl_X2_44 : mj_okF RX2 44 2 7 := ⟨by decide, by decide, mj_in 120 (by decide +kernel) rfl⟩
theorem fl_X1_197 : mj_okF RX1 197 2 7 := ⟨by decide, by decide, mj_in 121 (by decide +kernel) rfl⟩
theorem fl_X5_219 : mj_okF RX5 219 2 7 := ⟨by decide, by decide, mj_in 122 (by decide +kernel) rfl⟩
theorem fl_X2_47 : mj_okF RX2 47 2 8 := ⟨by decide, by decide, mj_in 123 (by decide +kernel) rfl⟩
theorem fl_X5_222 : mj_okF RX5 222 2 8 := ⟨by decide, by decide, mj_in 124 (by decide +kernel) rfl⟩
theorem fl_X1_224 : mj_okF RX1 224 2 8 := ⟨by decide, by decide, mj_in 125 (by decide +kernel) rfl⟩
theorem fl_X2_50 : mj_okF RX2 50 2 9 := ⟨by decide, by decide, mj_in 126 (by decide +kernel) rfl⟩
theorem fl_X1_149 : mj_okF RX1 149 2 9 := ⟨by decide, by decide, mj_in 127 (by decide +kernel) rfl⟩
theorem fl_X5_225 : mj_okF RX5 225 2 9 := ⟨by decide, by decide, mj_in 128 (by decide +kernel) rfl⟩
theorem fl_X2_53 : mj_okF RX2 53 2 10 := ⟨by decide, by decide, mj_in 129 (by decide +kernel) rfl⟩
theorem fl_X5_140 : mj_okF RX5 140 2 10 := ⟨by decide, by decide, mj_in 130 (by decide +kernel) rfl⟩
theorem fl_X1_132 : mj_okF RX1 132 2 10 := ⟨by decide, by decide, mj_in 131 (by decide +kernel) rfl⟩
theorem fl_X2_56 : mj_okF RX2 56 2 11 := ⟨by decide, by decide, mj_in 132 (by decide +kernel) rfl⟩
theorem fl_X1_118 : mj_okF RX1 118 2 11 := ⟨by decide, by decide, mj_in 133 (by decide +kernel) rfl⟩
theorem fl_X5_157 : mj_okF RX5 157 2 11 := ⟨by decide, by decide, mj_in 134 (by decide +kernel) rfl⟩
theorem fl_X2_18 : mj_okF RX2 18 2 12 := ⟨by decide, by decide, mj_in 135 (by decide +kernel) rfl⟩
theorem fl_X1_102 : mj_okF RX1 102 2 12 := ⟨by decide, by decide, mj_in 136 (by decide +kernel) rfl⟩
theorem fl_X5_160 : mj_okF RX5 160 2 12 := ⟨by decide, by decide, mj_in 137 (by decide +kernel) rfl⟩
theorem fl_X2_59 : mj_okF RX2 59 2 13 := ⟨by decide, by decide, mj_in 138 (by decide +kernel) rfl⟩
theorem fl_X5_197 : mj_okF RX5 197 2 13 := ⟨by decide, by decide, mj_in 139 (by decide +kernel) rfl⟩
theorem fl_X2_62 : mj_okF RX2 62 2 14 := ⟨by decide, by decide, mj_in 140 (by decide +kernel) rfl⟩
theorem fl_X1_175 : mj_okF RX1 175 2 14 := ⟨by decide, by decide, mj_in 141 (by decide +kernel) rfl⟩
theorem fl_X5_274 : mj_okF RX5 274 2 14 := ⟨by decide, by decide, mj_in 142 (by decide +kernel) rfl⟩
theorem fl_X2_65 : mj_okF RX2 65 2 15 := ⟨by decide, by decide, mj_in 143 (by decide +kernel) rfl⟩
theorem fl_X1_78 : mj_okF RX1 78 2 15 := ⟨by decide, by decide, mj_in 144 (by decide +kernel) rfl⟩
theorem fl_X5_194 : mj_okF RX5 194 2 15 := ⟨by decide, by decide, mj_in 145 (by decide +kernel) rfl⟩
theorem fl_X2_69 : mj_okF RX2 69 2 16 := ⟨by decide, by decide, mj_in 146 (by decide +kernel) rfl⟩
theorem fl_X1_135 : mj_okF RX1 135 2 16 := ⟨by decide, by decide, mj_in 147 (by decide +kernel) rfl⟩
theorem fl_X2_72 : mj_okF RX2 72 2 17 := ⟨by decide, by decide, mj_in 148 (by decide +kernel) rfl⟩
theorem fl_X1_121 : mj_okF RX1 121 2 17 := ⟨by decide, by decide, mj_in 149 (by decide +kernel) rfl⟩
theorem fl_X5_163 : mj_okF RX5 163 2 17 := ⟨by decide, by decide, mj_in 150 (by decide +kernel) rfl⟩
theorem fl_X1_11 : mj_okF RX1 11 1 0 := ⟨by decide, by decide, mj_in 188 (by decide +kernel) rfl⟩
theorem fl_X5_44 : mj_okF RX5 44 1 0 := ⟨by decide, by decide, mj_in 189 (by decide +kernel) rfl⟩
theorem fl_X1_20 : mj_okF RX1 20 1 1 := ⟨by decide, by decide, mj_in 190 (by decide +kernel) rfl⟩
theorem fl_X5_65 : mj_okF RX5 65 1 1 := ⟨by decide, by decide, mj_in 191 (by decide +kernel) rfl⟩
theorem fl_X1_35 : mj_okF RX1 35 1 2 := ⟨by decide, by decide, mj_in 192 (by decide +kernel) rfl⟩
theorem fl_X5_33 : mj_okF RX5 33 1 2 := ⟨by decide, by decide, mj_in 193 (by decide +kernel) rfl⟩
theorem fl_X1_42 : mj_okF RX1 42 1 3 := ⟨by decide, by decide, mj_in 194 (by decide +kernel) rfl⟩
theorem fl_X5_60 : mj_okF RX5 60 1 3 := ⟨by decide, by decide, mj_in 195 (by decide +kernel) rfl⟩
theorem fl_X1_48 : mj_okF RX1 48 1 4 := ⟨by decide, by decide, mj_in 196 (by decide +kernel) rfl⟩
theorem fl_X5_116 : mj_okF RX5 116 1 4 := ⟨by decide, by decide, mj_in 197 (by decide +kernel) rfl⟩
theorem fl_X1_51 : mj_okF RX1 51 1 5 := ⟨by decide, by decide, mj_in 198 (by decide +kernel) rfl⟩
theorem fl_X1_25 : mj_okF RX1 25 1 6 := ⟨by decide, by decide, mj_in 199 (by decide +kernel) rfl⟩
theorem fl_X5_104 : mj_okF RX5 104 1 6 := ⟨by decide, by decide, mj_in 200 (by decide +kernel) rfl⟩
theorem fl_X1_29 : mj_okF RX1 29 1 7 := ⟨by decide, by decide, mj_in 201 (by decide +kernel) rfl⟩
theorem fl_X5_135 : mj_okF RX5 135 1 7 := ⟨by decide, by decide, mj_in 202 (by decide +kernel) rfl⟩
theorem fl_X1_32 : mj_okF RX1 32 1 8 := ⟨by decide, by decide, mj_in 203 (by decide +kernel) rfl⟩
theorem fl_X5_183 : mj_okF RX5 183 1 8 := ⟨by decide, by decide, mj_in 204 (by decide +kernel) rfl⟩
theorem fl_X1_54 : mj_okF RX1 54 1 9 := ⟨by decide, by decide, mj_in 205 (by decide +kernel) rfl⟩
theorem fl_X5_113 : mj_okF RX5 113 1 9 := ⟨by decide, by decide, mj_in 206 (by decide +kernel) rfl⟩
theorem fl_X1_57 : mj_okF RX1 57 1 10 := ⟨by decide, by decide, mj_in 207 (by decide +kernel) rfl⟩
theorem fl_X5_121 : mj_okF RX5 121 1 10 := ⟨by decide, by decide, mj_in 208 (by decide +kernel) rfl⟩
theorem fl_X1_60 : mj_okF RX1 60 1 11 := ⟨by decide, by decide, mj_in 209 (by decide +kernel) rfl⟩
theorem fl_X5_251 : mj_okF RX5 251 1 11 := ⟨by decide, by decide, mj_in 210 (by decide +kernel) rfl⟩
theorem fl_X1_63 : mj_okF RX1 63 1 12 := ⟨by decide, by decide, mj_in 211 (by decide +kernel) rfl⟩
theorem fl_X5_254 : mj_okF RX5 254 1 12 := ⟨by decide, by decide, mj_in 212 (by decide +kernel) rfl⟩
theorem fl_X1_66 : mj_okF RX1 66 1 13 := ⟨by decide, by decide, mj_in 213 (by decide +kernel) rfl⟩
theorem fl_X5_257 : mj_okF RX5 257 1 13 := ⟨by decide, by decide, mj_in 214 (by decide +kernel) rfl⟩
theorem fl_X1_69 : mj_okF RX1 69 1 14 := ⟨by decide, by decide, mj_in 215 (by decide +kernel) rfl⟩
theorem fl_X5_260 : mj_okF RX5 260 1 14 := ⟨by decide, by decide, mj_in 216 (by decide +kernel) rfl⟩
theorem fl_X1_72 : mj_okF RX1 72 1 15 := ⟨by decide, by decide, mj_in 217 (by decide +kernel) rfl⟩
theorem fl_X5_261 : mj_okF RX5 261 1 15 := ⟨by decide, by decide, mj_in 218 (by decide +kernel) rfl⟩
theorem fl_X4_7 : mj_okF RX4 7 4 0 := ⟨by decide, by decide, mj_in 258 (by decide +kernel) rfl⟩
theorem fl_X1_155 : mj_okF RX1 155 4 0 := ⟨by decide, by decide, mj_in 259 (by decide +kernel) rfl⟩
theorem fl_X4_13 : mj_okF RX4 13 4 1 := ⟨by decide, by decide, mj_in 260 (by decide +kernel) rfl⟩
theorem fl_X2_85 : mj_okF RX2 85 4 1 := ⟨by decide, by decide, mj_in 261 (by decide +kernel) rfl⟩
theorem fl_X4_16 : mj_okF RX4 16 4 2 := ⟨by decide, by decide, mj_in 262 (by decide +kernel) rfl⟩
theorem fl_X2_94 : mj_okF RX2 94 4 2 := ⟨by decide, by decide, mj_in 263 (by decide +kernel) rfl⟩
theorem fl_X1_150 : mj_okF RX1 150 4 2 := ⟨by decide, by decide, mj_in 264 (by decide +kernel) rfl⟩
theorem fl_X4_19 : mj_okF RX4 19 4 3 := ⟨by decide, by decide, mj_in 265 (by decide +kernel) rfl⟩
theorem fl_X2_97 : mj_okF RX2 97 4 3 := ⟨by decide, by decide, mj_in 266 (by decide +kernel) rfl⟩
theorem fl_X4_22 : mj_okF RX4 22 4 4 := ⟨by decide, by decide, mj_in 267 (by decide +kernel) rfl⟩
theorem fl_X1_168 : mj_okF RX1 168 4 4 := ⟨by decide, by decide, mj_in 268 (by decide +kernel) rfl⟩
theorem fl_X5_10 : mj_okF RX5 10 5 0 := ⟨by decide, by decide, mj_in 280 (by decide +kernel) rfl⟩
theorem fl_X5_16 : mj_okF RX5 16 5 1 := ⟨by decide, by decide, mj_in 281 (by decide +kernel) rfl⟩
theorem fl_X5_19 : mj_okF RX5 19 5 2 := ⟨by decide, by decide, mj_in 282 (by decide +kernel) rfl⟩
theorem fl_X5_25 : mj_okF RX5 25 5 3 := ⟨by decide, by decide, mj_in 283 (by decide +kernel) rfl⟩
abbrev mj_M : Type := MethodName × ByteArray × Nat × Option FieldType × String × Bool
/-- what a call of the method wants of the tables; n: how many arguments without the receiver -/
def mj_okV (K : mj_M) (n : Nat) : Prop := (Cond.instanceMethod K.1 ∈ mj_TW ∧ Cond.selects K.1.cls K.1 K.1 ∈ mj_TW ∧ Cond.initialized K.1.cls ∈ mj_TW ∧ Cond.code K.1 K.2.1 K.2.2.1 K.2.2.2.1 ∈ mj_TW) ∧ K.1.cls ≠ "java/lang/invoke/MethodHandle" ∧ K.1.cls ≠ "java/lang/invoke/VarHandle" ∧ (parseMethodDescriptor K.1.desc).map (fun d => d.parameters.length) = some n
def mj_okS (K : mj_M) (n : Nat) : Prop := (Cond.static K.1 ∈ mj_TW ∧ Cond.initialized K.1.cls ∈ mj_TW ∧ Cond.code K.1 K.2.1 K.2.2.1 K.2.2.2.1 ∈ mj_TW) ∧ K.1.cls ≠ "java/lang/invoke/MethodHandle" ∧ K.1.cls ≠ "java/lang/invoke/VarHandle" ∧ (parseMethodDescriptor K.1.desc).map (fun d => d.parameters.length) = some n
def mj_okI (K : mj_M) (n : Nat) : Prop := (Cond.instanceMethod K.1 ∈ mj_TW ∧ Cond.initialized K.1.cls ∈ mj_TW ∧ Cond.code K.1 K.2.1 K.2.2.1 none ∈ mj_TW) ∧ (K.1.cls ≠ "java/lang/invoke/MethodHandle" ∧ K.1.cls ≠ "java/lang/invoke/VarHandle" ∧ (parseMethodDescriptor K.1.desc).map (fun d => d.parameters.length) = some n) ∧ K.1.name = "<init>" ∧ K.2.2.2.1 = none
abbrev m_J9_abs_0f7a4 : mj_M := (yJ9_abs_0f7a4, cJ9_abs_0f7a4, 1, (some .int), RJ9, false)
set_option maxRecDepth 100000 in
theorem ok_J9_abs_0f7a4 : mj_okS m_J9_abs_0f7a4 1 := ⟨⟨mj_in 772 (by decide +kernel) rfl, mj_in 13 (by decide +kernel) rfl, mj_in 773 rfl rfl⟩, by decide +kernel, by decide +kernel, by decide +kernel⟩
abbrev m_J9_abs_294c1 : mj_M := (yJ9_abs_294c1, cJ9_abs_294c1, 2, (some .double), RJ9, false)
set_option maxRecDepth 100000 in
theorem ok_J9_abs_294c1 : mj_okS m_J9_abs_294c1 1 := ⟨⟨mj_in 761 (by decide +kernel) rfl, mj_in 13 (by decide +kernel) rfl, mj_in 762 rfl rfl⟩, by decide +kernel, by decide +kernel, by decide +kernel⟩
abbrev m_J9_max_7cf53 : mj_M := (yJ9_max_7cf53, cJ9_max_7cf53, 2, (some .int), RJ9, false)
set_option maxRecDepth 100000 in
theorem ok_J9_max_7cf53 : mj_okS m_J9_max_7cf53 2 := ⟨⟨mj_in 464 (by decide +kernel) rfl, mj_in 13 (by decide +kernel) rfl, mj_in 465 rfl rfl⟩, by decide +kernel, by decide +kernel, by decide +kernel⟩
abbrev m_J9_min_7cf53 : mj_M := (yJ9_min_7cf53, cJ9_min_7cf53, 2, (some .int), RJ9, false)
set_option maxRecDepth 100000 in
theorem ok_J9_min_7cf53 : mj_okS m_J9_min_7cf53 2 := ⟨⟨mj_in 427 (by decide +kernel) rfl, mj_in 13 (by decide +kernel) rfl, mj_in 428 rfl rfl⟩, by decide +kernel, by decide +kernel, by decide +kernel⟩
abbrev m_L_below : mj_M := (yL_below, cL_below, 2, (some .int), RL, false)
set_option maxRecDepth 100000 in
theorem ok_L_below : mj_okS m_L_below 2 := ⟨⟨mj_in 729 (by decide +kernel) rfl, mj_in 0 (by decide +kernel) rfl, mj_in 730 rfl rfl⟩, by decide +kernel, by decide +kernel, by decide +kernel⟩
abbrev m_L_cell : mj_M := (yL_cell, cL_cell, 2, (some .int), RL, false)
set_option maxRecDepth 100000 in
theorem ok_L_cell : mj_okS m_L_cell 2 := ⟨⟨mj_in 733 (by decide +kernel) rfl, mj_in 0 (by decide +kernel) rfl, mj_in 734 rfl rfl⟩, by decide +kernel, by decide +kernel, by decide +kernel⟩
abbrev m_L_isSo : mj_M := (yL_isSo, cL_isSo, 15, (some .boolean), RL, false)
set_option maxRecDepth 100000 in
theorem ok_L_isSo : mj_okS m_L_isSo 4 := ⟨⟨mj_in 748 (by decide +kernel) rfl, mj_in 0 (by decide +kernel) rfl, mj_in 749 rfl rfl⟩, by decide +kernel, by decide +kernel, by decide +kernel⟩
abbrev m_L_pass : mj_M := (yL_pass, cL_pass, 3, (some .int), RL, false)
set_option maxRecDepth 100000 in
theorem ok_L_pass : mj_okS m_L_pass 3 := ⟨⟨mj_in 740 (by decide +kernel) rfl, mj_in 0 (by decide +kernel) rfl, mj_in 741 rfl rfl⟩, by decide +kernel, by decide +kernel, by decide +kernel⟩
abbrev m_L_weather : mj_M := (yL_weather, cL_weather, 2, (some (.array .int)), RL, false)
set_option maxRecDepth 100000 in
theorem ok_L_weather : mj_okS m_L_weather 1 := ⟨⟨mj_in 737 (by decide +kernel) rfl, mj_in 0 (by decide +kernel) rfl, mj_in 738 rfl rfl⟩, by decide +kernel, by decide +kernel, by decide +kernel⟩
abbrev m_X0_become : mj_M := (yX0_become, cX0_become, 2, none, RX0, false)
set_option maxRecDepth 100000 in
theorem ok_X0_become : mj_okV m_X0_become 1 := ⟨⟨mj_in 609 (by decide +kernel) rfl, mj_in 610 (by decide +kernel) rfl, mj_in 3 (by decide +kernel) rfl, mj_in 611 rfl rfl⟩, by decide +kernel, by decide +kernel, by decide +kernel⟩
abbrev m_X0_init : mj_M := (yX0_init, cX0_init, 1, none, RX0, true)
set_option maxRecDepth 100000 in
theorem ok_X0_init : mj_okI m_X0_init 0 := ⟨⟨mj_in 35 (by decide +kernel) rfl, mj_in 3 (by decide +kernel) rfl, mj_in 36 rfl rfl⟩, ⟨by decide +kernel, by decide +kernel, by decide +kernel⟩, rfl, rfl⟩
abbrev m_X0_isMoving : mj_M := (yX0_isMoving, cX0_isMoving, 1, (some .boolean), RX0, false)
set_option maxRecDepth 100000 in
theorem ok_X0_isMoving : mj_okV m_X0_isMoving 0 := ⟨⟨mj_in 535 (by decide +kernel) rfl, mj_in 536 (by decide +kernel) rfl, mj_in 3 (by decide +kernel) rfl, mj_in 537 rfl rfl⟩, by decide +kernel, by decide +kernel, by decide +kernel⟩
abbrev m_X1_bar : mj_M := (yX1_bar, cX1_bar, 6, (some .int), RX1, false)
set_option maxRecDepth 100000 in
theorem ok_X1_bar : mj_okV m_X1_bar 4 := ⟨⟨mj_in 531 (by decide +kernel) rfl, mj_in 532 (by decide +kernel) rfl, mj_in 2 (by decide +kernel) rfl, mj_in 533 rfl rfl⟩, by decide +kernel, by decide +kernel, by decide +kernel⟩
abbrev m_X1_barNow : mj_M := (yX1_barNow, cX1_barNow, 2, (some .int), RX1, false)
set_option maxRecDepth 100000 in
theorem ok_X1_barNow : mj_okV m_X1_barNow 1 := ⟨⟨mj_in 523 (by decide +kernel) rfl, mj_in 524 (by decide +kernel) rfl, mj_in 2 (by decide +kernel) rfl, mj_in 525 rfl rfl⟩, by decide +kernel, by decide +kernel, by decide +kernel⟩
abbrev m_X1_become : mj_M := (yX1_become, cX1_become, 3, none, RX1, false)
set_option maxRecDepth 100000 in
theorem ok_X1_become : mj_okV m_X1_become 1 := ⟨⟨mj_in 605 (by decide +kernel) rfl, mj_in 606 (by decide +kernel) rfl, mj_in 2 (by decide +kernel) rfl, mj_in 607 rfl rfl⟩, by decide +kernel, by decide +kernel, by decide +kernel⟩
abbrev m_X1_carrySkiers : mj_M := (yX1_carrySkiers, cX1_carrySkiers, 5, none, RX1, false)
set_option maxRecDepth 100000 in
theorem ok_X1_carrySkiers : mj_okV m_X1_carrySkiers 0 := ⟨⟨mj_in 695 (by decide +kernel) rfl, mj_in 696 (by decide +kernel) rfl, mj_in 2 (by decide +kernel) rfl, mj_in 697 rfl rfl⟩, by decide +kernel, by decide +kernel, by decide +kernel⟩
abbrev m_X1_clock : mj_M := (yX1_clock, cX1_clock, 1, (some .int), RX1, false)
set_option maxRecDepth 100000 in
theorem ok_X1_clock : mj_okV m_X1_clock 0 := ⟨⟨mj_in 509 (by decide +kernel) rfl, mj_in 510 (by decide +kernel) rfl, mj_in 2 (by decide +kernel) rfl, mj_in 511 rfl rfl⟩, by decide +kernel, by decide +kernel, by decide +kernel⟩
abbrev m_X1_depthByArea : mj_M := (yX1_depthByArea, cX1_depthByArea, 3, (some .int), RX1, false)
set_option maxRecDepth 100000 in
theorem ok_X1_depthByArea : mj_okV m_X1_depthByArea 0 := ⟨⟨mj_in 580 (by decide +kernel) rfl, mj_in 581 (by decide +kernel) rfl, mj_in 2 (by decide +kernel) rfl, mj_in 582 rfl rfl⟩, by decide +kernel, by decide +kernel, by decide +kernel⟩
abbrev m_X1_holdLifts : mj_M := (yX1_holdLifts, cX1_holdLifts, 3, none, RX1, false)
set_option maxRecDepth 100000 in
theorem ok_X1_holdLifts : mj_okV m_X1_holdLifts 1 := ⟨⟨mj_in 691 (by decide +kernel) rfl, mj_in 692 (by decide +kernel) rfl, mj_in 2 (by decide +kernel) rfl, mj_in 693 rfl rfl⟩, by decide +kernel, by decide +kernel, by decide +kernel⟩
abbrev m_X1_init : mj_M := (yX1_init, cX1_init, 2, none, RX1, true)
set_option maxRecDepth 100000 in
theorem ok_X1_init : mj_okI m_X1_init 0 := ⟨⟨mj_in 28 (by decide +kernel) rfl, mj_in 2 (by decide +kernel) rfl, mj_in 29 rfl rfl⟩, ⟨by decide +kernel, by decide +kernel, by decide +kernel⟩, rfl, rfl⟩
abbrev m_X1_isTested : mj_M := (yX1_isTested, cX1_isTested, 2, (some .boolean), RX1, false)
set_option maxRecDepth 100000 in
theorem ok_X1_isTested : mj_okV m_X1_isTested 1 := ⟨⟨mj_in 527 (by decide +kernel) rfl, mj_in 528 (by decide +kernel) rfl, mj_in 2 (by decide +kernel) rfl, mj_in 529 rfl rfl⟩, by decide +kernel, by decide +kernel, by decide +kernel⟩
abbrev m_X1_makeSnow : mj_M := (yX1_makeSnow, cX1_makeSnow, 5, none, RX1, false)
set_option maxRecDepth 100000 in
theorem ok_X1_makeSnow : mj_okV m_X1_makeSnow 2 := ⟨⟨mj_in 682 (by decide +kernel) rfl, mj_in 683 (by decide +kernel) rfl, mj_in 2 (by decide +kernel) rfl, mj_in 684 rfl rfl⟩, by decide +kernel, by decide +kernel, by decide +kernel⟩
abbrev m_X1_openRuns : mj_M := (yX1_openRuns, cX1_openRuns, 3, (some .int), RX1, false)
set_option maxRecDepth 100000 in
theorem ok_X1_openRuns : mj_okV m_X1_openRuns 0 := ⟨⟨mj_in 576 (by decide +kernel) rfl, mj_in 577 (by decide +kernel) rfl, mj_in 2 (by decide +kernel) rfl, mj_in 578 rfl rfl⟩, by decide +kernel, by decide +kernel, by decide +kernel⟩
abbrev m_X1_openRunsOf : mj_M := (yX1_openRunsOf, cX1_openRunsOf, 4, (some .int), RX1, false)
set_option maxRecDepth 100000 in
theorem ok_X1_openRunsOf : mj_okV m_X1_openRunsOf 1 := ⟨⟨mj_in 567 (by decide +kernel) rfl, mj_in 568 (by decide +kernel) rfl, mj_in 2 (by decide +kernel) rfl, mj_in 569 rfl rfl⟩, by decide +kernel, by decide +kernel, by decide +kernel⟩
abbrev m_X1_passHour : mj_M := (yX1_passHour, cX1_passHour, 5, none, RX1, false)
set_option maxRecDepth 100000 in
theorem ok_X1_passHour : mj_okV m_X1_passHour 1 := ⟨⟨mj_in 624 (by decide +kernel) rfl, mj_in 625 (by decide +kernel) rfl, mj_in 2 (by decide +kernel) rfl, mj_in 626 rfl rfl⟩, by decide +kernel, by decide +kernel, by decide +kernel⟩
abbrev m_X1_removeGuns : mj_M := (yX1_removeGuns, cX1_removeGuns, 2, none, RX1, false)
set_option maxRecDepth 100000 in
theorem ok_X1_removeGuns : mj_okV m_X1_removeGuns 0 := ⟨⟨mj_in 714 (by decide +kernel) rfl, mj_in 715 (by decide +kernel) rfl, mj_in 2 (by decide +kernel) rfl, mj_in 716 rfl rfl⟩, by decide +kernel, by decide +kernel, by decide +kernel⟩
abbrev m_X1_shareOut : mj_M := (yX1_shareOut, cX1_shareOut, 6, none, RX1, false)
set_option maxRecDepth 100000 in
theorem ok_X1_shareOut : mj_okV m_X1_shareOut 3 := ⟨⟨mj_in 700 (by decide +kernel) rfl, mj_in 701 (by decide +kernel) rfl, mj_in 2 (by decide +kernel) rfl, mj_in 702 rfl rfl⟩, by decide +kernel, by decide +kernel, by decide +kernel⟩
abbrev m_X1_skiOn : mj_M := (yX1_skiOn, cX1_skiOn, 6, none, RX1, false)
set_option maxRecDepth 100000 in
theorem ok_X1_skiOn : mj_okV m_X1_skiOn 2 := ⟨⟨mj_in 704 (by decide +kernel) rfl, mj_in 705 (by decide +kernel) rfl, mj_in 2 (by decide +kernel) rfl, mj_in 706 rfl rfl⟩, by decide +kernel, by decide +kernel, by decide +kernel⟩
abbrev m_X1_slideOn : mj_M := (yX1_slideOn, cX1_slideOn, 4, (some .int), RX1, false)
set_option maxRecDepth 100000 in
theorem ok_X1_slideOn : mj_okV m_X1_slideOn 1 := ⟨⟨mj_in 468 (by decide +kernel) rfl, mj_in 469 (by decide +kernel) rfl, mj_in 2 (by decide +kernel) rfl, mj_in 470 rfl rfl⟩, by decide +kernel, by decide +kernel, by decide +kernel⟩
abbrev m_X1_wholeArea : mj_M := (yX1_wholeArea, cX1_wholeArea, 3, (some .int), RX1, false)
set_option maxRecDepth 100000 in
theorem ok_X1_wholeArea : mj_okV m_X1_wholeArea 0 := ⟨⟨mj_in 757 (by decide +kernel) rfl, mj_in 758 (by decide +kernel) rfl, mj_in 2 (by decide +kernel) rfl, mj_in 759 rfl rfl⟩, by decide +kernel, by decide +kernel, by decide +kernel⟩
abbrev m_X1_wouldTell : mj_M := (yX1_wouldTell, cX1_wouldTell, 4, (some .int), RX1, false)
set_option maxRecDepth 100000 in
theorem ok_X1_wouldTell : mj_okV m_X1_wouldTell 2 := ⟨⟨mj_in 495 (by decide +kernel) rfl, mj_in 496 (by decide +kernel) rfl, mj_in 2 (by decide +kernel) rfl, mj_in 497 rfl rfl⟩, by decide +kernel, by decide +kernel, by decide +kernel⟩
abbrev m_X2_become : mj_M := (yX2_become, cX2_become, 2, none, RX2, false)
set_option maxRecDepth 100000 in
theorem ok_X2_become : mj_okV m_X2_become 1 := ⟨⟨mj_in 613 (by decide +kernel) rfl, mj_in 614 (by decide +kernel) rfl, mj_in 4 (by decide +kernel) rfl, mj_in 615 rfl rfl⟩, by decide +kernel, by decide +kernel, by decide +kernel⟩
abbrev m_X2_init : mj_M := (yX2_init, cX2_init, 1, none, RX2, true)
set_option maxRecDepth 100000 in
theorem ok_X2_init : mj_okI m_X2_init 0 := ⟨⟨mj_in 67 (by decide +kernel) rfl, mj_in 4 (by decide +kernel) rfl, mj_in 68 rfl rfl⟩, ⟨by decide +kernel, by decide +kernel, by decide +kernel⟩, rfl, rfl⟩
abbrev m_X2_risk : mj_M := (yX2_risk, cX2_risk, 1, (some .int), RX2, false)
set_option maxRecDepth 100000 in
theorem ok_X2_risk : mj_okV m_X2_risk 0 := ⟨⟨mj_in 444 (by decide +kernel) rfl, mj_in 445 (by decide +kernel) rfl, mj_in 4 (by decide +kernel) rfl, mj_in 446 rfl rfl⟩, by decide +kernel, by decide +kernel, by decide +kernel⟩
abbrev m_X2_shear : mj_M := (yX2_shear, cX2_shear, 1, (some .int), RX2, false)
set_option maxRecDepth 100000 in
theorem ok_X2_shear : mj_okV m_X2_shear 0 := ⟨⟨mj_in 472 (by decide +kernel) rfl, mj_in 473 (by decide +kernel) rfl, mj_in 4 (by decide +kernel) rfl, mj_in 474 rfl rfl⟩, by decide +kernel, by decide +kernel, by decide +kernel⟩
abbrev m_X2_sizeFrom : mj_M := (yX2_sizeFrom, cX2_sizeFrom, 2, (some .int), RX2, false)
set_option maxRecDepth 100000 in
theorem ok_X2_sizeFrom : mj_okV m_X2_sizeFrom 1 := ⟨⟨mj_in 477 (by decide +kernel) rfl, mj_in 478 (by decide +kernel) rfl, mj_in 4 (by decide +kernel) rfl, mj_in 479 rfl rfl⟩, by decide +kernel, by decide +kernel, by decide +kernel⟩
abbrev m_X2_weatherSnow : mj_M := (yX2_weatherSnow, cX2_weatherSnow, 5, none, RX2, false)
set_option maxRecDepth 100000 in
theorem ok_X2_weatherSnow : mj_okV m_X2_weatherSnow 3 := ⟨⟨mj_in 629 (by decide +kernel) rfl, mj_in 630 (by decide +kernel) rfl, mj_in 4 (by decide +kernel) rfl, mj_in 631 rfl rfl⟩, by decide +kernel, by decide +kernel, by decide +kernel⟩
abbrev m_X3_become : mj_M := (yX3_become, cX3_become, 2, none, RX3, false)
set_option maxRecDepth 100000 in
theorem ok_X3_become : mj_okV m_X3_become 1 := ⟨⟨mj_in 617 (by decide +kernel) rfl, mj_in 618 (by decide +kernel) rfl, mj_in 5 (by decide +kernel) rfl, mj_in 619 rfl rfl⟩, by decide +kernel, by decide +kernel, by decide +kernel⟩
abbrev m_X3_changeTop : mj_M := (yX3_changeTop, cX3_changeTop, 3, none, RX3, false)
set_option maxRecDepth 100000 in
theorem ok_X3_changeTop : mj_okV m_X3_changeTop 2 := ⟨⟨mj_in 670 (by decide +kernel) rfl, mj_in 671 (by decide +kernel) rfl, mj_in 5 (by decide +kernel) rfl, mj_in 672 rfl rfl⟩, by decide +kernel, by decide +kernel, by decide +kernel⟩
abbrev m_X3_comeDown : mj_M := (yX3_comeDown, cX3_comeDown, 4, none, RX3, false)
set_option maxRecDepth 100000 in
theorem ok_X3_comeDown : mj_okV m_X3_comeDown 2 := ⟨⟨mj_in 633 (by decide +kernel) rfl, mj_in 634 (by decide +kernel) rfl, mj_in 5 (by decide +kernel) rfl, mj_in 635 rfl rfl⟩, by decide +kernel, by decide +kernel, by decide +kernel⟩
abbrev m_X3_depthFrom : mj_M := (yX3_depthFrom, cX3_depthFrom, 4, (some .int), RX3, false)
set_option maxRecDepth 100000 in
theorem ok_X3_depthFrom : mj_okV m_X3_depthFrom 1 := ⟨⟨mj_in 460 (by decide +kernel) rfl, mj_in 461 (by decide +kernel) rfl, mj_in 5 (by decide +kernel) rfl, mj_in 462 rfl rfl⟩, by decide +kernel, by decide +kernel, by decide +kernel⟩
abbrev m_X3_drift : mj_M := (yX3_drift, cX3_drift, 4, none, RX3, false)
set_option maxRecDepth 100000 in
theorem ok_X3_drift : mj_okV m_X3_drift 3 := ⟨⟨mj_in 661 (by decide +kernel) rfl, mj_in 662 (by decide +kernel) rfl, mj_in 5 (by decide +kernel) rfl, mj_in 663 rfl rfl⟩, by decide +kernel, by decide +kernel, by decide +kernel⟩
abbrev m_X3_dropFrom : mj_M := (yX3_dropFrom, cX3_dropFrom, 2, none, RX3, false)
set_option maxRecDepth 100000 in
theorem ok_X3_dropFrom : mj_okV m_X3_dropFrom 1 := ⟨⟨mj_in 482 (by decide +kernel) rfl, mj_in 483 (by decide +kernel) rfl, mj_in 5 (by decide +kernel) rfl, mj_in 484 rfl rfl⟩, by decide +kernel, by decide +kernel, by decide +kernel⟩
abbrev m_X3_freeze : mj_M := (yX3_freeze, cX3_freeze, 1, none, RX3, false)
set_option maxRecDepth 100000 in
theorem ok_X3_freeze : mj_okV m_X3_freeze 0 := ⟨⟨mj_in 666 (by decide +kernel) rfl, mj_in 667 (by decide +kernel) rfl, mj_in 5 (by decide +kernel) rfl, mj_in 668 rfl rfl⟩, by decide +kernel, by decide +kernel, by decide +kernel⟩
abbrev m_X3_growWeak : mj_M := (yX3_growWeak, cX3_growWeak, 1, none, RX3, false)
set_option maxRecDepth 100000 in
theorem ok_X3_growWeak : mj_okV m_X3_growWeak 0 := ⟨⟨mj_in 674 (by decide +kernel) rfl, mj_in 675 (by decide +kernel) rfl, mj_in 5 (by decide +kernel) rfl, mj_in 676 rfl rfl⟩, by decide +kernel, by decide +kernel, by decide +kernel⟩
abbrev m_X3_init : mj_M := (yX3_init, cX3_init, 1, none, RX3, true)
set_option maxRecDepth 100000 in
theorem ok_X3_init : mj_okI m_X3_init 0 := ⟨⟨mj_in 73 (by decide +kernel) rfl, mj_in 5 (by decide +kernel) rfl, mj_in 74 rfl rfl⟩, ⟨by decide +kernel, by decide +kernel, by decide +kernel⟩, rfl, rfl⟩
abbrev m_X3_joinLowest : mj_M := (yX3_joinLowest, cX3_joinLowest, 2, none, RX3, false)
set_option maxRecDepth 100000 in
theorem ok_X3_joinLowest : mj_okV m_X3_joinLowest 0 := ⟨⟨mj_in 649 (by decide +kernel) rfl, mj_in 650 (by decide +kernel) rfl, mj_in 5 (by decide +kernel) rfl, mj_in 651 rfl rfl⟩, by decide +kernel, by decide +kernel, by decide +kernel⟩
abbrev m_X3_lay : mj_M := (yX3_lay, cX3_lay, 4, none, RX3, false)
set_option maxRecDepth 100000 in
theorem ok_X3_lay : mj_okV m_X3_lay 3 := ⟨⟨mj_in 645 (by decide +kernel) rfl, mj_in 646 (by decide +kernel) rfl, mj_in 5 (by decide +kernel) rfl, mj_in 647 rfl rfl⟩, by decide +kernel, by decide +kernel, by decide +kernel⟩
abbrev m_X3_melt : mj_M := (yX3_melt, cX3_melt, 2, none, RX3, false)
set_option maxRecDepth 100000 in
theorem ok_X3_melt : mj_okV m_X3_melt 1 := ⟨⟨mj_in 653 (by decide +kernel) rfl, mj_in 654 (by decide +kernel) rfl, mj_in 5 (by decide +kernel) rfl, mj_in 655 rfl rfl⟩, by decide +kernel, by decide +kernel, by decide +kernel⟩
abbrev m_X3_pressTop : mj_M := (yX3_pressTop, cX3_pressTop, 3, (some .int), RX3, false)
set_option maxRecDepth 100000 in
theorem ok_X3_pressTop : mj_okV m_X3_pressTop 0 := ⟨⟨mj_in 515 (by decide +kernel) rfl, mj_in 516 (by decide +kernel) rfl, mj_in 5 (by decide +kernel) rfl, mj_in 517 rfl rfl⟩, by decide +kernel, by decide +kernel, by decide +kernel⟩
abbrev m_X3_risk : mj_M := (yX3_risk, cX3_risk, 3, (some .int), RX3, false)
set_option maxRecDepth 100000 in
theorem ok_X3_risk : mj_okV m_X3_risk 1 := ⟨⟨mj_in 448 (by decide +kernel) rfl, mj_in 449 (by decide +kernel) rfl, mj_in 5 (by decide +kernel) rfl, mj_in 450 rfl rfl⟩, by decide +kernel, by decide +kernel, by decide +kernel⟩
abbrev m_X3_settle : mj_M := (yX3_settle, cX3_settle, 4, none, RX3, false)
set_option maxRecDepth 100000 in
theorem ok_X3_settle : mj_okV m_X3_settle 1 := ⟨⟨mj_in 678 (by decide +kernel) rfl, mj_in 679 (by decide +kernel) rfl, mj_in 5 (by decide +kernel) rfl, mj_in 680 rfl rfl⟩, by decide +kernel, by decide +kernel, by decide +kernel⟩
abbrev m_X3_shear : mj_M := (yX3_shear, cX3_shear, 7, (some .int), RX3, false)
set_option maxRecDepth 100000 in
theorem ok_X3_shear : mj_okV m_X3_shear 1 := ⟨⟨mj_in 452 (by decide +kernel) rfl, mj_in 453 (by decide +kernel) rfl, mj_in 5 (by decide +kernel) rfl, mj_in 454 rfl rfl⟩, by decide +kernel, by decide +kernel, by decide +kernel⟩
abbrev m_X3_stress : mj_M := (yX3_stress, cX3_stress, 6, (some .int), RX3, false)
set_option maxRecDepth 100000 in
theorem ok_X3_stress : mj_okV m_X3_stress 3 := ⟨⟨mj_in 456 (by decide +kernel) rfl, mj_in 457 (by decide +kernel) rfl, mj_in 5 (by decide +kernel) rfl, mj_in 458 rfl rfl⟩, by decide +kernel, by decide +kernel, by decide +kernel⟩
abbrev m_X3_thicken : mj_M := (yX3_thicken, cX3_thicken, 2, none, RX3, false)
set_option maxRecDepth 100000 in
theorem ok_X3_thicken : mj_okV m_X3_thicken 1 := ⟨⟨mj_in 641 (by decide +kernel) rfl, mj_in 642 (by decide +kernel) rfl, mj_in 5 (by decide +kernel) rfl, mj_in 643 rfl rfl⟩, by decide +kernel, by decide +kernel, by decide +kernel⟩
abbrev m_X3_thin : mj_M := (yX3_thin, cX3_thin, 2, none, RX3, false)
set_option maxRecDepth 100000 in
theorem ok_X3_thin : mj_okV m_X3_thin 1 := ⟨⟨mj_in 657 (by decide +kernel) rfl, mj_in 658 (by decide +kernel) rfl, mj_in 5 (by decide +kernel) rfl, mj_in 659 rfl rfl⟩, by decide +kernel, by decide +kernel, by decide +kernel⟩
abbrev m_X3_topIs : mj_M := (yX3_topIs, cX3_topIs, 2, (some .boolean), RX3, false)
set_option maxRecDepth 100000 in
theorem ok_X3_topIs : mj_okV m_X3_topIs 1 := ⟨⟨mj_in 637 (by decide +kernel) rfl, mj_in 638 (by decide +kernel) rfl, mj_in 5 (by decide +kernel) rfl, mj_in 639 rfl rfl⟩, by decide +kernel, by decide +kernel, by decide +kernel⟩
abbrev m_X3_wholeDepth : mj_M := (yX3_wholeDepth, cX3_wholeDepth, 1, (some .int), RX3, false)
set_option maxRecDepth 100000 in
theorem ok_X3_wholeDepth : mj_okV m_X3_wholeDepth 0 := ⟨⟨mj_in 539 (by decide +kernel) rfl, mj_in 540 (by decide +kernel) rfl, mj_in 5 (by decide +kernel) rfl, mj_in 541 rfl rfl⟩, by decide +kernel, by decide +kernel, by decide +kernel⟩
abbrev m_X4_init : mj_M := (yX4_init, cX4_init, 1, none, RX4, true)
set_option maxRecDepth 100000 in
theorem ok_X4_init : mj_okI m_X4_init 0 := ⟨⟨mj_in 255 (by decide +kernel) rfl, mj_in 6 (by decide +kernel) rfl, mj_in 256 rfl rfl⟩, ⟨by decide +kernel, by decide +kernel, by decide +kernel⟩, rfl, rfl⟩
abbrev m_X4_tell : mj_M := (yX4_tell, cX4_tell, 6, none, RX4, false)
set_option maxRecDepth 100000 in
theorem ok_X4_tell : mj_okV m_X4_tell 5 := ⟨⟨mj_in 601 (by decide +kernel) rfl, mj_in 602 (by decide +kernel) rfl, mj_in 6 (by decide +kernel) rfl, mj_in 603 rfl rfl⟩, by decide +kernel, by decide +kernel, by decide +kernel⟩
abbrev m_X5_blast : mj_M := (yX5_blast, cX5_blast, 3, (some .int), RX5, false)
set_option maxRecDepth 100000 in
theorem ok_X5_blast : mj_okV m_X5_blast 1 := ⟨⟨mj_in 434 (by decide +kernel) rfl, mj_in 435 (by decide +kernel) rfl, mj_in 1 (by decide +kernel) rfl, mj_in 436 rfl rfl⟩, by decide +kernel, by decide +kernel, by decide +kernel⟩
abbrev m_X5_close : mj_M := (yX5_close, cX5_close, 3, (some .int), RX5, false)
set_option maxRecDepth 100000 in
theorem ok_X5_close : mj_okV m_X5_close 1 := ⟨⟨mj_in 543 (by decide +kernel) rfl, mj_in 544 (by decide +kernel) rfl, mj_in 1 (by decide +kernel) rfl, mj_in 545 rfl rfl⟩, by decide +kernel, by decide +kernel, by decide +kernel⟩
abbrev m_X5_couldOpen : mj_M := (yX5_couldOpen, cX5_couldOpen, 6, (some .int), RX5, false)
set_option maxRecDepth 100000 in
theorem ok_X5_couldOpen : mj_okV m_X5_couldOpen 0 := ⟨⟨mj_in 724 (by decide +kernel) rfl, mj_in 725 (by decide +kernel) rfl, mj_in 1 (by decide +kernel) rfl, mj_in 726 rfl rfl⟩, by decide +kernel, by decide +kernel, by decide +kernel⟩
abbrev m_X5_crowd : mj_M := (yX5_crowd, cX5_crowd, 3, (some .int), RX5, false)
set_option maxRecDepth 100000 in
theorem ok_X5_crowd : mj_okV m_X5_crowd 1 := ⟨⟨mj_in 430 (by decide +kernel) rfl, mj_in 431 (by decide +kernel) rfl, mj_in 1 (by decide +kernel) rfl, mj_in 432 rfl rfl⟩, by decide +kernel, by decide +kernel, by decide +kernel⟩
abbrev m_X5_digest : mj_M := (yX5_digest, cX5_digest, 5, (some .long), RX5, false)
set_option maxRecDepth 100000 in
theorem ok_X5_digest : mj_okV m_X5_digest 0 := ⟨⟨mj_in 584 (by decide +kernel) rfl, mj_in 585 (by decide +kernel) rfl, mj_in 1 (by decide +kernel) rfl, mj_in 586 rfl rfl⟩, by decide +kernel, by decide +kernel, by decide +kernel⟩
abbrev m_X5_digestLayers : mj_M := (yX5_digestLayers, cX5_digestLayers, 9, (some .long), RX5, false)
set_option maxRecDepth 100000 in
theorem ok_X5_digestLayers : mj_okV m_X5_digestLayers 2 := ⟨⟨mj_in 593 (by decide +kernel) rfl, mj_ip 4 (by decide +kernel) rfl, mj_in 1 (by decide +kernel) rfl, mj_in 594 rfl rfl⟩, by decide +kernel, by decide +kernel, by decide +kernel⟩
abbrev m_X5_fill : mj_M := (yX5_fill, cX5_fill, 2, (some .int), RX5, false)
set_option maxRecDepth 100000 in
theorem ok_X5_fill : mj_okV m_X5_fill 1 := ⟨⟨mj_in 423 (by decide +kernel) rfl, mj_in 424 (by decide +kernel) rfl, mj_in 1 (by decide +kernel) rfl, mj_in 425 rfl rfl⟩, by decide +kernel, by decide +kernel, by decide +kernel⟩
abbrev m_X5_groom : mj_M := (yX5_groom, cX5_groom, 4, (some .int), RX5, false)
set_option maxRecDepth 100000 in
theorem ok_X5_groom : mj_okV m_X5_groom 1 := ⟨⟨mj_in 505 (by decide +kernel) rfl, mj_in 506 (by decide +kernel) rfl, mj_in 1 (by decide +kernel) rfl, mj_in 507 rfl rfl⟩, by decide +kernel, by decide +kernel, by decide +kernel⟩
abbrev m_X5_guns : mj_M := (yX5_guns, cX5_guns, 4, (some .int), RX5, false)
set_option maxRecDepth 100000 in
theorem ok_X5_guns : mj_okV m_X5_guns 2 := ⟨⟨mj_in 414 (by decide +kernel) rfl, mj_in 415 (by decide +kernel) rfl, mj_in 1 (by decide +kernel) rfl, mj_in 416 rfl rfl⟩, by decide +kernel, by decide +kernel, by decide +kernel⟩
abbrev m_X5_init : mj_M := (yX5_init, cX5_init, 1, none, RX5, true)
set_option maxRecDepth 100000 in
theorem ok_X5_init : mj_okI m_X5_init 0 := ⟨⟨mj_in 20 (by decide +kernel) rfl, mj_in 1 (by decide +kernel) rfl, mj_in 21 rfl rfl⟩, ⟨by decide +kernel, by decide +kernel, by decide +kernel⟩, rfl, rfl⟩
abbrev m_X5_lift : mj_M := (yX5_lift, cX5_lift, 4, (some .int), RX5, false)
set_option maxRecDepth 100000 in
theorem ok_X5_lift : mj_okV m_X5_lift 2 := ⟨⟨mj_in 294 (by decide +kernel) rfl, mj_in 295 (by decide +kernel) rfl, mj_in 1 (by decide +kernel) rfl, mj_in 296 rfl rfl⟩, by decide +kernel, by decide +kernel, by decide +kernel⟩
abbrev m_X5_many : mj_M := (yX5_many, cX5_many, 2, (some .int), RX5, false)
set_option maxRecDepth 100000 in
theorem ok_X5_many : mj_okV m_X5_many 1 := ⟨⟨mj_in 572 (by decide +kernel) rfl, mj_in 573 (by decide +kernel) rfl, mj_in 1 (by decide +kernel) rfl, mj_in 574 rfl rfl⟩, by decide +kernel, by decide +kernel, by decide +kernel⟩
abbrev m_X5_meanDepth : mj_M := (yX5_meanDepth, cX5_meanDepth, 2, (some .double), RX5, false)
set_option maxRecDepth 100000 in
theorem ok_X5_meanDepth : mj_okV m_X5_meanDepth 0 := ⟨⟨mj_in 753 (by decide +kernel) rfl, mj_in 754 (by decide +kernel) rfl, mj_in 1 (by decide +kernel) rfl, mj_in 755 rfl rfl⟩, by decide +kernel, by decide +kernel, by decide +kernel⟩
abbrev m_X5_nextBlast : mj_M := (yX5_nextBlast, cX5_nextBlast, 7, (some .int), RX5, false)
set_option maxRecDepth 100000 in
theorem ok_X5_nextBlast : mj_okV m_X5_nextBlast 0 := ⟨⟨mj_in 719 (by decide +kernel) rfl, mj_in 720 (by decide +kernel) rfl, mj_in 1 (by decide +kernel) rfl, mj_in 721 rfl rfl⟩, by decide +kernel, by decide +kernel, by decide +kernel⟩
abbrev m_X5_ofLayer : mj_M := (yX5_ofLayer, cX5_ofLayer, 5, (some .int), RX5, false)
set_option maxRecDepth 100000 in
theorem ok_X5_ofLayer : mj_okV m_X5_ofLayer 3 := ⟨⟨mj_in 558 (by decide +kernel) rfl, mj_in 559 (by decide +kernel) rfl, mj_in 1 (by decide +kernel) rfl, mj_in 560 rfl rfl⟩, by decide +kernel, by decide +kernel, by decide +kernel⟩
abbrev m_X5_ofLift : mj_M := (yX5_ofLift, cX5_ofLift, 4, (some .int), RX5, false)
set_option maxRecDepth 100000 in
theorem ok_X5_ofLift : mj_okV m_X5_ofLift 2 := ⟨⟨mj_in 563 (by decide +kernel) rfl, mj_in 564 (by decide +kernel) rfl, mj_in 1 (by decide +kernel) rfl, mj_in 565 rfl rfl⟩, by decide +kernel, by decide +kernel, by decide +kernel⟩
abbrev m_X5_ofRun : mj_M := (yX5_ofRun, cX5_ofRun, 4, (some .int), RX5, false)
set_option maxRecDepth 100000 in
theorem ok_X5_ofRun : mj_okV m_X5_ofRun 2 := ⟨⟨mj_in 548 (by decide +kernel) rfl, mj_in 549 (by decide +kernel) rfl, mj_in 1 (by decide +kernel) rfl, mj_in 550 rfl rfl⟩, by decide +kernel, by decide +kernel, by decide +kernel⟩
abbrev m_X5_oneIf : mj_M := (yX5_oneIf, cX5_oneIf, 1, (some .int), RX5, false)
set_option maxRecDepth 100000 in
theorem ok_X5_oneIf : mj_okS m_X5_oneIf 1 := ⟨⟨mj_in 553 (by decide +kernel) rfl, mj_in 1 (by decide +kernel) rfl, mj_in 554 rfl rfl⟩, by decide +kernel, by decide +kernel, by decide +kernel⟩
abbrev m_X5_open : mj_M := (yX5_open, cX5_open, 4, (some .int), RX5, false)
set_option maxRecDepth 100000 in
theorem ok_X5_open : mj_okV m_X5_open 1 := ⟨⟨mj_in 519 (by decide +kernel) rfl, mj_in 520 (by decide +kernel) rfl, mj_in 1 (by decide +kernel) rfl, mj_in 521 rfl rfl⟩, by decide +kernel, by decide +kernel, by decide +kernel⟩
abbrev m_X5_pass : mj_M := (yX5_pass, cX5_pass, 9, (some .int), RX5, false)
set_option maxRecDepth 100000 in
theorem ok_X5_pass : mj_okV m_X5_pass 6 := ⟨⟨mj_in 743 (by decide +kernel) rfl, mj_in 744 (by decide +kernel) rfl, mj_in 1 (by decide +kernel) rfl, mj_in 745 rfl rfl⟩, by decide +kernel, by decide +kernel, by decide +kernel⟩
abbrev m_X5_requireClosed : mj_M := (yX5_requireClosed, cX5_requireClosed, 2, none, RX5, false)
set_option maxRecDepth 100000 in
theorem ok_X5_requireClosed : mj_okV m_X5_requireClosed 1 := ⟨⟨mj_in 439 (by decide +kernel) rfl, mj_ip 3 (by decide +kernel) rfl, mj_in 1 (by decide +kernel) rfl, mj_in 440 rfl rfl⟩, by decide +kernel, by decide +kernel, by decide +kernel⟩
abbrev m_X5_requireLift : mj_M := (yX5_requireLift, cX5_requireLift, 2, none, RX5, false)
set_option maxRecDepth 100000 in
theorem ok_X5_requireLift : mj_okV m_X5_requireLift 1 := ⟨⟨mj_in 390 (by decide +kernel) rfl, mj_ip 1 (by decide +kernel) rfl, mj_in 1 (by decide +kernel) rfl, mj_in 391 rfl rfl⟩, by decide +kernel, by decide +kernel, by decide +kernel⟩
abbrev m_X5_requireRun : mj_M := (yX5_requireRun, cX5_requireRun, 2, none, RX5, false)
set_option maxRecDepth 100000 in
theorem ok_X5_requireRun : mj_okV m_X5_requireRun 1 := ⟨⟨mj_in 419 (by decide +kernel) rfl, mj_ip 2 (by decide +kernel) rfl, mj_in 1 (by decide +kernel) rfl, mj_in 420 rfl rfl⟩, by decide +kernel, by decide +kernel, by decide +kernel⟩
abbrev m_X5_requireWithin : mj_M := (yX5_requireWithin, cX5_requireWithin, 3, none, RX5, false)
set_option maxRecDepth 100000 in
theorem ok_X5_requireWithin : mj_okS m_X5_requireWithin 3 := ⟨⟨mj_in 298 (by decide +kernel) rfl, mj_in 1 (by decide +kernel) rfl, mj_in 299 rfl rfl⟩, by decide +kernel, by decide +kernel, by decide +kernel⟩
abbrev m_X5_run : mj_M := (yX5_run, cX5_run, 8, (some .int), RX5, false)
set_option maxRecDepth 100000 in
theorem ok_X5_run : mj_okV m_X5_run 5 := ⟨⟨mj_in 385 (by decide +kernel) rfl, mj_in 386 (by decide +kernel) rfl, mj_in 1 (by decide +kernel) rfl, mj_in 387 rfl rfl⟩, by decide +kernel, by decide +kernel, by decide +kernel⟩
abbrev m_X5_search : mj_M := (yX5_search, cX5_search, 3, (some .int), RX5, false)
set_option maxRecDepth 100000 in
theorem ok_X5_search : mj_okV m_X5_search 1 := ⟨⟨mj_in 486 (by decide +kernel) rfl, mj_in 487 (by decide +kernel) rfl, mj_in 1 (by decide +kernel) rfl, mj_in 488 rfl rfl⟩, by decide +kernel, by decide +kernel, by decide +kernel⟩
abbrev m_X5_sweep : mj_M := (yX5_sweep, cX5_sweep, 3, (some .boolean), RX5, false)
set_option maxRecDepth 100000 in
theorem ok_X5_sweep : mj_okV m_X5_sweep 1 := ⟨⟨mj_in 501 (by decide +kernel) rfl, mj_in 502 (by decide +kernel) rfl, mj_in 1 (by decide +kernel) rfl, mj_in 503 rfl rfl⟩, by decide +kernel, by decide +kernel, by decide +kernel⟩
abbrev m_X5_test : mj_M := (yX5_test, cX5_test, 3, (some .int), RX5, false)
set_option maxRecDepth 100000 in
theorem ok_X5_test : mj_okV m_X5_test 1 := ⟨⟨mj_in 491 (by decide +kernel) rfl, mj_in 492 (by decide +kernel) rfl, mj_in 1 (by decide +kernel) rfl, mj_in 493 rfl rfl⟩, by decide +kernel, by decide +kernel, by decide +kernel⟩
abbrev m_X5_turn : mj_M := (yX5_turn, cX5_turn, 4, (some .boolean), RX5, false)
set_option maxRecDepth 100000 in
theorem ok_X5_turn : mj_okV m_X5_turn 2 := ⟨⟨mj_in 410 (by decide +kernel) rfl, mj_in 411 (by decide +kernel) rfl, mj_in 1 (by decide +kernel) rfl, mj_in 412 rfl rfl⟩, by decide +kernel, by decide +kernel, by decide +kernel⟩
abbrev m_X5_wouldMake : mj_M := (yX5_wouldMake, cX5_wouldMake, 6, (some .int), RX5, false)
set_option maxRecDepth 100000 in
theorem ok_X5_wouldMake : mj_okV m_X5_wouldMake 4 := ⟨⟨mj_in 710 (by decide +kernel) rfl, mj_in 711 (by decide +kernel) rfl, mj_in 1 (by decide +kernel) rfl, mj_in 712 rfl rfl⟩, by decide +kernel, by decide +kernel, by decide +kernel⟩
abbrev m_X5_wouldRisk : mj_M := (yX5_wouldRisk, cX5_wouldRisk, 7, (some .int), RX5, false)
set_option maxRecDepth 100000 in
theorem ok_X5_wouldRisk : mj_okV m_X5_wouldRisk 4 := ⟨⟨mj_in 597 (by decide +kernel) rfl, mj_in 598 (by decide +kernel) rfl, mj_in 1 (by decide +kernel) rfl, mj_in 599 rfl rfl⟩, by decide +kernel, by decide +kernel, by decide +kernel⟩
theorem cl_L_16 : Cond.classLink RL 16 RX5 ∈ mj_TW := mj_in 17 (by decide +kernel) rfl
theorem in_X5 : Cond.instantiable RX5 4 ∈ mj_TW ∧ Cond.initialized RX5 ∈ mj_TW := ⟨mj_in 18 (by decide +kernel) rfl, mj_in 1 (by decide +kernel) rfl⟩
theorem ln_L_21 : Cond.methodLink RL 21 yX5_init ∈ mj_TW := mj_in 19 (by decide +kernel) rfl
theorem ln_X5_1 : Cond.methodLink RX5 1 ⟨"java/lang/Object", "<init>", "()V"⟩ ∈ mj_TW := mj_in 22 (by decide +kernel) rfl
theorem cl_X5_7 : Cond.classLink RX5 7 RX1 ∈ mj_TW := mj_in 25 (by decide +kernel) rfl
theorem in_X1 : Cond.instantiable RX1 16 ∈ mj_TW ∧ Cond.initialized RX1 ∈ mj_TW := ⟨mj_in 26 (by decide +kernel) rfl, mj_in 2 (by decide +kernel) rfl⟩
theorem ln_X5_9 : Cond.methodLink RX5 9 yX1_init ∈ mj_TW := mj_in 27 (by decide +kernel) rfl
theorem ln_X1_3 : Cond.methodLink RX1 3 ⟨"java/lang/Object", "<init>", "()V"⟩ ∈ mj_TW := mj_in 30 (by decide +kernel) rfl
theorem cl_X1_9 : Cond.classLink RX1 9 RX0 ∈ mj_TW := mj_in 31 (by decide +kernel) rfl
theorem in_X0 : Cond.instantiable RX0 5 ∈ mj_TW ∧ Cond.initialized RX0 ∈ mj_TW := ⟨mj_in 33 (by decide +kernel) rfl, mj_in 3 (by decide +kernel) rfl⟩
theorem ln_X0_1 : Cond.methodLink RX0 1 ⟨"java/lang/Object", "<init>", "()V"⟩ ∈ mj_TW := mj_in 37 (by decide +kernel) rfl
theorem cl_X1_18 : Cond.classLink RX1 18 RX2 ∈ mj_TW := mj_in 63 (by decide +kernel) rfl
theorem in_X2 : Cond.instantiable RX2 18 ∈ mj_TW ∧ Cond.initialized RX2 ∈ mj_TW := ⟨mj_in 65 (by decide +kernel) rfl, mj_in 4 (by decide +kernel) rfl⟩
theorem ln_X1_24 : Cond.methodLink RX1 24 yX2_init ∈ mj_TW := mj_in 66 (by decide +kernel) rfl
theorem ln_X2_3 : Cond.methodLink RX2 3 ⟨"java/lang/Object", "<init>", "()V"⟩ ∈ mj_TW := mj_in 69 (by decide +kernel) rfl
theorem cl_X2_9 : Cond.classLink RX2 9 RX3 ∈ mj_TW := mj_in 70 (by decide +kernel) rfl
theorem in_X3 : Cond.instantiable RX3 6 ∈ mj_TW ∧ Cond.initialized RX3 ∈ mj_TW := ⟨mj_in 71 (by decide +kernel) rfl, mj_in 5 (by decide +kernel) rfl⟩
theorem ln_X2_11 : Cond.methodLink RX2 11 yX3_init ∈ mj_TW := mj_in 72 (by decide +kernel) rfl
theorem ln_X3_3 : Cond.methodLink RX3 3 ⟨"java/lang/Object", "<init>", "()V"⟩ ∈ mj_TW := mj_in 75 (by decide +kernel) rfl
theorem cl_X5_22 : Cond.classLink RX5 22 RX4 ∈ mj_TW := mj_in 252 (by decide +kernel) rfl
theorem in_X4 : Cond.instantiable RX4 5 ∈ mj_TW ∧ Cond.initialized RX4 ∈ mj_TW := ⟨mj_in 253 (by decide +kernel) rfl, mj_in 6 (by decide +kernel) rfl⟩
theorem ln_X4_1 : Cond.methodLink RX4 1 ⟨"java/lang/Object", "<init>", "()V"⟩ ∈ mj_TW := mj_in 257 (by decide +kernel) rfl
theorem ln_L_26 : Cond.methodLink RL 26 yX5_lift ∈ mj_TW := mj_in 293 (by decide +kernel) rfl
theorem ln_X5_29 : Cond.methodLink RX5 29 yX5_requireWithin ∈ mj_TW := mj_in 297 (by decide +kernel) rfl
theorem ln_X5_328 : Cond.methodLink RX5 328 ⟨"java/lang/IllegalArgumentException", "<init>", "(Ljava/lang/String;)V"⟩ ∈ mj_TW := mj_in 342 (by decide +kernel) rfl
theorem ln_X5_41 : Cond.methodLink RX5 41 ⟨"java/lang/IllegalStateException", "<init>", "(Ljava/lang/String;)V"⟩ ∈ mj_TW := mj_in 378 (by decide +kernel) rfl
theorem ln_L_29 : Cond.methodLink RL 29 yX5_run ∈ mj_TW := mj_in 384 (by decide +kernel) rfl
theorem ln_X5_56 : Cond.methodLink RX5 56 yX5_requireLift ∈ mj_TW := mj_in 388 (by decide +kernel) rfl
theorem ln_X5_230 : Cond.methodLink RX5 230 ⟨"java/lang/IndexOutOfBoundsException", "<init>", "(Ljava/lang/String;)V"⟩ ∈ mj_TW := mj_in 402 (by decide +kernel) rfl
theorem ln_L_39 : Cond.methodLink RL 39 yX5_turn ∈ mj_TW := mj_in 409 (by decide +kernel) rfl
theorem ln_L_43 : Cond.methodLink RL 43 yX5_guns ∈ mj_TW := mj_in 413 (by decide +kernel) rfl
theorem ln_X5_98 : Cond.methodLink RX5 98 yX5_requireRun ∈ mj_TW := mj_in 417 (by decide +kernel) rfl
theorem ln_L_50 : Cond.methodLink RL 50 yX5_fill ∈ mj_TW := mj_in 422 (by decide +kernel) rfl
theorem ln_X5_107 : Cond.methodLink RX5 107 yJ9_min_7cf53 ∈ mj_TW := mj_in 426 (by decide +kernel) rfl
theorem ln_L_58 : Cond.methodLink RL 58 yX5_crowd ∈ mj_TW := mj_in 429 (by decide +kernel) rfl
theorem ln_L_61 : Cond.methodLink RL 61 yX5_blast ∈ mj_TW := mj_in 433 (by decide +kernel) rfl
theorem ln_X5_132 : Cond.methodLink RX5 132 yX5_requireClosed ∈ mj_TW := mj_in 437 (by decide +kernel) rfl
theorem ln_X5_143 : Cond.methodLink RX5 143 yX2_risk ∈ mj_TW := mj_in 443 (by decide +kernel) rfl
theorem ln_X2_75 : Cond.methodLink RX2 75 yX3_risk ∈ mj_TW := mj_in 447 (by decide +kernel) rfl
theorem ln_X3_62 : Cond.methodLink RX3 62 yX3_shear ∈ mj_TW := mj_in 451 (by decide +kernel) rfl
theorem ln_X3_58 : Cond.methodLink RX3 58 yX3_stress ∈ mj_TW := mj_in 455 (by decide +kernel) rfl
theorem ln_X3_38 : Cond.methodLink RX3 38 yX3_depthFrom ∈ mj_TW := mj_in 459 (by decide +kernel) rfl
theorem ln_X3_42 : Cond.methodLink RX3 42 yJ9_max_7cf53 ∈ mj_TW := mj_in 463 (by decide +kernel) rfl
theorem ln_X3_48 : Cond.methodLink RX3 48 yJ9_min_7cf53 ∈ mj_TW := mj_in 466 (by decide +kernel) rfl
theorem ln_X5_147 : Cond.methodLink RX5 147 yX1_slideOn ∈ mj_TW := mj_in 467 (by decide +kernel) rfl
theorem ln_X1_138 : Cond.methodLink RX1 138 yX2_shear ∈ mj_TW := mj_in 471 (by decide +kernel) rfl
theorem ln_X2_79 : Cond.methodLink RX2 79 yX3_shear ∈ mj_TW := mj_in 475 (by decide +kernel) rfl
theorem ln_X1_141 : Cond.methodLink RX1 141 yX2_sizeFrom ∈ mj_TW := mj_in 476 (by decide +kernel) rfl
theorem ln_X2_82 : Cond.methodLink RX2 82 yX3_depthFrom ∈ mj_TW := mj_in 480 (by decide +kernel) rfl
theorem ln_X1_145 : Cond.methodLink RX1 145 yX3_dropFrom ∈ mj_TW := mj_in 481 (by decide +kernel) rfl
theorem ln_L_64 : Cond.methodLink RL 64 yX5_search ∈ mj_TW := mj_in 485 (by decide +kernel) rfl
theorem ln_L_67 : Cond.methodLink RL 67 yX5_test ∈ mj_TW := mj_in 490 (by decide +kernel) rfl
theorem ln_X5_153 : Cond.methodLink RX5 153 yX1_wouldTell ∈ mj_TW := mj_in 494 (by decide +kernel) rfl
theorem ln_X1_105 : Cond.methodLink RX1 105 yX2_risk ∈ mj_TW := mj_in 498 (by decide +kernel) rfl
theorem ln_X1_108 : Cond.methodLink RX1 108 yJ9_max_7cf53 ∈ mj_TW := mj_in 499 (by decide +kernel) rfl
theorem ln_L_73 : Cond.methodLink RL 73 yX5_sweep ∈ mj_TW := mj_in 500 (by decide +kernel) rfl
theorem ln_L_77 : Cond.methodLink RL 77 yX5_groom ∈ mj_TW := mj_in 504 (by decide +kernel) rfl
theorem ln_X5_173 : Cond.methodLink RX5 173 yX1_clock ∈ mj_TW := mj_in 508 (by decide +kernel) rfl
theorem ln_X5_188 : Cond.methodLink RX5 188 yX3_pressTop ∈ mj_TW := mj_in 514 (by decide +kernel) rfl
theorem ln_L_84 : Cond.methodLink RL 84 yX5_open ∈ mj_TW := mj_in 518 (by decide +kernel) rfl
theorem ln_X5_191 : Cond.methodLink RX5 191 yX1_barNow ∈ mj_TW := mj_in 522 (by decide +kernel) rfl
theorem ln_X1_114 : Cond.methodLink RX1 114 yX1_isTested ∈ mj_TW := mj_in 526 (by decide +kernel) rfl
theorem ln_X1_124 : Cond.methodLink RX1 124 yX1_bar ∈ mj_TW := mj_in 530 (by decide +kernel) rfl
theorem ln_X1_128 : Cond.methodLink RX1 128 yX0_isMoving ∈ mj_TW := mj_in 534 (by decide +kernel) rfl
theorem ln_X1_93 : Cond.methodLink RX1 93 yX3_wholeDepth ∈ mj_TW := mj_in 538 (by decide +kernel) rfl
theorem ln_L_87 : Cond.methodLink RL 87 yX5_close ∈ mj_TW := mj_in 542 (by decide +kernel) rfl
theorem ln_L_33 : Cond.methodLink RL 33 yX5_ofRun ∈ mj_TW := mj_in 547 (by decide +kernel) rfl
theorem ln_X5_202 : Cond.methodLink RX5 202 yX3_wholeDepth ∈ mj_TW := mj_in 551 (by decide +kernel) rfl
theorem ln_X5_208 : Cond.methodLink RX5 208 yX5_oneIf ∈ mj_TW := mj_in 552 (by decide +kernel) rfl
theorem ln_X5_212 : Cond.methodLink RX5 212 yX2_shear ∈ mj_TW := mj_in 555 (by decide +kernel) rfl
theorem ln_X5_215 : Cond.methodLink RX5 215 yX1_isTested ∈ mj_TW := mj_in 556 (by decide +kernel) rfl
theorem ln_L_80 : Cond.methodLink RL 80 yX5_ofLayer ∈ mj_TW := mj_in 557 (by decide +kernel) rfl
theorem ln_L_36 : Cond.methodLink RL 36 yX5_ofLift ∈ mj_TW := mj_in 562 (by decide +kernel) rfl
theorem ln_X5_244 : Cond.methodLink RX5 244 yX1_openRunsOf ∈ mj_TW := mj_in 566 (by decide +kernel) rfl
theorem ln_L_46 : Cond.methodLink RL 46 yX5_many ∈ mj_TW := mj_in 571 (by decide +kernel) rfl
theorem ln_X5_248 : Cond.methodLink RX5 248 yX1_openRuns ∈ mj_TW := mj_in 575 (by decide +kernel) rfl
theorem ln_X5_264 : Cond.methodLink RX5 264 yX1_depthByArea ∈ mj_TW := mj_in 579 (by decide +kernel) rfl
theorem ln_L_101 : Cond.methodLink RL 101 yX5_digest ∈ mj_TW := mj_in 583 (by decide +kernel) rfl
theorem ct_X5_290 : Cond.constantLong RX5 290 (58212 : Int64) ∈ mj_TW := mj_in 587 (by decide +kernel) rfl
theorem ct_X5_292 : Cond.constantLong RX5 292 (31 : Int64) ∈ mj_TW := mj_in 588 (by decide +kernel) rfl
theorem ln_X5_294 : Cond.methodLink RX5 294 yX5_many ∈ mj_TW := mj_in 589 (by decide +kernel) rfl
theorem ln_X5_297 : Cond.methodLink RX5 297 yX5_ofRun ∈ mj_TW := mj_in 590 (by decide +kernel) rfl
theorem ln_X5_300 : Cond.methodLink RX5 300 yX5_digestLayers ∈ mj_TW := mj_in 591 (by decide +kernel) rfl
theorem ln_X5_320 : Cond.methodLink RX5 320 yX5_ofLayer ∈ mj_TW := mj_in 595 (by decide +kernel) rfl
theorem ln_X5_304 : Cond.methodLink RX5 304 yX5_wouldRisk ∈ mj_TW := mj_in 596 (by decide +kernel) rfl
theorem ln_X5_124 : Cond.methodLink RX5 124 yX4_tell ∈ mj_TW := mj_in 600 (by decide +kernel) rfl
theorem ln_X5_270 : Cond.methodLink RX5 270 yX1_become ∈ mj_TW := mj_in 604 (by decide +kernel) rfl
theorem ln_X1_38 : Cond.methodLink RX1 38 yX0_become ∈ mj_TW := mj_in 608 (by decide +kernel) rfl
theorem ln_X1_45 : Cond.methodLink RX1 45 yX2_become ∈ mj_TW := mj_in 612 (by decide +kernel) rfl
theorem ln_X2_22 : Cond.methodLink RX2 22 yX3_become ∈ mj_TW := mj_in 616 (by decide +kernel) rfl
theorem ln_X3_21 : Cond.methodLink RX3 21 ⟨"java/lang/System", "arraycopy", "(Ljava/lang/Object;ILjava/lang/Object;II)V"⟩ ∈ mj_TW := mj_in 620 (by decide +kernel) rfl
theorem ln_X5_128 : Cond.methodLink RX5 128 yX1_passHour ∈ mj_TW := mj_in 623 (by decide +kernel) rfl
theorem ln_X1_161 : Cond.methodLink RX1 161 yX1_clock ∈ mj_TW := mj_in 627 (by decide +kernel) rfl
theorem ln_X1_164 : Cond.methodLink RX1 164 yX2_weatherSnow ∈ mj_TW := mj_in 628 (by decide +kernel) rfl
theorem ln_X2_90 : Cond.methodLink RX2 90 yX3_comeDown ∈ mj_TW := mj_in 632 (by decide +kernel) rfl
theorem ln_X3_65 : Cond.methodLink RX3 65 yX3_topIs ∈ mj_TW := mj_in 636 (by decide +kernel) rfl
theorem ln_X3_69 : Cond.methodLink RX3 69 yX3_thicken ∈ mj_TW := mj_in 640 (by decide +kernel) rfl
theorem ln_X3_72 : Cond.methodLink RX3 72 yX3_lay ∈ mj_TW := mj_in 644 (by decide +kernel) rfl
theorem ln_X3_55 : Cond.methodLink RX3 55 yX3_joinLowest ∈ mj_TW := mj_in 648 (by decide +kernel) rfl
theorem ln_X3_76 : Cond.methodLink RX3 76 yX3_melt ∈ mj_TW := mj_in 652 (by decide +kernel) rfl
theorem ln_X3_51 : Cond.methodLink RX3 51 yX3_thin ∈ mj_TW := mj_in 656 (by decide +kernel) rfl
theorem ln_X2_100 : Cond.methodLink RX2 100 yX3_drift ∈ mj_TW := mj_in 660 (by decide +kernel) rfl
theorem ln_X2_104 : Cond.methodLink RX2 104 yX3_melt ∈ mj_TW := mj_in 664 (by decide +kernel) rfl
theorem ln_X2_108 : Cond.methodLink RX2 108 yX3_freeze ∈ mj_TW := mj_in 665 (by decide +kernel) rfl
theorem ln_X3_79 : Cond.methodLink RX3 79 yX3_changeTop ∈ mj_TW := mj_in 669 (by decide +kernel) rfl
theorem ln_X2_111 : Cond.methodLink RX2 111 yX3_growWeak ∈ mj_TW := mj_in 673 (by decide +kernel) rfl
theorem ln_X2_114 : Cond.methodLink RX2 114 yX3_settle ∈ mj_TW := mj_in 677 (by decide +kernel) rfl
theorem ln_X1_171 : Cond.methodLink RX1 171 yX1_makeSnow ∈ mj_TW := mj_in 681 (by decide +kernel) rfl
theorem ln_X1_194 : Cond.methodLink RX1 194 yJ9_min_7cf53 ∈ mj_TW := mj_in 685 (by decide +kernel) rfl
theorem ln_X1_200 : Cond.methodLink RX1 200 yX3_topIs ∈ mj_TW := mj_in 686 (by decide +kernel) rfl
theorem ln_X1_204 : Cond.methodLink RX1 204 yX3_thicken ∈ mj_TW := mj_in 687 (by decide +kernel) rfl
theorem ln_X1_207 : Cond.methodLink RX1 207 yX3_lay ∈ mj_TW := mj_in 688 (by decide +kernel) rfl
theorem ln_X1_178 : Cond.methodLink RX1 178 yX1_slideOn ∈ mj_TW := mj_in 689 (by decide +kernel) rfl
theorem ln_X1_182 : Cond.methodLink RX1 182 yX1_holdLifts ∈ mj_TW := mj_in 690 (by decide +kernel) rfl
theorem ln_X1_185 : Cond.methodLink RX1 185 yX1_carrySkiers ∈ mj_TW := mj_in 694 (by decide +kernel) rfl
theorem ln_X1_211 : Cond.methodLink RX1 211 yX1_openRunsOf ∈ mj_TW := mj_in 698 (by decide +kernel) rfl
theorem ln_X1_218 : Cond.methodLink RX1 218 yX1_shareOut ∈ mj_TW := mj_in 699 (by decide +kernel) rfl
theorem ln_X1_221 : Cond.methodLink RX1 221 yX1_skiOn ∈ mj_TW := mj_in 703 (by decide +kernel) rfl
theorem ln_X1_227 : Cond.methodLink RX1 227 yX3_thin ∈ mj_TW := mj_in 707 (by decide +kernel) rfl
theorem ln_X5_277 : Cond.methodLink RX5 277 yJ9_max_7cf53 ∈ mj_TW := mj_in 708 (by decide +kernel) rfl
theorem ln_X5_308 : Cond.methodLink RX5 308 yX5_wouldMake ∈ mj_TW := mj_in 709 (by decide +kernel) rfl
theorem ln_X5_280 : Cond.methodLink RX5 280 yX1_removeGuns ∈ mj_TW := mj_in 713 (by decide +kernel) rfl
theorem ln_X5_311 : Cond.methodLink RX5 311 yX5_ofLift ∈ mj_TW := mj_in 717 (by decide +kernel) rfl
theorem ln_X5_314 : Cond.methodLink RX5 314 yX5_nextBlast ∈ mj_TW := mj_in 718 (by decide +kernel) rfl
theorem ln_X5_283 : Cond.methodLink RX5 283 yX2_sizeFrom ∈ mj_TW := mj_in 722 (by decide +kernel) rfl
theorem ln_X5_317 : Cond.methodLink RX5 317 yX5_couldOpen ∈ mj_TW := mj_in 723 (by decide +kernel) rfl
theorem ln_X5_286 : Cond.methodLink RX5 286 yX1_bar ∈ mj_TW := mj_in 727 (by decide +kernel) rfl
theorem ln_L_9 : Cond.methodLink RL 9 yL_below ∈ mj_TW := mj_in 728 (by decide +kernel) rfl
theorem ct_L_7 : Cond.constant RL 7 (2147483647 : Int32) ∈ mj_TW := mj_in 731 (by decide +kernel) rfl
theorem ln_L_22 : Cond.methodLink RL 22 yL_cell ∈ mj_TW := mj_in 732 (by decide +kernel) rfl
theorem ct_L_8 : Cond.constant RL 8 (790386105 : Int32) ∈ mj_TW := mj_in 735 (by decide +kernel) rfl
theorem ln_L_90 : Cond.methodLink RL 90 yL_weather ∈ mj_TW := mj_in 736 (by decide +kernel) rfl
theorem ln_L_94 : Cond.methodLink RL 94 yL_pass ∈ mj_TW := mj_in 739 (by decide +kernel) rfl
theorem ln_L_15 : Cond.methodLink RL 15 yX5_pass ∈ mj_TW := mj_in 742 (by decide +kernel) rfl
theorem ln_L_97 : Cond.methodLink RL 97 yL_isSo ∈ mj_TW := mj_in 747 (by decide +kernel) rfl
theorem ln_L_105 : Cond.methodLink RL 105 yX5_nextBlast ∈ mj_TW := mj_in 750 (by decide +kernel) rfl
theorem ln_L_109 : Cond.methodLink RL 109 yX5_couldOpen ∈ mj_TW := mj_in 751 (by decide +kernel) rfl
theorem ln_L_112 : Cond.methodLink RL 112 yX5_meanDepth ∈ mj_TW := mj_in 752 (by decide +kernel) rfl
theorem ln_X5_267 : Cond.methodLink RX5 267 yX1_wholeArea ∈ mj_TW := mj_in 756 (by decide +kernel) rfl
theorem ln_L_116 : Cond.methodLink RL 116 yJ9_abs_294c1 ∈ mj_TW := mj_in 760 (by decide +kernel) rfl
theorem ln_J9_79 : Cond.methodLink RJ9 79 ⟨"java/lang/Double", "doubleToRawLongBits", "(D)J"⟩ ∈ mj_TW := mj_in 763 (by decide +kernel) rfl
theorem ct_J9_135 : Cond.constantLong RJ9 135 (9223372036854775807 : Int64) ∈ mj_TW := mj_in 766 (by decide +kernel) rfl
theorem ln_J9_166 : Cond.methodLink RJ9 166 ⟨"java/lang/Double", "longBitsToDouble", "(J)D"⟩ ∈ mj_TW := mj_in 767 (by decide +kernel) rfl
theorem ct_L_119 : Cond.constantDouble RL 119 (4547007122018943789 : UInt64) ∈ mj_TW := mj_in 770 (by decide +kernel) rfl
theorem ln_L_70 : Cond.methodLink RL 70 yJ9_abs_0f7a4 ∈ mj_TW := mj_in 771 (by decide +kernel) rfl
theorem ln_L_53 : Cond.methodLink RL 53 yJ9_min_7cf53 ∈ mj_TW := mj_in 774 (by decide +kernel) rfl
theorem aw_int : Cond.arrayClass .int ∈ mj_TW := mj_in 100 (by decide +kernel) rfl
def mj_XW (s : State) : Prop := va_Nw (.methodLinkNest RX1 17 yX0_init "Pistekeeper") s ∧ va_Nw (.methodLinkNest RX5 24 yX4_init "Pistekeeper") s ∧ va_Nw (.methodLinkNest RX1 82 yX5_oneIf "Pistekeeper") s ∧ va_AO RX0 s ∧ va_AO RX2 s
theorem mj_XW.warm {s U : State} (hW : s.WarmedH U.vm) (h : mj_XW s) : mj_XW U := by
  obtain ⟨h0, h1, h2, h3, h4⟩ := h
  exact ⟨va_Nw.warmM hW h0, va_Nw.warmM hW h1, va_Nw.warmM hW h2, va_AO.moved hW.alike h3, va_AO.moved hW.alike h4⟩
theorem mj_XW.of {A : Array Value} {s : State} (h : ∀ w ∈ lw_tbl, w.before A s = true) : mj_XW s := ⟨va_Nw.of rfl (h _ (List.mem_append_right _ (List.mem_of_getElem? (i := 34) (by decide +kernel)))), va_Nw.of rfl (h _ (List.mem_append_right _ (List.mem_of_getElem? (i := 254) (by decide +kernel)))), va_Nw.of rfl (h _ (List.mem_append_right _ (List.mem_of_getElem? (i := 570) (by decide +kernel)))), va_AO.of (h _ (List.mem_append_right _ (List.mem_of_getElem? (i := 32) (by decide +kernel)))), va_AO.of (h _ (List.mem_append_right _ (List.mem_of_getElem? (i := 64) (by decide +kernel))))⟩
end
section
/-! THE MINI MACHINE: cells by number (0: the script; each new cell the next number), ints and references in two functions of cell and place, locals as a list by place (null: nothing known); mj_W is the walk over it, for every real machine that holds it; mj_C a method's contract. -/
abbrev mj_K : Type := Nat × Nat × Nat
abbrev mj_H : Type := Nat × (Nat → mj_K) × (Nat → Nat → Int32) × (Nat → Nat → Option Nat)
def mj_t (as : List Nat) (v : Value) : Value := match v with
  | .ref k => .ref (as.getD k 0)
  | v => v
def mj_ok (n : Nat) (v : Value) : Prop := match v with
  | .ref k => k < n
  | _ => True
def mj_oks (n : Nat) : List Value → Prop
  | [] => True
  | v :: st => mj_ok n v ∧ mj_oks n st
def mj_up {α : Type} (f : Nat → Nat → α) (a k : Nat) (v : α) : Nat → Nat → α := fun b j => if b = a ∧ j = k then v else f b j
def mj_row {α : Type} (f : Nat → α) (a : Nat) (v : α) : Nat → α := fun b => if b = a then v else f b
def mj_fs (as : List Nat) (ci : Nat) (f : Nat → Int32) (g : Nat → Option Nat) : List Value :=
  (List.range (mT_N ci)).map fun k => if mT_R ci k = true then va_rf ((g k).map fun b => as.getD b 0) else .int (f k)
def mj_cell (tys : List (ClassId × FieldType)) (as : List Nat) (K : mj_K) (f : Nat → Int32) (g : Nat → Option Nat) (e : va_E) : Prop :=
  (K.1 = 0 ∧ ∃ (cA : ClassId) (t0 : Nat), tys[t0]? = some (cA, .int) ∧ e = .inl (cA, K.2.1, .inl f)) ∨
  (K.1 = 1 ∧ ∃ (cA : ClassId) (t0 : Nat), tys[t0]? = some (cA, .object (mT_C K.2.2)) ∧ e = .inl (cA, K.2.1, .inr (.inr (.inr (.inr fun j => (g j).map fun b => as.getD b 0))))) ∨
  (K.1 = 2 ∧ K.2.1 < 6 ∧ e = .inr (K.2.1, mj_fs as K.2.1 f g))
def mj_Hp (D : va_G) (b : Nat) (as : List Nat) (h : mj_H) (A : Nat → Prop) (s : State) (H : Heap) : Prop := ∃ (ws : va_W) (tys : List (ClassId × FieldType)),
  as = b :: ws.map (·.1) ∧ h.1 = ws.length + 1 ∧ (∀ k j c, h.2.2.2 k j = some c → c < h.1) ∧
  (∀ k q, ws[k]? = some q → mj_cell tys as (h.2.1 (k + 1)) (h.2.2.1 (k + 1)) (h.2.2.2 (k + 1)) q.2) ∧
  va_K D vwCl tys s ∧ va_P D vwCl ws H ∧ va_D A ws ∧ (h.2.1 0).1 = 3 ∧ va_X b (h.2.1 0).2.1 (h.2.2.1 0) s H
def mj_al (as : List Nat) : Nat → List Value → List (Nat × Value)
  | _, [] => []
  | i, v :: r => match v with
    | .null => mj_al as (i + 1) r
    | v => (i, mj_t as v) :: mj_al as (i + 1) r
def mj_X (M : mj_M) (d b B0 MC MS : Nat) (p : Program) (R : Room) (s : State) (m : MethodId) (args : Array Value) (meth : Method) (c : Code) : Prop :=
  p.tables.exec = Jvm.exec ∧ c.code = M.2.1 ∧ c.maxLocals = M.2.2.1 ∧ s.vm.findClass M.2.2.2.2.1 = some m.cls ∧ (∀ w ∈ mj_TW, w.before args s = true) ∧ mj_XW s ∧
  meth.sig.returnType = M.2.2.2.1 ∧ meth.locks = false ∧ (M.2.2.2.2.2 = true → meth.name = "<init>") ∧ d ≤ R.frames ∧ 40 * d ≤ R.locals ∧ MC ≤ R.cells ∧ MS ≤ R.slots ∧ b < B0 ∧ B0 ≤ s.heap.size
def mj_St (M : mj_M) (mc ms : Nat) (D : va_G) (b B0 MC MS : Nat) (as0 as : List Nat) (s : State) (H : Heap) (locs : List Loc) (ls : Array Slot) (cells slots : Nat) (lv st : List Value) (h : mj_H) : Prop :=
  mj_Hp D b as h (fun q => B0 ≤ q) s H ∧ va_S (fun q => B0 ≤ q) s.heap H locs ∧ (∃ ex, as = as0 ++ ex) ∧ lv_has ls M.2.2.1 (mj_al as 0 lv) ∧ mj_oks h.1 lv ∧ mj_oks h.1 st ∧ cells + mc ≤ MC ∧ slots + ms ≤ MS
def mj_ri (v : Option Value) : Instr := match v with
  | some (.int _) => .ireturn
  | some (.long _) => .lreturn
  | some (.double _) => .dreturn
  | some (.ref _) => .areturn
  | _ => .return_
def mj_rv (M : mj_M) (v : Option Value) : Prop := match v with
  | none => M.2.2.2.1 = none
  | some (.int x) => ∃ ty, M.2.2.2.1 = some ty ∧ narrow ty (.int x) = .int x
  | some (.long _) => M.2.2.2.1 = some .long
  | some (.double _) => M.2.2.2.1 = some .double
  | some (.ref _) => ∃ rt, M.2.2.2.1 = some rt ∧ ((∃ n, rt = .object n) ∨ ∃ t, rt = .array t)
  | _ => False
abbrev mj_Q : Type := Option Value → mj_H → Prop
/-- what the walk comes to at a return -/
def mj_E (M : mj_M) (Q : mj_Q) (p : Program) (l : Launch) (e : Env) (R : Room) (s : State) (m : MethodId) (args : Array Value) (below : List Frame) (meth : Method) (c : Code) (D : va_G) (b B0 MC MS : Nat) (as0 : List Nat) (QQ : State → Prop) : Prop :=
  ∀ (as : List Nat) (H : Heap) (locs : List Loc) (ls : Array Slot) (cells slots pc : Nat) (v : Option Value) (lv : List Value) (h : mj_H), Q v h → mj_rv M v → decode M.2.1 pc = .ok (mj_ri v, 1) →
    mj_St M 0 0 D b B0 MC MS as0 as s H locs ls cells slots lv v.toList h → W p l e R s m args below meth c H locs cells slots QQ (F0 m pc ls (v.toList.map (mj_t as)))
def mj_W (M : mj_M) (d mc ms : Nat) (Q : mj_Q) (pc : Nat) (lv st : List Value) (h : mj_H) : Prop :=
  ∀ (p : Program) (l : Launch) (e : Env) (R : Room) (s : State) (m : MethodId) (args : Array Value) (below : List Frame) (meth : Method) (c : Code) (D : va_G) (b B0 MC MS : Nat) (as0 : List Nat) (QQ : State → Prop),
    mj_X M d b B0 MC MS p R s m args meth c → mj_E M Q p l e R s m args below meth c D b B0 MC MS as0 QQ → ∀ (as : List Nat) (H : Heap) (locs : List Loc) (ls : Array Slot) (cells slots : Nat),
    mj_St M mc ms D b B0 MC MS as0 as s H locs ls cells slots lv st h → W p l e R s m args below meth c H locs cells slots QQ (F0 m pc ls (st.map (mj_t as)))
def mj_Pc (D : va_G) (b B0 : Nat) (as : List Nat) (args : List Value) (h : mj_H) : Array Value → State → Prop := fun a U =>
  a = (args.map (mj_t as)).toArray ∧ mj_Hp D b as h (fun q => B0 ≤ q) U U.heap ∧ mj_oks h.1 args ∧ mj_XW U ∧ b < B0 ∧ B0 ≤ U.heap.size
def mj_Qc (D : va_G) (b B0 : Nat) (as : List Nat) (Q : mj_Q) : Array Value → State → Outcome → State → Prop := fun _ st oc t =>
  (∃ (v : Option Value) (as1 : List Nat) (h1 : mj_H), oc = .returned (v.map (mj_t as1)) ∧ Q v h1 ∧ (∃ ex, as1 = as ++ ex) ∧ mj_Hp D b as1 h1 (fun q => B0 ≤ q) t t.heap ∧ mj_oks h1.1 v.toList) ∧ va_F (fun q => B0 ≤ q) st t
abbrev mj_ws (K : mj_M) : List Cond := Cond.code K.1 K.2.1 K.2.2.1 K.2.2.2.1 :: mj_TW
abbrev mj_rm (d mc ms : Nat) : Room := { frames := d, cells := mc, slots := ms, locals := 40 * d }
def mj_C (K : mj_M) (d mc ms : Nat) (args : List Value) (h : mj_H) (Q : mj_Q) : Prop :=
  ∀ (l : Launch) (D : va_G) (b B0 : Nat) (as : List Nat), Met l K.1 (mj_ws K) (mj_rm d mc ms) (mj_Pc D b B0 as args h) (mj_Qc D b B0 as Q) mc ms (fun q => B0 ≤ q)
/-! lists -/
theorem mj_t_cat (as : List Nat) (v : Value) : (mj_t as v).category = v.category := by cases v <;> rfl
theorem mj_cats (as : List Nat) (st : List Value) : ((st.map (mj_t as)).map fun v => v.category).sum = (st.map fun v => v.category).sum := by
  induction st with
  | nil => rfl
  | cons v st ih => simp only [List.map_cons, List.sum_cons, ih, mj_t_cat]
theorem mj_ok_mono {n k : Nat} (hnk : n ≤ k) {v : Value} (h : mj_ok n v) : mj_ok k v := by
  cases v <;> first | trivial | exact Nat.lt_of_lt_of_le h hnk
theorem mj_oks_mono {n k : Nat} (hnk : n ≤ k) : ∀ {st : List Value}, mj_oks n st → mj_oks k st
  | [], _ => trivial
  | _ :: _, h => ⟨mj_ok_mono hnk h.1, mj_oks_mono hnk h.2⟩
theorem mj_oks_app {n : Nat} : ∀ {a b : List Value}, mj_oks n (a ++ b) ↔ mj_oks n a ∧ mj_oks n b
  | [], b => by simp [mj_oks]
  | v :: a, b => by simp [mj_oks, mj_oks_app (a := a) (b := b), and_assoc]
theorem mj_oks_rev {n : Nat} : ∀ {a : List Value}, mj_oks n a.reverse ↔ mj_oks n a
  | [] => by simp [mj_oks]
  | v :: a => by simp [mj_oks, mj_oks_app, mj_oks_rev (a := a), and_comm]
theorem mj_oks_get {n : Nat} : ∀ {lv : List Value} {i : Nat} {v : Value}, mj_oks n lv → lv[i]? = some v → mj_ok n v
  | [], i, v, _, h => by simp at h
  | w :: lv, 0, v, h, e => by simp at e; subst e; exact h.1
  | w :: lv, i + 1, v, h, e => by simp at e; exact mj_oks_get h.2 e
theorem mj_oks_set {n : Nat} : ∀ {lv : List Value} {i : Nat} {v : Value}, mj_oks n lv → mj_ok n v → mj_oks n (lv.set i v)
  | [], i, v, h, _ => h
  | w :: lv, 0, v, h, e => ⟨e, h.2⟩
  | w :: lv, i + 1, v, h, e => ⟨h.1, mj_oks_set h.2 e⟩
theorem mj_t_app {as ex : List Nat} {v : Value} (h : mj_ok as.length v) : mj_t (as ++ ex) v = mj_t as v := by
  cases v <;> first | rfl | skip
  rename_i k
  have hk : k < as.length := h
  show Value.ref _ = Value.ref _
  rw [List.getD_eq_getElem?_getD, List.getD_eq_getElem?_getD, List.getElem?_append_left hk]
theorem mj_ts_app {as ex : List Nat} : ∀ {st : List Value}, mj_oks as.length st → st.map (mj_t (as ++ ex)) = st.map (mj_t as)
  | [], _ => rfl
  | v :: st, h => by rw [List.map_cons, List.map_cons, mj_t_app h.1, mj_ts_app h.2]
theorem mj_al_mem {as : List Nat} : ∀ (lv : List Value) (i0 : Nat) (q : Nat × Value), q ∈ mj_al as i0 lv ↔ ∃ (i : Nat) (v : Value), lv[i]? = some v ∧ v ≠ .null ∧ q = (i0 + i, mj_t as v)
  | [], i0, q => by simp [mj_al]
  | w :: lv, i0, q => by
    have ih := mj_al_mem (as := as) lv (i0 + 1) q
    by_cases hw : w = .null
    · subst hw
      rw [show mj_al as i0 (.null :: lv) = mj_al as (i0 + 1) lv from rfl, ih]
      constructor
      · rintro ⟨i, v, h1, h2, h3⟩
        exact ⟨i + 1, v, by simpa using h1, h2, by rw [h3]; congr 1; omega⟩
      · rintro ⟨i, v, h1, h2, h3⟩
        cases i with
        | zero => simp at h1; exact absurd h1.symm h2
        | succ i => exact ⟨i, v, by simpa using h1, h2, by rw [h3]; congr 1; omega⟩
    · have e : mj_al as i0 (w :: lv) = (i0, mj_t as w) :: mj_al as (i0 + 1) lv := by
        cases w <;> first | rfl | exact absurd rfl hw
      rw [e, List.mem_cons, ih]
      constructor
      · rintro (h | ⟨i, v, h1, h2, h3⟩)
        · exact ⟨0, w, by simp, hw, by rw [h]; rfl⟩
        · exact ⟨i + 1, v, by simpa using h1, h2, by rw [h3]; congr 1; omega⟩
      · rintro ⟨i, v, h1, h2, h3⟩
        cases i with
        | zero => simp at h1; subst h1; exact Or.inl h3
        | succ i => exact Or.inr ⟨i, v, by simpa using h1, h2, by rw [h3]; congr 1; omega⟩
theorem mj_al_app {as ex : List Nat} : ∀ (lv : List Value) (i0 : Nat), mj_oks as.length lv → mj_al (as ++ ex) i0 lv = mj_al as i0 lv
  | [], _, _ => rfl
  | w :: lv, i0, h => by
    have ih := mj_al_app (ex := ex) lv (i0 + 1) h.2
    have hw := mj_t_app (ex := ex) h.1
    cases w <;> first | exact ih | (show _ :: _ = _ :: _; rw [ih]; first | rfl | (rw [show mj_t (as ++ ex) _ = _ from hw]))
theorem mj_at {ls : Array Slot} {nL : Nat} {as : List Nat} {lv : List Value} (h : lv_has ls nL (mj_al as 0 lv)) {i : Nat} {v : Value} (hv : lv[i]? = some v) (hn : v ≠ .null) : ls[i]? = some (.val (mj_t as v)) := by
  have := h.2.2 (i, mj_t as v) ((mj_al_mem lv 0 _).mpr ⟨i, v, hv, hn, by rw [Nat.zero_add]⟩)
  exact this
/-- a place ahead holds no long -/
def mj_c1 (lv : List Value) (i : Nat) : Bool := match i with
  | 0 => true
  | j + 1 => match lv[j]? with
    | some w => w.category == 1
    | none => true
theorem mj_c1_spec {lv : List Value} {i j : Nat} {w : Value} (h : mj_c1 lv i = true) (hj : j + 1 = i) (hw : lv[j]? = some w) : ¬ w.category = 2 := by
  subst hj
  simp only [mj_c1, hw] at h
  have : w.category = 1 := by simpa using h
  omega
theorem mj_has_sub {ls : Array Slot} {nL : Nat} {l l' : List (Nat × Value)} (h : lv_has ls nL l) (hs : ∀ q ∈ l', q ∈ l) : lv_has ls nL l' := ⟨h.1, h.2.1, fun q hq => h.2.2 q (hs q hq)⟩
theorem mj_store1 {as : List Nat} {lv : List Value} {i : Nat} {v : Value} (hc : mj_c1 lv i = true) : ∀ q ∈ mj_al as 0 (lv.set i v), q ∈ (i, mj_t as v) :: (mj_al as 0 lv).filter (fun q => !(q.1 == i) && !(q.1 + 1 == i && q.2.category == 2)) := by
  intro q hq
  obtain ⟨j, w, h1, h2, rfl⟩ := (mj_al_mem _ 0 q).mp hq
  rw [Nat.zero_add]
  rw [List.getElem?_set] at h1
  by_cases hj : i = j
  · subst hj
    rw [if_pos rfl] at h1
    split at h1
    · cases h1; exact List.mem_cons_self
    · cases h1
  · rw [if_neg hj] at h1
    refine List.mem_cons_of_mem _ (List.mem_filter.mpr ⟨(mj_al_mem lv 0 _).mpr ⟨j, w, h1, h2, by rw [Nat.zero_add]⟩, ?_⟩)
    have hne : ¬ j = i := fun e => hj e.symm
    by_cases hji : j + 1 = i
    · have := mj_c1_spec hc hji h1
      simp [hne, mj_t_cat, this]
    · simp [hne, hji]
theorem mj_store2 {as : List Nat} {lv : List Value} {i : Nat} {v : Value} (hc : mj_c1 lv i = true) : ∀ q ∈ mj_al as 0 ((lv.set i v).set (i + 1) .null), q ∈ (i, mj_t as v) :: (mj_al as 0 lv).filter (fun q => !(q.1 == i) && (!(q.1 == i + 1) && !(q.1 + 1 == i && q.2.category == 2))) := by
  intro q hq
  obtain ⟨j, w, h1, h2, rfl⟩ := (mj_al_mem _ 0 q).mp hq
  rw [Nat.zero_add]
  rw [List.getElem?_set] at h1
  by_cases hj1 : i + 1 = j
  · rw [if_pos hj1] at h1
    split at h1
    · cases h1; exact absurd rfl h2
    · cases h1
  · rw [if_neg hj1, List.getElem?_set] at h1
    by_cases hj : i = j
    · subst hj
      rw [if_pos rfl] at h1
      split at h1
      · cases h1; exact List.mem_cons_self
      · cases h1
    · rw [if_neg hj] at h1
      refine List.mem_cons_of_mem _ (List.mem_filter.mpr ⟨(mj_al_mem lv 0 _).mpr ⟨j, w, h1, h2, by rw [Nat.zero_add]⟩, ?_⟩)
      have hne : ¬ j = i := fun e => hj e.symm
      have hne1 : ¬ j = i + 1 := fun e => hj1 e.symm
      by_cases hji : j + 1 = i
      · have := mj_c1_spec hc hji h1
        simp [hne, hne1, mj_t_cat, this]
      · simp [hne, hne1, hji]
end
section
/-! THE RULES: an instruction each, over the mini machine -/
theorem mj_rem (x y : Int32) : x - x / y * y = x % y := by
  apply Int32.toInt_inj.mp
  rw [Int32.toInt_sub, Int32.toInt_mul, Int32.toInt_div]
  rw [Int.bmod_mul_bmod, Int.sub_bmod_bmod]
  have h := Int.tmod_add_mul_tdiv x.toInt y.toInt
  have e : x.toInt - x.toInt.tdiv y.toInt * y.toInt = (x % y).toInt := by
    rw [Int32.toInt_mod, Int.mul_comm]
    omega
  rw [e, show (2 : Nat) ^ 32 = 4294967296 from rfl, Int32.toInt_bmod]
section MJ1
variable {M : mj_M} {d mc ms : Nat} {Q : mj_Q} {pc q : Nat} {lv st : List Value} {h : mj_H}
theorem mj_pure {st1 st2 : List Value}
    (hs : ∀ (p : Program) (l : Launch) (e : Env) (R : Room) (s : State) (m : MethodId) (args : Array Value) (below : List Frame) (meth : Method) (c : Code) (H : Heap) (locs : List Loc) (cells slots : Nat) (QQ : State → Prop) (ls : Array Slot) (as : List Nat), p.tables.exec = Jvm.exec → c.code = M.2.1 →
      W p l e R s m args below meth c H locs cells slots QQ (F0 m q ls (st2.map (mj_t as))) → W p l e R s m args below meth c H locs cells slots QQ (F0 m pc ls (st1.map (mj_t as))))
    (ho : ∀ n, mj_oks n st1 → mj_oks n st2) (k : mj_W M d mc ms Q q lv st2 h) : mj_W M d mc ms Q pc lv st1 h := by
  intro p l e R s m args below meth c D b B0 MC MS as0 QQ X E as H locs ls cells slots S
  obtain ⟨s1, s2, s3, s4, s5, s6, s7, s8⟩ := S
  exact hs p l e R s m args below meth c H locs cells slots QQ ls as X.1 X.2.1 (k p l e R s m args below meth c D b B0 MC MS as0 QQ X E as H locs ls cells slots ⟨s1, s2, s3, s4, s5, ho _ s6, s7, s8⟩)
theorem mj_load {i : Nat} {v : Value} (hl : lv[i]? = some v) (hn : v ≠ .null)
    (hs : ∀ (p : Program) (l : Launch) (e : Env) (R : Room) (s : State) (m : MethodId) (args : Array Value) (below : List Frame) (meth : Method) (c : Code) (H : Heap) (locs : List Loc) (cells slots : Nat) (QQ : State → Prop) (ls : Array Slot) (as : List Nat), p.tables.exec = Jvm.exec → c.code = M.2.1 → ls[i]? = some (.val (mj_t as v)) →
      W p l e R s m args below meth c H locs cells slots QQ (F0 m q ls ((v :: st).map (mj_t as))) → W p l e R s m args below meth c H locs cells slots QQ (F0 m pc ls (st.map (mj_t as))))
    (k : mj_W M d mc ms Q q lv (v :: st) h) : mj_W M d mc ms Q pc lv st h := by
  intro p l e R s m args below meth c D b B0 MC MS as0 QQ X E as H locs ls cells slots S
  obtain ⟨s1, s2, s3, s4, s5, s6, s7, s8⟩ := S
  exact hs p l e R s m args below meth c H locs cells slots QQ ls as X.1 X.2.1 (mj_at s4 hl hn) (k p l e R s m args below meth c D b B0 MC MS as0 QQ X E as H locs ls cells slots ⟨s1, s2, s3, s4, s5, ⟨mj_oks_get s5 hl, s6⟩, s7, s8⟩)
theorem mj_iadd {x y : Int32} (hd : decode M.2.1 pc = .ok (.iadd, 1)) (hq : pc + 1 = q) (k : mj_W M d mc ms Q q lv (.int (x + y) :: st) h) : mj_W M d mc ms Q pc lv (.int y :: .int x :: st) h := by
  subst hq
  exact mj_pure (st1 := .int y :: .int x :: st) (st2 := .int (x + y) :: st) (fun _ _ _ _ _ _ _ _ _ _ _ _ _ _ _ _ _ hx hb => lv_iadd hx hb hd) (fun _ h => ⟨trivial, h.2.2⟩) k
theorem mj_isub {x y : Int32} (hd : decode M.2.1 pc = .ok (.isub, 1)) (hq : pc + 1 = q) (k : mj_W M d mc ms Q q lv (.int (x - y) :: st) h) : mj_W M d mc ms Q pc lv (.int y :: .int x :: st) h := by
  subst hq
  exact mj_pure (st1 := .int y :: .int x :: st) (st2 := .int (x - y) :: st) (fun _ _ _ _ _ _ _ _ _ _ _ _ _ _ _ _ _ hx hb => lv_isub hx hb hd) (fun _ h => ⟨trivial, h.2.2⟩) k
theorem mj_imul {x y : Int32} (hd : decode M.2.1 pc = .ok (.imul, 1)) (hq : pc + 1 = q) (k : mj_W M d mc ms Q q lv (.int (x * y) :: st) h) : mj_W M d mc ms Q pc lv (.int y :: .int x :: st) h := by
  subst hq
  exact mj_pure (st1 := .int y :: .int x :: st) (st2 := .int (x * y) :: st) (fun _ _ _ _ _ _ _ _ _ _ _ _ _ _ _ _ _ hx hb => lv_imul hx hb hd) (fun _ h => ⟨trivial, h.2.2⟩) k
theorem mj_iand {x y : Int32} (hd : decode M.2.1 pc = .ok (.iand, 1)) (hq : pc + 1 = q) (k : mj_W M d mc ms Q q lv (.int (x &&& y) :: st) h) : mj_W M d mc ms Q pc lv (.int y :: .int x :: st) h := by
  subst hq
  exact mj_pure (st1 := .int y :: .int x :: st) (st2 := .int (x &&& y) :: st) (fun _ _ _ _ _ _ _ _ _ _ _ _ _ _ _ _ _ hx hb => lv_iand hx hb hd) (fun _ h => ⟨trivial, h.2.2⟩) k
theorem mj_ior {x y : Int32} (hd : decode M.2.1 pc = .ok (.ior, 1)) (hq : pc + 1 = q) (k : mj_W M d mc ms Q q lv (.int (x ||| y) :: st) h) : mj_W M d mc ms Q pc lv (.int y :: .int x :: st) h := by
  subst hq
  exact mj_pure (st1 := .int y :: .int x :: st) (st2 := .int (x ||| y) :: st) (fun _ _ _ _ _ _ _ _ _ _ _ _ _ _ _ _ _ hx hb => lv_ior hx hb hd) (fun _ h => ⟨trivial, h.2.2⟩) k
theorem mj_ladd {x y : Int64} (hd : decode M.2.1 pc = .ok (.ladd, 1)) (hq : pc + 1 = q) (k : mj_W M d mc ms Q q lv (.long (x + y) :: st) h) : mj_W M d mc ms Q pc lv (.long y :: .long x :: st) h := by
  subst hq
  exact mj_pure (st1 := .long y :: .long x :: st) (st2 := .long (x + y) :: st) (fun _ _ _ _ _ _ _ _ _ _ _ _ _ _ _ _ _ hx hb => lv_ladd hx hb hd) (fun _ h => ⟨trivial, h.2.2⟩) k
theorem mj_lmul {x y : Int64} (hd : decode M.2.1 pc = .ok (.lmul, 1)) (hq : pc + 1 = q) (k : mj_W M d mc ms Q q lv (.long (x * y) :: st) h) : mj_W M d mc ms Q pc lv (.long y :: .long x :: st) h := by
  subst hq
  exact mj_pure (st1 := .long y :: .long x :: st) (st2 := .long (x * y) :: st) (fun _ _ _ _ _ _ _ _ _ _ _ _ _ _ _ _ _ hx hb => lv_lmul hx hb hd) (fun _ h => ⟨trivial, h.2.2⟩) k
theorem mj_land {x y : Int64} (hd : decode M.2.1 pc = .ok (.land, 1)) (hq : pc + 1 = q) (k : mj_W M d mc ms Q q lv (.long (x &&& y) :: st) h) : mj_W M d mc ms Q pc lv (.long y :: .long x :: st) h := by
  subst hq
  exact mj_pure (st1 := .long y :: .long x :: st) (st2 := .long (x &&& y) :: st) (fun _ _ _ _ _ _ _ _ _ _ _ _ _ _ _ _ _ hx hb => lv_land hx hb hd) (fun _ h => ⟨trivial, h.2.2⟩) k
theorem mj_idiv {x y : Int32} (hne : ¬ y = 0) (hd : decode M.2.1 pc = .ok (.idiv, 1)) (hq : pc + 1 = q) (k : mj_W M d mc ms Q q lv (.int (x / y) :: st) h) : mj_W M d mc ms Q pc lv (.int y :: .int x :: st) h := by
  subst hq
  exact mj_pure (st1 := .int y :: .int x :: st) (st2 := .int (x / y) :: st) (fun _ _ _ _ _ _ _ _ _ _ _ _ _ _ _ _ _ hx hb => lv_idiv hx hb hd hne) (fun _ h => ⟨trivial, h.2.2⟩) k
theorem mj_irem {x y : Int32} (hne : ¬ y = 0) (hd : decode M.2.1 pc = .ok (.irem, 1)) (hq : pc + 1 = q) (k : mj_W M d mc ms Q q lv (.int (x % y) :: st) h) : mj_W M d mc ms Q pc lv (.int y :: .int x :: st) h := by
  subst hq
  exact mj_pure (st1 := .int y :: .int x :: st) (st2 := .int (x % y) :: st) (fun _ _ _ _ _ _ _ _ _ _ _ _ _ _ _ _ _ hx hb => by rw [← mj_rem]; exact lv_irem hx hb hd hne) (fun _ h => ⟨trivial, h.2.2⟩) k
theorem mj_ishl {x y : Int32} (hd : decode M.2.1 pc = .ok (.ishl, 1)) (hq : pc + 1 = q) (k : mj_W M d mc ms Q q lv (.int (x <<< (y &&& 31)) :: st) h) : mj_W M d mc ms Q pc lv (.int y :: .int x :: st) h := by
  subst hq
  exact mj_pure (st1 := .int y :: .int x :: st) (st2 := .int (x <<< (y &&& 31)) :: st) (fun _ _ _ _ _ _ _ _ _ _ _ _ _ _ _ _ _ hx hb => lv_ishl hx hb hd) (fun _ h => ⟨trivial, h.2.2⟩) k
theorem mj_ishr {x y : Int32} (hd : decode M.2.1 pc = .ok (.ishr, 1)) (hq : pc + 1 = q) (k : mj_W M d mc ms Q q lv (.int (x >>> (y &&& 31)) :: st) h) : mj_W M d mc ms Q pc lv (.int y :: .int x :: st) h := by
  subst hq
  exact mj_pure (st1 := .int y :: .int x :: st) (st2 := .int (x >>> (y &&& 31)) :: st) (fun _ _ _ _ _ _ _ _ _ _ _ _ _ _ _ _ _ hx hb => lv_ishr hx hb hd) (fun _ h => ⟨trivial, h.2.2⟩) k
theorem mj_ineg {x : Int32} (hd : decode M.2.1 pc = .ok (.ineg, 1)) (hq : pc + 1 = q) (k : mj_W M d mc ms Q q lv (.int (0 - x) :: st) h) : mj_W M d mc ms Q pc lv (.int x :: st) h := by
  subst hq
  exact mj_pure (st1 := .int x :: st) (st2 := .int (0 - x) :: st) (fun _ _ _ _ _ _ _ _ _ _ _ _ _ _ _ _ _ hx hb => lv_ineg hx hb hd) (fun _ h => ⟨trivial, h.2⟩) k
theorem mj_i2l {x : Int32} (hd : decode M.2.1 pc = .ok (.i2l, 1)) (hq : pc + 1 = q) (k : mj_W M d mc ms Q q lv (.long x.toInt64 :: st) h) : mj_W M d mc ms Q pc lv (.int x :: st) h := by
  subst hq
  exact mj_pure (st1 := .int x :: st) (st2 := .long x.toInt64 :: st) (fun _ _ _ _ _ _ _ _ _ _ _ _ _ _ _ _ _ hx hb => lv_i2l hx hb hd rfl) (fun _ h => ⟨trivial, h.2⟩) k
theorem mj_i2d {x : Int32} (hd : decode M.2.1 pc = .ok (.i2d, 1)) (hq : pc + 1 = q) (k : mj_W M d mc ms Q q lv (.double (FP.i2d x) :: st) h) : mj_W M d mc ms Q pc lv (.int x :: st) h := by
  subst hq
  exact mj_pure (st1 := .int x :: st) (st2 := .double (FP.i2d x) :: st) (fun _ _ _ _ _ _ _ _ _ _ _ _ _ _ _ _ _ hx hb => lv_i2d hx hb hd) (fun _ h => ⟨trivial, h.2⟩) k
theorem mj_iconst {n : Int} (hd : decode M.2.1 pc = .ok (.iconst n, 1)) (hq : pc + 1 = q) (k : mj_W M d mc ms Q q lv (.int (Int32.ofInt n) :: st) h) : mj_W M d mc ms Q pc lv (st) h := by
  subst hq
  exact mj_pure (st1 := st) (st2 := .int (Int32.ofInt n) :: st) (fun _ _ _ _ _ _ _ _ _ _ _ _ _ _ _ _ _ hx hb => lv_iconst hx hb hd rfl) (fun _ h => ⟨trivial, h⟩) k
theorem mj_bipush {n : Int} (hd : decode M.2.1 pc = .ok (.bipush n, 2)) (hq : pc + 2 = q) (k : mj_W M d mc ms Q q lv (.int ((Int8.ofInt n).toInt32) :: st) h) : mj_W M d mc ms Q pc lv (st) h := by
  subst hq
  exact mj_pure (st1 := st) (st2 := .int ((Int8.ofInt n).toInt32) :: st) (fun _ _ _ _ _ _ _ _ _ _ _ _ _ _ _ _ _ hx hb => lv_bipush hx hb hd rfl) (fun _ h => ⟨trivial, h⟩) k
theorem mj_sipush {n : Int} (hd : decode M.2.1 pc = .ok (.sipush n, 3)) (hq : pc + 3 = q) (k : mj_W M d mc ms Q q lv (.int ((Int16.ofInt n).toInt32) :: st) h) : mj_W M d mc ms Q pc lv (st) h := by
  subst hq
  exact mj_pure (st1 := st) (st2 := .int ((Int16.ofInt n).toInt32) :: st) (fun _ _ _ _ _ _ _ _ _ _ _ _ _ _ _ _ _ hx hb => lv_sipush hx hb hd rfl) (fun _ h => ⟨trivial, h⟩) k
theorem mj_num1 {n : Int} {v : Int32} (hv : Int32.ofInt n = v) (hd : decode M.2.1 pc = .ok (.iconst n, 1)) (hq : pc + 1 = q) (k : mj_W M d mc ms Q q lv (.int v :: st) h) : mj_W M d mc ms Q pc lv (st) h := by
  subst hq
  exact mj_pure (st1 := st) (st2 := .int v :: st) (fun _ _ _ _ _ _ _ _ _ _ _ _ _ _ _ _ _ hx hb => lv_iconst hx hb hd hv) (fun _ h => ⟨trivial, h⟩) k
theorem mj_num2 {n : Int} {v : Int32} (hv : (Int8.ofInt n).toInt32 = v) (hd : decode M.2.1 pc = .ok (.bipush n, 2)) (hq : pc + 2 = q) (k : mj_W M d mc ms Q q lv (.int v :: st) h) : mj_W M d mc ms Q pc lv (st) h := by
  subst hq
  exact mj_pure (st1 := st) (st2 := .int v :: st) (fun _ _ _ _ _ _ _ _ _ _ _ _ _ _ _ _ _ hx hb => lv_bipush hx hb hd hv) (fun _ h => ⟨trivial, h⟩) k
theorem mj_num3 {n : Int} {v : Int32} (hv : (Int16.ofInt n).toInt32 = v) (hd : decode M.2.1 pc = .ok (.sipush n, 3)) (hq : pc + 3 = q) (k : mj_W M d mc ms Q q lv (.int v :: st) h) : mj_W M d mc ms Q pc lv (st) h := by
  subst hq
  exact mj_pure (st1 := st) (st2 := .int v :: st) (fun _ _ _ _ _ _ _ _ _ _ _ _ _ _ _ _ _ hx hb => lv_sipush hx hb hd hv) (fun _ h => ⟨trivial, h⟩) k
theorem mj_dconst0  (hd : decode M.2.1 pc = .ok (.dconst 0, 1)) (hq : pc + 1 = q) (k : mj_W M d mc ms Q q lv (.double FP.dconst0 :: st) h) : mj_W M d mc ms Q pc lv (st) h := by
  subst hq
  exact mj_pure (st1 := st) (st2 := .double FP.dconst0 :: st) (fun _ _ _ _ _ _ _ _ _ _ _ _ _ _ _ _ _ hx hb => lv_dconst0 hx hb hd) (fun _ h => ⟨trivial, h⟩) k
theorem mj_dup {v : Value} (hc : v.category = 1) (hd : decode M.2.1 pc = .ok (.dup, 1)) (hq : pc + 1 = q) (k : mj_W M d mc ms Q q lv (v :: v :: st) h) : mj_W M d mc ms Q pc lv (v :: st) h := by
  subst hq
  exact mj_pure (st1 := v :: st) (st2 := v :: v :: st) (fun _ _ _ _ _ _ _ _ _ _ _ _ _ _ _ _ _ hx hb => lv_dup hx hb hd (by rw [mj_t_cat]; exact hc)) (fun _ h => ⟨h.1, h⟩) k
theorem mj_pop {v : Value} (hc : v.category = 1) (hd : decode M.2.1 pc = .ok (.pop, 1)) (hq : pc + 1 = q) (k : mj_W M d mc ms Q q lv (st) h) : mj_W M d mc ms Q pc lv (v :: st) h := by
  subst hq
  exact mj_pure (st1 := v :: st) (st2 := st) (fun _ _ _ _ _ _ _ _ _ _ _ _ _ _ _ _ _ hx hb => lv_pop hx hb hd (by rw [mj_t_cat]; exact hc)) (fun _ h => h.2) k
theorem mj_dup2 {v w : Value} (hc : v.category = 1) (hw : w.category = 1) (hd : decode M.2.1 pc = .ok (.dup2, 1)) (hq : pc + 1 = q) (k : mj_W M d mc ms Q q lv (v :: w :: v :: w :: st) h) : mj_W M d mc ms Q pc lv (v :: w :: st) h := by
  subst hq
  exact mj_pure (st1 := v :: w :: st) (st2 := v :: w :: v :: w :: st) (fun _ _ _ _ _ _ _ _ _ _ _ _ _ _ _ _ _ hx hb => lv_dup2_11 hx hb hd (by rw [mj_t_cat]; exact hc) (by rw [mj_t_cat]; exact hw)) (fun _ h => ⟨h.1, h.2.1, h⟩) k
theorem mj_lcmp {x y : Int64} (hd : decode M.2.1 pc = .ok (.lcmp, 1)) (hq : pc + 1 = q) (k : mj_W M d mc ms Q q lv (.int (lg_cmp x y) :: st) h) : mj_W M d mc ms Q pc lv (.long y :: .long x :: st) h := by
  subst hq
  exact mj_pure (st1 := .long y :: .long x :: st) (st2 := .int (lg_cmp x y) :: st) (fun _ _ _ _ _ _ _ _ _ _ _ _ _ _ _ _ _ hx hb => W.lcmp hx hb hd) (fun _ h => ⟨trivial, h.2.2⟩) k
theorem mj_dcmp {x y : UInt64} {op : CmpOp} (hd : decode M.2.1 pc = .ok (.dcmp op, 1)) (hq : pc + 1 = q) (k : mj_W M d mc ms Q q lv (.int (Op.cmpValue (FP.dcmp x y) op) :: st) h) : mj_W M d mc ms Q pc lv (.double y :: .double x :: st) h := by
  subst hq
  exact mj_pure (st1 := .double y :: .double x :: st) (st2 := .int (Op.cmpValue (FP.dcmp x y) op) :: st) (fun _ _ _ _ _ _ _ _ _ _ _ _ _ _ _ _ _ hx hb => lv_dcmp hx hb hd) (fun _ h => ⟨trivial, h.2.2⟩) k
theorem mj_dsub {x y : UInt64} (hne : vf_n64 (FP.dsub x y)) (hd : decode M.2.1 pc = .ok (.dsub, 1)) (hq : pc + 1 = q) (k : mj_W M d mc ms Q q lv (.double (FP.dsub x y) :: st) h) : mj_W M d mc ms Q pc lv (.double y :: .double x :: st) h := by
  subst hq
  exact mj_pure (st1 := .double y :: .double x :: st) (st2 := .double (FP.dsub x y) :: st) (fun _ _ _ _ _ _ _ _ _ _ _ _ _ _ _ _ _ hx hb => lv_dsub hx hb hd hne) (fun _ h => ⟨trivial, h.2.2⟩) k
theorem mj_dmul {x y : UInt64} (hne : vf_n64 (FP.dmul x y)) (hd : decode M.2.1 pc = .ok (.dmul, 1)) (hq : pc + 1 = q) (k : mj_W M d mc ms Q q lv (.double (FP.dmul x y) :: st) h) : mj_W M d mc ms Q pc lv (.double y :: .double x :: st) h := by
  subst hq
  exact mj_pure (st1 := .double y :: .double x :: st) (st2 := .double (FP.dmul x y) :: st) (fun _ _ _ _ _ _ _ _ _ _ _ _ _ _ _ _ _ hx hb => lv_dmul hx hb hd hne) (fun _ h => ⟨trivial, h.2.2⟩) k
theorem mj_ddiv {x y : UInt64} (hne : vf_n64 (FP.ddiv x y)) (hd : decode M.2.1 pc = .ok (.ddiv, 1)) (hq : pc + 1 = q) (k : mj_W M d mc ms Q q lv (.double (FP.ddiv x y) :: st) h) : mj_W M d mc ms Q pc lv (.double y :: .double x :: st) h := by
  subst hq
  exact mj_pure (st1 := .double y :: .double x :: st) (st2 := .double (FP.ddiv x y) :: st) (fun _ _ _ _ _ _ _ _ _ _ _ _ _ _ _ _ _ hx hb => lv_ddiv hx hb hd hne) (fun _ h => ⟨trivial, h.2.2⟩) k
theorem mj_iload {i : Nat} {x : Int32} (hd : decode M.2.1 pc = .ok (.iload i, 2)) (hq : pc + 2 = q) (hl : lv[i]? = some (.int x)) (k : mj_W M d mc ms Q q lv (.int x :: st) h) : mj_W M d mc ms Q pc lv st h := by
  subst hq
  exact mj_load hl (by simp) (fun _ _ _ _ _ _ _ _ _ _ _ _ _ _ _ _ _ hx hb ha => lv_iload hx hb hd ha) k
theorem mj_iload_n {i : Nat} {j : Fin 4} {x : Int32} (hd : decode M.2.1 pc = .ok (.iload_n j, 1)) (hi : (j : Nat) = i) (hq : pc + 1 = q) (hl : lv[i]? = some (.int x)) (k : mj_W M d mc ms Q q lv (.int x :: st) h) : mj_W M d mc ms Q pc lv st h := by
  subst hq
  exact mj_load hl (by simp) (fun _ _ _ _ _ _ _ _ _ _ _ _ _ _ _ _ _ hx hb ha => lv_iload_n hx hb hd hi ha) k
theorem mj_lload {i : Nat} {x : Int64} (hd : decode M.2.1 pc = .ok (.lload i, 2)) (hq : pc + 2 = q) (hl : lv[i]? = some (.long x)) (k : mj_W M d mc ms Q q lv (.long x :: st) h) : mj_W M d mc ms Q pc lv st h := by
  subst hq
  exact mj_load hl (by simp) (fun _ _ _ _ _ _ _ _ _ _ _ _ _ _ _ _ _ hx hb ha => lv_lload hx hb hd ha) k
theorem mj_lload_n {i : Nat} {j : Fin 4} {x : Int64} (hd : decode M.2.1 pc = .ok (.lload_n j, 1)) (hi : (j : Nat) = i) (hq : pc + 1 = q) (hl : lv[i]? = some (.long x)) (k : mj_W M d mc ms Q q lv (.long x :: st) h) : mj_W M d mc ms Q pc lv st h := by
  subst hq
  exact mj_load hl (by simp) (fun _ _ _ _ _ _ _ _ _ _ _ _ _ _ _ _ _ hx hb ha => lv_lload_n hx hb hd hi ha) k
theorem mj_aload {i : Nat} {x : Nat} (hd : decode M.2.1 pc = .ok (.aload i, 2)) (hq : pc + 2 = q) (hl : lv[i]? = some (.ref x)) (k : mj_W M d mc ms Q q lv (.ref x :: st) h) : mj_W M d mc ms Q pc lv st h := by
  subst hq
  exact mj_load hl (by simp) (fun _ _ _ _ _ _ _ _ _ _ _ _ _ _ _ _ _ hx hb ha => lv_aload hx hb hd ha) k
theorem mj_aload_n {i : Nat} {j : Fin 4} {x : Nat} (hd : decode M.2.1 pc = .ok (.aload_n j, 1)) (hi : (j : Nat) = i) (hq : pc + 1 = q) (hl : lv[i]? = some (.ref x)) (k : mj_W M d mc ms Q q lv (.ref x :: st) h) : mj_W M d mc ms Q pc lv st h := by
  subst hq
  exact mj_load hl (by simp) (fun _ _ _ _ _ _ _ _ _ _ _ _ _ _ _ _ _ hx hb ha => lv_aload_n hx hb hd hi ha) k
theorem mj_dload {i : Nat} {x : UInt64} (hd : decode M.2.1 pc = .ok (.dload i, 2)) (hq : pc + 2 = q) (hl : lv[i]? = some (.double x)) (k : mj_W M d mc ms Q q lv (.double x :: st) h) : mj_W M d mc ms Q pc lv st h := by
  subst hq
  exact mj_load hl (by simp) (fun _ _ _ _ _ _ _ _ _ _ _ _ _ _ _ _ _ hx hb ha => lv_dload hx hb hd ha) k
theorem mj_dload_n {i : Nat} {j : Fin 4} {x : UInt64} (hd : decode M.2.1 pc = .ok (.dload_n j, 1)) (hi : (j : Nat) = i) (hq : pc + 1 = q) (hl : lv[i]? = some (.double x)) (k : mj_W M d mc ms Q q lv (.double x :: st) h) : mj_W M d mc ms Q pc lv st h := by
  subst hq
  exact mj_load hl (by simp) (fun _ _ _ _ _ _ _ _ _ _ _ _ _ _ _ _ _ hx hb ha => lv_dload_n hx hb hd hi ha) k
theorem mj_istore {i : Nat} {x : Int32} (hd : decode M.2.1 pc = .ok (.istore i, 2)) (hq : pc + 2 = q) (hlt : i < M.2.2.1) (hc : mj_c1 lv i = true) (k : mj_W M d mc ms Q q (lv.set i (.int x)) st h) : mj_W M d mc ms Q pc lv (.int x :: st) h := by
  subst hq
  intro p l e R s m args below meth c D b B0 MC MS as0 QQ X E as H locs ls cells slots S
  obtain ⟨s1, s2, s3, s4, s5, s6, s7, s8⟩ := S
  exact lv_istore X.1 X.2.1 hd s4 hlt rfl (fun ls' hl' => k p l e R s m args below meth c D b B0 MC MS as0 QQ X E as H locs ls' cells slots ⟨s1, s2, s3, mj_has_sub hl' (mj_store1 hc), mj_oks_set s5 trivial, s6.2, s7, s8⟩)
theorem mj_istore_n {i : Nat} {j : Fin 4} {x : Int32} (hd : decode M.2.1 pc = .ok (.istore_n j, 1)) (hi : (j : Nat) = i) (hq : pc + 1 = q) (hlt : i < M.2.2.1) (hc : mj_c1 lv i = true) (k : mj_W M d mc ms Q q (lv.set i (.int x)) st h) : mj_W M d mc ms Q pc lv (.int x :: st) h := by
  subst hq
  intro p l e R s m args below meth c D b B0 MC MS as0 QQ X E as H locs ls cells slots S
  obtain ⟨s1, s2, s3, s4, s5, s6, s7, s8⟩ := S
  exact lv_istore_n X.1 X.2.1 hd hi s4 hlt rfl (fun ls' hl' => k p l e R s m args below meth c D b B0 MC MS as0 QQ X E as H locs ls' cells slots ⟨s1, s2, s3, mj_has_sub hl' (mj_store1 hc), mj_oks_set s5 trivial, s6.2, s7, s8⟩)
theorem mj_lstore {i : Nat} {x : Int64} (hd : decode M.2.1 pc = .ok (.lstore i, 2)) (hq : pc + 2 = q) (hlt : i + 1 < M.2.2.1) (hc : mj_c1 lv i = true) (k : mj_W M d mc ms Q q ((lv.set i (.long x)).set (i + 1) .null) st h) : mj_W M d mc ms Q pc lv (.long x :: st) h := by
  subst hq
  intro p l e R s m args below meth c D b B0 MC MS as0 QQ X E as H locs ls cells slots S
  obtain ⟨s1, s2, s3, s4, s5, s6, s7, s8⟩ := S
  exact lv_lstore X.1 X.2.1 hd s4 hlt rfl (fun ls' hl' => k p l e R s m args below meth c D b B0 MC MS as0 QQ X E as H locs ls' cells slots ⟨s1, s2, s3, mj_has_sub hl' (mj_store2 hc), mj_oks_set (mj_oks_set s5 trivial) trivial, s6.2, s7, s8⟩)
theorem mj_lstore_n {i : Nat} {j : Fin 4} {x : Int64} (hd : decode M.2.1 pc = .ok (.lstore_n j, 1)) (hi : (j : Nat) = i) (hq : pc + 1 = q) (hlt : i + 1 < M.2.2.1) (hc : mj_c1 lv i = true) (k : mj_W M d mc ms Q q ((lv.set i (.long x)).set (i + 1) .null) st h) : mj_W M d mc ms Q pc lv (.long x :: st) h := by
  subst hq
  intro p l e R s m args below meth c D b B0 MC MS as0 QQ X E as H locs ls cells slots S
  obtain ⟨s1, s2, s3, s4, s5, s6, s7, s8⟩ := S
  exact lv_lstore_n X.1 X.2.1 hd hi s4 hlt rfl (fun ls' hl' => k p l e R s m args below meth c D b B0 MC MS as0 QQ X E as H locs ls' cells slots ⟨s1, s2, s3, mj_has_sub hl' (mj_store2 hc), mj_oks_set (mj_oks_set s5 trivial) trivial, s6.2, s7, s8⟩)
theorem mj_astore {i : Nat} {x : Nat} (hd : decode M.2.1 pc = .ok (.astore i, 2)) (hq : pc + 2 = q) (hlt : i < M.2.2.1) (hc : mj_c1 lv i = true) (k : mj_W M d mc ms Q q (lv.set i (.ref x)) st h) : mj_W M d mc ms Q pc lv (.ref x :: st) h := by
  subst hq
  intro p l e R s m args below meth c D b B0 MC MS as0 QQ X E as H locs ls cells slots S
  obtain ⟨s1, s2, s3, s4, s5, s6, s7, s8⟩ := S
  exact lv_astore X.1 X.2.1 hd s4 hlt rfl (fun ls' hl' => k p l e R s m args below meth c D b B0 MC MS as0 QQ X E as H locs ls' cells slots ⟨s1, s2, s3, mj_has_sub hl' (mj_store1 hc), mj_oks_set s5 s6.1, s6.2, s7, s8⟩)
theorem mj_astore_n {i : Nat} {j : Fin 4} {x : Nat} (hd : decode M.2.1 pc = .ok (.astore_n j, 1)) (hi : (j : Nat) = i) (hq : pc + 1 = q) (hlt : i < M.2.2.1) (hc : mj_c1 lv i = true) (k : mj_W M d mc ms Q q (lv.set i (.ref x)) st h) : mj_W M d mc ms Q pc lv (.ref x :: st) h := by
  subst hq
  intro p l e R s m args below meth c D b B0 MC MS as0 QQ X E as H locs ls cells slots S
  obtain ⟨s1, s2, s3, s4, s5, s6, s7, s8⟩ := S
  exact lv_astore_n X.1 X.2.1 hd hi s4 hlt rfl (fun ls' hl' => k p l e R s m args below meth c D b B0 MC MS as0 QQ X E as H locs ls' cells slots ⟨s1, s2, s3, mj_has_sub hl' (mj_store1 hc), mj_oks_set s5 s6.1, s6.2, s7, s8⟩)
theorem mj_dstore {i : Nat} {x : UInt64} (hd : decode M.2.1 pc = .ok (.dstore i, 2)) (hq : pc + 2 = q) (hlt : i + 1 < M.2.2.1) (hc : mj_c1 lv i = true) (k : mj_W M d mc ms Q q ((lv.set i (.double x)).set (i + 1) .null) st h) : mj_W M d mc ms Q pc lv (.double x :: st) h := by
  subst hq
  intro p l e R s m args below meth c D b B0 MC MS as0 QQ X E as H locs ls cells slots S
  obtain ⟨s1, s2, s3, s4, s5, s6, s7, s8⟩ := S
  exact lv_dstore X.1 X.2.1 hd s4 hlt rfl (fun ls' hl' => k p l e R s m args below meth c D b B0 MC MS as0 QQ X E as H locs ls' cells slots ⟨s1, s2, s3, mj_has_sub hl' (mj_store2 hc), mj_oks_set (mj_oks_set s5 trivial) trivial, s6.2, s7, s8⟩)
theorem mj_dstore_n {i : Nat} {j : Fin 4} {x : UInt64} (hd : decode M.2.1 pc = .ok (.dstore_n j, 1)) (hi : (j : Nat) = i) (hq : pc + 1 = q) (hlt : i + 1 < M.2.2.1) (hc : mj_c1 lv i = true) (k : mj_W M d mc ms Q q ((lv.set i (.double x)).set (i + 1) .null) st h) : mj_W M d mc ms Q pc lv (.double x :: st) h := by
  subst hq
  intro p l e R s m args below meth c D b B0 MC MS as0 QQ X E as H locs ls cells slots S
  obtain ⟨s1, s2, s3, s4, s5, s6, s7, s8⟩ := S
  exact lv_dstore_n X.1 X.2.1 hd hi s4 hlt rfl (fun ls' hl' => k p l e R s m args below meth c D b B0 MC MS as0 QQ X E as H locs ls' cells slots ⟨s1, s2, s3, mj_has_sub hl' (mj_store2 hc), mj_oks_set (mj_oks_set s5 trivial) trivial, s6.2, s7, s8⟩)
theorem mj_iinc {i : Nat} {n : Int} {x : Int32} (hd : decode M.2.1 pc = .ok (.iinc i n, 3)) (hq : pc + 3 = q) (hl : lv[i]? = some (.int x)) (hlt : i < M.2.2.1) (hc : mj_c1 lv i = true) (k : mj_W M d mc ms Q q (lv.set i (.int (x + Int32.ofInt n))) st h) : mj_W M d mc ms Q pc lv st h := by
  subst hq
  intro p l e R s m args below meth c D b B0 MC MS as0 QQ X E as H locs ls cells slots S
  obtain ⟨s1, s2, s3, s4, s5, s6, s7, s8⟩ := S
  obtain ⟨j, hj⟩ := List.mem_iff_getElem?.mp ((mj_al_mem (as := as) lv 0 (i, .int x)).mpr ⟨i, .int x, hl, by simp, by rw [Nat.zero_add]; rfl⟩)
  exact lv_iinc X.1 X.2.1 hd s4 hj rfl hlt rfl (fun ls' hl' => k p l e R s m args below meth c D b B0 MC MS as0 QQ X E as H locs ls' cells slots ⟨s1, s2, s3, mj_has_sub hl' (mj_store1 hc), mj_oks_set s5 trivial, s6, s7, s8⟩)
theorem mj_goto {off : Int} (hd : decode M.2.1 pc = .ok (.goto off, 3)) (ht : (pc : Int) + off = (q : Int)) (k : mj_W M d mc ms Q q lv st h) : mj_W M d mc ms Q pc lv st h := mj_pure (fun _ _ _ _ _ _ _ _ _ _ _ _ _ _ _ _ _ hx hb => lv_goto hx hb hd ht) (fun _ h => h) k
theorem mj_if_eq {x : Int32} {off : Int} {tgt : Nat} (hd : decode M.2.1 pc = .ok (.ifCond .eq off, 3)) (ht : (pc : Int) + off = (tgt : Int)) (hq : pc + 3 = q) (kt : x = 0 → mj_W M d mc ms Q tgt lv st h) (kf : ¬ x = 0 → mj_W M d mc ms Q q lv st h) : mj_W M d mc ms Q pc lv (.int x :: st) h := by
  subst hq
  intro p l e R s m args below meth c D b B0 MC MS as0 QQ X E as H locs ls cells slots S
  obtain ⟨s1, s2, s3, s4, s5, s6, s7, s8⟩ := S
  exact lv_if_eq X.1 X.2.1 hd ht (fun hh => kt hh p l e R s m args below meth c D b B0 MC MS as0 QQ X E as H locs ls cells slots ⟨s1, s2, s3, s4, s5, s6.2, s7, s8⟩) (fun hh => kf hh p l e R s m args below meth c D b B0 MC MS as0 QQ X E as H locs ls cells slots ⟨s1, s2, s3, s4, s5, s6.2, s7, s8⟩)
theorem mj_if_lt {x : Int32} {off : Int} {tgt : Nat} (hd : decode M.2.1 pc = .ok (.ifCond .lt off, 3)) (ht : (pc : Int) + off = (tgt : Int)) (hq : pc + 3 = q) (kt : x < 0 → mj_W M d mc ms Q tgt lv st h) (kf : ¬ x < 0 → mj_W M d mc ms Q q lv st h) : mj_W M d mc ms Q pc lv (.int x :: st) h := by
  subst hq
  intro p l e R s m args below meth c D b B0 MC MS as0 QQ X E as H locs ls cells slots S
  obtain ⟨s1, s2, s3, s4, s5, s6, s7, s8⟩ := S
  exact lv_if_lt X.1 X.2.1 hd ht (fun hh => kt hh p l e R s m args below meth c D b B0 MC MS as0 QQ X E as H locs ls cells slots ⟨s1, s2, s3, s4, s5, s6.2, s7, s8⟩) (fun hh => kf hh p l e R s m args below meth c D b B0 MC MS as0 QQ X E as H locs ls cells slots ⟨s1, s2, s3, s4, s5, s6.2, s7, s8⟩)
theorem mj_if_ge {x : Int32} {off : Int} {tgt : Nat} (hd : decode M.2.1 pc = .ok (.ifCond .ge off, 3)) (ht : (pc : Int) + off = (tgt : Int)) (hq : pc + 3 = q) (kt : 0 ≤ x → mj_W M d mc ms Q tgt lv st h) (kf : ¬ 0 ≤ x → mj_W M d mc ms Q q lv st h) : mj_W M d mc ms Q pc lv (.int x :: st) h := by
  subst hq
  intro p l e R s m args below meth c D b B0 MC MS as0 QQ X E as H locs ls cells slots S
  obtain ⟨s1, s2, s3, s4, s5, s6, s7, s8⟩ := S
  exact lv_if_ge X.1 X.2.1 hd ht (fun hh => kt hh p l e R s m args below meth c D b B0 MC MS as0 QQ X E as H locs ls cells slots ⟨s1, s2, s3, s4, s5, s6.2, s7, s8⟩) (fun hh => kf hh p l e R s m args below meth c D b B0 MC MS as0 QQ X E as H locs ls cells slots ⟨s1, s2, s3, s4, s5, s6.2, s7, s8⟩)
theorem mj_if_gt {x : Int32} {off : Int} {tgt : Nat} (hd : decode M.2.1 pc = .ok (.ifCond .gt off, 3)) (ht : (pc : Int) + off = (tgt : Int)) (hq : pc + 3 = q) (kt : 0 < x → mj_W M d mc ms Q tgt lv st h) (kf : ¬ 0 < x → mj_W M d mc ms Q q lv st h) : mj_W M d mc ms Q pc lv (.int x :: st) h := by
  subst hq
  intro p l e R s m args below meth c D b B0 MC MS as0 QQ X E as H locs ls cells slots S
  obtain ⟨s1, s2, s3, s4, s5, s6, s7, s8⟩ := S
  exact lv_if_gt X.1 X.2.1 hd ht (fun hh => kt hh p l e R s m args below meth c D b B0 MC MS as0 QQ X E as H locs ls cells slots ⟨s1, s2, s3, s4, s5, s6.2, s7, s8⟩) (fun hh => kf hh p l e R s m args below meth c D b B0 MC MS as0 QQ X E as H locs ls cells slots ⟨s1, s2, s3, s4, s5, s6.2, s7, s8⟩)
theorem mj_if_le {x : Int32} {off : Int} {tgt : Nat} (hd : decode M.2.1 pc = .ok (.ifCond .le off, 3)) (ht : (pc : Int) + off = (tgt : Int)) (hq : pc + 3 = q) (kt : x ≤ 0 → mj_W M d mc ms Q tgt lv st h) (kf : ¬ x ≤ 0 → mj_W M d mc ms Q q lv st h) : mj_W M d mc ms Q pc lv (.int x :: st) h := by
  subst hq
  intro p l e R s m args below meth c D b B0 MC MS as0 QQ X E as H locs ls cells slots S
  obtain ⟨s1, s2, s3, s4, s5, s6, s7, s8⟩ := S
  exact lv_if_le X.1 X.2.1 hd ht (fun hh => kt hh p l e R s m args below meth c D b B0 MC MS as0 QQ X E as H locs ls cells slots ⟨s1, s2, s3, s4, s5, s6.2, s7, s8⟩) (fun hh => kf hh p l e R s m args below meth c D b B0 MC MS as0 QQ X E as H locs ls cells slots ⟨s1, s2, s3, s4, s5, s6.2, s7, s8⟩)
theorem mj_icmp_eq {x y : Int32} {off : Int} {tgt : Nat} (hd : decode M.2.1 pc = .ok (.if_icmp .eq off, 3)) (ht : (pc : Int) + off = (tgt : Int)) (hq : pc + 3 = q) (kt : x = y → mj_W M d mc ms Q tgt lv st h) (kf : ¬ x = y → mj_W M d mc ms Q q lv st h) : mj_W M d mc ms Q pc lv (.int y :: .int x :: st) h := by
  subst hq
  intro p l e R s m args below meth c D b B0 MC MS as0 QQ X E as H locs ls cells slots S
  obtain ⟨s1, s2, s3, s4, s5, s6, s7, s8⟩ := S
  exact lv_icmp_eq X.1 X.2.1 hd ht (fun hh => kt hh p l e R s m args below meth c D b B0 MC MS as0 QQ X E as H locs ls cells slots ⟨s1, s2, s3, s4, s5, s6.2.2, s7, s8⟩) (fun hh => kf hh p l e R s m args below meth c D b B0 MC MS as0 QQ X E as H locs ls cells slots ⟨s1, s2, s3, s4, s5, s6.2.2, s7, s8⟩)
theorem mj_icmp_lt {x y : Int32} {off : Int} {tgt : Nat} (hd : decode M.2.1 pc = .ok (.if_icmp .lt off, 3)) (ht : (pc : Int) + off = (tgt : Int)) (hq : pc + 3 = q) (kt : x < y → mj_W M d mc ms Q tgt lv st h) (kf : ¬ x < y → mj_W M d mc ms Q q lv st h) : mj_W M d mc ms Q pc lv (.int y :: .int x :: st) h := by
  subst hq
  intro p l e R s m args below meth c D b B0 MC MS as0 QQ X E as H locs ls cells slots S
  obtain ⟨s1, s2, s3, s4, s5, s6, s7, s8⟩ := S
  exact lv_icmp_lt X.1 X.2.1 hd ht (fun hh => kt hh p l e R s m args below meth c D b B0 MC MS as0 QQ X E as H locs ls cells slots ⟨s1, s2, s3, s4, s5, s6.2.2, s7, s8⟩) (fun hh => kf hh p l e R s m args below meth c D b B0 MC MS as0 QQ X E as H locs ls cells slots ⟨s1, s2, s3, s4, s5, s6.2.2, s7, s8⟩)
theorem mj_icmp_ge {x y : Int32} {off : Int} {tgt : Nat} (hd : decode M.2.1 pc = .ok (.if_icmp .ge off, 3)) (ht : (pc : Int) + off = (tgt : Int)) (hq : pc + 3 = q) (kt : y ≤ x → mj_W M d mc ms Q tgt lv st h) (kf : ¬ y ≤ x → mj_W M d mc ms Q q lv st h) : mj_W M d mc ms Q pc lv (.int y :: .int x :: st) h := by
  subst hq
  intro p l e R s m args below meth c D b B0 MC MS as0 QQ X E as H locs ls cells slots S
  obtain ⟨s1, s2, s3, s4, s5, s6, s7, s8⟩ := S
  exact lv_icmp_ge X.1 X.2.1 hd ht (fun hh => kt hh p l e R s m args below meth c D b B0 MC MS as0 QQ X E as H locs ls cells slots ⟨s1, s2, s3, s4, s5, s6.2.2, s7, s8⟩) (fun hh => kf hh p l e R s m args below meth c D b B0 MC MS as0 QQ X E as H locs ls cells slots ⟨s1, s2, s3, s4, s5, s6.2.2, s7, s8⟩)
theorem mj_icmp_gt {x y : Int32} {off : Int} {tgt : Nat} (hd : decode M.2.1 pc = .ok (.if_icmp .gt off, 3)) (ht : (pc : Int) + off = (tgt : Int)) (hq : pc + 3 = q) (kt : y < x → mj_W M d mc ms Q tgt lv st h) (kf : ¬ y < x → mj_W M d mc ms Q q lv st h) : mj_W M d mc ms Q pc lv (.int y :: .int x :: st) h := by
  subst hq
  intro p l e R s m args below meth c D b B0 MC MS as0 QQ X E as H locs ls cells slots S
  obtain ⟨s1, s2, s3, s4, s5, s6, s7, s8⟩ := S
  exact lv_icmp_gt X.1 X.2.1 hd ht (fun hh => kt hh p l e R s m args below meth c D b B0 MC MS as0 QQ X E as H locs ls cells slots ⟨s1, s2, s3, s4, s5, s6.2.2, s7, s8⟩) (fun hh => kf hh p l e R s m args below meth c D b B0 MC MS as0 QQ X E as H locs ls cells slots ⟨s1, s2, s3, s4, s5, s6.2.2, s7, s8⟩)
theorem mj_icmp_le {x y : Int32} {off : Int} {tgt : Nat} (hd : decode M.2.1 pc = .ok (.if_icmp .le off, 3)) (ht : (pc : Int) + off = (tgt : Int)) (hq : pc + 3 = q) (kt : x ≤ y → mj_W M d mc ms Q tgt lv st h) (kf : ¬ x ≤ y → mj_W M d mc ms Q q lv st h) : mj_W M d mc ms Q pc lv (.int y :: .int x :: st) h := by
  subst hq
  intro p l e R s m args below meth c D b B0 MC MS as0 QQ X E as H locs ls cells slots S
  obtain ⟨s1, s2, s3, s4, s5, s6, s7, s8⟩ := S
  exact lv_icmp_le X.1 X.2.1 hd ht (fun hh => kt hh p l e R s m args below meth c D b B0 MC MS as0 QQ X E as H locs ls cells slots ⟨s1, s2, s3, s4, s5, s6.2.2, s7, s8⟩) (fun hh => kf hh p l e R s m args below meth c D b B0 MC MS as0 QQ X E as H locs ls cells slots ⟨s1, s2, s3, s4, s5, s6.2.2, s7, s8⟩)
theorem mj_if_ne {x : Int32} {off : Int} {tgt : Nat} (hd : decode M.2.1 pc = .ok (.ifCond .ne off, 3)) (ht : (pc : Int) + off = (tgt : Int)) (hq : pc + 3 = q) (kt : ¬ x = 0 → mj_W M d mc ms Q tgt lv st h) (kf : x = 0 → mj_W M d mc ms Q q lv st h) : mj_W M d mc ms Q pc lv (.int x :: st) h := by
  subst hq
  intro p l e R s m args below meth c D b B0 MC MS as0 QQ X E as H locs ls cells slots S
  obtain ⟨s1, s2, s3, s4, s5, s6, s7, s8⟩ := S
  exact lv_if_ne X.1 X.2.1 hd ht (fun hh => kt hh p l e R s m args below meth c D b B0 MC MS as0 QQ X E as H locs ls cells slots ⟨s1, s2, s3, s4, s5, s6.2, s7, s8⟩) (fun hh => kf hh p l e R s m args below meth c D b B0 MC MS as0 QQ X E as H locs ls cells slots ⟨s1, s2, s3, s4, s5, s6.2, s7, s8⟩)
theorem mj_icmp_ne {x y : Int32} {off : Int} {tgt : Nat} (hd : decode M.2.1 pc = .ok (.if_icmp .ne off, 3)) (ht : (pc : Int) + off = (tgt : Int)) (hq : pc + 3 = q) (kt : ¬ x = y → mj_W M d mc ms Q tgt lv st h) (kf : x = y → mj_W M d mc ms Q q lv st h) : mj_W M d mc ms Q pc lv (.int y :: .int x :: st) h := by
  subst hq
  intro p l e R s m args below meth c D b B0 MC MS as0 QQ X E as H locs ls cells slots S
  obtain ⟨s1, s2, s3, s4, s5, s6, s7, s8⟩ := S
  exact lv_icmp_ne X.1 X.2.1 hd ht (fun hh => kt hh p l e R s m args below meth c D b B0 MC MS as0 QQ X E as H locs ls cells slots ⟨s1, s2, s3, s4, s5, s6.2.2, s7, s8⟩) (fun hh => kf hh p l e R s m args below meth c D b B0 MC MS as0 QQ X E as H locs ls cells slots ⟨s1, s2, s3, s4, s5, s6.2.2, s7, s8⟩)
theorem mj_tabIn {dflt lo hi : Int} {offs : Array Int} {len : Nat} {x : Int32} {off : Int} (hd : decode M.2.1 pc = .ok (.tableswitch dflt lo hi offs, len)) (h1 : ¬ x.toInt < lo) (h2 : ¬ hi < x.toInt) (ho : offs[(x.toInt - lo).toNat]? = some off) (ht : (pc : Int) + off = (q : Int)) (k : mj_W M d mc ms Q q lv st h) : mj_W M d mc ms Q pc lv (.int x :: st) h := mj_pure (fun _ _ _ _ _ _ _ _ _ _ _ _ _ _ _ _ _ hx hb => lv_tableIn hx hb hd h1 h2 ho ht) (fun _ h => h.2) k
theorem mj_tabOut {dflt lo hi : Int} {offs : Array Int} {len : Nat} {x : Int32} (hd : decode M.2.1 pc = .ok (.tableswitch dflt lo hi offs, len)) (h1 : x.toInt < lo ∨ hi < x.toInt) (ht : (pc : Int) + dflt = (q : Int)) (k : mj_W M d mc ms Q q lv st h) : mj_W M d mc ms Q pc lv (.int x :: st) h := mj_pure (fun _ _ _ _ _ _ _ _ _ _ _ _ _ _ _ _ _ hx hb => lv_tableOut hx hb hd h1 ht) (fun _ h => h.2) k
theorem mj_ret {v : Option Value} (hd : decode M.2.1 pc = .ok (mj_ri v, 1)) (hr : mj_rv M v) (hq : Q v h) : mj_W M d mc ms Q pc lv v.toList h := by
  intro p l e R s m args below meth c D b B0 MC MS as0 QQ X E as H locs ls cells slots S
  obtain ⟨s1, s2, s3, s4, s5, s6, s7, s8⟩ := S
  exact E as H locs ls cells slots pc v lv h hq hr hd ⟨s1, s2, s3, s4, s5, s6, by omega, by omega⟩
theorem mj_ireturn {x : Int32} (hd : decode M.2.1 pc = .ok (.ireturn, 1)) (hr : ∃ ty, M.2.2.2.1 = some ty ∧ narrow ty (.int x) = .int x) (hq : Q (some (.int x)) h) : mj_W M d mc ms Q pc lv [.int x] h := mj_ret (v := some (.int x)) hd hr hq
theorem mj_lreturn {x : Int64} (hd : decode M.2.1 pc = .ok (.lreturn, 1)) (hr : M.2.2.2.1 = some .long) (hq : Q (some (.long x)) h) : mj_W M d mc ms Q pc lv [.long x] h := mj_ret (v := some (.long x)) hd hr hq
theorem mj_dreturn {x : UInt64} (hd : decode M.2.1 pc = .ok (.dreturn, 1)) (hr : M.2.2.2.1 = some .double) (hq : Q (some (.double x)) h) : mj_W M d mc ms Q pc lv [.double x] h := mj_ret (v := some (.double x)) hd hr hq
theorem mj_areturn {x : Nat} (hd : decode M.2.1 pc = .ok (.areturn, 1)) (hr : ∃ rt, M.2.2.2.1 = some rt ∧ ((∃ n, rt = .object n) ∨ ∃ t, rt = .array t)) (hq : Q (some (.ref x)) h) : mj_W M d mc ms Q pc lv [.ref x] h := mj_ret (v := some (.ref x)) hd hr hq
theorem mj_return {h : mj_H} (hd : decode M.2.1 pc = .ok (.return_, 1)) (hr : M.2.2.2.1 = none) (hq : Q none h) : mj_W M d mc ms Q pc lv [] h := mj_ret (v := none) hd hr hq
theorem mj_budget {mc1 ms1 : Nat} (h1 : mc1 ≤ mc) (h2 : ms1 ≤ ms) (k : mj_W M d mc1 ms1 Q pc lv st h) : mj_W M d mc ms Q pc lv st h := by
  intro p l e R s m args below meth c D b B0 MC MS as0 QQ X E as H locs ls cells slots S
  obtain ⟨s1, s2, s3, s4, s5, s6, s7, s8⟩ := S
  exact k p l e R s m args below meth c D b B0 MC MS as0 QQ X E as H locs ls cells slots ⟨s1, s2, s3, s4, s5, s6, by omega, by omega⟩
theorem mj_mono {Q1 : mj_Q} (hQ : ∀ v h1, Q1 v h1 → Q v h1) (k : mj_W M d mc ms Q1 pc lv st h) : mj_W M d mc ms Q pc lv st h := by
  intro p l e R s m args below meth c D b B0 MC MS as0 QQ X E as H locs ls cells slots S
  exact k p l e R s m args below meth c D b B0 MC MS as0 QQ X (fun as H locs ls cells slots pc v lv h hq => E as H locs ls cells slots pc v lv h (hQ v h hq)) as H locs ls cells slots S
/-- fewer known locals -/
theorem mj_forget {lv2 : List Value} (hs : ∀ (i : Nat) (v : Value), lv2[i]? = some v → v ≠ Value.null → lv[i]? = some v) (hn : ∀ n, mj_oks n lv → mj_oks n lv2) (k : mj_W M d mc ms Q pc lv2 st h) : mj_W M d mc ms Q pc lv st h := by
  intro p l e R s m args below meth c D b B0 MC MS as0 QQ X E as H locs ls cells slots S
  obtain ⟨s1, s2, s3, s4, s5, s6, s7, s8⟩ := S
  exact k p l e R s m args below meth c D b B0 MC MS as0 QQ X E as H locs ls cells slots ⟨s1, s2, s3, mj_has_sub s4 (fun q hq => by
    obtain ⟨i, v, h1, h2, h3⟩ := (mj_al_mem _ _ _).mp hq
    exact (mj_al_mem _ _ _).mpr ⟨i, v, hs i v h1 h2, h2, h3⟩), hn _ s5, s6, s7, s8⟩
end MJ1
end
section
/-! RULES over the heap of the mini machine -/
theorem mj_fs_get (as : List Nat) (ci : Nat) (f : Nat → Int32) (g : Nat → Option Nat) {k : Nat} (hk : k < mT_N ci) : (mj_fs as ci f g)[k]? = some (if mT_R ci k = true then va_rf ((g k).map fun b => as.getD b 0) else .int (f k)) := by
  unfold mj_fs
  rw [List.getElem?_map, List.getElem?_range hk]
  rfl
theorem mj_fs_len (as : List Nat) (ci : Nat) (f : Nat → Int32) (g : Nat → Option Nat) : (mj_fs as ci f g).length = mT_N ci := by
  unfold mj_fs
  rw [List.length_map, List.length_range]
theorem mj_fs_set {as : List Nat} {ci : Nat} {f f1 : Nat → Int32} {g g1 : Nat → Option Nat} {k : Nat} {v : Value} (hk : (if mT_R ci k = true then va_rf ((g1 k).map fun b => as.getD b 0) else .int (f1 k)) = v)
    (hf : ∀ j, j ≠ k → f1 j = f j) (hg : ∀ j, j ≠ k → g1 j = g j) : (mj_fs as ci f g).set k v = mj_fs as ci f1 g1 := by
  apply List.ext_getElem?
  intro j
  rw [List.getElem?_set]
  by_cases hj : k = j
  · subst hj
    rw [if_pos rfl, mj_fs_len]
    by_cases hN : k < mT_N ci
    · rw [if_pos hN, mj_fs_get _ _ _ _ hN, hk]
    · rw [if_neg hN, List.getElem?_eq_none (by rw [mj_fs_len]; omega)]
  · rw [if_neg hj]
    have hj' : j ≠ k := fun e => hj e.symm
    by_cases hN : j < mT_N ci
    · rw [mj_fs_get _ _ _ _ hN, mj_fs_get _ _ _ _ hN, hf j hj', hg j hj']
    · rw [List.getElem?_eq_none (by rw [mj_fs_len]; omega), List.getElem?_eq_none (by rw [mj_fs_len]; omega)]
theorem mj_getD {as : List Nat} {b : Nat} {ws : va_W} (h : as = b :: ws.map (·.1)) {k : Nat} {q : Nat × va_E} (hk : ws[k]? = some q) : as.getD (k + 1) 0 = q.1 := by
  rw [h, List.getD_eq_getElem?_getD, List.getElem?_cons_succ, List.getElem?_map, hk]
  rfl
/-- a cell's place in the world -/
theorem mj_place {tys : List (ClassId × FieldType)} {as : List Nat} {b n a : Nat} {K : Nat → mj_K} {f : Nat → Nat → Int32} {g : Nat → Nat → Option Nat} {ws : va_W} (h1 : as = b :: ws.map (·.1)) (h2 : n = ws.length + 1) (h4 : ∀ k q, ws[k]? = some q → mj_cell tys as (K (k + 1)) (f (k + 1)) (g (k + 1)) q.2) (h8 : (K 0).1 = 3) (ha : a < n) (hK : (K a).1 ≠ 3) :
    ∃ (k : Nat) (e : va_E), a = k + 1 ∧ ws[k]? = some (as.getD a 0, e) ∧ mj_cell tys as (K a) (f a) (g a) e := by
  cases a with
  | zero => exact absurd h8 hK
  | succ k =>
    have hk : k < ws.length := by omega
    have e := List.getElem?_eq_getElem hk
    refine ⟨k, (ws[k]).2, rfl, ?_, h4 k _ e⟩
    rw [mj_getD h1 e, e]
theorem mj_set_map {ws : va_W} {k : Nat} {a : Nat} {e0 e : va_E} (hk : ws[k]? = some (a, e0)) : (ws.set k (a, e)).map (·.1) = ws.map (·.1) := by
  apply List.ext_getElem?
  intro j
  rw [List.getElem?_map, List.getElem?_map, List.getElem?_set]
  by_cases hj : k = j
  · subst hj
    rw [if_pos rfl, hk]
    split
    · rfl
    · rename_i h
      rw [List.getElem?_eq_none (by omega)] at hk
      cases hk
  · rw [if_neg hj]
/-- the script's cell behind a step -/
theorem mj_scr {b B0 L : Nat} {xs : Nat → Int32} {s : State} {H H1 : Heap} {locs locs1 : List Loc} (hX : va_X b L xs s H) (hS : va_S (fun q => B0 ≤ q) s.heap H locs) (hS1 : va_S (fun q => B0 ≤ q) s.heap H1 locs1) (hb : b < B0) (hB : B0 ≤ s.heap.size) : va_X b L xs s H1 := by
  refine va_X.kept hX ?_
  rw [hS1.2.1 b (by omega) (by omega), hS.2.1 b (by omega) (by omega)]
theorem mj_Hp_set {D : va_G} {b n k a : Nat} {as : List Nat} {K : Nat → mj_K} {f f1 : Nat → Nat → Int32} {g g1 : Nat → Nat → Option Nat} {A : Nat → Prop} {s : State} {H1 : Heap} {ws : va_W} {tys : List (ClassId × FieldType)} {e0 e : va_E}
    (h1 : as = b :: ws.map (·.1)) (h2 : n = ws.length + 1) (h3 : ∀ k j c, g1 k j = some c → c < n) (h4 : ∀ k q, ws[k]? = some q → mj_cell tys as (K (k + 1)) (f (k + 1)) (g (k + 1)) q.2) (h5 : va_K D vwCl tys s) (h8 : (K 0).1 = 3)
    (hk : ws[k]? = some (a, e0)) (hP : va_P D vwCl (ws.set k (a, e)) H1) (hD : va_D A (ws.set k (a, e))) (hX : va_X b (K 0).2.1 (f 0) s H1) (hc : mj_cell tys as (K (k + 1)) (f1 (k + 1)) (g1 (k + 1)) e) (hf : ∀ j, j ≠ k + 1 → f1 j = f j) (hg : ∀ j, j ≠ k + 1 → g1 j = g j) :
    mj_Hp D b as (n, K, f1, g1) A s H1 := by
  refine ⟨ws.set k (a, e), tys, by rw [mj_set_map hk]; exact h1, by rw [List.length_set]; exact h2, h3, ?_, h5, hP, hD, h8, ?_⟩
  · intro j q hj
    rw [List.getElem?_set] at hj
    by_cases hkj : k = j
    · subst hkj
      rw [if_pos rfl] at hj
      split at hj
      · cases hj; exact hc
      · cases hj
    · rw [if_neg hkj] at hj
      show mj_cell tys as (K (j + 1)) (f1 (j + 1)) (g1 (j + 1)) q.2
      rw [hf (j + 1) (by omega), hg (j + 1) (by omega)]
      exact h4 j q hj
  · show va_X b (K 0).2.1 (f1 0) s H1
    rw [hf 0 (by omega)]
    exact hX
theorem mj_Hp.moved {D : va_G} {b : Nat} {as : List Nat} {h : mj_H} {A : Nat → Prop} {u U : State} {H : Heap} (hvm : u.vm.Alike U.vm) (hH : mj_Hp D b as h A u H) : mj_Hp D b as h A U H := by
  obtain ⟨ws, tys, h1, h2, h3, h4, h5, h6, h7, h8, h9⟩ := hH
  exact ⟨ws, tys, h1, h2, h3, h4, va_K.moved hvm h5, h6, h7, h8, va_X.moved hvm h9⟩
section MJ2
variable {M : mj_M} {d mc ms : Nat} {Q : mj_Q} {pc q : Nat} {lv st : List Value} {n : Nat} {K : Nat → mj_K} {f : Nat → Nat → Int32} {g : Nat → Nat → Option Nat}
theorem mj_getf {a idx ci sl x : Nat} (hd : decode M.2.1 pc = .ok (.getfield idx, 3)) (hF : mj_okF M.2.2.2.2.1 idx ci sl) (hr : mT_R ci sl = false) (hq : pc + 3 = q) (hK : K a = (2, ci, x))
    (k : mj_W M d mc ms Q q lv (.int (f a sl) :: st) (n, K, f, g)) : mj_W M d mc ms Q pc lv (.ref a :: st) (n, K, f, g) := by
  subst hq
  intro p l e R s m args below meth c D b B0 MC MS as0 QQ X E as H locs ls cells slots S
  obtain ⟨s1, s2, s3, s4, s5, s6, s7, s8⟩ := S
  obtain ⟨ws, tys, h1, h2, h3, h4, h5, h6, h7, h8, h9⟩ := id s1
  dsimp only at h2 h3 h4 h8 h9
  obtain ⟨j, e1, rfl, hj, hc⟩ := mj_place h1 h2 h4 h8 s6.1 (by rw [hK]; simp)
  rcases hc with ⟨hc, -⟩ | ⟨hc, -⟩ | ⟨-, hci, he⟩
  · rw [hK] at hc; cases hc
  · rw [hK] at hc; cases hc
  rw [hK] at he hci
  dsimp only at he hci
  subst he
  obtain ⟨f1, f2, f3⟩ := hF
  refine va_get (ref := (mT_T ci sl).1) (C := mT_C ci) (T := mT_T ci) (N := mT_N ci) X.1 X.2.1 X.2.2.2.2.1 (mT_in ci f1) X.2.2.2.1 h5 h6 j hj (mT_at ci f1) sl f2 (X.2.2.2.2.1 _ f3) (fun _ z => z) (mj_fs_get _ _ _ _ f2) hd ?_
  rw [if_neg (by rw [hr]; simp)]
  exact k p l e R s m args below meth c D b B0 MC MS as0 QQ X E as H locs ls cells slots ⟨s1, s2, s3, s4, s5, ⟨trivial, s6.2⟩, s7, s8⟩
theorem mj_getr {a idx ci sl x r : Nat} (hd : decode M.2.1 pc = .ok (.getfield idx, 3)) (hF : mj_okF M.2.2.2.2.1 idx ci sl) (hr : mT_R ci sl = true) (hq : pc + 3 = q) (hK : K a = (2, ci, x)) (hg : g a sl = some r)
    (k : mj_W M d mc ms Q q lv (.ref r :: st) (n, K, f, g)) : mj_W M d mc ms Q pc lv (.ref a :: st) (n, K, f, g) := by
  subst hq
  intro p l e R s m args below meth c D b B0 MC MS as0 QQ X E as H locs ls cells slots S
  obtain ⟨s1, s2, s3, s4, s5, s6, s7, s8⟩ := S
  obtain ⟨ws, tys, h1, h2, h3, h4, h5, h6, h7, h8, h9⟩ := id s1
  dsimp only at h2 h3 h4 h8 h9
  obtain ⟨j, e1, rfl, hj, hc⟩ := mj_place h1 h2 h4 h8 s6.1 (by rw [hK]; simp)
  rcases hc with ⟨hc, -⟩ | ⟨hc, -⟩ | ⟨-, hci, he⟩
  · rw [hK] at hc; cases hc
  · rw [hK] at hc; cases hc
  rw [hK] at he hci
  dsimp only at he hci
  subst he
  obtain ⟨f1, f2, f3⟩ := hF
  refine va_get (ref := (mT_T ci sl).1) (C := mT_C ci) (T := mT_T ci) (N := mT_N ci) X.1 X.2.1 X.2.2.2.2.1 (mT_in ci f1) X.2.2.2.1 h5 h6 j hj (mT_at ci f1) sl f2 (X.2.2.2.2.1 _ f3) (fun _ z => z) (mj_fs_get _ _ _ _ f2) hd ?_
  rw [if_pos hr, hg]
  exact k p l e R s m args below meth c D b B0 MC MS as0 QQ X E as H locs ls cells slots ⟨s1, s2, s3, s4, s5, ⟨h3 _ _ _ hg, s6.2⟩, s7, s8⟩
theorem mj_putf {a idx ci sl x : Nat} {v : Int32} (hd : decode M.2.1 pc = .ok (.putfield idx, 3)) (hF : mj_okF M.2.2.2.2.1 idx ci sl) (hr : mT_R ci sl = false) (hq : pc + 3 = q) (hK : K a = (2, ci, x)) (hfin : (mT_T ci sl).2.2.2 = false) (hn : narrow (mT_ty ci sl) (.int v) = .int v) (hfit : fits (mT_ty ci sl) (.int v) = true)
    (k : mj_W M d mc ms Q q lv st (n, K, mj_up f a sl v, g)) : mj_W M d mc ms Q pc lv (.int v :: .ref a :: st) (n, K, f, g) := by
  subst hq
  intro p l e R s m args below meth c D b B0 MC MS as0 QQ X E as H locs ls cells slots S
  obtain ⟨s1, s2, s3, s4, s5, s6, s7, s8⟩ := S
  obtain ⟨ws, tys, h1, h2, h3, h4, h5, h6, h7, h8, h9⟩ := id s1
  dsimp only at h2 h3 h4 h8 h9
  obtain ⟨j, e1, rfl, hj, hc⟩ := mj_place h1 h2 h4 h8 s6.2.1 (by rw [hK]; simp)
  rcases hc with ⟨hc, -⟩ | ⟨hc, -⟩ | ⟨-, hci, he⟩
  · rw [hK] at hc; cases hc
  · rw [hK] at hc; cases hc
  rw [hK] at he hci
  dsimp only at he hci
  subst he
  obtain ⟨f1, f2, f3⟩ := hF
  refine va_put (ref := (mT_T ci sl).1) (C := mT_C ci) (T := mT_T ci) (N := mT_N ci) X.1 X.2.1 X.2.2.2.2.1 (mT_in ci f1) (mT_ty ci) (mT_tyok ci f1) (mT_nm ci f1) X.2.2.2.1 h5 h6 h7 s2 j hj (mT_at ci f1) sl f2 (X.2.2.2.2.1 _ f3) (fun _ z => z) hfin (mT_tyok ci f1 sl f2) hn hfit (by rw [mj_fs_len]; exact f2) hd (fun H1 locs1 hP hD hS => ?_)
  refine k p l e R s m args below meth c D b B0 MC MS as0 QQ X E as H1 locs1 ls cells slots ⟨?_, hS, s3, s4, s5, s6.2.2, s7, s8⟩
  refine mj_Hp_set h1 h2 h3 h4 h5 h8 hj hP hD (mj_scr h9 s2 hS X.2.2.2.2.2.2.2.2.2.2.2.2.2.1 X.2.2.2.2.2.2.2.2.2.2.2.2.2.2) ?_ (fun i hi => by funext z; simp [mj_up, hi]) (fun i hi => rfl)
  refine Or.inr (Or.inr ⟨by rw [hK], by rw [hK]; exact f1, ?_⟩)
  rw [hK]
  congr 2
  exact mj_fs_set (by rw [if_neg (by rw [hr]; simp)]; simp [mj_up]; rfl) (fun i hi => by simp [mj_up, hi]) (fun i hi => rfl)
theorem mj_putr {a idx ci sl x r : Nat} (hd : decode M.2.1 pc = .ok (.putfield idx, 3)) (hF : mj_okF M.2.2.2.2.1 idx ci sl) (hr : mT_R ci sl = true) (hq : pc + 3 = q) (hK : K a = (2, ci, x)) (hfin : (mT_T ci sl).2.2.2 = true) (hi : M.2.2.2.2.2 = true) (hde : (mT_T ci sl).1 = M.2.2.2.2.1) (hn : ∀ z, narrow (mT_ty ci sl) (.ref z) = .ref z) (hfit : ∀ z, fits (mT_ty ci sl) (.ref z) = true)
    (k : mj_W M d mc ms Q q lv st (n, K, f, mj_up g a sl (some r))) : mj_W M d mc ms Q pc lv (.ref r :: .ref a :: st) (n, K, f, g) := by
  subst hq
  intro p l e R s m args below meth c D b B0 MC MS as0 QQ X E as H locs ls cells slots S
  obtain ⟨s1, s2, s3, s4, s5, s6, s7, s8⟩ := S
  obtain ⟨ws, tys, h1, h2, h3, h4, h5, h6, h7, h8, h9⟩ := id s1
  dsimp only at h2 h3 h4 h8 h9
  obtain ⟨j, e1, rfl, hj, hc⟩ := mj_place h1 h2 h4 h8 s6.2.1 (by rw [hK]; simp)
  rcases hc with ⟨hc, -⟩ | ⟨hc, -⟩ | ⟨-, hci, he⟩
  · rw [hK] at hc; cases hc
  · rw [hK] at hc; cases hc
  rw [hK] at he hci
  dsimp only at he hci
  subst he
  obtain ⟨f1, f2, f3⟩ := hF
  refine va_putF (ref := (mT_T ci sl).1) (C := mT_C ci) (T := mT_T ci) (N := mT_N ci) X.1 X.2.1 X.2.2.2.2.1 (mT_in ci f1) (mT_ty ci) (mT_tyok ci f1) (mT_nm ci f1) X.2.2.2.1 h5 h6 h7 s2 j hj (mT_at ci f1) sl f2 (X.2.2.2.2.1 _ f3) (fun _ z => z) hfin (X.2.2.2.2.2.2.2.2.1 hi) hde (mT_tyok ci f1 sl f2) (hn _) (hfit _) (by rw [mj_fs_len]; exact f2) hd (fun H1 locs1 hP hD hS => ?_)
  refine k p l e R s m args below meth c D b B0 MC MS as0 QQ X E as H1 locs1 ls cells slots ⟨?_, hS, s3, s4, s5, s6.2.2, s7, s8⟩
  refine mj_Hp_set h1 h2 ?_ h4 h5 h8 hj hP hD (mj_scr h9 s2 hS X.2.2.2.2.2.2.2.2.2.2.2.2.2.1 X.2.2.2.2.2.2.2.2.2.2.2.2.2.2) ?_ (fun i hi => rfl) (fun i hi => by funext z; simp [mj_up, hi])
  · intro k0 j0 c0 hc0
    unfold mj_up at hc0
    split at hc0
    · cases hc0; exact s6.1
    · exact h3 _ _ _ hc0
  refine Or.inr (Or.inr ⟨by rw [hK], by rw [hK]; exact f1, ?_⟩)
  rw [hK]
  congr 2
  exact mj_fs_set (by rw [if_pos hr]; simp [mj_up]; rfl) (fun i hi => rfl) (fun i hi => by simp [mj_up, hi])
theorem mj_iald {a L : Nat} {i : Int32} (hd : decode M.2.1 pc = .ok (.iaload, 1)) (hq : pc + 1 = q) (hK : K a = (0, L, 0)) (hin : vp_in i L)
    (k : mj_W M d mc ms Q q lv (.int (f a i.toNatClampNeg) :: st) (n, K, f, g)) : mj_W M d mc ms Q pc lv (.int i :: .ref a :: st) (n, K, f, g) := by
  subst hq
  intro p l e R s m args below meth c D b B0 MC MS as0 QQ X E as H locs ls cells slots S
  obtain ⟨s1, s2, s3, s4, s5, s6, s7, s8⟩ := S
  obtain ⟨ws, tys, h1, h2, h3, h4, h5, h6, h7, h8, h9⟩ := id s1
  dsimp only at h2 h3 h4 h8 h9
  obtain ⟨j, e1, rfl, hj, hc⟩ := mj_place h1 h2 h4 h8 s6.2.1 (by rw [hK]; simp)
  rcases hc with ⟨-, cA, t0, ht, he⟩ | ⟨hc, -⟩ | ⟨hc, -⟩
  · rw [hK] at he
    dsimp only at he
    subst he
    exact va_iald X.1 X.2.1 h5 h6 j t0 hj ht hin hd (k p l e R s m args below meth c D b B0 MC MS as0 QQ X E as H locs ls cells slots ⟨s1, s2, s3, s4, s5, ⟨trivial, s6.2.2⟩, s7, s8⟩)
  · rw [hK] at hc; cases hc
  · rw [hK] at hc; cases hc
theorem mj_iast {a L : Nat} {i v : Int32} (hd : decode M.2.1 pc = .ok (.iastore, 1)) (hq : pc + 1 = q) (hK : K a = (0, L, 0)) (hin : vp_in i L)
    (k : mj_W M d mc ms Q q lv st (n, K, mj_up f a i.toNatClampNeg v, g)) : mj_W M d mc ms Q pc lv (.int v :: .int i :: .ref a :: st) (n, K, f, g) := by
  subst hq
  intro p l e R s m args below meth c D b B0 MC MS as0 QQ X E as H locs ls cells slots S
  obtain ⟨s1, s2, s3, s4, s5, s6, s7, s8⟩ := S
  obtain ⟨ws, tys, h1, h2, h3, h4, h5, h6, h7, h8, h9⟩ := id s1
  dsimp only at h2 h3 h4 h8 h9
  obtain ⟨j, e1, rfl, hj, hc⟩ := mj_place h1 h2 h4 h8 s6.2.2.1 (by rw [hK]; simp)
  rcases hc with ⟨-, cA, t0, ht, he⟩ | ⟨hc, -⟩ | ⟨hc, -⟩
  · rw [hK] at he
    dsimp only at he
    subst he
    refine va_iast X.1 X.2.1 h5 h6 h7 s2 j t0 hj ht hin hd (fun H1 locs1 hP hD hS => ?_)
    refine k p l e R s m args below meth c D b B0 MC MS as0 QQ X E as H1 locs1 ls cells slots ⟨?_, hS, s3, s4, s5, s6.2.2.2, s7, s8⟩
    refine mj_Hp_set h1 h2 h3 h4 h5 h8 hj hP hD (mj_scr h9 s2 hS X.2.2.2.2.2.2.2.2.2.2.2.2.2.1 X.2.2.2.2.2.2.2.2.2.2.2.2.2.2) ?_ (fun i hi => by funext z; simp [mj_up, hi]) (fun i hi => rfl)
    refine Or.inl ⟨by rw [hK], cA, t0, ht, ?_⟩
    rw [hK]
    congr 4
    funext z
    simp [mj_up, upd]
  · rw [hK] at hc; cases hc
  · rw [hK] at hc; cases hc
theorem mj_aald {a L ci r : Nat} {i : Int32} (hd : decode M.2.1 pc = .ok (.aaload, 1)) (hq : pc + 1 = q) (hK : K a = (1, L, ci)) (hin : vp_in i L) (hg : g a i.toNatClampNeg = some r)
    (k : mj_W M d mc ms Q q lv (.ref r :: st) (n, K, f, g)) : mj_W M d mc ms Q pc lv (.int i :: .ref a :: st) (n, K, f, g) := by
  subst hq
  intro p l e R s m args below meth c D b B0 MC MS as0 QQ X E as H locs ls cells slots S
  obtain ⟨s1, s2, s3, s4, s5, s6, s7, s8⟩ := S
  obtain ⟨ws, tys, h1, h2, h3, h4, h5, h6, h7, h8, h9⟩ := id s1
  dsimp only at h2 h3 h4 h8 h9
  obtain ⟨j, e1, rfl, hj, hc⟩ := mj_place h1 h2 h4 h8 s6.2.1 (by rw [hK]; simp)
  rcases hc with ⟨hc, -⟩ | ⟨-, cA, t0, ht, he⟩ | ⟨hc, -⟩
  · rw [hK] at hc; cases hc
  · rw [hK] at he ht
    dsimp only at he ht
    subst he
    refine va_aldq X.1 X.2.1 h5 h6 j t0 hj ht hin hd ?_
    rw [hg]
    exact k p l e R s m args below meth c D b B0 MC MS as0 QQ X E as H locs ls cells slots ⟨s1, s2, s3, s4, s5, ⟨h3 _ _ _ hg, s6.2.2⟩, s7, s8⟩
  · rw [hK] at hc; cases hc
theorem mj_aast {a L ci r y : Nat} {i : Int32} (hd : decode M.2.1 pc = .ok (.aastore, 1)) (hq : pc + 1 = q) (hK : K a = (1, L, ci)) (hin : vp_in i L) (hr : K r = (2, ci, y))
    (k : mj_W M d mc ms Q q lv st (n, K, f, mj_up g a i.toNatClampNeg (some r))) : mj_W M d mc ms Q pc lv (.ref r :: .int i :: .ref a :: st) (n, K, f, g) := by
  subst hq
  intro p l e R s m args below meth c D b B0 MC MS as0 QQ X E as H locs ls cells slots S
  obtain ⟨s1, s2, s3, s4, s5, s6, s7, s8⟩ := S
  obtain ⟨ws, tys, h1, h2, h3, h4, h5, h6, h7, h8, h9⟩ := id s1
  dsimp only at h2 h3 h4 h8 h9
  obtain ⟨j, e1, rfl, hj, hc⟩ := mj_place h1 h2 h4 h8 s6.2.2.1 (by rw [hK]; simp)
  obtain ⟨j2, e2, rfl, hj2, hc2⟩ := mj_place h1 h2 h4 h8 s6.1 (by rw [hr]; simp)
  rcases hc with ⟨hc, -⟩ | ⟨-, cA, t0, ht, he⟩ | ⟨hc, -⟩
  · rw [hK] at hc; cases hc
  · rcases hc2 with ⟨hc, -⟩ | ⟨hc, -⟩ | ⟨-, hci, he2⟩
    · rw [hr] at hc; cases hc
    · rw [hr] at hc; cases hc
    rw [hr] at he2 hci
    dsimp only at he2 hci
    rw [hK] at he ht
    dsimp only at he ht
    subst he
    subst he2
    refine va_astq X.1 X.2.1 h5 h6 h7 s2 j t0 j2 ci hj ht hj2 (mT_at ci hci) hin hd (fun H1 locs1 hP hD hS => ?_)
    refine k p l e R s m args below meth c D b B0 MC MS as0 QQ X E as H1 locs1 ls cells slots ⟨?_, hS, s3, s4, s5, s6.2.2.2, s7, s8⟩
    refine mj_Hp_set h1 h2 ?_ h4 h5 h8 hj hP hD (mj_scr h9 s2 hS X.2.2.2.2.2.2.2.2.2.2.2.2.2.1 X.2.2.2.2.2.2.2.2.2.2.2.2.2.2) ?_ (fun i hi => rfl) (fun i hi => by funext z; simp [mj_up, hi])
    · intro k0 j0 c0 hc0
      unfold mj_up at hc0
      split at hc0
      · cases hc0; exact s6.1
      · exact h3 _ _ _ hc0
    refine Or.inr (Or.inl ⟨by rw [hK], cA, t0, by rw [hK]; exact ht, ?_⟩)
    rw [hK]
    congr 7
    funext z
    simp only [mj_up, va_up]
    by_cases hz : z = i.toNatClampNeg
    · simp [hz]
    · simp [hz]
  · rw [hK] at hc; cases hc
theorem mj_alen {a L t : Nat} {v : Int32} (hd : decode M.2.1 pc = .ok (.arraylength, 1)) (hq : pc + 1 = q) (hK : K a = (0, L, t)) (hv : Int32.ofNat L = v)
    (k : mj_W M d mc ms Q q lv (.int v :: st) (n, K, f, g)) : mj_W M d mc ms Q pc lv (.ref a :: st) (n, K, f, g) := by
  subst hq
  intro p l e R s m args below meth c D b B0 MC MS as0 QQ X E as H locs ls cells slots S
  obtain ⟨s1, s2, s3, s4, s5, s6, s7, s8⟩ := S
  obtain ⟨ws, tys, h1, h2, h3, h4, h5, h6, h7, h8, h9⟩ := id s1
  dsimp only at h2 h3 h4 h8 h9
  obtain ⟨j, e1, rfl, hj, hc⟩ := mj_place h1 h2 h4 h8 s6.1 (by rw [hK]; simp)
  rcases hc with ⟨-, cA, t0, ht, he⟩ | ⟨hc, -⟩ | ⟨hc, -⟩
  · rw [hK] at he
    dsimp only at he
    subst he
    exact va_alen X.1 X.2.1 h5 h6 j t0 hj ht hv hd (k p l e R s m args below meth c D b B0 MC MS as0 QQ X E as H locs ls cells slots ⟨s1, s2, s3, s4, s5, ⟨trivial, s6.2⟩, s7, s8⟩)
  · rw [hK] at hc; cases hc
  · rw [hK] at hc; cases hc
/-- the script: cell 0 -/
theorem mj_sld {L : Nat} {i : Int32} (hd : decode M.2.1 pc = .ok (.iaload, 1)) (hq : pc + 1 = q) (hK : K 0 = (3, L, 0)) (hin : vp_in i L)
    (k : mj_W M d mc ms Q q lv (.int (f 0 i.toNatClampNeg) :: st) (n, K, f, g)) : mj_W M d mc ms Q pc lv (.int i :: .ref 0 :: st) (n, K, f, g) := by
  subst hq
  intro p l e R s m args below meth c D b B0 MC MS as0 QQ X E as H locs ls cells slots S
  obtain ⟨s1, s2, s3, s4, s5, s6, s7, s8⟩ := S
  obtain ⟨ws, tys, h1, h2, h3, h4, h5, h6, h7, h8, h9⟩ := id s1
  dsimp only at h2 h3 h4 h8 h9
  rw [hK] at h9
  obtain ⟨scr, g1, g2, g3, g4, g5⟩ := h9
  have hlt : i.toNatClampNeg < L := Nat.not_le.mp fun z => hin (Or.inr z)
  have h0 : as.getD 0 0 = b := by rw [h1]; rfl
  have hst : List.map (mj_t as) (.int i :: .ref 0 :: st) = .int i :: .ref b :: st.map (mj_t as) := by
    show _ :: Value.ref (as.getD 0 0) :: _ = _
    rw [h0]
    rfl
  rw [hst]
  exact W.iald (v := .int (f 0 i.toNatClampNeg)) X.1 X.2.1 g1 g2 g3 (by rw [g4]; exact hin) (g5 _ hlt) rfl rfl hd (k p l e R s m args below meth c D b B0 MC MS as0 QQ X E as H locs ls cells slots ⟨s1, s2, s3, s4, s5, ⟨trivial, s6.2.2⟩, s7, s8⟩)
theorem mj_slen {L : Nat} {v : Int32} (hd : decode M.2.1 pc = .ok (.arraylength, 1)) (hq : pc + 1 = q) (hK : K 0 = (3, L, 0)) (hv : Int32.ofNat L = v)
    (k : mj_W M d mc ms Q q lv (.int v :: st) (n, K, f, g)) : mj_W M d mc ms Q pc lv (.ref 0 :: st) (n, K, f, g) := by
  subst hq
  subst hv
  intro p l e R s m args below meth c D b B0 MC MS as0 QQ X E as H locs ls cells slots S
  obtain ⟨s1, s2, s3, s4, s5, s6, s7, s8⟩ := S
  obtain ⟨ws, tys, h1, h2, h3, h4, h5, h6, h7, h8, h9⟩ := id s1
  dsimp only at h2 h3 h4 h8 h9
  rw [hK] at h9
  obtain ⟨scr, g1, g2, g3, g4, g5⟩ := h9
  have h0 : as.getD 0 0 = b := by rw [h1]; rfl
  have hst : List.map (mj_t as) (.ref 0 :: st) = .ref b :: st.map (mj_t as) := by
    show Value.ref (as.getD 0 0) :: _ = _
    rw [h0]
  rw [hst]
  exact W.alen (n := Int32.ofNat L) X.1 X.2.1 g1 g2 (by rw [g4] <;> rfl) rfl rfl hd (k p l e R s m args below meth c D b B0 MC MS as0 QQ X E as H locs ls cells slots ⟨s1, s2, s3, s4, s5, ⟨trivial, s6.2⟩, s7, s8⟩)
end MJ2
end
section
/-! CALLS, entries, new cells -/
theorem mj_good (K : mj_M) (hc : Cond.code K.1 K.2.1 K.2.2.1 K.2.2.2.1 ∈ mj_TW) : GoodIn mj_TW (mj_ws K) := by
  intro w hw
  rcases List.mem_cons.mp hw with rfl | h
  · exact ⟨hc, good_of_word (mj_TWg _ hc)⟩
  · exact ⟨h, good_of_word (mj_TWg _ h)⟩
theorem mj_lvcat (as : List Nat) : ∀ (vs : List Value), (lg_sl (vs.map (mj_t as))).length = (lg_sl vs).length
  | [] => rfl
  | v :: vs => by
    have ih := mj_lvcat as vs
    unfold lg_sl at ih ⊢
    rw [List.map_cons, List.flatMap_cons, List.flatMap_cons, List.length_append, List.length_append, ih, mj_t_cat]
    split <;> rfl
/-- the locals at an entry -/
def mj_lv0 : List Value → List Value
  | [] => []
  | v :: vs => if v.category = 2 then v :: .null :: mj_lv0 vs else v :: mj_lv0 vs
theorem mj_lv0_args (as : List Nat) : ∀ (vs : List Value) (i : Nat) (q : Nat × Value), q ∈ mj_al as i (mj_lv0 vs) → q ∈ lv_args i (vs.map (mj_t as))
  | [], i, q, h => by simp [mj_lv0, mj_al] at h
  | v :: vs, i, q, h => by
    rw [List.map_cons, lv_args, mj_t_cat]
    by_cases hv : v.category = 2
    · rw [if_pos hv]
      rw [mj_lv0, if_pos hv] at h
      have hn : v ≠ .null := by rintro rfl; cases hv
      have e : mj_al as i (v :: .null :: mj_lv0 vs) = (i, mj_t as v) :: mj_al as (i + 2) (mj_lv0 vs) := by
        cases v <;> first | rfl | exact absurd rfl hn
      rw [e] at h
      rcases List.mem_cons.mp h with h | h
      · exact List.mem_cons.mpr (Or.inl h)
      · exact List.mem_cons.mpr (Or.inr (mj_lv0_args as vs (i + 2) q h))
    · rw [if_neg hv]
      rw [mj_lv0, if_neg hv] at h
      by_cases hn : v = .null
      · subst hn
        exact List.mem_cons.mpr (Or.inr (mj_lv0_args as vs (i + 1) q h))
      · have e : mj_al as i (v :: mj_lv0 vs) = (i, mj_t as v) :: mj_al as (i + 1) (mj_lv0 vs) := by
          cases v <;> first | rfl | exact absurd rfl hn
        rw [e] at h
        rcases List.mem_cons.mp h with h | h
        · exact List.mem_cons.mpr (Or.inl h)
        · exact List.mem_cons.mpr (Or.inr (mj_lv0_args as vs (i + 1) q h))
theorem mj_oks_lv0 {n : Nat} : ∀ {vs : List Value}, mj_oks n vs → mj_oks n (mj_lv0 vs)
  | [], _ => trivial
  | v :: vs, h => by
    rw [mj_lv0]
    split
    · exact ⟨h.1, trivial, mj_oks_lv0 h.2⟩
    · exact ⟨h.1, mj_oks_lv0 h.2⟩
theorem mj_al_null (as : List Nat) : ∀ (k : Nat) (lv : List Value) (i : Nat), mj_al as i (lv ++ List.replicate k .null) = mj_al as i lv
  | k, v :: lv, i => by
    have ih := mj_al_null as k lv (i + 1)
    cases v <;> first | exact ih | (show _ :: mj_al as (i + 1) (lv ++ List.replicate k .null) = _ :: mj_al as (i + 1) lv; rw [ih])
  | 0, [], i => rfl
  | k + 1, [], i => mj_al_null as k [] (i + 1)
theorem mj_oks_null {n : Nat} : ∀ (k : Nat), mj_oks n (List.replicate k .null)
  | 0 => trivial
  | k + 1 => ⟨trivial, mj_oks_null k⟩
def mj_lvE (M : mj_M) (args : List Value) : List Value := mj_lv0 args ++ List.replicate (M.2.2.1 - (mj_lv0 args).length) .null
/-- what a program decides of a method -/
def mj_fine (K : mj_M) (args : List Value) : Prop := plainName K.1.cls = true ∧ (K.2.2.2.2.2 = true → K.1.name = "<init>") ∧ K.2.2.2.2.1 = K.1.cls ∧ (lg_sl args).length ≤ K.2.2.1
theorem mj_entry {K : mj_M} {d mc ms : Nat} {args : List Value} {h : mj_H} {Q : mj_Q} (hf : mj_fine K args) (hw : mj_W K d mc ms Q 0 (mj_lvE K args) [] h) : mj_C K d mc ms args h Q := by
  intro l D b B0 as
  obtain ⟨hy, hi, ho, hlen⟩ := hf
  refine Met.ofW (cc := K.2.1) (maxL := K.2.2.1) (ret := K.2.2.2.1) hy rfl ?_
  intro p e s m args' below meth c s₁ B hml hv
  obtain ⟨rfl, hH, hok, hxw, hb0, hB0⟩ := hv
  have hr := B.returns
  have hts := atoms_spec (ws := mj_ws K) B.pre
  have hown : s.vm.findClass K.1.cls = some m.cls := findClass_of_methodNamed B.named
  have hlocks := B.notSynchronized
  have hl := lv_entry (args.map (mj_t as)) (n := K.2.2.1) (by rw [mj_lvcat]; exact hlen)
  rw [lg_entry_eq]
  generalize (lg_sl (args.map (mj_t as)) ++ List.replicate (K.2.2.1 - (lg_sl (args.map (mj_t as))).length) Slot.unset).toArray = ls at hl ⊢
  refine hw p l e _ s m _ below meth c D b B0 mc ms as _ ⟨B.exec, B.bytes, hml, by rw [ho]; exact hown, fun w hw => hts w (List.mem_cons_of_mem _ hw), hxw, hr, hlocks, fun h => (name_of_methodNamed B.named B.method).1.trans (hi h), Nat.le_refl _, Nat.le_refl _, Nat.le_refl _, Nat.le_refl _, hb0, hB0⟩ ?_ as s.heap [] ls 0 0 ⟨hH, va_S.rf, ⟨[], by simp⟩, ?_, ?_, trivial, by omega, by omega⟩
  · intro as2 H locs ls cells slots pc v lv h hq hrv hd S
    obtain ⟨s1, s2, s3, s4, s5, s6, s7, s8⟩ := S
    refine W.widen (k := mc) (n := ms) (by omega) (by omega) ?_
    have hfin : ∀ t : State, t.heap = H → s.WarmedH t.vm → mj_Qc D b B0 as Q (args.map (mj_t as)).toArray s (.returned (v.map (mj_t as2))) t := fun t ht hW =>
      ⟨⟨v, as2, h, rfl, hq, s3, by rw [ht]; exact mj_Hp.moved hW.alike s1, s6⟩, s2.F ht⟩
    rcases v with _ | v
    · exact W.vret B.exec B.bytes (hr.trans hrv) hfin s2.2.2 hd
    · cases v <;> first | exact absurd hrv (fun z => z) | skip
      · obtain ⟨ty, h1, h2⟩ := hrv
        exact W.zret B.exec B.bytes (hr.trans h1) h2 hfin s2.2.2 hd
      · exact W.lret B.exec B.bytes (hr.trans hrv) hfin s2.2.2 hd
      · exact W.dret B.exec B.bytes (hr.trans hrv) hfin s2.2.2 hd
      · obtain ⟨rt, h1, h2⟩ := hrv
        exact W.aret B.exec B.bytes (hr.trans h1) h2 (Or.inr ⟨_, rfl⟩) hfin s2.2.2 hd
  · refine mj_has_sub hl (fun q hq => ?_)
    rw [mj_lvE, mj_al_null] at hq
    exact mj_lv0_args as args 0 q hq
  · rw [mj_lvE, mj_oks_app]
    exact ⟨mj_oks_lv0 hok, mj_oks_null _⟩
theorem mj_Pc_blind (D : va_G) (b B0 : Nat) (as : List Nat) (args : List Value) (h : mj_H) : FrameBlind (mj_Pc D b B0 as args h) := by
  intro a U g mk q
  obtain ⟨q1, q2, q3, q4, q5, q6⟩ := q
  exact ⟨q1, mj_Hp.moved (Vm.Alike.refl U.vm) q2, q3, mj_XW.warm (U := U.calling g mk a) (State.WarmedH.refl U) q4, q5, q6⟩
section MJ3
variable {M K : mj_M} {d mc ms mc1 ms1 : Nat} {Q Q1 : mj_Q} {pc q : Nat} {lv st : List Value} {h : mj_H} {n idx : Nat}
/-- behind a call -/
theorem mj_after {p : Program} {l : Launch} {e : Env} {R : Room} {s : State} {m : MethodId} {args : Array Value} {below : List Frame} {meth : Method} {c : Code} {D : va_G} {b B0 MC MS : Nat} {as0 as : List Nat} {QQ : State → Prop} {H : Heap} {locs : List Loc} {ls : Array Slot} {cells slots : Nat} {st0 : List Value} {a : Array Value}
    (X : mj_X M (d + 1) b B0 MC MS p R s m args meth c) (E : mj_E M Q p l e R s m args below meth c D b B0 MC MS as0 QQ) (S : mj_St M (mc1 + mc) (ms1 + ms) D b B0 MC MS as0 as s H locs ls cells slots lv st h)
    (hr : va_Run p l e R s m args below meth c H locs cells slots mc1 ms1 (F0 m pc ls st0) (st.map (mj_t as)) (mj_Qc D b B0 as Q1 a) (fun q => B0 ≤ q))
    (k : ∀ v h1, Q1 v h1 → mj_W M (d + 1) mc ms Q (pc + 3) lv (v.toList ++ st) h1) : W p l e R s m args below meth c H locs cells slots QQ (F0 m pc ls st0) := by
  obtain ⟨s1, s2, s3, s4, s5, s6, s7, s8⟩ := S
  intro T hT XT
  obtain ⟨v0, st₀, t, T', L, h0, X', hL, e1, e2, ⟨⟨v, as1, h1, hv, hq, ⟨ex, rfl⟩, hH, hok⟩, hz, hk⟩, stp⟩ := hr T hT XT
  cases hv
  rw [h0] at hz hk
  have halike : t.vm.Alike s.vm := by rw [← e2]; exact X'.warmed.alike.symm
  have hn : h.1 = as.length := by
    obtain ⟨ws, tys, g1, g2, -⟩ := s1
    rw [g1, g2, List.length_cons, List.length_map]
  have hn1 : h1.1 = (as ++ ex).length := by
    obtain ⟨ws, tys, g1, g2, -⟩ := hH
    rw [g1, g2, List.length_cons, List.length_map]
  have hle : h.1 ≤ h1.1 := by rw [hn, hn1, List.length_append]; omega
  have hS : va_S (fun q => B0 ≤ q) s.heap T'.heap (locs ++ L) := ⟨Nat.le_trans s2.1 (by rw [e1]; exact hz), fun q h1 h2 => by rw [e1, hk q (Nat.lt_of_lt_of_le h1 s2.1) h2]; exact s2.2.1 q h1 h2, fun q hq => by
      rcases List.mem_append.mp hq with h | h
      · exact s2.2.2 q h
      · exact hL q h⟩
  obtain ⟨t2, a1, b1⟩ := k v h1 hq p l e R s m args below meth c D b B0 MC MS as0 QQ X E (as ++ ex) T'.heap (locs ++ L) ls (cells + mc1) (slots + ms1)
    ⟨by rw [e1]; exact mj_Hp.moved halike hH, hS, by obtain ⟨ex0, rfl⟩ := s3; exact ⟨ex0 ++ ex, by rw [List.append_assoc]⟩, by rw [mj_al_app lv 0 (by rw [← hn]; exact s5)]; exact s4, mj_oks_mono hle s5, by rw [mj_oks_app]; exact ⟨hok, mj_oks_mono hle s6⟩, by omega, by omega⟩ T' rfl X'
  refine ⟨t2, stp t2 ?_, b1⟩
  rw [List.map_append, mj_ts_app (st := st) (by rw [← hn]; exact s6)] at a1
  have ev : List.map (mj_t (as ++ ex)) v.toList = (v.map (mj_t (as ++ ex))).toList := by cases v <;> rfl
  rw [ev] at a1
  exact a1
theorem mj_callV {a : Nat} {ci x : Nat} (As : List Value) (hd : decode M.2.1 pc = .ok (.invokevirtual idx, 3)) (hln : Cond.methodLink M.2.2.2.2.1 idx K.1 ∈ mj_TW) (hok : mj_okV K n) (hn : As.length = n) (hcat : (st.map fun v => v.category).sum ≤ 8) (hL : K.2.2.1 ≤ 21) (hK : h.2.1 a = (2, ci, x)) (hC : mT_C ci = K.1.cls)
    (hM : mj_C K d mc1 ms1 (.ref a :: As) h Q1) (k : ∀ v h1, Q1 v h1 → mj_W M (d + 1) mc ms Q (pc + 3) lv (v.toList ++ st) h1) : mj_W M (d + 1) (mc1 + mc) (ms1 + ms) Q pc lv (As.reverse ++ .ref a :: st) h := by
  intro p l e R s m args below meth c D b B0 MC MS as0 QQ X E as H locs ls cells slots S
  obtain ⟨s1, s2, s3, s4, s5, s6, s7, s8⟩ := id S
  rw [mj_oks_app, mj_oks_rev] at s6
  obtain ⟨w, o4, o5, o6⟩ := hok
  obtain ⟨o1, o2, o3, o7⟩ := w
  obtain ⟨x1, x2, x3, x4, x5, x6, x7, x8, x9, x10, x11, x12, x13, x14, x15⟩ := id X
  obtain ⟨ws, tys, h1, h2, h3, h4, h5, h6, h7, h8, h9⟩ := id s1
  obtain ⟨j, e1, rfl, hj, hc⟩ := mj_place h1 h2 h4 h8 s6.2.1 (by rw [hK]; simp)
  rcases hc with ⟨hc, -⟩ | ⟨hc, -⟩ | ⟨-, hci, he⟩
  · rw [hK] at hc; cases hc
  · rw [hK] at hc; cases hc
  rw [hK] at he hci
  dsimp only at he hci
  subst he
  have hrecv := va_recv h5 h6 (mT_at ci hci) hj
  rw [show (mT_C ci, mT_T ci, mT_N ci).1 = K.1.cls from hC] at hrecv
  have hrun := va_runV (p := p) (l := l) (e := e) (R := R) (s := s) (m := m) (args := args) (below := below) (meth := meth) (c := c) (H := H) (locs := locs) (cells := cells) (slots := slots) (cc := M.2.1) (nL := M.2.2.1) (own := M.2.2.2.2.1) (C := K.1.cls) (b := as.getD (j + 1) 0) (As := As.map (mj_t as)) (rest := st.map (mj_t as)) (g := F0 m pc ls ((As.reverse ++ .ref (j + 1) :: st).map (mj_t as))) (index := idx) (n := n) (y := K.1) (bytes := K.2.1) (maxL := K.2.2.1) (ret := K.2.2.2.1) (mc := mc1) (ms := ms1)
    ⟨x1, x2, x3, x4, x5⟩ (hM l D b B0 as)
    ⟨⟨rfl, rfl, by show d + 1 ≤ R.frames; omega, by show 8 + (K.2.2.1 + 11) + 40 * d ≤ R.locals; omega, pay_in x5 (mj_good K o7), List.mem_cons_self, x5 _ o7, x5 _ o3, ⟨o4, o5⟩, fun sig hs => by rw [hs] at o6; simpa using o6.symm, x5 _ hln⟩, x5 _ o1, x5 _ o2⟩
    ⟨mj_Pc_blind _ _ _ _ _ _, hrecv, fun U hU hW => ⟨rfl, by rw [hU]; exact mj_Hp.moved hW.alike s1, ⟨s6.2.1, s6.1⟩, mj_XW.warm hW x6, x14, by rw [hU]; exact Nat.le_trans x15 s2.1⟩⟩
    rfl (by rw [List.length_map]; exact hn) s4.1 (by show List.map (mj_t as) _ = _; rw [List.map_append, List.map_reverse]; rfl) (lv_room (by rw [mj_cats]; exact hcat)) hd ⟨by show cells + mc1 ≤ R.cells; omega, by show slots + ms1 ≤ R.slots; omega⟩
  exact mj_after X E ⟨s1, s2, s3, s4, s5, s6.2.2, s7, s8⟩ hrun k
theorem mj_callS (As : List Value) (hd : decode M.2.1 pc = .ok (.invokestatic idx, 3)) (hln : Cond.methodLink M.2.2.2.2.1 idx K.1 ∈ mj_TW) (hok : mj_okS K n) (hn : As.length = n) (hcat : (st.map fun v => v.category).sum ≤ 8) (hL : K.2.2.1 ≤ 21)
    (hM : mj_C K d mc1 ms1 As h Q1) (k : ∀ v h1, Q1 v h1 → mj_W M (d + 1) mc ms Q (pc + 3) lv (v.toList ++ st) h1) : mj_W M (d + 1) (mc1 + mc) (ms1 + ms) Q pc lv (As.reverse ++ st) h := by
  intro p l e R s m args below meth c D b B0 MC MS as0 QQ X E as H locs ls cells slots S
  obtain ⟨s1, s2, s3, s4, s5, s6, s7, s8⟩ := id S
  rw [mj_oks_app, mj_oks_rev] at s6
  obtain ⟨w, o4, o5, o6⟩ := hok
  obtain ⟨o1, o3, o7⟩ := w
  obtain ⟨x1, x2, x3, x4, x5, x6, x7, x8, x9, x10, x11, x12, x13, x14, x15⟩ := id X
  have hrun := va_runS (p := p) (l := l) (e := e) (R := R) (s := s) (m := m) (args := args) (below := below) (meth := meth) (c := c) (H := H) (locs := locs) (cells := cells) (slots := slots) (cc := M.2.1) (nL := M.2.2.1) (own := M.2.2.2.2.1) (As := As.map (mj_t as)) (rest := st.map (mj_t as)) (g := F0 m pc ls ((As.reverse ++ st).map (mj_t as))) (index := idx) (n := n) (y := K.1) (bytes := K.2.1) (maxL := K.2.2.1) (ret := K.2.2.2.1) (mc := mc1) (ms := ms1)
    ⟨x1, x2, x3, x4, x5⟩ (hM l D b B0 as)
    ⟨⟨rfl, rfl, by show d + 1 ≤ R.frames; omega, by show 8 + (K.2.2.1 + 11) + 40 * d ≤ R.locals; omega, pay_in x5 (mj_good K o7), List.mem_cons_self, x5 _ o7, x5 _ o3, ⟨o4, o5⟩, fun sig hs => by rw [hs] at o6; simpa using o6.symm, x5 _ hln⟩, x5 _ o1⟩
    ⟨mj_Pc_blind _ _ _ _ _ _, fun U hU hW => ⟨rfl, by rw [hU]; exact mj_Hp.moved hW.alike s1, s6.1, mj_XW.warm hW x6, x14, by rw [hU]; exact Nat.le_trans x15 s2.1⟩⟩
    rfl (by rw [List.length_map]; exact hn) s4.1 (by show List.map (mj_t as) _ = _; rw [List.map_append, List.map_reverse]) (lv_room (by rw [mj_cats]; exact hcat)) hd ⟨by show cells + mc1 ≤ R.cells; omega, by show slots + ms1 ≤ R.slots; omega⟩
  exact mj_after X E ⟨s1, s2, s3, s4, s5, s6.2, s7, s8⟩ hrun k
/-- a static method of a nest mate -/
theorem mj_callSN {host : String} (As : List Value) (hd : decode M.2.1 pc = .ok (.invokestatic idx, 3)) (hln : ∀ s, mj_XW s → va_Nw (.methodLinkNest M.2.2.2.2.1 idx K.1 host) s) (hok : mj_okS K n) (hn : As.length = n) (hcat : (st.map fun v => v.category).sum ≤ 8) (hL : K.2.2.1 ≤ 21)
    (hM : mj_C K d mc1 ms1 As h Q1) (k : ∀ v h1, Q1 v h1 → mj_W M (d + 1) mc ms Q (pc + 3) lv (v.toList ++ st) h1) : mj_W M (d + 1) (mc1 + mc) (ms1 + ms) Q pc lv (As.reverse ++ st) h := by
  intro p l e R s m args below meth c D b B0 MC MS as0 QQ X E as H locs ls cells slots S
  obtain ⟨s1, s2, s3, s4, s5, s6, s7, s8⟩ := id S
  rw [mj_oks_app, mj_oks_rev] at s6
  obtain ⟨w, o4, o5, o6⟩ := hok
  obtain ⟨o1, o3, o7⟩ := w
  obtain ⟨x1, x2, x3, x4, x5, x6, x7, x8, x9, x10, x11, x12, x13, x14, x15⟩ := id X
  have hrun := va_runSN (p := p) (l := l) (e := e) (R := R) (s := s) (m := m) (args := args) (below := below) (meth := meth) (c := c) (H := H) (locs := locs) (cells := cells) (slots := slots) (cc := M.2.1) (nL := M.2.2.1) (own := M.2.2.2.2.1) (host := host) (As := As.map (mj_t as)) (rest := st.map (mj_t as)) (g := F0 m pc ls ((As.reverse ++ st).map (mj_t as))) (index := idx) (n := n) (y := K.1) (bytes := K.2.1) (maxL := K.2.2.1) (ret := K.2.2.2.1) (mc := mc1) (ms := ms1)
    ⟨x1, x2, x3, x4, x5⟩ (hM l D b B0 as)
    ⟨⟨⟨rfl, rfl, by show d + 1 ≤ R.frames; omega, by show 8 + (K.2.2.1 + 11) + 40 * d ≤ R.locals; omega, pay_in x5 (mj_good K o7), List.mem_cons_self⟩, x5 _ o7, x5 _ o3, ⟨o4, o5⟩, fun sig hs => by rw [hs] at o6; simpa using o6.symm, va_Nw.use rfl (hln s x6)⟩, x5 _ o1, trivial⟩
    ⟨mj_Pc_blind _ _ _ _ _ _, fun U hU hW => ⟨rfl, by rw [hU]; exact mj_Hp.moved hW.alike s1, s6.1, mj_XW.warm hW x6, x14, by rw [hU]; exact Nat.le_trans x15 s2.1⟩⟩
    rfl (by rw [List.length_map]; exact hn) s4.1 (by show List.map (mj_t as) _ = _; rw [List.map_append, List.map_reverse]) (lv_room (by rw [mj_cats]; exact hcat)) hd ⟨by show cells + mc1 ≤ R.cells; omega, by show slots + ms1 ≤ R.slots; omega⟩
  exact mj_after X E ⟨s1, s2, s3, s4, s5, s6.2, s7, s8⟩ hrun k
theorem mj_callI {a : Nat} (As : List Value) (hd : decode M.2.1 pc = .ok (.invokespecial idx, 3)) (hln : Cond.methodLink M.2.2.2.2.1 idx K.1 ∈ mj_TW) (hok : mj_okI K n) (hn : As.length = n) (hcat : (st.map fun v => v.category).sum ≤ 8) (hL : K.2.2.1 ≤ 21)
    (hM : mj_C K d mc1 ms1 (.ref a :: As) h Q1) (k : ∀ v h1, Q1 v h1 → mj_W M (d + 1) mc ms Q (pc + 3) lv (v.toList ++ st) h1) : mj_W M (d + 1) (mc1 + mc) (ms1 + ms) Q pc lv (As.reverse ++ .ref a :: st) h := by
  intro p l e R s m args below meth c D b B0 MC MS as0 QQ X E as H locs ls cells slots S
  obtain ⟨s1, s2, s3, s4, s5, s6, s7, s8⟩ := id S
  rw [mj_oks_app, mj_oks_rev] at s6
  obtain ⟨w, o4, o5, o6⟩ := hok
  obtain ⟨o1, o3, o7⟩ := w
  obtain ⟨o8, o9, o10⟩ := o4
  obtain ⟨x1, x2, x3, x4, x5, x6, x7, x8, x9, x10, x11, x12, x13, x14, x15⟩ := id X
  have hMl := hM l D b B0 as
  unfold mj_ws at hMl
  rw [o6] at hMl
  have hrun := va_runI (p := p) (l := l) (e := e) (R := R) (s := s) (m := m) (args := args) (below := below) (meth := meth) (c := c) (H := H) (locs := locs) (cells := cells) (slots := slots) (cc := M.2.1) (nL := M.2.2.1) (own := M.2.2.2.2.1) (b := as.getD a 0) (As := As.map (mj_t as)) (rest := st.map (mj_t as)) (g := F0 m pc ls ((As.reverse ++ .ref a :: st).map (mj_t as))) (index := idx) (n := n) (y := K.1) (bytes := K.2.1) (maxL := K.2.2.1) (mc := mc1) (ms := ms1)
    ⟨x1, x2, x3, x4, x5⟩ hMl
    ⟨⟨rfl, rfl, by show d + 1 ≤ R.frames; omega, by show 8 + (K.2.2.1 + 11) + 40 * d ≤ R.locals; omega, pay_in x5 (by have := mj_good K (by rw [o6]; exact o7); unfold mj_ws at this; rw [o6] at this; exact this), List.mem_cons_self, x5 _ o7, x5 _ o3, ⟨o8, o9⟩, fun sig hs => by rw [hs] at o10; simpa using o10.symm, x5 _ hln⟩, o5, x5 _ o1⟩
    ⟨mj_Pc_blind _ _ _ _ _ _, fun U hU hW => ⟨rfl, by rw [hU]; exact mj_Hp.moved hW.alike s1, ⟨s6.2.1, s6.1⟩, mj_XW.warm hW x6, x14, by rw [hU]; exact Nat.le_trans x15 s2.1⟩⟩
    rfl (by rw [List.length_map]; exact hn) s4.1 (by show List.map (mj_t as) _ = _; rw [List.map_append, List.map_reverse]; rfl) (lv_room (by rw [mj_cats]; exact hcat)) hd ⟨by show cells + mc1 ≤ R.cells; omega, by show slots + ms1 ≤ R.slots; omega⟩
  exact mj_after X E ⟨s1, s2, s3, s4, s5, s6.2.2, s7, s8⟩ hrun k
theorem mj_callIN {a : Nat} {host : String} (As : List Value) (hd : decode M.2.1 pc = .ok (.invokespecial idx, 3)) (hln : ∀ s, mj_XW s → va_Nw (.methodLinkNest M.2.2.2.2.1 idx K.1 host) s) (hok : mj_okI K n) (hn : As.length = n) (hcat : (st.map fun v => v.category).sum ≤ 8) (hL : K.2.2.1 ≤ 21)
    (hM : mj_C K d mc1 ms1 (.ref a :: As) h Q1) (k : ∀ v h1, Q1 v h1 → mj_W M (d + 1) mc ms Q (pc + 3) lv (v.toList ++ st) h1) : mj_W M (d + 1) (mc1 + mc) (ms1 + ms) Q pc lv (As.reverse ++ .ref a :: st) h := by
  intro p l e R s m args below meth c D b B0 MC MS as0 QQ X E as H locs ls cells slots S
  obtain ⟨s1, s2, s3, s4, s5, s6, s7, s8⟩ := id S
  rw [mj_oks_app, mj_oks_rev] at s6
  obtain ⟨w, o4, o5, o6⟩ := hok
  obtain ⟨o1, o3, o7⟩ := w
  obtain ⟨o8, o9, o10⟩ := o4
  obtain ⟨x1, x2, x3, x4, x5, x6, x7, x8, x9, x10, x11, x12, x13, x14, x15⟩ := id X
  have hMl := hM l D b B0 as
  unfold mj_ws at hMl
  rw [o6] at hMl
  have hrun := va_runIN (p := p) (l := l) (e := e) (R := R) (s := s) (m := m) (args := args) (below := below) (meth := meth) (c := c) (H := H) (locs := locs) (cells := cells) (slots := slots) (cc := M.2.1) (nL := M.2.2.1) (own := M.2.2.2.2.1) (host := host) (b := as.getD a 0) (As := As.map (mj_t as)) (rest := st.map (mj_t as)) (g := F0 m pc ls ((As.reverse ++ .ref a :: st).map (mj_t as))) (index := idx) (n := n) (y := K.1) (bytes := K.2.1) (maxL := K.2.2.1) (mc := mc1) (ms := ms1)
    ⟨x1, x2, x3, x4, x5⟩ hMl
    ⟨⟨⟨rfl, rfl, by show d + 1 ≤ R.frames; omega, by show 8 + (K.2.2.1 + 11) + 40 * d ≤ R.locals; omega, pay_in x5 (by have := mj_good K (by rw [o6]; exact o7); unfold mj_ws at this; rw [o6] at this; exact this), List.mem_cons_self⟩, x5 _ o7, x5 _ o3, ⟨o8, o9⟩, fun sig hs => by rw [hs] at o10; simpa using o10.symm, va_Nw.use rfl (hln s x6)⟩, o5, x5 _ o1⟩
    ⟨mj_Pc_blind _ _ _ _ _ _, fun U hU hW => ⟨rfl, by rw [hU]; exact mj_Hp.moved hW.alike s1, ⟨s6.2.1, s6.1⟩, mj_XW.warm hW x6, x14, by rw [hU]; exact Nat.le_trans x15 s2.1⟩⟩
    rfl (by rw [List.length_map]; exact hn) s4.1 (by show List.map (mj_t as) _ = _; rw [List.map_append, List.map_reverse]; rfl) (lv_room (by rw [mj_cats]; exact hcat)) hd ⟨by show cells + mc1 ≤ R.cells; omega, by show slots + ms1 ≤ R.slots; omega⟩
  exact mj_after X E ⟨s1, s2, s3, s4, s5, s6.2.2, s7, s8⟩ hrun k
end MJ3
end
section
/-! NEW CELLS, and the JDK's own: Object(), arraycopy, the two natives of Math.abs(double) -/
theorem mj_cell_ext {tys t2 : List (ClassId × FieldType)} {as ex : List Nat} {K : mj_K} {f : Nat → Int32} {g : Nat → Option Nat} {e : va_E} (hg : ∀ j c, g j = some c → c < as.length) (h : mj_cell tys as K f g e) : mj_cell (tys ++ t2) (as ++ ex) K f g e := by
  have hr : ∀ j, ((g j).map fun b => (as ++ ex).getD b 0) = ((g j).map fun b => as.getD b 0) := by
    intro j
    cases hj : g j with
    | none => rfl
    | some c =>
      have hc := hg j c hj
      show some ((as ++ ex).getD c 0) = some (as.getD c 0)
      rw [List.getD_eq_getElem?_getD, List.getD_eq_getElem?_getD, List.getElem?_append_left hc]
  have ht : ∀ (t0 : Nat) (x : ClassId × FieldType), tys[t0]? = some x → (tys ++ t2)[t0]? = some x := fun t0 x hx => by
    rw [List.getElem?_append_left (List.getElem?_eq_some_iff.mp hx).1]; exact hx
  rcases h with ⟨h1, cA, t0, h2, h3⟩ | ⟨h1, cA, t0, h2, h3⟩ | ⟨h1, h2, h3⟩
  · exact Or.inl ⟨h1, cA, t0, ht _ _ h2, h3⟩
  · refine Or.inr (Or.inl ⟨h1, cA, t0, ht _ _ h2, ?_⟩)
    rw [h3]
    congr 7
    funext j
    exact (hr j).symm
  · refine Or.inr (Or.inr ⟨h1, h2, ?_⟩)
    rw [h3]
    congr 2
    unfold mj_fs
    apply List.map_congr_left
    intro k _
    rw [hr k]
theorem mj_Hp_new {D : va_G} {b n a : Nat} {as : List Nat} {K : Nat → mj_K} {f : Nat → Nat → Int32} {g : Nat → Nat → Option Nat} {A : Nat → Prop} {s : State} {H1 : Heap} {ws : va_W} {tys t2 : List (ClassId × FieldType)} {e : va_E} {kk : mj_K}
    (h1 : as = b :: ws.map (·.1)) (h2 : n = ws.length + 1) (h3 : ∀ k j c, g k j = some c → c < n) (h4 : ∀ k q, ws[k]? = some q → mj_cell tys as (K (k + 1)) (f (k + 1)) (g (k + 1)) q.2) (h5 : va_K D vwCl (tys ++ t2) s) (h8 : (K 0).1 = 3)
    (hP : va_P D vwCl (ws ++ [(a, e)]) H1) (hD : va_D A (ws ++ [(a, e)])) (hX : va_X b (K 0).2.1 (f 0) s H1) (hc : mj_cell (tys ++ t2) (as ++ [a]) kk (fun _ => 0) (fun _ => none) e) :
    mj_Hp D b (as ++ [a]) (n + 1, mj_row K n kk, mj_row f n (fun _ => 0), mj_row g n (fun _ => none)) A s H1 := by
  have hlen : as.length = n := by rw [h1, List.length_cons, List.length_map, h2]
  refine ⟨ws ++ [(a, e)], tys ++ t2, by rw [h1, List.map_append]; rfl, by show n + 1 = _; rw [List.length_append, h2]; rfl, ?_, ?_, h5, hP, hD, ?_, ?_⟩
  · intro k j c hc
    show c < n + 1
    have hc : mj_row g n (fun _ => none) k j = some c := hc
    unfold mj_row at hc
    split at hc
    · cases hc
    · exact Nat.lt_succ_of_lt (h3 _ _ _ hc)
  · intro k q hq
    show mj_cell (tys ++ t2) (as ++ [a]) (mj_row K n kk (k + 1)) (mj_row f n (fun _ => 0) (k + 1)) (mj_row g n (fun _ => none) (k + 1)) q.2
    by_cases hk : k < ws.length
    · rw [List.getElem?_append_left hk] at hq
      unfold mj_row
      rw [if_neg (by omega), if_neg (by omega), if_neg (by omega)]
      exact mj_cell_ext (fun j c hj => by rw [hlen]; exact h3 _ _ _ hj) (h4 k q hq)
    · have hk2 : k = ws.length := by
        have := (List.getElem?_eq_some_iff.mp hq).1
        rw [List.length_append] at this
        simp at this
        omega
      subst hk2
      rw [List.getElem?_concat_length] at hq
      cases hq
      unfold mj_row
      rw [if_pos (by omega), if_pos (by omega), if_pos (by omega)]
      exact hc
  · show (mj_row K n kk 0).1 = 3
    unfold mj_row
    rw [if_neg (by omega)]
    exact h8
  · show va_X b (mj_row K n kk 0).2.1 (mj_row f n (fun _ => 0) 0) s H1
    unfold mj_row
    rw [if_neg (by omega), if_neg (by omega)]
    exact hX
theorem mj_dflt : ∀ ci, ci < 6 → ∀ (as : List Nat) (j : Nat), j < mT_N ci → defaultValue (mT_ty ci j) = vp_V (mj_fs as ci (fun _ => 0) (fun _ => none)) j := by
  intro ci hci as j hj
  unfold vp_V
  rw [List.getD_eq_getElem?_getD, mj_fs_get _ _ _ _ hj]
  match ci, hci with
  | 0, _ =>
    match j, hj with
    | 0, _ => rfl
    | 1, _ => rfl
    | 2, _ => rfl
    | 3, _ => rfl
    | 4, _ => rfl
    | z + 5, h => exact absurd h (by show ¬ z + 5 < 5; omega)
  | 1, _ =>
    match j, hj with
    | 0, _ => rfl
    | 1, _ => rfl
    | 2, _ => rfl
    | 3, _ => rfl
    | 4, _ => rfl
    | 5, _ => rfl
    | 6, _ => rfl
    | 7, _ => rfl
    | 8, _ => rfl
    | 9, _ => rfl
    | 10, _ => rfl
    | 11, _ => rfl
    | 12, _ => rfl
    | 13, _ => rfl
    | 14, _ => rfl
    | 15, _ => rfl
    | z + 16, h => exact absurd h (by show ¬ z + 16 < 16; omega)
  | 2, _ =>
    match j, hj with
    | 0, _ => rfl
    | 1, _ => rfl
    | 2, _ => rfl
    | 3, _ => rfl
    | 4, _ => rfl
    | 5, _ => rfl
    | 6, _ => rfl
    | 7, _ => rfl
    | 8, _ => rfl
    | 9, _ => rfl
    | 10, _ => rfl
    | 11, _ => rfl
    | 12, _ => rfl
    | 13, _ => rfl
    | 14, _ => rfl
    | 15, _ => rfl
    | 16, _ => rfl
    | 17, _ => rfl
    | z + 18, h => exact absurd h (by show ¬ z + 18 < 18; omega)
  | 3, _ =>
    match j, hj with
    | 0, _ => rfl
    | 1, _ => rfl
    | 2, _ => rfl
    | 3, _ => rfl
    | 4, _ => rfl
    | 5, _ => rfl
    | z + 6, h => exact absurd h (by show ¬ z + 6 < 6; omega)
  | 4, _ =>
    match j, hj with
    | 0, _ => rfl
    | 1, _ => rfl
    | 2, _ => rfl
    | 3, _ => rfl
    | 4, _ => rfl
    | z + 5, h => exact absurd h (by show ¬ z + 5 < 5; omega)
  | 5, _ =>
    match j, hj with
    | 0, _ => rfl
    | 1, _ => rfl
    | 2, _ => rfl
    | 3, _ => rfl
    | z + 4, h => exact absurd h (by show ¬ z + 4 < 4; omega)
  | z + 6, h => exact absurd h (by omega)
section MJ4
variable {M : mj_M} {d mc ms : Nat} {Q : mj_Q} {pc q : Nat} {lv st : List Value} {n : Nat} {K : Nat → mj_K} {f : Nat → Nat → Int32} {g : Nat → Nat → Option Nat}
theorem mj_new {idx ci : Nat} (hd : decode M.2.1 pc = .ok (.new idx, 3)) (hci : ci < 6) (hcl : Cond.classLink M.2.2.2.2.1 idx (mT_C ci) ∈ mj_TW) (hin : Cond.instantiable (mT_C ci) (mT_N ci) ∈ mj_TW ∧ Cond.initialized (mT_C ci) ∈ mj_TW) (hq : pc + 3 = q)
    (k : mj_W M d mc ms Q q lv (.ref n :: st) (n + 1, mj_row K n (2, ci, 0), mj_row f n (fun _ => 0), mj_row g n (fun _ => none))) : mj_W M d (1 + mc) (mT_N ci + ms) Q pc lv st (n, K, f, g) := by
  subst hq
  intro p l e R s m args below meth c D b B0 MC MS as0 QQ X E as H locs ls cells slots S
  obtain ⟨s1, s2, s3, s4, s5, s6, s7, s8⟩ := S
  obtain ⟨ws, tys, h1, h2, h3, h4, h5, h6, h7, h8, h9⟩ := id s1
  dsimp only at h2 h3 h4 h8 h9 s5 s6
  obtain ⟨x1, x2, x3, x4, x5, x6, x7, x8, x9, x10, x11, x12, x13, x14, x15⟩ := id X
  have hlen : as.length = n := by rw [h1, List.length_cons, List.length_map, h2]
  refine va_new (C := mT_C ci) (T := mT_T ci) (N := mT_N ci) (ci := ci) (A := fun q => B0 ≤ q) (fs := mj_fs as ci (fun _ => 0) (fun _ => none)) x1 x2 x5 (mT_in ci hci) (mT_ty ci) (mT_tyok ci hci) x4 (x5 _ hcl) (x5 _ hin.1) (x5 _ hin.2) h5 h6 h7 s2 (fun q h => Nat.le_trans x15 h) (mT_at ci hci) (fun j hj => mj_dflt ci hci as j hj) (by omega) (by omega) hd (fun q H1 hP hD hS => ?_)
  have e1 : st.map (mj_t as) = st.map (mj_t (as ++ [q])) := (mj_ts_app (by rw [hlen]; exact s6)).symm
  have e2 : Value.ref q = mj_t (as ++ [q]) (.ref n) := by
    show Value.ref q = Value.ref _
    rw [List.getD_eq_getElem?_getD, ← hlen, List.getElem?_concat_length]
    rfl
  rw [e1, e2]
  refine k p l e R s m args below meth c D b B0 MC MS as0 QQ X E (as ++ [q]) H1 locs ls (cells + 1) (slots + mT_N ci) ⟨?_, hS, by obtain ⟨ex, rfl⟩ := s3; exact ⟨ex ++ [q], by rw [List.append_assoc]⟩, by rw [mj_al_app lv 0 (by rw [hlen]; exact s5)]; exact s4, mj_oks_mono (Nat.le_succ n) s5, ⟨Nat.lt_succ_self n, mj_oks_mono (Nat.le_succ n) s6⟩, by omega, by omega⟩
  refine mj_Hp_new (t2 := []) h1 h2 h3 h4 (by rw [List.append_nil]; exact h5) h8 hP hD (mj_scr h9 s2 hS x14 x15) (Or.inr (Or.inr ⟨rfl, hci, ?_⟩))
  show Sum.inr (ci, _) = Sum.inr (ci, mj_fs (as ++ [q]) ci (fun _ => 0) (fun _ => none))
  rfl
theorem mj_newa {x : Int32} {L : Nat} (hd : decode M.2.1 pc = .ok (.newarray .int, 2)) (hw : Cond.arrayClass .int ∈ mj_TW) (hx : ¬ x < 0) (hL : x.toNatClampNeg = L) (hsz : L ≤ 1000) (hq : pc + 2 = q)
    (k : mj_W M d mc ms Q q lv (.ref n :: st) (n + 1, mj_row K n (0, L, 0), mj_row f n (fun _ => 0), mj_row g n (fun _ => none))) : mj_W M d (1 + mc) (L + ms) Q pc lv (.int x :: st) (n, K, f, g) := by
  subst hq
  intro p l e R s m args below meth c D b B0 MC MS as0 QQ X E as H locs ls cells slots S
  obtain ⟨s1, s2, s3, s4, s5, s6, s7, s8⟩ := S
  obtain ⟨ws, tys, h1, h2, h3, h4, h5, h6, h7, h8, h9⟩ := id s1
  dsimp only at h2 h3 h4 h8 h9 s5 s6
  obtain ⟨x1, x2, x3, x4, x5, x6, x7, x8, x9, x10, x11, x12, x13, x14, x15⟩ := id X
  have s6 := s6.2
  have hlen : as.length = n := by rw [h1, List.length_cons, List.length_map, h2]
  refine va_newa (atype := .int) (ty := .int) (A := fun q => B0 ≤ q) (a0 := (L, .inl (fun _ => 0))) x1 x2 (x5 _ hw) rfl h5 h6 h7 s2 (fun q h => Nat.le_trans x15 h) (fun cA => rfl) hx hL (by show L * 4 ≤ 536870912; omega) (by omega) (by omega) hd (fun q cA H1 hK hP hD hS => ?_)
  have e1 : st.map (mj_t as) = st.map (mj_t (as ++ [q])) := (mj_ts_app (by rw [hlen]; exact s6)).symm
  have e2 : Value.ref q = mj_t (as ++ [q]) (.ref n) := by
    show Value.ref q = Value.ref _
    rw [List.getD_eq_getElem?_getD, ← hlen, List.getElem?_concat_length]
    rfl
  rw [e1, e2]
  refine k p l e R s m args below meth c D b B0 MC MS as0 QQ X E (as ++ [q]) H1 locs ls (cells + 1) (slots + L) ⟨?_, hS, by obtain ⟨ex, rfl⟩ := s3; exact ⟨ex ++ [q], by rw [List.append_assoc]⟩, by rw [mj_al_app lv 0 (by rw [hlen]; exact s5)]; exact s4, mj_oks_mono (Nat.le_succ n) s5, ⟨Nat.lt_succ_self n, mj_oks_mono (Nat.le_succ n) s6⟩, by omega, by omega⟩
  exact mj_Hp_new (t2 := [(cA, .int)]) h1 h2 h3 h4 hK h8 hP hD (mj_scr h9 s2 hS x14 x15) (Or.inl ⟨rfl, cA, tys.length, List.getElem?_concat_length, rfl⟩)
theorem mj_newq {x : Int32} {L idx ci : Nat} (hd : decode M.2.1 pc = .ok (.anewarray idx, 3)) (hcl : Cond.classLink M.2.2.2.2.1 idx (mT_C ci) ∈ mj_TW) (hao : ∀ s, mj_XW s → va_AO (mT_C ci) s) (hx : ¬ x < 0) (hL : x.toNatClampNeg = L) (hsz : L ≤ 1000) (hq : pc + 3 = q)
    (k : mj_W M d mc ms Q q lv (.ref n :: st) (n + 1, mj_row K n (1, L, ci), mj_row f n (fun _ => 0), mj_row g n (fun _ => none))) : mj_W M d (1 + mc) (L + ms) Q pc lv (.int x :: st) (n, K, f, g) := by
  subst hq
  intro p l e R s m args below meth c D b B0 MC MS as0 QQ X E as H locs ls cells slots S
  obtain ⟨s1, s2, s3, s4, s5, s6, s7, s8⟩ := S
  obtain ⟨ws, tys, h1, h2, h3, h4, h5, h6, h7, h8, h9⟩ := id s1
  dsimp only at h2 h3 h4 h8 h9 s5 s6
  obtain ⟨x1, x2, x3, x4, x5, x6, x7, x8, x9, x10, x11, x12, x13, x14, x15⟩ := id X
  have s6 := s6.2
  have hlen : as.length = n := by rw [h1, List.length_cons, List.length_map, h2]
  refine va_newq (C := mT_C ci) (A := fun q => B0 ≤ q) x1 x2 x4 (x5 _ hcl) (hao s x6) h5 h6 h7 s2 (fun q h => Nat.le_trans x15 h) hx hL (by omega) (by omega) (by omega) hd (fun q cA H1 hK hP hD hS => ?_)
  have e1 : st.map (mj_t as) = st.map (mj_t (as ++ [q])) := (mj_ts_app (by rw [hlen]; exact s6)).symm
  have e2 : Value.ref q = mj_t (as ++ [q]) (.ref n) := by
    show Value.ref q = Value.ref _
    rw [List.getD_eq_getElem?_getD, ← hlen, List.getElem?_concat_length]
    rfl
  rw [e1, e2]
  refine k p l e R s m args below meth c D b B0 MC MS as0 QQ X E (as ++ [q]) H1 locs ls (cells + 1) (slots + L) ⟨?_, hS, by obtain ⟨ex, rfl⟩ := s3; exact ⟨ex ++ [q], by rw [List.append_assoc]⟩, by rw [mj_al_app lv 0 (by rw [hlen]; exact s5)]; exact s4, mj_oks_mono (Nat.le_succ n) s5, ⟨Nat.lt_succ_self n, mj_oks_mono (Nat.le_succ n) s6⟩, by omega, by omega⟩
  exact mj_Hp_new (t2 := [(cA, .object (mT_C ci))]) h1 h2 h3 h4 hK h8 hP hD (mj_scr h9 s2 hS x14 x15) (Or.inr (Or.inl ⟨rfl, cA, tys.length, List.getElem?_concat_length, rfl⟩))
theorem mj_objInit {h : mj_H} {idx a : Nat} (hd : decode M.2.1 pc = .ok (.invokespecial idx, 3)) (hln : Cond.methodLink M.2.2.2.2.1 idx Lib.objectInit ∈ mj_TW) (hcat : (st.map fun v => v.category).sum ≤ 8) (hq : pc + 3 = q)
    (k : mj_W M (d + 1) mc ms Q q lv st h) : mj_W M (d + 1) mc ms Q pc lv (.ref a :: st) h := by
  subst hq
  intro p l e R s m args below meth c D b B0 MC MS as0 QQ X E as H locs ls cells slots S
  obtain ⟨s1, s2, s3, s4, s5, s6, s7, s8⟩ := S
  obtain ⟨x1, x2, x3, x4, x5, x6, x7, x8, x9, x10, x11, x12, x13, x14, x15⟩ := id X
  exact W.objInit (g := F0 m pc ls ((.ref a :: st).map (mj_t as))) x1 x2 x4 (x5 _ hln) (x5 _ (mj_in 23 (by decide +kernel) rfl)) (x5 _ (mj_in 24 (by decide +kernel) rfl)) rfl (s4.1.trans x3.symm) rfl hd (by omega) (by show 2 * 0 + _ + 12 ≤ _; rw [mj_cats]; omega)
    (k p l e R s m args below meth c D b B0 MC MS as0 QQ X E as H locs ls cells slots ⟨s1, s2, s3, s4, s5, s6.2, s7, s8⟩)
theorem mj_copyi {idx a0 a1 n0 n1 : Nat} {sp dp cn : Int32} (hd : decode M.2.1 pc = .ok (.invokestatic idx, 3)) (hln : Cond.methodLink M.2.2.2.2.1 idx arraycopyName ∈ mj_TW) (hK0 : K a0 = (0, n0, 0)) (hK1 : K a1 = (0, n1, 0)) (h1 : ¬ sp < 0) (h2 : ¬ dp < 0) (h3 : ¬ cn < 0) (h4 : sp.toNatClampNeg + cn.toNatClampNeg ≤ n0) (h5 : dp.toNatClampNeg + cn.toNatClampNeg ≤ n1) (hcat : (st.map fun v => v.category).sum ≤ 8) (hq : pc + 3 = q)
    (k : mj_W M (d + 1) mc ms Q q lv st (n, K, mj_row f a1 (va_cpy (f a0) (f a1) sp.toNatClampNeg dp.toNatClampNeg cn.toNatClampNeg), g)) : mj_W M (d + 1) mc ms Q pc lv (.int cn :: .int dp :: .ref a1 :: .int sp :: .ref a0 :: st) (n, K, f, g) := by
  subst hq
  intro p l e R s m args below meth c D b B0 MC MS as0 QQ X E as H locs ls cells slots S
  obtain ⟨s1, s2, s3, s4, s5, s6, s7, s8⟩ := S
  obtain ⟨ws, tys, g1, g2, g3, g4, g5, g6, g7, g8, g9⟩ := id s1
  dsimp only at g2 g3 g4 g8 g9 s5 s6
  obtain ⟨x1, x2, x3, x4, x5, x6, x7, x8, x9, x10, x11, x12, x13, x14, x15⟩ := id X
  obtain ⟨-, -, t1, -, t0, s6⟩ := s6
  obtain ⟨j0, e0, rfl, hj0, hc0⟩ := mj_place g1 g2 g4 g8 t0 (by rw [hK0]; simp)
  obtain ⟨j1, e1, rfl, hj1, hc1⟩ := mj_place g1 g2 g4 g8 t1 (by rw [hK1]; simp)
  rcases hc0 with ⟨-, cA0, u0, hu0, he0⟩ | ⟨hc, -⟩ | ⟨hc, -⟩
  · rcases hc1 with ⟨-, cA1, u1, hu1, he1⟩ | ⟨hc, -⟩ | ⟨hc, -⟩
    · rw [hK0] at he0
      rw [hK1] at he1
      dsimp only at he0 he1
      subst he0
      subst he1
      refine va_copyi (a := as.getD (j1 + 1) 0) (a0 := as.getD (j0 + 1) 0) (ty := .int) (sp := sp) (dp := dp) (n := cn) x1 x2 (x3.trans s4.1.symm) x4 (x5 _ hln) (x5 _ (mj_in 622 (by decide +kernel) rfl)) (x5 _ (mj_in 621 (by decide +kernel) rfl)) (x5 _ (mj_in 16 (by decide +kernel) rfl)) g5 g6 g7 s2 j0 j1 u0 u1 hj0 hj1 hu0 hu1 rfl h1 h2 h3 h4 h5 (fun _ _ => rfl) (by omega) (by rw [mj_cats, show nativeFrameWords "java/lang/System" "arraycopy" 5 = 7 from by decide +kernel]; omega) hd (fun H1 locs1 hP hD hS => ?_)
      refine k p l e R s m args below meth c D b B0 MC MS as0 QQ X E as H1 locs1 ls cells slots ⟨?_, hS, s3, s4, s5, s6, s7, s8⟩
      refine mj_Hp_set g1 g2 g3 g4 g5 g8 hj1 hP hD (mj_scr g9 s2 hS x14 x15) (Or.inl ⟨by rw [hK1], cA1, u1, hu1, ?_⟩) (fun i hi => by simp [mj_row, hi]) (fun i hi => rfl)
      rw [hK1]
      simp [mj_row]
    · rw [hK1] at hc; cases hc
    · rw [hK1] at hc; cases hc
  · rw [hK0] at hc; cases hc
  · rw [hK0] at hc; cases hc
theorem mj_d2l {h : mj_H} {idx : Nat} {x : UInt64} (hd : decode M.2.1 pc = .ok (.invokestatic idx, 3)) (hln : Cond.methodLink M.2.2.2.2.1 idx ⟨"java/lang/Double", "doubleToRawLongBits", "(D)J"⟩ ∈ mj_TW) (hcat : (st.map fun v => v.category).sum ≤ 8) (hq : pc + 3 = q)
    (k : mj_W M (d + 1) mc ms Q q lv (.long x.toInt64 :: st) h) : mj_W M (d + 1) mc ms Q pc lv (.double x :: st) h := by
  subst hq
  intro p l e R s m args below meth c D b B0 MC MS as0 QQ X E as H locs ls cells slots S
  obtain ⟨s1, s2, s3, s4, s5, s6, s7, s8⟩ := S
  obtain ⟨x1, x2, x3, x4, x5, x6, x7, x8, x9, x10, x11, x12, x13, x14, x15⟩ := id X
  exact vn_d2l x1 x2 (x3.trans s4.1.symm) x4 (x5 _ hln) (x5 _ (mj_in 765 (by decide +kernel) rfl)) (x5 _ (mj_in 764 (by decide +kernel) rfl)) (x5 _ (mj_in 15 (by decide +kernel) rfl)) (by omega) (by rw [mj_cats]; omega) hd
    (k p l e R s m args below meth c D b B0 MC MS as0 QQ X E as H locs ls cells slots ⟨s1, s2, s3, s4, s5, ⟨trivial, s6.2⟩, s7, s8⟩)
theorem mj_l2d {h : mj_H} {idx : Nat} {x : Int64} (hd : decode M.2.1 pc = .ok (.invokestatic idx, 3)) (hln : Cond.methodLink M.2.2.2.2.1 idx ⟨"java/lang/Double", "longBitsToDouble", "(J)D"⟩ ∈ mj_TW) (hv : vn_snl2d x = false) (hcat : (st.map fun v => v.category).sum ≤ 8) (hq : pc + 3 = q)
    (k : mj_W M (d + 1) mc ms Q q lv (.double x.toUInt64 :: st) h) : mj_W M (d + 1) mc ms Q pc lv (.long x :: st) h := by
  subst hq
  intro p l e R s m args below meth c D b B0 MC MS as0 QQ X E as H locs ls cells slots S
  obtain ⟨s1, s2, s3, s4, s5, s6, s7, s8⟩ := S
  obtain ⟨x1, x2, x3, x4, x5, x6, x7, x8, x9, x10, x11, x12, x13, x14, x15⟩ := id X
  exact vn_l2d x1 x2 (x3.trans s4.1.symm) x4 (x5 _ hln) (x5 _ (mj_in 769 (by decide +kernel) rfl)) (x5 _ (mj_in 768 (by decide +kernel) rfl)) (x5 _ (mj_in 15 (by decide +kernel) rfl)) hv (by omega) (by rw [mj_cats]; omega) hd
    (k p l e R s m args below meth c D b B0 MC MS as0 QQ X E as H locs ls cells slots ⟨s1, s2, s3, s4, s5, ⟨trivial, s6.2⟩, s7, s8⟩)
theorem mj_ldc {h : mj_H} {idx : Nat} {x : Int32} (hd : decode M.2.1 pc = .ok (.ldc idx, 2)) (hw : Cond.constant M.2.2.2.2.1 idx x ∈ mj_TW) (hq : pc + 2 = q) (k : mj_W M d mc ms Q q lv (.int x :: st) h) : mj_W M d mc ms Q pc lv st h := by
  subst hq
  intro p l e R s m args below meth c D b B0 MC MS as0 QQ X E as H locs ls cells slots S
  obtain ⟨s1, s2, s3, s4, s5, s6, s7, s8⟩ := S
  exact lv_ldc X.1 X.2.1 X.2.2.2.1 (X.2.2.2.2.1 _ hw) hd (k p l e R s m args below meth c D b B0 MC MS as0 QQ X E as H locs ls cells slots ⟨s1, s2, s3, s4, s5, ⟨trivial, s6⟩, s7, s8⟩)
theorem mj_ldcw {h : mj_H} {idx : Nat} {x : Int32} (hd : decode M.2.1 pc = .ok (.ldc_w idx, 3)) (hw : Cond.constant M.2.2.2.2.1 idx x ∈ mj_TW) (hq : pc + 3 = q) (k : mj_W M d mc ms Q q lv (.int x :: st) h) : mj_W M d mc ms Q pc lv st h := by
  subst hq
  intro p l e R s m args below meth c D b B0 MC MS as0 QQ X E as H locs ls cells slots S
  obtain ⟨s1, s2, s3, s4, s5, s6, s7, s8⟩ := S
  exact lv_ldcw X.1 X.2.1 X.2.2.2.1 (X.2.2.2.2.1 _ hw) hd (k p l e R s m args below meth c D b B0 MC MS as0 QQ X E as H locs ls cells slots ⟨s1, s2, s3, s4, s5, ⟨trivial, s6⟩, s7, s8⟩)
theorem mj_ldc2 {h : mj_H} {idx : Nat} {x : Int64} (hd : decode M.2.1 pc = .ok (.ldc2_w idx, 3)) (hw : Cond.constantLong M.2.2.2.2.1 idx x ∈ mj_TW) (hq : pc + 3 = q) (k : mj_W M d mc ms Q q lv (.long x :: st) h) : mj_W M d mc ms Q pc lv st h := by
  subst hq
  intro p l e R s m args below meth c D b B0 MC MS as0 QQ X E as H locs ls cells slots S
  obtain ⟨s1, s2, s3, s4, s5, s6, s7, s8⟩ := S
  exact lv_ldc2 X.1 X.2.1 X.2.2.2.1 (X.2.2.2.2.1 _ hw) hd (k p l e R s m args below meth c D b B0 MC MS as0 QQ X E as H locs ls cells slots ⟨s1, s2, s3, s4, s5, ⟨trivial, s6⟩, s7, s8⟩)
theorem mj_ldc2d {h : mj_H} {idx : Nat} {x : UInt64} (hd : decode M.2.1 pc = .ok (.ldc2_w idx, 3)) (hw : Cond.constantDouble M.2.2.2.2.1 idx x ∈ mj_TW) (hq : pc + 3 = q) (k : mj_W M d mc ms Q q lv (.double x :: st) h) : mj_W M d mc ms Q pc lv st h := by
  subst hq
  intro p l e R s m args below meth c D b B0 MC MS as0 QQ X E as H locs ls cells slots S
  obtain ⟨s1, s2, s3, s4, s5, s6, s7, s8⟩ := S
  exact lv_ldc2d X.1 X.2.1 X.2.2.2.1 (X.2.2.2.2.1 _ hw) hd (k p l e R s m args below meth c D b B0 MC MS as0 QQ X E as H locs ls cells slots ⟨s1, s2, s3, s4, s5, ⟨trivial, s6⟩, s7, s8⟩)
end MJ4
end
section
theorem dX0_init_0 : decode cX0_init 0 = .ok (.aload_n 0, 1) := by decide +kernel
theorem dX0_init_1 : decode cX0_init 1 = .ok (.invokespecial 1, 3) := by decide +kernel
theorem dX0_init_4 : decode cX0_init 4 = .ok (.return_, 1) := by decide +kernel
theorem dX0_become_0 : decode cX0_become 0 = .ok (.aload_n 0, 1) := by decide +kernel
theorem dX0_become_1 : decode cX0_become 1 = .ok (.aload_n 1, 1) := by decide +kernel
theorem dX0_become_2 : decode cX0_become 2 = .ok (.getfield 7, 3) := by decide +kernel
theorem dX0_become_5 : decode cX0_become 5 = .ok (.putfield 7, 3) := by decide +kernel
theorem dX0_become_8 : decode cX0_become 8 = .ok (.aload_n 0, 1) := by decide +kernel
theorem dX0_become_9 : decode cX0_become 9 = .ok (.aload_n 1, 1) := by decide +kernel
theorem dX0_become_10 : decode cX0_become 10 = .ok (.getfield 13, 3) := by decide +kernel
theorem dX0_become_13 : decode cX0_become 13 = .ok (.putfield 13, 3) := by decide +kernel
theorem dX0_become_16 : decode cX0_become 16 = .ok (.aload_n 0, 1) := by decide +kernel
theorem dX0_become_17 : decode cX0_become 17 = .ok (.aload_n 1, 1) := by decide +kernel
theorem dX0_become_18 : decode cX0_become 18 = .ok (.getfield 16, 3) := by decide +kernel
theorem dX0_become_21 : decode cX0_become 21 = .ok (.putfield 16, 3) := by decide +kernel
theorem dX0_become_24 : decode cX0_become 24 = .ok (.aload_n 0, 1) := by decide +kernel
theorem dX0_become_25 : decode cX0_become 25 = .ok (.aload_n 1, 1) := by decide +kernel
theorem dX0_become_26 : decode cX0_become 26 = .ok (.getfield 20, 3) := by decide +kernel
theorem dX0_become_29 : decode cX0_become 29 = .ok (.putfield 20, 3) := by decide +kernel
theorem dX0_become_32 : decode cX0_become 32 = .ok (.aload_n 0, 1) := by decide +kernel
theorem dX0_become_33 : decode cX0_become 33 = .ok (.aload_n 1, 1) := by decide +kernel
theorem dX0_become_34 : decode cX0_become 34 = .ok (.getfield 23, 3) := by decide +kernel
theorem dX0_become_37 : decode cX0_become 37 = .ok (.putfield 23, 3) := by decide +kernel
theorem dX0_become_40 : decode cX0_become 40 = .ok (.return_, 1) := by decide +kernel
theorem dX0_isMoving_0 : decode cX0_isMoving 0 = .ok (.aload_n 0, 1) := by decide +kernel
theorem dX0_isMoving_1 : decode cX0_isMoving 1 = .ok (.getfield 16, 3) := by decide +kernel
theorem dX0_isMoving_4 : decode cX0_isMoving 4 = .ok (.ifCond .eq 14, 3) := by decide +kernel
theorem dX0_isMoving_7 : decode cX0_isMoving 7 = .ok (.aload_n 0, 1) := by decide +kernel
theorem dX0_isMoving_8 : decode cX0_isMoving 8 = .ok (.getfield 20, 3) := by decide +kernel
theorem dX0_isMoving_11 : decode cX0_isMoving 11 = .ok (.ifCond .ne 7, 3) := by decide +kernel
theorem dX0_isMoving_14 : decode cX0_isMoving 14 = .ok (.iconst 1, 1) := by decide +kernel
theorem dX0_isMoving_15 : decode cX0_isMoving 15 = .ok (.goto 4, 3) := by decide +kernel
theorem dX0_isMoving_18 : decode cX0_isMoving 18 = .ok (.iconst 0, 1) := by decide +kernel
theorem dX0_isMoving_19 : decode cX0_isMoving 19 = .ok (.ireturn, 1) := by decide +kernel
theorem dX1_init_0 : decode cX1_init 0 = .ok (.aload_n 0, 1) := by decide +kernel
theorem dX1_init_1 : decode cX1_init 1 = .ok (.invokespecial 3, 3) := by decide +kernel
theorem dX1_init_4 : decode cX1_init 4 = .ok (.aload_n 0, 1) := by decide +kernel
theorem dX1_init_5 : decode cX1_init 5 = .ok (.iconst 4, 1) := by decide +kernel
theorem dX1_init_6 : decode cX1_init 6 = .ok (.anewarray 9, 3) := by decide +kernel
theorem dX1_init_9 : decode cX1_init 9 = .ok (.putfield 11, 3) := by decide +kernel
theorem dX1_init_12 : decode cX1_init 12 = .ok (.iconst 0, 1) := by decide +kernel
theorem dX1_init_13 : decode cX1_init 13 = .ok (.istore_n 1, 1) := by decide +kernel
theorem dX1_init_14 : decode cX1_init 14 = .ok (.iload_n 1, 1) := by decide +kernel
theorem dX1_init_15 : decode cX1_init 15 = .ok (.iconst 4, 1) := by decide +kernel
theorem dX1_init_16 : decode cX1_init 16 = .ok (.if_icmp .ge 22, 3) := by decide +kernel
theorem dX1_init_19 : decode cX1_init 19 = .ok (.aload_n 0, 1) := by decide +kernel
theorem dX1_init_20 : decode cX1_init 20 = .ok (.getfield 11, 3) := by decide +kernel
theorem dX1_init_23 : decode cX1_init 23 = .ok (.iload_n 1, 1) := by decide +kernel
theorem dX1_init_24 : decode cX1_init 24 = .ok (.new 9, 3) := by decide +kernel
theorem dX1_init_27 : decode cX1_init 27 = .ok (.dup, 1) := by decide +kernel
theorem dX1_init_28 : decode cX1_init 28 = .ok (.invokespecial 17, 3) := by decide +kernel
theorem dX1_init_31 : decode cX1_init 31 = .ok (.aastore, 1) := by decide +kernel
theorem dX1_init_32 : decode cX1_init 32 = .ok (.iinc 1 1, 3) := by decide +kernel
theorem dX1_init_35 : decode cX1_init 35 = .ok (.goto (-21), 3) := by decide +kernel
theorem dX1_init_38 : decode cX1_init 38 = .ok (.aload_n 0, 1) := by decide +kernel
theorem dX1_init_39 : decode cX1_init 39 = .ok (.bipush 8, 2) := by decide +kernel
theorem dX1_init_41 : decode cX1_init 41 = .ok (.anewarray 18, 3) := by decide +kernel
theorem dX1_init_44 : decode cX1_init 44 = .ok (.putfield 20, 3) := by decide +kernel
theorem dX1_init_47 : decode cX1_init 47 = .ok (.iconst 0, 1) := by decide +kernel
theorem dX1_init_48 : decode cX1_init 48 = .ok (.istore_n 1, 1) := by decide +kernel
theorem dX1_init_49 : decode cX1_init 49 = .ok (.iload_n 1, 1) := by decide +kernel
theorem dX1_init_50 : decode cX1_init 50 = .ok (.bipush 8, 2) := by decide +kernel
theorem dX1_init_52 : decode cX1_init 52 = .ok (.if_icmp .ge 22, 3) := by decide +kernel
theorem dX1_init_55 : decode cX1_init 55 = .ok (.aload_n 0, 1) := by decide +kernel
theorem dX1_init_56 : decode cX1_init 56 = .ok (.getfield 20, 3) := by decide +kernel
theorem dX1_init_59 : decode cX1_init 59 = .ok (.iload_n 1, 1) := by decide +kernel
theorem dX1_init_60 : decode cX1_init 60 = .ok (.new 18, 3) := by decide +kernel
theorem dX1_init_63 : decode cX1_init 63 = .ok (.dup, 1) := by decide +kernel
theorem dX1_init_64 : decode cX1_init 64 = .ok (.invokespecial 24, 3) := by decide +kernel
theorem dX1_init_67 : decode cX1_init 67 = .ok (.aastore, 1) := by decide +kernel
theorem dX1_init_68 : decode cX1_init 68 = .ok (.iinc 1 1, 3) := by decide +kernel
theorem dX1_init_71 : decode cX1_init 71 = .ok (.goto (-22), 3) := by decide +kernel
theorem dX1_init_74 : decode cX1_init 74 = .ok (.aload_n 0, 1) := by decide +kernel
theorem dX1_init_75 : decode cX1_init 75 = .ok (.sipush 500, 3) := by decide +kernel
theorem dX1_init_78 : decode cX1_init 78 = .ok (.putfield 25, 3) := by decide +kernel
theorem dX1_init_81 : decode cX1_init 81 = .ok (.aload_n 0, 1) := by decide +kernel
theorem dX1_init_82 : decode cX1_init 82 = .ok (.bipush 50, 2) := by decide +kernel
theorem dX1_init_84 : decode cX1_init 84 = .ok (.putfield 29, 3) := by decide +kernel
theorem dX1_init_87 : decode cX1_init 87 = .ok (.aload_n 0, 1) := by decide +kernel
theorem dX1_init_88 : decode cX1_init 88 = .ok (.bipush 100, 2) := by decide +kernel
theorem dX1_init_90 : decode cX1_init 90 = .ok (.putfield 32, 3) := by decide +kernel
theorem dX1_init_93 : decode cX1_init 93 = .ok (.return_, 1) := by decide +kernel
theorem dX1_become_0 : decode cX1_become 0 = .ok (.aload_n 0, 1) := by decide +kernel
theorem dX1_become_1 : decode cX1_become 1 = .ok (.aload_n 1, 1) := by decide +kernel
theorem dX1_become_2 : decode cX1_become 2 = .ok (.getfield 35, 3) := by decide +kernel
theorem dX1_become_5 : decode cX1_become 5 = .ok (.putfield 35, 3) := by decide +kernel
theorem dX1_become_8 : decode cX1_become 8 = .ok (.iconst 0, 1) := by decide +kernel
theorem dX1_become_9 : decode cX1_become 9 = .ok (.istore_n 2, 1) := by decide +kernel
theorem dX1_become_10 : decode cX1_become 10 = .ok (.iload_n 2, 1) := by decide +kernel
theorem dX1_become_11 : decode cX1_become 11 = .ok (.aload_n 0, 1) := by decide +kernel
theorem dX1_become_12 : decode cX1_become 12 = .ok (.getfield 35, 3) := by decide +kernel
theorem dX1_become_15 : decode cX1_become 15 = .ok (.if_icmp .ge 24, 3) := by decide +kernel
theorem dX1_become_18 : decode cX1_become 18 = .ok (.aload_n 0, 1) := by decide +kernel
theorem dX1_become_19 : decode cX1_become 19 = .ok (.getfield 11, 3) := by decide +kernel
theorem dX1_become_22 : decode cX1_become 22 = .ok (.iload_n 2, 1) := by decide +kernel
theorem dX1_become_23 : decode cX1_become 23 = .ok (.aaload, 1) := by decide +kernel
theorem dX1_become_24 : decode cX1_become 24 = .ok (.aload_n 1, 1) := by decide +kernel
theorem dX1_become_25 : decode cX1_become 25 = .ok (.getfield 11, 3) := by decide +kernel
theorem dX1_become_28 : decode cX1_become 28 = .ok (.iload_n 2, 1) := by decide +kernel
theorem dX1_become_29 : decode cX1_become 29 = .ok (.aaload, 1) := by decide +kernel
theorem dX1_become_30 : decode cX1_become 30 = .ok (.invokevirtual 38, 3) := by decide +kernel
theorem dX1_become_33 : decode cX1_become 33 = .ok (.iinc 2 1, 3) := by decide +kernel
theorem dX1_become_36 : decode cX1_become 36 = .ok (.goto (-26), 3) := by decide +kernel
theorem dX1_become_39 : decode cX1_become 39 = .ok (.aload_n 0, 1) := by decide +kernel
theorem dX1_become_40 : decode cX1_become 40 = .ok (.aload_n 1, 1) := by decide +kernel
theorem dX1_become_41 : decode cX1_become 41 = .ok (.getfield 42, 3) := by decide +kernel
theorem dX1_become_44 : decode cX1_become 44 = .ok (.putfield 42, 3) := by decide +kernel
theorem dX1_become_47 : decode cX1_become 47 = .ok (.iconst 0, 1) := by decide +kernel
theorem dX1_become_48 : decode cX1_become 48 = .ok (.istore_n 2, 1) := by decide +kernel
theorem dX1_become_49 : decode cX1_become 49 = .ok (.iload_n 2, 1) := by decide +kernel
theorem dX1_become_50 : decode cX1_become 50 = .ok (.aload_n 0, 1) := by decide +kernel
theorem dX1_become_51 : decode cX1_become 51 = .ok (.getfield 42, 3) := by decide +kernel
theorem dX1_become_54 : decode cX1_become 54 = .ok (.if_icmp .ge 24, 3) := by decide +kernel
theorem dX1_become_57 : decode cX1_become 57 = .ok (.aload_n 0, 1) := by decide +kernel
theorem dX1_become_58 : decode cX1_become 58 = .ok (.getfield 20, 3) := by decide +kernel
theorem dX1_become_61 : decode cX1_become 61 = .ok (.iload_n 2, 1) := by decide +kernel
theorem dX1_become_62 : decode cX1_become 62 = .ok (.aaload, 1) := by decide +kernel
theorem dX1_become_63 : decode cX1_become 63 = .ok (.aload_n 1, 1) := by decide +kernel
theorem dX1_become_64 : decode cX1_become 64 = .ok (.getfield 20, 3) := by decide +kernel
theorem dX1_become_67 : decode cX1_become 67 = .ok (.iload_n 2, 1) := by decide +kernel
theorem dX1_become_68 : decode cX1_become 68 = .ok (.aaload, 1) := by decide +kernel
theorem dX1_become_69 : decode cX1_become 69 = .ok (.invokevirtual 45, 3) := by decide +kernel
theorem dX1_become_72 : decode cX1_become 72 = .ok (.iinc 2 1, 3) := by decide +kernel
theorem dX1_become_75 : decode cX1_become 75 = .ok (.goto (-26), 3) := by decide +kernel
theorem dX1_become_78 : decode cX1_become 78 = .ok (.aload_n 0, 1) := by decide +kernel
theorem dX1_become_79 : decode cX1_become 79 = .ok (.aload_n 1, 1) := by decide +kernel
theorem dX1_become_80 : decode cX1_become 80 = .ok (.getfield 48, 3) := by decide +kernel
theorem dX1_become_83 : decode cX1_become 83 = .ok (.putfield 48, 3) := by decide +kernel
theorem dX1_become_86 : decode cX1_become 86 = .ok (.aload_n 0, 1) := by decide +kernel
theorem dX1_become_87 : decode cX1_become 87 = .ok (.aload_n 1, 1) := by decide +kernel
theorem dX1_become_88 : decode cX1_become 88 = .ok (.getfield 51, 3) := by decide +kernel
theorem dX1_become_91 : decode cX1_become 91 = .ok (.putfield 51, 3) := by decide +kernel
theorem dX1_become_94 : decode cX1_become 94 = .ok (.aload_n 0, 1) := by decide +kernel
theorem dX1_become_95 : decode cX1_become 95 = .ok (.aload_n 1, 1) := by decide +kernel
theorem dX1_become_96 : decode cX1_become 96 = .ok (.getfield 25, 3) := by decide +kernel
theorem dX1_become_99 : decode cX1_become 99 = .ok (.putfield 25, 3) := by decide +kernel
theorem dX1_become_102 : decode cX1_become 102 = .ok (.aload_n 0, 1) := by decide +kernel
theorem dX1_become_103 : decode cX1_become 103 = .ok (.aload_n 1, 1) := by decide +kernel
theorem dX1_become_104 : decode cX1_become 104 = .ok (.getfield 29, 3) := by decide +kernel
theorem dX1_become_107 : decode cX1_become 107 = .ok (.putfield 29, 3) := by decide +kernel
theorem dX1_become_110 : decode cX1_become 110 = .ok (.aload_n 0, 1) := by decide +kernel
theorem dX1_become_111 : decode cX1_become 111 = .ok (.aload_n 1, 1) := by decide +kernel
theorem dX1_become_112 : decode cX1_become 112 = .ok (.getfield 32, 3) := by decide +kernel
theorem dX1_become_115 : decode cX1_become 115 = .ok (.putfield 32, 3) := by decide +kernel
theorem dX1_become_118 : decode cX1_become 118 = .ok (.aload_n 0, 1) := by decide +kernel
theorem dX1_become_119 : decode cX1_become 119 = .ok (.aload_n 1, 1) := by decide +kernel
theorem dX1_become_120 : decode cX1_become 120 = .ok (.getfield 54, 3) := by decide +kernel
theorem dX1_become_123 : decode cX1_become 123 = .ok (.putfield 54, 3) := by decide +kernel
theorem dX1_become_126 : decode cX1_become 126 = .ok (.aload_n 0, 1) := by decide +kernel
theorem dX1_become_127 : decode cX1_become 127 = .ok (.aload_n 1, 1) := by decide +kernel
theorem dX1_become_128 : decode cX1_become 128 = .ok (.getfield 57, 3) := by decide +kernel
theorem dX1_become_131 : decode cX1_become 131 = .ok (.putfield 57, 3) := by decide +kernel
theorem dX1_become_134 : decode cX1_become 134 = .ok (.aload_n 0, 1) := by decide +kernel
theorem dX1_become_135 : decode cX1_become 135 = .ok (.aload_n 1, 1) := by decide +kernel
theorem dX1_become_136 : decode cX1_become 136 = .ok (.getfield 60, 3) := by decide +kernel
theorem dX1_become_139 : decode cX1_become 139 = .ok (.putfield 60, 3) := by decide +kernel
theorem dX1_become_142 : decode cX1_become 142 = .ok (.aload_n 0, 1) := by decide +kernel
theorem dX1_become_143 : decode cX1_become 143 = .ok (.aload_n 1, 1) := by decide +kernel
theorem dX1_become_144 : decode cX1_become 144 = .ok (.getfield 63, 3) := by decide +kernel
theorem dX1_become_147 : decode cX1_become 147 = .ok (.putfield 63, 3) := by decide +kernel
theorem dX1_become_150 : decode cX1_become 150 = .ok (.aload_n 0, 1) := by decide +kernel
theorem dX1_become_151 : decode cX1_become 151 = .ok (.aload_n 1, 1) := by decide +kernel
theorem dX1_become_152 : decode cX1_become 152 = .ok (.getfield 66, 3) := by decide +kernel
theorem dX1_become_155 : decode cX1_become 155 = .ok (.putfield 66, 3) := by decide +kernel
theorem dX1_become_158 : decode cX1_become 158 = .ok (.aload_n 0, 1) := by decide +kernel
theorem dX1_become_159 : decode cX1_become 159 = .ok (.aload_n 1, 1) := by decide +kernel
theorem dX1_become_160 : decode cX1_become 160 = .ok (.getfield 69, 3) := by decide +kernel
theorem dX1_become_163 : decode cX1_become 163 = .ok (.putfield 69, 3) := by decide +kernel
theorem dX1_become_166 : decode cX1_become 166 = .ok (.aload_n 0, 1) := by decide +kernel
theorem dX1_become_167 : decode cX1_become 167 = .ok (.aload_n 1, 1) := by decide +kernel
theorem dX1_become_168 : decode cX1_become 168 = .ok (.getfield 72, 3) := by decide +kernel
theorem dX1_become_171 : decode cX1_become 171 = .ok (.putfield 72, 3) := by decide +kernel
theorem dX1_become_174 : decode cX1_become 174 = .ok (.return_, 1) := by decide +kernel
theorem dX1_removeGuns_0 : decode cX1_removeGuns 0 = .ok (.iconst 0, 1) := by decide +kernel
theorem dX1_removeGuns_1 : decode cX1_removeGuns 1 = .ok (.istore_n 1, 1) := by decide +kernel
theorem dX1_removeGuns_2 : decode cX1_removeGuns 2 = .ok (.iload_n 1, 1) := by decide +kernel
theorem dX1_removeGuns_3 : decode cX1_removeGuns 3 = .ok (.aload_n 0, 1) := by decide +kernel
theorem dX1_removeGuns_4 : decode cX1_removeGuns 4 = .ok (.getfield 42, 3) := by decide +kernel
theorem dX1_removeGuns_7 : decode cX1_removeGuns 7 = .ok (.if_icmp .ge 19, 3) := by decide +kernel
theorem dX1_removeGuns_10 : decode cX1_removeGuns 10 = .ok (.aload_n 0, 1) := by decide +kernel
theorem dX1_removeGuns_11 : decode cX1_removeGuns 11 = .ok (.getfield 20, 3) := by decide +kernel
theorem dX1_removeGuns_14 : decode cX1_removeGuns 14 = .ok (.iload_n 1, 1) := by decide +kernel
theorem dX1_removeGuns_15 : decode cX1_removeGuns 15 = .ok (.aaload, 1) := by decide +kernel
theorem dX1_removeGuns_16 : decode cX1_removeGuns 16 = .ok (.iconst 0, 1) := by decide +kernel
theorem dX1_removeGuns_17 : decode cX1_removeGuns 17 = .ok (.putfield 75, 3) := by decide +kernel
theorem dX1_removeGuns_20 : decode cX1_removeGuns 20 = .ok (.iinc 1 1, 3) := by decide +kernel
theorem dX1_removeGuns_23 : decode cX1_removeGuns 23 = .ok (.goto (-21), 3) := by decide +kernel
theorem dX1_removeGuns_26 : decode cX1_removeGuns 26 = .ok (.return_, 1) := by decide +kernel
theorem dX1_clock_0 : decode cX1_clock 0 = .ok (.aload_n 0, 1) := by decide +kernel
theorem dX1_clock_1 : decode cX1_clock 1 = .ok (.getfield 48, 3) := by decide +kernel
theorem dX1_clock_4 : decode cX1_clock 4 = .ok (.bipush 24, 2) := by decide +kernel
theorem dX1_clock_6 : decode cX1_clock 6 = .ok (.irem, 1) := by decide +kernel
theorem dX1_clock_7 : decode cX1_clock 7 = .ok (.ireturn, 1) := by decide +kernel
theorem dX1_openRuns_0 : decode cX1_openRuns 0 = .ok (.iconst 0, 1) := by decide +kernel
theorem dX1_openRuns_1 : decode cX1_openRuns 1 = .ok (.istore_n 1, 1) := by decide +kernel
theorem dX1_openRuns_2 : decode cX1_openRuns 2 = .ok (.iconst 0, 1) := by decide +kernel
theorem dX1_openRuns_3 : decode cX1_openRuns 3 = .ok (.istore_n 2, 1) := by decide +kernel
theorem dX1_openRuns_4 : decode cX1_openRuns 4 = .ok (.iload_n 2, 1) := by decide +kernel
theorem dX1_openRuns_5 : decode cX1_openRuns 5 = .ok (.aload_n 0, 1) := by decide +kernel
theorem dX1_openRuns_6 : decode cX1_openRuns 6 = .ok (.getfield 42, 3) := by decide +kernel
theorem dX1_openRuns_9 : decode cX1_openRuns 9 = .ok (.if_icmp .ge 24, 3) := by decide +kernel
theorem dX1_openRuns_12 : decode cX1_openRuns 12 = .ok (.iload_n 1, 1) := by decide +kernel
theorem dX1_openRuns_13 : decode cX1_openRuns 13 = .ok (.aload_n 0, 1) := by decide +kernel
theorem dX1_openRuns_14 : decode cX1_openRuns 14 = .ok (.getfield 20, 3) := by decide +kernel
theorem dX1_openRuns_17 : decode cX1_openRuns 17 = .ok (.iload_n 2, 1) := by decide +kernel
theorem dX1_openRuns_18 : decode cX1_openRuns 18 = .ok (.aaload, 1) := by decide +kernel
theorem dX1_openRuns_19 : decode cX1_openRuns 19 = .ok (.getfield 78, 3) := by decide +kernel
theorem dX1_openRuns_22 : decode cX1_openRuns 22 = .ok (.invokestatic 82, 3) := by decide +kernel
theorem dX1_openRuns_25 : decode cX1_openRuns 25 = .ok (.iadd, 1) := by decide +kernel
theorem dX1_openRuns_26 : decode cX1_openRuns 26 = .ok (.istore_n 1, 1) := by decide +kernel
theorem dX1_openRuns_27 : decode cX1_openRuns 27 = .ok (.iinc 2 1, 3) := by decide +kernel
theorem dX1_openRuns_30 : decode cX1_openRuns 30 = .ok (.goto (-26), 3) := by decide +kernel
theorem dX1_openRuns_33 : decode cX1_openRuns 33 = .ok (.iload_n 1, 1) := by decide +kernel
theorem dX1_openRuns_34 : decode cX1_openRuns 34 = .ok (.ireturn, 1) := by decide +kernel
theorem dX1_openRunsOf_0 : decode cX1_openRunsOf 0 = .ok (.iconst 0, 1) := by decide +kernel
theorem dX1_openRunsOf_1 : decode cX1_openRunsOf 1 = .ok (.istore_n 2, 1) := by decide +kernel
theorem dX1_openRunsOf_2 : decode cX1_openRunsOf 2 = .ok (.iconst 0, 1) := by decide +kernel
theorem dX1_openRunsOf_3 : decode cX1_openRunsOf 3 = .ok (.istore_n 3, 1) := by decide +kernel
theorem dX1_openRunsOf_4 : decode cX1_openRunsOf 4 = .ok (.iload_n 3, 1) := by decide +kernel
theorem dX1_openRunsOf_5 : decode cX1_openRunsOf 5 = .ok (.aload_n 0, 1) := by decide +kernel
theorem dX1_openRunsOf_6 : decode cX1_openRunsOf 6 = .ok (.getfield 42, 3) := by decide +kernel
theorem dX1_openRunsOf_9 : decode cX1_openRunsOf 9 = .ok (.if_icmp .ge 45, 3) := by decide +kernel
theorem dX1_openRunsOf_12 : decode cX1_openRunsOf 12 = .ok (.iload_n 2, 1) := by decide +kernel
theorem dX1_openRunsOf_13 : decode cX1_openRunsOf 13 = .ok (.aload_n 0, 1) := by decide +kernel
theorem dX1_openRunsOf_14 : decode cX1_openRunsOf 14 = .ok (.getfield 20, 3) := by decide +kernel
theorem dX1_openRunsOf_17 : decode cX1_openRunsOf 17 = .ok (.iload_n 3, 1) := by decide +kernel
theorem dX1_openRunsOf_18 : decode cX1_openRunsOf 18 = .ok (.aaload, 1) := by decide +kernel
theorem dX1_openRunsOf_19 : decode cX1_openRunsOf 19 = .ok (.getfield 78, 3) := by decide +kernel
theorem dX1_openRunsOf_22 : decode cX1_openRunsOf 22 = .ok (.ifCond .eq 20, 3) := by decide +kernel
theorem dX1_openRunsOf_25 : decode cX1_openRunsOf 25 = .ok (.aload_n 0, 1) := by decide +kernel
theorem dX1_openRunsOf_26 : decode cX1_openRunsOf 26 = .ok (.getfield 20, 3) := by decide +kernel
theorem dX1_openRunsOf_29 : decode cX1_openRunsOf 29 = .ok (.iload_n 3, 1) := by decide +kernel
theorem dX1_openRunsOf_30 : decode cX1_openRunsOf 30 = .ok (.aaload, 1) := by decide +kernel
theorem dX1_openRunsOf_31 : decode cX1_openRunsOf 31 = .ok (.getfield 86, 3) := by decide +kernel
theorem dX1_openRunsOf_34 : decode cX1_openRunsOf 34 = .ok (.iload_n 1, 1) := by decide +kernel
theorem dX1_openRunsOf_35 : decode cX1_openRunsOf 35 = .ok (.if_icmp .ne 7, 3) := by decide +kernel
theorem dX1_openRunsOf_38 : decode cX1_openRunsOf 38 = .ok (.iconst 1, 1) := by decide +kernel
theorem dX1_openRunsOf_39 : decode cX1_openRunsOf 39 = .ok (.goto 4, 3) := by decide +kernel
theorem dX1_openRunsOf_42 : decode cX1_openRunsOf 42 = .ok (.iconst 0, 1) := by decide +kernel
theorem dX1_openRunsOf_43 : decode cX1_openRunsOf 43 = .ok (.invokestatic 82, 3) := by decide +kernel
theorem dX1_openRunsOf_46 : decode cX1_openRunsOf 46 = .ok (.iadd, 1) := by decide +kernel
theorem dX1_openRunsOf_47 : decode cX1_openRunsOf 47 = .ok (.istore_n 2, 1) := by decide +kernel
theorem dX1_openRunsOf_48 : decode cX1_openRunsOf 48 = .ok (.iinc 3 1, 3) := by decide +kernel
theorem dX1_openRunsOf_51 : decode cX1_openRunsOf 51 = .ok (.goto (-47), 3) := by decide +kernel
theorem dX1_openRunsOf_54 : decode cX1_openRunsOf 54 = .ok (.iload_n 2, 1) := by decide +kernel
theorem dX1_openRunsOf_55 : decode cX1_openRunsOf 55 = .ok (.ireturn, 1) := by decide +kernel
theorem dX1_depthByArea_0 : decode cX1_depthByArea 0 = .ok (.iconst 0, 1) := by decide +kernel
theorem dX1_depthByArea_1 : decode cX1_depthByArea 1 = .ok (.istore_n 1, 1) := by decide +kernel
theorem dX1_depthByArea_2 : decode cX1_depthByArea 2 = .ok (.iconst 0, 1) := by decide +kernel
theorem dX1_depthByArea_3 : decode cX1_depthByArea 3 = .ok (.istore_n 2, 1) := by decide +kernel
theorem dX1_depthByArea_4 : decode cX1_depthByArea 4 = .ok (.iload_n 2, 1) := by decide +kernel
theorem dX1_depthByArea_5 : decode cX1_depthByArea 5 = .ok (.aload_n 0, 1) := by decide +kernel
theorem dX1_depthByArea_6 : decode cX1_depthByArea 6 = .ok (.getfield 42, 3) := by decide +kernel
theorem dX1_depthByArea_9 : decode cX1_depthByArea 9 = .ok (.if_icmp .ge 34, 3) := by decide +kernel
theorem dX1_depthByArea_12 : decode cX1_depthByArea 12 = .ok (.iload_n 1, 1) := by decide +kernel
theorem dX1_depthByArea_13 : decode cX1_depthByArea 13 = .ok (.aload_n 0, 1) := by decide +kernel
theorem dX1_depthByArea_14 : decode cX1_depthByArea 14 = .ok (.getfield 20, 3) := by decide +kernel
theorem dX1_depthByArea_17 : decode cX1_depthByArea 17 = .ok (.iload_n 2, 1) := by decide +kernel
theorem dX1_depthByArea_18 : decode cX1_depthByArea 18 = .ok (.aaload, 1) := by decide +kernel
theorem dX1_depthByArea_19 : decode cX1_depthByArea 19 = .ok (.getfield 89, 3) := by decide +kernel
theorem dX1_depthByArea_22 : decode cX1_depthByArea 22 = .ok (.invokevirtual 93, 3) := by decide +kernel
theorem dX1_depthByArea_25 : decode cX1_depthByArea 25 = .ok (.aload_n 0, 1) := by decide +kernel
theorem dX1_depthByArea_26 : decode cX1_depthByArea 26 = .ok (.getfield 20, 3) := by decide +kernel
theorem dX1_depthByArea_29 : decode cX1_depthByArea 29 = .ok (.iload_n 2, 1) := by decide +kernel
theorem dX1_depthByArea_30 : decode cX1_depthByArea 30 = .ok (.aaload, 1) := by decide +kernel
theorem dX1_depthByArea_31 : decode cX1_depthByArea 31 = .ok (.getfield 99, 3) := by decide +kernel
theorem dX1_depthByArea_34 : decode cX1_depthByArea 34 = .ok (.imul, 1) := by decide +kernel
theorem dX1_depthByArea_35 : decode cX1_depthByArea 35 = .ok (.iadd, 1) := by decide +kernel
theorem dX1_depthByArea_36 : decode cX1_depthByArea 36 = .ok (.istore_n 1, 1) := by decide +kernel
theorem dX1_depthByArea_37 : decode cX1_depthByArea 37 = .ok (.iinc 2 1, 3) := by decide +kernel
theorem dX1_depthByArea_40 : decode cX1_depthByArea 40 = .ok (.goto (-36), 3) := by decide +kernel
theorem dX1_depthByArea_43 : decode cX1_depthByArea 43 = .ok (.iload_n 1, 1) := by decide +kernel
theorem dX1_depthByArea_44 : decode cX1_depthByArea 44 = .ok (.ireturn, 1) := by decide +kernel
theorem dX1_wholeArea_0 : decode cX1_wholeArea 0 = .ok (.iconst 0, 1) := by decide +kernel
theorem dX1_wholeArea_1 : decode cX1_wholeArea 1 = .ok (.istore_n 1, 1) := by decide +kernel
theorem dX1_wholeArea_2 : decode cX1_wholeArea 2 = .ok (.iconst 0, 1) := by decide +kernel
theorem dX1_wholeArea_3 : decode cX1_wholeArea 3 = .ok (.istore_n 2, 1) := by decide +kernel
theorem dX1_wholeArea_4 : decode cX1_wholeArea 4 = .ok (.iload_n 2, 1) := by decide +kernel
theorem dX1_wholeArea_5 : decode cX1_wholeArea 5 = .ok (.aload_n 0, 1) := by decide +kernel
theorem dX1_wholeArea_6 : decode cX1_wholeArea 6 = .ok (.getfield 42, 3) := by decide +kernel
theorem dX1_wholeArea_9 : decode cX1_wholeArea 9 = .ok (.if_icmp .ge 21, 3) := by decide +kernel
theorem dX1_wholeArea_12 : decode cX1_wholeArea 12 = .ok (.iload_n 1, 1) := by decide +kernel
theorem dX1_wholeArea_13 : decode cX1_wholeArea 13 = .ok (.aload_n 0, 1) := by decide +kernel
theorem dX1_wholeArea_14 : decode cX1_wholeArea 14 = .ok (.getfield 20, 3) := by decide +kernel
theorem dX1_wholeArea_17 : decode cX1_wholeArea 17 = .ok (.iload_n 2, 1) := by decide +kernel
theorem dX1_wholeArea_18 : decode cX1_wholeArea 18 = .ok (.aaload, 1) := by decide +kernel
theorem dX1_wholeArea_19 : decode cX1_wholeArea 19 = .ok (.getfield 99, 3) := by decide +kernel
theorem dX1_wholeArea_22 : decode cX1_wholeArea 22 = .ok (.iadd, 1) := by decide +kernel
theorem dX1_wholeArea_23 : decode cX1_wholeArea 23 = .ok (.istore_n 1, 1) := by decide +kernel
theorem dX1_wholeArea_24 : decode cX1_wholeArea 24 = .ok (.iinc 2 1, 3) := by decide +kernel
theorem dX1_wholeArea_27 : decode cX1_wholeArea 27 = .ok (.goto (-23), 3) := by decide +kernel
theorem dX1_wholeArea_30 : decode cX1_wholeArea 30 = .ok (.iload_n 1, 1) := by decide +kernel
theorem dX1_wholeArea_31 : decode cX1_wholeArea 31 = .ok (.ireturn, 1) := by decide +kernel
theorem dX1_isTested_0 : decode cX1_isTested 0 = .ok (.aload_n 0, 1) := by decide +kernel
theorem dX1_isTested_1 : decode cX1_isTested 1 = .ok (.getfield 48, 3) := by decide +kernel
theorem dX1_isTested_4 : decode cX1_isTested 4 = .ok (.aload_n 1, 1) := by decide +kernel
theorem dX1_isTested_5 : decode cX1_isTested 5 = .ok (.getfield 102, 3) := by decide +kernel
theorem dX1_isTested_8 : decode cX1_isTested 8 = .ok (.if_icmp .gt 7, 3) := by decide +kernel
theorem dX1_isTested_11 : decode cX1_isTested 11 = .ok (.iconst 1, 1) := by decide +kernel
theorem dX1_isTested_12 : decode cX1_isTested 12 = .ok (.goto 4, 3) := by decide +kernel
theorem dX1_isTested_15 : decode cX1_isTested 15 = .ok (.iconst 0, 1) := by decide +kernel
theorem dX1_isTested_16 : decode cX1_isTested 16 = .ok (.ireturn, 1) := by decide +kernel
theorem dX1_wouldTell_0 : decode cX1_wouldTell 0 = .ok (.iconst 5, 1) := by decide +kernel
theorem dX1_wouldTell_1 : decode cX1_wouldTell 1 = .ok (.aload_n 0, 1) := by decide +kernel
theorem dX1_wouldTell_2 : decode cX1_wouldTell 2 = .ok (.getfield 48, 3) := by decide +kernel
theorem dX1_wouldTell_5 : decode cX1_wouldTell 5 = .ok (.imul, 1) := by decide +kernel
theorem dX1_wouldTell_6 : decode cX1_wouldTell 6 = .ok (.iconst 3, 1) := by decide +kernel
theorem dX1_wouldTell_7 : decode cX1_wouldTell 7 = .ok (.iload_n 1, 1) := by decide +kernel
theorem dX1_wouldTell_8 : decode cX1_wouldTell 8 = .ok (.imul, 1) := by decide +kernel
theorem dX1_wouldTell_9 : decode cX1_wouldTell 9 = .ok (.iadd, 1) := by decide +kernel
theorem dX1_wouldTell_10 : decode cX1_wouldTell 10 = .ok (.bipush 9, 2) := by decide +kernel
theorem dX1_wouldTell_12 : decode cX1_wouldTell 12 = .ok (.irem, 1) := by decide +kernel
theorem dX1_wouldTell_13 : decode cX1_wouldTell 13 = .ok (.iconst 4, 1) := by decide +kernel
theorem dX1_wouldTell_14 : decode cX1_wouldTell 14 = .ok (.isub, 1) := by decide +kernel
theorem dX1_wouldTell_15 : decode cX1_wouldTell 15 = .ok (.istore_n 3, 1) := by decide +kernel
theorem dX1_wouldTell_16 : decode cX1_wouldTell 16 = .ok (.aload_n 2, 1) := by decide +kernel
theorem dX1_wouldTell_17 : decode cX1_wouldTell 17 = .ok (.invokevirtual 105, 3) := by decide +kernel
theorem dX1_wouldTell_20 : decode cX1_wouldTell 20 = .ok (.iload_n 3, 1) := by decide +kernel
theorem dX1_wouldTell_21 : decode cX1_wouldTell 21 = .ok (.iadd, 1) := by decide +kernel
theorem dX1_wouldTell_22 : decode cX1_wouldTell 22 = .ok (.iconst 0, 1) := by decide +kernel
theorem dX1_wouldTell_23 : decode cX1_wouldTell 23 = .ok (.invokestatic 108, 3) := by decide +kernel
theorem dX1_wouldTell_26 : decode cX1_wouldTell 26 = .ok (.ireturn, 1) := by decide +kernel
theorem dX1_barNow_0 : decode cX1_barNow 0 = .ok (.aload_n 0, 1) := by decide +kernel
theorem dX1_barNow_1 : decode cX1_barNow 1 = .ok (.aload_n 1, 1) := by decide +kernel
theorem dX1_barNow_2 : decode cX1_barNow 2 = .ok (.aload_n 0, 1) := by decide +kernel
theorem dX1_barNow_3 : decode cX1_barNow 3 = .ok (.aload_n 1, 1) := by decide +kernel
theorem dX1_barNow_4 : decode cX1_barNow 4 = .ok (.invokevirtual 114, 3) := by decide +kernel
theorem dX1_barNow_7 : decode cX1_barNow 7 = .ok (.aload_n 1, 1) := by decide +kernel
theorem dX1_barNow_8 : decode cX1_barNow 8 = .ok (.getfield 118, 3) := by decide +kernel
theorem dX1_barNow_11 : decode cX1_barNow 11 = .ok (.aload_n 1, 1) := by decide +kernel
theorem dX1_barNow_12 : decode cX1_barNow 12 = .ok (.getfield 121, 3) := by decide +kernel
theorem dX1_barNow_15 : decode cX1_barNow 15 = .ok (.invokevirtual 124, 3) := by decide +kernel
theorem dX1_barNow_18 : decode cX1_barNow 18 = .ok (.ireturn, 1) := by decide +kernel
theorem dX1_bar_0 : decode cX1_bar 0 = .ok (.aload_n 1, 1) := by decide +kernel
theorem dX1_bar_1 : decode cX1_bar 1 = .ok (.getfield 86, 3) := by decide +kernel
theorem dX1_bar_4 : decode cX1_bar 4 = .ok (.ifCond .lt 33, 3) := by decide +kernel
theorem dX1_bar_7 : decode cX1_bar 7 = .ok (.aload_n 1, 1) := by decide +kernel
theorem dX1_bar_8 : decode cX1_bar 8 = .ok (.getfield 86, 3) := by decide +kernel
theorem dX1_bar_11 : decode cX1_bar 11 = .ok (.aload_n 0, 1) := by decide +kernel
theorem dX1_bar_12 : decode cX1_bar 12 = .ok (.getfield 35, 3) := by decide +kernel
theorem dX1_bar_15 : decode cX1_bar 15 = .ok (.if_icmp .ge 22, 3) := by decide +kernel
theorem dX1_bar_18 : decode cX1_bar 18 = .ok (.aload_n 0, 1) := by decide +kernel
theorem dX1_bar_19 : decode cX1_bar 19 = .ok (.getfield 11, 3) := by decide +kernel
theorem dX1_bar_22 : decode cX1_bar 22 = .ok (.aload_n 1, 1) := by decide +kernel
theorem dX1_bar_23 : decode cX1_bar 23 = .ok (.getfield 86, 3) := by decide +kernel
theorem dX1_bar_26 : decode cX1_bar 26 = .ok (.aaload, 1) := by decide +kernel
theorem dX1_bar_27 : decode cX1_bar 27 = .ok (.invokevirtual 128, 3) := by decide +kernel
theorem dX1_bar_30 : decode cX1_bar 30 = .ok (.ifCond .eq 7, 3) := by decide +kernel
theorem dX1_bar_33 : decode cX1_bar 33 = .ok (.iconst 1, 1) := by decide +kernel
theorem dX1_bar_34 : decode cX1_bar 34 = .ok (.goto 4, 3) := by decide +kernel
theorem dX1_bar_37 : decode cX1_bar 37 = .ok (.iconst 0, 1) := by decide +kernel
theorem dX1_bar_38 : decode cX1_bar 38 = .ok (.istore 5, 2) := by decide +kernel
theorem dX1_bar_40 : decode cX1_bar 40 = .ok (.iload 5, 2) := by decide +kernel
theorem dX1_bar_42 : decode cX1_bar 42 = .ok (.ifCond .ne 5, 3) := by decide +kernel
theorem dX1_bar_45 : decode cX1_bar 45 = .ok (.iconst 1, 1) := by decide +kernel
theorem dX1_bar_46 : decode cX1_bar 46 = .ok (.ireturn, 1) := by decide +kernel
theorem dX1_bar_47 : decode cX1_bar 47 = .ok (.aload_n 1, 1) := by decide +kernel
theorem dX1_bar_48 : decode cX1_bar 48 = .ok (.getfield 132, 3) := by decide +kernel
theorem dX1_bar_51 : decode cX1_bar 51 = .ok (.ifCond .le 5, 3) := by decide +kernel
theorem dX1_bar_54 : decode cX1_bar 54 = .ok (.iconst 2, 1) := by decide +kernel
theorem dX1_bar_55 : decode cX1_bar 55 = .ok (.ireturn, 1) := by decide +kernel
theorem dX1_bar_56 : decode cX1_bar 56 = .ok (.aload_n 1, 1) := by decide +kernel
theorem dX1_bar_57 : decode cX1_bar 57 = .ok (.getfield 135, 3) := by decide +kernel
theorem dX1_bar_60 : decode cX1_bar 60 = .ok (.ifCond .eq 5, 3) := by decide +kernel
theorem dX1_bar_63 : decode cX1_bar 63 = .ok (.iconst 3, 1) := by decide +kernel
theorem dX1_bar_64 : decode cX1_bar 64 = .ok (.ireturn, 1) := by decide +kernel
theorem dX1_bar_65 : decode cX1_bar 65 = .ok (.iload_n 2, 1) := by decide +kernel
theorem dX1_bar_66 : decode cX1_bar 66 = .ok (.ifCond .ne 5, 3) := by decide +kernel
theorem dX1_bar_69 : decode cX1_bar 69 = .ok (.iconst 4, 1) := by decide +kernel
theorem dX1_bar_70 : decode cX1_bar 70 = .ok (.ireturn, 1) := by decide +kernel
theorem dX1_bar_71 : decode cX1_bar 71 = .ok (.iload_n 3, 1) := by decide +kernel
theorem dX1_bar_72 : decode cX1_bar 72 = .ok (.bipush 30, 2) := by decide +kernel
theorem dX1_bar_74 : decode cX1_bar 74 = .ok (.if_icmp .le 5, 3) := by decide +kernel
theorem dX1_bar_77 : decode cX1_bar 77 = .ok (.iconst 5, 1) := by decide +kernel
theorem dX1_bar_78 : decode cX1_bar 78 = .ok (.ireturn, 1) := by decide +kernel
theorem dX1_bar_79 : decode cX1_bar 79 = .ok (.aload_n 1, 1) := by decide +kernel
theorem dX1_bar_80 : decode cX1_bar 80 = .ok (.getfield 89, 3) := by decide +kernel
theorem dX1_bar_83 : decode cX1_bar 83 = .ok (.invokevirtual 93, 3) := by decide +kernel
theorem dX1_bar_86 : decode cX1_bar 86 = .ok (.bipush 30, 2) := by decide +kernel
theorem dX1_bar_88 : decode cX1_bar 88 = .ok (.if_icmp .ge 6, 3) := by decide +kernel
theorem dX1_bar_91 : decode cX1_bar 91 = .ok (.bipush 6, 2) := by decide +kernel
theorem dX1_bar_93 : decode cX1_bar 93 = .ok (.ireturn, 1) := by decide +kernel
theorem dX1_bar_94 : decode cX1_bar 94 = .ok (.iload 4, 2) := by decide +kernel
theorem dX1_bar_96 : decode cX1_bar 96 = .ok (.ifCond .eq 7, 3) := by decide +kernel
theorem dX1_bar_99 : decode cX1_bar 99 = .ok (.iconst 0, 1) := by decide +kernel
theorem dX1_bar_100 : decode cX1_bar 100 = .ok (.goto 5, 3) := by decide +kernel
theorem dX1_bar_103 : decode cX1_bar 103 = .ok (.bipush 7, 2) := by decide +kernel
theorem dX1_bar_105 : decode cX1_bar 105 = .ok (.ireturn, 1) := by decide +kernel
theorem dX1_slideOn_0 : decode cX1_slideOn 0 = .ok (.aload_n 1, 1) := by decide +kernel
theorem dX1_slideOn_1 : decode cX1_slideOn 1 = .ok (.invokevirtual 138, 3) := by decide +kernel
theorem dX1_slideOn_4 : decode cX1_slideOn 4 = .ok (.istore_n 2, 1) := by decide +kernel
theorem dX1_slideOn_5 : decode cX1_slideOn 5 = .ok (.aload_n 1, 1) := by decide +kernel
theorem dX1_slideOn_6 : decode cX1_slideOn 6 = .ok (.iload_n 2, 1) := by decide +kernel
theorem dX1_slideOn_7 : decode cX1_slideOn 7 = .ok (.invokevirtual 141, 3) := by decide +kernel
theorem dX1_slideOn_10 : decode cX1_slideOn 10 = .ok (.istore_n 3, 1) := by decide +kernel
theorem dX1_slideOn_11 : decode cX1_slideOn 11 = .ok (.aload_n 1, 1) := by decide +kernel
theorem dX1_slideOn_12 : decode cX1_slideOn 12 = .ok (.getfield 89, 3) := by decide +kernel
theorem dX1_slideOn_15 : decode cX1_slideOn 15 = .ok (.iload_n 2, 1) := by decide +kernel
theorem dX1_slideOn_16 : decode cX1_slideOn 16 = .ok (.invokevirtual 145, 3) := by decide +kernel
theorem dX1_slideOn_19 : decode cX1_slideOn 19 = .ok (.aload_n 1, 1) := by decide +kernel
theorem dX1_slideOn_20 : decode cX1_slideOn 20 = .ok (.iconst (-1), 1) := by decide +kernel
theorem dX1_slideOn_21 : decode cX1_slideOn 21 = .ok (.putfield 102, 3) := by decide +kernel
theorem dX1_slideOn_24 : decode cX1_slideOn 24 = .ok (.aload_n 1, 1) := by decide +kernel
theorem dX1_slideOn_25 : decode cX1_slideOn 25 = .ok (.iconst 0, 1) := by decide +kernel
theorem dX1_slideOn_26 : decode cX1_slideOn 26 = .ok (.putfield 121, 3) := by decide +kernel
theorem dX1_slideOn_29 : decode cX1_slideOn 29 = .ok (.aload_n 1, 1) := by decide +kernel
theorem dX1_slideOn_30 : decode cX1_slideOn 30 = .ok (.dup, 1) := by decide +kernel
theorem dX1_slideOn_31 : decode cX1_slideOn 31 = .ok (.getfield 149, 3) := by decide +kernel
theorem dX1_slideOn_34 : decode cX1_slideOn 34 = .ok (.iconst 1, 1) := by decide +kernel
theorem dX1_slideOn_35 : decode cX1_slideOn 35 = .ok (.iadd, 1) := by decide +kernel
theorem dX1_slideOn_36 : decode cX1_slideOn 36 = .ok (.putfield 149, 3) := by decide +kernel
theorem dX1_slideOn_39 : decode cX1_slideOn 39 = .ok (.aload_n 0, 1) := by decide +kernel
theorem dX1_slideOn_40 : decode cX1_slideOn 40 = .ok (.dup, 1) := by decide +kernel
theorem dX1_slideOn_41 : decode cX1_slideOn 41 = .ok (.getfield 57, 3) := by decide +kernel
theorem dX1_slideOn_44 : decode cX1_slideOn 44 = .ok (.iconst 1, 1) := by decide +kernel
theorem dX1_slideOn_45 : decode cX1_slideOn 45 = .ok (.iadd, 1) := by decide +kernel
theorem dX1_slideOn_46 : decode cX1_slideOn 46 = .ok (.putfield 57, 3) := by decide +kernel
theorem dX1_slideOn_49 : decode cX1_slideOn 49 = .ok (.iload_n 3, 1) := by decide +kernel
theorem dX1_slideOn_50 : decode cX1_slideOn 50 = .ok (.sipush 900, 3) := by decide +kernel
theorem dX1_slideOn_53 : decode cX1_slideOn 53 = .ok (.if_icmp .lt 13, 3) := by decide +kernel
theorem dX1_slideOn_56 : decode cX1_slideOn 56 = .ok (.aload_n 0, 1) := by decide +kernel
theorem dX1_slideOn_57 : decode cX1_slideOn 57 = .ok (.dup, 1) := by decide +kernel
theorem dX1_slideOn_58 : decode cX1_slideOn 58 = .ok (.getfield 60, 3) := by decide +kernel
theorem dX1_slideOn_61 : decode cX1_slideOn 61 = .ok (.iconst 1, 1) := by decide +kernel
theorem dX1_slideOn_62 : decode cX1_slideOn 62 = .ok (.iadd, 1) := by decide +kernel
theorem dX1_slideOn_63 : decode cX1_slideOn 63 = .ok (.putfield 60, 3) := by decide +kernel
theorem dX1_slideOn_66 : decode cX1_slideOn 66 = .ok (.iload_n 3, 1) := by decide +kernel
theorem dX1_slideOn_67 : decode cX1_slideOn 67 = .ok (.ireturn, 1) := by decide +kernel
theorem dX1_passHour_0 : decode cX1_passHour 0 = .ok (.aload_n 0, 1) := by decide +kernel
theorem dX1_passHour_1 : decode cX1_passHour 1 = .ok (.dup, 1) := by decide +kernel
theorem dX1_passHour_2 : decode cX1_passHour 2 = .ok (.getfield 48, 3) := by decide +kernel
theorem dX1_passHour_5 : decode cX1_passHour 5 = .ok (.iconst 1, 1) := by decide +kernel
theorem dX1_passHour_6 : decode cX1_passHour 6 = .ok (.iadd, 1) := by decide +kernel
theorem dX1_passHour_7 : decode cX1_passHour 7 = .ok (.putfield 48, 3) := by decide +kernel
theorem dX1_passHour_10 : decode cX1_passHour 10 = .ok (.aload_n 0, 1) := by decide +kernel
theorem dX1_passHour_11 : decode cX1_passHour 11 = .ok (.aload_n 1, 1) := by decide +kernel
theorem dX1_passHour_12 : decode cX1_passHour 12 = .ok (.getfield 150, 3) := by decide +kernel
theorem dX1_passHour_15 : decode cX1_passHour 15 = .ok (.putfield 51, 3) := by decide +kernel
theorem dX1_passHour_18 : decode cX1_passHour 18 = .ok (.iconst 0, 1) := by decide +kernel
theorem dX1_passHour_19 : decode cX1_passHour 19 = .ok (.istore_n 2, 1) := by decide +kernel
theorem dX1_passHour_20 : decode cX1_passHour 20 = .ok (.iload_n 2, 1) := by decide +kernel
theorem dX1_passHour_21 : decode cX1_passHour 21 = .ok (.aload_n 0, 1) := by decide +kernel
theorem dX1_passHour_22 : decode cX1_passHour 22 = .ok (.getfield 42, 3) := by decide +kernel
theorem dX1_passHour_25 : decode cX1_passHour 25 = .ok (.if_icmp .ge 102, 3) := by decide +kernel
theorem dX1_passHour_28 : decode cX1_passHour 28 = .ok (.aload_n 0, 1) := by decide +kernel
theorem dX1_passHour_29 : decode cX1_passHour 29 = .ok (.getfield 20, 3) := by decide +kernel
theorem dX1_passHour_32 : decode cX1_passHour 32 = .ok (.iload_n 2, 1) := by decide +kernel
theorem dX1_passHour_33 : decode cX1_passHour 33 = .ok (.aaload, 1) := by decide +kernel
theorem dX1_passHour_34 : decode cX1_passHour 34 = .ok (.astore_n 3, 1) := by decide +kernel
theorem dX1_passHour_35 : decode cX1_passHour 35 = .ok (.aload_n 1, 1) := by decide +kernel
theorem dX1_passHour_36 : decode cX1_passHour 36 = .ok (.getfield 155, 3) := by decide +kernel
theorem dX1_passHour_39 : decode cX1_passHour 39 = .ok (.aload_n 3, 1) := by decide +kernel
theorem dX1_passHour_40 : decode cX1_passHour 40 = .ok (.getfield 158, 3) := by decide +kernel
theorem dX1_passHour_43 : decode cX1_passHour 43 = .ok (.iconst 2, 1) := by decide +kernel
theorem dX1_passHour_44 : decode cX1_passHour 44 = .ok (.idiv, 1) := by decide +kernel
theorem dX1_passHour_45 : decode cX1_passHour 45 = .ok (.isub, 1) := by decide +kernel
theorem dX1_passHour_46 : decode cX1_passHour 46 = .ok (.istore 4, 2) := by decide +kernel
theorem dX1_passHour_48 : decode cX1_passHour 48 = .ok (.aload_n 3, 1) := by decide +kernel
theorem dX1_passHour_49 : decode cX1_passHour 49 = .ok (.aload_n 1, 1) := by decide +kernel
theorem dX1_passHour_50 : decode cX1_passHour 50 = .ok (.iload 4, 2) := by decide +kernel
theorem dX1_passHour_52 : decode cX1_passHour 52 = .ok (.aload_n 0, 1) := by decide +kernel
theorem dX1_passHour_53 : decode cX1_passHour 53 = .ok (.invokevirtual 161, 3) := by decide +kernel
theorem dX1_passHour_56 : decode cX1_passHour 56 = .ok (.invokevirtual 164, 3) := by decide +kernel
theorem dX1_passHour_59 : decode cX1_passHour 59 = .ok (.aload_n 0, 1) := by decide +kernel
theorem dX1_passHour_60 : decode cX1_passHour 60 = .ok (.aload_n 3, 1) := by decide +kernel
theorem dX1_passHour_61 : decode cX1_passHour 61 = .ok (.iload 4, 2) := by decide +kernel
theorem dX1_passHour_63 : decode cX1_passHour 63 = .ok (.bipush 100, 2) := by decide +kernel
theorem dX1_passHour_65 : decode cX1_passHour 65 = .ok (.aload_n 1, 1) := by decide +kernel
theorem dX1_passHour_66 : decode cX1_passHour 66 = .ok (.getfield 168, 3) := by decide +kernel
theorem dX1_passHour_69 : decode cX1_passHour 69 = .ok (.isub, 1) := by decide +kernel
theorem dX1_passHour_70 : decode cX1_passHour 70 = .ok (.bipush 10, 2) := by decide +kernel
theorem dX1_passHour_72 : decode cX1_passHour 72 = .ok (.idiv, 1) := by decide +kernel
theorem dX1_passHour_73 : decode cX1_passHour 73 = .ok (.isub, 1) := by decide +kernel
theorem dX1_passHour_74 : decode cX1_passHour 74 = .ok (.invokevirtual 171, 3) := by decide +kernel
theorem dX1_passHour_77 : decode cX1_passHour 77 = .ok (.aload_n 3, 1) := by decide +kernel
theorem dX1_passHour_78 : decode cX1_passHour 78 = .ok (.aload_n 3, 1) := by decide +kernel
theorem dX1_passHour_79 : decode cX1_passHour 79 = .ok (.invokevirtual 105, 3) := by decide +kernel
theorem dX1_passHour_82 : decode cX1_passHour 82 = .ok (.putfield 175, 3) := by decide +kernel
theorem dX1_passHour_85 : decode cX1_passHour 85 = .ok (.aload_n 3, 1) := by decide +kernel
theorem dX1_passHour_86 : decode cX1_passHour 86 = .ok (.getfield 175, 3) := by decide +kernel
theorem dX1_passHour_89 : decode cX1_passHour 89 = .ok (.bipush 100, 2) := by decide +kernel
theorem dX1_passHour_91 : decode cX1_passHour 91 = .ok (.if_icmp .lt 30, 3) := by decide +kernel
theorem dX1_passHour_94 : decode cX1_passHour 94 = .ok (.aload_n 0, 1) := by decide +kernel
theorem dX1_passHour_95 : decode cX1_passHour 95 = .ok (.dup, 1) := by decide +kernel
theorem dX1_passHour_96 : decode cX1_passHour 96 = .ok (.getfield 63, 3) := by decide +kernel
theorem dX1_passHour_99 : decode cX1_passHour 99 = .ok (.aload_n 3, 1) := by decide +kernel
theorem dX1_passHour_100 : decode cX1_passHour 100 = .ok (.getfield 78, 3) := by decide +kernel
theorem dX1_passHour_103 : decode cX1_passHour 103 = .ok (.invokestatic 82, 3) := by decide +kernel
theorem dX1_passHour_106 : decode cX1_passHour 106 = .ok (.iadd, 1) := by decide +kernel
theorem dX1_passHour_107 : decode cX1_passHour 107 = .ok (.putfield 63, 3) := by decide +kernel
theorem dX1_passHour_110 : decode cX1_passHour 110 = .ok (.aload_n 3, 1) := by decide +kernel
theorem dX1_passHour_111 : decode cX1_passHour 111 = .ok (.iconst 0, 1) := by decide +kernel
theorem dX1_passHour_112 : decode cX1_passHour 112 = .ok (.putfield 78, 3) := by decide +kernel
theorem dX1_passHour_115 : decode cX1_passHour 115 = .ok (.aload_n 0, 1) := by decide +kernel
theorem dX1_passHour_116 : decode cX1_passHour 116 = .ok (.aload_n 3, 1) := by decide +kernel
theorem dX1_passHour_117 : decode cX1_passHour 117 = .ok (.invokevirtual 178, 3) := by decide +kernel
theorem dX1_passHour_120 : decode cX1_passHour 120 = .ok (.pop, 1) := by decide +kernel
theorem dX1_passHour_121 : decode cX1_passHour 121 = .ok (.iinc 2 1, 3) := by decide +kernel
theorem dX1_passHour_124 : decode cX1_passHour 124 = .ok (.goto (-104), 3) := by decide +kernel
theorem dX1_passHour_127 : decode cX1_passHour 127 = .ok (.aload_n 0, 1) := by decide +kernel
theorem dX1_passHour_128 : decode cX1_passHour 128 = .ok (.aload_n 1, 1) := by decide +kernel
theorem dX1_passHour_129 : decode cX1_passHour 129 = .ok (.getfield 150, 3) := by decide +kernel
theorem dX1_passHour_132 : decode cX1_passHour 132 = .ok (.invokevirtual 182, 3) := by decide +kernel
theorem dX1_passHour_135 : decode cX1_passHour 135 = .ok (.aload_n 0, 1) := by decide +kernel
theorem dX1_passHour_136 : decode cX1_passHour 136 = .ok (.invokevirtual 161, 3) := by decide +kernel
theorem dX1_passHour_139 : decode cX1_passHour 139 = .ok (.bipush 9, 2) := by decide +kernel
theorem dX1_passHour_141 : decode cX1_passHour 141 = .ok (.if_icmp .lt 16, 3) := by decide +kernel
theorem dX1_passHour_144 : decode cX1_passHour 144 = .ok (.aload_n 0, 1) := by decide +kernel
theorem dX1_passHour_145 : decode cX1_passHour 145 = .ok (.invokevirtual 161, 3) := by decide +kernel
theorem dX1_passHour_148 : decode cX1_passHour 148 = .ok (.bipush 16, 2) := by decide +kernel
theorem dX1_passHour_150 : decode cX1_passHour 150 = .ok (.if_icmp .gt 7, 3) := by decide +kernel
theorem dX1_passHour_153 : decode cX1_passHour 153 = .ok (.aload_n 0, 1) := by decide +kernel
theorem dX1_passHour_154 : decode cX1_passHour 154 = .ok (.invokevirtual 185, 3) := by decide +kernel
theorem dX1_passHour_157 : decode cX1_passHour 157 = .ok (.return_, 1) := by decide +kernel
theorem dX1_holdLifts_0 : decode cX1_holdLifts 0 = .ok (.iconst 0, 1) := by decide +kernel
theorem dX1_holdLifts_1 : decode cX1_holdLifts 1 = .ok (.istore_n 2, 1) := by decide +kernel
theorem dX1_holdLifts_2 : decode cX1_holdLifts 2 = .ok (.iload_n 2, 1) := by decide +kernel
theorem dX1_holdLifts_3 : decode cX1_holdLifts 3 = .ok (.aload_n 0, 1) := by decide +kernel
theorem dX1_holdLifts_4 : decode cX1_holdLifts 4 = .ok (.getfield 35, 3) := by decide +kernel
theorem dX1_holdLifts_7 : decode cX1_holdLifts 7 = .ok (.if_icmp .ge 32, 3) := by decide +kernel
theorem dX1_holdLifts_10 : decode cX1_holdLifts 10 = .ok (.iload_n 1, 1) := by decide +kernel
theorem dX1_holdLifts_11 : decode cX1_holdLifts 11 = .ok (.aload_n 0, 1) := by decide +kernel
theorem dX1_holdLifts_12 : decode cX1_holdLifts 12 = .ok (.getfield 11, 3) := by decide +kernel
theorem dX1_holdLifts_15 : decode cX1_holdLifts 15 = .ok (.iload_n 2, 1) := by decide +kernel
theorem dX1_holdLifts_16 : decode cX1_holdLifts 16 = .ok (.aaload, 1) := by decide +kernel
theorem dX1_holdLifts_17 : decode cX1_holdLifts 17 = .ok (.getfield 188, 3) := by decide +kernel
theorem dX1_holdLifts_20 : decode cX1_holdLifts 20 = .ok (.if_icmp .le 13, 3) := by decide +kernel
theorem dX1_holdLifts_23 : decode cX1_holdLifts 23 = .ok (.aload_n 0, 1) := by decide +kernel
theorem dX1_holdLifts_24 : decode cX1_holdLifts 24 = .ok (.getfield 11, 3) := by decide +kernel
theorem dX1_holdLifts_27 : decode cX1_holdLifts 27 = .ok (.iload_n 2, 1) := by decide +kernel
theorem dX1_holdLifts_28 : decode cX1_holdLifts 28 = .ok (.aaload, 1) := by decide +kernel
theorem dX1_holdLifts_29 : decode cX1_holdLifts 29 = .ok (.iconst 1, 1) := by decide +kernel
theorem dX1_holdLifts_30 : decode cX1_holdLifts 30 = .ok (.putfield 191, 3) := by decide +kernel
theorem dX1_holdLifts_33 : decode cX1_holdLifts 33 = .ok (.iinc 2 1, 3) := by decide +kernel
theorem dX1_holdLifts_36 : decode cX1_holdLifts 36 = .ok (.goto (-34), 3) := by decide +kernel
theorem dX1_holdLifts_39 : decode cX1_holdLifts 39 = .ok (.return_, 1) := by decide +kernel
theorem dX1_makeSnow_0 : decode cX1_makeSnow 0 = .ok (.iload_n 2, 1) := by decide +kernel
theorem dX1_makeSnow_1 : decode cX1_makeSnow 1 = .ok (.bipush (-4), 2) := by decide +kernel
theorem dX1_makeSnow_3 : decode cX1_makeSnow 3 = .ok (.if_icmp .gt 60, 3) := by decide +kernel
theorem dX1_makeSnow_6 : decode cX1_makeSnow 6 = .ok (.bipush (-3), 2) := by decide +kernel
theorem dX1_makeSnow_8 : decode cX1_makeSnow 8 = .ok (.iload_n 2, 1) := by decide +kernel
theorem dX1_makeSnow_9 : decode cX1_makeSnow 9 = .ok (.isub, 1) := by decide +kernel
theorem dX1_makeSnow_10 : decode cX1_makeSnow 10 = .ok (.bipush 6, 2) := by decide +kernel
theorem dX1_makeSnow_12 : decode cX1_makeSnow 12 = .ok (.invokestatic 194, 3) := by decide +kernel
theorem dX1_makeSnow_15 : decode cX1_makeSnow 15 = .ok (.istore_n 3, 1) := by decide +kernel
theorem dX1_makeSnow_16 : decode cX1_makeSnow 16 = .ok (.iconst 0, 1) := by decide +kernel
theorem dX1_makeSnow_17 : decode cX1_makeSnow 17 = .ok (.istore 4, 2) := by decide +kernel
theorem dX1_makeSnow_19 : decode cX1_makeSnow 19 = .ok (.iload 4, 2) := by decide +kernel
theorem dX1_makeSnow_21 : decode cX1_makeSnow 21 = .ok (.aload_n 1, 1) := by decide +kernel
theorem dX1_makeSnow_22 : decode cX1_makeSnow 22 = .ok (.getfield 75, 3) := by decide +kernel
theorem dX1_makeSnow_25 : decode cX1_makeSnow 25 = .ok (.if_icmp .ge 38, 3) := by decide +kernel
theorem dX1_makeSnow_28 : decode cX1_makeSnow 28 = .ok (.aload_n 0, 1) := by decide +kernel
theorem dX1_makeSnow_29 : decode cX1_makeSnow 29 = .ok (.getfield 25, 3) := by decide +kernel
theorem dX1_makeSnow_32 : decode cX1_makeSnow 32 = .ok (.bipush 105, 2) := by decide +kernel
theorem dX1_makeSnow_34 : decode cX1_makeSnow 34 = .ok (.if_icmp .lt 29, 3) := by decide +kernel
theorem dX1_makeSnow_37 : decode cX1_makeSnow 37 = .ok (.aload_n 0, 1) := by decide +kernel
theorem dX1_makeSnow_38 : decode cX1_makeSnow 38 = .ok (.dup, 1) := by decide +kernel
theorem dX1_makeSnow_39 : decode cX1_makeSnow 39 = .ok (.getfield 25, 3) := by decide +kernel
theorem dX1_makeSnow_42 : decode cX1_makeSnow 42 = .ok (.iconst 5, 1) := by decide +kernel
theorem dX1_makeSnow_43 : decode cX1_makeSnow 43 = .ok (.isub, 1) := by decide +kernel
theorem dX1_makeSnow_44 : decode cX1_makeSnow 44 = .ok (.putfield 25, 3) := by decide +kernel
theorem dX1_makeSnow_47 : decode cX1_makeSnow 47 = .ok (.aload_n 1, 1) := by decide +kernel
theorem dX1_makeSnow_48 : decode cX1_makeSnow 48 = .ok (.dup, 1) := by decide +kernel
theorem dX1_makeSnow_49 : decode cX1_makeSnow 49 = .ok (.getfield 197, 3) := by decide +kernel
theorem dX1_makeSnow_52 : decode cX1_makeSnow 52 = .ok (.iload_n 3, 1) := by decide +kernel
theorem dX1_makeSnow_53 : decode cX1_makeSnow 53 = .ok (.iadd, 1) := by decide +kernel
theorem dX1_makeSnow_54 : decode cX1_makeSnow 54 = .ok (.putfield 197, 3) := by decide +kernel
theorem dX1_makeSnow_57 : decode cX1_makeSnow 57 = .ok (.iinc 4 1, 3) := by decide +kernel
theorem dX1_makeSnow_60 : decode cX1_makeSnow 60 = .ok (.goto (-41), 3) := by decide +kernel
theorem dX1_makeSnow_63 : decode cX1_makeSnow 63 = .ok (.aload_n 1, 1) := by decide +kernel
theorem dX1_makeSnow_64 : decode cX1_makeSnow 64 = .ok (.getfield 99, 3) := by decide +kernel
theorem dX1_makeSnow_67 : decode cX1_makeSnow 67 = .ok (.iconst 1, 1) := by decide +kernel
theorem dX1_makeSnow_68 : decode cX1_makeSnow 68 = .ok (.if_icmp .ge 7, 3) := by decide +kernel
theorem dX1_makeSnow_71 : decode cX1_makeSnow 71 = .ok (.iconst 0, 1) := by decide +kernel
theorem dX1_makeSnow_72 : decode cX1_makeSnow 72 = .ok (.goto 12, 3) := by decide +kernel
theorem dX1_makeSnow_75 : decode cX1_makeSnow 75 = .ok (.aload_n 1, 1) := by decide +kernel
theorem dX1_makeSnow_76 : decode cX1_makeSnow 76 = .ok (.getfield 197, 3) := by decide +kernel
theorem dX1_makeSnow_79 : decode cX1_makeSnow 79 = .ok (.aload_n 1, 1) := by decide +kernel
theorem dX1_makeSnow_80 : decode cX1_makeSnow 80 = .ok (.getfield 99, 3) := by decide +kernel
theorem dX1_makeSnow_83 : decode cX1_makeSnow 83 = .ok (.idiv, 1) := by decide +kernel
theorem dX1_makeSnow_84 : decode cX1_makeSnow 84 = .ok (.istore_n 3, 1) := by decide +kernel
theorem dX1_makeSnow_85 : decode cX1_makeSnow 85 = .ok (.aload_n 1, 1) := by decide +kernel
theorem dX1_makeSnow_86 : decode cX1_makeSnow 86 = .ok (.dup, 1) := by decide +kernel
theorem dX1_makeSnow_87 : decode cX1_makeSnow 87 = .ok (.getfield 197, 3) := by decide +kernel
theorem dX1_makeSnow_90 : decode cX1_makeSnow 90 = .ok (.iload_n 3, 1) := by decide +kernel
theorem dX1_makeSnow_91 : decode cX1_makeSnow 91 = .ok (.aload_n 1, 1) := by decide +kernel
theorem dX1_makeSnow_92 : decode cX1_makeSnow 92 = .ok (.getfield 99, 3) := by decide +kernel
theorem dX1_makeSnow_95 : decode cX1_makeSnow 95 = .ok (.imul, 1) := by decide +kernel
theorem dX1_makeSnow_96 : decode cX1_makeSnow 96 = .ok (.isub, 1) := by decide +kernel
theorem dX1_makeSnow_97 : decode cX1_makeSnow 97 = .ok (.putfield 197, 3) := by decide +kernel
theorem dX1_makeSnow_100 : decode cX1_makeSnow 100 = .ok (.iload_n 3, 1) := by decide +kernel
theorem dX1_makeSnow_101 : decode cX1_makeSnow 101 = .ok (.ifCond .le 25, 3) := by decide +kernel
theorem dX1_makeSnow_104 : decode cX1_makeSnow 104 = .ok (.aload_n 1, 1) := by decide +kernel
theorem dX1_makeSnow_105 : decode cX1_makeSnow 105 = .ok (.getfield 89, 3) := by decide +kernel
theorem dX1_makeSnow_108 : decode cX1_makeSnow 108 = .ok (.iconst 3, 1) := by decide +kernel
theorem dX1_makeSnow_109 : decode cX1_makeSnow 109 = .ok (.invokevirtual 200, 3) := by decide +kernel
theorem dX1_makeSnow_112 : decode cX1_makeSnow 112 = .ok (.ifCond .eq 14, 3) := by decide +kernel
theorem dX1_makeSnow_115 : decode cX1_makeSnow 115 = .ok (.aload_n 1, 1) := by decide +kernel
theorem dX1_makeSnow_116 : decode cX1_makeSnow 116 = .ok (.getfield 89, 3) := by decide +kernel
theorem dX1_makeSnow_119 : decode cX1_makeSnow 119 = .ok (.iload_n 3, 1) := by decide +kernel
theorem dX1_makeSnow_120 : decode cX1_makeSnow 120 = .ok (.invokevirtual 204, 3) := by decide +kernel
theorem dX1_makeSnow_123 : decode cX1_makeSnow 123 = .ok (.goto 18, 3) := by decide +kernel
theorem dX1_makeSnow_126 : decode cX1_makeSnow 126 = .ok (.iload_n 3, 1) := by decide +kernel
theorem dX1_makeSnow_127 : decode cX1_makeSnow 127 = .ok (.ifCond .le 14, 3) := by decide +kernel
theorem dX1_makeSnow_130 : decode cX1_makeSnow 130 = .ok (.aload_n 1, 1) := by decide +kernel
theorem dX1_makeSnow_131 : decode cX1_makeSnow 131 = .ok (.getfield 89, 3) := by decide +kernel
theorem dX1_makeSnow_134 : decode cX1_makeSnow 134 = .ok (.iconst 3, 1) := by decide +kernel
theorem dX1_makeSnow_135 : decode cX1_makeSnow 135 = .ok (.iload_n 3, 1) := by decide +kernel
theorem dX1_makeSnow_136 : decode cX1_makeSnow 136 = .ok (.bipush 40, 2) := by decide +kernel
theorem dX1_makeSnow_138 : decode cX1_makeSnow 138 = .ok (.invokevirtual 207, 3) := by decide +kernel
theorem dX1_makeSnow_141 : decode cX1_makeSnow 141 = .ok (.return_, 1) := by decide +kernel
theorem dX1_carrySkiers_0 : decode cX1_carrySkiers 0 = .ok (.aload_n 0, 1) := by decide +kernel
theorem dX1_carrySkiers_1 : decode cX1_carrySkiers 1 = .ok (.getfield 54, 3) := by decide +kernel
theorem dX1_carrySkiers_4 : decode cX1_carrySkiers 4 = .ok (.istore_n 1, 1) := by decide +kernel
theorem dX1_carrySkiers_5 : decode cX1_carrySkiers 5 = .ok (.iconst 0, 1) := by decide +kernel
theorem dX1_carrySkiers_6 : decode cX1_carrySkiers 6 = .ok (.istore_n 2, 1) := by decide +kernel
theorem dX1_carrySkiers_7 : decode cX1_carrySkiers 7 = .ok (.iload_n 2, 1) := by decide +kernel
theorem dX1_carrySkiers_8 : decode cX1_carrySkiers 8 = .ok (.aload_n 0, 1) := by decide +kernel
theorem dX1_carrySkiers_9 : decode cX1_carrySkiers 9 = .ok (.getfield 35, 3) := by decide +kernel
theorem dX1_carrySkiers_12 : decode cX1_carrySkiers 12 = .ok (.if_icmp .ge 86, 3) := by decide +kernel
theorem dX1_carrySkiers_15 : decode cX1_carrySkiers 15 = .ok (.aload_n 0, 1) := by decide +kernel
theorem dX1_carrySkiers_16 : decode cX1_carrySkiers 16 = .ok (.iload_n 2, 1) := by decide +kernel
theorem dX1_carrySkiers_17 : decode cX1_carrySkiers 17 = .ok (.invokevirtual 211, 3) := by decide +kernel
theorem dX1_carrySkiers_20 : decode cX1_carrySkiers 20 = .ok (.istore_n 3, 1) := by decide +kernel
theorem dX1_carrySkiers_21 : decode cX1_carrySkiers 21 = .ok (.aload_n 0, 1) := by decide +kernel
theorem dX1_carrySkiers_22 : decode cX1_carrySkiers 22 = .ok (.getfield 11, 3) := by decide +kernel
theorem dX1_carrySkiers_25 : decode cX1_carrySkiers 25 = .ok (.iload_n 2, 1) := by decide +kernel
theorem dX1_carrySkiers_26 : decode cX1_carrySkiers 26 = .ok (.aaload, 1) := by decide +kernel
theorem dX1_carrySkiers_27 : decode cX1_carrySkiers 27 = .ok (.invokevirtual 128, 3) := by decide +kernel
theorem dX1_carrySkiers_30 : decode cX1_carrySkiers 30 = .ok (.ifCond .eq 62, 3) := by decide +kernel
theorem dX1_carrySkiers_33 : decode cX1_carrySkiers 33 = .ok (.iload_n 3, 1) := by decide +kernel
theorem dX1_carrySkiers_34 : decode cX1_carrySkiers 34 = .ok (.ifCond .le 58, 3) := by decide +kernel
theorem dX1_carrySkiers_37 : decode cX1_carrySkiers 37 = .ok (.aload_n 0, 1) := by decide +kernel
theorem dX1_carrySkiers_38 : decode cX1_carrySkiers 38 = .ok (.getfield 11, 3) := by decide +kernel
theorem dX1_carrySkiers_41 : decode cX1_carrySkiers 41 = .ok (.iload_n 2, 1) := by decide +kernel
theorem dX1_carrySkiers_42 : decode cX1_carrySkiers 42 = .ok (.aaload, 1) := by decide +kernel
theorem dX1_carrySkiers_43 : decode cX1_carrySkiers 43 = .ok (.getfield 214, 3) := by decide +kernel
theorem dX1_carrySkiers_46 : decode cX1_carrySkiers 46 = .ok (.iload_n 1, 1) := by decide +kernel
theorem dX1_carrySkiers_47 : decode cX1_carrySkiers 47 = .ok (.invokestatic 194, 3) := by decide +kernel
theorem dX1_carrySkiers_50 : decode cX1_carrySkiers 50 = .ok (.istore 4, 2) := by decide +kernel
theorem dX1_carrySkiers_52 : decode cX1_carrySkiers 52 = .ok (.iload_n 1, 1) := by decide +kernel
theorem dX1_carrySkiers_53 : decode cX1_carrySkiers 53 = .ok (.iload 4, 2) := by decide +kernel
theorem dX1_carrySkiers_55 : decode cX1_carrySkiers 55 = .ok (.isub, 1) := by decide +kernel
theorem dX1_carrySkiers_56 : decode cX1_carrySkiers 56 = .ok (.istore_n 1, 1) := by decide +kernel
theorem dX1_carrySkiers_57 : decode cX1_carrySkiers 57 = .ok (.aload_n 0, 1) := by decide +kernel
theorem dX1_carrySkiers_58 : decode cX1_carrySkiers 58 = .ok (.dup, 1) := by decide +kernel
theorem dX1_carrySkiers_59 : decode cX1_carrySkiers 59 = .ok (.getfield 69, 3) := by decide +kernel
theorem dX1_carrySkiers_62 : decode cX1_carrySkiers 62 = .ok (.iload 4, 2) := by decide +kernel
theorem dX1_carrySkiers_64 : decode cX1_carrySkiers 64 = .ok (.iadd, 1) := by decide +kernel
theorem dX1_carrySkiers_65 : decode cX1_carrySkiers 65 = .ok (.putfield 69, 3) := by decide +kernel
theorem dX1_carrySkiers_68 : decode cX1_carrySkiers 68 = .ok (.aload_n 0, 1) := by decide +kernel
theorem dX1_carrySkiers_69 : decode cX1_carrySkiers 69 = .ok (.getfield 11, 3) := by decide +kernel
theorem dX1_carrySkiers_72 : decode cX1_carrySkiers 72 = .ok (.iload_n 2, 1) := by decide +kernel
theorem dX1_carrySkiers_73 : decode cX1_carrySkiers 73 = .ok (.aaload, 1) := by decide +kernel
theorem dX1_carrySkiers_74 : decode cX1_carrySkiers 74 = .ok (.dup, 1) := by decide +kernel
theorem dX1_carrySkiers_75 : decode cX1_carrySkiers 75 = .ok (.getfield 217, 3) := by decide +kernel
theorem dX1_carrySkiers_78 : decode cX1_carrySkiers 78 = .ok (.iload 4, 2) := by decide +kernel
theorem dX1_carrySkiers_80 : decode cX1_carrySkiers 80 = .ok (.iadd, 1) := by decide +kernel
theorem dX1_carrySkiers_81 : decode cX1_carrySkiers 81 = .ok (.putfield 217, 3) := by decide +kernel
theorem dX1_carrySkiers_84 : decode cX1_carrySkiers 84 = .ok (.aload_n 0, 1) := by decide +kernel
theorem dX1_carrySkiers_85 : decode cX1_carrySkiers 85 = .ok (.iload_n 2, 1) := by decide +kernel
theorem dX1_carrySkiers_86 : decode cX1_carrySkiers 86 = .ok (.iload 4, 2) := by decide +kernel
theorem dX1_carrySkiers_88 : decode cX1_carrySkiers 88 = .ok (.iload_n 3, 1) := by decide +kernel
theorem dX1_carrySkiers_89 : decode cX1_carrySkiers 89 = .ok (.invokevirtual 218, 3) := by decide +kernel
theorem dX1_carrySkiers_92 : decode cX1_carrySkiers 92 = .ok (.iinc 2 1, 3) := by decide +kernel
theorem dX1_carrySkiers_95 : decode cX1_carrySkiers 95 = .ok (.goto (-88), 3) := by decide +kernel
theorem dX1_carrySkiers_98 : decode cX1_carrySkiers 98 = .ok (.aload_n 0, 1) := by decide +kernel
theorem dX1_carrySkiers_99 : decode cX1_carrySkiers 99 = .ok (.dup, 1) := by decide +kernel
theorem dX1_carrySkiers_100 : decode cX1_carrySkiers 100 = .ok (.getfield 72, 3) := by decide +kernel
theorem dX1_carrySkiers_103 : decode cX1_carrySkiers 103 = .ok (.iload_n 1, 1) := by decide +kernel
theorem dX1_carrySkiers_104 : decode cX1_carrySkiers 104 = .ok (.iadd, 1) := by decide +kernel
theorem dX1_carrySkiers_105 : decode cX1_carrySkiers 105 = .ok (.putfield 72, 3) := by decide +kernel
theorem dX1_carrySkiers_108 : decode cX1_carrySkiers 108 = .ok (.return_, 1) := by decide +kernel
theorem dX1_shareOut_0 : decode cX1_shareOut 0 = .ok (.iload_n 3, 1) := by decide +kernel
theorem dX1_shareOut_1 : decode cX1_shareOut 1 = .ok (.iconst 1, 1) := by decide +kernel
theorem dX1_shareOut_2 : decode cX1_shareOut 2 = .ok (.if_icmp .ge 4, 3) := by decide +kernel
theorem dX1_shareOut_5 : decode cX1_shareOut 5 = .ok (.return_, 1) := by decide +kernel
theorem dX1_shareOut_6 : decode cX1_shareOut 6 = .ok (.iload_n 2, 1) := by decide +kernel
theorem dX1_shareOut_7 : decode cX1_shareOut 7 = .ok (.iload_n 3, 1) := by decide +kernel
theorem dX1_shareOut_8 : decode cX1_shareOut 8 = .ok (.irem, 1) := by decide +kernel
theorem dX1_shareOut_9 : decode cX1_shareOut 9 = .ok (.istore 4, 2) := by decide +kernel
theorem dX1_shareOut_11 : decode cX1_shareOut 11 = .ok (.iconst 0, 1) := by decide +kernel
theorem dX1_shareOut_12 : decode cX1_shareOut 12 = .ok (.istore 5, 2) := by decide +kernel
theorem dX1_shareOut_14 : decode cX1_shareOut 14 = .ok (.iload 5, 2) := by decide +kernel
theorem dX1_shareOut_16 : decode cX1_shareOut 16 = .ok (.aload_n 0, 1) := by decide +kernel
theorem dX1_shareOut_17 : decode cX1_shareOut 17 = .ok (.getfield 42, 3) := by decide +kernel
theorem dX1_shareOut_20 : decode cX1_shareOut 20 = .ok (.if_icmp .ge 56, 3) := by decide +kernel
theorem dX1_shareOut_23 : decode cX1_shareOut 23 = .ok (.aload_n 0, 1) := by decide +kernel
theorem dX1_shareOut_24 : decode cX1_shareOut 24 = .ok (.getfield 20, 3) := by decide +kernel
theorem dX1_shareOut_27 : decode cX1_shareOut 27 = .ok (.iload 5, 2) := by decide +kernel
theorem dX1_shareOut_29 : decode cX1_shareOut 29 = .ok (.aaload, 1) := by decide +kernel
theorem dX1_shareOut_30 : decode cX1_shareOut 30 = .ok (.getfield 78, 3) := by decide +kernel
theorem dX1_shareOut_33 : decode cX1_shareOut 33 = .ok (.ifCond .eq 37, 3) := by decide +kernel
theorem dX1_shareOut_36 : decode cX1_shareOut 36 = .ok (.aload_n 0, 1) := by decide +kernel
theorem dX1_shareOut_37 : decode cX1_shareOut 37 = .ok (.getfield 20, 3) := by decide +kernel
theorem dX1_shareOut_40 : decode cX1_shareOut 40 = .ok (.iload 5, 2) := by decide +kernel
theorem dX1_shareOut_42 : decode cX1_shareOut 42 = .ok (.aaload, 1) := by decide +kernel
theorem dX1_shareOut_43 : decode cX1_shareOut 43 = .ok (.getfield 86, 3) := by decide +kernel
theorem dX1_shareOut_46 : decode cX1_shareOut 46 = .ok (.iload_n 1, 1) := by decide +kernel
theorem dX1_shareOut_47 : decode cX1_shareOut 47 = .ok (.if_icmp .ne 23, 3) := by decide +kernel
end
section
theorem dX1_shareOut_50 : decode cX1_shareOut 50 = .ok (.aload_n 0, 1) := by decide +kernel
theorem dX1_shareOut_51 : decode cX1_shareOut 51 = .ok (.aload_n 0, 1) := by decide +kernel
theorem dX1_shareOut_52 : decode cX1_shareOut 52 = .ok (.getfield 20, 3) := by decide +kernel
theorem dX1_shareOut_55 : decode cX1_shareOut 55 = .ok (.iload 5, 2) := by decide +kernel
theorem dX1_shareOut_57 : decode cX1_shareOut 57 = .ok (.aaload, 1) := by decide +kernel
theorem dX1_shareOut_58 : decode cX1_shareOut 58 = .ok (.iload_n 2, 1) := by decide +kernel
theorem dX1_shareOut_59 : decode cX1_shareOut 59 = .ok (.iload_n 3, 1) := by decide +kernel
theorem dX1_shareOut_60 : decode cX1_shareOut 60 = .ok (.idiv, 1) := by decide +kernel
theorem dX1_shareOut_61 : decode cX1_shareOut 61 = .ok (.iload 4, 2) := by decide +kernel
theorem dX1_shareOut_63 : decode cX1_shareOut 63 = .ok (.iadd, 1) := by decide +kernel
theorem dX1_shareOut_64 : decode cX1_shareOut 64 = .ok (.invokevirtual 221, 3) := by decide +kernel
theorem dX1_shareOut_67 : decode cX1_shareOut 67 = .ok (.iconst 0, 1) := by decide +kernel
theorem dX1_shareOut_68 : decode cX1_shareOut 68 = .ok (.istore 4, 2) := by decide +kernel
theorem dX1_shareOut_70 : decode cX1_shareOut 70 = .ok (.iinc 5 1, 3) := by decide +kernel
theorem dX1_shareOut_73 : decode cX1_shareOut 73 = .ok (.goto (-59), 3) := by decide +kernel
theorem dX1_shareOut_76 : decode cX1_shareOut 76 = .ok (.return_, 1) := by decide +kernel
theorem dX1_skiOn_0 : decode cX1_skiOn 0 = .ok (.aload_n 1, 1) := by decide +kernel
theorem dX1_skiOn_1 : decode cX1_skiOn 1 = .ok (.getfield 89, 3) := by decide +kernel
theorem dX1_skiOn_4 : decode cX1_skiOn 4 = .ok (.iconst 2, 1) := by decide +kernel
theorem dX1_skiOn_5 : decode cX1_skiOn 5 = .ok (.invokevirtual 200, 3) := by decide +kernel
theorem dX1_skiOn_8 : decode cX1_skiOn 8 = .ok (.istore_n 3, 1) := by decide +kernel
theorem dX1_skiOn_9 : decode cX1_skiOn 9 = .ok (.aload_n 1, 1) := by decide +kernel
theorem dX1_skiOn_10 : decode cX1_skiOn 10 = .ok (.getfield 224, 3) := by decide +kernel
theorem dX1_skiOn_13 : decode cX1_skiOn 13 = .ok (.iload_n 2, 1) := by decide +kernel
theorem dX1_skiOn_14 : decode cX1_skiOn 14 = .ok (.iadd, 1) := by decide +kernel
theorem dX1_skiOn_15 : decode cX1_skiOn 15 = .ok (.sipush 200, 3) := by decide +kernel
theorem dX1_skiOn_18 : decode cX1_skiOn 18 = .ok (.idiv, 1) := by decide +kernel
theorem dX1_skiOn_19 : decode cX1_skiOn 19 = .ok (.aload_n 1, 1) := by decide +kernel
theorem dX1_skiOn_20 : decode cX1_skiOn 20 = .ok (.getfield 224, 3) := by decide +kernel
theorem dX1_skiOn_23 : decode cX1_skiOn 23 = .ok (.sipush 200, 3) := by decide +kernel
theorem dX1_skiOn_26 : decode cX1_skiOn 26 = .ok (.idiv, 1) := by decide +kernel
theorem dX1_skiOn_27 : decode cX1_skiOn 27 = .ok (.isub, 1) := by decide +kernel
theorem dX1_skiOn_28 : decode cX1_skiOn 28 = .ok (.istore 4, 2) := by decide +kernel
theorem dX1_skiOn_30 : decode cX1_skiOn 30 = .ok (.aload_n 1, 1) := by decide +kernel
theorem dX1_skiOn_31 : decode cX1_skiOn 31 = .ok (.dup, 1) := by decide +kernel
theorem dX1_skiOn_32 : decode cX1_skiOn 32 = .ok (.getfield 224, 3) := by decide +kernel
theorem dX1_skiOn_35 : decode cX1_skiOn 35 = .ok (.iload_n 2, 1) := by decide +kernel
theorem dX1_skiOn_36 : decode cX1_skiOn 36 = .ok (.iadd, 1) := by decide +kernel
theorem dX1_skiOn_37 : decode cX1_skiOn 37 = .ok (.putfield 224, 3) := by decide +kernel
theorem dX1_skiOn_40 : decode cX1_skiOn 40 = .ok (.iconst 0, 1) := by decide +kernel
theorem dX1_skiOn_41 : decode cX1_skiOn 41 = .ok (.istore 5, 2) := by decide +kernel
theorem dX1_skiOn_43 : decode cX1_skiOn 43 = .ok (.iload 5, 2) := by decide +kernel
theorem dX1_skiOn_45 : decode cX1_skiOn 45 = .ok (.iload 4, 2) := by decide +kernel
theorem dX1_skiOn_47 : decode cX1_skiOn 47 = .ok (.if_icmp .ge 17, 3) := by decide +kernel
theorem dX1_skiOn_50 : decode cX1_skiOn 50 = .ok (.aload_n 1, 1) := by decide +kernel
theorem dX1_skiOn_51 : decode cX1_skiOn 51 = .ok (.getfield 89, 3) := by decide +kernel
theorem dX1_skiOn_54 : decode cX1_skiOn 54 = .ok (.iconst 1, 1) := by decide +kernel
theorem dX1_skiOn_55 : decode cX1_skiOn 55 = .ok (.invokevirtual 227, 3) := by decide +kernel
theorem dX1_skiOn_58 : decode cX1_skiOn 58 = .ok (.iinc 5 1, 3) := by decide +kernel
theorem dX1_skiOn_61 : decode cX1_skiOn 61 = .ok (.goto (-18), 3) := by decide +kernel
theorem dX1_skiOn_64 : decode cX1_skiOn 64 = .ok (.aload_n 0, 1) := by decide +kernel
theorem dX1_skiOn_65 : decode cX1_skiOn 65 = .ok (.dup, 1) := by decide +kernel
theorem dX1_skiOn_66 : decode cX1_skiOn 66 = .ok (.getfield 66, 3) := by decide +kernel
theorem dX1_skiOn_69 : decode cX1_skiOn 69 = .ok (.iload_n 2, 1) := by decide +kernel
theorem dX1_skiOn_70 : decode cX1_skiOn 70 = .ok (.bipush 40, 2) := by decide +kernel
theorem dX1_skiOn_72 : decode cX1_skiOn 72 = .ok (.aload_n 1, 1) := by decide +kernel
theorem dX1_skiOn_73 : decode cX1_skiOn 73 = .ok (.getfield 99, 3) := by decide +kernel
theorem dX1_skiOn_76 : decode cX1_skiOn 76 = .ok (.imul, 1) := by decide +kernel
theorem dX1_skiOn_77 : decode cX1_skiOn 77 = .ok (.if_icmp .le 7, 3) := by decide +kernel
theorem dX1_skiOn_80 : decode cX1_skiOn 80 = .ok (.iconst 1, 1) := by decide +kernel
theorem dX1_skiOn_81 : decode cX1_skiOn 81 = .ok (.goto 4, 3) := by decide +kernel
theorem dX1_skiOn_84 : decode cX1_skiOn 84 = .ok (.iconst 0, 1) := by decide +kernel
theorem dX1_skiOn_85 : decode cX1_skiOn 85 = .ok (.invokestatic 82, 3) := by decide +kernel
theorem dX1_skiOn_88 : decode cX1_skiOn 88 = .ok (.iadd, 1) := by decide +kernel
theorem dX1_skiOn_89 : decode cX1_skiOn 89 = .ok (.putfield 66, 3) := by decide +kernel
theorem dX1_skiOn_92 : decode cX1_skiOn 92 = .ok (.aload_n 0, 1) := by decide +kernel
theorem dX1_skiOn_93 : decode cX1_skiOn 93 = .ok (.dup, 1) := by decide +kernel
theorem dX1_skiOn_94 : decode cX1_skiOn 94 = .ok (.getfield 66, 3) := by decide +kernel
theorem dX1_skiOn_97 : decode cX1_skiOn 97 = .ok (.iload_n 3, 1) := by decide +kernel
theorem dX1_skiOn_98 : decode cX1_skiOn 98 = .ok (.ifCond .eq 10, 3) := by decide +kernel
theorem dX1_skiOn_101 : decode cX1_skiOn 101 = .ok (.iload_n 2, 1) := by decide +kernel
theorem dX1_skiOn_102 : decode cX1_skiOn 102 = .ok (.bipush 50, 2) := by decide +kernel
theorem dX1_skiOn_104 : decode cX1_skiOn 104 = .ok (.idiv, 1) := by decide +kernel
theorem dX1_skiOn_105 : decode cX1_skiOn 105 = .ok (.goto 4, 3) := by decide +kernel
theorem dX1_skiOn_108 : decode cX1_skiOn 108 = .ok (.iconst 0, 1) := by decide +kernel
theorem dX1_skiOn_109 : decode cX1_skiOn 109 = .ok (.iadd, 1) := by decide +kernel
theorem dX1_skiOn_110 : decode cX1_skiOn 110 = .ok (.putfield 66, 3) := by decide +kernel
theorem dX1_skiOn_113 : decode cX1_skiOn 113 = .ok (.return_, 1) := by decide +kernel
theorem dX2_init_0 : decode cX2_init 0 = .ok (.aload_n 0, 1) := by decide +kernel
theorem dX2_init_1 : decode cX2_init 1 = .ok (.invokespecial 3, 3) := by decide +kernel
theorem dX2_init_4 : decode cX2_init 4 = .ok (.aload_n 0, 1) := by decide +kernel
theorem dX2_init_5 : decode cX2_init 5 = .ok (.new 9, 3) := by decide +kernel
theorem dX2_init_8 : decode cX2_init 8 = .ok (.dup, 1) := by decide +kernel
theorem dX2_init_9 : decode cX2_init 9 = .ok (.invokespecial 11, 3) := by decide +kernel
theorem dX2_init_12 : decode cX2_init 12 = .ok (.putfield 12, 3) := by decide +kernel
theorem dX2_init_15 : decode cX2_init 15 = .ok (.aload_n 0, 1) := by decide +kernel
theorem dX2_init_16 : decode cX2_init 16 = .ok (.iconst (-1), 1) := by decide +kernel
theorem dX2_init_17 : decode cX2_init 17 = .ok (.putfield 18, 3) := by decide +kernel
theorem dX2_init_20 : decode cX2_init 20 = .ok (.return_, 1) := by decide +kernel
theorem dX2_become_0 : decode cX2_become 0 = .ok (.aload_n 0, 1) := by decide +kernel
theorem dX2_become_1 : decode cX2_become 1 = .ok (.getfield 12, 3) := by decide +kernel
theorem dX2_become_4 : decode cX2_become 4 = .ok (.aload_n 1, 1) := by decide +kernel
theorem dX2_become_5 : decode cX2_become 5 = .ok (.getfield 12, 3) := by decide +kernel
theorem dX2_become_8 : decode cX2_become 8 = .ok (.invokevirtual 22, 3) := by decide +kernel
theorem dX2_become_11 : decode cX2_become 11 = .ok (.aload_n 0, 1) := by decide +kernel
theorem dX2_become_12 : decode cX2_become 12 = .ok (.aload_n 1, 1) := by decide +kernel
theorem dX2_become_13 : decode cX2_become 13 = .ok (.getfield 26, 3) := by decide +kernel
theorem dX2_become_16 : decode cX2_become 16 = .ok (.putfield 26, 3) := by decide +kernel
theorem dX2_become_19 : decode cX2_become 19 = .ok (.aload_n 0, 1) := by decide +kernel
theorem dX2_become_20 : decode cX2_become 20 = .ok (.aload_n 1, 1) := by decide +kernel
theorem dX2_become_21 : decode cX2_become 21 = .ok (.getfield 29, 3) := by decide +kernel
theorem dX2_become_24 : decode cX2_become 24 = .ok (.putfield 29, 3) := by decide +kernel
theorem dX2_become_27 : decode cX2_become 27 = .ok (.aload_n 0, 1) := by decide +kernel
theorem dX2_become_28 : decode cX2_become 28 = .ok (.aload_n 1, 1) := by decide +kernel
theorem dX2_become_29 : decode cX2_become 29 = .ok (.getfield 32, 3) := by decide +kernel
theorem dX2_become_32 : decode cX2_become 32 = .ok (.putfield 32, 3) := by decide +kernel
theorem dX2_become_35 : decode cX2_become 35 = .ok (.aload_n 0, 1) := by decide +kernel
theorem dX2_become_36 : decode cX2_become 36 = .ok (.aload_n 1, 1) := by decide +kernel
theorem dX2_become_37 : decode cX2_become 37 = .ok (.getfield 35, 3) := by decide +kernel
theorem dX2_become_40 : decode cX2_become 40 = .ok (.putfield 35, 3) := by decide +kernel
theorem dX2_become_43 : decode cX2_become 43 = .ok (.aload_n 0, 1) := by decide +kernel
theorem dX2_become_44 : decode cX2_become 44 = .ok (.aload_n 1, 1) := by decide +kernel
theorem dX2_become_45 : decode cX2_become 45 = .ok (.getfield 38, 3) := by decide +kernel
theorem dX2_become_48 : decode cX2_become 48 = .ok (.putfield 38, 3) := by decide +kernel
theorem dX2_become_51 : decode cX2_become 51 = .ok (.aload_n 0, 1) := by decide +kernel
theorem dX2_become_52 : decode cX2_become 52 = .ok (.aload_n 1, 1) := by decide +kernel
theorem dX2_become_53 : decode cX2_become 53 = .ok (.getfield 41, 3) := by decide +kernel
theorem dX2_become_56 : decode cX2_become 56 = .ok (.putfield 41, 3) := by decide +kernel
theorem dX2_become_59 : decode cX2_become 59 = .ok (.aload_n 0, 1) := by decide +kernel
theorem dX2_become_60 : decode cX2_become 60 = .ok (.aload_n 1, 1) := by decide +kernel
theorem dX2_become_61 : decode cX2_become 61 = .ok (.getfield 44, 3) := by decide +kernel
theorem dX2_become_64 : decode cX2_become 64 = .ok (.putfield 44, 3) := by decide +kernel
theorem dX2_become_67 : decode cX2_become 67 = .ok (.aload_n 0, 1) := by decide +kernel
theorem dX2_become_68 : decode cX2_become 68 = .ok (.aload_n 1, 1) := by decide +kernel
theorem dX2_become_69 : decode cX2_become 69 = .ok (.getfield 47, 3) := by decide +kernel
theorem dX2_become_72 : decode cX2_become 72 = .ok (.putfield 47, 3) := by decide +kernel
theorem dX2_become_75 : decode cX2_become 75 = .ok (.aload_n 0, 1) := by decide +kernel
theorem dX2_become_76 : decode cX2_become 76 = .ok (.aload_n 1, 1) := by decide +kernel
theorem dX2_become_77 : decode cX2_become 77 = .ok (.getfield 50, 3) := by decide +kernel
theorem dX2_become_80 : decode cX2_become 80 = .ok (.putfield 50, 3) := by decide +kernel
theorem dX2_become_83 : decode cX2_become 83 = .ok (.aload_n 0, 1) := by decide +kernel
theorem dX2_become_84 : decode cX2_become 84 = .ok (.aload_n 1, 1) := by decide +kernel
theorem dX2_become_85 : decode cX2_become 85 = .ok (.getfield 53, 3) := by decide +kernel
theorem dX2_become_88 : decode cX2_become 88 = .ok (.putfield 53, 3) := by decide +kernel
theorem dX2_become_91 : decode cX2_become 91 = .ok (.aload_n 0, 1) := by decide +kernel
theorem dX2_become_92 : decode cX2_become 92 = .ok (.aload_n 1, 1) := by decide +kernel
theorem dX2_become_93 : decode cX2_become 93 = .ok (.getfield 56, 3) := by decide +kernel
theorem dX2_become_96 : decode cX2_become 96 = .ok (.putfield 56, 3) := by decide +kernel
theorem dX2_become_99 : decode cX2_become 99 = .ok (.aload_n 0, 1) := by decide +kernel
theorem dX2_become_100 : decode cX2_become 100 = .ok (.aload_n 1, 1) := by decide +kernel
theorem dX2_become_101 : decode cX2_become 101 = .ok (.getfield 18, 3) := by decide +kernel
theorem dX2_become_104 : decode cX2_become 104 = .ok (.putfield 18, 3) := by decide +kernel
theorem dX2_become_107 : decode cX2_become 107 = .ok (.aload_n 0, 1) := by decide +kernel
theorem dX2_become_108 : decode cX2_become 108 = .ok (.aload_n 1, 1) := by decide +kernel
theorem dX2_become_109 : decode cX2_become 109 = .ok (.getfield 59, 3) := by decide +kernel
theorem dX2_become_112 : decode cX2_become 112 = .ok (.putfield 59, 3) := by decide +kernel
theorem dX2_become_115 : decode cX2_become 115 = .ok (.aload_n 0, 1) := by decide +kernel
theorem dX2_become_116 : decode cX2_become 116 = .ok (.aload_n 1, 1) := by decide +kernel
theorem dX2_become_117 : decode cX2_become 117 = .ok (.getfield 62, 3) := by decide +kernel
theorem dX2_become_120 : decode cX2_become 120 = .ok (.putfield 62, 3) := by decide +kernel
theorem dX2_become_123 : decode cX2_become 123 = .ok (.aload_n 0, 1) := by decide +kernel
theorem dX2_become_124 : decode cX2_become 124 = .ok (.aload_n 1, 1) := by decide +kernel
theorem dX2_become_125 : decode cX2_become 125 = .ok (.getfield 65, 3) := by decide +kernel
theorem dX2_become_128 : decode cX2_become 128 = .ok (.putfield 65, 3) := by decide +kernel
theorem dX2_become_131 : decode cX2_become 131 = .ok (.aload_n 0, 1) := by decide +kernel
theorem dX2_become_132 : decode cX2_become 132 = .ok (.aload_n 1, 1) := by decide +kernel
theorem dX2_become_133 : decode cX2_become 133 = .ok (.getfield 69, 3) := by decide +kernel
theorem dX2_become_136 : decode cX2_become 136 = .ok (.putfield 69, 3) := by decide +kernel
theorem dX2_become_139 : decode cX2_become 139 = .ok (.aload_n 0, 1) := by decide +kernel
theorem dX2_become_140 : decode cX2_become 140 = .ok (.aload_n 1, 1) := by decide +kernel
theorem dX2_become_141 : decode cX2_become 141 = .ok (.getfield 72, 3) := by decide +kernel
theorem dX2_become_144 : decode cX2_become 144 = .ok (.putfield 72, 3) := by decide +kernel
theorem dX2_become_147 : decode cX2_become 147 = .ok (.return_, 1) := by decide +kernel
theorem dX2_risk_0 : decode cX2_risk 0 = .ok (.aload_n 0, 1) := by decide +kernel
theorem dX2_risk_1 : decode cX2_risk 1 = .ok (.getfield 12, 3) := by decide +kernel
theorem dX2_risk_4 : decode cX2_risk 4 = .ok (.aload_n 0, 1) := by decide +kernel
theorem dX2_risk_5 : decode cX2_risk 5 = .ok (.getfield 32, 3) := by decide +kernel
theorem dX2_risk_8 : decode cX2_risk 8 = .ok (.invokevirtual 75, 3) := by decide +kernel
theorem dX2_risk_11 : decode cX2_risk 11 = .ok (.ireturn, 1) := by decide +kernel
theorem dX2_shear_0 : decode cX2_shear 0 = .ok (.aload_n 0, 1) := by decide +kernel
theorem dX2_shear_1 : decode cX2_shear 1 = .ok (.getfield 12, 3) := by decide +kernel
theorem dX2_shear_4 : decode cX2_shear 4 = .ok (.aload_n 0, 1) := by decide +kernel
theorem dX2_shear_5 : decode cX2_shear 5 = .ok (.getfield 32, 3) := by decide +kernel
theorem dX2_shear_8 : decode cX2_shear 8 = .ok (.invokevirtual 79, 3) := by decide +kernel
theorem dX2_shear_11 : decode cX2_shear 11 = .ok (.ireturn, 1) := by decide +kernel
theorem dX2_sizeFrom_0 : decode cX2_sizeFrom 0 = .ok (.iload_n 1, 1) := by decide +kernel
theorem dX2_sizeFrom_1 : decode cX2_sizeFrom 1 = .ok (.iconst (-1), 1) := by decide +kernel
theorem dX2_sizeFrom_2 : decode cX2_sizeFrom 2 = .ok (.if_icmp .ne 7, 3) := by decide +kernel
theorem dX2_sizeFrom_5 : decode cX2_sizeFrom 5 = .ok (.iconst 0, 1) := by decide +kernel
theorem dX2_sizeFrom_6 : decode cX2_sizeFrom 6 = .ok (.goto 16, 3) := by decide +kernel
theorem dX2_sizeFrom_9 : decode cX2_sizeFrom 9 = .ok (.aload_n 0, 1) := by decide +kernel
theorem dX2_sizeFrom_10 : decode cX2_sizeFrom 10 = .ok (.getfield 12, 3) := by decide +kernel
theorem dX2_sizeFrom_13 : decode cX2_sizeFrom 13 = .ok (.iload_n 1, 1) := by decide +kernel
theorem dX2_sizeFrom_14 : decode cX2_sizeFrom 14 = .ok (.invokevirtual 82, 3) := by decide +kernel
theorem dX2_sizeFrom_17 : decode cX2_sizeFrom 17 = .ok (.aload_n 0, 1) := by decide +kernel
theorem dX2_sizeFrom_18 : decode cX2_sizeFrom 18 = .ok (.getfield 38, 3) := by decide +kernel
theorem dX2_sizeFrom_21 : decode cX2_sizeFrom 21 = .ok (.imul, 1) := by decide +kernel
theorem dX2_sizeFrom_22 : decode cX2_sizeFrom 22 = .ok (.ireturn, 1) := by decide +kernel
theorem dX2_weatherSnow_0 : decode cX2_weatherSnow 0 = .ok (.aload_n 1, 1) := by decide +kernel
theorem dX2_weatherSnow_1 : decode cX2_weatherSnow 1 = .ok (.getfield 85, 3) := by decide +kernel
theorem dX2_weatherSnow_4 : decode cX2_weatherSnow 4 = .ok (.ifCond .ne 7, 3) := by decide +kernel
theorem dX2_weatherSnow_7 : decode cX2_weatherSnow 7 = .ok (.iconst 1, 1) := by decide +kernel
theorem dX2_weatherSnow_8 : decode cX2_weatherSnow 8 = .ok (.goto 4, 3) := by decide +kernel
theorem dX2_weatherSnow_11 : decode cX2_weatherSnow 11 = .ok (.iconst 0, 1) := by decide +kernel
theorem dX2_weatherSnow_12 : decode cX2_weatherSnow 12 = .ok (.istore 4, 2) := by decide +kernel
theorem dX2_weatherSnow_14 : decode cX2_weatherSnow 14 = .ok (.aload_n 0, 1) := by decide +kernel
theorem dX2_weatherSnow_15 : decode cX2_weatherSnow 15 = .ok (.getfield 12, 3) := by decide +kernel
theorem dX2_weatherSnow_18 : decode cX2_weatherSnow 18 = .ok (.aload_n 1, 1) := by decide +kernel
theorem dX2_weatherSnow_19 : decode cX2_weatherSnow 19 = .ok (.getfield 85, 3) := by decide +kernel
theorem dX2_weatherSnow_22 : decode cX2_weatherSnow 22 = .ok (.iload_n 2, 1) := by decide +kernel
theorem dX2_weatherSnow_23 : decode cX2_weatherSnow 23 = .ok (.invokevirtual 90, 3) := by decide +kernel
theorem dX2_weatherSnow_26 : decode cX2_weatherSnow 26 = .ok (.aload_n 1, 1) := by decide +kernel
theorem dX2_weatherSnow_27 : decode cX2_weatherSnow 27 = .ok (.getfield 94, 3) := by decide +kernel
theorem dX2_weatherSnow_30 : decode cX2_weatherSnow 30 = .ok (.iconst 4, 1) := by decide +kernel
theorem dX2_weatherSnow_31 : decode cX2_weatherSnow 31 = .ok (.if_icmp .le 61, 3) := by decide +kernel
theorem dX2_weatherSnow_34 : decode cX2_weatherSnow 34 = .ok (.iload 4, 2) := by decide +kernel
theorem dX2_weatherSnow_36 : decode cX2_weatherSnow 36 = .ok (.ifCond .ne 7, 3) := by decide +kernel
theorem dX2_weatherSnow_39 : decode cX2_weatherSnow 39 = .ok (.iload_n 2, 1) := by decide +kernel
theorem dX2_weatherSnow_40 : decode cX2_weatherSnow 40 = .ok (.ifCond .gt 52, 3) := by decide +kernel
theorem dX2_weatherSnow_43 : decode cX2_weatherSnow 43 = .ok (.aload_n 0, 1) := by decide +kernel
theorem dX2_weatherSnow_44 : decode cX2_weatherSnow 44 = .ok (.getfield 12, 3) := by decide +kernel
theorem dX2_weatherSnow_47 : decode cX2_weatherSnow 47 = .ok (.aload_n 1, 1) := by decide +kernel
theorem dX2_weatherSnow_48 : decode cX2_weatherSnow 48 = .ok (.getfield 94, 3) := by decide +kernel
theorem dX2_weatherSnow_51 : decode cX2_weatherSnow 51 = .ok (.iconst 4, 1) := by decide +kernel
theorem dX2_weatherSnow_52 : decode cX2_weatherSnow 52 = .ok (.isub, 1) := by decide +kernel
theorem dX2_weatherSnow_53 : decode cX2_weatherSnow 53 = .ok (.aload_n 0, 1) := by decide +kernel
theorem dX2_weatherSnow_54 : decode cX2_weatherSnow 54 = .ok (.getfield 35, 3) := by decide +kernel
theorem dX2_weatherSnow_57 : decode cX2_weatherSnow 57 = .ok (.aload_n 1, 1) := by decide +kernel
theorem dX2_weatherSnow_58 : decode cX2_weatherSnow 58 = .ok (.getfield 97, 3) := by decide +kernel
theorem dX2_weatherSnow_61 : decode cX2_weatherSnow 61 = .ok (.iconst 2, 1) := by decide +kernel
theorem dX2_weatherSnow_62 : decode cX2_weatherSnow 62 = .ok (.iadd, 1) := by decide +kernel
theorem dX2_weatherSnow_63 : decode cX2_weatherSnow 63 = .ok (.iconst 4, 1) := by decide +kernel
theorem dX2_weatherSnow_64 : decode cX2_weatherSnow 64 = .ok (.irem, 1) := by decide +kernel
theorem dX2_weatherSnow_65 : decode cX2_weatherSnow 65 = .ok (.if_icmp .ne 7, 3) := by decide +kernel
theorem dX2_weatherSnow_68 : decode cX2_weatherSnow 68 = .ok (.iconst 1, 1) := by decide +kernel
theorem dX2_weatherSnow_69 : decode cX2_weatherSnow 69 = .ok (.goto 4, 3) := by decide +kernel
theorem dX2_weatherSnow_72 : decode cX2_weatherSnow 72 = .ok (.iconst 0, 1) := by decide +kernel
theorem dX2_weatherSnow_73 : decode cX2_weatherSnow 73 = .ok (.aload_n 0, 1) := by decide +kernel
theorem dX2_weatherSnow_74 : decode cX2_weatherSnow 74 = .ok (.getfield 35, 3) := by decide +kernel
theorem dX2_weatherSnow_77 : decode cX2_weatherSnow 77 = .ok (.aload_n 1, 1) := by decide +kernel
theorem dX2_weatherSnow_78 : decode cX2_weatherSnow 78 = .ok (.getfield 97, 3) := by decide +kernel
theorem dX2_weatherSnow_81 : decode cX2_weatherSnow 81 = .ok (.if_icmp .ne 7, 3) := by decide +kernel
theorem dX2_weatherSnow_84 : decode cX2_weatherSnow 84 = .ok (.iconst 1, 1) := by decide +kernel
theorem dX2_weatherSnow_85 : decode cX2_weatherSnow 85 = .ok (.goto 4, 3) := by decide +kernel
theorem dX2_weatherSnow_88 : decode cX2_weatherSnow 88 = .ok (.iconst 0, 1) := by decide +kernel
theorem dX2_weatherSnow_89 : decode cX2_weatherSnow 89 = .ok (.invokevirtual 100, 3) := by decide +kernel
theorem dX2_weatherSnow_92 : decode cX2_weatherSnow 92 = .ok (.iload 4, 2) := by decide +kernel
theorem dX2_weatherSnow_94 : decode cX2_weatherSnow 94 = .ok (.ifCond .eq 36, 3) := by decide +kernel
theorem dX2_weatherSnow_97 : decode cX2_weatherSnow 97 = .ok (.iload_n 3, 1) := by decide +kernel
theorem dX2_weatherSnow_98 : decode cX2_weatherSnow 98 = .ok (.bipush 10, 2) := by decide +kernel
theorem dX2_weatherSnow_100 : decode cX2_weatherSnow 100 = .ok (.if_icmp .lt 30, 3) := by decide +kernel
theorem dX2_weatherSnow_103 : decode cX2_weatherSnow 103 = .ok (.iload_n 3, 1) := by decide +kernel
theorem dX2_weatherSnow_104 : decode cX2_weatherSnow 104 = .ok (.bipush 15, 2) := by decide +kernel
theorem dX2_weatherSnow_106 : decode cX2_weatherSnow 106 = .ok (.if_icmp .gt 24, 3) := by decide +kernel
theorem dX2_weatherSnow_109 : decode cX2_weatherSnow 109 = .ok (.aload_n 0, 1) := by decide +kernel
theorem dX2_weatherSnow_110 : decode cX2_weatherSnow 110 = .ok (.getfield 35, 3) := by decide +kernel
theorem dX2_weatherSnow_113 : decode cX2_weatherSnow 113 = .ok (.iconst 2, 1) := by decide +kernel
theorem dX2_weatherSnow_114 : decode cX2_weatherSnow 114 = .ok (.if_icmp .eq 8, 3) := by decide +kernel
theorem dX2_weatherSnow_117 : decode cX2_weatherSnow 117 = .ok (.iload_n 2, 1) := by decide +kernel
theorem dX2_weatherSnow_118 : decode cX2_weatherSnow 118 = .ok (.iconst 2, 1) := by decide +kernel
theorem dX2_weatherSnow_119 : decode cX2_weatherSnow 119 = .ok (.if_icmp .le 11, 3) := by decide +kernel
theorem dX2_weatherSnow_122 : decode cX2_weatherSnow 122 = .ok (.aload_n 0, 1) := by decide +kernel
theorem dX2_weatherSnow_123 : decode cX2_weatherSnow 123 = .ok (.getfield 12, 3) := by decide +kernel
theorem dX2_weatherSnow_126 : decode cX2_weatherSnow 126 = .ok (.iconst 1, 1) := by decide +kernel
theorem dX2_weatherSnow_127 : decode cX2_weatherSnow 127 = .ok (.invokevirtual 104, 3) := by decide +kernel
theorem dX2_weatherSnow_130 : decode cX2_weatherSnow 130 = .ok (.iload_n 2, 1) := by decide +kernel
theorem dX2_weatherSnow_131 : decode cX2_weatherSnow 131 = .ok (.bipush (-3), 2) := by decide +kernel
theorem dX2_weatherSnow_133 : decode cX2_weatherSnow 133 = .ok (.if_icmp .gt 10, 3) := by decide +kernel
theorem dX2_weatherSnow_136 : decode cX2_weatherSnow 136 = .ok (.aload_n 0, 1) := by decide +kernel
theorem dX2_weatherSnow_137 : decode cX2_weatherSnow 137 = .ok (.getfield 12, 3) := by decide +kernel
theorem dX2_weatherSnow_140 : decode cX2_weatherSnow 140 = .ok (.invokevirtual 108, 3) := by decide +kernel
theorem dX2_weatherSnow_143 : decode cX2_weatherSnow 143 = .ok (.iload 4, 2) := by decide +kernel
theorem dX2_weatherSnow_145 : decode cX2_weatherSnow 145 = .ok (.ifCond .eq 21, 3) := by decide +kernel
theorem dX2_weatherSnow_148 : decode cX2_weatherSnow 148 = .ok (.iload_n 3, 1) := by decide +kernel
theorem dX2_weatherSnow_149 : decode cX2_weatherSnow 149 = .ok (.iconst 5, 1) := by decide +kernel
theorem dX2_weatherSnow_150 : decode cX2_weatherSnow 150 = .ok (.if_icmp .gt 16, 3) := by decide +kernel
theorem dX2_weatherSnow_153 : decode cX2_weatherSnow 153 = .ok (.iload_n 2, 1) := by decide +kernel
theorem dX2_weatherSnow_154 : decode cX2_weatherSnow 154 = .ok (.bipush (-12), 2) := by decide +kernel
theorem dX2_weatherSnow_156 : decode cX2_weatherSnow 156 = .ok (.if_icmp .gt 10, 3) := by decide +kernel
theorem dX2_weatherSnow_159 : decode cX2_weatherSnow 159 = .ok (.aload_n 0, 1) := by decide +kernel
theorem dX2_weatherSnow_160 : decode cX2_weatherSnow 160 = .ok (.getfield 12, 3) := by decide +kernel
theorem dX2_weatherSnow_163 : decode cX2_weatherSnow 163 = .ok (.invokevirtual 111, 3) := by decide +kernel
theorem dX2_weatherSnow_166 : decode cX2_weatherSnow 166 = .ok (.aload_n 0, 1) := by decide +kernel
theorem dX2_weatherSnow_167 : decode cX2_weatherSnow 167 = .ok (.getfield 12, 3) := by decide +kernel
theorem dX2_weatherSnow_170 : decode cX2_weatherSnow 170 = .ok (.iload_n 3, 1) := by decide +kernel
theorem dX2_weatherSnow_171 : decode cX2_weatherSnow 171 = .ok (.bipush 12, 2) := by decide +kernel
theorem dX2_weatherSnow_173 : decode cX2_weatherSnow 173 = .ok (.if_icmp .ne 7, 3) := by decide +kernel
theorem dX2_weatherSnow_176 : decode cX2_weatherSnow 176 = .ok (.iconst 1, 1) := by decide +kernel
theorem dX2_weatherSnow_177 : decode cX2_weatherSnow 177 = .ok (.goto 4, 3) := by decide +kernel
theorem dX2_weatherSnow_180 : decode cX2_weatherSnow 180 = .ok (.iconst 0, 1) := by decide +kernel
theorem dX2_weatherSnow_181 : decode cX2_weatherSnow 181 = .ok (.invokevirtual 114, 3) := by decide +kernel
theorem dX2_weatherSnow_184 : decode cX2_weatherSnow 184 = .ok (.return_, 1) := by decide +kernel
theorem dX3_init_0 : decode cX3_init 0 = .ok (.aload_n 0, 1) := by decide +kernel
theorem dX3_init_1 : decode cX3_init 1 = .ok (.invokespecial 3, 3) := by decide +kernel
theorem dX3_init_4 : decode cX3_init 4 = .ok (.aload_n 0, 1) := by decide +kernel
theorem dX3_init_5 : decode cX3_init 5 = .ok (.bipush 8, 2) := by decide +kernel
theorem dX3_init_7 : decode cX3_init 7 = .ok (.newarray .int, 2) := by decide +kernel
theorem dX3_init_9 : decode cX3_init 9 = .ok (.putfield 9, 3) := by decide +kernel
theorem dX3_init_12 : decode cX3_init 12 = .ok (.aload_n 0, 1) := by decide +kernel
theorem dX3_init_13 : decode cX3_init 13 = .ok (.bipush 8, 2) := by decide +kernel
theorem dX3_init_15 : decode cX3_init 15 = .ok (.newarray .int, 2) := by decide +kernel
theorem dX3_init_17 : decode cX3_init 17 = .ok (.putfield 15, 3) := by decide +kernel
theorem dX3_init_20 : decode cX3_init 20 = .ok (.aload_n 0, 1) := by decide +kernel
theorem dX3_init_21 : decode cX3_init 21 = .ok (.bipush 8, 2) := by decide +kernel
theorem dX3_init_23 : decode cX3_init 23 = .ok (.newarray .int, 2) := by decide +kernel
theorem dX3_init_25 : decode cX3_init 25 = .ok (.putfield 18, 3) := by decide +kernel
theorem dX3_init_28 : decode cX3_init 28 = .ok (.return_, 1) := by decide +kernel
theorem dX3_become_0 : decode cX3_become 0 = .ok (.aload_n 1, 1) := by decide +kernel
theorem dX3_become_1 : decode cX3_become 1 = .ok (.getfield 9, 3) := by decide +kernel
theorem dX3_become_4 : decode cX3_become 4 = .ok (.iconst 0, 1) := by decide +kernel
theorem dX3_become_5 : decode cX3_become 5 = .ok (.aload_n 0, 1) := by decide +kernel
theorem dX3_become_6 : decode cX3_become 6 = .ok (.getfield 9, 3) := by decide +kernel
theorem dX3_become_9 : decode cX3_become 9 = .ok (.iconst 0, 1) := by decide +kernel
theorem dX3_become_10 : decode cX3_become 10 = .ok (.bipush 8, 2) := by decide +kernel
theorem dX3_become_12 : decode cX3_become 12 = .ok (.invokestatic 21, 3) := by decide +kernel
theorem dX3_become_15 : decode cX3_become 15 = .ok (.aload_n 1, 1) := by decide +kernel
theorem dX3_become_16 : decode cX3_become 16 = .ok (.getfield 15, 3) := by decide +kernel
theorem dX3_become_19 : decode cX3_become 19 = .ok (.iconst 0, 1) := by decide +kernel
theorem dX3_become_20 : decode cX3_become 20 = .ok (.aload_n 0, 1) := by decide +kernel
theorem dX3_become_21 : decode cX3_become 21 = .ok (.getfield 15, 3) := by decide +kernel
theorem dX3_become_24 : decode cX3_become 24 = .ok (.iconst 0, 1) := by decide +kernel
theorem dX3_become_25 : decode cX3_become 25 = .ok (.bipush 8, 2) := by decide +kernel
theorem dX3_become_27 : decode cX3_become 27 = .ok (.invokestatic 21, 3) := by decide +kernel
theorem dX3_become_30 : decode cX3_become 30 = .ok (.aload_n 1, 1) := by decide +kernel
theorem dX3_become_31 : decode cX3_become 31 = .ok (.getfield 18, 3) := by decide +kernel
theorem dX3_become_34 : decode cX3_become 34 = .ok (.iconst 0, 1) := by decide +kernel
theorem dX3_become_35 : decode cX3_become 35 = .ok (.aload_n 0, 1) := by decide +kernel
theorem dX3_become_36 : decode cX3_become 36 = .ok (.getfield 18, 3) := by decide +kernel
theorem dX3_become_39 : decode cX3_become 39 = .ok (.iconst 0, 1) := by decide +kernel
theorem dX3_become_40 : decode cX3_become 40 = .ok (.bipush 8, 2) := by decide +kernel
theorem dX3_become_42 : decode cX3_become 42 = .ok (.invokestatic 21, 3) := by decide +kernel
theorem dX3_become_45 : decode cX3_become 45 = .ok (.aload_n 0, 1) := by decide +kernel
theorem dX3_become_46 : decode cX3_become 46 = .ok (.aload_n 1, 1) := by decide +kernel
theorem dX3_become_47 : decode cX3_become 47 = .ok (.getfield 27, 3) := by decide +kernel
theorem dX3_become_50 : decode cX3_become 50 = .ok (.putfield 27, 3) := by decide +kernel
theorem dX3_become_53 : decode cX3_become 53 = .ok (.aload_n 0, 1) := by decide +kernel
theorem dX3_become_54 : decode cX3_become 54 = .ok (.aload_n 1, 1) := by decide +kernel
theorem dX3_become_55 : decode cX3_become 55 = .ok (.getfield 31, 3) := by decide +kernel
theorem dX3_become_58 : decode cX3_become 58 = .ok (.putfield 31, 3) := by decide +kernel
theorem dX3_become_61 : decode cX3_become 61 = .ok (.aload_n 0, 1) := by decide +kernel
theorem dX3_become_62 : decode cX3_become 62 = .ok (.aload_n 1, 1) := by decide +kernel
theorem dX3_become_63 : decode cX3_become 63 = .ok (.getfield 35, 3) := by decide +kernel
theorem dX3_become_66 : decode cX3_become 66 = .ok (.putfield 35, 3) := by decide +kernel
theorem dX3_become_69 : decode cX3_become 69 = .ok (.return_, 1) := by decide +kernel
theorem dX3_topIs_0 : decode cX3_topIs 0 = .ok (.aload_n 0, 1) := by decide +kernel
theorem dX3_topIs_1 : decode cX3_topIs 1 = .ok (.getfield 27, 3) := by decide +kernel
theorem dX3_topIs_4 : decode cX3_topIs 4 = .ok (.ifCond .le 22, 3) := by decide +kernel
theorem dX3_topIs_7 : decode cX3_topIs 7 = .ok (.aload_n 0, 1) := by decide +kernel
theorem dX3_topIs_8 : decode cX3_topIs 8 = .ok (.getfield 18, 3) := by decide +kernel
theorem dX3_topIs_11 : decode cX3_topIs 11 = .ok (.aload_n 0, 1) := by decide +kernel
theorem dX3_topIs_12 : decode cX3_topIs 12 = .ok (.getfield 27, 3) := by decide +kernel
theorem dX3_topIs_15 : decode cX3_topIs 15 = .ok (.iconst 1, 1) := by decide +kernel
theorem dX3_topIs_16 : decode cX3_topIs 16 = .ok (.isub, 1) := by decide +kernel
theorem dX3_topIs_17 : decode cX3_topIs 17 = .ok (.iaload, 1) := by decide +kernel
theorem dX3_topIs_18 : decode cX3_topIs 18 = .ok (.iload_n 1, 1) := by decide +kernel
theorem dX3_topIs_19 : decode cX3_topIs 19 = .ok (.if_icmp .ne 7, 3) := by decide +kernel
theorem dX3_topIs_22 : decode cX3_topIs 22 = .ok (.iconst 1, 1) := by decide +kernel
theorem dX3_topIs_23 : decode cX3_topIs 23 = .ok (.goto 4, 3) := by decide +kernel
theorem dX3_topIs_26 : decode cX3_topIs 26 = .ok (.iconst 0, 1) := by decide +kernel
theorem dX3_topIs_27 : decode cX3_topIs 27 = .ok (.ireturn, 1) := by decide +kernel
theorem dX3_wholeDepth_0 : decode cX3_wholeDepth 0 = .ok (.aload_n 0, 1) := by decide +kernel
theorem dX3_wholeDepth_1 : decode cX3_wholeDepth 1 = .ok (.iconst 0, 1) := by decide +kernel
theorem dX3_wholeDepth_2 : decode cX3_wholeDepth 2 = .ok (.invokevirtual 38, 3) := by decide +kernel
theorem dX3_wholeDepth_5 : decode cX3_wholeDepth 5 = .ok (.ireturn, 1) := by decide +kernel
theorem dX3_depthFrom_0 : decode cX3_depthFrom 0 = .ok (.iconst 0, 1) := by decide +kernel
theorem dX3_depthFrom_1 : decode cX3_depthFrom 1 = .ok (.istore_n 2, 1) := by decide +kernel
theorem dX3_depthFrom_2 : decode cX3_depthFrom 2 = .ok (.iload_n 1, 1) := by decide +kernel
theorem dX3_depthFrom_3 : decode cX3_depthFrom 3 = .ok (.iconst 0, 1) := by decide +kernel
theorem dX3_depthFrom_4 : decode cX3_depthFrom 4 = .ok (.invokestatic 42, 3) := by decide +kernel
theorem dX3_depthFrom_7 : decode cX3_depthFrom 7 = .ok (.istore_n 3, 1) := by decide +kernel
theorem dX3_depthFrom_8 : decode cX3_depthFrom 8 = .ok (.iload_n 3, 1) := by decide +kernel
theorem dX3_depthFrom_9 : decode cX3_depthFrom 9 = .ok (.aload_n 0, 1) := by decide +kernel
theorem dX3_depthFrom_10 : decode cX3_depthFrom 10 = .ok (.getfield 27, 3) := by decide +kernel
theorem dX3_depthFrom_13 : decode cX3_depthFrom 13 = .ok (.if_icmp .ge 18, 3) := by decide +kernel
theorem dX3_depthFrom_16 : decode cX3_depthFrom 16 = .ok (.iload_n 2, 1) := by decide +kernel
theorem dX3_depthFrom_17 : decode cX3_depthFrom 17 = .ok (.aload_n 0, 1) := by decide +kernel
theorem dX3_depthFrom_18 : decode cX3_depthFrom 18 = .ok (.getfield 9, 3) := by decide +kernel
theorem dX3_depthFrom_21 : decode cX3_depthFrom 21 = .ok (.iload_n 3, 1) := by decide +kernel
theorem dX3_depthFrom_22 : decode cX3_depthFrom 22 = .ok (.iaload, 1) := by decide +kernel
theorem dX3_depthFrom_23 : decode cX3_depthFrom 23 = .ok (.iadd, 1) := by decide +kernel
theorem dX3_depthFrom_24 : decode cX3_depthFrom 24 = .ok (.istore_n 2, 1) := by decide +kernel
theorem dX3_depthFrom_25 : decode cX3_depthFrom 25 = .ok (.iinc 3 1, 3) := by decide +kernel
theorem dX3_depthFrom_28 : decode cX3_depthFrom 28 = .ok (.goto (-20), 3) := by decide +kernel
theorem dX3_depthFrom_31 : decode cX3_depthFrom 31 = .ok (.iload_n 2, 1) := by decide +kernel
theorem dX3_depthFrom_32 : decode cX3_depthFrom 32 = .ok (.ireturn, 1) := by decide +kernel
theorem dX3_thicken_0 : decode cX3_thicken 0 = .ok (.aload_n 0, 1) := by decide +kernel
theorem dX3_thicken_1 : decode cX3_thicken 1 = .ok (.getfield 27, 3) := by decide +kernel
theorem dX3_thicken_4 : decode cX3_thicken 4 = .ok (.ifCond .le 33, 3) := by decide +kernel
theorem dX3_thicken_7 : decode cX3_thicken 7 = .ok (.aload_n 0, 1) := by decide +kernel
theorem dX3_thicken_8 : decode cX3_thicken 8 = .ok (.getfield 9, 3) := by decide +kernel
theorem dX3_thicken_11 : decode cX3_thicken 11 = .ok (.aload_n 0, 1) := by decide +kernel
theorem dX3_thicken_12 : decode cX3_thicken 12 = .ok (.getfield 27, 3) := by decide +kernel
theorem dX3_thicken_15 : decode cX3_thicken 15 = .ok (.iconst 1, 1) := by decide +kernel
theorem dX3_thicken_16 : decode cX3_thicken 16 = .ok (.isub, 1) := by decide +kernel
theorem dX3_thicken_17 : decode cX3_thicken 17 = .ok (.aload_n 0, 1) := by decide +kernel
theorem dX3_thicken_18 : decode cX3_thicken 18 = .ok (.getfield 9, 3) := by decide +kernel
theorem dX3_thicken_21 : decode cX3_thicken 21 = .ok (.aload_n 0, 1) := by decide +kernel
theorem dX3_thicken_22 : decode cX3_thicken 22 = .ok (.getfield 27, 3) := by decide +kernel
theorem dX3_thicken_25 : decode cX3_thicken 25 = .ok (.iconst 1, 1) := by decide +kernel
theorem dX3_thicken_26 : decode cX3_thicken 26 = .ok (.isub, 1) := by decide +kernel
theorem dX3_thicken_27 : decode cX3_thicken 27 = .ok (.iaload, 1) := by decide +kernel
theorem dX3_thicken_28 : decode cX3_thicken 28 = .ok (.iload_n 1, 1) := by decide +kernel
theorem dX3_thicken_29 : decode cX3_thicken 29 = .ok (.iadd, 1) := by decide +kernel
theorem dX3_thicken_30 : decode cX3_thicken 30 = .ok (.sipush 300, 3) := by decide +kernel
theorem dX3_thicken_33 : decode cX3_thicken 33 = .ok (.invokestatic 48, 3) := by decide +kernel
theorem dX3_thicken_36 : decode cX3_thicken 36 = .ok (.iastore, 1) := by decide +kernel
theorem dX3_thicken_37 : decode cX3_thicken 37 = .ok (.return_, 1) := by decide +kernel
theorem dX3_thin_0 : decode cX3_thin 0 = .ok (.aload_n 0, 1) := by decide +kernel
theorem dX3_thin_1 : decode cX3_thin 1 = .ok (.getfield 27, 3) := by decide +kernel
theorem dX3_thin_4 : decode cX3_thin 4 = .ok (.iconst 1, 1) := by decide +kernel
theorem dX3_thin_5 : decode cX3_thin 5 = .ok (.if_icmp .ge 4, 3) := by decide +kernel
theorem dX3_thin_8 : decode cX3_thin 8 = .ok (.return_, 1) := by decide +kernel
theorem dX3_thin_9 : decode cX3_thin 9 = .ok (.aload_n 0, 1) := by decide +kernel
theorem dX3_thin_10 : decode cX3_thin 10 = .ok (.getfield 9, 3) := by decide +kernel
theorem dX3_thin_13 : decode cX3_thin 13 = .ok (.aload_n 0, 1) := by decide +kernel
theorem dX3_thin_14 : decode cX3_thin 14 = .ok (.getfield 27, 3) := by decide +kernel
theorem dX3_thin_17 : decode cX3_thin 17 = .ok (.iconst 1, 1) := by decide +kernel
theorem dX3_thin_18 : decode cX3_thin 18 = .ok (.isub, 1) := by decide +kernel
theorem dX3_thin_19 : decode cX3_thin 19 = .ok (.dup2, 1) := by decide +kernel
theorem dX3_thin_20 : decode cX3_thin 20 = .ok (.iaload, 1) := by decide +kernel
theorem dX3_thin_21 : decode cX3_thin 21 = .ok (.iload_n 1, 1) := by decide +kernel
theorem dX3_thin_22 : decode cX3_thin 22 = .ok (.isub, 1) := by decide +kernel
theorem dX3_thin_23 : decode cX3_thin 23 = .ok (.iastore, 1) := by decide +kernel
theorem dX3_thin_24 : decode cX3_thin 24 = .ok (.aload_n 0, 1) := by decide +kernel
theorem dX3_thin_25 : decode cX3_thin 25 = .ok (.getfield 9, 3) := by decide +kernel
theorem dX3_thin_28 : decode cX3_thin 28 = .ok (.aload_n 0, 1) := by decide +kernel
theorem dX3_thin_29 : decode cX3_thin 29 = .ok (.getfield 27, 3) := by decide +kernel
theorem dX3_thin_32 : decode cX3_thin 32 = .ok (.iconst 1, 1) := by decide +kernel
theorem dX3_thin_33 : decode cX3_thin 33 = .ok (.isub, 1) := by decide +kernel
theorem dX3_thin_34 : decode cX3_thin 34 = .ok (.iaload, 1) := by decide +kernel
theorem dX3_thin_35 : decode cX3_thin 35 = .ok (.iconst 1, 1) := by decide +kernel
theorem dX3_thin_36 : decode cX3_thin 36 = .ok (.if_icmp .ge 18, 3) := by decide +kernel
theorem dX3_thin_39 : decode cX3_thin 39 = .ok (.aload_n 0, 1) := by decide +kernel
theorem dX3_thin_40 : decode cX3_thin 40 = .ok (.dup, 1) := by decide +kernel
theorem dX3_thin_41 : decode cX3_thin 41 = .ok (.getfield 27, 3) := by decide +kernel
theorem dX3_thin_44 : decode cX3_thin 44 = .ok (.iconst 1, 1) := by decide +kernel
theorem dX3_thin_45 : decode cX3_thin 45 = .ok (.isub, 1) := by decide +kernel
theorem dX3_thin_46 : decode cX3_thin 46 = .ok (.putfield 27, 3) := by decide +kernel
theorem dX3_thin_49 : decode cX3_thin 49 = .ok (.aload_n 0, 1) := by decide +kernel
theorem dX3_thin_50 : decode cX3_thin 50 = .ok (.iconst 0, 1) := by decide +kernel
theorem dX3_thin_51 : decode cX3_thin 51 = .ok (.putfield 31, 3) := by decide +kernel
theorem dX3_thin_54 : decode cX3_thin 54 = .ok (.return_, 1) := by decide +kernel
theorem dX3_melt_0 : decode cX3_melt 0 = .ok (.aload_n 0, 1) := by decide +kernel
theorem dX3_melt_1 : decode cX3_melt 1 = .ok (.iload_n 1, 1) := by decide +kernel
theorem dX3_melt_2 : decode cX3_melt 2 = .ok (.invokevirtual 51, 3) := by decide +kernel
theorem dX3_melt_5 : decode cX3_melt 5 = .ok (.aload_n 0, 1) := by decide +kernel
theorem dX3_melt_6 : decode cX3_melt 6 = .ok (.aload_n 0, 1) := by decide +kernel
theorem dX3_melt_7 : decode cX3_melt 7 = .ok (.getfield 27, 3) := by decide +kernel
theorem dX3_melt_10 : decode cX3_melt 10 = .ok (.ifCond .le 7, 3) := by decide +kernel
theorem dX3_melt_13 : decode cX3_melt 13 = .ok (.iconst 1, 1) := by decide +kernel
theorem dX3_melt_14 : decode cX3_melt 14 = .ok (.goto 4, 3) := by decide +kernel
theorem dX3_melt_17 : decode cX3_melt 17 = .ok (.iconst 0, 1) := by decide +kernel
theorem dX3_melt_18 : decode cX3_melt 18 = .ok (.putfield 31, 3) := by decide +kernel
theorem dX3_melt_21 : decode cX3_melt 21 = .ok (.return_, 1) := by decide +kernel
theorem dX3_lay_0 : decode cX3_lay 0 = .ok (.aload_n 0, 1) := by decide +kernel
theorem dX3_lay_1 : decode cX3_lay 1 = .ok (.getfield 27, 3) := by decide +kernel
theorem dX3_lay_4 : decode cX3_lay 4 = .ok (.bipush 8, 2) := by decide +kernel
theorem dX3_lay_6 : decode cX3_lay 6 = .ok (.if_icmp .lt 7, 3) := by decide +kernel
theorem dX3_lay_9 : decode cX3_lay 9 = .ok (.aload_n 0, 1) := by decide +kernel
theorem dX3_lay_10 : decode cX3_lay 10 = .ok (.invokevirtual 55, 3) := by decide +kernel
theorem dX3_lay_13 : decode cX3_lay 13 = .ok (.aload_n 0, 1) := by decide +kernel
theorem dX3_lay_14 : decode cX3_lay 14 = .ok (.getfield 18, 3) := by decide +kernel
theorem dX3_lay_17 : decode cX3_lay 17 = .ok (.aload_n 0, 1) := by decide +kernel
theorem dX3_lay_18 : decode cX3_lay 18 = .ok (.getfield 27, 3) := by decide +kernel
theorem dX3_lay_21 : decode cX3_lay 21 = .ok (.iload_n 1, 1) := by decide +kernel
theorem dX3_lay_22 : decode cX3_lay 22 = .ok (.iastore, 1) := by decide +kernel
theorem dX3_lay_23 : decode cX3_lay 23 = .ok (.aload_n 0, 1) := by decide +kernel
theorem dX3_lay_24 : decode cX3_lay 24 = .ok (.getfield 9, 3) := by decide +kernel
theorem dX3_lay_27 : decode cX3_lay 27 = .ok (.aload_n 0, 1) := by decide +kernel
theorem dX3_lay_28 : decode cX3_lay 28 = .ok (.getfield 27, 3) := by decide +kernel
theorem dX3_lay_31 : decode cX3_lay 31 = .ok (.iload_n 2, 1) := by decide +kernel
theorem dX3_lay_32 : decode cX3_lay 32 = .ok (.iastore, 1) := by decide +kernel
theorem dX3_lay_33 : decode cX3_lay 33 = .ok (.aload_n 0, 1) := by decide +kernel
theorem dX3_lay_34 : decode cX3_lay 34 = .ok (.getfield 15, 3) := by decide +kernel
theorem dX3_lay_37 : decode cX3_lay 37 = .ok (.aload_n 0, 1) := by decide +kernel
theorem dX3_lay_38 : decode cX3_lay 38 = .ok (.getfield 27, 3) := by decide +kernel
theorem dX3_lay_41 : decode cX3_lay 41 = .ok (.iload_n 3, 1) := by decide +kernel
theorem dX3_lay_42 : decode cX3_lay 42 = .ok (.iastore, 1) := by decide +kernel
theorem dX3_lay_43 : decode cX3_lay 43 = .ok (.aload_n 0, 1) := by decide +kernel
theorem dX3_lay_44 : decode cX3_lay 44 = .ok (.dup, 1) := by decide +kernel
theorem dX3_lay_45 : decode cX3_lay 45 = .ok (.getfield 27, 3) := by decide +kernel
theorem dX3_lay_48 : decode cX3_lay 48 = .ok (.iconst 1, 1) := by decide +kernel
theorem dX3_lay_49 : decode cX3_lay 49 = .ok (.iadd, 1) := by decide +kernel
theorem dX3_lay_50 : decode cX3_lay 50 = .ok (.putfield 27, 3) := by decide +kernel
theorem dX3_lay_53 : decode cX3_lay 53 = .ok (.aload_n 0, 1) := by decide +kernel
theorem dX3_lay_54 : decode cX3_lay 54 = .ok (.iconst 0, 1) := by decide +kernel
theorem dX3_lay_55 : decode cX3_lay 55 = .ok (.putfield 31, 3) := by decide +kernel
theorem dX3_lay_58 : decode cX3_lay 58 = .ok (.return_, 1) := by decide +kernel
theorem dX3_joinLowest_0 : decode cX3_joinLowest 0 = .ok (.aload_n 0, 1) := by decide +kernel
theorem dX3_joinLowest_1 : decode cX3_joinLowest 1 = .ok (.getfield 9, 3) := by decide +kernel
theorem dX3_joinLowest_4 : decode cX3_joinLowest 4 = .ok (.iconst 0, 1) := by decide +kernel
theorem dX3_joinLowest_5 : decode cX3_joinLowest 5 = .ok (.aload_n 0, 1) := by decide +kernel
theorem dX3_joinLowest_6 : decode cX3_joinLowest 6 = .ok (.getfield 9, 3) := by decide +kernel
theorem dX3_joinLowest_9 : decode cX3_joinLowest 9 = .ok (.iconst 0, 1) := by decide +kernel
theorem dX3_joinLowest_10 : decode cX3_joinLowest 10 = .ok (.iaload, 1) := by decide +kernel
theorem dX3_joinLowest_11 : decode cX3_joinLowest 11 = .ok (.aload_n 0, 1) := by decide +kernel
theorem dX3_joinLowest_12 : decode cX3_joinLowest 12 = .ok (.getfield 9, 3) := by decide +kernel
theorem dX3_joinLowest_15 : decode cX3_joinLowest 15 = .ok (.iconst 1, 1) := by decide +kernel
theorem dX3_joinLowest_16 : decode cX3_joinLowest 16 = .ok (.iaload, 1) := by decide +kernel
theorem dX3_joinLowest_17 : decode cX3_joinLowest 17 = .ok (.iadd, 1) := by decide +kernel
theorem dX3_joinLowest_18 : decode cX3_joinLowest 18 = .ok (.sipush 300, 3) := by decide +kernel
theorem dX3_joinLowest_21 : decode cX3_joinLowest 21 = .ok (.invokestatic 48, 3) := by decide +kernel
theorem dX3_joinLowest_24 : decode cX3_joinLowest 24 = .ok (.iastore, 1) := by decide +kernel
theorem dX3_joinLowest_25 : decode cX3_joinLowest 25 = .ok (.aload_n 0, 1) := by decide +kernel
theorem dX3_joinLowest_26 : decode cX3_joinLowest 26 = .ok (.getfield 15, 3) := by decide +kernel
theorem dX3_joinLowest_29 : decode cX3_joinLowest 29 = .ok (.iconst 0, 1) := by decide +kernel
theorem dX3_joinLowest_30 : decode cX3_joinLowest 30 = .ok (.aload_n 0, 1) := by decide +kernel
theorem dX3_joinLowest_31 : decode cX3_joinLowest 31 = .ok (.getfield 15, 3) := by decide +kernel
theorem dX3_joinLowest_34 : decode cX3_joinLowest 34 = .ok (.iconst 0, 1) := by decide +kernel
theorem dX3_joinLowest_35 : decode cX3_joinLowest 35 = .ok (.iaload, 1) := by decide +kernel
theorem dX3_joinLowest_36 : decode cX3_joinLowest 36 = .ok (.aload_n 0, 1) := by decide +kernel
theorem dX3_joinLowest_37 : decode cX3_joinLowest 37 = .ok (.getfield 15, 3) := by decide +kernel
theorem dX3_joinLowest_40 : decode cX3_joinLowest 40 = .ok (.iconst 1, 1) := by decide +kernel
theorem dX3_joinLowest_41 : decode cX3_joinLowest 41 = .ok (.iaload, 1) := by decide +kernel
theorem dX3_joinLowest_42 : decode cX3_joinLowest 42 = .ok (.invokestatic 48, 3) := by decide +kernel
theorem dX3_joinLowest_45 : decode cX3_joinLowest 45 = .ok (.iastore, 1) := by decide +kernel
theorem dX3_joinLowest_46 : decode cX3_joinLowest 46 = .ok (.iconst 1, 1) := by decide +kernel
theorem dX3_joinLowest_47 : decode cX3_joinLowest 47 = .ok (.istore_n 1, 1) := by decide +kernel
theorem dX3_joinLowest_48 : decode cX3_joinLowest 48 = .ok (.iload_n 1, 1) := by decide +kernel
theorem dX3_joinLowest_49 : decode cX3_joinLowest 49 = .ok (.iconst 1, 1) := by decide +kernel
theorem dX3_joinLowest_50 : decode cX3_joinLowest 50 = .ok (.iadd, 1) := by decide +kernel
theorem dX3_joinLowest_51 : decode cX3_joinLowest 51 = .ok (.bipush 8, 2) := by decide +kernel
theorem dX3_joinLowest_53 : decode cX3_joinLowest 53 = .ok (.if_icmp .ge 51, 3) := by decide +kernel
theorem dX3_joinLowest_56 : decode cX3_joinLowest 56 = .ok (.aload_n 0, 1) := by decide +kernel
theorem dX3_joinLowest_57 : decode cX3_joinLowest 57 = .ok (.getfield 9, 3) := by decide +kernel
theorem dX3_joinLowest_60 : decode cX3_joinLowest 60 = .ok (.iload_n 1, 1) := by decide +kernel
theorem dX3_joinLowest_61 : decode cX3_joinLowest 61 = .ok (.aload_n 0, 1) := by decide +kernel
theorem dX3_joinLowest_62 : decode cX3_joinLowest 62 = .ok (.getfield 9, 3) := by decide +kernel
theorem dX3_joinLowest_65 : decode cX3_joinLowest 65 = .ok (.iload_n 1, 1) := by decide +kernel
theorem dX3_joinLowest_66 : decode cX3_joinLowest 66 = .ok (.iconst 1, 1) := by decide +kernel
theorem dX3_joinLowest_67 : decode cX3_joinLowest 67 = .ok (.iadd, 1) := by decide +kernel
theorem dX3_joinLowest_68 : decode cX3_joinLowest 68 = .ok (.iaload, 1) := by decide +kernel
theorem dX3_joinLowest_69 : decode cX3_joinLowest 69 = .ok (.iastore, 1) := by decide +kernel
theorem dX3_joinLowest_70 : decode cX3_joinLowest 70 = .ok (.aload_n 0, 1) := by decide +kernel
theorem dX3_joinLowest_71 : decode cX3_joinLowest 71 = .ok (.getfield 15, 3) := by decide +kernel
theorem dX3_joinLowest_74 : decode cX3_joinLowest 74 = .ok (.iload_n 1, 1) := by decide +kernel
theorem dX3_joinLowest_75 : decode cX3_joinLowest 75 = .ok (.aload_n 0, 1) := by decide +kernel
theorem dX3_joinLowest_76 : decode cX3_joinLowest 76 = .ok (.getfield 15, 3) := by decide +kernel
theorem dX3_joinLowest_79 : decode cX3_joinLowest 79 = .ok (.iload_n 1, 1) := by decide +kernel
theorem dX3_joinLowest_80 : decode cX3_joinLowest 80 = .ok (.iconst 1, 1) := by decide +kernel
theorem dX3_joinLowest_81 : decode cX3_joinLowest 81 = .ok (.iadd, 1) := by decide +kernel
theorem dX3_joinLowest_82 : decode cX3_joinLowest 82 = .ok (.iaload, 1) := by decide +kernel
theorem dX3_joinLowest_83 : decode cX3_joinLowest 83 = .ok (.iastore, 1) := by decide +kernel
theorem dX3_joinLowest_84 : decode cX3_joinLowest 84 = .ok (.aload_n 0, 1) := by decide +kernel
theorem dX3_joinLowest_85 : decode cX3_joinLowest 85 = .ok (.getfield 18, 3) := by decide +kernel
theorem dX3_joinLowest_88 : decode cX3_joinLowest 88 = .ok (.iload_n 1, 1) := by decide +kernel
theorem dX3_joinLowest_89 : decode cX3_joinLowest 89 = .ok (.aload_n 0, 1) := by decide +kernel
theorem dX3_joinLowest_90 : decode cX3_joinLowest 90 = .ok (.getfield 18, 3) := by decide +kernel
theorem dX3_joinLowest_93 : decode cX3_joinLowest 93 = .ok (.iload_n 1, 1) := by decide +kernel
theorem dX3_joinLowest_94 : decode cX3_joinLowest 94 = .ok (.iconst 1, 1) := by decide +kernel
theorem dX3_joinLowest_95 : decode cX3_joinLowest 95 = .ok (.iadd, 1) := by decide +kernel
theorem dX3_joinLowest_96 : decode cX3_joinLowest 96 = .ok (.iaload, 1) := by decide +kernel
theorem dX3_joinLowest_97 : decode cX3_joinLowest 97 = .ok (.iastore, 1) := by decide +kernel
theorem dX3_joinLowest_98 : decode cX3_joinLowest 98 = .ok (.iinc 1 1, 3) := by decide +kernel
theorem dX3_joinLowest_101 : decode cX3_joinLowest 101 = .ok (.goto (-53), 3) := by decide +kernel
theorem dX3_joinLowest_104 : decode cX3_joinLowest 104 = .ok (.aload_n 0, 1) := by decide +kernel
theorem dX3_joinLowest_105 : decode cX3_joinLowest 105 = .ok (.dup, 1) := by decide +kernel
theorem dX3_joinLowest_106 : decode cX3_joinLowest 106 = .ok (.getfield 27, 3) := by decide +kernel
theorem dX3_joinLowest_109 : decode cX3_joinLowest 109 = .ok (.iconst 1, 1) := by decide +kernel
theorem dX3_joinLowest_110 : decode cX3_joinLowest 110 = .ok (.isub, 1) := by decide +kernel
theorem dX3_joinLowest_111 : decode cX3_joinLowest 111 = .ok (.putfield 27, 3) := by decide +kernel
theorem dX3_joinLowest_114 : decode cX3_joinLowest 114 = .ok (.return_, 1) := by decide +kernel
theorem dX3_changeTop_0 : decode cX3_changeTop 0 = .ok (.aload_n 0, 1) := by decide +kernel
theorem dX3_changeTop_1 : decode cX3_changeTop 1 = .ok (.getfield 27, 3) := by decide +kernel
theorem dX3_changeTop_4 : decode cX3_changeTop 4 = .ok (.ifCond .le 27, 3) := by decide +kernel
theorem dX3_changeTop_7 : decode cX3_changeTop 7 = .ok (.aload_n 0, 1) := by decide +kernel
theorem dX3_changeTop_8 : decode cX3_changeTop 8 = .ok (.getfield 18, 3) := by decide +kernel
theorem dX3_changeTop_11 : decode cX3_changeTop 11 = .ok (.aload_n 0, 1) := by decide +kernel
theorem dX3_changeTop_12 : decode cX3_changeTop 12 = .ok (.getfield 27, 3) := by decide +kernel
theorem dX3_changeTop_15 : decode cX3_changeTop 15 = .ok (.iconst 1, 1) := by decide +kernel
theorem dX3_changeTop_16 : decode cX3_changeTop 16 = .ok (.isub, 1) := by decide +kernel
theorem dX3_changeTop_17 : decode cX3_changeTop 17 = .ok (.iload_n 1, 1) := by decide +kernel
theorem dX3_changeTop_18 : decode cX3_changeTop 18 = .ok (.iastore, 1) := by decide +kernel
theorem dX3_changeTop_19 : decode cX3_changeTop 19 = .ok (.aload_n 0, 1) := by decide +kernel
theorem dX3_changeTop_20 : decode cX3_changeTop 20 = .ok (.getfield 15, 3) := by decide +kernel
theorem dX3_changeTop_23 : decode cX3_changeTop 23 = .ok (.aload_n 0, 1) := by decide +kernel
theorem dX3_changeTop_24 : decode cX3_changeTop 24 = .ok (.getfield 27, 3) := by decide +kernel
theorem dX3_changeTop_27 : decode cX3_changeTop 27 = .ok (.iconst 1, 1) := by decide +kernel
theorem dX3_changeTop_28 : decode cX3_changeTop 28 = .ok (.isub, 1) := by decide +kernel
theorem dX3_changeTop_29 : decode cX3_changeTop 29 = .ok (.iload_n 2, 1) := by decide +kernel
theorem dX3_changeTop_30 : decode cX3_changeTop 30 = .ok (.iastore, 1) := by decide +kernel
theorem dX3_changeTop_31 : decode cX3_changeTop 31 = .ok (.return_, 1) := by decide +kernel
theorem dX3_pressTop_0 : decode cX3_pressTop 0 = .ok (.aload_n 0, 1) := by decide +kernel
theorem dX3_pressTop_1 : decode cX3_pressTop 1 = .ok (.getfield 27, 3) := by decide +kernel
theorem dX3_pressTop_4 : decode cX3_pressTop 4 = .ok (.iconst 2, 1) := by decide +kernel
theorem dX3_pressTop_5 : decode cX3_pressTop 5 = .ok (.if_icmp .ge 5, 3) := by decide +kernel
theorem dX3_pressTop_8 : decode cX3_pressTop 8 = .ok (.iconst 0, 1) := by decide +kernel
theorem dX3_pressTop_9 : decode cX3_pressTop 9 = .ok (.ireturn, 1) := by decide +kernel
theorem dX3_pressTop_10 : decode cX3_pressTop 10 = .ok (.aload_n 0, 1) := by decide +kernel
theorem dX3_pressTop_11 : decode cX3_pressTop 11 = .ok (.getfield 27, 3) := by decide +kernel
theorem dX3_pressTop_14 : decode cX3_pressTop 14 = .ok (.iconst 1, 1) := by decide +kernel
theorem dX3_pressTop_15 : decode cX3_pressTop 15 = .ok (.isub, 1) := by decide +kernel
theorem dX3_pressTop_16 : decode cX3_pressTop 16 = .ok (.istore_n 1, 1) := by decide +kernel
theorem dX3_pressTop_17 : decode cX3_pressTop 17 = .ok (.aload_n 0, 1) := by decide +kernel
theorem dX3_pressTop_18 : decode cX3_pressTop 18 = .ok (.getfield 27, 3) := by decide +kernel
theorem dX3_pressTop_21 : decode cX3_pressTop 21 = .ok (.iconst 2, 1) := by decide +kernel
theorem dX3_pressTop_22 : decode cX3_pressTop 22 = .ok (.isub, 1) := by decide +kernel
theorem dX3_pressTop_23 : decode cX3_pressTop 23 = .ok (.istore_n 2, 1) := by decide +kernel
theorem dX3_pressTop_24 : decode cX3_pressTop 24 = .ok (.aload_n 0, 1) := by decide +kernel
theorem dX3_pressTop_25 : decode cX3_pressTop 25 = .ok (.getfield 9, 3) := by decide +kernel
theorem dX3_pressTop_28 : decode cX3_pressTop 28 = .ok (.iload_n 2, 1) := by decide +kernel
theorem dX3_pressTop_29 : decode cX3_pressTop 29 = .ok (.aload_n 0, 1) := by decide +kernel
theorem dX3_pressTop_30 : decode cX3_pressTop 30 = .ok (.getfield 9, 3) := by decide +kernel
theorem dX3_pressTop_33 : decode cX3_pressTop 33 = .ok (.iload_n 2, 1) := by decide +kernel
theorem dX3_pressTop_34 : decode cX3_pressTop 34 = .ok (.iaload, 1) := by decide +kernel
theorem dX3_pressTop_35 : decode cX3_pressTop 35 = .ok (.aload_n 0, 1) := by decide +kernel
theorem dX3_pressTop_36 : decode cX3_pressTop 36 = .ok (.getfield 9, 3) := by decide +kernel
theorem dX3_pressTop_39 : decode cX3_pressTop 39 = .ok (.iload_n 1, 1) := by decide +kernel
theorem dX3_pressTop_40 : decode cX3_pressTop 40 = .ok (.iaload, 1) := by decide +kernel
theorem dX3_pressTop_41 : decode cX3_pressTop 41 = .ok (.iadd, 1) := by decide +kernel
theorem dX3_pressTop_42 : decode cX3_pressTop 42 = .ok (.bipush 9, 2) := by decide +kernel
theorem dX3_pressTop_44 : decode cX3_pressTop 44 = .ok (.imul, 1) := by decide +kernel
theorem dX3_pressTop_45 : decode cX3_pressTop 45 = .ok (.bipush 10, 2) := by decide +kernel
theorem dX3_pressTop_47 : decode cX3_pressTop 47 = .ok (.idiv, 1) := by decide +kernel
theorem dX3_pressTop_48 : decode cX3_pressTop 48 = .ok (.sipush 300, 3) := by decide +kernel
theorem dX3_pressTop_51 : decode cX3_pressTop 51 = .ok (.invokestatic 48, 3) := by decide +kernel
theorem dX3_pressTop_54 : decode cX3_pressTop 54 = .ok (.iastore, 1) := by decide +kernel
theorem dX3_pressTop_55 : decode cX3_pressTop 55 = .ok (.aload_n 0, 1) := by decide +kernel
theorem dX3_pressTop_56 : decode cX3_pressTop 56 = .ok (.getfield 15, 3) := by decide +kernel
theorem dX3_pressTop_59 : decode cX3_pressTop 59 = .ok (.iload_n 2, 1) := by decide +kernel
theorem dX3_pressTop_60 : decode cX3_pressTop 60 = .ok (.aload_n 0, 1) := by decide +kernel
theorem dX3_pressTop_61 : decode cX3_pressTop 61 = .ok (.getfield 15, 3) := by decide +kernel
theorem dX3_pressTop_64 : decode cX3_pressTop 64 = .ok (.iload_n 2, 1) := by decide +kernel
theorem dX3_pressTop_65 : decode cX3_pressTop 65 = .ok (.iaload, 1) := by decide +kernel
theorem dX3_pressTop_66 : decode cX3_pressTop 66 = .ok (.aload_n 0, 1) := by decide +kernel
theorem dX3_pressTop_67 : decode cX3_pressTop 67 = .ok (.getfield 15, 3) := by decide +kernel
theorem dX3_pressTop_70 : decode cX3_pressTop 70 = .ok (.iload_n 1, 1) := by decide +kernel
theorem dX3_pressTop_71 : decode cX3_pressTop 71 = .ok (.iaload, 1) := by decide +kernel
theorem dX3_pressTop_72 : decode cX3_pressTop 72 = .ok (.invokestatic 42, 3) := by decide +kernel
theorem dX3_pressTop_75 : decode cX3_pressTop 75 = .ok (.bipush 10, 2) := by decide +kernel
theorem dX3_pressTop_77 : decode cX3_pressTop 77 = .ok (.iadd, 1) := by decide +kernel
theorem dX3_pressTop_78 : decode cX3_pressTop 78 = .ok (.bipush 100, 2) := by decide +kernel
theorem dX3_pressTop_80 : decode cX3_pressTop 80 = .ok (.invokestatic 48, 3) := by decide +kernel
theorem dX3_pressTop_83 : decode cX3_pressTop 83 = .ok (.iastore, 1) := by decide +kernel
theorem dX3_pressTop_84 : decode cX3_pressTop 84 = .ok (.aload_n 0, 1) := by decide +kernel
theorem dX3_pressTop_85 : decode cX3_pressTop 85 = .ok (.getfield 18, 3) := by decide +kernel
theorem dX3_pressTop_88 : decode cX3_pressTop 88 = .ok (.iload_n 2, 1) := by decide +kernel
theorem dX3_pressTop_89 : decode cX3_pressTop 89 = .ok (.iconst 3, 1) := by decide +kernel
theorem dX3_pressTop_90 : decode cX3_pressTop 90 = .ok (.iastore, 1) := by decide +kernel
theorem dX3_pressTop_91 : decode cX3_pressTop 91 = .ok (.aload_n 0, 1) := by decide +kernel
theorem dX3_pressTop_92 : decode cX3_pressTop 92 = .ok (.iload_n 1, 1) := by decide +kernel
theorem dX3_pressTop_93 : decode cX3_pressTop 93 = .ok (.putfield 27, 3) := by decide +kernel
theorem dX3_pressTop_96 : decode cX3_pressTop 96 = .ok (.aload_n 0, 1) := by decide +kernel
theorem dX3_pressTop_97 : decode cX3_pressTop 97 = .ok (.iconst 0, 1) := by decide +kernel
theorem dX3_pressTop_98 : decode cX3_pressTop 98 = .ok (.putfield 31, 3) := by decide +kernel
theorem dX3_pressTop_101 : decode cX3_pressTop 101 = .ok (.aload_n 0, 1) := by decide +kernel
theorem dX3_pressTop_102 : decode cX3_pressTop 102 = .ok (.getfield 9, 3) := by decide +kernel
theorem dX3_pressTop_105 : decode cX3_pressTop 105 = .ok (.iload_n 2, 1) := by decide +kernel
theorem dX3_pressTop_106 : decode cX3_pressTop 106 = .ok (.iaload, 1) := by decide +kernel
theorem dX3_pressTop_107 : decode cX3_pressTop 107 = .ok (.ireturn, 1) := by decide +kernel
theorem dX3_stress_0 : decode cX3_stress 0 = .ok (.aload_n 0, 1) := by decide +kernel
theorem dX3_stress_1 : decode cX3_stress 1 = .ok (.getfield 15, 3) := by decide +kernel
theorem dX3_stress_4 : decode cX3_stress 4 = .ok (.iload_n 1, 1) := by decide +kernel
theorem dX3_stress_5 : decode cX3_stress 5 = .ok (.iaload, 1) := by decide +kernel
theorem dX3_stress_6 : decode cX3_stress 6 = .ok (.iconst 1, 1) := by decide +kernel
theorem dX3_stress_7 : decode cX3_stress 7 = .ok (.iadd, 1) := by decide +kernel
theorem dX3_stress_8 : decode cX3_stress 8 = .ok (.istore 4, 2) := by decide +kernel
theorem dX3_stress_10 : decode cX3_stress 10 = .ok (.iload 4, 2) := by decide +kernel
theorem dX3_stress_12 : decode cX3_stress 12 = .ok (.iconst 1, 1) := by decide +kernel
theorem dX3_stress_13 : decode cX3_stress 13 = .ok (.if_icmp .ge 5, 3) := by decide +kernel
theorem dX3_stress_16 : decode cX3_stress 16 = .ok (.iconst 0, 1) := by decide +kernel
theorem dX3_stress_17 : decode cX3_stress 17 = .ok (.ireturn, 1) := by decide +kernel
theorem dX3_stress_18 : decode cX3_stress 18 = .ok (.iload_n 2, 1) := by decide +kernel
theorem dX3_stress_19 : decode cX3_stress 19 = .ok (.iload_n 3, 1) := by decide +kernel
theorem dX3_stress_20 : decode cX3_stress 20 = .ok (.bipush 20, 2) := by decide +kernel
theorem dX3_stress_22 : decode cX3_stress 22 = .ok (.isub, 1) := by decide +kernel
theorem dX3_stress_23 : decode cX3_stress 23 = .ok (.imul, 1) := by decide +kernel
theorem dX3_stress_24 : decode cX3_stress 24 = .ok (.iload 4, 2) := by decide +kernel
theorem dX3_stress_26 : decode cX3_stress 26 = .ok (.idiv, 1) := by decide +kernel
theorem dX3_stress_27 : decode cX3_stress 27 = .ok (.istore 5, 2) := by decide +kernel
theorem dX3_stress_29 : decode cX3_stress 29 = .ok (.aload_n 0, 1) := by decide +kernel
theorem dX3_stress_30 : decode cX3_stress 30 = .ok (.getfield 18, 3) := by decide +kernel
theorem dX3_stress_33 : decode cX3_stress 33 = .ok (.iload_n 1, 1) := by decide +kernel
theorem dX3_stress_34 : decode cX3_stress 34 = .ok (.iaload, 1) := by decide +kernel
theorem dX3_stress_35 : decode cX3_stress 35 = .ok (.iconst 1, 1) := by decide +kernel
theorem dX3_stress_36 : decode cX3_stress 36 = .ok (.if_icmp .ne 10, 3) := by decide +kernel
theorem dX3_stress_39 : decode cX3_stress 39 = .ok (.iconst 2, 1) := by decide +kernel
theorem dX3_stress_40 : decode cX3_stress 40 = .ok (.iload 5, 2) := by decide +kernel
theorem dX3_stress_42 : decode cX3_stress 42 = .ok (.imul, 1) := by decide +kernel
theorem dX3_stress_43 : decode cX3_stress 43 = .ok (.goto 5, 3) := by decide +kernel
theorem dX3_stress_46 : decode cX3_stress 46 = .ok (.iload 5, 2) := by decide +kernel
theorem dX3_stress_48 : decode cX3_stress 48 = .ok (.ireturn, 1) := by decide +kernel
theorem dX3_shear_0 : decode cX3_shear 0 = .ok (.iload_n 1, 1) := by decide +kernel
theorem dX3_shear_1 : decode cX3_shear 1 = .ok (.bipush 25, 2) := by decide +kernel
theorem dX3_shear_3 : decode cX3_shear 3 = .ok (.if_icmp .ge 5, 3) := by decide +kernel
theorem dX3_shear_6 : decode cX3_shear 6 = .ok (.iconst (-1), 1) := by decide +kernel
theorem dX3_shear_7 : decode cX3_shear 7 = .ok (.ireturn, 1) := by decide +kernel
theorem dX3_shear_8 : decode cX3_shear 8 = .ok (.iconst (-1), 1) := by decide +kernel
theorem dX3_shear_9 : decode cX3_shear 9 = .ok (.istore_n 2, 1) := by decide +kernel
theorem dX3_shear_10 : decode cX3_shear 10 = .ok (.iconst 0, 1) := by decide +kernel
theorem dX3_shear_11 : decode cX3_shear 11 = .ok (.istore_n 3, 1) := by decide +kernel
theorem dX3_shear_12 : decode cX3_shear 12 = .ok (.iconst 0, 1) := by decide +kernel
theorem dX3_shear_13 : decode cX3_shear 13 = .ok (.istore 4, 2) := by decide +kernel
theorem dX3_shear_15 : decode cX3_shear 15 = .ok (.aload_n 0, 1) := by decide +kernel
theorem dX3_shear_16 : decode cX3_shear 16 = .ok (.getfield 27, 3) := by decide +kernel
theorem dX3_shear_19 : decode cX3_shear 19 = .ok (.iconst 1, 1) := by decide +kernel
theorem dX3_shear_20 : decode cX3_shear 20 = .ok (.isub, 1) := by decide +kernel
theorem dX3_shear_21 : decode cX3_shear 21 = .ok (.istore 5, 2) := by decide +kernel
theorem dX3_shear_23 : decode cX3_shear 23 = .ok (.iload 5, 2) := by decide +kernel
theorem dX3_shear_25 : decode cX3_shear 25 = .ok (.ifCond .lt 49, 3) := by decide +kernel
theorem dX3_shear_28 : decode cX3_shear 28 = .ok (.aload_n 0, 1) := by decide +kernel
theorem dX3_shear_29 : decode cX3_shear 29 = .ok (.iload 5, 2) := by decide +kernel
theorem dX3_shear_31 : decode cX3_shear 31 = .ok (.iload 4, 2) := by decide +kernel
theorem dX3_shear_33 : decode cX3_shear 33 = .ok (.iload_n 1, 1) := by decide +kernel
theorem dX3_shear_34 : decode cX3_shear 34 = .ok (.invokevirtual 58, 3) := by decide +kernel
theorem dX3_shear_37 : decode cX3_shear 37 = .ok (.istore 6, 2) := by decide +kernel
theorem dX3_shear_39 : decode cX3_shear 39 = .ok (.iload 6, 2) := by decide +kernel
theorem dX3_shear_41 : decode cX3_shear 41 = .ok (.ifCond .le 15, 3) := by decide +kernel
theorem dX3_shear_44 : decode cX3_shear 44 = .ok (.iload 6, 2) := by decide +kernel
theorem dX3_shear_46 : decode cX3_shear 46 = .ok (.iload_n 3, 1) := by decide +kernel
end
section
theorem dX3_shear_47 : decode cX3_shear 47 = .ok (.if_icmp .lt 9, 3) := by decide +kernel
theorem dX3_shear_50 : decode cX3_shear 50 = .ok (.iload 6, 2) := by decide +kernel
theorem dX3_shear_52 : decode cX3_shear 52 = .ok (.istore_n 3, 1) := by decide +kernel
theorem dX3_shear_53 : decode cX3_shear 53 = .ok (.iload 5, 2) := by decide +kernel
theorem dX3_shear_55 : decode cX3_shear 55 = .ok (.istore_n 2, 1) := by decide +kernel
theorem dX3_shear_56 : decode cX3_shear 56 = .ok (.iload 4, 2) := by decide +kernel
theorem dX3_shear_58 : decode cX3_shear 58 = .ok (.aload_n 0, 1) := by decide +kernel
theorem dX3_shear_59 : decode cX3_shear 59 = .ok (.getfield 9, 3) := by decide +kernel
theorem dX3_shear_62 : decode cX3_shear 62 = .ok (.iload 5, 2) := by decide +kernel
theorem dX3_shear_64 : decode cX3_shear 64 = .ok (.iaload, 1) := by decide +kernel
theorem dX3_shear_65 : decode cX3_shear 65 = .ok (.iadd, 1) := by decide +kernel
theorem dX3_shear_66 : decode cX3_shear 66 = .ok (.istore 4, 2) := by decide +kernel
theorem dX3_shear_68 : decode cX3_shear 68 = .ok (.iinc 5 (-1), 3) := by decide +kernel
theorem dX3_shear_71 : decode cX3_shear 71 = .ok (.goto (-48), 3) := by decide +kernel
theorem dX3_shear_74 : decode cX3_shear 74 = .ok (.iload_n 2, 1) := by decide +kernel
theorem dX3_shear_75 : decode cX3_shear 75 = .ok (.ireturn, 1) := by decide +kernel
theorem dX3_risk_0 : decode cX3_risk 0 = .ok (.aload_n 0, 1) := by decide +kernel
theorem dX3_risk_1 : decode cX3_risk 1 = .ok (.iload_n 1, 1) := by decide +kernel
theorem dX3_risk_2 : decode cX3_risk 2 = .ok (.invokevirtual 62, 3) := by decide +kernel
theorem dX3_risk_5 : decode cX3_risk 5 = .ok (.istore_n 2, 1) := by decide +kernel
theorem dX3_risk_6 : decode cX3_risk 6 = .ok (.iload_n 2, 1) := by decide +kernel
theorem dX3_risk_7 : decode cX3_risk 7 = .ok (.iconst (-1), 1) := by decide +kernel
theorem dX3_risk_8 : decode cX3_risk 8 = .ok (.if_icmp .ne 7, 3) := by decide +kernel
theorem dX3_risk_11 : decode cX3_risk 11 = .ok (.iconst 0, 1) := by decide +kernel
theorem dX3_risk_12 : decode cX3_risk 12 = .ok (.goto 22, 3) := by decide +kernel
theorem dX3_risk_15 : decode cX3_risk 15 = .ok (.aload_n 0, 1) := by decide +kernel
theorem dX3_risk_16 : decode cX3_risk 16 = .ok (.iload_n 2, 1) := by decide +kernel
theorem dX3_risk_17 : decode cX3_risk 17 = .ok (.aload_n 0, 1) := by decide +kernel
theorem dX3_risk_18 : decode cX3_risk 18 = .ok (.iload_n 2, 1) := by decide +kernel
theorem dX3_risk_19 : decode cX3_risk 19 = .ok (.iconst 1, 1) := by decide +kernel
theorem dX3_risk_20 : decode cX3_risk 20 = .ok (.iadd, 1) := by decide +kernel
theorem dX3_risk_21 : decode cX3_risk 21 = .ok (.invokevirtual 38, 3) := by decide +kernel
theorem dX3_risk_24 : decode cX3_risk 24 = .ok (.iload_n 1, 1) := by decide +kernel
theorem dX3_risk_25 : decode cX3_risk 25 = .ok (.invokevirtual 58, 3) := by decide +kernel
theorem dX3_risk_28 : decode cX3_risk 28 = .ok (.sipush 999, 3) := by decide +kernel
theorem dX3_risk_31 : decode cX3_risk 31 = .ok (.invokestatic 48, 3) := by decide +kernel
theorem dX3_risk_34 : decode cX3_risk 34 = .ok (.ireturn, 1) := by decide +kernel
theorem dX3_dropFrom_0 : decode cX3_dropFrom 0 = .ok (.iload_n 1, 1) := by decide +kernel
theorem dX3_dropFrom_1 : decode cX3_dropFrom 1 = .ok (.ifCond .lt 21, 3) := by decide +kernel
theorem dX3_dropFrom_4 : decode cX3_dropFrom 4 = .ok (.iload_n 1, 1) := by decide +kernel
theorem dX3_dropFrom_5 : decode cX3_dropFrom 5 = .ok (.aload_n 0, 1) := by decide +kernel
theorem dX3_dropFrom_6 : decode cX3_dropFrom 6 = .ok (.getfield 27, 3) := by decide +kernel
theorem dX3_dropFrom_9 : decode cX3_dropFrom 9 = .ok (.if_icmp .ge 13, 3) := by decide +kernel
theorem dX3_dropFrom_12 : decode cX3_dropFrom 12 = .ok (.aload_n 0, 1) := by decide +kernel
theorem dX3_dropFrom_13 : decode cX3_dropFrom 13 = .ok (.iload_n 1, 1) := by decide +kernel
theorem dX3_dropFrom_14 : decode cX3_dropFrom 14 = .ok (.putfield 27, 3) := by decide +kernel
theorem dX3_dropFrom_17 : decode cX3_dropFrom 17 = .ok (.aload_n 0, 1) := by decide +kernel
theorem dX3_dropFrom_18 : decode cX3_dropFrom 18 = .ok (.iconst 0, 1) := by decide +kernel
theorem dX3_dropFrom_19 : decode cX3_dropFrom 19 = .ok (.putfield 31, 3) := by decide +kernel
theorem dX3_dropFrom_22 : decode cX3_dropFrom 22 = .ok (.return_, 1) := by decide +kernel
theorem dX3_comeDown_0 : decode cX3_comeDown 0 = .ok (.iload_n 1, 1) := by decide +kernel
theorem dX3_comeDown_1 : decode cX3_comeDown 1 = .ok (.ifCond .le 11, 3) := by decide +kernel
theorem dX3_comeDown_4 : decode cX3_comeDown 4 = .ok (.iload_n 2, 1) := by decide +kernel
theorem dX3_comeDown_5 : decode cX3_comeDown 5 = .ok (.ifCond .gt 7, 3) := by decide +kernel
theorem dX3_comeDown_8 : decode cX3_comeDown 8 = .ok (.iconst 1, 1) := by decide +kernel
theorem dX3_comeDown_9 : decode cX3_comeDown 9 = .ok (.goto 4, 3) := by decide +kernel
theorem dX3_comeDown_12 : decode cX3_comeDown 12 = .ok (.iconst 0, 1) := by decide +kernel
theorem dX3_comeDown_13 : decode cX3_comeDown 13 = .ok (.istore_n 3, 1) := by decide +kernel
theorem dX3_comeDown_14 : decode cX3_comeDown 14 = .ok (.iload_n 3, 1) := by decide +kernel
theorem dX3_comeDown_15 : decode cX3_comeDown 15 = .ok (.ifCond .eq 26, 3) := by decide +kernel
theorem dX3_comeDown_18 : decode cX3_comeDown 18 = .ok (.aload_n 0, 1) := by decide +kernel
theorem dX3_comeDown_19 : decode cX3_comeDown 19 = .ok (.getfield 35, 3) := by decide +kernel
theorem dX3_comeDown_22 : decode cX3_comeDown 22 = .ok (.ifCond .eq 19, 3) := by decide +kernel
theorem dX3_comeDown_25 : decode cX3_comeDown 25 = .ok (.aload_n 0, 1) := by decide +kernel
theorem dX3_comeDown_26 : decode cX3_comeDown 26 = .ok (.iconst 0, 1) := by decide +kernel
theorem dX3_comeDown_27 : decode cX3_comeDown 27 = .ok (.invokevirtual 65, 3) := by decide +kernel
theorem dX3_comeDown_30 : decode cX3_comeDown 30 = .ok (.ifCond .eq 11, 3) := by decide +kernel
theorem dX3_comeDown_33 : decode cX3_comeDown 33 = .ok (.aload_n 0, 1) := by decide +kernel
theorem dX3_comeDown_34 : decode cX3_comeDown 34 = .ok (.iload_n 1, 1) := by decide +kernel
theorem dX3_comeDown_35 : decode cX3_comeDown 35 = .ok (.invokevirtual 69, 3) := by decide +kernel
theorem dX3_comeDown_38 : decode cX3_comeDown 38 = .ok (.goto 27, 3) := by decide +kernel
theorem dX3_comeDown_41 : decode cX3_comeDown 41 = .ok (.iload_n 3, 1) := by decide +kernel
theorem dX3_comeDown_42 : decode cX3_comeDown 42 = .ok (.ifCond .eq 14, 3) := by decide +kernel
theorem dX3_comeDown_45 : decode cX3_comeDown 45 = .ok (.aload_n 0, 1) := by decide +kernel
theorem dX3_comeDown_46 : decode cX3_comeDown 46 = .ok (.iconst 0, 1) := by decide +kernel
theorem dX3_comeDown_47 : decode cX3_comeDown 47 = .ok (.iload_n 1, 1) := by decide +kernel
theorem dX3_comeDown_48 : decode cX3_comeDown 48 = .ok (.bipush 10, 2) := by decide +kernel
theorem dX3_comeDown_50 : decode cX3_comeDown 50 = .ok (.invokevirtual 72, 3) := by decide +kernel
theorem dX3_comeDown_53 : decode cX3_comeDown 53 = .ok (.goto 12, 3) := by decide +kernel
theorem dX3_comeDown_56 : decode cX3_comeDown 56 = .ok (.iload_n 1, 1) := by decide +kernel
theorem dX3_comeDown_57 : decode cX3_comeDown 57 = .ok (.ifCond .le 8, 3) := by decide +kernel
theorem dX3_comeDown_60 : decode cX3_comeDown 60 = .ok (.aload_n 0, 1) := by decide +kernel
theorem dX3_comeDown_61 : decode cX3_comeDown 61 = .ok (.iload_n 1, 1) := by decide +kernel
theorem dX3_comeDown_62 : decode cX3_comeDown 62 = .ok (.invokevirtual 76, 3) := by decide +kernel
theorem dX3_comeDown_65 : decode cX3_comeDown 65 = .ok (.aload_n 0, 1) := by decide +kernel
theorem dX3_comeDown_66 : decode cX3_comeDown 66 = .ok (.iload_n 3, 1) := by decide +kernel
theorem dX3_comeDown_67 : decode cX3_comeDown 67 = .ok (.putfield 35, 3) := by decide +kernel
theorem dX3_comeDown_70 : decode cX3_comeDown 70 = .ok (.return_, 1) := by decide +kernel
theorem dX3_drift_0 : decode cX3_drift 0 = .ok (.iload_n 2, 1) := by decide +kernel
theorem dX3_drift_1 : decode cX3_drift 1 = .ok (.ifCond .eq 19, 3) := by decide +kernel
theorem dX3_drift_4 : decode cX3_drift 4 = .ok (.aload_n 0, 1) := by decide +kernel
theorem dX3_drift_5 : decode cX3_drift 5 = .ok (.iconst 0, 1) := by decide +kernel
theorem dX3_drift_6 : decode cX3_drift 6 = .ok (.invokevirtual 65, 3) := by decide +kernel
theorem dX3_drift_9 : decode cX3_drift 9 = .ok (.ifCond .eq 11, 3) := by decide +kernel
theorem dX3_drift_12 : decode cX3_drift 12 = .ok (.aload_n 0, 1) := by decide +kernel
theorem dX3_drift_13 : decode cX3_drift 13 = .ok (.iload_n 1, 1) := by decide +kernel
theorem dX3_drift_14 : decode cX3_drift 14 = .ok (.invokevirtual 69, 3) := by decide +kernel
theorem dX3_drift_17 : decode cX3_drift 17 = .ok (.goto 35, 3) := by decide +kernel
theorem dX3_drift_20 : decode cX3_drift 20 = .ok (.iload_n 2, 1) := by decide +kernel
theorem dX3_drift_21 : decode cX3_drift 21 = .ok (.ifCond .eq 14, 3) := by decide +kernel
theorem dX3_drift_24 : decode cX3_drift 24 = .ok (.aload_n 0, 1) := by decide +kernel
theorem dX3_drift_25 : decode cX3_drift 25 = .ok (.iconst 0, 1) := by decide +kernel
theorem dX3_drift_26 : decode cX3_drift 26 = .ok (.iload_n 1, 1) := by decide +kernel
theorem dX3_drift_27 : decode cX3_drift 27 = .ok (.bipush 20, 2) := by decide +kernel
theorem dX3_drift_29 : decode cX3_drift 29 = .ok (.invokevirtual 72, 3) := by decide +kernel
theorem dX3_drift_32 : decode cX3_drift 32 = .ok (.goto 20, 3) := by decide +kernel
theorem dX3_drift_35 : decode cX3_drift 35 = .ok (.iload_n 3, 1) := by decide +kernel
theorem dX3_drift_36 : decode cX3_drift 36 = .ok (.ifCond .eq 16, 3) := by decide +kernel
theorem dX3_drift_39 : decode cX3_drift 39 = .ok (.aload_n 0, 1) := by decide +kernel
theorem dX3_drift_40 : decode cX3_drift 40 = .ok (.iconst 0, 1) := by decide +kernel
theorem dX3_drift_41 : decode cX3_drift 41 = .ok (.invokevirtual 65, 3) := by decide +kernel
theorem dX3_drift_44 : decode cX3_drift 44 = .ok (.ifCond .eq 8, 3) := by decide +kernel
theorem dX3_drift_47 : decode cX3_drift 47 = .ok (.aload_n 0, 1) := by decide +kernel
theorem dX3_drift_48 : decode cX3_drift 48 = .ok (.iload_n 1, 1) := by decide +kernel
theorem dX3_drift_49 : decode cX3_drift 49 = .ok (.invokevirtual 51, 3) := by decide +kernel
theorem dX3_drift_52 : decode cX3_drift 52 = .ok (.return_, 1) := by decide +kernel
theorem dX3_freeze_0 : decode cX3_freeze 0 = .ok (.aload_n 0, 1) := by decide +kernel
theorem dX3_freeze_1 : decode cX3_freeze 1 = .ok (.getfield 31, 3) := by decide +kernel
theorem dX3_freeze_4 : decode cX3_freeze 4 = .ok (.ifCond .eq 15, 3) := by decide +kernel
theorem dX3_freeze_7 : decode cX3_freeze 7 = .ok (.aload_n 0, 1) := by decide +kernel
theorem dX3_freeze_8 : decode cX3_freeze 8 = .ok (.iconst 2, 1) := by decide +kernel
theorem dX3_freeze_9 : decode cX3_freeze 9 = .ok (.bipush 80, 2) := by decide +kernel
theorem dX3_freeze_11 : decode cX3_freeze 11 = .ok (.invokevirtual 79, 3) := by decide +kernel
theorem dX3_freeze_14 : decode cX3_freeze 14 = .ok (.aload_n 0, 1) := by decide +kernel
theorem dX3_freeze_15 : decode cX3_freeze 15 = .ok (.iconst 0, 1) := by decide +kernel
theorem dX3_freeze_16 : decode cX3_freeze 16 = .ok (.putfield 31, 3) := by decide +kernel
theorem dX3_freeze_19 : decode cX3_freeze 19 = .ok (.return_, 1) := by decide +kernel
theorem dX3_growWeak_0 : decode cX3_growWeak 0 = .ok (.aload_n 0, 1) := by decide +kernel
theorem dX3_growWeak_1 : decode cX3_growWeak 1 = .ok (.iconst 0, 1) := by decide +kernel
theorem dX3_growWeak_2 : decode cX3_growWeak 2 = .ok (.invokevirtual 65, 3) := by decide +kernel
theorem dX3_growWeak_5 : decode cX3_growWeak 5 = .ok (.ifCond .eq 25, 3) := by decide +kernel
theorem dX3_growWeak_8 : decode cX3_growWeak 8 = .ok (.aload_n 0, 1) := by decide +kernel
theorem dX3_growWeak_9 : decode cX3_growWeak 9 = .ok (.getfield 9, 3) := by decide +kernel
theorem dX3_growWeak_12 : decode cX3_growWeak 12 = .ok (.aload_n 0, 1) := by decide +kernel
theorem dX3_growWeak_13 : decode cX3_growWeak 13 = .ok (.getfield 27, 3) := by decide +kernel
theorem dX3_growWeak_16 : decode cX3_growWeak 16 = .ok (.iconst 1, 1) := by decide +kernel
theorem dX3_growWeak_17 : decode cX3_growWeak 17 = .ok (.isub, 1) := by decide +kernel
theorem dX3_growWeak_18 : decode cX3_growWeak 18 = .ok (.iaload, 1) := by decide +kernel
theorem dX3_growWeak_19 : decode cX3_growWeak 19 = .ok (.bipush 10, 2) := by decide +kernel
theorem dX3_growWeak_21 : decode cX3_growWeak 21 = .ok (.if_icmp .gt 9, 3) := by decide +kernel
theorem dX3_growWeak_24 : decode cX3_growWeak 24 = .ok (.aload_n 0, 1) := by decide +kernel
theorem dX3_growWeak_25 : decode cX3_growWeak 25 = .ok (.iconst 1, 1) := by decide +kernel
theorem dX3_growWeak_26 : decode cX3_growWeak 26 = .ok (.iconst 5, 1) := by decide +kernel
theorem dX3_growWeak_27 : decode cX3_growWeak 27 = .ok (.invokevirtual 79, 3) := by decide +kernel
theorem dX3_growWeak_30 : decode cX3_growWeak 30 = .ok (.return_, 1) := by decide +kernel
theorem dX3_settle_0 : decode cX3_settle 0 = .ok (.iconst 0, 1) := by decide +kernel
theorem dX3_settle_1 : decode cX3_settle 1 = .ok (.istore_n 2, 1) := by decide +kernel
theorem dX3_settle_2 : decode cX3_settle 2 = .ok (.iload_n 2, 1) := by decide +kernel
theorem dX3_settle_3 : decode cX3_settle 3 = .ok (.aload_n 0, 1) := by decide +kernel
theorem dX3_settle_4 : decode cX3_settle 4 = .ok (.getfield 27, 3) := by decide +kernel
theorem dX3_settle_7 : decode cX3_settle 7 = .ok (.if_icmp .ge 71, 3) := by decide +kernel
theorem dX3_settle_10 : decode cX3_settle 10 = .ok (.aload_n 0, 1) := by decide +kernel
theorem dX3_settle_11 : decode cX3_settle 11 = .ok (.getfield 18, 3) := by decide +kernel
theorem dX3_settle_14 : decode cX3_settle 14 = .ok (.iload_n 2, 1) := by decide +kernel
theorem dX3_settle_15 : decode cX3_settle 15 = .ok (.iaload, 1) := by decide +kernel
theorem dX3_settle_16 : decode cX3_settle 16 = .ok (.ifCond .eq 27, 3) := by decide +kernel
theorem dX3_settle_19 : decode cX3_settle 19 = .ok (.aload_n 0, 1) := by decide +kernel
theorem dX3_settle_20 : decode cX3_settle 20 = .ok (.getfield 18, 3) := by decide +kernel
theorem dX3_settle_23 : decode cX3_settle 23 = .ok (.iload_n 2, 1) := by decide +kernel
theorem dX3_settle_24 : decode cX3_settle 24 = .ok (.iaload, 1) := by decide +kernel
theorem dX3_settle_25 : decode cX3_settle 25 = .ok (.iconst 3, 1) := by decide +kernel
theorem dX3_settle_26 : decode cX3_settle 26 = .ok (.if_icmp .eq 17, 3) := by decide +kernel
theorem dX3_settle_29 : decode cX3_settle 29 = .ok (.aload_n 0, 1) := by decide +kernel
theorem dX3_settle_30 : decode cX3_settle 30 = .ok (.getfield 18, 3) := by decide +kernel
theorem dX3_settle_33 : decode cX3_settle 33 = .ok (.iload_n 2, 1) := by decide +kernel
theorem dX3_settle_34 : decode cX3_settle 34 = .ok (.iaload, 1) := by decide +kernel
theorem dX3_settle_35 : decode cX3_settle 35 = .ok (.iconst 1, 1) := by decide +kernel
theorem dX3_settle_36 : decode cX3_settle 36 = .ok (.if_icmp .ne 11, 3) := by decide +kernel
theorem dX3_settle_39 : decode cX3_settle 39 = .ok (.iload_n 1, 1) := by decide +kernel
theorem dX3_settle_40 : decode cX3_settle 40 = .ok (.ifCond .eq 7, 3) := by decide +kernel
theorem dX3_settle_43 : decode cX3_settle 43 = .ok (.iconst 1, 1) := by decide +kernel
theorem dX3_settle_44 : decode cX3_settle 44 = .ok (.goto 4, 3) := by decide +kernel
theorem dX3_settle_47 : decode cX3_settle 47 = .ok (.iconst 0, 1) := by decide +kernel
theorem dX3_settle_48 : decode cX3_settle 48 = .ok (.istore_n 3, 1) := by decide +kernel
theorem dX3_settle_49 : decode cX3_settle 49 = .ok (.iload_n 3, 1) := by decide +kernel
theorem dX3_settle_50 : decode cX3_settle 50 = .ok (.ifCond .eq 22, 3) := by decide +kernel
theorem dX3_settle_53 : decode cX3_settle 53 = .ok (.aload_n 0, 1) := by decide +kernel
theorem dX3_settle_54 : decode cX3_settle 54 = .ok (.getfield 15, 3) := by decide +kernel
theorem dX3_settle_57 : decode cX3_settle 57 = .ok (.iload_n 2, 1) := by decide +kernel
theorem dX3_settle_58 : decode cX3_settle 58 = .ok (.aload_n 0, 1) := by decide +kernel
theorem dX3_settle_59 : decode cX3_settle 59 = .ok (.getfield 15, 3) := by decide +kernel
theorem dX3_settle_62 : decode cX3_settle 62 = .ok (.iload_n 2, 1) := by decide +kernel
theorem dX3_settle_63 : decode cX3_settle 63 = .ok (.iaload, 1) := by decide +kernel
theorem dX3_settle_64 : decode cX3_settle 64 = .ok (.iconst 1, 1) := by decide +kernel
theorem dX3_settle_65 : decode cX3_settle 65 = .ok (.iadd, 1) := by decide +kernel
theorem dX3_settle_66 : decode cX3_settle 66 = .ok (.bipush 100, 2) := by decide +kernel
theorem dX3_settle_68 : decode cX3_settle 68 = .ok (.invokestatic 48, 3) := by decide +kernel
theorem dX3_settle_71 : decode cX3_settle 71 = .ok (.iastore, 1) := by decide +kernel
theorem dX3_settle_72 : decode cX3_settle 72 = .ok (.iinc 2 1, 3) := by decide +kernel
theorem dX3_settle_75 : decode cX3_settle 75 = .ok (.goto (-73), 3) := by decide +kernel
theorem dX3_settle_78 : decode cX3_settle 78 = .ok (.return_, 1) := by decide +kernel
theorem dX4_init_0 : decode cX4_init 0 = .ok (.aload_n 0, 1) := by decide +kernel
theorem dX4_init_1 : decode cX4_init 1 = .ok (.invokespecial 1, 3) := by decide +kernel
theorem dX4_init_4 : decode cX4_init 4 = .ok (.return_, 1) := by decide +kernel
theorem dX4_tell_0 : decode cX4_tell 0 = .ok (.aload_n 0, 1) := by decide +kernel
theorem dX4_tell_1 : decode cX4_tell 1 = .ok (.iload_n 1, 1) := by decide +kernel
theorem dX4_tell_2 : decode cX4_tell 2 = .ok (.putfield 7, 3) := by decide +kernel
theorem dX4_tell_5 : decode cX4_tell 5 = .ok (.aload_n 0, 1) := by decide +kernel
theorem dX4_tell_6 : decode cX4_tell 6 = .ok (.iload_n 2, 1) := by decide +kernel
theorem dX4_tell_7 : decode cX4_tell 7 = .ok (.putfield 13, 3) := by decide +kernel
theorem dX4_tell_10 : decode cX4_tell 10 = .ok (.aload_n 0, 1) := by decide +kernel
theorem dX4_tell_11 : decode cX4_tell 11 = .ok (.iload_n 3, 1) := by decide +kernel
theorem dX4_tell_12 : decode cX4_tell 12 = .ok (.putfield 16, 3) := by decide +kernel
theorem dX4_tell_15 : decode cX4_tell 15 = .ok (.aload_n 0, 1) := by decide +kernel
theorem dX4_tell_16 : decode cX4_tell 16 = .ok (.iload 4, 2) := by decide +kernel
theorem dX4_tell_18 : decode cX4_tell 18 = .ok (.putfield 19, 3) := by decide +kernel
theorem dX4_tell_21 : decode cX4_tell 21 = .ok (.aload_n 0, 1) := by decide +kernel
theorem dX4_tell_22 : decode cX4_tell 22 = .ok (.iload 5, 2) := by decide +kernel
theorem dX4_tell_24 : decode cX4_tell 24 = .ok (.putfield 22, 3) := by decide +kernel
theorem dX4_tell_27 : decode cX4_tell 27 = .ok (.return_, 1) := by decide +kernel
theorem dX5_init_0 : decode cX5_init 0 = .ok (.aload_n 0, 1) := by decide +kernel
theorem dX5_init_1 : decode cX5_init 1 = .ok (.invokespecial 1, 3) := by decide +kernel
theorem dX5_init_4 : decode cX5_init 4 = .ok (.aload_n 0, 1) := by decide +kernel
theorem dX5_init_5 : decode cX5_init 5 = .ok (.new 7, 3) := by decide +kernel
theorem dX5_init_8 : decode cX5_init 8 = .ok (.dup, 1) := by decide +kernel
theorem dX5_init_9 : decode cX5_init 9 = .ok (.invokespecial 9, 3) := by decide +kernel
theorem dX5_init_12 : decode cX5_init 12 = .ok (.putfield 10, 3) := by decide +kernel
theorem dX5_init_15 : decode cX5_init 15 = .ok (.aload_n 0, 1) := by decide +kernel
theorem dX5_init_16 : decode cX5_init 16 = .ok (.new 7, 3) := by decide +kernel
theorem dX5_init_19 : decode cX5_init 19 = .ok (.dup, 1) := by decide +kernel
theorem dX5_init_20 : decode cX5_init 20 = .ok (.invokespecial 9, 3) := by decide +kernel
theorem dX5_init_23 : decode cX5_init 23 = .ok (.putfield 16, 3) := by decide +kernel
theorem dX5_init_26 : decode cX5_init 26 = .ok (.aload_n 0, 1) := by decide +kernel
theorem dX5_init_27 : decode cX5_init 27 = .ok (.new 7, 3) := by decide +kernel
theorem dX5_init_30 : decode cX5_init 30 = .ok (.dup, 1) := by decide +kernel
theorem dX5_init_31 : decode cX5_init 31 = .ok (.invokespecial 9, 3) := by decide +kernel
theorem dX5_init_34 : decode cX5_init 34 = .ok (.putfield 19, 3) := by decide +kernel
theorem dX5_init_37 : decode cX5_init 37 = .ok (.aload_n 0, 1) := by decide +kernel
theorem dX5_init_38 : decode cX5_init 38 = .ok (.new 22, 3) := by decide +kernel
theorem dX5_init_41 : decode cX5_init 41 = .ok (.dup, 1) := by decide +kernel
theorem dX5_init_42 : decode cX5_init 42 = .ok (.invokespecial 24, 3) := by decide +kernel
theorem dX5_init_45 : decode cX5_init 45 = .ok (.putfield 25, 3) := by decide +kernel
theorem dX5_init_48 : decode cX5_init 48 = .ok (.return_, 1) := by decide +kernel
theorem dX5_lift_0 : decode cX5_lift 0 = .ok (.iload_n 1, 1) := by decide +kernel
theorem dX5_lift_1 : decode cX5_lift 1 = .ok (.bipush 10, 2) := by decide +kernel
theorem dX5_lift_3 : decode cX5_lift 3 = .ok (.sipush 999, 3) := by decide +kernel
theorem dX5_lift_6 : decode cX5_lift 6 = .ok (.invokestatic 29, 3) := by decide +kernel
theorem dX5_lift_9 : decode cX5_lift 9 = .ok (.iload_n 2, 1) := by decide +kernel
theorem dX5_lift_10 : decode cX5_lift 10 = .ok (.iconst 3, 1) := by decide +kernel
theorem dX5_lift_11 : decode cX5_lift 11 = .ok (.bipush 9, 2) := by decide +kernel
theorem dX5_lift_13 : decode cX5_lift 13 = .ok (.invokestatic 29, 3) := by decide +kernel
theorem dX5_lift_16 : decode cX5_lift 16 = .ok (.aload_n 0, 1) := by decide +kernel
theorem dX5_lift_17 : decode cX5_lift 17 = .ok (.getfield 10, 3) := by decide +kernel
theorem dX5_lift_20 : decode cX5_lift 20 = .ok (.getfield 33, 3) := by decide +kernel
theorem dX5_lift_23 : decode cX5_lift 23 = .ok (.iconst 4, 1) := by decide +kernel
theorem dX5_lift_24 : decode cX5_lift 24 = .ok (.if_icmp .lt 13, 3) := by decide +kernel
theorem dX5_lift_27 : decode cX5_lift 27 = .ok (.new 37, 3) := by decide +kernel
theorem dX5_lift_30 : decode cX5_lift 30 = .ok (.dup, 1) := by decide +kernel
theorem dX5_lift_31 : decode cX5_lift 31 = .ok (.ldc 39, 2) := by decide +kernel
theorem dX5_lift_33 : decode cX5_lift 33 = .ok (.invokespecial 41, 3) := by decide +kernel
theorem dX5_lift_36 : decode cX5_lift 36 = .ok (.athrow, 1) := by decide +kernel
theorem dX5_lift_37 : decode cX5_lift 37 = .ok (.aload_n 0, 1) := by decide +kernel
theorem dX5_lift_38 : decode cX5_lift 38 = .ok (.getfield 10, 3) := by decide +kernel
theorem dX5_lift_41 : decode cX5_lift 41 = .ok (.getfield 33, 3) := by decide +kernel
theorem dX5_lift_44 : decode cX5_lift 44 = .ok (.istore_n 3, 1) := by decide +kernel
theorem dX5_lift_45 : decode cX5_lift 45 = .ok (.aload_n 0, 1) := by decide +kernel
theorem dX5_lift_46 : decode cX5_lift 46 = .ok (.getfield 10, 3) := by decide +kernel
theorem dX5_lift_49 : decode cX5_lift 49 = .ok (.getfield 44, 3) := by decide +kernel
theorem dX5_lift_52 : decode cX5_lift 52 = .ok (.iload_n 3, 1) := by decide +kernel
theorem dX5_lift_53 : decode cX5_lift 53 = .ok (.aaload, 1) := by decide +kernel
theorem dX5_lift_54 : decode cX5_lift 54 = .ok (.iload_n 1, 1) := by decide +kernel
theorem dX5_lift_55 : decode cX5_lift 55 = .ok (.putfield 48, 3) := by decide +kernel
theorem dX5_lift_58 : decode cX5_lift 58 = .ok (.aload_n 0, 1) := by decide +kernel
theorem dX5_lift_59 : decode cX5_lift 59 = .ok (.getfield 10, 3) := by decide +kernel
theorem dX5_lift_62 : decode cX5_lift 62 = .ok (.getfield 44, 3) := by decide +kernel
theorem dX5_lift_65 : decode cX5_lift 65 = .ok (.iload_n 3, 1) := by decide +kernel
theorem dX5_lift_66 : decode cX5_lift 66 = .ok (.aaload, 1) := by decide +kernel
theorem dX5_lift_67 : decode cX5_lift 67 = .ok (.iload_n 2, 1) := by decide +kernel
theorem dX5_lift_68 : decode cX5_lift 68 = .ok (.putfield 53, 3) := by decide +kernel
theorem dX5_lift_71 : decode cX5_lift 71 = .ok (.aload_n 0, 1) := by decide +kernel
theorem dX5_lift_72 : decode cX5_lift 72 = .ok (.getfield 10, 3) := by decide +kernel
theorem dX5_lift_75 : decode cX5_lift 75 = .ok (.dup, 1) := by decide +kernel
theorem dX5_lift_76 : decode cX5_lift 76 = .ok (.getfield 33, 3) := by decide +kernel
theorem dX5_lift_79 : decode cX5_lift 79 = .ok (.iconst 1, 1) := by decide +kernel
theorem dX5_lift_80 : decode cX5_lift 80 = .ok (.iadd, 1) := by decide +kernel
theorem dX5_lift_81 : decode cX5_lift 81 = .ok (.putfield 33, 3) := by decide +kernel
theorem dX5_lift_84 : decode cX5_lift 84 = .ok (.iload_n 3, 1) := by decide +kernel
theorem dX5_lift_85 : decode cX5_lift 85 = .ok (.ireturn, 1) := by decide +kernel
theorem dX5_run_0 : decode cX5_run 0 = .ok (.aload_n 0, 1) := by decide +kernel
theorem dX5_run_1 : decode cX5_run 1 = .ok (.iload_n 1, 1) := by decide +kernel
theorem dX5_run_2 : decode cX5_run 2 = .ok (.invokevirtual 56, 3) := by decide +kernel
theorem dX5_run_5 : decode cX5_run 5 = .ok (.iload_n 2, 1) := by decide +kernel
theorem dX5_run_6 : decode cX5_run 6 = .ok (.iconst 0, 1) := by decide +kernel
theorem dX5_run_7 : decode cX5_run 7 = .ok (.bipush 30, 2) := by decide +kernel
theorem dX5_run_9 : decode cX5_run 9 = .ok (.invokestatic 29, 3) := by decide +kernel
theorem dX5_run_12 : decode cX5_run 12 = .ok (.iload_n 3, 1) := by decide +kernel
theorem dX5_run_13 : decode cX5_run 13 = .ok (.iconst 5, 1) := by decide +kernel
theorem dX5_run_14 : decode cX5_run 14 = .ok (.bipush 45, 2) := by decide +kernel
theorem dX5_run_16 : decode cX5_run 16 = .ok (.invokestatic 29, 3) := by decide +kernel
theorem dX5_run_19 : decode cX5_run 19 = .ok (.iload 4, 2) := by decide +kernel
theorem dX5_run_21 : decode cX5_run 21 = .ok (.iconst 0, 1) := by decide +kernel
theorem dX5_run_22 : decode cX5_run 22 = .ok (.iconst 3, 1) := by decide +kernel
theorem dX5_run_23 : decode cX5_run 23 = .ok (.invokestatic 29, 3) := by decide +kernel
theorem dX5_run_26 : decode cX5_run 26 = .ok (.iload 5, 2) := by decide +kernel
theorem dX5_run_28 : decode cX5_run 28 = .ok (.iconst 1, 1) := by decide +kernel
theorem dX5_run_29 : decode cX5_run 29 = .ok (.bipush 9, 2) := by decide +kernel
theorem dX5_run_31 : decode cX5_run 31 = .ok (.invokestatic 29, 3) := by decide +kernel
theorem dX5_run_34 : decode cX5_run 34 = .ok (.aload_n 0, 1) := by decide +kernel
theorem dX5_run_35 : decode cX5_run 35 = .ok (.getfield 10, 3) := by decide +kernel
theorem dX5_run_38 : decode cX5_run 38 = .ok (.getfield 60, 3) := by decide +kernel
theorem dX5_run_41 : decode cX5_run 41 = .ok (.bipush 8, 2) := by decide +kernel
theorem dX5_run_43 : decode cX5_run 43 = .ok (.if_icmp .lt 13, 3) := by decide +kernel
theorem dX5_run_46 : decode cX5_run 46 = .ok (.new 37, 3) := by decide +kernel
theorem dX5_run_49 : decode cX5_run 49 = .ok (.dup, 1) := by decide +kernel
theorem dX5_run_50 : decode cX5_run 50 = .ok (.ldc 63, 2) := by decide +kernel
theorem dX5_run_52 : decode cX5_run 52 = .ok (.invokespecial 41, 3) := by decide +kernel
theorem dX5_run_55 : decode cX5_run 55 = .ok (.athrow, 1) := by decide +kernel
theorem dX5_run_56 : decode cX5_run 56 = .ok (.aload_n 0, 1) := by decide +kernel
theorem dX5_run_57 : decode cX5_run 57 = .ok (.getfield 10, 3) := by decide +kernel
theorem dX5_run_60 : decode cX5_run 60 = .ok (.getfield 60, 3) := by decide +kernel
theorem dX5_run_63 : decode cX5_run 63 = .ok (.istore 6, 2) := by decide +kernel
theorem dX5_run_65 : decode cX5_run 65 = .ok (.aload_n 0, 1) := by decide +kernel
theorem dX5_run_66 : decode cX5_run 66 = .ok (.getfield 10, 3) := by decide +kernel
theorem dX5_run_69 : decode cX5_run 69 = .ok (.getfield 65, 3) := by decide +kernel
theorem dX5_run_72 : decode cX5_run 72 = .ok (.iload 6, 2) := by decide +kernel
theorem dX5_run_74 : decode cX5_run 74 = .ok (.aaload, 1) := by decide +kernel
theorem dX5_run_75 : decode cX5_run 75 = .ok (.astore 7, 2) := by decide +kernel
theorem dX5_run_77 : decode cX5_run 77 = .ok (.aload 7, 2) := by decide +kernel
theorem dX5_run_79 : decode cX5_run 79 = .ok (.iload_n 1, 1) := by decide +kernel
theorem dX5_run_80 : decode cX5_run 80 = .ok (.putfield 69, 3) := by decide +kernel
theorem dX5_run_83 : decode cX5_run 83 = .ok (.aload 7, 2) := by decide +kernel
theorem dX5_run_85 : decode cX5_run 85 = .ok (.iload_n 2, 1) := by decide +kernel
theorem dX5_run_86 : decode cX5_run 86 = .ok (.putfield 74, 3) := by decide +kernel
theorem dX5_run_89 : decode cX5_run 89 = .ok (.aload 7, 2) := by decide +kernel
theorem dX5_run_91 : decode cX5_run 91 = .ok (.iload_n 3, 1) := by decide +kernel
theorem dX5_run_92 : decode cX5_run 92 = .ok (.putfield 77, 3) := by decide +kernel
theorem dX5_run_95 : decode cX5_run 95 = .ok (.aload 7, 2) := by decide +kernel
theorem dX5_run_97 : decode cX5_run 97 = .ok (.iload 4, 2) := by decide +kernel
theorem dX5_run_99 : decode cX5_run 99 = .ok (.putfield 80, 3) := by decide +kernel
theorem dX5_run_102 : decode cX5_run 102 = .ok (.aload 7, 2) := by decide +kernel
theorem dX5_run_104 : decode cX5_run 104 = .ok (.iload 5, 2) := by decide +kernel
theorem dX5_run_106 : decode cX5_run 106 = .ok (.putfield 83, 3) := by decide +kernel
theorem dX5_run_109 : decode cX5_run 109 = .ok (.aload_n 0, 1) := by decide +kernel
theorem dX5_run_110 : decode cX5_run 110 = .ok (.getfield 10, 3) := by decide +kernel
theorem dX5_run_113 : decode cX5_run 113 = .ok (.dup, 1) := by decide +kernel
theorem dX5_run_114 : decode cX5_run 114 = .ok (.getfield 60, 3) := by decide +kernel
theorem dX5_run_117 : decode cX5_run 117 = .ok (.iconst 1, 1) := by decide +kernel
theorem dX5_run_118 : decode cX5_run 118 = .ok (.iadd, 1) := by decide +kernel
theorem dX5_run_119 : decode cX5_run 119 = .ok (.putfield 60, 3) := by decide +kernel
theorem dX5_run_122 : decode cX5_run 122 = .ok (.iload 6, 2) := by decide +kernel
theorem dX5_run_124 : decode cX5_run 124 = .ok (.ireturn, 1) := by decide +kernel
theorem dX5_turn_0 : decode cX5_turn 0 = .ok (.aload_n 0, 1) := by decide +kernel
theorem dX5_turn_1 : decode cX5_turn 1 = .ok (.iload_n 1, 1) := by decide +kernel
theorem dX5_turn_2 : decode cX5_turn 2 = .ok (.invokevirtual 56, 3) := by decide +kernel
theorem dX5_turn_5 : decode cX5_turn 5 = .ok (.aload_n 0, 1) := by decide +kernel
theorem dX5_turn_6 : decode cX5_turn 6 = .ok (.getfield 10, 3) := by decide +kernel
theorem dX5_turn_9 : decode cX5_turn 9 = .ok (.getfield 44, 3) := by decide +kernel
theorem dX5_turn_12 : decode cX5_turn 12 = .ok (.iload_n 1, 1) := by decide +kernel
theorem dX5_turn_13 : decode cX5_turn 13 = .ok (.aaload, 1) := by decide +kernel
theorem dX5_turn_14 : decode cX5_turn 14 = .ok (.getfield 86, 3) := by decide +kernel
theorem dX5_turn_17 : decode cX5_turn 17 = .ok (.istore_n 3, 1) := by decide +kernel
theorem dX5_turn_18 : decode cX5_turn 18 = .ok (.aload_n 0, 1) := by decide +kernel
theorem dX5_turn_19 : decode cX5_turn 19 = .ok (.getfield 10, 3) := by decide +kernel
theorem dX5_turn_22 : decode cX5_turn 22 = .ok (.getfield 44, 3) := by decide +kernel
theorem dX5_turn_25 : decode cX5_turn 25 = .ok (.iload_n 1, 1) := by decide +kernel
theorem dX5_turn_26 : decode cX5_turn 26 = .ok (.aaload, 1) := by decide +kernel
theorem dX5_turn_27 : decode cX5_turn 27 = .ok (.iload_n 2, 1) := by decide +kernel
theorem dX5_turn_28 : decode cX5_turn 28 = .ok (.putfield 86, 3) := by decide +kernel
theorem dX5_turn_31 : decode cX5_turn 31 = .ok (.iload_n 3, 1) := by decide +kernel
theorem dX5_turn_32 : decode cX5_turn 32 = .ok (.ireturn, 1) := by decide +kernel
theorem dX5_guns_0 : decode cX5_guns 0 = .ok (.aload_n 0, 1) := by decide +kernel
theorem dX5_guns_1 : decode cX5_guns 1 = .ok (.iload_n 1, 1) := by decide +kernel
theorem dX5_guns_2 : decode cX5_guns 2 = .ok (.invokevirtual 98, 3) := by decide +kernel
theorem dX5_guns_5 : decode cX5_guns 5 = .ok (.iload_n 2, 1) := by decide +kernel
theorem dX5_guns_6 : decode cX5_guns 6 = .ok (.iconst 0, 1) := by decide +kernel
theorem dX5_guns_7 : decode cX5_guns 7 = .ok (.bipush 9, 2) := by decide +kernel
theorem dX5_guns_9 : decode cX5_guns 9 = .ok (.invokestatic 29, 3) := by decide +kernel
theorem dX5_guns_12 : decode cX5_guns 12 = .ok (.aload_n 0, 1) := by decide +kernel
theorem dX5_guns_13 : decode cX5_guns 13 = .ok (.getfield 10, 3) := by decide +kernel
theorem dX5_guns_16 : decode cX5_guns 16 = .ok (.getfield 65, 3) := by decide +kernel
theorem dX5_guns_19 : decode cX5_guns 19 = .ok (.iload_n 1, 1) := by decide +kernel
theorem dX5_guns_20 : decode cX5_guns 20 = .ok (.aaload, 1) := by decide +kernel
theorem dX5_guns_21 : decode cX5_guns 21 = .ok (.getfield 101, 3) := by decide +kernel
theorem dX5_guns_24 : decode cX5_guns 24 = .ok (.istore_n 3, 1) := by decide +kernel
theorem dX5_guns_25 : decode cX5_guns 25 = .ok (.aload_n 0, 1) := by decide +kernel
theorem dX5_guns_26 : decode cX5_guns 26 = .ok (.getfield 10, 3) := by decide +kernel
theorem dX5_guns_29 : decode cX5_guns 29 = .ok (.getfield 65, 3) := by decide +kernel
theorem dX5_guns_32 : decode cX5_guns 32 = .ok (.iload_n 1, 1) := by decide +kernel
theorem dX5_guns_33 : decode cX5_guns 33 = .ok (.aaload, 1) := by decide +kernel
theorem dX5_guns_34 : decode cX5_guns 34 = .ok (.iload_n 2, 1) := by decide +kernel
theorem dX5_guns_35 : decode cX5_guns 35 = .ok (.putfield 101, 3) := by decide +kernel
theorem dX5_guns_38 : decode cX5_guns 38 = .ok (.iload_n 3, 1) := by decide +kernel
theorem dX5_guns_39 : decode cX5_guns 39 = .ok (.ireturn, 1) := by decide +kernel
theorem dX5_fill_0 : decode cX5_fill 0 = .ok (.iload_n 1, 1) := by decide +kernel
theorem dX5_fill_1 : decode cX5_fill 1 = .ok (.iconst 1, 1) := by decide +kernel
theorem dX5_fill_2 : decode cX5_fill 2 = .ok (.sipush 5000, 3) := by decide +kernel
theorem dX5_fill_5 : decode cX5_fill 5 = .ok (.invokestatic 29, 3) := by decide +kernel
theorem dX5_fill_8 : decode cX5_fill 8 = .ok (.aload_n 0, 1) := by decide +kernel
theorem dX5_fill_9 : decode cX5_fill 9 = .ok (.getfield 10, 3) := by decide +kernel
theorem dX5_fill_12 : decode cX5_fill 12 = .ok (.aload_n 0, 1) := by decide +kernel
theorem dX5_fill_13 : decode cX5_fill 13 = .ok (.getfield 10, 3) := by decide +kernel
theorem dX5_fill_16 : decode cX5_fill 16 = .ok (.getfield 104, 3) := by decide +kernel
theorem dX5_fill_19 : decode cX5_fill 19 = .ok (.iload_n 1, 1) := by decide +kernel
theorem dX5_fill_20 : decode cX5_fill 20 = .ok (.iadd, 1) := by decide +kernel
theorem dX5_fill_21 : decode cX5_fill 21 = .ok (.sipush 5000, 3) := by decide +kernel
theorem dX5_fill_24 : decode cX5_fill 24 = .ok (.invokestatic 107, 3) := by decide +kernel
theorem dX5_fill_27 : decode cX5_fill 27 = .ok (.putfield 104, 3) := by decide +kernel
theorem dX5_fill_30 : decode cX5_fill 30 = .ok (.aload_n 0, 1) := by decide +kernel
theorem dX5_fill_31 : decode cX5_fill 31 = .ok (.getfield 10, 3) := by decide +kernel
theorem dX5_fill_34 : decode cX5_fill 34 = .ok (.getfield 104, 3) := by decide +kernel
theorem dX5_fill_37 : decode cX5_fill 37 = .ok (.ireturn, 1) := by decide +kernel
theorem dX5_crowd_0 : decode cX5_crowd 0 = .ok (.iload_n 1, 1) := by decide +kernel
theorem dX5_crowd_1 : decode cX5_crowd 1 = .ok (.iconst 0, 1) := by decide +kernel
theorem dX5_crowd_2 : decode cX5_crowd 2 = .ok (.sipush 5000, 3) := by decide +kernel
theorem dX5_crowd_5 : decode cX5_crowd 5 = .ok (.invokestatic 29, 3) := by decide +kernel
theorem dX5_crowd_8 : decode cX5_crowd 8 = .ok (.aload_n 0, 1) := by decide +kernel
theorem dX5_crowd_9 : decode cX5_crowd 9 = .ok (.getfield 10, 3) := by decide +kernel
theorem dX5_crowd_12 : decode cX5_crowd 12 = .ok (.getfield 113, 3) := by decide +kernel
theorem dX5_crowd_15 : decode cX5_crowd 15 = .ok (.istore_n 2, 1) := by decide +kernel
theorem dX5_crowd_16 : decode cX5_crowd 16 = .ok (.aload_n 0, 1) := by decide +kernel
theorem dX5_crowd_17 : decode cX5_crowd 17 = .ok (.getfield 10, 3) := by decide +kernel
theorem dX5_crowd_20 : decode cX5_crowd 20 = .ok (.iload_n 1, 1) := by decide +kernel
theorem dX5_crowd_21 : decode cX5_crowd 21 = .ok (.putfield 113, 3) := by decide +kernel
theorem dX5_crowd_24 : decode cX5_crowd 24 = .ok (.iload_n 2, 1) := by decide +kernel
theorem dX5_crowd_25 : decode cX5_crowd 25 = .ok (.ireturn, 1) := by decide +kernel
theorem dX5_pass_0 : decode cX5_pass 0 = .ok (.iload_n 1, 1) := by decide +kernel
theorem dX5_pass_1 : decode cX5_pass 1 = .ok (.iconst 1, 1) := by decide +kernel
theorem dX5_pass_2 : decode cX5_pass 2 = .ok (.bipush 48, 2) := by decide +kernel
theorem dX5_pass_4 : decode cX5_pass 4 = .ok (.invokestatic 29, 3) := by decide +kernel
theorem dX5_pass_7 : decode cX5_pass 7 = .ok (.iload_n 2, 1) := by decide +kernel
theorem dX5_pass_8 : decode cX5_pass 8 = .ok (.bipush (-20), 2) := by decide +kernel
theorem dX5_pass_10 : decode cX5_pass 10 = .ok (.bipush 20, 2) := by decide +kernel
theorem dX5_pass_12 : decode cX5_pass 12 = .ok (.invokestatic 29, 3) := by decide +kernel
theorem dX5_pass_15 : decode cX5_pass 15 = .ok (.iload_n 3, 1) := by decide +kernel
theorem dX5_pass_16 : decode cX5_pass 16 = .ok (.iconst 0, 1) := by decide +kernel
theorem dX5_pass_17 : decode cX5_pass 17 = .ok (.bipush 9, 2) := by decide +kernel
theorem dX5_pass_19 : decode cX5_pass 19 = .ok (.invokestatic 29, 3) := by decide +kernel
theorem dX5_pass_22 : decode cX5_pass 22 = .ok (.iload 4, 2) := by decide +kernel
theorem dX5_pass_24 : decode cX5_pass 24 = .ok (.iconst 0, 1) := by decide +kernel
theorem dX5_pass_25 : decode cX5_pass 25 = .ok (.bipush 9, 2) := by decide +kernel
theorem dX5_pass_27 : decode cX5_pass 27 = .ok (.invokestatic 29, 3) := by decide +kernel
theorem dX5_pass_30 : decode cX5_pass 30 = .ok (.iload 5, 2) := by decide +kernel
theorem dX5_pass_32 : decode cX5_pass 32 = .ok (.iconst 0, 1) := by decide +kernel
theorem dX5_pass_33 : decode cX5_pass 33 = .ok (.iconst 3, 1) := by decide +kernel
theorem dX5_pass_34 : decode cX5_pass 34 = .ok (.invokestatic 29, 3) := by decide +kernel
theorem dX5_pass_37 : decode cX5_pass 37 = .ok (.iload 6, 2) := by decide +kernel
theorem dX5_pass_39 : decode cX5_pass 39 = .ok (.iconst 0, 1) := by decide +kernel
theorem dX5_pass_40 : decode cX5_pass 40 = .ok (.bipush 100, 2) := by decide +kernel
theorem dX5_pass_42 : decode cX5_pass 42 = .ok (.invokestatic 29, 3) := by decide +kernel
theorem dX5_pass_45 : decode cX5_pass 45 = .ok (.aload_n 0, 1) := by decide +kernel
theorem dX5_pass_46 : decode cX5_pass 46 = .ok (.getfield 10, 3) := by decide +kernel
theorem dX5_pass_49 : decode cX5_pass 49 = .ok (.getfield 116, 3) := by decide +kernel
theorem dX5_pass_52 : decode cX5_pass 52 = .ok (.iload_n 1, 1) := by decide +kernel
theorem dX5_pass_53 : decode cX5_pass 53 = .ok (.iadd, 1) := by decide +kernel
theorem dX5_pass_54 : decode cX5_pass 54 = .ok (.sipush 9999, 3) := by decide +kernel
theorem dX5_pass_57 : decode cX5_pass 57 = .ok (.if_icmp .le 13, 3) := by decide +kernel
theorem dX5_pass_60 : decode cX5_pass 60 = .ok (.new 37, 3) := by decide +kernel
theorem dX5_pass_63 : decode cX5_pass 63 = .ok (.dup, 1) := by decide +kernel
theorem dX5_pass_64 : decode cX5_pass 64 = .ok (.ldc 119, 2) := by decide +kernel
theorem dX5_pass_66 : decode cX5_pass 66 = .ok (.invokespecial 41, 3) := by decide +kernel
theorem dX5_pass_69 : decode cX5_pass 69 = .ok (.athrow, 1) := by decide +kernel
theorem dX5_pass_70 : decode cX5_pass 70 = .ok (.aload_n 0, 1) := by decide +kernel
theorem dX5_pass_71 : decode cX5_pass 71 = .ok (.getfield 10, 3) := by decide +kernel
theorem dX5_pass_74 : decode cX5_pass 74 = .ok (.getfield 121, 3) := by decide +kernel
theorem dX5_pass_77 : decode cX5_pass 77 = .ok (.istore 7, 2) := by decide +kernel
theorem dX5_pass_79 : decode cX5_pass 79 = .ok (.aload_n 0, 1) := by decide +kernel
theorem dX5_pass_80 : decode cX5_pass 80 = .ok (.getfield 25, 3) := by decide +kernel
theorem dX5_pass_83 : decode cX5_pass 83 = .ok (.iload_n 2, 1) := by decide +kernel
theorem dX5_pass_84 : decode cX5_pass 84 = .ok (.iload_n 3, 1) := by decide +kernel
theorem dX5_pass_85 : decode cX5_pass 85 = .ok (.iload 4, 2) := by decide +kernel
theorem dX5_pass_87 : decode cX5_pass 87 = .ok (.iload 5, 2) := by decide +kernel
theorem dX5_pass_89 : decode cX5_pass 89 = .ok (.iload 6, 2) := by decide +kernel
theorem dX5_pass_91 : decode cX5_pass 91 = .ok (.invokevirtual 124, 3) := by decide +kernel
theorem dX5_pass_94 : decode cX5_pass 94 = .ok (.iconst 0, 1) := by decide +kernel
theorem dX5_pass_95 : decode cX5_pass 95 = .ok (.istore 8, 2) := by decide +kernel
theorem dX5_pass_97 : decode cX5_pass 97 = .ok (.iload 8, 2) := by decide +kernel
theorem dX5_pass_99 : decode cX5_pass 99 = .ok (.iload_n 1, 1) := by decide +kernel
theorem dX5_pass_100 : decode cX5_pass 100 = .ok (.if_icmp .ge 20, 3) := by decide +kernel
theorem dX5_pass_103 : decode cX5_pass 103 = .ok (.aload_n 0, 1) := by decide +kernel
theorem dX5_pass_104 : decode cX5_pass 104 = .ok (.getfield 10, 3) := by decide +kernel
theorem dX5_pass_107 : decode cX5_pass 107 = .ok (.aload_n 0, 1) := by decide +kernel
theorem dX5_pass_108 : decode cX5_pass 108 = .ok (.getfield 25, 3) := by decide +kernel
theorem dX5_pass_111 : decode cX5_pass 111 = .ok (.invokevirtual 128, 3) := by decide +kernel
theorem dX5_pass_114 : decode cX5_pass 114 = .ok (.iinc 8 1, 3) := by decide +kernel
theorem dX5_pass_117 : decode cX5_pass 117 = .ok (.goto (-20), 3) := by decide +kernel
theorem dX5_pass_120 : decode cX5_pass 120 = .ok (.aload_n 0, 1) := by decide +kernel
theorem dX5_pass_121 : decode cX5_pass 121 = .ok (.getfield 10, 3) := by decide +kernel
theorem dX5_pass_124 : decode cX5_pass 124 = .ok (.getfield 121, 3) := by decide +kernel
theorem dX5_pass_127 : decode cX5_pass 127 = .ok (.iload 7, 2) := by decide +kernel
theorem dX5_pass_129 : decode cX5_pass 129 = .ok (.isub, 1) := by decide +kernel
theorem dX5_pass_130 : decode cX5_pass 130 = .ok (.ireturn, 1) := by decide +kernel
theorem dX5_blast_0 : decode cX5_blast 0 = .ok (.aload_n 0, 1) := by decide +kernel
theorem dX5_blast_1 : decode cX5_blast 1 = .ok (.iload_n 1, 1) := by decide +kernel
theorem dX5_blast_2 : decode cX5_blast 2 = .ok (.invokevirtual 132, 3) := by decide +kernel
theorem dX5_blast_5 : decode cX5_blast 5 = .ok (.aload_n 0, 1) := by decide +kernel
theorem dX5_blast_6 : decode cX5_blast 6 = .ok (.getfield 10, 3) := by decide +kernel
theorem dX5_blast_9 : decode cX5_blast 9 = .ok (.getfield 135, 3) := by decide +kernel
theorem dX5_blast_12 : decode cX5_blast 12 = .ok (.iconst 1, 1) := by decide +kernel
theorem dX5_blast_13 : decode cX5_blast 13 = .ok (.if_icmp .ge 13, 3) := by decide +kernel
theorem dX5_blast_16 : decode cX5_blast 16 = .ok (.new 37, 3) := by decide +kernel
theorem dX5_blast_19 : decode cX5_blast 19 = .ok (.dup, 1) := by decide +kernel
theorem dX5_blast_20 : decode cX5_blast 20 = .ok (.ldc 138, 2) := by decide +kernel
theorem dX5_blast_22 : decode cX5_blast 22 = .ok (.invokespecial 41, 3) := by decide +kernel
theorem dX5_blast_25 : decode cX5_blast 25 = .ok (.athrow, 1) := by decide +kernel
theorem dX5_blast_26 : decode cX5_blast 26 = .ok (.aload_n 0, 1) := by decide +kernel
theorem dX5_blast_27 : decode cX5_blast 27 = .ok (.getfield 10, 3) := by decide +kernel
theorem dX5_blast_30 : decode cX5_blast 30 = .ok (.getfield 65, 3) := by decide +kernel
theorem dX5_blast_33 : decode cX5_blast 33 = .ok (.iload_n 1, 1) := by decide +kernel
theorem dX5_blast_34 : decode cX5_blast 34 = .ok (.aaload, 1) := by decide +kernel
theorem dX5_blast_35 : decode cX5_blast 35 = .ok (.astore_n 2, 1) := by decide +kernel
theorem dX5_blast_36 : decode cX5_blast 36 = .ok (.aload_n 0, 1) := by decide +kernel
theorem dX5_blast_37 : decode cX5_blast 37 = .ok (.getfield 10, 3) := by decide +kernel
theorem dX5_blast_40 : decode cX5_blast 40 = .ok (.dup, 1) := by decide +kernel
theorem dX5_blast_41 : decode cX5_blast 41 = .ok (.getfield 135, 3) := by decide +kernel
theorem dX5_blast_44 : decode cX5_blast 44 = .ok (.iconst 1, 1) := by decide +kernel
theorem dX5_blast_45 : decode cX5_blast 45 = .ok (.isub, 1) := by decide +kernel
theorem dX5_blast_46 : decode cX5_blast 46 = .ok (.putfield 135, 3) := by decide +kernel
theorem dX5_blast_49 : decode cX5_blast 49 = .ok (.bipush 50, 2) := by decide +kernel
theorem dX5_blast_51 : decode cX5_blast 51 = .ok (.aload_n 0, 1) := by decide +kernel
theorem dX5_blast_52 : decode cX5_blast 52 = .ok (.getfield 10, 3) := by decide +kernel
theorem dX5_blast_55 : decode cX5_blast 55 = .ok (.getfield 135, 3) := by decide +kernel
theorem dX5_blast_58 : decode cX5_blast 58 = .ok (.isub, 1) := by decide +kernel
theorem dX5_blast_59 : decode cX5_blast 59 = .ok (.bipush 7, 2) := by decide +kernel
theorem dX5_blast_61 : decode cX5_blast 61 = .ok (.irem, 1) := by decide +kernel
theorem dX5_blast_62 : decode cX5_blast 62 = .ok (.ifCond .ne 16, 3) := by decide +kernel
theorem dX5_blast_65 : decode cX5_blast 65 = .ok (.aload_n 2, 1) := by decide +kernel
theorem dX5_blast_66 : decode cX5_blast 66 = .ok (.dup, 1) := by decide +kernel
theorem dX5_blast_67 : decode cX5_blast 67 = .ok (.getfield 140, 3) := by decide +kernel
theorem dX5_blast_70 : decode cX5_blast 70 = .ok (.iconst 1, 1) := by decide +kernel
theorem dX5_blast_71 : decode cX5_blast 71 = .ok (.iadd, 1) := by decide +kernel
theorem dX5_blast_72 : decode cX5_blast 72 = .ok (.putfield 140, 3) := by decide +kernel
theorem dX5_blast_75 : decode cX5_blast 75 = .ok (.bipush (-2), 2) := by decide +kernel
theorem dX5_blast_77 : decode cX5_blast 77 = .ok (.ireturn, 1) := by decide +kernel
theorem dX5_blast_78 : decode cX5_blast 78 = .ok (.aload_n 2, 1) := by decide +kernel
theorem dX5_blast_79 : decode cX5_blast 79 = .ok (.invokevirtual 143, 3) := by decide +kernel
theorem dX5_blast_82 : decode cX5_blast 82 = .ok (.bipush 40, 2) := by decide +kernel
theorem dX5_blast_84 : decode cX5_blast 84 = .ok (.if_icmp .lt 14, 3) := by decide +kernel
theorem dX5_blast_87 : decode cX5_blast 87 = .ok (.aload_n 0, 1) := by decide +kernel
theorem dX5_blast_88 : decode cX5_blast 88 = .ok (.getfield 10, 3) := by decide +kernel
theorem dX5_blast_91 : decode cX5_blast 91 = .ok (.aload_n 2, 1) := by decide +kernel
theorem dX5_blast_92 : decode cX5_blast 92 = .ok (.invokevirtual 147, 3) := by decide +kernel
theorem dX5_blast_95 : decode cX5_blast 95 = .ok (.goto 4, 3) := by decide +kernel
theorem dX5_blast_98 : decode cX5_blast 98 = .ok (.iconst 0, 1) := by decide +kernel
theorem dX5_blast_99 : decode cX5_blast 99 = .ok (.ireturn, 1) := by decide +kernel
theorem dX5_search_0 : decode cX5_search 0 = .ok (.aload_n 0, 1) := by decide +kernel
theorem dX5_search_1 : decode cX5_search 1 = .ok (.iload_n 1, 1) := by decide +kernel
theorem dX5_search_2 : decode cX5_search 2 = .ok (.invokevirtual 98, 3) := by decide +kernel
theorem dX5_search_5 : decode cX5_search 5 = .ok (.aload_n 0, 1) := by decide +kernel
theorem dX5_search_6 : decode cX5_search 6 = .ok (.getfield 10, 3) := by decide +kernel
theorem dX5_search_9 : decode cX5_search 9 = .ok (.getfield 65, 3) := by decide +kernel
theorem dX5_search_12 : decode cX5_search 12 = .ok (.iload_n 1, 1) := by decide +kernel
theorem dX5_search_13 : decode cX5_search 13 = .ok (.aaload, 1) := by decide +kernel
theorem dX5_search_14 : decode cX5_search 14 = .ok (.astore_n 2, 1) := by decide +kernel
theorem dX5_search_15 : decode cX5_search 15 = .ok (.aload_n 2, 1) := by decide +kernel
theorem dX5_search_16 : decode cX5_search 16 = .ok (.getfield 140, 3) := by decide +kernel
theorem dX5_search_19 : decode cX5_search 19 = .ok (.iconst 1, 1) := by decide +kernel
theorem dX5_search_20 : decode cX5_search 20 = .ok (.if_icmp .ge 13, 3) := by decide +kernel
theorem dX5_search_23 : decode cX5_search 23 = .ok (.new 37, 3) := by decide +kernel
theorem dX5_search_26 : decode cX5_search 26 = .ok (.dup, 1) := by decide +kernel
theorem dX5_search_27 : decode cX5_search 27 = .ok (.ldc 151, 2) := by decide +kernel
theorem dX5_search_29 : decode cX5_search 29 = .ok (.invokespecial 41, 3) := by decide +kernel
theorem dX5_search_32 : decode cX5_search 32 = .ok (.athrow, 1) := by decide +kernel
theorem dX5_search_33 : decode cX5_search 33 = .ok (.aload_n 2, 1) := by decide +kernel
theorem dX5_search_34 : decode cX5_search 34 = .ok (.dup, 1) := by decide +kernel
theorem dX5_search_35 : decode cX5_search 35 = .ok (.getfield 140, 3) := by decide +kernel
theorem dX5_search_38 : decode cX5_search 38 = .ok (.iconst 1, 1) := by decide +kernel
theorem dX5_search_39 : decode cX5_search 39 = .ok (.isub, 1) := by decide +kernel
theorem dX5_search_40 : decode cX5_search 40 = .ok (.putfield 140, 3) := by decide +kernel
theorem dX5_search_43 : decode cX5_search 43 = .ok (.aload_n 2, 1) := by decide +kernel
theorem dX5_search_44 : decode cX5_search 44 = .ok (.getfield 140, 3) := by decide +kernel
theorem dX5_search_47 : decode cX5_search 47 = .ok (.ireturn, 1) := by decide +kernel
theorem dX5_test_0 : decode cX5_test 0 = .ok (.aload_n 0, 1) := by decide +kernel
theorem dX5_test_1 : decode cX5_test 1 = .ok (.iload_n 1, 1) := by decide +kernel
theorem dX5_test_2 : decode cX5_test 2 = .ok (.invokevirtual 98, 3) := by decide +kernel
theorem dX5_test_5 : decode cX5_test 5 = .ok (.aload_n 0, 1) := by decide +kernel
theorem dX5_test_6 : decode cX5_test 6 = .ok (.getfield 10, 3) := by decide +kernel
theorem dX5_test_9 : decode cX5_test 9 = .ok (.getfield 65, 3) := by decide +kernel
theorem dX5_test_12 : decode cX5_test 12 = .ok (.iload_n 1, 1) := by decide +kernel
theorem dX5_test_13 : decode cX5_test 13 = .ok (.aaload, 1) := by decide +kernel
theorem dX5_test_14 : decode cX5_test 14 = .ok (.astore_n 2, 1) := by decide +kernel
theorem dX5_test_15 : decode cX5_test 15 = .ok (.aload_n 2, 1) := by decide +kernel
theorem dX5_test_16 : decode cX5_test 16 = .ok (.aload_n 0, 1) := by decide +kernel
theorem dX5_test_17 : decode cX5_test 17 = .ok (.getfield 10, 3) := by decide +kernel
theorem dX5_test_20 : decode cX5_test 20 = .ok (.iload_n 1, 1) := by decide +kernel
theorem dX5_test_21 : decode cX5_test 21 = .ok (.aload_n 2, 1) := by decide +kernel
theorem dX5_test_22 : decode cX5_test 22 = .ok (.invokevirtual 153, 3) := by decide +kernel
theorem dX5_test_25 : decode cX5_test 25 = .ok (.putfield 157, 3) := by decide +kernel
theorem dX5_test_28 : decode cX5_test 28 = .ok (.aload_n 2, 1) := by decide +kernel
theorem dX5_test_29 : decode cX5_test 29 = .ok (.aload_n 0, 1) := by decide +kernel
theorem dX5_test_30 : decode cX5_test 30 = .ok (.getfield 10, 3) := by decide +kernel
theorem dX5_test_33 : decode cX5_test 33 = .ok (.getfield 116, 3) := by decide +kernel
theorem dX5_test_36 : decode cX5_test 36 = .ok (.bipush 12, 2) := by decide +kernel
theorem dX5_test_38 : decode cX5_test 38 = .ok (.iadd, 1) := by decide +kernel
theorem dX5_test_39 : decode cX5_test 39 = .ok (.putfield 160, 3) := by decide +kernel
theorem dX5_test_42 : decode cX5_test 42 = .ok (.aload_n 2, 1) := by decide +kernel
theorem dX5_test_43 : decode cX5_test 43 = .ok (.getfield 157, 3) := by decide +kernel
theorem dX5_test_46 : decode cX5_test 46 = .ok (.ireturn, 1) := by decide +kernel
theorem dX5_sweep_0 : decode cX5_sweep 0 = .ok (.aload_n 0, 1) := by decide +kernel
theorem dX5_sweep_1 : decode cX5_sweep 1 = .ok (.iload_n 1, 1) := by decide +kernel
theorem dX5_sweep_2 : decode cX5_sweep 2 = .ok (.invokevirtual 132, 3) := by decide +kernel
theorem dX5_sweep_5 : decode cX5_sweep 5 = .ok (.aload_n 0, 1) := by decide +kernel
theorem dX5_sweep_6 : decode cX5_sweep 6 = .ok (.getfield 10, 3) := by decide +kernel
theorem dX5_sweep_9 : decode cX5_sweep 9 = .ok (.getfield 65, 3) := by decide +kernel
theorem dX5_sweep_12 : decode cX5_sweep 12 = .ok (.iload_n 1, 1) := by decide +kernel
theorem dX5_sweep_13 : decode cX5_sweep 13 = .ok (.aaload, 1) := by decide +kernel
theorem dX5_sweep_14 : decode cX5_sweep 14 = .ok (.getfield 163, 3) := by decide +kernel
theorem dX5_sweep_17 : decode cX5_sweep 17 = .ok (.istore_n 2, 1) := by decide +kernel
theorem dX5_sweep_18 : decode cX5_sweep 18 = .ok (.aload_n 0, 1) := by decide +kernel
theorem dX5_sweep_19 : decode cX5_sweep 19 = .ok (.getfield 10, 3) := by decide +kernel
theorem dX5_sweep_22 : decode cX5_sweep 22 = .ok (.getfield 65, 3) := by decide +kernel
theorem dX5_sweep_25 : decode cX5_sweep 25 = .ok (.iload_n 1, 1) := by decide +kernel
theorem dX5_sweep_26 : decode cX5_sweep 26 = .ok (.aaload, 1) := by decide +kernel
theorem dX5_sweep_27 : decode cX5_sweep 27 = .ok (.iconst 1, 1) := by decide +kernel
theorem dX5_sweep_28 : decode cX5_sweep 28 = .ok (.putfield 163, 3) := by decide +kernel
theorem dX5_sweep_31 : decode cX5_sweep 31 = .ok (.iload_n 2, 1) := by decide +kernel
theorem dX5_sweep_32 : decode cX5_sweep 32 = .ok (.ifCond .ne 7, 3) := by decide +kernel
theorem dX5_sweep_35 : decode cX5_sweep 35 = .ok (.iconst 1, 1) := by decide +kernel
theorem dX5_sweep_36 : decode cX5_sweep 36 = .ok (.goto 4, 3) := by decide +kernel
theorem dX5_sweep_39 : decode cX5_sweep 39 = .ok (.iconst 0, 1) := by decide +kernel
theorem dX5_sweep_40 : decode cX5_sweep 40 = .ok (.ireturn, 1) := by decide +kernel
theorem dX5_groom_0 : decode cX5_groom 0 = .ok (.aload_n 0, 1) := by decide +kernel
theorem dX5_groom_1 : decode cX5_groom 1 = .ok (.iload_n 1, 1) := by decide +kernel
theorem dX5_groom_2 : decode cX5_groom 2 = .ok (.invokevirtual 132, 3) := by decide +kernel
theorem dX5_groom_5 : decode cX5_groom 5 = .ok (.aload_n 0, 1) := by decide +kernel
theorem dX5_groom_6 : decode cX5_groom 6 = .ok (.getfield 10, 3) := by decide +kernel
theorem dX5_groom_9 : decode cX5_groom 9 = .ok (.getfield 65, 3) := by decide +kernel
theorem dX5_groom_12 : decode cX5_groom 12 = .ok (.iload_n 1, 1) := by decide +kernel
theorem dX5_groom_13 : decode cX5_groom 13 = .ok (.aaload, 1) := by decide +kernel
theorem dX5_groom_14 : decode cX5_groom 14 = .ok (.getfield 169, 3) := by decide +kernel
theorem dX5_groom_17 : decode cX5_groom 17 = .ok (.astore_n 2, 1) := by decide +kernel
theorem dX5_groom_18 : decode cX5_groom 18 = .ok (.aload_n 0, 1) := by decide +kernel
theorem dX5_groom_19 : decode cX5_groom 19 = .ok (.getfield 10, 3) := by decide +kernel
theorem dX5_groom_22 : decode cX5_groom 22 = .ok (.invokevirtual 173, 3) := by decide +kernel
theorem dX5_groom_25 : decode cX5_groom 25 = .ok (.istore_n 3, 1) := by decide +kernel
theorem dX5_groom_26 : decode cX5_groom 26 = .ok (.aload_n 2, 1) := by decide +kernel
theorem dX5_groom_27 : decode cX5_groom 27 = .ok (.getfield 176, 3) := by decide +kernel
theorem dX5_groom_30 : decode cX5_groom 30 = .ok (.iconst 2, 1) := by decide +kernel
theorem dX5_groom_31 : decode cX5_groom 31 = .ok (.if_icmp .lt 15, 3) := by decide +kernel
theorem dX5_groom_34 : decode cX5_groom 34 = .ok (.iload_n 3, 1) := by decide +kernel
theorem dX5_groom_35 : decode cX5_groom 35 = .ok (.bipush 6, 2) := by decide +kernel
theorem dX5_groom_37 : decode cX5_groom 37 = .ok (.if_icmp .le 19, 3) := by decide +kernel
theorem dX5_groom_40 : decode cX5_groom 40 = .ok (.iload_n 3, 1) := by decide +kernel
theorem dX5_groom_41 : decode cX5_groom 41 = .ok (.bipush 18, 2) := by decide +kernel
theorem dX5_groom_43 : decode cX5_groom 43 = .ok (.if_icmp .ge 13, 3) := by decide +kernel
theorem dX5_groom_46 : decode cX5_groom 46 = .ok (.new 37, 3) := by decide +kernel
theorem dX5_groom_49 : decode cX5_groom 49 = .ok (.dup, 1) := by decide +kernel
theorem dX5_groom_50 : decode cX5_groom 50 = .ok (.ldc 181, 2) := by decide +kernel
theorem dX5_groom_52 : decode cX5_groom 52 = .ok (.invokespecial 41, 3) := by decide +kernel
theorem dX5_groom_55 : decode cX5_groom 55 = .ok (.athrow, 1) := by decide +kernel
theorem dX5_groom_56 : decode cX5_groom 56 = .ok (.aload_n 0, 1) := by decide +kernel
theorem dX5_groom_57 : decode cX5_groom 57 = .ok (.getfield 10, 3) := by decide +kernel
theorem dX5_groom_60 : decode cX5_groom 60 = .ok (.getfield 183, 3) := by decide +kernel
theorem dX5_groom_63 : decode cX5_groom 63 = .ok (.iconst 5, 1) := by decide +kernel
theorem dX5_groom_64 : decode cX5_groom 64 = .ok (.if_icmp .ge 13, 3) := by decide +kernel
theorem dX5_groom_67 : decode cX5_groom 67 = .ok (.new 37, 3) := by decide +kernel
theorem dX5_groom_70 : decode cX5_groom 70 = .ok (.dup, 1) := by decide +kernel
theorem dX5_groom_71 : decode cX5_groom 71 = .ok (.ldc 186, 2) := by decide +kernel
theorem dX5_groom_73 : decode cX5_groom 73 = .ok (.invokespecial 41, 3) := by decide +kernel
theorem dX5_groom_76 : decode cX5_groom 76 = .ok (.athrow, 1) := by decide +kernel
theorem dX5_groom_77 : decode cX5_groom 77 = .ok (.aload_n 0, 1) := by decide +kernel
theorem dX5_groom_78 : decode cX5_groom 78 = .ok (.getfield 10, 3) := by decide +kernel
theorem dX5_groom_81 : decode cX5_groom 81 = .ok (.dup, 1) := by decide +kernel
theorem dX5_groom_82 : decode cX5_groom 82 = .ok (.getfield 183, 3) := by decide +kernel
theorem dX5_groom_85 : decode cX5_groom 85 = .ok (.iconst 5, 1) := by decide +kernel
theorem dX5_groom_86 : decode cX5_groom 86 = .ok (.isub, 1) := by decide +kernel
theorem dX5_groom_87 : decode cX5_groom 87 = .ok (.putfield 183, 3) := by decide +kernel
theorem dX5_groom_90 : decode cX5_groom 90 = .ok (.aload_n 2, 1) := by decide +kernel
theorem dX5_groom_91 : decode cX5_groom 91 = .ok (.invokevirtual 188, 3) := by decide +kernel
theorem dX5_groom_94 : decode cX5_groom 94 = .ok (.ireturn, 1) := by decide +kernel
theorem dX5_open_0 : decode cX5_open 0 = .ok (.aload_n 0, 1) := by decide +kernel
theorem dX5_open_1 : decode cX5_open 1 = .ok (.iload_n 1, 1) := by decide +kernel
theorem dX5_open_2 : decode cX5_open 2 = .ok (.invokevirtual 132, 3) := by decide +kernel
theorem dX5_open_5 : decode cX5_open 5 = .ok (.aload_n 0, 1) := by decide +kernel
theorem dX5_open_6 : decode cX5_open 6 = .ok (.getfield 10, 3) := by decide +kernel
theorem dX5_open_9 : decode cX5_open 9 = .ok (.getfield 65, 3) := by decide +kernel
theorem dX5_open_12 : decode cX5_open 12 = .ok (.iload_n 1, 1) := by decide +kernel
theorem dX5_open_13 : decode cX5_open 13 = .ok (.aaload, 1) := by decide +kernel
theorem dX5_open_14 : decode cX5_open 14 = .ok (.astore_n 2, 1) := by decide +kernel
theorem dX5_open_15 : decode cX5_open 15 = .ok (.aload_n 0, 1) := by decide +kernel
theorem dX5_open_16 : decode cX5_open 16 = .ok (.getfield 10, 3) := by decide +kernel
theorem dX5_open_19 : decode cX5_open 19 = .ok (.aload_n 2, 1) := by decide +kernel
theorem dX5_open_20 : decode cX5_open 20 = .ok (.invokevirtual 191, 3) := by decide +kernel
theorem dX5_open_23 : decode cX5_open 23 = .ok (.istore_n 3, 1) := by decide +kernel
theorem dX5_open_24 : decode cX5_open 24 = .ok (.iload_n 3, 1) := by decide +kernel
theorem dX5_open_25 : decode cX5_open 25 = .ok (.ifCond .ne 19, 3) := by decide +kernel
theorem dX5_open_28 : decode cX5_open 28 = .ok (.aload_n 2, 1) := by decide +kernel
theorem dX5_open_29 : decode cX5_open 29 = .ok (.iconst 1, 1) := by decide +kernel
theorem dX5_open_30 : decode cX5_open 30 = .ok (.putfield 194, 3) := by decide +kernel
theorem dX5_open_33 : decode cX5_open 33 = .ok (.aload_n 2, 1) := by decide +kernel
theorem dX5_open_34 : decode cX5_open 34 = .ok (.aload_n 0, 1) := by decide +kernel
theorem dX5_open_35 : decode cX5_open 35 = .ok (.getfield 10, 3) := by decide +kernel
theorem dX5_open_38 : decode cX5_open 38 = .ok (.getfield 116, 3) := by decide +kernel
theorem dX5_open_41 : decode cX5_open 41 = .ok (.putfield 197, 3) := by decide +kernel
theorem dX5_open_44 : decode cX5_open 44 = .ok (.iload_n 3, 1) := by decide +kernel
theorem dX5_open_45 : decode cX5_open 45 = .ok (.ireturn, 1) := by decide +kernel
theorem dX5_close_0 : decode cX5_close 0 = .ok (.aload_n 0, 1) := by decide +kernel
theorem dX5_close_1 : decode cX5_close 1 = .ok (.iload_n 1, 1) := by decide +kernel
theorem dX5_close_2 : decode cX5_close 2 = .ok (.invokevirtual 98, 3) := by decide +kernel
theorem dX5_close_5 : decode cX5_close 5 = .ok (.aload_n 0, 1) := by decide +kernel
theorem dX5_close_6 : decode cX5_close 6 = .ok (.getfield 10, 3) := by decide +kernel
theorem dX5_close_9 : decode cX5_close 9 = .ok (.getfield 65, 3) := by decide +kernel
theorem dX5_close_12 : decode cX5_close 12 = .ok (.iload_n 1, 1) := by decide +kernel
theorem dX5_close_13 : decode cX5_close 13 = .ok (.aaload, 1) := by decide +kernel
theorem dX5_close_14 : decode cX5_close 14 = .ok (.astore_n 2, 1) := by decide +kernel
theorem dX5_close_15 : decode cX5_close 15 = .ok (.aload_n 2, 1) := by decide +kernel
theorem dX5_close_16 : decode cX5_close 16 = .ok (.getfield 194, 3) := by decide +kernel
theorem dX5_close_19 : decode cX5_close 19 = .ok (.ifCond .ne 13, 3) := by decide +kernel
theorem dX5_close_22 : decode cX5_close 22 = .ok (.new 37, 3) := by decide +kernel
theorem dX5_close_25 : decode cX5_close 25 = .ok (.dup, 1) := by decide +kernel
theorem dX5_close_26 : decode cX5_close 26 = .ok (.ldc 200, 2) := by decide +kernel
end
section
theorem dX5_close_28 : decode cX5_close 28 = .ok (.invokespecial 41, 3) := by decide +kernel
theorem dX5_close_31 : decode cX5_close 31 = .ok (.athrow, 1) := by decide +kernel
theorem dX5_close_32 : decode cX5_close 32 = .ok (.aload_n 2, 1) := by decide +kernel
theorem dX5_close_33 : decode cX5_close 33 = .ok (.iconst 0, 1) := by decide +kernel
theorem dX5_close_34 : decode cX5_close 34 = .ok (.putfield 194, 3) := by decide +kernel
theorem dX5_close_37 : decode cX5_close 37 = .ok (.aload_n 2, 1) := by decide +kernel
theorem dX5_close_38 : decode cX5_close 38 = .ok (.iconst 0, 1) := by decide +kernel
theorem dX5_close_39 : decode cX5_close 39 = .ok (.putfield 163, 3) := by decide +kernel
theorem dX5_close_42 : decode cX5_close 42 = .ok (.aload_n 0, 1) := by decide +kernel
theorem dX5_close_43 : decode cX5_close 43 = .ok (.getfield 10, 3) := by decide +kernel
theorem dX5_close_46 : decode cX5_close 46 = .ok (.getfield 116, 3) := by decide +kernel
theorem dX5_close_49 : decode cX5_close 49 = .ok (.aload_n 2, 1) := by decide +kernel
theorem dX5_close_50 : decode cX5_close 50 = .ok (.getfield 197, 3) := by decide +kernel
theorem dX5_close_53 : decode cX5_close 53 = .ok (.isub, 1) := by decide +kernel
theorem dX5_close_54 : decode cX5_close 54 = .ok (.ireturn, 1) := by decide +kernel
theorem dX5_ofRun_0 : decode cX5_ofRun 0 = .ok (.aload_n 0, 1) := by decide +kernel
theorem dX5_ofRun_1 : decode cX5_ofRun 1 = .ok (.iload_n 1, 1) := by decide +kernel
theorem dX5_ofRun_2 : decode cX5_ofRun 2 = .ok (.invokevirtual 98, 3) := by decide +kernel
theorem dX5_ofRun_5 : decode cX5_ofRun 5 = .ok (.iload_n 2, 1) := by decide +kernel
theorem dX5_ofRun_6 : decode cX5_ofRun 6 = .ok (.iconst 0, 1) := by decide +kernel
theorem dX5_ofRun_7 : decode cX5_ofRun 7 = .ok (.bipush 13, 2) := by decide +kernel
theorem dX5_ofRun_9 : decode cX5_ofRun 9 = .ok (.invokestatic 29, 3) := by decide +kernel
theorem dX5_ofRun_12 : decode cX5_ofRun 12 = .ok (.aload_n 0, 1) := by decide +kernel
theorem dX5_ofRun_13 : decode cX5_ofRun 13 = .ok (.getfield 10, 3) := by decide +kernel
theorem dX5_ofRun_16 : decode cX5_ofRun 16 = .ok (.getfield 65, 3) := by decide +kernel
theorem dX5_ofRun_19 : decode cX5_ofRun 19 = .ok (.iload_n 1, 1) := by decide +kernel
theorem dX5_ofRun_20 : decode cX5_ofRun 20 = .ok (.aaload, 1) := by decide +kernel
theorem dX5_ofRun_21 : decode cX5_ofRun 21 = .ok (.astore_n 3, 1) := by decide +kernel
theorem dX5_ofRun_22 : decode cX5_ofRun 22 = .ok (.iload_n 2, 1) := by decide +kernel
theorem dX5_ofRun_23 : decode cX5_ofRun 23 = .ok (.tableswitch 164 0 12 #[65, 70, 78, 86, 97, 102, 107, 115, 120, 129, 149, 154, 159], 65) := by decide +kernel
theorem dX5_ofRun_88 : decode cX5_ofRun 88 = .ok (.aload_n 3, 1) := by decide +kernel
theorem dX5_ofRun_89 : decode cX5_ofRun 89 = .ok (.getfield 69, 3) := by decide +kernel
theorem dX5_ofRun_92 : decode cX5_ofRun 92 = .ok (.ireturn, 1) := by decide +kernel
theorem dX5_ofRun_93 : decode cX5_ofRun 93 = .ok (.aload_n 3, 1) := by decide +kernel
theorem dX5_ofRun_94 : decode cX5_ofRun 94 = .ok (.getfield 169, 3) := by decide +kernel
theorem dX5_ofRun_97 : decode cX5_ofRun 97 = .ok (.getfield 176, 3) := by decide +kernel
theorem dX5_ofRun_100 : decode cX5_ofRun 100 = .ok (.ireturn, 1) := by decide +kernel
theorem dX5_ofRun_101 : decode cX5_ofRun 101 = .ok (.aload_n 3, 1) := by decide +kernel
theorem dX5_ofRun_102 : decode cX5_ofRun 102 = .ok (.getfield 169, 3) := by decide +kernel
theorem dX5_ofRun_105 : decode cX5_ofRun 105 = .ok (.invokevirtual 202, 3) := by decide +kernel
theorem dX5_ofRun_108 : decode cX5_ofRun 108 = .ok (.ireturn, 1) := by decide +kernel
theorem dX5_ofRun_109 : decode cX5_ofRun 109 = .ok (.aload_n 3, 1) := by decide +kernel
theorem dX5_ofRun_110 : decode cX5_ofRun 110 = .ok (.getfield 169, 3) := by decide +kernel
theorem dX5_ofRun_113 : decode cX5_ofRun 113 = .ok (.getfield 205, 3) := by decide +kernel
theorem dX5_ofRun_116 : decode cX5_ofRun 116 = .ok (.invokestatic 208, 3) := by decide +kernel
theorem dX5_ofRun_119 : decode cX5_ofRun 119 = .ok (.ireturn, 1) := by decide +kernel
theorem dX5_ofRun_120 : decode cX5_ofRun 120 = .ok (.aload_n 3, 1) := by decide +kernel
theorem dX5_ofRun_121 : decode cX5_ofRun 121 = .ok (.invokevirtual 143, 3) := by decide +kernel
theorem dX5_ofRun_124 : decode cX5_ofRun 124 = .ok (.ireturn, 1) := by decide +kernel
theorem dX5_ofRun_125 : decode cX5_ofRun 125 = .ok (.aload_n 3, 1) := by decide +kernel
theorem dX5_ofRun_126 : decode cX5_ofRun 126 = .ok (.invokevirtual 212, 3) := by decide +kernel
theorem dX5_ofRun_129 : decode cX5_ofRun 129 = .ok (.ireturn, 1) := by decide +kernel
theorem dX5_ofRun_130 : decode cX5_ofRun 130 = .ok (.aload_n 3, 1) := by decide +kernel
theorem dX5_ofRun_131 : decode cX5_ofRun 131 = .ok (.getfield 194, 3) := by decide +kernel
theorem dX5_ofRun_134 : decode cX5_ofRun 134 = .ok (.invokestatic 208, 3) := by decide +kernel
theorem dX5_ofRun_137 : decode cX5_ofRun 137 = .ok (.ireturn, 1) := by decide +kernel
theorem dX5_ofRun_138 : decode cX5_ofRun 138 = .ok (.aload_n 3, 1) := by decide +kernel
theorem dX5_ofRun_139 : decode cX5_ofRun 139 = .ok (.getfield 140, 3) := by decide +kernel
theorem dX5_ofRun_142 : decode cX5_ofRun 142 = .ok (.ireturn, 1) := by decide +kernel
theorem dX5_ofRun_143 : decode cX5_ofRun 143 = .ok (.aload_n 0, 1) := by decide +kernel
theorem dX5_ofRun_144 : decode cX5_ofRun 144 = .ok (.getfield 10, 3) := by decide +kernel
theorem dX5_ofRun_147 : decode cX5_ofRun 147 = .ok (.aload_n 3, 1) := by decide +kernel
theorem dX5_ofRun_148 : decode cX5_ofRun 148 = .ok (.invokevirtual 191, 3) := by decide +kernel
theorem dX5_ofRun_151 : decode cX5_ofRun 151 = .ok (.ireturn, 1) := by decide +kernel
theorem dX5_ofRun_152 : decode cX5_ofRun 152 = .ok (.aload_n 0, 1) := by decide +kernel
theorem dX5_ofRun_153 : decode cX5_ofRun 153 = .ok (.getfield 10, 3) := by decide +kernel
theorem dX5_ofRun_156 : decode cX5_ofRun 156 = .ok (.aload_n 3, 1) := by decide +kernel
theorem dX5_ofRun_157 : decode cX5_ofRun 157 = .ok (.invokevirtual 215, 3) := by decide +kernel
theorem dX5_ofRun_160 : decode cX5_ofRun 160 = .ok (.ifCond .eq 10, 3) := by decide +kernel
theorem dX5_ofRun_163 : decode cX5_ofRun 163 = .ok (.aload_n 3, 1) := by decide +kernel
theorem dX5_ofRun_164 : decode cX5_ofRun 164 = .ok (.getfield 157, 3) := by decide +kernel
theorem dX5_ofRun_167 : decode cX5_ofRun 167 = .ok (.goto 4, 3) := by decide +kernel
theorem dX5_ofRun_170 : decode cX5_ofRun 170 = .ok (.iconst (-1), 1) := by decide +kernel
theorem dX5_ofRun_171 : decode cX5_ofRun 171 = .ok (.ireturn, 1) := by decide +kernel
theorem dX5_ofRun_172 : decode cX5_ofRun 172 = .ok (.aload_n 3, 1) := by decide +kernel
theorem dX5_ofRun_173 : decode cX5_ofRun 173 = .ok (.getfield 219, 3) := by decide +kernel
theorem dX5_ofRun_176 : decode cX5_ofRun 176 = .ok (.ireturn, 1) := by decide +kernel
theorem dX5_ofRun_177 : decode cX5_ofRun 177 = .ok (.aload_n 3, 1) := by decide +kernel
theorem dX5_ofRun_178 : decode cX5_ofRun 178 = .ok (.getfield 222, 3) := by decide +kernel
theorem dX5_ofRun_181 : decode cX5_ofRun 181 = .ok (.ireturn, 1) := by decide +kernel
theorem dX5_ofRun_182 : decode cX5_ofRun 182 = .ok (.aload_n 3, 1) := by decide +kernel
theorem dX5_ofRun_183 : decode cX5_ofRun 183 = .ok (.getfield 225, 3) := by decide +kernel
theorem dX5_ofRun_186 : decode cX5_ofRun 186 = .ok (.ireturn, 1) := by decide +kernel
theorem dX5_ofRun_187 : decode cX5_ofRun 187 = .ok (.aload_n 3, 1) := by decide +kernel
theorem dX5_ofRun_188 : decode cX5_ofRun 188 = .ok (.getfield 163, 3) := by decide +kernel
theorem dX5_ofRun_191 : decode cX5_ofRun 191 = .ok (.invokestatic 208, 3) := by decide +kernel
theorem dX5_ofRun_194 : decode cX5_ofRun 194 = .ok (.ireturn, 1) := by decide +kernel
theorem dX5_ofLayer_0 : decode cX5_ofLayer 0 = .ok (.aload_n 0, 1) := by decide +kernel
theorem dX5_ofLayer_1 : decode cX5_ofLayer 1 = .ok (.iload_n 1, 1) := by decide +kernel
theorem dX5_ofLayer_2 : decode cX5_ofLayer 2 = .ok (.invokevirtual 98, 3) := by decide +kernel
theorem dX5_ofLayer_5 : decode cX5_ofLayer 5 = .ok (.aload_n 0, 1) := by decide +kernel
theorem dX5_ofLayer_6 : decode cX5_ofLayer 6 = .ok (.getfield 10, 3) := by decide +kernel
theorem dX5_ofLayer_9 : decode cX5_ofLayer 9 = .ok (.getfield 65, 3) := by decide +kernel
theorem dX5_ofLayer_12 : decode cX5_ofLayer 12 = .ok (.iload_n 1, 1) := by decide +kernel
theorem dX5_ofLayer_13 : decode cX5_ofLayer 13 = .ok (.aaload, 1) := by decide +kernel
theorem dX5_ofLayer_14 : decode cX5_ofLayer 14 = .ok (.getfield 169, 3) := by decide +kernel
theorem dX5_ofLayer_17 : decode cX5_ofLayer 17 = .ok (.astore 4, 2) := by decide +kernel
theorem dX5_ofLayer_19 : decode cX5_ofLayer 19 = .ok (.iload_n 2, 1) := by decide +kernel
theorem dX5_ofLayer_20 : decode cX5_ofLayer 20 = .ok (.ifCond .lt 12, 3) := by decide +kernel
theorem dX5_ofLayer_23 : decode cX5_ofLayer 23 = .ok (.iload_n 2, 1) := by decide +kernel
theorem dX5_ofLayer_24 : decode cX5_ofLayer 24 = .ok (.aload 4, 2) := by decide +kernel
theorem dX5_ofLayer_26 : decode cX5_ofLayer 26 = .ok (.getfield 176, 3) := by decide +kernel
theorem dX5_ofLayer_29 : decode cX5_ofLayer 29 = .ok (.if_icmp .lt 13, 3) := by decide +kernel
theorem dX5_ofLayer_32 : decode cX5_ofLayer 32 = .ok (.new 226, 3) := by decide +kernel
theorem dX5_ofLayer_35 : decode cX5_ofLayer 35 = .ok (.dup, 1) := by decide +kernel
theorem dX5_ofLayer_36 : decode cX5_ofLayer 36 = .ok (.ldc 228, 2) := by decide +kernel
theorem dX5_ofLayer_38 : decode cX5_ofLayer 38 = .ok (.invokespecial 230, 3) := by decide +kernel
theorem dX5_ofLayer_41 : decode cX5_ofLayer 41 = .ok (.athrow, 1) := by decide +kernel
theorem dX5_ofLayer_42 : decode cX5_ofLayer 42 = .ok (.iload_n 3, 1) := by decide +kernel
theorem dX5_ofLayer_43 : decode cX5_ofLayer 43 = .ok (.iconst 0, 1) := by decide +kernel
theorem dX5_ofLayer_44 : decode cX5_ofLayer 44 = .ok (.iconst 2, 1) := by decide +kernel
theorem dX5_ofLayer_45 : decode cX5_ofLayer 45 = .ok (.invokestatic 29, 3) := by decide +kernel
theorem dX5_ofLayer_48 : decode cX5_ofLayer 48 = .ok (.iload_n 3, 1) := by decide +kernel
theorem dX5_ofLayer_49 : decode cX5_ofLayer 49 = .ok (.lookupswitch 43 #[(0, 27), (1, 35)], 27) := by decide +kernel
theorem dX5_ofLayer_76 : decode cX5_ofLayer 76 = .ok (.aload 4, 2) := by decide +kernel
theorem dX5_ofLayer_78 : decode cX5_ofLayer 78 = .ok (.getfield 231, 3) := by decide +kernel
theorem dX5_ofLayer_81 : decode cX5_ofLayer 81 = .ok (.iload_n 2, 1) := by decide +kernel
theorem dX5_ofLayer_82 : decode cX5_ofLayer 82 = .ok (.iaload, 1) := by decide +kernel
theorem dX5_ofLayer_83 : decode cX5_ofLayer 83 = .ok (.ireturn, 1) := by decide +kernel
theorem dX5_ofLayer_84 : decode cX5_ofLayer 84 = .ok (.aload 4, 2) := by decide +kernel
theorem dX5_ofLayer_86 : decode cX5_ofLayer 86 = .ok (.getfield 235, 3) := by decide +kernel
theorem dX5_ofLayer_89 : decode cX5_ofLayer 89 = .ok (.iload_n 2, 1) := by decide +kernel
theorem dX5_ofLayer_90 : decode cX5_ofLayer 90 = .ok (.iaload, 1) := by decide +kernel
theorem dX5_ofLayer_91 : decode cX5_ofLayer 91 = .ok (.ireturn, 1) := by decide +kernel
theorem dX5_ofLayer_92 : decode cX5_ofLayer 92 = .ok (.aload 4, 2) := by decide +kernel
theorem dX5_ofLayer_94 : decode cX5_ofLayer 94 = .ok (.getfield 238, 3) := by decide +kernel
theorem dX5_ofLayer_97 : decode cX5_ofLayer 97 = .ok (.iload_n 2, 1) := by decide +kernel
theorem dX5_ofLayer_98 : decode cX5_ofLayer 98 = .ok (.iaload, 1) := by decide +kernel
theorem dX5_ofLayer_99 : decode cX5_ofLayer 99 = .ok (.ireturn, 1) := by decide +kernel
theorem dX5_ofLift_0 : decode cX5_ofLift 0 = .ok (.aload_n 0, 1) := by decide +kernel
theorem dX5_ofLift_1 : decode cX5_ofLift 1 = .ok (.iload_n 1, 1) := by decide +kernel
theorem dX5_ofLift_2 : decode cX5_ofLift 2 = .ok (.invokevirtual 56, 3) := by decide +kernel
theorem dX5_ofLift_5 : decode cX5_ofLift 5 = .ok (.iload_n 2, 1) := by decide +kernel
theorem dX5_ofLift_6 : decode cX5_ofLift 6 = .ok (.iconst 0, 1) := by decide +kernel
theorem dX5_ofLift_7 : decode cX5_ofLift 7 = .ok (.iconst 5, 1) := by decide +kernel
theorem dX5_ofLift_8 : decode cX5_ofLift 8 = .ok (.invokestatic 29, 3) := by decide +kernel
theorem dX5_ofLift_11 : decode cX5_ofLift 11 = .ok (.aload_n 0, 1) := by decide +kernel
theorem dX5_ofLift_12 : decode cX5_ofLift 12 = .ok (.getfield 10, 3) := by decide +kernel
theorem dX5_ofLift_15 : decode cX5_ofLift 15 = .ok (.getfield 44, 3) := by decide +kernel
theorem dX5_ofLift_18 : decode cX5_ofLift 18 = .ok (.iload_n 1, 1) := by decide +kernel
theorem dX5_ofLift_19 : decode cX5_ofLift 19 = .ok (.aaload, 1) := by decide +kernel
theorem dX5_ofLift_20 : decode cX5_ofLift 20 = .ok (.astore_n 3, 1) := by decide +kernel
theorem dX5_ofLift_21 : decode cX5_ofLift 21 = .ok (.iload_n 2, 1) := by decide +kernel
theorem dX5_ofLift_22 : decode cX5_ofLift 22 = .ok (.tableswitch 65 0 4 #[34, 39, 44, 52, 60], 34) := by decide +kernel
theorem dX5_ofLift_56 : decode cX5_ofLift 56 = .ok (.aload_n 3, 1) := by decide +kernel
theorem dX5_ofLift_57 : decode cX5_ofLift 57 = .ok (.getfield 48, 3) := by decide +kernel
theorem dX5_ofLift_60 : decode cX5_ofLift 60 = .ok (.ireturn, 1) := by decide +kernel
theorem dX5_ofLift_61 : decode cX5_ofLift 61 = .ok (.aload_n 3, 1) := by decide +kernel
theorem dX5_ofLift_62 : decode cX5_ofLift 62 = .ok (.getfield 53, 3) := by decide +kernel
theorem dX5_ofLift_65 : decode cX5_ofLift 65 = .ok (.ireturn, 1) := by decide +kernel
theorem dX5_ofLift_66 : decode cX5_ofLift 66 = .ok (.aload_n 3, 1) := by decide +kernel
theorem dX5_ofLift_67 : decode cX5_ofLift 67 = .ok (.getfield 86, 3) := by decide +kernel
theorem dX5_ofLift_70 : decode cX5_ofLift 70 = .ok (.invokestatic 208, 3) := by decide +kernel
theorem dX5_ofLift_73 : decode cX5_ofLift 73 = .ok (.ireturn, 1) := by decide +kernel
theorem dX5_ofLift_74 : decode cX5_ofLift 74 = .ok (.aload_n 3, 1) := by decide +kernel
theorem dX5_ofLift_75 : decode cX5_ofLift 75 = .ok (.getfield 95, 3) := by decide +kernel
theorem dX5_ofLift_78 : decode cX5_ofLift 78 = .ok (.invokestatic 208, 3) := by decide +kernel
theorem dX5_ofLift_81 : decode cX5_ofLift 81 = .ok (.ireturn, 1) := by decide +kernel
theorem dX5_ofLift_82 : decode cX5_ofLift 82 = .ok (.aload_n 3, 1) := by decide +kernel
theorem dX5_ofLift_83 : decode cX5_ofLift 83 = .ok (.getfield 241, 3) := by decide +kernel
theorem dX5_ofLift_86 : decode cX5_ofLift 86 = .ok (.ireturn, 1) := by decide +kernel
theorem dX5_ofLift_87 : decode cX5_ofLift 87 = .ok (.aload_n 0, 1) := by decide +kernel
theorem dX5_ofLift_88 : decode cX5_ofLift 88 = .ok (.getfield 10, 3) := by decide +kernel
theorem dX5_ofLift_91 : decode cX5_ofLift 91 = .ok (.iload_n 1, 1) := by decide +kernel
theorem dX5_ofLift_92 : decode cX5_ofLift 92 = .ok (.invokevirtual 244, 3) := by decide +kernel
theorem dX5_ofLift_95 : decode cX5_ofLift 95 = .ok (.ireturn, 1) := by decide +kernel
theorem dX5_many_0 : decode cX5_many 0 = .ok (.iload_n 1, 1) := by decide +kernel
theorem dX5_many_1 : decode cX5_many 1 = .ok (.iconst 0, 1) := by decide +kernel
theorem dX5_many_2 : decode cX5_many 2 = .ok (.bipush 14, 2) := by decide +kernel
theorem dX5_many_4 : decode cX5_many 4 = .ok (.invokestatic 29, 3) := by decide +kernel
theorem dX5_many_7 : decode cX5_many 7 = .ok (.iload_n 1, 1) := by decide +kernel
theorem dX5_many_8 : decode cX5_many 8 = .ok (.tableswitch 184 0 13 #[72, 80, 88, 96, 104, 112, 120, 128, 136, 144, 152, 160, 168, 176], 72) := by decide +kernel
theorem dX5_many_80 : decode cX5_many 80 = .ok (.aload_n 0, 1) := by decide +kernel
theorem dX5_many_81 : decode cX5_many 81 = .ok (.getfield 10, 3) := by decide +kernel
theorem dX5_many_84 : decode cX5_many 84 = .ok (.getfield 116, 3) := by decide +kernel
theorem dX5_many_87 : decode cX5_many 87 = .ok (.ireturn, 1) := by decide +kernel
theorem dX5_many_88 : decode cX5_many 88 = .ok (.aload_n 0, 1) := by decide +kernel
theorem dX5_many_89 : decode cX5_many 89 = .ok (.getfield 10, 3) := by decide +kernel
theorem dX5_many_92 : decode cX5_many 92 = .ok (.getfield 33, 3) := by decide +kernel
theorem dX5_many_95 : decode cX5_many 95 = .ok (.ireturn, 1) := by decide +kernel
theorem dX5_many_96 : decode cX5_many 96 = .ok (.aload_n 0, 1) := by decide +kernel
theorem dX5_many_97 : decode cX5_many 97 = .ok (.getfield 10, 3) := by decide +kernel
theorem dX5_many_100 : decode cX5_many 100 = .ok (.getfield 60, 3) := by decide +kernel
theorem dX5_many_103 : decode cX5_many 103 = .ok (.ireturn, 1) := by decide +kernel
theorem dX5_many_104 : decode cX5_many 104 = .ok (.aload_n 0, 1) := by decide +kernel
theorem dX5_many_105 : decode cX5_many 105 = .ok (.getfield 10, 3) := by decide +kernel
theorem dX5_many_108 : decode cX5_many 108 = .ok (.invokevirtual 248, 3) := by decide +kernel
theorem dX5_many_111 : decode cX5_many 111 = .ok (.ireturn, 1) := by decide +kernel
theorem dX5_many_112 : decode cX5_many 112 = .ok (.aload_n 0, 1) := by decide +kernel
theorem dX5_many_113 : decode cX5_many 113 = .ok (.getfield 10, 3) := by decide +kernel
theorem dX5_many_116 : decode cX5_many 116 = .ok (.getfield 104, 3) := by decide +kernel
theorem dX5_many_119 : decode cX5_many 119 = .ok (.ireturn, 1) := by decide +kernel
theorem dX5_many_120 : decode cX5_many 120 = .ok (.aload_n 0, 1) := by decide +kernel
theorem dX5_many_121 : decode cX5_many 121 = .ok (.getfield 10, 3) := by decide +kernel
theorem dX5_many_124 : decode cX5_many 124 = .ok (.getfield 135, 3) := by decide +kernel
theorem dX5_many_127 : decode cX5_many 127 = .ok (.ireturn, 1) := by decide +kernel
theorem dX5_many_128 : decode cX5_many 128 = .ok (.aload_n 0, 1) := by decide +kernel
theorem dX5_many_129 : decode cX5_many 129 = .ok (.getfield 10, 3) := by decide +kernel
theorem dX5_many_132 : decode cX5_many 132 = .ok (.getfield 183, 3) := by decide +kernel
theorem dX5_many_135 : decode cX5_many 135 = .ok (.ireturn, 1) := by decide +kernel
theorem dX5_many_136 : decode cX5_many 136 = .ok (.aload_n 0, 1) := by decide +kernel
theorem dX5_many_137 : decode cX5_many 137 = .ok (.getfield 10, 3) := by decide +kernel
theorem dX5_many_140 : decode cX5_many 140 = .ok (.getfield 113, 3) := by decide +kernel
theorem dX5_many_143 : decode cX5_many 143 = .ok (.ireturn, 1) := by decide +kernel
theorem dX5_many_144 : decode cX5_many 144 = .ok (.aload_n 0, 1) := by decide +kernel
theorem dX5_many_145 : decode cX5_many 145 = .ok (.getfield 10, 3) := by decide +kernel
theorem dX5_many_148 : decode cX5_many 148 = .ok (.getfield 121, 3) := by decide +kernel
theorem dX5_many_151 : decode cX5_many 151 = .ok (.ireturn, 1) := by decide +kernel
theorem dX5_many_152 : decode cX5_many 152 = .ok (.aload_n 0, 1) := by decide +kernel
theorem dX5_many_153 : decode cX5_many 153 = .ok (.getfield 10, 3) := by decide +kernel
theorem dX5_many_156 : decode cX5_many 156 = .ok (.getfield 251, 3) := by decide +kernel
theorem dX5_many_159 : decode cX5_many 159 = .ok (.ireturn, 1) := by decide +kernel
theorem dX5_many_160 : decode cX5_many 160 = .ok (.aload_n 0, 1) := by decide +kernel
theorem dX5_many_161 : decode cX5_many 161 = .ok (.getfield 10, 3) := by decide +kernel
theorem dX5_many_164 : decode cX5_many 164 = .ok (.getfield 254, 3) := by decide +kernel
theorem dX5_many_167 : decode cX5_many 167 = .ok (.ireturn, 1) := by decide +kernel
theorem dX5_many_168 : decode cX5_many 168 = .ok (.aload_n 0, 1) := by decide +kernel
theorem dX5_many_169 : decode cX5_many 169 = .ok (.getfield 10, 3) := by decide +kernel
theorem dX5_many_172 : decode cX5_many 172 = .ok (.getfield 257, 3) := by decide +kernel
theorem dX5_many_175 : decode cX5_many 175 = .ok (.ireturn, 1) := by decide +kernel
theorem dX5_many_176 : decode cX5_many 176 = .ok (.aload_n 0, 1) := by decide +kernel
theorem dX5_many_177 : decode cX5_many 177 = .ok (.getfield 10, 3) := by decide +kernel
theorem dX5_many_180 : decode cX5_many 180 = .ok (.getfield 260, 3) := by decide +kernel
theorem dX5_many_183 : decode cX5_many 183 = .ok (.ireturn, 1) := by decide +kernel
theorem dX5_many_184 : decode cX5_many 184 = .ok (.aload_n 0, 1) := by decide +kernel
theorem dX5_many_185 : decode cX5_many 185 = .ok (.getfield 10, 3) := by decide +kernel
theorem dX5_many_188 : decode cX5_many 188 = .ok (.getfield 261, 3) := by decide +kernel
theorem dX5_many_191 : decode cX5_many 191 = .ok (.ireturn, 1) := by decide +kernel
theorem dX5_many_192 : decode cX5_many 192 = .ok (.aload_n 0, 1) := by decide +kernel
theorem dX5_many_193 : decode cX5_many 193 = .ok (.getfield 10, 3) := by decide +kernel
theorem dX5_many_196 : decode cX5_many 196 = .ok (.invokevirtual 264, 3) := by decide +kernel
theorem dX5_many_199 : decode cX5_many 199 = .ok (.ireturn, 1) := by decide +kernel
theorem dX5_meanDepth_0 : decode cX5_meanDepth 0 = .ok (.aload_n 0, 1) := by decide +kernel
theorem dX5_meanDepth_1 : decode cX5_meanDepth 1 = .ok (.getfield 10, 3) := by decide +kernel
theorem dX5_meanDepth_4 : decode cX5_meanDepth 4 = .ok (.invokevirtual 267, 3) := by decide +kernel
theorem dX5_meanDepth_7 : decode cX5_meanDepth 7 = .ok (.istore_n 1, 1) := by decide +kernel
theorem dX5_meanDepth_8 : decode cX5_meanDepth 8 = .ok (.iload_n 1, 1) := by decide +kernel
theorem dX5_meanDepth_9 : decode cX5_meanDepth 9 = .ok (.iconst 1, 1) := by decide +kernel
theorem dX5_meanDepth_10 : decode cX5_meanDepth 10 = .ok (.if_icmp .ge 7, 3) := by decide +kernel
theorem dX5_meanDepth_13 : decode cX5_meanDepth 13 = .ok (.dconst 0, 1) := by decide +kernel
theorem dX5_meanDepth_14 : decode cX5_meanDepth 14 = .ok (.goto 14, 3) := by decide +kernel
theorem dX5_meanDepth_17 : decode cX5_meanDepth 17 = .ok (.aload_n 0, 1) := by decide +kernel
theorem dX5_meanDepth_18 : decode cX5_meanDepth 18 = .ok (.getfield 10, 3) := by decide +kernel
theorem dX5_meanDepth_21 : decode cX5_meanDepth 21 = .ok (.invokevirtual 264, 3) := by decide +kernel
theorem dX5_meanDepth_24 : decode cX5_meanDepth 24 = .ok (.i2d, 1) := by decide +kernel
theorem dX5_meanDepth_25 : decode cX5_meanDepth 25 = .ok (.iload_n 1, 1) := by decide +kernel
theorem dX5_meanDepth_26 : decode cX5_meanDepth 26 = .ok (.i2d, 1) := by decide +kernel
theorem dX5_meanDepth_27 : decode cX5_meanDepth 27 = .ok (.ddiv, 1) := by decide +kernel
theorem dX5_meanDepth_28 : decode cX5_meanDepth 28 = .ok (.dreturn, 1) := by decide +kernel
theorem dX5_wouldRisk_0 : decode cX5_wouldRisk 0 = .ok (.aload_n 0, 1) := by decide +kernel
theorem dX5_wouldRisk_1 : decode cX5_wouldRisk 1 = .ok (.iload_n 1, 1) := by decide +kernel
theorem dX5_wouldRisk_2 : decode cX5_wouldRisk 2 = .ok (.invokevirtual 98, 3) := by decide +kernel
theorem dX5_wouldRisk_5 : decode cX5_wouldRisk 5 = .ok (.iload_n 2, 1) := by decide +kernel
theorem dX5_wouldRisk_6 : decode cX5_wouldRisk 6 = .ok (.iconst 1, 1) := by decide +kernel
theorem dX5_wouldRisk_7 : decode cX5_wouldRisk 7 = .ok (.bipush 48, 2) := by decide +kernel
theorem dX5_wouldRisk_9 : decode cX5_wouldRisk 9 = .ok (.invokestatic 29, 3) := by decide +kernel
theorem dX5_wouldRisk_12 : decode cX5_wouldRisk 12 = .ok (.iload_n 3, 1) := by decide +kernel
theorem dX5_wouldRisk_13 : decode cX5_wouldRisk 13 = .ok (.bipush (-20), 2) := by decide +kernel
theorem dX5_wouldRisk_15 : decode cX5_wouldRisk 15 = .ok (.bipush 20, 2) := by decide +kernel
theorem dX5_wouldRisk_17 : decode cX5_wouldRisk 17 = .ok (.invokestatic 29, 3) := by decide +kernel
theorem dX5_wouldRisk_20 : decode cX5_wouldRisk 20 = .ok (.iload 4, 2) := by decide +kernel
theorem dX5_wouldRisk_22 : decode cX5_wouldRisk 22 = .ok (.iconst 0, 1) := by decide +kernel
theorem dX5_wouldRisk_23 : decode cX5_wouldRisk 23 = .ok (.bipush 9, 2) := by decide +kernel
theorem dX5_wouldRisk_25 : decode cX5_wouldRisk 25 = .ok (.invokestatic 29, 3) := by decide +kernel
theorem dX5_wouldRisk_28 : decode cX5_wouldRisk 28 = .ok (.aload_n 0, 1) := by decide +kernel
theorem dX5_wouldRisk_29 : decode cX5_wouldRisk 29 = .ok (.getfield 25, 3) := by decide +kernel
theorem dX5_wouldRisk_32 : decode cX5_wouldRisk 32 = .ok (.iload_n 3, 1) := by decide +kernel
theorem dX5_wouldRisk_33 : decode cX5_wouldRisk 33 = .ok (.iload 4, 2) := by decide +kernel
theorem dX5_wouldRisk_35 : decode cX5_wouldRisk 35 = .ok (.iconst 0, 1) := by decide +kernel
theorem dX5_wouldRisk_36 : decode cX5_wouldRisk 36 = .ok (.iconst 0, 1) := by decide +kernel
theorem dX5_wouldRisk_37 : decode cX5_wouldRisk 37 = .ok (.bipush 100, 2) := by decide +kernel
theorem dX5_wouldRisk_39 : decode cX5_wouldRisk 39 = .ok (.invokevirtual 124, 3) := by decide +kernel
theorem dX5_wouldRisk_42 : decode cX5_wouldRisk 42 = .ok (.aload_n 0, 1) := by decide +kernel
theorem dX5_wouldRisk_43 : decode cX5_wouldRisk 43 = .ok (.getfield 16, 3) := by decide +kernel
theorem dX5_wouldRisk_46 : decode cX5_wouldRisk 46 = .ok (.aload_n 0, 1) := by decide +kernel
theorem dX5_wouldRisk_47 : decode cX5_wouldRisk 47 = .ok (.getfield 10, 3) := by decide +kernel
theorem dX5_wouldRisk_50 : decode cX5_wouldRisk 50 = .ok (.invokevirtual 270, 3) := by decide +kernel
theorem dX5_wouldRisk_53 : decode cX5_wouldRisk 53 = .ok (.iconst 0, 1) := by decide +kernel
theorem dX5_wouldRisk_54 : decode cX5_wouldRisk 54 = .ok (.istore 5, 2) := by decide +kernel
theorem dX5_wouldRisk_56 : decode cX5_wouldRisk 56 = .ok (.iconst 0, 1) := by decide +kernel
theorem dX5_wouldRisk_57 : decode cX5_wouldRisk 57 = .ok (.istore 6, 2) := by decide +kernel
theorem dX5_wouldRisk_59 : decode cX5_wouldRisk 59 = .ok (.iload 6, 2) := by decide +kernel
theorem dX5_wouldRisk_61 : decode cX5_wouldRisk 61 = .ok (.iload_n 2, 1) := by decide +kernel
theorem dX5_wouldRisk_62 : decode cX5_wouldRisk 62 = .ok (.if_icmp .ge 39, 3) := by decide +kernel
theorem dX5_wouldRisk_65 : decode cX5_wouldRisk 65 = .ok (.aload_n 0, 1) := by decide +kernel
theorem dX5_wouldRisk_66 : decode cX5_wouldRisk 66 = .ok (.getfield 16, 3) := by decide +kernel
theorem dX5_wouldRisk_69 : decode cX5_wouldRisk 69 = .ok (.aload_n 0, 1) := by decide +kernel
theorem dX5_wouldRisk_70 : decode cX5_wouldRisk 70 = .ok (.getfield 25, 3) := by decide +kernel
theorem dX5_wouldRisk_73 : decode cX5_wouldRisk 73 = .ok (.invokevirtual 128, 3) := by decide +kernel
theorem dX5_wouldRisk_76 : decode cX5_wouldRisk 76 = .ok (.iload 5, 2) := by decide +kernel
theorem dX5_wouldRisk_78 : decode cX5_wouldRisk 78 = .ok (.aload_n 0, 1) := by decide +kernel
theorem dX5_wouldRisk_79 : decode cX5_wouldRisk 79 = .ok (.getfield 16, 3) := by decide +kernel
theorem dX5_wouldRisk_82 : decode cX5_wouldRisk 82 = .ok (.getfield 65, 3) := by decide +kernel
theorem dX5_wouldRisk_85 : decode cX5_wouldRisk 85 = .ok (.iload_n 1, 1) := by decide +kernel
theorem dX5_wouldRisk_86 : decode cX5_wouldRisk 86 = .ok (.aaload, 1) := by decide +kernel
theorem dX5_wouldRisk_87 : decode cX5_wouldRisk 87 = .ok (.getfield 274, 3) := by decide +kernel
theorem dX5_wouldRisk_90 : decode cX5_wouldRisk 90 = .ok (.invokestatic 277, 3) := by decide +kernel
theorem dX5_wouldRisk_93 : decode cX5_wouldRisk 93 = .ok (.istore 5, 2) := by decide +kernel
theorem dX5_wouldRisk_95 : decode cX5_wouldRisk 95 = .ok (.iinc 6 1, 3) := by decide +kernel
theorem dX5_wouldRisk_98 : decode cX5_wouldRisk 98 = .ok (.goto (-39), 3) := by decide +kernel
theorem dX5_wouldRisk_101 : decode cX5_wouldRisk 101 = .ok (.iload 5, 2) := by decide +kernel
theorem dX5_wouldRisk_103 : decode cX5_wouldRisk 103 = .ok (.ireturn, 1) := by decide +kernel
theorem dX5_wouldMake_0 : decode cX5_wouldMake 0 = .ok (.aload_n 0, 1) := by decide +kernel
theorem dX5_wouldMake_1 : decode cX5_wouldMake 1 = .ok (.iload_n 1, 1) := by decide +kernel
theorem dX5_wouldMake_2 : decode cX5_wouldMake 2 = .ok (.invokevirtual 98, 3) := by decide +kernel
theorem dX5_wouldMake_5 : decode cX5_wouldMake 5 = .ok (.iload_n 2, 1) := by decide +kernel
theorem dX5_wouldMake_6 : decode cX5_wouldMake 6 = .ok (.iconst 1, 1) := by decide +kernel
theorem dX5_wouldMake_7 : decode cX5_wouldMake 7 = .ok (.bipush 48, 2) := by decide +kernel
theorem dX5_wouldMake_9 : decode cX5_wouldMake 9 = .ok (.invokestatic 29, 3) := by decide +kernel
theorem dX5_wouldMake_12 : decode cX5_wouldMake 12 = .ok (.iload_n 3, 1) := by decide +kernel
theorem dX5_wouldMake_13 : decode cX5_wouldMake 13 = .ok (.bipush (-20), 2) := by decide +kernel
theorem dX5_wouldMake_15 : decode cX5_wouldMake 15 = .ok (.bipush 20, 2) := by decide +kernel
theorem dX5_wouldMake_17 : decode cX5_wouldMake 17 = .ok (.invokestatic 29, 3) := by decide +kernel
theorem dX5_wouldMake_20 : decode cX5_wouldMake 20 = .ok (.iload 4, 2) := by decide +kernel
theorem dX5_wouldMake_22 : decode cX5_wouldMake 22 = .ok (.iconst 0, 1) := by decide +kernel
theorem dX5_wouldMake_23 : decode cX5_wouldMake 23 = .ok (.bipush 100, 2) := by decide +kernel
theorem dX5_wouldMake_25 : decode cX5_wouldMake 25 = .ok (.invokestatic 29, 3) := by decide +kernel
theorem dX5_wouldMake_28 : decode cX5_wouldMake 28 = .ok (.aload_n 0, 1) := by decide +kernel
theorem dX5_wouldMake_29 : decode cX5_wouldMake 29 = .ok (.getfield 10, 3) := by decide +kernel
theorem dX5_wouldMake_32 : decode cX5_wouldMake 32 = .ok (.getfield 65, 3) := by decide +kernel
theorem dX5_wouldMake_35 : decode cX5_wouldMake 35 = .ok (.iload_n 1, 1) := by decide +kernel
theorem dX5_wouldMake_36 : decode cX5_wouldMake 36 = .ok (.aaload, 1) := by decide +kernel
theorem dX5_wouldMake_37 : decode cX5_wouldMake 37 = .ok (.getfield 101, 3) := by decide +kernel
theorem dX5_wouldMake_40 : decode cX5_wouldMake 40 = .ok (.iconst 1, 1) := by decide +kernel
theorem dX5_wouldMake_41 : decode cX5_wouldMake 41 = .ok (.if_icmp .ge 5, 3) := by decide +kernel
theorem dX5_wouldMake_44 : decode cX5_wouldMake 44 = .ok (.iconst 0, 1) := by decide +kernel
theorem dX5_wouldMake_45 : decode cX5_wouldMake 45 = .ok (.ireturn, 1) := by decide +kernel
theorem dX5_wouldMake_46 : decode cX5_wouldMake 46 = .ok (.aload_n 0, 1) := by decide +kernel
theorem dX5_wouldMake_47 : decode cX5_wouldMake 47 = .ok (.getfield 25, 3) := by decide +kernel
theorem dX5_wouldMake_50 : decode cX5_wouldMake 50 = .ok (.iload_n 3, 1) := by decide +kernel
theorem dX5_wouldMake_51 : decode cX5_wouldMake 51 = .ok (.iconst 0, 1) := by decide +kernel
theorem dX5_wouldMake_52 : decode cX5_wouldMake 52 = .ok (.iconst 0, 1) := by decide +kernel
theorem dX5_wouldMake_53 : decode cX5_wouldMake 53 = .ok (.iconst 0, 1) := by decide +kernel
theorem dX5_wouldMake_54 : decode cX5_wouldMake 54 = .ok (.iload 4, 2) := by decide +kernel
theorem dX5_wouldMake_56 : decode cX5_wouldMake 56 = .ok (.invokevirtual 124, 3) := by decide +kernel
theorem dX5_wouldMake_59 : decode cX5_wouldMake 59 = .ok (.aload_n 0, 1) := by decide +kernel
theorem dX5_wouldMake_60 : decode cX5_wouldMake 60 = .ok (.getfield 19, 3) := by decide +kernel
theorem dX5_wouldMake_63 : decode cX5_wouldMake 63 = .ok (.aload_n 0, 1) := by decide +kernel
theorem dX5_wouldMake_64 : decode cX5_wouldMake 64 = .ok (.getfield 10, 3) := by decide +kernel
theorem dX5_wouldMake_67 : decode cX5_wouldMake 67 = .ok (.invokevirtual 270, 3) := by decide +kernel
theorem dX5_wouldMake_70 : decode cX5_wouldMake 70 = .ok (.aload_n 0, 1) := by decide +kernel
theorem dX5_wouldMake_71 : decode cX5_wouldMake 71 = .ok (.getfield 19, 3) := by decide +kernel
theorem dX5_wouldMake_74 : decode cX5_wouldMake 74 = .ok (.invokevirtual 280, 3) := by decide +kernel
theorem dX5_wouldMake_77 : decode cX5_wouldMake 77 = .ok (.aload_n 0, 1) := by decide +kernel
theorem dX5_wouldMake_78 : decode cX5_wouldMake 78 = .ok (.getfield 16, 3) := by decide +kernel
theorem dX5_wouldMake_81 : decode cX5_wouldMake 81 = .ok (.aload_n 0, 1) := by decide +kernel
theorem dX5_wouldMake_82 : decode cX5_wouldMake 82 = .ok (.getfield 19, 3) := by decide +kernel
theorem dX5_wouldMake_85 : decode cX5_wouldMake 85 = .ok (.invokevirtual 270, 3) := by decide +kernel
theorem dX5_wouldMake_88 : decode cX5_wouldMake 88 = .ok (.aload_n 0, 1) := by decide +kernel
theorem dX5_wouldMake_89 : decode cX5_wouldMake 89 = .ok (.getfield 16, 3) := by decide +kernel
theorem dX5_wouldMake_92 : decode cX5_wouldMake 92 = .ok (.getfield 65, 3) := by decide +kernel
theorem dX5_wouldMake_95 : decode cX5_wouldMake 95 = .ok (.iload_n 1, 1) := by decide +kernel
theorem dX5_wouldMake_96 : decode cX5_wouldMake 96 = .ok (.aaload, 1) := by decide +kernel
theorem dX5_wouldMake_97 : decode cX5_wouldMake 97 = .ok (.aload_n 0, 1) := by decide +kernel
theorem dX5_wouldMake_98 : decode cX5_wouldMake 98 = .ok (.getfield 10, 3) := by decide +kernel
theorem dX5_wouldMake_101 : decode cX5_wouldMake 101 = .ok (.getfield 65, 3) := by decide +kernel
theorem dX5_wouldMake_104 : decode cX5_wouldMake 104 = .ok (.iload_n 1, 1) := by decide +kernel
theorem dX5_wouldMake_105 : decode cX5_wouldMake 105 = .ok (.aaload, 1) := by decide +kernel
theorem dX5_wouldMake_106 : decode cX5_wouldMake 106 = .ok (.getfield 101, 3) := by decide +kernel
theorem dX5_wouldMake_109 : decode cX5_wouldMake 109 = .ok (.putfield 101, 3) := by decide +kernel
theorem dX5_wouldMake_112 : decode cX5_wouldMake 112 = .ok (.iconst 0, 1) := by decide +kernel
theorem dX5_wouldMake_113 : decode cX5_wouldMake 113 = .ok (.istore 5, 2) := by decide +kernel
theorem dX5_wouldMake_115 : decode cX5_wouldMake 115 = .ok (.iload 5, 2) := by decide +kernel
theorem dX5_wouldMake_117 : decode cX5_wouldMake 117 = .ok (.iload_n 2, 1) := by decide +kernel
theorem dX5_wouldMake_118 : decode cX5_wouldMake 118 = .ok (.if_icmp .ge 31, 3) := by decide +kernel
theorem dX5_wouldMake_121 : decode cX5_wouldMake 121 = .ok (.aload_n 0, 1) := by decide +kernel
theorem dX5_wouldMake_122 : decode cX5_wouldMake 122 = .ok (.getfield 16, 3) := by decide +kernel
theorem dX5_wouldMake_125 : decode cX5_wouldMake 125 = .ok (.aload_n 0, 1) := by decide +kernel
theorem dX5_wouldMake_126 : decode cX5_wouldMake 126 = .ok (.getfield 25, 3) := by decide +kernel
theorem dX5_wouldMake_129 : decode cX5_wouldMake 129 = .ok (.invokevirtual 128, 3) := by decide +kernel
theorem dX5_wouldMake_132 : decode cX5_wouldMake 132 = .ok (.aload_n 0, 1) := by decide +kernel
theorem dX5_wouldMake_133 : decode cX5_wouldMake 133 = .ok (.getfield 19, 3) := by decide +kernel
theorem dX5_wouldMake_136 : decode cX5_wouldMake 136 = .ok (.aload_n 0, 1) := by decide +kernel
theorem dX5_wouldMake_137 : decode cX5_wouldMake 137 = .ok (.getfield 25, 3) := by decide +kernel
theorem dX5_wouldMake_140 : decode cX5_wouldMake 140 = .ok (.invokevirtual 128, 3) := by decide +kernel
theorem dX5_wouldMake_143 : decode cX5_wouldMake 143 = .ok (.iinc 5 1, 3) := by decide +kernel
theorem dX5_wouldMake_146 : decode cX5_wouldMake 146 = .ok (.goto (-31), 3) := by decide +kernel
theorem dX5_wouldMake_149 : decode cX5_wouldMake 149 = .ok (.aload_n 0, 1) := by decide +kernel
theorem dX5_wouldMake_150 : decode cX5_wouldMake 150 = .ok (.getfield 16, 3) := by decide +kernel
theorem dX5_wouldMake_153 : decode cX5_wouldMake 153 = .ok (.getfield 65, 3) := by decide +kernel
theorem dX5_wouldMake_156 : decode cX5_wouldMake 156 = .ok (.iload_n 1, 1) := by decide +kernel
theorem dX5_wouldMake_157 : decode cX5_wouldMake 157 = .ok (.aaload, 1) := by decide +kernel
theorem dX5_wouldMake_158 : decode cX5_wouldMake 158 = .ok (.getfield 169, 3) := by decide +kernel
theorem dX5_wouldMake_161 : decode cX5_wouldMake 161 = .ok (.invokevirtual 202, 3) := by decide +kernel
theorem dX5_wouldMake_164 : decode cX5_wouldMake 164 = .ok (.aload_n 0, 1) := by decide +kernel
theorem dX5_wouldMake_165 : decode cX5_wouldMake 165 = .ok (.getfield 19, 3) := by decide +kernel
theorem dX5_wouldMake_168 : decode cX5_wouldMake 168 = .ok (.getfield 65, 3) := by decide +kernel
theorem dX5_wouldMake_171 : decode cX5_wouldMake 171 = .ok (.iload_n 1, 1) := by decide +kernel
theorem dX5_wouldMake_172 : decode cX5_wouldMake 172 = .ok (.aaload, 1) := by decide +kernel
theorem dX5_wouldMake_173 : decode cX5_wouldMake 173 = .ok (.getfield 169, 3) := by decide +kernel
theorem dX5_wouldMake_176 : decode cX5_wouldMake 176 = .ok (.invokevirtual 202, 3) := by decide +kernel
theorem dX5_wouldMake_179 : decode cX5_wouldMake 179 = .ok (.isub, 1) := by decide +kernel
theorem dX5_wouldMake_180 : decode cX5_wouldMake 180 = .ok (.ireturn, 1) := by decide +kernel
theorem dX5_nextBlast_0 : decode cX5_nextBlast 0 = .ok (.iconst (-1), 1) := by decide +kernel
theorem dX5_nextBlast_1 : decode cX5_nextBlast 1 = .ok (.istore_n 1, 1) := by decide +kernel
theorem dX5_nextBlast_2 : decode cX5_nextBlast 2 = .ok (.iconst 0, 1) := by decide +kernel
theorem dX5_nextBlast_3 : decode cX5_nextBlast 3 = .ok (.istore_n 2, 1) := by decide +kernel
theorem dX5_nextBlast_4 : decode cX5_nextBlast 4 = .ok (.iconst 0, 1) := by decide +kernel
theorem dX5_nextBlast_5 : decode cX5_nextBlast 5 = .ok (.istore_n 3, 1) := by decide +kernel
theorem dX5_nextBlast_6 : decode cX5_nextBlast 6 = .ok (.iload_n 3, 1) := by decide +kernel
theorem dX5_nextBlast_7 : decode cX5_nextBlast 7 = .ok (.aload_n 0, 1) := by decide +kernel
theorem dX5_nextBlast_8 : decode cX5_nextBlast 8 = .ok (.getfield 10, 3) := by decide +kernel
theorem dX5_nextBlast_11 : decode cX5_nextBlast 11 = .ok (.getfield 60, 3) := by decide +kernel
theorem dX5_nextBlast_14 : decode cX5_nextBlast 14 = .ok (.if_icmp .ge 85, 3) := by decide +kernel
theorem dX5_nextBlast_17 : decode cX5_nextBlast 17 = .ok (.aload_n 0, 1) := by decide +kernel
theorem dX5_nextBlast_18 : decode cX5_nextBlast 18 = .ok (.getfield 10, 3) := by decide +kernel
theorem dX5_nextBlast_21 : decode cX5_nextBlast 21 = .ok (.getfield 65, 3) := by decide +kernel
theorem dX5_nextBlast_24 : decode cX5_nextBlast 24 = .ok (.iload_n 3, 1) := by decide +kernel
theorem dX5_nextBlast_25 : decode cX5_nextBlast 25 = .ok (.aaload, 1) := by decide +kernel
theorem dX5_nextBlast_26 : decode cX5_nextBlast 26 = .ok (.astore 4, 2) := by decide +kernel
theorem dX5_nextBlast_28 : decode cX5_nextBlast 28 = .ok (.aload 4, 2) := by decide +kernel
theorem dX5_nextBlast_30 : decode cX5_nextBlast 30 = .ok (.getfield 194, 3) := by decide +kernel
theorem dX5_nextBlast_33 : decode cX5_nextBlast 33 = .ok (.ifCond .ne 25, 3) := by decide +kernel
theorem dX5_nextBlast_36 : decode cX5_nextBlast 36 = .ok (.aload 4, 2) := by decide +kernel
theorem dX5_nextBlast_38 : decode cX5_nextBlast 38 = .ok (.getfield 140, 3) := by decide +kernel
theorem dX5_nextBlast_41 : decode cX5_nextBlast 41 = .ok (.ifCond .ne 17, 3) := by decide +kernel
theorem dX5_nextBlast_44 : decode cX5_nextBlast 44 = .ok (.aload 4, 2) := by decide +kernel
theorem dX5_nextBlast_46 : decode cX5_nextBlast 46 = .ok (.invokevirtual 143, 3) := by decide +kernel
theorem dX5_nextBlast_49 : decode cX5_nextBlast 49 = .ok (.bipush 40, 2) := by decide +kernel
theorem dX5_nextBlast_51 : decode cX5_nextBlast 51 = .ok (.if_icmp .lt 7, 3) := by decide +kernel
theorem dX5_nextBlast_54 : decode cX5_nextBlast 54 = .ok (.iconst 1, 1) := by decide +kernel
theorem dX5_nextBlast_55 : decode cX5_nextBlast 55 = .ok (.goto 4, 3) := by decide +kernel
theorem dX5_nextBlast_58 : decode cX5_nextBlast 58 = .ok (.iconst 0, 1) := by decide +kernel
theorem dX5_nextBlast_59 : decode cX5_nextBlast 59 = .ok (.istore 5, 2) := by decide +kernel
theorem dX5_nextBlast_61 : decode cX5_nextBlast 61 = .ok (.iload 5, 2) := by decide +kernel
theorem dX5_nextBlast_63 : decode cX5_nextBlast 63 = .ok (.ifCond .eq 16, 3) := by decide +kernel
theorem dX5_nextBlast_66 : decode cX5_nextBlast 66 = .ok (.aload 4, 2) := by decide +kernel
theorem dX5_nextBlast_68 : decode cX5_nextBlast 68 = .ok (.aload 4, 2) := by decide +kernel
theorem dX5_nextBlast_70 : decode cX5_nextBlast 70 = .ok (.invokevirtual 212, 3) := by decide +kernel
theorem dX5_nextBlast_73 : decode cX5_nextBlast 73 = .ok (.invokevirtual 283, 3) := by decide +kernel
theorem dX5_nextBlast_76 : decode cX5_nextBlast 76 = .ok (.goto 4, 3) := by decide +kernel
theorem dX5_nextBlast_79 : decode cX5_nextBlast 79 = .ok (.iconst 0, 1) := by decide +kernel
theorem dX5_nextBlast_80 : decode cX5_nextBlast 80 = .ok (.istore 6, 2) := by decide +kernel
theorem dX5_nextBlast_82 : decode cX5_nextBlast 82 = .ok (.iload 6, 2) := by decide +kernel
theorem dX5_nextBlast_84 : decode cX5_nextBlast 84 = .ok (.iload_n 2, 1) := by decide +kernel
theorem dX5_nextBlast_85 : decode cX5_nextBlast 85 = .ok (.if_icmp .le 8, 3) := by decide +kernel
theorem dX5_nextBlast_88 : decode cX5_nextBlast 88 = .ok (.iload 6, 2) := by decide +kernel
theorem dX5_nextBlast_90 : decode cX5_nextBlast 90 = .ok (.istore_n 2, 1) := by decide +kernel
theorem dX5_nextBlast_91 : decode cX5_nextBlast 91 = .ok (.iload_n 3, 1) := by decide +kernel
theorem dX5_nextBlast_92 : decode cX5_nextBlast 92 = .ok (.istore_n 1, 1) := by decide +kernel
theorem dX5_nextBlast_93 : decode cX5_nextBlast 93 = .ok (.iinc 3 1, 3) := by decide +kernel
theorem dX5_nextBlast_96 : decode cX5_nextBlast 96 = .ok (.goto (-90), 3) := by decide +kernel
theorem dX5_nextBlast_99 : decode cX5_nextBlast 99 = .ok (.iload_n 1, 1) := by decide +kernel
theorem dX5_nextBlast_100 : decode cX5_nextBlast 100 = .ok (.ireturn, 1) := by decide +kernel
theorem dX5_couldOpen_0 : decode cX5_couldOpen 0 = .ok (.iconst 0, 1) := by decide +kernel
theorem dX5_couldOpen_1 : decode cX5_couldOpen 1 = .ok (.istore_n 1, 1) := by decide +kernel
theorem dX5_couldOpen_2 : decode cX5_couldOpen 2 = .ok (.iconst 0, 1) := by decide +kernel
theorem dX5_couldOpen_3 : decode cX5_couldOpen 3 = .ok (.istore_n 2, 1) := by decide +kernel
theorem dX5_couldOpen_4 : decode cX5_couldOpen 4 = .ok (.iload_n 2, 1) := by decide +kernel
theorem dX5_couldOpen_5 : decode cX5_couldOpen 5 = .ok (.aload_n 0, 1) := by decide +kernel
theorem dX5_couldOpen_6 : decode cX5_couldOpen 6 = .ok (.getfield 10, 3) := by decide +kernel
theorem dX5_couldOpen_9 : decode cX5_couldOpen 9 = .ok (.getfield 60, 3) := by decide +kernel
theorem dX5_couldOpen_12 : decode cX5_couldOpen 12 = .ok (.if_icmp .ge 81, 3) := by decide +kernel
theorem dX5_couldOpen_15 : decode cX5_couldOpen 15 = .ok (.aload_n 0, 1) := by decide +kernel
theorem dX5_couldOpen_16 : decode cX5_couldOpen 16 = .ok (.getfield 10, 3) := by decide +kernel
theorem dX5_couldOpen_19 : decode cX5_couldOpen 19 = .ok (.getfield 65, 3) := by decide +kernel
theorem dX5_couldOpen_22 : decode cX5_couldOpen 22 = .ok (.iload_n 2, 1) := by decide +kernel
theorem dX5_couldOpen_23 : decode cX5_couldOpen 23 = .ok (.aaload, 1) := by decide +kernel
theorem dX5_couldOpen_24 : decode cX5_couldOpen 24 = .ok (.astore_n 3, 1) := by decide +kernel
theorem dX5_couldOpen_25 : decode cX5_couldOpen 25 = .ok (.aload_n 0, 1) := by decide +kernel
theorem dX5_couldOpen_26 : decode cX5_couldOpen 26 = .ok (.getfield 10, 3) := by decide +kernel
theorem dX5_couldOpen_29 : decode cX5_couldOpen 29 = .ok (.iload_n 2, 1) := by decide +kernel
theorem dX5_couldOpen_30 : decode cX5_couldOpen 30 = .ok (.aload_n 3, 1) := by decide +kernel
theorem dX5_couldOpen_31 : decode cX5_couldOpen 31 = .ok (.invokevirtual 153, 3) := by decide +kernel
theorem dX5_couldOpen_34 : decode cX5_couldOpen 34 = .ok (.istore 4, 2) := by decide +kernel
theorem dX5_couldOpen_36 : decode cX5_couldOpen 36 = .ok (.aload_n 0, 1) := by decide +kernel
theorem dX5_couldOpen_37 : decode cX5_couldOpen 37 = .ok (.getfield 10, 3) := by decide +kernel
theorem dX5_couldOpen_40 : decode cX5_couldOpen 40 = .ok (.aload_n 3, 1) := by decide +kernel
theorem dX5_couldOpen_41 : decode cX5_couldOpen 41 = .ok (.invokevirtual 191, 3) := by decide +kernel
theorem dX5_couldOpen_44 : decode cX5_couldOpen 44 = .ok (.ifCond .eq 18, 3) := by decide +kernel
theorem dX5_couldOpen_47 : decode cX5_couldOpen 47 = .ok (.aload_n 0, 1) := by decide +kernel
theorem dX5_couldOpen_48 : decode cX5_couldOpen 48 = .ok (.getfield 10, 3) := by decide +kernel
theorem dX5_couldOpen_51 : decode cX5_couldOpen 51 = .ok (.aload_n 3, 1) := by decide +kernel
theorem dX5_couldOpen_52 : decode cX5_couldOpen 52 = .ok (.iconst 1, 1) := by decide +kernel
theorem dX5_couldOpen_53 : decode cX5_couldOpen 53 = .ok (.iload 4, 2) := by decide +kernel
theorem dX5_couldOpen_55 : decode cX5_couldOpen 55 = .ok (.iconst 1, 1) := by decide +kernel
theorem dX5_couldOpen_56 : decode cX5_couldOpen 56 = .ok (.invokevirtual 286, 3) := by decide +kernel
theorem dX5_couldOpen_59 : decode cX5_couldOpen 59 = .ok (.ifCond .ne 7, 3) := by decide +kernel
theorem dX5_couldOpen_62 : decode cX5_couldOpen 62 = .ok (.iconst 1, 1) := by decide +kernel
theorem dX5_couldOpen_63 : decode cX5_couldOpen 63 = .ok (.goto 4, 3) := by decide +kernel
theorem dX5_couldOpen_66 : decode cX5_couldOpen 66 = .ok (.iconst 0, 1) := by decide +kernel
theorem dX5_couldOpen_67 : decode cX5_couldOpen 67 = .ok (.istore 5, 2) := by decide +kernel
theorem dX5_couldOpen_69 : decode cX5_couldOpen 69 = .ok (.aload_n 3, 1) := by decide +kernel
theorem dX5_couldOpen_70 : decode cX5_couldOpen 70 = .ok (.getfield 194, 3) := by decide +kernel
theorem dX5_couldOpen_73 : decode cX5_couldOpen 73 = .ok (.ifCond .ne 14, 3) := by decide +kernel
theorem dX5_couldOpen_76 : decode cX5_couldOpen 76 = .ok (.iload 5, 2) := by decide +kernel
theorem dX5_couldOpen_78 : decode cX5_couldOpen 78 = .ok (.ifCond .eq 9, 3) := by decide +kernel
theorem dX5_couldOpen_81 : decode cX5_couldOpen 81 = .ok (.iload_n 1, 1) := by decide +kernel
theorem dX5_couldOpen_82 : decode cX5_couldOpen 82 = .ok (.iconst 1, 1) := by decide +kernel
theorem dX5_couldOpen_83 : decode cX5_couldOpen 83 = .ok (.iload_n 2, 1) := by decide +kernel
theorem dX5_couldOpen_84 : decode cX5_couldOpen 84 = .ok (.ishl, 1) := by decide +kernel
theorem dX5_couldOpen_85 : decode cX5_couldOpen 85 = .ok (.ior, 1) := by decide +kernel
theorem dX5_couldOpen_86 : decode cX5_couldOpen 86 = .ok (.istore_n 1, 1) := by decide +kernel
theorem dX5_couldOpen_87 : decode cX5_couldOpen 87 = .ok (.iinc 2 1, 3) := by decide +kernel
theorem dX5_couldOpen_90 : decode cX5_couldOpen 90 = .ok (.goto (-86), 3) := by decide +kernel
theorem dX5_couldOpen_93 : decode cX5_couldOpen 93 = .ok (.iload_n 1, 1) := by decide +kernel
theorem dX5_couldOpen_94 : decode cX5_couldOpen 94 = .ok (.ireturn, 1) := by decide +kernel
theorem dX5_digest_0 : decode cX5_digest 0 = .ok (.ldc2_w 290, 3) := by decide +kernel
theorem dX5_digest_3 : decode cX5_digest 3 = .ok (.lstore_n 1, 1) := by decide +kernel
theorem dX5_digest_4 : decode cX5_digest 4 = .ok (.iconst 0, 1) := by decide +kernel
theorem dX5_digest_5 : decode cX5_digest 5 = .ok (.istore_n 3, 1) := by decide +kernel
theorem dX5_digest_6 : decode cX5_digest 6 = .ok (.iload_n 3, 1) := by decide +kernel
theorem dX5_digest_7 : decode cX5_digest 7 = .ok (.bipush 14, 2) := by decide +kernel
theorem dX5_digest_9 : decode cX5_digest 9 = .ok (.if_icmp .gt 22, 3) := by decide +kernel
theorem dX5_digest_12 : decode cX5_digest 12 = .ok (.lload_n 1, 1) := by decide +kernel
theorem dX5_digest_13 : decode cX5_digest 13 = .ok (.ldc2_w 292, 3) := by decide +kernel
theorem dX5_digest_16 : decode cX5_digest 16 = .ok (.lmul, 1) := by decide +kernel
theorem dX5_digest_17 : decode cX5_digest 17 = .ok (.aload_n 0, 1) := by decide +kernel
theorem dX5_digest_18 : decode cX5_digest 18 = .ok (.iload_n 3, 1) := by decide +kernel
theorem dX5_digest_19 : decode cX5_digest 19 = .ok (.invokevirtual 294, 3) := by decide +kernel
theorem dX5_digest_22 : decode cX5_digest 22 = .ok (.i2l, 1) := by decide +kernel
theorem dX5_digest_23 : decode cX5_digest 23 = .ok (.ladd, 1) := by decide +kernel
theorem dX5_digest_24 : decode cX5_digest 24 = .ok (.lstore_n 1, 1) := by decide +kernel
theorem dX5_digest_25 : decode cX5_digest 25 = .ok (.iinc 3 1, 3) := by decide +kernel
theorem dX5_digest_28 : decode cX5_digest 28 = .ok (.goto (-22), 3) := by decide +kernel
theorem dX5_digest_31 : decode cX5_digest 31 = .ok (.iconst 0, 1) := by decide +kernel
theorem dX5_digest_32 : decode cX5_digest 32 = .ok (.istore_n 3, 1) := by decide +kernel
theorem dX5_digest_33 : decode cX5_digest 33 = .ok (.iload_n 3, 1) := by decide +kernel
theorem dX5_digest_34 : decode cX5_digest 34 = .ok (.aload_n 0, 1) := by decide +kernel
theorem dX5_digest_35 : decode cX5_digest 35 = .ok (.getfield 10, 3) := by decide +kernel
theorem dX5_digest_38 : decode cX5_digest 38 = .ok (.getfield 60, 3) := by decide +kernel
theorem dX5_digest_41 : decode cX5_digest 41 = .ok (.if_icmp .ge 84, 3) := by decide +kernel
theorem dX5_digest_44 : decode cX5_digest 44 = .ok (.iconst 0, 1) := by decide +kernel
theorem dX5_digest_45 : decode cX5_digest 45 = .ok (.istore 4, 2) := by decide +kernel
theorem dX5_digest_47 : decode cX5_digest 47 = .ok (.iload 4, 2) := by decide +kernel
theorem dX5_digest_49 : decode cX5_digest 49 = .ok (.bipush 13, 2) := by decide +kernel
theorem dX5_digest_51 : decode cX5_digest 51 = .ok (.if_icmp .gt 24, 3) := by decide +kernel
theorem dX5_digest_54 : decode cX5_digest 54 = .ok (.lload_n 1, 1) := by decide +kernel
theorem dX5_digest_55 : decode cX5_digest 55 = .ok (.ldc2_w 292, 3) := by decide +kernel
theorem dX5_digest_58 : decode cX5_digest 58 = .ok (.lmul, 1) := by decide +kernel
theorem dX5_digest_59 : decode cX5_digest 59 = .ok (.aload_n 0, 1) := by decide +kernel
theorem dX5_digest_60 : decode cX5_digest 60 = .ok (.iload_n 3, 1) := by decide +kernel
theorem dX5_digest_61 : decode cX5_digest 61 = .ok (.iload 4, 2) := by decide +kernel
theorem dX5_digest_63 : decode cX5_digest 63 = .ok (.invokevirtual 297, 3) := by decide +kernel
theorem dX5_digest_66 : decode cX5_digest 66 = .ok (.i2l, 1) := by decide +kernel
theorem dX5_digest_67 : decode cX5_digest 67 = .ok (.ladd, 1) := by decide +kernel
theorem dX5_digest_68 : decode cX5_digest 68 = .ok (.lstore_n 1, 1) := by decide +kernel
theorem dX5_digest_69 : decode cX5_digest 69 = .ok (.iinc 4 1, 3) := by decide +kernel
theorem dX5_digest_72 : decode cX5_digest 72 = .ok (.goto (-25), 3) := by decide +kernel
theorem dX5_digest_75 : decode cX5_digest 75 = .ok (.aload_n 0, 1) := by decide +kernel
theorem dX5_digest_76 : decode cX5_digest 76 = .ok (.lload_n 1, 1) := by decide +kernel
theorem dX5_digest_77 : decode cX5_digest 77 = .ok (.iload_n 3, 1) := by decide +kernel
theorem dX5_digest_78 : decode cX5_digest 78 = .ok (.invokevirtual 300, 3) := by decide +kernel
theorem dX5_digest_81 : decode cX5_digest 81 = .ok (.lstore_n 1, 1) := by decide +kernel
theorem dX5_digest_82 : decode cX5_digest 82 = .ok (.lload_n 1, 1) := by decide +kernel
theorem dX5_digest_83 : decode cX5_digest 83 = .ok (.ldc2_w 292, 3) := by decide +kernel
theorem dX5_digest_86 : decode cX5_digest 86 = .ok (.lmul, 1) := by decide +kernel
theorem dX5_digest_87 : decode cX5_digest 87 = .ok (.aload_n 0, 1) := by decide +kernel
theorem dX5_digest_88 : decode cX5_digest 88 = .ok (.iload_n 3, 1) := by decide +kernel
theorem dX5_digest_89 : decode cX5_digest 89 = .ok (.bipush 12, 2) := by decide +kernel
theorem dX5_digest_91 : decode cX5_digest 91 = .ok (.bipush (-6), 2) := by decide +kernel
theorem dX5_digest_93 : decode cX5_digest 93 = .ok (.iconst 3, 1) := by decide +kernel
theorem dX5_digest_94 : decode cX5_digest 94 = .ok (.invokevirtual 304, 3) := by decide +kernel
theorem dX5_digest_97 : decode cX5_digest 97 = .ok (.i2l, 1) := by decide +kernel
theorem dX5_digest_98 : decode cX5_digest 98 = .ok (.ladd, 1) := by decide +kernel
theorem dX5_digest_99 : decode cX5_digest 99 = .ok (.lstore_n 1, 1) := by decide +kernel
theorem dX5_digest_100 : decode cX5_digest 100 = .ok (.lload_n 1, 1) := by decide +kernel
theorem dX5_digest_101 : decode cX5_digest 101 = .ok (.ldc2_w 292, 3) := by decide +kernel
theorem dX5_digest_104 : decode cX5_digest 104 = .ok (.lmul, 1) := by decide +kernel
theorem dX5_digest_105 : decode cX5_digest 105 = .ok (.aload_n 0, 1) := by decide +kernel
theorem dX5_digest_106 : decode cX5_digest 106 = .ok (.iload_n 3, 1) := by decide +kernel
theorem dX5_digest_107 : decode cX5_digest 107 = .ok (.bipush 9, 2) := by decide +kernel
theorem dX5_digest_109 : decode cX5_digest 109 = .ok (.bipush (-9), 2) := by decide +kernel
theorem dX5_digest_111 : decode cX5_digest 111 = .ok (.bipush 60, 2) := by decide +kernel
theorem dX5_digest_113 : decode cX5_digest 113 = .ok (.invokevirtual 308, 3) := by decide +kernel
theorem dX5_digest_116 : decode cX5_digest 116 = .ok (.i2l, 1) := by decide +kernel
theorem dX5_digest_117 : decode cX5_digest 117 = .ok (.ladd, 1) := by decide +kernel
theorem dX5_digest_118 : decode cX5_digest 118 = .ok (.lstore_n 1, 1) := by decide +kernel
theorem dX5_digest_119 : decode cX5_digest 119 = .ok (.iinc 3 1, 3) := by decide +kernel
theorem dX5_digest_122 : decode cX5_digest 122 = .ok (.goto (-89), 3) := by decide +kernel
theorem dX5_digest_125 : decode cX5_digest 125 = .ok (.iconst 0, 1) := by decide +kernel
theorem dX5_digest_126 : decode cX5_digest 126 = .ok (.istore_n 3, 1) := by decide +kernel
theorem dX5_digest_127 : decode cX5_digest 127 = .ok (.iload_n 3, 1) := by decide +kernel
theorem dX5_digest_128 : decode cX5_digest 128 = .ok (.aload_n 0, 1) := by decide +kernel
theorem dX5_digest_129 : decode cX5_digest 129 = .ok (.getfield 10, 3) := by decide +kernel
theorem dX5_digest_132 : decode cX5_digest 132 = .ok (.getfield 33, 3) := by decide +kernel
theorem dX5_digest_135 : decode cX5_digest 135 = .ok (.if_icmp .ge 39, 3) := by decide +kernel
theorem dX5_digest_138 : decode cX5_digest 138 = .ok (.iconst 0, 1) := by decide +kernel
theorem dX5_digest_139 : decode cX5_digest 139 = .ok (.istore 4, 2) := by decide +kernel
theorem dX5_digest_141 : decode cX5_digest 141 = .ok (.iload 4, 2) := by decide +kernel
theorem dX5_digest_143 : decode cX5_digest 143 = .ok (.iconst 5, 1) := by decide +kernel
theorem dX5_digest_144 : decode cX5_digest 144 = .ok (.if_icmp .gt 24, 3) := by decide +kernel
theorem dX5_digest_147 : decode cX5_digest 147 = .ok (.lload_n 1, 1) := by decide +kernel
theorem dX5_digest_148 : decode cX5_digest 148 = .ok (.ldc2_w 292, 3) := by decide +kernel
theorem dX5_digest_151 : decode cX5_digest 151 = .ok (.lmul, 1) := by decide +kernel
theorem dX5_digest_152 : decode cX5_digest 152 = .ok (.aload_n 0, 1) := by decide +kernel
theorem dX5_digest_153 : decode cX5_digest 153 = .ok (.iload_n 3, 1) := by decide +kernel
theorem dX5_digest_154 : decode cX5_digest 154 = .ok (.iload 4, 2) := by decide +kernel
theorem dX5_digest_156 : decode cX5_digest 156 = .ok (.invokevirtual 311, 3) := by decide +kernel
theorem dX5_digest_159 : decode cX5_digest 159 = .ok (.i2l, 1) := by decide +kernel
theorem dX5_digest_160 : decode cX5_digest 160 = .ok (.ladd, 1) := by decide +kernel
theorem dX5_digest_161 : decode cX5_digest 161 = .ok (.lstore_n 1, 1) := by decide +kernel
theorem dX5_digest_162 : decode cX5_digest 162 = .ok (.iinc 4 1, 3) := by decide +kernel
theorem dX5_digest_165 : decode cX5_digest 165 = .ok (.goto (-24), 3) := by decide +kernel
theorem dX5_digest_168 : decode cX5_digest 168 = .ok (.iinc 3 1, 3) := by decide +kernel
theorem dX5_digest_171 : decode cX5_digest 171 = .ok (.goto (-44), 3) := by decide +kernel
theorem dX5_digest_174 : decode cX5_digest 174 = .ok (.lload_n 1, 1) := by decide +kernel
theorem dX5_digest_175 : decode cX5_digest 175 = .ok (.ldc2_w 292, 3) := by decide +kernel
theorem dX5_digest_178 : decode cX5_digest 178 = .ok (.lmul, 1) := by decide +kernel
theorem dX5_digest_179 : decode cX5_digest 179 = .ok (.aload_n 0, 1) := by decide +kernel
theorem dX5_digest_180 : decode cX5_digest 180 = .ok (.invokevirtual 314, 3) := by decide +kernel
theorem dX5_digest_183 : decode cX5_digest 183 = .ok (.i2l, 1) := by decide +kernel
theorem dX5_digest_184 : decode cX5_digest 184 = .ok (.ladd, 1) := by decide +kernel
theorem dX5_digest_185 : decode cX5_digest 185 = .ok (.lstore_n 1, 1) := by decide +kernel
theorem dX5_digest_186 : decode cX5_digest 186 = .ok (.lload_n 1, 1) := by decide +kernel
theorem dX5_digest_187 : decode cX5_digest 187 = .ok (.ldc2_w 292, 3) := by decide +kernel
theorem dX5_digest_190 : decode cX5_digest 190 = .ok (.lmul, 1) := by decide +kernel
theorem dX5_digest_191 : decode cX5_digest 191 = .ok (.aload_n 0, 1) := by decide +kernel
theorem dX5_digest_192 : decode cX5_digest 192 = .ok (.invokevirtual 317, 3) := by decide +kernel
theorem dX5_digest_195 : decode cX5_digest 195 = .ok (.i2l, 1) := by decide +kernel
theorem dX5_digest_196 : decode cX5_digest 196 = .ok (.ladd, 1) := by decide +kernel
theorem dX5_digest_197 : decode cX5_digest 197 = .ok (.lreturn, 1) := by decide +kernel
theorem dX5_digestLayers_0 : decode cX5_digestLayers 0 = .ok (.lload_n 1, 1) := by decide +kernel
theorem dX5_digestLayers_1 : decode cX5_digestLayers 1 = .ok (.lstore 4, 2) := by decide +kernel
theorem dX5_digestLayers_3 : decode cX5_digestLayers 3 = .ok (.aload_n 0, 1) := by decide +kernel
theorem dX5_digestLayers_4 : decode cX5_digestLayers 4 = .ok (.iload_n 3, 1) := by decide +kernel
theorem dX5_digestLayers_5 : decode cX5_digestLayers 5 = .ok (.iconst 1, 1) := by decide +kernel
theorem dX5_digestLayers_6 : decode cX5_digestLayers 6 = .ok (.invokevirtual 297, 3) := by decide +kernel
theorem dX5_digestLayers_9 : decode cX5_digestLayers 9 = .ok (.istore 6, 2) := by decide +kernel
theorem dX5_digestLayers_11 : decode cX5_digestLayers 11 = .ok (.iconst 0, 1) := by decide +kernel
theorem dX5_digestLayers_12 : decode cX5_digestLayers 12 = .ok (.istore 7, 2) := by decide +kernel
theorem dX5_digestLayers_14 : decode cX5_digestLayers 14 = .ok (.iload 7, 2) := by decide +kernel
theorem dX5_digestLayers_16 : decode cX5_digestLayers 16 = .ok (.iload 6, 2) := by decide +kernel
theorem dX5_digestLayers_18 : decode cX5_digestLayers 18 = .ok (.if_icmp .ge 43, 3) := by decide +kernel
theorem dX5_digestLayers_21 : decode cX5_digestLayers 21 = .ok (.iconst 0, 1) := by decide +kernel
theorem dX5_digestLayers_22 : decode cX5_digestLayers 22 = .ok (.istore 8, 2) := by decide +kernel
theorem dX5_digestLayers_24 : decode cX5_digestLayers 24 = .ok (.iload 8, 2) := by decide +kernel
theorem dX5_digestLayers_26 : decode cX5_digestLayers 26 = .ok (.iconst 2, 1) := by decide +kernel
theorem dX5_digestLayers_27 : decode cX5_digestLayers 27 = .ok (.if_icmp .gt 28, 3) := by decide +kernel
theorem dX5_digestLayers_30 : decode cX5_digestLayers 30 = .ok (.lload 4, 2) := by decide +kernel
theorem dX5_digestLayers_32 : decode cX5_digestLayers 32 = .ok (.ldc2_w 292, 3) := by decide +kernel
theorem dX5_digestLayers_35 : decode cX5_digestLayers 35 = .ok (.lmul, 1) := by decide +kernel
theorem dX5_digestLayers_36 : decode cX5_digestLayers 36 = .ok (.aload_n 0, 1) := by decide +kernel
theorem dX5_digestLayers_37 : decode cX5_digestLayers 37 = .ok (.iload_n 3, 1) := by decide +kernel
theorem dX5_digestLayers_38 : decode cX5_digestLayers 38 = .ok (.iload 7, 2) := by decide +kernel
theorem dX5_digestLayers_40 : decode cX5_digestLayers 40 = .ok (.iload 8, 2) := by decide +kernel
theorem dX5_digestLayers_42 : decode cX5_digestLayers 42 = .ok (.invokevirtual 320, 3) := by decide +kernel
theorem dX5_digestLayers_45 : decode cX5_digestLayers 45 = .ok (.i2l, 1) := by decide +kernel
theorem dX5_digestLayers_46 : decode cX5_digestLayers 46 = .ok (.ladd, 1) := by decide +kernel
theorem dX5_digestLayers_47 : decode cX5_digestLayers 47 = .ok (.lstore 4, 2) := by decide +kernel
theorem dX5_digestLayers_49 : decode cX5_digestLayers 49 = .ok (.iinc 8 1, 3) := by decide +kernel
theorem dX5_digestLayers_52 : decode cX5_digestLayers 52 = .ok (.goto (-28), 3) := by decide +kernel
theorem dX5_digestLayers_55 : decode cX5_digestLayers 55 = .ok (.iinc 7 1, 3) := by decide +kernel
theorem dX5_digestLayers_58 : decode cX5_digestLayers 58 = .ok (.goto (-44), 3) := by decide +kernel
theorem dX5_digestLayers_61 : decode cX5_digestLayers 61 = .ok (.lload 4, 2) := by decide +kernel
theorem dX5_digestLayers_63 : decode cX5_digestLayers 63 = .ok (.lreturn, 1) := by decide +kernel
theorem dX5_oneIf_0 : decode cX5_oneIf 0 = .ok (.iload_n 0, 1) := by decide +kernel
theorem dX5_oneIf_1 : decode cX5_oneIf 1 = .ok (.ifCond .eq 7, 3) := by decide +kernel
theorem dX5_oneIf_4 : decode cX5_oneIf 4 = .ok (.iconst 1, 1) := by decide +kernel
theorem dX5_oneIf_5 : decode cX5_oneIf 5 = .ok (.goto 4, 3) := by decide +kernel
theorem dX5_oneIf_8 : decode cX5_oneIf 8 = .ok (.iconst 0, 1) := by decide +kernel
theorem dX5_oneIf_9 : decode cX5_oneIf 9 = .ok (.ireturn, 1) := by decide +kernel
theorem dX5_requireWithin_0 : decode cX5_requireWithin 0 = .ok (.iload_n 0, 1) := by decide +kernel
theorem dX5_requireWithin_1 : decode cX5_requireWithin 1 = .ok (.iload_n 1, 1) := by decide +kernel
theorem dX5_requireWithin_2 : decode cX5_requireWithin 2 = .ok (.if_icmp .lt 8, 3) := by decide +kernel
theorem dX5_requireWithin_5 : decode cX5_requireWithin 5 = .ok (.iload_n 0, 1) := by decide +kernel
theorem dX5_requireWithin_6 : decode cX5_requireWithin 6 = .ok (.iload_n 2, 1) := by decide +kernel
theorem dX5_requireWithin_7 : decode cX5_requireWithin 7 = .ok (.if_icmp .le 14, 3) := by decide +kernel
theorem dX5_requireWithin_10 : decode cX5_requireWithin 10 = .ok (.new 324, 3) := by decide +kernel
theorem dX5_requireWithin_13 : decode cX5_requireWithin 13 = .ok (.dup, 1) := by decide +kernel
theorem dX5_requireWithin_14 : decode cX5_requireWithin 14 = .ok (.ldc_w 326, 3) := by decide +kernel
theorem dX5_requireWithin_17 : decode cX5_requireWithin 17 = .ok (.invokespecial 328, 3) := by decide +kernel
theorem dX5_requireWithin_20 : decode cX5_requireWithin 20 = .ok (.athrow, 1) := by decide +kernel
theorem dX5_requireWithin_21 : decode cX5_requireWithin 21 = .ok (.return_, 1) := by decide +kernel
theorem dX5_requireLift_0 : decode cX5_requireLift 0 = .ok (.iload_n 1, 1) := by decide +kernel
theorem dX5_requireLift_1 : decode cX5_requireLift 1 = .ok (.ifCond .lt 14, 3) := by decide +kernel
theorem dX5_requireLift_4 : decode cX5_requireLift 4 = .ok (.iload_n 1, 1) := by decide +kernel
theorem dX5_requireLift_5 : decode cX5_requireLift 5 = .ok (.aload_n 0, 1) := by decide +kernel
theorem dX5_requireLift_6 : decode cX5_requireLift 6 = .ok (.getfield 10, 3) := by decide +kernel
theorem dX5_requireLift_9 : decode cX5_requireLift 9 = .ok (.getfield 33, 3) := by decide +kernel
theorem dX5_requireLift_12 : decode cX5_requireLift 12 = .ok (.if_icmp .lt 14, 3) := by decide +kernel
theorem dX5_requireLift_15 : decode cX5_requireLift 15 = .ok (.new 226, 3) := by decide +kernel
theorem dX5_requireLift_18 : decode cX5_requireLift 18 = .ok (.dup, 1) := by decide +kernel
theorem dX5_requireLift_19 : decode cX5_requireLift 19 = .ok (.ldc_w 329, 3) := by decide +kernel
theorem dX5_requireLift_22 : decode cX5_requireLift 22 = .ok (.invokespecial 230, 3) := by decide +kernel
theorem dX5_requireLift_25 : decode cX5_requireLift 25 = .ok (.athrow, 1) := by decide +kernel
theorem dX5_requireLift_26 : decode cX5_requireLift 26 = .ok (.return_, 1) := by decide +kernel
theorem dX5_requireRun_0 : decode cX5_requireRun 0 = .ok (.iload_n 1, 1) := by decide +kernel
theorem dX5_requireRun_1 : decode cX5_requireRun 1 = .ok (.ifCond .lt 14, 3) := by decide +kernel
theorem dX5_requireRun_4 : decode cX5_requireRun 4 = .ok (.iload_n 1, 1) := by decide +kernel
theorem dX5_requireRun_5 : decode cX5_requireRun 5 = .ok (.aload_n 0, 1) := by decide +kernel
theorem dX5_requireRun_6 : decode cX5_requireRun 6 = .ok (.getfield 10, 3) := by decide +kernel
theorem dX5_requireRun_9 : decode cX5_requireRun 9 = .ok (.getfield 60, 3) := by decide +kernel
theorem dX5_requireRun_12 : decode cX5_requireRun 12 = .ok (.if_icmp .lt 14, 3) := by decide +kernel
theorem dX5_requireRun_15 : decode cX5_requireRun 15 = .ok (.new 226, 3) := by decide +kernel
theorem dX5_requireRun_18 : decode cX5_requireRun 18 = .ok (.dup, 1) := by decide +kernel
theorem dX5_requireRun_19 : decode cX5_requireRun 19 = .ok (.ldc_w 331, 3) := by decide +kernel
theorem dX5_requireRun_22 : decode cX5_requireRun 22 = .ok (.invokespecial 230, 3) := by decide +kernel
theorem dX5_requireRun_25 : decode cX5_requireRun 25 = .ok (.athrow, 1) := by decide +kernel
theorem dX5_requireRun_26 : decode cX5_requireRun 26 = .ok (.return_, 1) := by decide +kernel
theorem dX5_requireClosed_0 : decode cX5_requireClosed 0 = .ok (.aload_n 0, 1) := by decide +kernel
theorem dX5_requireClosed_1 : decode cX5_requireClosed 1 = .ok (.iload_n 1, 1) := by decide +kernel
theorem dX5_requireClosed_2 : decode cX5_requireClosed 2 = .ok (.invokevirtual 98, 3) := by decide +kernel
theorem dX5_requireClosed_5 : decode cX5_requireClosed 5 = .ok (.aload_n 0, 1) := by decide +kernel
theorem dX5_requireClosed_6 : decode cX5_requireClosed 6 = .ok (.getfield 10, 3) := by decide +kernel
theorem dX5_requireClosed_9 : decode cX5_requireClosed 9 = .ok (.getfield 65, 3) := by decide +kernel
theorem dX5_requireClosed_12 : decode cX5_requireClosed 12 = .ok (.iload_n 1, 1) := by decide +kernel
theorem dX5_requireClosed_13 : decode cX5_requireClosed 13 = .ok (.aaload, 1) := by decide +kernel
theorem dX5_requireClosed_14 : decode cX5_requireClosed 14 = .ok (.getfield 194, 3) := by decide +kernel
theorem dX5_requireClosed_17 : decode cX5_requireClosed 17 = .ok (.ifCond .eq 14, 3) := by decide +kernel
end
section
theorem dX5_requireClosed_20 : decode cX5_requireClosed 20 = .ok (.new 37, 3) := by decide +kernel
theorem dX5_requireClosed_23 : decode cX5_requireClosed 23 = .ok (.dup, 1) := by decide +kernel
theorem dX5_requireClosed_24 : decode cX5_requireClosed 24 = .ok (.ldc_w 333, 3) := by decide +kernel
theorem dX5_requireClosed_27 : decode cX5_requireClosed 27 = .ok (.invokespecial 41, 3) := by decide +kernel
theorem dX5_requireClosed_30 : decode cX5_requireClosed 30 = .ok (.athrow, 1) := by decide +kernel
theorem dX5_requireClosed_31 : decode cX5_requireClosed 31 = .ok (.return_, 1) := by decide +kernel
theorem dJ9_abs_0f7a4_0 : decode cJ9_abs_0f7a4 0 = .ok (.iload_n 0, 1) := by decide +kernel
theorem dJ9_abs_0f7a4_1 : decode cJ9_abs_0f7a4 1 = .ok (.ifCond .ge 8, 3) := by decide +kernel
theorem dJ9_abs_0f7a4_4 : decode cJ9_abs_0f7a4 4 = .ok (.iload_n 0, 1) := by decide +kernel
theorem dJ9_abs_0f7a4_5 : decode cJ9_abs_0f7a4 5 = .ok (.ineg, 1) := by decide +kernel
theorem dJ9_abs_0f7a4_6 : decode cJ9_abs_0f7a4 6 = .ok (.goto 4, 3) := by decide +kernel
theorem dJ9_abs_0f7a4_9 : decode cJ9_abs_0f7a4 9 = .ok (.iload_n 0, 1) := by decide +kernel
theorem dJ9_abs_0f7a4_10 : decode cJ9_abs_0f7a4 10 = .ok (.ireturn, 1) := by decide +kernel
theorem dJ9_abs_294c1_0 : decode cJ9_abs_294c1 0 = .ok (.dload_n 0, 1) := by decide +kernel
theorem dJ9_abs_294c1_1 : decode cJ9_abs_294c1 1 = .ok (.invokestatic 79, 3) := by decide +kernel
theorem dJ9_abs_294c1_4 : decode cJ9_abs_294c1 4 = .ok (.ldc2_w 135, 3) := by decide +kernel
theorem dJ9_abs_294c1_7 : decode cJ9_abs_294c1 7 = .ok (.land, 1) := by decide +kernel
theorem dJ9_abs_294c1_8 : decode cJ9_abs_294c1 8 = .ok (.invokestatic 166, 3) := by decide +kernel
theorem dJ9_abs_294c1_11 : decode cJ9_abs_294c1 11 = .ok (.dreturn, 1) := by decide +kernel
theorem dJ9_max_7cf53_0 : decode cJ9_max_7cf53 0 = .ok (.iload_n 0, 1) := by decide +kernel
theorem dJ9_max_7cf53_1 : decode cJ9_max_7cf53 1 = .ok (.iload_n 1, 1) := by decide +kernel
theorem dJ9_max_7cf53_2 : decode cJ9_max_7cf53 2 = .ok (.if_icmp .lt 7, 3) := by decide +kernel
theorem dJ9_max_7cf53_5 : decode cJ9_max_7cf53 5 = .ok (.iload_n 0, 1) := by decide +kernel
theorem dJ9_max_7cf53_6 : decode cJ9_max_7cf53 6 = .ok (.goto 4, 3) := by decide +kernel
theorem dJ9_max_7cf53_9 : decode cJ9_max_7cf53 9 = .ok (.iload_n 1, 1) := by decide +kernel
theorem dJ9_max_7cf53_10 : decode cJ9_max_7cf53 10 = .ok (.ireturn, 1) := by decide +kernel
theorem dJ9_min_7cf53_0 : decode cJ9_min_7cf53 0 = .ok (.iload_n 0, 1) := by decide +kernel
theorem dJ9_min_7cf53_1 : decode cJ9_min_7cf53 1 = .ok (.iload_n 1, 1) := by decide +kernel
theorem dJ9_min_7cf53_2 : decode cJ9_min_7cf53 2 = .ok (.if_icmp .gt 7, 3) := by decide +kernel
theorem dJ9_min_7cf53_5 : decode cJ9_min_7cf53 5 = .ok (.iload_n 0, 1) := by decide +kernel
theorem dJ9_min_7cf53_6 : decode cJ9_min_7cf53 6 = .ok (.goto 4, 3) := by decide +kernel
theorem dJ9_min_7cf53_9 : decode cJ9_min_7cf53 9 = .ok (.iload_n 1, 1) := by decide +kernel
theorem dJ9_min_7cf53_10 : decode cJ9_min_7cf53 10 = .ok (.ireturn, 1) := by decide +kernel
theorem dL_below_0 : decode cL_below 0 = .ok (.iload_n 0, 1) := by decide +kernel
theorem dL_below_1 : decode cL_below 1 = .ok (.ldc 7, 2) := by decide +kernel
theorem dL_below_3 : decode cL_below 3 = .ok (.iand, 1) := by decide +kernel
theorem dL_below_4 : decode cL_below 4 = .ok (.iload_n 1, 1) := by decide +kernel
theorem dL_below_5 : decode cL_below 5 = .ok (.irem, 1) := by decide +kernel
theorem dL_below_6 : decode cL_below 6 = .ok (.ireturn, 1) := by decide +kernel
theorem dL_cell_0 : decode cL_cell 0 = .ok (.iload_n 1, 1) := by decide +kernel
theorem dL_cell_1 : decode cL_cell 1 = .ok (.aload_n 0, 1) := by decide +kernel
theorem dL_cell_2 : decode cL_cell 2 = .ok (.arraylength, 1) := by decide +kernel
theorem dL_cell_3 : decode cL_cell 3 = .ok (.if_icmp .ge 9, 3) := by decide +kernel
theorem dL_cell_6 : decode cL_cell 6 = .ok (.aload_n 0, 1) := by decide +kernel
theorem dL_cell_7 : decode cL_cell 7 = .ok (.iload_n 1, 1) := by decide +kernel
theorem dL_cell_8 : decode cL_cell 8 = .ok (.iaload, 1) := by decide +kernel
theorem dL_cell_9 : decode cL_cell 9 = .ok (.goto 9, 3) := by decide +kernel
theorem dL_cell_12 : decode cL_cell 12 = .ok (.ldc 8, 2) := by decide +kernel
theorem dL_cell_14 : decode cL_cell 14 = .ok (.iload_n 1, 1) := by decide +kernel
theorem dL_cell_15 : decode cL_cell 15 = .ok (.iconst 3, 1) := by decide +kernel
theorem dL_cell_16 : decode cL_cell 16 = .ok (.iadd, 1) := by decide +kernel
theorem dL_cell_17 : decode cL_cell 17 = .ok (.imul, 1) := by decide +kernel
theorem dL_cell_18 : decode cL_cell 18 = .ok (.ireturn, 1) := by decide +kernel
theorem dL_weather_0 : decode cL_weather 0 = .ok (.iconst 5, 1) := by decide +kernel
theorem dL_weather_1 : decode cL_weather 1 = .ok (.newarray .int, 2) := by decide +kernel
theorem dL_weather_3 : decode cL_weather 3 = .ok (.dup, 1) := by decide +kernel
theorem dL_weather_4 : decode cL_weather 4 = .ok (.iconst 0, 1) := by decide +kernel
theorem dL_weather_5 : decode cL_weather 5 = .ok (.iload_n 0, 1) := by decide +kernel
theorem dL_weather_6 : decode cL_weather 6 = .ok (.iconst 3, 1) := by decide +kernel
theorem dL_weather_7 : decode cL_weather 7 = .ok (.ishr, 1) := by decide +kernel
theorem dL_weather_8 : decode cL_weather 8 = .ok (.bipush 31, 2) := by decide +kernel
theorem dL_weather_10 : decode cL_weather 10 = .ok (.invokestatic 9, 3) := by decide +kernel
theorem dL_weather_13 : decode cL_weather 13 = .ok (.bipush 18, 2) := by decide +kernel
theorem dL_weather_15 : decode cL_weather 15 = .ok (.isub, 1) := by decide +kernel
theorem dL_weather_16 : decode cL_weather 16 = .ok (.iastore, 1) := by decide +kernel
theorem dL_weather_17 : decode cL_weather 17 = .ok (.dup, 1) := by decide +kernel
theorem dL_weather_18 : decode cL_weather 18 = .ok (.iconst 1, 1) := by decide +kernel
theorem dL_weather_19 : decode cL_weather 19 = .ok (.iload_n 0, 1) := by decide +kernel
theorem dL_weather_20 : decode cL_weather 20 = .ok (.bipush 6, 2) := by decide +kernel
theorem dL_weather_22 : decode cL_weather 22 = .ok (.ishr, 1) := by decide +kernel
theorem dL_weather_23 : decode cL_weather 23 = .ok (.iconst 2, 1) := by decide +kernel
theorem dL_weather_24 : decode cL_weather 24 = .ok (.invokestatic 9, 3) := by decide +kernel
theorem dL_weather_27 : decode cL_weather 27 = .ok (.ifCond .ne 7, 3) := by decide +kernel
theorem dL_weather_30 : decode cL_weather 30 = .ok (.iconst 0, 1) := by decide +kernel
theorem dL_weather_31 : decode cL_weather 31 = .ok (.goto 11, 3) := by decide +kernel
theorem dL_weather_34 : decode cL_weather 34 = .ok (.iload_n 0, 1) := by decide +kernel
theorem dL_weather_35 : decode cL_weather 35 = .ok (.iconst 5, 1) := by decide +kernel
theorem dL_weather_36 : decode cL_weather 36 = .ok (.ishr, 1) := by decide +kernel
theorem dL_weather_37 : decode cL_weather 37 = .ok (.bipush 10, 2) := by decide +kernel
theorem dL_weather_39 : decode cL_weather 39 = .ok (.invokestatic 9, 3) := by decide +kernel
theorem dL_weather_42 : decode cL_weather 42 = .ok (.iastore, 1) := by decide +kernel
theorem dL_weather_43 : decode cL_weather 43 = .ok (.dup, 1) := by decide +kernel
theorem dL_weather_44 : decode cL_weather 44 = .ok (.iconst 2, 1) := by decide +kernel
theorem dL_weather_45 : decode cL_weather 45 = .ok (.iload_n 0, 1) := by decide +kernel
theorem dL_weather_46 : decode cL_weather 46 = .ok (.bipush 7, 2) := by decide +kernel
theorem dL_weather_48 : decode cL_weather 48 = .ok (.ishr, 1) := by decide +kernel
theorem dL_weather_49 : decode cL_weather 49 = .ok (.iconst 3, 1) := by decide +kernel
theorem dL_weather_50 : decode cL_weather 50 = .ok (.invokestatic 9, 3) := by decide +kernel
theorem dL_weather_53 : decode cL_weather 53 = .ok (.ifCond .le 13, 3) := by decide +kernel
theorem dL_weather_56 : decode cL_weather 56 = .ok (.iload_n 0, 1) := by decide +kernel
theorem dL_weather_57 : decode cL_weather 57 = .ok (.iconst 4, 1) := by decide +kernel
theorem dL_weather_58 : decode cL_weather 58 = .ok (.ishr, 1) := by decide +kernel
theorem dL_weather_59 : decode cL_weather 59 = .ok (.iconst 5, 1) := by decide +kernel
theorem dL_weather_60 : decode cL_weather 60 = .ok (.invokestatic 9, 3) := by decide +kernel
theorem dL_weather_63 : decode cL_weather 63 = .ok (.goto 11, 3) := by decide +kernel
theorem dL_weather_66 : decode cL_weather 66 = .ok (.iload_n 0, 1) := by decide +kernel
theorem dL_weather_67 : decode cL_weather 67 = .ok (.iconst 4, 1) := by decide +kernel
theorem dL_weather_68 : decode cL_weather 68 = .ok (.ishr, 1) := by decide +kernel
theorem dL_weather_69 : decode cL_weather 69 = .ok (.bipush 10, 2) := by decide +kernel
theorem dL_weather_71 : decode cL_weather 71 = .ok (.invokestatic 9, 3) := by decide +kernel
theorem dL_weather_74 : decode cL_weather 74 = .ok (.iastore, 1) := by decide +kernel
theorem dL_weather_75 : decode cL_weather 75 = .ok (.dup, 1) := by decide +kernel
theorem dL_weather_76 : decode cL_weather 76 = .ok (.iconst 3, 1) := by decide +kernel
theorem dL_weather_77 : decode cL_weather 77 = .ok (.iload_n 0, 1) := by decide +kernel
theorem dL_weather_78 : decode cL_weather 78 = .ok (.iconst 2, 1) := by decide +kernel
theorem dL_weather_79 : decode cL_weather 79 = .ok (.ishr, 1) := by decide +kernel
theorem dL_weather_80 : decode cL_weather 80 = .ok (.iconst 4, 1) := by decide +kernel
theorem dL_weather_81 : decode cL_weather 81 = .ok (.invokestatic 9, 3) := by decide +kernel
theorem dL_weather_84 : decode cL_weather 84 = .ok (.iastore, 1) := by decide +kernel
theorem dL_weather_85 : decode cL_weather 85 = .ok (.dup, 1) := by decide +kernel
theorem dL_weather_86 : decode cL_weather 86 = .ok (.iconst 4, 1) := by decide +kernel
theorem dL_weather_87 : decode cL_weather 87 = .ok (.iload_n 0, 1) := by decide +kernel
theorem dL_weather_88 : decode cL_weather 88 = .ok (.iconst 5, 1) := by decide +kernel
theorem dL_weather_89 : decode cL_weather 89 = .ok (.ishr, 1) := by decide +kernel
theorem dL_weather_90 : decode cL_weather 90 = .ok (.bipush 101, 2) := by decide +kernel
theorem dL_weather_92 : decode cL_weather 92 = .ok (.invokestatic 9, 3) := by decide +kernel
theorem dL_weather_95 : decode cL_weather 95 = .ok (.iastore, 1) := by decide +kernel
theorem dL_weather_96 : decode cL_weather 96 = .ok (.astore_n 1, 1) := by decide +kernel
theorem dL_weather_97 : decode cL_weather 97 = .ok (.aload_n 1, 1) := by decide +kernel
theorem dL_weather_98 : decode cL_weather 98 = .ok (.areturn, 1) := by decide +kernel
theorem dL_pass_0 : decode cL_pass 0 = .ok (.aload_n 0, 1) := by decide +kernel
theorem dL_pass_1 : decode cL_pass 1 = .ok (.iload_n 1, 1) := by decide +kernel
theorem dL_pass_2 : decode cL_pass 2 = .ok (.aload_n 2, 1) := by decide +kernel
theorem dL_pass_3 : decode cL_pass 3 = .ok (.iconst 0, 1) := by decide +kernel
theorem dL_pass_4 : decode cL_pass 4 = .ok (.iaload, 1) := by decide +kernel
theorem dL_pass_5 : decode cL_pass 5 = .ok (.aload_n 2, 1) := by decide +kernel
theorem dL_pass_6 : decode cL_pass 6 = .ok (.iconst 1, 1) := by decide +kernel
theorem dL_pass_7 : decode cL_pass 7 = .ok (.iaload, 1) := by decide +kernel
theorem dL_pass_8 : decode cL_pass 8 = .ok (.aload_n 2, 1) := by decide +kernel
theorem dL_pass_9 : decode cL_pass 9 = .ok (.iconst 2, 1) := by decide +kernel
theorem dL_pass_10 : decode cL_pass 10 = .ok (.iaload, 1) := by decide +kernel
theorem dL_pass_11 : decode cL_pass 11 = .ok (.aload_n 2, 1) := by decide +kernel
theorem dL_pass_12 : decode cL_pass 12 = .ok (.iconst 3, 1) := by decide +kernel
theorem dL_pass_13 : decode cL_pass 13 = .ok (.iaload, 1) := by decide +kernel
theorem dL_pass_14 : decode cL_pass 14 = .ok (.aload_n 2, 1) := by decide +kernel
theorem dL_pass_15 : decode cL_pass 15 = .ok (.iconst 4, 1) := by decide +kernel
theorem dL_pass_16 : decode cL_pass 16 = .ok (.iaload, 1) := by decide +kernel
theorem dL_pass_17 : decode cL_pass 17 = .ok (.invokevirtual 15, 3) := by decide +kernel
theorem dL_pass_20 : decode cL_pass 20 = .ok (.ireturn, 1) := by decide +kernel
theorem dL_law_0 : decode cL_law 0 = .ok (.new 16, 3) := by decide +kernel
theorem dL_law_3 : decode cL_law 3 = .ok (.dup, 1) := by decide +kernel
theorem dL_law_4 : decode cL_law 4 = .ok (.invokespecial 21, 3) := by decide +kernel
theorem dL_law_7 : decode cL_law 7 = .ok (.astore_n 1, 1) := by decide +kernel
theorem dL_law_8 : decode cL_law 8 = .ok (.iconst 1, 1) := by decide +kernel
theorem dL_law_9 : decode cL_law 9 = .ok (.aload_n 0, 1) := by decide +kernel
theorem dL_law_10 : decode cL_law 10 = .ok (.iconst 0, 1) := by decide +kernel
theorem dL_law_11 : decode cL_law 11 = .ok (.invokestatic 22, 3) := by decide +kernel
theorem dL_law_14 : decode cL_law 14 = .ok (.iconst 3, 1) := by decide +kernel
theorem dL_law_15 : decode cL_law 15 = .ok (.invokestatic 9, 3) := by decide +kernel
theorem dL_law_18 : decode cL_law 18 = .ok (.iadd, 1) := by decide +kernel
theorem dL_law_19 : decode cL_law 19 = .ok (.istore_n 2, 1) := by decide +kernel
theorem dL_law_20 : decode cL_law 20 = .ok (.iconst 0, 1) := by decide +kernel
theorem dL_law_21 : decode cL_law 21 = .ok (.istore_n 3, 1) := by decide +kernel
theorem dL_law_22 : decode cL_law 22 = .ok (.iload_n 3, 1) := by decide +kernel
theorem dL_law_23 : decode cL_law 23 = .ok (.iload_n 2, 1) := by decide +kernel
theorem dL_law_24 : decode cL_law 24 = .ok (.if_icmp .ge 51, 3) := by decide +kernel
theorem dL_law_27 : decode cL_law 27 = .ok (.aload_n 1, 1) := by decide +kernel
theorem dL_law_28 : decode cL_law 28 = .ok (.bipush 10, 2) := by decide +kernel
theorem dL_law_30 : decode cL_law 30 = .ok (.aload_n 0, 1) := by decide +kernel
theorem dL_law_31 : decode cL_law 31 = .ok (.iconst 1, 1) := by decide +kernel
theorem dL_law_32 : decode cL_law 32 = .ok (.iload_n 3, 1) := by decide +kernel
theorem dL_law_33 : decode cL_law 33 = .ok (.iadd, 1) := by decide +kernel
theorem dL_law_34 : decode cL_law 34 = .ok (.invokestatic 22, 3) := by decide +kernel
theorem dL_law_37 : decode cL_law 37 = .ok (.sipush 300, 3) := by decide +kernel
theorem dL_law_40 : decode cL_law 40 = .ok (.invokestatic 9, 3) := by decide +kernel
theorem dL_law_43 : decode cL_law 43 = .ok (.iadd, 1) := by decide +kernel
theorem dL_law_44 : decode cL_law 44 = .ok (.iconst 3, 1) := by decide +kernel
theorem dL_law_45 : decode cL_law 45 = .ok (.aload_n 0, 1) := by decide +kernel
theorem dL_law_46 : decode cL_law 46 = .ok (.iconst 1, 1) := by decide +kernel
theorem dL_law_47 : decode cL_law 47 = .ok (.iload_n 3, 1) := by decide +kernel
theorem dL_law_48 : decode cL_law 48 = .ok (.iadd, 1) := by decide +kernel
theorem dL_law_49 : decode cL_law 49 = .ok (.invokestatic 22, 3) := by decide +kernel
theorem dL_law_52 : decode cL_law 52 = .ok (.iconst 4, 1) := by decide +kernel
theorem dL_law_53 : decode cL_law 53 = .ok (.ishr, 1) := by decide +kernel
theorem dL_law_54 : decode cL_law 54 = .ok (.bipush 7, 2) := by decide +kernel
theorem dL_law_56 : decode cL_law 56 = .ok (.invokestatic 9, 3) := by decide +kernel
theorem dL_law_59 : decode cL_law 59 = .ok (.iadd, 1) := by decide +kernel
theorem dL_law_60 : decode cL_law 60 = .ok (.invokevirtual 26, 3) := by decide +kernel
theorem dL_law_63 : decode cL_law 63 = .ok (.iload_n 3, 1) := by decide +kernel
theorem dL_law_64 : decode cL_law 64 = .ok (.if_icmp .eq 5, 3) := by decide +kernel
theorem dL_law_67 : decode cL_law 67 = .ok (.iconst 0, 1) := by decide +kernel
theorem dL_law_68 : decode cL_law 68 = .ok (.ireturn, 1) := by decide +kernel
theorem dL_law_69 : decode cL_law 69 = .ok (.iinc 3 1, 3) := by decide +kernel
theorem dL_law_72 : decode cL_law 72 = .ok (.goto (-50), 3) := by decide +kernel
theorem dL_law_75 : decode cL_law 75 = .ok (.iconst 1, 1) := by decide +kernel
theorem dL_law_76 : decode cL_law 76 = .ok (.aload_n 0, 1) := by decide +kernel
theorem dL_law_77 : decode cL_law 77 = .ok (.iconst 4, 1) := by decide +kernel
theorem dL_law_78 : decode cL_law 78 = .ok (.invokestatic 22, 3) := by decide +kernel
theorem dL_law_81 : decode cL_law 81 = .ok (.bipush 6, 2) := by decide +kernel
theorem dL_law_83 : decode cL_law 83 = .ok (.invokestatic 9, 3) := by decide +kernel
theorem dL_law_86 : decode cL_law 86 = .ok (.iadd, 1) := by decide +kernel
theorem dL_law_87 : decode cL_law 87 = .ok (.istore_n 3, 1) := by decide +kernel
theorem dL_law_88 : decode cL_law 88 = .ok (.iload_n 3, 1) := by decide +kernel
theorem dL_law_89 : decode cL_law 89 = .ok (.newarray .int, 2) := by decide +kernel
theorem dL_law_91 : decode cL_law 91 = .ok (.astore 4, 2) := by decide +kernel
theorem dL_law_93 : decode cL_law 93 = .ok (.iconst 0, 1) := by decide +kernel
theorem dL_law_94 : decode cL_law 94 = .ok (.istore 5, 2) := by decide +kernel
theorem dL_law_96 : decode cL_law 96 = .ok (.iload 5, 2) := by decide +kernel
theorem dL_law_98 : decode cL_law 98 = .ok (.iload_n 3, 1) := by decide +kernel
theorem dL_law_99 : decode cL_law 99 = .ok (.if_icmp .ge 86, 3) := by decide +kernel
theorem dL_law_102 : decode cL_law 102 = .ok (.aload_n 0, 1) := by decide +kernel
theorem dL_law_103 : decode cL_law 103 = .ok (.iconst 5, 1) := by decide +kernel
theorem dL_law_104 : decode cL_law 104 = .ok (.iload 5, 2) := by decide +kernel
theorem dL_law_106 : decode cL_law 106 = .ok (.iadd, 1) := by decide +kernel
theorem dL_law_107 : decode cL_law 107 = .ok (.invokestatic 22, 3) := by decide +kernel
theorem dL_law_110 : decode cL_law 110 = .ok (.istore 6, 2) := by decide +kernel
theorem dL_law_112 : decode cL_law 112 = .ok (.aload 4, 2) := by decide +kernel
theorem dL_law_114 : decode cL_law 114 = .ok (.iload 5, 2) := by decide +kernel
theorem dL_law_116 : decode cL_law 116 = .ok (.iconst 1, 1) := by decide +kernel
theorem dL_law_117 : decode cL_law 117 = .ok (.iload 6, 2) := by decide +kernel
theorem dL_law_119 : decode cL_law 119 = .ok (.iconst 5, 1) := by decide +kernel
theorem dL_law_120 : decode cL_law 120 = .ok (.ishr, 1) := by decide +kernel
theorem dL_law_121 : decode cL_law 121 = .ok (.bipush 9, 2) := by decide +kernel
theorem dL_law_123 : decode cL_law 123 = .ok (.invokestatic 9, 3) := by decide +kernel
theorem dL_law_126 : decode cL_law 126 = .ok (.iadd, 1) := by decide +kernel
theorem dL_law_127 : decode cL_law 127 = .ok (.iastore, 1) := by decide +kernel
theorem dL_law_128 : decode cL_law 128 = .ok (.aload_n 1, 1) := by decide +kernel
theorem dL_law_129 : decode cL_law 129 = .ok (.iload 6, 2) := by decide +kernel
theorem dL_law_131 : decode cL_law 131 = .ok (.iload_n 2, 1) := by decide +kernel
theorem dL_law_132 : decode cL_law 132 = .ok (.invokestatic 9, 3) := by decide +kernel
theorem dL_law_135 : decode cL_law 135 = .ok (.iload 6, 2) := by decide +kernel
theorem dL_law_137 : decode cL_law 137 = .ok (.iconst 2, 1) := by decide +kernel
theorem dL_law_138 : decode cL_law 138 = .ok (.ishr, 1) := by decide +kernel
theorem dL_law_139 : decode cL_law 139 = .ok (.bipush 31, 2) := by decide +kernel
theorem dL_law_141 : decode cL_law 141 = .ok (.invokestatic 9, 3) := by decide +kernel
theorem dL_law_144 : decode cL_law 144 = .ok (.iconst 5, 1) := by decide +kernel
theorem dL_law_145 : decode cL_law 145 = .ok (.iload 6, 2) := by decide +kernel
theorem dL_law_147 : decode cL_law 147 = .ok (.iconst 4, 1) := by decide +kernel
theorem dL_law_148 : decode cL_law 148 = .ok (.ishr, 1) := by decide +kernel
theorem dL_law_149 : decode cL_law 149 = .ok (.bipush 41, 2) := by decide +kernel
theorem dL_law_151 : decode cL_law 151 = .ok (.invokestatic 9, 3) := by decide +kernel
theorem dL_law_154 : decode cL_law 154 = .ok (.iadd, 1) := by decide +kernel
theorem dL_law_155 : decode cL_law 155 = .ok (.iload 6, 2) := by decide +kernel
theorem dL_law_157 : decode cL_law 157 = .ok (.bipush 6, 2) := by decide +kernel
theorem dL_law_159 : decode cL_law 159 = .ok (.ishr, 1) := by decide +kernel
theorem dL_law_160 : decode cL_law 160 = .ok (.iconst 4, 1) := by decide +kernel
theorem dL_law_161 : decode cL_law 161 = .ok (.invokestatic 9, 3) := by decide +kernel
theorem dL_law_164 : decode cL_law 164 = .ok (.aload 4, 2) := by decide +kernel
theorem dL_law_166 : decode cL_law 166 = .ok (.iload 5, 2) := by decide +kernel
theorem dL_law_168 : decode cL_law 168 = .ok (.iaload, 1) := by decide +kernel
theorem dL_law_169 : decode cL_law 169 = .ok (.invokevirtual 29, 3) := by decide +kernel
theorem dL_law_172 : decode cL_law 172 = .ok (.iload 5, 2) := by decide +kernel
theorem dL_law_174 : decode cL_law 174 = .ok (.if_icmp .eq 5, 3) := by decide +kernel
theorem dL_law_177 : decode cL_law 177 = .ok (.iconst 0, 1) := by decide +kernel
theorem dL_law_178 : decode cL_law 178 = .ok (.ireturn, 1) := by decide +kernel
theorem dL_law_179 : decode cL_law 179 = .ok (.iinc 5 1, 3) := by decide +kernel
theorem dL_law_182 : decode cL_law 182 = .ok (.goto (-86), 3) := by decide +kernel
theorem dL_law_185 : decode cL_law 185 = .ok (.iconst 0, 1) := by decide +kernel
theorem dL_law_186 : decode cL_law 186 = .ok (.istore 5, 2) := by decide +kernel
theorem dL_law_188 : decode cL_law 188 = .ok (.iconst 0, 1) := by decide +kernel
theorem dL_law_189 : decode cL_law 189 = .ok (.istore 6, 2) := by decide +kernel
theorem dL_law_191 : decode cL_law 191 = .ok (.iconst 0, 1) := by decide +kernel
theorem dL_law_192 : decode cL_law 192 = .ok (.istore 7, 2) := by decide +kernel
theorem dL_law_194 : decode cL_law 194 = .ok (.iload_n 3, 1) := by decide +kernel
theorem dL_law_195 : decode cL_law 195 = .ok (.newarray .int, 2) := by decide +kernel
theorem dL_law_197 : decode cL_law 197 = .ok (.astore 8, 2) := by decide +kernel
theorem dL_law_199 : decode cL_law 199 = .ok (.iconst 0, 1) := by decide +kernel
theorem dL_law_200 : decode cL_law 200 = .ok (.istore 9, 2) := by decide +kernel
theorem dL_law_202 : decode cL_law 202 = .ok (.iconst 0, 1) := by decide +kernel
theorem dL_law_203 : decode cL_law 203 = .ok (.istore 10, 2) := by decide +kernel
theorem dL_law_205 : decode cL_law 205 = .ok (.iconst 0, 1) := by decide +kernel
theorem dL_law_206 : decode cL_law 206 = .ok (.istore 11, 2) := by decide +kernel
theorem dL_law_208 : decode cL_law 208 = .ok (.iload 11, 2) := by decide +kernel
theorem dL_law_210 : decode cL_law 210 = .ok (.bipush 70, 2) := by decide +kernel
theorem dL_law_212 : decode cL_law 212 = .ok (.if_icmp .ge 1212, 3) := by decide +kernel
theorem dL_law_215 : decode cL_law 215 = .ok (.aload_n 0, 1) := by decide +kernel
theorem dL_law_216 : decode cL_law 216 = .ok (.bipush 11, 2) := by decide +kernel
theorem dL_law_218 : decode cL_law 218 = .ok (.iload 11, 2) := by decide +kernel
theorem dL_law_220 : decode cL_law 220 = .ok (.bipush 19, 2) := by decide +kernel
theorem dL_law_222 : decode cL_law 222 = .ok (.irem, 1) := by decide +kernel
theorem dL_law_223 : decode cL_law 223 = .ok (.iadd, 1) := by decide +kernel
theorem dL_law_224 : decode cL_law 224 = .ok (.invokestatic 22, 3) := by decide +kernel
theorem dL_law_227 : decode cL_law 227 = .ok (.iload 11, 2) := by decide +kernel
theorem dL_law_229 : decode cL_law 229 = .ok (.bipush 19, 2) := by decide +kernel
theorem dL_law_231 : decode cL_law 231 = .ok (.idiv, 1) := by decide +kernel
theorem dL_law_232 : decode cL_law 232 = .ok (.iconst 4, 1) := by decide +kernel
theorem dL_law_233 : decode cL_law 233 = .ok (.imul, 1) := by decide +kernel
theorem dL_law_234 : decode cL_law 234 = .ok (.ishr, 1) := by decide +kernel
theorem dL_law_235 : decode cL_law 235 = .ok (.istore 12, 2) := by decide +kernel
theorem dL_law_237 : decode cL_law 237 = .ok (.iload 12, 2) := by decide +kernel
theorem dL_law_239 : decode cL_law 239 = .ok (.iconst 4, 1) := by decide +kernel
theorem dL_law_240 : decode cL_law 240 = .ok (.ishr, 1) := by decide +kernel
theorem dL_law_241 : decode cL_law 241 = .ok (.iload_n 3, 1) := by decide +kernel
theorem dL_law_242 : decode cL_law 242 = .ok (.invokestatic 9, 3) := by decide +kernel
theorem dL_law_245 : decode cL_law 245 = .ok (.istore 13, 2) := by decide +kernel
theorem dL_law_247 : decode cL_law 247 = .ok (.iload 12, 2) := by decide +kernel
theorem dL_law_249 : decode cL_law 249 = .ok (.iconst 3, 1) := by decide +kernel
theorem dL_law_250 : decode cL_law 250 = .ok (.ishr, 1) := by decide +kernel
theorem dL_law_251 : decode cL_law 251 = .ok (.iload_n 2, 1) := by decide +kernel
theorem dL_law_252 : decode cL_law 252 = .ok (.invokestatic 9, 3) := by decide +kernel
theorem dL_law_255 : decode cL_law 255 = .ok (.istore 14, 2) := by decide +kernel
theorem dL_law_257 : decode cL_law 257 = .ok (.aload_n 1, 1) := by decide +kernel
theorem dL_law_258 : decode cL_law 258 = .ok (.iload 13, 2) := by decide +kernel
theorem dL_law_260 : decode cL_law 260 = .ok (.bipush 6, 2) := by decide +kernel
theorem dL_law_262 : decode cL_law 262 = .ok (.invokevirtual 33, 3) := by decide +kernel
theorem dL_law_265 : decode cL_law 265 = .ok (.iconst 1, 1) := by decide +kernel
theorem dL_law_266 : decode cL_law 266 = .ok (.if_icmp .ne 7, 3) := by decide +kernel
theorem dL_law_269 : decode cL_law 269 = .ok (.iconst 1, 1) := by decide +kernel
theorem dL_law_270 : decode cL_law 270 = .ok (.goto 4, 3) := by decide +kernel
theorem dL_law_273 : decode cL_law 273 = .ok (.iconst 0, 1) := by decide +kernel
theorem dL_law_274 : decode cL_law 274 = .ok (.istore 15, 2) := by decide +kernel
theorem dL_law_276 : decode cL_law 276 = .ok (.iload 12, 2) := by decide +kernel
theorem dL_law_278 : decode cL_law 278 = .ok (.bipush 20, 2) := by decide +kernel
theorem dL_law_280 : decode cL_law 280 = .ok (.invokestatic 9, 3) := by decide +kernel
theorem dL_law_283 : decode cL_law 283 = .ok (.tableswitch 748 0 14 #[73, 145, 198, 260, 289, 289, 420, 450, 450, 490, 490, 518, 658, 658, 710], 73) := by decide +kernel
theorem dL_law_356 : decode cL_law 356 = .ok (.aload_n 1, 1) := by decide +kernel
theorem dL_law_357 : decode cL_law 357 = .ok (.iload 14, 2) := by decide +kernel
theorem dL_law_359 : decode cL_law 359 = .ok (.iconst 2, 1) := by decide +kernel
theorem dL_law_360 : decode cL_law 360 = .ok (.invokevirtual 36, 3) := by decide +kernel
theorem dL_law_363 : decode cL_law 363 = .ok (.iconst 1, 1) := by decide +kernel
theorem dL_law_364 : decode cL_law 364 = .ok (.if_icmp .ne 7, 3) := by decide +kernel
theorem dL_law_367 : decode cL_law 367 = .ok (.iconst 1, 1) := by decide +kernel
theorem dL_law_368 : decode cL_law 368 = .ok (.goto 4, 3) := by decide +kernel
theorem dL_law_371 : decode cL_law 371 = .ok (.iconst 0, 1) := by decide +kernel
theorem dL_law_372 : decode cL_law 372 = .ok (.istore 16, 2) := by decide +kernel
theorem dL_law_374 : decode cL_law 374 = .ok (.iload 12, 2) := by decide +kernel
theorem dL_law_376 : decode cL_law 376 = .ok (.bipush 6, 2) := by decide +kernel
theorem dL_law_378 : decode cL_law 378 = .ok (.ishr, 1) := by decide +kernel
theorem dL_law_379 : decode cL_law 379 = .ok (.iconst 4, 1) := by decide +kernel
theorem dL_law_380 : decode cL_law 380 = .ok (.invokestatic 9, 3) := by decide +kernel
theorem dL_law_383 : decode cL_law 383 = .ok (.ifCond .le 7, 3) := by decide +kernel
theorem dL_law_386 : decode cL_law 386 = .ok (.iconst 1, 1) := by decide +kernel
theorem dL_law_387 : decode cL_law 387 = .ok (.goto 4, 3) := by decide +kernel
theorem dL_law_390 : decode cL_law 390 = .ok (.iconst 0, 1) := by decide +kernel
theorem dL_law_391 : decode cL_law 391 = .ok (.istore 17, 2) := by decide +kernel
theorem dL_law_393 : decode cL_law 393 = .ok (.aload_n 1, 1) := by decide +kernel
theorem dL_law_394 : decode cL_law 394 = .ok (.iload 14, 2) := by decide +kernel
theorem dL_law_396 : decode cL_law 396 = .ok (.iload 17, 2) := by decide +kernel
theorem dL_law_398 : decode cL_law 398 = .ok (.invokevirtual 39, 3) := by decide +kernel
theorem dL_law_401 : decode cL_law 401 = .ok (.iload 16, 2) := by decide +kernel
theorem dL_law_403 : decode cL_law 403 = .ok (.if_icmp .ne 23, 3) := by decide +kernel
theorem dL_law_406 : decode cL_law 406 = .ok (.aload_n 1, 1) := by decide +kernel
theorem dL_law_407 : decode cL_law 407 = .ok (.iload 14, 2) := by decide +kernel
theorem dL_law_409 : decode cL_law 409 = .ok (.iconst 2, 1) := by decide +kernel
theorem dL_law_410 : decode cL_law 410 = .ok (.invokevirtual 36, 3) := by decide +kernel
theorem dL_law_413 : decode cL_law 413 = .ok (.iload 17, 2) := by decide +kernel
theorem dL_law_415 : decode cL_law 415 = .ok (.ifCond .eq 7, 3) := by decide +kernel
theorem dL_law_418 : decode cL_law 418 = .ok (.iconst 1, 1) := by decide +kernel
theorem dL_law_419 : decode cL_law 419 = .ok (.goto 4, 3) := by decide +kernel
theorem dL_law_422 : decode cL_law 422 = .ok (.iconst 0, 1) := by decide +kernel
theorem dL_law_423 : decode cL_law 423 = .ok (.if_icmp .eq 935, 3) := by decide +kernel
theorem dL_law_426 : decode cL_law 426 = .ok (.iconst 0, 1) := by decide +kernel
theorem dL_law_427 : decode cL_law 427 = .ok (.ireturn, 1) := by decide +kernel
theorem dL_law_428 : decode cL_law 428 = .ok (.aload 8, 2) := by decide +kernel
theorem dL_law_430 : decode cL_law 430 = .ok (.iload 13, 2) := by decide +kernel
theorem dL_law_432 : decode cL_law 432 = .ok (.iaload, 1) := by decide +kernel
theorem dL_law_433 : decode cL_law 433 = .ok (.istore 16, 2) := by decide +kernel
theorem dL_law_435 : decode cL_law 435 = .ok (.aload 8, 2) := by decide +kernel
theorem dL_law_437 : decode cL_law 437 = .ok (.iload 13, 2) := by decide +kernel
theorem dL_law_439 : decode cL_law 439 = .ok (.iload 12, 2) := by decide +kernel
theorem dL_law_441 : decode cL_law 441 = .ok (.bipush 6, 2) := by decide +kernel
theorem dL_law_443 : decode cL_law 443 = .ok (.ishr, 1) := by decide +kernel
theorem dL_law_444 : decode cL_law 444 = .ok (.bipush 10, 2) := by decide +kernel
theorem dL_law_446 : decode cL_law 446 = .ok (.invokestatic 9, 3) := by decide +kernel
theorem dL_law_449 : decode cL_law 449 = .ok (.iastore, 1) := by decide +kernel
theorem dL_law_450 : decode cL_law 450 = .ok (.iload 7, 2) := by decide +kernel
theorem dL_law_452 : decode cL_law 452 = .ok (.aload 8, 2) := by decide +kernel
theorem dL_law_454 : decode cL_law 454 = .ok (.iload 13, 2) := by decide +kernel
theorem dL_law_456 : decode cL_law 456 = .ok (.iaload, 1) := by decide +kernel
theorem dL_law_457 : decode cL_law 457 = .ok (.iload 16, 2) := by decide +kernel
theorem dL_law_459 : decode cL_law 459 = .ok (.isub, 1) := by decide +kernel
theorem dL_law_460 : decode cL_law 460 = .ok (.iadd, 1) := by decide +kernel
theorem dL_law_461 : decode cL_law 461 = .ok (.istore 7, 2) := by decide +kernel
theorem dL_law_463 : decode cL_law 463 = .ok (.aload_n 1, 1) := by decide +kernel
theorem dL_law_464 : decode cL_law 464 = .ok (.iload 13, 2) := by decide +kernel
theorem dL_law_466 : decode cL_law 466 = .ok (.aload 8, 2) := by decide +kernel
theorem dL_law_468 : decode cL_law 468 = .ok (.iload 13, 2) := by decide +kernel
theorem dL_law_470 : decode cL_law 470 = .ok (.iaload, 1) := by decide +kernel
theorem dL_law_471 : decode cL_law 471 = .ok (.invokevirtual 43, 3) := by decide +kernel
theorem dL_law_474 : decode cL_law 474 = .ok (.iload 16, 2) := by decide +kernel
theorem dL_law_476 : decode cL_law 476 = .ok (.if_icmp .eq 882, 3) := by decide +kernel
theorem dL_law_479 : decode cL_law 479 = .ok (.iconst 0, 1) := by decide +kernel
theorem dL_law_480 : decode cL_law 480 = .ok (.ireturn, 1) := by decide +kernel
theorem dL_law_481 : decode cL_law 481 = .ok (.iconst 1, 1) := by decide +kernel
theorem dL_law_482 : decode cL_law 482 = .ok (.iload 12, 2) := by decide +kernel
theorem dL_law_484 : decode cL_law 484 = .ok (.iconst 3, 1) := by decide +kernel
theorem dL_law_485 : decode cL_law 485 = .ok (.ishr, 1) := by decide +kernel
theorem dL_law_486 : decode cL_law 486 = .ok (.sipush 500, 3) := by decide +kernel
theorem dL_law_489 : decode cL_law 489 = .ok (.invokestatic 9, 3) := by decide +kernel
theorem dL_law_492 : decode cL_law 492 = .ok (.iadd, 1) := by decide +kernel
theorem dL_law_493 : decode cL_law 493 = .ok (.istore 16, 2) := by decide +kernel
theorem dL_law_495 : decode cL_law 495 = .ok (.aload_n 1, 1) := by decide +kernel
theorem dL_law_496 : decode cL_law 496 = .ok (.iconst 4, 1) := by decide +kernel
theorem dL_law_497 : decode cL_law 497 = .ok (.invokevirtual 46, 3) := by decide +kernel
theorem dL_law_500 : decode cL_law 500 = .ok (.istore 17, 2) := by decide +kernel
theorem dL_law_502 : decode cL_law 502 = .ok (.aload_n 1, 1) := by decide +kernel
theorem dL_law_503 : decode cL_law 503 = .ok (.iload 16, 2) := by decide +kernel
theorem dL_law_505 : decode cL_law 505 = .ok (.invokevirtual 50, 3) := by decide +kernel
theorem dL_law_508 : decode cL_law 508 = .ok (.sipush 5000, 3) := by decide +kernel
theorem dL_law_511 : decode cL_law 511 = .ok (.iload 17, 2) := by decide +kernel
theorem dL_law_513 : decode cL_law 513 = .ok (.iload 16, 2) := by decide +kernel
theorem dL_law_515 : decode cL_law 515 = .ok (.iadd, 1) := by decide +kernel
theorem dL_law_516 : decode cL_law 516 = .ok (.invokestatic 53, 3) := by decide +kernel
theorem dL_law_519 : decode cL_law 519 = .ok (.if_icmp .ne 22, 3) := by decide +kernel
theorem dL_law_522 : decode cL_law 522 = .ok (.aload_n 1, 1) := by decide +kernel
theorem dL_law_523 : decode cL_law 523 = .ok (.iconst 4, 1) := by decide +kernel
theorem dL_law_524 : decode cL_law 524 = .ok (.invokevirtual 46, 3) := by decide +kernel
theorem dL_law_527 : decode cL_law 527 = .ok (.sipush 5000, 3) := by decide +kernel
theorem dL_law_530 : decode cL_law 530 = .ok (.iload 17, 2) := by decide +kernel
theorem dL_law_532 : decode cL_law 532 = .ok (.iload 16, 2) := by decide +kernel
theorem dL_law_534 : decode cL_law 534 = .ok (.iadd, 1) := by decide +kernel
theorem dL_law_535 : decode cL_law 535 = .ok (.invokestatic 53, 3) := by decide +kernel
theorem dL_law_538 : decode cL_law 538 = .ok (.if_icmp .eq 820, 3) := by decide +kernel
theorem dL_law_541 : decode cL_law 541 = .ok (.iconst 0, 1) := by decide +kernel
theorem dL_law_542 : decode cL_law 542 = .ok (.ireturn, 1) := by decide +kernel
theorem dL_law_543 : decode cL_law 543 = .ok (.iload 9, 2) := by decide +kernel
theorem dL_law_545 : decode cL_law 545 = .ok (.istore 16, 2) := by decide +kernel
theorem dL_law_547 : decode cL_law 547 = .ok (.iload 12, 2) := by decide +kernel
theorem dL_law_549 : decode cL_law 549 = .ok (.iconst 3, 1) := by decide +kernel
theorem dL_law_550 : decode cL_law 550 = .ok (.ishr, 1) := by decide +kernel
theorem dL_law_551 : decode cL_law 551 = .ok (.sipush 700, 3) := by decide +kernel
theorem dL_law_554 : decode cL_law 554 = .ok (.invokestatic 9, 3) := by decide +kernel
theorem dL_law_557 : decode cL_law 557 = .ok (.istore 9, 2) := by decide +kernel
theorem dL_law_559 : decode cL_law 559 = .ok (.aload_n 1, 1) := by decide +kernel
theorem dL_law_560 : decode cL_law 560 = .ok (.iload 9, 2) := by decide +kernel
theorem dL_law_562 : decode cL_law 562 = .ok (.invokevirtual 58, 3) := by decide +kernel
theorem dL_law_565 : decode cL_law 565 = .ok (.iload 16, 2) := by decide +kernel
theorem dL_law_567 : decode cL_law 567 = .ok (.if_icmp .eq 791, 3) := by decide +kernel
theorem dL_law_570 : decode cL_law 570 = .ok (.iconst 0, 1) := by decide +kernel
theorem dL_law_571 : decode cL_law 571 = .ok (.ireturn, 1) := by decide +kernel
theorem dL_law_572 : decode cL_law 572 = .ok (.iload 15, 2) := by decide +kernel
theorem dL_law_574 : decode cL_law 574 = .ok (.ifCond .ne 784, 3) := by decide +kernel
theorem dL_law_577 : decode cL_law 577 = .ok (.iload 5, 2) := by decide +kernel
theorem dL_law_579 : decode cL_law 579 = .ok (.bipush 50, 2) := by decide +kernel
theorem dL_law_581 : decode cL_law 581 = .ok (.if_icmp .ne 6, 3) := by decide +kernel
theorem dL_law_584 : decode cL_law 584 = .ok (.goto 774, 3) := by decide +kernel
theorem dL_law_587 : decode cL_law 587 = .ok (.iinc 5 1, 3) := by decide +kernel
theorem dL_law_590 : decode cL_law 590 = .ok (.aload_n 1, 1) := by decide +kernel
theorem dL_law_591 : decode cL_law 591 = .ok (.iload 13, 2) := by decide +kernel
theorem dL_law_593 : decode cL_law 593 = .ok (.iconst 4, 1) := by decide +kernel
theorem dL_law_594 : decode cL_law 594 = .ok (.invokevirtual 33, 3) := by decide +kernel
theorem dL_law_597 : decode cL_law 597 = .ok (.istore 16, 2) := by decide +kernel
theorem dL_law_599 : decode cL_law 599 = .ok (.aload_n 1, 1) := by decide +kernel
theorem dL_law_600 : decode cL_law 600 = .ok (.iload 13, 2) := by decide +kernel
theorem dL_law_602 : decode cL_law 602 = .ok (.bipush 7, 2) := by decide +kernel
theorem dL_law_604 : decode cL_law 604 = .ok (.invokevirtual 33, 3) := by decide +kernel
theorem dL_law_607 : decode cL_law 607 = .ok (.istore 17, 2) := by decide +kernel
theorem dL_law_609 : decode cL_law 609 = .ok (.aload_n 1, 1) := by decide +kernel
theorem dL_law_610 : decode cL_law 610 = .ok (.iload 13, 2) := by decide +kernel
theorem dL_law_612 : decode cL_law 612 = .ok (.iconst 2, 1) := by decide +kernel
theorem dL_law_613 : decode cL_law 613 = .ok (.invokevirtual 33, 3) := by decide +kernel
theorem dL_law_616 : decode cL_law 616 = .ok (.istore 18, 2) := by decide +kernel
theorem dL_law_618 : decode cL_law 618 = .ok (.aload_n 1, 1) := by decide +kernel
theorem dL_law_619 : decode cL_law 619 = .ok (.iload 13, 2) := by decide +kernel
theorem dL_law_621 : decode cL_law 621 = .ok (.invokevirtual 61, 3) := by decide +kernel
theorem dL_law_624 : decode cL_law 624 = .ok (.istore 19, 2) := by decide +kernel
theorem dL_law_626 : decode cL_law 626 = .ok (.iload 5, 2) := by decide +kernel
theorem dL_law_628 : decode cL_law 628 = .ok (.bipush 7, 2) := by decide +kernel
theorem dL_law_630 : decode cL_law 630 = .ok (.irem, 1) := by decide +kernel
theorem dL_law_631 : decode cL_law 631 = .ok (.ifCond .ne 28, 3) := by decide +kernel
theorem dL_law_634 : decode cL_law 634 = .ok (.iload 19, 2) := by decide +kernel
theorem dL_law_636 : decode cL_law 636 = .ok (.bipush (-2), 2) := by decide +kernel
theorem dL_law_638 : decode cL_law 638 = .ok (.if_icmp .ne 63, 3) := by decide +kernel
theorem dL_law_641 : decode cL_law 641 = .ok (.aload_n 1, 1) := by decide +kernel
theorem dL_law_642 : decode cL_law 642 = .ok (.iload 13, 2) := by decide +kernel
theorem dL_law_644 : decode cL_law 644 = .ok (.bipush 7, 2) := by decide +kernel
theorem dL_law_646 : decode cL_law 646 = .ok (.invokevirtual 33, 3) := by decide +kernel
theorem dL_law_649 : decode cL_law 649 = .ok (.iload 17, 2) := by decide +kernel
theorem dL_law_651 : decode cL_law 651 = .ok (.iconst 1, 1) := by decide +kernel
theorem dL_law_652 : decode cL_law 652 = .ok (.iadd, 1) := by decide +kernel
theorem dL_law_653 : decode cL_law 653 = .ok (.if_icmp .eq 705, 3) := by decide +kernel
theorem dL_law_656 : decode cL_law 656 = .ok (.goto 45, 3) := by decide +kernel
theorem dL_law_659 : decode cL_law 659 = .ok (.iload 16, 2) := by decide +kernel
theorem dL_law_661 : decode cL_law 661 = .ok (.bipush 40, 2) := by decide +kernel
theorem dL_law_663 : decode cL_law 663 = .ok (.if_icmp .ge 11, 3) := by decide +kernel
theorem dL_law_666 : decode cL_law 666 = .ok (.iload 19, 2) := by decide +kernel
theorem dL_law_668 : decode cL_law 668 = .ok (.ifCond .eq 690, 3) := by decide +kernel
theorem dL_law_671 : decode cL_law 671 = .ok (.goto 30, 3) := by decide +kernel
theorem dL_law_674 : decode cL_law 674 = .ok (.iload 19, 2) := by decide +kernel
theorem dL_law_676 : decode cL_law 676 = .ok (.aload 4, 2) := by decide +kernel
theorem dL_law_678 : decode cL_law 678 = .ok (.iload 13, 2) := by decide +kernel
theorem dL_law_680 : decode cL_law 680 = .ok (.iaload, 1) := by decide +kernel
theorem dL_law_681 : decode cL_law 681 = .ok (.iload 18, 2) := by decide +kernel
theorem dL_law_683 : decode cL_law 683 = .ok (.aload_n 1, 1) := by decide +kernel
theorem dL_law_684 : decode cL_law 684 = .ok (.iload 13, 2) := by decide +kernel
theorem dL_law_686 : decode cL_law 686 = .ok (.iconst 2, 1) := by decide +kernel
theorem dL_law_687 : decode cL_law 687 = .ok (.invokevirtual 33, 3) := by decide +kernel
theorem dL_law_690 : decode cL_law 690 = .ok (.isub, 1) := by decide +kernel
theorem dL_law_691 : decode cL_law 691 = .ok (.imul, 1) := by decide +kernel
theorem dL_law_692 : decode cL_law 692 = .ok (.if_icmp .ne 9, 3) := by decide +kernel
theorem dL_law_695 : decode cL_law 695 = .ok (.iload 19, 2) := by decide +kernel
theorem dL_law_697 : decode cL_law 697 = .ok (.iconst 1, 1) := by decide +kernel
theorem dL_law_698 : decode cL_law 698 = .ok (.if_icmp .ge 660, 3) := by decide +kernel
theorem dL_law_701 : decode cL_law 701 = .ok (.iconst 0, 1) := by decide +kernel
theorem dL_law_702 : decode cL_law 702 = .ok (.ireturn, 1) := by decide +kernel
theorem dL_law_703 : decode cL_law 703 = .ok (.aload_n 1, 1) := by decide +kernel
theorem dL_law_704 : decode cL_law 704 = .ok (.iload 13, 2) := by decide +kernel
theorem dL_law_706 : decode cL_law 706 = .ok (.bipush 7, 2) := by decide +kernel
theorem dL_law_708 : decode cL_law 708 = .ok (.invokevirtual 33, 3) := by decide +kernel
theorem dL_law_711 : decode cL_law 711 = .ok (.ifCond .le 647, 3) := by decide +kernel
theorem dL_law_714 : decode cL_law 714 = .ok (.aload_n 1, 1) := by decide +kernel
theorem dL_law_715 : decode cL_law 715 = .ok (.iload 13, 2) := by decide +kernel
theorem dL_law_717 : decode cL_law 717 = .ok (.invokevirtual 64, 3) := by decide +kernel
theorem dL_law_720 : decode cL_law 720 = .ok (.aload_n 1, 1) := by decide +kernel
theorem dL_law_721 : decode cL_law 721 = .ok (.iload 13, 2) := by decide +kernel
theorem dL_law_723 : decode cL_law 723 = .ok (.bipush 7, 2) := by decide +kernel
theorem dL_law_725 : decode cL_law 725 = .ok (.invokevirtual 33, 3) := by decide +kernel
theorem dL_law_728 : decode cL_law 728 = .ok (.if_icmp .eq 630, 3) := by decide +kernel
theorem dL_law_731 : decode cL_law 731 = .ok (.iconst 0, 1) := by decide +kernel
theorem dL_law_732 : decode cL_law 732 = .ok (.ireturn, 1) := by decide +kernel
theorem dL_law_733 : decode cL_law 733 = .ok (.aload_n 1, 1) := by decide +kernel
theorem dL_law_734 : decode cL_law 734 = .ok (.iload 13, 2) := by decide +kernel
theorem dL_law_736 : decode cL_law 736 = .ok (.invokevirtual 67, 3) := by decide +kernel
theorem dL_law_739 : decode cL_law 739 = .ok (.istore 16, 2) := by decide +kernel
theorem dL_law_741 : decode cL_law 741 = .ok (.iload 16, 2) := by decide +kernel
theorem dL_law_743 : decode cL_law 743 = .ok (.aload_n 1, 1) := by decide +kernel
theorem dL_law_744 : decode cL_law 744 = .ok (.iload 13, 2) := by decide +kernel
theorem dL_law_746 : decode cL_law 746 = .ok (.bipush 9, 2) := by decide +kernel
theorem dL_law_748 : decode cL_law 748 = .ok (.invokevirtual 33, 3) := by decide +kernel
theorem dL_law_751 : decode cL_law 751 = .ok (.if_icmp .ne 20, 3) := by decide +kernel
theorem dL_law_754 : decode cL_law 754 = .ok (.iload 16, 2) := by decide +kernel
theorem dL_law_756 : decode cL_law 756 = .ok (.aload_n 1, 1) := by decide +kernel
theorem dL_law_757 : decode cL_law 757 = .ok (.iload 13, 2) := by decide +kernel
theorem dL_law_759 : decode cL_law 759 = .ok (.iconst 4, 1) := by decide +kernel
theorem dL_law_760 : decode cL_law 760 = .ok (.invokevirtual 33, 3) := by decide +kernel
theorem dL_law_763 : decode cL_law 763 = .ok (.isub, 1) := by decide +kernel
theorem dL_law_764 : decode cL_law 764 = .ok (.invokestatic 70, 3) := by decide +kernel
theorem dL_law_767 : decode cL_law 767 = .ok (.iconst 4, 1) := by decide +kernel
theorem dL_law_768 : decode cL_law 768 = .ok (.if_icmp .le 590, 3) := by decide +kernel
theorem dL_law_771 : decode cL_law 771 = .ok (.iconst 0, 1) := by decide +kernel
theorem dL_law_772 : decode cL_law 772 = .ok (.ireturn, 1) := by decide +kernel
theorem dL_law_773 : decode cL_law 773 = .ok (.iload 15, 2) := by decide +kernel
theorem dL_law_775 : decode cL_law 775 = .ok (.ifCond .ne 583, 3) := by decide +kernel
theorem dL_law_778 : decode cL_law 778 = .ok (.aload_n 1, 1) := by decide +kernel
theorem dL_law_779 : decode cL_law 779 = .ok (.iload 13, 2) := by decide +kernel
theorem dL_law_781 : decode cL_law 781 = .ok (.invokevirtual 73, 3) := by decide +kernel
theorem dL_law_784 : decode cL_law 784 = .ok (.ifCond .eq 574, 3) := by decide +kernel
theorem dL_law_787 : decode cL_law 787 = .ok (.aload_n 1, 1) := by decide +kernel
theorem dL_law_788 : decode cL_law 788 = .ok (.iload 13, 2) := by decide +kernel
theorem dL_law_790 : decode cL_law 790 = .ok (.bipush 13, 2) := by decide +kernel
theorem dL_law_792 : decode cL_law 792 = .ok (.invokevirtual 33, 3) := by decide +kernel
theorem dL_law_795 : decode cL_law 795 = .ok (.iconst 1, 1) := by decide +kernel
theorem dL_law_796 : decode cL_law 796 = .ok (.if_icmp .eq 562, 3) := by decide +kernel
theorem dL_law_799 : decode cL_law 799 = .ok (.iconst 0, 1) := by decide +kernel
theorem dL_law_800 : decode cL_law 800 = .ok (.ireturn, 1) := by decide +kernel
theorem dL_law_801 : decode cL_law 801 = .ok (.aload_n 1, 1) := by decide +kernel
theorem dL_law_802 : decode cL_law 802 = .ok (.iload 13, 2) := by decide +kernel
theorem dL_law_804 : decode cL_law 804 = .ok (.iconst 1, 1) := by decide +kernel
theorem dL_law_805 : decode cL_law 805 = .ok (.invokevirtual 33, 3) := by decide +kernel
theorem dL_law_808 : decode cL_law 808 = .ok (.iconst 2, 1) := by decide +kernel
theorem dL_law_809 : decode cL_law 809 = .ok (.if_icmp .lt 549, 3) := by decide +kernel
theorem dL_law_812 : decode cL_law 812 = .ok (.iload 15, 2) := by decide +kernel
theorem dL_law_814 : decode cL_law 814 = .ok (.ifCond .ne 544, 3) := by decide +kernel
theorem dL_law_817 : decode cL_law 817 = .ok (.iload 6, 2) := by decide +kernel
theorem dL_law_819 : decode cL_law 819 = .ok (.bipush 20, 2) := by decide +kernel
theorem dL_law_821 : decode cL_law 821 = .ok (.if_icmp .eq 537, 3) := by decide +kernel
theorem dL_law_824 : decode cL_law 824 = .ok (.aload_n 1, 1) := by decide +kernel
theorem dL_law_825 : decode cL_law 825 = .ok (.iconst 0, 1) := by decide +kernel
theorem dL_law_826 : decode cL_law 826 = .ok (.invokevirtual 46, 3) := by decide +kernel
theorem dL_law_829 : decode cL_law 829 = .ok (.bipush 24, 2) := by decide +kernel
theorem dL_law_831 : decode cL_law 831 = .ok (.irem, 1) := by decide +kernel
theorem dL_law_832 : decode cL_law 832 = .ok (.bipush 6, 2) := by decide +kernel
theorem dL_law_834 : decode cL_law 834 = .ok (.if_icmp .le 19, 3) := by decide +kernel
theorem dL_law_837 : decode cL_law 837 = .ok (.aload_n 1, 1) := by decide +kernel
theorem dL_law_838 : decode cL_law 838 = .ok (.iconst 0, 1) := by decide +kernel
theorem dL_law_839 : decode cL_law 839 = .ok (.invokevirtual 46, 3) := by decide +kernel
theorem dL_law_842 : decode cL_law 842 = .ok (.bipush 24, 2) := by decide +kernel
theorem dL_law_844 : decode cL_law 844 = .ok (.irem, 1) := by decide +kernel
theorem dL_law_845 : decode cL_law 845 = .ok (.bipush 18, 2) := by decide +kernel
theorem dL_law_847 : decode cL_law 847 = .ok (.if_icmp .ge 6, 3) := by decide +kernel
theorem dL_law_850 : decode cL_law 850 = .ok (.goto 508, 3) := by decide +kernel
theorem dL_law_853 : decode cL_law 853 = .ok (.iinc 6 1, 3) := by decide +kernel
theorem dL_law_856 : decode cL_law 856 = .ok (.aload_n 1, 1) := by decide +kernel
theorem dL_law_857 : decode cL_law 857 = .ok (.iload 13, 2) := by decide +kernel
theorem dL_law_859 : decode cL_law 859 = .ok (.iconst 2, 1) := by decide +kernel
theorem dL_law_860 : decode cL_law 860 = .ok (.invokevirtual 33, 3) := by decide +kernel
theorem dL_law_863 : decode cL_law 863 = .ok (.istore 16, 2) := by decide +kernel
theorem dL_law_865 : decode cL_law 865 = .ok (.aload_n 1, 1) := by decide +kernel
theorem dL_law_866 : decode cL_law 866 = .ok (.iload 13, 2) := by decide +kernel
theorem dL_law_868 : decode cL_law 868 = .ok (.iconst 1, 1) := by decide +kernel
theorem dL_law_869 : decode cL_law 869 = .ok (.invokevirtual 33, 3) := by decide +kernel
theorem dL_law_872 : decode cL_law 872 = .ok (.istore 17, 2) := by decide +kernel
theorem dL_law_874 : decode cL_law 874 = .ok (.aload_n 1, 1) := by decide +kernel
theorem dL_law_875 : decode cL_law 875 = .ok (.iload 13, 2) := by decide +kernel
theorem dL_law_877 : decode cL_law 877 = .ok (.invokevirtual 77, 3) := by decide +kernel
theorem dL_law_880 : decode cL_law 880 = .ok (.istore 18, 2) := by decide +kernel
theorem dL_law_882 : decode cL_law 882 = .ok (.aload_n 1, 1) := by decide +kernel
theorem dL_law_883 : decode cL_law 883 = .ok (.iload 13, 2) := by decide +kernel
theorem dL_law_885 : decode cL_law 885 = .ok (.iconst 1, 1) := by decide +kernel
theorem dL_law_886 : decode cL_law 886 = .ok (.invokevirtual 33, 3) := by decide +kernel
theorem dL_law_889 : decode cL_law 889 = .ok (.iload 17, 2) := by decide +kernel
theorem dL_law_891 : decode cL_law 891 = .ok (.iconst 1, 1) := by decide +kernel
theorem dL_law_892 : decode cL_law 892 = .ok (.isub, 1) := by decide +kernel
theorem dL_law_893 : decode cL_law 893 = .ok (.if_icmp .ne 46, 3) := by decide +kernel
theorem dL_law_896 : decode cL_law 896 = .ok (.aload_n 1, 1) := by decide +kernel
theorem dL_law_897 : decode cL_law 897 = .ok (.iload 13, 2) := by decide +kernel
theorem dL_law_899 : decode cL_law 899 = .ok (.iload 17, 2) := by decide +kernel
theorem dL_law_901 : decode cL_law 901 = .ok (.iconst 2, 1) := by decide +kernel
theorem dL_law_902 : decode cL_law 902 = .ok (.isub, 1) := by decide +kernel
theorem dL_law_903 : decode cL_law 903 = .ok (.iconst 0, 1) := by decide +kernel
theorem dL_law_904 : decode cL_law 904 = .ok (.invokevirtual 80, 3) := by decide +kernel
theorem dL_law_907 : decode cL_law 907 = .ok (.iload 18, 2) := by decide +kernel
theorem dL_law_909 : decode cL_law 909 = .ok (.if_icmp .ne 30, 3) := by decide +kernel
theorem dL_law_912 : decode cL_law 912 = .ok (.aload_n 1, 1) := by decide +kernel
theorem dL_law_913 : decode cL_law 913 = .ok (.iload 13, 2) := by decide +kernel
theorem dL_law_915 : decode cL_law 915 = .ok (.iload 17, 2) := by decide +kernel
theorem dL_law_917 : decode cL_law 917 = .ok (.iconst 2, 1) := by decide +kernel
theorem dL_law_918 : decode cL_law 918 = .ok (.isub, 1) := by decide +kernel
theorem dL_law_919 : decode cL_law 919 = .ok (.iconst 2, 1) := by decide +kernel
theorem dL_law_920 : decode cL_law 920 = .ok (.invokevirtual 80, 3) := by decide +kernel
theorem dL_law_923 : decode cL_law 923 = .ok (.iconst 3, 1) := by decide +kernel
theorem dL_law_924 : decode cL_law 924 = .ok (.if_icmp .ne 15, 3) := by decide +kernel
theorem dL_law_927 : decode cL_law 927 = .ok (.aload_n 1, 1) := by decide +kernel
theorem dL_law_928 : decode cL_law 928 = .ok (.iload 13, 2) := by decide +kernel
theorem dL_law_930 : decode cL_law 930 = .ok (.iconst 2, 1) := by decide +kernel
theorem dL_law_931 : decode cL_law 931 = .ok (.invokevirtual 33, 3) := by decide +kernel
theorem dL_law_934 : decode cL_law 934 = .ok (.iload 16, 2) := by decide +kernel
theorem dL_law_936 : decode cL_law 936 = .ok (.if_icmp .le 422, 3) := by decide +kernel
theorem dL_law_939 : decode cL_law 939 = .ok (.iconst 0, 1) := by decide +kernel
theorem dL_law_940 : decode cL_law 940 = .ok (.ireturn, 1) := by decide +kernel
theorem dL_law_941 : decode cL_law 941 = .ok (.iload 15, 2) := by decide +kernel
theorem dL_law_943 : decode cL_law 943 = .ok (.ifCond .eq 6, 3) := by decide +kernel
theorem dL_law_946 : decode cL_law 946 = .ok (.goto 412, 3) := by decide +kernel
theorem dL_law_949 : decode cL_law 949 = .ok (.aload_n 1, 1) := by decide +kernel
theorem dL_law_950 : decode cL_law 950 = .ok (.iload 13, 2) := by decide +kernel
theorem dL_law_952 : decode cL_law 952 = .ok (.bipush 8, 2) := by decide +kernel
theorem dL_law_954 : decode cL_law 954 = .ok (.invokevirtual 33, 3) := by decide +kernel
theorem dL_law_957 : decode cL_law 957 = .ok (.istore 16, 2) := by decide +kernel
theorem dL_law_959 : decode cL_law 959 = .ok (.aload_n 1, 1) := by decide +kernel
theorem dL_law_960 : decode cL_law 960 = .ok (.iload 13, 2) := by decide +kernel
theorem dL_law_962 : decode cL_law 962 = .ok (.invokevirtual 84, 3) := by decide +kernel
theorem dL_law_965 : decode cL_law 965 = .ok (.iload 16, 2) := by decide +kernel
theorem dL_law_967 : decode cL_law 967 = .ok (.if_icmp .ne 24, 3) := by decide +kernel
theorem dL_law_970 : decode cL_law 970 = .ok (.aload_n 1, 1) := by decide +kernel
theorem dL_law_971 : decode cL_law 971 = .ok (.iload 13, 2) := by decide +kernel
theorem dL_law_973 : decode cL_law 973 = .ok (.bipush 6, 2) := by decide +kernel
theorem dL_law_975 : decode cL_law 975 = .ok (.invokevirtual 33, 3) := by decide +kernel
theorem dL_law_978 : decode cL_law 978 = .ok (.iload 16, 2) := by decide +kernel
theorem dL_law_980 : decode cL_law 980 = .ok (.ifCond .ne 7, 3) := by decide +kernel
theorem dL_law_983 : decode cL_law 983 = .ok (.iconst 1, 1) := by decide +kernel
theorem dL_law_984 : decode cL_law 984 = .ok (.goto 4, 3) := by decide +kernel
theorem dL_law_987 : decode cL_law 987 = .ok (.iconst 0, 1) := by decide +kernel
theorem dL_law_988 : decode cL_law 988 = .ok (.if_icmp .eq 370, 3) := by decide +kernel
theorem dL_law_991 : decode cL_law 991 = .ok (.iconst 0, 1) := by decide +kernel
theorem dL_law_992 : decode cL_law 992 = .ok (.ireturn, 1) := by decide +kernel
theorem dL_law_993 : decode cL_law 993 = .ok (.iload 15, 2) := by decide +kernel
theorem dL_law_995 : decode cL_law 995 = .ok (.ifCond .eq 363, 3) := by decide +kernel
theorem dL_law_998 : decode cL_law 998 = .ok (.aload_n 1, 1) := by decide +kernel
theorem dL_law_999 : decode cL_law 999 = .ok (.iload 13, 2) := by decide +kernel
theorem dL_law_1001 : decode cL_law 1001 = .ok (.invokevirtual 87, 3) := by decide +kernel
theorem dL_law_1004 : decode cL_law 1004 = .ok (.ifCond .lt 25, 3) := by decide +kernel
theorem dL_law_1007 : decode cL_law 1007 = .ok (.aload_n 1, 1) := by decide +kernel
theorem dL_law_1008 : decode cL_law 1008 = .ok (.iload 13, 2) := by decide +kernel
theorem dL_law_1010 : decode cL_law 1010 = .ok (.bipush 6, 2) := by decide +kernel
theorem dL_law_1012 : decode cL_law 1012 = .ok (.invokevirtual 33, 3) := by decide +kernel
theorem dL_law_1015 : decode cL_law 1015 = .ok (.ifCond .ne 14, 3) := by decide +kernel
theorem dL_law_1018 : decode cL_law 1018 = .ok (.aload_n 1, 1) := by decide +kernel
theorem dL_law_1019 : decode cL_law 1019 = .ok (.iload 13, 2) := by decide +kernel
theorem dL_law_1021 : decode cL_law 1021 = .ok (.bipush 13, 2) := by decide +kernel
theorem dL_law_1023 : decode cL_law 1023 = .ok (.invokevirtual 33, 3) := by decide +kernel
theorem dL_law_1026 : decode cL_law 1026 = .ok (.ifCond .eq 332, 3) := by decide +kernel
theorem dL_law_1029 : decode cL_law 1029 = .ok (.iconst 0, 1) := by decide +kernel
theorem dL_law_1030 : decode cL_law 1030 = .ok (.ireturn, 1) := by decide +kernel
theorem dL_law_1031 : decode cL_law 1031 = .ok (.iload 12, 2) := by decide +kernel
theorem dL_law_1033 : decode cL_law 1033 = .ok (.invokestatic 90, 3) := by decide +kernel
theorem dL_law_1036 : decode cL_law 1036 = .ok (.astore 16, 2) := by decide +kernel
theorem dL_law_1038 : decode cL_law 1038 = .ok (.iconst 1, 1) := by decide +kernel
theorem dL_law_1039 : decode cL_law 1039 = .ok (.iload 12, 2) := by decide +kernel
theorem dL_law_1041 : decode cL_law 1041 = .ok (.iconst 4, 1) := by decide +kernel
theorem dL_law_1042 : decode cL_law 1042 = .ok (.ishr, 1) := by decide +kernel
theorem dL_law_1043 : decode cL_law 1043 = .ok (.bipush 6, 2) := by decide +kernel
theorem dL_law_1045 : decode cL_law 1045 = .ok (.invokestatic 9, 3) := by decide +kernel
theorem dL_law_1048 : decode cL_law 1048 = .ok (.iadd, 1) := by decide +kernel
theorem dL_law_1049 : decode cL_law 1049 = .ok (.istore 17, 2) := by decide +kernel
theorem dL_law_1051 : decode cL_law 1051 = .ok (.iconst 0, 1) := by decide +kernel
theorem dL_law_1052 : decode cL_law 1052 = .ok (.istore 18, 2) := by decide +kernel
theorem dL_law_1054 : decode cL_law 1054 = .ok (.iload 18, 2) := by decide +kernel
theorem dL_law_1056 : decode cL_law 1056 = .ok (.iload 17, 2) := by decide +kernel
theorem dL_law_1058 : decode cL_law 1058 = .ok (.if_icmp .ge 300, 3) := by decide +kernel
theorem dL_law_1061 : decode cL_law 1061 = .ok (.aload_n 1, 1) := by decide +kernel
theorem dL_law_1062 : decode cL_law 1062 = .ok (.iconst 4, 1) := by decide +kernel
theorem dL_law_1063 : decode cL_law 1063 = .ok (.invokevirtual 46, 3) := by decide +kernel
theorem dL_law_1066 : decode cL_law 1066 = .ok (.istore 19, 2) := by decide +kernel
theorem dL_law_1068 : decode cL_law 1068 = .ok (.aload_n 1, 1) := by decide +kernel
theorem dL_law_1069 : decode cL_law 1069 = .ok (.bipush 8, 2) := by decide +kernel
theorem dL_law_1071 : decode cL_law 1071 = .ok (.invokevirtual 46, 3) := by decide +kernel
theorem dL_law_1074 : decode cL_law 1074 = .ok (.istore 20, 2) := by decide +kernel
theorem dL_law_1076 : decode cL_law 1076 = .ok (.aload_n 1, 1) := by decide +kernel
theorem dL_law_1077 : decode cL_law 1077 = .ok (.bipush 10, 2) := by decide +kernel
theorem dL_law_1079 : decode cL_law 1079 = .ok (.invokevirtual 46, 3) := by decide +kernel
theorem dL_law_1082 : decode cL_law 1082 = .ok (.istore 21, 2) := by decide +kernel
theorem dL_law_1084 : decode cL_law 1084 = .ok (.aload_n 1, 1) := by decide +kernel
theorem dL_law_1085 : decode cL_law 1085 = .ok (.bipush 11, 2) := by decide +kernel
theorem dL_law_1087 : decode cL_law 1087 = .ok (.invokevirtual 46, 3) := by decide +kernel
theorem dL_law_1090 : decode cL_law 1090 = .ok (.istore 22, 2) := by decide +kernel
theorem dL_law_1092 : decode cL_law 1092 = .ok (.iload_n 3, 1) := by decide +kernel
theorem dL_law_1093 : decode cL_law 1093 = .ok (.newarray .int, 2) := by decide +kernel
theorem dL_law_1095 : decode cL_law 1095 = .ok (.astore 23, 2) := by decide +kernel
theorem dL_law_1097 : decode cL_law 1097 = .ok (.iconst 0, 1) := by decide +kernel
theorem dL_law_1098 : decode cL_law 1098 = .ok (.istore 24, 2) := by decide +kernel
theorem dL_law_1100 : decode cL_law 1100 = .ok (.iload 24, 2) := by decide +kernel
theorem dL_law_1102 : decode cL_law 1102 = .ok (.iload_n 3, 1) := by decide +kernel
theorem dL_law_1103 : decode cL_law 1103 = .ok (.if_icmp .ge 22, 3) := by decide +kernel
theorem dL_law_1106 : decode cL_law 1106 = .ok (.aload 23, 2) := by decide +kernel
theorem dL_law_1108 : decode cL_law 1108 = .ok (.iload 24, 2) := by decide +kernel
theorem dL_law_1110 : decode cL_law 1110 = .ok (.aload_n 1, 1) := by decide +kernel
theorem dL_law_1111 : decode cL_law 1111 = .ok (.iload 24, 2) := by decide +kernel
theorem dL_law_1113 : decode cL_law 1113 = .ok (.bipush 12, 2) := by decide +kernel
theorem dL_law_1115 : decode cL_law 1115 = .ok (.invokevirtual 33, 3) := by decide +kernel
theorem dL_law_1118 : decode cL_law 1118 = .ok (.iastore, 1) := by decide +kernel
end
section
theorem dL_law_1119 : decode cL_law 1119 = .ok (.iinc 24 1, 3) := by decide +kernel
theorem dL_law_1122 : decode cL_law 1122 = .ok (.goto (-22), 3) := by decide +kernel
theorem dL_law_1125 : decode cL_law 1125 = .ok (.aload_n 1, 1) := by decide +kernel
theorem dL_law_1126 : decode cL_law 1126 = .ok (.iconst 1, 1) := by decide +kernel
theorem dL_law_1127 : decode cL_law 1127 = .ok (.aload 16, 2) := by decide +kernel
theorem dL_law_1129 : decode cL_law 1129 = .ok (.invokestatic 94, 3) := by decide +kernel
theorem dL_law_1132 : decode cL_law 1132 = .ok (.istore 24, 2) := by decide +kernel
theorem dL_law_1134 : decode cL_law 1134 = .ok (.aload_n 1, 1) := by decide +kernel
theorem dL_law_1135 : decode cL_law 1135 = .ok (.iconst 0, 1) := by decide +kernel
theorem dL_law_1136 : decode cL_law 1136 = .ok (.invokevirtual 46, 3) := by decide +kernel
theorem dL_law_1139 : decode cL_law 1139 = .ok (.bipush 24, 2) := by decide +kernel
theorem dL_law_1141 : decode cL_law 1141 = .ok (.irem, 1) := by decide +kernel
theorem dL_law_1142 : decode cL_law 1142 = .ok (.istore 25, 2) := by decide +kernel
theorem dL_law_1144 : decode cL_law 1144 = .ok (.iload 10, 2) := by decide +kernel
theorem dL_law_1146 : decode cL_law 1146 = .ok (.iload 25, 2) := by decide +kernel
theorem dL_law_1148 : decode cL_law 1148 = .ok (.bipush 8, 2) := by decide +kernel
theorem dL_law_1150 : decode cL_law 1150 = .ok (.if_icmp .le 15, 3) := by decide +kernel
theorem dL_law_1153 : decode cL_law 1153 = .ok (.iload 25, 2) := by decide +kernel
theorem dL_law_1155 : decode cL_law 1155 = .ok (.bipush 17, 2) := by decide +kernel
theorem dL_law_1157 : decode cL_law 1157 = .ok (.if_icmp .ge 8, 3) := by decide +kernel
theorem dL_law_1160 : decode cL_law 1160 = .ok (.iload 9, 2) := by decide +kernel
theorem dL_law_1162 : decode cL_law 1162 = .ok (.goto 4, 3) := by decide +kernel
theorem dL_law_1165 : decode cL_law 1165 = .ok (.iconst 0, 1) := by decide +kernel
theorem dL_law_1166 : decode cL_law 1166 = .ok (.iadd, 1) := by decide +kernel
theorem dL_law_1167 : decode cL_law 1167 = .ok (.istore 10, 2) := by decide +kernel
theorem dL_law_1169 : decode cL_law 1169 = .ok (.aload_n 1, 1) := by decide +kernel
theorem dL_law_1170 : decode cL_law 1170 = .ok (.bipush 8, 2) := by decide +kernel
theorem dL_law_1172 : decode cL_law 1172 = .ok (.invokevirtual 46, 3) := by decide +kernel
theorem dL_law_1175 : decode cL_law 1175 = .ok (.iload 20, 2) := by decide +kernel
theorem dL_law_1177 : decode cL_law 1177 = .ok (.iload 24, 2) := by decide +kernel
theorem dL_law_1179 : decode cL_law 1179 = .ok (.iadd, 1) := by decide +kernel
theorem dL_law_1180 : decode cL_law 1180 = .ok (.if_icmp .ne 83, 3) := by decide +kernel
theorem dL_law_1183 : decode cL_law 1183 = .ok (.iload 24, 2) := by decide +kernel
theorem dL_law_1185 : decode cL_law 1185 = .ok (.iload_n 3, 1) := by decide +kernel
theorem dL_law_1186 : decode cL_law 1186 = .ok (.if_icmp .gt 77, 3) := by decide +kernel
theorem dL_law_1189 : decode cL_law 1189 = .ok (.aload_n 1, 1) := by decide +kernel
theorem dL_law_1190 : decode cL_law 1190 = .ok (.bipush 10, 2) := by decide +kernel
theorem dL_law_1192 : decode cL_law 1192 = .ok (.invokevirtual 46, 3) := by decide +kernel
theorem dL_law_1195 : decode cL_law 1195 = .ok (.iload 21, 2) := by decide +kernel
theorem dL_law_1197 : decode cL_law 1197 = .ok (.if_icmp .lt 66, 3) := by decide +kernel
theorem dL_law_1200 : decode cL_law 1200 = .ok (.aload_n 1, 1) := by decide +kernel
theorem dL_law_1201 : decode cL_law 1201 = .ok (.bipush 10, 2) := by decide +kernel
theorem dL_law_1203 : decode cL_law 1203 = .ok (.invokevirtual 46, 3) := by decide +kernel
theorem dL_law_1206 : decode cL_law 1206 = .ok (.iload 21, 2) := by decide +kernel
theorem dL_law_1208 : decode cL_law 1208 = .ok (.iload 24, 2) := by decide +kernel
theorem dL_law_1210 : decode cL_law 1210 = .ok (.iadd, 1) := by decide +kernel
theorem dL_law_1211 : decode cL_law 1211 = .ok (.if_icmp .gt 52, 3) := by decide +kernel
theorem dL_law_1214 : decode cL_law 1214 = .ok (.aload_n 1, 1) := by decide +kernel
theorem dL_law_1215 : decode cL_law 1215 = .ok (.bipush 11, 2) := by decide +kernel
theorem dL_law_1217 : decode cL_law 1217 = .ok (.invokevirtual 46, 3) := by decide +kernel
theorem dL_law_1220 : decode cL_law 1220 = .ok (.iload 22, 2) := by decide +kernel
theorem dL_law_1222 : decode cL_law 1222 = .ok (.if_icmp .lt 41, 3) := by decide +kernel
theorem dL_law_1225 : decode cL_law 1225 = .ok (.aload_n 1, 1) := by decide +kernel
theorem dL_law_1226 : decode cL_law 1226 = .ok (.iconst 4, 1) := by decide +kernel
theorem dL_law_1227 : decode cL_law 1227 = .ok (.invokevirtual 46, 3) := by decide +kernel
theorem dL_law_1230 : decode cL_law 1230 = .ok (.iload 19, 2) := by decide +kernel
theorem dL_law_1232 : decode cL_law 1232 = .ok (.if_icmp .gt 31, 3) := by decide +kernel
theorem dL_law_1235 : decode cL_law 1235 = .ok (.aload_n 1, 1) := by decide +kernel
theorem dL_law_1236 : decode cL_law 1236 = .ok (.iconst 4, 1) := by decide +kernel
theorem dL_law_1237 : decode cL_law 1237 = .ok (.invokevirtual 46, 3) := by decide +kernel
theorem dL_law_1240 : decode cL_law 1240 = .ok (.iload 19, 2) := by decide +kernel
theorem dL_law_1242 : decode cL_law 1242 = .ok (.iconst 5, 1) := by decide +kernel
theorem dL_law_1243 : decode cL_law 1243 = .ok (.iload 7, 2) := by decide +kernel
theorem dL_law_1245 : decode cL_law 1245 = .ok (.imul, 1) := by decide +kernel
theorem dL_law_1246 : decode cL_law 1246 = .ok (.isub, 1) := by decide +kernel
theorem dL_law_1247 : decode cL_law 1247 = .ok (.if_icmp .lt 16, 3) := by decide +kernel
theorem dL_law_1250 : decode cL_law 1250 = .ok (.iload 19, 2) := by decide +kernel
theorem dL_law_1252 : decode cL_law 1252 = .ok (.aload_n 1, 1) := by decide +kernel
theorem dL_law_1253 : decode cL_law 1253 = .ok (.iconst 4, 1) := by decide +kernel
theorem dL_law_1254 : decode cL_law 1254 = .ok (.invokevirtual 46, 3) := by decide +kernel
theorem dL_law_1257 : decode cL_law 1257 = .ok (.isub, 1) := by decide +kernel
theorem dL_law_1258 : decode cL_law 1258 = .ok (.iconst 5, 1) := by decide +kernel
theorem dL_law_1259 : decode cL_law 1259 = .ok (.irem, 1) := by decide +kernel
theorem dL_law_1260 : decode cL_law 1260 = .ok (.ifCond .eq 5, 3) := by decide +kernel
theorem dL_law_1263 : decode cL_law 1263 = .ok (.iconst 0, 1) := by decide +kernel
theorem dL_law_1264 : decode cL_law 1264 = .ok (.ireturn, 1) := by decide +kernel
theorem dL_law_1265 : decode cL_law 1265 = .ok (.iconst 0, 1) := by decide +kernel
theorem dL_law_1266 : decode cL_law 1266 = .ok (.istore 26, 2) := by decide +kernel
theorem dL_law_1268 : decode cL_law 1268 = .ok (.iload 26, 2) := by decide +kernel
theorem dL_law_1270 : decode cL_law 1270 = .ok (.iload_n 3, 1) := by decide +kernel
theorem dL_law_1271 : decode cL_law 1271 = .ok (.if_icmp .ge 39, 3) := by decide +kernel
theorem dL_law_1274 : decode cL_law 1274 = .ok (.aload_n 1, 1) := by decide +kernel
theorem dL_law_1275 : decode cL_law 1275 = .ok (.iload 26, 2) := by decide +kernel
theorem dL_law_1277 : decode cL_law 1277 = .ok (.bipush 12, 2) := by decide +kernel
theorem dL_law_1279 : decode cL_law 1279 = .ok (.invokevirtual 33, 3) := by decide +kernel
theorem dL_law_1282 : decode cL_law 1282 = .ok (.aload 23, 2) := by decide +kernel
theorem dL_law_1284 : decode cL_law 1284 = .ok (.iload 26, 2) := by decide +kernel
theorem dL_law_1286 : decode cL_law 1286 = .ok (.iaload, 1) := by decide +kernel
theorem dL_law_1287 : decode cL_law 1287 = .ok (.if_icmp .ne 17, 3) := by decide +kernel
theorem dL_law_1290 : decode cL_law 1290 = .ok (.aload_n 1, 1) := by decide +kernel
theorem dL_law_1291 : decode cL_law 1291 = .ok (.iload 26, 2) := by decide +kernel
theorem dL_law_1293 : decode cL_law 1293 = .ok (.iconst 4, 1) := by decide +kernel
theorem dL_law_1294 : decode cL_law 1294 = .ok (.invokevirtual 33, 3) := by decide +kernel
theorem dL_law_1297 : decode cL_law 1297 = .ok (.bipush 100, 2) := by decide +kernel
theorem dL_law_1299 : decode cL_law 1299 = .ok (.if_icmp .lt 5, 3) := by decide +kernel
theorem dL_law_1302 : decode cL_law 1302 = .ok (.iconst 0, 1) := by decide +kernel
theorem dL_law_1303 : decode cL_law 1303 = .ok (.ireturn, 1) := by decide +kernel
theorem dL_law_1304 : decode cL_law 1304 = .ok (.iinc 26 1, 3) := by decide +kernel
theorem dL_law_1307 : decode cL_law 1307 = .ok (.goto (-39), 3) := by decide +kernel
theorem dL_law_1310 : decode cL_law 1310 = .ok (.iconst 0, 1) := by decide +kernel
theorem dL_law_1311 : decode cL_law 1311 = .ok (.istore 26, 2) := by decide +kernel
theorem dL_law_1313 : decode cL_law 1313 = .ok (.iload 26, 2) := by decide +kernel
theorem dL_law_1315 : decode cL_law 1315 = .ok (.iload_n 2, 1) := by decide +kernel
theorem dL_law_1316 : decode cL_law 1316 = .ok (.if_icmp .ge 36, 3) := by decide +kernel
theorem dL_law_1319 : decode cL_law 1319 = .ok (.aload 16, 2) := by decide +kernel
theorem dL_law_1321 : decode cL_law 1321 = .ok (.iconst 2, 1) := by decide +kernel
theorem dL_law_1322 : decode cL_law 1322 = .ok (.iaload, 1) := by decide +kernel
theorem dL_law_1323 : decode cL_law 1323 = .ok (.aload_n 1, 1) := by decide +kernel
theorem dL_law_1324 : decode cL_law 1324 = .ok (.iload 26, 2) := by decide +kernel
theorem dL_law_1326 : decode cL_law 1326 = .ok (.iconst 1, 1) := by decide +kernel
theorem dL_law_1327 : decode cL_law 1327 = .ok (.invokevirtual 36, 3) := by decide +kernel
theorem dL_law_1330 : decode cL_law 1330 = .ok (.if_icmp .le 16, 3) := by decide +kernel
theorem dL_law_1333 : decode cL_law 1333 = .ok (.aload_n 1, 1) := by decide +kernel
theorem dL_law_1334 : decode cL_law 1334 = .ok (.iload 26, 2) := by decide +kernel
theorem dL_law_1336 : decode cL_law 1336 = .ok (.iconst 3, 1) := by decide +kernel
theorem dL_law_1337 : decode cL_law 1337 = .ok (.invokevirtual 36, 3) := by decide +kernel
theorem dL_law_1340 : decode cL_law 1340 = .ok (.iconst 1, 1) := by decide +kernel
theorem dL_law_1341 : decode cL_law 1341 = .ok (.if_icmp .eq 5, 3) := by decide +kernel
theorem dL_law_1344 : decode cL_law 1344 = .ok (.iconst 0, 1) := by decide +kernel
theorem dL_law_1345 : decode cL_law 1345 = .ok (.ireturn, 1) := by decide +kernel
theorem dL_law_1346 : decode cL_law 1346 = .ok (.iinc 26 1, 3) := by decide +kernel
theorem dL_law_1349 : decode cL_law 1349 = .ok (.goto (-36), 3) := by decide +kernel
theorem dL_law_1352 : decode cL_law 1352 = .ok (.iinc 18 1, 3) := by decide +kernel
theorem dL_law_1355 : decode cL_law 1355 = .ok (.goto (-301), 3) := by decide +kernel
theorem dL_law_1358 : decode cL_law 1358 = .ok (.aload_n 1, 1) := by decide +kernel
theorem dL_law_1359 : decode cL_law 1359 = .ok (.iconst 5, 1) := by decide +kernel
theorem dL_law_1360 : decode cL_law 1360 = .ok (.invokevirtual 46, 3) := by decide +kernel
theorem dL_law_1363 : decode cL_law 1363 = .ok (.bipush 50, 2) := by decide +kernel
theorem dL_law_1365 : decode cL_law 1365 = .ok (.iload 5, 2) := by decide +kernel
theorem dL_law_1367 : decode cL_law 1367 = .ok (.isub, 1) := by decide +kernel
theorem dL_law_1368 : decode cL_law 1368 = .ok (.if_icmp .ne 48, 3) := by decide +kernel
theorem dL_law_1371 : decode cL_law 1371 = .ok (.aload_n 1, 1) := by decide +kernel
theorem dL_law_1372 : decode cL_law 1372 = .ok (.bipush 6, 2) := by decide +kernel
theorem dL_law_1374 : decode cL_law 1374 = .ok (.invokevirtual 46, 3) := by decide +kernel
theorem dL_law_1377 : decode cL_law 1377 = .ok (.bipush 100, 2) := by decide +kernel
theorem dL_law_1379 : decode cL_law 1379 = .ok (.iconst 5, 1) := by decide +kernel
theorem dL_law_1380 : decode cL_law 1380 = .ok (.iload 6, 2) := by decide +kernel
theorem dL_law_1382 : decode cL_law 1382 = .ok (.imul, 1) := by decide +kernel
theorem dL_law_1383 : decode cL_law 1383 = .ok (.isub, 1) := by decide +kernel
theorem dL_law_1384 : decode cL_law 1384 = .ok (.if_icmp .ne 32, 3) := by decide +kernel
theorem dL_law_1387 : decode cL_law 1387 = .ok (.aload_n 1, 1) := by decide +kernel
theorem dL_law_1388 : decode cL_law 1388 = .ok (.bipush 12, 2) := by decide +kernel
theorem dL_law_1390 : decode cL_law 1390 = .ok (.invokevirtual 46, 3) := by decide +kernel
theorem dL_law_1393 : decode cL_law 1393 = .ok (.aload_n 1, 1) := by decide +kernel
theorem dL_law_1394 : decode cL_law 1394 = .ok (.bipush 13, 2) := by decide +kernel
theorem dL_law_1396 : decode cL_law 1396 = .ok (.invokevirtual 46, 3) := by decide +kernel
theorem dL_law_1399 : decode cL_law 1399 = .ok (.iadd, 1) := by decide +kernel
theorem dL_law_1400 : decode cL_law 1400 = .ok (.iload 10, 2) := by decide +kernel
theorem dL_law_1402 : decode cL_law 1402 = .ok (.if_icmp .ne 14, 3) := by decide +kernel
theorem dL_law_1405 : decode cL_law 1405 = .ok (.aload_n 1, 1) := by decide +kernel
theorem dL_law_1406 : decode cL_law 1406 = .ok (.iload_n 2, 1) := by decide +kernel
theorem dL_law_1407 : decode cL_law 1407 = .ok (.iload_n 3, 1) := by decide +kernel
theorem dL_law_1408 : decode cL_law 1408 = .ok (.aload 4, 2) := by decide +kernel
theorem dL_law_1410 : decode cL_law 1410 = .ok (.invokestatic 97, 3) := by decide +kernel
theorem dL_law_1413 : decode cL_law 1413 = .ok (.ifCond .ne 5, 3) := by decide +kernel
theorem dL_law_1416 : decode cL_law 1416 = .ok (.iconst 0, 1) := by decide +kernel
theorem dL_law_1417 : decode cL_law 1417 = .ok (.ireturn, 1) := by decide +kernel
theorem dL_law_1418 : decode cL_law 1418 = .ok (.iinc 11 1, 3) := by decide +kernel
theorem dL_law_1421 : decode cL_law 1421 = .ok (.goto (-1213), 3) := by decide +kernel
theorem dL_law_1424 : decode cL_law 1424 = .ok (.aload_n 1, 1) := by decide +kernel
theorem dL_law_1425 : decode cL_law 1425 = .ok (.invokevirtual 101, 3) := by decide +kernel
theorem dL_law_1428 : decode cL_law 1428 = .ok (.lstore 11, 2) := by decide +kernel
theorem dL_law_1430 : decode cL_law 1430 = .ok (.aload_n 1, 1) := by decide +kernel
theorem dL_law_1431 : decode cL_law 1431 = .ok (.iload_n 2, 1) := by decide +kernel
theorem dL_law_1432 : decode cL_law 1432 = .ok (.iload_n 3, 1) := by decide +kernel
theorem dL_law_1433 : decode cL_law 1433 = .ok (.aload 4, 2) := by decide +kernel
theorem dL_law_1435 : decode cL_law 1435 = .ok (.invokestatic 97, 3) := by decide +kernel
theorem dL_law_1438 : decode cL_law 1438 = .ok (.ifCond .eq 17, 3) := by decide +kernel
theorem dL_law_1441 : decode cL_law 1441 = .ok (.aload_n 1, 1) := by decide +kernel
theorem dL_law_1442 : decode cL_law 1442 = .ok (.invokevirtual 101, 3) := by decide +kernel
theorem dL_law_1445 : decode cL_law 1445 = .ok (.lload 11, 2) := by decide +kernel
theorem dL_law_1447 : decode cL_law 1447 = .ok (.lcmp, 1) := by decide +kernel
theorem dL_law_1448 : decode cL_law 1448 = .ok (.ifCond .ne 7, 3) := by decide +kernel
theorem dL_law_1451 : decode cL_law 1451 = .ok (.iconst 1, 1) := by decide +kernel
theorem dL_law_1452 : decode cL_law 1452 = .ok (.goto 4, 3) := by decide +kernel
theorem dL_law_1455 : decode cL_law 1455 = .ok (.iconst 0, 1) := by decide +kernel
theorem dL_law_1456 : decode cL_law 1456 = .ok (.ireturn, 1) := by decide +kernel
theorem dL_isSo_0 : decode cL_isSo 0 = .ok (.iconst 0, 1) := by decide +kernel
theorem dL_isSo_1 : decode cL_isSo 1 = .ok (.istore 4, 2) := by decide +kernel
theorem dL_isSo_3 : decode cL_isSo 3 = .ok (.iconst 0, 1) := by decide +kernel
theorem dL_isSo_4 : decode cL_isSo 4 = .ok (.istore 5, 2) := by decide +kernel
theorem dL_isSo_6 : decode cL_isSo 6 = .ok (.iconst 0, 1) := by decide +kernel
theorem dL_isSo_7 : decode cL_isSo 7 = .ok (.istore 6, 2) := by decide +kernel
theorem dL_isSo_9 : decode cL_isSo 9 = .ok (.iconst 0, 1) := by decide +kernel
theorem dL_isSo_10 : decode cL_isSo 10 = .ok (.istore 7, 2) := by decide +kernel
theorem dL_isSo_12 : decode cL_isSo 12 = .ok (.iconst 0, 1) := by decide +kernel
theorem dL_isSo_13 : decode cL_isSo 13 = .ok (.istore 8, 2) := by decide +kernel
theorem dL_isSo_15 : decode cL_isSo 15 = .ok (.iconst 0, 1) := by decide +kernel
theorem dL_isSo_16 : decode cL_isSo 16 = .ok (.istore 9, 2) := by decide +kernel
theorem dL_isSo_18 : decode cL_isSo 18 = .ok (.iconst 0, 1) := by decide +kernel
theorem dL_isSo_19 : decode cL_isSo 19 = .ok (.istore 10, 2) := by decide +kernel
theorem dL_isSo_21 : decode cL_isSo 21 = .ok (.iload 10, 2) := by decide +kernel
theorem dL_isSo_23 : decode cL_isSo 23 = .ok (.iload_n 2, 1) := by decide +kernel
theorem dL_isSo_24 : decode cL_isSo 24 = .ok (.if_icmp .ge 396, 3) := by decide +kernel
theorem dL_isSo_27 : decode cL_isSo 27 = .ok (.aload_n 0, 1) := by decide +kernel
theorem dL_isSo_28 : decode cL_isSo 28 = .ok (.iload 10, 2) := by decide +kernel
theorem dL_isSo_30 : decode cL_isSo 30 = .ok (.iconst 1, 1) := by decide +kernel
theorem dL_isSo_31 : decode cL_isSo 31 = .ok (.invokevirtual 33, 3) := by decide +kernel
theorem dL_isSo_34 : decode cL_isSo 34 = .ok (.istore 11, 2) := by decide +kernel
theorem dL_isSo_36 : decode cL_isSo 36 = .ok (.iconst 0, 1) := by decide +kernel
theorem dL_isSo_37 : decode cL_isSo 37 = .ok (.istore 12, 2) := by decide +kernel
theorem dL_isSo_39 : decode cL_isSo 39 = .ok (.iload 11, 2) := by decide +kernel
theorem dL_isSo_41 : decode cL_isSo 41 = .ok (.ifCond .lt 10, 3) := by decide +kernel
theorem dL_isSo_44 : decode cL_isSo 44 = .ok (.iload 11, 2) := by decide +kernel
theorem dL_isSo_46 : decode cL_isSo 46 = .ok (.bipush 8, 2) := by decide +kernel
theorem dL_isSo_48 : decode cL_isSo 48 = .ok (.if_icmp .le 5, 3) := by decide +kernel
theorem dL_isSo_51 : decode cL_isSo 51 = .ok (.iconst 0, 1) := by decide +kernel
theorem dL_isSo_52 : decode cL_isSo 52 = .ok (.ireturn, 1) := by decide +kernel
theorem dL_isSo_53 : decode cL_isSo 53 = .ok (.iconst 0, 1) := by decide +kernel
theorem dL_isSo_54 : decode cL_isSo 54 = .ok (.istore 13, 2) := by decide +kernel
theorem dL_isSo_56 : decode cL_isSo 56 = .ok (.iload 13, 2) := by decide +kernel
theorem dL_isSo_58 : decode cL_isSo 58 = .ok (.iload 11, 2) := by decide +kernel
theorem dL_isSo_60 : decode cL_isSo 60 = .ok (.if_icmp .ge 101, 3) := by decide +kernel
theorem dL_isSo_63 : decode cL_isSo 63 = .ok (.aload_n 0, 1) := by decide +kernel
theorem dL_isSo_64 : decode cL_isSo 64 = .ok (.iload 10, 2) := by decide +kernel
theorem dL_isSo_66 : decode cL_isSo 66 = .ok (.iload 13, 2) := by decide +kernel
theorem dL_isSo_68 : decode cL_isSo 68 = .ok (.iconst 2, 1) := by decide +kernel
theorem dL_isSo_69 : decode cL_isSo 69 = .ok (.invokevirtual 80, 3) := by decide +kernel
theorem dL_isSo_72 : decode cL_isSo 72 = .ok (.istore 14, 2) := by decide +kernel
theorem dL_isSo_74 : decode cL_isSo 74 = .ok (.iload 12, 2) := by decide +kernel
theorem dL_isSo_76 : decode cL_isSo 76 = .ok (.aload_n 0, 1) := by decide +kernel
theorem dL_isSo_77 : decode cL_isSo 77 = .ok (.iload 10, 2) := by decide +kernel
theorem dL_isSo_79 : decode cL_isSo 79 = .ok (.iload 13, 2) := by decide +kernel
theorem dL_isSo_81 : decode cL_isSo 81 = .ok (.iconst 0, 1) := by decide +kernel
theorem dL_isSo_82 : decode cL_isSo 82 = .ok (.invokevirtual 80, 3) := by decide +kernel
theorem dL_isSo_85 : decode cL_isSo 85 = .ok (.iadd, 1) := by decide +kernel
theorem dL_isSo_86 : decode cL_isSo 86 = .ok (.istore 12, 2) := by decide +kernel
theorem dL_isSo_88 : decode cL_isSo 88 = .ok (.aload_n 0, 1) := by decide +kernel
theorem dL_isSo_89 : decode cL_isSo 89 = .ok (.iload 10, 2) := by decide +kernel
theorem dL_isSo_91 : decode cL_isSo 91 = .ok (.iload 13, 2) := by decide +kernel
theorem dL_isSo_93 : decode cL_isSo 93 = .ok (.iconst 0, 1) := by decide +kernel
theorem dL_isSo_94 : decode cL_isSo 94 = .ok (.invokevirtual 80, 3) := by decide +kernel
theorem dL_isSo_97 : decode cL_isSo 97 = .ok (.iconst 1, 1) := by decide +kernel
theorem dL_isSo_98 : decode cL_isSo 98 = .ok (.if_icmp .lt 55, 3) := by decide +kernel
theorem dL_isSo_101 : decode cL_isSo 101 = .ok (.aload_n 0, 1) := by decide +kernel
theorem dL_isSo_102 : decode cL_isSo 102 = .ok (.iload 10, 2) := by decide +kernel
theorem dL_isSo_104 : decode cL_isSo 104 = .ok (.iload 13, 2) := by decide +kernel
theorem dL_isSo_106 : decode cL_isSo 106 = .ok (.iconst 0, 1) := by decide +kernel
theorem dL_isSo_107 : decode cL_isSo 107 = .ok (.invokevirtual 80, 3) := by decide +kernel
theorem dL_isSo_110 : decode cL_isSo 110 = .ok (.sipush 300, 3) := by decide +kernel
theorem dL_isSo_113 : decode cL_isSo 113 = .ok (.if_icmp .gt 40, 3) := by decide +kernel
theorem dL_isSo_116 : decode cL_isSo 116 = .ok (.aload_n 0, 1) := by decide +kernel
theorem dL_isSo_117 : decode cL_isSo 117 = .ok (.iload 10, 2) := by decide +kernel
theorem dL_isSo_119 : decode cL_isSo 119 = .ok (.iload 13, 2) := by decide +kernel
theorem dL_isSo_121 : decode cL_isSo 121 = .ok (.iconst 1, 1) := by decide +kernel
theorem dL_isSo_122 : decode cL_isSo 122 = .ok (.invokevirtual 80, 3) := by decide +kernel
theorem dL_isSo_125 : decode cL_isSo 125 = .ok (.ifCond .lt 28, 3) := by decide +kernel
theorem dL_isSo_128 : decode cL_isSo 128 = .ok (.aload_n 0, 1) := by decide +kernel
theorem dL_isSo_129 : decode cL_isSo 129 = .ok (.iload 10, 2) := by decide +kernel
theorem dL_isSo_131 : decode cL_isSo 131 = .ok (.iload 13, 2) := by decide +kernel
theorem dL_isSo_133 : decode cL_isSo 133 = .ok (.iconst 1, 1) := by decide +kernel
theorem dL_isSo_134 : decode cL_isSo 134 = .ok (.invokevirtual 80, 3) := by decide +kernel
theorem dL_isSo_137 : decode cL_isSo 137 = .ok (.bipush 100, 2) := by decide +kernel
theorem dL_isSo_139 : decode cL_isSo 139 = .ok (.if_icmp .gt 14, 3) := by decide +kernel
theorem dL_isSo_142 : decode cL_isSo 142 = .ok (.iload 14, 2) := by decide +kernel
theorem dL_isSo_144 : decode cL_isSo 144 = .ok (.ifCond .lt 9, 3) := by decide +kernel
theorem dL_isSo_147 : decode cL_isSo 147 = .ok (.iload 14, 2) := by decide +kernel
theorem dL_isSo_149 : decode cL_isSo 149 = .ok (.iconst 3, 1) := by decide +kernel
theorem dL_isSo_150 : decode cL_isSo 150 = .ok (.if_icmp .le 5, 3) := by decide +kernel
theorem dL_isSo_153 : decode cL_isSo 153 = .ok (.iconst 0, 1) := by decide +kernel
theorem dL_isSo_154 : decode cL_isSo 154 = .ok (.ireturn, 1) := by decide +kernel
theorem dL_isSo_155 : decode cL_isSo 155 = .ok (.iinc 13 1, 3) := by decide +kernel
theorem dL_isSo_158 : decode cL_isSo 158 = .ok (.goto (-102), 3) := by decide +kernel
theorem dL_isSo_161 : decode cL_isSo 161 = .ok (.aload_n 0, 1) := by decide +kernel
theorem dL_isSo_162 : decode cL_isSo 162 = .ok (.iload 10, 2) := by decide +kernel
theorem dL_isSo_164 : decode cL_isSo 164 = .ok (.iconst 5, 1) := by decide +kernel
theorem dL_isSo_165 : decode cL_isSo 165 = .ok (.invokevirtual 33, 3) := by decide +kernel
theorem dL_isSo_168 : decode cL_isSo 168 = .ok (.istore 13, 2) := by decide +kernel
theorem dL_isSo_170 : decode cL_isSo 170 = .ok (.iload 4, 2) := by decide +kernel
theorem dL_isSo_172 : decode cL_isSo 172 = .ok (.iload 12, 2) := by decide +kernel
theorem dL_isSo_174 : decode cL_isSo 174 = .ok (.aload_n 3, 1) := by decide +kernel
theorem dL_isSo_175 : decode cL_isSo 175 = .ok (.iload 10, 2) := by decide +kernel
theorem dL_isSo_177 : decode cL_isSo 177 = .ok (.iaload, 1) := by decide +kernel
theorem dL_isSo_178 : decode cL_isSo 178 = .ok (.imul, 1) := by decide +kernel
theorem dL_isSo_179 : decode cL_isSo 179 = .ok (.iadd, 1) := by decide +kernel
theorem dL_isSo_180 : decode cL_isSo 180 = .ok (.istore 4, 2) := by decide +kernel
theorem dL_isSo_182 : decode cL_isSo 182 = .ok (.iload 9, 2) := by decide +kernel
theorem dL_isSo_184 : decode cL_isSo 184 = .ok (.aload_n 3, 1) := by decide +kernel
theorem dL_isSo_185 : decode cL_isSo 185 = .ok (.iload 10, 2) := by decide +kernel
theorem dL_isSo_187 : decode cL_isSo 187 = .ok (.iaload, 1) := by decide +kernel
theorem dL_isSo_188 : decode cL_isSo 188 = .ok (.iadd, 1) := by decide +kernel
theorem dL_isSo_189 : decode cL_isSo 189 = .ok (.istore 9, 2) := by decide +kernel
theorem dL_isSo_191 : decode cL_isSo 191 = .ok (.iload 5, 2) := by decide +kernel
theorem dL_isSo_193 : decode cL_isSo 193 = .ok (.aload_n 0, 1) := by decide +kernel
theorem dL_isSo_194 : decode cL_isSo 194 = .ok (.iload 10, 2) := by decide +kernel
theorem dL_isSo_196 : decode cL_isSo 196 = .ok (.bipush 12, 2) := by decide +kernel
theorem dL_isSo_198 : decode cL_isSo 198 = .ok (.invokevirtual 33, 3) := by decide +kernel
theorem dL_isSo_201 : decode cL_isSo 201 = .ok (.iadd, 1) := by decide +kernel
theorem dL_isSo_202 : decode cL_isSo 202 = .ok (.istore 5, 2) := by decide +kernel
theorem dL_isSo_204 : decode cL_isSo 204 = .ok (.iload 6, 2) := by decide +kernel
theorem dL_isSo_206 : decode cL_isSo 206 = .ok (.aload_n 0, 1) := by decide +kernel
theorem dL_isSo_207 : decode cL_isSo 207 = .ok (.iload 10, 2) := by decide +kernel
theorem dL_isSo_209 : decode cL_isSo 209 = .ok (.bipush 6, 2) := by decide +kernel
theorem dL_isSo_211 : decode cL_isSo 211 = .ok (.invokevirtual 33, 3) := by decide +kernel
theorem dL_isSo_214 : decode cL_isSo 214 = .ok (.iadd, 1) := by decide +kernel
theorem dL_isSo_215 : decode cL_isSo 215 = .ok (.istore 6, 2) := by decide +kernel
theorem dL_isSo_217 : decode cL_isSo 217 = .ok (.iload 8, 2) := by decide +kernel
theorem dL_isSo_219 : decode cL_isSo 219 = .ok (.aload_n 0, 1) := by decide +kernel
theorem dL_isSo_220 : decode cL_isSo 220 = .ok (.iload 10, 2) := by decide +kernel
theorem dL_isSo_222 : decode cL_isSo 222 = .ok (.bipush 11, 2) := by decide +kernel
theorem dL_isSo_224 : decode cL_isSo 224 = .ok (.invokevirtual 33, 3) := by decide +kernel
theorem dL_isSo_227 : decode cL_isSo 227 = .ok (.iadd, 1) := by decide +kernel
theorem dL_isSo_228 : decode cL_isSo 228 = .ok (.istore 8, 2) := by decide +kernel
theorem dL_isSo_230 : decode cL_isSo 230 = .ok (.aload_n 0, 1) := by decide +kernel
theorem dL_isSo_231 : decode cL_isSo 231 = .ok (.iload 10, 2) := by decide +kernel
theorem dL_isSo_233 : decode cL_isSo 233 = .ok (.iconst 2, 1) := by decide +kernel
theorem dL_isSo_234 : decode cL_isSo 234 = .ok (.invokevirtual 33, 3) := by decide +kernel
theorem dL_isSo_237 : decode cL_isSo 237 = .ok (.iload 12, 2) := by decide +kernel
theorem dL_isSo_239 : decode cL_isSo 239 = .ok (.if_icmp .ne 136, 3) := by decide +kernel
theorem dL_isSo_242 : decode cL_isSo 242 = .ok (.aload_n 0, 1) := by decide +kernel
theorem dL_isSo_243 : decode cL_isSo 243 = .ok (.iload 10, 2) := by decide +kernel
theorem dL_isSo_245 : decode cL_isSo 245 = .ok (.iconst 3, 1) := by decide +kernel
theorem dL_isSo_246 : decode cL_isSo 246 = .ok (.invokevirtual 33, 3) := by decide +kernel
theorem dL_isSo_249 : decode cL_isSo 249 = .ok (.iconst 1, 1) := by decide +kernel
theorem dL_isSo_250 : decode cL_isSo 250 = .ok (.if_icmp .ne 8, 3) := by decide +kernel
theorem dL_isSo_253 : decode cL_isSo 253 = .ok (.iload 11, 2) := by decide +kernel
theorem dL_isSo_255 : decode cL_isSo 255 = .ok (.ifCond .eq 120, 3) := by decide +kernel
theorem dL_isSo_258 : decode cL_isSo 258 = .ok (.aload_n 0, 1) := by decide +kernel
theorem dL_isSo_259 : decode cL_isSo 259 = .ok (.iload 10, 2) := by decide +kernel
theorem dL_isSo_261 : decode cL_isSo 261 = .ok (.iconst 4, 1) := by decide +kernel
theorem dL_isSo_262 : decode cL_isSo 262 = .ok (.invokevirtual 33, 3) := by decide +kernel
theorem dL_isSo_265 : decode cL_isSo 265 = .ok (.ifCond .lt 110, 3) := by decide +kernel
theorem dL_isSo_268 : decode cL_isSo 268 = .ok (.aload_n 0, 1) := by decide +kernel
theorem dL_isSo_269 : decode cL_isSo 269 = .ok (.iload 10, 2) := by decide +kernel
theorem dL_isSo_271 : decode cL_isSo 271 = .ok (.iconst 4, 1) := by decide +kernel
theorem dL_isSo_272 : decode cL_isSo 272 = .ok (.invokevirtual 33, 3) := by decide +kernel
theorem dL_isSo_275 : decode cL_isSo 275 = .ok (.sipush 999, 3) := by decide +kernel
theorem dL_isSo_278 : decode cL_isSo 278 = .ok (.if_icmp .gt 97, 3) := by decide +kernel
theorem dL_isSo_281 : decode cL_isSo 281 = .ok (.aload_n 0, 1) := by decide +kernel
theorem dL_isSo_282 : decode cL_isSo 282 = .ok (.iload 10, 2) := by decide +kernel
theorem dL_isSo_284 : decode cL_isSo 284 = .ok (.iconst 4, 1) := by decide +kernel
theorem dL_isSo_285 : decode cL_isSo 285 = .ok (.invokevirtual 33, 3) := by decide +kernel
theorem dL_isSo_288 : decode cL_isSo 288 = .ok (.ifCond .ne 7, 3) := by decide +kernel
theorem dL_isSo_291 : decode cL_isSo 291 = .ok (.iconst 1, 1) := by decide +kernel
theorem dL_isSo_292 : decode cL_isSo 292 = .ok (.goto 4, 3) := by decide +kernel
theorem dL_isSo_295 : decode cL_isSo 295 = .ok (.iconst 0, 1) := by decide +kernel
theorem dL_isSo_296 : decode cL_isSo 296 = .ok (.iload 13, 2) := by decide +kernel
theorem dL_isSo_298 : decode cL_isSo 298 = .ok (.iconst (-1), 1) := by decide +kernel
theorem dL_isSo_299 : decode cL_isSo 299 = .ok (.if_icmp .ne 7, 3) := by decide +kernel
theorem dL_isSo_302 : decode cL_isSo 302 = .ok (.iconst 1, 1) := by decide +kernel
theorem dL_isSo_303 : decode cL_isSo 303 = .ok (.goto 4, 3) := by decide +kernel
theorem dL_isSo_306 : decode cL_isSo 306 = .ok (.iconst 0, 1) := by decide +kernel
theorem dL_isSo_307 : decode cL_isSo 307 = .ok (.if_icmp .ne 68, 3) := by decide +kernel
theorem dL_isSo_310 : decode cL_isSo 310 = .ok (.iload 13, 2) := by decide +kernel
theorem dL_isSo_312 : decode cL_isSo 312 = .ok (.iload 11, 2) := by decide +kernel
theorem dL_isSo_314 : decode cL_isSo 314 = .ok (.iconst 1, 1) := by decide +kernel
theorem dL_isSo_315 : decode cL_isSo 315 = .ok (.isub, 1) := by decide +kernel
theorem dL_isSo_316 : decode cL_isSo 316 = .ok (.if_icmp .lt 9, 3) := by decide +kernel
theorem dL_isSo_319 : decode cL_isSo 319 = .ok (.iload 13, 2) := by decide +kernel
theorem dL_isSo_321 : decode cL_isSo 321 = .ok (.iconst (-1), 1) := by decide +kernel
theorem dL_isSo_322 : decode cL_isSo 322 = .ok (.if_icmp .ne 53, 3) := by decide +kernel
theorem dL_isSo_325 : decode cL_isSo 325 = .ok (.aload_n 0, 1) := by decide +kernel
theorem dL_isSo_326 : decode cL_isSo 326 = .ok (.iload 10, 2) := by decide +kernel
theorem dL_isSo_328 : decode cL_isSo 328 = .ok (.bipush 10, 2) := by decide +kernel
theorem dL_isSo_330 : decode cL_isSo 330 = .ok (.invokevirtual 33, 3) := by decide +kernel
theorem dL_isSo_333 : decode cL_isSo 333 = .ok (.ifCond .lt 42, 3) := by decide +kernel
theorem dL_isSo_336 : decode cL_isSo 336 = .ok (.aload_n 0, 1) := by decide +kernel
theorem dL_isSo_337 : decode cL_isSo 337 = .ok (.iload 10, 2) := by decide +kernel
theorem dL_isSo_339 : decode cL_isSo 339 = .ok (.bipush 10, 2) := by decide +kernel
theorem dL_isSo_341 : decode cL_isSo 341 = .ok (.invokevirtual 33, 3) := by decide +kernel
theorem dL_isSo_344 : decode cL_isSo 344 = .ok (.aload_n 3, 1) := by decide +kernel
theorem dL_isSo_345 : decode cL_isSo 345 = .ok (.iload 10, 2) := by decide +kernel
theorem dL_isSo_347 : decode cL_isSo 347 = .ok (.iaload, 1) := by decide +kernel
theorem dL_isSo_348 : decode cL_isSo 348 = .ok (.if_icmp .ge 27, 3) := by decide +kernel
theorem dL_isSo_351 : decode cL_isSo 351 = .ok (.aload_n 0, 1) := by decide +kernel
theorem dL_isSo_352 : decode cL_isSo 352 = .ok (.iload 10, 2) := by decide +kernel
theorem dL_isSo_354 : decode cL_isSo 354 = .ok (.bipush 8, 2) := by decide +kernel
theorem dL_isSo_356 : decode cL_isSo 356 = .ok (.invokevirtual 33, 3) := by decide +kernel
theorem dL_isSo_359 : decode cL_isSo 359 = .ok (.ifCond .lt 16, 3) := by decide +kernel
theorem dL_isSo_362 : decode cL_isSo 362 = .ok (.aload_n 0, 1) := by decide +kernel
theorem dL_isSo_363 : decode cL_isSo 363 = .ok (.iload 10, 2) := by decide +kernel
theorem dL_isSo_365 : decode cL_isSo 365 = .ok (.bipush 8, 2) := by decide +kernel
theorem dL_isSo_367 : decode cL_isSo 367 = .ok (.invokevirtual 33, 3) := by decide +kernel
theorem dL_isSo_370 : decode cL_isSo 370 = .ok (.bipush 7, 2) := by decide +kernel
theorem dL_isSo_372 : decode cL_isSo 372 = .ok (.if_icmp .le 5, 3) := by decide +kernel
theorem dL_isSo_375 : decode cL_isSo 375 = .ok (.iconst 0, 1) := by decide +kernel
theorem dL_isSo_376 : decode cL_isSo 376 = .ok (.ireturn, 1) := by decide +kernel
theorem dL_isSo_377 : decode cL_isSo 377 = .ok (.aload_n 0, 1) := by decide +kernel
theorem dL_isSo_378 : decode cL_isSo 378 = .ok (.iload 10, 2) := by decide +kernel
theorem dL_isSo_380 : decode cL_isSo 380 = .ok (.bipush 7, 2) := by decide +kernel
theorem dL_isSo_382 : decode cL_isSo 382 = .ok (.invokevirtual 33, 3) := by decide +kernel
theorem dL_isSo_385 : decode cL_isSo 385 = .ok (.ifCond .le 29, 3) := by decide +kernel
theorem dL_isSo_388 : decode cL_isSo 388 = .ok (.aload_n 0, 1) := by decide +kernel
theorem dL_isSo_389 : decode cL_isSo 389 = .ok (.iload 10, 2) := by decide +kernel
theorem dL_isSo_391 : decode cL_isSo 391 = .ok (.bipush 8, 2) := by decide +kernel
theorem dL_isSo_393 : decode cL_isSo 393 = .ok (.invokevirtual 33, 3) := by decide +kernel
theorem dL_isSo_396 : decode cL_isSo 396 = .ok (.iconst 1, 1) := by decide +kernel
theorem dL_isSo_397 : decode cL_isSo 397 = .ok (.if_icmp .eq 17, 3) := by decide +kernel
theorem dL_isSo_400 : decode cL_isSo 400 = .ok (.aload_n 0, 1) := by decide +kernel
theorem dL_isSo_401 : decode cL_isSo 401 = .ok (.iload 10, 2) := by decide +kernel
theorem dL_isSo_403 : decode cL_isSo 403 = .ok (.bipush 8, 2) := by decide +kernel
theorem dL_isSo_405 : decode cL_isSo 405 = .ok (.invokevirtual 33, 3) := by decide +kernel
theorem dL_isSo_408 : decode cL_isSo 408 = .ok (.iconst 2, 1) := by decide +kernel
theorem dL_isSo_409 : decode cL_isSo 409 = .ok (.if_icmp .eq 5, 3) := by decide +kernel
theorem dL_isSo_412 : decode cL_isSo 412 = .ok (.iconst 0, 1) := by decide +kernel
theorem dL_isSo_413 : decode cL_isSo 413 = .ok (.ireturn, 1) := by decide +kernel
theorem dL_isSo_414 : decode cL_isSo 414 = .ok (.iinc 10 1, 3) := by decide +kernel
theorem dL_isSo_417 : decode cL_isSo 417 = .ok (.goto (-396), 3) := by decide +kernel
theorem dL_isSo_420 : decode cL_isSo 420 = .ok (.iconst 0, 1) := by decide +kernel
theorem dL_isSo_421 : decode cL_isSo 421 = .ok (.istore 10, 2) := by decide +kernel
theorem dL_isSo_423 : decode cL_isSo 423 = .ok (.iconst 0, 1) := by decide +kernel
theorem dL_isSo_424 : decode cL_isSo 424 = .ok (.istore 11, 2) := by decide +kernel
theorem dL_isSo_426 : decode cL_isSo 426 = .ok (.iload 11, 2) := by decide +kernel
theorem dL_isSo_428 : decode cL_isSo 428 = .ok (.iload_n 1, 1) := by decide +kernel
theorem dL_isSo_429 : decode cL_isSo 429 = .ok (.if_icmp .ge 33, 3) := by decide +kernel
theorem dL_isSo_432 : decode cL_isSo 432 = .ok (.iload 7, 2) := by decide +kernel
theorem dL_isSo_434 : decode cL_isSo 434 = .ok (.aload_n 0, 1) := by decide +kernel
theorem dL_isSo_435 : decode cL_isSo 435 = .ok (.iload 11, 2) := by decide +kernel
theorem dL_isSo_437 : decode cL_isSo 437 = .ok (.iconst 4, 1) := by decide +kernel
theorem dL_isSo_438 : decode cL_isSo 438 = .ok (.invokevirtual 36, 3) := by decide +kernel
theorem dL_isSo_441 : decode cL_isSo 441 = .ok (.iadd, 1) := by decide +kernel
theorem dL_isSo_442 : decode cL_isSo 442 = .ok (.istore 7, 2) := by decide +kernel
theorem dL_isSo_444 : decode cL_isSo 444 = .ok (.iload 10, 2) := by decide +kernel
theorem dL_isSo_446 : decode cL_isSo 446 = .ok (.aload_n 0, 1) := by decide +kernel
theorem dL_isSo_447 : decode cL_isSo 447 = .ok (.iload 11, 2) := by decide +kernel
theorem dL_isSo_449 : decode cL_isSo 449 = .ok (.iconst 5, 1) := by decide +kernel
theorem dL_isSo_450 : decode cL_isSo 450 = .ok (.invokevirtual 36, 3) := by decide +kernel
theorem dL_isSo_453 : decode cL_isSo 453 = .ok (.iadd, 1) := by decide +kernel
theorem dL_isSo_454 : decode cL_isSo 454 = .ok (.istore 10, 2) := by decide +kernel
theorem dL_isSo_456 : decode cL_isSo 456 = .ok (.iinc 11 1, 3) := by decide +kernel
theorem dL_isSo_459 : decode cL_isSo 459 = .ok (.goto (-33), 3) := by decide +kernel
theorem dL_isSo_462 : decode cL_isSo 462 = .ok (.aload_n 0, 1) := by decide +kernel
theorem dL_isSo_463 : decode cL_isSo 463 = .ok (.invokevirtual 105, 3) := by decide +kernel
theorem dL_isSo_466 : decode cL_isSo 466 = .ok (.istore 11, 2) := by decide +kernel
theorem dL_isSo_468 : decode cL_isSo 468 = .ok (.iload 11, 2) := by decide +kernel
theorem dL_isSo_470 : decode cL_isSo 470 = .ok (.ifCond .lt 40, 3) := by decide +kernel
theorem dL_isSo_473 : decode cL_isSo 473 = .ok (.aload_n 0, 1) := by decide +kernel
theorem dL_isSo_474 : decode cL_isSo 474 = .ok (.iload 11, 2) := by decide +kernel
theorem dL_isSo_476 : decode cL_isSo 476 = .ok (.iconst 4, 1) := by decide +kernel
theorem dL_isSo_477 : decode cL_isSo 477 = .ok (.invokevirtual 33, 3) := by decide +kernel
theorem dL_isSo_480 : decode cL_isSo 480 = .ok (.bipush 40, 2) := by decide +kernel
theorem dL_isSo_482 : decode cL_isSo 482 = .ok (.if_icmp .lt 26, 3) := by decide +kernel
theorem dL_isSo_485 : decode cL_isSo 485 = .ok (.aload_n 0, 1) := by decide +kernel
theorem dL_isSo_486 : decode cL_isSo 486 = .ok (.iload 11, 2) := by decide +kernel
theorem dL_isSo_488 : decode cL_isSo 488 = .ok (.bipush 6, 2) := by decide +kernel
theorem dL_isSo_490 : decode cL_isSo 490 = .ok (.invokevirtual 33, 3) := by decide +kernel
theorem dL_isSo_493 : decode cL_isSo 493 = .ok (.iconst 1, 1) := by decide +kernel
theorem dL_isSo_494 : decode cL_isSo 494 = .ok (.if_icmp .eq 14, 3) := by decide +kernel
theorem dL_isSo_497 : decode cL_isSo 497 = .ok (.aload_n 0, 1) := by decide +kernel
theorem dL_isSo_498 : decode cL_isSo 498 = .ok (.iload 11, 2) := by decide +kernel
theorem dL_isSo_500 : decode cL_isSo 500 = .ok (.bipush 7, 2) := by decide +kernel
theorem dL_isSo_502 : decode cL_isSo 502 = .ok (.invokevirtual 33, 3) := by decide +kernel
theorem dL_isSo_505 : decode cL_isSo 505 = .ok (.ifCond .le 5, 3) := by decide +kernel
theorem dL_isSo_508 : decode cL_isSo 508 = .ok (.iconst 0, 1) := by decide +kernel
theorem dL_isSo_509 : decode cL_isSo 509 = .ok (.ireturn, 1) := by decide +kernel
theorem dL_isSo_510 : decode cL_isSo 510 = .ok (.iconst 0, 1) := by decide +kernel
theorem dL_isSo_511 : decode cL_isSo 511 = .ok (.istore 12, 2) := by decide +kernel
theorem dL_isSo_513 : decode cL_isSo 513 = .ok (.iload 12, 2) := by decide +kernel
theorem dL_isSo_515 : decode cL_isSo 515 = .ok (.iload_n 2, 1) := by decide +kernel
theorem dL_isSo_516 : decode cL_isSo 516 = .ok (.if_icmp .ge 125, 3) := by decide +kernel
theorem dL_isSo_519 : decode cL_isSo 519 = .ok (.iload 11, 2) := by decide +kernel
theorem dL_isSo_521 : decode cL_isSo 521 = .ok (.ifCond .ge 39, 3) := by decide +kernel
theorem dL_isSo_524 : decode cL_isSo 524 = .ok (.aload_n 0, 1) := by decide +kernel
theorem dL_isSo_525 : decode cL_isSo 525 = .ok (.iload 12, 2) := by decide +kernel
theorem dL_isSo_527 : decode cL_isSo 527 = .ok (.iconst 4, 1) := by decide +kernel
theorem dL_isSo_528 : decode cL_isSo 528 = .ok (.invokevirtual 33, 3) := by decide +kernel
theorem dL_isSo_531 : decode cL_isSo 531 = .ok (.bipush 40, 2) := by decide +kernel
theorem dL_isSo_533 : decode cL_isSo 533 = .ok (.if_icmp .lt 27, 3) := by decide +kernel
theorem dL_isSo_536 : decode cL_isSo 536 = .ok (.aload_n 0, 1) := by decide +kernel
theorem dL_isSo_537 : decode cL_isSo 537 = .ok (.iload 12, 2) := by decide +kernel
theorem dL_isSo_539 : decode cL_isSo 539 = .ok (.bipush 6, 2) := by decide +kernel
theorem dL_isSo_541 : decode cL_isSo 541 = .ok (.invokevirtual 33, 3) := by decide +kernel
theorem dL_isSo_544 : decode cL_isSo 544 = .ok (.ifCond .ne 16, 3) := by decide +kernel
theorem dL_isSo_547 : decode cL_isSo 547 = .ok (.aload_n 0, 1) := by decide +kernel
theorem dL_isSo_548 : decode cL_isSo 548 = .ok (.iload 12, 2) := by decide +kernel
theorem dL_isSo_550 : decode cL_isSo 550 = .ok (.bipush 7, 2) := by decide +kernel
theorem dL_isSo_552 : decode cL_isSo 552 = .ok (.invokevirtual 33, 3) := by decide +kernel
theorem dL_isSo_555 : decode cL_isSo 555 = .ok (.ifCond .ne 5, 3) := by decide +kernel
theorem dL_isSo_558 : decode cL_isSo 558 = .ok (.iconst 0, 1) := by decide +kernel
theorem dL_isSo_559 : decode cL_isSo 559 = .ok (.ireturn, 1) := by decide +kernel
theorem dL_isSo_560 : decode cL_isSo 560 = .ok (.aload_n 0, 1) := by decide +kernel
theorem dL_isSo_561 : decode cL_isSo 561 = .ok (.invokevirtual 109, 3) := by decide +kernel
theorem dL_isSo_564 : decode cL_isSo 564 = .ok (.iload 12, 2) := by decide +kernel
theorem dL_isSo_566 : decode cL_isSo 566 = .ok (.ishr, 1) := by decide +kernel
theorem dL_isSo_567 : decode cL_isSo 567 = .ok (.iconst 1, 1) := by decide +kernel
theorem dL_isSo_568 : decode cL_isSo 568 = .ok (.iand, 1) := by decide +kernel
theorem dL_isSo_569 : decode cL_isSo 569 = .ok (.iconst 1, 1) := by decide +kernel
theorem dL_isSo_570 : decode cL_isSo 570 = .ok (.if_icmp .ne 41, 3) := by decide +kernel
theorem dL_isSo_573 : decode cL_isSo 573 = .ok (.aload_n 0, 1) := by decide +kernel
theorem dL_isSo_574 : decode cL_isSo 574 = .ok (.iload 12, 2) := by decide +kernel
theorem dL_isSo_576 : decode cL_isSo 576 = .ok (.bipush 6, 2) := by decide +kernel
theorem dL_isSo_578 : decode cL_isSo 578 = .ok (.invokevirtual 33, 3) := by decide +kernel
theorem dL_isSo_581 : decode cL_isSo 581 = .ok (.iconst 1, 1) := by decide +kernel
theorem dL_isSo_582 : decode cL_isSo 582 = .ok (.if_icmp .eq 51, 3) := by decide +kernel
theorem dL_isSo_585 : decode cL_isSo 585 = .ok (.aload_n 0, 1) := by decide +kernel
theorem dL_isSo_586 : decode cL_isSo 586 = .ok (.iload 12, 2) := by decide +kernel
theorem dL_isSo_588 : decode cL_isSo 588 = .ok (.bipush 7, 2) := by decide +kernel
theorem dL_isSo_590 : decode cL_isSo 590 = .ok (.invokevirtual 33, 3) := by decide +kernel
theorem dL_isSo_593 : decode cL_isSo 593 = .ok (.ifCond .gt 40, 3) := by decide +kernel
theorem dL_isSo_596 : decode cL_isSo 596 = .ok (.aload_n 0, 1) := by decide +kernel
theorem dL_isSo_597 : decode cL_isSo 597 = .ok (.iload 12, 2) := by decide +kernel
theorem dL_isSo_599 : decode cL_isSo 599 = .ok (.iconst 2, 1) := by decide +kernel
theorem dL_isSo_600 : decode cL_isSo 600 = .ok (.invokevirtual 33, 3) := by decide +kernel
theorem dL_isSo_603 : decode cL_isSo 603 = .ok (.bipush 30, 2) := by decide +kernel
theorem dL_isSo_605 : decode cL_isSo 605 = .ok (.if_icmp .ge 30, 3) := by decide +kernel
theorem dL_isSo_608 : decode cL_isSo 608 = .ok (.goto 25, 3) := by decide +kernel
theorem dL_isSo_611 : decode cL_isSo 611 = .ok (.aload_n 0, 1) := by decide +kernel
theorem dL_isSo_612 : decode cL_isSo 612 = .ok (.iload 12, 2) := by decide +kernel
theorem dL_isSo_614 : decode cL_isSo 614 = .ok (.bipush 6, 2) := by decide +kernel
theorem dL_isSo_616 : decode cL_isSo 616 = .ok (.invokevirtual 33, 3) := by decide +kernel
theorem dL_isSo_619 : decode cL_isSo 619 = .ok (.ifCond .ne 16, 3) := by decide +kernel
theorem dL_isSo_622 : decode cL_isSo 622 = .ok (.aload_n 0, 1) := by decide +kernel
theorem dL_isSo_623 : decode cL_isSo 623 = .ok (.iload 12, 2) := by decide +kernel
theorem dL_isSo_625 : decode cL_isSo 625 = .ok (.bipush 8, 2) := by decide +kernel
theorem dL_isSo_627 : decode cL_isSo 627 = .ok (.invokevirtual 33, 3) := by decide +kernel
theorem dL_isSo_630 : decode cL_isSo 630 = .ok (.ifCond .ne 5, 3) := by decide +kernel
theorem dL_isSo_633 : decode cL_isSo 633 = .ok (.iconst 0, 1) := by decide +kernel
theorem dL_isSo_634 : decode cL_isSo 634 = .ok (.ireturn, 1) := by decide +kernel
theorem dL_isSo_635 : decode cL_isSo 635 = .ok (.iinc 12 1, 3) := by decide +kernel
theorem dL_isSo_638 : decode cL_isSo 638 = .ok (.goto (-125), 3) := by decide +kernel
theorem dL_isSo_641 : decode cL_isSo 641 = .ok (.aload_n 0, 1) := by decide +kernel
theorem dL_isSo_642 : decode cL_isSo 642 = .ok (.bipush 14, 2) := by decide +kernel
theorem dL_isSo_644 : decode cL_isSo 644 = .ok (.invokevirtual 46, 3) := by decide +kernel
theorem dL_isSo_647 : decode cL_isSo 647 = .ok (.iload 4, 2) := by decide +kernel
theorem dL_isSo_649 : decode cL_isSo 649 = .ok (.if_icmp .ne 105, 3) := by decide +kernel
theorem dL_isSo_652 : decode cL_isSo 652 = .ok (.aload_n 0, 1) := by decide +kernel
theorem dL_isSo_653 : decode cL_isSo 653 = .ok (.bipush 8, 2) := by decide +kernel
theorem dL_isSo_655 : decode cL_isSo 655 = .ok (.invokevirtual 46, 3) := by decide +kernel
theorem dL_isSo_658 : decode cL_isSo 658 = .ok (.iload 5, 2) := by decide +kernel
theorem dL_isSo_660 : decode cL_isSo 660 = .ok (.if_icmp .ne 94, 3) := by decide +kernel
theorem dL_isSo_663 : decode cL_isSo 663 = .ok (.aload_n 0, 1) := by decide +kernel
theorem dL_isSo_664 : decode cL_isSo 664 = .ok (.iconst 3, 1) := by decide +kernel
theorem dL_isSo_665 : decode cL_isSo 665 = .ok (.invokevirtual 46, 3) := by decide +kernel
theorem dL_isSo_668 : decode cL_isSo 668 = .ok (.iload 6, 2) := by decide +kernel
theorem dL_isSo_670 : decode cL_isSo 670 = .ok (.if_icmp .ne 84, 3) := by decide +kernel
theorem dL_isSo_673 : decode cL_isSo 673 = .ok (.iload 10, 2) := by decide +kernel
theorem dL_isSo_675 : decode cL_isSo 675 = .ok (.iload 6, 2) := by decide +kernel
theorem dL_isSo_677 : decode cL_isSo 677 = .ok (.if_icmp .ne 77, 3) := by decide +kernel
theorem dL_isSo_680 : decode cL_isSo 680 = .ok (.aload_n 0, 1) := by decide +kernel
theorem dL_isSo_681 : decode cL_isSo 681 = .ok (.bipush 12, 2) := by decide +kernel
theorem dL_isSo_683 : decode cL_isSo 683 = .ok (.invokevirtual 46, 3) := by decide +kernel
theorem dL_isSo_686 : decode cL_isSo 686 = .ok (.iload 7, 2) := by decide +kernel
theorem dL_isSo_688 : decode cL_isSo 688 = .ok (.if_icmp .ne 66, 3) := by decide +kernel
theorem dL_isSo_691 : decode cL_isSo 691 = .ok (.iload 8, 2) := by decide +kernel
theorem dL_isSo_693 : decode cL_isSo 693 = .ok (.iload 7, 2) := by decide +kernel
theorem dL_isSo_695 : decode cL_isSo 695 = .ok (.if_icmp .ne 59, 3) := by decide +kernel
theorem dL_isSo_698 : decode cL_isSo 698 = .ok (.aload_n 0, 1) := by decide +kernel
theorem dL_isSo_699 : decode cL_isSo 699 = .ok (.bipush 9, 2) := by decide +kernel
theorem dL_isSo_701 : decode cL_isSo 701 = .ok (.invokevirtual 46, 3) := by decide +kernel
theorem dL_isSo_704 : decode cL_isSo 704 = .ok (.aload_n 0, 1) := by decide +kernel
theorem dL_isSo_705 : decode cL_isSo 705 = .ok (.bipush 8, 2) := by decide +kernel
theorem dL_isSo_707 : decode cL_isSo 707 = .ok (.invokevirtual 46, 3) := by decide +kernel
theorem dL_isSo_710 : decode cL_isSo 710 = .ok (.if_icmp .gt 44, 3) := by decide +kernel
theorem dL_isSo_713 : decode cL_isSo 713 = .ok (.aload_n 0, 1) := by decide +kernel
theorem dL_isSo_714 : decode cL_isSo 714 = .ok (.bipush 10, 2) := by decide +kernel
theorem dL_isSo_716 : decode cL_isSo 716 = .ok (.invokevirtual 46, 3) := by decide +kernel
theorem dL_isSo_719 : decode cL_isSo 719 = .ok (.aload_n 0, 1) := by decide +kernel
theorem dL_isSo_720 : decode cL_isSo 720 = .ok (.bipush 8, 2) := by decide +kernel
theorem dL_isSo_722 : decode cL_isSo 722 = .ok (.invokevirtual 46, 3) := by decide +kernel
theorem dL_isSo_725 : decode cL_isSo 725 = .ok (.if_icmp .gt 29, 3) := by decide +kernel
theorem dL_isSo_728 : decode cL_isSo 728 = .ok (.aload_n 0, 1) := by decide +kernel
theorem dL_isSo_729 : decode cL_isSo 729 = .ok (.invokevirtual 112, 3) := by decide +kernel
theorem dL_isSo_732 : decode cL_isSo 732 = .ok (.iload 9, 2) := by decide +kernel
theorem dL_isSo_734 : decode cL_isSo 734 = .ok (.i2d, 1) := by decide +kernel
theorem dL_isSo_735 : decode cL_isSo 735 = .ok (.dmul, 1) := by decide +kernel
theorem dL_isSo_736 : decode cL_isSo 736 = .ok (.iload 4, 2) := by decide +kernel
theorem dL_isSo_738 : decode cL_isSo 738 = .ok (.i2d, 1) := by decide +kernel
theorem dL_isSo_739 : decode cL_isSo 739 = .ok (.dsub, 1) := by decide +kernel
theorem dL_isSo_740 : decode cL_isSo 740 = .ok (.invokestatic 116, 3) := by decide +kernel
theorem dL_isSo_743 : decode cL_isSo 743 = .ok (.ldc2_w 119, 3) := by decide +kernel
theorem dL_isSo_746 : decode cL_isSo 746 = .ok (.dcmp .g, 1) := by decide +kernel
theorem dL_isSo_747 : decode cL_isSo 747 = .ok (.ifCond .ge 7, 3) := by decide +kernel
theorem dL_isSo_750 : decode cL_isSo 750 = .ok (.iconst 1, 1) := by decide +kernel
theorem dL_isSo_751 : decode cL_isSo 751 = .ok (.goto 4, 3) := by decide +kernel
theorem dL_isSo_754 : decode cL_isSo 754 = .ok (.iconst 0, 1) := by decide +kernel
theorem dL_isSo_755 : decode cL_isSo 755 = .ok (.ireturn, 1) := by decide +kernel
end
section
/-! CALLS by the number of arguments and the kind of answer; nothing is made in them -/
abbrev mj_Ci (K : mj_M) (d : Nat) (args : List Value) (h : mj_H) (P : Int32 → mj_H → Prop) : Prop := mj_C K d 0 0 args h (fun v h1 => ∃ r, v = some (.int r) ∧ P r h1)
abbrev mj_Cl (K : mj_M) (d : Nat) (args : List Value) (h : mj_H) (P : Int64 → mj_H → Prop) : Prop := mj_C K d 0 0 args h (fun v h1 => ∃ r, v = some (.long r) ∧ P r h1)
abbrev mj_Cd (K : mj_M) (d : Nat) (args : List Value) (h : mj_H) (P : UInt64 → mj_H → Prop) : Prop := mj_C K d 0 0 args h (fun v h1 => ∃ r, v = some (.double r) ∧ P r h1)
abbrev mj_Cv (K : mj_M) (d : Nat) (args : List Value) (h : mj_H) (P : mj_H → Prop) : Prop := mj_C K d 0 0 args h (fun v h1 => v = none ∧ P h1)
section MJ5
variable {M K : mj_M} {d mc ms : Nat} {Q : mj_Q} {pc q : Nat} {lv st : List Value} {h : mj_H} {idx : Nat}
theorem mj_top {x y : Int32} (e : x = y) (k : mj_W M d mc ms Q pc lv (.int y :: st) h) : mj_W M d mc ms Q pc lv (.int x :: st) h := by subst e; exact k
theorem mj_topl {x y : Int64} (e : x = y) (k : mj_W M d mc ms Q pc lv (.long y :: st) h) : mj_W M d mc ms Q pc lv (.long x :: st) h := by subst e; exact k
theorem mj_getfv {n : Nat} {K : Nat → mj_K} {f : Nat → Nat → Int32} {g : Nat → Nat → Option Nat} {a idx ci sl x : Nat} {v : Int32} (hd : decode M.2.1 pc = .ok (.getfield idx, 3)) (hF : mj_okF M.2.2.2.2.1 idx ci sl) (hr : mT_R ci sl = false) (hq : pc + 3 = q) (hK : K a = (2, ci, x)) (hv : f a sl = v)
    (k : mj_W M d mc ms Q q lv (.int v :: st) (n, K, f, g)) : mj_W M d mc ms Q pc lv (.ref a :: st) (n, K, f, g) := by subst hv; exact mj_getf hd hF hr hq hK k
theorem mj_cV0i {a ci x : Nat} {P : Int32 → mj_H → Prop} (hd : decode M.2.1 pc = .ok (.invokevirtual idx, 3)) (hln : Cond.methodLink M.2.2.2.2.1 idx K.1 ∈ mj_TW) (hok : mj_okV K 0) (hcat : (st.map fun v => v.category).sum ≤ 8) (hL : K.2.2.1 ≤ 21) (hK : h.2.1 a = (2, ci, x)) (hC : mT_C ci = K.1.cls) (hq : pc + 3 = q) (hM : mj_Ci K d [.ref a] h P) (k : ∀ r h1, P r h1 → mj_W M (d + 1) mc ms Q q lv (.int r :: st) h1) : mj_W M (d + 1) mc ms Q pc lv (.ref a :: st) h := by
  subst hq
  have e := mj_callV (mc := mc) (ms := ms) (mc1 := 0) (ms1 := 0) [] hd hln hok rfl hcat hL hK hC hM (fun v h1 hq => by obtain ⟨r, rfl, hq⟩ := hq; exact k r h1 hq)
  rw [Nat.zero_add, Nat.zero_add] at e
  exact e
theorem mj_cV0v {a ci x : Nat} {P : mj_H → Prop} (hd : decode M.2.1 pc = .ok (.invokevirtual idx, 3)) (hln : Cond.methodLink M.2.2.2.2.1 idx K.1 ∈ mj_TW) (hok : mj_okV K 0) (hcat : (st.map fun v => v.category).sum ≤ 8) (hL : K.2.2.1 ≤ 21) (hK : h.2.1 a = (2, ci, x)) (hC : mT_C ci = K.1.cls) (hq : pc + 3 = q) (hM : mj_Cv K d [.ref a] h P) (k : ∀ h1, P h1 → mj_W M (d + 1) mc ms Q q lv st h1) : mj_W M (d + 1) mc ms Q pc lv (.ref a :: st) h := by
  subst hq
  have e := mj_callV (mc := mc) (ms := ms) (mc1 := 0) (ms1 := 0) [] hd hln hok rfl hcat hL hK hC hM (fun v h1 hq => by obtain ⟨rfl, hq⟩ := hq; exact k h1 hq)
  rw [Nat.zero_add, Nat.zero_add] at e
  exact e
theorem mj_cV1i {a ci x : Nat} {v1 : Value} {P : Int32 → mj_H → Prop} (hd : decode M.2.1 pc = .ok (.invokevirtual idx, 3)) (hln : Cond.methodLink M.2.2.2.2.1 idx K.1 ∈ mj_TW) (hok : mj_okV K 1) (hcat : (st.map fun v => v.category).sum ≤ 8) (hL : K.2.2.1 ≤ 21) (hK : h.2.1 a = (2, ci, x)) (hC : mT_C ci = K.1.cls) (hq : pc + 3 = q) (hM : mj_Ci K d [.ref a, v1] h P) (k : ∀ r h1, P r h1 → mj_W M (d + 1) mc ms Q q lv (.int r :: st) h1) : mj_W M (d + 1) mc ms Q pc lv (v1 :: .ref a :: st) h := by
  subst hq
  have e := mj_callV (mc := mc) (ms := ms) (mc1 := 0) (ms1 := 0) [v1] hd hln hok rfl hcat hL hK hC hM (fun v h1 hq => by obtain ⟨r, rfl, hq⟩ := hq; exact k r h1 hq)
  rw [Nat.zero_add, Nat.zero_add] at e
  exact e
theorem mj_cV1v {a ci x : Nat} {v1 : Value} {P : mj_H → Prop} (hd : decode M.2.1 pc = .ok (.invokevirtual idx, 3)) (hln : Cond.methodLink M.2.2.2.2.1 idx K.1 ∈ mj_TW) (hok : mj_okV K 1) (hcat : (st.map fun v => v.category).sum ≤ 8) (hL : K.2.2.1 ≤ 21) (hK : h.2.1 a = (2, ci, x)) (hC : mT_C ci = K.1.cls) (hq : pc + 3 = q) (hM : mj_Cv K d [.ref a, v1] h P) (k : ∀ h1, P h1 → mj_W M (d + 1) mc ms Q q lv st h1) : mj_W M (d + 1) mc ms Q pc lv (v1 :: .ref a :: st) h := by
  subst hq
  have e := mj_callV (mc := mc) (ms := ms) (mc1 := 0) (ms1 := 0) [v1] hd hln hok rfl hcat hL hK hC hM (fun v h1 hq => by obtain ⟨rfl, hq⟩ := hq; exact k h1 hq)
  rw [Nat.zero_add, Nat.zero_add] at e
  exact e
theorem mj_cV2i {a ci x : Nat} {v1 v2 : Value} {P : Int32 → mj_H → Prop} (hd : decode M.2.1 pc = .ok (.invokevirtual idx, 3)) (hln : Cond.methodLink M.2.2.2.2.1 idx K.1 ∈ mj_TW) (hok : mj_okV K 2) (hcat : (st.map fun v => v.category).sum ≤ 8) (hL : K.2.2.1 ≤ 21) (hK : h.2.1 a = (2, ci, x)) (hC : mT_C ci = K.1.cls) (hq : pc + 3 = q) (hM : mj_Ci K d [.ref a, v1, v2] h P) (k : ∀ r h1, P r h1 → mj_W M (d + 1) mc ms Q q lv (.int r :: st) h1) : mj_W M (d + 1) mc ms Q pc lv (v2 :: v1 :: .ref a :: st) h := by
  subst hq
  have e := mj_callV (mc := mc) (ms := ms) (mc1 := 0) (ms1 := 0) [v1, v2] hd hln hok rfl hcat hL hK hC hM (fun v h1 hq => by obtain ⟨r, rfl, hq⟩ := hq; exact k r h1 hq)
  rw [Nat.zero_add, Nat.zero_add] at e
  exact e
theorem mj_cV2v {a ci x : Nat} {v1 v2 : Value} {P : mj_H → Prop} (hd : decode M.2.1 pc = .ok (.invokevirtual idx, 3)) (hln : Cond.methodLink M.2.2.2.2.1 idx K.1 ∈ mj_TW) (hok : mj_okV K 2) (hcat : (st.map fun v => v.category).sum ≤ 8) (hL : K.2.2.1 ≤ 21) (hK : h.2.1 a = (2, ci, x)) (hC : mT_C ci = K.1.cls) (hq : pc + 3 = q) (hM : mj_Cv K d [.ref a, v1, v2] h P) (k : ∀ h1, P h1 → mj_W M (d + 1) mc ms Q q lv st h1) : mj_W M (d + 1) mc ms Q pc lv (v2 :: v1 :: .ref a :: st) h := by
  subst hq
  have e := mj_callV (mc := mc) (ms := ms) (mc1 := 0) (ms1 := 0) [v1, v2] hd hln hok rfl hcat hL hK hC hM (fun v h1 hq => by obtain ⟨rfl, hq⟩ := hq; exact k h1 hq)
  rw [Nat.zero_add, Nat.zero_add] at e
  exact e
theorem mj_cV3i {a ci x : Nat} {v1 v2 v3 : Value} {P : Int32 → mj_H → Prop} (hd : decode M.2.1 pc = .ok (.invokevirtual idx, 3)) (hln : Cond.methodLink M.2.2.2.2.1 idx K.1 ∈ mj_TW) (hok : mj_okV K 3) (hcat : (st.map fun v => v.category).sum ≤ 8) (hL : K.2.2.1 ≤ 21) (hK : h.2.1 a = (2, ci, x)) (hC : mT_C ci = K.1.cls) (hq : pc + 3 = q) (hM : mj_Ci K d [.ref a, v1, v2, v3] h P) (k : ∀ r h1, P r h1 → mj_W M (d + 1) mc ms Q q lv (.int r :: st) h1) : mj_W M (d + 1) mc ms Q pc lv (v3 :: v2 :: v1 :: .ref a :: st) h := by
  subst hq
  have e := mj_callV (mc := mc) (ms := ms) (mc1 := 0) (ms1 := 0) [v1, v2, v3] hd hln hok rfl hcat hL hK hC hM (fun v h1 hq => by obtain ⟨r, rfl, hq⟩ := hq; exact k r h1 hq)
  rw [Nat.zero_add, Nat.zero_add] at e
  exact e
theorem mj_cV3v {a ci x : Nat} {v1 v2 v3 : Value} {P : mj_H → Prop} (hd : decode M.2.1 pc = .ok (.invokevirtual idx, 3)) (hln : Cond.methodLink M.2.2.2.2.1 idx K.1 ∈ mj_TW) (hok : mj_okV K 3) (hcat : (st.map fun v => v.category).sum ≤ 8) (hL : K.2.2.1 ≤ 21) (hK : h.2.1 a = (2, ci, x)) (hC : mT_C ci = K.1.cls) (hq : pc + 3 = q) (hM : mj_Cv K d [.ref a, v1, v2, v3] h P) (k : ∀ h1, P h1 → mj_W M (d + 1) mc ms Q q lv st h1) : mj_W M (d + 1) mc ms Q pc lv (v3 :: v2 :: v1 :: .ref a :: st) h := by
  subst hq
  have e := mj_callV (mc := mc) (ms := ms) (mc1 := 0) (ms1 := 0) [v1, v2, v3] hd hln hok rfl hcat hL hK hC hM (fun v h1 hq => by obtain ⟨rfl, hq⟩ := hq; exact k h1 hq)
  rw [Nat.zero_add, Nat.zero_add] at e
  exact e
theorem mj_cV4i {a ci x : Nat} {v1 v2 v3 v4 : Value} {P : Int32 → mj_H → Prop} (hd : decode M.2.1 pc = .ok (.invokevirtual idx, 3)) (hln : Cond.methodLink M.2.2.2.2.1 idx K.1 ∈ mj_TW) (hok : mj_okV K 4) (hcat : (st.map fun v => v.category).sum ≤ 8) (hL : K.2.2.1 ≤ 21) (hK : h.2.1 a = (2, ci, x)) (hC : mT_C ci = K.1.cls) (hq : pc + 3 = q) (hM : mj_Ci K d [.ref a, v1, v2, v3, v4] h P) (k : ∀ r h1, P r h1 → mj_W M (d + 1) mc ms Q q lv (.int r :: st) h1) : mj_W M (d + 1) mc ms Q pc lv (v4 :: v3 :: v2 :: v1 :: .ref a :: st) h := by
  subst hq
  have e := mj_callV (mc := mc) (ms := ms) (mc1 := 0) (ms1 := 0) [v1, v2, v3, v4] hd hln hok rfl hcat hL hK hC hM (fun v h1 hq => by obtain ⟨r, rfl, hq⟩ := hq; exact k r h1 hq)
  rw [Nat.zero_add, Nat.zero_add] at e
  exact e
theorem mj_cV4v {a ci x : Nat} {v1 v2 v3 v4 : Value} {P : mj_H → Prop} (hd : decode M.2.1 pc = .ok (.invokevirtual idx, 3)) (hln : Cond.methodLink M.2.2.2.2.1 idx K.1 ∈ mj_TW) (hok : mj_okV K 4) (hcat : (st.map fun v => v.category).sum ≤ 8) (hL : K.2.2.1 ≤ 21) (hK : h.2.1 a = (2, ci, x)) (hC : mT_C ci = K.1.cls) (hq : pc + 3 = q) (hM : mj_Cv K d [.ref a, v1, v2, v3, v4] h P) (k : ∀ h1, P h1 → mj_W M (d + 1) mc ms Q q lv st h1) : mj_W M (d + 1) mc ms Q pc lv (v4 :: v3 :: v2 :: v1 :: .ref a :: st) h := by
  subst hq
  have e := mj_callV (mc := mc) (ms := ms) (mc1 := 0) (ms1 := 0) [v1, v2, v3, v4] hd hln hok rfl hcat hL hK hC hM (fun v h1 hq => by obtain ⟨rfl, hq⟩ := hq; exact k h1 hq)
  rw [Nat.zero_add, Nat.zero_add] at e
  exact e
theorem mj_cV5i {a ci x : Nat} {v1 v2 v3 v4 v5 : Value} {P : Int32 → mj_H → Prop} (hd : decode M.2.1 pc = .ok (.invokevirtual idx, 3)) (hln : Cond.methodLink M.2.2.2.2.1 idx K.1 ∈ mj_TW) (hok : mj_okV K 5) (hcat : (st.map fun v => v.category).sum ≤ 8) (hL : K.2.2.1 ≤ 21) (hK : h.2.1 a = (2, ci, x)) (hC : mT_C ci = K.1.cls) (hq : pc + 3 = q) (hM : mj_Ci K d [.ref a, v1, v2, v3, v4, v5] h P) (k : ∀ r h1, P r h1 → mj_W M (d + 1) mc ms Q q lv (.int r :: st) h1) : mj_W M (d + 1) mc ms Q pc lv (v5 :: v4 :: v3 :: v2 :: v1 :: .ref a :: st) h := by
  subst hq
  have e := mj_callV (mc := mc) (ms := ms) (mc1 := 0) (ms1 := 0) [v1, v2, v3, v4, v5] hd hln hok rfl hcat hL hK hC hM (fun v h1 hq => by obtain ⟨r, rfl, hq⟩ := hq; exact k r h1 hq)
  rw [Nat.zero_add, Nat.zero_add] at e
  exact e
theorem mj_cV5v {a ci x : Nat} {v1 v2 v3 v4 v5 : Value} {P : mj_H → Prop} (hd : decode M.2.1 pc = .ok (.invokevirtual idx, 3)) (hln : Cond.methodLink M.2.2.2.2.1 idx K.1 ∈ mj_TW) (hok : mj_okV K 5) (hcat : (st.map fun v => v.category).sum ≤ 8) (hL : K.2.2.1 ≤ 21) (hK : h.2.1 a = (2, ci, x)) (hC : mT_C ci = K.1.cls) (hq : pc + 3 = q) (hM : mj_Cv K d [.ref a, v1, v2, v3, v4, v5] h P) (k : ∀ h1, P h1 → mj_W M (d + 1) mc ms Q q lv st h1) : mj_W M (d + 1) mc ms Q pc lv (v5 :: v4 :: v3 :: v2 :: v1 :: .ref a :: st) h := by
  subst hq
  have e := mj_callV (mc := mc) (ms := ms) (mc1 := 0) (ms1 := 0) [v1, v2, v3, v4, v5] hd hln hok rfl hcat hL hK hC hM (fun v h1 hq => by obtain ⟨rfl, hq⟩ := hq; exact k h1 hq)
  rw [Nat.zero_add, Nat.zero_add] at e
  exact e
theorem mj_cV6i {a ci x : Nat} {v1 v2 v3 v4 v5 v6 : Value} {P : Int32 → mj_H → Prop} (hd : decode M.2.1 pc = .ok (.invokevirtual idx, 3)) (hln : Cond.methodLink M.2.2.2.2.1 idx K.1 ∈ mj_TW) (hok : mj_okV K 6) (hcat : (st.map fun v => v.category).sum ≤ 8) (hL : K.2.2.1 ≤ 21) (hK : h.2.1 a = (2, ci, x)) (hC : mT_C ci = K.1.cls) (hq : pc + 3 = q) (hM : mj_Ci K d [.ref a, v1, v2, v3, v4, v5, v6] h P) (k : ∀ r h1, P r h1 → mj_W M (d + 1) mc ms Q q lv (.int r :: st) h1) : mj_W M (d + 1) mc ms Q pc lv (v6 :: v5 :: v4 :: v3 :: v2 :: v1 :: .ref a :: st) h := by
  subst hq
  have e := mj_callV (mc := mc) (ms := ms) (mc1 := 0) (ms1 := 0) [v1, v2, v3, v4, v5, v6] hd hln hok rfl hcat hL hK hC hM (fun v h1 hq => by obtain ⟨r, rfl, hq⟩ := hq; exact k r h1 hq)
  rw [Nat.zero_add, Nat.zero_add] at e
  exact e
theorem mj_cV6v {a ci x : Nat} {v1 v2 v3 v4 v5 v6 : Value} {P : mj_H → Prop} (hd : decode M.2.1 pc = .ok (.invokevirtual idx, 3)) (hln : Cond.methodLink M.2.2.2.2.1 idx K.1 ∈ mj_TW) (hok : mj_okV K 6) (hcat : (st.map fun v => v.category).sum ≤ 8) (hL : K.2.2.1 ≤ 21) (hK : h.2.1 a = (2, ci, x)) (hC : mT_C ci = K.1.cls) (hq : pc + 3 = q) (hM : mj_Cv K d [.ref a, v1, v2, v3, v4, v5, v6] h P) (k : ∀ h1, P h1 → mj_W M (d + 1) mc ms Q q lv st h1) : mj_W M (d + 1) mc ms Q pc lv (v6 :: v5 :: v4 :: v3 :: v2 :: v1 :: .ref a :: st) h := by
  subst hq
  have e := mj_callV (mc := mc) (ms := ms) (mc1 := 0) (ms1 := 0) [v1, v2, v3, v4, v5, v6] hd hln hok rfl hcat hL hK hC hM (fun v h1 hq => by obtain ⟨rfl, hq⟩ := hq; exact k h1 hq)
  rw [Nat.zero_add, Nat.zero_add] at e
  exact e
theorem mj_cV0l {a ci x : Nat} {P : Int64 → mj_H → Prop} (hd : decode M.2.1 pc = .ok (.invokevirtual idx, 3)) (hln : Cond.methodLink M.2.2.2.2.1 idx K.1 ∈ mj_TW) (hok : mj_okV K 0) (hcat : (st.map fun v => v.category).sum ≤ 8) (hL : K.2.2.1 ≤ 21) (hK : h.2.1 a = (2, ci, x)) (hC : mT_C ci = K.1.cls) (hq : pc + 3 = q) (hM : mj_Cl K d [.ref a] h P) (k : ∀ r h1, P r h1 → mj_W M (d + 1) mc ms Q q lv (.long r :: st) h1) : mj_W M (d + 1) mc ms Q pc lv (.ref a :: st) h := by
  subst hq
  have e := mj_callV (mc := mc) (ms := ms) (mc1 := 0) (ms1 := 0) [] hd hln hok rfl hcat hL hK hC hM (fun v h1 hq => by obtain ⟨r, rfl, hq⟩ := hq; exact k r h1 hq)
  rw [Nat.zero_add, Nat.zero_add] at e
  exact e
theorem mj_cV0d {a ci x : Nat} {P : UInt64 → mj_H → Prop} (hd : decode M.2.1 pc = .ok (.invokevirtual idx, 3)) (hln : Cond.methodLink M.2.2.2.2.1 idx K.1 ∈ mj_TW) (hok : mj_okV K 0) (hcat : (st.map fun v => v.category).sum ≤ 8) (hL : K.2.2.1 ≤ 21) (hK : h.2.1 a = (2, ci, x)) (hC : mT_C ci = K.1.cls) (hq : pc + 3 = q) (hM : mj_Cd K d [.ref a] h P) (k : ∀ r h1, P r h1 → mj_W M (d + 1) mc ms Q q lv (.double r :: st) h1) : mj_W M (d + 1) mc ms Q pc lv (.ref a :: st) h := by
  subst hq
  have e := mj_callV (mc := mc) (ms := ms) (mc1 := 0) (ms1 := 0) [] hd hln hok rfl hcat hL hK hC hM (fun v h1 hq => by obtain ⟨r, rfl, hq⟩ := hq; exact k r h1 hq)
  rw [Nat.zero_add, Nat.zero_add] at e
  exact e
theorem mj_cV1l {a ci x : Nat} {v1 : Value} {P : Int64 → mj_H → Prop} (hd : decode M.2.1 pc = .ok (.invokevirtual idx, 3)) (hln : Cond.methodLink M.2.2.2.2.1 idx K.1 ∈ mj_TW) (hok : mj_okV K 1) (hcat : (st.map fun v => v.category).sum ≤ 8) (hL : K.2.2.1 ≤ 21) (hK : h.2.1 a = (2, ci, x)) (hC : mT_C ci = K.1.cls) (hq : pc + 3 = q) (hM : mj_Cl K d [.ref a, v1] h P) (k : ∀ r h1, P r h1 → mj_W M (d + 1) mc ms Q q lv (.long r :: st) h1) : mj_W M (d + 1) mc ms Q pc lv (v1 :: .ref a :: st) h := by
  subst hq
  have e := mj_callV (mc := mc) (ms := ms) (mc1 := 0) (ms1 := 0) [v1] hd hln hok rfl hcat hL hK hC hM (fun v h1 hq => by obtain ⟨r, rfl, hq⟩ := hq; exact k r h1 hq)
  rw [Nat.zero_add, Nat.zero_add] at e
  exact e
theorem mj_cV1d {a ci x : Nat} {v1 : Value} {P : UInt64 → mj_H → Prop} (hd : decode M.2.1 pc = .ok (.invokevirtual idx, 3)) (hln : Cond.methodLink M.2.2.2.2.1 idx K.1 ∈ mj_TW) (hok : mj_okV K 1) (hcat : (st.map fun v => v.category).sum ≤ 8) (hL : K.2.2.1 ≤ 21) (hK : h.2.1 a = (2, ci, x)) (hC : mT_C ci = K.1.cls) (hq : pc + 3 = q) (hM : mj_Cd K d [.ref a, v1] h P) (k : ∀ r h1, P r h1 → mj_W M (d + 1) mc ms Q q lv (.double r :: st) h1) : mj_W M (d + 1) mc ms Q pc lv (v1 :: .ref a :: st) h := by
  subst hq
  have e := mj_callV (mc := mc) (ms := ms) (mc1 := 0) (ms1 := 0) [v1] hd hln hok rfl hcat hL hK hC hM (fun v h1 hq => by obtain ⟨r, rfl, hq⟩ := hq; exact k r h1 hq)
  rw [Nat.zero_add, Nat.zero_add] at e
  exact e
theorem mj_cV2l {a ci x : Nat} {v1 v2 : Value} {P : Int64 → mj_H → Prop} (hd : decode M.2.1 pc = .ok (.invokevirtual idx, 3)) (hln : Cond.methodLink M.2.2.2.2.1 idx K.1 ∈ mj_TW) (hok : mj_okV K 2) (hcat : (st.map fun v => v.category).sum ≤ 8) (hL : K.2.2.1 ≤ 21) (hK : h.2.1 a = (2, ci, x)) (hC : mT_C ci = K.1.cls) (hq : pc + 3 = q) (hM : mj_Cl K d [.ref a, v1, v2] h P) (k : ∀ r h1, P r h1 → mj_W M (d + 1) mc ms Q q lv (.long r :: st) h1) : mj_W M (d + 1) mc ms Q pc lv (v2 :: v1 :: .ref a :: st) h := by
  subst hq
  have e := mj_callV (mc := mc) (ms := ms) (mc1 := 0) (ms1 := 0) [v1, v2] hd hln hok rfl hcat hL hK hC hM (fun v h1 hq => by obtain ⟨r, rfl, hq⟩ := hq; exact k r h1 hq)
  rw [Nat.zero_add, Nat.zero_add] at e
  exact e
theorem mj_cV2d {a ci x : Nat} {v1 v2 : Value} {P : UInt64 → mj_H → Prop} (hd : decode M.2.1 pc = .ok (.invokevirtual idx, 3)) (hln : Cond.methodLink M.2.2.2.2.1 idx K.1 ∈ mj_TW) (hok : mj_okV K 2) (hcat : (st.map fun v => v.category).sum ≤ 8) (hL : K.2.2.1 ≤ 21) (hK : h.2.1 a = (2, ci, x)) (hC : mT_C ci = K.1.cls) (hq : pc + 3 = q) (hM : mj_Cd K d [.ref a, v1, v2] h P) (k : ∀ r h1, P r h1 → mj_W M (d + 1) mc ms Q q lv (.double r :: st) h1) : mj_W M (d + 1) mc ms Q pc lv (v2 :: v1 :: .ref a :: st) h := by
  subst hq
  have e := mj_callV (mc := mc) (ms := ms) (mc1 := 0) (ms1 := 0) [v1, v2] hd hln hok rfl hcat hL hK hC hM (fun v h1 hq => by obtain ⟨r, rfl, hq⟩ := hq; exact k r h1 hq)
  rw [Nat.zero_add, Nat.zero_add] at e
  exact e
theorem mj_cS0i {P : Int32 → mj_H → Prop} (hd : decode M.2.1 pc = .ok (.invokestatic idx, 3)) (hln : Cond.methodLink M.2.2.2.2.1 idx K.1 ∈ mj_TW) (hok : mj_okS K 0) (hcat : (st.map fun v => v.category).sum ≤ 8) (hL : K.2.2.1 ≤ 21) (hq : pc + 3 = q) (hM : mj_Ci K d [] h P) (k : ∀ r h1, P r h1 → mj_W M (d + 1) mc ms Q q lv (.int r :: st) h1) : mj_W M (d + 1) mc ms Q pc lv (st) h := by
  subst hq
  have e := mj_callS (mc := mc) (ms := ms) (mc1 := 0) (ms1 := 0) [] hd hln hok rfl hcat hL hM (fun v h1 hq => by obtain ⟨r, rfl, hq⟩ := hq; exact k r h1 hq)
  rw [Nat.zero_add, Nat.zero_add] at e
  exact e
theorem mj_cS0v {P : mj_H → Prop} (hd : decode M.2.1 pc = .ok (.invokestatic idx, 3)) (hln : Cond.methodLink M.2.2.2.2.1 idx K.1 ∈ mj_TW) (hok : mj_okS K 0) (hcat : (st.map fun v => v.category).sum ≤ 8) (hL : K.2.2.1 ≤ 21) (hq : pc + 3 = q) (hM : mj_Cv K d [] h P) (k : ∀ h1, P h1 → mj_W M (d + 1) mc ms Q q lv st h1) : mj_W M (d + 1) mc ms Q pc lv (st) h := by
  subst hq
  have e := mj_callS (mc := mc) (ms := ms) (mc1 := 0) (ms1 := 0) [] hd hln hok rfl hcat hL hM (fun v h1 hq => by obtain ⟨rfl, hq⟩ := hq; exact k h1 hq)
  rw [Nat.zero_add, Nat.zero_add] at e
  exact e
theorem mj_cS1i {v1 : Value} {P : Int32 → mj_H → Prop} (hd : decode M.2.1 pc = .ok (.invokestatic idx, 3)) (hln : Cond.methodLink M.2.2.2.2.1 idx K.1 ∈ mj_TW) (hok : mj_okS K 1) (hcat : (st.map fun v => v.category).sum ≤ 8) (hL : K.2.2.1 ≤ 21) (hq : pc + 3 = q) (hM : mj_Ci K d [v1] h P) (k : ∀ r h1, P r h1 → mj_W M (d + 1) mc ms Q q lv (.int r :: st) h1) : mj_W M (d + 1) mc ms Q pc lv (v1 :: st) h := by
  subst hq
  have e := mj_callS (mc := mc) (ms := ms) (mc1 := 0) (ms1 := 0) [v1] hd hln hok rfl hcat hL hM (fun v h1 hq => by obtain ⟨r, rfl, hq⟩ := hq; exact k r h1 hq)
  rw [Nat.zero_add, Nat.zero_add] at e
  exact e
theorem mj_cS1v {v1 : Value} {P : mj_H → Prop} (hd : decode M.2.1 pc = .ok (.invokestatic idx, 3)) (hln : Cond.methodLink M.2.2.2.2.1 idx K.1 ∈ mj_TW) (hok : mj_okS K 1) (hcat : (st.map fun v => v.category).sum ≤ 8) (hL : K.2.2.1 ≤ 21) (hq : pc + 3 = q) (hM : mj_Cv K d [v1] h P) (k : ∀ h1, P h1 → mj_W M (d + 1) mc ms Q q lv st h1) : mj_W M (d + 1) mc ms Q pc lv (v1 :: st) h := by
  subst hq
  have e := mj_callS (mc := mc) (ms := ms) (mc1 := 0) (ms1 := 0) [v1] hd hln hok rfl hcat hL hM (fun v h1 hq => by obtain ⟨rfl, hq⟩ := hq; exact k h1 hq)
  rw [Nat.zero_add, Nat.zero_add] at e
  exact e
theorem mj_cS2i {v1 v2 : Value} {P : Int32 → mj_H → Prop} (hd : decode M.2.1 pc = .ok (.invokestatic idx, 3)) (hln : Cond.methodLink M.2.2.2.2.1 idx K.1 ∈ mj_TW) (hok : mj_okS K 2) (hcat : (st.map fun v => v.category).sum ≤ 8) (hL : K.2.2.1 ≤ 21) (hq : pc + 3 = q) (hM : mj_Ci K d [v1, v2] h P) (k : ∀ r h1, P r h1 → mj_W M (d + 1) mc ms Q q lv (.int r :: st) h1) : mj_W M (d + 1) mc ms Q pc lv (v2 :: v1 :: st) h := by
  subst hq
  have e := mj_callS (mc := mc) (ms := ms) (mc1 := 0) (ms1 := 0) [v1, v2] hd hln hok rfl hcat hL hM (fun v h1 hq => by obtain ⟨r, rfl, hq⟩ := hq; exact k r h1 hq)
  rw [Nat.zero_add, Nat.zero_add] at e
  exact e
theorem mj_cS2v {v1 v2 : Value} {P : mj_H → Prop} (hd : decode M.2.1 pc = .ok (.invokestatic idx, 3)) (hln : Cond.methodLink M.2.2.2.2.1 idx K.1 ∈ mj_TW) (hok : mj_okS K 2) (hcat : (st.map fun v => v.category).sum ≤ 8) (hL : K.2.2.1 ≤ 21) (hq : pc + 3 = q) (hM : mj_Cv K d [v1, v2] h P) (k : ∀ h1, P h1 → mj_W M (d + 1) mc ms Q q lv st h1) : mj_W M (d + 1) mc ms Q pc lv (v2 :: v1 :: st) h := by
  subst hq
  have e := mj_callS (mc := mc) (ms := ms) (mc1 := 0) (ms1 := 0) [v1, v2] hd hln hok rfl hcat hL hM (fun v h1 hq => by obtain ⟨rfl, hq⟩ := hq; exact k h1 hq)
  rw [Nat.zero_add, Nat.zero_add] at e
  exact e
theorem mj_cS3i {v1 v2 v3 : Value} {P : Int32 → mj_H → Prop} (hd : decode M.2.1 pc = .ok (.invokestatic idx, 3)) (hln : Cond.methodLink M.2.2.2.2.1 idx K.1 ∈ mj_TW) (hok : mj_okS K 3) (hcat : (st.map fun v => v.category).sum ≤ 8) (hL : K.2.2.1 ≤ 21) (hq : pc + 3 = q) (hM : mj_Ci K d [v1, v2, v3] h P) (k : ∀ r h1, P r h1 → mj_W M (d + 1) mc ms Q q lv (.int r :: st) h1) : mj_W M (d + 1) mc ms Q pc lv (v3 :: v2 :: v1 :: st) h := by
  subst hq
  have e := mj_callS (mc := mc) (ms := ms) (mc1 := 0) (ms1 := 0) [v1, v2, v3] hd hln hok rfl hcat hL hM (fun v h1 hq => by obtain ⟨r, rfl, hq⟩ := hq; exact k r h1 hq)
  rw [Nat.zero_add, Nat.zero_add] at e
  exact e
theorem mj_cS3v {v1 v2 v3 : Value} {P : mj_H → Prop} (hd : decode M.2.1 pc = .ok (.invokestatic idx, 3)) (hln : Cond.methodLink M.2.2.2.2.1 idx K.1 ∈ mj_TW) (hok : mj_okS K 3) (hcat : (st.map fun v => v.category).sum ≤ 8) (hL : K.2.2.1 ≤ 21) (hq : pc + 3 = q) (hM : mj_Cv K d [v1, v2, v3] h P) (k : ∀ h1, P h1 → mj_W M (d + 1) mc ms Q q lv st h1) : mj_W M (d + 1) mc ms Q pc lv (v3 :: v2 :: v1 :: st) h := by
  subst hq
  have e := mj_callS (mc := mc) (ms := ms) (mc1 := 0) (ms1 := 0) [v1, v2, v3] hd hln hok rfl hcat hL hM (fun v h1 hq => by obtain ⟨rfl, hq⟩ := hq; exact k h1 hq)
  rw [Nat.zero_add, Nat.zero_add] at e
  exact e
theorem mj_cS4i {v1 v2 v3 v4 : Value} {P : Int32 → mj_H → Prop} (hd : decode M.2.1 pc = .ok (.invokestatic idx, 3)) (hln : Cond.methodLink M.2.2.2.2.1 idx K.1 ∈ mj_TW) (hok : mj_okS K 4) (hcat : (st.map fun v => v.category).sum ≤ 8) (hL : K.2.2.1 ≤ 21) (hq : pc + 3 = q) (hM : mj_Ci K d [v1, v2, v3, v4] h P) (k : ∀ r h1, P r h1 → mj_W M (d + 1) mc ms Q q lv (.int r :: st) h1) : mj_W M (d + 1) mc ms Q pc lv (v4 :: v3 :: v2 :: v1 :: st) h := by
  subst hq
  have e := mj_callS (mc := mc) (ms := ms) (mc1 := 0) (ms1 := 0) [v1, v2, v3, v4] hd hln hok rfl hcat hL hM (fun v h1 hq => by obtain ⟨r, rfl, hq⟩ := hq; exact k r h1 hq)
  rw [Nat.zero_add, Nat.zero_add] at e
  exact e
theorem mj_cS4v {v1 v2 v3 v4 : Value} {P : mj_H → Prop} (hd : decode M.2.1 pc = .ok (.invokestatic idx, 3)) (hln : Cond.methodLink M.2.2.2.2.1 idx K.1 ∈ mj_TW) (hok : mj_okS K 4) (hcat : (st.map fun v => v.category).sum ≤ 8) (hL : K.2.2.1 ≤ 21) (hq : pc + 3 = q) (hM : mj_Cv K d [v1, v2, v3, v4] h P) (k : ∀ h1, P h1 → mj_W M (d + 1) mc ms Q q lv st h1) : mj_W M (d + 1) mc ms Q pc lv (v4 :: v3 :: v2 :: v1 :: st) h := by
  subst hq
  have e := mj_callS (mc := mc) (ms := ms) (mc1 := 0) (ms1 := 0) [v1, v2, v3, v4] hd hln hok rfl hcat hL hM (fun v h1 hq => by obtain ⟨rfl, hq⟩ := hq; exact k h1 hq)
  rw [Nat.zero_add, Nat.zero_add] at e
  exact e
theorem mj_cS5i {v1 v2 v3 v4 v5 : Value} {P : Int32 → mj_H → Prop} (hd : decode M.2.1 pc = .ok (.invokestatic idx, 3)) (hln : Cond.methodLink M.2.2.2.2.1 idx K.1 ∈ mj_TW) (hok : mj_okS K 5) (hcat : (st.map fun v => v.category).sum ≤ 8) (hL : K.2.2.1 ≤ 21) (hq : pc + 3 = q) (hM : mj_Ci K d [v1, v2, v3, v4, v5] h P) (k : ∀ r h1, P r h1 → mj_W M (d + 1) mc ms Q q lv (.int r :: st) h1) : mj_W M (d + 1) mc ms Q pc lv (v5 :: v4 :: v3 :: v2 :: v1 :: st) h := by
  subst hq
  have e := mj_callS (mc := mc) (ms := ms) (mc1 := 0) (ms1 := 0) [v1, v2, v3, v4, v5] hd hln hok rfl hcat hL hM (fun v h1 hq => by obtain ⟨r, rfl, hq⟩ := hq; exact k r h1 hq)
  rw [Nat.zero_add, Nat.zero_add] at e
  exact e
theorem mj_cS5v {v1 v2 v3 v4 v5 : Value} {P : mj_H → Prop} (hd : decode M.2.1 pc = .ok (.invokestatic idx, 3)) (hln : Cond.methodLink M.2.2.2.2.1 idx K.1 ∈ mj_TW) (hok : mj_okS K 5) (hcat : (st.map fun v => v.category).sum ≤ 8) (hL : K.2.2.1 ≤ 21) (hq : pc + 3 = q) (hM : mj_Cv K d [v1, v2, v3, v4, v5] h P) (k : ∀ h1, P h1 → mj_W M (d + 1) mc ms Q q lv st h1) : mj_W M (d + 1) mc ms Q pc lv (v5 :: v4 :: v3 :: v2 :: v1 :: st) h := by
  subst hq
  have e := mj_callS (mc := mc) (ms := ms) (mc1 := 0) (ms1 := 0) [v1, v2, v3, v4, v5] hd hln hok rfl hcat hL hM (fun v h1 hq => by obtain ⟨rfl, hq⟩ := hq; exact k h1 hq)
  rw [Nat.zero_add, Nat.zero_add] at e
  exact e
theorem mj_cS1d {v1 : Value} {P : UInt64 → mj_H → Prop} (hd : decode M.2.1 pc = .ok (.invokestatic idx, 3)) (hln : Cond.methodLink M.2.2.2.2.1 idx K.1 ∈ mj_TW) (hok : mj_okS K 1) (hcat : (st.map fun v => v.category).sum ≤ 8) (hL : K.2.2.1 ≤ 21) (hq : pc + 3 = q) (hM : mj_Cd K d [v1] h P) (k : ∀ r h1, P r h1 → mj_W M (d + 1) mc ms Q q lv (.double r :: st) h1) : mj_W M (d + 1) mc ms Q pc lv (v1 :: st) h := by
  subst hq
  have e := mj_callS (mc := mc) (ms := ms) (mc1 := 0) (ms1 := 0) [v1] hd hln hok rfl hcat hL hM (fun v h1 hq => by obtain ⟨r, rfl, hq⟩ := hq; exact k r h1 hq)
  rw [Nat.zero_add, Nat.zero_add] at e
  exact e
theorem mj_cSN1i {host : String} {v1 : Value} {P : Int32 → mj_H → Prop} (hd : decode M.2.1 pc = .ok (.invokestatic idx, 3)) (hln : ∀ s, mj_XW s → va_Nw (.methodLinkNest M.2.2.2.2.1 idx K.1 host) s) (hok : mj_okS K 1) (hcat : (st.map fun v => v.category).sum ≤ 8) (hL : K.2.2.1 ≤ 21) (hq : pc + 3 = q) (hM : mj_Ci K d [v1] h P) (k : ∀ r h1, P r h1 → mj_W M (d + 1) mc ms Q q lv (.int r :: st) h1) : mj_W M (d + 1) mc ms Q pc lv (v1 :: st) h := by
  subst hq
  have e := mj_callSN (mc := mc) (ms := ms) (mc1 := 0) (ms1 := 0) [v1] hd hln hok rfl hcat hL hM (fun v h1 hq => by obtain ⟨r, rfl, hq⟩ := hq; exact k r h1 hq)
  rw [Nat.zero_add, Nat.zero_add] at e
  exact e
theorem mj_mmin {x y : Int32} (hd : decode M.2.1 pc = .ok (.invokestatic idx, 3)) (hln : Cond.methodLink M.2.2.2.2.1 idx Lib.Math.min.name ∈ mj_TW) (hcat : (st.map fun v => v.category).sum ≤ 8) (hq : pc + 3 = q) (k : mj_W M (d + 1) mc ms Q q lv (.int (if y < x then y else x) :: st) h) : mj_W M (d + 1) mc ms Q pc lv (.int y :: .int x :: st) h := by
  subst hq
  intro p l e R s m args below meth c D b B0 MC MS as0 QQ X E as H locs ls cells slots S
  obtain ⟨s1, s2, s3, s4, s5, s6, s7, s8⟩ := S
  obtain ⟨x1, x2, x3, x4, x5, x6, x7, x8, x9, x10, x11, x12, x13, x14, x15⟩ := id X
  exact va_mmin x1 x2 (x3.trans s4.1.symm) x4 (x5 _ hln) (x5 _ (mj_in 427 (by decide +kernel) rfl)) (x5 _ (mj_in 13 (by decide +kernel) rfl)) (x5 _ (mj_in 428 (by decide +kernel) rfl)) (by omega) (by rw [mj_cats]; omega) (by omega) (by omega) hd
    (k p l e R s m args below meth c D b B0 MC MS as0 QQ X E as H locs ls cells slots ⟨s1, s2, s3, s4, s5, ⟨trivial, s6.2.2⟩, s7, s8⟩)
theorem mj_mmax {x y : Int32} (hd : decode M.2.1 pc = .ok (.invokestatic idx, 3)) (hln : Cond.methodLink M.2.2.2.2.1 idx Lib.Math.max.name ∈ mj_TW) (hcat : (st.map fun v => v.category).sum ≤ 8) (hq : pc + 3 = q) (k : mj_W M (d + 1) mc ms Q q lv (.int (if x < y then y else x) :: st) h) : mj_W M (d + 1) mc ms Q pc lv (.int y :: .int x :: st) h := by
  subst hq
  intro p l e R s m args below meth c D b B0 MC MS as0 QQ X E as H locs ls cells slots S
  obtain ⟨s1, s2, s3, s4, s5, s6, s7, s8⟩ := S
  obtain ⟨x1, x2, x3, x4, x5, x6, x7, x8, x9, x10, x11, x12, x13, x14, x15⟩ := id X
  exact va_mmax x1 x2 (x3.trans s4.1.symm) x4 (x5 _ hln) (x5 _ (mj_in 464 (by decide +kernel) rfl)) (x5 _ (mj_in 13 (by decide +kernel) rfl)) (x5 _ (mj_in 465 (by decide +kernel) rfl)) (by omega) (by rw [mj_cats]; omega) (by omega) (by omega) hd
    (k p l e R s m args below meth c D b B0 MC MS as0 QQ X E as H locs ls cells slots ⟨s1, s2, s3, s4, s5, ⟨trivial, s6.2.2⟩, s7, s8⟩)
theorem mj_mabs {x : Int32} (hd : decode M.2.1 pc = .ok (.invokestatic idx, 3)) (hln : Cond.methodLink M.2.2.2.2.1 idx Lib.Math.abs.name ∈ mj_TW) (hcat : (st.map fun v => v.category).sum ≤ 8) (hq : pc + 3 = q) (k : mj_W M (d + 1) mc ms Q q lv (.int (if 0 ≤ x then x else 0 - x) :: st) h) : mj_W M (d + 1) mc ms Q pc lv (.int x :: st) h := by
  subst hq
  intro p l e R s m args below meth c D b B0 MC MS as0 QQ X E as H locs ls cells slots S
  obtain ⟨s1, s2, s3, s4, s5, s6, s7, s8⟩ := S
  obtain ⟨x1, x2, x3, x4, x5, x6, x7, x8, x9, x10, x11, x12, x13, x14, x15⟩ := id X
  exact va_mabs x1 x2 (x3.trans s4.1.symm) x4 (x5 _ hln) (x5 _ (mj_in 772 (by decide +kernel) rfl)) (x5 _ (mj_in 13 (by decide +kernel) rfl)) (x5 _ (mj_in 773 (by decide +kernel) rfl)) (by omega) (by rw [mj_cats]; omega) (by omega) (by omega) hd
    (k p l e R s m args below meth c D b B0 MC MS as0 QQ X E as H locs ls cells slots ⟨s1, s2, s3, s4, s5, ⟨trivial, s6.2⟩, s7, s8⟩)
end MJ5
end
section
/-! SNOW: what a Snow is, its numbers, its methods -/
theorem mj_upn {α : Type} {f : Nat → Nat → α} {a k : Nat} {v : α} {b j : Nat} (h : b ≠ a) : mj_up f a k v b j = f b j := by unfold mj_up; rw [if_neg (fun z => h z.1)]
theorem mj_upr {α : Type} {f : Nat → Nat → α} {a k : Nat} {v : α} {b : Nat} (h : b ≠ a) : mj_up f a k v b = f b := by funext j; exact mj_upn h
theorem nI_1le {c : Nat} (h : c < 8) : (1 : Int32) ≤ nI (c + 1) := nI_le (a := 1) (by omega) (by omega)
theorem nI_0lt {c : Nat} (h : c < 8) : (0 : Int32) < nI (c + 1) := by rw [← nI_0]; exact nI_lt (by omega) (by omega)
section MJ6
variable {M : mj_M} {d mc ms : Nat} {Q : mj_Q} {pc q : Nat} {lv st : List Value} {n : Nat} {K : Nat → mj_K} {f : Nat → Nat → Int32} {g : Nat → Nat → Option Nat}
theorem mj_ialdn {a L i : Nat} (hd : decode M.2.1 pc = .ok (.iaload, 1)) (hq : pc + 1 = q) (hK : K a = (0, L, 0)) (hi : i < L ∧ L ≤ 1000) (k : mj_W M d mc ms Q q lv (.int (f a i) :: st) (n, K, f, g)) : mj_W M d mc ms Q pc lv (.int (nI i) :: .ref a :: st) (n, K, f, g) := by
  refine mj_iald hd hq hK (vp_in_nI hi.1 (by omega)) ?_
  rw [nI_clamp (by omega)]
  exact k
theorem mj_iastn {a L i : Nat} {v : Int32} (hd : decode M.2.1 pc = .ok (.iastore, 1)) (hq : pc + 1 = q) (hK : K a = (0, L, 0)) (hi : i < L ∧ L ≤ 1000) (k : mj_W M d mc ms Q q lv st (n, K, mj_up f a i v, g)) : mj_W M d mc ms Q pc lv (.int v :: .int (nI i) :: .ref a :: st) (n, K, f, g) := by
  refine mj_iast hd hq hK (vp_in_nI hi.1 (by omega)) ?_
  rw [nI_clamp (by omega)]
  exact k
theorem mj_aaldn {a L ci i r : Nat} (hd : decode M.2.1 pc = .ok (.aaload, 1)) (hq : pc + 1 = q) (hK : K a = (1, L, ci)) (hi : i < L ∧ L ≤ 1000) (hg : g a i = some r) (k : mj_W M d mc ms Q q lv (.ref r :: st) (n, K, f, g)) : mj_W M d mc ms Q pc lv (.int (nI i) :: .ref a :: st) (n, K, f, g) :=
  mj_aald hd hq hK (vp_in_nI hi.1 (by omega)) (by rw [nI_clamp (by omega)]; exact hg) k
end MJ6
/-- rows outside lo .. hi - 1 are as they were -/
def mj_Fr (lo hi : Nat) (f f1 : Nat → Nat → Int32) : Prop := ∀ a, a < lo ∨ hi ≤ a → f1 a = f a
theorem mj_Fr.rf {lo hi : Nat} {f : Nat → Nat → Int32} : mj_Fr lo hi f f := fun _ _ => rfl
theorem mj_Fr.tr {lo hi : Nat} {f f1 f2 : Nat → Nat → Int32} (h : mj_Fr lo hi f f1) (h2 : mj_Fr lo hi f1 f2) : mj_Fr lo hi f f2 := fun a ha => (h2 a ha).trans (h a ha)
theorem mj_Fr.wide {lo hi lo2 hi2 : Nat} {f f1 : Nat → Nat → Int32} (h : mj_Fr lo hi f f1) (h1 : lo2 ≤ lo) (h2 : hi ≤ hi2) : mj_Fr lo2 hi2 f f1 := fun a ha => h a (by omega)
theorem mj_Fr.up {lo hi a k : Nat} {v : Int32} {f f1 : Nat → Nat → Int32} (h : mj_Fr lo hi f f1) (h1 : lo ≤ a) (h2 : a < hi) : mj_Fr lo hi f (mj_up f1 a k v) := fun b hb => (mj_upr (by omega)).trans (h b hb)
/-- where a Snow lies: cells s, s + 1, s + 2, s + 3 -/
def LSn (K : Nat → mj_K) (g : Nat → Nat → Option Nat) (s : Nat) : Prop := K s = (2, 3, 0) ∧ K (s + 1) = (0, 8, 0) ∧ K (s + 2) = (0, 8, 0) ∧ K (s + 3) = (0, 8, 0) ∧ g s 0 = some (s + 1) ∧ g s 1 = some (s + 2) ∧ g s 2 = some (s + 3)
/-- its numbers: count, wet, snowed, depths, hardnesses, kinds -/
abbrev sV : Type := Nat × Int32 × Int32 × (Nat → Int32) × (Nat → Int32) × (Nat → Int32)
def SN (f : Nat → Nat → Int32) (s : Nat) (x : sV) : Prop := x.1 ≤ 8 ∧ f s 3 = nI x.1 ∧ f s 4 = x.2.1 ∧ f s 5 = x.2.2.1 ∧ (∀ k, k < 8 → f (s + 1) k = x.2.2.2.1 k) ∧ (∀ k, k < 8 → f (s + 2) k = x.2.2.2.2.1 k) ∧ (∀ k, k < 8 → f (s + 3) k = x.2.2.2.2.2 k) ∧ (x.2.1 = 0 ∨ x.2.1 = 1) ∧ (x.2.2.1 = 0 ∨ x.2.2.1 = 1)
theorem SN.keep {f f1 : Nat → Nat → Int32} {s lo hi : Nat} {x : sV} (h : SN f s x) (hf : mj_Fr lo hi f f1) (hd : s + 4 ≤ lo ∨ hi ≤ s) : SN f1 s x := by
  unfold SN
  rw [hf s (by omega), hf (s + 1) (by omega), hf (s + 2) (by omega), hf (s + 3) (by omega)]
  exact h
/-! what the methods do to these numbers -/
def vMin (x y : Int32) : Int32 := if y < x then y else x
def vMax (x y : Int32) : Int32 := if x < y then y else x
def vTop (w : Int32) (x : sV) : Bool := 0 < x.1 && x.2.2.2.2.2 (x.1 - 1) == w
def vSum (D : Nat → Int32) (lo : Nat) : Nat → Int32
  | 0 => 0
  | n + 1 => vSum D lo n + D (lo + n)
def vDepth (lo : Nat) (x : sV) : Int32 := vSum x.2.2.2.1 lo (x.1 - lo)
def vThicken (m : Int32) (x : sV) : sV := match x with
  | (0, r) => (0, r)
  | (c + 1, w, sn, D, H, T) => (c + 1, w, sn, upd D c (vMin (D c + m) 300), H, T)
def vThin (m : Int32) (x : sV) : sV := match x with
  | (0, r) => (0, r)
  | (c + 1, w, sn, D, H, T) => if 1 ≤ D c - m then (c + 1, w, sn, upd D c (D c - m), H, T) else (c, 0, sn, upd D c (D c - m), H, T)
def vMelt (m : Int32) (x : sV) : sV := match vThin m x with
  | (c, _, r) => (c, if 0 < c then 1 else 0, r)
def vJoin (x : sV) : sV := match x with
  | (c, w, sn, D, H, T) => (c - 1, w, sn, fun k => if k = 0 then vMin (D 0 + D 1) 300 else if k < 7 then D (k + 1) else D k, fun k => if k = 0 then vMin (H 0) (H 1) else if k < 7 then H (k + 1) else H k, fun k => if k = 0 then T 0 else if k < 7 then T (k + 1) else T k)
def vLayN (t dp hd : Int32) (x : sV) : sV := match x with
  | (c, _, sn, D, H, T) => (c + 1, 0, sn, upd D c dp, upd H c hd, upd T c t)
def vLay (t dp hd : Int32) (x : sV) : sV := vLayN t dp hd (if x.1 < 8 then x else vJoin x)
def vChange (t hd : Int32) (x : sV) : sV := match x with
  | (0, r) => (0, r)
  | (c + 1, w, sn, D, H, T) => (c + 1, w, sn, D, upd H c hd, upd T c t)
def vPress (x : sV) : sV := match x with
  | (c + 2, _, sn, D, H, T) => (c + 1, 0, sn, upd D c (vMin ((D c + D (c + 1)) * 9 / 10) 300), upd H c (vMin (vMax (H c) (H (c + 1)) + 10) 100), upd T c 3)
  | x => x
def vStress (l : Nat) (above slope : Int32) (x : sV) : Int32 := if x.2.2.2.2.1 l + 1 < 1 then 0 else
  let t := above * (slope - 20) / (x.2.2.2.2.1 l + 1)
  if x.2.2.2.2.2 l = 1 then 2 * t else t
def vShearL (slope : Int32) (x : sV) : Nat → Int32 → Int32 → Int32 → Int32
  | 0, sh, _, _ => sh
  | n + 1, sh, gr, ab => if 0 < vStress n ab slope x ∧ gr ≤ vStress n ab slope x then vShearL slope x n (nI n) (vStress n ab slope x) (ab + x.2.2.2.1 n) else vShearL slope x n sh gr (ab + x.2.2.2.1 n)
def vShear (slope : Int32) (x : sV) : Int32 := if 25 ≤ slope then vShearL slope x x.1 (-1) 0 0 else -1
def vDrop (lo : Int32) (x : sV) : sV := if lo = -1 then x else (lo.toNatClampNeg, 0, x.2.2)
def vSettle (noon : Int32) (x : sV) : sV := match x with
  | (c, w, sn, D, H, T) => (c, w, sn, D, fun k => if k < c ∧ (T k = 0 ∨ T k = 3 ∨ T k = 1 ∧ ¬ noon = 0) then vMin (H k + 1) 100 else H k, T)
def vRisk (slope : Int32) (x : sV) : Int32 := if vShear slope x = -1 then 0 else vMin (vStress (vShear slope x).toNatClampNeg (vDepth ((vShear slope x).toNatClampNeg + 1) x) slope x) 999
def vSnows (fall temp : Int32) : Bool := 0 < fall && temp ≤ 0
def vSet (b : Int32) (x : sV) : sV := (x.1, x.2.1, b, x.2.2.2)
def vCome (fall temp : Int32) (x : sV) : sV := vSet (if vSnows fall temp = true then 1 else 0)
  (if vSnows fall temp = true then (if ¬ x.2.2.1 = 0 ∧ vTop 0 x = true then vThicken fall x else vLay 0 fall 10 x) else if 0 < fall then vMelt fall x else x)
def vDrift (much lee win : Int32) (x : sV) : sV := if ¬ lee = 0 then (if vTop 0 x = true then vThicken much x else vLay 0 much 20 x) else if ¬ win = 0 ∧ vTop 0 x = true then vThin much x else x
def vWet0 (x : sV) : sV := (x.1, 0, x.2.2)
def vFreeze (x : sV) : sV := if x.2.1 = 0 then x else vWet0 (vChange 2 80 x)
def vWeak (x : sV) : sV := if vTop 0 x = true ∧ x.2.2.2.1 (x.1 - 1) ≤ 10 then vChange 1 5 x else x
theorem mj_bool {v : Int32} (h : v = 0 ∨ v = 1) : narrow .boolean (.int v) = .int v ∧ fits .boolean (.int v) = true := by rcases h with rfl | rfl <;> exact ⟨rfl, rfl⟩
theorem mj_b01 {p : Prop} [Decidable p] : (if p then (1 : Int32) else 0) = 0 ∨ (if p then (1 : Int32) else 0) = 1 := by by_cases h : p <;> simp [h]
theorem nI_dec (l : Nat) : nI l + Int32.ofInt (-1) = nI l - 1 := by rw [Int32.sub_eq_add_neg]; rfl
theorem nI_le0 {c : Nat} (h : c ≤ 8) : nI c ≤ 0 ↔ c = 0 := by
  rw [← nI_0, nI_leI (by omega) (by omega)]
  omega

set_option maxHeartbeats 4000000 in
set_option maxRecDepth 100000 in
theorem s_topIs {d s : Nat} {w0 : Int32} {n : Nat} {K : Nat → mj_K} {f : Nat → Nat → Int32} {g : Nat → Nat → Option Nat} {x : sV} (hL : LSn K g s) (hS : SN f s x) : mj_Ci m_X3_topIs d [.ref s, .int w0] (n, K, f, g) (fun r h1 => h1 = (n, K, f, g) ∧ r = if vTop w0 x = true then 1 else 0) := by
  obtain ⟨k0, k1, k2, k3, g0, g1, g2⟩ := hL
  obtain ⟨c, w, sn, D, H, T⟩ := x
  obtain ⟨b0, b1, b2, b3, b4, b5, b6, b7, b8⟩ := hS
  dsimp only at b0 b1 b2 b3 b4 b5 b6 b7 b8
  cases c with
  | zero =>
    refine mj_entry (by refine ⟨by decide +kernel, by decide, rfl, Nat.le_of_ble_eq_true rfl⟩) ?_
    show mj_W _ _ _ _ _ 0 [.ref s, .int w0] [] _
    refine mj_aload_n (i := 0) (q := 1) dX3_topIs_0 rfl rfl rfl ?_
    refine mj_getfv (q := 4) dX3_topIs_1 fl_X3_27 rfl rfl (by first | assumption | exact (mj_upn (by omega)).trans (by assumption) | exact (mj_upn (by omega)).trans ((mj_upn (by omega)).trans (by assumption)) | exact (mj_upn (by omega)).trans ((mj_upn (by omega)).trans ((mj_upn (by omega)).trans (by assumption)))) (by first | assumption | exact (mj_upn (by omega)).trans (by assumption) | exact (mj_upn (by omega)).trans ((mj_upn (by omega)).trans (by assumption)) | exact (mj_upn (by omega)).trans ((mj_upn (by omega)).trans ((mj_upn (by omega)).trans (by assumption)))) ?_
    refine mj_if_le (tgt := 26) (q := 7) dX3_topIs_4 (by decide) rfl (fun c_4 => ?_) (fun c_4 => absurd c_4 (by decide))
    refine mj_num1 (v := 0) (q := 27) rfl dX3_topIs_26 rfl ?_
    exact mj_ireturn dX3_topIs_27 ⟨_, rfl, rfl⟩ ⟨_, rfl, ⟨rfl, by simp [vTop]⟩⟩
  | succ c =>
    have hc : c < 8 := by omega
    refine mj_entry (by refine ⟨by decide +kernel, by decide, rfl, Nat.le_of_ble_eq_true rfl⟩) ?_
    show mj_W _ _ _ _ _ 0 [.ref s, .int w0] [] _
    refine mj_aload_n (i := 0) (q := 1) dX3_topIs_0 rfl rfl rfl ?_
    refine mj_getfv (q := 4) dX3_topIs_1 fl_X3_27 rfl rfl (by first | assumption | exact (mj_upn (by omega)).trans (by assumption) | exact (mj_upn (by omega)).trans ((mj_upn (by omega)).trans (by assumption)) | exact (mj_upn (by omega)).trans ((mj_upn (by omega)).trans ((mj_upn (by omega)).trans (by assumption)))) (by first | assumption | exact (mj_upn (by omega)).trans (by assumption) | exact (mj_upn (by omega)).trans ((mj_upn (by omega)).trans (by assumption)) | exact (mj_upn (by omega)).trans ((mj_upn (by omega)).trans ((mj_upn (by omega)).trans (by assumption)))) ?_
    refine mj_if_le (tgt := 26) (q := 7) dX3_topIs_4 (by decide) rfl (fun c_4 => absurd (nI_0lt hc) (Int32.not_lt.mpr c_4)) (fun c_4 => ?_)
    refine mj_aload_n (i := 0) (q := 8) dX3_topIs_7 rfl rfl rfl ?_
    refine mj_getr (q := 11) dX3_topIs_8 fl_X3_18 rfl rfl (by first | assumption | exact (mj_upn (by omega)).trans (by assumption) | exact (mj_upn (by omega)).trans ((mj_upn (by omega)).trans (by assumption)) | exact (mj_upn (by omega)).trans ((mj_upn (by omega)).trans ((mj_upn (by omega)).trans (by assumption)))) (by first | assumption | exact (mj_upn (by omega)).trans (by assumption) | exact (mj_upn (by omega)).trans ((mj_upn (by omega)).trans (by assumption)) | exact (mj_upn (by omega)).trans ((mj_upn (by omega)).trans ((mj_upn (by omega)).trans (by assumption)))) ?_
    refine mj_aload_n (i := 0) (q := 12) dX3_topIs_11 rfl rfl rfl ?_
    refine mj_getfv (q := 15) dX3_topIs_12 fl_X3_27 rfl rfl (by first | assumption | exact (mj_upn (by omega)).trans (by assumption) | exact (mj_upn (by omega)).trans ((mj_upn (by omega)).trans (by assumption)) | exact (mj_upn (by omega)).trans ((mj_upn (by omega)).trans ((mj_upn (by omega)).trans (by assumption)))) (by first | assumption | exact (mj_upn (by omega)).trans (by assumption) | exact (mj_upn (by omega)).trans ((mj_upn (by omega)).trans (by assumption)) | exact (mj_upn (by omega)).trans ((mj_upn (by omega)).trans ((mj_upn (by omega)).trans (by assumption)))) ?_
    refine mj_num1 (v := 1) (q := 16) rfl dX3_topIs_15 rfl ?_
    refine mj_isub (q := 17) dX3_topIs_16 rfl ?_
    refine mj_top (nI_pred c) ?_
    refine mj_ialdn (q := 18) dX3_topIs_17 rfl (by first | assumption | exact (mj_upn (by omega)).trans (by assumption) | exact (mj_upn (by omega)).trans ((mj_upn (by omega)).trans (by assumption)) | exact (mj_upn (by omega)).trans ((mj_upn (by omega)).trans ((mj_upn (by omega)).trans (by assumption)))) (by omega) ?_
    refine mj_iload_n (i := 1) (q := 19) dX3_topIs_18 rfl rfl rfl ?_
    refine mj_icmp_ne (tgt := 26) (q := 22) dX3_topIs_19 (by decide) rfl (fun c_19 => ?_) (fun c_19 => ?_)
    · refine mj_num1 (v := 0) (q := 27) rfl dX3_topIs_26 rfl ?_
      exact mj_ireturn dX3_topIs_27 ⟨_, rfl, rfl⟩ ⟨_, rfl, ⟨rfl, by rw [b6 c hc] at c_19; simp [vTop, c_19]⟩⟩
    · refine mj_num1 (v := 1) (q := 23) rfl dX3_topIs_22 rfl ?_
      refine mj_goto (q := 27) dX3_topIs_23 (by decide) ?_
      exact mj_ireturn dX3_topIs_27 ⟨_, rfl, rfl⟩ ⟨_, rfl, ⟨rfl, by rw [b6 c hc] at c_19; simp [vTop, c_19]⟩⟩
set_option maxHeartbeats 4000000 in
set_option maxRecDepth 100000 in
theorem s_thicken {d s : Nat} {m : Int32} {n : Nat} {K : Nat → mj_K} {f : Nat → Nat → Int32} {g : Nat → Nat → Option Nat} {x : sV} (hL : LSn K g s) (hS : SN f s x) : mj_Cv m_X3_thicken (d + 1) [.ref s, .int m] (n, K, f, g) (fun h1 => ∃ f1, h1 = (n, K, f1, g) ∧ SN f1 s (vThicken m x) ∧ mj_Fr s (s + 4) f f1) := by
  obtain ⟨k0, k1, k2, k3, g0, g1, g2⟩ := hL
  obtain ⟨c, w, sn, D, H, T⟩ := x
  obtain ⟨b0, b1, b2, b3, b4, b5, b6, b7, b8⟩ := hS
  dsimp only at b0 b1 b2 b3 b4 b5 b6 b7 b8
  cases c with
  | zero =>
    refine mj_entry (by refine ⟨by decide +kernel, by decide, rfl, Nat.le_of_ble_eq_true rfl⟩) ?_
    show mj_W _ _ _ _ _ 0 [.ref s, .int m] [] _
    refine mj_aload_n (i := 0) (q := 1) dX3_thicken_0 rfl rfl rfl ?_
    refine mj_getfv (q := 4) dX3_thicken_1 fl_X3_27 rfl rfl (by first | assumption | exact (mj_upn (by omega)).trans (by assumption) | exact (mj_upn (by omega)).trans ((mj_upn (by omega)).trans (by assumption)) | exact (mj_upn (by omega)).trans ((mj_upn (by omega)).trans ((mj_upn (by omega)).trans (by assumption)))) (by first | assumption | exact (mj_upn (by omega)).trans (by assumption) | exact (mj_upn (by omega)).trans ((mj_upn (by omega)).trans (by assumption)) | exact (mj_upn (by omega)).trans ((mj_upn (by omega)).trans ((mj_upn (by omega)).trans (by assumption)))) ?_
    refine mj_if_le (tgt := 37) (q := 7) dX3_thicken_4 (by decide) rfl (fun c_4 => ?_) (fun c_4 => absurd c_4 (by decide))
    exact mj_return dX3_thicken_37 rfl ⟨rfl, ⟨_, rfl, by refine ⟨by first | omega | (simp only [vThicken]; omega) | (simp [vThicken, b0, b1, b2, b3, b4, b5, b6, b7, b8] <;> omega), ?_, ?_, ?_, ?_, ?_, ?_, ?_, ?_⟩ <;> first | (intro k hk; simp [mj_up, upd, vThicken, b0, b1, b2, b3, b4, b5, b6, b7, b8, hk]; done) | (simp [mj_up, upd, vThicken, b0, b1, b2, b3, b4, b5, b6, b7, b8]; done), by repeat (first | exact mj_Fr.rf | exact (by assumption) | refine mj_Fr.up ?_ (by omega) (by omega))⟩⟩
  | succ c =>
    have hc : c < 8 := by omega
    refine mj_entry (by refine ⟨by decide +kernel, by decide, rfl, Nat.le_of_ble_eq_true rfl⟩) ?_
    show mj_W _ _ _ _ _ 0 [.ref s, .int m] [] _
    refine mj_aload_n (i := 0) (q := 1) dX3_thicken_0 rfl rfl rfl ?_
    refine mj_getfv (q := 4) dX3_thicken_1 fl_X3_27 rfl rfl (by first | assumption | exact (mj_upn (by omega)).trans (by assumption) | exact (mj_upn (by omega)).trans ((mj_upn (by omega)).trans (by assumption)) | exact (mj_upn (by omega)).trans ((mj_upn (by omega)).trans ((mj_upn (by omega)).trans (by assumption)))) (by first | assumption | exact (mj_upn (by omega)).trans (by assumption) | exact (mj_upn (by omega)).trans ((mj_upn (by omega)).trans (by assumption)) | exact (mj_upn (by omega)).trans ((mj_upn (by omega)).trans ((mj_upn (by omega)).trans (by assumption)))) ?_
    refine mj_if_le (tgt := 37) (q := 7) dX3_thicken_4 (by decide) rfl (fun c_4 => absurd (nI_0lt hc) (Int32.not_lt.mpr c_4)) (fun c_4 => ?_)
    refine mj_aload_n (i := 0) (q := 8) dX3_thicken_7 rfl rfl rfl ?_
    refine mj_getr (q := 11) dX3_thicken_8 fl_X3_9 rfl rfl (by first | assumption | exact (mj_upn (by omega)).trans (by assumption) | exact (mj_upn (by omega)).trans ((mj_upn (by omega)).trans (by assumption)) | exact (mj_upn (by omega)).trans ((mj_upn (by omega)).trans ((mj_upn (by omega)).trans (by assumption)))) (by first | assumption | exact (mj_upn (by omega)).trans (by assumption) | exact (mj_upn (by omega)).trans ((mj_upn (by omega)).trans (by assumption)) | exact (mj_upn (by omega)).trans ((mj_upn (by omega)).trans ((mj_upn (by omega)).trans (by assumption)))) ?_
    refine mj_aload_n (i := 0) (q := 12) dX3_thicken_11 rfl rfl rfl ?_
    refine mj_getfv (q := 15) dX3_thicken_12 fl_X3_27 rfl rfl (by first | assumption | exact (mj_upn (by omega)).trans (by assumption) | exact (mj_upn (by omega)).trans ((mj_upn (by omega)).trans (by assumption)) | exact (mj_upn (by omega)).trans ((mj_upn (by omega)).trans ((mj_upn (by omega)).trans (by assumption)))) (by first | assumption | exact (mj_upn (by omega)).trans (by assumption) | exact (mj_upn (by omega)).trans ((mj_upn (by omega)).trans (by assumption)) | exact (mj_upn (by omega)).trans ((mj_upn (by omega)).trans ((mj_upn (by omega)).trans (by assumption)))) ?_
    refine mj_num1 (v := 1) (q := 16) rfl dX3_thicken_15 rfl ?_
    refine mj_isub (q := 17) dX3_thicken_16 rfl ?_
    refine mj_top (nI_pred c) ?_
    refine mj_aload_n (i := 0) (q := 18) dX3_thicken_17 rfl rfl rfl ?_
    refine mj_getr (q := 21) dX3_thicken_18 fl_X3_9 rfl rfl (by first | assumption | exact (mj_upn (by omega)).trans (by assumption) | exact (mj_upn (by omega)).trans ((mj_upn (by omega)).trans (by assumption)) | exact (mj_upn (by omega)).trans ((mj_upn (by omega)).trans ((mj_upn (by omega)).trans (by assumption)))) (by first | assumption | exact (mj_upn (by omega)).trans (by assumption) | exact (mj_upn (by omega)).trans ((mj_upn (by omega)).trans (by assumption)) | exact (mj_upn (by omega)).trans ((mj_upn (by omega)).trans ((mj_upn (by omega)).trans (by assumption)))) ?_
    refine mj_aload_n (i := 0) (q := 22) dX3_thicken_21 rfl rfl rfl ?_
    refine mj_getfv (q := 25) dX3_thicken_22 fl_X3_27 rfl rfl (by first | assumption | exact (mj_upn (by omega)).trans (by assumption) | exact (mj_upn (by omega)).trans ((mj_upn (by omega)).trans (by assumption)) | exact (mj_upn (by omega)).trans ((mj_upn (by omega)).trans ((mj_upn (by omega)).trans (by assumption)))) (by first | assumption | exact (mj_upn (by omega)).trans (by assumption) | exact (mj_upn (by omega)).trans ((mj_upn (by omega)).trans (by assumption)) | exact (mj_upn (by omega)).trans ((mj_upn (by omega)).trans ((mj_upn (by omega)).trans (by assumption)))) ?_
    refine mj_num1 (v := 1) (q := 26) rfl dX3_thicken_25 rfl ?_
    refine mj_isub (q := 27) dX3_thicken_26 rfl ?_
    refine mj_top (nI_pred c) ?_
    refine mj_ialdn (q := 28) dX3_thicken_27 rfl (by first | assumption | exact (mj_upn (by omega)).trans (by assumption) | exact (mj_upn (by omega)).trans ((mj_upn (by omega)).trans (by assumption)) | exact (mj_upn (by omega)).trans ((mj_upn (by omega)).trans ((mj_upn (by omega)).trans (by assumption)))) (by omega) ?_
    refine mj_iload_n (i := 1) (q := 29) dX3_thicken_28 rfl rfl rfl ?_
    refine mj_iadd (q := 30) dX3_thicken_29 rfl ?_
    refine mj_num3 (v := 300) (q := 33) (by decide) dX3_thicken_30 rfl ?_
    refine mj_mmin (q := 36) dX3_thicken_33 ln_X3_48 (Nat.le_of_ble_eq_true rfl) rfl ?_
    refine mj_iastn (q := 37) dX3_thicken_36 rfl (by first | assumption | exact (mj_upn (by omega)).trans (by assumption) | exact (mj_upn (by omega)).trans ((mj_upn (by omega)).trans (by assumption)) | exact (mj_upn (by omega)).trans ((mj_upn (by omega)).trans ((mj_upn (by omega)).trans (by assumption)))) (by omega) ?_
    exact mj_return dX3_thicken_37 rfl ⟨rfl, ⟨_, rfl, by refine ⟨by first | omega | (simp only [vThicken]; omega) | (simp [vThicken, b0, b1, b2, b3, b4, b5, b6, b7, b8, b4 c hc, vMin] <;> omega), ?_, ?_, ?_, ?_, ?_, ?_, ?_, ?_⟩ <;> first | (intro k hk; simp [mj_up, upd, vThicken, b0, b1, b2, b3, b4, b5, b6, b7, b8, b4 c hc, vMin, hk]; done) | (simp [mj_up, upd, vThicken, b0, b1, b2, b3, b4, b5, b6, b7, b8, b4 c hc, vMin]; done), by repeat (first | exact mj_Fr.rf | exact (by assumption) | refine mj_Fr.up ?_ (by omega) (by omega))⟩⟩
set_option maxHeartbeats 4000000 in
set_option maxRecDepth 100000 in
theorem s_thin {d s : Nat} {m : Int32} {n : Nat} {K : Nat → mj_K} {f : Nat → Nat → Int32} {g : Nat → Nat → Option Nat} {x : sV} (hL : LSn K g s) (hS : SN f s x) : mj_Cv m_X3_thin d [.ref s, .int m] (n, K, f, g) (fun h1 => ∃ f1, h1 = (n, K, f1, g) ∧ SN f1 s (vThin m x) ∧ mj_Fr s (s + 4) f f1) := by
  obtain ⟨k0, k1, k2, k3, g0, g1, g2⟩ := hL
  obtain ⟨c, w, sn, D, H, T⟩ := x
  obtain ⟨b0, b1, b2, b3, b4, b5, b6, b7, b8⟩ := hS
  dsimp only at b0 b1 b2 b3 b4 b5 b6 b7 b8
  cases c with
  | zero =>
    refine mj_entry (by refine ⟨by decide +kernel, by decide, rfl, Nat.le_of_ble_eq_true rfl⟩) ?_
    show mj_W _ _ _ _ _ 0 [.ref s, .int m] [] _
    refine mj_aload_n (i := 0) (q := 1) dX3_thin_0 rfl rfl rfl ?_
    refine mj_getfv (q := 4) dX3_thin_1 fl_X3_27 rfl rfl (by first | assumption | exact (mj_upn (by omega)).trans (by assumption) | exact (mj_upn (by omega)).trans ((mj_upn (by omega)).trans (by assumption)) | exact (mj_upn (by omega)).trans ((mj_upn (by omega)).trans ((mj_upn (by omega)).trans (by assumption)))) (by first | assumption | exact (mj_upn (by omega)).trans (by assumption) | exact (mj_upn (by omega)).trans ((mj_upn (by omega)).trans (by assumption)) | exact (mj_upn (by omega)).trans ((mj_upn (by omega)).trans ((mj_upn (by omega)).trans (by assumption)))) ?_
    refine mj_num1 (v := 1) (q := 5) rfl dX3_thin_4 rfl ?_
    refine mj_icmp_ge (tgt := 9) (q := 8) dX3_thin_5 (by decide) rfl (fun c_5 => absurd c_5 (by decide)) (fun c_5 => ?_)
    exact mj_return dX3_thin_8 rfl ⟨rfl, ⟨_, rfl, by refine ⟨by first | omega | (simp only [vThin]; omega) | (simp [vThin, b0, b1, b2, b3, b4, b5, b6, b7, b8] <;> omega), ?_, ?_, ?_, ?_, ?_, ?_, ?_, ?_⟩ <;> first | (intro k hk; simp [mj_up, upd, vThin, b0, b1, b2, b3, b4, b5, b6, b7, b8, hk]; done) | (simp [mj_up, upd, vThin, b0, b1, b2, b3, b4, b5, b6, b7, b8]; done), by repeat (first | exact mj_Fr.rf | exact (by assumption) | refine mj_Fr.up ?_ (by omega) (by omega))⟩⟩
  | succ c =>
    have hc : c < 8 := by omega
    refine mj_entry (by refine ⟨by decide +kernel, by decide, rfl, Nat.le_of_ble_eq_true rfl⟩) ?_
    show mj_W _ _ _ _ _ 0 [.ref s, .int m] [] _
    refine mj_aload_n (i := 0) (q := 1) dX3_thin_0 rfl rfl rfl ?_
    refine mj_getfv (q := 4) dX3_thin_1 fl_X3_27 rfl rfl (by first | assumption | exact (mj_upn (by omega)).trans (by assumption) | exact (mj_upn (by omega)).trans ((mj_upn (by omega)).trans (by assumption)) | exact (mj_upn (by omega)).trans ((mj_upn (by omega)).trans ((mj_upn (by omega)).trans (by assumption)))) (by first | assumption | exact (mj_upn (by omega)).trans (by assumption) | exact (mj_upn (by omega)).trans ((mj_upn (by omega)).trans (by assumption)) | exact (mj_upn (by omega)).trans ((mj_upn (by omega)).trans ((mj_upn (by omega)).trans (by assumption)))) ?_
    refine mj_num1 (v := 1) (q := 5) rfl dX3_thin_4 rfl ?_
    refine mj_icmp_ge (tgt := 9) (q := 8) dX3_thin_5 (by decide) rfl (fun c_5 => ?_) (fun c_5 => absurd (nI_1le hc) c_5)
    refine mj_aload_n (i := 0) (q := 10) dX3_thin_9 rfl rfl rfl ?_
    refine mj_getr (q := 13) dX3_thin_10 fl_X3_9 rfl rfl (by first | assumption | exact (mj_upn (by omega)).trans (by assumption) | exact (mj_upn (by omega)).trans ((mj_upn (by omega)).trans (by assumption)) | exact (mj_upn (by omega)).trans ((mj_upn (by omega)).trans ((mj_upn (by omega)).trans (by assumption)))) (by first | assumption | exact (mj_upn (by omega)).trans (by assumption) | exact (mj_upn (by omega)).trans ((mj_upn (by omega)).trans (by assumption)) | exact (mj_upn (by omega)).trans ((mj_upn (by omega)).trans ((mj_upn (by omega)).trans (by assumption)))) ?_
    refine mj_aload_n (i := 0) (q := 14) dX3_thin_13 rfl rfl rfl ?_
    refine mj_getfv (q := 17) dX3_thin_14 fl_X3_27 rfl rfl (by first | assumption | exact (mj_upn (by omega)).trans (by assumption) | exact (mj_upn (by omega)).trans ((mj_upn (by omega)).trans (by assumption)) | exact (mj_upn (by omega)).trans ((mj_upn (by omega)).trans ((mj_upn (by omega)).trans (by assumption)))) (by first | assumption | exact (mj_upn (by omega)).trans (by assumption) | exact (mj_upn (by omega)).trans ((mj_upn (by omega)).trans (by assumption)) | exact (mj_upn (by omega)).trans ((mj_upn (by omega)).trans ((mj_upn (by omega)).trans (by assumption)))) ?_
    refine mj_num1 (v := 1) (q := 18) rfl dX3_thin_17 rfl ?_
    refine mj_isub (q := 19) dX3_thin_18 rfl ?_
    refine mj_top (nI_pred c) ?_
    refine mj_dup2 (q := 20) rfl rfl dX3_thin_19 rfl ?_
    refine mj_ialdn (q := 21) dX3_thin_20 rfl (by first | assumption | exact (mj_upn (by omega)).trans (by assumption) | exact (mj_upn (by omega)).trans ((mj_upn (by omega)).trans (by assumption)) | exact (mj_upn (by omega)).trans ((mj_upn (by omega)).trans ((mj_upn (by omega)).trans (by assumption)))) (by omega) ?_
    refine mj_iload_n (i := 1) (q := 22) dX3_thin_21 rfl rfl rfl ?_
    refine mj_isub (q := 23) dX3_thin_22 rfl ?_
    refine mj_iastn (q := 24) dX3_thin_23 rfl (by first | assumption | exact (mj_upn (by omega)).trans (by assumption) | exact (mj_upn (by omega)).trans ((mj_upn (by omega)).trans (by assumption)) | exact (mj_upn (by omega)).trans ((mj_upn (by omega)).trans ((mj_upn (by omega)).trans (by assumption)))) (by omega) ?_
    refine mj_aload_n (i := 0) (q := 25) dX3_thin_24 rfl rfl rfl ?_
    refine mj_getr (q := 28) dX3_thin_25 fl_X3_9 rfl rfl (by first | assumption | exact (mj_upn (by omega)).trans (by assumption) | exact (mj_upn (by omega)).trans ((mj_upn (by omega)).trans (by assumption)) | exact (mj_upn (by omega)).trans ((mj_upn (by omega)).trans ((mj_upn (by omega)).trans (by assumption)))) (by first | assumption | exact (mj_upn (by omega)).trans (by assumption) | exact (mj_upn (by omega)).trans ((mj_upn (by omega)).trans (by assumption)) | exact (mj_upn (by omega)).trans ((mj_upn (by omega)).trans ((mj_upn (by omega)).trans (by assumption)))) ?_
    refine mj_aload_n (i := 0) (q := 29) dX3_thin_28 rfl rfl rfl ?_
    refine mj_getfv (q := 32) dX3_thin_29 fl_X3_27 rfl rfl (by first | assumption | exact (mj_upn (by omega)).trans (by assumption) | exact (mj_upn (by omega)).trans ((mj_upn (by omega)).trans (by assumption)) | exact (mj_upn (by omega)).trans ((mj_upn (by omega)).trans ((mj_upn (by omega)).trans (by assumption)))) (by first | assumption | exact (mj_upn (by omega)).trans (by assumption) | exact (mj_upn (by omega)).trans ((mj_upn (by omega)).trans (by assumption)) | exact (mj_upn (by omega)).trans ((mj_upn (by omega)).trans ((mj_upn (by omega)).trans (by assumption)))) ?_
    refine mj_num1 (v := 1) (q := 33) rfl dX3_thin_32 rfl ?_
    refine mj_isub (q := 34) dX3_thin_33 rfl ?_
    refine mj_top (nI_pred c) ?_
    refine mj_ialdn (q := 35) dX3_thin_34 rfl (by first | assumption | exact (mj_upn (by omega)).trans (by assumption) | exact (mj_upn (by omega)).trans ((mj_upn (by omega)).trans (by assumption)) | exact (mj_upn (by omega)).trans ((mj_upn (by omega)).trans ((mj_upn (by omega)).trans (by assumption)))) (by omega) ?_
    refine mj_top (y := D c - m) (by simp [mj_up, b4 c hc]) ?_
    refine mj_num1 (v := 1) (q := 36) rfl dX3_thin_35 rfl ?_
    refine mj_icmp_ge (tgt := 54) (q := 39) dX3_thin_36 (by decide) rfl (fun c_36 => ?_) (fun c_36 => ?_)
    · exact mj_return dX3_thin_54 rfl ⟨rfl, ⟨_, rfl, by refine ⟨by first | omega | (simp only [vThin]; omega) | (simp [vThin, b0, b1, b2, b3, b4, b5, b6, b7, b8, c_36, b4 c hc] <;> omega), ?_, ?_, ?_, ?_, ?_, ?_, ?_, ?_⟩ <;> first | (intro k hk; simp [mj_up, upd, vThin, b0, b1, b2, b3, b4, b5, b6, b7, b8, c_36, b4 c hc, hk]; done) | (simp [mj_up, upd, vThin, b0, b1, b2, b3, b4, b5, b6, b7, b8, c_36, b4 c hc]; done), by repeat (first | exact mj_Fr.rf | exact (by assumption) | refine mj_Fr.up ?_ (by omega) (by omega))⟩⟩
    · refine mj_aload_n (i := 0) (q := 40) dX3_thin_39 rfl rfl rfl ?_
      refine mj_dup (q := 41) rfl dX3_thin_40 rfl ?_
      refine mj_getfv (q := 44) dX3_thin_41 fl_X3_27 rfl rfl (by first | assumption | exact (mj_upn (by omega)).trans (by assumption) | exact (mj_upn (by omega)).trans ((mj_upn (by omega)).trans (by assumption)) | exact (mj_upn (by omega)).trans ((mj_upn (by omega)).trans ((mj_upn (by omega)).trans (by assumption)))) (by first | assumption | exact (mj_upn (by omega)).trans (by assumption) | exact (mj_upn (by omega)).trans ((mj_upn (by omega)).trans (by assumption)) | exact (mj_upn (by omega)).trans ((mj_upn (by omega)).trans ((mj_upn (by omega)).trans (by assumption)))) ?_
      refine mj_num1 (v := 1) (q := 45) rfl dX3_thin_44 rfl ?_
      refine mj_isub (q := 46) dX3_thin_45 rfl ?_
      refine mj_top (nI_pred c) ?_
      refine mj_putf (q := 49) dX3_thin_46 fl_X3_27 rfl rfl (by first | assumption | exact (mj_upn (by omega)).trans (by assumption) | exact (mj_upn (by omega)).trans ((mj_upn (by omega)).trans (by assumption)) | exact (mj_upn (by omega)).trans ((mj_upn (by omega)).trans ((mj_upn (by omega)).trans (by assumption)))) rfl rfl rfl ?_
      refine mj_aload_n (i := 0) (q := 50) dX3_thin_49 rfl rfl rfl ?_
      refine mj_num1 (v := 0) (q := 51) rfl dX3_thin_50 rfl ?_
      refine mj_putf (q := 54) dX3_thin_51 fl_X3_31 rfl rfl (by first | assumption | exact (mj_upn (by omega)).trans (by assumption) | exact (mj_upn (by omega)).trans ((mj_upn (by omega)).trans (by assumption)) | exact (mj_upn (by omega)).trans ((mj_upn (by omega)).trans ((mj_upn (by omega)).trans (by assumption)))) rfl rfl rfl ?_
      exact mj_return dX3_thin_54 rfl ⟨rfl, ⟨_, rfl, by refine ⟨by first | omega | (simp only [vThin]; omega) | (simp [vThin, b0, b1, b2, b3, b4, b5, b6, b7, b8, c_36, b4 c hc] <;> omega), ?_, ?_, ?_, ?_, ?_, ?_, ?_, ?_⟩ <;> first | (intro k hk; simp [mj_up, upd, vThin, b0, b1, b2, b3, b4, b5, b6, b7, b8, c_36, b4 c hc, hk]; done) | (simp [mj_up, upd, vThin, b0, b1, b2, b3, b4, b5, b6, b7, b8, c_36, b4 c hc]; done), by repeat (first | exact mj_Fr.rf | exact (by assumption) | refine mj_Fr.up ?_ (by omega) (by omega))⟩⟩
set_option maxHeartbeats 4000000 in
set_option maxRecDepth 100000 in
theorem s_melt {d s : Nat} {m : Int32} {n : Nat} {K : Nat → mj_K} {f : Nat → Nat → Int32} {g : Nat → Nat → Option Nat} {x : sV} (hL : LSn K g s) (hS : SN f s x) : mj_Cv m_X3_melt (d + 1) [.ref s, .int m] (n, K, f, g) (fun h1 => ∃ f1, h1 = (n, K, f1, g) ∧ SN f1 s (vMelt m x) ∧ mj_Fr s (s + 4) f f1) := by
  have hL2 := hL
  obtain ⟨k0, k1, k2, k3, g0, g1, g2⟩ := hL
  refine mj_entry (by refine ⟨by decide +kernel, by decide, rfl, Nat.le_of_ble_eq_true rfl⟩) ?_
  show mj_W _ _ _ _ _ 0 [.ref s, .int m] [] _
  refine mj_aload_n (i := 0) (q := 1) dX3_melt_0 rfl rfl rfl ?_
  refine mj_iload_n (i := 1) (q := 2) dX3_melt_1 rfl rfl rfl ?_
  refine mj_cV1v (K := m_X3_thin) (q := 5) dX3_melt_2 ln_X3_51 ok_X3_thin (Nat.le_of_ble_eq_true rfl) (by decide) (by first | assumption | exact (mj_upn (by omega)).trans (by assumption) | exact (mj_upn (by omega)).trans ((mj_upn (by omega)).trans (by assumption)) | exact (mj_upn (by omega)).trans ((mj_upn (by omega)).trans ((mj_upn (by omega)).trans (by assumption)))) rfl rfl (s_thin hL2 hS) (fun h1 hq => ?_)
  obtain ⟨f1, rfl, hS1, hF1⟩ := hq
  generalize hx : vThin m x = y at hS1
  obtain ⟨c, w, sn, D, H, T⟩ := y
  obtain ⟨b0, b1, b2, b3, b4, b5, b6, b7, b8⟩ := hS1
  dsimp only at b0 b1 b2 b3 b4 b5 b6 b7 b8
  have hz := nI_le0 b0
  refine mj_aload_n (i := 0) (q := 6) dX3_melt_5 rfl rfl rfl ?_
  refine mj_aload_n (i := 0) (q := 7) dX3_melt_6 rfl rfl rfl ?_
  refine mj_getfv (q := 10) dX3_melt_7 fl_X3_27 rfl rfl (by first | assumption | exact (mj_upn (by omega)).trans (by assumption) | exact (mj_upn (by omega)).trans ((mj_upn (by omega)).trans (by assumption)) | exact (mj_upn (by omega)).trans ((mj_upn (by omega)).trans ((mj_upn (by omega)).trans (by assumption)))) (by first | assumption | exact (mj_upn (by omega)).trans (by assumption) | exact (mj_upn (by omega)).trans ((mj_upn (by omega)).trans (by assumption)) | exact (mj_upn (by omega)).trans ((mj_upn (by omega)).trans ((mj_upn (by omega)).trans (by assumption)))) ?_
  refine mj_if_le (tgt := 17) (q := 13) dX3_melt_10 (by decide) rfl (fun c_10 => ?_) (fun c_10 => ?_)
  · refine mj_num1 (v := 0) (q := 18) rfl dX3_melt_17 rfl ?_
    refine mj_putf (q := 21) dX3_melt_18 fl_X3_31 rfl rfl (by first | assumption | exact (mj_upn (by omega)).trans (by assumption) | exact (mj_upn (by omega)).trans ((mj_upn (by omega)).trans (by assumption)) | exact (mj_upn (by omega)).trans ((mj_upn (by omega)).trans ((mj_upn (by omega)).trans (by assumption)))) rfl rfl rfl ?_
    exact mj_return dX3_melt_21 rfl ⟨rfl, ⟨_, rfl, by rw [hz] at c_10; simp only [vMelt, hx]; refine ⟨b0, ?_, ?_, ?_, ?_, ?_, ?_, ?_, b8⟩ <;> first | (intro k hk; simp [mj_up, upd, b1, b2, b3, b4, b5, b6, hk]; done) | (simp [mj_up, upd, b1, b2, b3, c_10, Nat.pos_iff_ne_zero]; done), by repeat (first | exact mj_Fr.rf | exact (by assumption) | refine mj_Fr.up ?_ (by omega) (by omega))⟩⟩
  · refine mj_num1 (v := 1) (q := 14) rfl dX3_melt_13 rfl ?_
    refine mj_goto (q := 18) dX3_melt_14 (by decide) ?_
    refine mj_putf (q := 21) dX3_melt_18 fl_X3_31 rfl rfl (by first | assumption | exact (mj_upn (by omega)).trans (by assumption) | exact (mj_upn (by omega)).trans ((mj_upn (by omega)).trans (by assumption)) | exact (mj_upn (by omega)).trans ((mj_upn (by omega)).trans ((mj_upn (by omega)).trans (by assumption)))) rfl rfl rfl ?_
    exact mj_return dX3_melt_21 rfl ⟨rfl, ⟨_, rfl, by rw [hz] at c_10; simp only [vMelt, hx]; refine ⟨b0, ?_, ?_, ?_, ?_, ?_, ?_, ?_, b8⟩ <;> first | (intro k hk; simp [mj_up, upd, b1, b2, b3, b4, b5, b6, hk]; done) | (simp [mj_up, upd, b1, b2, b3, c_10, Nat.pos_iff_ne_zero]; done), by repeat (first | exact mj_Fr.rf | exact (by assumption) | refine mj_Fr.up ?_ (by omega) (by omega))⟩⟩
set_option maxHeartbeats 4000000 in
set_option maxRecDepth 100000 in
theorem s_changeTop {d s : Nat} {t hd0 : Int32} {n : Nat} {K : Nat → mj_K} {f : Nat → Nat → Int32} {g : Nat → Nat → Option Nat} {x : sV} (hL : LSn K g s) (hS : SN f s x) : mj_Cv m_X3_changeTop d [.ref s, .int t, .int hd0] (n, K, f, g) (fun h1 => ∃ f1, h1 = (n, K, f1, g) ∧ SN f1 s (vChange t hd0 x) ∧ mj_Fr s (s + 4) f f1) := by
  obtain ⟨k0, k1, k2, k3, g0, g1, g2⟩ := hL
  obtain ⟨c, w, sn, D, H, T⟩ := x
  obtain ⟨b0, b1, b2, b3, b4, b5, b6, b7, b8⟩ := hS
  dsimp only at b0 b1 b2 b3 b4 b5 b6 b7 b8
  cases c with
  | zero =>
    refine mj_entry (by refine ⟨by decide +kernel, by decide, rfl, Nat.le_of_ble_eq_true rfl⟩) ?_
    show mj_W _ _ _ _ _ 0 [.ref s, .int t, .int hd0] [] _
    refine mj_aload_n (i := 0) (q := 1) dX3_changeTop_0 rfl rfl rfl ?_
    refine mj_getfv (q := 4) dX3_changeTop_1 fl_X3_27 rfl rfl (by first | assumption | exact (mj_upn (by omega)).trans (by assumption) | exact (mj_upn (by omega)).trans ((mj_upn (by omega)).trans (by assumption)) | exact (mj_upn (by omega)).trans ((mj_upn (by omega)).trans ((mj_upn (by omega)).trans (by assumption)))) (by first | assumption | exact (mj_upn (by omega)).trans (by assumption) | exact (mj_upn (by omega)).trans ((mj_upn (by omega)).trans (by assumption)) | exact (mj_upn (by omega)).trans ((mj_upn (by omega)).trans ((mj_upn (by omega)).trans (by assumption)))) ?_
    refine mj_if_le (tgt := 31) (q := 7) dX3_changeTop_4 (by decide) rfl (fun c_4 => ?_) (fun c_4 => absurd c_4 (by decide))
    exact mj_return dX3_changeTop_31 rfl ⟨rfl, ⟨_, rfl, by refine ⟨by first | omega | (simp only [vChange]; omega) | (simp [vChange, b0, b1, b2, b3, b4, b5, b6, b7, b8] <;> omega), ?_, ?_, ?_, ?_, ?_, ?_, ?_, ?_⟩ <;> first | (intro k hk; simp [mj_up, upd, vChange, b0, b1, b2, b3, b4, b5, b6, b7, b8, hk]; done) | (simp [mj_up, upd, vChange, b0, b1, b2, b3, b4, b5, b6, b7, b8]; done), by repeat (first | exact mj_Fr.rf | exact (by assumption) | refine mj_Fr.up ?_ (by omega) (by omega))⟩⟩
  | succ c =>
    have hc : c < 8 := by omega
    refine mj_entry (by refine ⟨by decide +kernel, by decide, rfl, Nat.le_of_ble_eq_true rfl⟩) ?_
    show mj_W _ _ _ _ _ 0 [.ref s, .int t, .int hd0] [] _
    refine mj_aload_n (i := 0) (q := 1) dX3_changeTop_0 rfl rfl rfl ?_
    refine mj_getfv (q := 4) dX3_changeTop_1 fl_X3_27 rfl rfl (by first | assumption | exact (mj_upn (by omega)).trans (by assumption) | exact (mj_upn (by omega)).trans ((mj_upn (by omega)).trans (by assumption)) | exact (mj_upn (by omega)).trans ((mj_upn (by omega)).trans ((mj_upn (by omega)).trans (by assumption)))) (by first | assumption | exact (mj_upn (by omega)).trans (by assumption) | exact (mj_upn (by omega)).trans ((mj_upn (by omega)).trans (by assumption)) | exact (mj_upn (by omega)).trans ((mj_upn (by omega)).trans ((mj_upn (by omega)).trans (by assumption)))) ?_
    refine mj_if_le (tgt := 31) (q := 7) dX3_changeTop_4 (by decide) rfl (fun c_4 => absurd (nI_0lt hc) (Int32.not_lt.mpr c_4)) (fun c_4 => ?_)
    refine mj_aload_n (i := 0) (q := 8) dX3_changeTop_7 rfl rfl rfl ?_
    refine mj_getr (q := 11) dX3_changeTop_8 fl_X3_18 rfl rfl (by first | assumption | exact (mj_upn (by omega)).trans (by assumption) | exact (mj_upn (by omega)).trans ((mj_upn (by omega)).trans (by assumption)) | exact (mj_upn (by omega)).trans ((mj_upn (by omega)).trans ((mj_upn (by omega)).trans (by assumption)))) (by first | assumption | exact (mj_upn (by omega)).trans (by assumption) | exact (mj_upn (by omega)).trans ((mj_upn (by omega)).trans (by assumption)) | exact (mj_upn (by omega)).trans ((mj_upn (by omega)).trans ((mj_upn (by omega)).trans (by assumption)))) ?_
    refine mj_aload_n (i := 0) (q := 12) dX3_changeTop_11 rfl rfl rfl ?_
    refine mj_getfv (q := 15) dX3_changeTop_12 fl_X3_27 rfl rfl (by first | assumption | exact (mj_upn (by omega)).trans (by assumption) | exact (mj_upn (by omega)).trans ((mj_upn (by omega)).trans (by assumption)) | exact (mj_upn (by omega)).trans ((mj_upn (by omega)).trans ((mj_upn (by omega)).trans (by assumption)))) (by first | assumption | exact (mj_upn (by omega)).trans (by assumption) | exact (mj_upn (by omega)).trans ((mj_upn (by omega)).trans (by assumption)) | exact (mj_upn (by omega)).trans ((mj_upn (by omega)).trans ((mj_upn (by omega)).trans (by assumption)))) ?_
    refine mj_num1 (v := 1) (q := 16) rfl dX3_changeTop_15 rfl ?_
    refine mj_isub (q := 17) dX3_changeTop_16 rfl ?_
    refine mj_top (nI_pred c) ?_
    refine mj_iload_n (i := 1) (q := 18) dX3_changeTop_17 rfl rfl rfl ?_
    refine mj_iastn (q := 19) dX3_changeTop_18 rfl (by first | assumption | exact (mj_upn (by omega)).trans (by assumption) | exact (mj_upn (by omega)).trans ((mj_upn (by omega)).trans (by assumption)) | exact (mj_upn (by omega)).trans ((mj_upn (by omega)).trans ((mj_upn (by omega)).trans (by assumption)))) (by omega) ?_
    refine mj_aload_n (i := 0) (q := 20) dX3_changeTop_19 rfl rfl rfl ?_
    refine mj_getr (q := 23) dX3_changeTop_20 fl_X3_15 rfl rfl (by first | assumption | exact (mj_upn (by omega)).trans (by assumption) | exact (mj_upn (by omega)).trans ((mj_upn (by omega)).trans (by assumption)) | exact (mj_upn (by omega)).trans ((mj_upn (by omega)).trans ((mj_upn (by omega)).trans (by assumption)))) (by first | assumption | exact (mj_upn (by omega)).trans (by assumption) | exact (mj_upn (by omega)).trans ((mj_upn (by omega)).trans (by assumption)) | exact (mj_upn (by omega)).trans ((mj_upn (by omega)).trans ((mj_upn (by omega)).trans (by assumption)))) ?_
    refine mj_aload_n (i := 0) (q := 24) dX3_changeTop_23 rfl rfl rfl ?_
    refine mj_getfv (q := 27) dX3_changeTop_24 fl_X3_27 rfl rfl (by first | assumption | exact (mj_upn (by omega)).trans (by assumption) | exact (mj_upn (by omega)).trans ((mj_upn (by omega)).trans (by assumption)) | exact (mj_upn (by omega)).trans ((mj_upn (by omega)).trans ((mj_upn (by omega)).trans (by assumption)))) (by first | assumption | exact (mj_upn (by omega)).trans (by assumption) | exact (mj_upn (by omega)).trans ((mj_upn (by omega)).trans (by assumption)) | exact (mj_upn (by omega)).trans ((mj_upn (by omega)).trans ((mj_upn (by omega)).trans (by assumption)))) ?_
    refine mj_num1 (v := 1) (q := 28) rfl dX3_changeTop_27 rfl ?_
    refine mj_isub (q := 29) dX3_changeTop_28 rfl ?_
    refine mj_top (nI_pred c) ?_
    refine mj_iload_n (i := 2) (q := 30) dX3_changeTop_29 rfl rfl rfl ?_
    refine mj_iastn (q := 31) dX3_changeTop_30 rfl (by first | assumption | exact (mj_upn (by omega)).trans (by assumption) | exact (mj_upn (by omega)).trans ((mj_upn (by omega)).trans (by assumption)) | exact (mj_upn (by omega)).trans ((mj_upn (by omega)).trans ((mj_upn (by omega)).trans (by assumption)))) (by omega) ?_
    exact mj_return dX3_changeTop_31 rfl ⟨rfl, ⟨_, rfl, by refine ⟨by first | omega | (simp only [vChange]; omega) | (simp [vChange, b0, b1, b2, b3, b4, b5, b6, b7, b8] <;> omega), ?_, ?_, ?_, ?_, ?_, ?_, ?_, ?_⟩ <;> first | (intro k hk; simp [mj_up, upd, vChange, b0, b1, b2, b3, b4, b5, b6, b7, b8, hk]; done) | (simp [mj_up, upd, vChange, b0, b1, b2, b3, b4, b5, b6, b7, b8]; done), by repeat (first | exact mj_Fr.rf | exact (by assumption) | refine mj_Fr.up ?_ (by omega) (by omega))⟩⟩
set_option maxHeartbeats 4000000 in
set_option maxRecDepth 100000 in
theorem s_joinLowest {d s : Nat} {n : Nat} {K : Nat → mj_K} {f : Nat → Nat → Int32} {g : Nat → Nat → Option Nat} {x : sV} (hL : LSn K g s) (hS : SN f s x) (h8 : x.1 = 8) : mj_Cv m_X3_joinLowest (d + 1) [.ref s] (n, K, f, g) (fun h1 => ∃ f1, h1 = (n, K, f1, g) ∧ SN f1 s (vJoin x) ∧ mj_Fr s (s + 4) f f1) := by
  obtain ⟨k0, k1, k2, k3, g0, g1, g2⟩ := hL
  obtain ⟨c, w, sn, D, H, T⟩ := x
  obtain ⟨b0, b1, b2, b3, b4, b5, b6, b7, b8⟩ := hS
  dsimp only at b0 b1 b2 b3 b4 b5 b6 b7 b8
  have h8 : c = 8 := h8
  subst h8
  have key : ∀ (j l : Nat) (f1 : Nat → Nat → Int32), l + j = 7 → 1 ≤ l → f1 s = f s → mj_Fr s (s + 4) f f1 → (∀ k, k < 8 → f1 (s + 1) k = if k = 0 then vMin (D 0 + D 1) 300 else if k < l then D (k + 1) else D k) → (∀ k, k < 8 → f1 (s + 2) k = if k = 0 then vMin (H 0) (H 1) else if k < l then H (k + 1) else H k) → (∀ k, k < 8 → f1 (s + 3) k = if k = 0 then T 0 else if k < l then T (k + 1) else T k) → mj_W m_X3_joinLowest (d + 1) 0 0 (fun v h1 => v = none ∧ ∃ f2, h1 = (n, K, f2, g) ∧ SN f2 s (vJoin (8, w, sn, D, H, T)) ∧ mj_Fr s (s + 4) f f2) 48 [.ref s, .int (nI l)] [] (n, K, f1, g) := by
    intro j
    induction j with
    | zero =>
      intro l f1 hl h1 e0 hF e4 e5 e6
      have hl7 : l = 7 := by omega
      subst hl7
      have b1 : f1 s 3 = nI 8 := by rw [e0]; exact b1
      have b2 : f1 s 4 = w := by rw [e0]; exact b2
      have b3 : f1 s 5 = sn := by rw [e0]; exact b3
      refine mj_iload_n (i := 1) (q := 49) dX3_joinLowest_48 rfl rfl rfl ?_
      refine mj_num1 (v := 1) (q := 50) rfl dX3_joinLowest_49 rfl ?_
      refine mj_iadd (q := 51) dX3_joinLowest_50 rfl ?_
      refine mj_num2 (v := 8) (q := 53) (by decide) dX3_joinLowest_51 rfl ?_
      refine mj_icmp_ge (tgt := 104) (q := 56) dX3_joinLowest_53 (by decide) rfl (fun c_53 => ?_) (fun c_53 => absurd (by decide) c_53)
      refine mj_aload_n (i := 0) (q := 105) dX3_joinLowest_104 rfl rfl rfl ?_
      refine mj_dup (q := 106) rfl dX3_joinLowest_105 rfl ?_
      refine mj_getfv (q := 109) dX3_joinLowest_106 fl_X3_27 rfl rfl (by first | assumption | exact (mj_upn (by omega)).trans (by assumption) | exact (mj_upn (by omega)).trans ((mj_upn (by omega)).trans (by assumption)) | exact (mj_upn (by omega)).trans ((mj_upn (by omega)).trans ((mj_upn (by omega)).trans (by assumption)))) (by first | assumption | exact (mj_upn (by omega)).trans (by assumption) | exact (mj_upn (by omega)).trans ((mj_upn (by omega)).trans (by assumption)) | exact (mj_upn (by omega)).trans ((mj_upn (by omega)).trans ((mj_upn (by omega)).trans (by assumption)))) ?_
      refine mj_num1 (v := 1) (q := 110) rfl dX3_joinLowest_109 rfl ?_
      refine mj_isub (q := 111) dX3_joinLowest_110 rfl ?_
      refine mj_top (y := nI 7) (by decide) ?_
      refine mj_putf (q := 114) dX3_joinLowest_111 fl_X3_27 rfl rfl (by first | assumption | exact (mj_upn (by omega)).trans (by assumption) | exact (mj_upn (by omega)).trans ((mj_upn (by omega)).trans (by assumption)) | exact (mj_upn (by omega)).trans ((mj_upn (by omega)).trans ((mj_upn (by omega)).trans (by assumption)))) rfl rfl rfl ?_
      exact mj_return dX3_joinLowest_114 rfl ⟨rfl, ⟨_, rfl, by refine ⟨by simp only [vJoin]; omega, ?_, ?_, ?_, ?_, ?_, ?_, b7, b8⟩ <;> first | (intro k hk; simp [mj_up, vJoin, e4, e5, e6, hk]; done) | (simp [mj_up, vJoin, b1, b2, b3]; done), by repeat (first | exact mj_Fr.rf | exact (by assumption) | refine mj_Fr.up ?_ (by omega) (by omega))⟩⟩
    | succ j ih =>
      intro l f1 hl h1 e0 hF e4 e5 e6
      have hl6 : l ≤ 6 := by omega
      refine mj_iload_n (i := 1) (q := 49) dX3_joinLowest_48 rfl rfl rfl ?_
      refine mj_num1 (v := 1) (q := 50) rfl dX3_joinLowest_49 rfl ?_
      refine mj_iadd (q := 51) dX3_joinLowest_50 rfl ?_
      refine mj_num2 (v := 8) (q := 53) (by decide) dX3_joinLowest_51 rfl ?_
      refine mj_icmp_ge (tgt := 104) (q := 56) dX3_joinLowest_53 (by decide) rfl (fun c_53 => absurd c_53 (by rw [nI_1]; exact nI_ge (a := l + 1) (b := 8) (by omega) (by omega))) (fun c_53 => ?_)
      refine mj_aload_n (i := 0) (q := 57) dX3_joinLowest_56 rfl rfl rfl ?_
      refine mj_getr (q := 60) dX3_joinLowest_57 fl_X3_9 rfl rfl (by first | assumption | exact (mj_upn (by omega)).trans (by assumption) | exact (mj_upn (by omega)).trans ((mj_upn (by omega)).trans (by assumption)) | exact (mj_upn (by omega)).trans ((mj_upn (by omega)).trans ((mj_upn (by omega)).trans (by assumption)))) (by first | assumption | exact (mj_upn (by omega)).trans (by assumption) | exact (mj_upn (by omega)).trans ((mj_upn (by omega)).trans (by assumption)) | exact (mj_upn (by omega)).trans ((mj_upn (by omega)).trans ((mj_upn (by omega)).trans (by assumption)))) ?_
      refine mj_iload_n (i := 1) (q := 61) dX3_joinLowest_60 rfl rfl rfl ?_
      refine mj_aload_n (i := 0) (q := 62) dX3_joinLowest_61 rfl rfl rfl ?_
      refine mj_getr (q := 65) dX3_joinLowest_62 fl_X3_9 rfl rfl (by first | assumption | exact (mj_upn (by omega)).trans (by assumption) | exact (mj_upn (by omega)).trans ((mj_upn (by omega)).trans (by assumption)) | exact (mj_upn (by omega)).trans ((mj_upn (by omega)).trans ((mj_upn (by omega)).trans (by assumption)))) (by first | assumption | exact (mj_upn (by omega)).trans (by assumption) | exact (mj_upn (by omega)).trans ((mj_upn (by omega)).trans (by assumption)) | exact (mj_upn (by omega)).trans ((mj_upn (by omega)).trans ((mj_upn (by omega)).trans (by assumption)))) ?_
      refine mj_iload_n (i := 1) (q := 66) dX3_joinLowest_65 rfl rfl rfl ?_
      refine mj_num1 (v := 1) (q := 67) rfl dX3_joinLowest_66 rfl ?_
      refine mj_iadd (q := 68) dX3_joinLowest_67 rfl ?_
      refine mj_top (nI_1 l) ?_
      refine mj_ialdn (q := 69) dX3_joinLowest_68 rfl (by first | assumption | exact (mj_upn (by omega)).trans (by assumption) | exact (mj_upn (by omega)).trans ((mj_upn (by omega)).trans (by assumption)) | exact (mj_upn (by omega)).trans ((mj_upn (by omega)).trans ((mj_upn (by omega)).trans (by assumption)))) (by omega) ?_
      refine mj_iastn (q := 70) dX3_joinLowest_69 rfl (by first | assumption | exact (mj_upn (by omega)).trans (by assumption) | exact (mj_upn (by omega)).trans ((mj_upn (by omega)).trans (by assumption)) | exact (mj_upn (by omega)).trans ((mj_upn (by omega)).trans ((mj_upn (by omega)).trans (by assumption)))) (by omega) ?_
      refine mj_aload_n (i := 0) (q := 71) dX3_joinLowest_70 rfl rfl rfl ?_
      refine mj_getr (q := 74) dX3_joinLowest_71 fl_X3_15 rfl rfl (by first | assumption | exact (mj_upn (by omega)).trans (by assumption) | exact (mj_upn (by omega)).trans ((mj_upn (by omega)).trans (by assumption)) | exact (mj_upn (by omega)).trans ((mj_upn (by omega)).trans ((mj_upn (by omega)).trans (by assumption)))) (by first | assumption | exact (mj_upn (by omega)).trans (by assumption) | exact (mj_upn (by omega)).trans ((mj_upn (by omega)).trans (by assumption)) | exact (mj_upn (by omega)).trans ((mj_upn (by omega)).trans ((mj_upn (by omega)).trans (by assumption)))) ?_
      refine mj_iload_n (i := 1) (q := 75) dX3_joinLowest_74 rfl rfl rfl ?_
      refine mj_aload_n (i := 0) (q := 76) dX3_joinLowest_75 rfl rfl rfl ?_
      refine mj_getr (q := 79) dX3_joinLowest_76 fl_X3_15 rfl rfl (by first | assumption | exact (mj_upn (by omega)).trans (by assumption) | exact (mj_upn (by omega)).trans ((mj_upn (by omega)).trans (by assumption)) | exact (mj_upn (by omega)).trans ((mj_upn (by omega)).trans ((mj_upn (by omega)).trans (by assumption)))) (by first | assumption | exact (mj_upn (by omega)).trans (by assumption) | exact (mj_upn (by omega)).trans ((mj_upn (by omega)).trans (by assumption)) | exact (mj_upn (by omega)).trans ((mj_upn (by omega)).trans ((mj_upn (by omega)).trans (by assumption)))) ?_
      refine mj_iload_n (i := 1) (q := 80) dX3_joinLowest_79 rfl rfl rfl ?_
      refine mj_num1 (v := 1) (q := 81) rfl dX3_joinLowest_80 rfl ?_
      refine mj_iadd (q := 82) dX3_joinLowest_81 rfl ?_
      refine mj_top (nI_1 l) ?_
      refine mj_ialdn (q := 83) dX3_joinLowest_82 rfl (by first | assumption | exact (mj_upn (by omega)).trans (by assumption) | exact (mj_upn (by omega)).trans ((mj_upn (by omega)).trans (by assumption)) | exact (mj_upn (by omega)).trans ((mj_upn (by omega)).trans ((mj_upn (by omega)).trans (by assumption)))) (by omega) ?_
      refine mj_iastn (q := 84) dX3_joinLowest_83 rfl (by first | assumption | exact (mj_upn (by omega)).trans (by assumption) | exact (mj_upn (by omega)).trans ((mj_upn (by omega)).trans (by assumption)) | exact (mj_upn (by omega)).trans ((mj_upn (by omega)).trans ((mj_upn (by omega)).trans (by assumption)))) (by omega) ?_
      refine mj_aload_n (i := 0) (q := 85) dX3_joinLowest_84 rfl rfl rfl ?_
      refine mj_getr (q := 88) dX3_joinLowest_85 fl_X3_18 rfl rfl (by first | assumption | exact (mj_upn (by omega)).trans (by assumption) | exact (mj_upn (by omega)).trans ((mj_upn (by omega)).trans (by assumption)) | exact (mj_upn (by omega)).trans ((mj_upn (by omega)).trans ((mj_upn (by omega)).trans (by assumption)))) (by first | assumption | exact (mj_upn (by omega)).trans (by assumption) | exact (mj_upn (by omega)).trans ((mj_upn (by omega)).trans (by assumption)) | exact (mj_upn (by omega)).trans ((mj_upn (by omega)).trans ((mj_upn (by omega)).trans (by assumption)))) ?_
      refine mj_iload_n (i := 1) (q := 89) dX3_joinLowest_88 rfl rfl rfl ?_
      refine mj_aload_n (i := 0) (q := 90) dX3_joinLowest_89 rfl rfl rfl ?_
      refine mj_getr (q := 93) dX3_joinLowest_90 fl_X3_18 rfl rfl (by first | assumption | exact (mj_upn (by omega)).trans (by assumption) | exact (mj_upn (by omega)).trans ((mj_upn (by omega)).trans (by assumption)) | exact (mj_upn (by omega)).trans ((mj_upn (by omega)).trans ((mj_upn (by omega)).trans (by assumption)))) (by first | assumption | exact (mj_upn (by omega)).trans (by assumption) | exact (mj_upn (by omega)).trans ((mj_upn (by omega)).trans (by assumption)) | exact (mj_upn (by omega)).trans ((mj_upn (by omega)).trans ((mj_upn (by omega)).trans (by assumption)))) ?_
      refine mj_iload_n (i := 1) (q := 94) dX3_joinLowest_93 rfl rfl rfl ?_
      refine mj_num1 (v := 1) (q := 95) rfl dX3_joinLowest_94 rfl ?_
      refine mj_iadd (q := 96) dX3_joinLowest_95 rfl ?_
      refine mj_top (nI_1 l) ?_
      refine mj_ialdn (q := 97) dX3_joinLowest_96 rfl (by first | assumption | exact (mj_upn (by omega)).trans (by assumption) | exact (mj_upn (by omega)).trans ((mj_upn (by omega)).trans (by assumption)) | exact (mj_upn (by omega)).trans ((mj_upn (by omega)).trans ((mj_upn (by omega)).trans (by assumption)))) (by omega) ?_
      refine mj_iastn (q := 98) dX3_joinLowest_97 rfl (by first | assumption | exact (mj_upn (by omega)).trans (by assumption) | exact (mj_upn (by omega)).trans ((mj_upn (by omega)).trans (by assumption)) | exact (mj_upn (by omega)).trans ((mj_upn (by omega)).trans ((mj_upn (by omega)).trans (by assumption)))) (by omega) ?_
      refine mj_iinc (i := 1) (q := 101) dX3_joinLowest_98 rfl rfl (by decide) rfl ?_
      dsimp only [List.set]
      refine mj_goto (q := 48) dX3_joinLowest_101 (by decide) ?_
      rw [show nI l + Int32.ofInt 1 = nI (l + 1) from nI_1 l]
      refine ih (l + 1) _ (by omega) (by omega) ?_ ?_ ?_ ?_ ?_
      · rw [mj_upr (by omega), mj_upr (by omega), mj_upr (by omega)]; exact e0
      · repeat (first | exact mj_Fr.rf | exact (by assumption) | refine mj_Fr.up ?_ (by omega) (by omega))
      · intro k hk; by_cases hkl : k = l <;> simp [mj_up, e4, hk, hkl, show ¬ l = 0 by omega, show l < 8 by omega, show l + 1 < 8 by omega] <;> (try split) <;> (try split) <;> (try split) <;> first | rfl | omega | (exfalso; omega)
      · intro k hk; by_cases hkl : k = l <;> simp [mj_up, e5, hk, hkl, show ¬ l = 0 by omega, show l < 8 by omega, show l + 1 < 8 by omega] <;> (try split) <;> (try split) <;> (try split) <;> first | rfl | omega | (exfalso; omega)
      · intro k hk; by_cases hkl : k = l <;> simp [mj_up, e6, hk, hkl, show ¬ l = 0 by omega, show l < 8 by omega, show l + 1 < 8 by omega] <;> (try split) <;> (try split) <;> (try split) <;> first | rfl | omega | (exfalso; omega)
  refine mj_entry (by refine ⟨by decide +kernel, by decide, rfl, Nat.le_of_ble_eq_true rfl⟩) ?_
  show mj_W _ _ _ _ _ 0 [.ref s, .null] [] _
  refine mj_aload_n (i := 0) (q := 1) dX3_joinLowest_0 rfl rfl rfl ?_
  refine mj_getr (q := 4) dX3_joinLowest_1 fl_X3_9 rfl rfl (by first | assumption | exact (mj_upn (by omega)).trans (by assumption) | exact (mj_upn (by omega)).trans ((mj_upn (by omega)).trans (by assumption)) | exact (mj_upn (by omega)).trans ((mj_upn (by omega)).trans ((mj_upn (by omega)).trans (by assumption)))) (by first | assumption | exact (mj_upn (by omega)).trans (by assumption) | exact (mj_upn (by omega)).trans ((mj_upn (by omega)).trans (by assumption)) | exact (mj_upn (by omega)).trans ((mj_upn (by omega)).trans ((mj_upn (by omega)).trans (by assumption)))) ?_
  refine mj_num1 (v := nI 0) (q := 5) (by decide) dX3_joinLowest_4 rfl ?_
  refine mj_aload_n (i := 0) (q := 6) dX3_joinLowest_5 rfl rfl rfl ?_
  refine mj_getr (q := 9) dX3_joinLowest_6 fl_X3_9 rfl rfl (by first | assumption | exact (mj_upn (by omega)).trans (by assumption) | exact (mj_upn (by omega)).trans ((mj_upn (by omega)).trans (by assumption)) | exact (mj_upn (by omega)).trans ((mj_upn (by omega)).trans ((mj_upn (by omega)).trans (by assumption)))) (by first | assumption | exact (mj_upn (by omega)).trans (by assumption) | exact (mj_upn (by omega)).trans ((mj_upn (by omega)).trans (by assumption)) | exact (mj_upn (by omega)).trans ((mj_upn (by omega)).trans ((mj_upn (by omega)).trans (by assumption)))) ?_
  refine mj_num1 (v := nI 0) (q := 10) (by decide) dX3_joinLowest_9 rfl ?_
  refine mj_ialdn (q := 11) dX3_joinLowest_10 rfl (by first | assumption | exact (mj_upn (by omega)).trans (by assumption) | exact (mj_upn (by omega)).trans ((mj_upn (by omega)).trans (by assumption)) | exact (mj_upn (by omega)).trans ((mj_upn (by omega)).trans ((mj_upn (by omega)).trans (by assumption)))) (by omega) ?_
  refine mj_aload_n (i := 0) (q := 12) dX3_joinLowest_11 rfl rfl rfl ?_
  refine mj_getr (q := 15) dX3_joinLowest_12 fl_X3_9 rfl rfl (by first | assumption | exact (mj_upn (by omega)).trans (by assumption) | exact (mj_upn (by omega)).trans ((mj_upn (by omega)).trans (by assumption)) | exact (mj_upn (by omega)).trans ((mj_upn (by omega)).trans ((mj_upn (by omega)).trans (by assumption)))) (by first | assumption | exact (mj_upn (by omega)).trans (by assumption) | exact (mj_upn (by omega)).trans ((mj_upn (by omega)).trans (by assumption)) | exact (mj_upn (by omega)).trans ((mj_upn (by omega)).trans ((mj_upn (by omega)).trans (by assumption)))) ?_
  refine mj_num1 (v := nI 1) (q := 16) (by decide) dX3_joinLowest_15 rfl ?_
  refine mj_ialdn (q := 17) dX3_joinLowest_16 rfl (by first | assumption | exact (mj_upn (by omega)).trans (by assumption) | exact (mj_upn (by omega)).trans ((mj_upn (by omega)).trans (by assumption)) | exact (mj_upn (by omega)).trans ((mj_upn (by omega)).trans ((mj_upn (by omega)).trans (by assumption)))) (by omega) ?_
  refine mj_iadd (q := 18) dX3_joinLowest_17 rfl ?_
  refine mj_num3 (v := 300) (q := 21) (by decide) dX3_joinLowest_18 rfl ?_
  refine mj_mmin (q := 24) dX3_joinLowest_21 ln_X3_48 (Nat.le_of_ble_eq_true rfl) rfl ?_
  refine mj_iastn (q := 25) dX3_joinLowest_24 rfl (by first | assumption | exact (mj_upn (by omega)).trans (by assumption) | exact (mj_upn (by omega)).trans ((mj_upn (by omega)).trans (by assumption)) | exact (mj_upn (by omega)).trans ((mj_upn (by omega)).trans ((mj_upn (by omega)).trans (by assumption)))) (by omega) ?_
  refine mj_aload_n (i := 0) (q := 26) dX3_joinLowest_25 rfl rfl rfl ?_
  refine mj_getr (q := 29) dX3_joinLowest_26 fl_X3_15 rfl rfl (by first | assumption | exact (mj_upn (by omega)).trans (by assumption) | exact (mj_upn (by omega)).trans ((mj_upn (by omega)).trans (by assumption)) | exact (mj_upn (by omega)).trans ((mj_upn (by omega)).trans ((mj_upn (by omega)).trans (by assumption)))) (by first | assumption | exact (mj_upn (by omega)).trans (by assumption) | exact (mj_upn (by omega)).trans ((mj_upn (by omega)).trans (by assumption)) | exact (mj_upn (by omega)).trans ((mj_upn (by omega)).trans ((mj_upn (by omega)).trans (by assumption)))) ?_
  refine mj_num1 (v := nI 0) (q := 30) (by decide) dX3_joinLowest_29 rfl ?_
  refine mj_aload_n (i := 0) (q := 31) dX3_joinLowest_30 rfl rfl rfl ?_
  refine mj_getr (q := 34) dX3_joinLowest_31 fl_X3_15 rfl rfl (by first | assumption | exact (mj_upn (by omega)).trans (by assumption) | exact (mj_upn (by omega)).trans ((mj_upn (by omega)).trans (by assumption)) | exact (mj_upn (by omega)).trans ((mj_upn (by omega)).trans ((mj_upn (by omega)).trans (by assumption)))) (by first | assumption | exact (mj_upn (by omega)).trans (by assumption) | exact (mj_upn (by omega)).trans ((mj_upn (by omega)).trans (by assumption)) | exact (mj_upn (by omega)).trans ((mj_upn (by omega)).trans ((mj_upn (by omega)).trans (by assumption)))) ?_
  refine mj_num1 (v := nI 0) (q := 35) (by decide) dX3_joinLowest_34 rfl ?_
  refine mj_ialdn (q := 36) dX3_joinLowest_35 rfl (by first | assumption | exact (mj_upn (by omega)).trans (by assumption) | exact (mj_upn (by omega)).trans ((mj_upn (by omega)).trans (by assumption)) | exact (mj_upn (by omega)).trans ((mj_upn (by omega)).trans ((mj_upn (by omega)).trans (by assumption)))) (by omega) ?_
  refine mj_aload_n (i := 0) (q := 37) dX3_joinLowest_36 rfl rfl rfl ?_
  refine mj_getr (q := 40) dX3_joinLowest_37 fl_X3_15 rfl rfl (by first | assumption | exact (mj_upn (by omega)).trans (by assumption) | exact (mj_upn (by omega)).trans ((mj_upn (by omega)).trans (by assumption)) | exact (mj_upn (by omega)).trans ((mj_upn (by omega)).trans ((mj_upn (by omega)).trans (by assumption)))) (by first | assumption | exact (mj_upn (by omega)).trans (by assumption) | exact (mj_upn (by omega)).trans ((mj_upn (by omega)).trans (by assumption)) | exact (mj_upn (by omega)).trans ((mj_upn (by omega)).trans ((mj_upn (by omega)).trans (by assumption)))) ?_
  refine mj_num1 (v := nI 1) (q := 41) (by decide) dX3_joinLowest_40 rfl ?_
  refine mj_ialdn (q := 42) dX3_joinLowest_41 rfl (by first | assumption | exact (mj_upn (by omega)).trans (by assumption) | exact (mj_upn (by omega)).trans ((mj_upn (by omega)).trans (by assumption)) | exact (mj_upn (by omega)).trans ((mj_upn (by omega)).trans ((mj_upn (by omega)).trans (by assumption)))) (by omega) ?_
  refine mj_mmin (q := 45) dX3_joinLowest_42 ln_X3_48 (Nat.le_of_ble_eq_true rfl) rfl ?_
  refine mj_iastn (q := 46) dX3_joinLowest_45 rfl (by first | assumption | exact (mj_upn (by omega)).trans (by assumption) | exact (mj_upn (by omega)).trans ((mj_upn (by omega)).trans (by assumption)) | exact (mj_upn (by omega)).trans ((mj_upn (by omega)).trans ((mj_upn (by omega)).trans (by assumption)))) (by omega) ?_
  refine mj_num1 (v := nI 1) (q := 47) (by decide) dX3_joinLowest_46 rfl ?_
  refine mj_istore_n (i := 1) (q := 48) dX3_joinLowest_47 rfl rfl (by decide) rfl ?_
  dsimp only [List.set]
  refine key 6 1 _ (by omega) (by omega) ?_ ?_ ?_ ?_ ?_
  · rw [mj_upr (by omega), mj_upr (by omega)]
  · repeat (first | exact mj_Fr.rf | exact (by assumption) | refine mj_Fr.up ?_ (by omega) (by omega))
  · intro k hk; by_cases hk0 : k = 0 <;> simp [mj_up, vMin, b4, b5, b6, hk, hk0]
  · intro k hk; by_cases hk0 : k = 0 <;> simp [mj_up, vMin, b4, b5, b6, hk, hk0]
  · intro k hk; by_cases hk0 : k = 0 <;> simp [mj_up, vMin, b4, b5, b6, hk, hk0]
set_option maxHeartbeats 4000000 in
set_option maxRecDepth 100000 in
theorem s_lay {d s : Nat} {t dp hd0 : Int32} {n : Nat} {K : Nat → mj_K} {f : Nat → Nat → Int32} {g : Nat → Nat → Option Nat} {x : sV} (hL : LSn K g s) (hS : SN f s x) : mj_Cv m_X3_lay (d + 2) [.ref s, .int t, .int dp, .int hd0] (n, K, f, g) (fun h1 => ∃ f1, h1 = (n, K, f1, g) ∧ SN f1 s (vLay t dp hd0 x) ∧ mj_Fr s (s + 4) f f1) := by
  have hL2 := hL
  obtain ⟨k0, k1, k2, k3, g0, g1, g2⟩ := hL
  have key : ∀ (f1 : Nat → Nat → Int32) (y : sV), SN f1 s y → y.1 < 8 → mj_Fr s (s + 4) f f1 → vLay t dp hd0 x = vLayN t dp hd0 y → mj_W m_X3_lay (d + 2) 0 0 (fun v h1 => v = none ∧ ∃ f2, h1 = (n, K, f2, g) ∧ SN f2 s (vLay t dp hd0 x) ∧ mj_Fr s (s + 4) f f2) 13 [.ref s, .int t, .int dp, .int hd0] [] (n, K, f1, g) := by
    intro f1 y hS1 h8 hF hv
    rw [hv]
    obtain ⟨c, w, sn, D, H, T⟩ := y
    obtain ⟨b0, b1, b2, b3, b4, b5, b6, b7, b8⟩ := hS1
    dsimp only at b0 b1 b2 b3 b4 b5 b6 b7 b8 h8
    refine mj_aload_n (i := 0) (q := 14) dX3_lay_13 rfl rfl rfl ?_
    refine mj_getr (q := 17) dX3_lay_14 fl_X3_18 rfl rfl (by first | assumption | exact (mj_upn (by omega)).trans (by assumption) | exact (mj_upn (by omega)).trans ((mj_upn (by omega)).trans (by assumption)) | exact (mj_upn (by omega)).trans ((mj_upn (by omega)).trans ((mj_upn (by omega)).trans (by assumption)))) (by first | assumption | exact (mj_upn (by omega)).trans (by assumption) | exact (mj_upn (by omega)).trans ((mj_upn (by omega)).trans (by assumption)) | exact (mj_upn (by omega)).trans ((mj_upn (by omega)).trans ((mj_upn (by omega)).trans (by assumption)))) ?_
    refine mj_aload_n (i := 0) (q := 18) dX3_lay_17 rfl rfl rfl ?_
    refine mj_getfv (q := 21) dX3_lay_18 fl_X3_27 rfl rfl (by first | assumption | exact (mj_upn (by omega)).trans (by assumption) | exact (mj_upn (by omega)).trans ((mj_upn (by omega)).trans (by assumption)) | exact (mj_upn (by omega)).trans ((mj_upn (by omega)).trans ((mj_upn (by omega)).trans (by assumption)))) (by first | assumption | exact (mj_upn (by omega)).trans (by assumption) | exact (mj_upn (by omega)).trans ((mj_upn (by omega)).trans (by assumption)) | exact (mj_upn (by omega)).trans ((mj_upn (by omega)).trans ((mj_upn (by omega)).trans (by assumption)))) ?_
    refine mj_iload_n (i := 1) (q := 22) dX3_lay_21 rfl rfl rfl ?_
    refine mj_iastn (q := 23) dX3_lay_22 rfl (by first | assumption | exact (mj_upn (by omega)).trans (by assumption) | exact (mj_upn (by omega)).trans ((mj_upn (by omega)).trans (by assumption)) | exact (mj_upn (by omega)).trans ((mj_upn (by omega)).trans ((mj_upn (by omega)).trans (by assumption)))) (by omega) ?_
    refine mj_aload_n (i := 0) (q := 24) dX3_lay_23 rfl rfl rfl ?_
    refine mj_getr (q := 27) dX3_lay_24 fl_X3_9 rfl rfl (by first | assumption | exact (mj_upn (by omega)).trans (by assumption) | exact (mj_upn (by omega)).trans ((mj_upn (by omega)).trans (by assumption)) | exact (mj_upn (by omega)).trans ((mj_upn (by omega)).trans ((mj_upn (by omega)).trans (by assumption)))) (by first | assumption | exact (mj_upn (by omega)).trans (by assumption) | exact (mj_upn (by omega)).trans ((mj_upn (by omega)).trans (by assumption)) | exact (mj_upn (by omega)).trans ((mj_upn (by omega)).trans ((mj_upn (by omega)).trans (by assumption)))) ?_
    refine mj_aload_n (i := 0) (q := 28) dX3_lay_27 rfl rfl rfl ?_
    refine mj_getfv (q := 31) dX3_lay_28 fl_X3_27 rfl rfl (by first | assumption | exact (mj_upn (by omega)).trans (by assumption) | exact (mj_upn (by omega)).trans ((mj_upn (by omega)).trans (by assumption)) | exact (mj_upn (by omega)).trans ((mj_upn (by omega)).trans ((mj_upn (by omega)).trans (by assumption)))) (by first | assumption | exact (mj_upn (by omega)).trans (by assumption) | exact (mj_upn (by omega)).trans ((mj_upn (by omega)).trans (by assumption)) | exact (mj_upn (by omega)).trans ((mj_upn (by omega)).trans ((mj_upn (by omega)).trans (by assumption)))) ?_
    refine mj_iload_n (i := 2) (q := 32) dX3_lay_31 rfl rfl rfl ?_
    refine mj_iastn (q := 33) dX3_lay_32 rfl (by first | assumption | exact (mj_upn (by omega)).trans (by assumption) | exact (mj_upn (by omega)).trans ((mj_upn (by omega)).trans (by assumption)) | exact (mj_upn (by omega)).trans ((mj_upn (by omega)).trans ((mj_upn (by omega)).trans (by assumption)))) (by omega) ?_
    refine mj_aload_n (i := 0) (q := 34) dX3_lay_33 rfl rfl rfl ?_
    refine mj_getr (q := 37) dX3_lay_34 fl_X3_15 rfl rfl (by first | assumption | exact (mj_upn (by omega)).trans (by assumption) | exact (mj_upn (by omega)).trans ((mj_upn (by omega)).trans (by assumption)) | exact (mj_upn (by omega)).trans ((mj_upn (by omega)).trans ((mj_upn (by omega)).trans (by assumption)))) (by first | assumption | exact (mj_upn (by omega)).trans (by assumption) | exact (mj_upn (by omega)).trans ((mj_upn (by omega)).trans (by assumption)) | exact (mj_upn (by omega)).trans ((mj_upn (by omega)).trans ((mj_upn (by omega)).trans (by assumption)))) ?_
    refine mj_aload_n (i := 0) (q := 38) dX3_lay_37 rfl rfl rfl ?_
    refine mj_getfv (q := 41) dX3_lay_38 fl_X3_27 rfl rfl (by first | assumption | exact (mj_upn (by omega)).trans (by assumption) | exact (mj_upn (by omega)).trans ((mj_upn (by omega)).trans (by assumption)) | exact (mj_upn (by omega)).trans ((mj_upn (by omega)).trans ((mj_upn (by omega)).trans (by assumption)))) (by first | assumption | exact (mj_upn (by omega)).trans (by assumption) | exact (mj_upn (by omega)).trans ((mj_upn (by omega)).trans (by assumption)) | exact (mj_upn (by omega)).trans ((mj_upn (by omega)).trans ((mj_upn (by omega)).trans (by assumption)))) ?_
    refine mj_iload_n (i := 3) (q := 42) dX3_lay_41 rfl rfl rfl ?_
    refine mj_iastn (q := 43) dX3_lay_42 rfl (by first | assumption | exact (mj_upn (by omega)).trans (by assumption) | exact (mj_upn (by omega)).trans ((mj_upn (by omega)).trans (by assumption)) | exact (mj_upn (by omega)).trans ((mj_upn (by omega)).trans ((mj_upn (by omega)).trans (by assumption)))) (by omega) ?_
    refine mj_aload_n (i := 0) (q := 44) dX3_lay_43 rfl rfl rfl ?_
    refine mj_dup (q := 45) rfl dX3_lay_44 rfl ?_
    refine mj_getfv (q := 48) dX3_lay_45 fl_X3_27 rfl rfl (by first | assumption | exact (mj_upn (by omega)).trans (by assumption) | exact (mj_upn (by omega)).trans ((mj_upn (by omega)).trans (by assumption)) | exact (mj_upn (by omega)).trans ((mj_upn (by omega)).trans ((mj_upn (by omega)).trans (by assumption)))) (by first | assumption | exact (mj_upn (by omega)).trans (by assumption) | exact (mj_upn (by omega)).trans ((mj_upn (by omega)).trans (by assumption)) | exact (mj_upn (by omega)).trans ((mj_upn (by omega)).trans ((mj_upn (by omega)).trans (by assumption)))) ?_
    refine mj_num1 (v := 1) (q := 49) rfl dX3_lay_48 rfl ?_
    refine mj_iadd (q := 50) dX3_lay_49 rfl ?_
    refine mj_top (nI_1 c) ?_
    refine mj_putf (q := 53) dX3_lay_50 fl_X3_27 rfl rfl (by first | assumption | exact (mj_upn (by omega)).trans (by assumption) | exact (mj_upn (by omega)).trans ((mj_upn (by omega)).trans (by assumption)) | exact (mj_upn (by omega)).trans ((mj_upn (by omega)).trans ((mj_upn (by omega)).trans (by assumption)))) rfl rfl rfl ?_
    refine mj_aload_n (i := 0) (q := 54) dX3_lay_53 rfl rfl rfl ?_
    refine mj_num1 (v := 0) (q := 55) rfl dX3_lay_54 rfl ?_
    refine mj_putf (q := 58) dX3_lay_55 fl_X3_31 rfl rfl (by first | assumption | exact (mj_upn (by omega)).trans (by assumption) | exact (mj_upn (by omega)).trans ((mj_upn (by omega)).trans (by assumption)) | exact (mj_upn (by omega)).trans ((mj_upn (by omega)).trans ((mj_upn (by omega)).trans (by assumption)))) rfl rfl rfl ?_
    exact mj_return dX3_lay_58 rfl ⟨rfl, ⟨_, rfl, by refine ⟨by first | omega | (simp only [vLayN]; omega) | (simp [vLayN, b0, b1, b2, b3, b4, b5, b6, b7, b8] <;> omega), ?_, ?_, ?_, ?_, ?_, ?_, ?_, ?_⟩ <;> first | (intro k hk; simp [mj_up, upd, vLayN, b0, b1, b2, b3, b4, b5, b6, b7, b8, hk]; done) | (simp [mj_up, upd, vLayN, b0, b1, b2, b3, b4, b5, b6, b7, b8]; done), by repeat (first | exact mj_Fr.rf | exact (by assumption) | refine mj_Fr.up ?_ (by omega) (by omega))⟩⟩
  have hS0 := hS
  obtain ⟨c, w, sn, D, H, T⟩ := x
  obtain ⟨b0, b1, b2, b3, b4, b5, b6, b7, b8⟩ := hS0
  dsimp only at b0 b1 b2 b3 b4 b5 b6 b7 b8
  refine mj_entry (by refine ⟨by decide +kernel, by decide, rfl, Nat.le_of_ble_eq_true rfl⟩) ?_
  show mj_W _ _ _ _ _ 0 [.ref s, .int t, .int dp, .int hd0] [] _
  refine mj_aload_n (i := 0) (q := 1) dX3_lay_0 rfl rfl rfl ?_
  refine mj_getfv (q := 4) dX3_lay_1 fl_X3_27 rfl rfl (by first | assumption | exact (mj_upn (by omega)).trans (by assumption) | exact (mj_upn (by omega)).trans ((mj_upn (by omega)).trans (by assumption)) | exact (mj_upn (by omega)).trans ((mj_upn (by omega)).trans ((mj_upn (by omega)).trans (by assumption)))) (by first | assumption | exact (mj_upn (by omega)).trans (by assumption) | exact (mj_upn (by omega)).trans ((mj_upn (by omega)).trans (by assumption)) | exact (mj_upn (by omega)).trans ((mj_upn (by omega)).trans ((mj_upn (by omega)).trans (by assumption)))) ?_
  refine mj_num2 (v := 8) (q := 6) (by decide) dX3_lay_4 rfl ?_
  refine mj_icmp_lt (tgt := 13) (q := 9) dX3_lay_6 (by decide) rfl (fun c_6 => ?_) (fun c_6 => ?_)
  · first | exact key _ _ hS (by have := (nI_ltI (a := c) (b := 8) (by omega) (by omega)).mp c_6; exact this) mj_Fr.rf (by simp only [vLay]; rw [if_pos (by have := (nI_ltI (a := c) (b := 8) (by omega) (by omega)).mp c_6; exact this)]) | exact key _ _ hS1 (by simp only [vJoin]; omega) hF1 (by simp only [vLay]; rw [if_neg (by exact mt (nI_ltI (a := c) (b := 8) (by omega) (by omega)).mpr c_6)])
  · refine mj_aload_n (i := 0) (q := 10) dX3_lay_9 rfl rfl rfl ?_
    refine mj_cV0v (K := m_X3_joinLowest) (q := 13) dX3_lay_10 ln_X3_55 ok_X3_joinLowest (Nat.le_of_ble_eq_true rfl) (by decide) (by first | assumption | exact (mj_upn (by omega)).trans (by assumption) | exact (mj_upn (by omega)).trans ((mj_upn (by omega)).trans (by assumption)) | exact (mj_upn (by omega)).trans ((mj_upn (by omega)).trans ((mj_upn (by omega)).trans (by assumption)))) rfl rfl (s_joinLowest hL2 hS (by show c = 8; have := mt (nI_ltI (a := c) (b := 8) (by omega) (by omega)).mpr c_6; omega)) (fun h1 hq => ?_)
    obtain ⟨f1, rfl, hS1, hF1⟩ := hq
    first | exact key _ _ hS (by have := (nI_ltI (a := c) (b := 8) (by omega) (by omega)).mp c_6; exact this) mj_Fr.rf (by simp only [vLay]; rw [if_pos (by have := (nI_ltI (a := c) (b := 8) (by omega) (by omega)).mp c_6; exact this)]) | exact key _ _ hS1 (by simp only [vJoin]; omega) hF1 (by simp only [vLay]; rw [if_neg (by exact mt (nI_ltI (a := c) (b := 8) (by omega) (by omega)).mpr c_6)])
set_option maxHeartbeats 4000000 in
set_option maxRecDepth 100000 in
theorem s_pressTop {d s : Nat} {n : Nat} {K : Nat → mj_K} {f : Nat → Nat → Int32} {g : Nat → Nat → Option Nat} {x : sV} (hL : LSn K g s) (hS : SN f s x) (h2 : 2 ≤ x.1) : mj_Ci m_X3_pressTop (d + 1) [.ref s] (n, K, f, g) (fun r h1 => ∃ f1, h1 = (n, K, f1, g) ∧ SN f1 s (vPress x) ∧ mj_Fr s (s + 4) f f1 ∧ r = (vPress x).2.2.2.1 ((vPress x).1 - 1)) := by
  obtain ⟨k0, k1, k2, k3, g0, g1, g2⟩ := hL
  obtain ⟨c, w, sn, D, H, T⟩ := x
  obtain ⟨b0, b1, b2, b3, b4, b5, b6, b7, b8⟩ := hS
  dsimp only at b0 b1 b2 b3 b4 b5 b6 b7 b8
  obtain ⟨c, rfl⟩ : ∃ c2, c = c2 + 2 := ⟨c - 2, by have : 2 ≤ c := h2; omega⟩
  have e1 : nI (c + 2) - 1 = nI (c + 1) := nI_pred (c + 1)
  have e2 : nI (c + 2) - 2 = nI c := pk_sub (a := c + 2) (b := 2) (by omega)
  refine mj_entry (by refine ⟨by decide +kernel, by decide, rfl, Nat.le_of_ble_eq_true rfl⟩) ?_
  show mj_W _ _ _ _ _ 0 [.ref s, .null, .null] [] _
  refine mj_aload_n (i := 0) (q := 1) dX3_pressTop_0 rfl rfl rfl ?_
  refine mj_getfv (q := 4) dX3_pressTop_1 fl_X3_27 rfl rfl (by first | assumption | exact (mj_upn (by omega)).trans (by assumption) | exact (mj_upn (by omega)).trans ((mj_upn (by omega)).trans (by assumption)) | exact (mj_upn (by omega)).trans ((mj_upn (by omega)).trans ((mj_upn (by omega)).trans (by assumption)))) (by first | assumption | exact (mj_upn (by omega)).trans (by assumption) | exact (mj_upn (by omega)).trans ((mj_upn (by omega)).trans (by assumption)) | exact (mj_upn (by omega)).trans ((mj_upn (by omega)).trans ((mj_upn (by omega)).trans (by assumption)))) ?_
  refine mj_num1 (v := 2) (q := 5) rfl dX3_pressTop_4 rfl ?_
  refine mj_icmp_ge (tgt := 10) (q := 8) dX3_pressTop_5 (by decide) rfl (fun c_5 => ?_) (fun c_5 => absurd (nI_le (a := 2) (b := c + 2) (by omega) (by omega)) c_5)
  refine mj_aload_n (i := 0) (q := 11) dX3_pressTop_10 rfl rfl rfl ?_
  refine mj_getfv (q := 14) dX3_pressTop_11 fl_X3_27 rfl rfl (by first | assumption | exact (mj_upn (by omega)).trans (by assumption) | exact (mj_upn (by omega)).trans ((mj_upn (by omega)).trans (by assumption)) | exact (mj_upn (by omega)).trans ((mj_upn (by omega)).trans ((mj_upn (by omega)).trans (by assumption)))) (by first | assumption | exact (mj_upn (by omega)).trans (by assumption) | exact (mj_upn (by omega)).trans ((mj_upn (by omega)).trans (by assumption)) | exact (mj_upn (by omega)).trans ((mj_upn (by omega)).trans ((mj_upn (by omega)).trans (by assumption)))) ?_
  refine mj_num1 (v := 1) (q := 15) rfl dX3_pressTop_14 rfl ?_
  refine mj_isub (q := 16) dX3_pressTop_15 rfl ?_
  refine mj_top e1 ?_
  refine mj_istore_n (i := 1) (q := 17) dX3_pressTop_16 rfl rfl (by decide) rfl ?_
  dsimp only [List.set]
  refine mj_aload_n (i := 0) (q := 18) dX3_pressTop_17 rfl rfl rfl ?_
  refine mj_getfv (q := 21) dX3_pressTop_18 fl_X3_27 rfl rfl (by first | assumption | exact (mj_upn (by omega)).trans (by assumption) | exact (mj_upn (by omega)).trans ((mj_upn (by omega)).trans (by assumption)) | exact (mj_upn (by omega)).trans ((mj_upn (by omega)).trans ((mj_upn (by omega)).trans (by assumption)))) (by first | assumption | exact (mj_upn (by omega)).trans (by assumption) | exact (mj_upn (by omega)).trans ((mj_upn (by omega)).trans (by assumption)) | exact (mj_upn (by omega)).trans ((mj_upn (by omega)).trans ((mj_upn (by omega)).trans (by assumption)))) ?_
  refine mj_num1 (v := 2) (q := 22) rfl dX3_pressTop_21 rfl ?_
  refine mj_isub (q := 23) dX3_pressTop_22 rfl ?_
  refine mj_top e2 ?_
  refine mj_istore_n (i := 2) (q := 24) dX3_pressTop_23 rfl rfl (by decide) rfl ?_
  dsimp only [List.set]
  refine mj_aload_n (i := 0) (q := 25) dX3_pressTop_24 rfl rfl rfl ?_
  refine mj_getr (q := 28) dX3_pressTop_25 fl_X3_9 rfl rfl (by first | assumption | exact (mj_upn (by omega)).trans (by assumption) | exact (mj_upn (by omega)).trans ((mj_upn (by omega)).trans (by assumption)) | exact (mj_upn (by omega)).trans ((mj_upn (by omega)).trans ((mj_upn (by omega)).trans (by assumption)))) (by first | assumption | exact (mj_upn (by omega)).trans (by assumption) | exact (mj_upn (by omega)).trans ((mj_upn (by omega)).trans (by assumption)) | exact (mj_upn (by omega)).trans ((mj_upn (by omega)).trans ((mj_upn (by omega)).trans (by assumption)))) ?_
  refine mj_iload_n (i := 2) (q := 29) dX3_pressTop_28 rfl rfl rfl ?_
  refine mj_aload_n (i := 0) (q := 30) dX3_pressTop_29 rfl rfl rfl ?_
  refine mj_getr (q := 33) dX3_pressTop_30 fl_X3_9 rfl rfl (by first | assumption | exact (mj_upn (by omega)).trans (by assumption) | exact (mj_upn (by omega)).trans ((mj_upn (by omega)).trans (by assumption)) | exact (mj_upn (by omega)).trans ((mj_upn (by omega)).trans ((mj_upn (by omega)).trans (by assumption)))) (by first | assumption | exact (mj_upn (by omega)).trans (by assumption) | exact (mj_upn (by omega)).trans ((mj_upn (by omega)).trans (by assumption)) | exact (mj_upn (by omega)).trans ((mj_upn (by omega)).trans ((mj_upn (by omega)).trans (by assumption)))) ?_
  refine mj_iload_n (i := 2) (q := 34) dX3_pressTop_33 rfl rfl rfl ?_
  refine mj_ialdn (q := 35) dX3_pressTop_34 rfl (by first | assumption | exact (mj_upn (by omega)).trans (by assumption) | exact (mj_upn (by omega)).trans ((mj_upn (by omega)).trans (by assumption)) | exact (mj_upn (by omega)).trans ((mj_upn (by omega)).trans ((mj_upn (by omega)).trans (by assumption)))) (by omega) ?_
  refine mj_aload_n (i := 0) (q := 36) dX3_pressTop_35 rfl rfl rfl ?_
  refine mj_getr (q := 39) dX3_pressTop_36 fl_X3_9 rfl rfl (by first | assumption | exact (mj_upn (by omega)).trans (by assumption) | exact (mj_upn (by omega)).trans ((mj_upn (by omega)).trans (by assumption)) | exact (mj_upn (by omega)).trans ((mj_upn (by omega)).trans ((mj_upn (by omega)).trans (by assumption)))) (by first | assumption | exact (mj_upn (by omega)).trans (by assumption) | exact (mj_upn (by omega)).trans ((mj_upn (by omega)).trans (by assumption)) | exact (mj_upn (by omega)).trans ((mj_upn (by omega)).trans ((mj_upn (by omega)).trans (by assumption)))) ?_
  refine mj_iload_n (i := 1) (q := 40) dX3_pressTop_39 rfl rfl rfl ?_
  refine mj_ialdn (q := 41) dX3_pressTop_40 rfl (by first | assumption | exact (mj_upn (by omega)).trans (by assumption) | exact (mj_upn (by omega)).trans ((mj_upn (by omega)).trans (by assumption)) | exact (mj_upn (by omega)).trans ((mj_upn (by omega)).trans ((mj_upn (by omega)).trans (by assumption)))) (by omega) ?_
  refine mj_iadd (q := 42) dX3_pressTop_41 rfl ?_
  refine mj_num2 (v := 9) (q := 44) (by decide) dX3_pressTop_42 rfl ?_
  refine mj_imul (q := 45) dX3_pressTop_44 rfl ?_
  refine mj_num2 (v := 10) (q := 47) (by decide) dX3_pressTop_45 rfl ?_
  refine mj_idiv (q := 48) (by decide) dX3_pressTop_47 rfl ?_
  refine mj_num3 (v := 300) (q := 51) (by decide) dX3_pressTop_48 rfl ?_
  refine mj_mmin (q := 54) dX3_pressTop_51 ln_X3_48 (Nat.le_of_ble_eq_true rfl) rfl ?_
  refine mj_iastn (q := 55) dX3_pressTop_54 rfl (by first | assumption | exact (mj_upn (by omega)).trans (by assumption) | exact (mj_upn (by omega)).trans ((mj_upn (by omega)).trans (by assumption)) | exact (mj_upn (by omega)).trans ((mj_upn (by omega)).trans ((mj_upn (by omega)).trans (by assumption)))) (by omega) ?_
  refine mj_aload_n (i := 0) (q := 56) dX3_pressTop_55 rfl rfl rfl ?_
  refine mj_getr (q := 59) dX3_pressTop_56 fl_X3_15 rfl rfl (by first | assumption | exact (mj_upn (by omega)).trans (by assumption) | exact (mj_upn (by omega)).trans ((mj_upn (by omega)).trans (by assumption)) | exact (mj_upn (by omega)).trans ((mj_upn (by omega)).trans ((mj_upn (by omega)).trans (by assumption)))) (by first | assumption | exact (mj_upn (by omega)).trans (by assumption) | exact (mj_upn (by omega)).trans ((mj_upn (by omega)).trans (by assumption)) | exact (mj_upn (by omega)).trans ((mj_upn (by omega)).trans ((mj_upn (by omega)).trans (by assumption)))) ?_
  refine mj_iload_n (i := 2) (q := 60) dX3_pressTop_59 rfl rfl rfl ?_
  refine mj_aload_n (i := 0) (q := 61) dX3_pressTop_60 rfl rfl rfl ?_
  refine mj_getr (q := 64) dX3_pressTop_61 fl_X3_15 rfl rfl (by first | assumption | exact (mj_upn (by omega)).trans (by assumption) | exact (mj_upn (by omega)).trans ((mj_upn (by omega)).trans (by assumption)) | exact (mj_upn (by omega)).trans ((mj_upn (by omega)).trans ((mj_upn (by omega)).trans (by assumption)))) (by first | assumption | exact (mj_upn (by omega)).trans (by assumption) | exact (mj_upn (by omega)).trans ((mj_upn (by omega)).trans (by assumption)) | exact (mj_upn (by omega)).trans ((mj_upn (by omega)).trans ((mj_upn (by omega)).trans (by assumption)))) ?_
  refine mj_iload_n (i := 2) (q := 65) dX3_pressTop_64 rfl rfl rfl ?_
  refine mj_ialdn (q := 66) dX3_pressTop_65 rfl (by first | assumption | exact (mj_upn (by omega)).trans (by assumption) | exact (mj_upn (by omega)).trans ((mj_upn (by omega)).trans (by assumption)) | exact (mj_upn (by omega)).trans ((mj_upn (by omega)).trans ((mj_upn (by omega)).trans (by assumption)))) (by omega) ?_
  refine mj_aload_n (i := 0) (q := 67) dX3_pressTop_66 rfl rfl rfl ?_
  refine mj_getr (q := 70) dX3_pressTop_67 fl_X3_15 rfl rfl (by first | assumption | exact (mj_upn (by omega)).trans (by assumption) | exact (mj_upn (by omega)).trans ((mj_upn (by omega)).trans (by assumption)) | exact (mj_upn (by omega)).trans ((mj_upn (by omega)).trans ((mj_upn (by omega)).trans (by assumption)))) (by first | assumption | exact (mj_upn (by omega)).trans (by assumption) | exact (mj_upn (by omega)).trans ((mj_upn (by omega)).trans (by assumption)) | exact (mj_upn (by omega)).trans ((mj_upn (by omega)).trans ((mj_upn (by omega)).trans (by assumption)))) ?_
  refine mj_iload_n (i := 1) (q := 71) dX3_pressTop_70 rfl rfl rfl ?_
  refine mj_ialdn (q := 72) dX3_pressTop_71 rfl (by first | assumption | exact (mj_upn (by omega)).trans (by assumption) | exact (mj_upn (by omega)).trans ((mj_upn (by omega)).trans (by assumption)) | exact (mj_upn (by omega)).trans ((mj_upn (by omega)).trans ((mj_upn (by omega)).trans (by assumption)))) (by omega) ?_
  refine mj_mmax (q := 75) dX3_pressTop_72 ln_X3_42 (Nat.le_of_ble_eq_true rfl) rfl ?_
  refine mj_num2 (v := 10) (q := 77) (by decide) dX3_pressTop_75 rfl ?_
  refine mj_iadd (q := 78) dX3_pressTop_77 rfl ?_
  refine mj_num2 (v := 100) (q := 80) (by decide) dX3_pressTop_78 rfl ?_
  refine mj_mmin (q := 83) dX3_pressTop_80 ln_X3_48 (Nat.le_of_ble_eq_true rfl) rfl ?_
  refine mj_iastn (q := 84) dX3_pressTop_83 rfl (by first | assumption | exact (mj_upn (by omega)).trans (by assumption) | exact (mj_upn (by omega)).trans ((mj_upn (by omega)).trans (by assumption)) | exact (mj_upn (by omega)).trans ((mj_upn (by omega)).trans ((mj_upn (by omega)).trans (by assumption)))) (by omega) ?_
  refine mj_aload_n (i := 0) (q := 85) dX3_pressTop_84 rfl rfl rfl ?_
  refine mj_getr (q := 88) dX3_pressTop_85 fl_X3_18 rfl rfl (by first | assumption | exact (mj_upn (by omega)).trans (by assumption) | exact (mj_upn (by omega)).trans ((mj_upn (by omega)).trans (by assumption)) | exact (mj_upn (by omega)).trans ((mj_upn (by omega)).trans ((mj_upn (by omega)).trans (by assumption)))) (by first | assumption | exact (mj_upn (by omega)).trans (by assumption) | exact (mj_upn (by omega)).trans ((mj_upn (by omega)).trans (by assumption)) | exact (mj_upn (by omega)).trans ((mj_upn (by omega)).trans ((mj_upn (by omega)).trans (by assumption)))) ?_
  refine mj_iload_n (i := 2) (q := 89) dX3_pressTop_88 rfl rfl rfl ?_
  refine mj_num1 (v := 3) (q := 90) rfl dX3_pressTop_89 rfl ?_
  refine mj_iastn (q := 91) dX3_pressTop_90 rfl (by first | assumption | exact (mj_upn (by omega)).trans (by assumption) | exact (mj_upn (by omega)).trans ((mj_upn (by omega)).trans (by assumption)) | exact (mj_upn (by omega)).trans ((mj_upn (by omega)).trans ((mj_upn (by omega)).trans (by assumption)))) (by omega) ?_
  refine mj_aload_n (i := 0) (q := 92) dX3_pressTop_91 rfl rfl rfl ?_
  refine mj_iload_n (i := 1) (q := 93) dX3_pressTop_92 rfl rfl rfl ?_
  refine mj_putf (q := 96) dX3_pressTop_93 fl_X3_27 rfl rfl (by first | assumption | exact (mj_upn (by omega)).trans (by assumption) | exact (mj_upn (by omega)).trans ((mj_upn (by omega)).trans (by assumption)) | exact (mj_upn (by omega)).trans ((mj_upn (by omega)).trans ((mj_upn (by omega)).trans (by assumption)))) rfl rfl rfl ?_
  refine mj_aload_n (i := 0) (q := 97) dX3_pressTop_96 rfl rfl rfl ?_
  refine mj_num1 (v := 0) (q := 98) rfl dX3_pressTop_97 rfl ?_
  refine mj_putf (q := 101) dX3_pressTop_98 fl_X3_31 rfl rfl (by first | assumption | exact (mj_upn (by omega)).trans (by assumption) | exact (mj_upn (by omega)).trans ((mj_upn (by omega)).trans (by assumption)) | exact (mj_upn (by omega)).trans ((mj_upn (by omega)).trans ((mj_upn (by omega)).trans (by assumption)))) rfl rfl rfl ?_
  refine mj_aload_n (i := 0) (q := 102) dX3_pressTop_101 rfl rfl rfl ?_
  refine mj_getr (q := 105) dX3_pressTop_102 fl_X3_9 rfl rfl (by first | assumption | exact (mj_upn (by omega)).trans (by assumption) | exact (mj_upn (by omega)).trans ((mj_upn (by omega)).trans (by assumption)) | exact (mj_upn (by omega)).trans ((mj_upn (by omega)).trans ((mj_upn (by omega)).trans (by assumption)))) (by first | assumption | exact (mj_upn (by omega)).trans (by assumption) | exact (mj_upn (by omega)).trans ((mj_upn (by omega)).trans (by assumption)) | exact (mj_upn (by omega)).trans ((mj_upn (by omega)).trans ((mj_upn (by omega)).trans (by assumption)))) ?_
  refine mj_iload_n (i := 2) (q := 106) dX3_pressTop_105 rfl rfl rfl ?_
  refine mj_ialdn (q := 107) dX3_pressTop_106 rfl (by first | assumption | exact (mj_upn (by omega)).trans (by assumption) | exact (mj_upn (by omega)).trans ((mj_upn (by omega)).trans (by assumption)) | exact (mj_upn (by omega)).trans ((mj_upn (by omega)).trans ((mj_upn (by omega)).trans (by assumption)))) (by omega) ?_
  refine mj_ireturn dX3_pressTop_107 ⟨_, rfl, rfl⟩ ⟨_, rfl, _, rfl, ?_, ?_, ?_⟩
  · refine ⟨by simp only [vPress]; omega, ?_, ?_, ?_, ?_, ?_, ?_, ?_, ?_⟩
    · simp [mj_up, vPress, b0, b1, b2, b3, b4, b5, b6, b7, b8]
    · simp [mj_up, vPress, b0, b1, b2, b3, b4, b5, b6, b7, b8]
    · simp [mj_up, vPress, b0, b1, b2, b3, b4, b5, b6, b7, b8]
    · intro k hk; rw [b4 c (by omega), b4 (c + 1) (by omega)]; simp [mj_up, upd, vPress, vMin, b0, b1, b2, b3, b4, b5, b6, b7, b8, hk]
    · intro k hk
      have q0 := b5 c (by omega)
      have q1 := b5 (c + 1) (by omega)
      have qk := b5 k hk
      simp only [vPress, upd]
      by_cases hkc : k = c
      · subst hkc; simp [mj_up, vMin, vMax, q0, q1]; rfl
      · simp [mj_up, hkc, qk]
    · intro k hk; simp [mj_up, upd, vPress, b0, b1, b2, b3, b4, b5, b6, b7, b8, hk]
    · simp [vPress]
    · simp [vPress, b8]
  · repeat (first | exact mj_Fr.rf | exact (by assumption) | refine mj_Fr.up ?_ (by omega) (by omega))
  · simp [mj_up, upd, vPress, vMin, b4 c (by omega), b4 (c + 1) (by omega)]
set_option maxHeartbeats 4000000 in
set_option maxRecDepth 100000 in
theorem s_stress {d s l : Nat} {ab slope : Int32} {n : Nat} {K : Nat → mj_K} {f : Nat → Nat → Int32} {g : Nat → Nat → Option Nat} {x : sV} (hL : LSn K g s) (hS : SN f s x) (hl : l < 8) : mj_Ci m_X3_stress d [.ref s, .int (nI l), .int ab, .int slope] (n, K, f, g) (fun r h1 => h1 = (n, K, f, g) ∧ r = vStress l ab slope x) := by
  obtain ⟨k0, k1, k2, k3, g0, g1, g2⟩ := hL
  obtain ⟨c, w, sn, D, H, T⟩ := x
  obtain ⟨b0, b1, b2, b3, b4, b5, b6, b7, b8⟩ := hS
  dsimp only at b0 b1 b2 b3 b4 b5 b6 b7 b8
  refine mj_entry (by refine ⟨by decide +kernel, by decide, rfl, Nat.le_of_ble_eq_true rfl⟩) ?_
  show mj_W _ _ _ _ _ 0 [.ref s, .int (nI l), .int ab, .int slope, .null, .null] [] _
  refine mj_aload_n (i := 0) (q := 1) dX3_stress_0 rfl rfl rfl ?_
  refine mj_getr (q := 4) dX3_stress_1 fl_X3_15 rfl rfl (by first | assumption | exact (mj_upn (by omega)).trans (by assumption) | exact (mj_upn (by omega)).trans ((mj_upn (by omega)).trans (by assumption)) | exact (mj_upn (by omega)).trans ((mj_upn (by omega)).trans ((mj_upn (by omega)).trans (by assumption)))) (by first | assumption | exact (mj_upn (by omega)).trans (by assumption) | exact (mj_upn (by omega)).trans ((mj_upn (by omega)).trans (by assumption)) | exact (mj_upn (by omega)).trans ((mj_upn (by omega)).trans ((mj_upn (by omega)).trans (by assumption)))) ?_
  refine mj_iload_n (i := 1) (q := 5) dX3_stress_4 rfl rfl rfl ?_
  refine mj_ialdn (q := 6) dX3_stress_5 rfl (by first | assumption | exact (mj_upn (by omega)).trans (by assumption) | exact (mj_upn (by omega)).trans ((mj_upn (by omega)).trans (by assumption)) | exact (mj_upn (by omega)).trans ((mj_upn (by omega)).trans ((mj_upn (by omega)).trans (by assumption)))) (by omega) ?_
  refine mj_top (b5 l hl) ?_
  refine mj_num1 (v := 1) (q := 7) rfl dX3_stress_6 rfl ?_
  refine mj_iadd (q := 8) dX3_stress_7 rfl ?_
  refine mj_istore (i := 4) (q := 10) dX3_stress_8 rfl (by decide) rfl ?_
  dsimp only [List.set]
  refine mj_iload (i := 4) (q := 12) dX3_stress_10 rfl rfl ?_
  refine mj_num1 (v := 1) (q := 13) rfl dX3_stress_12 rfl ?_
  refine mj_icmp_ge (tgt := 18) (q := 16) dX3_stress_13 (by decide) rfl (fun c_13 => ?_) (fun c_13 => ?_)
  · refine mj_iload_n (i := 2) (q := 19) dX3_stress_18 rfl rfl rfl ?_
    refine mj_iload_n (i := 3) (q := 20) dX3_stress_19 rfl rfl rfl ?_
    refine mj_num2 (v := 20) (q := 22) (by decide) dX3_stress_20 rfl ?_
    refine mj_isub (q := 23) dX3_stress_22 rfl ?_
    refine mj_imul (q := 24) dX3_stress_23 rfl ?_
    refine mj_iload (i := 4) (q := 26) dX3_stress_24 rfl rfl ?_
    refine mj_idiv (q := 27) (fun z => by rw [z] at c_13; exact absurd c_13 (by decide)) dX3_stress_26 rfl ?_
    refine mj_istore (i := 5) (q := 29) dX3_stress_27 rfl (by decide) rfl ?_
    dsimp only [List.set]
    refine mj_aload_n (i := 0) (q := 30) dX3_stress_29 rfl rfl rfl ?_
    refine mj_getr (q := 33) dX3_stress_30 fl_X3_18 rfl rfl (by first | assumption | exact (mj_upn (by omega)).trans (by assumption) | exact (mj_upn (by omega)).trans ((mj_upn (by omega)).trans (by assumption)) | exact (mj_upn (by omega)).trans ((mj_upn (by omega)).trans ((mj_upn (by omega)).trans (by assumption)))) (by first | assumption | exact (mj_upn (by omega)).trans (by assumption) | exact (mj_upn (by omega)).trans ((mj_upn (by omega)).trans (by assumption)) | exact (mj_upn (by omega)).trans ((mj_upn (by omega)).trans ((mj_upn (by omega)).trans (by assumption)))) ?_
    refine mj_iload_n (i := 1) (q := 34) dX3_stress_33 rfl rfl rfl ?_
    refine mj_ialdn (q := 35) dX3_stress_34 rfl (by first | assumption | exact (mj_upn (by omega)).trans (by assumption) | exact (mj_upn (by omega)).trans ((mj_upn (by omega)).trans (by assumption)) | exact (mj_upn (by omega)).trans ((mj_upn (by omega)).trans ((mj_upn (by omega)).trans (by assumption)))) (by omega) ?_
    refine mj_top (b6 l hl) ?_
    refine mj_num1 (v := 1) (q := 36) rfl dX3_stress_35 rfl ?_
    refine mj_icmp_ne (tgt := 46) (q := 39) dX3_stress_36 (by decide) rfl (fun c_36 => ?_) (fun c_36 => ?_)
    · refine mj_iload (i := 5) (q := 48) dX3_stress_46 rfl rfl ?_
      exact mj_ireturn dX3_stress_48 ⟨_, rfl, rfl⟩ ⟨_, rfl, ⟨rfl, by have c9 := Int32.not_lt.mpr c_13; simp [vStress, c9, c_36]⟩⟩
    · refine mj_num1 (v := 2) (q := 40) rfl dX3_stress_39 rfl ?_
      refine mj_iload (i := 5) (q := 42) dX3_stress_40 rfl rfl ?_
      refine mj_imul (q := 43) dX3_stress_42 rfl ?_
      refine mj_goto (q := 48) dX3_stress_43 (by decide) ?_
      exact mj_ireturn dX3_stress_48 ⟨_, rfl, rfl⟩ ⟨_, rfl, ⟨rfl, by have c9 := Int32.not_lt.mpr c_13; simp [vStress, c9, c_36]⟩⟩
  · refine mj_num1 (v := 0) (q := 17) rfl dX3_stress_16 rfl ?_
    exact mj_ireturn dX3_stress_17 ⟨_, rfl, rfl⟩ ⟨_, rfl, ⟨rfl, by have c9 := Int32.not_le.mp c_13; simp [vStress, c9]⟩⟩
set_option maxHeartbeats 4000000 in
set_option maxRecDepth 100000 in
theorem s_depthFrom {d s lo : Nat} {n : Nat} {K : Nat → mj_K} {f : Nat → Nat → Int32} {g : Nat → Nat → Option Nat} {x : sV} (hL : LSn K g s) (hS : SN f s x) (hlo : lo ≤ 9) : mj_Ci m_X3_depthFrom (d + 1) [.ref s, .int (nI lo)] (n, K, f, g) (fun r h1 => h1 = (n, K, f, g) ∧ r = vDepth lo x) := by
  obtain ⟨k0, k1, k2, k3, g0, g1, g2⟩ := hL
  obtain ⟨c, w, sn, D, H, T⟩ := x
  obtain ⟨b0, b1, b2, b3, b4, b5, b6, b7, b8⟩ := hS
  dsimp only at b0 b1 b2 b3 b4 b5 b6 b7 b8
  have key : ∀ (j i : Nat), i + j = c - lo → mj_W m_X3_depthFrom (d + 1) 0 0 (fun v h1 => ∃ r, v = some (.int r) ∧ h1 = (n, K, f, g) ∧ r = vDepth lo (c, w, sn, D, H, T)) 8 [.ref s, .int (nI lo), .int (vSum D lo i), .int (nI (lo + i))] [] (n, K, f, g) := by
    intro j
    induction j with
    | zero =>
      intro i hi
      refine mj_iload_n (i := 3) (q := 9) dX3_depthFrom_8 rfl rfl rfl ?_
      refine mj_aload_n (i := 0) (q := 10) dX3_depthFrom_9 rfl rfl rfl ?_
      refine mj_getfv (q := 13) dX3_depthFrom_10 fl_X3_27 rfl rfl (by first | assumption | exact (mj_upn (by omega)).trans (by assumption) | exact (mj_upn (by omega)).trans ((mj_upn (by omega)).trans (by assumption)) | exact (mj_upn (by omega)).trans ((mj_upn (by omega)).trans ((mj_upn (by omega)).trans (by assumption)))) (by first | assumption | exact (mj_upn (by omega)).trans (by assumption) | exact (mj_upn (by omega)).trans ((mj_upn (by omega)).trans (by assumption)) | exact (mj_upn (by omega)).trans ((mj_upn (by omega)).trans ((mj_upn (by omega)).trans (by assumption)))) ?_
      refine mj_icmp_ge (tgt := 31) (q := 16) dX3_depthFrom_13 (by decide) rfl (fun c_13 => ?_) (fun c_13 => absurd (nI_le (a := c) (b := lo + i) (by omega) (by omega)) c_13)
      refine mj_iload_n (i := 2) (q := 32) dX3_depthFrom_31 rfl rfl rfl ?_
      exact mj_ireturn dX3_depthFrom_32 ⟨_, rfl, rfl⟩ ⟨_, rfl, ⟨rfl, by simp only [vDepth]; rw [← hi, Nat.add_zero]⟩⟩
    | succ j ih =>
      intro i hi
      refine mj_iload_n (i := 3) (q := 9) dX3_depthFrom_8 rfl rfl rfl ?_
      refine mj_aload_n (i := 0) (q := 10) dX3_depthFrom_9 rfl rfl rfl ?_
      refine mj_getfv (q := 13) dX3_depthFrom_10 fl_X3_27 rfl rfl (by first | assumption | exact (mj_upn (by omega)).trans (by assumption) | exact (mj_upn (by omega)).trans ((mj_upn (by omega)).trans (by assumption)) | exact (mj_upn (by omega)).trans ((mj_upn (by omega)).trans ((mj_upn (by omega)).trans (by assumption)))) (by first | assumption | exact (mj_upn (by omega)).trans (by assumption) | exact (mj_upn (by omega)).trans ((mj_upn (by omega)).trans (by assumption)) | exact (mj_upn (by omega)).trans ((mj_upn (by omega)).trans ((mj_upn (by omega)).trans (by assumption)))) ?_
      refine mj_icmp_ge (tgt := 31) (q := 16) dX3_depthFrom_13 (by decide) rfl (fun c_13 => absurd c_13 (nI_ge (a := lo + i) (b := c) (by omega) (by omega))) (fun c_13 => ?_)
      refine mj_iload_n (i := 2) (q := 17) dX3_depthFrom_16 rfl rfl rfl ?_
      refine mj_aload_n (i := 0) (q := 18) dX3_depthFrom_17 rfl rfl rfl ?_
      refine mj_getr (q := 21) dX3_depthFrom_18 fl_X3_9 rfl rfl (by first | assumption | exact (mj_upn (by omega)).trans (by assumption) | exact (mj_upn (by omega)).trans ((mj_upn (by omega)).trans (by assumption)) | exact (mj_upn (by omega)).trans ((mj_upn (by omega)).trans ((mj_upn (by omega)).trans (by assumption)))) (by first | assumption | exact (mj_upn (by omega)).trans (by assumption) | exact (mj_upn (by omega)).trans ((mj_upn (by omega)).trans (by assumption)) | exact (mj_upn (by omega)).trans ((mj_upn (by omega)).trans ((mj_upn (by omega)).trans (by assumption)))) ?_
      refine mj_iload_n (i := 3) (q := 22) dX3_depthFrom_21 rfl rfl rfl ?_
      refine mj_ialdn (q := 23) dX3_depthFrom_22 rfl (by first | assumption | exact (mj_upn (by omega)).trans (by assumption) | exact (mj_upn (by omega)).trans ((mj_upn (by omega)).trans (by assumption)) | exact (mj_upn (by omega)).trans ((mj_upn (by omega)).trans ((mj_upn (by omega)).trans (by assumption)))) (by omega) ?_
      refine mj_top (b4 (lo + i) (by omega)) ?_
      refine mj_iadd (q := 24) dX3_depthFrom_23 rfl ?_
      refine mj_istore_n (i := 2) (q := 25) dX3_depthFrom_24 rfl rfl (by decide) rfl ?_
      dsimp only [List.set]
      refine mj_iinc (i := 3) (q := 28) dX3_depthFrom_25 rfl rfl (by decide) rfl ?_
      dsimp only [List.set]
      refine mj_goto (q := 8) dX3_depthFrom_28 (by decide) ?_
      rw [show nI (lo + i) + Int32.ofInt 1 = nI (lo + (i + 1)) from nI_1 (lo + i)]
      exact ih (i + 1) (by omega)
  refine mj_entry (by refine ⟨by decide +kernel, by decide, rfl, Nat.le_of_ble_eq_true rfl⟩) ?_
  show mj_W _ _ _ _ _ 0 [.ref s, .int (nI lo), .null, .null] [] _
  refine mj_num1 (v := 0) (q := 1) rfl dX3_depthFrom_0 rfl ?_
  refine mj_istore_n (i := 2) (q := 2) dX3_depthFrom_1 rfl rfl (by decide) rfl ?_
  dsimp only [List.set]
  refine mj_iload_n (i := 1) (q := 3) dX3_depthFrom_2 rfl rfl rfl ?_
  refine mj_num1 (v := 0) (q := 4) rfl dX3_depthFrom_3 rfl ?_
  refine mj_mmax (q := 7) dX3_depthFrom_4 ln_X3_42 (Nat.le_of_ble_eq_true rfl) rfl ?_
  refine mj_top (y := nI lo) (by split <;> first | rfl | (rename_i z; exact absurd z (nI_pos (by omega)))) ?_
  refine mj_istore_n (i := 3) (q := 8) dX3_depthFrom_7 rfl rfl (by decide) rfl ?_
  dsimp only [List.set]
  exact key (c - lo) 0 (by omega)
set_option maxHeartbeats 4000000 in
set_option maxRecDepth 100000 in
theorem s_wholeDepth {d s : Nat} {n : Nat} {K : Nat → mj_K} {f : Nat → Nat → Int32} {g : Nat → Nat → Option Nat} {x : sV} (hL : LSn K g s) (hS : SN f s x) : mj_Ci m_X3_wholeDepth (d + 2) [.ref s] (n, K, f, g) (fun r h1 => h1 = (n, K, f, g) ∧ r = vDepth 0 x) := by
  have hL2 := hL
  obtain ⟨k0, k1, k2, k3, g0, g1, g2⟩ := hL
  refine mj_entry (by refine ⟨by decide +kernel, by decide, rfl, Nat.le_of_ble_eq_true rfl⟩) ?_
  show mj_W _ _ _ _ _ 0 [.ref s] [] _
  refine mj_aload_n (i := 0) (q := 1) dX3_wholeDepth_0 rfl rfl rfl ?_
  refine mj_num1 (v := nI 0) (q := 2) (by decide) dX3_wholeDepth_1 rfl ?_
  refine mj_cV1i (K := m_X3_depthFrom) (q := 5) dX3_wholeDepth_2 ln_X3_38 ok_X3_depthFrom (Nat.le_of_ble_eq_true rfl) (by decide) (by first | assumption | exact (mj_upn (by omega)).trans (by assumption) | exact (mj_upn (by omega)).trans ((mj_upn (by omega)).trans (by assumption)) | exact (mj_upn (by omega)).trans ((mj_upn (by omega)).trans ((mj_upn (by omega)).trans (by assumption)))) rfl rfl (s_depthFrom hL2 hS (by omega)) (fun r_2 h1 hq => ?_)
  obtain ⟨rfl, rfl⟩ := hq
  exact mj_ireturn dX3_wholeDepth_5 ⟨_, rfl, rfl⟩ ⟨_, rfl, ⟨rfl, rfl⟩⟩
set_option maxHeartbeats 4000000 in
set_option maxRecDepth 100000 in
theorem s_shear {d s : Nat} {slope : Int32} {n : Nat} {K : Nat → mj_K} {f : Nat → Nat → Int32} {g : Nat → Nat → Option Nat} {x : sV} (hL : LSn K g s) (hS : SN f s x) : mj_Ci m_X3_shear (d + 1) [.ref s, .int slope] (n, K, f, g) (fun r h1 => h1 = (n, K, f, g) ∧ r = vShear slope x) := by
  have hL2 := hL
  have hS2 := hS
  obtain ⟨k0, k1, k2, k3, g0, g1, g2⟩ := hL
  obtain ⟨c, w, sn, D, H, T⟩ := x
  obtain ⟨b0, b1, b2, b3, b4, b5, b6, b7, b8⟩ := hS
  dsimp only at b0 b1 b2 b3 b4 b5 b6 b7 b8
  have key : 25 ≤ slope → ∀ (l : Nat) (sh gr ab : Int32) (v6 : Value), l ≤ c → vShear slope (c, w, sn, D, H, T) = vShearL slope (c, w, sn, D, H, T) l sh gr ab → mj_W m_X3_shear (d + 1) 0 0 (fun v h1 => ∃ r, v = some (.int r) ∧ h1 = (n, K, f, g) ∧ r = vShear slope (c, w, sn, D, H, T)) 23 [.ref s, .int slope, .int sh, .int gr, .int ab, .int (nI l - 1), v6] [] (n, K, f, g) := by
    intro hsl l
    induction l with
    | zero =>
      intro sh gr ab v6 hl he
      refine mj_iload (i := 5) (q := 25) dX3_shear_23 rfl rfl ?_
      refine mj_if_lt (tgt := 74) (q := 28) dX3_shear_25 (by decide) rfl (fun c_25 => ?_) (fun c_25 => absurd (by decide) c_25)
      refine mj_iload_n (i := 2) (q := 75) dX3_shear_74 rfl rfl rfl ?_
      exact mj_ireturn dX3_shear_75 ⟨_, rfl, rfl⟩ ⟨_, rfl, ⟨rfl, by rw [he]; rfl⟩⟩
    | succ l ih =>
      intro sh gr ab v6 hl he
      rw [nI_pred l]
      have e9 : vStress l ab slope (c, w, sn, D, H, T) = vStress l ab slope (c, w, sn, D, H, T) := rfl
      simp only [vShearL] at he
      refine mj_iload (i := 5) (q := 25) dX3_shear_23 rfl rfl ?_
      refine mj_if_lt (tgt := 74) (q := 28) dX3_shear_25 (by decide) rfl (fun c_25 => absurd c_25 (nI_pos (by omega))) (fun c_25 => ?_)
      refine mj_aload_n (i := 0) (q := 29) dX3_shear_28 rfl rfl rfl ?_
      refine mj_iload (i := 5) (q := 31) dX3_shear_29 rfl rfl ?_
      refine mj_iload (i := 4) (q := 33) dX3_shear_31 rfl rfl ?_
      refine mj_iload_n (i := 1) (q := 34) dX3_shear_33 rfl rfl rfl ?_
      refine mj_cV3i (K := m_X3_stress) (q := 37) dX3_shear_34 ln_X3_58 ok_X3_stress (Nat.le_of_ble_eq_true rfl) (by decide) (by first | assumption | exact (mj_upn (by omega)).trans (by assumption) | exact (mj_upn (by omega)).trans ((mj_upn (by omega)).trans (by assumption)) | exact (mj_upn (by omega)).trans ((mj_upn (by omega)).trans ((mj_upn (by omega)).trans (by assumption)))) rfl rfl (s_stress hL2 hS2 (l := l) (by omega)) (fun r_34 h1 hq => ?_)
      obtain ⟨rfl, rfl⟩ := hq
      refine mj_istore (i := 6) (q := 39) dX3_shear_37 rfl (by decide) rfl ?_
      dsimp only [List.set]
      refine mj_iload (i := 6) (q := 41) dX3_shear_39 rfl rfl ?_
      refine mj_if_le (tgt := 56) (q := 44) dX3_shear_41 (by decide) rfl (fun c_41 => ?_) (fun c_41 => ?_)
      · refine mj_iload (i := 4) (q := 58) dX3_shear_56 rfl rfl ?_
        refine mj_aload_n (i := 0) (q := 59) dX3_shear_58 rfl rfl rfl ?_
        refine mj_getr (q := 62) dX3_shear_59 fl_X3_9 rfl rfl (by first | assumption | exact (mj_upn (by omega)).trans (by assumption) | exact (mj_upn (by omega)).trans ((mj_upn (by omega)).trans (by assumption)) | exact (mj_upn (by omega)).trans ((mj_upn (by omega)).trans ((mj_upn (by omega)).trans (by assumption)))) (by first | assumption | exact (mj_upn (by omega)).trans (by assumption) | exact (mj_upn (by omega)).trans ((mj_upn (by omega)).trans (by assumption)) | exact (mj_upn (by omega)).trans ((mj_upn (by omega)).trans ((mj_upn (by omega)).trans (by assumption)))) ?_
        refine mj_iload (i := 5) (q := 64) dX3_shear_62 rfl rfl ?_
        refine mj_ialdn (q := 65) dX3_shear_64 rfl (by first | assumption | exact (mj_upn (by omega)).trans (by assumption) | exact (mj_upn (by omega)).trans ((mj_upn (by omega)).trans (by assumption)) | exact (mj_upn (by omega)).trans ((mj_upn (by omega)).trans ((mj_upn (by omega)).trans (by assumption)))) (by omega) ?_
        refine mj_top (b4 l (by omega)) ?_
        refine mj_iadd (q := 66) dX3_shear_65 rfl ?_
        refine mj_istore (i := 4) (q := 68) dX3_shear_66 rfl (by decide) rfl ?_
        dsimp only [List.set]
        refine mj_iinc (i := 5) (q := 71) dX3_shear_68 rfl rfl (by decide) rfl ?_
        dsimp only [List.set]
        refine mj_goto (q := 23) dX3_shear_71 (by decide) ?_
        rw [nI_dec]
        refine ih _ _ _ _ (by omega) ?_
        first | exact he.trans (if_pos ⟨Int32.not_le.mp c_41, Int32.not_lt.mp c_47⟩) | exact he.trans (if_neg (fun z => absurd z.1 (Int32.not_lt.mpr c_41))) | exact he.trans (if_neg (fun z => absurd c_47 (Int32.not_lt.mpr z.2)))
      · refine mj_iload (i := 6) (q := 46) dX3_shear_44 rfl rfl ?_
        refine mj_iload_n (i := 3) (q := 47) dX3_shear_46 rfl rfl rfl ?_
        refine mj_icmp_lt (tgt := 56) (q := 50) dX3_shear_47 (by decide) rfl (fun c_47 => ?_) (fun c_47 => ?_)
        · refine mj_iload (i := 4) (q := 58) dX3_shear_56 rfl rfl ?_
          refine mj_aload_n (i := 0) (q := 59) dX3_shear_58 rfl rfl rfl ?_
          refine mj_getr (q := 62) dX3_shear_59 fl_X3_9 rfl rfl (by first | assumption | exact (mj_upn (by omega)).trans (by assumption) | exact (mj_upn (by omega)).trans ((mj_upn (by omega)).trans (by assumption)) | exact (mj_upn (by omega)).trans ((mj_upn (by omega)).trans ((mj_upn (by omega)).trans (by assumption)))) (by first | assumption | exact (mj_upn (by omega)).trans (by assumption) | exact (mj_upn (by omega)).trans ((mj_upn (by omega)).trans (by assumption)) | exact (mj_upn (by omega)).trans ((mj_upn (by omega)).trans ((mj_upn (by omega)).trans (by assumption)))) ?_
          refine mj_iload (i := 5) (q := 64) dX3_shear_62 rfl rfl ?_
          refine mj_ialdn (q := 65) dX3_shear_64 rfl (by first | assumption | exact (mj_upn (by omega)).trans (by assumption) | exact (mj_upn (by omega)).trans ((mj_upn (by omega)).trans (by assumption)) | exact (mj_upn (by omega)).trans ((mj_upn (by omega)).trans ((mj_upn (by omega)).trans (by assumption)))) (by omega) ?_
          refine mj_top (b4 l (by omega)) ?_
          refine mj_iadd (q := 66) dX3_shear_65 rfl ?_
          refine mj_istore (i := 4) (q := 68) dX3_shear_66 rfl (by decide) rfl ?_
          dsimp only [List.set]
          refine mj_iinc (i := 5) (q := 71) dX3_shear_68 rfl rfl (by decide) rfl ?_
          dsimp only [List.set]
          refine mj_goto (q := 23) dX3_shear_71 (by decide) ?_
          rw [nI_dec]
          refine ih _ _ _ _ (by omega) ?_
          first | exact he.trans (if_pos ⟨Int32.not_le.mp c_41, Int32.not_lt.mp c_47⟩) | exact he.trans (if_neg (fun z => absurd z.1 (Int32.not_lt.mpr c_41))) | exact he.trans (if_neg (fun z => absurd c_47 (Int32.not_lt.mpr z.2)))
        · refine mj_iload (i := 6) (q := 52) dX3_shear_50 rfl rfl ?_
          refine mj_istore_n (i := 3) (q := 53) dX3_shear_52 rfl rfl (by decide) rfl ?_
          dsimp only [List.set]
          refine mj_iload (i := 5) (q := 55) dX3_shear_53 rfl rfl ?_
          refine mj_istore_n (i := 2) (q := 56) dX3_shear_55 rfl rfl (by decide) rfl ?_
          dsimp only [List.set]
          refine mj_iload (i := 4) (q := 58) dX3_shear_56 rfl rfl ?_
          refine mj_aload_n (i := 0) (q := 59) dX3_shear_58 rfl rfl rfl ?_
          refine mj_getr (q := 62) dX3_shear_59 fl_X3_9 rfl rfl (by first | assumption | exact (mj_upn (by omega)).trans (by assumption) | exact (mj_upn (by omega)).trans ((mj_upn (by omega)).trans (by assumption)) | exact (mj_upn (by omega)).trans ((mj_upn (by omega)).trans ((mj_upn (by omega)).trans (by assumption)))) (by first | assumption | exact (mj_upn (by omega)).trans (by assumption) | exact (mj_upn (by omega)).trans ((mj_upn (by omega)).trans (by assumption)) | exact (mj_upn (by omega)).trans ((mj_upn (by omega)).trans ((mj_upn (by omega)).trans (by assumption)))) ?_
          refine mj_iload (i := 5) (q := 64) dX3_shear_62 rfl rfl ?_
          refine mj_ialdn (q := 65) dX3_shear_64 rfl (by first | assumption | exact (mj_upn (by omega)).trans (by assumption) | exact (mj_upn (by omega)).trans ((mj_upn (by omega)).trans (by assumption)) | exact (mj_upn (by omega)).trans ((mj_upn (by omega)).trans ((mj_upn (by omega)).trans (by assumption)))) (by omega) ?_
          refine mj_top (b4 l (by omega)) ?_
          refine mj_iadd (q := 66) dX3_shear_65 rfl ?_
          refine mj_istore (i := 4) (q := 68) dX3_shear_66 rfl (by decide) rfl ?_
          dsimp only [List.set]
          refine mj_iinc (i := 5) (q := 71) dX3_shear_68 rfl rfl (by decide) rfl ?_
          dsimp only [List.set]
          refine mj_goto (q := 23) dX3_shear_71 (by decide) ?_
          rw [nI_dec]
          refine ih _ _ _ _ (by omega) ?_
          first | exact he.trans (if_pos ⟨Int32.not_le.mp c_41, Int32.not_lt.mp c_47⟩) | exact he.trans (if_neg (fun z => absurd z.1 (Int32.not_lt.mpr c_41))) | exact he.trans (if_neg (fun z => absurd c_47 (Int32.not_lt.mpr z.2)))
  refine mj_entry (by refine ⟨by decide +kernel, by decide, rfl, Nat.le_of_ble_eq_true rfl⟩) ?_
  show mj_W _ _ _ _ _ 0 [.ref s, .int slope, .null, .null, .null, .null, .null] [] _
  refine mj_iload_n (i := 1) (q := 1) dX3_shear_0 rfl rfl rfl ?_
  refine mj_num2 (v := 25) (q := 3) (by decide) dX3_shear_1 rfl ?_
  refine mj_icmp_ge (tgt := 8) (q := 6) dX3_shear_3 (by decide) rfl (fun c_3 => ?_) (fun c_3 => ?_)
  · refine mj_num1 (v := (-1)) (q := 9) rfl dX3_shear_8 rfl ?_
    refine mj_istore_n (i := 2) (q := 10) dX3_shear_9 rfl rfl (by decide) rfl ?_
    dsimp only [List.set]
    refine mj_num1 (v := 0) (q := 11) rfl dX3_shear_10 rfl ?_
    refine mj_istore_n (i := 3) (q := 12) dX3_shear_11 rfl rfl (by decide) rfl ?_
    dsimp only [List.set]
    refine mj_num1 (v := 0) (q := 13) rfl dX3_shear_12 rfl ?_
    refine mj_istore (i := 4) (q := 15) dX3_shear_13 rfl (by decide) rfl ?_
    dsimp only [List.set]
    refine mj_aload_n (i := 0) (q := 16) dX3_shear_15 rfl rfl rfl ?_
    refine mj_getfv (q := 19) dX3_shear_16 fl_X3_27 rfl rfl (by first | assumption | exact (mj_upn (by omega)).trans (by assumption) | exact (mj_upn (by omega)).trans ((mj_upn (by omega)).trans (by assumption)) | exact (mj_upn (by omega)).trans ((mj_upn (by omega)).trans ((mj_upn (by omega)).trans (by assumption)))) (by first | assumption | exact (mj_upn (by omega)).trans (by assumption) | exact (mj_upn (by omega)).trans ((mj_upn (by omega)).trans (by assumption)) | exact (mj_upn (by omega)).trans ((mj_upn (by omega)).trans ((mj_upn (by omega)).trans (by assumption)))) ?_
    refine mj_num1 (v := 1) (q := 20) rfl dX3_shear_19 rfl ?_
    refine mj_isub (q := 21) dX3_shear_20 rfl ?_
    refine mj_istore (i := 5) (q := 23) dX3_shear_21 rfl (by decide) rfl ?_
    dsimp only [List.set]
    exact key c_3 c _ _ _ _ (Nat.le_refl c) (by simp only [vShear]; rw [if_pos c_3])
  · refine mj_num1 (v := (-1)) (q := 7) rfl dX3_shear_6 rfl ?_
    exact mj_ireturn dX3_shear_7 ⟨_, rfl, rfl⟩ ⟨_, rfl, ⟨rfl, by simp only [vShear]; rw [if_neg c_3]⟩⟩
theorem vShearL_rng (slope : Int32) (x : sV) : ∀ (l : Nat) (sh gr ab : Int32), l ≤ x.1 → (sh = -1 ∨ ∃ k, k < x.1 ∧ sh = nI k) → (vShearL slope x l sh gr ab = -1 ∨ ∃ k, k < x.1 ∧ vShearL slope x l sh gr ab = nI k)
  | 0, sh, gr, ab, _, h => h
  | l + 1, sh, gr, ab, hl, h => by
    rw [vShearL]
    split
    · exact vShearL_rng slope x l _ _ _ (by omega) (Or.inr ⟨l, by omega, rfl⟩)
    · exact vShearL_rng slope x l _ _ _ (by omega) h
theorem vShear_rng (slope : Int32) (x : sV) : vShear slope x = -1 ∨ ∃ k, k < x.1 ∧ vShear slope x = nI k := by
  unfold vShear
  split
  · exact vShearL_rng slope x _ _ _ _ (Nat.le_refl _) (Or.inl rfl)
  · exact Or.inl rfl
set_option maxHeartbeats 4000000 in
set_option maxRecDepth 100000 in
theorem s_risk {d s : Nat} {slope : Int32} {n : Nat} {K : Nat → mj_K} {f : Nat → Nat → Int32} {g : Nat → Nat → Option Nat} {x : sV} (hL : LSn K g s) (hS : SN f s x) : mj_Ci m_X3_risk (d + 2) [.ref s, .int slope] (n, K, f, g) (fun r h1 => h1 = (n, K, f, g) ∧ r = vRisk slope x) := by
  have hL2 := hL
  have hx8 : x.1 ≤ 8 := hS.1
  obtain ⟨k0, k1, k2, k3, g0, g1, g2⟩ := hL
  refine mj_entry (by refine ⟨by decide +kernel, by decide, rfl, Nat.le_of_ble_eq_true rfl⟩) ?_
  show mj_W _ _ _ _ _ 0 [.ref s, .int slope, .null] [] _
  refine mj_aload_n (i := 0) (q := 1) dX3_risk_0 rfl rfl rfl ?_
  refine mj_iload_n (i := 1) (q := 2) dX3_risk_1 rfl rfl rfl ?_
  refine mj_cV1i (K := m_X3_shear) (q := 5) dX3_risk_2 ln_X3_62 ok_X3_shear (Nat.le_of_ble_eq_true rfl) (by decide) (by first | assumption | exact (mj_upn (by omega)).trans (by assumption) | exact (mj_upn (by omega)).trans ((mj_upn (by omega)).trans (by assumption)) | exact (mj_upn (by omega)).trans ((mj_upn (by omega)).trans ((mj_upn (by omega)).trans (by assumption)))) rfl rfl (s_shear hL2 hS) (fun r_2 h1 hq => ?_)
  obtain ⟨rfl, rfl⟩ := hq
  have hr := vShear_rng slope x
  refine mj_istore_n (i := 2) (q := 6) dX3_risk_5 rfl rfl (by decide) rfl ?_
  dsimp only [List.set]
  refine mj_iload_n (i := 2) (q := 7) dX3_risk_6 rfl rfl rfl ?_
  refine mj_num1 (v := (-1)) (q := 8) rfl dX3_risk_7 rfl ?_
  refine mj_icmp_ne (tgt := 15) (q := 11) dX3_risk_8 (by decide) rfl (fun c_8 => ?_) (fun c_8 => ?_)
  · obtain ⟨k, hk, e⟩ := hr.resolve_left c_8
    have e1 : (vShear slope x).toNatClampNeg = k := by rw [e, nI_clamp (by omega)]
    have e2 : vRisk slope x = vMin (vStress k (vDepth (k + 1) x) slope x) 999 := by unfold vRisk; rw [if_neg c_8, e1]
    rw [e]
    refine mj_aload_n (i := 0) (q := 16) dX3_risk_15 rfl rfl rfl ?_
    refine mj_iload_n (i := 2) (q := 17) dX3_risk_16 rfl rfl rfl ?_
    refine mj_aload_n (i := 0) (q := 18) dX3_risk_17 rfl rfl rfl ?_
    refine mj_iload_n (i := 2) (q := 19) dX3_risk_18 rfl rfl rfl ?_
    refine mj_num1 (v := 1) (q := 20) rfl dX3_risk_19 rfl ?_
    refine mj_iadd (q := 21) dX3_risk_20 rfl ?_
    refine mj_top (nI_1 k) ?_
    refine mj_cV1i (K := m_X3_depthFrom) (q := 24) dX3_risk_21 ln_X3_38 ok_X3_depthFrom (Nat.le_of_ble_eq_true rfl) (by decide) (by first | assumption | exact (mj_upn (by omega)).trans (by assumption) | exact (mj_upn (by omega)).trans ((mj_upn (by omega)).trans (by assumption)) | exact (mj_upn (by omega)).trans ((mj_upn (by omega)).trans ((mj_upn (by omega)).trans (by assumption)))) rfl rfl (s_depthFrom hL2 hS (lo := k + 1) (by omega)) (fun r_21 h1 hq => ?_)
    obtain ⟨rfl, rfl⟩ := hq
    refine mj_iload_n (i := 1) (q := 25) dX3_risk_24 rfl rfl rfl ?_
    refine mj_cV3i (K := m_X3_stress) (q := 28) dX3_risk_25 ln_X3_58 ok_X3_stress (Nat.le_of_ble_eq_true rfl) (by decide) (by first | assumption | exact (mj_upn (by omega)).trans (by assumption) | exact (mj_upn (by omega)).trans ((mj_upn (by omega)).trans (by assumption)) | exact (mj_upn (by omega)).trans ((mj_upn (by omega)).trans ((mj_upn (by omega)).trans (by assumption)))) rfl rfl (s_stress hL2 hS (l := k) (by omega)) (fun r_25 h1 hq => ?_)
    obtain ⟨rfl, rfl⟩ := hq
    refine mj_num3 (v := 999) (q := 31) (by decide) dX3_risk_28 rfl ?_
    refine mj_mmin (q := 34) dX3_risk_31 ln_X3_48 (Nat.le_of_ble_eq_true rfl) rfl ?_
    first | exact mj_ireturn dX3_risk_34 ⟨_, rfl, rfl⟩ ⟨_, rfl, ⟨rfl, by unfold vRisk; rw [if_pos c_8]⟩⟩ | exact mj_ireturn dX3_risk_34 ⟨_, rfl, rfl⟩ ⟨_, rfl, ⟨rfl, by rw [e2]; rfl⟩⟩
  · refine mj_num1 (v := 0) (q := 12) rfl dX3_risk_11 rfl ?_
    refine mj_goto (q := 34) dX3_risk_12 (by decide) ?_
    first | exact mj_ireturn dX3_risk_34 ⟨_, rfl, rfl⟩ ⟨_, rfl, ⟨rfl, by unfold vRisk; rw [if_pos c_8]⟩⟩ | exact mj_ireturn dX3_risk_34 ⟨_, rfl, rfl⟩ ⟨_, rfl, ⟨rfl, by rw [e2]; rfl⟩⟩
set_option maxHeartbeats 4000000 in
set_option maxRecDepth 100000 in
theorem s_dropFrom {d s : Nat} {lo : Int32} {n : Nat} {K : Nat → mj_K} {f : Nat → Nat → Int32} {g : Nat → Nat → Option Nat} {x : sV} (hL : LSn K g s) (hS : SN f s x) (hlo : lo = -1 ∨ ∃ k, k < x.1 ∧ lo = nI k) : mj_Cv m_X3_dropFrom d [.ref s, .int lo] (n, K, f, g) (fun h1 => ∃ f1, h1 = (n, K, f1, g) ∧ SN f1 s (vDrop lo x) ∧ mj_Fr s (s + 4) f f1) := by
  obtain ⟨k0, k1, k2, k3, g0, g1, g2⟩ := hL
  obtain ⟨c, w, sn, D, H, T⟩ := x
  obtain ⟨b0, b1, b2, b3, b4, b5, b6, b7, b8⟩ := hS
  dsimp only at b0 b1 b2 b3 b4 b5 b6 b7 b8
  rcases hlo with rfl | ⟨k, hk, rfl⟩
  · refine mj_entry (by refine ⟨by decide +kernel, by decide, rfl, Nat.le_of_ble_eq_true rfl⟩) ?_
    show mj_W _ _ _ _ _ 0 [.ref s, .int (-1)] [] _
    refine mj_iload_n (i := 1) (q := 1) dX3_dropFrom_0 rfl rfl rfl ?_
    refine mj_if_lt (tgt := 22) (q := 4) dX3_dropFrom_1 (by decide) rfl (fun c_1 => ?_) (fun c_1 => absurd (by decide) c_1)
    exact mj_return dX3_dropFrom_22 rfl ⟨rfl, ⟨_, rfl, by refine ⟨by first | omega | (simp only [vDrop]; omega) | (simp [vDrop, b0, b1, b2, b3, b4, b5, b6, b7, b8] <;> omega), ?_, ?_, ?_, ?_, ?_, ?_, ?_, ?_⟩ <;> first | (intro k hk; simp [mj_up, upd, vDrop, b0, b1, b2, b3, b4, b5, b6, b7, b8, hk]; done) | (simp [mj_up, upd, vDrop, b0, b1, b2, b3, b4, b5, b6, b7, b8]; done), by repeat (first | exact mj_Fr.rf | exact (by assumption) | refine mj_Fr.up ?_ (by omega) (by omega))⟩⟩
  · have hk : k < c := hk
    have hne : ¬ nI k = -1 := fun z => by have := congrArg Int32.toInt z; rw [nI_toInt (by omega)] at this; have h2 : (-1 : Int32).toInt = -1 := by decide
                                          omega
    have hkc : (nI k).toNatClampNeg = k := nI_clamp (by omega)
    refine mj_entry (by refine ⟨by decide +kernel, by decide, rfl, Nat.le_of_ble_eq_true rfl⟩) ?_
    show mj_W _ _ _ _ _ 0 [.ref s, .int (nI k)] [] _
    refine mj_iload_n (i := 1) (q := 1) dX3_dropFrom_0 rfl rfl rfl ?_
    refine mj_if_lt (tgt := 22) (q := 4) dX3_dropFrom_1 (by decide) rfl (fun c_1 => absurd c_1 (nI_pos (by omega))) (fun c_1 => ?_)
    refine mj_iload_n (i := 1) (q := 5) dX3_dropFrom_4 rfl rfl rfl ?_
    refine mj_aload_n (i := 0) (q := 6) dX3_dropFrom_5 rfl rfl rfl ?_
    refine mj_getfv (q := 9) dX3_dropFrom_6 fl_X3_27 rfl rfl (by first | assumption | exact (mj_upn (by omega)).trans (by assumption) | exact (mj_upn (by omega)).trans ((mj_upn (by omega)).trans (by assumption)) | exact (mj_upn (by omega)).trans ((mj_upn (by omega)).trans ((mj_upn (by omega)).trans (by assumption)))) (by first | assumption | exact (mj_upn (by omega)).trans (by assumption) | exact (mj_upn (by omega)).trans ((mj_upn (by omega)).trans (by assumption)) | exact (mj_upn (by omega)).trans ((mj_upn (by omega)).trans ((mj_upn (by omega)).trans (by assumption)))) ?_
    refine mj_icmp_ge (tgt := 22) (q := 12) dX3_dropFrom_9 (by decide) rfl (fun c_9 => absurd c_9 (nI_ge hk (by omega))) (fun c_9 => ?_)
    refine mj_aload_n (i := 0) (q := 13) dX3_dropFrom_12 rfl rfl rfl ?_
    refine mj_iload_n (i := 1) (q := 14) dX3_dropFrom_13 rfl rfl rfl ?_
    refine mj_putf (q := 17) dX3_dropFrom_14 fl_X3_27 rfl rfl (by first | assumption | exact (mj_upn (by omega)).trans (by assumption) | exact (mj_upn (by omega)).trans ((mj_upn (by omega)).trans (by assumption)) | exact (mj_upn (by omega)).trans ((mj_upn (by omega)).trans ((mj_upn (by omega)).trans (by assumption)))) rfl rfl rfl ?_
    refine mj_aload_n (i := 0) (q := 18) dX3_dropFrom_17 rfl rfl rfl ?_
    refine mj_num1 (v := 0) (q := 19) rfl dX3_dropFrom_18 rfl ?_
    refine mj_putf (q := 22) dX3_dropFrom_19 fl_X3_31 rfl rfl (by first | assumption | exact (mj_upn (by omega)).trans (by assumption) | exact (mj_upn (by omega)).trans ((mj_upn (by omega)).trans (by assumption)) | exact (mj_upn (by omega)).trans ((mj_upn (by omega)).trans ((mj_upn (by omega)).trans (by assumption)))) rfl rfl rfl ?_
    exact mj_return dX3_dropFrom_22 rfl ⟨rfl, ⟨_, rfl, by refine ⟨by first | omega | (simp only [vDrop]; omega) | (simp [vDrop, b0, b1, b2, b3, b4, b5, b6, b7, b8, hne, hkc] <;> omega), ?_, ?_, ?_, ?_, ?_, ?_, ?_, ?_⟩ <;> first | (intro k hk; simp [mj_up, upd, vDrop, b0, b1, b2, b3, b4, b5, b6, b7, b8, hne, hkc, hk]; done) | (simp [mj_up, upd, vDrop, b0, b1, b2, b3, b4, b5, b6, b7, b8, hne, hkc]; done), by repeat (first | exact mj_Fr.rf | exact (by assumption) | refine mj_Fr.up ?_ (by omega) (by omega))⟩⟩
set_option maxHeartbeats 4000000 in
set_option maxRecDepth 100000 in
theorem s_settle {d s : Nat} {noon : Int32} {n : Nat} {K : Nat → mj_K} {f : Nat → Nat → Int32} {g : Nat → Nat → Option Nat} {x : sV} (hL : LSn K g s) (hS : SN f s x) : mj_Cv m_X3_settle (d + 1) [.ref s, .int noon] (n, K, f, g) (fun h1 => ∃ f1, h1 = (n, K, f1, g) ∧ SN f1 s (vSettle noon x) ∧ mj_Fr s (s + 4) f f1) := by
  obtain ⟨k0, k1, k2, k3, g0, g1, g2⟩ := hL
  obtain ⟨c, w, sn, D, H, T⟩ := x
  obtain ⟨b0, b1, b2, b3, b4, b5, b6, b7, b8⟩ := hS
  dsimp only at b0 b1 b2 b3 b4 b5 b6 b7 b8
  have key : ∀ (j l : Nat) (f1 : Nat → Nat → Int32) (v3 : Value), l + j = c → f1 s = f s → f1 (s + 1) = f (s + 1) → f1 (s + 3) = f (s + 3) → mj_Fr s (s + 4) f f1 → (∀ k, k < 8 → f1 (s + 2) k = if k < l ∧ (T k = 0 ∨ T k = 3 ∨ T k = 1 ∧ ¬ noon = 0) then vMin (H k + 1) 100 else H k) → mj_W m_X3_settle (d + 1) 0 0 (fun v h1 => v = none ∧ ∃ f2, h1 = (n, K, f2, g) ∧ SN f2 s (vSettle noon (c, w, sn, D, H, T)) ∧ mj_Fr s (s + 4) f f2) 2 [.ref s, .int noon, .int (nI l), v3] [] (n, K, f1, g) := by
    intro j
    induction j with
    | zero =>
      intro l f1 v3 hl e0 e1 e3 hF e5
      have hlc : l = c := by omega
      subst hlc
      have b1 : f1 s 3 = nI l := by rw [e0]; exact b1
      refine mj_iload_n (i := 2) (q := 3) dX3_settle_2 rfl rfl rfl ?_
      refine mj_aload_n (i := 0) (q := 4) dX3_settle_3 rfl rfl rfl ?_
      refine mj_getfv (q := 7) dX3_settle_4 fl_X3_27 rfl rfl (by first | assumption | exact (mj_upn (by omega)).trans (by assumption) | exact (mj_upn (by omega)).trans ((mj_upn (by omega)).trans (by assumption)) | exact (mj_upn (by omega)).trans ((mj_upn (by omega)).trans ((mj_upn (by omega)).trans (by assumption)))) (by first | assumption | exact (mj_upn (by omega)).trans (by assumption) | exact (mj_upn (by omega)).trans ((mj_upn (by omega)).trans (by assumption)) | exact (mj_upn (by omega)).trans ((mj_upn (by omega)).trans ((mj_upn (by omega)).trans (by assumption)))) ?_
      refine mj_icmp_ge (tgt := 78) (q := 10) dX3_settle_7 (by decide) rfl (fun c_7 => ?_) (fun c_7 => absurd (Int32.le_refl _) c_7)
      exact mj_return dX3_settle_78 rfl ⟨rfl, ⟨_, rfl, by refine ⟨b0, b1, by rw [e0]; exact b2, by rw [e0]; exact b3, fun k hk => by rw [e1]; exact b4 k hk, fun k hk => e5 k hk, fun k hk => by rw [e3]; exact b6 k hk, b7, b8⟩, hF⟩⟩
    | succ j ih =>
      intro l f1 v3 hl e0 e1 e3 hF e5
      have b1 : f1 s 3 = nI c := by rw [e0]; exact b1
      have bT : f1 (s + 3) l = T l := by rw [e3]; exact b6 l (by omega)
      have bH : f1 (s + 2) l = H l := by rw [e5 l (by omega), if_neg (fun z => absurd z.1 (Nat.lt_irrefl l))]
      have skip : ∀ (v3 : Value), ¬ (T l = 0 ∨ T l = 3 ∨ T l = 1 ∧ ¬ noon = 0) → mj_W m_X3_settle (d + 1) 0 0 (fun v h1 => v = none ∧ ∃ f2, h1 = (n, K, f2, g) ∧ SN f2 s (vSettle noon (c, w, sn, D, H, T)) ∧ mj_Fr s (s + 4) f f2) 72 [.ref s, .int noon, .int (nI l), v3] [] (n, K, f1, g) := by
        intro v3 hs
        refine mj_iinc (i := 2) (q := 75) dX3_settle_72 rfl rfl (by decide) rfl ?_
        dsimp only [List.set]
        refine mj_goto (q := 2) dX3_settle_75 (by decide) ?_
        rw [show nI l + Int32.ofInt 1 = nI (l + 1) from nI_1 l]
        refine ih (l + 1) _ _ (by omega) e0 e1 e3 hF ?_
        intro k hk
        rw [e5 k hk]
        by_cases hkl : k = l
        · subst hkl
          rw [if_neg (fun z => absurd z.1 (Nat.lt_irrefl k)), if_neg (fun z => hs z.2)]
        · have : k < l + 1 ↔ k < l := by omega
          simp only [this]
      have sets : ∀ (v3 : Value), (T l = 0 ∨ T l = 3 ∨ T l = 1 ∧ ¬ noon = 0) → mj_W m_X3_settle (d + 1) 0 0 (fun v h1 => v = none ∧ ∃ f2, h1 = (n, K, f2, g) ∧ SN f2 s (vSettle noon (c, w, sn, D, H, T)) ∧ mj_Fr s (s + 4) f f2) 53 [.ref s, .int noon, .int (nI l), v3] [] (n, K, f1, g) := by
        intro v3 hs
        refine mj_aload_n (i := 0) (q := 54) dX3_settle_53 rfl rfl rfl ?_
        refine mj_getr (q := 57) dX3_settle_54 fl_X3_15 rfl rfl (by first | assumption | exact (mj_upn (by omega)).trans (by assumption) | exact (mj_upn (by omega)).trans ((mj_upn (by omega)).trans (by assumption)) | exact (mj_upn (by omega)).trans ((mj_upn (by omega)).trans ((mj_upn (by omega)).trans (by assumption)))) (by first | assumption | exact (mj_upn (by omega)).trans (by assumption) | exact (mj_upn (by omega)).trans ((mj_upn (by omega)).trans (by assumption)) | exact (mj_upn (by omega)).trans ((mj_upn (by omega)).trans ((mj_upn (by omega)).trans (by assumption)))) ?_
        refine mj_iload_n (i := 2) (q := 58) dX3_settle_57 rfl rfl rfl ?_
        refine mj_aload_n (i := 0) (q := 59) dX3_settle_58 rfl rfl rfl ?_
        refine mj_getr (q := 62) dX3_settle_59 fl_X3_15 rfl rfl (by first | assumption | exact (mj_upn (by omega)).trans (by assumption) | exact (mj_upn (by omega)).trans ((mj_upn (by omega)).trans (by assumption)) | exact (mj_upn (by omega)).trans ((mj_upn (by omega)).trans ((mj_upn (by omega)).trans (by assumption)))) (by first | assumption | exact (mj_upn (by omega)).trans (by assumption) | exact (mj_upn (by omega)).trans ((mj_upn (by omega)).trans (by assumption)) | exact (mj_upn (by omega)).trans ((mj_upn (by omega)).trans ((mj_upn (by omega)).trans (by assumption)))) ?_
        refine mj_iload_n (i := 2) (q := 63) dX3_settle_62 rfl rfl rfl ?_
        refine mj_ialdn (q := 64) dX3_settle_63 rfl (by first | assumption | exact (mj_upn (by omega)).trans (by assumption) | exact (mj_upn (by omega)).trans ((mj_upn (by omega)).trans (by assumption)) | exact (mj_upn (by omega)).trans ((mj_upn (by omega)).trans ((mj_upn (by omega)).trans (by assumption)))) (by omega) ?_
        refine mj_top bH ?_
        refine mj_num1 (v := 1) (q := 65) rfl dX3_settle_64 rfl ?_
        refine mj_iadd (q := 66) dX3_settle_65 rfl ?_
        refine mj_num2 (v := 100) (q := 68) (by decide) dX3_settle_66 rfl ?_
        refine mj_mmin (q := 71) dX3_settle_68 ln_X3_48 (Nat.le_of_ble_eq_true rfl) rfl ?_
        refine mj_iastn (q := 72) dX3_settle_71 rfl (by first | assumption | exact (mj_upn (by omega)).trans (by assumption) | exact (mj_upn (by omega)).trans ((mj_upn (by omega)).trans (by assumption)) | exact (mj_upn (by omega)).trans ((mj_upn (by omega)).trans ((mj_upn (by omega)).trans (by assumption)))) (by omega) ?_
        refine mj_iinc (i := 2) (q := 75) dX3_settle_72 rfl rfl (by decide) rfl ?_
        dsimp only [List.set]
        refine mj_goto (q := 2) dX3_settle_75 (by decide) ?_
        rw [show nI l + Int32.ofInt 1 = nI (l + 1) from nI_1 l]
        refine ih (l + 1) _ _ (by omega) (by rw [mj_upr (by omega)]; exact e0) (by rw [mj_upr (by omega)]; exact e1) (by rw [mj_upr (by omega)]; exact e3) (mj_Fr.up hF (by omega) (by omega)) ?_
        intro k hk
        by_cases hkl : k = l
        · subst hkl
          rw [if_pos (show k < k + 1 ∧ (T k = 0 ∨ T k = 3 ∨ T k = 1 ∧ ¬ noon = 0) from ⟨by omega, hs⟩)]
          simp [mj_up, vMin]
        · have : k < l + 1 ↔ k < l := by omega
          simp only [this]
          rw [← e5 k hk]
          simp [mj_up, hkl]
      refine mj_iload_n (i := 2) (q := 3) dX3_settle_2 rfl rfl rfl ?_
      refine mj_aload_n (i := 0) (q := 4) dX3_settle_3 rfl rfl rfl ?_
      refine mj_getfv (q := 7) dX3_settle_4 fl_X3_27 rfl rfl (by first | assumption | exact (mj_upn (by omega)).trans (by assumption) | exact (mj_upn (by omega)).trans ((mj_upn (by omega)).trans (by assumption)) | exact (mj_upn (by omega)).trans ((mj_upn (by omega)).trans ((mj_upn (by omega)).trans (by assumption)))) (by first | assumption | exact (mj_upn (by omega)).trans (by assumption) | exact (mj_upn (by omega)).trans ((mj_upn (by omega)).trans (by assumption)) | exact (mj_upn (by omega)).trans ((mj_upn (by omega)).trans ((mj_upn (by omega)).trans (by assumption)))) ?_
      refine mj_icmp_ge (tgt := 78) (q := 10) dX3_settle_7 (by decide) rfl (fun c_7 => absurd c_7 (nI_ge (a := l) (b := c) (by omega) (by omega))) (fun c_7 => ?_)
      refine mj_aload_n (i := 0) (q := 11) dX3_settle_10 rfl rfl rfl ?_
      refine mj_getr (q := 14) dX3_settle_11 fl_X3_18 rfl rfl (by first | assumption | exact (mj_upn (by omega)).trans (by assumption) | exact (mj_upn (by omega)).trans ((mj_upn (by omega)).trans (by assumption)) | exact (mj_upn (by omega)).trans ((mj_upn (by omega)).trans ((mj_upn (by omega)).trans (by assumption)))) (by first | assumption | exact (mj_upn (by omega)).trans (by assumption) | exact (mj_upn (by omega)).trans ((mj_upn (by omega)).trans (by assumption)) | exact (mj_upn (by omega)).trans ((mj_upn (by omega)).trans ((mj_upn (by omega)).trans (by assumption)))) ?_
      refine mj_iload_n (i := 2) (q := 15) dX3_settle_14 rfl rfl rfl ?_
      refine mj_ialdn (q := 16) dX3_settle_15 rfl (by first | assumption | exact (mj_upn (by omega)).trans (by assumption) | exact (mj_upn (by omega)).trans ((mj_upn (by omega)).trans (by assumption)) | exact (mj_upn (by omega)).trans ((mj_upn (by omega)).trans ((mj_upn (by omega)).trans (by assumption)))) (by omega) ?_
      refine mj_top bT ?_
      refine mj_if_eq (tgt := 43) (q := 19) dX3_settle_16 (by decide) rfl (fun c_16 => ?_) (fun c_16 => ?_)
      · refine mj_num1 (v := 1) (q := 44) rfl dX3_settle_43 rfl ?_
        refine mj_goto (q := 48) dX3_settle_44 (by decide) ?_
        refine mj_istore_n (i := 3) (q := 49) dX3_settle_48 rfl rfl (by decide) rfl ?_
        dsimp only [List.set]
        refine mj_iload_n (i := 3) (q := 50) dX3_settle_49 rfl rfl rfl ?_
        refine mj_if_eq (tgt := 72) (q := 53) dX3_settle_50 (by decide) rfl (fun c_50 => absurd c_50 (by decide)) (fun c_50 => ?_)
        refine sets _ ?_
        first | exact Or.inl c_16 | exact Or.inr (Or.inl c_26) | exact Or.inr (Or.inr ⟨c_36, c_40⟩)
      · refine mj_aload_n (i := 0) (q := 20) dX3_settle_19 rfl rfl rfl ?_
        refine mj_getr (q := 23) dX3_settle_20 fl_X3_18 rfl rfl (by first | assumption | exact (mj_upn (by omega)).trans (by assumption) | exact (mj_upn (by omega)).trans ((mj_upn (by omega)).trans (by assumption)) | exact (mj_upn (by omega)).trans ((mj_upn (by omega)).trans ((mj_upn (by omega)).trans (by assumption)))) (by first | assumption | exact (mj_upn (by omega)).trans (by assumption) | exact (mj_upn (by omega)).trans ((mj_upn (by omega)).trans (by assumption)) | exact (mj_upn (by omega)).trans ((mj_upn (by omega)).trans ((mj_upn (by omega)).trans (by assumption)))) ?_
        refine mj_iload_n (i := 2) (q := 24) dX3_settle_23 rfl rfl rfl ?_
        refine mj_ialdn (q := 25) dX3_settle_24 rfl (by first | assumption | exact (mj_upn (by omega)).trans (by assumption) | exact (mj_upn (by omega)).trans ((mj_upn (by omega)).trans (by assumption)) | exact (mj_upn (by omega)).trans ((mj_upn (by omega)).trans ((mj_upn (by omega)).trans (by assumption)))) (by omega) ?_
        refine mj_top bT ?_
        refine mj_num1 (v := 3) (q := 26) rfl dX3_settle_25 rfl ?_
        refine mj_icmp_eq (tgt := 43) (q := 29) dX3_settle_26 (by decide) rfl (fun c_26 => ?_) (fun c_26 => ?_)
        · refine mj_num1 (v := 1) (q := 44) rfl dX3_settle_43 rfl ?_
          refine mj_goto (q := 48) dX3_settle_44 (by decide) ?_
          refine mj_istore_n (i := 3) (q := 49) dX3_settle_48 rfl rfl (by decide) rfl ?_
          dsimp only [List.set]
          refine mj_iload_n (i := 3) (q := 50) dX3_settle_49 rfl rfl rfl ?_
          refine mj_if_eq (tgt := 72) (q := 53) dX3_settle_50 (by decide) rfl (fun c_50 => absurd c_50 (by decide)) (fun c_50 => ?_)
          refine sets _ ?_
          first | exact Or.inl c_16 | exact Or.inr (Or.inl c_26) | exact Or.inr (Or.inr ⟨c_36, c_40⟩)
        · refine mj_aload_n (i := 0) (q := 30) dX3_settle_29 rfl rfl rfl ?_
          refine mj_getr (q := 33) dX3_settle_30 fl_X3_18 rfl rfl (by first | assumption | exact (mj_upn (by omega)).trans (by assumption) | exact (mj_upn (by omega)).trans ((mj_upn (by omega)).trans (by assumption)) | exact (mj_upn (by omega)).trans ((mj_upn (by omega)).trans ((mj_upn (by omega)).trans (by assumption)))) (by first | assumption | exact (mj_upn (by omega)).trans (by assumption) | exact (mj_upn (by omega)).trans ((mj_upn (by omega)).trans (by assumption)) | exact (mj_upn (by omega)).trans ((mj_upn (by omega)).trans ((mj_upn (by omega)).trans (by assumption)))) ?_
          refine mj_iload_n (i := 2) (q := 34) dX3_settle_33 rfl rfl rfl ?_
          refine mj_ialdn (q := 35) dX3_settle_34 rfl (by first | assumption | exact (mj_upn (by omega)).trans (by assumption) | exact (mj_upn (by omega)).trans ((mj_upn (by omega)).trans (by assumption)) | exact (mj_upn (by omega)).trans ((mj_upn (by omega)).trans ((mj_upn (by omega)).trans (by assumption)))) (by omega) ?_
          refine mj_top bT ?_
          refine mj_num1 (v := 1) (q := 36) rfl dX3_settle_35 rfl ?_
          refine mj_icmp_ne (tgt := 47) (q := 39) dX3_settle_36 (by decide) rfl (fun c_36 => ?_) (fun c_36 => ?_)
          · refine mj_num1 (v := 0) (q := 48) rfl dX3_settle_47 rfl ?_
            refine mj_istore_n (i := 3) (q := 49) dX3_settle_48 rfl rfl (by decide) rfl ?_
            dsimp only [List.set]
            refine mj_iload_n (i := 3) (q := 50) dX3_settle_49 rfl rfl rfl ?_
            refine mj_if_eq (tgt := 72) (q := 53) dX3_settle_50 (by decide) rfl (fun c_50 => ?_) (fun c_50 => absurd rfl c_50)
            refine skip _ ?_
            first | exact (fun z => z.elim c_16 (fun z => z.elim c_26 (fun z => z.2 c_40))) | exact (fun z => z.elim c_16 (fun z => z.elim c_26 (fun z => c_36 z.1)))
          · refine mj_iload_n (i := 1) (q := 40) dX3_settle_39 rfl rfl rfl ?_
            refine mj_if_eq (tgt := 47) (q := 43) dX3_settle_40 (by decide) rfl (fun c_40 => ?_) (fun c_40 => ?_)
            · refine mj_num1 (v := 0) (q := 48) rfl dX3_settle_47 rfl ?_
              refine mj_istore_n (i := 3) (q := 49) dX3_settle_48 rfl rfl (by decide) rfl ?_
              dsimp only [List.set]
              refine mj_iload_n (i := 3) (q := 50) dX3_settle_49 rfl rfl rfl ?_
              refine mj_if_eq (tgt := 72) (q := 53) dX3_settle_50 (by decide) rfl (fun c_50 => ?_) (fun c_50 => absurd rfl c_50)
              refine skip _ ?_
              first | exact (fun z => z.elim c_16 (fun z => z.elim c_26 (fun z => z.2 c_40))) | exact (fun z => z.elim c_16 (fun z => z.elim c_26 (fun z => c_36 z.1)))
            · refine mj_num1 (v := 1) (q := 44) rfl dX3_settle_43 rfl ?_
              refine mj_goto (q := 48) dX3_settle_44 (by decide) ?_
              refine mj_istore_n (i := 3) (q := 49) dX3_settle_48 rfl rfl (by decide) rfl ?_
              dsimp only [List.set]
              refine mj_iload_n (i := 3) (q := 50) dX3_settle_49 rfl rfl rfl ?_
              refine mj_if_eq (tgt := 72) (q := 53) dX3_settle_50 (by decide) rfl (fun c_50 => absurd c_50 (by decide)) (fun c_50 => ?_)
              refine sets _ ?_
              first | exact Or.inl c_16 | exact Or.inr (Or.inl c_26) | exact Or.inr (Or.inr ⟨c_36, c_40⟩)
  refine mj_entry (by refine ⟨by decide +kernel, by decide, rfl, Nat.le_of_ble_eq_true rfl⟩) ?_
  show mj_W _ _ _ _ _ 0 [.ref s, .int noon, .null, .null] [] _
  refine mj_num1 (v := nI 0) (q := 1) (by decide) dX3_settle_0 rfl ?_
  refine mj_istore_n (i := 2) (q := 2) dX3_settle_1 rfl rfl (by decide) rfl ?_
  dsimp only [List.set]
  exact key c 0 f _ (by omega) rfl rfl rfl mj_Fr.rf (fun k hk => by rw [if_neg (fun z => absurd z.1 (Nat.not_lt_zero k))]; exact b5 k hk)
end
section
/-! SNOW, second part: what falls, drifts, freezes, grows weak; become -/
theorem mj_i01 {b : Bool} : (if b = true then (1 : Int32) else 0) = 0 ↔ b = false := by cases b <;> simp
theorem mj_rown {α : Type} {f : Nat → α} {a : Nat} {v : α} {b : Nat} (h : b ≠ a) : mj_row f a v b = f b := by unfold mj_row; rw [if_neg h]
theorem mj_rowe {α : Type} {f : Nat → α} {a : Nat} {v : α} : mj_row f a v a = v := by unfold mj_row; rw [if_pos rfl]
theorem mj_cpy8 {f g : Nat → Int32} {k : Nat} (hk : k < 8) : va_cpy f g (0 : Int32).toNatClampNeg (0 : Int32).toNatClampNeg (8 : Int32).toNatClampNeg k = f k := by
  unfold va_cpy
  have e0 : (0 : Int32).toNatClampNeg = 0 := by decide
  have e8 : (8 : Int32).toNatClampNeg = 8 := by decide
  rw [e0, e8, if_pos ⟨Nat.zero_le k, by omega⟩, Nat.zero_add, Nat.sub_zero]
theorem SN.set5 {f : Nat → Nat → Int32} {s : Nat} {x : sV} {b : Int32} (h : SN f s x) (hb : b = 0 ∨ b = 1) : SN (mj_up f s 5 b) s (vSet b x) := by
  obtain ⟨b0, b1, b2, b3, b4, b5, b6, b7, b8⟩ := h
  refine ⟨b0, ?_, ?_, ?_, ?_, ?_, ?_, b7, hb⟩ <;> first | (intro k hk; simp [mj_up, vSet, b4, b5, b6, hk]; done) | (simp [mj_up, vSet, b1, b2, b3]; done)
theorem SN.wet0 {f : Nat → Nat → Int32} {s : Nat} {x : sV} (h : SN f s x) : SN (mj_up f s 4 0) s (vWet0 x) := by
  obtain ⟨b0, b1, b2, b3, b4, b5, b6, b7, b8⟩ := h
  refine ⟨b0, ?_, ?_, ?_, ?_, ?_, ?_, Or.inl rfl, b8⟩ <;> first | (intro k hk; simp [mj_up, vWet0, b4, b5, b6, hk]; done) | (simp [mj_up, vWet0, b1, b2, b3]; done)

set_option maxHeartbeats 4000000 in
set_option maxRecDepth 100000 in
theorem s_comeDown {d s : Nat} {fall temp : Int32} {n : Nat} {K : Nat → mj_K} {f : Nat → Nat → Int32} {g : Nat → Nat → Option Nat} {x : sV} (hL : LSn K g s) (hS : SN f s x) : mj_Cv m_X3_comeDown (d + 3) [.ref s, .int fall, .int temp] (n, K, f, g) (fun h1 => ∃ f1, h1 = (n, K, f1, g) ∧ SN f1 s (vCome fall temp x) ∧ mj_Fr s (s + 4) f f1) := by
  have hL2 := hL
  obtain ⟨k0, k1, k2, k3, g0, g1, g2⟩ := hL
  have b3 : f s 5 = x.2.2.1 := hS.2.2.2.1
  have key1 : vSnows fall temp = true → mj_W m_X3_comeDown (d + 3) 0 0 (fun v h1 => v = none ∧ ∃ f2, h1 = (n, K, f2, g) ∧ SN f2 s (vCome fall temp x) ∧ mj_Fr s (s + 4) f f2) 13 [.ref s, .int fall, .int temp, .null] [.int 1] (n, K, f, g) := by
    intro hv
    have key2 : ∀ (f1 : Nat → Nat → Int32) (y : sV), SN f1 s y → mj_Fr s (s + 4) f f1 → vCome fall temp x = vSet 1 y → mj_W m_X3_comeDown (d + 3) 0 0 (fun v h1 => v = none ∧ ∃ f2, h1 = (n, K, f2, g) ∧ SN f2 s (vCome fall temp x) ∧ mj_Fr s (s + 4) f f2) 65 [.ref s, .int fall, .int temp, .int 1] [] (n, K, f1, g) := by
      intro f1 y hS1 hF1 hy
      rw [hy]
      refine mj_aload_n (i := 0) (q := 66) dX3_comeDown_65 rfl rfl rfl ?_
      refine mj_iload_n (i := 3) (q := 67) dX3_comeDown_66 rfl rfl rfl ?_
      refine mj_putf (q := 70) dX3_comeDown_67 fl_X3_35 rfl rfl (by first | assumption | exact (mj_upn (by omega)).trans (by assumption) | exact (mj_upn (by omega)).trans ((mj_upn (by omega)).trans (by assumption)) | exact (mj_upn (by omega)).trans ((mj_upn (by omega)).trans ((mj_upn (by omega)).trans (by assumption)))) rfl rfl rfl ?_
      exact mj_return dX3_comeDown_70 rfl ⟨rfl, ⟨_, rfl, hS1.set5 (by simp), by repeat (first | exact mj_Fr.rf | exact (by assumption) | refine mj_Fr.up ?_ (by omega) (by omega))⟩⟩
    refine mj_istore_n (i := 3) (q := 14) dX3_comeDown_13 rfl rfl (by decide) rfl ?_
    dsimp only [List.set]
    refine mj_iload_n (i := 3) (q := 15) dX3_comeDown_14 rfl rfl rfl ?_
    refine mj_if_eq (tgt := 41) (q := 18) dX3_comeDown_15 (by decide) rfl (fun c_15 => absurd c_15 (by decide)) (fun c_15 => ?_)
    refine mj_aload_n (i := 0) (q := 19) dX3_comeDown_18 rfl rfl rfl ?_
    refine mj_getf (q := 22) dX3_comeDown_19 fl_X3_35 rfl rfl (by first | assumption | exact (mj_upn (by omega)).trans (by assumption) | exact (mj_upn (by omega)).trans ((mj_upn (by omega)).trans (by assumption)) | exact (mj_upn (by omega)).trans ((mj_upn (by omega)).trans ((mj_upn (by omega)).trans (by assumption)))) ?_
    refine mj_if_eq (tgt := 41) (q := 25) dX3_comeDown_22 (by decide) rfl (fun c_22 => ?_) (fun c_22 => ?_)
    · refine mj_iload_n (i := 3) (q := 42) dX3_comeDown_41 rfl rfl rfl ?_
      refine mj_if_eq (tgt := 56) (q := 45) dX3_comeDown_42 (by decide) rfl (fun c_42 => absurd c_42 (by decide)) (fun c_42 => ?_)
      refine mj_aload_n (i := 0) (q := 46) dX3_comeDown_45 rfl rfl rfl ?_
      refine mj_num1 (v := 0) (q := 47) rfl dX3_comeDown_46 rfl ?_
      refine mj_iload_n (i := 1) (q := 48) dX3_comeDown_47 rfl rfl rfl ?_
      refine mj_num2 (v := 10) (q := 50) (by decide) dX3_comeDown_48 rfl ?_
      refine mj_cV3v (K := m_X3_lay) (q := 53) dX3_comeDown_50 ln_X3_72 ok_X3_lay (Nat.le_of_ble_eq_true rfl) (by decide) (by first | assumption | exact (mj_upn (by omega)).trans (by assumption) | exact (mj_upn (by omega)).trans ((mj_upn (by omega)).trans (by assumption)) | exact (mj_upn (by omega)).trans ((mj_upn (by omega)).trans ((mj_upn (by omega)).trans (by assumption)))) rfl rfl (s_lay hL2 hS) (fun h1 hq => ?_)
      obtain ⟨f1, rfl, hS1, hF1⟩ := hq
      refine mj_goto (q := 65) dX3_comeDown_53 (by decide) ?_
      exact key2 _ _ hS1 hF1 (by simp only [vCome]; rw [if_pos hv, if_pos hv, if_neg (fun z => z.1 (by rw [← b3]; exact c_22))])
    · refine mj_aload_n (i := 0) (q := 26) dX3_comeDown_25 rfl rfl rfl ?_
      refine mj_num1 (v := 0) (q := 27) rfl dX3_comeDown_26 rfl ?_
      refine mj_cV1i (K := m_X3_topIs) (q := 30) dX3_comeDown_27 ln_X3_65 ok_X3_topIs (Nat.le_of_ble_eq_true rfl) (by decide) (by first | assumption | exact (mj_upn (by omega)).trans (by assumption) | exact (mj_upn (by omega)).trans ((mj_upn (by omega)).trans (by assumption)) | exact (mj_upn (by omega)).trans ((mj_upn (by omega)).trans ((mj_upn (by omega)).trans (by assumption)))) rfl rfl (s_topIs hL2 hS) (fun r_27 h1 hq => ?_)
      obtain ⟨rfl, hr_27⟩ := hq
      refine mj_if_eq (tgt := 41) (q := 33) dX3_comeDown_30 (by decide) rfl (fun c_30 => ?_) (fun c_30 => ?_)
      · refine mj_iload_n (i := 3) (q := 42) dX3_comeDown_41 rfl rfl rfl ?_
        refine mj_if_eq (tgt := 56) (q := 45) dX3_comeDown_42 (by decide) rfl (fun c_42 => absurd c_42 (by decide)) (fun c_42 => ?_)
        refine mj_aload_n (i := 0) (q := 46) dX3_comeDown_45 rfl rfl rfl ?_
        refine mj_num1 (v := 0) (q := 47) rfl dX3_comeDown_46 rfl ?_
        refine mj_iload_n (i := 1) (q := 48) dX3_comeDown_47 rfl rfl rfl ?_
        refine mj_num2 (v := 10) (q := 50) (by decide) dX3_comeDown_48 rfl ?_
        refine mj_cV3v (K := m_X3_lay) (q := 53) dX3_comeDown_50 ln_X3_72 ok_X3_lay (Nat.le_of_ble_eq_true rfl) (by decide) (by first | assumption | exact (mj_upn (by omega)).trans (by assumption) | exact (mj_upn (by omega)).trans ((mj_upn (by omega)).trans (by assumption)) | exact (mj_upn (by omega)).trans ((mj_upn (by omega)).trans ((mj_upn (by omega)).trans (by assumption)))) rfl rfl (s_lay hL2 hS) (fun h1 hq => ?_)
        obtain ⟨f1, rfl, hS1, hF1⟩ := hq
        refine mj_goto (q := 65) dX3_comeDown_53 (by decide) ?_
        have h0 : vTop 0 x = false := by rw [hr_27, mj_i01] at c_30; exact c_30
        exact key2 _ _ hS1 hF1 (by simp only [vCome]; rw [if_pos hv, if_pos hv, if_neg (fun z => by rw [h0] at z; exact absurd z.2 (by simp))])
      · refine mj_aload_n (i := 0) (q := 34) dX3_comeDown_33 rfl rfl rfl ?_
        refine mj_iload_n (i := 1) (q := 35) dX3_comeDown_34 rfl rfl rfl ?_
        refine mj_cV1v (K := m_X3_thicken) (q := 38) dX3_comeDown_35 ln_X3_69 ok_X3_thicken (Nat.le_of_ble_eq_true rfl) (by decide) (by first | assumption | exact (mj_upn (by omega)).trans (by assumption) | exact (mj_upn (by omega)).trans ((mj_upn (by omega)).trans (by assumption)) | exact (mj_upn (by omega)).trans ((mj_upn (by omega)).trans ((mj_upn (by omega)).trans (by assumption)))) rfl rfl (s_thicken hL2 hS) (fun h1 hq => ?_)
        obtain ⟨f1, rfl, hS1, hF1⟩ := hq
        refine mj_goto (q := 65) dX3_comeDown_38 (by decide) ?_
        have h0 : vTop 0 x = true := by rw [hr_27, mj_i01] at c_30; simpa using c_30
        exact key2 _ _ hS1 hF1 (by simp only [vCome]; rw [if_pos hv, if_pos hv, if_pos ⟨by rw [← b3]; exact c_22, h0⟩])
  have key0 : vSnows fall temp = false → mj_W m_X3_comeDown (d + 3) 0 0 (fun v h1 => v = none ∧ ∃ f2, h1 = (n, K, f2, g) ∧ SN f2 s (vCome fall temp x) ∧ mj_Fr s (s + 4) f f2) 13 [.ref s, .int fall, .int temp, .null] [.int 0] (n, K, f, g) := by
    intro hv
    have key2 : ∀ (f1 : Nat → Nat → Int32) (y : sV), SN f1 s y → mj_Fr s (s + 4) f f1 → vCome fall temp x = vSet 0 y → mj_W m_X3_comeDown (d + 3) 0 0 (fun v h1 => v = none ∧ ∃ f2, h1 = (n, K, f2, g) ∧ SN f2 s (vCome fall temp x) ∧ mj_Fr s (s + 4) f f2) 65 [.ref s, .int fall, .int temp, .int 0] [] (n, K, f1, g) := by
      intro f1 y hS1 hF1 hy
      rw [hy]
      refine mj_aload_n (i := 0) (q := 66) dX3_comeDown_65 rfl rfl rfl ?_
      refine mj_iload_n (i := 3) (q := 67) dX3_comeDown_66 rfl rfl rfl ?_
      refine mj_putf (q := 70) dX3_comeDown_67 fl_X3_35 rfl rfl (by first | assumption | exact (mj_upn (by omega)).trans (by assumption) | exact (mj_upn (by omega)).trans ((mj_upn (by omega)).trans (by assumption)) | exact (mj_upn (by omega)).trans ((mj_upn (by omega)).trans ((mj_upn (by omega)).trans (by assumption)))) rfl rfl rfl ?_
      exact mj_return dX3_comeDown_70 rfl ⟨rfl, ⟨_, rfl, hS1.set5 (by simp), by repeat (first | exact mj_Fr.rf | exact (by assumption) | refine mj_Fr.up ?_ (by omega) (by omega))⟩⟩
    refine mj_istore_n (i := 3) (q := 14) dX3_comeDown_13 rfl rfl (by decide) rfl ?_
    dsimp only [List.set]
    refine mj_iload_n (i := 3) (q := 15) dX3_comeDown_14 rfl rfl rfl ?_
    refine mj_if_eq (tgt := 41) (q := 18) dX3_comeDown_15 (by decide) rfl (fun c_15 => ?_) (fun c_15 => absurd rfl c_15)
    refine mj_iload_n (i := 3) (q := 42) dX3_comeDown_41 rfl rfl rfl ?_
    refine mj_if_eq (tgt := 56) (q := 45) dX3_comeDown_42 (by decide) rfl (fun c_42 => ?_) (fun c_42 => absurd rfl c_42)
    refine mj_iload_n (i := 1) (q := 57) dX3_comeDown_56 rfl rfl rfl ?_
    refine mj_if_le (tgt := 65) (q := 60) dX3_comeDown_57 (by decide) rfl (fun c_57 => ?_) (fun c_57 => ?_)
    · exact key2 _ _ hS mj_Fr.rf (by simp only [vCome]; rw [if_neg (by rw [hv]; simp), if_neg (by rw [hv]; simp), if_neg (Int32.not_lt.mpr c_57)])
    · refine mj_aload_n (i := 0) (q := 61) dX3_comeDown_60 rfl rfl rfl ?_
      refine mj_iload_n (i := 1) (q := 62) dX3_comeDown_61 rfl rfl rfl ?_
      refine mj_cV1v (K := m_X3_melt) (q := 65) dX3_comeDown_62 ln_X3_76 ok_X3_melt (Nat.le_of_ble_eq_true rfl) (by decide) (by first | assumption | exact (mj_upn (by omega)).trans (by assumption) | exact (mj_upn (by omega)).trans ((mj_upn (by omega)).trans (by assumption)) | exact (mj_upn (by omega)).trans ((mj_upn (by omega)).trans ((mj_upn (by omega)).trans (by assumption)))) rfl rfl (s_melt hL2 hS) (fun h1 hq => ?_)
      obtain ⟨f1, rfl, hS1, hF1⟩ := hq
      exact key2 _ _ hS1 hF1 (by simp only [vCome]; rw [if_neg (by rw [hv]; simp), if_neg (by rw [hv]; simp), if_pos (Int32.not_le.mp c_57)])
  refine mj_entry (by refine ⟨by decide +kernel, by decide, rfl, Nat.le_of_ble_eq_true rfl⟩) ?_
  show mj_W _ _ _ _ _ 0 [.ref s, .int fall, .int temp, .null] [] _
  refine mj_iload_n (i := 1) (q := 1) dX3_comeDown_0 rfl rfl rfl ?_
  refine mj_if_le (tgt := 12) (q := 4) dX3_comeDown_1 (by decide) rfl (fun c_1 => ?_) (fun c_1 => ?_)
  · refine mj_num1 (v := 0) (q := 13) rfl dX3_comeDown_12 rfl ?_
    exact key0 (by simp [vSnows, Int32.not_lt.mpr c_1])
  · refine mj_iload_n (i := 2) (q := 5) dX3_comeDown_4 rfl rfl rfl ?_
    refine mj_if_gt (tgt := 12) (q := 8) dX3_comeDown_5 (by decide) rfl (fun c_5 => ?_) (fun c_5 => ?_)
    · refine mj_num1 (v := 0) (q := 13) rfl dX3_comeDown_12 rfl ?_
      exact key0 (by simp only [vSnows, Bool.and_eq_false_iff, decide_eq_false_iff_not]; exact Or.inr (Int32.not_le.mpr c_5))
    · refine mj_num1 (v := 1) (q := 9) rfl dX3_comeDown_8 rfl ?_
      refine mj_goto (q := 13) dX3_comeDown_9 (by decide) ?_
      exact key1 (by simp [vSnows, Int32.not_le.mp c_1, Int32.not_lt.mp c_5])
set_option maxHeartbeats 4000000 in
set_option maxRecDepth 100000 in
theorem s_drift {d s : Nat} {much lee win : Int32} {n : Nat} {K : Nat → mj_K} {f : Nat → Nat → Int32} {g : Nat → Nat → Option Nat} {x : sV} (hL : LSn K g s) (hS : SN f s x) : mj_Cv m_X3_drift (d + 3) [.ref s, .int much, .int lee, .int win] (n, K, f, g) (fun h1 => ∃ f1, h1 = (n, K, f1, g) ∧ SN f1 s (vDrift much lee win x) ∧ mj_Fr s (s + 4) f f1) := by
  have hL2 := hL
  obtain ⟨k0, k1, k2, k3, g0, g1, g2⟩ := hL
  by_cases hl : lee = 0
  · refine mj_entry (by refine ⟨by decide +kernel, by decide, rfl, Nat.le_of_ble_eq_true rfl⟩) ?_
    show mj_W _ _ _ _ _ 0 [.ref s, .int much, .int lee, .int win] [] _
    refine mj_iload_n (i := 2) (q := 1) dX3_drift_0 rfl rfl rfl ?_
    refine mj_if_eq (tgt := 20) (q := 4) dX3_drift_1 (by decide) rfl (fun c_1 => ?_) (fun c_1 => absurd hl c_1)
    refine mj_iload_n (i := 2) (q := 21) dX3_drift_20 rfl rfl rfl ?_
    refine mj_if_eq (tgt := 35) (q := 24) dX3_drift_21 (by decide) rfl (fun c_21 => ?_) (fun c_21 => absurd hl c_21)
    refine mj_iload_n (i := 3) (q := 36) dX3_drift_35 rfl rfl rfl ?_
    refine mj_if_eq (tgt := 52) (q := 39) dX3_drift_36 (by decide) rfl (fun c_36 => ?_) (fun c_36 => ?_)
    · have e : vDrift much lee win x = x := by simp only [vDrift]; rw [if_neg (fun z => z hl), if_neg (fun z => z.1 c_36)]
      exact mj_return dX3_drift_52 rfl ⟨rfl, f, rfl, by rw [e]; exact hS, mj_Fr.rf⟩
    · refine mj_aload_n (i := 0) (q := 40) dX3_drift_39 rfl rfl rfl ?_
      refine mj_num1 (v := 0) (q := 41) rfl dX3_drift_40 rfl ?_
      refine mj_cV1i (K := m_X3_topIs) (q := 44) dX3_drift_41 ln_X3_65 ok_X3_topIs (Nat.le_of_ble_eq_true rfl) (by decide) (by first | assumption | exact (mj_upn (by omega)).trans (by assumption) | exact (mj_upn (by omega)).trans ((mj_upn (by omega)).trans (by assumption)) | exact (mj_upn (by omega)).trans ((mj_upn (by omega)).trans ((mj_upn (by omega)).trans (by assumption)))) rfl rfl (s_topIs hL2 hS) (fun r_41 h1 hq => ?_)
      obtain ⟨rfl, hr_41⟩ := hq
      refine mj_if_eq (tgt := 52) (q := 47) dX3_drift_44 (by decide) rfl (fun c_44 => ?_) (fun c_44 => ?_)
      · have h0 : vTop 0 x = false := by rw [hr_41, mj_i01] at c_44; exact c_44
        have e : vDrift much lee win x = x := by simp only [vDrift]; rw [if_neg (fun z => z hl), if_neg (fun z => by rw [h0] at z; exact absurd z.2 (by simp))]
        exact mj_return dX3_drift_52 rfl ⟨rfl, f, rfl, by rw [e]; exact hS, mj_Fr.rf⟩
      · refine mj_aload_n (i := 0) (q := 48) dX3_drift_47 rfl rfl rfl ?_
        refine mj_iload_n (i := 1) (q := 49) dX3_drift_48 rfl rfl rfl ?_
        refine mj_cV1v (K := m_X3_thin) (q := 52) dX3_drift_49 ln_X3_51 ok_X3_thin (Nat.le_of_ble_eq_true rfl) (by decide) (by first | assumption | exact (mj_upn (by omega)).trans (by assumption) | exact (mj_upn (by omega)).trans ((mj_upn (by omega)).trans (by assumption)) | exact (mj_upn (by omega)).trans ((mj_upn (by omega)).trans ((mj_upn (by omega)).trans (by assumption)))) rfl rfl (s_thin hL2 hS) (fun h1 hq => ?_)
        obtain ⟨f1, rfl, hS1, hF1⟩ := hq
        have h0 : vTop 0 x = true := by rw [hr_41, mj_i01] at c_44; simpa using c_44
        have e : vDrift much lee win x = vThin much x := by simp only [vDrift]; rw [if_neg (fun z => z hl), if_pos ⟨c_36, h0⟩]
        exact mj_return dX3_drift_52 rfl ⟨rfl, _, rfl, by rw [e]; exact hS1, hF1⟩
  · refine mj_entry (by refine ⟨by decide +kernel, by decide, rfl, Nat.le_of_ble_eq_true rfl⟩) ?_
    show mj_W _ _ _ _ _ 0 [.ref s, .int much, .int lee, .int win] [] _
    refine mj_iload_n (i := 2) (q := 1) dX3_drift_0 rfl rfl rfl ?_
    refine mj_if_eq (tgt := 20) (q := 4) dX3_drift_1 (by decide) rfl (fun c_1 => absurd c_1 hl) (fun c_1 => ?_)
    refine mj_aload_n (i := 0) (q := 5) dX3_drift_4 rfl rfl rfl ?_
    refine mj_num1 (v := 0) (q := 6) rfl dX3_drift_5 rfl ?_
    refine mj_cV1i (K := m_X3_topIs) (q := 9) dX3_drift_6 ln_X3_65 ok_X3_topIs (Nat.le_of_ble_eq_true rfl) (by decide) (by first | assumption | exact (mj_upn (by omega)).trans (by assumption) | exact (mj_upn (by omega)).trans ((mj_upn (by omega)).trans (by assumption)) | exact (mj_upn (by omega)).trans ((mj_upn (by omega)).trans ((mj_upn (by omega)).trans (by assumption)))) rfl rfl (s_topIs hL2 hS) (fun r_6 h1 hq => ?_)
    obtain ⟨rfl, hr_6⟩ := hq
    refine mj_if_eq (tgt := 20) (q := 12) dX3_drift_9 (by decide) rfl (fun c_9 => ?_) (fun c_9 => ?_)
    · refine mj_iload_n (i := 2) (q := 21) dX3_drift_20 rfl rfl rfl ?_
      refine mj_if_eq (tgt := 35) (q := 24) dX3_drift_21 (by decide) rfl (fun c_21 => absurd c_21 hl) (fun c_21 => ?_)
      refine mj_aload_n (i := 0) (q := 25) dX3_drift_24 rfl rfl rfl ?_
      refine mj_num1 (v := 0) (q := 26) rfl dX3_drift_25 rfl ?_
      refine mj_iload_n (i := 1) (q := 27) dX3_drift_26 rfl rfl rfl ?_
      refine mj_num2 (v := 20) (q := 29) (by decide) dX3_drift_27 rfl ?_
      refine mj_cV3v (K := m_X3_lay) (q := 32) dX3_drift_29 ln_X3_72 ok_X3_lay (Nat.le_of_ble_eq_true rfl) (by decide) (by first | assumption | exact (mj_upn (by omega)).trans (by assumption) | exact (mj_upn (by omega)).trans ((mj_upn (by omega)).trans (by assumption)) | exact (mj_upn (by omega)).trans ((mj_upn (by omega)).trans ((mj_upn (by omega)).trans (by assumption)))) rfl rfl (s_lay hL2 hS) (fun h1 hq => ?_)
      obtain ⟨f1, rfl, hS1, hF1⟩ := hq
      refine mj_goto (q := 52) dX3_drift_32 (by decide) ?_
      have h0 : vTop 0 x = false := by rw [hr_6, mj_i01] at c_9; exact c_9
      have e : vDrift much lee win x = vLay 0 much 20 x := by simp only [vDrift]; rw [if_pos hl, if_neg (by rw [h0]; simp)]
      exact mj_return dX3_drift_52 rfl ⟨rfl, _, rfl, by rw [e]; exact hS1, hF1⟩
    · refine mj_aload_n (i := 0) (q := 13) dX3_drift_12 rfl rfl rfl ?_
      refine mj_iload_n (i := 1) (q := 14) dX3_drift_13 rfl rfl rfl ?_
      refine mj_cV1v (K := m_X3_thicken) (q := 17) dX3_drift_14 ln_X3_69 ok_X3_thicken (Nat.le_of_ble_eq_true rfl) (by decide) (by first | assumption | exact (mj_upn (by omega)).trans (by assumption) | exact (mj_upn (by omega)).trans ((mj_upn (by omega)).trans (by assumption)) | exact (mj_upn (by omega)).trans ((mj_upn (by omega)).trans ((mj_upn (by omega)).trans (by assumption)))) rfl rfl (s_thicken hL2 hS) (fun h1 hq => ?_)
      obtain ⟨f1, rfl, hS1, hF1⟩ := hq
      refine mj_goto (q := 52) dX3_drift_17 (by decide) ?_
      have h0 : vTop 0 x = true := by rw [hr_6, mj_i01] at c_9; simpa using c_9
      have e : vDrift much lee win x = vThicken much x := by simp only [vDrift]; rw [if_pos hl, if_pos h0]
      exact mj_return dX3_drift_52 rfl ⟨rfl, _, rfl, by rw [e]; exact hS1, hF1⟩
set_option maxHeartbeats 4000000 in
set_option maxRecDepth 100000 in
theorem s_freeze {d s : Nat} {n : Nat} {K : Nat → mj_K} {f : Nat → Nat → Int32} {g : Nat → Nat → Option Nat} {x : sV} (hL : LSn K g s) (hS : SN f s x) : mj_Cv m_X3_freeze (d + 1) [.ref s] (n, K, f, g) (fun h1 => ∃ f1, h1 = (n, K, f1, g) ∧ SN f1 s (vFreeze x) ∧ mj_Fr s (s + 4) f f1) := by
  have hL2 := hL
  obtain ⟨k0, k1, k2, k3, g0, g1, g2⟩ := hL
  have b2 : f s 4 = x.2.1 := hS.2.2.1
  refine mj_entry (by refine ⟨by decide +kernel, by decide, rfl, Nat.le_of_ble_eq_true rfl⟩) ?_
  show mj_W _ _ _ _ _ 0 [.ref s] [] _
  refine mj_aload_n (i := 0) (q := 1) dX3_freeze_0 rfl rfl rfl ?_
  refine mj_getf (q := 4) dX3_freeze_1 fl_X3_31 rfl rfl (by first | assumption | exact (mj_upn (by omega)).trans (by assumption) | exact (mj_upn (by omega)).trans ((mj_upn (by omega)).trans (by assumption)) | exact (mj_upn (by omega)).trans ((mj_upn (by omega)).trans ((mj_upn (by omega)).trans (by assumption)))) ?_
  refine mj_if_eq (tgt := 19) (q := 7) dX3_freeze_4 (by decide) rfl (fun c_4 => ?_) (fun c_4 => ?_)
  · have e : vFreeze x = x := by simp only [vFreeze]; rw [if_pos (by rw [← b2]; exact c_4)]
    exact mj_return dX3_freeze_19 rfl ⟨rfl, f, rfl, by rw [e]; exact hS, mj_Fr.rf⟩
  · refine mj_aload_n (i := 0) (q := 8) dX3_freeze_7 rfl rfl rfl ?_
    refine mj_num1 (v := 2) (q := 9) rfl dX3_freeze_8 rfl ?_
    refine mj_num2 (v := 80) (q := 11) (by decide) dX3_freeze_9 rfl ?_
    refine mj_cV2v (K := m_X3_changeTop) (q := 14) dX3_freeze_11 ln_X3_79 ok_X3_changeTop (Nat.le_of_ble_eq_true rfl) (by decide) (by first | assumption | exact (mj_upn (by omega)).trans (by assumption) | exact (mj_upn (by omega)).trans ((mj_upn (by omega)).trans (by assumption)) | exact (mj_upn (by omega)).trans ((mj_upn (by omega)).trans ((mj_upn (by omega)).trans (by assumption)))) rfl rfl (s_changeTop hL2 hS) (fun h1 hq => ?_)
    obtain ⟨f1, rfl, hS1, hF1⟩ := hq
    refine mj_aload_n (i := 0) (q := 15) dX3_freeze_14 rfl rfl rfl ?_
    refine mj_num1 (v := 0) (q := 16) rfl dX3_freeze_15 rfl ?_
    refine mj_putf (q := 19) dX3_freeze_16 fl_X3_31 rfl rfl (by first | assumption | exact (mj_upn (by omega)).trans (by assumption) | exact (mj_upn (by omega)).trans ((mj_upn (by omega)).trans (by assumption)) | exact (mj_upn (by omega)).trans ((mj_upn (by omega)).trans ((mj_upn (by omega)).trans (by assumption)))) rfl rfl rfl ?_
    have e : vFreeze x = vWet0 (vChange 2 80 x) := by simp only [vFreeze]; rw [if_neg (by rw [← b2]; exact c_4)]
    exact mj_return dX3_freeze_19 rfl ⟨rfl, _, rfl, by rw [e]; exact hS1.wet0, by repeat (first | exact mj_Fr.rf | exact (by assumption) | refine mj_Fr.up ?_ (by omega) (by omega))⟩
set_option maxHeartbeats 4000000 in
set_option maxRecDepth 100000 in
theorem s_growWeak {d s : Nat} {n : Nat} {K : Nat → mj_K} {f : Nat → Nat → Int32} {g : Nat → Nat → Option Nat} {x : sV} (hL : LSn K g s) (hS : SN f s x) : mj_Cv m_X3_growWeak (d + 1) [.ref s] (n, K, f, g) (fun h1 => ∃ f1, h1 = (n, K, f1, g) ∧ SN f1 s (vWeak x) ∧ mj_Fr s (s + 4) f f1) := by
  have hL2 := hL
  obtain ⟨k0, k1, k2, k3, g0, g1, g2⟩ := hL
  have b0 : x.1 ≤ 8 := hS.1
  have b1 : f s 3 = nI x.1 := hS.2.1
  have b4 : ∀ k, k < 8 → f (s + 1) k = x.2.2.2.1 k := hS.2.2.2.2.1
  refine mj_entry (by refine ⟨by decide +kernel, by decide, rfl, Nat.le_of_ble_eq_true rfl⟩) ?_
  show mj_W _ _ _ _ _ 0 [.ref s] [] _
  refine mj_aload_n (i := 0) (q := 1) dX3_growWeak_0 rfl rfl rfl ?_
  refine mj_num1 (v := 0) (q := 2) rfl dX3_growWeak_1 rfl ?_
  refine mj_cV1i (K := m_X3_topIs) (q := 5) dX3_growWeak_2 ln_X3_65 ok_X3_topIs (Nat.le_of_ble_eq_true rfl) (by decide) (by first | assumption | exact (mj_upn (by omega)).trans (by assumption) | exact (mj_upn (by omega)).trans ((mj_upn (by omega)).trans (by assumption)) | exact (mj_upn (by omega)).trans ((mj_upn (by omega)).trans ((mj_upn (by omega)).trans (by assumption)))) rfl rfl (s_topIs hL2 hS) (fun r_2 h1 hq => ?_)
  obtain ⟨rfl, hr_2⟩ := hq
  refine mj_if_eq (tgt := 30) (q := 8) dX3_growWeak_5 (by decide) rfl (fun c_5 => ?_) (fun c_5 => ?_)
  · have h1 : vTop 0 x = false := by rw [hr_2, mj_i01] at c_5; exact c_5
    have e : vWeak x = x := by simp only [vWeak]; rw [if_neg (fun z => by rw [h1] at z; exact absurd z.1 (by simp))]
    exact mj_return dX3_growWeak_30 rfl ⟨rfl, f, rfl, by rw [e]; exact hS, mj_Fr.rf⟩
  · have h0 : vTop 0 x = true := by rw [hr_2, mj_i01] at c_5; simpa using c_5
    have hpos : 0 < x.1 := by (simp only [vTop, Bool.and_eq_true, decide_eq_true_eq] at h0; exact h0.1)
    have e1 : nI x.1 - 1 = nI (x.1 - 1) := pk_sub (b := 1) hpos
    refine mj_aload_n (i := 0) (q := 9) dX3_growWeak_8 rfl rfl rfl ?_
    refine mj_getr (q := 12) dX3_growWeak_9 fl_X3_9 rfl rfl (by first | assumption | exact (mj_upn (by omega)).trans (by assumption) | exact (mj_upn (by omega)).trans ((mj_upn (by omega)).trans (by assumption)) | exact (mj_upn (by omega)).trans ((mj_upn (by omega)).trans ((mj_upn (by omega)).trans (by assumption)))) (by first | assumption | exact (mj_upn (by omega)).trans (by assumption) | exact (mj_upn (by omega)).trans ((mj_upn (by omega)).trans (by assumption)) | exact (mj_upn (by omega)).trans ((mj_upn (by omega)).trans ((mj_upn (by omega)).trans (by assumption)))) ?_
    refine mj_aload_n (i := 0) (q := 13) dX3_growWeak_12 rfl rfl rfl ?_
    refine mj_getfv (q := 16) dX3_growWeak_13 fl_X3_27 rfl rfl (by first | assumption | exact (mj_upn (by omega)).trans (by assumption) | exact (mj_upn (by omega)).trans ((mj_upn (by omega)).trans (by assumption)) | exact (mj_upn (by omega)).trans ((mj_upn (by omega)).trans ((mj_upn (by omega)).trans (by assumption)))) (by first | assumption | exact (mj_upn (by omega)).trans (by assumption) | exact (mj_upn (by omega)).trans ((mj_upn (by omega)).trans (by assumption)) | exact (mj_upn (by omega)).trans ((mj_upn (by omega)).trans ((mj_upn (by omega)).trans (by assumption)))) ?_
    refine mj_num1 (v := 1) (q := 17) rfl dX3_growWeak_16 rfl ?_
    refine mj_isub (q := 18) dX3_growWeak_17 rfl ?_
    refine mj_top e1 ?_
    refine mj_ialdn (q := 19) dX3_growWeak_18 rfl (by first | assumption | exact (mj_upn (by omega)).trans (by assumption) | exact (mj_upn (by omega)).trans ((mj_upn (by omega)).trans (by assumption)) | exact (mj_upn (by omega)).trans ((mj_upn (by omega)).trans ((mj_upn (by omega)).trans (by assumption)))) (by omega) ?_
    refine mj_top (b4 (x.1 - 1) (by omega)) ?_
    refine mj_num2 (v := 10) (q := 21) (by decide) dX3_growWeak_19 rfl ?_
    refine mj_icmp_gt (tgt := 30) (q := 24) dX3_growWeak_21 (by decide) rfl (fun c_21 => ?_) (fun c_21 => ?_)
    · have e : vWeak x = x := by simp only [vWeak]; rw [if_neg (fun z => absurd c_21 (Int32.not_lt.mpr z.2))]
      exact mj_return dX3_growWeak_30 rfl ⟨rfl, f, rfl, by rw [e]; exact hS, mj_Fr.rf⟩
    · refine mj_aload_n (i := 0) (q := 25) dX3_growWeak_24 rfl rfl rfl ?_
      refine mj_num1 (v := 1) (q := 26) rfl dX3_growWeak_25 rfl ?_
      refine mj_num1 (v := 5) (q := 27) rfl dX3_growWeak_26 rfl ?_
      refine mj_cV2v (K := m_X3_changeTop) (q := 30) dX3_growWeak_27 ln_X3_79 ok_X3_changeTop (Nat.le_of_ble_eq_true rfl) (by decide) (by first | assumption | exact (mj_upn (by omega)).trans (by assumption) | exact (mj_upn (by omega)).trans ((mj_upn (by omega)).trans (by assumption)) | exact (mj_upn (by omega)).trans ((mj_upn (by omega)).trans ((mj_upn (by omega)).trans (by assumption)))) rfl rfl (s_changeTop hL2 hS) (fun h1 hq => ?_)
      obtain ⟨f1, rfl, hS1, hF1⟩ := hq
      have e : vWeak x = vChange 1 5 x := by simp only [vWeak]; rw [if_pos ⟨h0, Int32.not_lt.mp c_21⟩]
      exact mj_return dX3_growWeak_30 rfl ⟨rfl, _, rfl, by rw [e]; exact hS1, hF1⟩
set_option maxHeartbeats 4000000 in
set_option maxRecDepth 100000 in
theorem s_snowBecome {d s s2 : Nat} {n : Nat} {K : Nat → mj_K} {f : Nat → Nat → Int32} {g : Nat → Nat → Option Nat} {x : sV} (hL : LSn K g s) (hL2 : LSn K g s2) (hap : s + 4 ≤ s2 ∨ s2 + 4 ≤ s) (hS : SN f s2 x) : mj_Cv m_X3_become (d + 1) [.ref s, .ref s2] (n, K, f, g) (fun h1 => ∃ f1, h1 = (n, K, f1, g) ∧ SN f1 s x ∧ mj_Fr s (s + 4) f f1) := by
  obtain ⟨k0, k1, k2, k3, g0, g1, g2⟩ := hL
  obtain ⟨j0, j1, j2, j3, q0, q1, q2⟩ := hL2
  obtain ⟨b0, b1, b2, b3, b4, b5, b6, b7, b8⟩ := hS
  have r1 : ∀ (u v z : Nat → Int32) (k : Nat), mj_row (mj_row (mj_row f (s + 1) u) (s + 2) v) (s + 3) z s2 k = f s2 k := fun u v z k => by rw [mj_rown (by omega), mj_rown (by omega), mj_rown (by omega)]
  refine mj_entry (by refine ⟨by decide +kernel, by decide, rfl, Nat.le_of_ble_eq_true rfl⟩) ?_
  show mj_W _ _ _ _ _ 0 [.ref s, .ref s2] [] _
  refine mj_aload_n (i := 1) (q := 1) dX3_become_0 rfl rfl rfl ?_
  refine mj_getr (q := 4) dX3_become_1 fl_X3_9 rfl rfl (by first | assumption | exact (mj_upn (by omega)).trans (by assumption) | exact (mj_upn (by omega)).trans ((mj_upn (by omega)).trans (by assumption)) | exact (mj_upn (by omega)).trans ((mj_upn (by omega)).trans ((mj_upn (by omega)).trans (by assumption)))) (by first | assumption | exact (mj_upn (by omega)).trans (by assumption) | exact (mj_upn (by omega)).trans ((mj_upn (by omega)).trans (by assumption)) | exact (mj_upn (by omega)).trans ((mj_upn (by omega)).trans ((mj_upn (by omega)).trans (by assumption)))) ?_
  refine mj_num1 (v := 0) (q := 5) rfl dX3_become_4 rfl ?_
  refine mj_aload_n (i := 0) (q := 6) dX3_become_5 rfl rfl rfl ?_
  refine mj_getr (q := 9) dX3_become_6 fl_X3_9 rfl rfl (by first | assumption | exact (mj_upn (by omega)).trans (by assumption) | exact (mj_upn (by omega)).trans ((mj_upn (by omega)).trans (by assumption)) | exact (mj_upn (by omega)).trans ((mj_upn (by omega)).trans ((mj_upn (by omega)).trans (by assumption)))) (by first | assumption | exact (mj_upn (by omega)).trans (by assumption) | exact (mj_upn (by omega)).trans ((mj_upn (by omega)).trans (by assumption)) | exact (mj_upn (by omega)).trans ((mj_upn (by omega)).trans ((mj_upn (by omega)).trans (by assumption)))) ?_
  refine mj_num1 (v := 0) (q := 10) rfl dX3_become_9 rfl ?_
  refine mj_num2 (v := 8) (q := 12) (by decide) dX3_become_10 rfl ?_
  refine mj_copyi (q := 15) dX3_become_12 ln_X3_21 (by assumption) (by assumption) (by decide) (by decide) (by decide) (by decide) (by decide) (Nat.le_of_ble_eq_true rfl) rfl ?_
  refine mj_aload_n (i := 1) (q := 16) dX3_become_15 rfl rfl rfl ?_
  refine mj_getr (q := 19) dX3_become_16 fl_X3_15 rfl rfl (by first | assumption | exact (mj_upn (by omega)).trans (by assumption) | exact (mj_upn (by omega)).trans ((mj_upn (by omega)).trans (by assumption)) | exact (mj_upn (by omega)).trans ((mj_upn (by omega)).trans ((mj_upn (by omega)).trans (by assumption)))) (by first | assumption | exact (mj_upn (by omega)).trans (by assumption) | exact (mj_upn (by omega)).trans ((mj_upn (by omega)).trans (by assumption)) | exact (mj_upn (by omega)).trans ((mj_upn (by omega)).trans ((mj_upn (by omega)).trans (by assumption)))) ?_
  refine mj_num1 (v := 0) (q := 20) rfl dX3_become_19 rfl ?_
  refine mj_aload_n (i := 0) (q := 21) dX3_become_20 rfl rfl rfl ?_
  refine mj_getr (q := 24) dX3_become_21 fl_X3_15 rfl rfl (by first | assumption | exact (mj_upn (by omega)).trans (by assumption) | exact (mj_upn (by omega)).trans ((mj_upn (by omega)).trans (by assumption)) | exact (mj_upn (by omega)).trans ((mj_upn (by omega)).trans ((mj_upn (by omega)).trans (by assumption)))) (by first | assumption | exact (mj_upn (by omega)).trans (by assumption) | exact (mj_upn (by omega)).trans ((mj_upn (by omega)).trans (by assumption)) | exact (mj_upn (by omega)).trans ((mj_upn (by omega)).trans ((mj_upn (by omega)).trans (by assumption)))) ?_
  refine mj_num1 (v := 0) (q := 25) rfl dX3_become_24 rfl ?_
  refine mj_num2 (v := 8) (q := 27) (by decide) dX3_become_25 rfl ?_
  refine mj_copyi (q := 30) dX3_become_27 ln_X3_21 (by assumption) (by assumption) (by decide) (by decide) (by decide) (by decide) (by decide) (Nat.le_of_ble_eq_true rfl) rfl ?_
  refine mj_aload_n (i := 1) (q := 31) dX3_become_30 rfl rfl rfl ?_
  refine mj_getr (q := 34) dX3_become_31 fl_X3_18 rfl rfl (by first | assumption | exact (mj_upn (by omega)).trans (by assumption) | exact (mj_upn (by omega)).trans ((mj_upn (by omega)).trans (by assumption)) | exact (mj_upn (by omega)).trans ((mj_upn (by omega)).trans ((mj_upn (by omega)).trans (by assumption)))) (by first | assumption | exact (mj_upn (by omega)).trans (by assumption) | exact (mj_upn (by omega)).trans ((mj_upn (by omega)).trans (by assumption)) | exact (mj_upn (by omega)).trans ((mj_upn (by omega)).trans ((mj_upn (by omega)).trans (by assumption)))) ?_
  refine mj_num1 (v := 0) (q := 35) rfl dX3_become_34 rfl ?_
  refine mj_aload_n (i := 0) (q := 36) dX3_become_35 rfl rfl rfl ?_
  refine mj_getr (q := 39) dX3_become_36 fl_X3_18 rfl rfl (by first | assumption | exact (mj_upn (by omega)).trans (by assumption) | exact (mj_upn (by omega)).trans ((mj_upn (by omega)).trans (by assumption)) | exact (mj_upn (by omega)).trans ((mj_upn (by omega)).trans ((mj_upn (by omega)).trans (by assumption)))) (by first | assumption | exact (mj_upn (by omega)).trans (by assumption) | exact (mj_upn (by omega)).trans ((mj_upn (by omega)).trans (by assumption)) | exact (mj_upn (by omega)).trans ((mj_upn (by omega)).trans ((mj_upn (by omega)).trans (by assumption)))) ?_
  refine mj_num1 (v := 0) (q := 40) rfl dX3_become_39 rfl ?_
  refine mj_num2 (v := 8) (q := 42) (by decide) dX3_become_40 rfl ?_
  refine mj_copyi (q := 45) dX3_become_42 ln_X3_21 (by assumption) (by assumption) (by decide) (by decide) (by decide) (by decide) (by decide) (Nat.le_of_ble_eq_true rfl) rfl ?_
  refine mj_aload_n (i := 0) (q := 46) dX3_become_45 rfl rfl rfl ?_
  refine mj_aload_n (i := 1) (q := 47) dX3_become_46 rfl rfl rfl ?_
  refine mj_getf (q := 50) dX3_become_47 fl_X3_27 rfl rfl (by first | assumption | exact (mj_upn (by omega)).trans (by assumption) | exact (mj_upn (by omega)).trans ((mj_upn (by omega)).trans (by assumption)) | exact (mj_upn (by omega)).trans ((mj_upn (by omega)).trans ((mj_upn (by omega)).trans (by assumption)))) ?_
  refine mj_top (y := nI x.1) (by rw [r1]; exact b1) ?_
  refine mj_putf (q := 53) dX3_become_50 fl_X3_27 rfl rfl (by first | assumption | exact (mj_upn (by omega)).trans (by assumption) | exact (mj_upn (by omega)).trans ((mj_upn (by omega)).trans (by assumption)) | exact (mj_upn (by omega)).trans ((mj_upn (by omega)).trans ((mj_upn (by omega)).trans (by assumption)))) rfl rfl rfl ?_
  refine mj_aload_n (i := 0) (q := 54) dX3_become_53 rfl rfl rfl ?_
  refine mj_aload_n (i := 1) (q := 55) dX3_become_54 rfl rfl rfl ?_
  refine mj_getf (q := 58) dX3_become_55 fl_X3_31 rfl rfl (by first | assumption | exact (mj_upn (by omega)).trans (by assumption) | exact (mj_upn (by omega)).trans ((mj_upn (by omega)).trans (by assumption)) | exact (mj_upn (by omega)).trans ((mj_upn (by omega)).trans ((mj_upn (by omega)).trans (by assumption)))) ?_
  refine mj_top (y := x.2.1) (by rw [mj_upn (by omega), r1]; exact b2) ?_
  refine mj_putf (q := 61) dX3_become_58 fl_X3_31 rfl rfl (by first | assumption | exact (mj_upn (by omega)).trans (by assumption) | exact (mj_upn (by omega)).trans ((mj_upn (by omega)).trans (by assumption)) | exact (mj_upn (by omega)).trans ((mj_upn (by omega)).trans ((mj_upn (by omega)).trans (by assumption)))) rfl (mj_bool b7).1 (mj_bool b7).2 ?_
  refine mj_aload_n (i := 0) (q := 62) dX3_become_61 rfl rfl rfl ?_
  refine mj_aload_n (i := 1) (q := 63) dX3_become_62 rfl rfl rfl ?_
  refine mj_getf (q := 66) dX3_become_63 fl_X3_35 rfl rfl (by first | assumption | exact (mj_upn (by omega)).trans (by assumption) | exact (mj_upn (by omega)).trans ((mj_upn (by omega)).trans (by assumption)) | exact (mj_upn (by omega)).trans ((mj_upn (by omega)).trans ((mj_upn (by omega)).trans (by assumption)))) ?_
  refine mj_top (y := x.2.2.1) (by rw [mj_upn (by omega), mj_upn (by omega), r1]; exact b3) ?_
  refine mj_putf (q := 69) dX3_become_66 fl_X3_35 rfl rfl (by first | assumption | exact (mj_upn (by omega)).trans (by assumption) | exact (mj_upn (by omega)).trans ((mj_upn (by omega)).trans (by assumption)) | exact (mj_upn (by omega)).trans ((mj_upn (by omega)).trans ((mj_upn (by omega)).trans (by assumption)))) rfl (mj_bool b8).1 (mj_bool b8).2 ?_
  refine mj_return dX3_become_69 rfl ⟨rfl, _, rfl, ?_, ?_⟩
  · refine ⟨b0, ?_, ?_, ?_, ?_, ?_, ?_, b7, b8⟩
    · simp [mj_up]
    · simp [mj_up]
    · simp [mj_up]
    · intro k hk
      rw [mj_upn (by omega), mj_upn (by omega), mj_upn (by omega), mj_rown (by omega), mj_rown (by omega), mj_rowe, mj_cpy8 hk]
      exact b4 k hk
    · intro k hk
      rw [mj_upn (by omega), mj_upn (by omega), mj_upn (by omega), mj_rown (by omega), mj_rowe, mj_cpy8 hk, mj_rown (by omega)]
      exact b5 k hk
    · intro k hk
      rw [mj_upn (by omega), mj_upn (by omega), mj_upn (by omega), mj_rowe, mj_cpy8 hk, mj_rown (by omega), mj_rown (by omega)]
      exact b6 k hk
  · intro a ha
    rw [mj_upr (by omega), mj_upr (by omega), mj_upr (by omega), mj_rown (by omega), mj_rown (by omega), mj_rown (by omega)]
end
section
/-! RUN, LIFT, WEATHER -/
def LRn (K : Nat → mj_K) (g : Nat → Nat → Option Nat) (r : Nat) : Prop := K r = (2, 2, 0) ∧ g r 0 = some (r + 1) ∧ LSn K g (r + 1)
abbrev rV : Type := sV × (Nat → Int32)
def RN (f : Nat → Nat → Int32) (r : Nat) (x : rV) : Prop := SN f (r + 1) x.1 ∧ (∀ k, 1 ≤ k → k < 18 → f r k = x.2 k) ∧ (x.2 15 = 0 ∨ x.2 15 = 1) ∧ (x.2 16 = 0 ∨ x.2 16 = 1) ∧ (x.2 17 = 0 ∨ x.2 17 = 1)
theorem RN.keep {f f1 : Nat → Nat → Int32} {r lo hi : Nat} {x : rV} (h : RN f r x) (hf : mj_Fr lo hi f f1) (hd : r + 5 ≤ lo ∨ hi ≤ r) : RN f1 r x :=
  ⟨h.1.keep hf (by omega), fun k h1 h2 => by rw [hf r (by omega)]; exact h.2.1 k h1 h2, h.2.2⟩
/-- the snow alone has changed -/
theorem RN.snow {f f1 : Nat → Nat → Int32} {r : Nat} {x : rV} {y : sV} (h : RN f r x) (hS : SN f1 (r + 1) y) (hf : mj_Fr (r + 1) (r + 5) f f1) : RN f1 r (y, x.2) :=
  ⟨hS, fun k h1 h2 => by rw [hf r (by omega)]; exact h.2.1 k h1 h2, h.2.2⟩
theorem RN.put {f : Nat → Nat → Int32} {r k0 : Nat} {v : Int32} {x : rV} (h : RN f r x) (hb : k0 < 15 ∨ v = 0 ∨ v = 1) : RN (mj_up f r k0 v) r (x.1, upd x.2 k0 v) := by
  obtain ⟨h1, h2, h3, h4, h5⟩ := h
  refine ⟨h1.keep (f1 := mj_up f r k0 v) (lo := r) (hi := r + 1) (mj_Fr.up mj_Fr.rf (by omega) (by omega)) (by omega), fun k z1 z2 => ?_, ?_, ?_, ?_⟩
  · have e := h2 k z1 z2
    by_cases hk : k = k0
    · subst hk; simp [mj_up, upd]
    · simp [mj_up, upd, hk, e]
  all_goals
    (show (if _ then _ else _) = _ ∨ (if _ then _ else _) = _
     split
     · rename_i z; rcases hb with hb | hb
       · omega
       · exact hb
     · assumption)
def LN (f : Nat → Nat → Int32) (l : Nat) (y : Nat → Int32) : Prop := (∀ k, k < 5 → f l k = y k) ∧ (y 2 = 0 ∨ y 2 = 1) ∧ (y 3 = 0 ∨ y 3 = 1)
theorem LN.keep {f f1 : Nat → Nat → Int32} {l lo hi : Nat} {y : Nat → Int32} (h : LN f l y) (hf : mj_Fr lo hi f f1) (hd : l + 1 ≤ lo ∨ hi ≤ l) : LN f1 l y := ⟨fun k hk => by rw [hf l (by omega)]; exact h.1 k hk, h.2⟩
theorem LN.put {f : Nat → Nat → Int32} {l k0 : Nat} {v : Int32} {y : Nat → Int32} (h : LN f l y) (hb : (k0 ≠ 2 ∧ k0 ≠ 3) ∨ v = 0 ∨ v = 1) : LN (mj_up f l k0 v) l (upd y k0 v) := by
  obtain ⟨h2, h3, h4⟩ := h
  refine ⟨fun k z2 => ?_, ?_, ?_⟩
  · have e := h2 k z2
    by_cases hk : k = k0
    · subst hk; simp [mj_up, upd]
    · simp [mj_up, upd, hk, e]
  all_goals
    (show (if _ then _ else _) = _ ∨ (if _ then _ else _) = _
     split
     · rename_i z; rcases hb with hb | hb
       · omega
       · exact hb
     · assumption)
def vMoving (y : Nat → Int32) : Bool := !(y 2 == 0) && y 3 == 0
def WN (f : Nat → Nat → Int32) (w : Nat) (W : Nat → Int32) : Prop := ∀ k, k < 5 → f w k = W k
theorem WN.keep {f f1 : Nat → Nat → Int32} {w lo hi : Nat} {W : Nat → Int32} (h : WN f w W) (hf : mj_Fr lo hi f f1) (hd : w + 1 ≤ lo ∨ hi ≤ w) : WN f1 w W := fun k hk => by rw [hf w (by omega)]; exact h k hk
def vSize (sh area : Int32) (x : sV) : Int32 := if sh = -1 then 0 else vDepth sh.toNatClampNeg x * area
/-! the steps (2) to (7) of an hour -/
def vWa (W : Nat → Int32) (asp temp : Int32) (x : sV) : sV := if 4 < W 2 ∧ (W 1 = 0 ∨ temp ≤ 0) then vDrift (W 2 - 4) (if asp = (W 3 + 2) % 4 then 1 else 0) (if asp = W 3 then 1 else 0) x else x
def vWb (W : Nat → Int32) (asp temp clock : Int32) (x : sV) : sV := if W 1 = 0 ∧ 10 ≤ clock ∧ clock ≤ 15 ∧ (asp = 2 ∨ 2 < temp) then vMelt 1 x else x
def vWc (temp : Int32) (x : sV) : sV := if temp ≤ -3 then vFreeze x else x
def vWd (W : Nat → Int32) (temp clock : Int32) (x : sV) : sV := if W 1 = 0 ∧ clock ≤ 5 ∧ temp ≤ -12 then vWeak x else x
def vWeather (W : Nat → Int32) (asp temp clock : Int32) (x : sV) : sV := vSettle (if clock = 12 then 1 else 0) (vWd W temp clock (vWc temp (vWb W asp temp clock (vWa W asp temp (vCome (W 1) temp x)))))

set_option maxHeartbeats 4000000 in
set_option maxRecDepth 100000 in
theorem s_isMoving {d l z : Nat} {n : Nat} {K : Nat → mj_K} {f : Nat → Nat → Int32} {g : Nat → Nat → Option Nat} {y : Nat → Int32} (hK : K l = (2, 0, z)) (hN : LN f l y) : mj_Ci m_X0_isMoving d [.ref l] (n, K, f, g) (fun r h1 => h1 = (n, K, f, g) ∧ r = if vMoving y = true then 1 else 0) := by
  have e2 : f l 2 = y 2 := hN.1 2 (by omega)
  have e3 : f l 3 = y 3 := hN.1 3 (by omega)
  refine mj_entry (by refine ⟨by decide +kernel, by decide, rfl, Nat.le_of_ble_eq_true rfl⟩) ?_
  show mj_W _ _ _ _ _ 0 [.ref l] [] _
  refine mj_aload_n (i := 0) (q := 1) dX0_isMoving_0 rfl rfl rfl ?_
  refine mj_getfv (q := 4) dX0_isMoving_1 fl_X0_16 rfl rfl (by assumption) (by assumption) ?_
  refine mj_if_eq (tgt := 18) (q := 7) dX0_isMoving_4 (by decide) rfl (fun c_4 => ?_) (fun c_4 => ?_)
  · refine mj_num1 (v := 0) (q := 19) rfl dX0_isMoving_18 rfl ?_
    exact mj_ireturn dX0_isMoving_19 ⟨_, rfl, rfl⟩ ⟨_, rfl, rfl, by simp [vMoving, c_4]⟩
  · refine mj_aload_n (i := 0) (q := 8) dX0_isMoving_7 rfl rfl rfl ?_
    refine mj_getfv (q := 11) dX0_isMoving_8 fl_X0_20 rfl rfl (by assumption) (by assumption) ?_
    refine mj_if_ne (tgt := 18) (q := 14) dX0_isMoving_11 (by decide) rfl (fun c_11 => ?_) (fun c_11 => ?_)
    · refine mj_num1 (v := 0) (q := 19) rfl dX0_isMoving_18 rfl ?_
      exact mj_ireturn dX0_isMoving_19 ⟨_, rfl, rfl⟩ ⟨_, rfl, rfl, by simp [vMoving, c_4, c_11]⟩
    · refine mj_num1 (v := 1) (q := 15) rfl dX0_isMoving_14 rfl ?_
      refine mj_goto (q := 19) dX0_isMoving_15 (by decide) ?_
      exact mj_ireturn dX0_isMoving_19 ⟨_, rfl, rfl⟩ ⟨_, rfl, rfl, by simp [vMoving, c_4, c_11]⟩
set_option maxHeartbeats 4000000 in
set_option maxRecDepth 100000 in
theorem s_liftBecome {d l l2 z z2 : Nat} {n : Nat} {K : Nat → mj_K} {f : Nat → Nat → Int32} {g : Nat → Nat → Option Nat} {y : Nat → Int32} (hK : K l = (2, 0, z)) (hK2 : K l2 = (2, 0, z2)) (hne : l ≠ l2) (hN : LN f l2 y) : mj_Cv m_X0_become d [.ref l, .ref l2] (n, K, f, g) (fun h1 => ∃ f1, h1 = (n, K, f1, g) ∧ LN f1 l y ∧ mj_Fr l (l + 1) f f1) := by
  have hne : ¬ l2 = l := fun z => hne z.symm
  have e0 : f l2 0 = y 0 := hN.1 0 (by omega)
  have e1 : f l2 1 = y 1 := hN.1 1 (by omega)
  have e2 : f l2 2 = y 2 := hN.1 2 (by omega)
  have e3 : f l2 3 = y 3 := hN.1 3 (by omega)
  have e4 : f l2 4 = y 4 := hN.1 4 (by omega)
  refine mj_entry (by refine ⟨by decide +kernel, by decide, rfl, Nat.le_of_ble_eq_true rfl⟩) ?_
  show mj_W _ _ _ _ _ 0 [.ref l, .ref l2] [] _
  refine mj_aload_n (i := 0) (q := 1) dX0_become_0 rfl rfl rfl ?_
  refine mj_aload_n (i := 1) (q := 2) dX0_become_1 rfl rfl rfl ?_
  refine mj_getf (q := 5) dX0_become_2 fl_X0_7 rfl rfl (by assumption) ?_
  refine mj_putf (q := 8) dX0_become_5 fl_X0_7 rfl rfl (by assumption) rfl rfl rfl ?_
  refine mj_aload_n (i := 0) (q := 9) dX0_become_8 rfl rfl rfl ?_
  refine mj_aload_n (i := 1) (q := 10) dX0_become_9 rfl rfl rfl ?_
  refine mj_getf (q := 13) dX0_become_10 fl_X0_13 rfl rfl (by assumption) ?_
  refine mj_putf (q := 16) dX0_become_13 fl_X0_13 rfl rfl (by assumption) rfl rfl rfl ?_
  refine mj_aload_n (i := 0) (q := 17) dX0_become_16 rfl rfl rfl ?_
  refine mj_aload_n (i := 1) (q := 18) dX0_become_17 rfl rfl rfl ?_
  refine mj_getf (q := 21) dX0_become_18 fl_X0_16 rfl rfl (by assumption) ?_
  refine mj_putf (q := 24) dX0_become_21 fl_X0_16 rfl rfl (by assumption) rfl (mj_bool (by simp [mj_up, hne, e2]; exact hN.2.1)).1 (mj_bool (by simp [mj_up, hne, e2]; exact hN.2.1)).2 ?_
  refine mj_aload_n (i := 0) (q := 25) dX0_become_24 rfl rfl rfl ?_
  refine mj_aload_n (i := 1) (q := 26) dX0_become_25 rfl rfl rfl ?_
  refine mj_getf (q := 29) dX0_become_26 fl_X0_20 rfl rfl (by assumption) ?_
  refine mj_putf (q := 32) dX0_become_29 fl_X0_20 rfl rfl (by assumption) rfl (mj_bool (by simp [mj_up, hne, e3]; exact hN.2.2)).1 (mj_bool (by simp [mj_up, hne, e3]; exact hN.2.2)).2 ?_
  refine mj_aload_n (i := 0) (q := 33) dX0_become_32 rfl rfl rfl ?_
  refine mj_aload_n (i := 1) (q := 34) dX0_become_33 rfl rfl rfl ?_
  refine mj_getf (q := 37) dX0_become_34 fl_X0_23 rfl rfl (by assumption) ?_
  refine mj_putf (q := 40) dX0_become_37 fl_X0_23 rfl rfl (by assumption) rfl rfl rfl ?_
  refine mj_return dX0_become_40 rfl ⟨rfl, _, rfl, ⟨?_, hN.2⟩, ?_⟩
  · intro k hk
    have : k = 0 ∨ k = 1 ∨ k = 2 ∨ k = 3 ∨ k = 4 := by omega
    rcases this with rfl | rfl | rfl | rfl | rfl <;> simp [mj_up, hne, e0, e1, e2, e3, e4]
  · repeat (first | exact mj_Fr.rf | exact (by assumption) | refine mj_Fr.up ?_ (by omega) (by omega))
set_option maxHeartbeats 4000000 in
set_option maxRecDepth 100000 in
theorem s_tell {d w z : Nat} {a1 a2 a3 a4 a5 : Int32} {n : Nat} {K : Nat → mj_K} {f : Nat → Nat → Int32} {g : Nat → Nat → Option Nat} (hK : K w = (2, 4, z)) : mj_Cv m_X4_tell d [.ref w, .int a1, .int a2, .int a3, .int a4, .int a5] (n, K, f, g) (fun h1 => ∃ f1, h1 = (n, K, f1, g) ∧ (∀ W : Nat → Int32, W 0 = a1 → W 1 = a2 → W 2 = a3 → W 3 = a4 → W 4 = a5 → WN f1 w W) ∧ mj_Fr w (w + 1) f f1) := by
  refine mj_entry (by refine ⟨by decide +kernel, by decide, rfl, Nat.le_of_ble_eq_true rfl⟩) ?_
  show mj_W _ _ _ _ _ 0 [.ref w, .int a1, .int a2, .int a3, .int a4, .int a5] [] _
  refine mj_aload_n (i := 0) (q := 1) dX4_tell_0 rfl rfl rfl ?_
  refine mj_iload_n (i := 1) (q := 2) dX4_tell_1 rfl rfl rfl ?_
  refine mj_putf (q := 5) dX4_tell_2 fl_X4_7 rfl rfl (by assumption) rfl rfl rfl ?_
  refine mj_aload_n (i := 0) (q := 6) dX4_tell_5 rfl rfl rfl ?_
  refine mj_iload_n (i := 2) (q := 7) dX4_tell_6 rfl rfl rfl ?_
  refine mj_putf (q := 10) dX4_tell_7 fl_X4_13 rfl rfl (by assumption) rfl rfl rfl ?_
  refine mj_aload_n (i := 0) (q := 11) dX4_tell_10 rfl rfl rfl ?_
  refine mj_iload_n (i := 3) (q := 12) dX4_tell_11 rfl rfl rfl ?_
  refine mj_putf (q := 15) dX4_tell_12 fl_X4_16 rfl rfl (by assumption) rfl rfl rfl ?_
  refine mj_aload_n (i := 0) (q := 16) dX4_tell_15 rfl rfl rfl ?_
  refine mj_iload (i := 4) (q := 18) dX4_tell_16 rfl rfl ?_
  refine mj_putf (q := 21) dX4_tell_18 fl_X4_19 rfl rfl (by assumption) rfl rfl rfl ?_
  refine mj_aload_n (i := 0) (q := 22) dX4_tell_21 rfl rfl rfl ?_
  refine mj_iload (i := 5) (q := 24) dX4_tell_22 rfl rfl ?_
  refine mj_putf (q := 27) dX4_tell_24 fl_X4_22 rfl rfl (by assumption) rfl rfl rfl ?_
  refine mj_return dX4_tell_27 rfl ⟨rfl, _, rfl, ?_, ?_⟩
  · intro W h0 h1 h2 h3 h4 k hk
    have : k = 0 ∨ k = 1 ∨ k = 2 ∨ k = 3 ∨ k = 4 := by omega
    rcases this with rfl | rfl | rfl | rfl | rfl <;> simp [mj_up, h0, h1, h2, h3, h4]
  · repeat (first | exact mj_Fr.rf | exact (by assumption) | refine mj_Fr.up ?_ (by omega) (by omega))
set_option maxHeartbeats 4000000 in
set_option maxRecDepth 100000 in
theorem s_runRisk {d r : Nat} {n : Nat} {K : Nat → mj_K} {f : Nat → Nat → Int32} {g : Nat → Nat → Option Nat} {x : rV} (hL : LRn K g r) (hR : RN f r x) : mj_Ci m_X2_risk (d + 3) [.ref r] (n, K, f, g) (fun v h1 => h1 = (n, K, f, g) ∧ v = vRisk (x.2 3) x.1) := by
  obtain ⟨kr, gr, hLs⟩ := hL
  have ks : K (r + 1) = (2, 3, 0) := hLs.1
  have e3 : f r 3 = x.2 3 := hR.2.1 3 (by omega) (by omega)
  refine mj_entry (by refine ⟨by decide +kernel, by decide, rfl, Nat.le_of_ble_eq_true rfl⟩) ?_
  show mj_W _ _ _ _ _ 0 [.ref r] [] _
  refine mj_aload_n (i := 0) (q := 1) dX2_risk_0 rfl rfl rfl ?_
  refine mj_getr (q := 4) dX2_risk_1 fl_X2_12 rfl rfl (by assumption) (by assumption) ?_
  refine mj_aload_n (i := 0) (q := 5) dX2_risk_4 rfl rfl rfl ?_
  refine mj_getfv (q := 8) dX2_risk_5 fl_X2_32 rfl rfl (by assumption) (by assumption) ?_
  refine mj_cV1i (K := m_X3_risk) (q := 11) dX2_risk_8 ln_X2_75 ok_X3_risk (Nat.le_of_ble_eq_true rfl) (by decide) (by assumption) rfl rfl (s_risk hLs hR.1) (fun r_8 h1 hq => ?_)
  obtain ⟨rfl, rfl⟩ := hq
  exact mj_ireturn dX2_risk_11 ⟨_, rfl, rfl⟩ ⟨_, rfl, ⟨rfl, rfl⟩⟩
set_option maxHeartbeats 4000000 in
set_option maxRecDepth 100000 in
theorem s_runShear {d r : Nat} {n : Nat} {K : Nat → mj_K} {f : Nat → Nat → Int32} {g : Nat → Nat → Option Nat} {x : rV} (hL : LRn K g r) (hR : RN f r x) : mj_Ci m_X2_shear (d + 2) [.ref r] (n, K, f, g) (fun v h1 => h1 = (n, K, f, g) ∧ v = vShear (x.2 3) x.1) := by
  obtain ⟨kr, gr, hLs⟩ := hL
  have ks : K (r + 1) = (2, 3, 0) := hLs.1
  have e3 : f r 3 = x.2 3 := hR.2.1 3 (by omega) (by omega)
  refine mj_entry (by refine ⟨by decide +kernel, by decide, rfl, Nat.le_of_ble_eq_true rfl⟩) ?_
  show mj_W _ _ _ _ _ 0 [.ref r] [] _
  refine mj_aload_n (i := 0) (q := 1) dX2_shear_0 rfl rfl rfl ?_
  refine mj_getr (q := 4) dX2_shear_1 fl_X2_12 rfl rfl (by assumption) (by assumption) ?_
  refine mj_aload_n (i := 0) (q := 5) dX2_shear_4 rfl rfl rfl ?_
  refine mj_getfv (q := 8) dX2_shear_5 fl_X2_32 rfl rfl (by assumption) (by assumption) ?_
  refine mj_cV1i (K := m_X3_shear) (q := 11) dX2_shear_8 ln_X2_79 ok_X3_shear (Nat.le_of_ble_eq_true rfl) (by decide) (by assumption) rfl rfl (s_shear hLs hR.1) (fun r_8 h1 hq => ?_)
  obtain ⟨rfl, rfl⟩ := hq
  exact mj_ireturn dX2_shear_11 ⟨_, rfl, rfl⟩ ⟨_, rfl, ⟨rfl, rfl⟩⟩
set_option maxHeartbeats 4000000 in
set_option maxRecDepth 100000 in
theorem s_runSize {d r : Nat} {sh : Int32} {n : Nat} {K : Nat → mj_K} {f : Nat → Nat → Int32} {g : Nat → Nat → Option Nat} {x : rV} (hL : LRn K g r) (hR : RN f r x) (hsh : sh = -1 ∨ ∃ k, k < x.1.1 ∧ sh = nI k) : mj_Ci m_X2_sizeFrom (d + 2) [.ref r, .int sh] (n, K, f, g) (fun v h1 => h1 = (n, K, f, g) ∧ v = vSize sh (x.2 5) x.1) := by
  obtain ⟨kr, gr, hLs⟩ := hL
  have ks : K (r + 1) = (2, 3, 0) := hLs.1
  have e5 : f r 5 = x.2 5 := hR.2.1 5 (by omega) (by omega)
  have h8 : x.1.1 ≤ 8 := hR.1.1
  refine mj_entry (by refine ⟨by decide +kernel, by decide, rfl, Nat.le_of_ble_eq_true rfl⟩) ?_
  show mj_W _ _ _ _ _ 0 [.ref r, .int sh] [] _
  refine mj_iload_n (i := 1) (q := 1) dX2_sizeFrom_0 rfl rfl rfl ?_
  refine mj_num1 (v := (-1)) (q := 2) rfl dX2_sizeFrom_1 rfl ?_
  refine mj_icmp_ne (tgt := 9) (q := 5) dX2_sizeFrom_2 (by decide) rfl (fun c_2 => ?_) (fun c_2 => ?_)
  · obtain ⟨k, hk, rfl⟩ := hsh.resolve_left c_2
    have hkc : (nI k).toNatClampNeg = k := nI_clamp (by omega)
    refine mj_aload_n (i := 0) (q := 10) dX2_sizeFrom_9 rfl rfl rfl ?_
    refine mj_getr (q := 13) dX2_sizeFrom_10 fl_X2_12 rfl rfl (by assumption) (by assumption) ?_
    refine mj_iload_n (i := 1) (q := 14) dX2_sizeFrom_13 rfl rfl rfl ?_
    refine mj_cV1i (K := m_X3_depthFrom) (q := 17) dX2_sizeFrom_14 ln_X2_82 ok_X3_depthFrom (Nat.le_of_ble_eq_true rfl) (by decide) (by assumption) rfl rfl (s_depthFrom hLs hR.1 (lo := k) (by omega)) (fun r_14 h1 hq => ?_)
    obtain ⟨rfl, rfl⟩ := hq
    refine mj_aload_n (i := 0) (q := 18) dX2_sizeFrom_17 rfl rfl rfl ?_
    refine mj_getfv (q := 21) dX2_sizeFrom_18 fl_X2_38 rfl rfl (by assumption) (by assumption) ?_
    refine mj_imul (q := 22) dX2_sizeFrom_21 rfl ?_
    exact mj_ireturn dX2_sizeFrom_22 ⟨_, rfl, rfl⟩ ⟨_, rfl, rfl, by simp only [vSize]; rw [if_neg c_2, hkc]⟩
  · refine mj_num1 (v := 0) (q := 6) rfl dX2_sizeFrom_5 rfl ?_
    refine mj_goto (q := 22) dX2_sizeFrom_6 (by decide) ?_
    exact mj_ireturn dX2_sizeFrom_22 ⟨_, rfl, rfl⟩ ⟨_, rfl, rfl, by simp only [vSize]; rw [if_pos c_2]⟩
set_option maxHeartbeats 4000000 in
set_option maxRecDepth 100000 in
theorem s_runBecome {d r r2 : Nat} {n : Nat} {K : Nat → mj_K} {f : Nat → Nat → Int32} {g : Nat → Nat → Option Nat} {x : rV} (hL : LRn K g r) (hL2 : LRn K g r2) (hap : r + 5 ≤ r2 ∨ r2 + 5 ≤ r) (hR : RN f r2 x) : mj_Cv m_X2_become (d + 2) [.ref r, .ref r2] (n, K, f, g) (fun h1 => ∃ f1, h1 = (n, K, f1, g) ∧ RN f1 r x ∧ mj_Fr r (r + 5) f f1) := by
  obtain ⟨kr, gr, hLs⟩ := hL
  have ks : K (r + 1) = (2, 3, 0) := hLs.1
  obtain ⟨kr2, gr2, hLs2⟩ := hL2
  have hne : ¬ r2 = r := by omega
  refine mj_entry (by refine ⟨by decide +kernel, by decide, rfl, Nat.le_of_ble_eq_true rfl⟩) ?_
  show mj_W _ _ _ _ _ 0 [.ref r, .ref r2] [] _
  refine mj_aload_n (i := 0) (q := 1) dX2_become_0 rfl rfl rfl ?_
  refine mj_getr (q := 4) dX2_become_1 fl_X2_12 rfl rfl (by assumption) (by assumption) ?_
  refine mj_aload_n (i := 1) (q := 5) dX2_become_4 rfl rfl rfl ?_
  refine mj_getr (q := 8) dX2_become_5 fl_X2_12 rfl rfl (by assumption) (by assumption) ?_
  refine mj_cV1v (K := m_X3_become) (q := 11) dX2_become_8 ln_X2_22 ok_X3_become (Nat.le_of_ble_eq_true rfl) (by decide) (by assumption) rfl rfl (s_snowBecome hLs hLs2 (by omega) hR.1) (fun h1 hq => ?_)
  obtain ⟨f1, rfl, hS1, hF1⟩ := hq
  have e1 : f1 r2 1 = x.2 1 := by rw [hF1 r2 (by omega)]; exact hR.2.1 1 (by omega) (by omega)
  have e2 : f1 r2 2 = x.2 2 := by rw [hF1 r2 (by omega)]; exact hR.2.1 2 (by omega) (by omega)
  have e3 : f1 r2 3 = x.2 3 := by rw [hF1 r2 (by omega)]; exact hR.2.1 3 (by omega) (by omega)
  have e4 : f1 r2 4 = x.2 4 := by rw [hF1 r2 (by omega)]; exact hR.2.1 4 (by omega) (by omega)
  have e5 : f1 r2 5 = x.2 5 := by rw [hF1 r2 (by omega)]; exact hR.2.1 5 (by omega) (by omega)
  have e6 : f1 r2 6 = x.2 6 := by rw [hF1 r2 (by omega)]; exact hR.2.1 6 (by omega) (by omega)
  have e7 : f1 r2 7 = x.2 7 := by rw [hF1 r2 (by omega)]; exact hR.2.1 7 (by omega) (by omega)
  have e8 : f1 r2 8 = x.2 8 := by rw [hF1 r2 (by omega)]; exact hR.2.1 8 (by omega) (by omega)
  have e9 : f1 r2 9 = x.2 9 := by rw [hF1 r2 (by omega)]; exact hR.2.1 9 (by omega) (by omega)
  have e10 : f1 r2 10 = x.2 10 := by rw [hF1 r2 (by omega)]; exact hR.2.1 10 (by omega) (by omega)
  have e11 : f1 r2 11 = x.2 11 := by rw [hF1 r2 (by omega)]; exact hR.2.1 11 (by omega) (by omega)
  have e12 : f1 r2 12 = x.2 12 := by rw [hF1 r2 (by omega)]; exact hR.2.1 12 (by omega) (by omega)
  have e13 : f1 r2 13 = x.2 13 := by rw [hF1 r2 (by omega)]; exact hR.2.1 13 (by omega) (by omega)
  have e14 : f1 r2 14 = x.2 14 := by rw [hF1 r2 (by omega)]; exact hR.2.1 14 (by omega) (by omega)
  have e15 : f1 r2 15 = x.2 15 := by rw [hF1 r2 (by omega)]; exact hR.2.1 15 (by omega) (by omega)
  have e16 : f1 r2 16 = x.2 16 := by rw [hF1 r2 (by omega)]; exact hR.2.1 16 (by omega) (by omega)
  have e17 : f1 r2 17 = x.2 17 := by rw [hF1 r2 (by omega)]; exact hR.2.1 17 (by omega) (by omega)
  refine mj_aload_n (i := 0) (q := 12) dX2_become_11 rfl rfl rfl ?_
  refine mj_aload_n (i := 1) (q := 13) dX2_become_12 rfl rfl rfl ?_
  refine mj_getf (q := 16) dX2_become_13 fl_X2_26 rfl rfl (by assumption) ?_
  refine mj_putf (q := 19) dX2_become_16 fl_X2_26 rfl rfl (by assumption) rfl rfl rfl ?_
  refine mj_aload_n (i := 0) (q := 20) dX2_become_19 rfl rfl rfl ?_
  refine mj_aload_n (i := 1) (q := 21) dX2_become_20 rfl rfl rfl ?_
  refine mj_getf (q := 24) dX2_become_21 fl_X2_29 rfl rfl (by assumption) ?_
  refine mj_putf (q := 27) dX2_become_24 fl_X2_29 rfl rfl (by assumption) rfl rfl rfl ?_
  refine mj_aload_n (i := 0) (q := 28) dX2_become_27 rfl rfl rfl ?_
  refine mj_aload_n (i := 1) (q := 29) dX2_become_28 rfl rfl rfl ?_
  refine mj_getf (q := 32) dX2_become_29 fl_X2_32 rfl rfl (by assumption) ?_
  refine mj_putf (q := 35) dX2_become_32 fl_X2_32 rfl rfl (by assumption) rfl rfl rfl ?_
  refine mj_aload_n (i := 0) (q := 36) dX2_become_35 rfl rfl rfl ?_
  refine mj_aload_n (i := 1) (q := 37) dX2_become_36 rfl rfl rfl ?_
  refine mj_getf (q := 40) dX2_become_37 fl_X2_35 rfl rfl (by assumption) ?_
  refine mj_putf (q := 43) dX2_become_40 fl_X2_35 rfl rfl (by assumption) rfl rfl rfl ?_
  refine mj_aload_n (i := 0) (q := 44) dX2_become_43 rfl rfl rfl ?_
  refine mj_aload_n (i := 1) (q := 45) dX2_become_44 rfl rfl rfl ?_
  refine mj_getf (q := 48) dX2_become_45 fl_X2_38 rfl rfl (by assumption) ?_
  refine mj_putf (q := 51) dX2_become_48 fl_X2_38 rfl rfl (by assumption) rfl rfl rfl ?_
  refine mj_aload_n (i := 0) (q := 52) dX2_become_51 rfl rfl rfl ?_
  refine mj_aload_n (i := 1) (q := 53) dX2_become_52 rfl rfl rfl ?_
  refine mj_getf (q := 56) dX2_become_53 fl_X2_41 rfl rfl (by assumption) ?_
  refine mj_putf (q := 59) dX2_become_56 fl_X2_41 rfl rfl (by assumption) rfl rfl rfl ?_
  refine mj_aload_n (i := 0) (q := 60) dX2_become_59 rfl rfl rfl ?_
  refine mj_aload_n (i := 1) (q := 61) dX2_become_60 rfl rfl rfl ?_
  refine mj_getf (q := 64) dX2_become_61 fl_X2_44 rfl rfl (by assumption) ?_
  refine mj_putf (q := 67) dX2_become_64 fl_X2_44 rfl rfl (by assumption) rfl rfl rfl ?_
  refine mj_aload_n (i := 0) (q := 68) dX2_become_67 rfl rfl rfl ?_
  refine mj_aload_n (i := 1) (q := 69) dX2_become_68 rfl rfl rfl ?_
  refine mj_getf (q := 72) dX2_become_69 fl_X2_47 rfl rfl (by assumption) ?_
  refine mj_putf (q := 75) dX2_become_72 fl_X2_47 rfl rfl (by assumption) rfl rfl rfl ?_
  refine mj_aload_n (i := 0) (q := 76) dX2_become_75 rfl rfl rfl ?_
  refine mj_aload_n (i := 1) (q := 77) dX2_become_76 rfl rfl rfl ?_
  refine mj_getf (q := 80) dX2_become_77 fl_X2_50 rfl rfl (by assumption) ?_
  refine mj_putf (q := 83) dX2_become_80 fl_X2_50 rfl rfl (by assumption) rfl rfl rfl ?_
  refine mj_aload_n (i := 0) (q := 84) dX2_become_83 rfl rfl rfl ?_
  refine mj_aload_n (i := 1) (q := 85) dX2_become_84 rfl rfl rfl ?_
  refine mj_getf (q := 88) dX2_become_85 fl_X2_53 rfl rfl (by assumption) ?_
  refine mj_putf (q := 91) dX2_become_88 fl_X2_53 rfl rfl (by assumption) rfl rfl rfl ?_
  refine mj_aload_n (i := 0) (q := 92) dX2_become_91 rfl rfl rfl ?_
  refine mj_aload_n (i := 1) (q := 93) dX2_become_92 rfl rfl rfl ?_
  refine mj_getf (q := 96) dX2_become_93 fl_X2_56 rfl rfl (by assumption) ?_
  refine mj_putf (q := 99) dX2_become_96 fl_X2_56 rfl rfl (by assumption) rfl rfl rfl ?_
  refine mj_aload_n (i := 0) (q := 100) dX2_become_99 rfl rfl rfl ?_
  refine mj_aload_n (i := 1) (q := 101) dX2_become_100 rfl rfl rfl ?_
  refine mj_getf (q := 104) dX2_become_101 fl_X2_18 rfl rfl (by assumption) ?_
  refine mj_putf (q := 107) dX2_become_104 fl_X2_18 rfl rfl (by assumption) rfl rfl rfl ?_
  refine mj_aload_n (i := 0) (q := 108) dX2_become_107 rfl rfl rfl ?_
  refine mj_aload_n (i := 1) (q := 109) dX2_become_108 rfl rfl rfl ?_
  refine mj_getf (q := 112) dX2_become_109 fl_X2_59 rfl rfl (by assumption) ?_
  refine mj_putf (q := 115) dX2_become_112 fl_X2_59 rfl rfl (by assumption) rfl rfl rfl ?_
  refine mj_aload_n (i := 0) (q := 116) dX2_become_115 rfl rfl rfl ?_
  refine mj_aload_n (i := 1) (q := 117) dX2_become_116 rfl rfl rfl ?_
  refine mj_getf (q := 120) dX2_become_117 fl_X2_62 rfl rfl (by assumption) ?_
  refine mj_putf (q := 123) dX2_become_120 fl_X2_62 rfl rfl (by assumption) rfl rfl rfl ?_
  refine mj_aload_n (i := 0) (q := 124) dX2_become_123 rfl rfl rfl ?_
  refine mj_aload_n (i := 1) (q := 125) dX2_become_124 rfl rfl rfl ?_
  refine mj_getf (q := 128) dX2_become_125 fl_X2_65 rfl rfl (by assumption) ?_
  refine mj_putf (q := 131) dX2_become_128 fl_X2_65 rfl rfl (by assumption) rfl (mj_bool (by simp [mj_up, hne, e15]; exact hR.2.2.1)).1 (mj_bool (by simp [mj_up, hne, e15]; exact hR.2.2.1)).2 ?_
  refine mj_aload_n (i := 0) (q := 132) dX2_become_131 rfl rfl rfl ?_
  refine mj_aload_n (i := 1) (q := 133) dX2_become_132 rfl rfl rfl ?_
  refine mj_getf (q := 136) dX2_become_133 fl_X2_69 rfl rfl (by assumption) ?_
  refine mj_putf (q := 139) dX2_become_136 fl_X2_69 rfl rfl (by assumption) rfl (mj_bool (by simp [mj_up, hne, e16]; exact hR.2.2.2.1)).1 (mj_bool (by simp [mj_up, hne, e16]; exact hR.2.2.2.1)).2 ?_
  refine mj_aload_n (i := 0) (q := 140) dX2_become_139 rfl rfl rfl ?_
  refine mj_aload_n (i := 1) (q := 141) dX2_become_140 rfl rfl rfl ?_
  refine mj_getf (q := 144) dX2_become_141 fl_X2_72 rfl rfl (by assumption) ?_
  refine mj_putf (q := 147) dX2_become_144 fl_X2_72 rfl rfl (by assumption) rfl (mj_bool (by simp [mj_up, hne, e17]; exact hR.2.2.2.2)).1 (mj_bool (by simp [mj_up, hne, e17]; exact hR.2.2.2.2)).2 ?_
  refine mj_return dX2_become_147 rfl ⟨rfl, _, rfl, ⟨?_, ?_, hR.2.2⟩, ?_⟩
  · refine hS1.keep (lo := r) (hi := r + 1) ?_ (by omega)
    repeat (first | exact mj_Fr.rf | exact (by assumption) | refine mj_Fr.up ?_ (by omega) (by omega))
  · intro k h1 h2
    have : k = 1 ∨ k = 2 ∨ k = 3 ∨ k = 4 ∨ k = 5 ∨ k = 6 ∨ k = 7 ∨ k = 8 ∨ k = 9 ∨ k = 10 ∨ k = 11 ∨ k = 12 ∨ k = 13 ∨ k = 14 ∨ k = 15 ∨ k = 16 ∨ k = 17 := by omega
    rcases this with rfl | rfl | rfl | rfl | rfl | rfl | rfl | rfl | rfl | rfl | rfl | rfl | rfl | rfl | rfl | rfl | rfl <;> simp [mj_up, hne, e1, e2, e3, e4, e5, e6, e7, e8, e9, e10, e11, e12, e13, e14, e15, e16, e17]
  · repeat (first | exact mj_Fr.wide hF1 (by omega) (by omega) | refine mj_Fr.up ?_ (by omega) (by omega))
set_option maxHeartbeats 4000000 in
set_option maxRecDepth 100000 in
theorem s_weatherSnow {d r wt z : Nat} {temp clock : Int32} {W : Nat → Int32} {n : Nat} {K : Nat → mj_K} {f : Nat → Nat → Int32} {g : Nat → Nat → Option Nat} {x : rV} (hL : LRn K g r) (hR : RN f r x) (hKw : K wt = (2, 4, z)) (hW : WN f wt W) (hap : wt < r ∨ r + 5 ≤ wt) : mj_Cv m_X2_weatherSnow (d + 4) [.ref r, .ref wt, .int temp, .int clock] (n, K, f, g) (fun h1 => ∃ f2, h1 = (n, K, f2, g) ∧ SN f2 (r + 1) (vWeather W (x.2 4) temp clock x.1) ∧ mj_Fr (r + 1) (r + 5) f f2) := by
  obtain ⟨kr, gr, hLs⟩ := hL
  have ks : K (r + 1) = (2, 3, 0) := hLs.1
  have main : ∀ dr : Int32, (dr = 0 ↔ ¬ W 1 = 0) → ∀ f1 : Nat → Nat → Int32, SN f1 (r + 1) (vCome (W 1) temp x.1) → mj_Fr (r + 1) (r + 5) f f1 → mj_W m_X2_weatherSnow (d + 4) 0 0 (fun v h1 => v = none ∧ ∃ f2, h1 = (n, K, f2, g) ∧ SN f2 (r + 1) (vWeather W (x.2 4) temp clock x.1) ∧ mj_Fr (r + 1) (r + 5) f f2) 26 [.ref r, .ref wt, .int temp, .int clock, .int dr] [] (n, K, f1, g) := by
    intro dr hdr
    have key166 : ∀ f1 : Nat → Nat → Int32, SN f1 (r + 1) (vWd W temp clock (vWc temp (vWb W (x.2 4) temp clock (vWa W (x.2 4) temp (vCome (W 1) temp x.1))))) → mj_Fr (r + 1) (r + 5) f f1 → mj_W m_X2_weatherSnow (d + 4) 0 0 (fun v h1 => v = none ∧ ∃ f2, h1 = (n, K, f2, g) ∧ SN f2 (r + 1) (vWeather W (x.2 4) temp clock x.1) ∧ mj_Fr (r + 1) (r + 5) f f2) 166 [.ref r, .ref wt, .int temp, .int clock, .int dr] [] (n, K, f1, g) := by
      intro f1 hS1 hF1
      refine mj_aload_n (i := 0) (q := 167) dX2_weatherSnow_166 rfl rfl rfl ?_
      refine mj_getr (q := 170) dX2_weatherSnow_167 fl_X2_12 rfl rfl (by assumption) (by assumption) ?_
      refine mj_iload_n (i := 3) (q := 171) dX2_weatherSnow_170 rfl rfl rfl ?_
      refine mj_num2 (v := 12) (q := 173) (by decide) dX2_weatherSnow_171 rfl ?_
      refine mj_icmp_ne (tgt := 180) (q := 176) dX2_weatherSnow_173 (by decide) rfl (fun c_173 => ?_) (fun c_173 => ?_)
      · refine mj_num1 (v := 0) (q := 181) rfl dX2_weatherSnow_180 rfl ?_
        refine mj_cV1v (K := m_X3_settle) (q := 184) dX2_weatherSnow_181 ln_X2_114 ok_X3_settle (Nat.le_of_ble_eq_true rfl) (by decide) (by assumption) rfl rfl (s_settle hLs hS1) (fun h1 hq => ?_)
        obtain ⟨f2, rfl, hS2, hF2⟩ := hq
        have hF3 := hF1.tr hF2
        have e : vWeather W (x.2 4) temp clock x.1 = vSettle 0 (vWd W temp clock (vWc temp (vWb W (x.2 4) temp clock (vWa W (x.2 4) temp (vCome (W 1) temp x.1))))) := by simp only [vWeather]; rw [if_neg c_173]
        exact mj_return dX2_weatherSnow_184 rfl ⟨rfl, _, rfl, by rw [e]; exact hS2, hF3⟩
      · refine mj_num1 (v := 1) (q := 177) rfl dX2_weatherSnow_176 rfl ?_
        refine mj_goto (q := 181) dX2_weatherSnow_177 (by decide) ?_
        refine mj_cV1v (K := m_X3_settle) (q := 184) dX2_weatherSnow_181 ln_X2_114 ok_X3_settle (Nat.le_of_ble_eq_true rfl) (by decide) (by assumption) rfl rfl (s_settle hLs hS1) (fun h1 hq => ?_)
        obtain ⟨f2, rfl, hS2, hF2⟩ := hq
        have hF3 := hF1.tr hF2
        have e : vWeather W (x.2 4) temp clock x.1 = vSettle 1 (vWd W temp clock (vWc temp (vWb W (x.2 4) temp clock (vWa W (x.2 4) temp (vCome (W 1) temp x.1))))) := by simp only [vWeather]; rw [if_pos c_173]
        exact mj_return dX2_weatherSnow_184 rfl ⟨rfl, _, rfl, by rw [e]; exact hS2, hF3⟩
    have key143 : ∀ f1 : Nat → Nat → Int32, SN f1 (r + 1) (vWc temp (vWb W (x.2 4) temp clock (vWa W (x.2 4) temp (vCome (W 1) temp x.1)))) → mj_Fr (r + 1) (r + 5) f f1 → mj_W m_X2_weatherSnow (d + 4) 0 0 (fun v h1 => v = none ∧ ∃ f2, h1 = (n, K, f2, g) ∧ SN f2 (r + 1) (vWeather W (x.2 4) temp clock x.1) ∧ mj_Fr (r + 1) (r + 5) f f2) 143 [.ref r, .ref wt, .int temp, .int clock, .int dr] [] (n, K, f1, g) := by
      intro f1 hS1 hF1
      have a4 : f1 r 4 = x.2 4 := by rw [hF1 r (by omega)]; exact hR.2.1 4 (by omega) (by omega)
      have w0 : f1 wt 0 = W 0 := by rw [hF1 wt (by omega)]; exact hW 0 (by omega)
      have w1 : f1 wt 1 = W 1 := by rw [hF1 wt (by omega)]; exact hW 1 (by omega)
      have w2 : f1 wt 2 = W 2 := by rw [hF1 wt (by omega)]; exact hW 2 (by omega)
      have w3 : f1 wt 3 = W 3 := by rw [hF1 wt (by omega)]; exact hW 3 (by omega)
      have w4 : f1 wt 4 = W 4 := by rw [hF1 wt (by omega)]; exact hW 4 (by omega)
      refine mj_iload (i := 4) (q := 145) dX2_weatherSnow_143 rfl rfl ?_
      refine mj_if_eq (tgt := 166) (q := 148) dX2_weatherSnow_145 (by decide) rfl (fun c_145 => ?_) (fun c_145 => ?_)
      · have e : vWd W temp clock (vWc temp (vWb W (x.2 4) temp clock (vWa W (x.2 4) temp (vCome (W 1) temp x.1)))) = (vWc temp (vWb W (x.2 4) temp clock (vWa W (x.2 4) temp (vCome (W 1) temp x.1)))) := by simp only [vWd]; rw [if_neg (fun z => hdr.mp c_145 z.1)]
        exact key166 _ (by rw [e]; exact hS1) hF1
      · refine mj_iload_n (i := 3) (q := 149) dX2_weatherSnow_148 rfl rfl rfl ?_
        refine mj_num1 (v := 5) (q := 150) rfl dX2_weatherSnow_149 rfl ?_
        refine mj_icmp_gt (tgt := 166) (q := 153) dX2_weatherSnow_150 (by decide) rfl (fun c_150 => ?_) (fun c_150 => ?_)
        · have e : vWd W temp clock (vWc temp (vWb W (x.2 4) temp clock (vWa W (x.2 4) temp (vCome (W 1) temp x.1)))) = (vWc temp (vWb W (x.2 4) temp clock (vWa W (x.2 4) temp (vCome (W 1) temp x.1)))) := by simp only [vWd]; rw [if_neg (fun z => absurd c_150 (Int32.not_lt.mpr z.2.1))]
          exact key166 _ (by rw [e]; exact hS1) hF1
        · refine mj_iload_n (i := 2) (q := 154) dX2_weatherSnow_153 rfl rfl rfl ?_
          refine mj_num2 (v := (-12)) (q := 156) (by decide) dX2_weatherSnow_154 rfl ?_
          refine mj_icmp_gt (tgt := 166) (q := 159) dX2_weatherSnow_156 (by decide) rfl (fun c_156 => ?_) (fun c_156 => ?_)
          · have e : vWd W temp clock (vWc temp (vWb W (x.2 4) temp clock (vWa W (x.2 4) temp (vCome (W 1) temp x.1)))) = (vWc temp (vWb W (x.2 4) temp clock (vWa W (x.2 4) temp (vCome (W 1) temp x.1)))) := by simp only [vWd]; rw [if_neg (fun z => absurd c_156 (Int32.not_lt.mpr z.2.2))]
            exact key166 _ (by rw [e]; exact hS1) hF1
          · refine mj_aload_n (i := 0) (q := 160) dX2_weatherSnow_159 rfl rfl rfl ?_
            refine mj_getr (q := 163) dX2_weatherSnow_160 fl_X2_12 rfl rfl (by assumption) (by assumption) ?_
            refine mj_cV0v (K := m_X3_growWeak) (q := 166) dX2_weatherSnow_163 ln_X2_111 ok_X3_growWeak (Nat.le_of_ble_eq_true rfl) (by decide) (by assumption) rfl rfl (s_growWeak hLs hS1) (fun h1 hq => ?_)
            obtain ⟨f2, rfl, hS2, hF2⟩ := hq
            have hF3 := hF1.tr hF2
            have e : vWd W temp clock (vWc temp (vWb W (x.2 4) temp clock (vWa W (x.2 4) temp (vCome (W 1) temp x.1)))) = vWeak (vWc temp (vWb W (x.2 4) temp clock (vWa W (x.2 4) temp (vCome (W 1) temp x.1)))) := by simp only [vWd]; rw [if_pos ⟨Decidable.byContradiction (fun z => c_145 (hdr.mpr z)), Int32.not_lt.mp c_150, Int32.not_lt.mp c_156⟩]
            exact key166 _ (by rw [e]; exact hS2) hF3
    have key130 : ∀ f1 : Nat → Nat → Int32, SN f1 (r + 1) (vWb W (x.2 4) temp clock (vWa W (x.2 4) temp (vCome (W 1) temp x.1))) → mj_Fr (r + 1) (r + 5) f f1 → mj_W m_X2_weatherSnow (d + 4) 0 0 (fun v h1 => v = none ∧ ∃ f2, h1 = (n, K, f2, g) ∧ SN f2 (r + 1) (vWeather W (x.2 4) temp clock x.1) ∧ mj_Fr (r + 1) (r + 5) f f2) 130 [.ref r, .ref wt, .int temp, .int clock, .int dr] [] (n, K, f1, g) := by
      intro f1 hS1 hF1
      have a4 : f1 r 4 = x.2 4 := by rw [hF1 r (by omega)]; exact hR.2.1 4 (by omega) (by omega)
      have w0 : f1 wt 0 = W 0 := by rw [hF1 wt (by omega)]; exact hW 0 (by omega)
      have w1 : f1 wt 1 = W 1 := by rw [hF1 wt (by omega)]; exact hW 1 (by omega)
      have w2 : f1 wt 2 = W 2 := by rw [hF1 wt (by omega)]; exact hW 2 (by omega)
      have w3 : f1 wt 3 = W 3 := by rw [hF1 wt (by omega)]; exact hW 3 (by omega)
      have w4 : f1 wt 4 = W 4 := by rw [hF1 wt (by omega)]; exact hW 4 (by omega)
      refine mj_iload_n (i := 2) (q := 131) dX2_weatherSnow_130 rfl rfl rfl ?_
      refine mj_num2 (v := (-3)) (q := 133) (by decide) dX2_weatherSnow_131 rfl ?_
      refine mj_icmp_gt (tgt := 143) (q := 136) dX2_weatherSnow_133 (by decide) rfl (fun c_133 => ?_) (fun c_133 => ?_)
      · have e : vWc temp (vWb W (x.2 4) temp clock (vWa W (x.2 4) temp (vCome (W 1) temp x.1))) = (vWb W (x.2 4) temp clock (vWa W (x.2 4) temp (vCome (W 1) temp x.1))) := by simp only [vWc]; rw [if_neg (Int32.not_le.mpr c_133)]
        exact key143 _ (by rw [e]; exact hS1) hF1
      · refine mj_aload_n (i := 0) (q := 137) dX2_weatherSnow_136 rfl rfl rfl ?_
        refine mj_getr (q := 140) dX2_weatherSnow_137 fl_X2_12 rfl rfl (by assumption) (by assumption) ?_
        refine mj_cV0v (K := m_X3_freeze) (q := 143) dX2_weatherSnow_140 ln_X2_108 ok_X3_freeze (Nat.le_of_ble_eq_true rfl) (by decide) (by assumption) rfl rfl (s_freeze hLs hS1) (fun h1 hq => ?_)
        obtain ⟨f2, rfl, hS2, hF2⟩ := hq
        have hF3 := hF1.tr hF2
        have e : vWc temp (vWb W (x.2 4) temp clock (vWa W (x.2 4) temp (vCome (W 1) temp x.1))) = vFreeze (vWb W (x.2 4) temp clock (vWa W (x.2 4) temp (vCome (W 1) temp x.1))) := by simp only [vWc]; rw [if_pos (Int32.not_lt.mp c_133)]
        exact key143 _ (by rw [e]; exact hS2) hF3
    have key92 : ∀ f1 : Nat → Nat → Int32, SN f1 (r + 1) (vWa W (x.2 4) temp (vCome (W 1) temp x.1)) → mj_Fr (r + 1) (r + 5) f f1 → mj_W m_X2_weatherSnow (d + 4) 0 0 (fun v h1 => v = none ∧ ∃ f2, h1 = (n, K, f2, g) ∧ SN f2 (r + 1) (vWeather W (x.2 4) temp clock x.1) ∧ mj_Fr (r + 1) (r + 5) f f2) 92 [.ref r, .ref wt, .int temp, .int clock, .int dr] [] (n, K, f1, g) := by
      intro f1 hS1 hF1
      have a4 : f1 r 4 = x.2 4 := by rw [hF1 r (by omega)]; exact hR.2.1 4 (by omega) (by omega)
      have w0 : f1 wt 0 = W 0 := by rw [hF1 wt (by omega)]; exact hW 0 (by omega)
      have w1 : f1 wt 1 = W 1 := by rw [hF1 wt (by omega)]; exact hW 1 (by omega)
      have w2 : f1 wt 2 = W 2 := by rw [hF1 wt (by omega)]; exact hW 2 (by omega)
      have w3 : f1 wt 3 = W 3 := by rw [hF1 wt (by omega)]; exact hW 3 (by omega)
      have w4 : f1 wt 4 = W 4 := by rw [hF1 wt (by omega)]; exact hW 4 (by omega)
      refine mj_iload (i := 4) (q := 94) dX2_weatherSnow_92 rfl rfl ?_
      refine mj_if_eq (tgt := 130) (q := 97) dX2_weatherSnow_94 (by decide) rfl (fun c_94 => ?_) (fun c_94 => ?_)
      · have e : vWb W (x.2 4) temp clock (vWa W (x.2 4) temp (vCome (W 1) temp x.1)) = (vWa W (x.2 4) temp (vCome (W 1) temp x.1)) := by simp only [vWb]; rw [if_neg (fun z => hdr.mp c_94 z.1)]
        exact key130 _ (by rw [e]; exact hS1) hF1
      · refine mj_iload_n (i := 3) (q := 98) dX2_weatherSnow_97 rfl rfl rfl ?_
        refine mj_num2 (v := 10) (q := 100) (by decide) dX2_weatherSnow_98 rfl ?_
        refine mj_icmp_lt (tgt := 130) (q := 103) dX2_weatherSnow_100 (by decide) rfl (fun c_100 => ?_) (fun c_100 => ?_)
        · have e : vWb W (x.2 4) temp clock (vWa W (x.2 4) temp (vCome (W 1) temp x.1)) = (vWa W (x.2 4) temp (vCome (W 1) temp x.1)) := by simp only [vWb]; rw [if_neg (fun z => absurd c_100 (Int32.not_lt.mpr z.2.1))]
          exact key130 _ (by rw [e]; exact hS1) hF1
        · refine mj_iload_n (i := 3) (q := 104) dX2_weatherSnow_103 rfl rfl rfl ?_
          refine mj_num2 (v := 15) (q := 106) (by decide) dX2_weatherSnow_104 rfl ?_
          refine mj_icmp_gt (tgt := 130) (q := 109) dX2_weatherSnow_106 (by decide) rfl (fun c_106 => ?_) (fun c_106 => ?_)
          · have e : vWb W (x.2 4) temp clock (vWa W (x.2 4) temp (vCome (W 1) temp x.1)) = (vWa W (x.2 4) temp (vCome (W 1) temp x.1)) := by simp only [vWb]; rw [if_neg (fun z => absurd c_106 (Int32.not_lt.mpr z.2.2.1))]
            exact key130 _ (by rw [e]; exact hS1) hF1
          · refine mj_aload_n (i := 0) (q := 110) dX2_weatherSnow_109 rfl rfl rfl ?_
            refine mj_getfv (q := 113) dX2_weatherSnow_110 fl_X2_35 rfl rfl (by assumption) (by assumption) ?_
            refine mj_num1 (v := 2) (q := 114) rfl dX2_weatherSnow_113 rfl ?_
            refine mj_icmp_eq (tgt := 122) (q := 117) dX2_weatherSnow_114 (by decide) rfl (fun c_114 => ?_) (fun c_114 => ?_)
            · refine mj_aload_n (i := 0) (q := 123) dX2_weatherSnow_122 rfl rfl rfl ?_
              refine mj_getr (q := 126) dX2_weatherSnow_123 fl_X2_12 rfl rfl (by assumption) (by assumption) ?_
              refine mj_num1 (v := 1) (q := 127) rfl dX2_weatherSnow_126 rfl ?_
              refine mj_cV1v (K := m_X3_melt) (q := 130) dX2_weatherSnow_127 ln_X2_104 ok_X3_melt (Nat.le_of_ble_eq_true rfl) (by decide) (by assumption) rfl rfl (s_melt hLs hS1) (fun h1 hq => ?_)
              obtain ⟨f2, rfl, hS2, hF2⟩ := hq
              have hF3 := hF1.tr hF2
              have e : vWb W (x.2 4) temp clock (vWa W (x.2 4) temp (vCome (W 1) temp x.1)) = vMelt 1 (vWa W (x.2 4) temp (vCome (W 1) temp x.1)) := by simp only [vWb]; rw [if_pos ⟨Decidable.byContradiction (fun z => c_94 (hdr.mpr z)), Int32.not_lt.mp c_100, Int32.not_lt.mp c_106, Or.inl c_114⟩]
              exact key130 _ (by rw [e]; exact hS2) hF3
            · refine mj_iload_n (i := 2) (q := 118) dX2_weatherSnow_117 rfl rfl rfl ?_
              refine mj_num1 (v := 2) (q := 119) rfl dX2_weatherSnow_118 rfl ?_
              refine mj_icmp_le (tgt := 130) (q := 122) dX2_weatherSnow_119 (by decide) rfl (fun c_119 => ?_) (fun c_119 => ?_)
              · have e : vWb W (x.2 4) temp clock (vWa W (x.2 4) temp (vCome (W 1) temp x.1)) = (vWa W (x.2 4) temp (vCome (W 1) temp x.1)) := by simp only [vWb]; rw [if_neg (fun z => z.2.2.2.elim c_114 (fun y => absurd c_119 (Int32.not_le.mpr y)))]
                exact key130 _ (by rw [e]; exact hS1) hF1
              · refine mj_aload_n (i := 0) (q := 123) dX2_weatherSnow_122 rfl rfl rfl ?_
                refine mj_getr (q := 126) dX2_weatherSnow_123 fl_X2_12 rfl rfl (by assumption) (by assumption) ?_
                refine mj_num1 (v := 1) (q := 127) rfl dX2_weatherSnow_126 rfl ?_
                refine mj_cV1v (K := m_X3_melt) (q := 130) dX2_weatherSnow_127 ln_X2_104 ok_X3_melt (Nat.le_of_ble_eq_true rfl) (by decide) (by assumption) rfl rfl (s_melt hLs hS1) (fun h1 hq => ?_)
                obtain ⟨f2, rfl, hS2, hF2⟩ := hq
                have hF3 := hF1.tr hF2
                have e : vWb W (x.2 4) temp clock (vWa W (x.2 4) temp (vCome (W 1) temp x.1)) = vMelt 1 (vWa W (x.2 4) temp (vCome (W 1) temp x.1)) := by simp only [vWb]; rw [if_pos ⟨Decidable.byContradiction (fun z => c_94 (hdr.mpr z)), Int32.not_lt.mp c_100, Int32.not_lt.mp c_106, Or.inr (Int32.not_le.mp c_119)⟩]
                exact key130 _ (by rw [e]; exact hS2) hF3
    have key26 : ∀ f1 : Nat → Nat → Int32, SN f1 (r + 1) (vCome (W 1) temp x.1) → mj_Fr (r + 1) (r + 5) f f1 → mj_W m_X2_weatherSnow (d + 4) 0 0 (fun v h1 => v = none ∧ ∃ f2, h1 = (n, K, f2, g) ∧ SN f2 (r + 1) (vWeather W (x.2 4) temp clock x.1) ∧ mj_Fr (r + 1) (r + 5) f f2) 26 [.ref r, .ref wt, .int temp, .int clock, .int dr] [] (n, K, f1, g) := by
      intro f1 hS1 hF1
      have a4 : f1 r 4 = x.2 4 := by rw [hF1 r (by omega)]; exact hR.2.1 4 (by omega) (by omega)
      have w0 : f1 wt 0 = W 0 := by rw [hF1 wt (by omega)]; exact hW 0 (by omega)
      have w1 : f1 wt 1 = W 1 := by rw [hF1 wt (by omega)]; exact hW 1 (by omega)
      have w2 : f1 wt 2 = W 2 := by rw [hF1 wt (by omega)]; exact hW 2 (by omega)
      have w3 : f1 wt 3 = W 3 := by rw [hF1 wt (by omega)]; exact hW 3 (by omega)
      have w4 : f1 wt 4 = W 4 := by rw [hF1 wt (by omega)]; exact hW 4 (by omega)
      refine mj_aload_n (i := 1) (q := 27) dX2_weatherSnow_26 rfl rfl rfl ?_
      refine mj_getfv (q := 30) dX2_weatherSnow_27 fl_X2_94 rfl rfl (by assumption) (by assumption) ?_
      refine mj_num1 (v := 4) (q := 31) rfl dX2_weatherSnow_30 rfl ?_
      refine mj_icmp_le (tgt := 92) (q := 34) dX2_weatherSnow_31 (by decide) rfl (fun c_31 => ?_) (fun c_31 => ?_)
      · have e : vWa W (x.2 4) temp (vCome (W 1) temp x.1) = (vCome (W 1) temp x.1) := by simp only [vWa]; rw [if_neg (fun z => absurd c_31 (Int32.not_le.mpr z.1))]
        exact key92 _ (by rw [e]; exact hS1) hF1
      · refine mj_iload (i := 4) (q := 36) dX2_weatherSnow_34 rfl rfl ?_
        refine mj_if_ne (tgt := 43) (q := 39) dX2_weatherSnow_36 (by decide) rfl (fun c_36 => ?_) (fun c_36 => ?_)
        · refine mj_aload_n (i := 0) (q := 44) dX2_weatherSnow_43 rfl rfl rfl ?_
          refine mj_getr (q := 47) dX2_weatherSnow_44 fl_X2_12 rfl rfl (by assumption) (by assumption) ?_
          refine mj_aload_n (i := 1) (q := 48) dX2_weatherSnow_47 rfl rfl rfl ?_
          refine mj_getfv (q := 51) dX2_weatherSnow_48 fl_X2_94 rfl rfl (by assumption) (by assumption) ?_
          refine mj_num1 (v := 4) (q := 52) rfl dX2_weatherSnow_51 rfl ?_
          refine mj_isub (q := 53) dX2_weatherSnow_52 rfl ?_
          refine mj_aload_n (i := 0) (q := 54) dX2_weatherSnow_53 rfl rfl rfl ?_
          refine mj_getfv (q := 57) dX2_weatherSnow_54 fl_X2_35 rfl rfl (by assumption) (by assumption) ?_
          refine mj_aload_n (i := 1) (q := 58) dX2_weatherSnow_57 rfl rfl rfl ?_
          refine mj_getfv (q := 61) dX2_weatherSnow_58 fl_X2_97 rfl rfl (by assumption) (by assumption) ?_
          refine mj_num1 (v := 2) (q := 62) rfl dX2_weatherSnow_61 rfl ?_
          refine mj_iadd (q := 63) dX2_weatherSnow_62 rfl ?_
          refine mj_num1 (v := 4) (q := 64) rfl dX2_weatherSnow_63 rfl ?_
          refine mj_irem (q := 65) (by decide) dX2_weatherSnow_64 rfl ?_
          refine mj_icmp_ne (tgt := 72) (q := 68) dX2_weatherSnow_65 (by decide) rfl (fun c_65 => ?_) (fun c_65 => ?_)
          · refine mj_num1 (v := 0) (q := 73) rfl dX2_weatherSnow_72 rfl ?_
            refine mj_aload_n (i := 0) (q := 74) dX2_weatherSnow_73 rfl rfl rfl ?_
            refine mj_getfv (q := 77) dX2_weatherSnow_74 fl_X2_35 rfl rfl (by assumption) (by assumption) ?_
            refine mj_aload_n (i := 1) (q := 78) dX2_weatherSnow_77 rfl rfl rfl ?_
            refine mj_getfv (q := 81) dX2_weatherSnow_78 fl_X2_97 rfl rfl (by assumption) (by assumption) ?_
            refine mj_icmp_ne (tgt := 88) (q := 84) dX2_weatherSnow_81 (by decide) rfl (fun c_81 => ?_) (fun c_81 => ?_)
            · refine mj_num1 (v := 0) (q := 89) rfl dX2_weatherSnow_88 rfl ?_
              refine mj_cV3v (K := m_X3_drift) (q := 92) dX2_weatherSnow_89 ln_X2_100 ok_X3_drift (Nat.le_of_ble_eq_true rfl) (by decide) (by assumption) rfl rfl (s_drift hLs hS1) (fun h1 hq => ?_)
              obtain ⟨f2, rfl, hS2, hF2⟩ := hq
              have hF3 := hF1.tr hF2
              have e : vWa W (x.2 4) temp (vCome (W 1) temp x.1) = vDrift (W 2 - 4) 0 0 (vCome (W 1) temp x.1) := by simp only [vWa]; rw [if_pos ⟨Int32.not_le.mp c_31, Or.inl (Decidable.byContradiction (fun z => c_36 (hdr.mpr z)))⟩, if_neg c_65, if_neg c_81]
              exact key92 _ (by rw [e]; exact hS2) hF3
            · refine mj_num1 (v := 1) (q := 85) rfl dX2_weatherSnow_84 rfl ?_
              refine mj_goto (q := 89) dX2_weatherSnow_85 (by decide) ?_
              refine mj_cV3v (K := m_X3_drift) (q := 92) dX2_weatherSnow_89 ln_X2_100 ok_X3_drift (Nat.le_of_ble_eq_true rfl) (by decide) (by assumption) rfl rfl (s_drift hLs hS1) (fun h1 hq => ?_)
              obtain ⟨f2, rfl, hS2, hF2⟩ := hq
              have hF3 := hF1.tr hF2
              have e : vWa W (x.2 4) temp (vCome (W 1) temp x.1) = vDrift (W 2 - 4) 0 1 (vCome (W 1) temp x.1) := by simp only [vWa]; rw [if_pos ⟨Int32.not_le.mp c_31, Or.inl (Decidable.byContradiction (fun z => c_36 (hdr.mpr z)))⟩, if_neg c_65, if_pos c_81]
              exact key92 _ (by rw [e]; exact hS2) hF3
          · refine mj_num1 (v := 1) (q := 69) rfl dX2_weatherSnow_68 rfl ?_
            refine mj_goto (q := 73) dX2_weatherSnow_69 (by decide) ?_
            refine mj_aload_n (i := 0) (q := 74) dX2_weatherSnow_73 rfl rfl rfl ?_
            refine mj_getfv (q := 77) dX2_weatherSnow_74 fl_X2_35 rfl rfl (by assumption) (by assumption) ?_
            refine mj_aload_n (i := 1) (q := 78) dX2_weatherSnow_77 rfl rfl rfl ?_
            refine mj_getfv (q := 81) dX2_weatherSnow_78 fl_X2_97 rfl rfl (by assumption) (by assumption) ?_
            refine mj_icmp_ne (tgt := 88) (q := 84) dX2_weatherSnow_81 (by decide) rfl (fun c_81 => ?_) (fun c_81 => ?_)
            · refine mj_num1 (v := 0) (q := 89) rfl dX2_weatherSnow_88 rfl ?_
              refine mj_cV3v (K := m_X3_drift) (q := 92) dX2_weatherSnow_89 ln_X2_100 ok_X3_drift (Nat.le_of_ble_eq_true rfl) (by decide) (by assumption) rfl rfl (s_drift hLs hS1) (fun h1 hq => ?_)
              obtain ⟨f2, rfl, hS2, hF2⟩ := hq
              have hF3 := hF1.tr hF2
              have e : vWa W (x.2 4) temp (vCome (W 1) temp x.1) = vDrift (W 2 - 4) 1 0 (vCome (W 1) temp x.1) := by simp only [vWa]; rw [if_pos ⟨Int32.not_le.mp c_31, Or.inl (Decidable.byContradiction (fun z => c_36 (hdr.mpr z)))⟩, if_pos c_65, if_neg c_81]
              exact key92 _ (by rw [e]; exact hS2) hF3
            · refine mj_num1 (v := 1) (q := 85) rfl dX2_weatherSnow_84 rfl ?_
              refine mj_goto (q := 89) dX2_weatherSnow_85 (by decide) ?_
              refine mj_cV3v (K := m_X3_drift) (q := 92) dX2_weatherSnow_89 ln_X2_100 ok_X3_drift (Nat.le_of_ble_eq_true rfl) (by decide) (by assumption) rfl rfl (s_drift hLs hS1) (fun h1 hq => ?_)
              obtain ⟨f2, rfl, hS2, hF2⟩ := hq
              have hF3 := hF1.tr hF2
              have e : vWa W (x.2 4) temp (vCome (W 1) temp x.1) = vDrift (W 2 - 4) 1 1 (vCome (W 1) temp x.1) := by simp only [vWa]; rw [if_pos ⟨Int32.not_le.mp c_31, Or.inl (Decidable.byContradiction (fun z => c_36 (hdr.mpr z)))⟩, if_pos c_65, if_pos c_81]
              exact key92 _ (by rw [e]; exact hS2) hF3
        · refine mj_iload_n (i := 2) (q := 40) dX2_weatherSnow_39 rfl rfl rfl ?_
          refine mj_if_gt (tgt := 92) (q := 43) dX2_weatherSnow_40 (by decide) rfl (fun c_40 => ?_) (fun c_40 => ?_)
          · have e : vWa W (x.2 4) temp (vCome (W 1) temp x.1) = (vCome (W 1) temp x.1) := by simp only [vWa]; rw [if_neg (fun z => z.2.elim (hdr.mp c_36) (fun y => absurd c_40 (Int32.not_lt.mpr y)))]
            exact key92 _ (by rw [e]; exact hS1) hF1
          · refine mj_aload_n (i := 0) (q := 44) dX2_weatherSnow_43 rfl rfl rfl ?_
            refine mj_getr (q := 47) dX2_weatherSnow_44 fl_X2_12 rfl rfl (by assumption) (by assumption) ?_
            refine mj_aload_n (i := 1) (q := 48) dX2_weatherSnow_47 rfl rfl rfl ?_
            refine mj_getfv (q := 51) dX2_weatherSnow_48 fl_X2_94 rfl rfl (by assumption) (by assumption) ?_
            refine mj_num1 (v := 4) (q := 52) rfl dX2_weatherSnow_51 rfl ?_
            refine mj_isub (q := 53) dX2_weatherSnow_52 rfl ?_
            refine mj_aload_n (i := 0) (q := 54) dX2_weatherSnow_53 rfl rfl rfl ?_
            refine mj_getfv (q := 57) dX2_weatherSnow_54 fl_X2_35 rfl rfl (by assumption) (by assumption) ?_
            refine mj_aload_n (i := 1) (q := 58) dX2_weatherSnow_57 rfl rfl rfl ?_
            refine mj_getfv (q := 61) dX2_weatherSnow_58 fl_X2_97 rfl rfl (by assumption) (by assumption) ?_
            refine mj_num1 (v := 2) (q := 62) rfl dX2_weatherSnow_61 rfl ?_
            refine mj_iadd (q := 63) dX2_weatherSnow_62 rfl ?_
            refine mj_num1 (v := 4) (q := 64) rfl dX2_weatherSnow_63 rfl ?_
            refine mj_irem (q := 65) (by decide) dX2_weatherSnow_64 rfl ?_
            refine mj_icmp_ne (tgt := 72) (q := 68) dX2_weatherSnow_65 (by decide) rfl (fun c_65 => ?_) (fun c_65 => ?_)
            · refine mj_num1 (v := 0) (q := 73) rfl dX2_weatherSnow_72 rfl ?_
              refine mj_aload_n (i := 0) (q := 74) dX2_weatherSnow_73 rfl rfl rfl ?_
              refine mj_getfv (q := 77) dX2_weatherSnow_74 fl_X2_35 rfl rfl (by assumption) (by assumption) ?_
              refine mj_aload_n (i := 1) (q := 78) dX2_weatherSnow_77 rfl rfl rfl ?_
              refine mj_getfv (q := 81) dX2_weatherSnow_78 fl_X2_97 rfl rfl (by assumption) (by assumption) ?_
              refine mj_icmp_ne (tgt := 88) (q := 84) dX2_weatherSnow_81 (by decide) rfl (fun c_81 => ?_) (fun c_81 => ?_)
              · refine mj_num1 (v := 0) (q := 89) rfl dX2_weatherSnow_88 rfl ?_
                refine mj_cV3v (K := m_X3_drift) (q := 92) dX2_weatherSnow_89 ln_X2_100 ok_X3_drift (Nat.le_of_ble_eq_true rfl) (by decide) (by assumption) rfl rfl (s_drift hLs hS1) (fun h1 hq => ?_)
                obtain ⟨f2, rfl, hS2, hF2⟩ := hq
                have hF3 := hF1.tr hF2
                have e : vWa W (x.2 4) temp (vCome (W 1) temp x.1) = vDrift (W 2 - 4) 0 0 (vCome (W 1) temp x.1) := by simp only [vWa]; rw [if_pos ⟨Int32.not_le.mp c_31, Or.inr (Int32.not_lt.mp c_40)⟩, if_neg c_65, if_neg c_81]
                exact key92 _ (by rw [e]; exact hS2) hF3
              · refine mj_num1 (v := 1) (q := 85) rfl dX2_weatherSnow_84 rfl ?_
                refine mj_goto (q := 89) dX2_weatherSnow_85 (by decide) ?_
                refine mj_cV3v (K := m_X3_drift) (q := 92) dX2_weatherSnow_89 ln_X2_100 ok_X3_drift (Nat.le_of_ble_eq_true rfl) (by decide) (by assumption) rfl rfl (s_drift hLs hS1) (fun h1 hq => ?_)
                obtain ⟨f2, rfl, hS2, hF2⟩ := hq
                have hF3 := hF1.tr hF2
                have e : vWa W (x.2 4) temp (vCome (W 1) temp x.1) = vDrift (W 2 - 4) 0 1 (vCome (W 1) temp x.1) := by simp only [vWa]; rw [if_pos ⟨Int32.not_le.mp c_31, Or.inr (Int32.not_lt.mp c_40)⟩, if_neg c_65, if_pos c_81]
                exact key92 _ (by rw [e]; exact hS2) hF3
            · refine mj_num1 (v := 1) (q := 69) rfl dX2_weatherSnow_68 rfl ?_
              refine mj_goto (q := 73) dX2_weatherSnow_69 (by decide) ?_
              refine mj_aload_n (i := 0) (q := 74) dX2_weatherSnow_73 rfl rfl rfl ?_
              refine mj_getfv (q := 77) dX2_weatherSnow_74 fl_X2_35 rfl rfl (by assumption) (by assumption) ?_
              refine mj_aload_n (i := 1) (q := 78) dX2_weatherSnow_77 rfl rfl rfl ?_
              refine mj_getfv (q := 81) dX2_weatherSnow_78 fl_X2_97 rfl rfl (by assumption) (by assumption) ?_
              refine mj_icmp_ne (tgt := 88) (q := 84) dX2_weatherSnow_81 (by decide) rfl (fun c_81 => ?_) (fun c_81 => ?_)
              · refine mj_num1 (v := 0) (q := 89) rfl dX2_weatherSnow_88 rfl ?_
                refine mj_cV3v (K := m_X3_drift) (q := 92) dX2_weatherSnow_89 ln_X2_100 ok_X3_drift (Nat.le_of_ble_eq_true rfl) (by decide) (by assumption) rfl rfl (s_drift hLs hS1) (fun h1 hq => ?_)
                obtain ⟨f2, rfl, hS2, hF2⟩ := hq
                have hF3 := hF1.tr hF2
                have e : vWa W (x.2 4) temp (vCome (W 1) temp x.1) = vDrift (W 2 - 4) 1 0 (vCome (W 1) temp x.1) := by simp only [vWa]; rw [if_pos ⟨Int32.not_le.mp c_31, Or.inr (Int32.not_lt.mp c_40)⟩, if_pos c_65, if_neg c_81]
                exact key92 _ (by rw [e]; exact hS2) hF3
              · refine mj_num1 (v := 1) (q := 85) rfl dX2_weatherSnow_84 rfl ?_
                refine mj_goto (q := 89) dX2_weatherSnow_85 (by decide) ?_
                refine mj_cV3v (K := m_X3_drift) (q := 92) dX2_weatherSnow_89 ln_X2_100 ok_X3_drift (Nat.le_of_ble_eq_true rfl) (by decide) (by assumption) rfl rfl (s_drift hLs hS1) (fun h1 hq => ?_)
                obtain ⟨f2, rfl, hS2, hF2⟩ := hq
                have hF3 := hF1.tr hF2
                have e : vWa W (x.2 4) temp (vCome (W 1) temp x.1) = vDrift (W 2 - 4) 1 1 (vCome (W 1) temp x.1) := by simp only [vWa]; rw [if_pos ⟨Int32.not_le.mp c_31, Or.inr (Int32.not_lt.mp c_40)⟩, if_pos c_65, if_pos c_81]
                exact key92 _ (by rw [e]; exact hS2) hF3
    exact key26
  have w1 : f wt 1 = W 1 := hW 1 (by omega)
  refine mj_entry (by refine ⟨by decide +kernel, by decide, rfl, Nat.le_of_ble_eq_true rfl⟩) ?_
  show mj_W _ _ _ _ _ 0 [.ref r, .ref wt, .int temp, .int clock, .null] [] _
  refine mj_aload_n (i := 1) (q := 1) dX2_weatherSnow_0 rfl rfl rfl ?_
  refine mj_getfv (q := 4) dX2_weatherSnow_1 fl_X2_85 rfl rfl (by assumption) (by assumption) ?_
  refine mj_if_ne (tgt := 11) (q := 7) dX2_weatherSnow_4 (by decide) rfl (fun c_4 => ?_) (fun c_4 => ?_)
  · refine mj_num1 (v := 0) (q := 12) rfl dX2_weatherSnow_11 rfl ?_
    refine mj_istore (i := 4) (q := 14) dX2_weatherSnow_12 rfl (by decide) rfl ?_
    dsimp only [List.set]
    refine mj_aload_n (i := 0) (q := 15) dX2_weatherSnow_14 rfl rfl rfl ?_
    refine mj_getr (q := 18) dX2_weatherSnow_15 fl_X2_12 rfl rfl (by assumption) (by assumption) ?_
    refine mj_aload_n (i := 1) (q := 19) dX2_weatherSnow_18 rfl rfl rfl ?_
    refine mj_getfv (q := 22) dX2_weatherSnow_19 fl_X2_85 rfl rfl (by assumption) (by assumption) ?_
    refine mj_iload_n (i := 2) (q := 23) dX2_weatherSnow_22 rfl rfl rfl ?_
    refine mj_cV2v (K := m_X3_comeDown) (q := 26) dX2_weatherSnow_23 ln_X2_90 ok_X3_comeDown (Nat.le_of_ble_eq_true rfl) (by decide) (by assumption) rfl rfl (s_comeDown hLs hR.1) (fun h1 hq => ?_)
    obtain ⟨f1, rfl, hS1, hF1⟩ := hq
    exact main 0 (by simp [c_4]) _ hS1 hF1
  · refine mj_num1 (v := 1) (q := 8) rfl dX2_weatherSnow_7 rfl ?_
    refine mj_goto (q := 12) dX2_weatherSnow_8 (by decide) ?_
    refine mj_istore (i := 4) (q := 14) dX2_weatherSnow_12 rfl (by decide) rfl ?_
    dsimp only [List.set]
    refine mj_aload_n (i := 0) (q := 15) dX2_weatherSnow_14 rfl rfl rfl ?_
    refine mj_getr (q := 18) dX2_weatherSnow_15 fl_X2_12 rfl rfl (by assumption) (by assumption) ?_
    refine mj_aload_n (i := 1) (q := 19) dX2_weatherSnow_18 rfl rfl rfl ?_
    refine mj_getfv (q := 22) dX2_weatherSnow_19 fl_X2_85 rfl rfl (by assumption) (by assumption) ?_
    refine mj_iload_n (i := 2) (q := 23) dX2_weatherSnow_22 rfl rfl rfl ?_
    refine mj_cV2v (K := m_X3_comeDown) (q := 26) dX2_weatherSnow_23 ln_X2_90 ok_X3_comeDown (Nat.le_of_ble_eq_true rfl) (by decide) (by assumption) rfl rfl (s_comeDown hLs hR.1) (fun h1 hq => ?_)
    obtain ⟨f1, rfl, hS1, hF1⟩ := hq
    exact main 1 (by simp [c_4]) _ hS1 hF1
end
section
/-! THE MOUNTAIN: cells m .. m + 46: itself, its row of lifts, four lifts, its row of runs, eight runs of five cells -/
def LMn (K : Nat → mj_K) (g : Nat → Nat → Option Nat) (m : Nat) : Prop := K m = (2, 1, 0) ∧ g m 0 = some (m + 1) ∧ g m 1 = some (m + 6) ∧ K (m + 1) = (1, 4, 0) ∧ K (m + 6) = (1, 8, 2) ∧
  (∀ i, i < 4 → g (m + 1) i = some (m + 2 + i) ∧ K (m + 2 + i) = (2, 0, 0)) ∧ ∀ i, i < 8 → g (m + 6) i = some (m + 7 + 5 * i) ∧ LRn K g (m + 7 + 5 * i)
abbrev mV : Type := Nat × Nat × (Nat → Int32) × (Nat → Nat → Int32) × (Nat → rV)
def MN (f : Nat → Nat → Int32) (m : Nat) (y : mV) : Prop := y.1 ≤ 4 ∧ y.2.1 ≤ 8 ∧ f m 2 = nI y.1 ∧ f m 3 = nI y.2.1 ∧ (∀ k, 4 ≤ k → k < 16 → f m k = y.2.2.1 k) ∧ (∀ i, i < y.1 → LN f (m + 2 + i) (y.2.2.2.1 i)) ∧ (∀ i, i < y.2.1 → RN f (m + 7 + 5 * i) (y.2.2.2.2 i)) ∧ ∀ i, i < y.2.1 → ∃ j, j < y.1 ∧ (y.2.2.2.2 i).2 1 = nI j
theorem MN.keep {f f1 : Nat → Nat → Int32} {m lo hi : Nat} {y : mV} (h : MN f m y) (hf : mj_Fr lo hi f f1) (hd : m + 47 ≤ lo ∨ hi ≤ m) : MN f1 m y := by
  obtain ⟨n1, n2, n3, n4, n5, n6, n7, n8⟩ := h
  have e := hf m (by omega)
  exact ⟨n1, n2, by rw [e]; exact n3, by rw [e]; exact n4, fun k h1 h2 => by rw [e]; exact n5 k h1 h2, fun i hi => (n6 i hi).keep hf (by omega), fun i hi => (n7 i hi).keep hf (by omega), n8⟩
theorem MN.run {f f1 : Nat → Nat → Int32} {m i lc rc : Nat} {mu : Nat → Int32} {ls : Nat → Nat → Int32} {rs : Nat → rV} {x : rV} (h : MN f m (lc, rc, mu, ls, rs)) (hi : i < rc) (hR : RN f1 (m + 7 + 5 * i) x) (hf : mj_Fr (m + 7 + 5 * i) (m + 12 + 5 * i) f f1) (hl : x.2 1 = (rs i).2 1) : MN f1 m (lc, rc, mu, ls, mj_row rs i x) := by
  obtain ⟨n1, n2, n3, n4, n5, n6, n7, n8⟩ := h
  dsimp only at n1 n2 n3 n4 n5 n6 n7 n8
  have e := hf m (by omega)
  refine ⟨n1, n2, by rw [e]; exact n3, by rw [e]; exact n4, fun k h1 h2 => by rw [e]; exact n5 k h1 h2, fun j hj => (n6 j hj).keep hf (by omega), fun j hj => ?_, fun j hj => ?_⟩
  · show RN f1 (m + 7 + 5 * j) (mj_row rs i x j)
    by_cases hji : j = i
    · subst hji; rw [mj_rowe]; exact hR
    · rw [mj_rown hji]; exact (n7 j hj).keep hf (by omega)
  · show ∃ k, k < lc ∧ (mj_row rs i x j).2 1 = nI k
    by_cases hji : j = i
    · subst hji; rw [mj_rowe, hl]; exact n8 j hj
    · rw [mj_rown hji]; exact n8 j hj
theorem MN.put {f : Nat → Nat → Int32} {m k0 lc rc : Nat} {v : Int32} {mu : Nat → Int32} {ls : Nat → Nat → Int32} {rs : Nat → rV} (h : MN f m (lc, rc, mu, ls, rs)) (hk : 4 ≤ k0) : MN (mj_up f m k0 v) m (lc, rc, upd mu k0 v, ls, rs) := by
  obtain ⟨n1, n2, n3, n4, n5, n6, n7, n8⟩ := h
  dsimp only at n1 n2 n3 n4 n5 n6 n7 n8
  have hf : mj_Fr m (m + 1) f (mj_up f m k0 v) := mj_Fr.up mj_Fr.rf (by omega) (by omega)
  refine ⟨n1, n2, ?_, ?_, fun k h1 h2 => ?_, fun j hj => (n6 j hj).keep hf (by omega), fun j hj => (n7 j hj).keep hf (by omega), n8⟩
  · simp [mj_up, n3, show ¬ 2 = k0 by omega]
  · simp [mj_up, n4, show ¬ 3 = k0 by omega]
  · have e := n5 k h1 h2
    by_cases hkk : k = k0
    · subst hkk; simp [mj_up, upd]
    · simp [mj_up, upd, hkk, e]
theorem MN.lift {f f1 : Nat → Nat → Int32} {m i lc rc : Nat} {mu : Nat → Int32} {ls : Nat → Nat → Int32} {rs : Nat → rV} {z : Nat → Int32} (h : MN f m (lc, rc, mu, ls, rs)) (hi : i < lc) (hR : LN f1 (m + 2 + i) z) (hf : mj_Fr (m + 2 + i) (m + 3 + i) f f1) : MN f1 m (lc, rc, mu, mj_row ls i z, rs) := by
  obtain ⟨n1, n2, n3, n4, n5, n6, n7, n8⟩ := h
  dsimp only at n1 n2 n3 n4 n5 n6 n7 n8
  have e := hf m (by omega)
  refine ⟨n1, n2, by rw [e]; exact n3, by rw [e]; exact n4, fun k h1 h2 => by rw [e]; exact n5 k h1 h2, fun j hj => ?_, fun j hj => (n7 j hj).keep hf (by omega), n8⟩
  show LN f1 (m + 2 + j) (mj_row ls i z j)
  by_cases hji : j = i
  · subst hji; rw [mj_rowe]; exact hR
  · rw [mj_rown hji]; exact (n6 j hj).keep hf (by omega)
/-! what is asked of it -/
def v01 (b : Int32) : Int32 := if b = 0 then 0 else 1
def vOpen (rs : Nat → rV) : Nat → Int32
  | 0 => 0
  | n + 1 => vOpen rs n + v01 ((rs n).2 15)
def vOpenOf (rs : Nat → rV) (l : Int32) : Nat → Int32
  | 0 => 0
  | n + 1 => vOpenOf rs l n + (if ¬ (rs n).2 15 = 0 ∧ (rs n).2 1 = l then 1 else 0)
def vDepthArea (rs : Nat → rV) : Nat → Int32
  | 0 => 0
  | n + 1 => vDepthArea rs n + vDepth 0 (rs n).1 * (rs n).2 5
def vArea (rs : Nat → rV) : Nat → Int32
  | 0 => 0
  | n + 1 => vArea rs n + (rs n).2 5
def vTested (mu : Nat → Int32) (x : rV) : Bool := mu 4 ≤ x.2 12
def vTell (mu : Nat → Int32) (number : Int32) (x : rV) : Int32 := vMax (vRisk (x.2 3) x.1 + ((5 * mu 4 + 3 * number) % 9 - 4)) 0
def vBar (ls : Nat → Nat → Int32) (x : rV) (tested told swept : Int32) : Int32 :=
  if vMoving (ls (x.2 1).toNatClampNeg) = false then 1 else if 0 < x.2 10 then 2 else if ¬ x.2 16 = 0 then 3 else if tested = 0 then 4 else if 30 < told then 5 else if vDepth 0 x.1 < 30 then 6 else if swept = 0 then 7 else 0
def vBarNow (mu : Nat → Int32) (ls : Nat → Nat → Int32) (x : rV) : Int32 := vBar ls x (if vTested mu x = true then 1 else 0) (x.2 11) (x.2 17)
/-! what an hour does -/
def vSlideSize (x : rV) : Int32 := vSize (vShear (x.2 3) x.1) (x.2 5) x.1
def vSlideRun (x : rV) : rV := (vDrop (vShear (x.2 3) x.1) x.1, upd (upd (upd x.2 12 (-1)) 17 0) 9 (x.2 9 + 1))
def vSlideMu (mu : Nat → Int32) (size : Int32) : Nat → Int32 := if size < 900 then upd mu 10 (mu 10 + 1) else upd (upd mu 10 (mu 10 + 1)) 11 (mu 11 + 1)
def vGuns (each : Int32) : Nat → Int32 → Int32 → Int32 × Int32
  | 0, w, h => (w, h)
  | n + 1, w, h => if w < 105 then (w, h) else vGuns each n (w - 5) (h + each)
def vPile (made : Int32) (x : sV) : sV := if 0 < made then (if vTop 3 x = true then vThicken made x else vLay 3 made 40 x) else x
def vMakeG (bulb guns w h : Int32) : Int32 × Int32 := if -4 < bulb then (w, h) else vGuns (vMin (-3 - bulb) 6) guns.toNatClampNeg w h
def vMade (h area : Int32) : Int32 := if 1 ≤ area then h / area else 0
def vMakeRun (h : Int32) (x : rV) : rV := (vPile (vMade h (x.2 5)) x.1, upd x.2 7 (h - vMade h (x.2 5) * x.2 5))
def vThinN : Nat → sV → sV
  | 0, x => x
  | n + 1, x => vThinN n (vThin 1 x)
def vSkiRun (riders : Int32) (x : rV) : rV := (vThinN ((x.2 8 + riders) / 200 - x.2 8 / 200).toNatClampNeg x.1, upd x.2 8 (x.2 8 + riders))
def vSkiMu (riders : Int32) (mu : Nat → Int32) (x : rV) : Nat → Int32 := upd mu 13 (mu 13 + (if x.2 5 * 40 < riders then 1 else 0) + (if vTop 2 x.1 = true then riders / 50 else 0))

set_option maxHeartbeats 4000000 in
set_option maxRecDepth 100000 in
theorem s_oneIf {d : Nat} {b : Int32} {h : mj_H} : mj_Ci m_X5_oneIf d [.int b] h (fun r h1 => h1 = h ∧ r = v01 b) := by
  refine mj_entry (by refine ⟨by decide +kernel, by decide, rfl, Nat.le_of_ble_eq_true rfl⟩) ?_
  show mj_W _ _ _ _ _ 0 [.int b] [] _
  refine mj_iload_n (i := 0) (q := 1) dX5_oneIf_0 rfl rfl rfl ?_
  refine mj_if_eq (tgt := 8) (q := 4) dX5_oneIf_1 (by decide) rfl (fun c_1 => ?_) (fun c_1 => ?_)
  · refine mj_num1 (v := 0) (q := 9) rfl dX5_oneIf_8 rfl ?_
    exact mj_ireturn dX5_oneIf_9 ⟨_, rfl, rfl⟩ ⟨_, rfl, rfl, by simp only [v01]; rw [if_pos c_1]⟩
  · refine mj_num1 (v := 1) (q := 5) rfl dX5_oneIf_4 rfl ?_
    refine mj_goto (q := 9) dX5_oneIf_5 (by decide) ?_
    exact mj_ireturn dX5_oneIf_9 ⟨_, rfl, rfl⟩ ⟨_, rfl, rfl, by simp only [v01]; rw [if_neg c_1]⟩
set_option maxHeartbeats 4000000 in
set_option maxRecDepth 100000 in
theorem s_clock {d m : Nat} {n : Nat} {K : Nat → mj_K} {f : Nat → Nat → Int32} {g : Nat → Nat → Option Nat} {y : mV} (hL : LMn K g m) (hN : MN f m y) : mj_Ci m_X1_clock d [.ref m] (n, K, f, g) (fun r h1 => h1 = (n, K, f, g) ∧ r = y.2.2.1 4 % 24) := by
  have hL2 := hL
  have hN2 := hN
  obtain ⟨km, gm0, gm1, km1, km6, hLl, hLr⟩ := hL
  obtain ⟨lc, rc, mu, ls, rs⟩ := y
  obtain ⟨n1, n2, n3, n4, n5, n6, n7, n8⟩ := hN
  dsimp only at n1 n2 n3 n4 n5 n6 n7 n8
  have u4 : f m 4 = mu 4 := n5 4 (by omega) (by omega)
  refine mj_entry (by refine ⟨by decide +kernel, by decide, rfl, Nat.le_of_ble_eq_true rfl⟩) ?_
  show mj_W _ _ _ _ _ 0 [.ref m] [] _
  refine mj_aload_n (i := 0) (q := 1) dX1_clock_0 rfl rfl rfl ?_
  refine mj_getfv (q := 4) dX1_clock_1 fl_X1_48 rfl rfl (by assumption) (by assumption) ?_
  refine mj_num2 (v := 24) (q := 6) (by decide) dX1_clock_4 rfl ?_
  refine mj_irem (q := 7) (by decide) dX1_clock_6 rfl ?_
  exact mj_ireturn dX1_clock_7 ⟨_, rfl, rfl⟩ ⟨_, rfl, ⟨rfl, rfl⟩⟩
set_option maxHeartbeats 4000000 in
set_option maxRecDepth 100000 in
theorem s_openRuns {d m : Nat}  {n : Nat} {K : Nat → mj_K} {f : Nat → Nat → Int32} {g : Nat → Nat → Option Nat} {y : mV} (hL : LMn K g m) (hN : MN f m y) : mj_Ci m_X1_openRuns (d + 1) [.ref m] (n, K, f, g) (fun r h1 => h1 = (n, K, f, g) ∧ r = vOpen y.2.2.2.2 y.2.1) := by
  have hL2 := hL
  have hN2 := hN
  obtain ⟨km, gm0, gm1, km1, km6, hLl, hLr⟩ := hL
  obtain ⟨lc, rc, mu, ls, rs⟩ := y
  obtain ⟨n1, n2, n3, n4, n5, n6, n7, n8⟩ := hN
  dsimp only at n1 n2 n3 n4 n5 n6 n7 n8
  have key : ∀ (j i : Nat), i + j = rc → mj_W m_X1_openRuns (d + 1) 0 0 (fun v h1 => ∃ r, v = some (.int r) ∧ h1 = (n, K, f, g) ∧ r = vOpen rs rc) 4 [.ref m, .int (vOpen rs i), .int (nI i)] [] (n, K, f, g) := by
    intro j
    induction j with
    | zero =>
      intro i hi
      have hi : i = rc := by omega
      subst hi
      refine mj_iload_n (i := 2) (q := 5) dX1_openRuns_4 rfl rfl rfl ?_
      refine mj_aload_n (i := 0) (q := 6) dX1_openRuns_5 rfl rfl rfl ?_
      refine mj_getfv (q := 9) dX1_openRuns_6 fl_X1_42 rfl rfl (by assumption) (by assumption) ?_
      refine mj_icmp_ge (tgt := 33) (q := 12) dX1_openRuns_9 (by decide) rfl (fun c_9 => ?_) (fun c_9 => absurd (Int32.le_refl _) c_9)
      refine mj_iload_n (i := 1) (q := 34) dX1_openRuns_33 rfl rfl rfl ?_
      exact mj_ireturn dX1_openRuns_34 ⟨_, rfl, rfl⟩ ⟨_, rfl, ⟨rfl, rfl⟩⟩
    | succ j ih =>
      intro i hi
      have hg_i : g (m + 6) i = some (m + 7 + 5 * i) := (hLr i (by omega)).1
      have hL_i := (hLr i (by omega)).2
      have kr_i : K (m + 7 + 5 * i) = (2, 2, 0) := hL_i.1
      have gr_i : g (m + 7 + 5 * i) 0 = some ((m + 7 + 5 * i) + 1) := hL_i.2.1
      have ks_i : K ((m + 7 + 5 * i) + 1) = (2, 3, 0) := hL_i.2.2.1
      have hR_i := n7 i (by omega)
      have e15_i : f (m + 7 + 5 * i) 15 = (rs i).2 15 := hR_i.2.1 15 (by omega) (by omega)
      refine mj_iload_n (i := 2) (q := 5) dX1_openRuns_4 rfl rfl rfl ?_
      refine mj_aload_n (i := 0) (q := 6) dX1_openRuns_5 rfl rfl rfl ?_
      refine mj_getfv (q := 9) dX1_openRuns_6 fl_X1_42 rfl rfl (by assumption) (by assumption) ?_
      refine mj_icmp_ge (tgt := 33) (q := 12) dX1_openRuns_9 (by decide) rfl (fun c_9 => absurd c_9 (nI_ge (a := i) (b := rc) (by omega) (by omega))) (fun c_9 => ?_)
      refine mj_iload_n (i := 1) (q := 13) dX1_openRuns_12 rfl rfl rfl ?_
      refine mj_aload_n (i := 0) (q := 14) dX1_openRuns_13 rfl rfl rfl ?_
      refine mj_getr (q := 17) dX1_openRuns_14 fl_X1_20 rfl rfl (by assumption) (by assumption) ?_
      refine mj_iload_n (i := 2) (q := 18) dX1_openRuns_17 rfl rfl rfl ?_
      refine mj_aaldn (q := 19) dX1_openRuns_18 rfl (by assumption) ⟨by omega, by omega⟩ (by assumption) ?_
      refine mj_getfv (q := 22) dX1_openRuns_19 fl_X1_78 rfl rfl (by assumption) (by assumption) ?_
      refine mj_cSN1i (K := m_X5_oneIf) (q := 25) dX1_openRuns_22 (fun _ z => z.2.2.1) ok_X5_oneIf (Nat.le_of_ble_eq_true rfl) (by decide) rfl (s_oneIf) (fun r_22 h1 hq => ?_)
      obtain ⟨rfl, rfl⟩ := hq
      refine mj_iadd (q := 26) dX1_openRuns_25 rfl ?_
      refine mj_istore_n (i := 1) (q := 27) dX1_openRuns_26 rfl rfl (by decide) rfl ?_
      dsimp only [List.set]
      refine mj_iinc (i := 2) (q := 30) dX1_openRuns_27 rfl rfl (by decide) rfl ?_
      dsimp only [List.set]
      refine mj_goto (q := 4) dX1_openRuns_30 (by decide) ?_
      rw [show nI i + Int32.ofInt 1 = nI (i + 1) from nI_1 i]
      exact ih (i + 1) (by omega)
  refine mj_entry (by refine ⟨by decide +kernel, by decide, rfl, Nat.le_of_ble_eq_true rfl⟩) ?_
  show mj_W _ _ _ _ _ 0 [.ref m, .null, .null] [] _
  refine mj_num1 (v := 0) (q := 1) rfl dX1_openRuns_0 rfl ?_
  refine mj_istore_n (i := 1) (q := 2) dX1_openRuns_1 rfl rfl (by decide) rfl ?_
  dsimp only [List.set]
  refine mj_num1 (v := nI 0) (q := 3) (by decide) dX1_openRuns_2 rfl ?_
  refine mj_istore_n (i := 2) (q := 4) dX1_openRuns_3 rfl rfl (by decide) rfl ?_
  dsimp only [List.set]
  exact key rc 0 (by omega)
set_option maxHeartbeats 4000000 in
set_option maxRecDepth 100000 in
theorem s_openRunsOf {d m : Nat} {l : Int32} {n : Nat} {K : Nat → mj_K} {f : Nat → Nat → Int32} {g : Nat → Nat → Option Nat} {y : mV} (hL : LMn K g m) (hN : MN f m y) : mj_Ci m_X1_openRunsOf (d + 1) [.ref m, .int l] (n, K, f, g) (fun r h1 => h1 = (n, K, f, g) ∧ r = vOpenOf y.2.2.2.2 l y.2.1) := by
  have hL2 := hL
  have hN2 := hN
  obtain ⟨km, gm0, gm1, km1, km6, hLl, hLr⟩ := hL
  obtain ⟨lc, rc, mu, ls, rs⟩ := y
  obtain ⟨n1, n2, n3, n4, n5, n6, n7, n8⟩ := hN
  dsimp only at n1 n2 n3 n4 n5 n6 n7 n8
  have key : ∀ (j i : Nat), i + j = rc → mj_W m_X1_openRunsOf (d + 1) 0 0 (fun v h1 => ∃ r, v = some (.int r) ∧ h1 = (n, K, f, g) ∧ r = vOpenOf rs l rc) 4 [.ref m, .int l, .int (vOpenOf rs l i), .int (nI i)] [] (n, K, f, g) := by
    intro j
    induction j with
    | zero =>
      intro i hi
      have hi : i = rc := by omega
      subst hi
      refine mj_iload_n (i := 3) (q := 5) dX1_openRunsOf_4 rfl rfl rfl ?_
      refine mj_aload_n (i := 0) (q := 6) dX1_openRunsOf_5 rfl rfl rfl ?_
      refine mj_getfv (q := 9) dX1_openRunsOf_6 fl_X1_42 rfl rfl (by assumption) (by assumption) ?_
      refine mj_icmp_ge (tgt := 54) (q := 12) dX1_openRunsOf_9 (by decide) rfl (fun c_9 => ?_) (fun c_9 => absurd (Int32.le_refl _) c_9)
      refine mj_iload_n (i := 2) (q := 55) dX1_openRunsOf_54 rfl rfl rfl ?_
      exact mj_ireturn dX1_openRunsOf_55 ⟨_, rfl, rfl⟩ ⟨_, rfl, ⟨rfl, rfl⟩⟩
    | succ j ih =>
      intro i hi
      have hg_i : g (m + 6) i = some (m + 7 + 5 * i) := (hLr i (by omega)).1
      have hL_i := (hLr i (by omega)).2
      have kr_i : K (m + 7 + 5 * i) = (2, 2, 0) := hL_i.1
      have gr_i : g (m + 7 + 5 * i) 0 = some ((m + 7 + 5 * i) + 1) := hL_i.2.1
      have ks_i : K ((m + 7 + 5 * i) + 1) = (2, 3, 0) := hL_i.2.2.1
      have hR_i := n7 i (by omega)
      have e15_i : f (m + 7 + 5 * i) 15 = (rs i).2 15 := hR_i.2.1 15 (by omega) (by omega)
      have e1_i : f (m + 7 + 5 * i) 1 = (rs i).2 1 := hR_i.2.1 1 (by omega) (by omega)
      refine mj_iload_n (i := 3) (q := 5) dX1_openRunsOf_4 rfl rfl rfl ?_
      refine mj_aload_n (i := 0) (q := 6) dX1_openRunsOf_5 rfl rfl rfl ?_
      refine mj_getfv (q := 9) dX1_openRunsOf_6 fl_X1_42 rfl rfl (by assumption) (by assumption) ?_
      refine mj_icmp_ge (tgt := 54) (q := 12) dX1_openRunsOf_9 (by decide) rfl (fun c_9 => absurd c_9 (nI_ge (a := i) (b := rc) (by omega) (by omega))) (fun c_9 => ?_)
      refine mj_iload_n (i := 2) (q := 13) dX1_openRunsOf_12 rfl rfl rfl ?_
      refine mj_aload_n (i := 0) (q := 14) dX1_openRunsOf_13 rfl rfl rfl ?_
      refine mj_getr (q := 17) dX1_openRunsOf_14 fl_X1_20 rfl rfl (by assumption) (by assumption) ?_
      refine mj_iload_n (i := 3) (q := 18) dX1_openRunsOf_17 rfl rfl rfl ?_
      refine mj_aaldn (q := 19) dX1_openRunsOf_18 rfl (by assumption) ⟨by omega, by omega⟩ (by assumption) ?_
      refine mj_getfv (q := 22) dX1_openRunsOf_19 fl_X1_78 rfl rfl (by assumption) (by assumption) ?_
      refine mj_if_eq (tgt := 42) (q := 25) dX1_openRunsOf_22 (by decide) rfl (fun c_22 => ?_) (fun c_22 => ?_)
      · refine mj_num1 (v := 0) (q := 43) rfl dX1_openRunsOf_42 rfl ?_
        refine mj_cSN1i (K := m_X5_oneIf) (q := 46) dX1_openRunsOf_43 (fun _ z => z.2.2.1) ok_X5_oneIf (Nat.le_of_ble_eq_true rfl) (by decide) rfl (s_oneIf) (fun r_43 h1 hq => ?_)
        obtain ⟨rfl, rfl⟩ := hq
        refine mj_iadd (q := 47) dX1_openRunsOf_46 rfl ?_
        refine mj_istore_n (i := 2) (q := 48) dX1_openRunsOf_47 rfl rfl (by decide) rfl ?_
        dsimp only [List.set]
        refine mj_iinc (i := 3) (q := 51) dX1_openRunsOf_48 rfl rfl (by decide) rfl ?_
        dsimp only [List.set]
        refine mj_goto (q := 4) dX1_openRunsOf_51 (by decide) ?_
        rw [show nI i + Int32.ofInt 1 = nI (i + 1) from nI_1 i]
        have e : vOpenOf rs l i + v01 0 = vOpenOf rs l (i + 1) := by simp only [vOpenOf]; rw [if_neg (fun z => z.1 c_22)]; rfl
        rw [e]
        exact ih (i + 1) (by omega)
      · refine mj_aload_n (i := 0) (q := 26) dX1_openRunsOf_25 rfl rfl rfl ?_
        refine mj_getr (q := 29) dX1_openRunsOf_26 fl_X1_20 rfl rfl (by assumption) (by assumption) ?_
        refine mj_iload_n (i := 3) (q := 30) dX1_openRunsOf_29 rfl rfl rfl ?_
        refine mj_aaldn (q := 31) dX1_openRunsOf_30 rfl (by assumption) ⟨by omega, by omega⟩ (by assumption) ?_
        refine mj_getfv (q := 34) dX1_openRunsOf_31 fl_X1_86 rfl rfl (by assumption) (by assumption) ?_
        refine mj_iload_n (i := 1) (q := 35) dX1_openRunsOf_34 rfl rfl rfl ?_
        refine mj_icmp_ne (tgt := 42) (q := 38) dX1_openRunsOf_35 (by decide) rfl (fun c_35 => ?_) (fun c_35 => ?_)
        · refine mj_num1 (v := 0) (q := 43) rfl dX1_openRunsOf_42 rfl ?_
          refine mj_cSN1i (K := m_X5_oneIf) (q := 46) dX1_openRunsOf_43 (fun _ z => z.2.2.1) ok_X5_oneIf (Nat.le_of_ble_eq_true rfl) (by decide) rfl (s_oneIf) (fun r_43 h1 hq => ?_)
          obtain ⟨rfl, rfl⟩ := hq
          refine mj_iadd (q := 47) dX1_openRunsOf_46 rfl ?_
          refine mj_istore_n (i := 2) (q := 48) dX1_openRunsOf_47 rfl rfl (by decide) rfl ?_
          dsimp only [List.set]
          refine mj_iinc (i := 3) (q := 51) dX1_openRunsOf_48 rfl rfl (by decide) rfl ?_
          dsimp only [List.set]
          refine mj_goto (q := 4) dX1_openRunsOf_51 (by decide) ?_
          rw [show nI i + Int32.ofInt 1 = nI (i + 1) from nI_1 i]
          have e : vOpenOf rs l i + v01 0 = vOpenOf rs l (i + 1) := by simp only [vOpenOf]; rw [if_neg (fun z => c_35 z.2)]; rfl
          rw [e]
          exact ih (i + 1) (by omega)
        · refine mj_num1 (v := 1) (q := 39) rfl dX1_openRunsOf_38 rfl ?_
          refine mj_goto (q := 43) dX1_openRunsOf_39 (by decide) ?_
          refine mj_cSN1i (K := m_X5_oneIf) (q := 46) dX1_openRunsOf_43 (fun _ z => z.2.2.1) ok_X5_oneIf (Nat.le_of_ble_eq_true rfl) (by decide) rfl (s_oneIf) (fun r_43 h1 hq => ?_)
          obtain ⟨rfl, rfl⟩ := hq
          refine mj_iadd (q := 47) dX1_openRunsOf_46 rfl ?_
          refine mj_istore_n (i := 2) (q := 48) dX1_openRunsOf_47 rfl rfl (by decide) rfl ?_
          dsimp only [List.set]
          refine mj_iinc (i := 3) (q := 51) dX1_openRunsOf_48 rfl rfl (by decide) rfl ?_
          dsimp only [List.set]
          refine mj_goto (q := 4) dX1_openRunsOf_51 (by decide) ?_
          rw [show nI i + Int32.ofInt 1 = nI (i + 1) from nI_1 i]
          have e : vOpenOf rs l i + v01 1 = vOpenOf rs l (i + 1) := by simp only [vOpenOf]; rw [if_pos (show ¬ (rs i).2 15 = 0 ∧ (rs i).2 1 = l from ⟨c_22, c_35⟩)]; rfl
          rw [e]
          exact ih (i + 1) (by omega)
  refine mj_entry (by refine ⟨by decide +kernel, by decide, rfl, Nat.le_of_ble_eq_true rfl⟩) ?_
  show mj_W _ _ _ _ _ 0 [.ref m, .int l, .null, .null] [] _
  refine mj_num1 (v := 0) (q := 1) rfl dX1_openRunsOf_0 rfl ?_
  refine mj_istore_n (i := 2) (q := 2) dX1_openRunsOf_1 rfl rfl (by decide) rfl ?_
  dsimp only [List.set]
  refine mj_num1 (v := nI 0) (q := 3) (by decide) dX1_openRunsOf_2 rfl ?_
  refine mj_istore_n (i := 3) (q := 4) dX1_openRunsOf_3 rfl rfl (by decide) rfl ?_
  dsimp only [List.set]
  exact key rc 0 (by omega)
set_option maxHeartbeats 4000000 in
set_option maxRecDepth 100000 in
theorem s_depthByArea {d m : Nat}  {n : Nat} {K : Nat → mj_K} {f : Nat → Nat → Int32} {g : Nat → Nat → Option Nat} {y : mV} (hL : LMn K g m) (hN : MN f m y) : mj_Ci m_X1_depthByArea (d + 3) [.ref m] (n, K, f, g) (fun r h1 => h1 = (n, K, f, g) ∧ r = vDepthArea y.2.2.2.2 y.2.1) := by
  have hL2 := hL
  have hN2 := hN
  obtain ⟨km, gm0, gm1, km1, km6, hLl, hLr⟩ := hL
  obtain ⟨lc, rc, mu, ls, rs⟩ := y
  obtain ⟨n1, n2, n3, n4, n5, n6, n7, n8⟩ := hN
  dsimp only at n1 n2 n3 n4 n5 n6 n7 n8
  have key : ∀ (j i : Nat), i + j = rc → mj_W m_X1_depthByArea (d + 3) 0 0 (fun v h1 => ∃ r, v = some (.int r) ∧ h1 = (n, K, f, g) ∧ r = vDepthArea rs rc) 4 [.ref m, .int (vDepthArea rs i), .int (nI i)] [] (n, K, f, g) := by
    intro j
    induction j with
    | zero =>
      intro i hi
      have hi : i = rc := by omega
      subst hi
      refine mj_iload_n (i := 2) (q := 5) dX1_depthByArea_4 rfl rfl rfl ?_
      refine mj_aload_n (i := 0) (q := 6) dX1_depthByArea_5 rfl rfl rfl ?_
      refine mj_getfv (q := 9) dX1_depthByArea_6 fl_X1_42 rfl rfl (by assumption) (by assumption) ?_
      refine mj_icmp_ge (tgt := 43) (q := 12) dX1_depthByArea_9 (by decide) rfl (fun c_9 => ?_) (fun c_9 => absurd (Int32.le_refl _) c_9)
      refine mj_iload_n (i := 1) (q := 44) dX1_depthByArea_43 rfl rfl rfl ?_
      exact mj_ireturn dX1_depthByArea_44 ⟨_, rfl, rfl⟩ ⟨_, rfl, ⟨rfl, rfl⟩⟩
    | succ j ih =>
      intro i hi
      have hg_i : g (m + 6) i = some (m + 7 + 5 * i) := (hLr i (by omega)).1
      have hL_i := (hLr i (by omega)).2
      have kr_i : K (m + 7 + 5 * i) = (2, 2, 0) := hL_i.1
      have gr_i : g (m + 7 + 5 * i) 0 = some ((m + 7 + 5 * i) + 1) := hL_i.2.1
      have ks_i : K ((m + 7 + 5 * i) + 1) = (2, 3, 0) := hL_i.2.2.1
      have hR_i := n7 i (by omega)
      have e5_i : f (m + 7 + 5 * i) 5 = (rs i).2 5 := hR_i.2.1 5 (by omega) (by omega)
      refine mj_iload_n (i := 2) (q := 5) dX1_depthByArea_4 rfl rfl rfl ?_
      refine mj_aload_n (i := 0) (q := 6) dX1_depthByArea_5 rfl rfl rfl ?_
      refine mj_getfv (q := 9) dX1_depthByArea_6 fl_X1_42 rfl rfl (by assumption) (by assumption) ?_
      refine mj_icmp_ge (tgt := 43) (q := 12) dX1_depthByArea_9 (by decide) rfl (fun c_9 => absurd c_9 (nI_ge (a := i) (b := rc) (by omega) (by omega))) (fun c_9 => ?_)
      refine mj_iload_n (i := 1) (q := 13) dX1_depthByArea_12 rfl rfl rfl ?_
      refine mj_aload_n (i := 0) (q := 14) dX1_depthByArea_13 rfl rfl rfl ?_
      refine mj_getr (q := 17) dX1_depthByArea_14 fl_X1_20 rfl rfl (by assumption) (by assumption) ?_
      refine mj_iload_n (i := 2) (q := 18) dX1_depthByArea_17 rfl rfl rfl ?_
      refine mj_aaldn (q := 19) dX1_depthByArea_18 rfl (by assumption) ⟨by omega, by omega⟩ (by assumption) ?_
      refine mj_getr (q := 22) dX1_depthByArea_19 fl_X1_89 rfl rfl (by assumption) (by assumption) ?_
      refine mj_cV0i (K := m_X3_wholeDepth) (q := 25) dX1_depthByArea_22 ln_X1_93 ok_X3_wholeDepth (Nat.le_of_ble_eq_true rfl) (by decide) (by assumption) rfl rfl (s_wholeDepth hL_i.2.2 hR_i.1) (fun r_22 h1 hq => ?_)
      obtain ⟨rfl, rfl⟩ := hq
      refine mj_aload_n (i := 0) (q := 26) dX1_depthByArea_25 rfl rfl rfl ?_
      refine mj_getr (q := 29) dX1_depthByArea_26 fl_X1_20 rfl rfl (by assumption) (by assumption) ?_
      refine mj_iload_n (i := 2) (q := 30) dX1_depthByArea_29 rfl rfl rfl ?_
      refine mj_aaldn (q := 31) dX1_depthByArea_30 rfl (by assumption) ⟨by omega, by omega⟩ (by assumption) ?_
      refine mj_getfv (q := 34) dX1_depthByArea_31 fl_X1_99 rfl rfl (by assumption) (by assumption) ?_
      refine mj_imul (q := 35) dX1_depthByArea_34 rfl ?_
      refine mj_iadd (q := 36) dX1_depthByArea_35 rfl ?_
      refine mj_istore_n (i := 1) (q := 37) dX1_depthByArea_36 rfl rfl (by decide) rfl ?_
      dsimp only [List.set]
      refine mj_iinc (i := 2) (q := 40) dX1_depthByArea_37 rfl rfl (by decide) rfl ?_
      dsimp only [List.set]
      refine mj_goto (q := 4) dX1_depthByArea_40 (by decide) ?_
      rw [show nI i + Int32.ofInt 1 = nI (i + 1) from nI_1 i]
      exact ih (i + 1) (by omega)
  refine mj_entry (by refine ⟨by decide +kernel, by decide, rfl, Nat.le_of_ble_eq_true rfl⟩) ?_
  show mj_W _ _ _ _ _ 0 [.ref m, .null, .null] [] _
  refine mj_num1 (v := 0) (q := 1) rfl dX1_depthByArea_0 rfl ?_
  refine mj_istore_n (i := 1) (q := 2) dX1_depthByArea_1 rfl rfl (by decide) rfl ?_
  dsimp only [List.set]
  refine mj_num1 (v := nI 0) (q := 3) (by decide) dX1_depthByArea_2 rfl ?_
  refine mj_istore_n (i := 2) (q := 4) dX1_depthByArea_3 rfl rfl (by decide) rfl ?_
  dsimp only [List.set]
  exact key rc 0 (by omega)
set_option maxHeartbeats 4000000 in
set_option maxRecDepth 100000 in
theorem s_wholeArea {d m : Nat}  {n : Nat} {K : Nat → mj_K} {f : Nat → Nat → Int32} {g : Nat → Nat → Option Nat} {y : mV} (hL : LMn K g m) (hN : MN f m y) : mj_Ci m_X1_wholeArea (d + 1) [.ref m] (n, K, f, g) (fun r h1 => h1 = (n, K, f, g) ∧ r = vArea y.2.2.2.2 y.2.1) := by
  have hL2 := hL
  have hN2 := hN
  obtain ⟨km, gm0, gm1, km1, km6, hLl, hLr⟩ := hL
  obtain ⟨lc, rc, mu, ls, rs⟩ := y
  obtain ⟨n1, n2, n3, n4, n5, n6, n7, n8⟩ := hN
  dsimp only at n1 n2 n3 n4 n5 n6 n7 n8
  have key : ∀ (j i : Nat), i + j = rc → mj_W m_X1_wholeArea (d + 1) 0 0 (fun v h1 => ∃ r, v = some (.int r) ∧ h1 = (n, K, f, g) ∧ r = vArea rs rc) 4 [.ref m, .int (vArea rs i), .int (nI i)] [] (n, K, f, g) := by
    intro j
    induction j with
    | zero =>
      intro i hi
      have hi : i = rc := by omega
      subst hi
      refine mj_iload_n (i := 2) (q := 5) dX1_wholeArea_4 rfl rfl rfl ?_
      refine mj_aload_n (i := 0) (q := 6) dX1_wholeArea_5 rfl rfl rfl ?_
      refine mj_getfv (q := 9) dX1_wholeArea_6 fl_X1_42 rfl rfl (by assumption) (by assumption) ?_
      refine mj_icmp_ge (tgt := 30) (q := 12) dX1_wholeArea_9 (by decide) rfl (fun c_9 => ?_) (fun c_9 => absurd (Int32.le_refl _) c_9)
      refine mj_iload_n (i := 1) (q := 31) dX1_wholeArea_30 rfl rfl rfl ?_
      exact mj_ireturn dX1_wholeArea_31 ⟨_, rfl, rfl⟩ ⟨_, rfl, ⟨rfl, rfl⟩⟩
    | succ j ih =>
      intro i hi
      have hg_i : g (m + 6) i = some (m + 7 + 5 * i) := (hLr i (by omega)).1
      have hL_i := (hLr i (by omega)).2
      have kr_i : K (m + 7 + 5 * i) = (2, 2, 0) := hL_i.1
      have gr_i : g (m + 7 + 5 * i) 0 = some ((m + 7 + 5 * i) + 1) := hL_i.2.1
      have ks_i : K ((m + 7 + 5 * i) + 1) = (2, 3, 0) := hL_i.2.2.1
      have hR_i := n7 i (by omega)
      have e5_i : f (m + 7 + 5 * i) 5 = (rs i).2 5 := hR_i.2.1 5 (by omega) (by omega)
      refine mj_iload_n (i := 2) (q := 5) dX1_wholeArea_4 rfl rfl rfl ?_
      refine mj_aload_n (i := 0) (q := 6) dX1_wholeArea_5 rfl rfl rfl ?_
      refine mj_getfv (q := 9) dX1_wholeArea_6 fl_X1_42 rfl rfl (by assumption) (by assumption) ?_
      refine mj_icmp_ge (tgt := 30) (q := 12) dX1_wholeArea_9 (by decide) rfl (fun c_9 => absurd c_9 (nI_ge (a := i) (b := rc) (by omega) (by omega))) (fun c_9 => ?_)
      refine mj_iload_n (i := 1) (q := 13) dX1_wholeArea_12 rfl rfl rfl ?_
      refine mj_aload_n (i := 0) (q := 14) dX1_wholeArea_13 rfl rfl rfl ?_
      refine mj_getr (q := 17) dX1_wholeArea_14 fl_X1_20 rfl rfl (by assumption) (by assumption) ?_
      refine mj_iload_n (i := 2) (q := 18) dX1_wholeArea_17 rfl rfl rfl ?_
      refine mj_aaldn (q := 19) dX1_wholeArea_18 rfl (by assumption) ⟨by omega, by omega⟩ (by assumption) ?_
      refine mj_getfv (q := 22) dX1_wholeArea_19 fl_X1_99 rfl rfl (by assumption) (by assumption) ?_
      refine mj_iadd (q := 23) dX1_wholeArea_22 rfl ?_
      refine mj_istore_n (i := 1) (q := 24) dX1_wholeArea_23 rfl rfl (by decide) rfl ?_
      dsimp only [List.set]
      refine mj_iinc (i := 2) (q := 27) dX1_wholeArea_24 rfl rfl (by decide) rfl ?_
      dsimp only [List.set]
      refine mj_goto (q := 4) dX1_wholeArea_27 (by decide) ?_
      rw [show nI i + Int32.ofInt 1 = nI (i + 1) from nI_1 i]
      exact ih (i + 1) (by omega)
  refine mj_entry (by refine ⟨by decide +kernel, by decide, rfl, Nat.le_of_ble_eq_true rfl⟩) ?_
  show mj_W _ _ _ _ _ 0 [.ref m, .null, .null] [] _
  refine mj_num1 (v := 0) (q := 1) rfl dX1_wholeArea_0 rfl ?_
  refine mj_istore_n (i := 1) (q := 2) dX1_wholeArea_1 rfl rfl (by decide) rfl ?_
  dsimp only [List.set]
  refine mj_num1 (v := nI 0) (q := 3) (by decide) dX1_wholeArea_2 rfl ?_
  refine mj_istore_n (i := 2) (q := 4) dX1_wholeArea_3 rfl rfl (by decide) rfl ?_
  dsimp only [List.set]
  exact key rc 0 (by omega)
set_option maxHeartbeats 4000000 in
set_option maxRecDepth 100000 in
theorem s_isTested {d m i : Nat} {n : Nat} {K : Nat → mj_K} {f : Nat → Nat → Int32} {g : Nat → Nat → Option Nat} {y : mV} (hL : LMn K g m) (hN : MN f m y) (hi : i < y.2.1) : mj_Ci m_X1_isTested d [.ref m, .ref (m + 7 + 5 * i)] (n, K, f, g) (fun r h1 => h1 = (n, K, f, g) ∧ r = if vTested y.2.2.1 (y.2.2.2.2 i) = true then 1 else 0) := by
  have hL2 := hL
  have hN2 := hN
  obtain ⟨km, gm0, gm1, km1, km6, hLl, hLr⟩ := hL
  obtain ⟨lc, rc, mu, ls, rs⟩ := y
  obtain ⟨n1, n2, n3, n4, n5, n6, n7, n8⟩ := hN
  dsimp only at n1 n2 n3 n4 n5 n6 n7 n8
  have hi : i < rc := hi
  have u4 : f m 4 = mu 4 := n5 4 (by omega) (by omega)
  have hg_i : g (m + 6) i = some (m + 7 + 5 * i) := (hLr i (by omega)).1
  have hL_i := (hLr i (by omega)).2
  have kr_i : K (m + 7 + 5 * i) = (2, 2, 0) := hL_i.1
  have gr_i : g (m + 7 + 5 * i) 0 = some ((m + 7 + 5 * i) + 1) := hL_i.2.1
  have ks_i : K ((m + 7 + 5 * i) + 1) = (2, 3, 0) := hL_i.2.2.1
  have hR_i := n7 i (by omega)
  have e12_i : f (m + 7 + 5 * i) 12 = (rs i).2 12 := hR_i.2.1 12 (by omega) (by omega)
  refine mj_entry (by refine ⟨by decide +kernel, by decide, rfl, Nat.le_of_ble_eq_true rfl⟩) ?_
  show mj_W _ _ _ _ _ 0 [.ref m, .ref (m + 7 + 5 * i)] [] _
  refine mj_aload_n (i := 0) (q := 1) dX1_isTested_0 rfl rfl rfl ?_
  refine mj_getfv (q := 4) dX1_isTested_1 fl_X1_48 rfl rfl (by assumption) (by assumption) ?_
  refine mj_aload_n (i := 1) (q := 5) dX1_isTested_4 rfl rfl rfl ?_
  refine mj_getfv (q := 8) dX1_isTested_5 fl_X1_102 rfl rfl (by assumption) (by assumption) ?_
  refine mj_icmp_gt (tgt := 15) (q := 11) dX1_isTested_8 (by decide) rfl (fun c_8 => ?_) (fun c_8 => ?_)
  · refine mj_num1 (v := 0) (q := 16) rfl dX1_isTested_15 rfl ?_
    exact mj_ireturn dX1_isTested_16 ⟨_, rfl, rfl⟩ ⟨_, rfl, rfl, by simp only [vTested, decide_eq_true_eq]; rw [if_neg (Int32.not_le.mpr c_8)]⟩
  · refine mj_num1 (v := 1) (q := 12) rfl dX1_isTested_11 rfl ?_
    refine mj_goto (q := 16) dX1_isTested_12 (by decide) ?_
    exact mj_ireturn dX1_isTested_16 ⟨_, rfl, rfl⟩ ⟨_, rfl, rfl, by simp only [vTested, decide_eq_true_eq]; rw [if_pos (Int32.not_lt.mp c_8)]⟩
set_option maxHeartbeats 4000000 in
set_option maxRecDepth 100000 in
theorem s_wouldTell {d m i : Nat} {num : Int32} {n : Nat} {K : Nat → mj_K} {f : Nat → Nat → Int32} {g : Nat → Nat → Option Nat} {y : mV} (hL : LMn K g m) (hN : MN f m y) (hi : i < y.2.1) : mj_Ci m_X1_wouldTell (d + 4) [.ref m, .int num, .ref (m + 7 + 5 * i)] (n, K, f, g) (fun r h1 => h1 = (n, K, f, g) ∧ r = vTell y.2.2.1 num (y.2.2.2.2 i)) := by
  have hL2 := hL
  have hN2 := hN
  obtain ⟨km, gm0, gm1, km1, km6, hLl, hLr⟩ := hL
  obtain ⟨lc, rc, mu, ls, rs⟩ := y
  obtain ⟨n1, n2, n3, n4, n5, n6, n7, n8⟩ := hN
  dsimp only at n1 n2 n3 n4 n5 n6 n7 n8
  have hi : i < rc := hi
  have u4 : f m 4 = mu 4 := n5 4 (by omega) (by omega)
  have hg_i : g (m + 6) i = some (m + 7 + 5 * i) := (hLr i (by omega)).1
  have hL_i := (hLr i (by omega)).2
  have kr_i : K (m + 7 + 5 * i) = (2, 2, 0) := hL_i.1
  have gr_i : g (m + 7 + 5 * i) 0 = some ((m + 7 + 5 * i) + 1) := hL_i.2.1
  have ks_i : K ((m + 7 + 5 * i) + 1) = (2, 3, 0) := hL_i.2.2.1
  have hR_i := n7 i (by omega)
  refine mj_entry (by refine ⟨by decide +kernel, by decide, rfl, Nat.le_of_ble_eq_true rfl⟩) ?_
  show mj_W _ _ _ _ _ 0 [.ref m, .int num, .ref (m + 7 + 5 * i), .null] [] _
  refine mj_num1 (v := 5) (q := 1) rfl dX1_wouldTell_0 rfl ?_
  refine mj_aload_n (i := 0) (q := 2) dX1_wouldTell_1 rfl rfl rfl ?_
  refine mj_getfv (q := 5) dX1_wouldTell_2 fl_X1_48 rfl rfl (by assumption) (by assumption) ?_
  refine mj_imul (q := 6) dX1_wouldTell_5 rfl ?_
  refine mj_num1 (v := 3) (q := 7) rfl dX1_wouldTell_6 rfl ?_
  refine mj_iload_n (i := 1) (q := 8) dX1_wouldTell_7 rfl rfl rfl ?_
  refine mj_imul (q := 9) dX1_wouldTell_8 rfl ?_
  refine mj_iadd (q := 10) dX1_wouldTell_9 rfl ?_
  refine mj_num2 (v := 9) (q := 12) (by decide) dX1_wouldTell_10 rfl ?_
  refine mj_irem (q := 13) (by decide) dX1_wouldTell_12 rfl ?_
  refine mj_num1 (v := 4) (q := 14) rfl dX1_wouldTell_13 rfl ?_
  refine mj_isub (q := 15) dX1_wouldTell_14 rfl ?_
  refine mj_istore_n (i := 3) (q := 16) dX1_wouldTell_15 rfl rfl (by decide) rfl ?_
  dsimp only [List.set]
  refine mj_aload_n (i := 2) (q := 17) dX1_wouldTell_16 rfl rfl rfl ?_
  refine mj_cV0i (K := m_X2_risk) (q := 20) dX1_wouldTell_17 ln_X1_105 ok_X2_risk (Nat.le_of_ble_eq_true rfl) (by decide) (by assumption) rfl rfl (s_runRisk hL_i hR_i) (fun r_17 h1 hq => ?_)
  obtain ⟨rfl, rfl⟩ := hq
  refine mj_iload_n (i := 3) (q := 21) dX1_wouldTell_20 rfl rfl rfl ?_
  refine mj_iadd (q := 22) dX1_wouldTell_21 rfl ?_
  refine mj_num1 (v := 0) (q := 23) rfl dX1_wouldTell_22 rfl ?_
  refine mj_mmax (q := 26) dX1_wouldTell_23 ln_X1_108 (Nat.le_of_ble_eq_true rfl) rfl ?_
  exact mj_ireturn dX1_wouldTell_26 ⟨_, rfl, rfl⟩ ⟨_, rfl, ⟨rfl, rfl⟩⟩
set_option maxHeartbeats 4000000 in
set_option maxRecDepth 100000 in
theorem s_bar {d m i : Nat} {t told sw : Int32} {n : Nat} {K : Nat → mj_K} {f : Nat → Nat → Int32} {g : Nat → Nat → Option Nat} {y : mV} (hL : LMn K g m) (hN : MN f m y) (hi : i < y.2.1) : mj_Ci m_X1_bar (d + 3) [.ref m, .ref (m + 7 + 5 * i), .int t, .int told, .int sw] (n, K, f, g) (fun r h1 => h1 = (n, K, f, g) ∧ r = vBar y.2.2.2.1 (y.2.2.2.2 i) t told sw) := by
  have hL2 := hL
  have hN2 := hN
  obtain ⟨km, gm0, gm1, km1, km6, hLl, hLr⟩ := hL
  obtain ⟨lc, rc, mu, ls, rs⟩ := y
  obtain ⟨n1, n2, n3, n4, n5, n6, n7, n8⟩ := hN
  dsimp only at n1 n2 n3 n4 n5 n6 n7 n8
  have hi : i < rc := hi
  have hg_i : g (m + 6) i = some (m + 7 + 5 * i) := (hLr i (by omega)).1
  have hL_i := (hLr i (by omega)).2
  have kr_i : K (m + 7 + 5 * i) = (2, 2, 0) := hL_i.1
  have gr_i : g (m + 7 + 5 * i) 0 = some ((m + 7 + 5 * i) + 1) := hL_i.2.1
  have ks_i : K ((m + 7 + 5 * i) + 1) = (2, 3, 0) := hL_i.2.2.1
  have hR_i := n7 i (by omega)
  have e1_i : f (m + 7 + 5 * i) 1 = (rs i).2 1 := hR_i.2.1 1 (by omega) (by omega)
  have e10_i : f (m + 7 + 5 * i) 10 = (rs i).2 10 := hR_i.2.1 10 (by omega) (by omega)
  have e16_i : f (m + 7 + 5 * i) 16 = (rs i).2 16 := hR_i.2.1 16 (by omega) (by omega)
  obtain ⟨j, hj, ej⟩ := n8 i hi
  have ej : (rs i).2 1 = nI j := ej
  rw [ej] at e1_i
  have ejc : ((rs i).2 1).toNatClampNeg = j := by rw [ej, nI_clamp (by omega)]
  have hl_j : g (m + 1) j = some (m + 2 + j) := (hLl j (by omega)).1
  have kl_j : K (m + 2 + j) = (2, 0, 0) := (hLl j (by omega)).2
  have hN_j := n6 j (by omega)
  have tail : ∀ b : Int32, (b = if vMoving (ls j) = true then 1 else 0) → mj_W m_X1_bar (d + 3) 0 0 (fun v h1 => ∃ r, v = some (.int r) ∧ h1 = (n, K, f, g) ∧ r = vBar ls (rs i) t told sw) 38 [.ref m, .ref (m + 7 + 5 * i), .int t, .int told, .int sw, .null] [.int b] (n, K, f, g) := by
    intro b hb
    have hmv : b = 0 ↔ vMoving (ls ((rs i).2 1).toNatClampNeg) = false := by rw [ejc, hb]; exact mj_i01
    refine mj_istore (i := 5) (q := 40) dX1_bar_38 rfl (by decide) rfl ?_
    dsimp only [List.set]
    refine mj_iload (i := 5) (q := 42) dX1_bar_40 rfl rfl ?_
    refine mj_if_ne (tgt := 47) (q := 45) dX1_bar_42 (by decide) rfl (fun c_42 => ?_) (fun c_42 => ?_)
    · have hmv : vMoving (ls ((rs i).2 1).toNatClampNeg) = true := by simpa using mt hmv.mpr c_42
      refine mj_aload_n (i := 1) (q := 48) dX1_bar_47 rfl rfl rfl ?_
      refine mj_getfv (q := 51) dX1_bar_48 fl_X1_132 rfl rfl (by assumption) (by assumption) ?_
      refine mj_if_le (tgt := 56) (q := 54) dX1_bar_51 (by decide) rfl (fun c_51 => ?_) (fun c_51 => ?_)
      · refine mj_aload_n (i := 1) (q := 57) dX1_bar_56 rfl rfl rfl ?_
        refine mj_getfv (q := 60) dX1_bar_57 fl_X1_135 rfl rfl (by assumption) (by assumption) ?_
        refine mj_if_eq (tgt := 65) (q := 63) dX1_bar_60 (by decide) rfl (fun c_60 => ?_) (fun c_60 => ?_)
        · refine mj_iload_n (i := 2) (q := 66) dX1_bar_65 rfl rfl rfl ?_
          refine mj_if_ne (tgt := 71) (q := 69) dX1_bar_66 (by decide) rfl (fun c_66 => ?_) (fun c_66 => ?_)
          · refine mj_iload_n (i := 3) (q := 72) dX1_bar_71 rfl rfl rfl ?_
            refine mj_num2 (v := 30) (q := 74) (by decide) dX1_bar_72 rfl ?_
            refine mj_icmp_le (tgt := 79) (q := 77) dX1_bar_74 (by decide) rfl (fun c_74 => ?_) (fun c_74 => ?_)
            · refine mj_aload_n (i := 1) (q := 80) dX1_bar_79 rfl rfl rfl ?_
              refine mj_getr (q := 83) dX1_bar_80 fl_X1_89 rfl rfl (by assumption) (by assumption) ?_
              refine mj_cV0i (K := m_X3_wholeDepth) (q := 86) dX1_bar_83 ln_X1_93 ok_X3_wholeDepth (Nat.le_of_ble_eq_true rfl) (by decide) (by assumption) rfl rfl (s_wholeDepth hL_i.2.2 hR_i.1) (fun r_83 h1 hq => ?_)
              obtain ⟨rfl, rfl⟩ := hq
              refine mj_num2 (v := 30) (q := 88) (by decide) dX1_bar_86 rfl ?_
              refine mj_icmp_ge (tgt := 94) (q := 91) dX1_bar_88 (by decide) rfl (fun c_88 => ?_) (fun c_88 => ?_)
              · refine mj_iload (i := 4) (q := 96) dX1_bar_94 rfl rfl ?_
                refine mj_if_eq (tgt := 103) (q := 99) dX1_bar_96 (by decide) rfl (fun c_96 => ?_) (fun c_96 => ?_)
                · refine mj_num2 (v := 7) (q := 105) (by decide) dX1_bar_103 rfl ?_
                  exact mj_ireturn dX1_bar_105 ⟨_, rfl, rfl⟩ ⟨_, rfl, rfl, by simp only [vBar]; rw [if_neg (by rw [hmv]; simp), if_neg (Int32.not_lt.mpr c_51), if_neg (fun z => z c_60), if_neg c_66, if_neg (Int32.not_lt.mpr c_74), if_neg (Int32.not_lt.mpr c_88), if_pos c_96]⟩
                · refine mj_num1 (v := 0) (q := 100) rfl dX1_bar_99 rfl ?_
                  refine mj_goto (q := 105) dX1_bar_100 (by decide) ?_
                  exact mj_ireturn dX1_bar_105 ⟨_, rfl, rfl⟩ ⟨_, rfl, rfl, by simp only [vBar]; rw [if_neg (by rw [hmv]; simp), if_neg (Int32.not_lt.mpr c_51), if_neg (fun z => z c_60), if_neg c_66, if_neg (Int32.not_lt.mpr c_74), if_neg (Int32.not_lt.mpr c_88), if_neg c_96]⟩
              · refine mj_num2 (v := 6) (q := 93) (by decide) dX1_bar_91 rfl ?_
                exact mj_ireturn dX1_bar_93 ⟨_, rfl, rfl⟩ ⟨_, rfl, rfl, by simp only [vBar]; rw [if_neg (by rw [hmv]; simp), if_neg (Int32.not_lt.mpr c_51), if_neg (fun z => z c_60), if_neg c_66, if_neg (Int32.not_lt.mpr c_74), if_pos (Int32.not_le.mp c_88)]⟩
            · refine mj_num1 (v := 5) (q := 78) rfl dX1_bar_77 rfl ?_
              exact mj_ireturn dX1_bar_78 ⟨_, rfl, rfl⟩ ⟨_, rfl, rfl, by simp only [vBar]; rw [if_neg (by rw [hmv]; simp), if_neg (Int32.not_lt.mpr c_51), if_neg (fun z => z c_60), if_neg c_66, if_pos (Int32.not_le.mp c_74)]⟩
          · refine mj_num1 (v := 4) (q := 70) rfl dX1_bar_69 rfl ?_
            exact mj_ireturn dX1_bar_70 ⟨_, rfl, rfl⟩ ⟨_, rfl, rfl, by simp only [vBar]; rw [if_neg (by rw [hmv]; simp), if_neg (Int32.not_lt.mpr c_51), if_neg (fun z => z c_60), if_pos c_66]⟩
        · refine mj_num1 (v := 3) (q := 64) rfl dX1_bar_63 rfl ?_
          exact mj_ireturn dX1_bar_64 ⟨_, rfl, rfl⟩ ⟨_, rfl, rfl, by simp only [vBar]; rw [if_neg (by rw [hmv]; simp), if_neg (Int32.not_lt.mpr c_51), if_pos c_60]⟩
      · refine mj_num1 (v := 2) (q := 55) rfl dX1_bar_54 rfl ?_
        exact mj_ireturn dX1_bar_55 ⟨_, rfl, rfl⟩ ⟨_, rfl, rfl, by simp only [vBar]; rw [if_neg (by rw [hmv]; simp), if_pos (Int32.not_le.mp c_51)]⟩
    · have hmv := hmv.mp c_42
      refine mj_num1 (v := 1) (q := 46) rfl dX1_bar_45 rfl ?_
      exact mj_ireturn dX1_bar_46 ⟨_, rfl, rfl⟩ ⟨_, rfl, rfl, by simp only [vBar]; rw [if_pos hmv]⟩
  refine mj_entry (by refine ⟨by decide +kernel, by decide, rfl, Nat.le_of_ble_eq_true rfl⟩) ?_
  show mj_W _ _ _ _ _ 0 [.ref m, .ref (m + 7 + 5 * i), .int t, .int told, .int sw, .null] [] _
  refine mj_aload_n (i := 1) (q := 1) dX1_bar_0 rfl rfl rfl ?_
  refine mj_getfv (q := 4) dX1_bar_1 fl_X1_86 rfl rfl (by assumption) (by assumption) ?_
  refine mj_if_lt (tgt := 37) (q := 7) dX1_bar_4 (by decide) rfl (fun c_4 => absurd c_4 (nI_pos (by omega))) (fun c_4 => ?_)
  refine mj_aload_n (i := 1) (q := 8) dX1_bar_7 rfl rfl rfl ?_
  refine mj_getfv (q := 11) dX1_bar_8 fl_X1_86 rfl rfl (by assumption) (by assumption) ?_
  refine mj_aload_n (i := 0) (q := 12) dX1_bar_11 rfl rfl rfl ?_
  refine mj_getfv (q := 15) dX1_bar_12 fl_X1_35 rfl rfl (by assumption) (by assumption) ?_
  refine mj_icmp_ge (tgt := 37) (q := 18) dX1_bar_15 (by decide) rfl (fun c_15 => absurd c_15 (nI_ge hj (by omega))) (fun c_15 => ?_)
  refine mj_aload_n (i := 0) (q := 19) dX1_bar_18 rfl rfl rfl ?_
  refine mj_getr (q := 22) dX1_bar_19 fl_X1_11 rfl rfl (by assumption) (by assumption) ?_
  refine mj_aload_n (i := 1) (q := 23) dX1_bar_22 rfl rfl rfl ?_
  refine mj_getfv (q := 26) dX1_bar_23 fl_X1_86 rfl rfl (by assumption) (by assumption) ?_
  refine mj_aaldn (q := 27) dX1_bar_26 rfl (by assumption) ⟨by omega, by omega⟩ (by assumption) ?_
  refine mj_cV0i (K := m_X0_isMoving) (q := 30) dX1_bar_27 ln_X1_128 ok_X0_isMoving (Nat.le_of_ble_eq_true rfl) (by decide) (by assumption) rfl rfl (s_isMoving kl_j hN_j) (fun r_27 h1 hq => ?_)
  obtain ⟨rfl, hr_27⟩ := hq
  refine mj_if_eq (tgt := 37) (q := 33) dX1_bar_30 (by decide) rfl (fun c_30 => ?_) (fun c_30 => ?_)
  · refine mj_num1 (v := 0) (q := 38) rfl dX1_bar_37 rfl ?_
    exact tail 0 (by rw [hr_27] at c_30; exact c_30.symm)
  · refine mj_num1 (v := 1) (q := 34) rfl dX1_bar_33 rfl ?_
    refine mj_goto (q := 38) dX1_bar_34 (by decide) ?_
    rw [hr_27] at c_30
    have hz : vMoving (ls j) = true := Decidable.byContradiction (fun z => c_30 (if_neg z))
    exact tail 1 (if_pos hz).symm
set_option maxHeartbeats 4000000 in
set_option maxRecDepth 100000 in
theorem s_barNow {d m i : Nat} {n : Nat} {K : Nat → mj_K} {f : Nat → Nat → Int32} {g : Nat → Nat → Option Nat} {y : mV} (hL : LMn K g m) (hN : MN f m y) (hi : i < y.2.1) : mj_Ci m_X1_barNow (d + 4) [.ref m, .ref (m + 7 + 5 * i)] (n, K, f, g) (fun r h1 => h1 = (n, K, f, g) ∧ r = vBarNow y.2.2.1 y.2.2.2.1 (y.2.2.2.2 i)) := by
  have hL2 := hL
  have hN2 := hN
  obtain ⟨km, gm0, gm1, km1, km6, hLl, hLr⟩ := hL
  obtain ⟨lc, rc, mu, ls, rs⟩ := y
  obtain ⟨n1, n2, n3, n4, n5, n6, n7, n8⟩ := hN
  dsimp only at n1 n2 n3 n4 n5 n6 n7 n8
  have hi : i < rc := hi
  have hg_i : g (m + 6) i = some (m + 7 + 5 * i) := (hLr i (by omega)).1
  have hL_i := (hLr i (by omega)).2
  have kr_i : K (m + 7 + 5 * i) = (2, 2, 0) := hL_i.1
  have gr_i : g (m + 7 + 5 * i) 0 = some ((m + 7 + 5 * i) + 1) := hL_i.2.1
  have ks_i : K ((m + 7 + 5 * i) + 1) = (2, 3, 0) := hL_i.2.2.1
  have hR_i := n7 i (by omega)
  have e11_i : f (m + 7 + 5 * i) 11 = (rs i).2 11 := hR_i.2.1 11 (by omega) (by omega)
  have e17_i : f (m + 7 + 5 * i) 17 = (rs i).2 17 := hR_i.2.1 17 (by omega) (by omega)
  refine mj_entry (by refine ⟨by decide +kernel, by decide, rfl, Nat.le_of_ble_eq_true rfl⟩) ?_
  show mj_W _ _ _ _ _ 0 [.ref m, .ref (m + 7 + 5 * i)] [] _
  refine mj_aload_n (i := 0) (q := 1) dX1_barNow_0 rfl rfl rfl ?_
  refine mj_aload_n (i := 1) (q := 2) dX1_barNow_1 rfl rfl rfl ?_
  refine mj_aload_n (i := 0) (q := 3) dX1_barNow_2 rfl rfl rfl ?_
  refine mj_aload_n (i := 1) (q := 4) dX1_barNow_3 rfl rfl rfl ?_
  refine mj_cV1i (K := m_X1_isTested) (q := 7) dX1_barNow_4 ln_X1_114 ok_X1_isTested (Nat.le_of_ble_eq_true rfl) (by decide) (by assumption) rfl rfl (s_isTested hL2 hN2 hi) (fun r_4 h1 hq => ?_)
  obtain ⟨rfl, rfl⟩ := hq
  refine mj_aload_n (i := 1) (q := 8) dX1_barNow_7 rfl rfl rfl ?_
  refine mj_getfv (q := 11) dX1_barNow_8 fl_X1_118 rfl rfl (by assumption) (by assumption) ?_
  refine mj_aload_n (i := 1) (q := 12) dX1_barNow_11 rfl rfl rfl ?_
  refine mj_getfv (q := 15) dX1_barNow_12 fl_X1_121 rfl rfl (by assumption) (by assumption) ?_
  refine mj_cV4i (K := m_X1_bar) (q := 18) dX1_barNow_15 ln_X1_124 ok_X1_bar (Nat.le_of_ble_eq_true rfl) (by decide) (by assumption) rfl rfl (s_bar hL2 hN2 hi) (fun r_15 h1 hq => ?_)
  obtain ⟨rfl, rfl⟩ := hq
  exact mj_ireturn dX1_barNow_18 ⟨_, rfl, rfl⟩ ⟨_, rfl, ⟨rfl, rfl⟩⟩
end
section
/-! THE MOUNTAIN, second part: what changes it -/
theorem mj_row_row {α : Type} {f : Nat → α} {a : Nat} {v w : α} : mj_row (mj_row f a v) a w = mj_row f a w := by funext b; unfold mj_row; split <;> rfl
theorem mj_row_self {α : Type} {f : Nat → α} {a : Nat} : mj_row f a (f a) = f := by funext b; unfold mj_row; split <;> simp_all
theorem upd_upd {f : Nat → Int32} {a : Nat} {v w : Int32} : upd (upd f a v) a w = upd f a w := by funext b; unfold upd; split <;> rfl
theorem upd_self {f : Nat → Int32} {a : Nat} : upd f a (f a) = f := by funext b; unfold upd; split <;> simp_all
theorem upd_e {f : Nat → Int32} {a : Nat} {v : Int32} : upd f a v a = v := by simp [upd]
theorem upd_n {f : Nat → Int32} {a b : Nat} {v : Int32} (h : b ≠ a) : upd f a v b = f b := by simp [upd, h]
theorem mj_Fr.big {m lo hi : Nat} {f f1 : Nat → Nat → Int32} (h : mj_Fr lo hi f f1) (h1 : m ≤ lo) (h2 : hi ≤ m + 47) : mj_Fr m (m + 47) f f1 := h.wide h1 h2
theorem vShear_le {s : Int32} {x : sV} (h : x.1 ≤ 8) : vShear s x = -1 ∨ ∃ k, k < x.1 ∧ vShear s x = nI k := vShear_rng s x

set_option maxHeartbeats 4000000 in
set_option maxRecDepth 100000 in
theorem s_slideOn {d m i : Nat} {n : Nat} {K : Nat → mj_K} {f : Nat → Nat → Int32} {g : Nat → Nat → Option Nat} {y : mV} (hL : LMn K g m) (hN : MN f m y) (hi : i < y.2.1) : mj_Ci m_X1_slideOn (d + 3) [.ref m, .ref (m + 7 + 5 * i)] (n, K, f, g) (fun r h1 => ∃ f1, h1 = (n, K, f1, g) ∧ MN f1 m (y.1, y.2.1, vSlideMu y.2.2.1 (vSlideSize (y.2.2.2.2 i)), y.2.2.2.1, mj_row y.2.2.2.2 i (vSlideRun (y.2.2.2.2 i))) ∧ mj_Fr m (m + 47) f f1 ∧ r = vSlideSize (y.2.2.2.2 i)) := by
  have hL2 := hL
  have hN2 := hN
  obtain ⟨km, gm0, gm1, km1, km6, hLl, hLr⟩ := hL
  obtain ⟨lc, rc, mu, ls, rs⟩ := y
  obtain ⟨n1, n2, n3, n4, n5, n6, n7, n8⟩ := hN
  dsimp only at n1 n2 n3 n4 n5 n6 n7 n8
  have hi : i < rc := hi
  have u10 : f m 10 = mu 10 := n5 10 (by omega) (by omega)
  have u11 : f m 11 = mu 11 := n5 11 (by omega) (by omega)
  have hg_i : g (m + 6) i = some (m + 7 + 5 * i) := (hLr i (by omega)).1
  have hL_i := (hLr i (by omega)).2
  have kr_i : K (m + 7 + 5 * i) = (2, 2, 0) := hL_i.1
  have gr_i : g (m + 7 + 5 * i) 0 = some ((m + 7 + 5 * i) + 1) := hL_i.2.1
  have ks_i : K ((m + 7 + 5 * i) + 1) = (2, 3, 0) := hL_i.2.2.1
  have hR_i := n7 i (by omega)
  have e9_i : f (m + 7 + 5 * i) 9 = (rs i).2 9 := hR_i.2.1 9 (by omega) (by omega)
  refine mj_entry (by refine ⟨by decide +kernel, by decide, rfl, Nat.le_of_ble_eq_true rfl⟩) ?_
  show mj_W _ _ _ _ _ 0 [.ref m, .ref (m + 7 + 5 * i), .null, .null] [] _
  refine mj_aload_n (i := 1) (q := 1) dX1_slideOn_0 rfl rfl rfl ?_
  refine mj_cV0i (K := m_X2_shear) (q := 4) dX1_slideOn_1 ln_X1_138 ok_X2_shear (Nat.le_of_ble_eq_true rfl) (by decide) (by assumption) rfl rfl (s_runShear hL_i hR_i) (fun r_1 h1 hq => ?_)
  obtain ⟨rfl, rfl⟩ := hq
  refine mj_istore_n (i := 2) (q := 5) dX1_slideOn_4 rfl rfl (by decide) rfl ?_
  dsimp only [List.set]
  refine mj_aload_n (i := 1) (q := 6) dX1_slideOn_5 rfl rfl rfl ?_
  refine mj_iload_n (i := 2) (q := 7) dX1_slideOn_6 rfl rfl rfl ?_
  refine mj_cV1i (K := m_X2_sizeFrom) (q := 10) dX1_slideOn_7 ln_X1_141 ok_X2_sizeFrom (Nat.le_of_ble_eq_true rfl) (by decide) (by assumption) rfl rfl (s_runSize hL_i hR_i (vShear_rng _ _)) (fun r_7 h1 hq => ?_)
  obtain ⟨rfl, rfl⟩ := hq
  refine mj_istore_n (i := 3) (q := 11) dX1_slideOn_10 rfl rfl (by decide) rfl ?_
  dsimp only [List.set]
  refine mj_aload_n (i := 1) (q := 12) dX1_slideOn_11 rfl rfl rfl ?_
  refine mj_getr (q := 15) dX1_slideOn_12 fl_X1_89 rfl rfl (by assumption) (by assumption) ?_
  refine mj_iload_n (i := 2) (q := 16) dX1_slideOn_15 rfl rfl rfl ?_
  refine mj_cV1v (K := m_X3_dropFrom) (q := 19) dX1_slideOn_16 ln_X1_145 ok_X3_dropFrom (Nat.le_of_ble_eq_true rfl) (by decide) (by assumption) rfl rfl (s_dropFrom hL_i.2.2 hR_i.1 (vShear_rng _ _)) (fun h1 hq => ?_)
  obtain ⟨f1, rfl, hS1, hF1⟩ := hq
  have e9 : f1 (m + 7 + 5 * i) 9 = (rs i).2 9 := by rw [hF1 (m + 7 + 5 * i) (by omega)]; exact e9_i
  have v10 : f1 m 10 = mu 10 := by rw [hF1 m (by omega)]; exact u10
  have v11 : f1 m 11 = mu 11 := by rw [hF1 m (by omega)]; exact u11
  have hR1 := ((((hR_i.snow hS1 hF1).put (k0 := 12) (v := -1) (by omega)).put (k0 := 17) (v := 0) (Or.inr (Or.inl rfl))).put (k0 := 9) (v := (rs i).2 9 + 1) (by omega))
  have hFr : mj_Fr (m + 7 + 5 * i) (m + 12 + 5 * i) f (mj_up (mj_up (mj_up f1 (m + 7 + 5 * i) 12 (-1)) (m + 7 + 5 * i) 17 0) (m + 7 + 5 * i) 9 ((rs i).2 9 + 1)) := by
    repeat (first | exact hF1.wide (by omega) (by omega) | refine mj_Fr.up ?_ (by omega) (by omega))
  have hM1 := (hN2.run hi hR1 hFr (by simp [upd])).put (k0 := 10) (v := mu 10 + 1) (by omega)
  refine mj_aload_n (i := 1) (q := 20) dX1_slideOn_19 rfl rfl rfl ?_
  refine mj_num1 (v := (-1)) (q := 21) rfl dX1_slideOn_20 rfl ?_
  refine mj_putf (q := 24) dX1_slideOn_21 fl_X1_102 rfl rfl (by assumption) rfl rfl rfl ?_
  refine mj_aload_n (i := 1) (q := 25) dX1_slideOn_24 rfl rfl rfl ?_
  refine mj_num1 (v := 0) (q := 26) rfl dX1_slideOn_25 rfl ?_
  refine mj_putf (q := 29) dX1_slideOn_26 fl_X1_121 rfl rfl (by assumption) rfl rfl rfl ?_
  refine mj_aload_n (i := 1) (q := 30) dX1_slideOn_29 rfl rfl rfl ?_
  refine mj_dup (q := 31) rfl dX1_slideOn_30 rfl ?_
  refine mj_getf (q := 34) dX1_slideOn_31 fl_X1_149 rfl rfl (by assumption) ?_
  refine mj_top (y := (rs i).2 9) (by simp [mj_up, e9]) ?_
  refine mj_num1 (v := 1) (q := 35) rfl dX1_slideOn_34 rfl ?_
  refine mj_iadd (q := 36) dX1_slideOn_35 rfl ?_
  refine mj_putf (q := 39) dX1_slideOn_36 fl_X1_149 rfl rfl (by assumption) rfl rfl rfl ?_
  refine mj_aload_n (i := 0) (q := 40) dX1_slideOn_39 rfl rfl rfl ?_
  refine mj_dup (q := 41) rfl dX1_slideOn_40 rfl ?_
  refine mj_getf (q := 44) dX1_slideOn_41 fl_X1_57 rfl rfl (by assumption) ?_
  refine mj_top (y := mu 10) (by rw [mj_upn (by omega), mj_upn (by omega), mj_upn (by omega)]; exact v10) ?_
  refine mj_num1 (v := 1) (q := 45) rfl dX1_slideOn_44 rfl ?_
  refine mj_iadd (q := 46) dX1_slideOn_45 rfl ?_
  refine mj_putf (q := 49) dX1_slideOn_46 fl_X1_57 rfl rfl (by assumption) rfl rfl rfl ?_
  refine mj_iload_n (i := 3) (q := 50) dX1_slideOn_49 rfl rfl rfl ?_
  refine mj_num3 (v := 900) (q := 53) (by decide) dX1_slideOn_50 rfl ?_
  refine mj_icmp_lt (tgt := 66) (q := 56) dX1_slideOn_53 (by decide) rfl (fun c_53 => ?_) (fun c_53 => ?_)
  · refine mj_iload_n (i := 3) (q := 67) dX1_slideOn_66 rfl rfl rfl ?_
    refine mj_ireturn dX1_slideOn_67 ⟨_, rfl, rfl⟩ ⟨_, rfl, _, rfl, ?_, ?_, rfl⟩
    · have e : vSlideMu mu (vSlideSize (rs i)) = upd mu 10 (mu 10 + 1) := by unfold vSlideMu; rw [if_pos (show vSlideSize (rs i) < 900 from c_53)]
      show MN _ m (lc, rc, vSlideMu mu (vSlideSize (rs i)), ls, mj_row rs i (vSlideRun (rs i)))
      rw [e]; exact hM1
    · repeat (first | exact hFr.wide (by omega) (by omega) | refine mj_Fr.up ?_ (by omega) (by omega))
  · refine mj_aload_n (i := 0) (q := 57) dX1_slideOn_56 rfl rfl rfl ?_
    refine mj_dup (q := 58) rfl dX1_slideOn_57 rfl ?_
    refine mj_getf (q := 61) dX1_slideOn_58 fl_X1_60 rfl rfl (by assumption) ?_
    refine mj_top (y := mu 11) (by simp [mj_up, v11, show ¬ m = m + 7 + 5 * i by omega]) ?_
    refine mj_num1 (v := 1) (q := 62) rfl dX1_slideOn_61 rfl ?_
    refine mj_iadd (q := 63) dX1_slideOn_62 rfl ?_
    refine mj_putf (q := 66) dX1_slideOn_63 fl_X1_60 rfl rfl (by assumption) rfl rfl rfl ?_
    refine mj_iload_n (i := 3) (q := 67) dX1_slideOn_66 rfl rfl rfl ?_
    refine mj_ireturn dX1_slideOn_67 ⟨_, rfl, rfl⟩ ⟨_, rfl, _, rfl, ?_, ?_, rfl⟩
    · have e : vSlideMu mu (vSlideSize (rs i)) = upd (upd mu 10 (mu 10 + 1)) 11 (mu 11 + 1) := by unfold vSlideMu; rw [if_neg (show ¬ vSlideSize (rs i) < 900 from c_53)]
      show MN _ m (lc, rc, vSlideMu mu (vSlideSize (rs i)), ls, mj_row rs i (vSlideRun (rs i)))
      rw [e]; exact hM1.put (by omega)
    · repeat (first | exact hFr.wide (by omega) (by omega) | refine mj_Fr.up ?_ (by omega) (by omega))
def vHold (wind : Int32) (z : Nat → Int32) : Nat → Int32 := if z 1 < wind then upd z 3 1 else z
def vHoldN (wind : Int32) (ls : Nat → Nat → Int32) : Nat → Nat → Nat → Int32
  | 0 => ls
  | n + 1 => mj_row (vHoldN wind ls n) n (vHold wind (ls n))
theorem vHoldN_ge {wind : Int32} {ls : Nat → Nat → Int32} : ∀ {n k : Nat}, n ≤ k → vHoldN wind ls n k = ls k
  | 0, _, _ => rfl
  | n + 1, k, h => by rw [vHoldN, mj_rown (by omega), vHoldN_ge (by omega)]
def vGunless (rs : Nat → rV) : Nat → Nat → rV
  | 0 => rs
  | n + 1 => mj_row (vGunless rs n) n ((rs n).1, upd (rs n).2 6 0)
theorem vGunless_ge {rs : Nat → rV} : ∀ {n k : Nat}, n ≤ k → vGunless rs n k = rs k
  | 0, _, _ => rfl
  | n + 1, k, h => by rw [vGunless, mj_rown (by omega), vGunless_ge (by omega)]
set_option maxHeartbeats 4000000 in
set_option maxRecDepth 100000 in
theorem s_holdLifts {d m : Nat} {wind : Int32} {n : Nat} {K : Nat → mj_K} {f : Nat → Nat → Int32} {g : Nat → Nat → Option Nat} {y : mV} (hL : LMn K g m) (hN : MN f m y) : mj_Cv m_X1_holdLifts d [.ref m, .int wind] (n, K, f, g) (fun h1 => ∃ f1, h1 = (n, K, f1, g) ∧ MN f1 m (y.1, y.2.1, y.2.2.1, vHoldN wind y.2.2.2.1 y.1, y.2.2.2.2) ∧ mj_Fr m (m + 47) f f1) := by
  have hL2 := hL
  have hN2 := hN
  obtain ⟨km, gm0, gm1, km1, km6, hLl, hLr⟩ := hL
  obtain ⟨lc, rc, mu, ls, rs⟩ := y
  obtain ⟨n1, n2, n3, n4, n5, n6, n7, n8⟩ := hN
  dsimp only at n1 n2 n3 n4 n5 n6 n7 n8
  have key : ∀ (j i : Nat) (f1 : Nat → Nat → Int32), i + j = lc → MN f1 m (lc, rc, mu, vHoldN wind ls i, rs) → mj_Fr m (m + 47) f f1 → mj_W m_X1_holdLifts d 0 0 (fun v h1 => v = none ∧ ∃ f1, h1 = (n, K, f1, g) ∧ MN f1 m (lc, rc, mu, vHoldN wind ls lc, rs) ∧ mj_Fr m (m + 47) f f1) 2 [.ref m, .int wind, .int (nI i)] [] (n, K, f1, g) := by
    intro j
    induction j with
    | zero =>
      intro i f1 hi hM hF
      have hi : i = lc := by omega
      subst hi
      have o3 : f1 m 2 = nI i := hM.2.2.1
      refine mj_iload_n (i := 2) (q := 3) dX1_holdLifts_2 rfl rfl rfl ?_
      refine mj_aload_n (i := 0) (q := 4) dX1_holdLifts_3 rfl rfl rfl ?_
      refine mj_getfv (q := 7) dX1_holdLifts_4 fl_X1_35 rfl rfl (by assumption) (by assumption) ?_
      refine mj_icmp_ge (tgt := 39) (q := 10) dX1_holdLifts_7 (by decide) rfl (fun c_7 => ?_) (fun c_7 => absurd (Int32.le_refl _) c_7)
      exact mj_return dX1_holdLifts_39 rfl ⟨rfl, ⟨_, rfl, hM, hF⟩⟩
    | succ j ih =>
      intro i f1 hi hM hF
      have o3 : f1 m 2 = nI lc := hM.2.2.1
      have ev : vHoldN wind ls i i = ls i := vHoldN_ge (Nat.le_refl i)
      have o6 : ∀ k, k < lc → LN f1 (m + 2 + k) (vHoldN wind ls i k) := hM.2.2.2.2.2.1
      have hl_i : g (m + 1) i = some (m + 2 + i) := (hLl i (by omega)).1
      have kl_i : K (m + 2 + i) = (2, 0, 0) := (hLl i (by omega)).2
      have hN_i := o6 i (by omega)
      rw [ev] at hN_i
      have l1 : f1 (m + 2 + i) 1 = ls i 1 := hN_i.1 1 (by omega)
      refine mj_iload_n (i := 2) (q := 3) dX1_holdLifts_2 rfl rfl rfl ?_
      refine mj_aload_n (i := 0) (q := 4) dX1_holdLifts_3 rfl rfl rfl ?_
      refine mj_getfv (q := 7) dX1_holdLifts_4 fl_X1_35 rfl rfl (by assumption) (by assumption) ?_
      refine mj_icmp_ge (tgt := 39) (q := 10) dX1_holdLifts_7 (by decide) rfl (fun c_7 => absurd c_7 (nI_ge (a := i) (b := lc) (by omega) (by omega))) (fun c_7 => ?_)
      refine mj_iload_n (i := 1) (q := 11) dX1_holdLifts_10 rfl rfl rfl ?_
      refine mj_aload_n (i := 0) (q := 12) dX1_holdLifts_11 rfl rfl rfl ?_
      refine mj_getr (q := 15) dX1_holdLifts_12 fl_X1_11 rfl rfl (by assumption) (by assumption) ?_
      refine mj_iload_n (i := 2) (q := 16) dX1_holdLifts_15 rfl rfl rfl ?_
      refine mj_aaldn (q := 17) dX1_holdLifts_16 rfl (by assumption) ⟨by omega, by omega⟩ (by assumption) ?_
      refine mj_getfv (q := 20) dX1_holdLifts_17 fl_X1_188 rfl rfl (by assumption) (by assumption) ?_
      refine mj_icmp_le (tgt := 33) (q := 23) dX1_holdLifts_20 (by decide) rfl (fun c_20 => ?_) (fun c_20 => ?_)
      · refine mj_iinc (i := 2) (q := 36) dX1_holdLifts_33 rfl rfl (by decide) rfl ?_
        dsimp only [List.set]
        refine mj_goto (q := 2) dX1_holdLifts_36 (by decide) ?_
        rw [show nI i + Int32.ofInt 1 = nI (i + 1) from nI_1 i]
        refine ih (i + 1) f1 (by omega) ?_ hF
        have e : vHold wind (ls i) = ls i := by unfold vHold; rw [if_neg (Int32.not_lt.mpr c_20)]
        rw [vHoldN, e, ← ev, mj_row_self]
        exact hM
      · refine mj_aload_n (i := 0) (q := 24) dX1_holdLifts_23 rfl rfl rfl ?_
        refine mj_getr (q := 27) dX1_holdLifts_24 fl_X1_11 rfl rfl (by assumption) (by assumption) ?_
        refine mj_iload_n (i := 2) (q := 28) dX1_holdLifts_27 rfl rfl rfl ?_
        refine mj_aaldn (q := 29) dX1_holdLifts_28 rfl (by assumption) ⟨by omega, by omega⟩ (by assumption) ?_
        refine mj_num1 (v := 1) (q := 30) rfl dX1_holdLifts_29 rfl ?_
        refine mj_putf (q := 33) dX1_holdLifts_30 fl_X1_191 rfl rfl (by assumption) rfl rfl rfl ?_
        refine mj_iinc (i := 2) (q := 36) dX1_holdLifts_33 rfl rfl (by decide) rfl ?_
        dsimp only [List.set]
        refine mj_goto (q := 2) dX1_holdLifts_36 (by decide) ?_
        rw [show nI i + Int32.ofInt 1 = nI (i + 1) from nI_1 i]
        refine ih (i + 1) _ (by omega) ?_ (mj_Fr.up hF (by omega) (by omega))
        have e : vHold wind (ls i) = upd (ls i) 3 1 := by unfold vHold; rw [if_pos (Int32.not_le.mp c_20)]
        rw [vHoldN, e]
        exact hM.lift (by omega) (hN_i.put (k0 := 3) (v := 1) (Or.inr (Or.inr rfl))) (mj_Fr.up mj_Fr.rf (by omega) (by omega))
  refine mj_entry (by refine ⟨by decide +kernel, by decide, rfl, Nat.le_of_ble_eq_true rfl⟩) ?_
  show mj_W _ _ _ _ _ 0 [.ref m, .int wind, .null] [] _
  refine mj_num1 (v := nI 0) (q := 1) (by decide) dX1_holdLifts_0 rfl ?_
  refine mj_istore_n (i := 2) (q := 2) dX1_holdLifts_1 rfl rfl (by decide) rfl ?_
  dsimp only [List.set]
  exact key lc 0 f (by omega) hN2 mj_Fr.rf
set_option maxHeartbeats 4000000 in
set_option maxRecDepth 100000 in
theorem s_removeGuns {d m : Nat} {n : Nat} {K : Nat → mj_K} {f : Nat → Nat → Int32} {g : Nat → Nat → Option Nat} {y : mV} (hL : LMn K g m) (hN : MN f m y) : mj_Cv m_X1_removeGuns d [.ref m] (n, K, f, g) (fun h1 => ∃ f1, h1 = (n, K, f1, g) ∧ MN f1 m (y.1, y.2.1, y.2.2.1, y.2.2.2.1, vGunless y.2.2.2.2 y.2.1) ∧ mj_Fr m (m + 47) f f1) := by
  have hL2 := hL
  have hN2 := hN
  obtain ⟨km, gm0, gm1, km1, km6, hLl, hLr⟩ := hL
  obtain ⟨lc, rc, mu, ls, rs⟩ := y
  obtain ⟨n1, n2, n3, n4, n5, n6, n7, n8⟩ := hN
  dsimp only at n1 n2 n3 n4 n5 n6 n7 n8
  have key : ∀ (j i : Nat) (f1 : Nat → Nat → Int32), i + j = rc → MN f1 m (lc, rc, mu, ls, vGunless rs i) → mj_Fr m (m + 47) f f1 → mj_W m_X1_removeGuns d 0 0 (fun v h1 => v = none ∧ ∃ f1, h1 = (n, K, f1, g) ∧ MN f1 m (lc, rc, mu, ls, vGunless rs rc) ∧ mj_Fr m (m + 47) f f1) 2 [.ref m, .int (nI i)] [] (n, K, f1, g) := by
    intro j
    induction j with
    | zero =>
      intro i f1 hi hM hF
      have hi : i = rc := by omega
      subst hi
      have o4 : f1 m 3 = nI i := hM.2.2.2.1
      refine mj_iload_n (i := 1) (q := 3) dX1_removeGuns_2 rfl rfl rfl ?_
      refine mj_aload_n (i := 0) (q := 4) dX1_removeGuns_3 rfl rfl rfl ?_
      refine mj_getfv (q := 7) dX1_removeGuns_4 fl_X1_42 rfl rfl (by assumption) (by assumption) ?_
      refine mj_icmp_ge (tgt := 26) (q := 10) dX1_removeGuns_7 (by decide) rfl (fun c_7 => ?_) (fun c_7 => absurd (Int32.le_refl _) c_7)
      exact mj_return dX1_removeGuns_26 rfl ⟨rfl, ⟨_, rfl, hM, hF⟩⟩
    | succ j ih =>
      intro i f1 hi hM hF
      have o4 : f1 m 3 = nI rc := hM.2.2.2.1
      have ev : vGunless rs i i = rs i := vGunless_ge (Nat.le_refl i)
      have o7 : ∀ k, k < rc → RN f1 (m + 7 + 5 * k) (vGunless rs i k) := hM.2.2.2.2.2.2.1
      have hg_i : g (m + 6) i = some (m + 7 + 5 * i) := (hLr i (by omega)).1
      have hL_i := (hLr i (by omega)).2
      have kr_i : K (m + 7 + 5 * i) = (2, 2, 0) := hL_i.1
      have gr_i : g (m + 7 + 5 * i) 0 = some ((m + 7 + 5 * i) + 1) := hL_i.2.1
      have ks_i : K ((m + 7 + 5 * i) + 1) = (2, 3, 0) := hL_i.2.2.1
      have hR_i := o7 i (by omega)
      rw [ev] at hR_i
      refine mj_iload_n (i := 1) (q := 3) dX1_removeGuns_2 rfl rfl rfl ?_
      refine mj_aload_n (i := 0) (q := 4) dX1_removeGuns_3 rfl rfl rfl ?_
      refine mj_getfv (q := 7) dX1_removeGuns_4 fl_X1_42 rfl rfl (by assumption) (by assumption) ?_
      refine mj_icmp_ge (tgt := 26) (q := 10) dX1_removeGuns_7 (by decide) rfl (fun c_7 => absurd c_7 (nI_ge (a := i) (b := rc) (by omega) (by omega))) (fun c_7 => ?_)
      refine mj_aload_n (i := 0) (q := 11) dX1_removeGuns_10 rfl rfl rfl ?_
      refine mj_getr (q := 14) dX1_removeGuns_11 fl_X1_20 rfl rfl (by assumption) (by assumption) ?_
      refine mj_iload_n (i := 1) (q := 15) dX1_removeGuns_14 rfl rfl rfl ?_
      refine mj_aaldn (q := 16) dX1_removeGuns_15 rfl (by assumption) ⟨by omega, by omega⟩ (by assumption) ?_
      refine mj_num1 (v := 0) (q := 17) rfl dX1_removeGuns_16 rfl ?_
      refine mj_putf (q := 20) dX1_removeGuns_17 fl_X1_75 rfl rfl (by assumption) rfl rfl rfl ?_
      refine mj_iinc (i := 1) (q := 23) dX1_removeGuns_20 rfl rfl (by decide) rfl ?_
      dsimp only [List.set]
      refine mj_goto (q := 2) dX1_removeGuns_23 (by decide) ?_
      rw [show nI i + Int32.ofInt 1 = nI (i + 1) from nI_1 i]
      refine ih (i + 1) _ (by omega) ?_ (mj_Fr.up hF (by omega) (by omega))
      rw [vGunless]
      exact hM.run (by omega) (hR_i.put (k0 := 6) (v := 0) (by omega)) (mj_Fr.up mj_Fr.rf (by omega) (by omega)) (by rw [ev]; simp [upd])
  refine mj_entry (by refine ⟨by decide +kernel, by decide, rfl, Nat.le_of_ble_eq_true rfl⟩) ?_
  show mj_W _ _ _ _ _ 0 [.ref m, .null] [] _
  refine mj_num1 (v := nI 0) (q := 1) (by decide) dX1_removeGuns_0 rfl ?_
  refine mj_istore_n (i := 1) (q := 2) dX1_removeGuns_1 rfl rfl (by decide) rfl ?_
  dsimp only [List.set]
  exact key rc 0 f (by omega) hN2 mj_Fr.rf
theorem mj_clampLe {x : Int32} {q : Nat} (h : x.toNatClampNeg ≤ q ∧ q < 2 ^ 31) : x ≤ nI q := by
  rcases Int32.lt_or_le x 0 with hx | hx
  · exact Int32.le_trans (Int32.le_of_lt hx) (nI_pos' h.2)
  · obtain ⟨j, hj, rfl⟩ := nI_of (Int32.not_lt.mpr hx)
    rw [nI_clamp hj] at h
    exact nI_le h.1 h.2
theorem mj_clampGt {x : Int32} {q : Nat} (h : q < x.toNatClampNeg) : ¬ x ≤ nI q := by
  rcases Int32.lt_or_le x 0 with hx | hx
  · have e : x.toNatClampNeg = 0 := Int.toNat_of_nonpos (by have := Int32.lt_iff_toInt_lt.mp hx; have h0 : (0 : Int32).toInt = 0 := by decide
                                                            omega)
    omega
  · obtain ⟨j, hj, rfl⟩ := nI_of (Int32.not_lt.mpr hx)
    rw [nI_clamp hj] at h
    exact nI_ge h hj
theorem mj_clamp31 (x : Int32) : x.toNatClampNeg < 2 ^ 31 := by
  have := x.toInt_lt
  show x.toInt.toNat < 2 ^ 31
  omega
set_option maxHeartbeats 4000000 in
set_option maxRecDepth 100000 in
theorem s_makeSnow {d m i : Nat} {bulb : Int32} {n : Nat} {K : Nat → mj_K} {f : Nat → Nat → Int32} {g : Nat → Nat → Option Nat} {y : mV} (hL : LMn K g m) (hN : MN f m y) (hi : i < y.2.1) : mj_Cv m_X1_makeSnow (d + 3) [.ref m, .ref (m + 7 + 5 * i), .int bulb] (n, K, f, g) (fun h1 => ∃ f1, h1 = (n, K, f1, g) ∧ MN f1 m (y.1, y.2.1, upd y.2.2.1 6 (vMakeG bulb ((y.2.2.2.2 i).2 6) (y.2.2.1 6) ((y.2.2.2.2 i).2 7)).1, y.2.2.2.1, mj_row y.2.2.2.2 i (vMakeRun (vMakeG bulb ((y.2.2.2.2 i).2 6) (y.2.2.1 6) ((y.2.2.2.2 i).2 7)).2 (y.2.2.2.2 i))) ∧ mj_Fr m (m + 47) f f1) := by
  have hL2 := hL
  have hN2 := hN
  obtain ⟨km, gm0, gm1, km1, km6, hLl, hLr⟩ := hL
  obtain ⟨lc, rc, mu, ls, rs⟩ := y
  obtain ⟨n1, n2, n3, n4, n5, n6, n7, n8⟩ := hN
  dsimp only at n1 n2 n3 n4 n5 n6 n7 n8
  have hi : i < rc := hi
  have u6 : f m 6 = mu 6 := n5 6 (by omega) (by omega)
  have hg_i : g (m + 6) i = some (m + 7 + 5 * i) := (hLr i (by omega)).1
  have hL_i := (hLr i (by omega)).2
  have kr_i : K (m + 7 + 5 * i) = (2, 2, 0) := hL_i.1
  have gr_i : g (m + 7 + 5 * i) 0 = some ((m + 7 + 5 * i) + 1) := hL_i.2.1
  have ks_i : K ((m + 7 + 5 * i) + 1) = (2, 3, 0) := hL_i.2.2.1
  have hR_i := n7 i (by omega)
  have e5_i : f (m + 7 + 5 * i) 5 = (rs i).2 5 := hR_i.2.1 5 (by omega) (by omega)
  have e6_i : f (m + 7 + 5 * i) 6 = (rs i).2 6 := hR_i.2.1 6 (by omega) (by omega)
  have e7_i : f (m + 7 + 5 * i) 7 = (rs i).2 7 := hR_i.2.1 7 (by omega) (by omega)
  have key84 : ∀ (f1 : Nat → Nat → Int32) (w h made : Int32) (v3 v4 : Value), MN f1 m (lc, rc, upd mu 6 w, ls, mj_row rs i ((rs i).1, upd (rs i).2 7 h)) → vMakeG bulb ((rs i).2 6) (mu 6) ((rs i).2 7) = (w, h) → made = vMade h ((rs i).2 5) → mj_Fr m (m + 47) f f1 → mj_W m_X1_makeSnow (d + 3) 0 0 (fun v h1 => v = none ∧ ∃ f1, h1 = (n, K, f1, g) ∧ MN f1 m (lc, rc, upd mu 6 (vMakeG bulb ((rs i).2 6) (mu 6) ((rs i).2 7)).1, ls, mj_row rs i (vMakeRun (vMakeG bulb ((rs i).2 6) (mu 6) ((rs i).2 7)).2 (rs i))) ∧ mj_Fr m (m + 47) f f1) 84 [.ref m, .ref (m + 7 + 5 * i), .int bulb, v3, v4] [.int made] (n, K, f1, g) := by
    intro f1 w h made v3 v4 hM hv hmade hF
    rw [hv]
    have hR1 : RN f1 (m + 7 + 5 * i) (mj_row rs i ((rs i).1, upd (rs i).2 7 h) i) := hM.2.2.2.2.2.2.1 i hi
    rw [mj_rowe] at hR1
    have a5 : f1 (m + 7 + 5 * i) 5 = (rs i).2 5 := by rw [hR1.2.1 5 (by omega) (by omega)]; simp [upd]
    have a7 : f1 (m + 7 + 5 * i) 7 = h := by rw [hR1.2.1 7 (by omega) (by omega)]; simp [upd]
    have hR2 := hR1.put (k0 := 7) (v := h - made * (rs i).2 5) (by omega)
    rw [upd_upd] at hR2
    have hM2 := hM.run hi hR2 (mj_Fr.up mj_Fr.rf (by omega) (by omega)) (by rw [mj_rowe]; simp [upd])
    rw [mj_row_row] at hM2
    have hF2 : mj_Fr m (m + 47) f (mj_up f1 (m + 7 + 5 * i) 7 (h - made * (rs i).2 5)) := mj_Fr.up hF (by omega) (by omega)
    refine mj_istore_n (i := 3) (q := 85) dX1_makeSnow_84 rfl rfl (by decide) rfl ?_
    dsimp only [List.set]
    refine mj_aload_n (i := 1) (q := 86) dX1_makeSnow_85 rfl rfl rfl ?_
    refine mj_dup (q := 87) rfl dX1_makeSnow_86 rfl ?_
    refine mj_getfv (q := 90) dX1_makeSnow_87 fl_X1_197 rfl rfl (by assumption) (by assumption) ?_
    refine mj_iload_n (i := 3) (q := 91) dX1_makeSnow_90 rfl rfl rfl ?_
    refine mj_aload_n (i := 1) (q := 92) dX1_makeSnow_91 rfl rfl rfl ?_
    refine mj_getfv (q := 95) dX1_makeSnow_92 fl_X1_99 rfl rfl (by assumption) (by assumption) ?_
    refine mj_imul (q := 96) dX1_makeSnow_95 rfl ?_
    refine mj_isub (q := 97) dX1_makeSnow_96 rfl ?_
    refine mj_putf (q := 100) dX1_makeSnow_97 fl_X1_197 rfl rfl (by assumption) rfl rfl rfl ?_
    refine mj_iload_n (i := 3) (q := 101) dX1_makeSnow_100 rfl rfl rfl ?_
    refine mj_if_le (tgt := 126) (q := 104) dX1_makeSnow_101 (by decide) rfl (fun c_101 => ?_) (fun c_101 => ?_)
    · refine mj_iload_n (i := 3) (q := 127) dX1_makeSnow_126 rfl rfl rfl ?_
      refine mj_if_le (tgt := 141) (q := 130) dX1_makeSnow_127 (by decide) rfl (fun c_127 => ?_) (fun c_127 => absurd c_101 c_127)
      have e : vMakeRun h (rs i) = ((rs i).1, upd (rs i).2 7 (h - made * (rs i).2 5)) := by unfold vMakeRun vPile; rw [← hmade, if_neg (Int32.not_lt.mpr c_101)]
      refine mj_return dX1_makeSnow_141 rfl ⟨rfl, _, rfl, ?_, hF2⟩
      rw [e]; exact hM2
    · refine mj_aload_n (i := 1) (q := 105) dX1_makeSnow_104 rfl rfl rfl ?_
      refine mj_getr (q := 108) dX1_makeSnow_105 fl_X1_89 rfl rfl (by assumption) (by assumption) ?_
      refine mj_num1 (v := 3) (q := 109) rfl dX1_makeSnow_108 rfl ?_
      refine mj_cV1i (K := m_X3_topIs) (q := 112) dX1_makeSnow_109 ln_X1_200 ok_X3_topIs (Nat.le_of_ble_eq_true rfl) (by decide) (by assumption) rfl rfl (s_topIs hL_i.2.2 hR2.1) (fun r_109 h1 hq => ?_)
      obtain ⟨rfl, hr_109⟩ := hq
      refine mj_if_eq (tgt := 126) (q := 115) dX1_makeSnow_112 (by decide) rfl (fun c_112 => ?_) (fun c_112 => ?_)
      · refine mj_iload_n (i := 3) (q := 127) dX1_makeSnow_126 rfl rfl rfl ?_
        refine mj_if_le (tgt := 141) (q := 130) dX1_makeSnow_127 (by decide) rfl (fun c_127 => absurd c_127 c_101) (fun c_127 => ?_)
        refine mj_aload_n (i := 1) (q := 131) dX1_makeSnow_130 rfl rfl rfl ?_
        refine mj_getr (q := 134) dX1_makeSnow_131 fl_X1_89 rfl rfl (by assumption) (by assumption) ?_
        refine mj_num1 (v := 3) (q := 135) rfl dX1_makeSnow_134 rfl ?_
        refine mj_iload_n (i := 3) (q := 136) dX1_makeSnow_135 rfl rfl rfl ?_
        refine mj_num2 (v := 40) (q := 138) (by decide) dX1_makeSnow_136 rfl ?_
        refine mj_cV3v (K := m_X3_lay) (q := 141) dX1_makeSnow_138 ln_X1_207 ok_X3_lay (Nat.le_of_ble_eq_true rfl) (by decide) (by assumption) rfl rfl (s_lay hL_i.2.2 hR2.1) (fun h1 hq => ?_)
        obtain ⟨f3, rfl, hS3, hF3⟩ := hq
        have h0 : vTop 3 (rs i).1 = false := by rw [hr_109, mj_i01] at c_112; exact c_112
        have e : vMakeRun h (rs i) = (vLay 3 made 40 (rs i).1, upd (rs i).2 7 (h - made * (rs i).2 5)) := by unfold vMakeRun vPile; rw [← hmade, if_pos (Int32.not_le.mp c_101), if_neg (by rw [h0]; simp)]
        refine mj_return dX1_makeSnow_141 rfl ⟨rfl, _, rfl, ?_, hF2.tr (hF3.wide (by omega) (by omega))⟩
        have hM3 := hM2.run hi (hR2.snow hS3 hF3) (hF3.wide (by omega) (by omega)) (by rw [mj_rowe])
        rw [mj_row_row] at hM3
        rw [e]; exact hM3
      · refine mj_aload_n (i := 1) (q := 116) dX1_makeSnow_115 rfl rfl rfl ?_
        refine mj_getr (q := 119) dX1_makeSnow_116 fl_X1_89 rfl rfl (by assumption) (by assumption) ?_
        refine mj_iload_n (i := 3) (q := 120) dX1_makeSnow_119 rfl rfl rfl ?_
        refine mj_cV1v (K := m_X3_thicken) (q := 123) dX1_makeSnow_120 ln_X1_204 ok_X3_thicken (Nat.le_of_ble_eq_true rfl) (by decide) (by assumption) rfl rfl (s_thicken hL_i.2.2 hR2.1) (fun h1 hq => ?_)
        obtain ⟨f3, rfl, hS3, hF3⟩ := hq
        refine mj_goto (q := 141) dX1_makeSnow_123 (by decide) ?_
        have h0 : vTop 3 (rs i).1 = true := by rw [hr_109, mj_i01] at c_112; simpa using c_112
        have e : vMakeRun h (rs i) = (vThicken made (rs i).1, upd (rs i).2 7 (h - made * (rs i).2 5)) := by unfold vMakeRun vPile; rw [← hmade, if_pos (Int32.not_le.mp c_101), if_pos h0]
        refine mj_return dX1_makeSnow_141 rfl ⟨rfl, _, rfl, ?_, hF2.tr (hF3.wide (by omega) (by omega))⟩
        have hM3 := hM2.run hi (hR2.snow hS3 hF3) (hF3.wide (by omega) (by omega)) (by rw [mj_rowe])
        rw [mj_row_row] at hM3
        rw [e]; exact hM3
  have key63 : ∀ (f1 : Nat → Nat → Int32) (w h : Int32) (v3 v4 : Value), MN f1 m (lc, rc, upd mu 6 w, ls, mj_row rs i ((rs i).1, upd (rs i).2 7 h)) → vMakeG bulb ((rs i).2 6) (mu 6) ((rs i).2 7) = (w, h) → mj_Fr m (m + 47) f f1 → mj_W m_X1_makeSnow (d + 3) 0 0 (fun v h1 => v = none ∧ ∃ f1, h1 = (n, K, f1, g) ∧ MN f1 m (lc, rc, upd mu 6 (vMakeG bulb ((rs i).2 6) (mu 6) ((rs i).2 7)).1, ls, mj_row rs i (vMakeRun (vMakeG bulb ((rs i).2 6) (mu 6) ((rs i).2 7)).2 (rs i))) ∧ mj_Fr m (m + 47) f f1) 63 [.ref m, .ref (m + 7 + 5 * i), .int bulb, v3, v4] [] (n, K, f1, g) := by
    intro f1 w h v3 v4 hM hv hF
    have hR1 : RN f1 (m + 7 + 5 * i) (mj_row rs i ((rs i).1, upd (rs i).2 7 h) i) := hM.2.2.2.2.2.2.1 i hi
    rw [mj_rowe] at hR1
    have a5 : f1 (m + 7 + 5 * i) 5 = (rs i).2 5 := by rw [hR1.2.1 5 (by omega) (by omega)]; simp [upd]
    have a7 : f1 (m + 7 + 5 * i) 7 = h := by rw [hR1.2.1 7 (by omega) (by omega)]; simp [upd]
    refine mj_aload_n (i := 1) (q := 64) dX1_makeSnow_63 rfl rfl rfl ?_
    refine mj_getfv (q := 67) dX1_makeSnow_64 fl_X1_99 rfl rfl (by assumption) (by assumption) ?_
    refine mj_num1 (v := 1) (q := 68) rfl dX1_makeSnow_67 rfl ?_
    refine mj_icmp_ge (tgt := 75) (q := 71) dX1_makeSnow_68 (by decide) rfl (fun c_68 => ?_) (fun c_68 => ?_)
    · refine mj_aload_n (i := 1) (q := 76) dX1_makeSnow_75 rfl rfl rfl ?_
      refine mj_getfv (q := 79) dX1_makeSnow_76 fl_X1_197 rfl rfl (by assumption) (by assumption) ?_
      refine mj_aload_n (i := 1) (q := 80) dX1_makeSnow_79 rfl rfl rfl ?_
      refine mj_getfv (q := 83) dX1_makeSnow_80 fl_X1_99 rfl rfl (by assumption) (by assumption) ?_
      refine mj_idiv (q := 84) (fun z => by rw [z] at c_68; exact absurd c_68 (by decide)) dX1_makeSnow_83 rfl ?_
      exact key84 f1 w h _ _ _ hM hv (by unfold vMade; rw [if_pos c_68]) hF
    · refine mj_num1 (v := 0) (q := 72) rfl dX1_makeSnow_71 rfl ?_
      refine mj_goto (q := 84) dX1_makeSnow_72 (by decide) ?_
      exact key84 f1 w h _ _ _ hM hv (by unfold vMade; rw [if_neg c_68]) hF
  have hM0 : MN f m (lc, rc, upd mu 6 (mu 6), ls, mj_row rs i ((rs i).1, upd (rs i).2 7 ((rs i).2 7))) := by rw [upd_self, upd_self, show ((rs i).1, (rs i).2) = rs i from rfl, mj_row_self]; exact hN2
  have key19 : ¬ -4 < bulb → ∀ (j q : Nat) (f1 : Nat → Nat → Int32) (w h : Int32), q + j = ((rs i).2 6).toNatClampNeg → MN f1 m (lc, rc, upd mu 6 w, ls, mj_row rs i ((rs i).1, upd (rs i).2 7 h)) → vMakeG bulb ((rs i).2 6) (mu 6) ((rs i).2 7) = vGuns (vMin (-3 - bulb) 6) j w h → mj_Fr m (m + 47) f f1 → mj_W m_X1_makeSnow (d + 3) 0 0 (fun v h1 => v = none ∧ ∃ f1, h1 = (n, K, f1, g) ∧ MN f1 m (lc, rc, upd mu 6 (vMakeG bulb ((rs i).2 6) (mu 6) ((rs i).2 7)).1, ls, mj_row rs i (vMakeRun (vMakeG bulb ((rs i).2 6) (mu 6) ((rs i).2 7)).2 (rs i))) ∧ mj_Fr m (m + 47) f f1) 19 [.ref m, .ref (m + 7 + 5 * i), .int bulb, .int (vMin (-3 - bulb) 6), .int (nI q)] [] (n, K, f1, g) := by
    intro hb j
    induction j with
    | zero =>
      intro q f1 w h hq hM hv hF
      have hR1 : RN f1 (m + 7 + 5 * i) (mj_row rs i ((rs i).1, upd (rs i).2 7 h) i) := hM.2.2.2.2.2.2.1 i hi
      rw [mj_rowe] at hR1
      have a6 : f1 (m + 7 + 5 * i) 6 = (rs i).2 6 := by rw [hR1.2.1 6 (by omega) (by omega)]; simp [upd]
      have hge : (rs i).2 6 ≤ nI q := mj_clampLe ⟨by omega, by have := mj_clamp31 ((rs i).2 6); omega⟩
      refine mj_iload (i := 4) (q := 21) dX1_makeSnow_19 rfl rfl ?_
      refine mj_aload_n (i := 1) (q := 22) dX1_makeSnow_21 rfl rfl rfl ?_
      refine mj_getfv (q := 25) dX1_makeSnow_22 fl_X1_75 rfl rfl (by assumption) (by assumption) ?_
      refine mj_icmp_ge (tgt := 63) (q := 28) dX1_makeSnow_25 (by decide) rfl (fun c_25 => ?_) (fun c_25 => absurd hge c_25)
      exact key63 f1 w h _ _ hM hv hF
    | succ j ih =>
      intro q f1 w h hq hM hv hF
      have hR1 : RN f1 (m + 7 + 5 * i) (mj_row rs i ((rs i).1, upd (rs i).2 7 h) i) := hM.2.2.2.2.2.2.1 i hi
      rw [mj_rowe] at hR1
      have a6 : f1 (m + 7 + 5 * i) 6 = (rs i).2 6 := by rw [hR1.2.1 6 (by omega) (by omega)]; simp [upd]
      have a7 : f1 (m + 7 + 5 * i) 7 = h := by rw [hR1.2.1 7 (by omega) (by omega)]; simp [upd]
      have aw : f1 m 6 = w := by rw [show f1 m 6 = upd mu 6 w 6 from hM.2.2.2.2.1 6 (by omega) (by omega)]; simp [upd]
      have hlt : ¬ (rs i).2 6 ≤ nI q := mj_clampGt (by omega)
      rw [vGuns] at hv
      refine mj_iload (i := 4) (q := 21) dX1_makeSnow_19 rfl rfl ?_
      refine mj_aload_n (i := 1) (q := 22) dX1_makeSnow_21 rfl rfl rfl ?_
      refine mj_getfv (q := 25) dX1_makeSnow_22 fl_X1_75 rfl rfl (by assumption) (by assumption) ?_
      refine mj_icmp_ge (tgt := 63) (q := 28) dX1_makeSnow_25 (by decide) rfl (fun c_25 => absurd c_25 hlt) (fun c_25 => ?_)
      refine mj_aload_n (i := 0) (q := 29) dX1_makeSnow_28 rfl rfl rfl ?_
      refine mj_getfv (q := 32) dX1_makeSnow_29 fl_X1_25 rfl rfl (by assumption) (by assumption) ?_
      refine mj_num2 (v := 105) (q := 34) (by decide) dX1_makeSnow_32 rfl ?_
      refine mj_icmp_lt (tgt := 63) (q := 37) dX1_makeSnow_34 (by decide) rfl (fun c_34 => ?_) (fun c_34 => ?_)
      · rw [if_pos c_34] at hv
        exact key63 f1 w h _ _ hM hv hF
      · refine mj_aload_n (i := 0) (q := 38) dX1_makeSnow_37 rfl rfl rfl ?_
        refine mj_dup (q := 39) rfl dX1_makeSnow_38 rfl ?_
        refine mj_getfv (q := 42) dX1_makeSnow_39 fl_X1_25 rfl rfl (by assumption) (by assumption) ?_
        refine mj_num1 (v := 5) (q := 43) rfl dX1_makeSnow_42 rfl ?_
        refine mj_isub (q := 44) dX1_makeSnow_43 rfl ?_
        refine mj_putf (q := 47) dX1_makeSnow_44 fl_X1_25 rfl rfl (by assumption) rfl rfl rfl ?_
        refine mj_aload_n (i := 1) (q := 48) dX1_makeSnow_47 rfl rfl rfl ?_
        refine mj_dup (q := 49) rfl dX1_makeSnow_48 rfl ?_
        refine mj_getf (q := 52) dX1_makeSnow_49 fl_X1_197 rfl rfl (by assumption) ?_
        refine mj_top (y := h) (by rw [mj_upn (by omega)]; exact a7) ?_
        refine mj_iload_n (i := 3) (q := 53) dX1_makeSnow_52 rfl rfl rfl ?_
        refine mj_iadd (q := 54) dX1_makeSnow_53 rfl ?_
        refine mj_putf (q := 57) dX1_makeSnow_54 fl_X1_197 rfl rfl (by assumption) rfl rfl rfl ?_
        refine mj_iinc (i := 4) (q := 60) dX1_makeSnow_57 rfl rfl (by decide) rfl ?_
        dsimp only [List.set]
        refine mj_goto (q := 19) dX1_makeSnow_60 (by decide) ?_
        rw [if_neg c_34] at hv
        rw [show nI q + Int32.ofInt 1 = nI (q + 1) from nI_1 q]
        have hM1 := hM.put (k0 := 6) (v := w - 5) (by omega)
        rw [upd_upd] at hM1
        have hR3 : RN (mj_up f1 m 6 (w - 5)) (m + 7 + 5 * i) ((rs i).1, upd (rs i).2 7 h) := hR1.keep (lo := m) (hi := m + 1) (mj_Fr.up mj_Fr.rf (by omega) (by omega)) (by omega)
        have hR2 := hR3.put (k0 := 7) (v := h + vMin (-3 - bulb) 6) (by omega)
        rw [upd_upd] at hR2
        have hM2 := hM1.run hi hR2 (mj_Fr.up mj_Fr.rf (by omega) (by omega)) (by rw [mj_rowe]; simp [upd])
        rw [mj_row_row] at hM2
        exact ih (q + 1) _ (w - 5) (h + vMin (-3 - bulb) 6) (by omega) hM2 hv (mj_Fr.up (mj_Fr.up hF (by omega) (by omega)) (by omega) (by omega))
  refine mj_entry (by refine ⟨by decide +kernel, by decide, rfl, Nat.le_of_ble_eq_true rfl⟩) ?_
  show mj_W _ _ _ _ _ 0 [.ref m, .ref (m + 7 + 5 * i), .int bulb, .null, .null] [] _
  refine mj_iload_n (i := 2) (q := 1) dX1_makeSnow_0 rfl rfl rfl ?_
  refine mj_num2 (v := (-4)) (q := 3) (by decide) dX1_makeSnow_1 rfl ?_
  refine mj_icmp_gt (tgt := 63) (q := 6) dX1_makeSnow_3 (by decide) rfl (fun c_3 => ?_) (fun c_3 => ?_)
  · exact key63 f _ _ _ _ hM0 (by unfold vMakeG; rw [if_pos c_3]) mj_Fr.rf
  · refine mj_num2 (v := (-3)) (q := 8) (by decide) dX1_makeSnow_6 rfl ?_
    refine mj_iload_n (i := 2) (q := 9) dX1_makeSnow_8 rfl rfl rfl ?_
    refine mj_isub (q := 10) dX1_makeSnow_9 rfl ?_
    refine mj_num2 (v := 6) (q := 12) (by decide) dX1_makeSnow_10 rfl ?_
    refine mj_mmin (q := 15) dX1_makeSnow_12 ln_X1_194 (Nat.le_of_ble_eq_true rfl) rfl ?_
    refine mj_istore_n (i := 3) (q := 16) dX1_makeSnow_15 rfl rfl (by decide) rfl ?_
    dsimp only [List.set]
    refine mj_num1 (v := nI 0) (q := 17) (by decide) dX1_makeSnow_16 rfl ?_
    refine mj_istore (i := 4) (q := 19) dX1_makeSnow_17 rfl (by decide) rfl ?_
    dsimp only [List.set]
    exact key19 c_3 ((rs i).2 6).toNatClampNeg 0 f (mu 6) ((rs i).2 7) (Nat.zero_add _) hM0 (by unfold vMakeG; rw [if_neg c_3]) mj_Fr.rf
end
section
/-! THE MOUNTAIN, third part: skiers, and an hour -/
theorem mj_upe {α : Type} {f : Nat → Nat → α} {a k : Nat} {v : α} : mj_up f a k v a k = v := by simp [mj_up]
def wSkiMu (riders : Int32) (mu : Nat → Int32) (x : rV) : Nat → Int32 := upd mu 13 (mu 13 + (if riders ≤ 40 * x.2 5 then 0 else 1) + (if vTop 2 x.1 = true then riders / 50 else 0))
def vShareN (l q ex0 : Int32) (mu : Nat → Int32) (rs : Nat → rV) : Nat → (Nat → Int32) × (Nat → rV) × Int32
  | 0 => (mu, rs, ex0)
  | n + 1 => if ¬ (rs n).2 15 = 0 ∧ (rs n).2 1 = l then (wSkiMu (q + (vShareN l q ex0 mu rs n).2.2) (vShareN l q ex0 mu rs n).1 (rs n), mj_row (vShareN l q ex0 mu rs n).2.1 n (vSkiRun (q + (vShareN l q ex0 mu rs n).2.2) (rs n)), 0) else vShareN l q ex0 mu rs n
theorem vShareN_ge {l q ex0 : Int32} {mu : Nat → Int32} {rs : Nat → rV} : ∀ {n k : Nat}, n ≤ k → (vShareN l q ex0 mu rs n).2.1 k = rs k
  | 0, _, _ => rfl
  | n + 1, k, h => by
    rw [vShareN]
    split
    · show mj_row _ n _ k = rs k
      rw [mj_rown (by omega), vShareN_ge (by omega)]
    · exact vShareN_ge (by omega)
def vCarryN (rc : Nat) (mu : Nat → Int32) (ls : Nat → Nat → Int32) (rs : Nat → rV) (left : Int32) : Nat → (Nat → Int32) × (Nat → Nat → Int32) × (Nat → rV) × Int32
  | 0 => (mu, ls, rs, left)
  | n + 1 => match vCarryN rc mu ls rs left n with
    | (m1, l1, r1, lf) => if vMoving (ls n) = true ∧ 0 < vOpenOf r1 (nI n) rc then
        match vShareN (nI n) (vMin (ls n 0) lf / vOpenOf r1 (nI n) rc) (vMin (ls n 0) lf % vOpenOf r1 (nI n) rc) (upd m1 14 (m1 14 + vMin (ls n 0) lf)) r1 rc with
        | (m2, r2, _) => (m2, mj_row l1 n (upd (ls n) 4 (ls n 4 + vMin (ls n 0) lf)), r2, lf - vMin (ls n 0) lf)
      else (m1, l1, r1, lf)
theorem vCarryN_ge {rc : Nat} {mu : Nat → Int32} {ls : Nat → Nat → Int32} {rs : Nat → rV} {left : Int32} : ∀ {n k : Nat}, n ≤ k → (vCarryN rc mu ls rs left n).2.1 k = ls k
  | 0, _, _ => rfl
  | n + 1, k, h => by
    have ih := vCarryN_ge (rc := rc) (mu := mu) (ls := ls) (rs := rs) (left := left) (n := n) (k := k) (by omega)
    rw [vCarryN]
    generalize vCarryN rc mu ls rs left n = S at ih ⊢
    obtain ⟨m1, l1, r1, lf⟩ := S
    dsimp only
    split
    · show mj_row l1 n _ k = ls k
      rw [mj_rown (by omega)]
      exact ih
    · exact ih
def vCarryS (S : (Nat → Int32) × (Nat → Nat → Int32) × (Nat → rV) × Int32) : (Nat → Int32) × (Nat → Nat → Int32) × (Nat → rV) := (upd S.1 15 (S.1 15 + S.2.2.2), S.2.1, S.2.2.1)
def vHourRun (W : Nat → Int32) (mu : Nat → Int32) (x : rV) : (Nat → Int32) × rV :=
  let temp := W 0 - x.2 2 / 2
  let x1 : rV := (vWeather W (x.2 4) temp (mu 4 % 24) x.1, x.2)
  let G := vMakeG (temp - (100 - W 4) / 10) (x.2 6) (mu 6) (x.2 7)
  let x2 := vMakeRun G.2 x1
  let risk := vRisk (x2.2 3) x2.1
  let x3 : rV := (x2.1, upd x2.2 14 risk)
  if risk < 100 then (upd mu 6 G.1, x3) else
    let x4 : rV := (x3.1, upd x3.2 15 0)
    (vSlideMu (upd (upd mu 6 G.1) 12 ((upd mu 6 G.1) 12 + v01 (x3.2 15))) (vSlideSize x4), vSlideRun x4)
def vHourN (W : Nat → Int32) (mu : Nat → Int32) (rs : Nat → rV) : Nat → (Nat → Int32) × (Nat → rV)
  | 0 => (mu, rs)
  | n + 1 => ((vHourRun W (vHourN W mu rs n).1 (rs n)).1, mj_row (vHourN W mu rs n).2 n (vHourRun W (vHourN W mu rs n).1 (rs n)).2)
theorem vHourN_ge {W mu : Nat → Int32} {rs : Nat → rV} : ∀ {n k : Nat}, n ≤ k → (vHourN W mu rs n).2 k = rs k
  | 0, _, _ => rfl
  | n + 1, k, h => by
    show mj_row _ n _ k = rs k
    rw [mj_rown (by omega), vHourN_ge (by omega)]
def vHour (W : Nat → Int32) (y : mV) : mV := match y with
  | (lc, rc, mu, ls, rs) => match vHourN W (upd (upd mu 4 (mu 4 + 1)) 5 (W 2)) rs rc with
    | (m1, r1) => if 9 ≤ m1 4 % 24 ∧ m1 4 % 24 ≤ 16 then
        match vCarryS (vCarryN rc m1 (vHoldN (W 2) ls lc) r1 (m1 9) lc) with
        | (m2, l2, r2) => (lc, rc, m2, l2, r2)
      else (lc, rc, m1, vHoldN (W 2) ls lc, r1)

set_option maxHeartbeats 4000000 in
set_option maxRecDepth 100000 in
theorem s_skiOn {d m i : Nat} {riders : Int32} {n : Nat} {K : Nat → mj_K} {f : Nat → Nat → Int32} {g : Nat → Nat → Option Nat} {y : mV} (hL : LMn K g m) (hN : MN f m y) (hi : i < y.2.1) : mj_Cv m_X1_skiOn (d + 1) [.ref m, .ref (m + 7 + 5 * i), .int riders] (n, K, f, g) (fun h1 => ∃ f1, h1 = (n, K, f1, g) ∧ MN f1 m (y.1, y.2.1, wSkiMu riders y.2.2.1 (y.2.2.2.2 i), y.2.2.2.1, mj_row y.2.2.2.2 i (vSkiRun riders (y.2.2.2.2 i))) ∧ mj_Fr m (m + 47) f f1) := by
  have hL2 := hL
  have hN2 := hN
  obtain ⟨km, gm0, gm1, km1, km6, hLl, hLr⟩ := hL
  obtain ⟨lc, rc, mu, ls, rs⟩ := y
  obtain ⟨n1, n2, n3, n4, n5, n6, n7, n8⟩ := hN
  dsimp only at n1 n2 n3 n4 n5 n6 n7 n8
  have hi : i < rc := hi
  have u13 : f m 13 = mu 13 := n5 13 (by omega) (by omega)
  have hg_i : g (m + 6) i = some (m + 7 + 5 * i) := (hLr i (by omega)).1
  have hL_i := (hLr i (by omega)).2
  have kr_i : K (m + 7 + 5 * i) = (2, 2, 0) := hL_i.1
  have gr_i : g (m + 7 + 5 * i) 0 = some ((m + 7 + 5 * i) + 1) := hL_i.2.1
  have ks_i : K ((m + 7 + 5 * i) + 1) = (2, 3, 0) := hL_i.2.2.1
  have hR_i := n7 i (by omega)
  have e5_i : f (m + 7 + 5 * i) 5 = (rs i).2 5 := hR_i.2.1 5 (by omega) (by omega)
  have e8_i : f (m + 7 + 5 * i) 8 = (rs i).2 8 := hR_i.2.1 8 (by omega) (by omega)
  have main : ∀ cr : Int32, (cr = 0 ↔ vTop 2 (rs i).1 = false) → mj_W m_X1_skiOn (d + 1) 0 0 (fun v h1 => v = none ∧ ∃ f1, h1 = (n, K, f1, g) ∧ MN f1 m (lc, rc, wSkiMu riders mu (rs i), ls, mj_row rs i (vSkiRun riders (rs i))) ∧ mj_Fr m (m + 47) f f1) 9 [.ref m, .ref (m + 7 + 5 * i), .int riders, .int cr, .null, .null] [] (n, K, f, g) := by
    intro cr hcr
    have key : ∀ (j t : Nat) (f1 : Nat → Nat → Int32) (z : sV), t + j = (((rs i).2 8 + riders) / 200 - (rs i).2 8 / 200).toNatClampNeg → RN f1 (m + 7 + 5 * i) (z, upd (rs i).2 8 ((rs i).2 8 + riders)) → vThinN (((rs i).2 8 + riders) / 200 - (rs i).2 8 / 200).toNatClampNeg (rs i).1 = vThinN j z → mj_Fr (m + 7 + 5 * i) (m + 12 + 5 * i) f f1 → mj_W m_X1_skiOn (d + 1) 0 0 (fun v h1 => v = none ∧ ∃ f1, h1 = (n, K, f1, g) ∧ MN f1 m (lc, rc, wSkiMu riders mu (rs i), ls, mj_row rs i (vSkiRun riders (rs i))) ∧ mj_Fr m (m + 47) f f1) 43 [.ref m, .ref (m + 7 + 5 * i), .int riders, .int cr, .int (((rs i).2 8 + riders) / 200 - (rs i).2 8 / 200), .int (nI t)] [] (n, K, f1, g) := by
      intro j
      induction j with
      | zero =>
        intro t f1 z ht hR hz hF
        have hge : ((rs i).2 8 + riders) / 200 - (rs i).2 8 / 200 ≤ nI t := mj_clampLe ⟨by omega, by have := mj_clamp31 (((rs i).2 8 + riders) / 200 - (rs i).2 8 / 200); omega⟩
        have a5 : f1 (m + 7 + 5 * i) 5 = (rs i).2 5 := by rw [hR.2.1 5 (by omega) (by omega)]; simp [upd]
        have v13 : f1 m 13 = mu 13 := by rw [hF m (by omega)]; exact u13
        have hM1 := hN2.run hi hR hF (by simp [upd])
        rw [show z = vThinN 0 z from rfl, ← hz] at hM1
        refine mj_iload (i := 5) (q := 45) dX1_skiOn_43 rfl rfl ?_
        refine mj_iload (i := 4) (q := 47) dX1_skiOn_45 rfl rfl ?_
        refine mj_icmp_ge (tgt := 64) (q := 50) dX1_skiOn_47 (by decide) rfl (fun c_47 => ?_) (fun c_47 => absurd hge c_47)
        refine mj_aload_n (i := 0) (q := 65) dX1_skiOn_64 rfl rfl rfl ?_
        refine mj_dup (q := 66) rfl dX1_skiOn_65 rfl ?_
        refine mj_getfv (q := 69) dX1_skiOn_66 fl_X1_66 rfl rfl (by assumption) (by assumption) ?_
        refine mj_iload_n (i := 2) (q := 70) dX1_skiOn_69 rfl rfl rfl ?_
        refine mj_num2 (v := 40) (q := 72) (by decide) dX1_skiOn_70 rfl ?_
        refine mj_aload_n (i := 1) (q := 73) dX1_skiOn_72 rfl rfl rfl ?_
        refine mj_getfv (q := 76) dX1_skiOn_73 fl_X1_99 rfl rfl (by assumption) (by assumption) ?_
        refine mj_imul (q := 77) dX1_skiOn_76 rfl ?_
        refine mj_icmp_le (tgt := 84) (q := 80) dX1_skiOn_77 (by decide) rfl (fun c_77 => ?_) (fun c_77 => ?_)
        · refine mj_num1 (v := 0) (q := 85) rfl dX1_skiOn_84 rfl ?_
          refine mj_cSN1i (K := m_X5_oneIf) (q := 88) dX1_skiOn_85 (fun _ z => z.2.2.1) ok_X5_oneIf (Nat.le_of_ble_eq_true rfl) (by decide) rfl (s_oneIf) (fun r_85 h1 hq => ?_)
          obtain ⟨rfl, rfl⟩ := hq
          refine mj_iadd (q := 89) dX1_skiOn_88 rfl ?_
          refine mj_putf (q := 92) dX1_skiOn_89 fl_X1_66 rfl rfl (by assumption) rfl rfl rfl ?_
          refine mj_aload_n (i := 0) (q := 93) dX1_skiOn_92 rfl rfl rfl ?_
          refine mj_dup (q := 94) rfl dX1_skiOn_93 rfl ?_
          refine mj_getf (q := 97) dX1_skiOn_94 fl_X1_66 rfl rfl (by assumption) ?_
          refine mj_top mj_upe ?_
          refine mj_iload_n (i := 3) (q := 98) dX1_skiOn_97 rfl rfl rfl ?_
          refine mj_if_eq (tgt := 108) (q := 101) dX1_skiOn_98 (by decide) rfl (fun c_98 => ?_) (fun c_98 => ?_)
          · refine mj_num1 (v := 0) (q := 109) rfl dX1_skiOn_108 rfl ?_
            refine mj_iadd (q := 110) dX1_skiOn_109 rfl ?_
            refine mj_putf (q := 113) dX1_skiOn_110 fl_X1_66 rfl rfl (by assumption) rfl rfl rfl ?_
            have hM2 := (hM1.put (k0 := 13) (v := mu 13 + v01 0) (by omega)).put (k0 := 13) (v := mu 13 + v01 0 + 0) (by omega)
            rw [upd_upd] at hM2
            have e : wSkiMu riders mu (rs i) = upd mu 13 (mu 13 + v01 0 + 0) := by
              unfold wSkiMu
              rw [if_pos c_77, if_neg (by rw [hcr.mp c_98]; simp)]
              rfl
            refine mj_return dX1_skiOn_113 rfl ⟨rfl, _, rfl, ?_, ?_⟩
            · rw [e]; exact hM2
            · repeat (first | exact hF.wide (by omega) (by omega) | refine mj_Fr.up ?_ (by omega) (by omega))
          · refine mj_iload_n (i := 2) (q := 102) dX1_skiOn_101 rfl rfl rfl ?_
            refine mj_num2 (v := 50) (q := 104) (by decide) dX1_skiOn_102 rfl ?_
            refine mj_idiv (q := 105) (by decide) dX1_skiOn_104 rfl ?_
            refine mj_goto (q := 109) dX1_skiOn_105 (by decide) ?_
            refine mj_iadd (q := 110) dX1_skiOn_109 rfl ?_
            refine mj_putf (q := 113) dX1_skiOn_110 fl_X1_66 rfl rfl (by assumption) rfl rfl rfl ?_
            have hM2 := (hM1.put (k0 := 13) (v := mu 13 + v01 0) (by omega)).put (k0 := 13) (v := mu 13 + v01 0 + riders / 50) (by omega)
            rw [upd_upd] at hM2
            have e : wSkiMu riders mu (rs i) = upd mu 13 (mu 13 + v01 0 + riders / 50) := by
              unfold wSkiMu
              rw [if_pos c_77, if_pos (by simpa using mt hcr.mpr c_98)]
              rfl
            refine mj_return dX1_skiOn_113 rfl ⟨rfl, _, rfl, ?_, ?_⟩
            · rw [e]; exact hM2
            · repeat (first | exact hF.wide (by omega) (by omega) | refine mj_Fr.up ?_ (by omega) (by omega))
        · refine mj_num1 (v := 1) (q := 81) rfl dX1_skiOn_80 rfl ?_
          refine mj_goto (q := 85) dX1_skiOn_81 (by decide) ?_
          refine mj_cSN1i (K := m_X5_oneIf) (q := 88) dX1_skiOn_85 (fun _ z => z.2.2.1) ok_X5_oneIf (Nat.le_of_ble_eq_true rfl) (by decide) rfl (s_oneIf) (fun r_85 h1 hq => ?_)
          obtain ⟨rfl, rfl⟩ := hq
          refine mj_iadd (q := 89) dX1_skiOn_88 rfl ?_
          refine mj_putf (q := 92) dX1_skiOn_89 fl_X1_66 rfl rfl (by assumption) rfl rfl rfl ?_
          refine mj_aload_n (i := 0) (q := 93) dX1_skiOn_92 rfl rfl rfl ?_
          refine mj_dup (q := 94) rfl dX1_skiOn_93 rfl ?_
          refine mj_getf (q := 97) dX1_skiOn_94 fl_X1_66 rfl rfl (by assumption) ?_
          refine mj_top mj_upe ?_
          refine mj_iload_n (i := 3) (q := 98) dX1_skiOn_97 rfl rfl rfl ?_
          refine mj_if_eq (tgt := 108) (q := 101) dX1_skiOn_98 (by decide) rfl (fun c_98 => ?_) (fun c_98 => ?_)
          · refine mj_num1 (v := 0) (q := 109) rfl dX1_skiOn_108 rfl ?_
            refine mj_iadd (q := 110) dX1_skiOn_109 rfl ?_
            refine mj_putf (q := 113) dX1_skiOn_110 fl_X1_66 rfl rfl (by assumption) rfl rfl rfl ?_
            have hM2 := (hM1.put (k0 := 13) (v := mu 13 + v01 1) (by omega)).put (k0 := 13) (v := mu 13 + v01 1 + 0) (by omega)
            rw [upd_upd] at hM2
            have e : wSkiMu riders mu (rs i) = upd mu 13 (mu 13 + v01 1 + 0) := by
              unfold wSkiMu
              rw [if_neg c_77, if_neg (by rw [hcr.mp c_98]; simp)]
              rfl
            refine mj_return dX1_skiOn_113 rfl ⟨rfl, _, rfl, ?_, ?_⟩
            · rw [e]; exact hM2
            · repeat (first | exact hF.wide (by omega) (by omega) | refine mj_Fr.up ?_ (by omega) (by omega))
          · refine mj_iload_n (i := 2) (q := 102) dX1_skiOn_101 rfl rfl rfl ?_
            refine mj_num2 (v := 50) (q := 104) (by decide) dX1_skiOn_102 rfl ?_
            refine mj_idiv (q := 105) (by decide) dX1_skiOn_104 rfl ?_
            refine mj_goto (q := 109) dX1_skiOn_105 (by decide) ?_
            refine mj_iadd (q := 110) dX1_skiOn_109 rfl ?_
            refine mj_putf (q := 113) dX1_skiOn_110 fl_X1_66 rfl rfl (by assumption) rfl rfl rfl ?_
            have hM2 := (hM1.put (k0 := 13) (v := mu 13 + v01 1) (by omega)).put (k0 := 13) (v := mu 13 + v01 1 + riders / 50) (by omega)
            rw [upd_upd] at hM2
            have e : wSkiMu riders mu (rs i) = upd mu 13 (mu 13 + v01 1 + riders / 50) := by
              unfold wSkiMu
              rw [if_neg c_77, if_pos (by simpa using mt hcr.mpr c_98)]
              rfl
            refine mj_return dX1_skiOn_113 rfl ⟨rfl, _, rfl, ?_, ?_⟩
            · rw [e]; exact hM2
            · repeat (first | exact hF.wide (by omega) (by omega) | refine mj_Fr.up ?_ (by omega) (by omega))
      | succ j ih =>
        intro t f1 z ht hR hz hF
        have hlt : ¬ ((rs i).2 8 + riders) / 200 - (rs i).2 8 / 200 ≤ nI t := mj_clampGt (by omega)
        refine mj_iload (i := 5) (q := 45) dX1_skiOn_43 rfl rfl ?_
        refine mj_iload (i := 4) (q := 47) dX1_skiOn_45 rfl rfl ?_
        refine mj_icmp_ge (tgt := 64) (q := 50) dX1_skiOn_47 (by decide) rfl (fun c_47 => absurd c_47 hlt) (fun c_47 => ?_)
        refine mj_aload_n (i := 1) (q := 51) dX1_skiOn_50 rfl rfl rfl ?_
        refine mj_getr (q := 54) dX1_skiOn_51 fl_X1_89 rfl rfl (by assumption) (by assumption) ?_
        refine mj_num1 (v := 1) (q := 55) rfl dX1_skiOn_54 rfl ?_
        refine mj_cV1v (K := m_X3_thin) (q := 58) dX1_skiOn_55 ln_X1_227 ok_X3_thin (Nat.le_of_ble_eq_true rfl) (by decide) (by assumption) rfl rfl (s_thin hL_i.2.2 hR.1) (fun h1 hq => ?_)
        obtain ⟨f2, rfl, hS2, hF2⟩ := hq
        refine mj_iinc (i := 5) (q := 61) dX1_skiOn_58 rfl rfl (by decide) rfl ?_
        dsimp only [List.set]
        refine mj_goto (q := 43) dX1_skiOn_61 (by decide) ?_
        rw [show nI t + Int32.ofInt 1 = nI (t + 1) from nI_1 t]
        exact ih (t + 1) f2 _ (by omega) (hR.snow hS2 hF2) (by rw [hz, vThinN]) (hF.tr (hF2.wide (by omega) (by omega)))
    refine mj_aload_n (i := 1) (q := 10) dX1_skiOn_9 rfl rfl rfl ?_
    refine mj_getfv (q := 13) dX1_skiOn_10 fl_X1_224 rfl rfl (by assumption) (by assumption) ?_
    refine mj_iload_n (i := 2) (q := 14) dX1_skiOn_13 rfl rfl rfl ?_
    refine mj_iadd (q := 15) dX1_skiOn_14 rfl ?_
    refine mj_num3 (v := 200) (q := 18) (by decide) dX1_skiOn_15 rfl ?_
    refine mj_idiv (q := 19) (by decide) dX1_skiOn_18 rfl ?_
    refine mj_aload_n (i := 1) (q := 20) dX1_skiOn_19 rfl rfl rfl ?_
    refine mj_getfv (q := 23) dX1_skiOn_20 fl_X1_224 rfl rfl (by assumption) (by assumption) ?_
    refine mj_num3 (v := 200) (q := 26) (by decide) dX1_skiOn_23 rfl ?_
    refine mj_idiv (q := 27) (by decide) dX1_skiOn_26 rfl ?_
    refine mj_isub (q := 28) dX1_skiOn_27 rfl ?_
    refine mj_istore (i := 4) (q := 30) dX1_skiOn_28 rfl (by decide) rfl ?_
    dsimp only [List.set]
    refine mj_aload_n (i := 1) (q := 31) dX1_skiOn_30 rfl rfl rfl ?_
    refine mj_dup (q := 32) rfl dX1_skiOn_31 rfl ?_
    refine mj_getfv (q := 35) dX1_skiOn_32 fl_X1_224 rfl rfl (by assumption) (by assumption) ?_
    refine mj_iload_n (i := 2) (q := 36) dX1_skiOn_35 rfl rfl rfl ?_
    refine mj_iadd (q := 37) dX1_skiOn_36 rfl ?_
    refine mj_putf (q := 40) dX1_skiOn_37 fl_X1_224 rfl rfl (by assumption) rfl rfl rfl ?_
    refine mj_num1 (v := nI 0) (q := 41) (by decide) dX1_skiOn_40 rfl ?_
    refine mj_istore (i := 5) (q := 43) dX1_skiOn_41 rfl (by decide) rfl ?_
    dsimp only [List.set]
    exact key (((rs i).2 8 + riders) / 200 - (rs i).2 8 / 200).toNatClampNeg 0 _ (rs i).1 (Nat.zero_add _) (hR_i.put (k0 := 8) (v := (rs i).2 8 + riders) (by omega)) rfl (mj_Fr.up mj_Fr.rf (by omega) (by omega))
  refine mj_entry (by refine ⟨by decide +kernel, by decide, rfl, Nat.le_of_ble_eq_true rfl⟩) ?_
  show mj_W _ _ _ _ _ 0 [.ref m, .ref (m + 7 + 5 * i), .int riders, .null, .null, .null] [] _
  refine mj_aload_n (i := 1) (q := 1) dX1_skiOn_0 rfl rfl rfl ?_
  refine mj_getr (q := 4) dX1_skiOn_1 fl_X1_89 rfl rfl (by assumption) (by assumption) ?_
  refine mj_num1 (v := 2) (q := 5) rfl dX1_skiOn_4 rfl ?_
  refine mj_cV1i (K := m_X3_topIs) (q := 8) dX1_skiOn_5 ln_X1_200 ok_X3_topIs (Nat.le_of_ble_eq_true rfl) (by decide) (by assumption) rfl rfl (s_topIs hL_i.2.2 hR_i.1) (fun r_5 h1 hq => ?_)
  obtain ⟨rfl, hr⟩ := hq
  refine mj_istore_n (i := 3) (q := 9) dX1_skiOn_8 rfl rfl (by decide) rfl ?_
  dsimp only [List.set]
  exact main _ (by rw [hr]; exact mj_i01)
set_option maxHeartbeats 4000000 in
set_option maxRecDepth 100000 in
theorem s_shareOut {d m : Nat} {l taken op : Int32} {n : Nat} {K : Nat → mj_K} {f : Nat → Nat → Int32} {g : Nat → Nat → Option Nat} {y : mV} (hL : LMn K g m) (hN : MN f m y) (ho : 1 ≤ op) : mj_Cv m_X1_shareOut (d + 2) [.ref m, .int l, .int taken, .int op] (n, K, f, g) (fun h1 => ∃ f1, h1 = (n, K, f1, g) ∧ MN f1 m (y.1, y.2.1, (vShareN l (taken / op) (taken % op) y.2.2.1 y.2.2.2.2 y.2.1).1, y.2.2.2.1, (vShareN l (taken / op) (taken % op) y.2.2.1 y.2.2.2.2 y.2.1).2.1) ∧ mj_Fr m (m + 47) f f1) := by
  have hL2 := hL
  have hN2 := hN
  obtain ⟨km, gm0, gm1, km1, km6, hLl, hLr⟩ := hL
  obtain ⟨lc, rc, mu, ls, rs⟩ := y
  obtain ⟨n1, n2, n3, n4, n5, n6, n7, n8⟩ := hN
  dsimp only at n1 n2 n3 n4 n5 n6 n7 n8
  have hop : ¬ op = 0 := fun z => by rw [z] at ho; exact absurd ho (by decide)
  have key : ∀ (j i : Nat) (f1 : Nat → Nat → Int32) (ex : Int32), i + j = rc → ex = (vShareN l (taken / op) (taken % op) mu rs i).2.2 → MN f1 m (lc, rc, (vShareN l (taken / op) (taken % op) mu rs i).1, ls, (vShareN l (taken / op) (taken % op) mu rs i).2.1) → mj_Fr m (m + 47) f f1 → mj_W m_X1_shareOut (d + 2) 0 0 (fun v h1 => v = none ∧ ∃ f1, h1 = (n, K, f1, g) ∧ MN f1 m (lc, rc, (vShareN l (taken / op) (taken % op) mu rs rc).1, ls, (vShareN l (taken / op) (taken % op) mu rs rc).2.1) ∧ mj_Fr m (m + 47) f f1) 14 [.ref m, .int l, .int taken, .int op, .int ex, .int (nI i)] [] (n, K, f1, g) := by
    intro j
    induction j with
    | zero =>
      intro i f1 ex hi hex hM hF
      have hi : i = rc := by omega
      subst hi
      have o4 : f1 m 3 = nI i := hM.2.2.2.1
      refine mj_iload (i := 5) (q := 16) dX1_shareOut_14 rfl rfl ?_
      refine mj_aload_n (i := 0) (q := 17) dX1_shareOut_16 rfl rfl rfl ?_
      refine mj_getfv (q := 20) dX1_shareOut_17 fl_X1_42 rfl rfl (by assumption) (by assumption) ?_
      refine mj_icmp_ge (tgt := 76) (q := 23) dX1_shareOut_20 (by decide) rfl (fun c_20 => ?_) (fun c_20 => absurd (Int32.le_refl _) c_20)
      exact mj_return dX1_shareOut_76 rfl ⟨rfl, ⟨_, rfl, hM, hF⟩⟩
    | succ j ih =>
      intro i f1 ex hi hex hM hF
      have o4 : f1 m 3 = nI rc := hM.2.2.2.1
      have ev : (vShareN l (taken / op) (taken % op) mu rs i).2.1 i = rs i := vShareN_ge (Nat.le_refl i)
      have o7 : ∀ k, k < rc → RN f1 (m + 7 + 5 * k) ((vShareN l (taken / op) (taken % op) mu rs i).2.1 k) := hM.2.2.2.2.2.2.1
      have hg_i : g (m + 6) i = some (m + 7 + 5 * i) := (hLr i (by omega)).1
      have hL_i := (hLr i (by omega)).2
      have kr_i : K (m + 7 + 5 * i) = (2, 2, 0) := hL_i.1
      have gr_i : g (m + 7 + 5 * i) 0 = some ((m + 7 + 5 * i) + 1) := hL_i.2.1
      have ks_i : K ((m + 7 + 5 * i) + 1) = (2, 3, 0) := hL_i.2.2.1
      have hR_i := o7 i (by omega)
      rw [ev] at hR_i
      have e15 : f1 (m + 7 + 5 * i) 15 = (rs i).2 15 := hR_i.2.1 15 (by omega) (by omega)
      have e1 : f1 (m + 7 + 5 * i) 1 = (rs i).2 1 := hR_i.2.1 1 (by omega) (by omega)
      refine mj_iload (i := 5) (q := 16) dX1_shareOut_14 rfl rfl ?_
      refine mj_aload_n (i := 0) (q := 17) dX1_shareOut_16 rfl rfl rfl ?_
      refine mj_getfv (q := 20) dX1_shareOut_17 fl_X1_42 rfl rfl (by assumption) (by assumption) ?_
      refine mj_icmp_ge (tgt := 76) (q := 23) dX1_shareOut_20 (by decide) rfl (fun c_20 => absurd c_20 (nI_ge (a := i) (b := rc) (by omega) (by omega))) (fun c_20 => ?_)
      refine mj_aload_n (i := 0) (q := 24) dX1_shareOut_23 rfl rfl rfl ?_
      refine mj_getr (q := 27) dX1_shareOut_24 fl_X1_20 rfl rfl (by assumption) (by assumption) ?_
      refine mj_iload (i := 5) (q := 29) dX1_shareOut_27 rfl rfl ?_
      refine mj_aaldn (q := 30) dX1_shareOut_29 rfl (by assumption) ⟨by omega, by omega⟩ (by assumption) ?_
      refine mj_getfv (q := 33) dX1_shareOut_30 fl_X1_78 rfl rfl (by assumption) (by assumption) ?_
      refine mj_if_eq (tgt := 70) (q := 36) dX1_shareOut_33 (by decide) rfl (fun c_33 => ?_) (fun c_33 => ?_)
      · refine mj_iinc (i := 5) (q := 73) dX1_shareOut_70 rfl rfl (by decide) rfl ?_
        dsimp only [List.set]
        refine mj_goto (q := 14) dX1_shareOut_73 (by decide) ?_
        rw [show nI i + Int32.ofInt 1 = nI (i + 1) from nI_1 i]
        have e : vShareN l (taken / op) (taken % op) mu rs (i + 1) = vShareN l (taken / op) (taken % op) mu rs i := by rw [vShareN]; exact if_neg (fun z => z.1 c_33)
        exact ih (i + 1) f1 ex (by omega) (by rw [e]; exact hex) (by rw [e]; exact hM) hF
      · refine mj_aload_n (i := 0) (q := 37) dX1_shareOut_36 rfl rfl rfl ?_
        refine mj_getr (q := 40) dX1_shareOut_37 fl_X1_20 rfl rfl (by assumption) (by assumption) ?_
        refine mj_iload (i := 5) (q := 42) dX1_shareOut_40 rfl rfl ?_
        refine mj_aaldn (q := 43) dX1_shareOut_42 rfl (by assumption) ⟨by omega, by omega⟩ (by assumption) ?_
        refine mj_getfv (q := 46) dX1_shareOut_43 fl_X1_86 rfl rfl (by assumption) (by assumption) ?_
        refine mj_iload_n (i := 1) (q := 47) dX1_shareOut_46 rfl rfl rfl ?_
        refine mj_icmp_ne (tgt := 70) (q := 50) dX1_shareOut_47 (by decide) rfl (fun c_47 => ?_) (fun c_47 => ?_)
        · refine mj_iinc (i := 5) (q := 73) dX1_shareOut_70 rfl rfl (by decide) rfl ?_
          dsimp only [List.set]
          refine mj_goto (q := 14) dX1_shareOut_73 (by decide) ?_
          rw [show nI i + Int32.ofInt 1 = nI (i + 1) from nI_1 i]
          have e : vShareN l (taken / op) (taken % op) mu rs (i + 1) = vShareN l (taken / op) (taken % op) mu rs i := by rw [vShareN]; exact if_neg (fun z => c_47 z.2)
          exact ih (i + 1) f1 ex (by omega) (by rw [e]; exact hex) (by rw [e]; exact hM) hF
        · refine mj_aload_n (i := 0) (q := 51) dX1_shareOut_50 rfl rfl rfl ?_
          refine mj_aload_n (i := 0) (q := 52) dX1_shareOut_51 rfl rfl rfl ?_
          refine mj_getr (q := 55) dX1_shareOut_52 fl_X1_20 rfl rfl (by assumption) (by assumption) ?_
          refine mj_iload (i := 5) (q := 57) dX1_shareOut_55 rfl rfl ?_
          refine mj_aaldn (q := 58) dX1_shareOut_57 rfl (by assumption) ⟨by omega, by omega⟩ (by assumption) ?_
          refine mj_iload_n (i := 2) (q := 59) dX1_shareOut_58 rfl rfl rfl ?_
          refine mj_iload_n (i := 3) (q := 60) dX1_shareOut_59 rfl rfl rfl ?_
          refine mj_idiv (q := 61) hop dX1_shareOut_60 rfl ?_
          refine mj_iload (i := 4) (q := 63) dX1_shareOut_61 rfl rfl ?_
          refine mj_iadd (q := 64) dX1_shareOut_63 rfl ?_
          refine mj_cV2v (K := m_X1_skiOn) (q := 67) dX1_shareOut_64 ln_X1_221 ok_X1_skiOn (Nat.le_of_ble_eq_true rfl) (by decide) (by assumption) rfl rfl (s_skiOn hL2 hM (i := i) (by show i < rc; omega)) (fun h1 hq => ?_)
          obtain ⟨f2, rfl, hM2, hF2⟩ := hq
          dsimp only at hM2
          rw [ev] at hM2
          refine mj_num1 (v := 0) (q := 68) rfl dX1_shareOut_67 rfl ?_
          refine mj_istore (i := 4) (q := 70) dX1_shareOut_68 rfl (by decide) rfl ?_
          dsimp only [List.set]
          refine mj_iinc (i := 5) (q := 73) dX1_shareOut_70 rfl rfl (by decide) rfl ?_
          dsimp only [List.set]
          refine mj_goto (q := 14) dX1_shareOut_73 (by decide) ?_
          rw [show nI i + Int32.ofInt 1 = nI (i + 1) from nI_1 i]
          have e : vShareN l (taken / op) (taken % op) mu rs (i + 1) = (wSkiMu (taken / op + ex) (vShareN l (taken / op) (taken % op) mu rs i).1 (rs i), mj_row (vShareN l (taken / op) (taken % op) mu rs i).2.1 i (vSkiRun (taken / op + ex) (rs i)), 0) := by rw [vShareN, hex]; exact if_pos ⟨c_33, c_47⟩
          exact ih (i + 1) f2 0 (by omega) (by rw [e]) (by rw [e]; exact hM2) (hF.tr hF2)
  refine mj_entry (by refine ⟨by decide +kernel, by decide, rfl, Nat.le_of_ble_eq_true rfl⟩) ?_
  show mj_W _ _ _ _ _ 0 [.ref m, .int l, .int taken, .int op, .null, .null] [] _
  refine mj_iload_n (i := 3) (q := 1) dX1_shareOut_0 rfl rfl rfl ?_
  refine mj_num1 (v := 1) (q := 2) rfl dX1_shareOut_1 rfl ?_
  refine mj_icmp_ge (tgt := 6) (q := 5) dX1_shareOut_2 (by decide) rfl (fun c_2 => ?_) (fun c_2 => absurd ho c_2)
  refine mj_iload_n (i := 2) (q := 7) dX1_shareOut_6 rfl rfl rfl ?_
  refine mj_iload_n (i := 3) (q := 8) dX1_shareOut_7 rfl rfl rfl ?_
  refine mj_irem (q := 9) hop dX1_shareOut_8 rfl ?_
  refine mj_istore (i := 4) (q := 11) dX1_shareOut_9 rfl (by decide) rfl ?_
  dsimp only [List.set]
  refine mj_num1 (v := nI 0) (q := 12) (by decide) dX1_shareOut_11 rfl ?_
  refine mj_istore (i := 5) (q := 14) dX1_shareOut_12 rfl (by decide) rfl ?_
  dsimp only [List.set]
  exact key rc 0 f _ (by omega) rfl hN2 mj_Fr.rf
theorem mj_lt1 {x : Int32} (h : 0 < x) : 1 ≤ x := by
  have h1 := Int32.lt_iff_toInt_lt.mp h
  rw [Int32.le_iff_toInt_le]
  have h0 : (0 : Int32).toInt = 0 := by decide
  have h2 : (1 : Int32).toInt = 1 := by decide
  omega
set_option maxHeartbeats 4000000 in
set_option maxRecDepth 100000 in
theorem s_carrySkiers {d m : Nat} {n : Nat} {K : Nat → mj_K} {f : Nat → Nat → Int32} {g : Nat → Nat → Option Nat} {y : mV} (hL : LMn K g m) (hN : MN f m y) : mj_Cv m_X1_carrySkiers (d + 3) [.ref m] (n, K, f, g) (fun h1 => ∃ f1, h1 = (n, K, f1, g) ∧ MN f1 m (y.1, y.2.1, (vCarryS (vCarryN y.2.1 y.2.2.1 y.2.2.2.1 y.2.2.2.2 (y.2.2.1 9) y.1)).1, (vCarryS (vCarryN y.2.1 y.2.2.1 y.2.2.2.1 y.2.2.2.2 (y.2.2.1 9) y.1)).2.1, (vCarryS (vCarryN y.2.1 y.2.2.1 y.2.2.2.1 y.2.2.2.2 (y.2.2.1 9) y.1)).2.2) ∧ mj_Fr m (m + 47) f f1) := by
  have hL2 := hL
  have hN2 := hN
  obtain ⟨km, gm0, gm1, km1, km6, hLl, hLr⟩ := hL
  obtain ⟨lc, rc, mu, ls, rs⟩ := y
  obtain ⟨n1, n2, n3, n4, n5, n6, n7, n8⟩ := hN
  dsimp only at n1 n2 n3 n4 n5 n6 n7 n8
  have u9 : f m 9 = mu 9 := n5 9 (by omega) (by omega)
  have key : ∀ (j i : Nat) (f1 : Nat → Nat → Int32) (m1 : Nat → Int32) (l1 : Nat → Nat → Int32) (r1 : Nat → rV) (lf : Int32) (v3 v4 : Value), i + j = lc → vCarryN rc mu ls rs (mu 9) i = (m1, l1, r1, lf) → MN f1 m (lc, rc, m1, l1, r1) → mj_Fr m (m + 47) f f1 → mj_W m_X1_carrySkiers (d + 3) 0 0 (fun v h1 => v = none ∧ ∃ f1, h1 = (n, K, f1, g) ∧ MN f1 m (lc, rc, (vCarryS (vCarryN rc mu ls rs (mu 9) lc)).1, (vCarryS (vCarryN rc mu ls rs (mu 9) lc)).2.1, (vCarryS (vCarryN rc mu ls rs (mu 9) lc)).2.2) ∧ mj_Fr m (m + 47) f f1) 7 [.ref m, .int lf, .int (nI i), v3, v4] [] (n, K, f1, g) := by
    intro j
    induction j with
    | zero =>
      intro i f1 m1 l1 r1 lf v3 v4 hi hc hM hF
      have hi : i = lc := by omega
      subst hi
      have o3 : f1 m 2 = nI i := hM.2.2.1
      have v15 : f1 m 15 = m1 15 := hM.2.2.2.2.1 15 (by omega) (by omega)
      refine mj_iload_n (i := 2) (q := 8) dX1_carrySkiers_7 rfl rfl rfl ?_
      refine mj_aload_n (i := 0) (q := 9) dX1_carrySkiers_8 rfl rfl rfl ?_
      refine mj_getfv (q := 12) dX1_carrySkiers_9 fl_X1_35 rfl rfl (by assumption) (by assumption) ?_
      refine mj_icmp_ge (tgt := 98) (q := 15) dX1_carrySkiers_12 (by decide) rfl (fun c_12 => ?_) (fun c_12 => absurd (Int32.le_refl _) c_12)
      refine mj_aload_n (i := 0) (q := 99) dX1_carrySkiers_98 rfl rfl rfl ?_
      refine mj_dup (q := 100) rfl dX1_carrySkiers_99 rfl ?_
      refine mj_getfv (q := 103) dX1_carrySkiers_100 fl_X1_72 rfl rfl (by assumption) (by assumption) ?_
      refine mj_iload_n (i := 1) (q := 104) dX1_carrySkiers_103 rfl rfl rfl ?_
      refine mj_iadd (q := 105) dX1_carrySkiers_104 rfl ?_
      refine mj_putf (q := 108) dX1_carrySkiers_105 fl_X1_72 rfl rfl (by assumption) rfl rfl rfl ?_
      refine mj_return dX1_carrySkiers_108 rfl ⟨rfl, _, rfl, ?_, mj_Fr.up hF (by omega) (by omega)⟩
      rw [hc]
      exact hM.put (k0 := 15) (by omega)
    | succ j ih =>
      intro i f1 m1 l1 r1 lf v3 v4 hi hc hM hF
      have o3 : f1 m 2 = nI lc := hM.2.2.1
      have ev : l1 i = ls i := by have := vCarryN_ge (rc := rc) (mu := mu) (ls := ls) (rs := rs) (left := mu 9) (Nat.le_refl i); rw [hc] at this; exact this
      have o6 : ∀ k, k < lc → LN f1 (m + 2 + k) (l1 k) := hM.2.2.2.2.2.1
      have v14 : f1 m 14 = m1 14 := hM.2.2.2.2.1 14 (by omega) (by omega)
      have hl_i : g (m + 1) i = some (m + 2 + i) := (hLl i (by omega)).1
      have kl_i : K (m + 2 + i) = (2, 0, 0) := (hLl i (by omega)).2
      have hN_i := o6 i (by omega)
      rw [ev] at hN_i
      have l0 : f1 (m + 2 + i) 0 = ls i 0 := hN_i.1 0 (by omega)
      have l4 : f1 (m + 2 + i) 4 = ls i 4 := hN_i.1 4 (by omega)
      refine mj_iload_n (i := 2) (q := 8) dX1_carrySkiers_7 rfl rfl rfl ?_
      refine mj_aload_n (i := 0) (q := 9) dX1_carrySkiers_8 rfl rfl rfl ?_
      refine mj_getfv (q := 12) dX1_carrySkiers_9 fl_X1_35 rfl rfl (by assumption) (by assumption) ?_
      refine mj_icmp_ge (tgt := 98) (q := 15) dX1_carrySkiers_12 (by decide) rfl (fun c_12 => absurd c_12 (nI_ge (a := i) (b := lc) (by omega) (by omega))) (fun c_12 => ?_)
      refine mj_aload_n (i := 0) (q := 16) dX1_carrySkiers_15 rfl rfl rfl ?_
      refine mj_iload_n (i := 2) (q := 17) dX1_carrySkiers_16 rfl rfl rfl ?_
      refine mj_cV1i (K := m_X1_openRunsOf) (q := 20) dX1_carrySkiers_17 ln_X1_211 ok_X1_openRunsOf (Nat.le_of_ble_eq_true rfl) (by decide) (by assumption) rfl rfl (s_openRunsOf hL2 hM) (fun r_17 h1 hq => ?_)
      obtain ⟨rfl, rfl⟩ := hq
      refine mj_istore_n (i := 3) (q := 21) dX1_carrySkiers_20 rfl rfl (by decide) rfl ?_
      dsimp only [List.set]
      refine mj_aload_n (i := 0) (q := 22) dX1_carrySkiers_21 rfl rfl rfl ?_
      refine mj_getr (q := 25) dX1_carrySkiers_22 fl_X1_11 rfl rfl (by assumption) (by assumption) ?_
      refine mj_iload_n (i := 2) (q := 26) dX1_carrySkiers_25 rfl rfl rfl ?_
      refine mj_aaldn (q := 27) dX1_carrySkiers_26 rfl (by assumption) ⟨by omega, by omega⟩ (by assumption) ?_
      refine mj_cV0i (K := m_X0_isMoving) (q := 30) dX1_carrySkiers_27 ln_X1_128 ok_X0_isMoving (Nat.le_of_ble_eq_true rfl) (by decide) (by assumption) rfl rfl (s_isMoving kl_i hN_i) (fun r_27 h1 hq => ?_)
      obtain ⟨rfl, hr_27⟩ := hq
      refine mj_if_eq (tgt := 92) (q := 33) dX1_carrySkiers_30 (by decide) rfl (fun c_30 => ?_) (fun c_30 => ?_)
      · refine mj_iinc (i := 2) (q := 95) dX1_carrySkiers_92 rfl rfl (by decide) rfl ?_
        dsimp only [List.set]
        refine mj_goto (q := 7) dX1_carrySkiers_95 (by decide) ?_
        rw [show nI i + Int32.ofInt 1 = nI (i + 1) from nI_1 i]
        have hm0 : vMoving (ls i) = false := by rw [hr_27, mj_i01] at c_30; exact c_30
        have e : vCarryN rc mu ls rs (mu 9) (i + 1) = (m1, l1, r1, lf) := by rw [vCarryN, hc]; exact if_neg (fun z => absurd z.1 (by rw [hm0]; simp))
        exact ih (i + 1) f1 m1 l1 r1 lf _ _ (by omega) e hM hF
      · refine mj_iload_n (i := 3) (q := 34) dX1_carrySkiers_33 rfl rfl rfl ?_
        refine mj_if_le (tgt := 92) (q := 37) dX1_carrySkiers_34 (by decide) rfl (fun c_34 => ?_) (fun c_34 => ?_)
        · refine mj_iinc (i := 2) (q := 95) dX1_carrySkiers_92 rfl rfl (by decide) rfl ?_
          dsimp only [List.set]
          refine mj_goto (q := 7) dX1_carrySkiers_95 (by decide) ?_
          rw [show nI i + Int32.ofInt 1 = nI (i + 1) from nI_1 i]
          have e : vCarryN rc mu ls rs (mu 9) (i + 1) = (m1, l1, r1, lf) := by rw [vCarryN, hc]; exact if_neg (fun z => absurd c_34 (Int32.not_le.mpr z.2))
          exact ih (i + 1) f1 m1 l1 r1 lf _ _ (by omega) e hM hF
        · refine mj_aload_n (i := 0) (q := 38) dX1_carrySkiers_37 rfl rfl rfl ?_
          refine mj_getr (q := 41) dX1_carrySkiers_38 fl_X1_11 rfl rfl (by assumption) (by assumption) ?_
          refine mj_iload_n (i := 2) (q := 42) dX1_carrySkiers_41 rfl rfl rfl ?_
          refine mj_aaldn (q := 43) dX1_carrySkiers_42 rfl (by assumption) ⟨by omega, by omega⟩ (by assumption) ?_
          refine mj_getfv (q := 46) dX1_carrySkiers_43 fl_X1_214 rfl rfl (by assumption) (by assumption) ?_
          refine mj_iload_n (i := 1) (q := 47) dX1_carrySkiers_46 rfl rfl rfl ?_
          refine mj_mmin (q := 50) dX1_carrySkiers_47 ln_X1_194 (Nat.le_of_ble_eq_true rfl) rfl ?_
          refine mj_top (y := vMin (ls i 0) lf) rfl ?_
          refine mj_istore (i := 4) (q := 52) dX1_carrySkiers_50 rfl (by decide) rfl ?_
          dsimp only [List.set]
          refine mj_iload_n (i := 1) (q := 53) dX1_carrySkiers_52 rfl rfl rfl ?_
          refine mj_iload (i := 4) (q := 55) dX1_carrySkiers_53 rfl rfl ?_
          refine mj_isub (q := 56) dX1_carrySkiers_55 rfl ?_
          refine mj_istore_n (i := 1) (q := 57) dX1_carrySkiers_56 rfl rfl (by decide) rfl ?_
          dsimp only [List.set]
          refine mj_aload_n (i := 0) (q := 58) dX1_carrySkiers_57 rfl rfl rfl ?_
          refine mj_dup (q := 59) rfl dX1_carrySkiers_58 rfl ?_
          refine mj_getf (q := 62) dX1_carrySkiers_59 fl_X1_69 rfl rfl (by assumption) ?_
          refine mj_top (y := m1 14) v14 ?_
          refine mj_iload (i := 4) (q := 64) dX1_carrySkiers_62 rfl rfl ?_
          refine mj_iadd (q := 65) dX1_carrySkiers_64 rfl ?_
          refine mj_putf (q := 68) dX1_carrySkiers_65 fl_X1_69 rfl rfl (by assumption) rfl rfl rfl ?_
          refine mj_aload_n (i := 0) (q := 69) dX1_carrySkiers_68 rfl rfl rfl ?_
          refine mj_getr (q := 72) dX1_carrySkiers_69 fl_X1_11 rfl rfl (by assumption) (by assumption) ?_
          refine mj_iload_n (i := 2) (q := 73) dX1_carrySkiers_72 rfl rfl rfl ?_
          refine mj_aaldn (q := 74) dX1_carrySkiers_73 rfl (by assumption) ⟨by omega, by omega⟩ (by assumption) ?_
          refine mj_dup (q := 75) rfl dX1_carrySkiers_74 rfl ?_
          refine mj_getf (q := 78) dX1_carrySkiers_75 fl_X1_217 rfl rfl (by assumption) ?_
          refine mj_top (y := ls i 4) (by rw [mj_upn (by omega)]; exact l4) ?_
          refine mj_iload (i := 4) (q := 80) dX1_carrySkiers_78 rfl rfl ?_
          refine mj_iadd (q := 81) dX1_carrySkiers_80 rfl ?_
          refine mj_putf (q := 84) dX1_carrySkiers_81 fl_X1_217 rfl rfl (by assumption) rfl rfl rfl ?_
          have hM3 := hM.put (k0 := 14) (v := m1 14 + vMin (ls i 0) lf) (by omega)
          have hN3 : LN (mj_up f1 m 14 (m1 14 + vMin (ls i 0) lf)) (m + 2 + i) (ls i) := hN_i.keep (lo := m) (hi := m + 1) (mj_Fr.up mj_Fr.rf (by omega) (by omega)) (by omega)
          have hM4 := hM3.lift (by omega) (hN3.put (k0 := 4) (v := ls i 4 + vMin (ls i 0) lf) (Or.inl ⟨by omega, by omega⟩)) (mj_Fr.up mj_Fr.rf (by omega) (by omega))
          have hF4 := mj_Fr.up (a := m + 2 + i) (k := 4) (v := ls i 4 + vMin (ls i 0) lf) (mj_Fr.up (a := m) (k := 14) (v := m1 14 + vMin (ls i 0) lf) hF (by omega) (by omega)) (by omega) (by omega)
          refine mj_aload_n (i := 0) (q := 85) dX1_carrySkiers_84 rfl rfl rfl ?_
          refine mj_iload_n (i := 2) (q := 86) dX1_carrySkiers_85 rfl rfl rfl ?_
          refine mj_iload (i := 4) (q := 88) dX1_carrySkiers_86 rfl rfl ?_
          refine mj_iload_n (i := 3) (q := 89) dX1_carrySkiers_88 rfl rfl rfl ?_
          refine mj_cV3v (K := m_X1_shareOut) (q := 92) dX1_carrySkiers_89 ln_X1_218 ok_X1_shareOut (Nat.le_of_ble_eq_true rfl) (by decide) (by assumption) rfl rfl (s_shareOut hL2 hM4 (by have h1 := Int32.not_le.mp c_34; exact mj_lt1 h1)) (fun h1 hq => ?_)
          obtain ⟨f2, rfl, hM2, hF2⟩ := hq
          refine mj_iinc (i := 2) (q := 95) dX1_carrySkiers_92 rfl rfl (by decide) rfl ?_
          dsimp only [List.set]
          refine mj_goto (q := 7) dX1_carrySkiers_95 (by decide) ?_
          rw [show nI i + Int32.ofInt 1 = nI (i + 1) from nI_1 i]
          have hm1 : vMoving (ls i) = true := by rw [hr_27, mj_i01] at c_30; simpa using c_30
          have e : vCarryN rc mu ls rs (mu 9) (i + 1) = ((vShareN (nI i) (vMin (ls i 0) lf / vOpenOf r1 (nI i) rc) (vMin (ls i 0) lf % vOpenOf r1 (nI i) rc) (upd m1 14 (m1 14 + vMin (ls i 0) lf)) r1 rc).1, mj_row l1 i (upd (ls i) 4 (ls i 4 + vMin (ls i 0) lf)), (vShareN (nI i) (vMin (ls i 0) lf / vOpenOf r1 (nI i) rc) (vMin (ls i 0) lf % vOpenOf r1 (nI i) rc) (upd m1 14 (m1 14 + vMin (ls i 0) lf)) r1 rc).2.1, lf - vMin (ls i 0) lf) := by rw [vCarryN, hc]; exact if_pos ⟨hm1, Int32.not_le.mp c_34⟩
          exact ih (i + 1) f2 _ _ _ _ _ _ (by omega) e hM2 (hF4.tr hF2)
  refine mj_entry (by refine ⟨by decide +kernel, by decide, rfl, Nat.le_of_ble_eq_true rfl⟩) ?_
  show mj_W _ _ _ _ _ 0 [.ref m, .null, .null, .null, .null] [] _
  refine mj_aload_n (i := 0) (q := 1) dX1_carrySkiers_0 rfl rfl rfl ?_
  refine mj_getfv (q := 4) dX1_carrySkiers_1 fl_X1_54 rfl rfl (by assumption) (by assumption) ?_
  refine mj_istore_n (i := 1) (q := 5) dX1_carrySkiers_4 rfl rfl (by decide) rfl ?_
  dsimp only [List.set]
  refine mj_num1 (v := nI 0) (q := 6) (by decide) dX1_carrySkiers_5 rfl ?_
  refine mj_istore_n (i := 2) (q := 7) dX1_carrySkiers_6 rfl rfl (by decide) rfl ?_
  dsimp only [List.set]
  exact key lc 0 f mu ls rs (mu 9) _ _ (by omega) rfl hN2 mj_Fr.rf
end
section
/-! THE MOUNTAIN, fourth part: an hour, and become -/
set_option maxHeartbeats 4000000 in
set_option maxRecDepth 100000 in
theorem s_passHour {d m wt z : Nat} {W : Nat → Int32} {n : Nat} {K : Nat → mj_K} {f : Nat → Nat → Int32} {g : Nat → Nat → Option Nat} {y : mV} (hL : LMn K g m) (hN : MN f m y) (kw : K wt = (2, 4, z)) (hW : WN f wt W) (hap : wt < m ∨ m + 47 ≤ wt) : mj_Cv m_X1_passHour (d + 5) [.ref m, .ref wt] (n, K, f, g) (fun h1 => ∃ f1, h1 = (n, K, f1, g) ∧ MN f1 m (vHour W y) ∧ mj_Fr m (m + 47) f f1) := by
  have hL2 := hL
  have hN2 := hN
  obtain ⟨km, gm0, gm1, km1, km6, hLl, hLr⟩ := hL
  obtain ⟨lc, rc, mu, ls, rs⟩ := y
  obtain ⟨n1, n2, n3, n4, n5, n6, n7, n8⟩ := hN
  dsimp only at n1 n2 n3 n4 n5 n6 n7 n8
  have u4 : f m 4 = mu 4 := n5 4 (by omega) (by omega)
  have w2 : f wt 2 = W 2 := hW 2 (by omega)
  obtain ⟨mu0, emu0⟩ : ∃ z, z = (upd (upd mu 4 (mu 4 + 1)) 5 (W 2)) := ⟨_, rfl⟩
  have key127 : ∀ (f1 : Nat → Nat → Int32) (m1 : Nat → Int32) (r1 : Nat → rV) (v2 v3 v4 : Value), vHourN W mu0 rs rc = (m1, r1) → MN f1 m (lc, rc, m1, ls, r1) → mj_Fr m (m + 47) f f1 → mj_W m_X1_passHour (d + 5) 0 0 (fun v h1 => v = none ∧ ∃ f1, h1 = (n, K, f1, g) ∧ MN f1 m (vHour W (lc, rc, mu, ls, rs)) ∧ mj_Fr m (m + 47) f f1) 127 [.ref m, .ref wt, v2, v3, v4] [] (n, K, f1, g) := by
    intro f1 m1 r1 v2 v3 v4 hh hM hF
    have a2 : f1 wt 2 = W 2 := by rw [hF wt (by omega)]; exact w2
    have ev : vHour W (lc, rc, mu, ls, rs) = if 9 ≤ m1 4 % 24 ∧ m1 4 % 24 ≤ 16 then (lc, rc, (vCarryS (vCarryN rc m1 (vHoldN (W 2) ls lc) r1 (m1 9) lc)).1, (vCarryS (vCarryN rc m1 (vHoldN (W 2) ls lc) r1 (m1 9) lc)).2.1, (vCarryS (vCarryN rc m1 (vHoldN (W 2) ls lc) r1 (m1 9) lc)).2.2) else (lc, rc, m1, vHoldN (W 2) ls lc, r1) := by
      unfold vHour
      dsimp only
      rw [← emu0, hh]
    refine mj_aload_n (i := 0) (q := 128) dX1_passHour_127 rfl rfl rfl ?_
    refine mj_aload_n (i := 1) (q := 129) dX1_passHour_128 rfl rfl rfl ?_
    refine mj_getfv (q := 132) dX1_passHour_129 fl_X1_150 rfl rfl (by assumption) (by assumption) ?_
    refine mj_cV1v (K := m_X1_holdLifts) (q := 135) dX1_passHour_132 ln_X1_182 ok_X1_holdLifts (Nat.le_of_ble_eq_true rfl) (by decide) (by assumption) rfl rfl (s_holdLifts hL2 hM) (fun h1 hq => ?_)
    obtain ⟨f2, rfl, hM2, hF2⟩ := hq
    refine mj_aload_n (i := 0) (q := 136) dX1_passHour_135 rfl rfl rfl ?_
    refine mj_cV0i (K := m_X1_clock) (q := 139) dX1_passHour_136 ln_X1_161 ok_X1_clock (Nat.le_of_ble_eq_true rfl) (by decide) (by assumption) rfl rfl (s_clock hL2 hM2) (fun r_136 h1 hq => ?_)
    obtain ⟨rfl, rfl⟩ := hq
    refine mj_num2 (v := 9) (q := 141) (by decide) dX1_passHour_139 rfl ?_
    refine mj_icmp_lt (tgt := 157) (q := 144) dX1_passHour_141 (by decide) rfl (fun c_141 => ?_) (fun c_141 => ?_)
    · refine mj_return dX1_passHour_157 rfl ⟨rfl, _, rfl, ?_, hF.tr hF2⟩
      rw [ev, if_neg (fun z => absurd c_141 (Int32.not_lt.mpr z.1))]
      exact hM2
    · refine mj_aload_n (i := 0) (q := 145) dX1_passHour_144 rfl rfl rfl ?_
      refine mj_cV0i (K := m_X1_clock) (q := 148) dX1_passHour_145 ln_X1_161 ok_X1_clock (Nat.le_of_ble_eq_true rfl) (by decide) (by assumption) rfl rfl (s_clock hL2 hM2) (fun r_145 h1 hq => ?_)
      obtain ⟨rfl, rfl⟩ := hq
      refine mj_num2 (v := 16) (q := 150) (by decide) dX1_passHour_148 rfl ?_
      refine mj_icmp_gt (tgt := 157) (q := 153) dX1_passHour_150 (by decide) rfl (fun c_150 => ?_) (fun c_150 => ?_)
      · refine mj_return dX1_passHour_157 rfl ⟨rfl, _, rfl, ?_, hF.tr hF2⟩
        rw [ev, if_neg (fun z => absurd c_150 (Int32.not_lt.mpr z.2))]
        exact hM2
      · refine mj_aload_n (i := 0) (q := 154) dX1_passHour_153 rfl rfl rfl ?_
        refine mj_cV0v (K := m_X1_carrySkiers) (q := 157) dX1_passHour_154 ln_X1_185 ok_X1_carrySkiers (Nat.le_of_ble_eq_true rfl) (by decide) (by assumption) rfl rfl (s_carrySkiers hL2 hM2) (fun h1 hq => ?_)
        obtain ⟨f3, rfl, hM3, hF3⟩ := hq
        refine mj_return dX1_passHour_157 rfl ⟨rfl, _, rfl, ?_, (hF.tr hF2).tr hF3⟩
        rw [ev, if_pos ⟨Int32.not_lt.mp c_141, Int32.not_lt.mp c_150⟩]
        exact hM3
  have key : ∀ (j i : Nat) (f1 : Nat → Nat → Int32) (m1 : Nat → Int32) (r1 : Nat → rV) (v3 v4 : Value), i + j = rc → vHourN W mu0 rs i = (m1, r1) → MN f1 m (lc, rc, m1, ls, r1) → mj_Fr m (m + 47) f f1 → mj_W m_X1_passHour (d + 5) 0 0 (fun v h1 => v = none ∧ ∃ f1, h1 = (n, K, f1, g) ∧ MN f1 m (vHour W (lc, rc, mu, ls, rs)) ∧ mj_Fr m (m + 47) f f1) 20 [.ref m, .ref wt, .int (nI i), v3, v4] [] (n, K, f1, g) := by
    intro j
    induction j with
    | zero =>
      intro i f1 m1 r1 v3 v4 hi hh hM hF
      have hi : i = rc := by omega
      subst hi
      have o4 : f1 m 3 = nI i := hM.2.2.2.1
      refine mj_iload_n (i := 2) (q := 21) dX1_passHour_20 rfl rfl rfl ?_
      refine mj_aload_n (i := 0) (q := 22) dX1_passHour_21 rfl rfl rfl ?_
      refine mj_getfv (q := 25) dX1_passHour_22 fl_X1_42 rfl rfl (by assumption) (by assumption) ?_
      refine mj_icmp_ge (tgt := 127) (q := 28) dX1_passHour_25 (by decide) rfl (fun c_25 => ?_) (fun c_25 => absurd (Int32.le_refl _) c_25)
      exact key127 f1 m1 r1 _ _ _ hh hM hF
    | succ j ih =>
      intro i f1 m1 r1 v3 v4 hi hh hM hF
      have hi2 : i < rc := by omega
      have o4 : f1 m 3 = nI rc := hM.2.2.2.1
      have ev : r1 i = rs i := by have := vHourN_ge (W := W) (mu := mu0) (rs := rs) (Nat.le_refl i); rw [hh] at this; exact this
      have o7 : ∀ k, k < rc → RN f1 (m + 7 + 5 * k) (r1 k) := hM.2.2.2.2.2.2.1
      have hg_i : g (m + 6) i = some (m + 7 + 5 * i) := (hLr i (by omega)).1
      have hL_i := (hLr i (by omega)).2
      have kr_i : K (m + 7 + 5 * i) = (2, 2, 0) := hL_i.1
      have gr_i : g (m + 7 + 5 * i) 0 = some ((m + 7 + 5 * i) + 1) := hL_i.2.1
      have ks_i : K ((m + 7 + 5 * i) + 1) = (2, 3, 0) := hL_i.2.2.1
      have hR_i := o7 i (by omega)
      rw [ev] at hR_i
      have hW1 : WN f1 wt W := hW.keep hF (by omega)
      have w0 : f1 wt 0 = W 0 := hW1 0 (by omega)
      have e2 : f1 (m + 7 + 5 * i) 2 = (rs i).2 2 := hR_i.2.1 2 (by omega) (by omega)
      obtain ⟨x1, ex1⟩ : ∃ z : rV, z = (vWeather W ((rs i).2 4) (W 0 - (rs i).2 2 / 2) (m1 4 % 24) (rs i).1, (rs i).2) := ⟨_, rfl⟩
      obtain ⟨G, eG⟩ : ∃ z, z = vMakeG ((W 0 - (rs i).2 2 / 2) - (100 - W 4) / 10) ((rs i).2 6) (m1 6) ((rs i).2 7) := ⟨_, rfl⟩
      obtain ⟨x2, ex2⟩ : ∃ z, z = vMakeRun G.2 x1 := ⟨_, rfl⟩
      obtain ⟨risk, erisk⟩ : ∃ z, z = vRisk (x2.2 3) x2.1 := ⟨_, rfl⟩
      have hrun : vHourRun W m1 (rs i) = if risk < 100 then (upd m1 6 G.1, (x2.1, upd x2.2 14 risk)) else (vSlideMu (upd (upd m1 6 G.1) 12 ((upd m1 6 G.1) 12 + v01 ((upd x2.2 14 risk) 15))) (vSlideSize (x2.1, upd (upd x2.2 14 risk) 15 0)), vSlideRun (x2.1, upd (upd x2.2 14 risk) 15 0)) := by rw [erisk, ex2, eG, ex1]; rfl
      have hstep : vHourN W mu0 rs (i + 1) = ((vHourRun W m1 (rs i)).1, mj_row r1 i (vHourRun W m1 (rs i)).2) := by show ((vHourRun W (vHourN W mu0 rs i).1 (rs i)).1, mj_row (vHourN W mu0 rs i).2 i (vHourRun W (vHourN W mu0 rs i).1 (rs i)).2) = _; rw [hh]
      refine mj_iload_n (i := 2) (q := 21) dX1_passHour_20 rfl rfl rfl ?_
      refine mj_aload_n (i := 0) (q := 22) dX1_passHour_21 rfl rfl rfl ?_
      refine mj_getfv (q := 25) dX1_passHour_22 fl_X1_42 rfl rfl (by assumption) (by assumption) ?_
      refine mj_icmp_ge (tgt := 127) (q := 28) dX1_passHour_25 (by decide) rfl (fun c_25 => absurd c_25 (nI_ge (a := i) (b := rc) (by omega) (by omega))) (fun c_25 => ?_)
      refine mj_aload_n (i := 0) (q := 29) dX1_passHour_28 rfl rfl rfl ?_
      refine mj_getr (q := 32) dX1_passHour_29 fl_X1_20 rfl rfl (by assumption) (by assumption) ?_
      refine mj_iload_n (i := 2) (q := 33) dX1_passHour_32 rfl rfl rfl ?_
      refine mj_aaldn (q := 34) dX1_passHour_33 rfl (by assumption) ⟨by omega, by omega⟩ (by assumption) ?_
      refine mj_astore_n (i := 3) (q := 35) dX1_passHour_34 rfl rfl (by decide) rfl ?_
      dsimp only [List.set]
      refine mj_aload_n (i := 1) (q := 36) dX1_passHour_35 rfl rfl rfl ?_
      refine mj_getfv (q := 39) dX1_passHour_36 fl_X1_155 rfl rfl (by assumption) (by assumption) ?_
      refine mj_aload_n (i := 3) (q := 40) dX1_passHour_39 rfl rfl rfl ?_
      refine mj_getfv (q := 43) dX1_passHour_40 fl_X1_158 rfl rfl (by assumption) (by assumption) ?_
      refine mj_num1 (v := 2) (q := 44) rfl dX1_passHour_43 rfl ?_
      refine mj_idiv (q := 45) (by decide) dX1_passHour_44 rfl ?_
      refine mj_isub (q := 46) dX1_passHour_45 rfl ?_
      refine mj_istore (i := 4) (q := 48) dX1_passHour_46 rfl (by decide) rfl ?_
      dsimp only [List.set]
      refine mj_aload_n (i := 3) (q := 49) dX1_passHour_48 rfl rfl rfl ?_
      refine mj_aload_n (i := 1) (q := 50) dX1_passHour_49 rfl rfl rfl ?_
      refine mj_iload (i := 4) (q := 52) dX1_passHour_50 rfl rfl ?_
      refine mj_aload_n (i := 0) (q := 53) dX1_passHour_52 rfl rfl rfl ?_
      refine mj_cV0i (K := m_X1_clock) (q := 56) dX1_passHour_53 ln_X1_161 ok_X1_clock (Nat.le_of_ble_eq_true rfl) (by decide) (by assumption) rfl rfl (s_clock hL2 hM) (fun r_53 h1 hq => ?_)
      obtain ⟨rfl, rfl⟩ := hq
      refine mj_cV3v (K := m_X2_weatherSnow) (q := 59) dX1_passHour_56 ln_X1_164 ok_X2_weatherSnow (Nat.le_of_ble_eq_true rfl) (by decide) (by assumption) rfl rfl (s_weatherSnow hL_i hR_i kw hW1 (by omega)) (fun h1 hq => ?_)
      obtain ⟨f2, rfl, hS2, hF2⟩ := hq
      have hR2 := hR_i.snow hS2 hF2
      have hM2 := hM.run hi2 hR2 (hF2.wide (by omega) (by omega)) (by rw [ev])
      dsimp only at hM2
      rw [← ex1] at hM2
      have hFa := hF.tr (hF2.wide (lo2 := m) (hi2 := m + 47) (by omega) (by omega))
      have w4 : f2 wt 4 = W 4 := by rw [hFa wt (by omega)]; exact hW 4 (by omega)
      refine mj_aload_n (i := 0) (q := 60) dX1_passHour_59 rfl rfl rfl ?_
      refine mj_aload_n (i := 3) (q := 61) dX1_passHour_60 rfl rfl rfl ?_
      refine mj_iload (i := 4) (q := 63) dX1_passHour_61 rfl rfl ?_
      refine mj_num2 (v := 100) (q := 65) (by decide) dX1_passHour_63 rfl ?_
      refine mj_aload_n (i := 1) (q := 66) dX1_passHour_65 rfl rfl rfl ?_
      refine mj_getfv (q := 69) dX1_passHour_66 fl_X1_168 rfl rfl (by assumption) (by assumption) ?_
      refine mj_isub (q := 70) dX1_passHour_69 rfl ?_
      refine mj_num2 (v := 10) (q := 72) (by decide) dX1_passHour_70 rfl ?_
      refine mj_idiv (q := 73) (by decide) dX1_passHour_72 rfl ?_
      refine mj_isub (q := 74) dX1_passHour_73 rfl ?_
      refine mj_cV2v (K := m_X1_makeSnow) (q := 77) dX1_passHour_74 ln_X1_171 ok_X1_makeSnow (Nat.le_of_ble_eq_true rfl) (by decide) (by assumption) rfl rfl (s_makeSnow hL2 hM2 hi2) (fun h1 hq => ?_)
      obtain ⟨f3, rfl, hM3, hF3⟩ := hq
      dsimp only at hM3
      rw [mj_rowe, mj_row_row, show x1.2 6 = (rs i).2 6 from by rw [ex1], show x1.2 7 = (rs i).2 7 from by rw [ex1], ← eG, ← ex2] at hM3
      have hFb := hFa.tr hF3
      have hR3 : RN f3 (m + 7 + 5 * i) (mj_row r1 i x2 i) := hM3.2.2.2.2.2.2.1 i hi2
      rw [mj_rowe] at hR3
      have hR4 := hR3.put (k0 := 14) (v := risk) (by omega)
      have hl1 : x2.2 1 = (r1 i).2 1 := by rw [ex2, ex1, ev]; rfl
      have hM4 := hM3.run hi2 hR4 (mj_Fr.up mj_Fr.rf (by omega) (by omega)) (by rw [mj_rowe]; simp [upd])
      rw [mj_row_row] at hM4
      have hFc : mj_Fr m (m + 47) f (mj_up f3 (m + 7 + 5 * i) 14 risk) := mj_Fr.up hFb (by omega) (by omega)
      have q14 : mj_up f3 (m + 7 + 5 * i) 14 risk (m + 7 + 5 * i) 14 = risk := mj_upe
      have q12 : mj_up f3 (m + 7 + 5 * i) 14 risk m 12 = upd m1 6 G.1 12 := hM4.2.2.2.2.1 12 (by omega) (by omega)
      have q15 : mj_up f3 (m + 7 + 5 * i) 14 risk (m + 7 + 5 * i) 15 = upd x2.2 14 risk 15 := hR4.2.1 15 (by omega) (by omega)
      refine mj_aload_n (i := 3) (q := 78) dX1_passHour_77 rfl rfl rfl ?_
      refine mj_aload_n (i := 3) (q := 79) dX1_passHour_78 rfl rfl rfl ?_
      refine mj_cV0i (K := m_X2_risk) (q := 82) dX1_passHour_79 ln_X1_105 ok_X2_risk (Nat.le_of_ble_eq_true rfl) (by decide) (by assumption) rfl rfl (s_runRisk hL_i hR3) (fun r_79 h1 hq => ?_)
      obtain ⟨rfl, rfl⟩ := hq
      rw [← erisk]
      refine mj_putf (q := 85) dX1_passHour_82 fl_X1_175 rfl rfl (by assumption) rfl rfl rfl ?_
      refine mj_aload_n (i := 3) (q := 86) dX1_passHour_85 rfl rfl rfl ?_
      refine mj_getfv (q := 89) dX1_passHour_86 fl_X1_175 rfl rfl (by assumption) (by assumption) ?_
      refine mj_num2 (v := 100) (q := 91) (by decide) dX1_passHour_89 rfl ?_
      refine mj_icmp_lt (tgt := 121) (q := 94) dX1_passHour_91 (by decide) rfl (fun c_91 => ?_) (fun c_91 => ?_)
      · refine mj_iinc (i := 2) (q := 124) dX1_passHour_121 rfl rfl (by decide) rfl ?_
        dsimp only [List.set]
        refine mj_goto (q := 20) dX1_passHour_124 (by decide) ?_
        rw [show nI i + Int32.ofInt 1 = nI (i + 1) from nI_1 i]
        rw [if_pos c_91] at hrun
        exact ih (i + 1) _ _ _ _ _ (by omega) (by rw [hstep, hrun]) hM4 hFc
      · refine mj_aload_n (i := 0) (q := 95) dX1_passHour_94 rfl rfl rfl ?_
        refine mj_dup (q := 96) rfl dX1_passHour_95 rfl ?_
        refine mj_getfv (q := 99) dX1_passHour_96 fl_X1_63 rfl rfl (by assumption) (by assumption) ?_
        refine mj_aload_n (i := 3) (q := 100) dX1_passHour_99 rfl rfl rfl ?_
        refine mj_getfv (q := 103) dX1_passHour_100 fl_X1_78 rfl rfl (by assumption) (by assumption) ?_
        refine mj_cSN1i (K := m_X5_oneIf) (q := 106) dX1_passHour_103 (fun _ z => z.2.2.1) ok_X5_oneIf (Nat.le_of_ble_eq_true rfl) (by decide) rfl (s_oneIf) (fun r_103 h1 hq => ?_)
        obtain ⟨rfl, rfl⟩ := hq
        refine mj_iadd (q := 107) dX1_passHour_106 rfl ?_
        refine mj_putf (q := 110) dX1_passHour_107 fl_X1_63 rfl rfl (by assumption) rfl rfl rfl ?_
        have hM5 := hM4.put (k0 := 12) (v := upd m1 6 G.1 12 + v01 (upd x2.2 14 risk 15)) (by omega)
        refine mj_aload_n (i := 3) (q := 111) dX1_passHour_110 rfl rfl rfl ?_
        refine mj_num1 (v := 0) (q := 112) rfl dX1_passHour_111 rfl ?_
        refine mj_putf (q := 115) dX1_passHour_112 fl_X1_78 rfl rfl (by assumption) rfl rfl rfl ?_
        have hR5 : RN (mj_up (mj_up f3 (m + 7 + 5 * i) 14 risk) m 12 (upd m1 6 G.1 12 + v01 (upd x2.2 14 risk 15))) (m + 7 + 5 * i) (x2.1, upd x2.2 14 risk) := hR4.keep (lo := m) (hi := m + 1) (mj_Fr.up mj_Fr.rf (by omega) (by omega)) (by omega)
        have hR6 := hR5.put (k0 := 15) (v := 0) (Or.inr (Or.inl rfl))
        have hM6 := hM5.run hi2 hR6 (mj_Fr.up mj_Fr.rf (by omega) (by omega)) (by rw [mj_rowe]; simp [upd])
        rw [mj_row_row] at hM6
        have hFd := mj_Fr.up (a := (m + 7 + 5 * i)) (k := 15) (v := 0) (mj_Fr.up (a := m) (k := 12) (v := upd m1 6 G.1 12 + v01 (upd x2.2 14 risk 15)) hFc (by omega) (by omega)) (by omega) (by omega)
        refine mj_aload_n (i := 0) (q := 116) dX1_passHour_115 rfl rfl rfl ?_
        refine mj_aload_n (i := 3) (q := 117) dX1_passHour_116 rfl rfl rfl ?_
        refine mj_cV1i (K := m_X1_slideOn) (q := 120) dX1_passHour_117 ln_X1_178 ok_X1_slideOn (Nat.le_of_ble_eq_true rfl) (by decide) (by assumption) rfl rfl (s_slideOn hL2 hM6 hi2) (fun r_117 h1 hq => ?_)
        obtain ⟨f7, rfl, hM7, hF7, -⟩ := hq
        dsimp only at hM7
        rw [mj_rowe, mj_row_row] at hM7
        refine mj_pop (q := 121) rfl dX1_passHour_120 rfl ?_
        refine mj_iinc (i := 2) (q := 124) dX1_passHour_121 rfl rfl (by decide) rfl ?_
        dsimp only [List.set]
        refine mj_goto (q := 20) dX1_passHour_124 (by decide) ?_
        rw [show nI i + Int32.ofInt 1 = nI (i + 1) from nI_1 i]
        rw [if_neg c_91] at hrun
        exact ih (i + 1) _ _ _ _ _ (by omega) (by rw [hstep, hrun]) hM7 (hFd.tr hF7)
  have hM0 := (hN2.put (k0 := 4) (v := mu 4 + 1) (by omega)).put (k0 := 5) (v := W 2) (by omega)
  rw [← emu0] at hM0
  refine mj_entry (by refine ⟨by decide +kernel, by decide, rfl, Nat.le_of_ble_eq_true rfl⟩) ?_
  show mj_W _ _ _ _ _ 0 [.ref m, .ref wt, .null, .null, .null] [] _
  refine mj_aload_n (i := 0) (q := 1) dX1_passHour_0 rfl rfl rfl ?_
  refine mj_dup (q := 2) rfl dX1_passHour_1 rfl ?_
  refine mj_getfv (q := 5) dX1_passHour_2 fl_X1_48 rfl rfl (by assumption) (by assumption) ?_
  refine mj_num1 (v := 1) (q := 6) rfl dX1_passHour_5 rfl ?_
  refine mj_iadd (q := 7) dX1_passHour_6 rfl ?_
  refine mj_putf (q := 10) dX1_passHour_7 fl_X1_48 rfl rfl (by assumption) rfl rfl rfl ?_
  refine mj_aload_n (i := 0) (q := 11) dX1_passHour_10 rfl rfl rfl ?_
  refine mj_aload_n (i := 1) (q := 12) dX1_passHour_11 rfl rfl rfl ?_
  refine mj_getf (q := 15) dX1_passHour_12 fl_X1_150 rfl rfl (by assumption) ?_
  refine mj_top (y := W 2) (by rw [mj_upn (by omega)]; exact w2) ?_
  refine mj_putf (q := 18) dX1_passHour_15 fl_X1_51 rfl rfl (by assumption) rfl rfl rfl ?_
  refine mj_num1 (v := nI 0) (q := 19) (by decide) dX1_passHour_18 rfl ?_
  refine mj_istore_n (i := 2) (q := 20) dX1_passHour_19 rfl rfl (by decide) rfl ?_
  dsimp only [List.set]
  exact key rc 0 _ mu0 rs _ _ (by omega) rfl hM0 (mj_Fr.up (mj_Fr.up mj_Fr.rf (by omega) (by omega)) (by omega) (by omega))
set_option maxHeartbeats 4000000 in
set_option maxRecDepth 100000 in
theorem s_become {d m p : Nat} {n : Nat} {K : Nat → mj_K} {f : Nat → Nat → Int32} {g : Nat → Nat → Option Nat} {y : mV} (hL : LMn K g m) (hP : LMn K g p) (hap : m + 47 ≤ p ∨ p + 47 ≤ m) (hN : MN f m y) : mj_Cv m_X1_become (d + 3) [.ref p, .ref m] (n, K, f, g) (fun h1 => ∃ f1, h1 = (n, K, f1, g) ∧ MN f1 p y ∧ mj_Fr p (p + 47) f f1) := by
  have hL2 := hL
  have hN2 := hN
  obtain ⟨km, gm0, gm1, km1, km6, hLl, hLr⟩ := hL
  obtain ⟨kp, gp0, gp1, kp1, kp6, pLl, pLr⟩ := hP
  obtain ⟨lc, rc, mu, ls, rs⟩ := y
  obtain ⟨n1, n2, n3, n4, n5, n6, n7, n8⟩ := hN
  dsimp only at n1 n2 n3 n4 n5 n6 n7 n8
  have key78 : ∀ (f1 : Nat → Nat → Int32) (v2 : Value), f1 p 2 = nI lc → f1 p 3 = nI rc → (∀ i, i < lc → LN f1 (p + 2 + i) (ls i)) → (∀ i, i < rc → RN f1 (p + 7 + 5 * i) (rs i)) → mj_Fr p (p + 47) f f1 → mj_W m_X1_become (d + 3) 0 0 (fun v h1 => v = none ∧ ∃ f1, h1 = (n, K, f1, g) ∧ MN f1 p (lc, rc, mu, ls, rs) ∧ mj_Fr p (p + 47) f f1) 78 [.ref p, .ref m, v2] [] (n, K, f1, g) := by
    intro f1 v2 h2 h3 hl hr hF
    have hne : ¬ m = p := by omega
    have s4 : f1 m 4 = mu 4 := by rw [hF m (by omega)]; exact n5 4 (by omega) (by omega)
    have s5 : f1 m 5 = mu 5 := by rw [hF m (by omega)]; exact n5 5 (by omega) (by omega)
    have s6 : f1 m 6 = mu 6 := by rw [hF m (by omega)]; exact n5 6 (by omega) (by omega)
    have s7 : f1 m 7 = mu 7 := by rw [hF m (by omega)]; exact n5 7 (by omega) (by omega)
    have s8 : f1 m 8 = mu 8 := by rw [hF m (by omega)]; exact n5 8 (by omega) (by omega)
    have s9 : f1 m 9 = mu 9 := by rw [hF m (by omega)]; exact n5 9 (by omega) (by omega)
    have s10 : f1 m 10 = mu 10 := by rw [hF m (by omega)]; exact n5 10 (by omega) (by omega)
    have s11 : f1 m 11 = mu 11 := by rw [hF m (by omega)]; exact n5 11 (by omega) (by omega)
    have s12 : f1 m 12 = mu 12 := by rw [hF m (by omega)]; exact n5 12 (by omega) (by omega)
    have s13 : f1 m 13 = mu 13 := by rw [hF m (by omega)]; exact n5 13 (by omega) (by omega)
    have s14 : f1 m 14 = mu 14 := by rw [hF m (by omega)]; exact n5 14 (by omega) (by omega)
    have s15 : f1 m 15 = mu 15 := by rw [hF m (by omega)]; exact n5 15 (by omega) (by omega)
    refine mj_aload_n (i := 0) (q := 79) dX1_become_78 rfl rfl rfl ?_
    refine mj_aload_n (i := 1) (q := 80) dX1_become_79 rfl rfl rfl ?_
    refine mj_getf (q := 83) dX1_become_80 fl_X1_48 rfl rfl (by assumption) ?_
    refine mj_putf (q := 86) dX1_become_83 fl_X1_48 rfl rfl (by assumption) rfl rfl rfl ?_
    refine mj_aload_n (i := 0) (q := 87) dX1_become_86 rfl rfl rfl ?_
    refine mj_aload_n (i := 1) (q := 88) dX1_become_87 rfl rfl rfl ?_
    refine mj_getf (q := 91) dX1_become_88 fl_X1_51 rfl rfl (by assumption) ?_
    refine mj_putf (q := 94) dX1_become_91 fl_X1_51 rfl rfl (by assumption) rfl rfl rfl ?_
    refine mj_aload_n (i := 0) (q := 95) dX1_become_94 rfl rfl rfl ?_
    refine mj_aload_n (i := 1) (q := 96) dX1_become_95 rfl rfl rfl ?_
    refine mj_getf (q := 99) dX1_become_96 fl_X1_25 rfl rfl (by assumption) ?_
    refine mj_putf (q := 102) dX1_become_99 fl_X1_25 rfl rfl (by assumption) rfl rfl rfl ?_
    refine mj_aload_n (i := 0) (q := 103) dX1_become_102 rfl rfl rfl ?_
    refine mj_aload_n (i := 1) (q := 104) dX1_become_103 rfl rfl rfl ?_
    refine mj_getf (q := 107) dX1_become_104 fl_X1_29 rfl rfl (by assumption) ?_
    refine mj_putf (q := 110) dX1_become_107 fl_X1_29 rfl rfl (by assumption) rfl rfl rfl ?_
    refine mj_aload_n (i := 0) (q := 111) dX1_become_110 rfl rfl rfl ?_
    refine mj_aload_n (i := 1) (q := 112) dX1_become_111 rfl rfl rfl ?_
    refine mj_getf (q := 115) dX1_become_112 fl_X1_32 rfl rfl (by assumption) ?_
    refine mj_putf (q := 118) dX1_become_115 fl_X1_32 rfl rfl (by assumption) rfl rfl rfl ?_
    refine mj_aload_n (i := 0) (q := 119) dX1_become_118 rfl rfl rfl ?_
    refine mj_aload_n (i := 1) (q := 120) dX1_become_119 rfl rfl rfl ?_
    refine mj_getf (q := 123) dX1_become_120 fl_X1_54 rfl rfl (by assumption) ?_
    refine mj_putf (q := 126) dX1_become_123 fl_X1_54 rfl rfl (by assumption) rfl rfl rfl ?_
    refine mj_aload_n (i := 0) (q := 127) dX1_become_126 rfl rfl rfl ?_
    refine mj_aload_n (i := 1) (q := 128) dX1_become_127 rfl rfl rfl ?_
    refine mj_getf (q := 131) dX1_become_128 fl_X1_57 rfl rfl (by assumption) ?_
    refine mj_putf (q := 134) dX1_become_131 fl_X1_57 rfl rfl (by assumption) rfl rfl rfl ?_
    refine mj_aload_n (i := 0) (q := 135) dX1_become_134 rfl rfl rfl ?_
    refine mj_aload_n (i := 1) (q := 136) dX1_become_135 rfl rfl rfl ?_
    refine mj_getf (q := 139) dX1_become_136 fl_X1_60 rfl rfl (by assumption) ?_
    refine mj_putf (q := 142) dX1_become_139 fl_X1_60 rfl rfl (by assumption) rfl rfl rfl ?_
    refine mj_aload_n (i := 0) (q := 143) dX1_become_142 rfl rfl rfl ?_
    refine mj_aload_n (i := 1) (q := 144) dX1_become_143 rfl rfl rfl ?_
    refine mj_getf (q := 147) dX1_become_144 fl_X1_63 rfl rfl (by assumption) ?_
    refine mj_putf (q := 150) dX1_become_147 fl_X1_63 rfl rfl (by assumption) rfl rfl rfl ?_
    refine mj_aload_n (i := 0) (q := 151) dX1_become_150 rfl rfl rfl ?_
    refine mj_aload_n (i := 1) (q := 152) dX1_become_151 rfl rfl rfl ?_
    refine mj_getf (q := 155) dX1_become_152 fl_X1_66 rfl rfl (by assumption) ?_
    refine mj_putf (q := 158) dX1_become_155 fl_X1_66 rfl rfl (by assumption) rfl rfl rfl ?_
    refine mj_aload_n (i := 0) (q := 159) dX1_become_158 rfl rfl rfl ?_
    refine mj_aload_n (i := 1) (q := 160) dX1_become_159 rfl rfl rfl ?_
    refine mj_getf (q := 163) dX1_become_160 fl_X1_69 rfl rfl (by assumption) ?_
    refine mj_putf (q := 166) dX1_become_163 fl_X1_69 rfl rfl (by assumption) rfl rfl rfl ?_
    refine mj_aload_n (i := 0) (q := 167) dX1_become_166 rfl rfl rfl ?_
    refine mj_aload_n (i := 1) (q := 168) dX1_become_167 rfl rfl rfl ?_
    refine mj_getf (q := 171) dX1_become_168 fl_X1_72 rfl rfl (by assumption) ?_
    refine mj_putf (q := 174) dX1_become_171 fl_X1_72 rfl rfl (by assumption) rfl rfl rfl ?_
    refine mj_return dX1_become_174 rfl ⟨rfl, _, rfl, ⟨n1, n2, ?_, ?_, ?_, ?_, ?_, n8⟩, ?_⟩
    · simp [mj_up, h2]
    · simp [mj_up, h3]
    · intro k hk1 hk2
      have : k = 4 ∨ k = 5 ∨ k = 6 ∨ k = 7 ∨ k = 8 ∨ k = 9 ∨ k = 10 ∨ k = 11 ∨ k = 12 ∨ k = 13 ∨ k = 14 ∨ k = 15 := by omega
      rcases this with rfl | rfl | rfl | rfl | rfl | rfl | rfl | rfl | rfl | rfl | rfl | rfl <;> simp [mj_up, hne, s4, s5, s6, s7, s8, s9, s10, s11, s12, s13, s14, s15]
    · intro i hi
      refine (hl i hi).keep (lo := p) (hi := p + 1) ?_ (by omega)
      repeat (first | exact mj_Fr.rf | exact (by assumption) | refine mj_Fr.up ?_ (by omega) (by omega))
    · intro i hi
      refine (hr i hi).keep (lo := p) (hi := p + 1) ?_ (by omega)
      repeat (first | exact mj_Fr.rf | exact (by assumption) | refine mj_Fr.up ?_ (by omega) (by omega))
    · repeat (first | exact mj_Fr.rf | exact (by assumption) | refine mj_Fr.up ?_ (by omega) (by omega))
  have key49 : ∀ (j i : Nat) (f1 : Nat → Nat → Int32), i + j = rc → f1 p 2 = nI lc → f1 p 3 = nI rc → (∀ i, i < lc → LN f1 (p + 2 + i) (ls i)) → (∀ k, k < i → RN f1 (p + 7 + 5 * k) (rs k)) → mj_Fr p (p + 47) f f1 → mj_W m_X1_become (d + 3) 0 0 (fun v h1 => v = none ∧ ∃ f1, h1 = (n, K, f1, g) ∧ MN f1 p (lc, rc, mu, ls, rs) ∧ mj_Fr p (p + 47) f f1) 49 [.ref p, .ref m, .int (nI i)] [] (n, K, f1, g) := by
    intro j
    induction j with
    | zero =>
      intro i f1 hi h2 h3 hl hr hF
      have hi : i = rc := by omega
      subst hi
      refine mj_iload_n (i := 2) (q := 50) dX1_become_49 rfl rfl rfl ?_
      refine mj_aload_n (i := 0) (q := 51) dX1_become_50 rfl rfl rfl ?_
      refine mj_getfv (q := 54) dX1_become_51 fl_X1_42 rfl rfl (by assumption) (by assumption) ?_
      refine mj_icmp_ge (tgt := 78) (q := 57) dX1_become_54 (by decide) rfl (fun c_54 => ?_) (fun c_54 => absurd (Int32.le_refl _) c_54)
      exact key78 f1 _ h2 h3 hl hr hF
    | succ j ih =>
      intro i f1 hi h2 h3 hl hr hF
      have hi2 : i < rc := by omega
      have hg_i : g (m + 6) i = some (m + 7 + 5 * i) := (hLr i (by omega)).1
      have hL_i := (hLr i (by omega)).2
      have kr_i : K (m + 7 + 5 * i) = (2, 2, 0) := hL_i.1
      have gr_i : g (m + 7 + 5 * i) 0 = some ((m + 7 + 5 * i) + 1) := hL_i.2.1
      have ks_i : K ((m + 7 + 5 * i) + 1) = (2, 3, 0) := hL_i.2.2.1
      have hR_i := n7 i (by omega)
      have hgp : g (p + 6) i = some (p + 7 + 5 * i) := (pLr i (by omega)).1
      have hLp := (pLr i (by omega)).2
      have krp : K (p + 7 + 5 * i) = (2, 2, 0) := hLp.1
      have hR1 := hR_i.keep hF (by omega)
      refine mj_iload_n (i := 2) (q := 50) dX1_become_49 rfl rfl rfl ?_
      refine mj_aload_n (i := 0) (q := 51) dX1_become_50 rfl rfl rfl ?_
      refine mj_getfv (q := 54) dX1_become_51 fl_X1_42 rfl rfl (by assumption) (by assumption) ?_
      refine mj_icmp_ge (tgt := 78) (q := 57) dX1_become_54 (by decide) rfl (fun c_54 => absurd c_54 (nI_ge (a := i) (b := rc) (by omega) (by omega))) (fun c_54 => ?_)
      refine mj_aload_n (i := 0) (q := 58) dX1_become_57 rfl rfl rfl ?_
      refine mj_getr (q := 61) dX1_become_58 fl_X1_20 rfl rfl (by assumption) (by assumption) ?_
      refine mj_iload_n (i := 2) (q := 62) dX1_become_61 rfl rfl rfl ?_
      refine mj_aaldn (q := 63) dX1_become_62 rfl (by assumption) ⟨by omega, by omega⟩ (by assumption) ?_
      refine mj_aload_n (i := 1) (q := 64) dX1_become_63 rfl rfl rfl ?_
      refine mj_getr (q := 67) dX1_become_64 fl_X1_20 rfl rfl (by assumption) (by assumption) ?_
      refine mj_iload_n (i := 2) (q := 68) dX1_become_67 rfl rfl rfl ?_
      refine mj_aaldn (q := 69) dX1_become_68 rfl (by assumption) ⟨by omega, by omega⟩ (by assumption) ?_
      refine mj_cV1v (K := m_X2_become) (q := 72) dX1_become_69 ln_X1_45 ok_X2_become (Nat.le_of_ble_eq_true rfl) (by decide) (by assumption) rfl rfl (s_runBecome hLp hL_i (by omega) hR1) (fun h1 hq => ?_)
      obtain ⟨f2, rfl, hR2, hF2⟩ := hq
      refine mj_iinc (i := 2) (q := 75) dX1_become_72 rfl rfl (by decide) rfl ?_
      dsimp only [List.set]
      refine mj_goto (q := 49) dX1_become_75 (by decide) ?_
      rw [show nI i + Int32.ofInt 1 = nI (i + 1) from nI_1 i]
      refine ih (i + 1) f2 (by omega) (by rw [hF2 p (by omega)]; exact h2) (by rw [hF2 p (by omega)]; exact h3) (fun k hk => (hl k hk).keep hF2 (by omega)) (fun k hk => ?_) (hF.tr (hF2.wide (by omega) (by omega)))
      by_cases hki : k = i
      · subst hki; exact hR2
      · exact (hr k (by omega)).keep hF2 (by omega)
  have key10 : ∀ (j i : Nat) (f1 : Nat → Nat → Int32), i + j = lc → f1 p 2 = nI lc → (∀ k, k < i → LN f1 (p + 2 + k) (ls k)) → mj_Fr p (p + 47) f f1 → mj_W m_X1_become (d + 3) 0 0 (fun v h1 => v = none ∧ ∃ f1, h1 = (n, K, f1, g) ∧ MN f1 p (lc, rc, mu, ls, rs) ∧ mj_Fr p (p + 47) f f1) 10 [.ref p, .ref m, .int (nI i)] [] (n, K, f1, g) := by
    intro j
    induction j with
    | zero =>
      intro i f1 hi h2 hl hF
      have hi : i = lc := by omega
      subst hi
      have a3 : f1 m 3 = nI rc := by rw [hF m (by omega)]; exact n4
      refine mj_iload_n (i := 2) (q := 11) dX1_become_10 rfl rfl rfl ?_
      refine mj_aload_n (i := 0) (q := 12) dX1_become_11 rfl rfl rfl ?_
      refine mj_getfv (q := 15) dX1_become_12 fl_X1_35 rfl rfl (by assumption) (by assumption) ?_
      refine mj_icmp_ge (tgt := 39) (q := 18) dX1_become_15 (by decide) rfl (fun c_15 => ?_) (fun c_15 => absurd (Int32.le_refl _) c_15)
      refine mj_aload_n (i := 0) (q := 40) dX1_become_39 rfl rfl rfl ?_
      refine mj_aload_n (i := 1) (q := 41) dX1_become_40 rfl rfl rfl ?_
      refine mj_getfv (q := 44) dX1_become_41 fl_X1_42 rfl rfl (by assumption) (by assumption) ?_
      refine mj_putf (q := 47) dX1_become_44 fl_X1_42 rfl rfl (by assumption) rfl rfl rfl ?_
      refine mj_num1 (v := nI 0) (q := 48) (by decide) dX1_become_47 rfl ?_
      refine mj_istore_n (i := 2) (q := 49) dX1_become_48 rfl rfl (by decide) rfl ?_
      dsimp only [List.set]
      exact key49 rc 0 _ (by omega) (by rw [mj_up, if_neg (by omega)]; exact h2) mj_upe (fun k hk => (hl k hk).keep (lo := p) (hi := p + 1) (mj_Fr.up mj_Fr.rf (by omega) (by omega)) (by omega)) (fun k hk => absurd hk (Nat.not_lt_zero k)) (mj_Fr.up hF (by omega) (by omega))
    | succ j ih =>
      intro i f1 hi h2 hl hF
      have hi2 : i < lc := by omega
      have hl_i : g (m + 1) i = some (m + 2 + i) := (hLl i (by omega)).1
      have kl_i : K (m + 2 + i) = (2, 0, 0) := (hLl i (by omega)).2
      have hN_i := n6 i (by omega)
      have hgp : g (p + 1) i = some (p + 2 + i) := (pLl i (by omega)).1
      have klp : K (p + 2 + i) = (2, 0, 0) := (pLl i (by omega)).2
      have hN1 := hN_i.keep hF (by omega)
      refine mj_iload_n (i := 2) (q := 11) dX1_become_10 rfl rfl rfl ?_
      refine mj_aload_n (i := 0) (q := 12) dX1_become_11 rfl rfl rfl ?_
      refine mj_getfv (q := 15) dX1_become_12 fl_X1_35 rfl rfl (by assumption) (by assumption) ?_
      refine mj_icmp_ge (tgt := 39) (q := 18) dX1_become_15 (by decide) rfl (fun c_15 => absurd c_15 (nI_ge (a := i) (b := lc) (by omega) (by omega))) (fun c_15 => ?_)
      refine mj_aload_n (i := 0) (q := 19) dX1_become_18 rfl rfl rfl ?_
      refine mj_getr (q := 22) dX1_become_19 fl_X1_11 rfl rfl (by assumption) (by assumption) ?_
      refine mj_iload_n (i := 2) (q := 23) dX1_become_22 rfl rfl rfl ?_
      refine mj_aaldn (q := 24) dX1_become_23 rfl (by assumption) ⟨by omega, by omega⟩ (by assumption) ?_
      refine mj_aload_n (i := 1) (q := 25) dX1_become_24 rfl rfl rfl ?_
      refine mj_getr (q := 28) dX1_become_25 fl_X1_11 rfl rfl (by assumption) (by assumption) ?_
      refine mj_iload_n (i := 2) (q := 29) dX1_become_28 rfl rfl rfl ?_
      refine mj_aaldn (q := 30) dX1_become_29 rfl (by assumption) ⟨by omega, by omega⟩ (by assumption) ?_
      refine mj_cV1v (K := m_X0_become) (q := 33) dX1_become_30 ln_X1_38 ok_X0_become (Nat.le_of_ble_eq_true rfl) (by decide) (by assumption) rfl rfl (s_liftBecome klp kl_i (by omega) hN1) (fun h1 hq => ?_)
      obtain ⟨f2, rfl, hN3, hF2⟩ := hq
      refine mj_iinc (i := 2) (q := 36) dX1_become_33 rfl rfl (by decide) rfl ?_
      dsimp only [List.set]
      refine mj_goto (q := 10) dX1_become_36 (by decide) ?_
      rw [show nI i + Int32.ofInt 1 = nI (i + 1) from nI_1 i]
      refine ih (i + 1) f2 (by omega) (by rw [hF2 p (by omega)]; exact h2) (fun k hk => ?_) (hF.tr (hF2.wide (by omega) (by omega)))
      by_cases hki : k = i
      · subst hki; exact hN3
      · exact (hl k (by omega)).keep hF2 (by omega)
  refine mj_entry (by refine ⟨by decide +kernel, by decide, rfl, Nat.le_of_ble_eq_true rfl⟩) ?_
  show mj_W _ _ _ _ _ 0 [.ref p, .ref m, .null] [] _
  refine mj_aload_n (i := 0) (q := 1) dX1_become_0 rfl rfl rfl ?_
  refine mj_aload_n (i := 1) (q := 2) dX1_become_1 rfl rfl rfl ?_
  refine mj_getfv (q := 5) dX1_become_2 fl_X1_35 rfl rfl (by assumption) (by assumption) ?_
  refine mj_putf (q := 8) dX1_become_5 fl_X1_35 rfl rfl (by assumption) rfl rfl rfl ?_
  refine mj_num1 (v := nI 0) (q := 9) (by decide) dX1_become_8 rfl ?_
  refine mj_istore_n (i := 2) (q := 10) dX1_become_9 rfl rfl (by decide) rfl ?_
  dsimp only [List.set]
  exact key10 lc 0 _ (by omega) mj_upe (fun k hk => absurd hk (Nat.not_lt_zero k)) (mj_Fr.up mj_Fr.rf (by omega) (by omega))
end
