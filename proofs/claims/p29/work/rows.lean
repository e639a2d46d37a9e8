section
-- ===== PART A: goes FIRST, ahead of the names: the tables' words, and 'selects' of the private methods out of them =====
/-- a private method of a class that the tables say can be made, by its rows of tables_1 -/
def lw_okq (q : MethodName × Nat) : Prop := (q.1.cls ≠ "java/lang/invoke/MethodHandle" ∧ q.1.cls ≠ "java/lang/invoke/VarHandle") ∧ Cond.instantiable q.1.cls q.2 ∈ tables_1 ∧ Cond.privateMethod q.1 ∈ tables_1 ∧ Cond.instanceMethod q.1 ∈ tables_1
theorem lw_p0 : lw_okq (⟨"java/lang/Throwable", "fillInStackTrace", "(I)Ljava/lang/Throwable;"⟩, 6) := ⟨⟨by decide +kernel, by decide +kernel⟩, List.mem_of_getElem? (i := 339) (by decide +kernel), List.mem_of_getElem? (i := 337) (by decide +kernel), List.mem_of_getElem? (i := 338) (by decide +kernel)⟩
theorem lw_p1 : lw_okq (⟨"Pistekeeper", "requireLift", "(I)V"⟩, 4) := ⟨⟨by decide +kernel, by decide +kernel⟩, List.mem_of_getElem? (i := 18) (by decide +kernel), List.mem_of_getElem? (i := 389) (by decide +kernel), List.mem_of_getElem? (i := 390) (by decide +kernel)⟩
theorem lw_p2 : lw_okq (⟨"Pistekeeper", "requireRun", "(I)V"⟩, 4) := ⟨⟨by decide +kernel, by decide +kernel⟩, List.mem_of_getElem? (i := 18) (by decide +kernel), List.mem_of_getElem? (i := 418) (by decide +kernel), List.mem_of_getElem? (i := 419) (by decide +kernel)⟩
theorem lw_p3 : lw_okq (⟨"Pistekeeper", "requireClosed", "(I)V"⟩, 4) := ⟨⟨by decide +kernel, by decide +kernel⟩, List.mem_of_getElem? (i := 18) (by decide +kernel), List.mem_of_getElem? (i := 438) (by decide +kernel), List.mem_of_getElem? (i := 439) (by decide +kernel)⟩
theorem lw_p4 : lw_okq (⟨"Pistekeeper", "digestLayers", "(JI)J"⟩, 4) := ⟨⟨by decide +kernel, by decide +kernel⟩, List.mem_of_getElem? (i := 18) (by decide +kernel), List.mem_of_getElem? (i := 592) (by decide +kernel), List.mem_of_getElem? (i := 593) (by decide +kernel)⟩
def lw_privs_1 : List (MethodName × Nat) := [(⟨"java/lang/Throwable", "fillInStackTrace", "(I)Ljava/lang/Throwable;"⟩, 6), (⟨"Pistekeeper", "requireLift", "(I)V"⟩, 4), (⟨"Pistekeeper", "requireRun", "(I)V"⟩, 4), (⟨"Pistekeeper", "requireClosed", "(I)V"⟩, 4), (⟨"Pistekeeper", "digestLayers", "(JI)J"⟩, 4)]
theorem lw_r1 : ∀ q ∈ lw_privs_1, lw_okq q := List.forall_mem_cons.mpr ⟨lw_p0, List.forall_mem_cons.mpr ⟨lw_p1, List.forall_mem_cons.mpr ⟨lw_p2, List.forall_mem_cons.mpr ⟨lw_p3, List.forall_mem_cons.mpr ⟨lw_p4, fun _ h => absurd h List.not_mem_nil⟩⟩⟩⟩⟩
def lw_privs : List (MethodName × Nat) := lw_privs_1
def lw_tbl : List Cond := k2_sels lw_privs ++ tables_1
theorem lw_privs_ok : ∀ q ∈ lw_privs, lw_okq q := lw_r1
/-- the streams that the claim lets the run draw from -/
abbrev lw_cs : List Choice := [Jvm.Choice.named "NaN.bits", Jvm.Choice.named "NaN.copy"]
theorem lw_bits : nanBits ∈ lw_cs := by first | decide | exact List.mem_cons_self | simp [lw_cs, nanBits]
def RX0 : String := "Pistekeeper$Lift"
def TX0 : u_T := fun k => match k with
  | 0 => ("Pistekeeper$Lift", "capacity", "I", false)
  | 1 => ("Pistekeeper$Lift", "limit", "I", false)
  | 2 => ("Pistekeeper$Lift", "isOn", "Z", false)
  | 3 => ("Pistekeeper$Lift", "isHeld", "Z", false)
  | _ => ("Pistekeeper$Lift", "rides", "I", false)
def tyX0 : Nat → FieldType := fun k => match k with
  | 0 => .int
  | 1 => .int
  | 2 => .boolean
  | 3 => .boolean
  | _ => .int
abbrev wsX00 : List Cond := u_ws RX0 TX0 5
theorem nmX0 : ∀ a, a < 5 → ∀ b, b < 5 → a ≠ b → (TX0 a).2.1 ≠ (TX0 b).2.1 := by decide +kernel
theorem tyX0_ok : ∀ k, k < 5 → parseFieldDescriptor (TX0 k).2.2.1 = some (tyX0 k) := by decide +kernel
abbrev cX0_init : ByteArray := prog_2_method_1_code
def yX0_init : MethodName := ⟨RX0, "<init>", "()V"⟩
abbrev cX0_become : ByteArray := prog_2_method_2_code
def yX0_become : MethodName := ⟨RX0, "become", "(LPistekeeper$Lift;)V"⟩
abbrev cX0_isMoving : ByteArray := prog_2_method_3_code
def yX0_isMoving : MethodName := ⟨RX0, "isMoving", "()Z"⟩
def RX1 : String := "Pistekeeper$Mountain"
def TX1 : u_T := fun k => match k with
  | 0 => ("Pistekeeper$Mountain", "lifts", "[LPistekeeper$Lift;", true)
  | 1 => ("Pistekeeper$Mountain", "runs", "[LPistekeeper$Run;", true)
  | 2 => ("Pistekeeper$Mountain", "liftCount", "I", false)
  | 3 => ("Pistekeeper$Mountain", "runCount", "I", false)
  | 4 => ("Pistekeeper$Mountain", "now", "I", false)
  | 5 => ("Pistekeeper$Mountain", "latestWind", "I", false)
  | 6 => ("Pistekeeper$Mountain", "water", "I", false)
  | 7 => ("Pistekeeper$Mountain", "charges", "I", false)
  | 8 => ("Pistekeeper$Mountain", "fuel", "I", false)
  | 9 => ("Pistekeeper$Mountain", "skiers", "I", false)
  | 10 => ("Pistekeeper$Mountain", "slides", "I", false)
  | 11 => ("Pistekeeper$Mountain", "reached", "I", false)
  | 12 => ("Pistekeeper$Mountain", "accidents", "I", false)
  | 13 => ("Pistekeeper$Mountain", "calls", "I", false)
  | 14 => ("Pistekeeper$Mountain", "rides", "I", false)
  | _ => ("Pistekeeper$Mountain", "waited", "I", false)
def tyX1 : Nat → FieldType := fun k => match k with
  | 0 => .array (.object "Pistekeeper$Lift")
  | 1 => .array (.object "Pistekeeper$Run")
  | 2 => .int
  | 3 => .int
  | 4 => .int
  | 5 => .int
  | 6 => .int
  | 7 => .int
  | 8 => .int
  | 9 => .int
  | 10 => .int
  | 11 => .int
  | 12 => .int
  | 13 => .int
  | 14 => .int
  | _ => .int
abbrev wsX10 : List Cond := u_ws RX1 TX1 16
theorem nmX1 : ∀ a, a < 16 → ∀ b, b < 16 → a ≠ b → (TX1 a).2.1 ≠ (TX1 b).2.1 := by decide +kernel
theorem tyX1_ok : ∀ k, k < 16 → parseFieldDescriptor (TX1 k).2.2.1 = some (tyX1 k) := by decide +kernel
abbrev cX1_init : ByteArray := prog_3_method_1_code
def yX1_init : MethodName := ⟨RX1, "<init>", "()V"⟩
abbrev cX1_become : ByteArray := prog_3_method_2_code
def yX1_become : MethodName := ⟨RX1, "become", "(LPistekeeper$Mountain;)V"⟩
abbrev cX1_removeGuns : ByteArray := prog_3_method_3_code
def yX1_removeGuns : MethodName := ⟨RX1, "removeGuns", "()V"⟩
abbrev cX1_clock : ByteArray := prog_3_method_4_code
def yX1_clock : MethodName := ⟨RX1, "clock", "()I"⟩
abbrev cX1_openRuns : ByteArray := prog_3_method_5_code
def yX1_openRuns : MethodName := ⟨RX1, "openRuns", "()I"⟩
abbrev cX1_openRunsOf : ByteArray := prog_3_method_6_code
def yX1_openRunsOf : MethodName := ⟨RX1, "openRunsOf", "(I)I"⟩
abbrev cX1_depthByArea : ByteArray := prog_3_method_7_code
def yX1_depthByArea : MethodName := ⟨RX1, "depthByArea", "()I"⟩
abbrev cX1_wholeArea : ByteArray := prog_3_method_8_code
def yX1_wholeArea : MethodName := ⟨RX1, "wholeArea", "()I"⟩
abbrev cX1_isTested : ByteArray := prog_3_method_9_code
def yX1_isTested : MethodName := ⟨RX1, "isTested", "(LPistekeeper$Run;)Z"⟩
abbrev cX1_wouldTell : ByteArray := prog_3_method_10_code
def yX1_wouldTell : MethodName := ⟨RX1, "wouldTell", "(ILPistekeeper$Run;)I"⟩
abbrev cX1_barNow : ByteArray := prog_3_method_11_code
def yX1_barNow : MethodName := ⟨RX1, "barNow", "(LPistekeeper$Run;)I"⟩
abbrev cX1_bar : ByteArray := prog_3_method_12_code
def yX1_bar : MethodName := ⟨RX1, "bar", "(LPistekeeper$Run;ZIZ)I"⟩
abbrev cX1_slideOn : ByteArray := prog_3_method_13_code
def yX1_slideOn : MethodName := ⟨RX1, "slideOn", "(LPistekeeper$Run;)I"⟩
abbrev cX1_passHour : ByteArray := prog_3_method_14_code
def yX1_passHour : MethodName := ⟨RX1, "passHour", "(LPistekeeper$Weather;)V"⟩
abbrev cX1_holdLifts : ByteArray := prog_3_method_15_code
def yX1_holdLifts : MethodName := ⟨RX1, "holdLifts", "(I)V"⟩
abbrev cX1_makeSnow : ByteArray := prog_3_method_16_code
def yX1_makeSnow : MethodName := ⟨RX1, "makeSnow", "(LPistekeeper$Run;I)V"⟩
abbrev cX1_carrySkiers : ByteArray := prog_3_method_17_code
def yX1_carrySkiers : MethodName := ⟨RX1, "carrySkiers", "()V"⟩
abbrev cX1_shareOut : ByteArray := prog_3_method_18_code
def yX1_shareOut : MethodName := ⟨RX1, "shareOut", "(III)V"⟩
abbrev cX1_skiOn : ByteArray := prog_3_method_19_code
def yX1_skiOn : MethodName := ⟨RX1, "skiOn", "(LPistekeeper$Run;I)V"⟩
def RX2 : String := "Pistekeeper$Run"
def TX2 : u_T := fun k => match k with
  | 0 => ("Pistekeeper$Run", "snow", "LPistekeeper$Snow;", true)
  | 1 => ("Pistekeeper$Run", "lift", "I", false)
  | 2 => ("Pistekeeper$Run", "height", "I", false)
  | 3 => ("Pistekeeper$Run", "slope", "I", false)
  | 4 => ("Pistekeeper$Run", "aspect", "I", false)
  | 5 => ("Pistekeeper$Run", "area", "I", false)
  | 6 => ("Pistekeeper$Run", "guns", "I", false)
  | 7 => ("Pistekeeper$Run", "heap", "I", false)
  | 8 => ("Pistekeeper$Run", "used", "I", false)
  | 9 => ("Pistekeeper$Run", "slides", "I", false)
  | 10 => ("Pistekeeper$Run", "duds", "I", false)
  | 11 => ("Pistekeeper$Run", "told", "I", false)
  | 12 => ("Pistekeeper$Run", "testedUntil", "I", false)
  | 13 => ("Pistekeeper$Run", "openSince", "I", false)
  | 14 => ("Pistekeeper$Run", "latestRisk", "I", false)
  | 15 => ("Pistekeeper$Run", "isOpen", "Z", false)
  | 16 => ("Pistekeeper$Run", "isWinched", "Z", false)
  | _ => ("Pistekeeper$Run", "isSwept", "Z", false)
def tyX2 : Nat → FieldType := fun k => match k with
  | 0 => .object "Pistekeeper$Snow"
  | 1 => .int
  | 2 => .int
  | 3 => .int
  | 4 => .int
  | 5 => .int
  | 6 => .int
  | 7 => .int
  | 8 => .int
  | 9 => .int
  | 10 => .int
  | 11 => .int
  | 12 => .int
  | 13 => .int
  | 14 => .int
  | 15 => .boolean
  | 16 => .boolean
  | _ => .boolean
abbrev wsX20 : List Cond := u_ws RX2 TX2 18
theorem nmX2 : ∀ a, a < 18 → ∀ b, b < 18 → a ≠ b → (TX2 a).2.1 ≠ (TX2 b).2.1 := by decide +kernel
theorem tyX2_ok : ∀ k, k < 18 → parseFieldDescriptor (TX2 k).2.2.1 = some (tyX2 k) := by decide +kernel
abbrev cX2_init : ByteArray := prog_4_method_1_code
def yX2_init : MethodName := ⟨RX2, "<init>", "()V"⟩
abbrev cX2_become : ByteArray := prog_4_method_2_code
def yX2_become : MethodName := ⟨RX2, "become", "(LPistekeeper$Run;)V"⟩
abbrev cX2_risk : ByteArray := prog_4_method_3_code
def yX2_risk : MethodName := ⟨RX2, "risk", "()I"⟩
abbrev cX2_shear : ByteArray := prog_4_method_4_code
def yX2_shear : MethodName := ⟨RX2, "shear", "()I"⟩
abbrev cX2_sizeFrom : ByteArray := prog_4_method_5_code
def yX2_sizeFrom : MethodName := ⟨RX2, "sizeFrom", "(I)I"⟩
abbrev cX2_weatherSnow : ByteArray := prog_4_method_6_code
def yX2_weatherSnow : MethodName := ⟨RX2, "weatherSnow", "(LPistekeeper$Weather;II)V"⟩
def RX3 : String := "Pistekeeper$Snow"
def TX3 : u_T := fun k => match k with
  | 0 => ("Pistekeeper$Snow", "depth", "[I", true)
  | 1 => ("Pistekeeper$Snow", "hardness", "[I", true)
  | 2 => ("Pistekeeper$Snow", "kind", "[I", true)
  | 3 => ("Pistekeeper$Snow", "count", "I", false)
  | 4 => ("Pistekeeper$Snow", "isWet", "Z", false)
  | _ => ("Pistekeeper$Snow", "hasSnowed", "Z", false)
def tyX3 : Nat → FieldType := fun k => match k with
  | 0 => .array .int
  | 1 => .array .int
  | 2 => .array .int
  | 3 => .int
  | 4 => .boolean
  | _ => .boolean
abbrev wsX30 : List Cond := u_ws RX3 TX3 6
theorem nmX3 : ∀ a, a < 6 → ∀ b, b < 6 → a ≠ b → (TX3 a).2.1 ≠ (TX3 b).2.1 := by decide +kernel
theorem tyX3_ok : ∀ k, k < 6 → parseFieldDescriptor (TX3 k).2.2.1 = some (tyX3 k) := by decide +kernel
abbrev cX3_init : ByteArray := prog_5_method_1_code
def yX3_init : MethodName := ⟨RX3, "<init>", "()V"⟩
abbrev cX3_become : ByteArray := prog_5_method_2_code
def yX3_become : MethodName := ⟨RX3, "become", "(LPistekeeper$Snow;)V"⟩
abbrev cX3_topIs : ByteArray := prog_5_method_3_code
def yX3_topIs : MethodName := ⟨RX3, "topIs", "(I)Z"⟩
abbrev cX3_wholeDepth : ByteArray := prog_5_method_4_code
def yX3_wholeDepth : MethodName := ⟨RX3, "wholeDepth", "()I"⟩
abbrev cX3_depthFrom : ByteArray := prog_5_method_5_code
def yX3_depthFrom : MethodName := ⟨RX3, "depthFrom", "(I)I"⟩
abbrev cX3_thicken : ByteArray := prog_5_method_6_code
def yX3_thicken : MethodName := ⟨RX3, "thicken", "(I)V"⟩
abbrev cX3_thin : ByteArray := prog_5_method_7_code
def yX3_thin : MethodName := ⟨RX3, "thin", "(I)V"⟩
abbrev cX3_melt : ByteArray := prog_5_method_8_code
def yX3_melt : MethodName := ⟨RX3, "melt", "(I)V"⟩
abbrev cX3_lay : ByteArray := prog_5_method_9_code
def yX3_lay : MethodName := ⟨RX3, "lay", "(III)V"⟩
abbrev cX3_joinLowest : ByteArray := prog_5_method_10_code
def yX3_joinLowest : MethodName := ⟨RX3, "joinLowest", "()V"⟩
abbrev cX3_changeTop : ByteArray := prog_5_method_11_code
def yX3_changeTop : MethodName := ⟨RX3, "changeTop", "(II)V"⟩
abbrev cX3_pressTop : ByteArray := prog_5_method_12_code
def yX3_pressTop : MethodName := ⟨RX3, "pressTop", "()I"⟩
abbrev cX3_stress : ByteArray := prog_5_method_13_code
def yX3_stress : MethodName := ⟨RX3, "stress", "(III)I"⟩
abbrev cX3_shear : ByteArray := prog_5_method_14_code
def yX3_shear : MethodName := ⟨RX3, "shear", "(I)I"⟩
abbrev cX3_risk : ByteArray := prog_5_method_15_code
def yX3_risk : MethodName := ⟨RX3, "risk", "(I)I"⟩
abbrev cX3_dropFrom : ByteArray := prog_5_method_16_code
def yX3_dropFrom : MethodName := ⟨RX3, "dropFrom", "(I)V"⟩
abbrev cX3_comeDown : ByteArray := prog_5_method_17_code
def yX3_comeDown : MethodName := ⟨RX3, "comeDown", "(II)V"⟩
abbrev cX3_drift : ByteArray := prog_5_method_18_code
def yX3_drift : MethodName := ⟨RX3, "drift", "(IZZ)V"⟩
abbrev cX3_freeze : ByteArray := prog_5_method_19_code
def yX3_freeze : MethodName := ⟨RX3, "freeze", "()V"⟩
abbrev cX3_growWeak : ByteArray := prog_5_method_20_code
def yX3_growWeak : MethodName := ⟨RX3, "growWeak", "()V"⟩
abbrev cX3_settle : ByteArray := prog_5_method_21_code
def yX3_settle : MethodName := ⟨RX3, "settle", "(Z)V"⟩
def RX4 : String := "Pistekeeper$Weather"
def TX4 : u_T := fun k => match k with
  | 0 => ("Pistekeeper$Weather", "warmth", "I", false)
  | 1 => ("Pistekeeper$Weather", "fall", "I", false)
  | 2 => ("Pistekeeper$Weather", "wind", "I", false)
  | 3 => ("Pistekeeper$Weather", "from", "I", false)
  | _ => ("Pistekeeper$Weather", "humid", "I", false)
def tyX4 : Nat → FieldType := fun k => match k with
  | 0 => .int
  | 1 => .int
  | 2 => .int
  | 3 => .int
  | _ => .int
abbrev wsX40 : List Cond := u_ws RX4 TX4 5
theorem nmX4 : ∀ a, a < 5 → ∀ b, b < 5 → a ≠ b → (TX4 a).2.1 ≠ (TX4 b).2.1 := by decide +kernel
theorem tyX4_ok : ∀ k, k < 5 → parseFieldDescriptor (TX4 k).2.2.1 = some (tyX4 k) := by decide +kernel
abbrev cX4_init : ByteArray := prog_6_method_1_code
def yX4_init : MethodName := ⟨RX4, "<init>", "()V"⟩
abbrev cX4_tell : ByteArray := prog_6_method_2_code
def yX4_tell : MethodName := ⟨RX4, "tell", "(IIIII)V"⟩
def RX5 : String := "Pistekeeper"
def TX5 : u_T := fun k => match k with
  | 0 => ("Pistekeeper", "mountain", "LPistekeeper$Mountain;", true)
  | 1 => ("Pistekeeper", "trial", "LPistekeeper$Mountain;", true)
  | 2 => ("Pistekeeper", "bare", "LPistekeeper$Mountain;", true)
  | _ => ("Pistekeeper", "weather", "LPistekeeper$Weather;", true)
def tyX5 : Nat → FieldType := fun k => match k with
  | 0 => .object "Pistekeeper$Mountain"
  | 1 => .object "Pistekeeper$Mountain"
  | 2 => .object "Pistekeeper$Mountain"
  | _ => .object "Pistekeeper$Weather"
abbrev wsX50 : List Cond := u_ws RX5 TX5 4
theorem nmX5 : ∀ a, a < 4 → ∀ b, b < 4 → a ≠ b → (TX5 a).2.1 ≠ (TX5 b).2.1 := by decide +kernel
theorem tyX5_ok : ∀ k, k < 4 → parseFieldDescriptor (TX5 k).2.2.1 = some (tyX5 k) := by decide +kernel
abbrev cX5_init : ByteArray := prog_1_method_1_code
def yX5_init : MethodName := ⟨RX5, "<init>", "()V"⟩
abbrev cX5_lift : ByteArray := prog_1_method_2_code
def yX5_lift : MethodName := ⟨RX5, "lift", "(II)I"⟩
abbrev cX5_run : ByteArray := prog_1_method_3_code
def yX5_run : MethodName := ⟨RX5, "run", "(IIIII)I"⟩
abbrev cX5_turn : ByteArray := prog_1_method_4_code
def yX5_turn : MethodName := ⟨RX5, "turn", "(IZ)Z"⟩
abbrev cX5_guns : ByteArray := prog_1_method_6_code
def yX5_guns : MethodName := ⟨RX5, "guns", "(II)I"⟩
abbrev cX5_fill : ByteArray := prog_1_method_7_code
def yX5_fill : MethodName := ⟨RX5, "fill", "(I)I"⟩
abbrev cX5_crowd : ByteArray := prog_1_method_8_code
def yX5_crowd : MethodName := ⟨RX5, "crowd", "(I)I"⟩
abbrev cX5_pass : ByteArray := prog_1_method_9_code
def yX5_pass : MethodName := ⟨RX5, "pass", "(IIIIII)I"⟩
abbrev cX5_blast : ByteArray := prog_1_method_10_code
def yX5_blast : MethodName := ⟨RX5, "blast", "(I)I"⟩
abbrev cX5_search : ByteArray := prog_1_method_11_code
def yX5_search : MethodName := ⟨RX5, "search", "(I)I"⟩
abbrev cX5_test : ByteArray := prog_1_method_12_code
def yX5_test : MethodName := ⟨RX5, "test", "(I)I"⟩
abbrev cX5_sweep : ByteArray := prog_1_method_13_code
def yX5_sweep : MethodName := ⟨RX5, "sweep", "(I)Z"⟩
abbrev cX5_groom : ByteArray := prog_1_method_15_code
def yX5_groom : MethodName := ⟨RX5, "groom", "(I)I"⟩
abbrev cX5_open : ByteArray := prog_1_method_16_code
def yX5_open : MethodName := ⟨RX5, "open", "(I)I"⟩
abbrev cX5_close : ByteArray := prog_1_method_17_code
def yX5_close : MethodName := ⟨RX5, "close", "(I)I"⟩
abbrev cX5_ofRun : ByteArray := prog_1_method_18_code
def yX5_ofRun : MethodName := ⟨RX5, "ofRun", "(II)I"⟩
abbrev cX5_ofLayer : ByteArray := prog_1_method_19_code
def yX5_ofLayer : MethodName := ⟨RX5, "ofLayer", "(III)I"⟩
abbrev cX5_ofLift : ByteArray := prog_1_method_20_code
def yX5_ofLift : MethodName := ⟨RX5, "ofLift", "(II)I"⟩
abbrev cX5_many : ByteArray := prog_1_method_21_code
def yX5_many : MethodName := ⟨RX5, "many", "(I)I"⟩
abbrev cX5_meanDepth : ByteArray := prog_1_method_22_code
def yX5_meanDepth : MethodName := ⟨RX5, "meanDepth", "()D"⟩
abbrev cX5_wouldRisk : ByteArray := prog_1_method_23_code
def yX5_wouldRisk : MethodName := ⟨RX5, "wouldRisk", "(IIII)I"⟩
abbrev cX5_wouldMake : ByteArray := prog_1_method_24_code
def yX5_wouldMake : MethodName := ⟨RX5, "wouldMake", "(IIII)I"⟩
abbrev cX5_nextBlast : ByteArray := prog_1_method_25_code
def yX5_nextBlast : MethodName := ⟨RX5, "nextBlast", "()I"⟩
abbrev cX5_couldOpen : ByteArray := prog_1_method_26_code
def yX5_couldOpen : MethodName := ⟨RX5, "couldOpen", "()I"⟩
abbrev cX5_digest : ByteArray := prog_1_method_27_code
def yX5_digest : MethodName := ⟨RX5, "digest", "()J"⟩
abbrev cX5_digestLayers : ByteArray := prog_1_method_28_code
def yX5_digestLayers : MethodName := ⟨RX5, "digestLayers", "(JI)J"⟩
abbrev cX5_oneIf : ByteArray := prog_1_method_29_code
def yX5_oneIf : MethodName := ⟨RX5, "oneIf", "(Z)I"⟩
abbrev cX5_requireWithin : ByteArray := prog_1_method_30_code
def yX5_requireWithin : MethodName := ⟨RX5, "requireWithin", "(III)V"⟩
abbrev cX5_requireLift : ByteArray := prog_1_method_31_code
def yX5_requireLift : MethodName := ⟨RX5, "requireLift", "(I)V"⟩
abbrev cX5_requireRun : ByteArray := prog_1_method_32_code
def yX5_requireRun : MethodName := ⟨RX5, "requireRun", "(I)V"⟩
abbrev cX5_requireClosed : ByteArray := prog_1_method_33_code
def yX5_requireClosed : MethodName := ⟨RX5, "requireClosed", "(I)V"⟩
def RX6 : String := "PistekeeperModel$Mountain"
def TX6 : u_T := fun k => match k with
  | _ => ("", "", "", false)
def tyX6 : Nat → FieldType := fun k => match k with
  | _ => .int
abbrev wsX60 : List Cond := u_ws RX6 TX6 0
theorem nmX6 : ∀ a, a < 0 → ∀ b, b < 0 → a ≠ b → (TX6 a).2.1 ≠ (TX6 b).2.1 := by decide +kernel
theorem tyX6_ok : ∀ k, k < 0 → parseFieldDescriptor (TX6 k).2.2.1 = some (tyX6 k) := by decide +kernel
def RX7 : String := "PistekeeperModel"
def TX7 : u_T := fun k => match k with
  | _ => ("", "", "", false)
def tyX7 : Nat → FieldType := fun k => match k with
  | _ => .int
abbrev wsX70 : List Cond := u_ws RX7 TX7 0
theorem nmX7 : ∀ a, a < 0 → ∀ b, b < 0 → a ≠ b → (TX7 a).2.1 ≠ (TX7 b).2.1 := by decide +kernel
theorem tyX7_ok : ∀ k, k < 0 → parseFieldDescriptor (TX7 k).2.2.1 = some (tyX7 k) := by decide +kernel
def RJx145de : String := "java/io/Serializable"
def RJxb160c : String := "java/lang/Comparable"
def RJxe99ae : String := "java/lang/Double"
def RJ9 : String := "java/lang/Math"
abbrev cJ9_abs_0f7a4 : ByteArray := prog_15_method_59_code
def yJ9_abs_0f7a4 : MethodName := ⟨RJ9, "abs", "(I)I"⟩
abbrev cJ9_abs_294c1 : ByteArray := prog_15_method_64_code
def yJ9_abs_294c1 : MethodName := ⟨RJ9, "abs", "(D)D"⟩
abbrev cJ9_max_7cf53 : ByteArray := prog_15_method_65_code
def yJ9_max_7cf53 : MethodName := ⟨RJ9, "max", "(II)I"⟩
abbrev cJ9_min_7cf53 : ByteArray := prog_15_method_69_code
def yJ9_min_7cf53 : MethodName := ⟨RJ9, "min", "(II)I"⟩
def RJxd2413 : String := "java/lang/Number"
def RJ0 : String := "java/lang/String"
def RJ10 : String := "java/lang/System"
def RJxfd54e : String := "java/lang/constant/Constable"
def RJx3cf43 : String := "java/lang/constant/ConstantDesc"
def RL : String := "PistekeeperLaw"
abbrev cL_below : ByteArray := method_2_code
def yL_below : MethodName := ⟨RL, "below", "(II)I"⟩
abbrev cL_cell : ByteArray := method_3_code
def yL_cell : MethodName := ⟨RL, "cell", "([II)I"⟩
abbrev cL_weather : ByteArray := method_4_code
def yL_weather : MethodName := ⟨RL, "weather", "(I)[I"⟩
abbrev cL_pass : ByteArray := method_5_code
def yL_pass : MethodName := ⟨RL, "pass", "(LPistekeeper;I[I)I"⟩
abbrev cL_law : ByteArray := code
def yL_law : MethodName := ⟨RL, "law", "([I)Z"⟩
abbrev cL_isSo : ByteArray := method_7_code
def yL_isSo : MethodName := ⟨RL, "isSo", "(LPistekeeper;II[I)Z"⟩
abbrev vwCl : List vw_C := [(RX0, TX0, 5), (RX1, TX1, 16), (RX2, TX2, 18), (RX3, TX3, 6), (RX4, TX4, 5), (RX5, TX5, 4)]
end
section
/-! tables: which words stand where, fields and methods by number (by program: gen_names.py) -/
def mj_TW : List Cond := lw_tbl.filter goodWord
theorem mj_in {w : Cond} (i : Nat) (h : tables_1[i]? = some w) (hg : goodWord w = true) : w ∈ mj_TW := List.mem_filter.mpr ⟨List.mem_append_right _ (List.mem_of_getElem? h), hg⟩
theorem mj_ip {w : Cond} (i : Nat) (h : (k2_sels lw_privs)[i]? = some w) (hg : goodWord w = true) : w ∈ mj_TW := List.mem_filter.mpr ⟨List.mem_append_left _ (List.mem_of_getElem? h), hg⟩
theorem mj_TWg : ∀ w ∈ mj_TW, goodWord w = true := fun _ h => (List.mem_filter.mp h).2
def mT_C : Nat → String
  | 0 => RX0
  | 1 => RX1
  | 2 => RX2
  | 3 => RX3
  | 4 => RX4
  | _ => RX5
def mT_T : Nat → u_T
  | 0 => TX0
  | 1 => TX1
  | 2 => TX2
  | 3 => TX3
  | 4 => TX4
  | _ => TX5
def mT_N : Nat → Nat
  | 0 => 5
  | 1 => 16
  | 2 => 18
  | 3 => 6
  | 4 => 5
  | _ => 4
def mT_ty : Nat → Nat → FieldType
  | 0 => tyX0
  | 1 => tyX1
  | 2 => tyX2
  | 3 => tyX3
  | 4 => tyX4
  | _ => tyX5
def mj_isR (ty : FieldType) : Bool := match ty with
  | .int => false
  | .boolean => false
  | _ => true
abbrev mT_R (ci k : Nat) : Bool := mj_isR (mT_ty ci k)
theorem mT_at : ∀ ci, ci < 6 → vwCl[ci]? = some (mT_C ci, mT_T ci, mT_N ci)
  | 0, _ => rfl
  | 1, _ => rfl
  | 2, _ => rfl
  | 3, _ => rfl
  | 4, _ => rfl
  | 5, _ => rfl
  | n + 6, h => absurd h (by omega)
theorem mT_nm : ∀ ci, ci < 6 → ∀ a, a < mT_N ci → ∀ b, b < mT_N ci → a ≠ b → (mT_T ci a).2.1 ≠ (mT_T ci b).2.1
  | 0, _ => nmX0
  | 1, _ => nmX1
  | 2, _ => nmX2
  | 3, _ => nmX3
  | 4, _ => nmX4
  | 5, _ => nmX5
  | n + 6, h => absurd h (by omega)
theorem mT_tyok : ∀ ci, ci < 6 → ∀ k, k < mT_N ci → parseFieldDescriptor (mT_T ci k).2.2.1 = some (mT_ty ci k)
  | 0, _ => tyX0_ok
  | 1, _ => tyX1_ok
  | 2, _ => tyX2_ok
  | 3, _ => tyX3_ok
  | 4, _ => tyX4_ok
  | 5, _ => tyX5_ok
  | n + 6, h => absurd h (by omega)
theorem mT_in0 : ∀ w ∈ u_ws RX0 TX0 5, w ∈ mj_TW := by
  intro w hw
  obtain ⟨k, hk, rfl⟩ := List.mem_map.mp hw
  have hk := List.mem_range.mp hk
  match k, hk with
  | 0, _ => exact mj_in 52 (by decide +kernel) rfl
  | 1, _ => exact mj_in 54 (by decide +kernel) rfl
  | 2, _ => exact mj_in 56 (by decide +kernel) rfl
  | 3, _ => exact mj_in 58 (by decide +kernel) rfl
  | 4, _ => exact mj_in 60 (by decide +kernel) rfl
  | n + 5, h => exact absurd h (by omega)
theorem mT_in1 : ∀ w ∈ u_ws RX1 TX1 16, w ∈ mj_TW := by
  intro w hw
  obtain ⟨k, hk, rfl⟩ := List.mem_map.mp hw
  have hk := List.mem_range.mp hk
  match k, hk with
  | 0, _ => exact mj_in 219 (by decide +kernel) rfl
  | 1, _ => exact mj_in 221 (by decide +kernel) rfl
  | 2, _ => exact mj_in 223 (by decide +kernel) rfl
  | 3, _ => exact mj_in 225 (by decide +kernel) rfl
  | 4, _ => exact mj_in 227 (by decide +kernel) rfl
  | 5, _ => exact mj_in 229 (by decide +kernel) rfl
  | 6, _ => exact mj_in 231 (by decide +kernel) rfl
  | 7, _ => exact mj_in 233 (by decide +kernel) rfl
  | 8, _ => exact mj_in 235 (by decide +kernel) rfl
  | 9, _ => exact mj_in 237 (by decide +kernel) rfl
  | 10, _ => exact mj_in 239 (by decide +kernel) rfl
  | 11, _ => exact mj_in 241 (by decide +kernel) rfl
  | 12, _ => exact mj_in 243 (by decide +kernel) rfl
  | 13, _ => exact mj_in 245 (by decide +kernel) rfl
  | 14, _ => exact mj_in 247 (by decide +kernel) rfl
  | 15, _ => exact mj_in 249 (by decide +kernel) rfl
  | n + 16, h => exact absurd h (by omega)
theorem mT_in2 : ∀ w ∈ u_ws RX2 TX2 18, w ∈ mj_TW := by
  intro w hw
  obtain ⟨k, hk, rfl⟩ := List.mem_map.mp hw
  have hk := List.mem_range.mp hk
  match k, hk with
  | 0, _ => exact mj_in 151 (by decide +kernel) rfl
  | 1, _ => exact mj_in 153 (by decide +kernel) rfl
  | 2, _ => exact mj_in 155 (by decide +kernel) rfl
  | 3, _ => exact mj_in 157 (by decide +kernel) rfl
  | 4, _ => exact mj_in 159 (by decide +kernel) rfl
  | 5, _ => exact mj_in 161 (by decide +kernel) rfl
  | 6, _ => exact mj_in 163 (by decide +kernel) rfl
  | 7, _ => exact mj_in 165 (by decide +kernel) rfl
  | 8, _ => exact mj_in 167 (by decide +kernel) rfl
  | 9, _ => exact mj_in 169 (by decide +kernel) rfl
  | 10, _ => exact mj_in 171 (by decide +kernel) rfl
  | 11, _ => exact mj_in 173 (by decide +kernel) rfl
  | 12, _ => exact mj_in 175 (by decide +kernel) rfl
  | 13, _ => exact mj_in 177 (by decide +kernel) rfl
  | 14, _ => exact mj_in 179 (by decide +kernel) rfl
  | 15, _ => exact mj_in 181 (by decide +kernel) rfl
  | 16, _ => exact mj_in 183 (by decide +kernel) rfl
  | 17, _ => exact mj_in 185 (by decide +kernel) rfl
  | n + 18, h => exact absurd h (by omega)
theorem mT_in3 : ∀ w ∈ u_ws RX3 TX3 6, w ∈ mj_TW := by
  intro w hw
  obtain ⟨k, hk, rfl⟩ := List.mem_map.mp hw
  have hk := List.mem_range.mp hk
  match k, hk with
  | 0, _ => exact mj_in 87 (by decide +kernel) rfl
  | 1, _ => exact mj_in 89 (by decide +kernel) rfl
  | 2, _ => exact mj_in 91 (by decide +kernel) rfl
  | 3, _ => exact mj_in 93 (by decide +kernel) rfl
  | 4, _ => exact mj_in 95 (by decide +kernel) rfl
  | 5, _ => exact mj_in 97 (by decide +kernel) rfl
  | n + 6, h => exact absurd h (by omega)
theorem mT_in4 : ∀ w ∈ u_ws RX4 TX4 5, w ∈ mj_TW := by
  intro w hw
  obtain ⟨k, hk, rfl⟩ := List.mem_map.mp hw
  have hk := List.mem_range.mp hk
  match k, hk with
  | 0, _ => exact mj_in 269 (by decide +kernel) rfl
  | 1, _ => exact mj_in 271 (by decide +kernel) rfl
  | 2, _ => exact mj_in 273 (by decide +kernel) rfl
  | 3, _ => exact mj_in 275 (by decide +kernel) rfl
  | 4, _ => exact mj_in 277 (by decide +kernel) rfl
  | n + 5, h => exact absurd h (by omega)
theorem mT_in5 : ∀ w ∈ u_ws RX5 TX5 4, w ∈ mj_TW := by
  intro w hw
  obtain ⟨k, hk, rfl⟩ := List.mem_map.mp hw
  have hk := List.mem_range.mp hk
  match k, hk with
  | 0, _ => exact mj_in 284 (by decide +kernel) rfl
  | 1, _ => exact mj_in 286 (by decide +kernel) rfl
  | 2, _ => exact mj_in 288 (by decide +kernel) rfl
  | 3, _ => exact mj_in 290 (by decide +kernel) rfl
  | n + 4, h => exact absurd h (by omega)
theorem mT_in : ∀ ci, ci < 6 → ∀ w ∈ u_ws (mT_C ci) (mT_T ci) (mT_N ci), w ∈ mj_TW
  | 0, _ => mT_in0
  | 1, _ => mT_in1
  | 2, _ => mT_in2
  | 3, _ => mT_in3
  | 4, _ => mT_in4
  | 5, _ => mT_in5
  | n + 6, h => absurd h (by omega)
/-- a field by its link -/
def mj_okF (own : String) (idx ci sl : Nat) : Prop := ci < 6 ∧ sl < mT_N ci ∧ Cond.fieldLink own idx (mT_T ci sl).1 (mT_T ci sl).2.1 (mT_T ci sl).2.2.1 ∈ mj_TW
theorem fl_X0_7 : mj_okF RX0 7 0 0 := ⟨by decide, by decide, mj_in 38 (by decide +kernel) rfl⟩
theorem fl_X5_48 : mj_okF RX5 48 0 0 := ⟨by decide, by decide, mj_in 39 (by decide +kernel) rfl⟩
theorem fl_X1_214 : mj_okF RX1 214 0 0 := ⟨by decide, by decide, mj_in 40 (by decide +kernel) rfl⟩
theorem fl_X0_13 : mj_okF RX0 13 0 1 := ⟨by decide, by decide, mj_in 41 (by decide +kernel) rfl⟩
theorem fl_X5_53 : mj_okF RX5 53 0 1 := ⟨by decide, by decide, mj_in 42 (by decide +kernel) rfl⟩
theorem fl_X1_188 : mj_okF RX1 188 0 1 := ⟨by decide, by decide, mj_in 43 (by decide +kernel) rfl⟩
theorem fl_X0_16 : mj_okF RX0 16 0 2 := ⟨by decide, by decide, mj_in 44 (by decide +kernel) rfl⟩
theorem fl_X5_86 : mj_okF RX5 86 0 2 := ⟨by decide, by decide, mj_in 45 (by decide +kernel) rfl⟩
theorem fl_X0_20 : mj_okF RX0 20 0 3 := ⟨by decide, by decide, mj_in 46 (by decide +kernel) rfl⟩
theorem fl_X1_191 : mj_okF RX1 191 0 3 := ⟨by decide, by decide, mj_in 47 (by decide +kernel) rfl⟩
theorem fl_X5_95 : mj_okF RX5 95 0 3 := ⟨by decide, by decide, mj_in 48 (by decide +kernel) rfl⟩
theorem fl_X0_23 : mj_okF RX0 23 0 4 := ⟨by decide, by decide, mj_in 49 (by decide +kernel) rfl⟩
theorem fl_X1_217 : mj_okF RX1 217 0 4 := ⟨by decide, by decide, mj_in 50 (by decide +kernel) rfl⟩
theorem fl_X5_241 : mj_okF RX5 241 0 4 := ⟨by decide, by decide, mj_in 51 (by decide +kernel) rfl⟩
theorem fl_X3_9 : mj_okF RX3 9 3 0 := ⟨by decide, by decide, mj_in 76 (by decide +kernel) rfl⟩
theorem fl_X5_231 : mj_okF RX5 231 3 0 := ⟨by decide, by decide, mj_in 77 (by decide +kernel) rfl⟩
theorem fl_X3_15 : mj_okF RX3 15 3 1 := ⟨by decide, by decide, mj_in 78 (by decide +kernel) rfl⟩
theorem fl_X5_235 : mj_okF RX5 235 3 1 := ⟨by decide, by decide, mj_in 79 (by decide +kernel) rfl⟩
theorem fl_X3_18 : mj_okF RX3 18 3 2 := ⟨by decide, by decide, mj_in 80 (by decide +kernel) rfl⟩
theorem fl_X5_238 : mj_okF RX5 238 3 2 := ⟨by decide, by decide, mj_in 81 (by decide +kernel) rfl⟩
theorem fl_X3_27 : mj_okF RX3 27 3 3 := ⟨by decide, by decide, mj_in 82 (by decide +kernel) rfl⟩
theorem fl_X5_176 : mj_okF RX5 176 3 3 := ⟨by decide, by decide, mj_in 83 (by decide +kernel) rfl⟩
theorem fl_X3_31 : mj_okF RX3 31 3 4 := ⟨by decide, by decide, mj_in 84 (by decide +kernel) rfl⟩
theorem fl_X5_205 : mj_okF RX5 205 3 4 := ⟨by decide, by decide, mj_in 85 (by decide +kernel) rfl⟩
theorem fl_X3_35 : mj_okF RX3 35 3 5 := ⟨by decide, by decide, mj_in 86 (by decide +kernel) rfl⟩
theorem fl_X2_12 : mj_okF RX2 12 2 0 := ⟨by decide, by decide, mj_in 101 (by decide +kernel) rfl⟩
theorem fl_X1_89 : mj_okF RX1 89 2 0 := ⟨by decide, by decide, mj_in 102 (by decide +kernel) rfl⟩
theorem fl_X5_169 : mj_okF RX5 169 2 0 := ⟨by decide, by decide, mj_in 103 (by decide +kernel) rfl⟩
theorem fl_X2_26 : mj_okF RX2 26 2 1 := ⟨by decide, by decide, mj_in 104 (by decide +kernel) rfl⟩
theorem fl_X5_69 : mj_okF RX5 69 2 1 := ⟨by decide, by decide, mj_in 105 (by decide +kernel) rfl⟩
theorem fl_X1_86 : mj_okF RX1 86 2 1 := ⟨by decide, by decide, mj_in 106 (by decide +kernel) rfl⟩
theorem fl_X2_29 : mj_okF RX2 29 2 2 := ⟨by decide, by decide, mj_in 107 (by decide +kernel) rfl⟩
theorem fl_X5_74 : mj_okF RX5 74 2 2 := ⟨by decide, by decide, mj_in 108 (by decide +kernel) rfl⟩
theorem fl_X1_158 : mj_okF RX1 158 2 2 := ⟨by decide, by decide, mj_in 109 (by decide +kernel) rfl⟩
theorem fl_X2_32 : mj_okF RX2 32 2 3 := ⟨by decide, by decide, mj_in 110 (by decide +kernel) rfl⟩
theorem fl_X5_77 : mj_okF RX5 77 2 3 := ⟨by decide, by decide, mj_in 111 (by decide +kernel) rfl⟩
theorem fl_X2_35 : mj_okF RX2 35 2 4 := ⟨by decide, by decide, mj_in 112 (by decide +kernel) rfl⟩
theorem fl_X5_80 : mj_okF RX5 80 2 4 := ⟨by decide, by decide, mj_in 113 (by decide +kernel) rfl⟩
theorem fl_X2_38 : mj_okF RX2 38 2 5 := ⟨by decide, by decide, mj_in 114 (by decide +kernel) rfl⟩
theorem fl_X5_83 : mj_okF RX5 83 2 5 := ⟨by decide, by decide, mj_in 115 (by decide +kernel) rfl⟩
theorem fl_X1_99 : mj_okF RX1 99 2 5 := ⟨by decide, by decide, mj_in 116 (by decide +kernel) rfl⟩
theorem fl_X2_41 : mj_okF RX2 41 2 6 := ⟨by decide, by decide, mj_in 117 (by decide +kernel) rfl⟩
theorem fl_X1_75 : mj_okF RX1 75 2 6 := ⟨by decide, by decide, mj_in 118 (by decide +kernel) rfl⟩
theorem fl_X5_101 : mj_okF RX5 101 2 6 := ⟨by decide, by decide, mj_in 119 (by decide +kernel) rfl⟩
theorem fl_X2_44 : mj_okF RX2 44 2 7 := ⟨by decide, by decide, mj_in 120 (by decide +kernel) rfl⟩
theorem fl_X1_197 : mj_okF RX1 197 2 7 := ⟨by decide, by decide, mj_in 121 (by decide +kernel) rfl⟩
theorem fl_X5_219 : mj_okF RX5 219 2 7 := ⟨by decide, by decide, mj_in 122 (by decide +kernel) rfl⟩
theorem fl_X2_47 : mj_okF RX2 47 2 8 := ⟨by decide, by decide, mj_in 123 (by decide +kernel) rfl⟩
theorem fl_X5_222 : mj_okF RX5 222 2 8 := ⟨by decide, by decide, mj_in 124 (by decide +kernel) rfl⟩
theorem fl_X1_224 : mj_okF RX1 224 2 8 := ⟨by decide, by decide, mj_in 125 (by decide +kernel) rfl⟩
theorem fl_X2_50 : mj_okF RX2 50 2 9 := ⟨by decide, by decide, mj_in 126 (by decide +kernel) rfl⟩
theorem fl_X1_149 : mj_okF RX1 149 2 9 := ⟨by decide, by decide, mj_in 127 (by decide +kernel) rfl⟩
theorem fl_X5_225 : mj_okF RX5 225 2 9 := ⟨by decide, by decide, mj_in 128 (by decide +kernel) rfl⟩
theorem fl_X2_53 : mj_okF RX2 53 2 10 := ⟨by decide, by decide, mj_in 129 (by decide +kernel) rfl⟩
theorem fl_X5_140 : mj_okF RX5 140 2 10 := ⟨by decide, by decide, mj_in 130 (by decide +kernel) rfl⟩
theorem fl_X1_132 : mj_okF RX1 132 2 10 := ⟨by decide, by decide, mj_in 131 (by decide +kernel) rfl⟩
theorem fl_X2_56 : mj_okF RX2 56 2 11 := ⟨by decide, by decide, mj_in 132 (by decide +kernel) rfl⟩
theorem fl_X1_118 : mj_okF RX1 118 2 11 := ⟨by decide, by decide, mj_in 133 (by decide +kernel) rfl⟩
theorem fl_X5_157 : mj_okF RX5 157 2 11 := ⟨by decide, by decide, mj_in 134 (by decide +kernel) rfl⟩
theorem fl_X2_18 : mj_okF RX2 18 2 12 := ⟨by decide, by decide, mj_in 135 (by decide +kernel) rfl⟩
theorem fl_X1_102 : mj_okF RX1 102 2 12 := ⟨by decide, by decide, mj_in 136 (by decide +kernel) rfl⟩
theorem fl_X5_160 : mj_okF RX5 160 2 12 := ⟨by decide, by decide, mj_in 137 (by decide +kernel) rfl⟩
theorem fl_X2_59 : mj_okF RX2 59 2 13 := ⟨by decide, by decide, mj_in 138 (by decide +kernel) rfl⟩
theorem fl_X5_197 : mj_okF RX5 197 2 13 := ⟨by decide, by decide, mj_in 139 (by decide +kernel) rfl⟩
theorem fl_X2_62 : mj_okF RX2 62 2 14 := ⟨by decide, by decide, mj_in 140 (by decide +kernel) rfl⟩
theorem fl_X1_175 : mj_okF RX1 175 2 14 := ⟨by decide, by decide, mj_in 141 (by decide +kernel) rfl⟩
theorem fl_X5_274 : mj_okF RX5 274 2 14 := ⟨by decide, by decide, mj_in 142 (by decide +kernel) rfl⟩
theorem fl_X2_65 : mj_okF RX2 65 2 15 := ⟨by decide, by decide, mj_in 143 (by decide +kernel) rfl⟩
theorem fl_X1_78 : mj_okF RX1 78 2 15 := ⟨by decide, by decide, mj_in 144 (by decide +kernel) rfl⟩
theorem fl_X5_194 : mj_okF RX5 194 2 15 := ⟨by decide, by decide, mj_in 145 (by decide +kernel) rfl⟩
theorem fl_X2_69 : mj_okF RX2 69 2 16 := ⟨by decide, by decide, mj_in 146 (by decide +kernel) rfl⟩
theorem fl_X1_135 : mj_okF RX1 135 2 16 := ⟨by decide, by decide, mj_in 147 (by decide +kernel) rfl⟩
theorem fl_X2_72 : mj_okF RX2 72 2 17 := ⟨by decide, by decide, mj_in 148 (by decide +kernel) rfl⟩
theorem fl_X1_121 : mj_okF RX1 121 2 17 := ⟨by decide, by decide, mj_in 149 (by decide +kernel) rfl⟩
theorem fl_X5_163 : mj_okF RX5 163 2 17 := ⟨by decide, by decide, mj_in 150 (by decide +kernel) rfl⟩
theorem fl_X1_11 : mj_okF RX1 11 1 0 := ⟨by decide, by decide, mj_in 188 (by decide +kernel) rfl⟩
theorem fl_X5_44 : mj_okF RX5 44 1 0 := ⟨by decide, by decide, mj_in 189 (by decide +kernel) rfl⟩
theorem fl_X1_20 : mj_okF RX1 20 1 1 := ⟨by decide, by decide, mj_in 190 (by decide +kernel) rfl⟩
theorem fl_X5_65 : mj_okF RX5 65 1 1 := ⟨by decide, by decide, mj_in 191 (by decide +kernel) rfl⟩
theorem fl_X1_35 : mj_okF RX1 35 1 2 := ⟨by decide, by decide, mj_in 192 (by decide +kernel) rfl⟩
theorem fl_X5_33 : mj_okF RX5 33 1 2 := ⟨by decide, by decide, mj_in 193 (by decide +kernel) rfl⟩
theorem fl_X1_42 : mj_okF RX1 42 1 3 := ⟨by decide, by decide, mj_in 194 (by decide +kernel) rfl⟩
theorem fl_X5_60 : mj_okF RX5 60 1 3 := ⟨by decide, by decide, mj_in 195 (by decide +kernel) rfl⟩
theorem fl_X1_48 : mj_okF RX1 48 1 4 := ⟨by decide, by decide, mj_in 196 (by decide +kernel) rfl⟩
theorem fl_X5_116 : mj_okF RX5 116 1 4 := ⟨by decide, by decide, mj_in 197 (by decide +kernel) rfl⟩
theorem fl_X1_51 : mj_okF RX1 51 1 5 := ⟨by decide, by decide, mj_in 198 (by decide +kernel) rfl⟩
theorem fl_X1_25 : mj_okF RX1 25 1 6 := ⟨by decide, by decide, mj_in 199 (by decide +kernel) rfl⟩
theorem fl_X5_104 : mj_okF RX5 104 1 6 := ⟨by decide, by decide, mj_in 200 (by decide +kernel) rfl⟩
theorem fl_X1_29 : mj_okF RX1 29 1 7 := ⟨by decide, by decide, mj_in 201 (by decide +kernel) rfl⟩
theorem fl_X5_135 : mj_okF RX5 135 1 7 := ⟨by decide, by decide, mj_in 202 (by decide +kernel) rfl⟩
theorem fl_X1_32 : mj_okF RX1 32 1 8 := ⟨by decide, by decide, mj_in 203 (by decide +kernel) rfl⟩
theorem fl_X5_183 : mj_okF RX5 183 1 8 := ⟨by decide, by decide, mj_in 204 (by decide +kernel) rfl⟩
theorem fl_X1_54 : mj_okF RX1 54 1 9 := ⟨by decide, by decide, mj_in 205 (by decide +kernel) rfl⟩
theorem fl_X5_113 : mj_okF RX5 113 1 9 := ⟨by decide, by decide, mj_in 206 (by decide +kernel) rfl⟩
theorem fl_X1_57 : mj_okF RX1 57 1 10 := ⟨by decide, by decide, mj_in 207 (by decide +kernel) rfl⟩
theorem fl_X5_121 : mj_okF RX5 121 1 10 := ⟨by decide, by decide, mj_in 208 (by decide +kernel) rfl⟩
theorem fl_X1_60 : mj_okF RX1 60 1 11 := ⟨by decide, by decide, mj_in 209 (by decide +kernel) rfl⟩
theorem fl_X5_251 : mj_okF RX5 251 1 11 := ⟨by decide, by decide, mj_in 210 (by decide +kernel) rfl⟩
theorem fl_X1_63 : mj_okF RX1 63 1 12 := ⟨by decide, by decide, mj_in 211 (by decide +kernel) rfl⟩
theorem fl_X5_254 : mj_okF RX5 254 1 12 := ⟨by decide, by decide, mj_in 212 (by decide +kernel) rfl⟩
theorem fl_X1_66 : mj_okF RX1 66 1 13 := ⟨by decide, by decide, mj_in 213 (by decide +kernel) rfl⟩
theorem fl_X5_257 : mj_okF RX5 257 1 13 := ⟨by decide, by decide, mj_in 214 (by decide +kernel) rfl⟩
theorem fl_X1_69 : mj_okF RX1 69 1 14 := ⟨by decide, by decide, mj_in 215 (by decide +kernel) rfl⟩
theorem fl_X5_260 : mj_okF RX5 260 1 14 := ⟨by decide, by decide, mj_in 216 (by decide +kernel) rfl⟩
theorem fl_X1_72 : mj_okF RX1 72 1 15 := ⟨by decide, by decide, mj_in 217 (by decide +kernel) rfl⟩
theorem fl_X5_261 : mj_okF RX5 261 1 15 := ⟨by decide, by decide, mj_in 218 (by decide +kernel) rfl⟩
theorem fl_X4_7 : mj_okF RX4 7 4 0 := ⟨by decide, by decide, mj_in 258 (by decide +kernel) rfl⟩
theorem fl_X1_155 : mj_okF RX1 155 4 0 := ⟨by decide, by decide, mj_in 259 (by decide +kernel) rfl⟩
theorem fl_X4_13 : mj_okF RX4 13 4 1 := ⟨by decide, by decide, mj_in 260 (by decide +kernel) rfl⟩
theorem fl_X2_85 : mj_okF RX2 85 4 1 := ⟨by decide, by decide, mj_in 261 (by decide +kernel) rfl⟩
theorem fl_X4_16 : mj_okF RX4 16 4 2 := ⟨by decide, by decide, mj_in 262 (by decide +kernel) rfl⟩
theorem fl_X2_94 : mj_okF RX2 94 4 2 := ⟨by decide, by decide, mj_in 263 (by decide +kernel) rfl⟩
theorem fl_X1_150 : mj_okF RX1 150 4 2 := ⟨by decide, by decide, mj_in 264 (by decide +kernel) rfl⟩
theorem fl_X4_19 : mj_okF RX4 19 4 3 := ⟨by decide, by decide, mj_in 265 (by decide +kernel) rfl⟩
theorem fl_X2_97 : mj_okF RX2 97 4 3 := ⟨by decide, by decide, mj_in 266 (by decide +kernel) rfl⟩
theorem fl_X4_22 : mj_okF RX4 22 4 4 := ⟨by decide, by decide, mj_in 267 (by decide +kernel) rfl⟩
theorem fl_X1_168 : mj_okF RX1 168 4 4 := ⟨by decide, by decide, mj_in 268 (by decide +kernel) rfl⟩
theorem fl_X5_10 : mj_okF RX5 10 5 0 := ⟨by decide, by decide, mj_in 280 (by decide +kernel) rfl⟩
theorem fl_X5_16 : mj_okF RX5 16 5 1 := ⟨by decide, by decide, mj_in 281 (by decide +kernel) rfl⟩
theorem fl_X5_19 : mj_okF RX5 19 5 2 := ⟨by decide, by decide, mj_in 282 (by decide +kernel) rfl⟩
theorem fl_X5_25 : mj_okF RX5 25 5 3 := ⟨by decide, by decide, mj_in 283 (by decide +kernel) rfl⟩
abbrev mj_M : Type := MethodName × ByteArray × Nat × Option FieldType × String × Bool
/-- what a call of the method wants of the tables; n: how many arguments without the receiver -/
def mj_okV (K : mj_M) (n : Nat) : Prop := (Cond.instanceMethod K.1 ∈ mj_TW ∧ Cond.selects K.1.cls K.1 K.1 ∈ mj_TW ∧ Cond.initialized K.1.cls ∈ mj_TW ∧ Cond.code K.1 K.2.1 K.2.2.1 K.2.2.2.1 ∈ mj_TW) ∧ K.1.cls ≠ "java/lang/invoke/MethodHandle" ∧ K.1.cls ≠ "java/lang/invoke/VarHandle" ∧ (parseMethodDescriptor K.1.desc).map (fun d => d.parameters.length) = some n
def mj_okS (K : mj_M) (n : Nat) : Prop := (Cond.static K.1 ∈ mj_TW ∧ Cond.initialized K.1.cls ∈ mj_TW ∧ Cond.code K.1 K.2.1 K.2.2.1 K.2.2.2.1 ∈ mj_TW) ∧ K.1.cls ≠ "java/lang/invoke/MethodHandle" ∧ K.1.cls ≠ "java/lang/invoke/VarHandle" ∧ (parseMethodDescriptor K.1.desc).map (fun d => d.parameters.length) = some n
def mj_okI (K : mj_M) (n : Nat) : Prop := (Cond.instanceMethod K.1 ∈ mj_TW ∧ Cond.initialized K.1.cls ∈ mj_TW ∧ Cond.code K.1 K.2.1 K.2.2.1 none ∈ mj_TW) ∧ (K.1.cls ≠ "java/lang/invoke/MethodHandle" ∧ K.1.cls ≠ "java/lang/invoke/VarHandle" ∧ (parseMethodDescriptor K.1.desc).map (fun d => d.parameters.length) = some n) ∧ K.1.name = "<init>" ∧ K.2.2.2.1 = none
abbrev m_J9_abs_0f7a4 : mj_M := (yJ9_abs_0f7a4, cJ9_abs_0f7a4, 1, (some .int), RJ9, false)
set_option maxRecDepth 100000 in
theorem ok_J9_abs_0f7a4 : mj_okS m_J9_abs_0f7a4 1 := ⟨⟨mj_in 772 (by decide +kernel) rfl, mj_in 13 (by decide +kernel) rfl, mj_in 773 rfl rfl⟩, by decide +kernel, by decide +kernel, by decide +kernel⟩
abbrev m_J9_abs_294c1 : mj_M := (yJ9_abs_294c1, cJ9_abs_294c1, 2, (some .double), RJ9, false)
set_option maxRecDepth 100000 in
theorem ok_J9_abs_294c1 : mj_okS m_J9_abs_294c1 1 := ⟨⟨mj_in 761 (by decide +kernel) rfl, mj_in 13 (by decide +kernel) rfl, mj_in 762 rfl rfl⟩, by decide +kernel, by decide +kernel, by decide +kernel⟩
abbrev m_J9_max_7cf53 : mj_M := (yJ9_max_7cf53, cJ9_max_7cf53, 2, (some .int), RJ9, false)
set_option maxRecDepth 100000 in
theorem ok_J9_max_7cf53 : mj_okS m_J9_max_7cf53 2 := ⟨⟨mj_in 464 (by decide +kernel) rfl, mj_in 13 (by decide +kernel) rfl, mj_in 465 rfl rfl⟩, by decide +kernel, by decide +kernel, by decide +kernel⟩
abbrev m_J9_min_7cf53 : mj_M := (yJ9_min_7cf53, cJ9_min_7cf53, 2, (some .int), RJ9, false)
set_option maxRecDepth 100000 in
theorem ok_J9_min_7cf53 : mj_okS m_J9_min_7cf53 2 := ⟨⟨mj_in 427 (by decide +kernel) rfl, mj_in 13 (by decide +kernel) rfl, mj_in 428 rfl rfl⟩, by decide +kernel, by decide +kernel, by decide +kernel⟩
abbrev m_L_below : mj_M := (yL_below, cL_below, 2, (some .int), RL, false)
set_option maxRecDepth 100000 in
theorem ok_L_below : mj_okS m_L_below 2 := ⟨⟨mj_in 729 (by decide +kernel) rfl, mj_in 0 (by decide +kernel) rfl, mj_in 730 rfl rfl⟩, by decide +kernel, by decide +kernel, by decide +kernel⟩
abbrev m_L_cell : mj_M := (yL_cell, cL_cell, 2, (some .int), RL, false)
set_option maxRecDepth 100000 in
theorem ok_L_cell : mj_okS m_L_cell 2 := ⟨⟨mj_in 733 (by decide +kernel) rfl, mj_in 0 (by decide +kernel) rfl, mj_in 734 rfl rfl⟩, by decide +kernel, by decide +kernel, by decide +kernel⟩
abbrev m_L_isSo : mj_M := (yL_isSo, cL_isSo, 15, (some .boolean), RL, false)
set_option maxRecDepth 100000 in
theorem ok_L_isSo : mj_okS m_L_isSo 4 := ⟨⟨mj_in 748 (by decide +kernel) rfl, mj_in 0 (by decide +kernel) rfl, mj_in 749 rfl rfl⟩, by decide +kernel, by decide +kernel, by decide +kernel⟩
abbrev m_L_pass : mj_M := (yL_pass, cL_pass, 3, (some .int), RL, false)
set_option maxRecDepth 100000 in
theorem ok_L_pass : mj_okS m_L_pass 3 := ⟨⟨mj_in 740 (by decide +kernel) rfl, mj_in 0 (by decide +kernel) rfl, mj_in 741 rfl rfl⟩, by decide +kernel, by decide +kernel, by decide +kernel⟩
abbrev m_L_weather : mj_M := (yL_weather, cL_weather, 2, (some (.array .int)), RL, false)
set_option maxRecDepth 100000 in
theorem ok_L_weather : mj_okS m_L_weather 1 := ⟨⟨mj_in 737 (by decide +kernel) rfl, mj_in 0 (by decide +kernel) rfl, mj_in 738 rfl rfl⟩, by decide +kernel, by decide +kernel, by decide +kernel⟩
abbrev m_X0_become : mj_M := (yX0_become, cX0_become, 2, none, RX0, false)
set_option maxRecDepth 100000 in
theorem ok_X0_become : mj_okV m_X0_become 1 := ⟨⟨mj_in 609 (by decide +kernel) rfl, mj_in 610 (by decide +kernel) rfl, mj_in 3 (by decide +kernel) rfl, mj_in 611 rfl rfl⟩, by decide +kernel, by decide +kernel, by decide +kernel⟩
abbrev m_X0_init : mj_M := (yX0_init, cX0_init, 1, none, RX0, true)
set_option maxRecDepth 100000 in
theorem ok_X0_init : mj_okI m_X0_init 0 := ⟨⟨mj_in 35 (by decide +kernel) rfl, mj_in 3 (by decide +kernel) rfl, mj_in 36 rfl rfl⟩, ⟨by decide +kernel, by decide +kernel, by decide +kernel⟩, rfl, rfl⟩
abbrev m_X0_isMoving : mj_M := (yX0_isMoving, cX0_isMoving, 1, (some .boolean), RX0, false)
set_option maxRecDepth 100000 in
theorem ok_X0_isMoving : mj_okV m_X0_isMoving 0 := ⟨⟨mj_in 535 (by decide +kernel) rfl, mj_in 536 (by decide +kernel) rfl, mj_in 3 (by decide +kernel) rfl, mj_in 537 rfl rfl⟩, by decide +kernel, by decide +kernel, by decide +kernel⟩
abbrev m_X1_bar : mj_M := (yX1_bar, cX1_bar, 6, (some .int), RX1, false)
set_option maxRecDepth 100000 in
theorem ok_X1_bar : mj_okV m_X1_bar 4 := ⟨⟨mj_in 531 (by decide +kernel) rfl, mj_in 532 (by decide +kernel) rfl, mj_in 2 (by decide +kernel) rfl, mj_in 533 rfl rfl⟩, by decide +kernel, by decide +kernel, by decide +kernel⟩
abbrev m_X1_barNow : mj_M := (yX1_barNow, cX1_barNow, 2, (some .int), RX1, false)
set_option maxRecDepth 100000 in
theorem ok_X1_barNow : mj_okV m_X1_barNow 1 := ⟨⟨mj_in 523 (by decide +kernel) rfl, mj_in 524 (by decide +kernel) rfl, mj_in 2 (by decide +kernel) rfl, mj_in 525 rfl rfl⟩, by decide +kernel, by decide +kernel, by decide +kernel⟩
abbrev m_X1_become : mj_M := (yX1_become, cX1_become, 3, none, RX1, false)
set_option maxRecDepth 100000 in
theorem ok_X1_become : mj_okV m_X1_become 1 := ⟨⟨mj_in 605 (by decide +kernel) rfl, mj_in 606 (by decide +kernel) rfl, mj_in 2 (by decide +kernel) rfl, mj_in 607 rfl rfl⟩, by decide +kernel, by decide +kernel, by decide +kernel⟩
abbrev m_X1_carrySkiers : mj_M := (yX1_carrySkiers, cX1_carrySkiers, 5, none, RX1, false)
set_option maxRecDepth 100000 in
theorem ok_X1_carrySkiers : mj_okV m_X1_carrySkiers 0 := ⟨⟨mj_in 695 (by decide +kernel) rfl, mj_in 696 (by decide +kernel) rfl, mj_in 2 (by decide +kernel) rfl, mj_in 697 rfl rfl⟩, by decide +kernel, by decide +kernel, by decide +kernel⟩
abbrev m_X1_clock : mj_M := (yX1_clock, cX1_clock, 1, (some .int), RX1, false)
set_option maxRecDepth 100000 in
theorem ok_X1_clock : mj_okV m_X1_clock 0 := ⟨⟨mj_in 509 (by decide +kernel) rfl, mj_in 510 (by decide +kernel) rfl, mj_in 2 (by decide +kernel) rfl, mj_in 511 rfl rfl⟩, by decide +kernel, by decide +kernel, by decide +kernel⟩
abbrev m_X1_depthByArea : mj_M := (yX1_depthByArea, cX1_depthByArea, 3, (some .int), RX1, false)
set_option maxRecDepth 100000 in
theorem ok_X1_depthByArea : mj_okV m_X1_depthByArea 0 := ⟨⟨mj_in 580 (by decide +kernel) rfl, mj_in 581 (by decide +kernel) rfl, mj_in 2 (by decide +kernel) rfl, mj_in 582 rfl rfl⟩, by decide +kernel, by decide +kernel, by decide +kernel⟩
abbrev m_X1_holdLifts : mj_M := (yX1_holdLifts, cX1_holdLifts, 3, none, RX1, false)
set_option maxRecDepth 100000 in
theorem ok_X1_holdLifts : mj_okV m_X1_holdLifts 1 := ⟨⟨mj_in 691 (by decide +kernel) rfl, mj_in 692 (by decide +kernel) rfl, mj_in 2 (by decide +kernel) rfl, mj_in 693 rfl rfl⟩, by decide +kernel, by decide +kernel, by decide +kernel⟩
abbrev m_X1_init : mj_M := (yX1_init, cX1_init, 2, none, RX1, true)
set_option maxRecDepth 100000 in
theorem ok_X1_init : mj_okI m_X1_init 0 := ⟨⟨mj_in 28 (by decide +kernel) rfl, mj_in 2 (by decide +kernel) rfl, mj_in 29 rfl rfl⟩, ⟨by decide +kernel, by decide +kernel, by decide +kernel⟩, rfl, rfl⟩
abbrev m_X1_isTested : mj_M := (yX1_isTested, cX1_isTested, 2, (some .boolean), RX1, false)
set_option maxRecDepth 100000 in
theorem ok_X1_isTested : mj_okV m_X1_isTested 1 := ⟨⟨mj_in 527 (by decide +kernel) rfl, mj_in 528 (by decide +kernel) rfl, mj_in 2 (by decide +kernel) rfl, mj_in 529 rfl rfl⟩, by decide +kernel, by decide +kernel, by decide +kernel⟩
abbrev m_X1_makeSnow : mj_M := (yX1_makeSnow, cX1_makeSnow, 5, none, RX1, false)
set_option maxRecDepth 100000 in
theorem ok_X1_makeSnow : mj_okV m_X1_makeSnow 2 := ⟨⟨mj_in 682 (by decide +kernel) rfl, mj_in 683 (by decide +kernel) rfl, mj_in 2 (by decide +kernel) rfl, mj_in 684 rfl rfl⟩, by decide +kernel, by decide +kernel, by decide +kernel⟩
abbrev m_X1_openRuns : mj_M := (yX1_openRuns, cX1_openRuns, 3, (some .int), RX1, false)
set_option maxRecDepth 100000 in
theorem ok_X1_openRuns : mj_okV m_X1_openRuns 0 := ⟨⟨mj_in 576 (by decide +kernel) rfl, mj_in 577 (by decide +kernel) rfl, mj_in 2 (by decide +kernel) rfl, mj_in 578 rfl rfl⟩, by decide +kernel, by decide +kernel, by decide +kernel⟩
abbrev m_X1_openRunsOf : mj_M := (yX1_openRunsOf, cX1_openRunsOf, 4, (some .int), RX1, false)
set_option maxRecDepth 100000 in
theorem ok_X1_openRunsOf : mj_okV m_X1_openRunsOf 1 := ⟨⟨mj_in 567 (by decide +kernel) rfl, mj_in 568 (by decide +kernel) rfl, mj_in 2 (by decide +kernel) rfl, mj_in 569 rfl rfl⟩, by decide +kernel, by decide +kernel, by decide +kernel⟩
abbrev m_X1_passHour : mj_M := (yX1_passHour, cX1_passHour, 5, none, RX1, false)
set_option maxRecDepth 100000 in
theorem ok_X1_passHour : mj_okV m_X1_passHour 1 := ⟨⟨mj_in 624 (by decide +kernel) rfl, mj_in 625 (by decide +kernel) rfl, mj_in 2 (by decide +kernel) rfl, mj_in 626 rfl rfl⟩, by decide +kernel, by decide +kernel, by decide +kernel⟩
abbrev m_X1_removeGuns : mj_M := (yX1_removeGuns, cX1_removeGuns, 2, none, RX1, false)
set_option maxRecDepth 100000 in
theorem ok_X1_removeGuns : mj_okV m_X1_removeGuns 0 := ⟨⟨mj_in 714 (by decide +kernel) rfl, mj_in 715 (by decide +kernel) rfl, mj_in 2 (by decide +kernel) rfl, mj_in 716 rfl rfl⟩, by decide +kernel, by decide +kernel, by decide +kernel⟩
abbrev m_X1_shareOut : mj_M := (yX1_shareOut, cX1_shareOut, 6, none, RX1, false)
set_option maxRecDepth 100000 in
theorem ok_X1_shareOut : mj_okV m_X1_shareOut 3 := ⟨⟨mj_in 700 (by decide +kernel) rfl, mj_in 701 (by decide +kernel) rfl, mj_in 2 (by decide +kernel) rfl, mj_in 702 rfl rfl⟩, by decide +kernel, by decide +kernel, by decide +kernel⟩
abbrev m_X1_skiOn : mj_M := (yX1_skiOn, cX1_skiOn, 6, none, RX1, false)
set_option maxRecDepth 100000 in
theorem ok_X1_skiOn : mj_okV m_X1_skiOn 2 := ⟨⟨mj_in 704 (by decide +kernel) rfl, mj_in 705 (by decide +kernel) rfl, mj_in 2 (by decide +kernel) rfl, mj_in 706 rfl rfl⟩, by decide +kernel, by decide +kernel, by decide +kernel⟩
abbrev m_X1_slideOn : mj_M := (yX1_slideOn, cX1_slideOn, 4, (some .int), RX1, false)
set_option maxRecDepth 100000 in
theorem ok_X1_slideOn : mj_okV m_X1_slideOn 1 := ⟨⟨mj_in 468 (by decide +kernel) rfl, mj_in 469 (by decide +kernel) rfl, mj_in 2 (by decide +kernel) rfl, mj_in 470 rfl rfl⟩, by decide +kernel, by decide +kernel, by decide +kernel⟩
abbrev m_X1_wholeArea : mj_M := (yX1_wholeArea, cX1_wholeArea, 3, (some .int), RX1, false)
set_option maxRecDepth 100000 in
theorem ok_X1_wholeArea : mj_okV m_X1_wholeArea 0 := ⟨⟨mj_in 757 (by decide +kernel) rfl, mj_in 758 (by decide +kernel) rfl, mj_in 2 (by decide +kernel) rfl, mj_in 759 rfl rfl⟩, by decide +kernel, by decide +kernel, by decide +kernel⟩
abbrev m_X1_wouldTell : mj_M := (yX1_wouldTell, cX1_wouldTell, 4, (some .int), RX1, false)
set_option maxRecDepth 100000 in
theorem ok_X1_wouldTell : mj_okV m_X1_wouldTell 2 := ⟨⟨mj_in 495 (by decide +kernel) rfl, mj_in 496 (by decide +kernel) rfl, mj_in 2 (by decide +kernel) rfl, mj_in 497 rfl rfl⟩, by decide +kernel, by decide +kernel, by decide +kernel⟩
abbrev m_X2_become : mj_M := (yX2_become, cX2_become, 2, none, RX2, false)
set_option maxRecDepth 100000 in
theorem ok_X2_become : mj_okV m_X2_become 1 := ⟨⟨mj_in 613 (by decide +kernel) rfl, mj_in 614 (by decide +kernel) rfl, mj_in 4 (by decide +kernel) rfl, mj_in 615 rfl rfl⟩, by decide +kernel, by decide +kernel, by decide +kernel⟩
abbrev m_X2_init : mj_M := (yX2_init, cX2_init, 1, none, RX2, true)
set_option maxRecDepth 100000 in
theorem ok_X2_init : mj_okI m_X2_init 0 := ⟨⟨mj_in 67 (by decide +kernel) rfl, mj_in 4 (by decide +kernel) rfl, mj_in 68 rfl rfl⟩, ⟨by decide +kernel, by decide +kernel, by decide +kernel⟩, rfl, rfl⟩
abbrev m_X2_risk : mj_M := (yX2_risk, cX2_risk, 1, (some .int), RX2, false)
set_option maxRecDepth 100000 in
theorem ok_X2_risk : mj_okV m_X2_risk 0 := ⟨⟨mj_in 444 (by decide +kernel) rfl, mj_in 445 (by decide +kernel) rfl, mj_in 4 (by decide +kernel) rfl, mj_in 446 rfl rfl⟩, by decide +kernel, by decide +kernel, by decide +kernel⟩
abbrev m_X2_shear : mj_M := (yX2_shear, cX2_shear, 1, (some .int), RX2, false)
set_option maxRecDepth 100000 in
theorem ok_X2_shear : mj_okV m_X2_shear 0 := ⟨⟨mj_in 472 (by decide +kernel) rfl, mj_in 473 (by decide +kernel) rfl, mj_in 4 (by decide +kernel) rfl, mj_in 474 rfl rfl⟩, by decide +kernel, by decide +kernel, by decide +kernel⟩
abbrev m_X2_sizeFrom : mj_M := (yX2_sizeFrom, cX2_sizeFrom, 2, (some .int), RX2, false)
set_option maxRecDepth 100000 in
theorem ok_X2_sizeFrom : mj_okV m_X2_sizeFrom 1 := ⟨⟨mj_in 477 (by decide +kernel) rfl, mj_in 478 (by decide +kernel) rfl, mj_in 4 (by decide +kernel) rfl, mj_in 479 rfl rfl⟩, by decide +kernel, by decide +kernel, by decide +kernel⟩
abbrev m_X2_weatherSnow : mj_M := (yX2_weatherSnow, cX2_weatherSnow, 5, none, RX2, false)
set_option maxRecDepth 100000 in
theorem ok_X2_weatherSnow : mj_okV m_X2_weatherSnow 3 := ⟨⟨mj_in 629 (by decide +kernel) rfl, mj_in 630 (by decide +kernel) rfl, mj_in 4 (by decide +kernel) rfl, mj_in 631 rfl rfl⟩, by decide +kernel, by decide +kernel, by decide +kernel⟩
abbrev m_X3_become : mj_M := (yX3_become, cX3_become, 2, none, RX3, false)
set_option maxRecDepth 100000 in
theorem ok_X3_become : mj_okV m_X3_become 1 := ⟨⟨mj_in 617 (by decide +kernel) rfl, mj_in 618 (by decide +kernel) rfl, mj_in 5 (by decide +kernel) rfl, mj_in 619 rfl rfl⟩, by decide +kernel, by decide +kernel, by decide +kernel⟩
abbrev m_X3_changeTop : mj_M := (yX3_changeTop, cX3_changeTop, 3, none, RX3, false)
set_option maxRecDepth 100000 in
theorem ok_X3_changeTop : mj_okV m_X3_changeTop 2 := ⟨⟨mj_in 670 (by decide +kernel) rfl, mj_in 671 (by decide +kernel) rfl, mj_in 5 (by decide +kernel) rfl, mj_in 672 rfl rfl⟩, by decide +kernel, by decide +kernel, by decide +kernel⟩
abbrev m_X3_comeDown : mj_M := (yX3_comeDown, cX3_comeDown, 4, none, RX3, false)
set_option maxRecDepth 100000 in
theorem ok_X3_comeDown : mj_okV m_X3_comeDown 2 := ⟨⟨mj_in 633 (by decide +kernel) rfl, mj_in 634 (by decide +kernel) rfl, mj_in 5 (by decide +kernel) rfl, mj_in 635 rfl rfl⟩, by decide +kernel, by decide +kernel, by decide +kernel⟩
abbrev m_X3_depthFrom : mj_M := (yX3_depthFrom, cX3_depthFrom, 4, (some .int), RX3, false)
set_option maxRecDepth 100000 in
theorem ok_X3_depthFrom : mj_okV m_X3_depthFrom 1 := ⟨⟨mj_in 460 (by decide +kernel) rfl, mj_in 461 (by decide +kernel) rfl, mj_in 5 (by decide +kernel) rfl, mj_in 462 rfl rfl⟩, by decide +kernel, by decide +kernel, by decide +kernel⟩
abbrev m_X3_drift : mj_M := (yX3_drift, cX3_drift, 4, none, RX3, false)
set_option maxRecDepth 100000 in
theorem ok_X3_drift : mj_okV m_X3_drift 3 := ⟨⟨mj_in 661 (by decide +kernel) rfl, mj_in 662 (by decide +kernel) rfl, mj_in 5 (by decide +kernel) rfl, mj_in 663 rfl rfl⟩, by decide +kernel, by decide +kernel, by decide +kernel⟩
abbrev m_X3_dropFrom : mj_M := (yX3_dropFrom, cX3_dropFrom, 2, none, RX3, false)
set_option maxRecDepth 100000 in
theorem ok_X3_dropFrom : mj_okV m_X3_dropFrom 1 := ⟨⟨mj_in 482 (by decide +kernel) rfl, mj_in 483 (by decide +kernel) rfl, mj_in 5 (by decide +kernel) rfl, mj_in 484 rfl rfl⟩, by decide +kernel, by decide +kernel, by decide +kernel⟩
abbrev m_X3_freeze : mj_M := (yX3_freeze, cX3_freeze, 1, none, RX3, false)
set_option maxRecDepth 100000 in
theorem ok_X3_freeze : mj_okV m_X3_freeze 0 := ⟨⟨mj_in 666 (by decide +kernel) rfl, mj_in 667 (by decide +kernel) rfl, mj_in 5 (by decide +kernel) rfl, mj_in 668 rfl rfl⟩, by decide +kernel, by decide +kernel, by decide +kernel⟩
abbrev m_X3_growWeak : mj_M := (yX3_growWeak, cX3_growWeak, 1, none, RX3, false)
set_option maxRecDepth 100000 in
theorem ok_X3_growWeak : mj_okV m_X3_growWeak 0 := ⟨⟨mj_in 674 (by decide +kernel) rfl, mj_in 675 (by decide +kernel) rfl, mj_in 5 (by decide +kernel) rfl, mj_in 676 rfl rfl⟩, by decide +kernel, by decide +kernel, by decide +kernel⟩
abbrev m_X3_init : mj_M := (yX3_init, cX3_init, 1, none, RX3, true)
set_option maxRecDepth 100000 in
theorem ok_X3_init : mj_okI m_X3_init 0 := ⟨⟨mj_in 73 (by decide +kernel) rfl, mj_in 5 (by decide +kernel) rfl, mj_in 74 rfl rfl⟩, ⟨by decide +kernel, by decide +kernel, by decide +kernel⟩, rfl, rfl⟩
abbrev m_X3_joinLowest : mj_M := (yX3_joinLowest, cX3_joinLowest, 2, none, RX3, false)
set_option maxRecDepth 100000 in
theorem ok_X3_joinLowest : mj_okV m_X3_joinLowest 0 := ⟨⟨mj_in 649 (by decide +kernel) rfl, mj_in 650 (by decide +kernel) rfl, mj_in 5 (by decide +kernel) rfl, mj_in 651 rfl rfl⟩, by decide +kernel, by decide +kernel, by decide +kernel⟩
abbrev m_X3_lay : mj_M := (yX3_lay, cX3_lay, 4, none, RX3, false)
set_option maxRecDepth 100000 in
theorem ok_X3_lay : mj_okV m_X3_lay 3 := ⟨⟨mj_in 645 (by decide +kernel) rfl, mj_in 646 (by decide +kernel) rfl, mj_in 5 (by decide +kernel) rfl, mj_in 647 rfl rfl⟩, by decide +kernel, by decide +kernel, by decide +kernel⟩
abbrev m_X3_melt : mj_M := (yX3_melt, cX3_melt, 2, none, RX3, false)
set_option maxRecDepth 100000 in
theorem ok_X3_melt : mj_okV m_X3_melt 1 := ⟨⟨mj_in 653 (by decide +kernel) rfl, mj_in 654 (by decide +kernel) rfl, mj_in 5 (by decide +kernel) rfl, mj_in 655 rfl rfl⟩, by decide +kernel, by decide +kernel, by decide +kernel⟩
abbrev m_X3_pressTop : mj_M := (yX3_pressTop, cX3_pressTop, 3, (some .int), RX3, false)
set_option maxRecDepth 100000 in
theorem ok_X3_pressTop : mj_okV m_X3_pressTop 0 := ⟨⟨mj_in 515 (by decide +kernel) rfl, mj_in 516 (by decide +kernel) rfl, mj_in 5 (by decide +kernel) rfl, mj_in 517 rfl rfl⟩, by decide +kernel, by decide +kernel, by decide +kernel⟩
abbrev m_X3_risk : mj_M := (yX3_risk, cX3_risk, 3, (some .int), RX3, false)
set_option maxRecDepth 100000 in
theorem ok_X3_risk : mj_okV m_X3_risk 1 := ⟨⟨mj_in 448 (by decide +kernel) rfl, mj_in 449 (by decide +kernel) rfl, mj_in 5 (by decide +kernel) rfl, mj_in 450 rfl rfl⟩, by decide +kernel, by decide +kernel, by decide +kernel⟩
abbrev m_X3_settle : mj_M := (yX3_settle, cX3_settle, 4, none, RX3, false)
set_option maxRecDepth 100000 in
theorem ok_X3_settle : mj_okV m_X3_settle 1 := ⟨⟨mj_in 678 (by decide +kernel) rfl, mj_in 679 (by decide +kernel) rfl, mj_in 5 (by decide +kernel) rfl, mj_in 680 rfl rfl⟩, by decide +kernel, by decide +kernel, by decide +kernel⟩
abbrev m_X3_shear : mj_M := (yX3_shear, cX3_shear, 7, (some .int), RX3, false)
set_option maxRecDepth 100000 in
theorem ok_X3_shear : mj_okV m_X3_shear 1 := ⟨⟨mj_in 452 (by decide +kernel) rfl, mj_in 453 (by decide +kernel) rfl, mj_in 5 (by decide +kernel) rfl, mj_in 454 rfl rfl⟩, by decide +kernel, by decide +kernel, by decide +kernel⟩
abbrev m_X3_stress : mj_M := (yX3_stress, cX3_stress, 6, (some .int), RX3, false)
set_option maxRecDepth 100000 in
theorem ok_X3_stress : mj_okV m_X3_stress 3 := ⟨⟨mj_in 456 (by decide +kernel) rfl, mj_in 457 (by decide +kernel) rfl, mj_in 5 (by decide +kernel) rfl, mj_in 458 rfl rfl⟩, by decide +kernel, by decide +kernel, by decide +kernel⟩
abbrev m_X3_thicken : mj_M := (yX3_thicken, cX3_thicken, 2, none, RX3, false)
set_option maxRecDepth 100000 in
theorem ok_X3_thicken : mj_okV m_X3_thicken 1 := ⟨⟨mj_in 641 (by decide +kernel) rfl, mj_in 642 (by decide +kernel) rfl, mj_in 5 (by decide +kernel) rfl, mj_in 643 rfl rfl⟩, by decide +kernel, by decide +kernel, by decide +kernel⟩
abbrev m_X3_thin : mj_M := (yX3_thin, cX3_thin, 2, none, RX3, false)
set_option maxRecDepth 100000 in
theorem ok_X3_thin : mj_okV m_X3_thin 1 := ⟨⟨mj_in 657 (by decide +kernel) rfl, mj_in 658 (by decide +kernel) rfl, mj_in 5 (by decide +kernel) rfl, mj_in 659 rfl rfl⟩, by decide +kernel, by decide +kernel, by decide +kernel⟩
abbrev m_X3_topIs : mj_M := (yX3_topIs, cX3_topIs, 2, (some .boolean), RX3, false)
set_option maxRecDepth 100000 in
theorem ok_X3_topIs : mj_okV m_X3_topIs 1 := ⟨⟨mj_in 637 (by decide +kernel) rfl, mj_in 638 (by decide +kernel) rfl, mj_in 5 (by decide +kernel) rfl, mj_in 639 rfl rfl⟩, by decide +kernel, by decide +kernel, by decide +kernel⟩
abbrev m_X3_wholeDepth : mj_M := (yX3_wholeDepth, cX3_wholeDepth, 1, (some .int), RX3, false)
set_option maxRecDepth 100000 in
theorem ok_X3_wholeDepth : mj_okV m_X3_wholeDepth 0 := ⟨⟨mj_in 539 (by decide +kernel) rfl, mj_in 540 (by decide +kernel) rfl, mj_in 5 (by decide +kernel) rfl, mj_in 541 rfl rfl⟩, by decide +kernel, by decide +kernel, by decide +kernel⟩
abbrev m_X4_init : mj_M := (yX4_init, cX4_init, 1, none, RX4, true)
set_option maxRecDepth 100000 in
theorem ok_X4_init : mj_okI m_X4_init 0 := ⟨⟨mj_in 255 (by decide +kernel) rfl, mj_in 6 (by decide +kernel) rfl, mj_in 256 rfl rfl⟩, ⟨by decide +kernel, by decide +kernel, by decide +kernel⟩, rfl, rfl⟩
abbrev m_X4_tell : mj_M := (yX4_tell, cX4_tell, 6, none, RX4, false)
set_option maxRecDepth 100000 in
theorem ok_X4_tell : mj_okV m_X4_tell 5 := ⟨⟨mj_in 601 (by decide +kernel) rfl, mj_in 602 (by decide +kernel) rfl, mj_in 6 (by decide +kernel) rfl, mj_in 603 rfl rfl⟩, by decide +kernel, by decide +kernel, by decide +kernel⟩
abbrev m_X5_blast : mj_M := (yX5_blast, cX5_blast, 3, (some .int), RX5, false)
set_option maxRecDepth 100000 in
theorem ok_X5_blast : mj_okV m_X5_blast 1 := ⟨⟨mj_in 434 (by decide +kernel) rfl, mj_in 435 (by decide +kernel) rfl, mj_in 1 (by decide +kernel) rfl, mj_in 436 rfl rfl⟩, by decide +kernel, by decide +kernel, by decide +kernel⟩
abbrev m_X5_close : mj_M := (yX5_close, cX5_close, 3, (some .int), RX5, false)
set_option maxRecDepth 100000 in
theorem ok_X5_close : mj_okV m_X5_close 1 := ⟨⟨mj_in 543 (by decide +kernel) rfl, mj_in 544 (by decide +kernel) rfl, mj_in 1 (by decide +kernel) rfl, mj_in 545 rfl rfl⟩, by decide +kernel, by decide +kernel, by decide +kernel⟩
abbrev m_X5_couldOpen : mj_M := (yX5_couldOpen, cX5_couldOpen, 6, (some .int), RX5, false)
set_option maxRecDepth 100000 in
theorem ok_X5_couldOpen : mj_okV m_X5_couldOpen 0 := ⟨⟨mj_in 724 (by decide +kernel) rfl, mj_in 725 (by decide +kernel) rfl, mj_in 1 (by decide +kernel) rfl, mj_in 726 rfl rfl⟩, by decide +kernel, by decide +kernel, by decide +kernel⟩
abbrev m_X5_crowd : mj_M := (yX5_crowd, cX5_crowd, 3, (some .int), RX5, false)
set_option maxRecDepth 100000 in
theorem ok_X5_crowd : mj_okV m_X5_crowd 1 := ⟨⟨mj_in 430 (by decide +kernel) rfl, mj_in 431 (by decide +kernel) rfl, mj_in 1 (by decide +kernel) rfl, mj_in 432 rfl rfl⟩, by decide +kernel, by decide +kernel, by decide +kernel⟩
abbrev m_X5_digest : mj_M := (yX5_digest, cX5_digest, 5, (some .long), RX5, false)
set_option maxRecDepth 100000 in
theorem ok_X5_digest : mj_okV m_X5_digest 0 := ⟨⟨mj_in 584 (by decide +kernel) rfl, mj_in 585 (by decide +kernel) rfl, mj_in 1 (by decide +kernel) rfl, mj_in 586 rfl rfl⟩, by decide +kernel, by decide +kernel, by decide +kernel⟩
abbrev m_X5_digestLayers : mj_M := (yX5_digestLayers, cX5_digestLayers, 9, (some .long), RX5, false)
set_option maxRecDepth 100000 in
theorem ok_X5_digestLayers : mj_okV m_X5_digestLayers 2 := ⟨⟨mj_in 593 (by decide +kernel) rfl, mj_ip 4 (by decide +kernel) rfl, mj_in 1 (by decide +kernel) rfl, mj_in 594 rfl rfl⟩, by decide +kernel, by decide +kernel, by decide +kernel⟩
abbrev m_X5_fill : mj_M := (yX5_fill, cX5_fill, 2, (some .int), RX5, false)
set_option maxRecDepth 100000 in
theorem ok_X5_fill : mj_okV m_X5_fill 1 := ⟨⟨mj_in 423 (by decide +kernel) rfl, mj_in 424 (by decide +kernel) rfl, mj_in 1 (by decide +kernel) rfl, mj_in 425 rfl rfl⟩, by decide +kernel, by decide +kernel, by decide +kernel⟩
abbrev m_X5_groom : mj_M := (yX5_groom, cX5_groom, 4, (some .int), RX5, false)
set_option maxRecDepth 100000 in
theorem ok_X5_groom : mj_okV m_X5_groom 1 := ⟨⟨mj_in 505 (by decide +kernel) rfl, mj_in 506 (by decide +kernel) rfl, mj_in 1 (by decide +kernel) rfl, mj_in 507 rfl rfl⟩, by decide +kernel, by decide +kernel, by decide +kernel⟩
abbrev m_X5_guns : mj_M := (yX5_guns, cX5_guns, 4, (some .int), RX5, false)
set_option maxRecDepth 100000 in
theorem ok_X5_guns : mj_okV m_X5_guns 2 := ⟨⟨mj_in 414 (by decide +kernel) rfl, mj_in 415 (by decide +kernel) rfl, mj_in 1 (by decide +kernel) rfl, mj_in 416 rfl rfl⟩, by decide +kernel, by decide +kernel, by decide +kernel⟩
abbrev m_X5_init : mj_M := (yX5_init, cX5_init, 1, none, RX5, true)
set_option maxRecDepth 100000 in
theorem ok_X5_init : mj_okI m_X5_init 0 := ⟨⟨mj_in 20 (by decide +kernel) rfl, mj_in 1 (by decide +kernel) rfl, mj_in 21 rfl rfl⟩, ⟨by decide +kernel, by decide +kernel, by decide +kernel⟩, rfl, rfl⟩
abbrev m_X5_lift : mj_M := (yX5_lift, cX5_lift, 4, (some .int), RX5, false)
set_option maxRecDepth 100000 in
theorem ok_X5_lift : mj_okV m_X5_lift 2 := ⟨⟨mj_in 294 (by decide +kernel) rfl, mj_in 295 (by decide +kernel) rfl, mj_in 1 (by decide +kernel) rfl, mj_in 296 rfl rfl⟩, by decide +kernel, by decide +kernel, by decide +kernel⟩
abbrev m_X5_many : mj_M := (yX5_many, cX5_many, 2, (some .int), RX5, false)
set_option maxRecDepth 100000 in
theorem ok_X5_many : mj_okV m_X5_many 1 := ⟨⟨mj_in 572 (by decide +kernel) rfl, mj_in 573 (by decide +kernel) rfl, mj_in 1 (by decide +kernel) rfl, mj_in 574 rfl rfl⟩, by decide +kernel, by decide +kernel, by decide +kernel⟩
abbrev m_X5_meanDepth : mj_M := (yX5_meanDepth, cX5_meanDepth, 2, (some .double), RX5, false)
set_option maxRecDepth 100000 in
theorem ok_X5_meanDepth : mj_okV m_X5_meanDepth 0 := ⟨⟨mj_in 753 (by decide +kernel) rfl, mj_in 754 (by decide +kernel) rfl, mj_in 1 (by decide +kernel) rfl, mj_in 755 rfl rfl⟩, by decide +kernel, by decide +kernel, by decide +kernel⟩
abbrev m_X5_nextBlast : mj_M := (yX5_nextBlast, cX5_nextBlast, 7, (some .int), RX5, false)
set_option maxRecDepth 100000 in
theorem ok_X5_nextBlast : mj_okV m_X5_nextBlast 0 := ⟨⟨mj_in 719 (by decide +kernel) rfl, mj_in 720 (by decide +kernel) rfl, mj_in 1 (by decide +kernel) rfl, mj_in 721 rfl rfl⟩, by decide +kernel, by decide +kernel, by decide +kernel⟩
abbrev m_X5_ofLayer : mj_M := (yX5_ofLayer, cX5_ofLayer, 5, (some .int), RX5, false)
set_option maxRecDepth 100000 in
theorem ok_X5_ofLayer : mj_okV m_X5_ofLayer 3 := ⟨⟨mj_in 558 (by decide +kernel) rfl, mj_in 559 (by decide +kernel) rfl, mj_in 1 (by decide +kernel) rfl, mj_in 560 rfl rfl⟩, by decide +kernel, by decide +kernel, by decide +kernel⟩
abbrev m_X5_ofLift : mj_M := (yX5_ofLift, cX5_ofLift, 4, (some .int), RX5, false)
set_option maxRecDepth 100000 in
theorem ok_X5_ofLift : mj_okV m_X5_ofLift 2 := ⟨⟨mj_in 563 (by decide +kernel) rfl, mj_in 564 (by decide +kernel) rfl, mj_in 1 (by decide +kernel) rfl, mj_in 565 rfl rfl⟩, by decide +kernel, by decide +kernel, by decide +kernel⟩
abbrev m_X5_ofRun : mj_M := (yX5_ofRun, cX5_ofRun, 4, (some .int), RX5, false)
set_option maxRecDepth 100000 in
theorem ok_X5_ofRun : mj_okV m_X5_ofRun 2 := ⟨⟨mj_in 548 (by decide +kernel) rfl, mj_in 549 (by decide +kernel) rfl, mj_in 1 (by decide +kernel) rfl, mj_in 550 rfl rfl⟩, by decide +kernel, by decide +kernel, by decide +kernel⟩
abbrev m_X5_oneIf : mj_M := (yX5_oneIf, cX5_oneIf, 1, (some .int), RX5, false)
set_option maxRecDepth 100000 in
theorem ok_X5_oneIf : mj_okS m_X5_oneIf 1 := ⟨⟨mj_in 553 (by decide +kernel) rfl, mj_in 1 (by decide +kernel) rfl, mj_in 554 rfl rfl⟩, by decide +kernel, by decide +kernel, by decide +kernel⟩
abbrev m_X5_open : mj_M := (yX5_open, cX5_open, 4, (some .int), RX5, false)
set_option maxRecDepth 100000 in
theorem ok_X5_open : mj_okV m_X5_open 1 := ⟨⟨mj_in 519 (by decide +kernel) rfl, mj_in 520 (by decide +kernel) rfl, mj_in 1 (by decide +kernel) rfl, mj_in 521 rfl rfl⟩, by decide +kernel, by decide +kernel, by decide +kernel⟩
abbrev m_X5_pass : mj_M := (yX5_pass, cX5_pass, 9, (some .int), RX5, false)
set_option maxRecDepth 100000 in
theorem ok_X5_pass : mj_okV m_X5_pass 6 := ⟨⟨mj_in 743 (by decide +kernel) rfl, mj_in 744 (by decide +kernel) rfl, mj_in 1 (by decide +kernel) rfl, mj_in 745 rfl rfl⟩, by decide +kernel, by decide +kernel, by decide +kernel⟩
abbrev m_X5_requireClosed : mj_M := (yX5_requireClosed, cX5_requireClosed, 2, none, RX5, false)
set_option maxRecDepth 100000 in
theorem ok_X5_requireClosed : mj_okV m_X5_requireClosed 1 := ⟨⟨mj_in 439 (by decide +kernel) rfl, mj_ip 3 (by decide +kernel) rfl, mj_in 1 (by decide +kernel) rfl, mj_in 440 rfl rfl⟩, by decide +kernel, by decide +kernel, by decide +kernel⟩
abbrev m_X5_requireLift : mj_M := (yX5_requireLift, cX5_requireLift, 2, none, RX5, false)
set_option maxRecDepth 100000 in
theorem ok_X5_requireLift : mj_okV m_X5_requireLift 1 := ⟨⟨mj_in 390 (by decide +kernel) rfl, mj_ip 1 (by decide +kernel) rfl, mj_in 1 (by decide +kernel) rfl, mj_in 391 rfl rfl⟩, by decide +kernel, by decide +kernel, by decide +kernel⟩
abbrev m_X5_requireRun : mj_M := (yX5_requireRun, cX5_requireRun, 2, none, RX5, false)
set_option maxRecDepth 100000 in
theorem ok_X5_requireRun : mj_okV m_X5_requireRun 1 := ⟨⟨mj_in 419 (by decide +kernel) rfl, mj_ip 2 (by decide +kernel) rfl, mj_in 1 (by decide +kernel) rfl, mj_in 420 rfl rfl⟩, by decide +kernel, by decide +kernel, by decide +kernel⟩
abbrev m_X5_requireWithin : mj_M := (yX5_requireWithin, cX5_requireWithin, 3, none, RX5, false)
set_option maxRecDepth 100000 in
theorem ok_X5_requireWithin : mj_okS m_X5_requireWithin 3 := ⟨⟨mj_in 298 (by decide +kernel) rfl, mj_in 1 (by decide +kernel) rfl, mj_in 299 rfl rfl⟩, by decide +kernel, by decide +kernel, by decide +kernel⟩
abbrev m_X5_run : mj_M := (yX5_run, cX5_run, 8, (some .int), RX5, false)
set_option maxRecDepth 100000 in
theorem ok_X5_run : mj_okV m_X5_run 5 := ⟨⟨mj_in 385 (by decide +kernel) rfl, mj_in 386 (by decide +kernel) rfl, mj_in 1 (by decide +kernel) rfl, mj_in 387 rfl rfl⟩, by decide +kernel, by decide +kernel, by decide +kernel⟩
abbrev m_X5_search : mj_M := (yX5_search, cX5_search, 3, (some .int), RX5, false)
set_option maxRecDepth 100000 in
theorem ok_X5_search : mj_okV m_X5_search 1 := ⟨⟨mj_in 486 (by decide +kernel) rfl, mj_in 487 (by decide +kernel) rfl, mj_in 1 (by decide +kernel) rfl, mj_in 488 rfl rfl⟩, by decide +kernel, by decide +kernel, by decide +kernel⟩
abbrev m_X5_sweep : mj_M := (yX5_sweep, cX5_sweep, 3, (some .boolean), RX5, false)
set_option maxRecDepth 100000 in
theorem ok_X5_sweep : mj_okV m_X5_sweep 1 := ⟨⟨mj_in 501 (by decide +kernel) rfl, mj_in 502 (by decide +kernel) rfl, mj_in 1 (by decide +kernel) rfl, mj_in 503 rfl rfl⟩, by decide +kernel, by decide +kernel, by decide +kernel⟩
abbrev m_X5_test : mj_M := (yX5_test, cX5_test, 3, (some .int), RX5, false)
set_option maxRecDepth 100000 in
theorem ok_X5_test : mj_okV m_X5_test 1 := ⟨⟨mj_in 491 (by decide +kernel) rfl, mj_in 492 (by decide +kernel) rfl, mj_in 1 (by decide +kernel) rfl, mj_in 493 rfl rfl⟩, by decide +kernel, by decide +kernel, by decide +kernel⟩
abbrev m_X5_turn : mj_M := (yX5_turn, cX5_turn, 4, (some .boolean), RX5, false)
set_option maxRecDepth 100000 in
theorem ok_X5_turn : mj_okV m_X5_turn 2 := ⟨⟨mj_in 410 (by decide +kernel) rfl, mj_in 411 (by decide +kernel) rfl, mj_in 1 (by decide +kernel) rfl, mj_in 412 rfl rfl⟩, by decide +kernel, by decide +kernel, by decide +kernel⟩
abbrev m_X5_wouldMake : mj_M := (yX5_wouldMake, cX5_wouldMake, 6, (some .int), RX5, false)
set_option maxRecDepth 100000 in
theorem ok_X5_wouldMake : mj_okV m_X5_wouldMake 4 := ⟨⟨mj_in 710 (by decide +kernel) rfl, mj_in 711 (by decide +kernel) rfl, mj_in 1 (by decide +kernel) rfl, mj_in 712 rfl rfl⟩, by decide +kernel, by decide +kernel, by decide +kernel⟩
abbrev m_X5_wouldRisk : mj_M := (yX5_wouldRisk, cX5_wouldRisk, 7, (some .int), RX5, false)
set_option maxRecDepth 100000 in
theorem ok_X5_wouldRisk : mj_okV m_X5_wouldRisk 4 := ⟨⟨mj_in 597 (by decide +kernel) rfl, mj_in 598 (by decide +kernel) rfl, mj_in 1 (by decide +kernel) rfl, mj_in 599 rfl rfl⟩, by decide +kernel, by decide +kernel, by decide +kernel⟩
theorem cl_L_16 : Cond.classLink RL 16 RX5 ∈ mj_TW := mj_in 17 (by decide +kernel) rfl
theorem in_X5 : Cond.instantiable RX5 4 ∈ mj_TW ∧ Cond.initialized RX5 ∈ mj_TW := ⟨mj_in 18 (by decide +kernel) rfl, mj_in 1 (by decide +kernel) rfl⟩
theorem ln_L_21 : Cond.methodLink RL 21 yX5_init ∈ mj_TW := mj_in 19 (by decide +kernel) rfl
theorem ln_X5_1 : Cond.methodLink RX5 1 ⟨"java/lang/Object", "<init>", "()V"⟩ ∈ mj_TW := mj_in 22 (by decide +kernel) rfl
theorem cl_X5_7 : Cond.classLink RX5 7 RX1 ∈ mj_TW := mj_in 25 (by decide +kernel) rfl
theorem in_X1 : Cond.instantiable RX1 16 ∈ mj_TW ∧ Cond.initialized RX1 ∈ mj_TW := ⟨mj_in 26 (by decide +kernel) rfl, mj_in 2 (by decide +kernel) rfl⟩
theorem ln_X5_9 : Cond.methodLink RX5 9 yX1_init ∈ mj_TW := mj_in 27 (by decide +kernel) rfl
theorem ln_X1_3 : Cond.methodLink RX1 3 ⟨"java/lang/Object", "<init>", "()V"⟩ ∈ mj_TW := mj_in 30 (by decide +kernel) rfl
theorem cl_X1_9 : Cond.classLink RX1 9 RX0 ∈ mj_TW := mj_in 31 (by decide +kernel) rfl
theorem in_X0 : Cond.instantiable RX0 5 ∈ mj_TW ∧ Cond.initialized RX0 ∈ mj_TW := ⟨mj_in 33 (by decide +kernel) rfl, mj_in 3 (by decide +kernel) rfl⟩
theorem ln_X0_1 : Cond.methodLink RX0 1 ⟨"java/lang/Object", "<init>", "()V"⟩ ∈ mj_TW := mj_in 37 (by decide +kernel) rfl
theorem cl_X1_18 : Cond.classLink RX1 18 RX2 ∈ mj_TW := mj_in 63 (by decide +kernel) rfl
theorem in_X2 : Cond.instantiable RX2 18 ∈ mj_TW ∧ Cond.initialized RX2 ∈ mj_TW := ⟨mj_in 65 (by decide +kernel) rfl, mj_in 4 (by decide +kernel) rfl⟩
theorem ln_X1_24 : Cond.methodLink RX1 24 yX2_init ∈ mj_TW := mj_in 66 (by decide +kernel) rfl
theorem ln_X2_3 : Cond.methodLink RX2 3 ⟨"java/lang/Object", "<init>", "()V"⟩ ∈ mj_TW := mj_in 69 (by decide +kernel) rfl
theorem cl_X2_9 : Cond.classLink RX2 9 RX3 ∈ mj_TW := mj_in 70 (by decide +kernel) rfl
theorem in_X3 : Cond.instantiable RX3 6 ∈ mj_TW ∧ Cond.initialized RX3 ∈ mj_TW := ⟨mj_in 71 (by decide +kernel) rfl, mj_in 5 (by decide +kernel) rfl⟩
theorem ln_X2_11 : Cond.methodLink RX2 11 yX3_init ∈ mj_TW := mj_in 72 (by decide +kernel) rfl
theorem ln_X3_3 : Cond.methodLink RX3 3 ⟨"java/lang/Object", "<init>", "()V"⟩ ∈ mj_TW := mj_in 75 (by decide +kernel) rfl
theorem cl_X5_22 : Cond.classLink RX5 22 RX4 ∈ mj_TW := mj_in 252 (by decide +kernel) rfl
theorem in_X4 : Cond.instantiable RX4 5 ∈ mj_TW ∧ Cond.initialized RX4 ∈ mj_TW := ⟨mj_in 253 (by decide +kernel) rfl, mj_in 6 (by decide +kernel) rfl⟩
theorem ln_X4_1 : Cond.methodLink RX4 1 ⟨"java/lang/Object", "<init>", "()V"⟩ ∈ mj_TW := mj_in 257 (by decide +kernel) rfl
theorem ln_L_26 : Cond.methodLink RL 26 yX5_lift ∈ mj_TW := mj_in 293 (by decide +kernel) rfl
theorem ln_X5_29 : Cond.methodLink RX5 29 yX5_requireWithin ∈ mj_TW := mj_in 297 (by decide +kernel) rfl
theorem ln_X5_328 : Cond.methodLink RX5 328 ⟨"java/lang/IllegalArgumentException", "<init>", "(Ljava/lang/String;)V"⟩ ∈ mj_TW := mj_in 342 (by decide +kernel) rfl
theorem ln_X5_41 : Cond.methodLink RX5 41 ⟨"java/lang/IllegalStateException", "<init>", "(Ljava/lang/String;)V"⟩ ∈ mj_TW := mj_in 378 (by decide +kernel) rfl
theorem ln_L_29 : Cond.methodLink RL 29 yX5_run ∈ mj_TW := mj_in 384 (by decide +kernel) rfl
theorem ln_X5_56 : Cond.methodLink RX5 56 yX5_requireLift ∈ mj_TW := mj_in 388 (by decide +kernel) rfl
theorem ln_X5_230 : Cond.methodLink RX5 230 ⟨"java/lang/IndexOutOfBoundsException", "<init>", "(Ljava/lang/String;)V"⟩ ∈ mj_TW := mj_in 402 (by decide +kernel) rfl
theorem ln_L_39 : Cond.methodLink RL 39 yX5_turn ∈ mj_TW := mj_in 409 (by decide +kernel) rfl
theorem ln_L_43 : Cond.methodLink RL 43 yX5_guns ∈ mj_TW := mj_in 413 (by decide +kernel) rfl
theorem ln_X5_98 : Cond.methodLink RX5 98 yX5_requireRun ∈ mj_TW := mj_in 417 (by decide +kernel) rfl
theorem ln_L_50 : Cond.methodLink RL 50 yX5_fill ∈ mj_TW := mj_in 422 (by decide +kernel) rfl
theorem ln_X5_107 : Cond.methodLink RX5 107 yJ9_min_7cf53 ∈ mj_TW := mj_in 426 (by decide +kernel) rfl
theorem ln_L_58 : Cond.methodLink RL 58 yX5_crowd ∈ mj_TW := mj_in 429 (by decide +kernel) rfl
theorem ln_L_61 : Cond.methodLink RL 61 yX5_blast ∈ mj_TW := mj_in 433 (by decide +kernel) rfl
theorem ln_X5_132 : Cond.methodLink RX5 132 yX5_requireClosed ∈ mj_TW := mj_in 437 (by decide +kernel) rfl
theorem ln_X5_143 : Cond.methodLink RX5 143 yX2_risk ∈ mj_TW := mj_in 443 (by decide +kernel) rfl
theorem ln_X2_75 : Cond.methodLink RX2 75 yX3_risk ∈ mj_TW := mj_in 447 (by decide +kernel) rfl
theorem ln_X3_62 : Cond.methodLink RX3 62 yX3_shear ∈ mj_TW := mj_in 451 (by decide +kernel) rfl
theorem ln_X3_58 : Cond.methodLink RX3 58 yX3_stress ∈ mj_TW := mj_in 455 (by decide +kernel) rfl
theorem ln_X3_38 : Cond.methodLink RX3 38 yX3_depthFrom ∈ mj_TW := mj_in 459 (by decide +kernel) rfl
theorem ln_X3_42 : Cond.methodLink RX3 42 yJ9_max_7cf53 ∈ mj_TW := mj_in 463 (by decide +kernel) rfl
theorem ln_X3_48 : Cond.methodLink RX3 48 yJ9_min_7cf53 ∈ mj_TW := mj_in 466 (by decide +kernel) rfl
theorem ln_X5_147 : Cond.methodLink RX5 147 yX1_slideOn ∈ mj_TW := mj_in 467 (by decide +kernel) rfl
theorem ln_X1_138 : Cond.methodLink RX1 138 yX2_shear ∈ mj_TW := mj_in 471 (by decide +kernel) rfl
theorem ln_X2_79 : Cond.methodLink RX2 79 yX3_shear ∈ mj_TW := mj_in 475 (by decide +kernel) rfl
theorem ln_X1_141 : Cond.methodLink RX1 141 yX2_sizeFrom ∈ mj_TW := mj_in 476 (by decide +kernel) rfl
theorem ln_X2_82 : Cond.methodLink RX2 82 yX3_depthFrom ∈ mj_TW := mj_in 480 (by decide +kernel) rfl
theorem ln_X1_145 : Cond.methodLink RX1 145 yX3_dropFrom ∈ mj_TW := mj_in 481 (by decide +kernel) rfl
theorem ln_L_64 : Cond.methodLink RL 64 yX5_search ∈ mj_TW := mj_in 485 (by decide +kernel) rfl
theorem ln_L_67 : Cond.methodLink RL 67 yX5_test ∈ mj_TW := mj_in 490 (by decide +kernel) rfl
theorem ln_X5_153 : Cond.methodLink RX5 153 yX1_wouldTell ∈ mj_TW := mj_in 494 (by decide +kernel) rfl
theorem ln_X1_105 : Cond.methodLink RX1 105 yX2_risk ∈ mj_TW := mj_in 498 (by decide +kernel) rfl
theorem ln_X1_108 : Cond.methodLink RX1 108 yJ9_max_7cf53 ∈ mj_TW := mj_in 499 (by decide +kernel) rfl
theorem ln_L_73 : Cond.methodLink RL 73 yX5_sweep ∈ mj_TW := mj_in 500 (by decide +kernel) rfl
theorem ln_L_77 : Cond.methodLink RL 77 yX5_groom ∈ mj_TW := mj_in 504 (by decide +kernel) rfl
theorem ln_X5_173 : Cond.methodLink RX5 173 yX1_clock ∈ mj_TW := mj_in 508 (by decide +kernel) rfl
theorem ln_X5_188 : Cond.methodLink RX5 188 yX3_pressTop ∈ mj_TW := mj_in 514 (by decide +kernel) rfl
theorem ln_L_84 : Cond.methodLink RL 84 yX5_open ∈ mj_TW := mj_in 518 (by decide +kernel) rfl
theorem ln_X5_191 : Cond.methodLink RX5 191 yX1_barNow ∈ mj_TW := mj_in 522 (by decide +kernel) rfl
theorem ln_X1_114 : Cond.methodLink RX1 114 yX1_isTested ∈ mj_TW := mj_in 526 (by decide +kernel) rfl
theorem ln_X1_124 : Cond.methodLink RX1 124 yX1_bar ∈ mj_TW := mj_in 530 (by decide +kernel) rfl
theorem ln_X1_128 : Cond.methodLink RX1 128 yX0_isMoving ∈ mj_TW := mj_in 534 (by decide +kernel) rfl
theorem ln_X1_93 : Cond.methodLink RX1 93 yX3_wholeDepth ∈ mj_TW := mj_in 538 (by decide +kernel) rfl
theorem ln_L_87 : Cond.methodLink RL 87 yX5_close ∈ mj_TW := mj_in 542 (by decide +kernel) rfl
theorem ln_L_33 : Cond.methodLink RL 33 yX5_ofRun ∈ mj_TW := mj_in 547 (by decide +kernel) rfl
theorem ln_X5_202 : Cond.methodLink RX5 202 yX3_wholeDepth ∈ mj_TW := mj_in 551 (by decide +kernel) rfl
theorem ln_X5_208 : Cond.methodLink RX5 208 yX5_oneIf ∈ mj_TW := mj_in 552 (by decide +kernel) rfl
theorem ln_X5_212 : Cond.methodLink RX5 212 yX2_shear ∈ mj_TW := mj_in 555 (by decide +kernel) rfl
theorem ln_X5_215 : Cond.methodLink RX5 215 yX1_isTested ∈ mj_TW := mj_in 556 (by decide +kernel) rfl
theorem ln_L_80 : Cond.methodLink RL 80 yX5_ofLayer ∈ mj_TW := mj_in 557 (by decide +kernel) rfl
theorem ln_L_36 : Cond.methodLink RL 36 yX5_ofLift ∈ mj_TW := mj_in 562 (by decide +kernel) rfl
theorem ln_X5_244 : Cond.methodLink RX5 244 yX1_openRunsOf ∈ mj_TW := mj_in 566 (by decide +kernel) rfl
theorem ln_L_46 : Cond.methodLink RL 46 yX5_many ∈ mj_TW := mj_in 571 (by decide +kernel) rfl
theorem ln_X5_248 : Cond.methodLink RX5 248 yX1_openRuns ∈ mj_TW := mj_in 575 (by decide +kernel) rfl
theorem ln_X5_264 : Cond.methodLink RX5 264 yX1_depthByArea ∈ mj_TW := mj_in 579 (by decide +kernel) rfl
theorem ln_L_101 : Cond.methodLink RL 101 yX5_digest ∈ mj_TW := mj_in 583 (by decide +kernel) rfl
theorem ct_X5_290 : Cond.constantLong RX5 290 (58212 : Int64) ∈ mj_TW := mj_in 587 (by decide +kernel) rfl
theorem ct_X5_292 : Cond.constantLong RX5 292 (31 : Int64) ∈ mj_TW := mj_in 588 (by decide +kernel) rfl
theorem ln_X5_294 : Cond.methodLink RX5 294 yX5_many ∈ mj_TW := mj_in 589 (by decide +kernel) rfl
theorem ln_X5_297 : Cond.methodLink RX5 297 yX5_ofRun ∈ mj_TW := mj_in 590 (by decide +kernel) rfl
theorem ln_X5_300 : Cond.methodLink RX5 300 yX5_digestLayers ∈ mj_TW := mj_in 591 (by decide +kernel) rfl
theorem ln_X5_320 : Cond.methodLink RX5 320 yX5_ofLayer ∈ mj_TW := mj_in 595 (by decide +kernel) rfl
theorem ln_X5_304 : Cond.methodLink RX5 304 yX5_wouldRisk ∈ mj_TW := mj_in 596 (by decide +kernel) rfl
theorem ln_X5_124 : Cond.methodLink RX5 124 yX4_tell ∈ mj_TW := mj_in 600 (by decide +kernel) rfl
theorem ln_X5_270 : Cond.methodLink RX5 270 yX1_become ∈ mj_TW := mj_in 604 (by decide +kernel) rfl
theorem ln_X1_38 : Cond.methodLink RX1 38 yX0_become ∈ mj_TW := mj_in 608 (by decide +kernel) rfl
theorem ln_X1_45 : Cond.methodLink RX1 45 yX2_become ∈ mj_TW := mj_in 612 (by decide +kernel) rfl
theorem ln_X2_22 : Cond.methodLink RX2 22 yX3_become ∈ mj_TW := mj_in 616 (by decide +kernel) rfl
theorem ln_X3_21 : Cond.methodLink RX3 21 ⟨"java/lang/System", "arraycopy", "(Ljava/lang/Object;ILjava/lang/Object;II)V"⟩ ∈ mj_TW := mj_in 620 (by decide +kernel) rfl
theorem ln_X5_128 : Cond.methodLink RX5 128 yX1_passHour ∈ mj_TW := mj_in 623 (by decide +kernel) rfl
theorem ln_X1_161 : Cond.methodLink RX1 161 yX1_clock ∈ mj_TW := mj_in 627 (by decide +kernel) rfl
theorem ln_X1_164 : Cond.methodLink RX1 164 yX2_weatherSnow ∈ mj_TW := mj_in 628 (by decide +kernel) rfl
theorem ln_X2_90 : Cond.methodLink RX2 90 yX3_comeDown ∈ mj_TW := mj_in 632 (by decide +kernel) rfl
theorem ln_X3_65 : Cond.methodLink RX3 65 yX3_topIs ∈ mj_TW := mj_in 636 (by decide +kernel) rfl
theorem ln_X3_69 : Cond.methodLink RX3 69 yX3_thicken ∈ mj_TW := mj_in 640 (by decide +kernel) rfl
theorem ln_X3_72 : Cond.methodLink RX3 72 yX3_lay ∈ mj_TW := mj_in 644 (by decide +kernel) rfl
theorem ln_X3_55 : Cond.methodLink RX3 55 yX3_joinLowest ∈ mj_TW := mj_in 648 (by decide +kernel) rfl
theorem ln_X3_76 : Cond.methodLink RX3 76 yX3_melt ∈ mj_TW := mj_in 652 (by decide +kernel) rfl
theorem ln_X3_51 : Cond.methodLink RX3 51 yX3_thin ∈ mj_TW := mj_in 656 (by decide +kernel) rfl
theorem ln_X2_100 : Cond.methodLink RX2 100 yX3_drift ∈ mj_TW := mj_in 660 (by decide +kernel) rfl
theorem ln_X2_104 : Cond.methodLink RX2 104 yX3_melt ∈ mj_TW := mj_in 664 (by decide +kernel) rfl
theorem ln_X2_108 : Cond.methodLink RX2 108 yX3_freeze ∈ mj_TW := mj_in 665 (by decide +kernel) rfl
theorem ln_X3_79 : Cond.methodLink RX3 79 yX3_changeTop ∈ mj_TW := mj_in 669 (by decide +kernel) rfl
theorem ln_X2_111 : Cond.methodLink RX2 111 yX3_growWeak ∈ mj_TW := mj_in 673 (by decide +kernel) rfl
theorem ln_X2_114 : Cond.methodLink RX2 114 yX3_settle ∈ mj_TW := mj_in 677 (by decide +kernel) rfl
theorem ln_X1_171 : Cond.methodLink RX1 171 yX1_makeSnow ∈ mj_TW := mj_in 681 (by decide +kernel) rfl
theorem ln_X1_194 : Cond.methodLink RX1 194 yJ9_min_7cf53 ∈ mj_TW := mj_in 685 (by decide +kernel) rfl
theorem ln_X1_200 : Cond.methodLink RX1 200 yX3_topIs ∈ mj_TW := mj_in 686 (by decide +kernel) rfl
theorem ln_X1_204 : Cond.methodLink RX1 204 yX3_thicken ∈ mj_TW := mj_in 687 (by decide +kernel) rfl
theorem ln_X1_207 : Cond.methodLink RX1 207 yX3_lay ∈ mj_TW := mj_in 688 (by decide +kernel) rfl
theorem ln_X1_178 : Cond.methodLink RX1 178 yX1_slideOn ∈ mj_TW := mj_in 689 (by decide +kernel) rfl
theorem ln_X1_182 : Cond.methodLink RX1 182 yX1_holdLifts ∈ mj_TW := mj_in 690 (by decide +kernel) rfl
theorem ln_X1_185 : Cond.methodLink RX1 185 yX1_carrySkiers ∈ mj_TW := mj_in 694 (by decide +kernel) rfl
theorem ln_X1_211 : Cond.methodLink RX1 211 yX1_openRunsOf ∈ mj_TW := mj_in 698 (by decide +kernel) rfl
theorem ln_X1_218 : Cond.methodLink RX1 218 yX1_shareOut ∈ mj_TW := mj_in 699 (by decide +kernel) rfl
theorem ln_X1_221 : Cond.methodLink RX1 221 yX1_skiOn ∈ mj_TW := mj_in 703 (by decide +kernel) rfl
theorem ln_X1_227 : Cond.methodLink RX1 227 yX3_thin ∈ mj_TW := mj_in 707 (by decide +kernel) rfl
theorem ln_X5_277 : Cond.methodLink RX5 277 yJ9_max_7cf53 ∈ mj_TW := mj_in 708 (by decide +kernel) rfl
theorem ln_X5_308 : Cond.methodLink RX5 308 yX5_wouldMake ∈ mj_TW := mj_in 709 (by decide +kernel) rfl
theorem ln_X5_280 : Cond.methodLink RX5 280 yX1_removeGuns ∈ mj_TW := mj_in 713 (by decide +kernel) rfl
theorem ln_X5_311 : Cond.methodLink RX5 311 yX5_ofLift ∈ mj_TW := mj_in 717 (by decide +kernel) rfl
theorem ln_X5_314 : Cond.methodLink RX5 314 yX5_nextBlast ∈ mj_TW := mj_in 718 (by decide +kernel) rfl
theorem ln_X5_283 : Cond.methodLink RX5 283 yX2_sizeFrom ∈ mj_TW := mj_in 722 (by decide +kernel) rfl
theorem ln_X5_317 : Cond.methodLink RX5 317 yX5_couldOpen ∈ mj_TW := mj_in 723 (by decide +kernel) rfl
theorem ln_X5_286 : Cond.methodLink RX5 286 yX1_bar ∈ mj_TW := mj_in 727 (by decide +kernel) rfl
theorem ln_L_9 : Cond.methodLink RL 9 yL_below ∈ mj_TW := mj_in 728 (by decide +kernel) rfl
theorem ct_L_7 : Cond.constant RL 7 (2147483647 : Int32) ∈ mj_TW := mj_in 731 (by decide +kernel) rfl
theorem ln_L_22 : Cond.methodLink RL 22 yL_cell ∈ mj_TW := mj_in 732 (by decide +kernel) rfl
theorem ct_L_8 : Cond.constant RL 8 (790386105 : Int32) ∈ mj_TW := mj_in 735 (by decide +kernel) rfl
theorem ln_L_90 : Cond.methodLink RL 90 yL_weather ∈ mj_TW := mj_in 736 (by decide +kernel) rfl
theorem ln_L_94 : Cond.methodLink RL 94 yL_pass ∈ mj_TW := mj_in 739 (by decide +kernel) rfl
theorem ln_L_15 : Cond.methodLink RL 15 yX5_pass ∈ mj_TW := mj_in 742 (by decide +kernel) rfl
theorem ln_L_97 : Cond.methodLink RL 97 yL_isSo ∈ mj_TW := mj_in 747 (by decide +kernel) rfl
theorem ln_L_105 : Cond.methodLink RL 105 yX5_nextBlast ∈ mj_TW := mj_in 750 (by decide +kernel) rfl
theorem ln_L_109 : Cond.methodLink RL 109 yX5_couldOpen ∈ mj_TW := mj_in 751 (by decide +kernel) rfl
theorem ln_L_112 : Cond.methodLink RL 112 yX5_meanDepth ∈ mj_TW := mj_in 752 (by decide +kernel) rfl
theorem ln_X5_267 : Cond.methodLink RX5 267 yX1_wholeArea ∈ mj_TW := mj_in 756 (by decide +kernel) rfl
theorem ln_L_116 : Cond.methodLink RL 116 yJ9_abs_294c1 ∈ mj_TW := mj_in 760 (by decide +kernel) rfl
theorem ln_J9_79 : Cond.methodLink RJ9 79 ⟨"java/lang/Double", "doubleToRawLongBits", "(D)J"⟩ ∈ mj_TW := mj_in 763 (by decide +kernel) rfl
theorem ct_J9_135 : Cond.constantLong RJ9 135 (9223372036854775807 : Int64) ∈ mj_TW := mj_in 766 (by decide +kernel) rfl
theorem ln_J9_166 : Cond.methodLink RJ9 166 ⟨"java/lang/Double", "longBitsToDouble", "(J)D"⟩ ∈ mj_TW := mj_in 767 (by decide +kernel) rfl
theorem ct_L_119 : Cond.constantDouble RL 119 (4547007122018943789 : UInt64) ∈ mj_TW := mj_in 770 (by decide +kernel) rfl
theorem ln_L_70 : Cond.methodLink RL 70 yJ9_abs_0f7a4 ∈ mj_TW := mj_in 771 (by decide +kernel) rfl
theorem ln_L_53 : Cond.methodLink RL 53 yJ9_min_7cf53 ∈ mj_TW := mj_in 774 (by decide +kernel) rfl
theorem aw_int : Cond.arrayClass .int ∈ mj_TW := mj_in 100 (by decide +kernel) rfl
def mj_XW (s : State) : Prop := va_Nw (.methodLinkNest RX1 17 yX0_init "Pistekeeper") s ∧ va_Nw (.methodLinkNest RX5 24 yX4_init "Pistekeeper") s ∧ va_Nw (.methodLinkNest RX1 82 yX5_oneIf "Pistekeeper") s ∧ va_AO RX0 s ∧ va_AO RX2 s
theorem mj_XW.warm {s U : State} (hW : s.WarmedH U.vm) (h : mj_XW s) : mj_XW U := by
  obtain ⟨h0, h1, h2, h3, h4⟩ := h
  exact ⟨va_Nw.warmM hW h0, va_Nw.warmM hW h1, va_Nw.warmM hW h2, va_AO.moved hW.alike h3, va_AO.moved hW.alike h4⟩
theorem mj_XW.of {A : Array Value} {s : State} (h : ∀ w ∈ lw_tbl, w.before A s = true) : mj_XW s := ⟨va_Nw.of rfl (h _ (List.mem_append_right _ (List.mem_of_getElem? (i := 34) (by decide +kernel)))), va_Nw.of rfl (h _ (List.mem_append_right _ (List.mem_of_getElem? (i := 254) (by decide +kernel)))), va_Nw.of rfl (h _ (List.mem_append_right _ (List.mem_of_getElem? (i := 570) (by decide +kernel)))), va_AO.of (h _ (List.mem_append_right _ (List.mem_of_getElem? (i := 32) (by decide +kernel)))), va_AO.of (h _ (List.mem_append_right _ (List.mem_of_getElem? (i := 64) (by decide +kernel))))⟩
end
section
/-! THE MINI MACHINE: cells by number (0: the script; each new cell the next number), ints and references in two functions of cell and place, locals as a list by place (null: nothing known); mj_W is the walk over it, for every real machine that holds it; mj_C a method's contract. -/
abbrev mj_K : Type := Nat × Nat × Nat
abbrev mj_H : Type := Nat × (Nat → mj_K) × (Nat → Nat → Int32) × (Nat → Nat → Option Nat)
def mj_t (as : List Nat) (v : Value) : Value := match v with
  | .ref k => .ref (as.getD k 0)
  | v => v
def mj_ok (n : Nat) (v : Value) : Prop := match v with
  | .ref k => k < n
  | _ => True
def mj_oks (n : Nat) : List Value → Prop
  | [] => True
  | v :: st => mj_ok n v ∧ mj_oks n st
def mj_up {α : Type} (f : Nat → Nat → α) (a k : Nat) (v : α) : Nat → Nat → α := fun b j => if b = a ∧ j = k then v else f b j
def mj_row {α : Type} (f : Nat → α) (a : Nat) (v : α) : Nat → α := fun b => if b = a then v else f b
def mj_fs (as : List Nat) (ci : Nat) (f : Nat → Int32) (g : Nat → Option Nat) : List Value :=
  (List.range (mT_N ci)).map fun k => if mT_R ci k = true then va_rf ((g k).map fun b => as.getD b 0) else .int (f k)
def mj_cell (tys : List (ClassId × FieldType)) (as : List Nat) (K : mj_K) (f : Nat → Int32) (g : Nat → Option Nat) (e : va_E) : Prop :=
  (K.1 = 0 ∧ ∃ (cA : ClassId) (t0 : Nat), tys[t0]? = some (cA, .int) ∧ e = .inl (cA, K.2.1, .inl f)) ∨
  (K.1 = 1 ∧ ∃ (cA : ClassId) (t0 : Nat), tys[t0]? = some (cA, .object (mT_C K.2.2)) ∧ e = .inl (cA, K.2.1, .inr (.inr (.inr (.inr fun j => (g j).map fun b => as.getD b 0))))) ∨
  (K.1 = 2 ∧ K.2.1 < 6 ∧ e = .inr (K.2.1, mj_fs as K.2.1 f g))
def mj_Hp (D : va_G) (b : Nat) (as : List Nat) (h : mj_H) (A : Nat → Prop) (s : State) (H : Heap) : Prop := ∃ (ws : va_W) (tys : List (ClassId × FieldType)),
  as = b :: ws.map (·.1) ∧ h.1 = ws.length + 1 ∧ (∀ k j c, h.2.2.2 k j = some c → c < h.1) ∧
  (∀ k q, ws[k]? = some q → mj_cell tys as (h.2.1 (k + 1)) (h.2.2.1 (k + 1)) (h.2.2.2 (k + 1)) q.2) ∧
  va_K D vwCl tys s ∧ va_P D vwCl ws H ∧ va_D A ws ∧ (h.2.1 0).1 = 3 ∧ va_X b (h.2.1 0).2.1 (h.2.2.1 0) s H
def mj_al (as : List Nat) : Nat → List Value → List (Nat × Value)
  | _, [] => []
  | i, v :: r => match v with
    | .null => mj_al as (i + 1) r
    | v => (i, mj_t as v) :: mj_al as (i + 1) r
def mj_X (M : mj_M) (d b B0 MC MS : Nat) (p : Program) (R : Room) (s : State) (m : MethodId) (args : Array Value) (meth : Method) (c : Code) : Prop :=
  p.tables.exec = Jvm.exec ∧ c.code = M.2.1 ∧ c.maxLocals = M.2.2.1 ∧ s.vm.findClass M.2.2.2.2.1 = some m.cls ∧ (∀ w ∈ mj_TW, w.before args s = true) ∧ mj_XW s ∧
  meth.sig.returnType = M.2.2.2.1 ∧ meth.locks = false ∧ (M.2.2.2.2.2 = true → meth.name = "<init>") ∧ d ≤ R.frames ∧ 40 * d ≤ R.locals ∧ MC ≤ R.cells ∧ MS ≤ R.slots ∧ b < B0 ∧ B0 ≤ s.heap.size
def mj_St (M : mj_M) (mc ms : Nat) (D : va_G) (b B0 MC MS : Nat) (as0 as : List Nat) (s : State) (H : Heap) (locs : List Loc) (ls : Array Slot) (cells slots : Nat) (lv st : List Value) (h : mj_H) : Prop :=
  mj_Hp D b as h (fun q => B0 ≤ q) s H ∧ va_S (fun q => B0 ≤ q) s.heap H locs ∧ (∃ ex, as = as0 ++ ex) ∧ lv_has ls M.2.2.1 (mj_al as 0 lv) ∧ mj_oks h.1 lv ∧ mj_oks h.1 st ∧ cells + mc ≤ MC ∧ slots + ms ≤ MS
def mj_ri (v : Option Value) : Instr := match v with
  | some (.int _) => .ireturn
  | some (.long _) => .lreturn
  | some (.double _) => .dreturn
  | some (.ref _) => .areturn
  | _ => .return_
def mj_rv (M : mj_M) (v : Option Value) : Prop := match v with
  | none => M.2.2.2.1 = none
  | some (.int x) => ∃ ty, M.2.2.2.1 = some ty ∧ narrow ty (.int x) = .int x
  | some (.long _) => M.2.2.2.1 = some .long
  | some (.double _) => M.2.2.2.1 = some .double
  | some (.ref _) => ∃ rt, M.2.2.2.1 = some rt ∧ ((∃ n, rt = .object n) ∨ ∃ t, rt = .array t)
  | _ => False
abbrev mj_Q : Type := Option Value → mj_H → Prop
/-- what the walk comes to at a return -/
def mj_E (M : mj_M) (Q : mj_Q) (p : Program) (l : Launch) (e : Env) (R : Room) (s : State) (m : MethodId) (args : Array Value) (below : List Frame) (meth : Method) (c : Code) (D : va_G) (b B0 MC MS : Nat) (as0 : List Nat) (QQ : State → Prop) : Prop :=
  ∀ (as : List Nat) (H : Heap) (locs : List Loc) (ls : Array Slot) (cells slots pc : Nat) (v : Option Value) (lv : List Value) (h : mj_H), Q v h → mj_rv M v → decode M.2.1 pc = .ok (mj_ri v, 1) →
    mj_St M 0 0 D b B0 MC MS as0 as s H locs ls cells slots lv v.toList h → W p l e R s m args below meth c H locs cells slots QQ (F0 m pc ls (v.toList.map (mj_t as)))
def mj_W (M : mj_M) (d mc ms : Nat) (Q : mj_Q) (pc : Nat) (lv st : List Value) (h : mj_H) : Prop :=
  ∀ (p : Program) (l : Launch) (e : Env) (R : Room) (s : State) (m : MethodId) (args : Array Value) (below : List Frame) (meth : Method) (c : Code) (D : va_G) (b B0 MC MS : Nat) (as0 : List Nat) (QQ : State → Prop),
    mj_X M d b B0 MC MS p R s m args meth c → mj_E M Q p l e R s m args below meth c D b B0 MC MS as0 QQ → ∀ (as : List Nat) (H : Heap) (locs : List Loc) (ls : Array Slot) (cells slots : Nat),
    mj_St M mc ms D b B0 MC MS as0 as s H locs ls cells slots lv st h → W p l e R s m args below meth c H locs cells slots QQ (F0 m pc ls (st.map (mj_t as)))
def mj_Pc (D : va_G) (b B0 : Nat) (as : List Nat) (args : List Value) (h : mj_H) : Array Value → State → Prop := fun a U =>
  a = (args.map (mj_t as)).toArray ∧ mj_Hp D b as h (fun q => B0 ≤ q) U U.heap ∧ mj_oks h.1 args ∧ mj_XW U ∧ b < B0 ∧ B0 ≤ U.heap.size
def mj_Qc (D : va_G) (b B0 : Nat) (as : List Nat) (Q : mj_Q) : Array Value → State → Outcome → State → Prop := fun _ st oc t =>
  (∃ (v : Option Value) (as1 : List Nat) (h1 : mj_H), oc = .returned (v.map (mj_t as1)) ∧ Q v h1 ∧ (∃ ex, as1 = as ++ ex) ∧ mj_Hp D b as1 h1 (fun q => B0 ≤ q) t t.heap ∧ mj_oks h1.1 v.toList) ∧ va_F (fun q => B0 ≤ q) st t
abbrev mj_ws (K : mj_M) : List Cond := Cond.code K.1 K.2.1 K.2.2.1 K.2.2.2.1 :: mj_TW
abbrev mj_rm (d mc ms : Nat) : Room := { frames := d, cells := mc, slots := ms, locals := 40 * d }
def mj_C (K : mj_M) (d mc ms : Nat) (args : List Value) (h : mj_H) (Q : mj_Q) : Prop :=
  ∀ (l : Launch) (D : va_G) (b B0 : Nat) (as : List Nat), Met l K.1 (mj_ws K) (mj_rm d mc ms) (mj_Pc D b B0 as args h) (mj_Qc D b B0 as Q) mc ms (fun q => B0 ≤ q)
/-! lists -/
theorem mj_t_cat (as : List Nat) (v : Value) : (mj_t as v).category = v.category := by cases v <;> rfl
theorem mj_cats (as : List Nat) (st : List Value) : ((st.map (mj_t as)).map fun v => v.category).sum = (st.map fun v => v.category).sum := by
  induction st with
  | nil => rfl
  | cons v st ih => simp only [List.map_cons, List.sum_cons, ih, mj_t_cat]
theorem mj_ok_mono {n k : Nat} (hnk : n ≤ k) {v : Value} (h : mj_ok n v) : mj_ok k v := by
  cases v <;> first | trivial | exact Nat.lt_of_lt_of_le h hnk
theorem mj_oks_mono {n k : Nat} (hnk : n ≤ k) : ∀ {st : List Value}, mj_oks n st → mj_oks k st
  | [], _ => trivial
  | _ :: _, h => ⟨mj_ok_mono hnk h.1, mj_oks_mono hnk h.2⟩
theorem mj_oks_app {n : Nat} : ∀ {a b : List Value}, mj_oks n (a ++ b) ↔ mj_oks n a ∧ mj_oks n b
  | [], b => by simp [mj_oks]
  | v :: a, b => by simp [mj_oks, mj_oks_app (a := a) (b := b), and_assoc]
theorem mj_oks_rev {n : Nat} : ∀ {a : List Value}, mj_oks n a.reverse ↔ mj_oks n a
  | [] => by simp [mj_oks]
  | v :: a => by simp [mj_oks, mj_oks_app, mj_oks_rev (a := a), and_comm]
theorem mj_oks_get {n : Nat} : ∀ {lv : List Value} {i : Nat} {v : Value}, mj_oks n lv → lv[i]? = some v → mj_ok n v
  | [], i, v, _, h => by simp at h
  | w :: lv, 0, v, h, e => by simp at e; subst e; exact h.1
  | w :: lv, i + 1, v, h, e => by simp at e; exact mj_oks_get h.2 e
theorem mj_oks_set {n : Nat} : ∀ {lv : List Value} {i : Nat} {v : Value}, mj_oks n lv → mj_ok n v → mj_oks n (lv.set i v)
  | [], i, v, h, _ => h
  | w :: lv, 0, v, h, e => ⟨e, h.2⟩
  | w :: lv, i + 1, v, h, e => ⟨h.1, mj_oks_set h.2 e⟩
theorem mj_t_app {as ex : List Nat} {v : Value} (h : mj_ok as.length v) : mj_t (as ++ ex) v = mj_t as v := by
  cases v <;> first | rfl | skip
  rename_i k
  have hk : k < as.length := h
  show Value.ref _ = Value.ref _
  rw [List.getD_eq_getElem?_getD, List.getD_eq_getElem?_getD, List.getElem?_append_left hk]
theorem mj_ts_app {as ex : List Nat} : ∀ {st : List Value}, mj_oks as.length st → st.map (mj_t (as ++ ex)) = st.map (mj_t as)
  | [], _ => rfl
  | v :: st, h => by rw [List.map_cons, List.map_cons, mj_t_app h.1, mj_ts_app h.2]
theorem mj_al_mem {as : List Nat} : ∀ (lv : List Value) (i0 : Nat) (q : Nat × Value), q ∈ mj_al as i0 lv ↔ ∃ (i : Nat) (v : Value), lv[i]? = some v ∧ v ≠ .null ∧ q = (i0 + i, mj_t as v)
  | [], i0, q => by simp [mj_al]
  | w :: lv, i0, q => by
    have ih := mj_al_mem (as := as) lv (i0 + 1) q
    by_cases hw : w = .null
    · subst hw
      rw [show mj_al as i0 (.null :: lv) = mj_al as (i0 + 1) lv from rfl, ih]
      constructor
      · rintro ⟨i, v, h1, h2, h3⟩
        exact ⟨i + 1, v, by simpa using h1, h2, by rw [h3]; congr 1; omega⟩
      · rintro ⟨i, v, h1, h2, h3⟩
        cases i with
        | zero => simp at h1; exact absurd h1.symm h2
        | succ i => exact ⟨i, v, by simpa using h1, h2, by rw [h3]; congr 1; omega⟩
    · have e : mj_al as i0 (w :: lv) = (i0, mj_t as w) :: mj_al as (i0 + 1) lv := by
        cases w <;> first | rfl | exact absurd rfl hw
      rw [e, List.mem_cons, ih]
      constructor
      · rintro (h | ⟨i, v, h1, h2, h3⟩)
        · exact ⟨0, w, by simp, hw, by rw [h]; rfl⟩
        · exact ⟨i + 1, v, by simpa using h1, h2, by rw [h3]; congr 1; omega⟩
      · rintro ⟨i, v, h1, h2, h3⟩
        cases i with
        | zero => simp at h1; subst h1; exact Or.inl h3
        | succ i => exact Or.inr ⟨i, v, by simpa using h1, h2, by rw [h3]; congr 1; omega⟩
theorem mj_al_app {as ex : List Nat} : ∀ (lv : List Value) (i0 : Nat), mj_oks as.length lv → mj_al (as ++ ex) i0 lv = mj_al as i0 lv
  | [], _, _ => rfl
  | w :: lv, i0, h => by
    have ih := mj_al_app (ex := ex) lv (i0 + 1) h.2
    have hw := mj_t_app (ex := ex) h.1
    cases w <;> first | exact ih | (show _ :: _ = _ :: _; rw [ih]; first | rfl | (rw [show mj_t (as ++ ex) _ = _ from hw]))
theorem mj_at {ls : Array Slot} {nL : Nat} {as : List Nat} {lv : List Value} (h : lv_has ls nL (mj_al as 0 lv)) {i : Nat} {v : Value} (hv : lv[i]? = some v) (hn : v ≠ .null) : ls[i]? = some (.val (mj_t as v)) := by
  have := h.2.2 (i, mj_t as v) ((mj_al_mem lv 0 _).mpr ⟨i, v, hv, hn, by rw [Nat.zero_add]⟩)
  exact this
/-- a place ahead holds no long -/
def mj_c1 (lv : List Value) (i : Nat) : Bool := match i with
  | 0 => true
  | j + 1 => match lv[j]? with
    | some w => w.category == 1
    | none => true
theorem mj_c1_spec {lv : List Value} {i j : Nat} {w : Value} (h : mj_c1 lv i = true) (hj : j + 1 = i) (hw : lv[j]? = some w) : ¬ w.category = 2 := by
  subst hj
  simp only [mj_c1, hw] at h
  have : w.category = 1 := by simpa using h
  omega
theorem mj_has_sub {ls : Array Slot} {nL : Nat} {l l' : List (Nat × Value)} (h : lv_has ls nL l) (hs : ∀ q ∈ l', q ∈ l) : lv_has ls nL l' := ⟨h.1, h.2.1, fun q hq => h.2.2 q (hs q hq)⟩
theorem mj_store1 {as : List Nat} {lv : List Value} {i : Nat} {v : Value} (hc : mj_c1 lv i = true) : ∀ q ∈ mj_al as 0 (lv.set i v), q ∈ (i, mj_t as v) :: (mj_al as 0 lv).filter (fun q => !(q.1 == i) && !(q.1 + 1 == i && q.2.category == 2)) := by
  intro q hq
  obtain ⟨j, w, h1, h2, rfl⟩ := (mj_al_mem _ 0 q).mp hq
  rw [Nat.zero_add]
  rw [List.getElem?_set] at h1
  by_cases hj : i = j
  · subst hj
    rw [if_pos rfl] at h1
    split at h1
    · cases h1; exact List.mem_cons_self
    · cases h1
  · rw [if_neg hj] at h1
    refine List.mem_cons_of_mem _ (List.mem_filter.mpr ⟨(mj_al_mem lv 0 _).mpr ⟨j, w, h1, h2, by rw [Nat.zero_add]⟩, ?_⟩)
    have hne : ¬ j = i := fun e => hj e.symm
    by_cases hji : j + 1 = i
    · have := mj_c1_spec hc hji h1
      simp [hne, mj_t_cat, this]
    · simp [hne, hji]
theorem mj_store2 {as : List Nat} {lv : List Value} {i : Nat} {v : Value} (hc : mj_c1 lv i = true) : ∀ q ∈ mj_al as 0 ((lv.set i v).set (i + 1) .null), q ∈ (i, mj_t as v) :: (mj_al as 0 lv).filter (fun q => !(q.1 == i) && (!(q.1 == i + 1) && !(q.1 + 1 == i && q.2.category == 2))) := by
  intro q hq
  obtain ⟨j, w, h1, h2, rfl⟩ := (mj_al_mem _ 0 q).mp hq
  rw [Nat.zero_add]
  rw [List.getElem?_set] at h1
  by_cases hj1 : i + 1 = j
  · rw [if_pos hj1] at h1
    split at h1
    · cases h1; exact absurd rfl h2
    · cases h1
  · rw [if_neg hj1, List.getElem?_set] at h1
    by_cases hj : i = j
    · subst hj
      rw [if_pos rfl] at h1
      split at h1
      · cases h1; exact List.mem_cons_self
      · cases h1
    · rw [if_neg hj] at h1
      refine List.mem_cons_of_mem _ (List.mem_filter.mpr ⟨(mj_al_mem lv 0 _).mpr ⟨j, w, h1, h2, by rw [Nat.zero_add]⟩, ?_⟩)
      have hne : ¬ j = i := fun e => hj e.symm
      have hne1 : ¬ j = i + 1 := fun e => hj1 e.symm
      by_cases hji : j + 1 = i
      · have := mj_c1_spec hc hji h1
        simp [hne, hne1, mj_t_cat, this]
      · simp [hne, hne1, hji]
end
section
/-! THE RULES: an instruction each, over the mini machine -/
theorem mj_rem (x y : Int32) : x - x / y * y = x % y := by
  apply Int32.toInt_inj.mp
  rw [Int32.toInt_sub, Int32.toInt_mul, Int32.toInt_div]
  rw [Int.bmod_mul_bmod, Int.sub_bmod_bmod]
  have h := Int.tmod_add_mul_tdiv x.toInt y.toInt
  have e : x.toInt - x.toInt.tdiv y.toInt * y.toInt = (x % y).toInt := by
    rw [Int32.toInt_mod, Int.mul_comm]
    omega
  rw [e, show (2 : Nat) ^ 32 = 4294967296 from rfl, Int32.toInt_bmod]
section MJ1
variable {M : mj_M} {d mc ms : Nat} {Q : mj_Q} {pc q : Nat} {lv st : List Value} {h : mj_H}
theorem mj_pure {st1 st2 : List Value}
    (hs : ∀ (p : Program) (l : Launch) (e : Env) (R : Room) (s : State) (m : MethodId) (args : Array Value) (below : List Frame) (meth : Method) (c : Code) (H : Heap) (locs : List Loc) (cells slots : Nat) (QQ : State → Prop) (ls : Array Slot) (as : List Nat), p.tables.exec = Jvm.exec → c.code = M.2.1 →
      W p l e R s m args below meth c H locs cells slots QQ (F0 m q ls (st2.map (mj_t as))) → W p l e R s m args below meth c H locs cells slots QQ (F0 m pc ls (st1.map (mj_t as))))
    (ho : ∀ n, mj_oks n st1 → mj_oks n st2) (k : mj_W M d mc ms Q q lv st2 h) : mj_W M d mc ms Q pc lv st1 h := by
  intro p l e R s m args below meth c D b B0 MC MS as0 QQ X E as H locs ls cells slots S
  obtain ⟨s1, s2, s3, s4, s5, s6, s7, s8⟩ := S
  exact hs p l e R s m args below meth c H locs cells slots QQ ls as X.1 X.2.1 (k p l e R s m args below meth c D b B0 MC MS as0 QQ X E as H locs ls cells slots ⟨s1, s2, s3, s4, s5, ho _ s6, s7, s8⟩)
theorem mj_load {i : Nat} {v : Value} (hl : lv[i]? = some v) (hn : v ≠ .null)
    (hs : ∀ (p : Program) (l : Launch) (e : Env) (R : Room) (s : State) (m : MethodId) (args : Array Value) (below : List Frame) (meth : Method) (c : Code) (H : Heap) (locs : List Loc) (cells slots : Nat) (QQ : State → Prop) (ls : Array Slot) (as : List Nat), p.tables.exec = Jvm.exec → c.code = M.2.1 → ls[i]? = some (.val (mj_t as v)) →
      W p l e R s m args below meth c H locs cells slots QQ (F0 m q ls ((v :: st).map (mj_t as))) → W p l e R s m args below meth c H locs cells slots QQ (F0 m pc ls (st.map (mj_t as))))
    (k : mj_W M d mc ms Q q lv (v :: st) h) : mj_W M d mc ms Q pc lv st h := by
  intro p l e R s m args below meth c D b B0 MC MS as0 QQ X E as H locs ls cells slots S
  obtain ⟨s1, s2, s3, s4, s5, s6, s7, s8⟩ := S
  exact hs p l e R s m args below meth c H locs cells slots QQ ls as X.1 X.2.1 (mj_at s4 hl hn) (k p l e R s m args below meth c D b B0 MC MS as0 QQ X E as H locs ls cells slots ⟨s1, s2, s3, s4, s5, ⟨mj_oks_get s5 hl, s6⟩, s7, s8⟩)
theorem mj_iadd {x y : Int32} (hd : decode M.2.1 pc = .ok (.iadd, 1)) (hq : pc + 1 = q) (k : mj_W M d mc ms Q q lv (.int (x + y) :: st) h) : mj_W M d mc ms Q pc lv (.int y :: .int x :: st) h := by
  subst hq
  exact mj_pure (st1 := .int y :: .int x :: st) (st2 := .int (x + y) :: st) (fun _ _ _ _ _ _ _ _ _ _ _ _ _ _ _ _ _ hx hb => lv_iadd hx hb hd) (fun _ h => ⟨trivial, h.2.2⟩) k
theorem mj_isub {x y : Int32} (hd : decode M.2.1 pc = .ok (.isub, 1)) (hq : pc + 1 = q) (k : mj_W M d mc ms Q q lv (.int (x - y) :: st) h) : mj_W M d mc ms Q pc lv (.int y :: .int x :: st) h := by
  subst hq
  exact mj_pure (st1 := .int y :: .int x :: st) (st2 := .int (x - y) :: st) (fun _ _ _ _ _ _ _ _ _ _ _ _ _ _ _ _ _ hx hb => lv_isub hx hb hd) (fun _ h => ⟨trivial, h.2.2⟩) k
theorem mj_imul {x y : Int32} (hd : decode M.2.1 pc = .ok (.imul, 1)) (hq : pc + 1 = q) (k : mj_W M d mc ms Q q lv (.int (x * y) :: st) h) : mj_W M d mc ms Q pc lv (.int y :: .int x :: st) h := by
  subst hq
  exact mj_pure (st1 := .int y :: .int x :: st) (st2 := .int (x * y) :: st) (fun _ _ _ _ _ _ _ _ _ _ _ _ _ _ _ _ _ hx hb => lv_imul hx hb hd) (fun _ h => ⟨trivial, h.2.2⟩) k
theorem mj_iand {x y : Int32} (hd : decode M.2.1 pc = .ok (.iand, 1)) (hq : pc + 1 = q) (k : mj_W M d mc ms Q q lv (.int (x &&& y) :: st) h) : mj_W M d mc ms Q pc lv (.int y :: .int x :: st) h := by
  subst hq
  exact mj_pure (st1 := .int y :: .int x :: st) (st2 := .int (x &&& y) :: st) (fun _ _ _ _ _ _ _ _ _ _ _ _ _ _ _ _ _ hx hb => lv_iand hx hb hd) (fun _ h => ⟨trivial, h.2.2⟩) k
theorem mj_ior {x y : Int32} (hd : decode M.2.1 pc = .ok (.ior, 1)) (hq : pc + 1 = q) (k : mj_W M d mc ms Q q lv (.int (x ||| y) :: st) h) : mj_W M d mc ms Q pc lv (.int y :: .int x :: st) h := by
  subst hq
  exact mj_pure (st1 := .int y :: .int x :: st) (st2 := .int (x ||| y) :: st) (fun _ _ _ _ _ _ _ _ _ _ _ _ _ _ _ _ _ hx hb => lv_ior hx hb hd) (fun _ h => ⟨trivial, h.2.2⟩) k
theorem mj_ladd {x y : Int64} (hd : decode M.2.1 pc = .ok (.ladd, 1)) (hq : pc + 1 = q) (k : mj_W M d mc ms Q q lv (.long (x + y) :: st) h) : mj_W M d mc ms Q pc lv (.long y :: .long x :: st) h := by
  subst hq
  exact mj_pure (st1 := .long y :: .long x :: st) (st2 := .long (x + y) :: st) (fun _ _ _ _ _ _ _ _ _ _ _ _ _ _ _ _ _ hx hb => lv_ladd hx hb hd) (fun _ h => ⟨trivial, h.2.2⟩) k
theorem mj_lmul {x y : Int64} (hd : decode M.2.1 pc = .ok (.lmul, 1)) (hq : pc + 1 = q) (k : mj_W M d mc ms Q q lv (.long (x * y) :: st) h) : mj_W M d mc ms Q pc lv (.long y :: .long x :: st) h := by
  subst hq
  exact mj_pure (st1 := .long y :: .long x :: st) (st2 := .long (x * y) :: st) (fun _ _ _ _ _ _ _ _ _ _ _ _ _ _ _ _ _ hx hb => lv_lmul hx hb hd) (fun _ h => ⟨trivial, h.2.2⟩) k
theorem mj_land {x y : Int64} (hd : decode M.2.1 pc = .ok (.land, 1)) (hq : pc + 1 = q) (k : mj_W M d mc ms Q q lv (.long (x &&& y) :: st) h) : mj_W M d mc ms Q pc lv (.long y :: .long x :: st) h := by
  subst hq
  exact mj_pure (st1 := .long y :: .long x :: st) (st2 := .long (x &&& y) :: st) (fun _ _ _ _ _ _ _ _ _ _ _ _ _ _ _ _ _ hx hb => lv_land hx hb hd) (fun _ h => ⟨trivial, h.2.2⟩) k
theorem mj_idiv {x y : Int32} (hne : ¬ y = 0) (hd : decode M.2.1 pc = .ok (.idiv, 1)) (hq : pc + 1 = q) (k : mj_W M d mc ms Q q lv (.int (x / y) :: st) h) : mj_W M d mc ms Q pc lv (.int y :: .int x :: st) h := by
  subst hq
  exact mj_pure (st1 := .int y :: .int x :: st) (st2 := .int (x / y) :: st) (fun _ _ _ _ _ _ _ _ _ _ _ _ _ _ _ _ _ hx hb => lv_idiv hx hb hd hne) (fun _ h => ⟨trivial, h.2.2⟩) k
theorem mj_irem {x y : Int32} (hne : ¬ y = 0) (hd : decode M.2.1 pc = .ok (.irem, 1)) (hq : pc + 1 = q) (k : mj_W M d mc ms Q q lv (.int (x % y) :: st) h) : mj_W M d mc ms Q pc lv (.int y :: .int x :: st) h := by
  subst hq
  exact mj_pure (st1 := .int y :: .int x :: st) (st2 := .int (x % y) :: st) (fun _ _ _ _ _ _ _ _ _ _ _ _ _ _ _ _ _ hx hb => by rw [← mj_rem]; exact lv_irem hx hb hd hne) (fun _ h => ⟨trivial, h.2.2⟩) k
theorem mj_ishl {x y : Int32} (hd : decode M.2.1 pc = .ok (.ishl, 1)) (hq : pc + 1 = q) (k : mj_W M d mc ms Q q lv (.int (x <<< (y &&& 31)) :: st) h) : mj_W M d mc ms Q pc lv (.int y :: .int x :: st) h := by
  subst hq
  exact mj_pure (st1 := .int y :: .int x :: st) (st2 := .int (x <<< (y &&& 31)) :: st) (fun _ _ _ _ _ _ _ _ _ _ _ _ _ _ _ _ _ hx hb => lv_ishl hx hb hd) (fun _ h => ⟨trivial, h.2.2⟩) k
theorem mj_ishr {x y : Int32} (hd : decode M.2.1 pc = .ok (.ishr, 1)) (hq : pc + 1 = q) (k : mj_W M d mc ms Q q lv (.int (x >>> (y &&& 31)) :: st) h) : mj_W M d mc ms Q pc lv (.int y :: .int x :: st) h := by
  subst hq
  exact mj_pure (st1 := .int y :: .int x :: st) (st2 := .int (x >>> (y &&& 31)) :: st) (fun _ _ _ _ _ _ _ _ _ _ _ _ _ _ _ _ _ hx hb => lv_ishr hx hb hd) (fun _ h => ⟨trivial, h.2.2⟩) k
theorem mj_ineg {x : Int32} (hd : decode M.2.1 pc = .ok (.ineg, 1)) (hq : pc + 1 = q) (k : mj_W M d mc ms Q q lv (.int (0 - x) :: st) h) : mj_W M d mc ms Q pc lv (.int x :: st) h := by
  subst hq
  exact mj_pure (st1 := .int x :: st) (st2 := .int (0 - x) :: st) (fun _ _ _ _ _ _ _ _ _ _ _ _ _ _ _ _ _ hx hb => lv_ineg hx hb hd) (fun _ h => ⟨trivial, h.2⟩) k
theorem mj_i2l {x : Int32} (hd : decode M.2.1 pc = .ok (.i2l, 1)) (hq : pc + 1 = q) (k : mj_W M d mc ms Q q lv (.long x.toInt64 :: st) h) : mj_W M d mc ms Q pc lv (.int x :: st) h := by
  subst hq
  exact mj_pure (st1 := .int x :: st) (st2 := .long x.toInt64 :: st) (fun _ _ _ _ _ _ _ _ _ _ _ _ _ _ _ _ _ hx hb => lv_i2l hx hb hd rfl) (fun _ h => ⟨trivial, h.2⟩) k
theorem mj_i2d {x : Int32} (hd : decode M.2.1 pc = .ok (.i2d, 1)) (hq : pc + 1 = q) (k : mj_W M d mc ms Q q lv (.double (FP.i2d x) :: st) h) : mj_W M d mc ms Q pc lv (.int x :: st) h := by
  subst hq
  exact mj_pure (st1 := .int x :: st) (st2 := .double (FP.i2d x) :: st) (fun _ _ _ _ _ _ _ _ _ _ _ _ _ _ _ _ _ hx hb => lv_i2d hx hb hd) (fun _ h => ⟨trivial, h.2⟩) k
theorem mj_iconst {n : Int} (hd : decode M.2.1 pc = .ok (.iconst n, 1)) (hq : pc + 1 = q) (k : mj_W M d mc ms Q q lv (.int (Int32.ofInt n) :: st) h) : mj_W M d mc ms Q pc lv (st) h := by
  subst hq
  exact mj_pure (st1 := st) (st2 := .int (Int32.ofInt n) :: st) (fun _ _ _ _ _ _ _ _ _ _ _ _ _ _ _ _ _ hx hb => lv_iconst hx hb hd rfl) (fun _ h => ⟨trivial, h⟩) k
theorem mj_bipush {n : Int} (hd : decode M.2.1 pc = .ok (.bipush n, 2)) (hq : pc + 2 = q) (k : mj_W M d mc ms Q q lv (.int ((Int8.ofInt n).toInt32) :: st) h) : mj_W M d mc ms Q pc lv (st) h := by
  subst hq
  exact mj_pure (st1 := st) (st2 := .int ((Int8.ofInt n).toInt32) :: st) (fun _ _ _ _ _ _ _ _ _ _ _ _ _ _ _ _ _ hx hb => lv_bipush hx hb hd rfl) (fun _ h => ⟨trivial, h⟩) k
theorem mj_sipush {n : Int} (hd : decode M.2.1 pc = .ok (.sipush n, 3)) (hq : pc + 3 = q) (k : mj_W M d mc ms Q q lv (.int ((Int16.ofInt n).toInt32) :: st) h) : mj_W M d mc ms Q pc lv (st) h := by
  subst hq
  exact mj_pure (st1 := st) (st2 := .int ((Int16.ofInt n).toInt32) :: st) (fun _ _ _ _ _ _ _ _ _ _ _ _ _ _ _ _ _ hx hb => lv_sipush hx hb hd rfl) (fun _ h => ⟨trivial, h⟩) k
theorem mj_num1 {n : Int} {v : Int32} (hv : Int32.ofInt n = v) (hd : decode M.2.1 pc = .ok (.iconst n, 1)) (hq : pc + 1 = q) (k : mj_W M d mc ms Q q lv (.int v :: st) h) : mj_W M d mc ms Q pc lv (st) h := by
  subst hq
  exact mj_pure (st1 := st) (st2 := .int v :: st) (fun _ _ _ _ _ _ _ _ _ _ _ _ _ _ _ _ _ hx hb => lv_iconst hx hb hd hv) (fun _ h => ⟨trivial, h⟩) k
theorem mj_num2 {n : Int} {v : Int32} (hv : (Int8.ofInt n).toInt32 = v) (hd : decode M.2.1 pc = .ok (.bipush n, 2)) (hq : pc + 2 = q) (k : mj_W M d mc ms Q q lv (.int v :: st) h) : mj_W M d mc ms Q pc lv (st) h := by
  subst hq
  exact mj_pure (st1 := st) (st2 := .int v :: st) (fun _ _ _ _ _ _ _ _ _ _ _ _ _ _ _ _ _ hx hb => lv_bipush hx hb hd hv) (fun _ h => ⟨trivial, h⟩) k
theorem mj_num3 {n : Int} {v : Int32} (hv : (Int16.ofInt n).toInt32 = v) (hd : decode M.2.1 pc = .ok (.sipush n, 3)) (hq : pc + 3 = q) (k : mj_W M d mc ms Q q lv (.int v :: st) h) : mj_W M d mc ms Q pc lv (st) h := by
  subst hq
  exact mj_pure (st1 := st) (st2 := .int v :: st) (fun _ _ _ _ _ _ _ _ _ _ _ _ _ _ _ _ _ hx hb => lv_sipush hx hb hd hv) (fun _ h => ⟨trivial, h⟩) k
theorem mj_dconst0  (hd : decode M.2.1 pc = .ok (.dconst 0, 1)) (hq : pc + 1 = q) (k : mj_W M d mc ms Q q lv (.double FP.dconst0 :: st) h) : mj_W M d mc ms Q pc lv (st) h := by
  subst hq
  exact mj_pure (st1 := st) (st2 := .double FP.dconst0 :: st) (fun _ _ _ _ _ _ _ _ _ _ _ _ _ _ _ _ _ hx hb => lv_dconst0 hx hb hd) (fun _ h => ⟨trivial, h⟩) k
theorem mj_dup {v : Value} (hc : v.category = 1) (hd : decode M.2.1 pc = .ok (.dup, 1)) (hq : pc + 1 = q) (k : mj_W M d mc ms Q q lv (v :: v :: st) h) : mj_W M d mc ms Q pc lv (v :: st) h := by
  subst hq
  exact mj_pure (st1 := v :: st) (st2 := v :: v :: st) (fun _ _ _ _ _ _ _ _ _ _ _ _ _ _ _ _ _ hx hb => lv_dup hx hb hd (by rw [mj_t_cat]; exact hc)) (fun _ h => ⟨h.1, h⟩) k
theorem mj_pop {v : Value} (hc : v.category = 1) (hd : decode M.2.1 pc = .ok (.pop, 1)) (hq : pc + 1 = q) (k : mj_W M d mc ms Q q lv (st) h) : mj_W M d mc ms Q pc lv (v :: st) h := by
  subst hq
  exact mj_pure (st1 := v :: st) (st2 := st) (fun _ _ _ _ _ _ _ _ _ _ _ _ _ _ _ _ _ hx hb => lv_pop hx hb hd (by rw [mj_t_cat]; exact hc)) (fun _ h => h.2) k
theorem mj_dup2 {v w : Value} (hc : v.category = 1) (hw : w.category = 1) (hd : decode M.2.1 pc = .ok (.dup2, 1)) (hq : pc + 1 = q) (k : mj_W M d mc ms Q q lv (v :: w :: v :: w :: st) h) : mj_W M d mc ms Q pc lv (v :: w :: st) h := by
  subst hq
  exact mj_pure (st1 := v :: w :: st) (st2 := v :: w :: v :: w :: st) (fun _ _ _ _ _ _ _ _ _ _ _ _ _ _ _ _ _ hx hb => lv_dup2_11 hx hb hd (by rw [mj_t_cat]; exact hc) (by rw [mj_t_cat]; exact hw)) (fun _ h => ⟨h.1, h.2.1, h⟩) k
theorem mj_lcmp {x y : Int64} (hd : decode M.2.1 pc = .ok (.lcmp, 1)) (hq : pc + 1 = q) (k : mj_W M d mc ms Q q lv (.int (lg_cmp x y) :: st) h) : mj_W M d mc ms Q pc lv (.long y :: .long x :: st) h := by
  subst hq
  exact mj_pure (st1 := .long y :: .long x :: st) (st2 := .int (lg_cmp x y) :: st) (fun _ _ _ _ _ _ _ _ _ _ _ _ _ _ _ _ _ hx hb => W.lcmp hx hb hd) (fun _ h => ⟨trivial, h.2.2⟩) k
theorem mj_dcmp {x y : UInt64} {op : CmpOp} (hd : decode M.2.1 pc = .ok (.dcmp op, 1)) (hq : pc + 1 = q) (k : mj_W M d mc ms Q q lv (.int (Op.cmpValue (FP.dcmp x y) op) :: st) h) : mj_W M d mc ms Q pc lv (.double y :: .double x :: st) h := by
  subst hq
  exact mj_pure (st1 := .double y :: .double x :: st) (st2 := .int (Op.cmpValue (FP.dcmp x y) op) :: st) (fun _ _ _ _ _ _ _ _ _ _ _ _ _ _ _ _ _ hx hb => lv_dcmp hx hb hd) (fun _ h => ⟨trivial, h.2.2⟩) k
theorem mj_dsub {x y : UInt64} (hne : vf_n64 (FP.dsub x y)) (hd : decode M.2.1 pc = .ok (.dsub, 1)) (hq : pc + 1 = q) (k : mj_W M d mc ms Q q lv (.double (FP.dsub x y) :: st) h) : mj_W M d mc ms Q pc lv (.double y :: .double x :: st) h := by
  subst hq
  exact mj_pure (st1 := .double y :: .double x :: st) (st2 := .double (FP.dsub x y) :: st) (fun _ _ _ _ _ _ _ _ _ _ _ _ _ _ _ _ _ hx hb => lv_dsub hx hb hd hne) (fun _ h => ⟨trivial, h.2.2⟩) k
theorem mj_dmul {x y : UInt64} (hne : vf_n64 (FP.dmul x y)) (hd : decode M.2.1 pc = .ok (.dmul, 1)) (hq : pc + 1 = q) (k : mj_W M d mc ms Q q lv (.double (FP.dmul x y) :: st) h) : mj_W M d mc ms Q pc lv (.double y :: .double x :: st) h := by
  subst hq
  exact mj_pure (st1 := .double y :: .double x :: st) (st2 := .double (FP.dmul x y) :: st) (fun _ _ _ _ _ _ _ _ _ _ _ _ _ _ _ _ _ hx hb => lv_dmul hx hb hd hne) (fun _ h => ⟨trivial, h.2.2⟩) k
theorem mj_ddiv {x y : UInt64} (hne : vf_n64 (FP.ddiv x y)) (hd : decode M.2.1 pc = .ok (.ddiv, 1)) (hq : pc + 1 = q) (k : mj_W M d mc ms Q q lv (.double (FP.ddiv x y) :: st) h) : mj_W M d mc ms Q pc lv (.double y :: .double x :: st) h := by
  subst hq
  exact mj_pure (st1 := .double y :: .double x :: st) (st2 := .double (FP.ddiv x y) :: st) (fun _ _ _ _ _ _ _ _ _ _ _ _ _ _ _ _ _ hx hb => lv_ddiv hx hb hd hne) (fun _ h => ⟨trivial, h.2.2⟩) k
theorem mj_iload {i : Nat} {x : Int32} (hd : decode M.2.1 pc = .ok (.iload i, 2)) (hq : pc + 2 = q) (hl : lv[i]? = some (.int x)) (k : mj_W M d mc ms Q q lv (.int x :: st) h) : mj_W M d mc ms Q pc lv st h := by
  subst hq
  exact mj_load hl (by simp) (fun _ _ _ _ _ _ _ _ _ _ _ _ _ _ _ _ _ hx hb ha => lv_iload hx hb hd ha) k
theorem mj_iload_n {i : Nat} {j : Fin 4} {x : Int32} (hd : decode M.2.1 pc = .ok (.iload_n j, 1)) (hi : (j : Nat) = i) (hq : pc + 1 = q) (hl : lv[i]? = some (.int x)) (k : mj_W M d mc ms Q q lv (.int x :: st) h) : mj_W M d mc ms Q pc lv st h := by
  subst hq
  exact mj_load hl (by simp) (fun _ _ _ _ _ _ _ _ _ _ _ _ _ _ _ _ _ hx hb ha => lv_iload_n hx hb hd hi ha) k
theorem mj_lload {i : Nat} {x : Int64} (hd : decode M.2.1 pc = .ok (.lload i, 2)) (hq : pc + 2 = q) (hl : lv[i]? = some (.long x)) (k : mj_W M d mc ms Q q lv (.long x :: st) h) : mj_W M d mc ms Q pc lv st h := by
  subst hq
  exact mj_load hl (by simp) (fun _ _ _ _ _ _ _ _ _ _ _ _ _ _ _ _ _ hx hb ha => lv_lload hx hb hd ha) k
theorem mj_lload_n {i : Nat} {j : Fin 4} {x : Int64} (hd : decode M.2.1 pc = .ok (.lload_n j, 1)) (hi : (j : Nat) = i) (hq : pc + 1 = q) (hl : lv[i]? = some (.long x)) (k : mj_W M d mc ms Q q lv (.long x :: st) h) : mj_W M d mc ms Q pc lv st h := by
  subst hq
  exact mj_load hl (by simp) (fun _ _ _ _ _ _ _ _ _ _ _ _ _ _ _ _ _ hx hb ha => lv_lload_n hx hb hd hi ha) k
theorem mj_aload {i : Nat} {x : Nat} (hd : decode M.2.1 pc = .ok (.aload i, 2)) (hq : pc + 2 = q) (hl : lv[i]? = some (.ref x)) (k : mj_W M d mc ms Q q lv (.ref x :: st) h) : mj_W M d mc ms Q pc lv st h := by
  subst hq
  exact mj_load hl (by simp) (fun _ _ _ _ _ _ _ _ _ _ _ _ _ _ _ _ _ hx hb ha => lv_aload hx hb hd ha) k
theorem mj_aload_n {i : Nat} {j : Fin 4} {x : Nat} (hd : decode M.2.1 pc = .ok (.aload_n j, 1)) (hi : (j : Nat) = i) (hq : pc + 1 = q) (hl : lv[i]? = some (.ref x)) (k : mj_W M d mc ms Q q lv (.ref x :: st) h) : mj_W M d mc ms Q pc lv st h := by
  subst hq
  exact mj_load hl (by simp) (fun _ _ _ _ _ _ _ _ _ _ _ _ _ _ _ _ _ hx hb ha => lv_aload_n hx hb hd hi ha) k
theorem mj_dload {i : Nat} {x : UInt64} (hd : decode M.2.1 pc = .ok (.dload i, 2)) (hq : pc + 2 = q) (hl : lv[i]? = some (.double x)) (k : mj_W M d mc ms Q q lv (.double x :: st) h) : mj_W M d mc ms Q pc lv st h := by
  subst hq
  exact mj_load hl (by simp) (fun _ _ _ _ _ _ _ _ _ _ _ _ _ _ _ _ _ hx hb ha => lv_dload hx hb hd ha) k
theorem mj_dload_n {i : Nat} {j : Fin 4} {x : UInt64} (hd : decode M.2.1 pc = .ok (.dload_n j, 1)) (hi : (j : Nat) = i) (hq : pc + 1 = q) (hl : lv[i]? = some (.double x)) (k : mj_W M d mc ms Q q lv (.double x :: st) h) : mj_W M d mc ms Q pc lv st h := by
  subst hq
  exact mj_load hl (by simp) (fun _ _ _ _ _ _ _ _ _ _ _ _ _ _ _ _ _ hx hb ha => lv_dload_n hx hb hd hi ha) k
theorem mj_istore {i : Nat} {x : Int32} (hd : decode M.2.1 pc = .ok (.istore i, 2)) (hq : pc + 2 = q) (hlt : i < M.2.2.1) (hc : mj_c1 lv i = true) (k : mj_W M d mc ms Q q (lv.set i (.int x)) st h) : mj_W M d mc ms Q pc lv (.int x :: st) h := by
  subst hq
  intro p l e R s m args below meth c D b B0 MC MS as0 QQ X E as H locs ls cells slots S
  obtain ⟨s1, s2, s3, s4, s5, s6, s7, s8⟩ := S
  exact lv_istore X.1 X.2.1 hd s4 hlt rfl (fun ls' hl' => k p l e R s m args below meth c D b B0 MC MS as0 QQ X E as H locs ls' cells slots ⟨s1, s2, s3, mj_has_sub hl' (mj_store1 hc), mj_oks_set s5 trivial, s6.2, s7, s8⟩)
theorem mj_istore_n {i : Nat} {j : Fin 4} {x : Int32} (hd : decode M.2.1 pc = .ok (.istore_n j, 1)) (hi : (j : Nat) = i) (hq : pc + 1 = q) (hlt : i < M.2.2.1) (hc : mj_c1 lv i = true) (k : mj_W M d mc ms Q q (lv.set i (.int x)) st h) : mj_W M d mc ms Q pc lv (.int x :: st) h := by
  subst hq
  intro p l e R s m args below meth c D b B0 MC MS as0 QQ X E as H locs ls cells slots S
  obtain ⟨s1, s2, s3, s4, s5, s6, s7, s8⟩ := S
  exact lv_istore_n X.1 X.2.1 hd hi s4 hlt rfl (fun ls' hl' => k p l e R s m args below meth c D b B0 MC MS as0 QQ X E as H locs ls' cells slots ⟨s1, s2, s3, mj_has_sub hl' (mj_store1 hc), mj_oks_set s5 trivial, s6.2, s7, s8⟩)
theorem mj_lstore {i : Nat} {x : Int64} (hd : decode M.2.1 pc = .ok (.lstore i, 2)) (hq : pc + 2 = q) (hlt : i + 1 < M.2.2.1) (hc : mj_c1 lv i = true) (k : mj_W M d mc ms Q q ((lv.set i (.long x)).set (i + 1) .null) st h) : mj_W M d mc ms Q pc lv (.long x :: st) h := by
  subst hq
  intro p l e R s m args below meth c D b B0 MC MS as0 QQ X E as H locs ls cells slots S
  obtain ⟨s1, s2, s3, s4, s5, s6, s7, s8⟩ := S
  exact lv_lstore X.1 X.2.1 hd s4 hlt rfl (fun ls' hl' => k p l e R s m args below meth c D b B0 MC MS as0 QQ X E as H locs ls' cells slots ⟨s1, s2, s3, mj_has_sub hl' (mj_store2 hc), mj_oks_set (mj_oks_set s5 trivial) trivial, s6.2, s7, s8⟩)
theorem mj_lstore_n {i : Nat} {j : Fin 4} {x : Int64} (hd : decode M.2.1 pc = .ok (.lstore_n j, 1)) (hi : (j : Nat) = i) (hq : pc + 1 = q) (hlt : i + 1 < M.2.2.1) (hc : mj_c1 lv i = true) (k : mj_W M d mc ms Q q ((lv.set i (.long x)).set (i + 1) .null) st h) : mj_W M d mc ms Q pc lv (.long x :: st) h := by
  subst hq
  intro p l e R s m args below meth c D b B0 MC MS as0 QQ X E as H locs ls cells slots S
  obtain ⟨s1, s2, s3, s4, s5, s6, s7, s8⟩ := S
  exact lv_lstore_n X.1 X.2.1 hd hi s4 hlt rfl (fun ls' hl' => k p l e R s m args below meth c D b B0 MC MS as0 QQ X E as H locs ls' cells slots ⟨s1, s2, s3, mj_has_sub hl' (mj_store2 hc), mj_oks_set (mj_oks_set s5 trivial) trivial, s6.2, s7, s8⟩)
theorem mj_astore {i : Nat} {x : Nat} (hd : decode M.2.1 pc = .ok (.astore i, 2)) (hq : pc + 2 = q) (hlt : i < M.2.2.1) (hc : mj_c1 lv i = true) (k : mj_W M d mc ms Q q (lv.set i (.ref x)) st h) : mj_W M d mc ms Q pc lv (.ref x :: st) h := by
  subst hq
  intro p l e R s m args below meth c D b B0 MC MS as0 QQ X E as H locs ls cells slots S
  obtain ⟨s1, s2, s3, s4, s5, s6, s7, s8⟩ := S
  exact lv_astore X.1 X.2.1 hd s4 hlt rfl (fun ls' hl' => k p l e R s m args below meth c D b B0 MC MS as0 QQ X E as H locs ls' cells slots ⟨s1, s2, s3, mj_has_sub hl' (mj_store1 hc), mj_oks_set s5 s6.1, s6.2, s7, s8⟩)
theorem mj_astore_n {i : Nat} {j : Fin 4} {x : Nat} (hd : decode M.2.1 pc = .ok (.astore_n j, 1)) (hi : (j : Nat) = i) (hq : pc + 1 = q) (hlt : i < M.2.2.1) (hc : mj_c1 lv i = true) (k : mj_W M d mc ms Q q (lv.set i (.ref x)) st h) : mj_W M d mc ms Q pc lv (.ref x :: st) h := by
  subst hq
  intro p l e R s m args below meth c D b B0 MC MS as0 QQ X E as H locs ls cells slots S
  obtain ⟨s1, s2, s3, s4, s5, s6, s7, s8⟩ := S
  exact lv_astore_n X.1 X.2.1 hd hi s4 hlt rfl (fun ls' hl' => k p l e R s m args below meth c D b B0 MC MS as0 QQ X E as H locs ls' cells slots ⟨s1, s2, s3, mj_has_sub hl' (mj_store1 hc), mj_oks_set s5 s6.1, s6.2, s7, s8⟩)
theorem mj_dstore {i : Nat} {x : UInt64} (hd : decode M.2.1 pc = .ok (.dstore i, 2)) (hq : pc + 2 = q) (hlt : i + 1 < M.2.2.1) (hc : mj_c1 lv i = true) (k : mj_W M d mc ms Q q ((lv.set i (.double x)).set (i + 1) .null) st h) : mj_W M d mc ms Q pc lv (.double x :: st) h := by
  subst hq
  intro p l e R s m args below meth c D b B0 MC MS as0 QQ X E as H locs ls cells slots S
  obtain ⟨s1, s2, s3, s4, s5, s6, s7, s8⟩ := S
  exact lv_dstore X.1 X.2.1 hd s4 hlt rfl (fun ls' hl' => k p l e R s m args below meth c D b B0 MC MS as0 QQ X E as H locs ls' cells slots ⟨s1, s2, s3, mj_has_sub hl' (mj_store2 hc), mj_oks_set (mj_oks_set s5 trivial) trivial, s6.2, s7, s8⟩)
theorem mj_dstore_n {i : Nat} {j : Fin 4} {x : UInt64} (hd : decode M.2.1 pc = .ok (.dstore_n j, 1)) (hi : (j : Nat) = i) (hq : pc + 1 = q) (hlt : i + 1 < M.2.2.1) (hc : mj_c1 lv i = true) (k : mj_W M d mc ms Q q ((lv.set i (.double x)).set (i + 1) .null) st h) : mj_W M d mc ms Q pc lv (.double x :: st) h := by
  subst hq
  intro p l e R s m args below meth c D b B0 MC MS as0 QQ X E as H locs ls cells slots S
  obtain ⟨s1, s2, s3, s4, s5, s6, s7, s8⟩ := S
  exact lv_dstore_n X.1 X.2.1 hd hi s4 hlt rfl (fun ls' hl' => k p l e R s m args below meth c D b B0 MC MS as0 QQ X E as H locs ls' cells slots ⟨s1, s2, s3, mj_has_sub hl' (mj_store2 hc), mj_oks_set (mj_oks_set s5 trivial) trivial, s6.2, s7, s8⟩)
theorem mj_iinc {i : Nat} {n : Int} {x : Int32} (hd : decode M.2.1 pc = .ok (.iinc i n, 3)) (hq : pc + 3 = q) (hl : lv[i]? = some (.int x)) (hlt : i < M.2.2.1) (hc : mj_c1 lv i = true) (k : mj_W M d mc ms Q q (lv.set i (.int (x + Int32.ofInt n))) st h) : mj_W M d mc ms Q pc lv st h := by
  subst hq
  intro p l e R s m args below meth c D b B0 MC MS as0 QQ X E as H locs ls cells slots S
  obtain ⟨s1, s2, s3, s4, s5, s6, s7, s8⟩ := S
  obtain ⟨j, hj⟩ := List.mem_iff_getElem?.mp ((mj_al_mem (as := as) lv 0 (i, .int x)).mpr ⟨i, .int x, hl, by simp, by rw [Nat.zero_add]; rfl⟩)
  exact lv_iinc X.1 X.2.1 hd s4 hj rfl hlt rfl (fun ls' hl' => k p l e R s m args below meth c D b B0 MC MS as0 QQ X E as H locs ls' cells slots ⟨s1, s2, s3, mj_has_sub hl' (mj_store1 hc), mj_oks_set s5 trivial, s6, s7, s8⟩)
theorem mj_goto {off : Int} (hd : decode M.2.1 pc = .ok (.goto off, 3)) (ht : (pc : Int) + off = (q : Int)) (k : mj_W M d mc ms Q q lv st h) : mj_W M d mc ms Q pc lv st h := mj_pure (fun _ _ _ _ _ _ _ _ _ _ _ _ _ _ _ _ _ hx hb => lv_goto hx hb hd ht) (fun _ h => h) k
theorem mj_if_eq {x : Int32} {off : Int} {tgt : Nat} (hd : decode M.2.1 pc = .ok (.ifCond .eq off, 3)) (ht : (pc : Int) + off = (tgt : Int)) (hq : pc + 3 = q) (kt : x = 0 → mj_W M d mc ms Q tgt lv st h) (kf : ¬ x = 0 → mj_W M d mc ms Q q lv st h) : mj_W M d mc ms Q pc lv (.int x :: st) h := by
  subst hq
  intro p l e R s m args below meth c D b B0 MC MS as0 QQ X E as H locs ls cells slots S
  obtain ⟨s1, s2, s3, s4, s5, s6, s7, s8⟩ := S
  exact lv_if_eq X.1 X.2.1 hd ht (fun hh => kt hh p l e R s m args below meth c D b B0 MC MS as0 QQ X E as H locs ls cells slots ⟨s1, s2, s3, s4, s5, s6.2, s7, s8⟩) (fun hh => kf hh p l e R s m args below meth c D b B0 MC MS as0 QQ X E as H locs ls cells slots ⟨s1, s2, s3, s4, s5, s6.2, s7, s8⟩)
theorem mj_if_lt {x : Int32} {off : Int} {tgt : Nat} (hd : decode M.2.1 pc = .ok (.ifCond .lt off, 3)) (ht : (pc : Int) + off = (tgt : Int)) (hq : pc + 3 = q) (kt : x < 0 → mj_W M d mc ms Q tgt lv st h) (kf : ¬ x < 0 → mj_W M d mc ms Q q lv st h) : mj_W M d mc ms Q pc lv (.int x :: st) h := by
  subst hq
  intro p l e R s m args below meth c D b B0 MC MS as0 QQ X E as H locs ls cells slots S
  obtain ⟨s1, s2, s3, s4, s5, s6, s7, s8⟩ := S
  exact lv_if_lt X.1 X.2.1 hd ht (fun hh => kt hh p l e R s m args below meth c D b B0 MC MS as0 QQ X E as H locs ls cells slots ⟨s1, s2, s3, s4, s5, s6.2, s7, s8⟩) (fun hh => kf hh p l e R s m args below meth c D b B0 MC MS as0 QQ X E as H locs ls cells slots ⟨s1, s2, s3, s4, s5, s6.2, s7, s8⟩)
theorem mj_if_ge {x : Int32} {off : Int} {tgt : Nat} (hd : decode M.2.1 pc = .ok (.ifCond .ge off, 3)) (ht : (pc : Int) + off = (tgt : Int)) (hq : pc + 3 = q) (kt : 0 ≤ x → mj_W M d mc ms Q tgt lv st h) (kf : ¬ 0 ≤ x → mj_W M d mc ms Q q lv st h) : mj_W M d mc ms Q pc lv (.int x :: st) h := by
  subst hq
  intro p l e R s m args below meth c D b B0 MC MS as0 QQ X E as H locs ls cells slots S
  obtain ⟨s1, s2, s3, s4, s5, s6, s7, s8⟩ := S
  exact lv_if_ge X.1 X.2.1 hd ht (fun hh => kt hh p l e R s m args below meth c D b B0 MC MS as0 QQ X E as H locs ls cells slots ⟨s1, s2, s3, s4, s5, s6.2, s7, s8⟩) (fun hh => kf hh p l e R s m args below meth c D b B0 MC MS as0 QQ X E as H locs ls cells slots ⟨s1, s2, s3, s4, s5, s6.2, s7, s8⟩)
theorem mj_if_gt {x : Int32} {off : Int} {tgt : Nat} (hd : decode M.2.1 pc = .ok (.ifCond .gt off, 3)) (ht : (pc : Int) + off = (tgt : Int)) (hq : pc + 3 = q) (kt : 0 < x → mj_W M d mc ms Q tgt lv st h) (kf : ¬ 0 < x → mj_W M d mc ms Q q lv st h) : mj_W M d mc ms Q pc lv (.int x :: st) h := by
  subst hq
  intro p l e R s m args below meth c D b B0 MC MS as0 QQ X E as H locs ls cells slots S
  obtain ⟨s1, s2, s3, s4, s5, s6, s7, s8⟩ := S
  exact lv_if_gt X.1 X.2.1 hd ht (fun hh => kt hh p l e R s m args below meth c D b B0 MC MS as0 QQ X E as H locs ls cells slots ⟨s1, s2, s3, s4, s5, s6.2, s7, s8⟩) (fun hh => kf hh p l e R s m args below meth c D b B0 MC MS as0 QQ X E as H locs ls cells slots ⟨s1, s2, s3, s4, s5, s6.2, s7, s8⟩)
theorem mj_if_le {x : Int32} {off : Int} {tgt : Nat} (hd : decode M.2.1 pc = .ok (.ifCond .le off, 3)) (ht : (pc : Int) + off = (tgt : Int)) (hq : pc + 3 = q) (kt : x ≤ 0 → mj_W M d mc ms Q tgt lv st h) (kf : ¬ x ≤ 0 → mj_W M d mc ms Q q lv st h) : mj_W M d mc ms Q pc lv (.int x :: st) h := by
  subst hq
  intro p l e R s m args below meth c D b B0 MC MS as0 QQ X E as H locs ls cells slots S
  obtain ⟨s1, s2, s3, s4, s5, s6, s7, s8⟩ := S
  exact lv_if_le X.1 X.2.1 hd ht (fun hh => kt hh p l e R s m args below meth c D b B0 MC MS as0 QQ X E as H locs ls cells slots ⟨s1, s2, s3, s4, s5, s6.2, s7, s8⟩) (fun hh => kf hh p l e R s m args below meth c D b B0 MC MS as0 QQ X E as H locs ls cells slots ⟨s1, s2, s3, s4, s5, s6.2, s7, s8⟩)
theorem mj_icmp_eq {x y : Int32} {off : Int} {tgt : Nat} (hd : decode M.2.1 pc = .ok (.if_icmp .eq off, 3)) (ht : (pc : Int) + off = (tgt : Int)) (hq : pc + 3 = q) (kt : x = y → mj_W M d mc ms Q tgt lv st h) (kf : ¬ x = y → mj_W M d mc ms Q q lv st h) : mj_W M d mc ms Q pc lv (.int y :: .int x :: st) h := by
  subst hq
  intro p l e R s m args below meth c D b B0 MC MS as0 QQ X E as H locs ls cells slots S
  obtain ⟨s1, s2, s3, s4, s5, s6, s7, s8⟩ := S
  exact lv_icmp_eq X.1 X.2.1 hd ht (fun hh => kt hh p l e R s m args below meth c D b B0 MC MS as0 QQ X E as H locs ls cells slots ⟨s1, s2, s3, s4, s5, s6.2.2, s7, s8⟩) (fun hh => kf hh p l e R s m args below meth c D b B0 MC MS as0 QQ X E as H locs ls cells slots ⟨s1, s2, s3, s4, s5, s6.2.2, s7, s8⟩)
theorem mj_icmp_lt {x y : Int32} {off : Int} {tgt : Nat} (hd : decode M.2.1 pc = .ok (.if_icmp .lt off, 3)) (ht : (pc : Int) + off = (tgt : Int)) (hq : pc + 3 = q) (kt : x < y → mj_W M d mc ms Q tgt lv st h) (kf : ¬ x < y → mj_W M d mc ms Q q lv st h) : mj_W M d mc ms Q pc lv (.int y :: .int x :: st) h := by
  subst hq
  intro p l e R s m args below meth c D b B0 MC MS as0 QQ X E as H locs ls cells slots S
  obtain ⟨s1, s2, s3, s4, s5, s6, s7, s8⟩ := S
  exact lv_icmp_lt X.1 X.2.1 hd ht (fun hh => kt hh p l e R s m args below meth c D b B0 MC MS as0 QQ X E as H locs ls cells slots ⟨s1, s2, s3, s4, s5, s6.2.2, s7, s8⟩) (fun hh => kf hh p l e R s m args below meth c D b B0 MC MS as0 QQ X E as H locs ls cells slots ⟨s1, s2, s3, s4, s5, s6.2.2, s7, s8⟩)
theorem mj_icmp_ge {x y : Int32} {off : Int} {tgt : Nat} (hd : decode M.2.1 pc = .ok (.if_icmp .ge off, 3)) (ht : (pc : Int) + off = (tgt : Int)) (hq : pc + 3 = q) (kt : y ≤ x → mj_W M d mc ms Q tgt lv st h) (kf : ¬ y ≤ x → mj_W M d mc ms Q q lv st h) : mj_W M d mc ms Q pc lv (.int y :: .int x :: st) h := by
  subst hq
  intro p l e R s m args below meth c D b B0 MC MS as0 QQ X E as H locs ls cells slots S
  obtain ⟨s1, s2, s3, s4, s5, s6, s7, s8⟩ := S
  exact lv_icmp_ge X.1 X.2.1 hd ht (fun hh => kt hh p l e R s m args below meth c D b B0 MC MS as0 QQ X E as H locs ls cells slots ⟨s1, s2, s3, s4, s5, s6.2.2, s7, s8⟩) (fun hh => kf hh p l e R s m args below meth c D b B0 MC MS as0 QQ X E as H locs ls cells slots ⟨s1, s2, s3, s4, s5, s6.2.2, s7, s8⟩)
theorem mj_icmp_gt {x y : Int32} {off : Int} {tgt : Nat} (hd : decode M.2.1 pc = .ok (.if_icmp .gt off, 3)) (ht : (pc : Int) + off = (tgt : Int)) (hq : pc + 3 = q) (kt : y < x → mj_W M d mc ms Q tgt lv st h) (kf : ¬ y < x → mj_W M d mc ms Q q lv st h) : mj_W M d mc ms Q pc lv (.int y :: .int x :: st) h := by
  subst hq
  intro p l e R s m args below meth c D b B0 MC MS as0 QQ X E as H locs ls cells slots S
  obtain ⟨s1, s2, s3, s4, s5, s6, s7, s8⟩ := S
  exact lv_icmp_gt X.1 X.2.1 hd ht (fun hh => kt hh p l e R s m args below meth c D b B0 MC MS as0 QQ X E as H locs ls cells slots ⟨s1, s2, s3, s4, s5, s6.2.2, s7, s8⟩) (fun hh => kf hh p l e R s m args below meth c D b B0 MC MS as0 QQ X E as H locs ls cells slots ⟨s1, s2, s3, s4, s5, s6.2.2, s7, s8⟩)
theorem mj_icmp_le {x y : Int32} {off : Int} {tgt : Nat} (hd : decode M.2.1 pc = .ok (.if_icmp .le off, 3)) (ht : (pc : Int) + off = (tgt : Int)) (hq : pc + 3 = q) (kt : x ≤ y → mj_W M d mc ms Q tgt lv st h) (kf : ¬ x ≤ y → mj_W M d mc ms Q q lv st h) : mj_W M d mc ms Q pc lv (.int y :: .int x :: st) h := by
  subst hq
  intro p l e R s m args below meth c D b B0 MC MS as0 QQ X E as H locs ls cells slots S
  obtain ⟨s1, s2, s3, s4, s5, s6, s7, s8⟩ := S
  exact lv_icmp_le X.1 X.2.1 hd ht (fun hh => kt hh p l e R s m args below meth c D b B0 MC MS as0 QQ X E as H locs ls cells slots ⟨s1, s2, s3, s4, s5, s6.2.2, s7, s8⟩) (fun hh => kf hh p l e R s m args below meth c D b B0 MC MS as0 QQ X E as H locs ls cells slots ⟨s1, s2, s3, s4, s5, s6.2.2, s7, s8⟩)
theorem mj_if_ne {x : Int32} {off : Int} {tgt : Nat} (hd : decode M.2.1 pc = .ok (.ifCond .ne off, 3)) (ht : (pc : Int) + off = (tgt : Int)) (hq : pc + 3 = q) (kt : ¬ x = 0 → mj_W M d mc ms Q tgt lv st h) (kf : x = 0 → mj_W M d mc ms Q q lv st h) : mj_W M d mc ms Q pc lv (.int x :: st) h := by
  subst hq
  intro p l e R s m args below meth c D b B0 MC MS as0 QQ X E as H locs ls cells slots S
  obtain ⟨s1, s2, s3, s4, s5, s6, s7, s8⟩ := S
  exact lv_if_ne X.1 X.2.1 hd ht (fun hh => kt hh p l e R s m args below meth c D b B0 MC MS as0 QQ X E as H locs ls cells slots ⟨s1, s2, s3, s4, s5, s6.2, s7, s8⟩) (fun hh => kf hh p l e R s m args below meth c D b B0 MC MS as0 QQ X E as H locs ls cells slots ⟨s1, s2, s3, s4, s5, s6.2, s7, s8⟩)
theorem mj_icmp_ne {x y : Int32} {off : Int} {tgt : Nat} (hd : decode M.2.1 pc = .ok (.if_icmp .ne off, 3)) (ht : (pc : Int) + off = (tgt : Int)) (hq : pc + 3 = q) (kt : ¬ x = y → mj_W M d mc ms Q tgt lv st h) (kf : x = y → mj_W M d mc ms Q q lv st h) : mj_W M d mc ms Q pc lv (.int y :: .int x :: st) h := by
  subst hq
  intro p l e R s m args below meth c D b B0 MC MS as0 QQ X E as H locs ls cells slots S
  obtain ⟨s1, s2, s3, s4, s5, s6, s7, s8⟩ := S
  exact lv_icmp_ne X.1 X.2.1 hd ht (fun hh => kt hh p l e R s m args below meth c D b B0 MC MS as0 QQ X E as H locs ls cells slots ⟨s1, s2, s3, s4, s5, s6.2.2, s7, s8⟩) (fun hh => kf hh p l e R s m args below meth c D b B0 MC MS as0 QQ X E as H locs ls cells slots ⟨s1, s2, s3, s4, s5, s6.2.2, s7, s8⟩)
theorem mj_tabIn {dflt lo hi : Int} {offs : Array Int} {len : Nat} {x : Int32} {off : Int} (hd : decode M.2.1 pc = .ok (.tableswitch dflt lo hi offs, len)) (h1 : ¬ x.toInt < lo) (h2 : ¬ hi < x.toInt) (ho : offs[(x.toInt - lo).toNat]? = some off) (ht : (pc : Int) + off = (q : Int)) (k : mj_W M d mc ms Q q lv st h) : mj_W M d mc ms Q pc lv (.int x :: st) h := mj_pure (fun _ _ _ _ _ _ _ _ _ _ _ _ _ _ _ _ _ hx hb => lv_tableIn hx hb hd h1 h2 ho ht) (fun _ h => h.2) k
theorem mj_tabOut {dflt lo hi : Int} {offs : Array Int} {len : Nat} {x : Int32} (hd : decode M.2.1 pc = .ok (.tableswitch dflt lo hi offs, len)) (h1 : x.toInt < lo ∨ hi < x.toInt) (ht : (pc : Int) + dflt = (q : Int)) (k : mj_W M d mc ms Q q lv st h) : mj_W M d mc ms Q pc lv (.int x :: st) h := mj_pure (fun _ _ _ _ _ _ _ _ _ _ _ _ _ _ _ _ _ hx hb => lv_tableOut hx hb hd h1 ht) (fun _ h => h.2) k
theorem mj_ret {v : Option Value} (hd : decode M.2.1 pc = .ok (mj_ri v, 1)) (hr : mj_rv M v) (hq : Q v h) : mj_W M d mc ms Q pc lv v.toList h := by
  intro p l e R s m args below meth c D b B0 MC MS as0 QQ X E as H locs ls cells slots S
  obtain ⟨s1, s2, s3, s4, s5, s6, s7, s8⟩ := S
  exact E as H locs ls cells slots pc v lv h hq hr hd ⟨s1, s2, s3, s4, s5, s6, by omega, by omega⟩
theorem mj_ireturn {x : Int32} (hd : decode M.2.1 pc = .ok (.ireturn, 1)) (hr : ∃ ty, M.2.2.2.1 = some ty ∧ narrow ty (.int x) = .int x) (hq : Q (some (.int x)) h) : mj_W M d mc ms Q pc lv [.int x] h := mj_ret (v := some (.int x)) hd hr hq
theorem mj_lreturn {x : Int64} (hd : decode M.2.1 pc = .ok (.lreturn, 1)) (hr : M.2.2.2.1 = some .long) (hq : Q (some (.long x)) h) : mj_W M d mc ms Q pc lv [.long x] h := mj_ret (v := some (.long x)) hd hr hq
theorem mj_dreturn {x : UInt64} (hd : decode M.2.1 pc = .ok (.dreturn, 1)) (hr : M.2.2.2.1 = some .double) (hq : Q (some (.double x)) h) : mj_W M d mc ms Q pc lv [.double x] h := mj_ret (v := some (.double x)) hd hr hq
theorem mj_areturn {x : Nat} (hd : decode M.2.1 pc = .ok (.areturn, 1)) (hr : ∃ rt, M.2.2.2.1 = some rt ∧ ((∃ n, rt = .object n) ∨ ∃ t, rt = .array t)) (hq : Q (some (.ref x)) h) : mj_W M d mc ms Q pc lv [.ref x] h := mj_ret (v := some (.ref x)) hd hr hq
theorem mj_return {h : mj_H} (hd : decode M.2.1 pc = .ok (.return_, 1)) (hr : M.2.2.2.1 = none) (hq : Q none h) : mj_W M d mc ms Q pc lv [] h := mj_ret (v := none) hd hr hq
theorem mj_budget {mc1 ms1 : Nat} (h1 : mc1 ≤ mc) (h2 : ms1 ≤ ms) (k : mj_W M d mc1 ms1 Q pc lv st h) : mj_W M d mc ms Q pc lv st h := by
  intro p l e R s m args below meth c D b B0 MC MS as0 QQ X E as H locs ls cells slots S
  obtain ⟨s1, s2, s3, s4, s5, s6, s7, s8⟩ := S
  exact k p l e R s m args below meth c D b B0 MC MS as0 QQ X E as H locs ls cells slots ⟨s1, s2, s3, s4, s5, s6, by omega, by omega⟩
theorem mj_mono {Q1 : mj_Q} (hQ : ∀ v h1, Q1 v h1 → Q v h1) (k : mj_W M d mc ms Q1 pc lv st h) : mj_W M d mc ms Q pc lv st h := by
  intro p l e R s m args below meth c D b B0 MC MS as0 QQ X E as H locs ls cells slots S
  exact k p l e R s m args below meth c D b B0 MC MS as0 QQ X (fun as H locs ls cells slots pc v lv h hq => E as H locs ls cells slots pc v lv h (hQ v h hq)) as H locs ls cells slots S
/-- fewer known locals -/
theorem mj_forget {lv2 : List Value} (hs : ∀ (i : Nat) (v : Value), lv2[i]? = some v → v ≠ Value.null → lv[i]? = some v) (hn : ∀ n, mj_oks n lv → mj_oks n lv2) (k : mj_W M d mc ms Q pc lv2 st h) : mj_W M d mc ms Q pc lv st h := by
  intro p l e R s m args below meth c D b B0 MC MS as0 QQ X E as H locs ls cells slots S
  obtain ⟨s1, s2, s3, s4, s5, s6, s7, s8⟩ := S
  exact k p l e R s m args below meth c D b B0 MC MS as0 QQ X E as H locs ls cells slots ⟨s1, s2, s3, mj_has_sub s4 (fun q hq => by
    obtain ⟨i, v, h1, h2, h3⟩ := (mj_al_mem _ _ _).mp hq
    exact (mj_al_mem _ _ _).mpr ⟨i, v, hs i v h1 h2, h2, h3⟩), hn _ s5, s6, s7, s8⟩
end MJ1
end
section
/-! RULES over the heap of the mini machine -/
theorem mj_fs_get (as : List Nat) (ci : Nat) (f : Nat → Int32) (g : Nat → Option Nat) {k : Nat} (hk : k < mT_N ci) : (mj_fs as ci f g)[k]? = some (if mT_R ci k = true then va_rf ((g k).map fun b => as.getD b 0) else .int (f k)) := by
  unfold mj_fs
  rw [List.getElem?_map, List.getElem?_range hk]
  rfl
theorem mj_fs_len (as : List Nat) (ci : Nat) (f : Nat → Int32) (g : Nat → Option Nat) : (mj_fs as ci f g).length = mT_N ci := by
  unfold mj_fs
  rw [List.length_map, List.length_range]
theorem mj_fs_set {as : List Nat} {ci : Nat} {f f1 : Nat → Int32} {g g1 : Nat → Option Nat} {k : Nat} {v : Value} (hk : (if mT_R ci k = true then va_rf ((g1 k).map fun b => as.getD b 0) else .int (f1 k)) = v)
    (hf : ∀ j, j ≠ k → f1 j = f j) (hg : ∀ j, j ≠ k → g1 j = g j) : (mj_fs as ci f g).set k v = mj_fs as ci f1 g1 := by
  apply List.ext_getElem?
  intro j
  rw [List.getElem?_set]
  by_cases hj : k = j
  · subst hj
    rw [if_pos rfl, mj_fs_len]
    by_cases hN : k < mT_N ci
    · rw [if_pos hN, mj_fs_get _ _ _ _ hN, hk]
    · rw [if_neg hN, List.getElem?_eq_none (by rw [mj_fs_len]; omega)]
  · rw [if_neg hj]
    have hj' : j ≠ k := fun e => hj e.symm
    by_cases hN : j < mT_N ci
    · rw [mj_fs_get _ _ _ _ hN, mj_fs_get _ _ _ _ hN, hf j hj', hg j hj']
    · rw [List.getElem?_eq_none (by rw [mj_fs_len]; omega), List.getElem?_eq_none (by rw [mj_fs_len]; omega)]
theorem mj_getD {as : List Nat} {b : Nat} {ws : va_W} (h : as = b :: ws.map (·.1)) {k : Nat} {q : Nat × va_E} (hk : ws[k]? = some q) : as.getD (k + 1) 0 = q.1 := by
  rw [h, List.getD_eq_getElem?_getD, List.getElem?_cons_succ, List.getElem?_map, hk]
  rfl
/-- a cell's place in the world -/
theorem mj_place {tys : List (ClassId × FieldType)} {as : List Nat} {b n a : Nat} {K : Nat → mj_K} {f : Nat → Nat → Int32} {g : Nat → Nat → Option Nat} {ws : va_W} (h1 : as = b :: ws.map (·.1)) (h2 : n = ws.length + 1) (h4 : ∀ k q, ws[k]? = some q → mj_cell tys as (K (k + 1)) (f (k + 1)) (g (k + 1)) q.2) (h8 : (K 0).1 = 3) (ha : a < n) (hK : (K a).1 ≠ 3) :
    ∃ (k : Nat) (e : va_E), a = k + 1 ∧ ws[k]? = some (as.getD a 0, e) ∧ mj_cell tys as (K a) (f a) (g a) e := by
  cases a with
  | zero => exact absurd h8 hK
  | succ k =>
    have hk : k < ws.length := by omega
    have e := List.getElem?_eq_getElem hk
    refine ⟨k, (ws[k]).2, rfl, ?_, h4 k _ e⟩
    rw [mj_getD h1 e, e]
theorem mj_set_map {ws : va_W} {k : Nat} {a : Nat} {e0 e : va_E} (hk : ws[k]? = some (a, e0)) : (ws.set k (a, e)).map (·.1) = ws.map (·.1) := by
  apply List.ext_getElem?
  intro j
  rw [List.getElem?_map, List.getElem?_map, List.getElem?_set]
  by_cases hj : k = j
  · subst hj
    rw [if_pos rfl, hk]
    split
    · rfl
    · rename_i h
      rw [List.getElem?_eq_none (by omega)] at hk
      cases hk
  · rw [if_neg hj]
/-- the script's cell behind a step -/
theorem mj_scr {b B0 L : Nat} {xs : Nat → Int32} {s : State} {H H1 : Heap} {locs locs1 : List Loc} (hX : va_X b L xs s H) (hS : va_S (fun q => B0 ≤ q) s.heap H locs) (hS1 : va_S (fun q => B0 ≤ q) s.heap H1 locs1) (hb : b < B0) (hB : B0 ≤ s.heap.size) : va_X b L xs s H1 := by
  refine va_X.kept hX ?_
  rw [hS1.2.1 b (by omega) (by omega), hS.2.1 b (by omega) (by omega)]
theorem mj_Hp_set {D : va_G} {b n k a : Nat} {as : List Nat} {K : Nat → mj_K} {f f1 : Nat → Nat → Int32} {g g1 : Nat → Nat → Option Nat} {A : Nat → Prop} {s : State} {H1 : Heap} {ws : va_W} {tys : List (ClassId × FieldType)} {e0 e : va_E}
    (h1 : as = b :: ws.map (·.1)) (h2 : n = ws.length + 1) (h3 : ∀ k j c, g1 k j = some c → c < n) (h4 : ∀ k q, ws[k]? = some q → mj_cell tys as (K (k + 1)) (f (k + 1)) (g (k + 1)) q.2) (h5 : va_K D vwCl tys s) (h8 : (K 0).1 = 3)
    (hk : ws[k]? = some (a, e0)) (hP : va_P D vwCl (ws.set k (a, e)) H1) (hD : va_D A (ws.set k (a, e))) (hX : va_X b (K 0).2.1 (f 0) s H1) (hc : mj_cell tys as (K (k + 1)) (f1 (k + 1)) (g1 (k + 1)) e) (hf : ∀ j, j ≠ k + 1 → f1 j = f j) (hg : ∀ j, j ≠ k + 1 → g1 j = g j) :
    mj_Hp D b as (n, K, f1, g1) A s H1 := by
  refine ⟨ws.set k (a, e), tys, by rw [mj_set_map hk]; exact h1, by rw [List.length_set]; exact h2, h3, ?_, h5, hP, hD, h8, ?_⟩
  · intro j q hj
    rw [List.getElem?_set] at hj
    by_cases hkj : k = j
    · subst hkj
      rw [if_pos rfl] at hj
      split at hj
      · cases hj; exact hc
      · cases hj
    · rw [if_neg hkj] at hj
      show mj_cell tys as (K (j + 1)) (f1 (j + 1)) (g1 (j + 1)) q.2
      rw [hf (j + 1) (by omega), hg (j + 1) (by omega)]
      exact h4 j q hj
  · show va_X b (K 0).2.1 (f1 0) s H1
    rw [hf 0 (by omega)]
    exact hX
theorem mj_Hp.moved {D : va_G} {b : Nat} {as : List Nat} {h : mj_H} {A : Nat → Prop} {u U : State} {H : Heap} (hvm : u.vm.Alike U.vm) (hH : mj_Hp D b as h A u H) : mj_Hp D b as h A U H := by
  obtain ⟨ws, tys, h1, h2, h3, h4, h5, h6, h7, h8, h9⟩ := hH
  exact ⟨ws, tys, h1, h2, h3, h4, va_K.moved hvm h5, h6, h7, h8, va_X.moved hvm h9⟩
section MJ2
variable {M : mj_M} {d mc ms : Nat} {Q : mj_Q} {pc q : Nat} {lv st : List Value} {n : Nat} {K : Nat → mj_K} {f : Nat → Nat → Int32} {g : Nat → Nat → Option Nat}
theorem mj_getf {a idx ci sl x : Nat} (hd : decode M.2.1 pc = .ok (.getfield idx, 3)) (hF : mj_okF M.2.2.2.2.1 idx ci sl) (hr : mT_R ci sl = false) (hq : pc + 3 = q) (hK : K a = (2, ci, x))
    (k : mj_W M d mc ms Q q lv (.int (f a sl) :: st) (n, K, f, g)) : mj_W M d mc ms Q pc lv (.ref a :: st) (n, K, f, g) := by
  subst hq
  intro p l e R s m args below meth c D b B0 MC MS as0 QQ X E as H locs ls cells slots S
  obtain ⟨s1, s2, s3, s4, s5, s6, s7, s8⟩ := S
  obtain ⟨ws, tys, h1, h2, h3, h4, h5, h6, h7, h8, h9⟩ := id s1
  dsimp only at h2 h3 h4 h8 h9
  obtain ⟨j, e1, rfl, hj, hc⟩ := mj_place h1 h2 h4 h8 s6.1 (by rw [hK]; simp)
  rcases hc with ⟨hc, -⟩ | ⟨hc, -⟩ | ⟨-, hci, he⟩
  · rw [hK] at hc; cases hc
  · rw [hK] at hc; cases hc
  rw [hK] at he hci
  dsimp only at he hci
  subst he
  obtain ⟨f1, f2, f3⟩ := hF
  refine va_get (ref := (mT_T ci sl).1) (C := mT_C ci) (T := mT_T ci) (N := mT_N ci) X.1 X.2.1 X.2.2.2.2.1 (mT_in ci f1) X.2.2.2.1 h5 h6 j hj (mT_at ci f1) sl f2 (X.2.2.2.2.1 _ f3) (fun _ z => z) (mj_fs_get _ _ _ _ f2) hd ?_
  rw [if_neg (by rw [hr]; simp)]
  exact k p l e R s m args below meth c D b B0 MC MS as0 QQ X E as H locs ls cells slots ⟨s1, s2, s3, s4, s5, ⟨trivial, s6.2⟩, s7, s8⟩
theorem mj_getr {a idx ci sl x r : Nat} (hd : decode M.2.1 pc = .ok (.getfield idx, 3)) (hF : mj_okF M.2.2.2.2.1 idx ci sl) (hr : mT_R ci sl = true) (hq : pc + 3 = q) (hK : K a = (2, ci, x)) (hg : g a sl = some r)
    (k : mj_W M d mc ms Q q lv (.ref r :: st) (n, K, f, g)) : mj_W M d mc ms Q pc lv (.ref a :: st) (n, K, f, g) := by
  subst hq
  intro p l e R s m args below meth c D b B0 MC MS as0 QQ X E as H locs ls cells slots S
  obtain ⟨s1, s2, s3, s4, s5, s6, s7, s8⟩ := S
  obtain ⟨ws, tys, h1, h2, h3, h4, h5, h6, h7, h8, h9⟩ := id s1
  dsimp only at h2 h3 h4 h8 h9
  obtain ⟨j, e1, rfl, hj, hc⟩ := mj_place h1 h2 h4 h8 s6.1 (by rw [hK]; simp)
  rcases hc with ⟨hc, -⟩ | ⟨hc, -⟩ | ⟨-, hci, he⟩
  · rw [hK] at hc; cases hc
  · rw [hK] at hc; cases hc
  rw [hK] at he hci
  dsimp only at he hci
  subst he
  obtain ⟨f1, f2, f3⟩ := hF
  refine va_get (ref := (mT_T ci sl).1) (C := mT_C ci) (T := mT_T ci) (N := mT_N ci) X.1 X.2.1 X.2.2.2.2.1 (mT_in ci f1) X.2.2.2.1 h5 h6 j hj (mT_at ci f1) sl f2 (X.2.2.2.2.1 _ f3) (fun _ z => z) (mj_fs_get _ _ _ _ f2) hd ?_
  rw [if_pos hr, hg]
  exact k p l e R s m args below meth c D b B0 MC MS as0 QQ X E as H locs ls cells slots ⟨s1, s2, s3, s4, s5, ⟨h3 _ _ _ hg, s6.2⟩, s7, s8⟩
theorem mj_putf {a idx ci sl x : Nat} {v : Int32} (hd : decode M.2.1 pc = .ok (.putfield idx, 3)) (hF : mj_okF M.2.2.2.2.1 idx ci sl) (hr : mT_R ci sl = false) (hq : pc + 3 = q) (hK : K a = (2, ci, x)) (hfin : (mT_T ci sl).2.2.2 = false) (hn : narrow (mT_ty ci sl) (.int v) = .int v) (hfit : fits (mT_ty ci sl) (.int v) = true)
    (k : mj_W M d mc ms Q q lv st (n, K, mj_up f a sl v, g)) : mj_W M d mc ms Q pc lv (.int v :: .ref a :: st) (n, K, f, g) := by
  subst hq
  intro p l e R s m args below meth c D b B0 MC MS as0 QQ X E as H locs ls cells slots S
  obtain ⟨s1, s2, s3, s4, s5, s6, s7, s8⟩ := S
  obtain ⟨ws, tys, h1, h2, h3, h4, h5, h6, h7, h8, h9⟩ := id s1
  dsimp only at h2 h3 h4 h8 h9
  obtain ⟨j, e1, rfl, hj, hc⟩ := mj_place h1 h2 h4 h8 s6.2.1 (by rw [hK]; simp)
  rcases hc with ⟨hc, -⟩ | ⟨hc, -⟩ | ⟨-, hci, he⟩
  · rw [hK] at hc; cases hc
  · rw [hK] at hc; cases hc
  rw [hK] at he hci
  dsimp only at he hci
  subst he
  obtain ⟨f1, f2, f3⟩ := hF
  refine va_put (ref := (mT_T ci sl).1) (C := mT_C ci) (T := mT_T ci) (N := mT_N ci) X.1 X.2.1 X.2.2.2.2.1 (mT_in ci f1) (mT_ty ci) (mT_tyok ci f1) (mT_nm ci f1) X.2.2.2.1 h5 h6 h7 s2 j hj (mT_at ci f1) sl f2 (X.2.2.2.2.1 _ f3) (fun _ z => z) hfin (mT_tyok ci f1 sl f2) hn hfit (by rw [mj_fs_len]; exact f2) hd (fun H1 locs1 hP hD hS => ?_)
  refine k p l e R s m args below meth c D b B0 MC MS as0 QQ X E as H1 locs1 ls cells slots ⟨?_, hS, s3, s4, s5, s6.2.2, s7, s8⟩
  refine mj_Hp_set h1 h2 h3 h4 h5 h8 hj hP hD (mj_scr h9 s2 hS X.2.2.2.2.2.2.2.2.2.2.2.2.2.1 X.2.2.2.2.2.2.2.2.2.2.2.2.2.2) ?_ (fun i hi => by funext z; simp [mj_up, hi]) (fun i hi => rfl)
  refine Or.inr (Or.inr ⟨by rw [hK], by rw [hK]; exact f1, ?_⟩)
  rw [hK]
  congr 2
  exact mj_fs_set (by rw [if_neg (by rw [hr]; simp)]; simp [mj_up]; rfl) (fun i hi => by simp [mj_up, hi]) (fun i hi => rfl)
theorem mj_putr {a idx ci sl x r : Nat} (hd : decode M.2.1 pc = .ok (.putfield idx, 3)) (hF : mj_okF M.2.2.2.2.1 idx ci sl) (hr : mT_R ci sl = true) (hq : pc + 3 = q) (hK : K a = (2, ci, x)) (hfin : (mT_T ci sl).2.2.2 = true) (hi : M.2.2.2.2.2 = true) (hde : (mT_T ci sl).1 = M.2.2.2.2.1) (hn : ∀ z, narrow (mT_ty ci sl) (.ref z) = .ref z) (hfit : ∀ z, fits (mT_ty ci sl) (.ref z) = true)
    (k : mj_W M d mc ms Q q lv st (n, K, f, mj_up g a sl (some r))) : mj_W M d mc ms Q pc lv (.ref r :: .ref a :: st) (n, K, f, g) := by
  subst hq
  intro p l e R s m args below meth c D b B0 MC MS as0 QQ X E as H locs ls cells slots S
  obtain ⟨s1, s2, s3, s4, s5, s6, s7, s8⟩ := S
  obtain ⟨ws, tys, h1, h2, h3, h4, h5, h6, h7, h8, h9⟩ := id s1
  dsimp only at h2 h3 h4 h8 h9
  obtain ⟨j, e1, rfl, hj, hc⟩ := mj_place h1 h2 h4 h8 s6.2.1 (by rw [hK]; simp)
  rcases hc with ⟨hc, -⟩ | ⟨hc, -⟩ | ⟨-, hci, he⟩
  · rw [hK] at hc; cases hc
  · rw [hK] at hc; cases hc
  rw [hK] at he hci
  dsimp only at he hci
  subst he
  obtain ⟨f1, f2, f3⟩ := hF
  refine va_putF (ref := (mT_T ci sl).1) (C := mT_C ci) (T := mT_T ci) (N := mT_N ci) X.1 X.2.1 X.2.2.2.2.1 (mT_in ci f1) (mT_ty ci) (mT_tyok ci f1) (mT_nm ci f1) X.2.2.2.1 h5 h6 h7 s2 j hj (mT_at ci f1) sl f2 (X.2.2.2.2.1 _ f3) (fun _ z => z) hfin (X.2.2.2.2.2.2.2.2.1 hi) hde (mT_tyok ci f1 sl f2) (hn _) (hfit _) (by rw [mj_fs_len]; exact f2) hd (fun H1 locs1 hP hD hS => ?_)
  refine k p l e R s m args below meth c D b B0 MC MS as0 QQ X E as H1 locs1 ls cells slots ⟨?_, hS, s3, s4, s5, s6.2.2, s7, s8⟩
  refine mj_Hp_set h1 h2 ?_ h4 h5 h8 hj hP hD (mj_scr h9 s2 hS X.2.2.2.2.2.2.2.2.2.2.2.2.2.1 X.2.2.2.2.2.2.2.2.2.2.2.2.2.2) ?_ (fun i hi => rfl) (fun i hi => by funext z; simp [mj_up, hi])
  · intro k0 j0 c0 hc0
    unfold mj_up at hc0
    split at hc0
    · cases hc0; exact s6.1
    · exact h3 _ _ _ hc0
  refine Or.inr (Or.inr ⟨by rw [hK], by rw [hK]; exact f1, ?_⟩)
  rw [hK]
  congr 2
  exact mj_fs_set (by rw [if_pos hr]; simp [mj_up]; rfl) (fun i hi => rfl) (fun i hi => by simp [mj_up, hi])
theorem mj_iald {a L : Nat} {i : Int32} (hd : decode M.2.1 pc = .ok (.iaload, 1)) (hq : pc + 1 = q) (hK : K a = (0, L, 0)) (hin : vp_in i L)
    (k : mj_W M d mc ms Q q lv (.int (f a i.toNatClampNeg) :: st) (n, K, f, g)) : mj_W M d mc ms Q pc lv (.int i :: .ref a :: st) (n, K, f, g) := by
  subst hq
  intro p l e R s m args below meth c D b B0 MC MS as0 QQ X E as H locs ls cells slots S
  obtain ⟨s1, s2, s3, s4, s5, s6, s7, s8⟩ := S
  obtain ⟨ws, tys, h1, h2, h3, h4, h5, h6, h7, h8, h9⟩ := id s1
  dsimp only at h2 h3 h4 h8 h9
  obtain ⟨j, e1, rfl, hj, hc⟩ := mj_place h1 h2 h4 h8 s6.2.1 (by rw [hK]; simp)
  rcases hc with ⟨-, cA, t0, ht, he⟩ | ⟨hc, -⟩ | ⟨hc, -⟩
  · rw [hK] at he
    dsimp only at he
    subst he
    exact va_iald X.1 X.2.1 h5 h6 j t0 hj ht hin hd (k p l e R s m args below meth c D b B0 MC MS as0 QQ X E as H locs ls cells slots ⟨s1, s2, s3, s4, s5, ⟨trivial, s6.2.2⟩, s7, s8⟩)
  · rw [hK] at hc; cases hc
  · rw [hK] at hc; cases hc
theorem mj_iast {a L : Nat} {i v : Int32} (hd : decode M.2.1 pc = .ok (.iastore, 1)) (hq : pc + 1 = q) (hK : K a = (0, L, 0)) (hin : vp_in i L)
    (k : mj_W M d mc ms Q q lv st (n, K, mj_up f a i.toNatClampNeg v, g)) : mj_W M d mc ms Q pc lv (.int v :: .int i :: .ref a :: st) (n, K, f, g) := by
  subst hq
  intro p l e R s m args below meth c D b B0 MC MS as0 QQ X E as H locs ls cells slots S
  obtain ⟨s1, s2, s3, s4, s5, s6, s7, s8⟩ := S
  obtain ⟨ws, tys, h1, h2, h3, h4, h5, h6, h7, h8, h9⟩ := id s1
  dsimp only at h2 h3 h4 h8 h9
  obtain ⟨j, e1, rfl, hj, hc⟩ := mj_place h1 h2 h4 h8 s6.2.2.1 (by rw [hK]; simp)
  rcases hc with ⟨-, cA, t0, ht, he⟩ | ⟨hc, -⟩ | ⟨hc, -⟩
  · rw [hK] at he
    dsimp only at he
    subst he
    refine va_iast X.1 X.2.1 h5 h6 h7 s2 j t0 hj ht hin hd (fun H1 locs1 hP hD hS => ?_)
    refine k p l e R s m args below meth c D b B0 MC MS as0 QQ X E as H1 locs1 ls cells slots ⟨?_, hS, s3, s4, s5, s6.2.2.2, s7, s8⟩
    refine mj_Hp_set h1 h2 h3 h4 h5 h8 hj hP hD (mj_scr h9 s2 hS X.2.2.2.2.2.2.2.2.2.2.2.2.2.1 X.2.2.2.2.2.2.2.2.2.2.2.2.2.2) ?_ (fun i hi => by funext z; simp [mj_up, hi]) (fun i hi => rfl)
    refine Or.inl ⟨by rw [hK], cA, t0, ht, ?_⟩
    rw [hK]
    congr 4
    funext z
    simp [mj_up, upd]
  · rw [hK] at hc; cases hc
  · rw [hK] at hc; cases hc
theorem mj_aald {a L ci r : Nat} {i : Int32} (hd : decode M.2.1 pc = .ok (.aaload, 1)) (hq : pc + 1 = q) (hK : K a = (1, L, ci)) (hin : vp_in i L) (hg : g a i.toNatClampNeg = some r)
    (k : mj_W M d mc ms Q q lv (.ref r :: st) (n, K, f, g)) : mj_W M d mc ms Q pc lv (.int i :: .ref a :: st) (n, K, f, g) := by
  subst hq
  intro p l e R s m args below meth c D b B0 MC MS as0 QQ X E as H locs ls cells slots S
  obtain ⟨s1, s2, s3, s4, s5, s6, s7, s8⟩ := S
  obtain ⟨ws, tys, h1, h2, h3, h4, h5, h6, h7, h8, h9⟩ := id s1
  dsimp only at h2 h3 h4 h8 h9
  obtain ⟨j, e1, rfl, hj, hc⟩ := mj_place h1 h2 h4 h8 s6.2.1 (by rw [hK]; simp)
  rcases hc with ⟨hc, -⟩ | ⟨-, cA, t0, ht, he⟩ | ⟨hc, -⟩
  · rw [hK] at hc; cases hc
  · rw [hK] at he ht
    dsimp only at he ht
    subst he
    refine va_aldq X.1 X.2.1 h5 h6 j t0 hj ht hin hd ?_
    rw [hg]
    exact k p l e R s m args below meth c D b B0 MC MS as0 QQ X E as H locs ls cells slots ⟨s1, s2, s3, s4, s5, ⟨h3 _ _ _ hg, s6.2.2⟩, s7, s8⟩
  · rw [hK] at hc; cases hc
theorem mj_aast {a L ci r y : Nat} {i : Int32} (hd : decode M.2.1 pc = .ok (.aastore, 1)) (hq : pc + 1 = q) (hK : K a = (1, L, ci)) (hin : vp_in i L) (hr : K r = (2, ci, y))
    (k : mj_W M d mc ms Q q lv st (n, K, f, mj_up g a i.toNatClampNeg (some r))) : mj_W M d mc ms Q pc lv (.ref r :: .int i :: .ref a :: st) (n, K, f, g) := by
  subst hq
  intro p l e R s m args below meth c D b B0 MC MS as0 QQ X E as H locs ls cells slots S
  obtain ⟨s1, s2, s3, s4, s5, s6, s7, s8⟩ := S
  obtain ⟨ws, tys, h1, h2, h3, h4, h5, h6, h7, h8, h9⟩ := id s1
  dsimp only at h2 h3 h4 h8 h9
  obtain ⟨j, e1, rfl, hj, hc⟩ := mj_place h1 h2 h4 h8 s6.2.2.1 (by rw [hK]; simp)
  obtain ⟨j2, e2, rfl, hj2, hc2⟩ := mj_place h1 h2 h4 h8 s6.1 (by rw [hr]; simp)
  rcases hc with ⟨hc, -⟩ | ⟨-, cA, t0, ht, he⟩ | ⟨hc, -⟩
  · rw [hK] at hc; cases hc
  · rcases hc2 with ⟨hc, -⟩ | ⟨hc, -⟩ | ⟨-, hci, he2⟩
    · rw [hr] at hc; cases hc
    · rw [hr] at hc; cases hc
    rw [hr] at he2 hci
    dsimp only at he2 hci
    rw [hK] at he ht
    dsimp only at he ht
    subst he
    subst he2
    refine va_astq X.1 X.2.1 h5 h6 h7 s2 j t0 j2 ci hj ht hj2 (mT_at ci hci) hin hd (fun H1 locs1 hP hD hS => ?_)
    refine k p l e R s m args below meth c D b B0 MC MS as0 QQ X E as H1 locs1 ls cells slots ⟨?_, hS, s3, s4, s5, s6.2.2.2, s7, s8⟩
    refine mj_Hp_set h1 h2 ?_ h4 h5 h8 hj hP hD (mj_scr h9 s2 hS X.2.2.2.2.2.2.2.2.2.2.2.2.2.1 X.2.2.2.2.2.2.2.2.2.2.2.2.2.2) ?_ (fun i hi => rfl) (fun i hi => by funext z; simp [mj_up, hi])
    · intro k0 j0 c0 hc0
      unfold mj_up at hc0
      split at hc0
      · cases hc0; exact s6.1
      · exact h3 _ _ _ hc0
    refine Or.inr (Or.inl ⟨by rw [hK], cA, t0, by rw [hK]; exact ht, ?_⟩)
    rw [hK]
    congr 7
    funext z
    simp only [mj_up, va_up]
    by_cases hz : z = i.toNatClampNeg
    · simp [hz]
    · simp [hz]
  · rw [hK] at hc; cases hc
theorem mj_alen {a L t : Nat} {v : Int32} (hd : decode M.2.1 pc = .ok (.arraylength, 1)) (hq : pc + 1 = q) (hK : K a = (0, L, t)) (hv : Int32.ofNat L = v)
    (k : mj_W M d mc ms Q q lv (.int v :: st) (n, K, f, g)) : mj_W M d mc ms Q pc lv (.ref a :: st) (n, K, f, g) := by
  subst hq
  intro p l e R s m args below meth c D b B0 MC MS as0 QQ X E as H locs ls cells slots S
  obtain ⟨s1, s2, s3, s4, s5, s6, s7, s8⟩ := S
  obtain ⟨ws, tys, h1, h2, h3, h4, h5, h6, h7, h8, h9⟩ := id s1
  dsimp only at h2 h3 h4 h8 h9
  obtain ⟨j, e1, rfl, hj, hc⟩ := mj_place h1 h2 h4 h8 s6.1 (by rw [hK]; simp)
  rcases hc with ⟨-, cA, t0, ht, he⟩ | ⟨hc, -⟩ | ⟨hc, -⟩
  · rw [hK] at he
    dsimp only at he
    subst he
    exact va_alen X.1 X.2.1 h5 h6 j t0 hj ht hv hd (k p l e R s m args below meth c D b B0 MC MS as0 QQ X E as H locs ls cells slots ⟨s1, s2, s3, s4, s5, ⟨trivial, s6.2⟩, s7, s8⟩)
  · rw [hK] at hc; cases hc
  · rw [hK] at hc; cases hc
/-- the script: cell 0 -/
theorem mj_sld {L : Nat} {i : Int32} (hd : decode M.2.1 pc = .ok (.iaload, 1)) (hq : pc + 1 = q) (hK : K 0 = (3, L, 0)) (hin : vp_in i L)
    (k : mj_W M d mc ms Q q lv (.int (f 0 i.toNatClampNeg) :: st) (n, K, f, g)) : mj_W M d mc ms Q pc lv (.int i :: .ref 0 :: st) (n, K, f, g) := by
  subst hq
  intro p l e R s m args below meth c D b B0 MC MS as0 QQ X E as H locs ls cells slots S
  obtain ⟨s1, s2, s3, s4, s5, s6, s7, s8⟩ := S
  obtain ⟨ws, tys, h1, h2, h3, h4, h5, h6, h7, h8, h9⟩ := id s1
  dsimp only at h2 h3 h4 h8 h9
  rw [hK] at h9
  obtain ⟨scr, g1, g2, g3, g4, g5⟩ := h9
  have hlt : i.toNatClampNeg < L := Nat.not_le.mp fun z => hin (Or.inr z)
  have h0 : as.getD 0 0 = b := by rw [h1]; rfl
  have hst : List.map (mj_t as) (.int i :: .ref 0 :: st) = .int i :: .ref b :: st.map (mj_t as) := by
    show _ :: Value.ref (as.getD 0 0) :: _ = _
    rw [h0]
    rfl
  rw [hst]
  exact W.iald (v := .int (f 0 i.toNatClampNeg)) X.1 X.2.1 g1 g2 g3 (by rw [g4]; exact hin) (g5 _ hlt) rfl rfl hd (k p l e R s m args below meth c D b B0 MC MS as0 QQ X E as H locs ls cells slots ⟨s1, s2, s3, s4, s5, ⟨trivial, s6.2.2⟩, s7, s8⟩)
theorem mj_slen {L : Nat} {v : Int32} (hd : decode M.2.1 pc = .ok (.arraylength, 1)) (hq : pc + 1 = q) (hK : K 0 = (3, L, 0)) (hv : Int32.ofNat L = v)
    (k : mj_W M d mc ms Q q lv (.int v :: st) (n, K, f, g)) : mj_W M d mc ms Q pc lv (.ref 0 :: st) (n, K, f, g) := by
  subst hq
  subst hv
  intro p l e R s m args below meth c D b B0 MC MS as0 QQ X E as H locs ls cells slots S
  obtain ⟨s1, s2, s3, s4, s5, s6, s7, s8⟩ := S
  obtain ⟨ws, tys, h1, h2, h3, h4, h5, h6, h7, h8, h9⟩ := id s1
  dsimp only at h2 h3 h4 h8 h9
  rw [hK] at h9
  obtain ⟨scr, g1, g2, g3, g4, g5⟩ := h9
  have h0 : as.getD 0 0 = b := by rw [h1]; rfl
  have hst : List.map (mj_t as) (.ref 0 :: st) = .ref b :: st.map (mj_t as) := by
    show Value.ref (as.getD 0 0) :: _ = _
    rw [h0]
  rw [hst]
  exact W.alen (n := Int32.ofNat L) X.1 X.2.1 g1 g2 (by rw [g4] <;> rfl) rfl rfl hd (k p l e R s m args below meth c D b B0 MC MS as0 QQ X E as H locs ls cells slots ⟨s1, s2, s3, s4, s5, ⟨trivial, s6.2⟩, s7, s8⟩)
end MJ2
end
section
/-! CALLS, entries, new cells -/
theorem mj_good (K : mj_M) (hc : Cond.code K.1 K.2.1 K.2.2.1 K.2.2.2.1 ∈ mj_TW) : GoodIn mj_TW (mj_ws K) := by
  intro w hw
  rcases List.mem_cons.mp hw with rfl | h
  · exact ⟨hc, good_of_word (mj_TWg _ hc)⟩
  · exact ⟨h, good_of_word (mj_TWg _ h)⟩
theorem mj_lvcat (as : List Nat) : ∀ (vs : List Value), (lg_sl (vs.map (mj_t as))).length = (lg_sl vs).length
  | [] => rfl
  | v :: vs => by
    have ih := mj_lvcat as vs
    unfold lg_sl at ih ⊢
    rw [List.map_cons, List.flatMap_cons, List.flatMap_cons, List.length_append, List.length_append, ih, mj_t_cat]
    split <;> rfl
/-- the locals at an entry -/
def mj_lv0 : List Value → List Value
  | [] => []
  | v :: vs => if v.category = 2 then v :: .null :: mj_lv0 vs else v :: mj_lv0 vs
theorem mj_lv0_args (as : List Nat) : ∀ (vs : List Value) (i : Nat) (q : Nat × Value), q ∈ mj_al as i (mj_lv0 vs) → q ∈ lv_args i (vs.map (mj_t as))
  | [], i, q, h => by simp [mj_lv0, mj_al] at h
  | v :: vs, i, q, h => by
    rw [List.map_cons, lv_args, mj_t_cat]
    by_cases hv : v.category = 2
    · rw [if_pos hv]
      rw [mj_lv0, if_pos hv] at h
      have hn : v ≠ .null := by rintro rfl; cases hv
      have e : mj_al as i (v :: .null :: mj_lv0 vs) = (i, mj_t as v) :: mj_al as (i + 2) (mj_lv0 vs) := by
        cases v <;> first | rfl | exact absurd rfl hn
      rw [e] at h
      rcases List.mem_cons.mp h with h | h
      · exact List.mem_cons.mpr (Or.inl h)
      · exact List.mem_cons.mpr (Or.inr (mj_lv0_args as vs (i + 2) q h))
    · rw [if_neg hv]
      rw [mj_lv0, if_neg hv] at h
      by_cases hn : v = .null
      · subst hn
        exact List.mem_cons.mpr (Or.inr (mj_lv0_args as vs (i + 1) q h))
      · have e : mj_al as i (v :: mj_lv0 vs) = (i, mj_t as v) :: mj_al as (i + 1) (mj_lv0 vs) := by
          cases v <;> first | rfl | exact absurd rfl hn
        rw [e] at h
        rcases List.mem_cons.mp h with h | h
        · exact List.mem_cons.mpr (Or.inl h)
        · exact List.mem_cons.mpr (Or.inr (mj_lv0_args as vs (i + 1) q h))
theorem mj_oks_lv0 {n : Nat} : ∀ {vs : List Value}, mj_oks n vs → mj_oks n (mj_lv0 vs)
  | [], _ => trivial
  | v :: vs, h => by
    rw [mj_lv0]
    split
    · exact ⟨h.1, trivial, mj_oks_lv0 h.2⟩
    · exact ⟨h.1, mj_oks_lv0 h.2⟩
theorem mj_al_null (as : List Nat) : ∀ (k : Nat) (lv : List Value) (i : Nat), mj_al as i (lv ++ List.replicate k .null) = mj_al as i lv
  | k, v :: lv, i => by
    have ih := mj_al_null as k lv (i + 1)
    cases v <;> first | exact ih | (show _ :: mj_al as (i + 1) (lv ++ List.replicate k .null) = _ :: mj_al as (i + 1) lv; rw [ih])
  | 0, [], i => rfl
  | k + 1, [], i => mj_al_null as k [] (i + 1)
theorem mj_oks_null {n : Nat} : ∀ (k : Nat), mj_oks n (List.replicate k .null)
  | 0 => trivial
  | k + 1 => ⟨trivial, mj_oks_null k⟩
def mj_lvE (M : mj_M) (args : List Value) : List Value := mj_lv0 args ++ List.replicate (M.2.2.1 - (mj_lv0 args).length) .null
/-- what a program decides of a method -/
def mj_fine (K : mj_M) (args : List Value) : Prop := plainName K.1.cls = true ∧ (K.2.2.2.2.2 = true → K.1.name = "<init>") ∧ K.2.2.2.2.1 = K.1.cls ∧ (lg_sl args).length ≤ K.2.2.1
theorem mj_entry {K : mj_M} {d mc ms : Nat} {args : List Value} {h : mj_H} {Q : mj_Q} (hf : mj_fine K args) (hw : mj_W K d mc ms Q 0 (mj_lvE K args) [] h) : mj_C K d mc ms args h Q := by
  intro l D b B0 as
  obtain ⟨hy, hi, ho, hlen⟩ := hf
  refine Met.ofW (cc := K.2.1) (maxL := K.2.2.1) (ret := K.2.2.2.1) hy rfl ?_
  intro p e s m args' below meth c s₁ B hml hv
  obtain ⟨rfl, hH, hok, hxw, hb0, hB0⟩ := hv
  have hr := B.returns
  have hts := atoms_spec (ws := mj_ws K) B.pre
  have hown : s.vm.findClass K.1.cls = some m.cls := findClass_of_methodNamed B.named
  have hlocks := B.notSynchronized
  have hl := lv_entry (args.map (mj_t as)) (n := K.2.2.1) (by rw [mj_lvcat]; exact hlen)
  rw [lg_entry_eq]
  generalize (lg_sl (args.map (mj_t as)) ++ List.replicate (K.2.2.1 - (lg_sl (args.map (mj_t as))).length) Slot.unset).toArray = ls at hl ⊢
  refine hw p l e _ s m _ below meth c D b B0 mc ms as _ ⟨B.exec, B.bytes, hml, by rw [ho]; exact hown, fun w hw => hts w (List.mem_cons_of_mem _ hw), hxw, hr, hlocks, fun h => (name_of_methodNamed B.named B.method).1.trans (hi h), Nat.le_refl _, Nat.le_refl _, Nat.le_refl _, Nat.le_refl _, hb0, hB0⟩ ?_ as s.heap [] ls 0 0 ⟨hH, va_S.rf, ⟨[], by simp⟩, ?_, ?_, trivial, by omega, by omega⟩
  · intro as2 H locs ls cells slots pc v lv h hq hrv hd S
    obtain ⟨s1, s2, s3, s4, s5, s6, s7, s8⟩ := S
    refine W.widen (k := mc) (n := ms) (by omega) (by omega) ?_
    have hfin : ∀ t : State, t.heap = H → s.WarmedH t.vm → mj_Qc D b B0 as Q (args.map (mj_t as)).toArray s (.returned (v.map (mj_t as2))) t := fun t ht hW =>
      ⟨⟨v, as2, h, rfl, hq, s3, by rw [ht]; exact mj_Hp.moved hW.alike s1, s6⟩, s2.F ht⟩
    rcases v with _ | v
    · exact W.vret B.exec B.bytes (hr.trans hrv) hfin s2.2.2 hd
    · cases v <;> first | exact absurd hrv (fun z => z) | skip
      · obtain ⟨ty, h1, h2⟩ := hrv
        exact W.zret B.exec B.bytes (hr.trans h1) h2 hfin s2.2.2 hd
      · exact W.lret B.exec B.bytes (hr.trans hrv) hfin s2.2.2 hd
      · exact W.dret B.exec B.bytes (hr.trans hrv) hfin s2.2.2 hd
      · obtain ⟨rt, h1, h2⟩ := hrv
        exact W.aret B.exec B.bytes (hr.trans h1) h2 (Or.inr ⟨_, rfl⟩) hfin s2.2.2 hd
  · refine mj_has_sub hl (fun q hq => ?_)
    rw [mj_lvE, mj_al_null] at hq
    exact mj_lv0_args as args 0 q hq
  · rw [mj_lvE, mj_oks_app]
    exact ⟨mj_oks_lv0 hok, mj_oks_null _⟩
theorem mj_Pc_blind (D : va_G) (b B0 : Nat) (as : List Nat) (args : List Value) (h : mj_H) : FrameBlind (mj_Pc D b B0 as args h) := by
  intro a U g mk q
  obtain ⟨q1, q2, q3, q4, q5, q6⟩ := q
  exact ⟨q1, mj_Hp.moved (Vm.Alike.refl U.vm) q2, q3, mj_XW.warm (U := U.calling g mk a) (State.WarmedH.refl U) q4, q5, q6⟩
section MJ3
variable {M K : mj_M} {d mc ms mc1 ms1 : Nat} {Q Q1 : mj_Q} {pc q : Nat} {lv st : List Value} {h : mj_H} {n idx : Nat}
/-- behind a call -/
theorem mj_after {p : Program} {l : Launch} {e : Env} {R : Room} {s : State} {m : MethodId} {args : Array Value} {below : List Frame} {meth : Method} {c : Code} {D : va_G} {b B0 MC MS : Nat} {as0 as : List Nat} {QQ : State → Prop} {H : Heap} {locs : List Loc} {ls : Array Slot} {cells slots : Nat} {st0 : List Value} {a : Array Value}
    (X : mj_X M (d + 1) b B0 MC MS p R s m args meth c) (E : mj_E M Q p l e R s m args below meth c D b B0 MC MS as0 QQ) (S : mj_St M (mc1 + mc) (ms1 + ms) D b B0 MC MS as0 as s H locs ls cells slots lv st h)
    (hr : va_Run p l e R s m args below meth c H locs cells slots mc1 ms1 (F0 m pc ls st0) (st.map (mj_t as)) (mj_Qc D b B0 as Q1 a) (fun q => B0 ≤ q))
    (k : ∀ v h1, Q1 v h1 → mj_W M (d + 1) mc ms Q (pc + 3) lv (v.toList ++ st) h1) : W p l e R s m args below meth c H locs cells slots QQ (F0 m pc ls st0) := by
  obtain ⟨s1, s2, s3, s4, s5, s6, s7, s8⟩ := S
  intro T hT XT
  obtain ⟨v0, st₀, t, T', L, h0, X', hL, e1, e2, ⟨⟨v, as1, h1, hv, hq, ⟨ex, rfl⟩, hH, hok⟩, hz, hk⟩, stp⟩ := hr T hT XT
  cases hv
  rw [h0] at hz hk
  have halike : t.vm.Alike s.vm := by rw [← e2]; exact X'.warmed.alike.symm
  have hn : h.1 = as.length := by
    obtain ⟨ws, tys, g1, g2, -⟩ := s1
    rw [g1, g2, List.length_cons, List.length_map]
  have hn1 : h1.1 = (as ++ ex).length := by
    obtain ⟨ws, tys, g1, g2, -⟩ := hH
    rw [g1, g2, List.length_cons, List.length_map]
  have hle : h.1 ≤ h1.1 := by rw [hn, hn1, List.length_append]; omega
  have hS : va_S (fun q => B0 ≤ q) s.heap T'.heap (locs ++ L) := ⟨Nat.le_trans s2.1 (by rw [e1]; exact hz), fun q h1 h2 => by rw [e1, hk q (Nat.lt_of_lt_of_le h1 s2.1) h2]; exact s2.2.1 q h1 h2, fun q hq => by
      rcases List.mem_append.mp hq with h | h
      · exact s2.2.2 q h
      · exact hL q h⟩
  obtain ⟨t2, a1, b1⟩ := k v h1 hq p l e R s m args below meth c D b B0 MC MS as0 QQ X E (as ++ ex) T'.heap (locs ++ L) ls (cells + mc1) (slots + ms1)
    ⟨by rw [e1]; exact mj_Hp.moved halike hH, hS, by obtain ⟨ex0, rfl⟩ := s3; exact ⟨ex0 ++ ex, by rw [List.append_assoc]⟩, by rw [mj_al_app lv 0 (by rw [← hn]; exact s5)]; exact s4, mj_oks_mono hle s5, by rw [mj_oks_app]; exact ⟨hok, mj_oks_mono hle s6⟩, by omega, by omega⟩ T' rfl X'
  refine ⟨t2, stp t2 ?_, b1⟩
  rw [List.map_append, mj_ts_app (st := st) (by rw [← hn]; exact s6)] at a1
  have ev : List.map (mj_t (as ++ ex)) v.toList = (v.map (mj_t (as ++ ex))).toList := by cases v <;> rfl
  rw [ev] at a1
  exact a1
theorem mj_callV {a : Nat} {ci x : Nat} (As : List Value) (hd : decode M.2.1 pc = .ok (.invokevirtual idx, 3)) (hln : Cond.methodLink M.2.2.2.2.1 idx K.1 ∈ mj_TW) (hok : mj_okV K n) (hn : As.length = n) (hcat : (st.map fun v => v.category).sum ≤ 8) (hL : K.2.2.1 ≤ 21) (hK : h.2.1 a = (2, ci, x)) (hC : mT_C ci = K.1.cls)
    (hM : mj_C K d mc1 ms1 (.ref a :: As) h Q1) (k : ∀ v h1, Q1 v h1 → mj_W M (d + 1) mc ms Q (pc + 3) lv (v.toList ++ st) h1) : mj_W M (d + 1) (mc1 + mc) (ms1 + ms) Q pc lv (As.reverse ++ .ref a :: st) h := by
  intro p l e R s m args below meth c D b B0 MC MS as0 QQ X E as H locs ls cells slots S
  obtain ⟨s1, s2, s3, s4, s5, s6, s7, s8⟩ := id S
  rw [mj_oks_app, mj_oks_rev] at s6
  obtain ⟨w, o4, o5, o6⟩ := hok
  obtain ⟨o1, o2, o3, o7⟩ := w
  obtain ⟨x1, x2, x3, x4, x5, x6, x7, x8, x9, x10, x11, x12, x13, x14, x15⟩ := id X
  obtain ⟨ws, tys, h1, h2, h3, h4, h5, h6, h7, h8, h9⟩ := id s1
  obtain ⟨j, e1, rfl, hj, hc⟩ := mj_place h1 h2 h4 h8 s6.2.1 (by rw [hK]; simp)
  rcases hc with ⟨hc, -⟩ | ⟨hc, -⟩ | ⟨-, hci, he⟩
  · rw [hK] at hc; cases hc
  · rw [hK] at hc; cases hc
  rw [hK] at he hci
  dsimp only at he hci
  subst he
  have hrecv := va_recv h5 h6 (mT_at ci hci) hj
  rw [show (mT_C ci, mT_T ci, mT_N ci).1 = K.1.cls from hC] at hrecv
  have hrun := va_runV (p := p) (l := l) (e := e) (R := R) (s := s) (m := m) (args := args) (below := below) (meth := meth) (c := c) (H := H) (locs := locs) (cells := cells) (slots := slots) (cc := M.2.1) (nL := M.2.2.1) (own := M.2.2.2.2.1) (C := K.1.cls) (b := as.getD (j + 1) 0) (As := As.map (mj_t as)) (rest := st.map (mj_t as)) (g := F0 m pc ls ((As.reverse ++ .ref (j + 1) :: st).map (mj_t as))) (index := idx) (n := n) (y := K.1) (bytes := K.2.1) (maxL := K.2.2.1) (ret := K.2.2.2.1) (mc := mc1) (ms := ms1)
    ⟨x1, x2, x3, x4, x5⟩ (hM l D b B0 as)
    ⟨⟨rfl, rfl, by show d + 1 ≤ R.frames; omega, by show 8 + (K.2.2.1 + 11) + 40 * d ≤ R.locals; omega, pay_in x5 (mj_good K o7), List.mem_cons_self, x5 _ o7, x5 _ o3, ⟨o4, o5⟩, fun sig hs => by rw [hs] at o6; simpa using o6.symm, x5 _ hln⟩, x5 _ o1, x5 _ o2⟩
    ⟨mj_Pc_blind _ _ _ _ _ _, hrecv, fun U hU hW => ⟨rfl, by rw [hU]; exact mj_Hp.moved hW.alike s1, ⟨s6.2.1, s6.1⟩, mj_XW.warm hW x6, x14, by rw [hU]; exact Nat.le_trans x15 s2.1⟩⟩
    rfl (by rw [List.length_map]; exact hn) s4.1 (by show List.map (mj_t as) _ = _; rw [List.map_append, List.map_reverse]; rfl) (lv_room (by rw [mj_cats]; exact hcat)) hd ⟨by show cells + mc1 ≤ R.cells; omega, by show slots + ms1 ≤ R.slots; omega⟩
  exact mj_after X E ⟨s1, s2, s3, s4, s5, s6.2.2, s7, s8⟩ hrun k
theorem mj_callS (As : List Value) (hd : decode M.2.1 pc = .ok (.invokestatic idx, 3)) (hln : Cond.methodLink M.2.2.2.2.1 idx K.1 ∈ mj_TW) (hok : mj_okS K n) (hn : As.length = n) (hcat : (st.map fun v => v.category).sum ≤ 8) (hL : K.2.2.1 ≤ 21)
    (hM : mj_C K d mc1 ms1 As h Q1) (k : ∀ v h1, Q1 v h1 → mj_W M (d + 1) mc ms Q (pc + 3) lv (v.toList ++ st) h1) : mj_W M (d + 1) (mc1 + mc) (ms1 + ms) Q pc lv (As.reverse ++ st) h := by
  intro p l e R s m args below meth c D b B0 MC MS as0 QQ X E as H locs ls cells slots S
  obtain ⟨s1, s2, s3, s4, s5, s6, s7, s8⟩ := id S
  rw [mj_oks_app, mj_oks_rev] at s6
  obtain ⟨w, o4, o5, o6⟩ := hok
  obtain ⟨o1, o3, o7⟩ := w
  obtain ⟨x1, x2, x3, x4, x5, x6, x7, x8, x9, x10, x11, x12, x13, x14, x15⟩ := id X
  have hrun := va_runS (p := p) (l := l) (e := e) (R := R) (s := s) (m := m) (args := args) (below := below) (meth := meth) (c := c) (H := H) (locs := locs) (cells := cells) (slots := slots) (cc := M.2.1) (nL := M.2.2.1) (own := M.2.2.2.2.1) (As := As.map (mj_t as)) (rest := st.map (mj_t as)) (g := F0 m pc ls ((As.reverse ++ st).map (mj_t as))) (index := idx) (n := n) (y := K.1) (bytes := K.2.1) (maxL := K.2.2.1) (ret := K.2.2.2.1) (mc := mc1) (ms := ms1)
    ⟨x1, x2, x3, x4, x5⟩ (hM l D b B0 as)
    ⟨⟨rfl, rfl, by show d + 1 ≤ R.frames; omega, by show 8 + (K.2.2.1 + 11) + 40 * d ≤ R.locals; omega, pay_in x5 (mj_good K o7), List.mem_cons_self, x5 _ o7, x5 _ o3, ⟨o4, o5⟩, fun sig hs => by rw [hs] at o6; simpa using o6.symm, x5 _ hln⟩, x5 _ o1⟩
    ⟨mj_Pc_blind _ _ _ _ _ _, fun U hU hW => ⟨rfl, by rw [hU]; exact mj_Hp.moved hW.alike s1, s6.1, mj_XW.warm hW x6, x14, by rw [hU]; exact Nat.le_trans x15 s2.1⟩⟩
    rfl (by rw [List.length_map]; exact hn) s4.1 (by show List.map (mj_t as) _ = _; rw [List.map_append, List.map_reverse]) (lv_room (by rw [mj_cats]; exact hcat)) hd ⟨by show cells + mc1 ≤ R.cells; omega, by show slots + ms1 ≤ R.slots; omega⟩
  exact mj_after X E ⟨s1, s2, s3, s4, s5, s6.2, s7, s8⟩ hrun k
/-- a static method of a nest mate -/
theorem mj_callSN {host : String} (As : List Value) (hd : decode M.2.1 pc = .ok (.invokestatic idx, 3)) (hln : ∀ s, mj_XW s → va_Nw (.methodLinkNest M.2.2.2.2.1 idx K.1 host) s) (hok : mj_okS K n) (hn : As.length = n) (hcat : (st.map fun v => v.category).sum ≤ 8) (hL : K.2.2.1 ≤ 21)
    (hM : mj_C K d mc1 ms1 As h Q1) (k : ∀ v h1, Q1 v h1 → mj_W M (d + 1) mc ms Q (pc + 3) lv (v.toList ++ st) h1) : mj_W M (d + 1) (mc1 + mc) (ms1 + ms) Q pc lv (As.reverse ++ st) h := by
  intro p l e R s m args below meth c D b B0 MC MS as0 QQ X E as H locs ls cells slots S
  obtain ⟨s1, s2, s3, s4, s5, s6, s7, s8⟩ := id S
  rw [mj_oks_app, mj_oks_rev] at s6
  obtain ⟨w, o4, o5, o6⟩ := hok
  obtain ⟨o1, o3, o7⟩ := w
  obtain ⟨x1, x2, x3, x4, x5, x6, x7, x8, x9, x10, x11, x12, x13, x14, x15⟩ := id X
  have hrun := va_runSN (p := p) (l := l) (e := e) (R := R) (s := s) (m := m) (args := args) (below := below) (meth := meth) (c := c) (H := H) (locs := locs) (cells := cells) (slots := slots) (cc := M.2.1) (nL := M.2.2.1) (own := M.2.2.2.2.1) (host := host) (As := As.map (mj_t as)) (rest := st.map (mj_t as)) (g := F0 m pc ls ((As.reverse ++ st).map (mj_t as))) (index := idx) (n := n) (y := K.1) (bytes := K.2.1) (maxL := K.2.2.1) (ret := K.2.2.2.1) (mc := mc1) (ms := ms1)
    ⟨x1, x2, x3, x4, x5⟩ (hM l D b B0 as)
    ⟨⟨⟨rfl, rfl, by show d + 1 ≤ R.frames; omega, by show 8 + (K.2.2.1 + 11) + 40 * d ≤ R.locals; omega, pay_in x5 (mj_good K o7), List.mem_cons_self⟩, x5 _ o7, x5 _ o3, ⟨o4, o5⟩, fun sig hs => by rw [hs] at o6; simpa using o6.symm, va_Nw.use rfl (hln s x6)⟩, x5 _ o1, trivial⟩
    ⟨mj_Pc_blind _ _ _ _ _ _, fun U hU hW => ⟨rfl, by rw [hU]; exact mj_Hp.moved hW.alike s1, s6.1, mj_XW.warm hW x6, x14, by rw [hU]; exact Nat.le_trans x15 s2.1⟩⟩
    rfl (by rw [List.length_map]; exact hn) s4.1 (by show List.map (mj_t as) _ = _; rw [List.map_append, List.map_reverse]) (lv_room (by rw [mj_cats]; exact hcat)) hd ⟨by show cells + mc1 ≤ R.cells; omega, by show slots + ms1 ≤ R.slots; omega⟩
  exact mj_after X E ⟨s1, s2, s3, s4, s5, s6.2, s7, s8⟩ hrun k
theorem mj_callI {a : Nat} (As : List Value) (hd : decode M.2.1 pc = .ok (.invokespecial idx, 3)) (hln : Cond.methodLink M.2.2.2.2.1 idx K.1 ∈ mj_TW) (hok : mj_okI K n) (hn : As.length = n) (hcat : (st.map fun v => v.category).sum ≤ 8) (hL : K.2.2.1 ≤ 21)
    (hM : mj_C K d mc1 ms1 (.ref a :: As) h Q1) (k : ∀ v h1, Q1 v h1 → mj_W M (d + 1) mc ms Q (pc + 3) lv (v.toList ++ st) h1) : mj_W M (d + 1) (mc1 + mc) (ms1 + ms) Q pc lv (As.reverse ++ .ref a :: st) h := by
  intro p l e R s m args below meth c D b B0 MC MS as0 QQ X E as H locs ls cells slots S
  obtain ⟨s1, s2, s3, s4, s5, s6, s7, s8⟩ := id S
  rw [mj_oks_app, mj_oks_rev] at s6
  obtain ⟨w, o4, o5, o6⟩ := hok
  obtain ⟨o1, o3, o7⟩ := w
  obtain ⟨o8, o9, o10⟩ := o4
  obtain ⟨x1, x2, x3, x4, x5, x6, x7, x8, x9, x10, x11, x12, x13, x14, x15⟩ := id X
  have hMl := hM l D b B0 as
  unfold mj_ws at hMl
  rw [o6] at hMl
  have hrun := va_runI (p := p) (l := l) (e := e) (R := R) (s := s) (m := m) (args := args) (below := below) (meth := meth) (c := c) (H := H) (locs := locs) (cells := cells) (slots := slots) (cc := M.2.1) (nL := M.2.2.1) (own := M.2.2.2.2.1) (b := as.getD a 0) (As := As.map (mj_t as)) (rest := st.map (mj_t as)) (g := F0 m pc ls ((As.reverse ++ .ref a :: st).map (mj_t as))) (index := idx) (n := n) (y := K.1) (bytes := K.2.1) (maxL := K.2.2.1) (mc := mc1) (ms := ms1)
    ⟨x1, x2, x3, x4, x5⟩ hMl
    ⟨⟨rfl, rfl, by show d + 1 ≤ R.frames; omega, by show 8 + (K.2.2.1 + 11) + 40 * d ≤ R.locals; omega, pay_in x5 (by have := mj_good K (by rw [o6]; exact o7); unfold mj_ws at this; rw [o6] at this; exact this), List.mem_cons_self, x5 _ o7, x5 _ o3, ⟨o8, o9⟩, fun sig hs => by rw [hs] at o10; simpa using o10.symm, x5 _ hln⟩, o5, x5 _ o1⟩
    ⟨mj_Pc_blind _ _ _ _ _ _, fun U hU hW => ⟨rfl, by rw [hU]; exact mj_Hp.moved hW.alike s1, ⟨s6.2.1, s6.1⟩, mj_XW.warm hW x6, x14, by rw [hU]; exact Nat.le_trans x15 s2.1⟩⟩
    rfl (by rw [List.length_map]; exact hn) s4.1 (by show List.map (mj_t as) _ = _; rw [List.map_append, List.map_reverse]; rfl) (lv_room (by rw [mj_cats]; exact hcat)) hd ⟨by show cells + mc1 ≤ R.cells; omega, by show slots + ms1 ≤ R.slots; omega⟩
  exact mj_after X E ⟨s1, s2, s3, s4, s5, s6.2.2, s7, s8⟩ hrun k
theorem mj_callIN {a : Nat} {host : String} (As : List Value) (hd : decode M.2.1 pc = .ok (.invokespecial idx, 3)) (hln : ∀ s, mj_XW s → va_Nw (.methodLinkNest M.2.2.2.2.1 idx K.1 host) s) (hok : mj_okI K n) (hn : As.length = n) (hcat : (st.map fun v => v.category).sum ≤ 8) (hL : K.2.2.1 ≤ 21)
    (hM : mj_C K d mc1 ms1 (.ref a :: As) h Q1) (k : ∀ v h1, Q1 v h1 → mj_W M (d + 1) mc ms Q (pc + 3) lv (v.toList ++ st) h1) : mj_W M (d + 1) (mc1 + mc) (ms1 + ms) Q pc lv (As.reverse ++ .ref a :: st) h := by
  intro p l e R s m args below meth c D b B0 MC MS as0 QQ X E as H locs ls cells slots S
  obtain ⟨s1, s2, s3, s4, s5, s6, s7, s8⟩ := id S
  rw [mj_oks_app, mj_oks_rev] at s6
  obtain ⟨w, o4, o5, o6⟩ := hok
  obtain ⟨o1, o3, o7⟩ := w
  obtain ⟨o8, o9, o10⟩ := o4
  obtain ⟨x1, x2, x3, x4, x5, x6, x7, x8, x9, x10, x11, x12, x13, x14, x15⟩ := id X
  have hMl := hM l D b B0 as
  unfold mj_ws at hMl
  rw [o6] at hMl
  have hrun := va_runIN (p := p) (l := l) (e := e) (R := R) (s := s) (m := m) (args := args) (below := below) (meth := meth) (c := c) (H := H) (locs := locs) (cells := cells) (slots := slots) (cc := M.2.1) (nL := M.2.2.1) (own := M.2.2.2.2.1) (host := host) (b := as.getD a 0) (As := As.map (mj_t as)) (rest := st.map (mj_t as)) (g := F0 m pc ls ((As.reverse ++ .ref a :: st).map (mj_t as))) (index := idx) (n := n) (y := K.1) (bytes := K.2.1) (maxL := K.2.2.1) (mc := mc1) (ms := ms1)
    ⟨x1, x2, x3, x4, x5⟩ hMl
    ⟨⟨⟨rfl, rfl, by show d + 1 ≤ R.frames; omega, by show 8 + (K.2.2.1 + 11) + 40 * d ≤ R.locals; omega, pay_in x5 (by have := mj_good K (by rw [o6]; exact o7); unfold mj_ws at this; rw [o6] at this; exact this), List.mem_cons_self⟩, x5 _ o7, x5 _ o3, ⟨o8, o9⟩, fun sig hs => by rw [hs] at o10; simpa using o10.symm, va_Nw.use rfl (hln s x6)⟩, o5, x5 _ o1⟩
    ⟨mj_Pc_blind _ _ _ _ _ _, fun U hU hW => ⟨rfl, by rw [hU]; exact mj_Hp.moved hW.alike s1, ⟨s6.2.1, s6.1⟩, mj_XW.warm hW x6, x14, by rw [hU]; exact Nat.le_trans x15 s2.1⟩⟩
    rfl (by rw [List.length_map]; exact hn) s4.1 (by show List.map (mj_t as) _ = _; rw [List.map_append, List.map_reverse]; rfl) (lv_room (by rw [mj_cats]; exact hcat)) hd ⟨by show cells + mc1 ≤ R.cells; omega, by show slots + ms1 ≤ R.slots; omega⟩
  exact mj_after X E ⟨s1, s2, s3, s4, s5, s6.2.2, s7, s8⟩ hrun k
end MJ3
end
section
/-! NEW CELLS, and the JDK's own: Object(), arraycopy, the two natives of Math.abs(double) -/
theorem mj_cell_ext {tys t2 : List (ClassId × FieldType)} {as ex : List Nat} {K : mj_K} {f : Nat → Int32} {g : Nat → Option Nat} {e : va_E} (hg : ∀ j c, g j = some c → c < as.length) (h : mj_cell tys as K f g e) : mj_cell (tys ++ t2) (as ++ ex) K f g e := by
  have hr : ∀ j, ((g j).map fun b => (as ++ ex).getD b 0) = ((g j).map fun b => as.getD b 0) := by
    intro j
    cases hj : g j with
    | none => rfl
    | some c =>
      have hc := hg j c hj
      show some ((as ++ ex).getD c 0) = some (as.getD c 0)
      rw [List.getD_eq_getElem?_getD, List.getD_eq_getElem?_getD, List.getElem?_append_left hc]
  have ht : ∀ (t0 : Nat) (x : ClassId × FieldType), tys[t0]? = some x → (tys ++ t2)[t0]? = some x := fun t0 x hx => by
    rw [List.getElem?_append_left (List.getElem?_eq_some_iff.mp hx).1]; exact hx
  rcases h with ⟨h1, cA, t0, h2, h3⟩ | ⟨h1, cA, t0, h2, h3⟩ | ⟨h1, h2, h3⟩
  · exact Or.inl ⟨h1, cA, t0, ht _ _ h2, h3⟩
  · refine Or.inr (Or.inl ⟨h1, cA, t0, ht _ _ h2, ?_⟩)
    rw [h3]
    congr 7
    funext j
    exact (hr j).symm
  · refine Or.inr (Or.inr ⟨h1, h2, ?_⟩)
    rw [h3]
    congr 2
    unfold mj_fs
    apply List.map_congr_left
    intro k _
    rw [hr k]
theorem mj_Hp_new {D : va_G} {b n a : Nat} {as : List Nat} {K : Nat → mj_K} {f : Nat → Nat → Int32} {g : Nat → Nat → Option Nat} {A : Nat → Prop} {s : State} {H1 : Heap} {ws : va_W} {tys t2 : List (ClassId × FieldType)} {e : va_E} {kk : mj_K}
    (h1 : as = b :: ws.map (·.1)) (h2 : n = ws.length + 1) (h3 : ∀ k j c, g k j = some c → c < n) (h4 : ∀ k q, ws[k]? = some q → mj_cell tys as (K (k + 1)) (f (k + 1)) (g (k + 1)) q.2) (h5 : va_K D vwCl (tys ++ t2) s) (h8 : (K 0).1 = 3)
    (hP : va_P D vwCl (ws ++ [(a, e)]) H1) (hD : va_D A (ws ++ [(a, e)])) (hX : va_X b (K 0).2.1 (f 0) s H1) (hc : mj_cell (tys ++ t2) (as ++ [a]) kk (fun _ => 0) (fun _ => none) e) :
    mj_Hp D b (as ++ [a]) (n + 1, mj_row K n kk, mj_row f n (fun _ => 0), mj_row g n (fun _ => none)) A s H1 := by
  have hlen : as.length = n := by rw [h1, List.length_cons, List.length_map, h2]
  refine ⟨ws ++ [(a, e)], tys ++ t2, by rw [h1, List.map_append]; rfl, by show n + 1 = _; rw [List.length_append, h2]; rfl, ?_, ?_, h5, hP, hD, ?_, ?_⟩
  · intro k j c hc
    show c < n + 1
    have hc : mj_row g n (fun _ => none) k j = some c := hc
    unfold mj_row at hc
    split at hc
    · cases hc
    · exact Nat.lt_succ_of_lt (h3 _ _ _ hc)
  · intro k q hq
    show mj_cell (tys ++ t2) (as ++ [a]) (mj_row K n kk (k + 1)) (mj_row f n (fun _ => 0) (k + 1)) (mj_row g n (fun _ => none) (k + 1)) q.2
    by_cases hk : k < ws.length
    · rw [List.getElem?_append_left hk] at hq
      unfold mj_row
      rw [if_neg (by omega), if_neg (by omega), if_neg (by omega)]
      exact mj_cell_ext (fun j c hj => by rw [hlen]; exact h3 _ _ _ hj) (h4 k q hq)
    · have hk2 : k = ws.length := by
        have := (List.getElem?_eq_some_iff.mp hq).1
        rw [List.length_append] at this
        simp at this
        omega
      subst hk2
      rw [List.getElem?_concat_length] at hq
      cases hq
      unfold mj_row
      rw [if_pos (by omega), if_pos (by omega), if_pos (by omega)]
      exact hc
  · show (mj_row K n kk 0).1 = 3
    unfold mj_row
    rw [if_neg (by omega)]
    exact h8
  · show va_X b (mj_row K n kk 0).2.1 (mj_row f n (fun _ => 0) 0) s H1
    unfold mj_row
    rw [if_neg (by omega), if_neg (by omega)]
    exact hX
theorem mj_dflt : ∀ ci, ci < 6 → ∀ (as : List Nat) (j : Nat), j < mT_N ci → defaultValue (mT_ty ci j) = vp_V (mj_fs as ci (fun _ => 0) (fun _ => none)) j := by
  intro ci hci as j hj
  unfold vp_V
  rw [List.getD_eq_getElem?_getD, mj_fs_get _ _ _ _ hj]
  match ci, hci with
  | 0, _ =>
    match j, hj with
    | 0, _ => rfl
    | 1, _ => rfl
    | 2, _ => rfl
    | 3, _ => rfl
    | 4, _ => rfl
    | z + 5, h => exact absurd h (by show ¬ z + 5 < 5; omega)
  | 1, _ =>
    match j, hj with
    | 0, _ => rfl
    | 1, _ => rfl
    | 2, _ => rfl
    | 3, _ => rfl
    | 4, _ => rfl
    | 5, _ => rfl
    | 6, _ => rfl
    | 7, _ => rfl
    | 8, _ => rfl
    | 9, _ => rfl
    | 10, _ => rfl
    | 11, _ => rfl
    | 12, _ => rfl
    | 13, _ => rfl
    | 14, _ => rfl
    | 15, _ => rfl
    | z + 16, h => exact absurd h (by show ¬ z + 16 < 16; omega)
  | 2, _ =>
    match j, hj with
    | 0, _ => rfl
    | 1, _ => rfl
    | 2, _ => rfl
    | 3, _ => rfl
    | 4, _ => rfl
    | 5, _ => rfl
    | 6, _ => rfl
    | 7, _ => rfl
    | 8, _ => rfl
    | 9, _ => rfl
    | 10, _ => rfl
    | 11, _ => rfl
    | 12, _ => rfl
    | 13, _ => rfl
    | 14, _ => rfl
    | 15, _ => rfl
    | 16, _ => rfl
    | 17, _ => rfl
    | z + 18, h => exact absurd h (by show ¬ z + 18 < 18; omega)
  | 3, _ =>
    match j, hj with
    | 0, _ => rfl
    | 1, _ => rfl
    | 2, _ => rfl
    | 3, _ => rfl
    | 4, _ => rfl
    | 5, _ => rfl
    | z + 6, h => exact absurd h (by show ¬ z + 6 < 6; omega)
  | 4, _ =>
    match j, hj with
    | 0, _ => rfl
    | 1, _ => rfl
    | 2, _ => rfl
    | 3, _ => rfl
    | 4, _ => rfl
    | z + 5, h => exact absurd h (by show ¬ z + 5 < 5; omega)
  | 5, _ =>
    match j, hj with
    | 0, _ => rfl
    | 1, _ => rfl
    | 2, _ => rfl
    | 3, _ => rfl
    | z + 4, h => exact absurd h (by show ¬ z + 4 < 4; omega)
  | z + 6, h => exact absurd h (by omega)
section MJ4
variable {M : mj_M} {d mc ms : Nat} {Q : mj_Q} {pc q : Nat} {lv st : List Value} {n : Nat} {K : Nat → mj_K} {f : Nat → Nat → Int32} {g : Nat → Nat → Option Nat}
theorem mj_new {idx ci : Nat} (hd : decode M.2.1 pc = .ok (.new idx, 3)) (hci : ci < 6) (hcl : Cond.classLink M.2.2.2.2.1 idx (mT_C ci) ∈ mj_TW) (hin : Cond.instantiable (mT_C ci) (mT_N ci) ∈ mj_TW ∧ Cond.initialized (mT_C ci) ∈ mj_TW) (hq : pc + 3 = q)
    (k : mj_W M d mc ms Q q lv (.ref n :: st) (n + 1, mj_row K n (2, ci, 0), mj_row f n (fun _ => 0), mj_row g n (fun _ => none))) : mj_W M d (1 + mc) (mT_N ci + ms) Q pc lv st (n, K, f, g) := by
  subst hq
  intro p l e R s m args below meth c D b B0 MC MS as0 QQ X E as H locs ls cells slots S
  obtain ⟨s1, s2, s3, s4, s5, s6, s7, s8⟩ := S
  obtain ⟨ws, tys, h1, h2, h3, h4, h5, h6, h7, h8, h9⟩ := id s1
  dsimp only at h2 h3 h4 h8 h9 s5 s6
  obtain ⟨x1, x2, x3, x4, x5, x6, x7, x8, x9, x10, x11, x12, x13, x14, x15⟩ := id X
  have hlen : as.length = n := by rw [h1, List.length_cons, List.length_map, h2]
  refine va_new (C := mT_C ci) (T := mT_T ci) (N := mT_N ci) (ci := ci) (A := fun q => B0 ≤ q) (fs := mj_fs as ci (fun _ => 0) (fun _ => none)) x1 x2 x5 (mT_in ci hci) (mT_ty ci) (mT_tyok ci hci) x4 (x5 _ hcl) (x5 _ hin.1) (x5 _ hin.2) h5 h6 h7 s2 (fun q h => Nat.le_trans x15 h) (mT_at ci hci) (fun j hj => mj_dflt ci hci as j hj) (by omega) (by omega) hd (fun q H1 hP hD hS => ?_)
  have e1 : st.map (mj_t as) = st.map (mj_t (as ++ [q])) := (mj_ts_app (by rw [hlen]; exact s6)).symm
  have e2 : Value.ref q = mj_t (as ++ [q]) (.ref n) := by
    show Value.ref q = Value.ref _
    rw [List.getD_eq_getElem?_getD, ← hlen, List.getElem?_concat_length]
    rfl
  rw [e1, e2]
  refine k p l e R s m args below meth c D b B0 MC MS as0 QQ X E (as ++ [q]) H1 locs ls (cells + 1) (slots + mT_N ci) ⟨?_, hS, by obtain ⟨ex, rfl⟩ := s3; exact ⟨ex ++ [q], by rw [List.append_assoc]⟩, by rw [mj_al_app lv 0 (by rw [hlen]; exact s5)]; exact s4, mj_oks_mono (Nat.le_succ n) s5, ⟨Nat.lt_succ_self n, mj_oks_mono (Nat.le_succ n) s6⟩, by omega, by omega⟩
  refine mj_Hp_new (t2 := []) h1 h2 h3 h4 (by rw [List.append_nil]; exact h5) h8 hP hD (mj_scr h9 s2 hS x14 x15) (Or.inr (Or.inr ⟨rfl, hci, ?_⟩))
  show Sum.inr (ci, _) = Sum.inr (ci, mj_fs (as ++ [q]) ci (fun _ => 0) (fun _ => none))
  rfl
theorem mj_newa {x : Int32} {L : Nat} (hd : decode M.2.1 pc = .ok (.newarray .int, 2)) (hw : Cond.arrayClass .int ∈ mj_TW) (hx : ¬ x < 0) (hL : x.toNatClampNeg = L) (hsz : L ≤ 1000) (hq : pc + 2 = q)
    (k : mj_W M d mc ms Q q lv (.ref n :: st) (n + 1, mj_row K n (0, L, 0), mj_row f n (fun _ => 0), mj_row g n (fun _ => none))) : mj_W M d (1 + mc) (L + ms) Q pc lv (.int x :: st) (n, K, f, g) := by
  subst hq
  intro p l e R s m args below meth c D b B0 MC MS as0 QQ X E as H locs ls cells slots S
  obtain ⟨s1, s2, s3, s4, s5, s6, s7, s8⟩ := S
  obtain ⟨ws, tys, h1, h2, h3, h4, h5, h6, h7, h8, h9⟩ := id s1
  dsimp only at h2 h3 h4 h8 h9 s5 s6
  obtain ⟨x1, x2, x3, x4, x5, x6, x7, x8, x9, x10, x11, x12, x13, x14, x15⟩ := id X
  have s6 := s6.2
  have hlen : as.length = n := by rw [h1, List.length_cons, List.length_map, h2]
  refine va_newa (atype := .int) (ty := .int) (A := fun q => B0 ≤ q) (a0 := (L, .inl (fun _ => 0))) x1 x2 (x5 _ hw) rfl h5 h6 h7 s2 (fun q h => Nat.le_trans x15 h) (fun cA => rfl) hx hL (by show L * 4 ≤ 536870912; omega) (by omega) (by omega) hd (fun q cA H1 hK hP hD hS => ?_)
  have e1 : st.map (mj_t as) = st.map (mj_t (as ++ [q])) := (mj_ts_app (by rw [hlen]; exact s6)).symm
  have e2 : Value.ref q = mj_t (as ++ [q]) (.ref n) := by
    show Value.ref q = Value.ref _
    rw [List.getD_eq_getElem?_getD, ← hlen, List.getElem?_concat_length]
    rfl
  rw [e1, e2]
  refine k p l e R s m args below meth c D b B0 MC MS as0 QQ X E (as ++ [q]) H1 locs ls (cells + 1) (slots + L) ⟨?_, hS, by obtain ⟨ex, rfl⟩ := s3; exact ⟨ex ++ [q], by rw [List.append_assoc]⟩, by rw [mj_al_app lv 0 (by rw [hlen]; exact s5)]; exact s4, mj_oks_mono (Nat.le_succ n) s5, ⟨Nat.lt_succ_self n, mj_oks_mono (Nat.le_succ n) s6⟩, by omega, by omega⟩
  exact mj_Hp_new (t2 := [(cA, .int)]) h1 h2 h3 h4 hK h8 hP hD (mj_scr h9 s2 hS x14 x15) (Or.inl ⟨rfl, cA, tys.length, List.getElem?_concat_length, rfl⟩)
theorem mj_newq {x : Int32} {L idx ci : Nat} (hd : decode M.2.1 pc = .ok (.anewarray idx, 3)) (hcl : Cond.classLink M.2.2.2.2.1 idx (mT_C ci) ∈ mj_TW) (hao : ∀ s, mj_XW s → va_AO (mT_C ci) s) (hx : ¬ x < 0) (hL : x.toNatClampNeg = L) (hsz : L ≤ 1000) (hq : pc + 3 = q)
    (k : mj_W M d mc ms Q q lv (.ref n :: st) (n + 1, mj_row K n (1, L, ci), mj_row f n (fun _ => 0), mj_row g n (fun _ => none))) : mj_W M d (1 + mc) (L + ms) Q pc lv (.int x :: st) (n, K, f, g) := by
  subst hq
  intro p l e R s m args below meth c D b B0 MC MS as0 QQ X E as H locs ls cells slots S
  obtain ⟨s1, s2, s3, s4, s5, s6, s7, s8⟩ := S
  obtain ⟨ws, tys, h1, h2, h3, h4, h5, h6, h7, h8, h9⟩ := id s1
  dsimp only at h2 h3 h4 h8 h9 s5 s6
  obtain ⟨x1, x2, x3, x4, x5, x6, x7, x8, x9, x10, x11, x12, x13, x14, x15⟩ := id X
  have s6 := s6.2
  have hlen : as.length = n := by rw [h1, List.length_cons, List.length_map, h2]
  refine va_newq (C := mT_C ci) (A := fun q => B0 ≤ q) x1 x2 x4 (x5 _ hcl) (hao s x6) h5 h6 h7 s2 (fun q h => Nat.le_trans x15 h) hx hL (by omega) (by omega) (by omega) hd (fun q cA H1 hK hP hD hS => ?_)
  have e1 : st.map (mj_t as) = st.map (mj_t (as ++ [q])) := (mj_ts_app (by rw [hlen]; exact s6)).symm
  have e2 : Value.ref q = mj_t (as ++ [q]) (.ref n) := by
    show Value.ref q = Value.ref _
    rw [List.getD_eq_getElem?_getD, ← hlen, List.getElem?_concat_length]
    rfl
  rw [e1, e2]
  refine k p l e R s m args below meth c D b B0 MC MS as0 QQ X E (as ++ [q]) H1 locs ls (cells + 1) (slots + L) ⟨?_, hS, by obtain ⟨ex, rfl⟩ := s3; exact ⟨ex ++ [q], by rw [List.append_assoc]⟩, by rw [mj_al_app lv 0 (by rw [hlen]; exact s5)]; exact s4, mj_oks_mono (Nat.le_succ n) s5, ⟨Nat.lt_succ_self n, mj_oks_mono (Nat.le_succ n) s6⟩, by omega, by omega⟩
  exact mj_Hp_new (t2 := [(cA, .object (mT_C ci))]) h1 h2 h3 h4 hK h8 hP hD (mj_scr h9 s2 hS x14 x15) (Or.inr (Or.inl ⟨rfl, cA, tys.length, List.getElem?_concat_length, rfl⟩))
theorem mj_objInit {h : mj_H} {idx a : Nat} (hd : decode M.2.1 pc = .ok (.invokespecial idx, 3)) (hln : Cond.methodLink M.2.2.2.2.1 idx Lib.objectInit ∈ mj_TW) (hcat : (st.map fun v => v.category).sum ≤ 8) (hq : pc + 3 = q)
    (k : mj_W M (d + 1) mc ms Q q lv st h) : mj_W M (d + 1) mc ms Q pc lv (.ref a :: st) h := by
  subst hq
  intro p l e R s m args below meth c D b B0 MC MS as0 QQ X E as H locs ls cells slots S
  obtain ⟨s1, s2, s3, s4, s5, s6, s7, s8⟩ := S
  obtain ⟨x1, x2, x3, x4, x5, x6, x7, x8, x9, x10, x11, x12, x13, x14, x15⟩ := id X
  exact W.objInit (g := F0 m pc ls ((.ref a :: st).map (mj_t as))) x1 x2 x4 (x5 _ hln) (x5 _ (mj_in 23 (by decide +kernel) rfl)) (x5 _ (mj_in 24 (by decide +kernel) rfl)) rfl (s4.1.trans x3.symm) rfl hd (by omega) (by show 2 * 0 + _ + 12 ≤ _; rw [mj_cats]; omega)
    (k p l e R s m args below meth c D b B0 MC MS as0 QQ X E as H locs ls cells slots ⟨s1, s2, s3, s4, s5, s6.2, s7, s8⟩)
theorem mj_copyi {idx a0 a1 n0 n1 : Nat} {sp dp cn : Int32} (hd : decode M.2.1 pc = .ok (.invokestatic idx, 3)) (hln : Cond.methodLink M.2.2.2.2.1 idx arraycopyName ∈ mj_TW) (hK0 : K a0 = (0, n0, 0)) (hK1 : K a1 = (0, n1, 0)) (h1 : ¬ sp < 0) (h2 : ¬ dp < 0) (h3 : ¬ cn < 0) (h4 : sp.toNatClampNeg + cn.toNatClampNeg ≤ n0) (h5 : dp.toNatClampNeg + cn.toNatClampNeg ≤ n1) (hcat : (st.map fun v => v.category).sum ≤ 8) (hq : pc + 3 = q)
    (k : mj_W M (d + 1) mc ms Q q lv st (n, K, mj_row f a1 (va_cpy (f a0) (f a1) sp.toNatClampNeg dp.toNatClampNeg cn.toNatClampNeg), g)) : mj_W M (d + 1) mc ms Q pc lv (.int cn :: .int dp :: .ref a1 :: .int sp :: .ref a0 :: st) (n, K, f, g) := by
  subst hq
  intro p l e R s m args below meth c D b B0 MC MS as0 QQ X E as H locs ls cells slots S
  obtain ⟨s1, s2, s3, s4, s5, s6, s7, s8⟩ := S
  obtain ⟨ws, tys, g1, g2, g3, g4, g5, g6, g7, g8, g9⟩ := id s1
  dsimp only at g2 g3 g4 g8 g9 s5 s6
  obtain ⟨x1, x2, x3, x4, x5, x6, x7, x8, x9, x10, x11, x12, x13, x14, x15⟩ := id X
  obtain ⟨-, -, t1, -, t0, s6⟩ := s6
  obtain ⟨j0, e0, rfl, hj0, hc0⟩ := mj_place g1 g2 g4 g8 t0 (by rw [hK0]; simp)
  obtain ⟨j1, e1, rfl, hj1, hc1⟩ := mj_place g1 g2 g4 g8 t1 (by rw [hK1]; simp)
  rcases hc0 with ⟨-, cA0, u0, hu0, he0⟩ | ⟨hc, -⟩ | ⟨hc, -⟩
  · rcases hc1 with ⟨-, cA1, u1, hu1, he1⟩ | ⟨hc, -⟩ | ⟨hc, -⟩
    · rw [hK0] at he0
      rw [hK1] at he1
      dsimp only at he0 he1
      subst he0
      subst he1
      refine va_copyi (a := as.getD (j1 + 1) 0) (a0 := as.getD (j0 + 1) 0) (ty := .int) (sp := sp) (dp := dp) (n := cn) x1 x2 (x3.trans s4.1.symm) x4 (x5 _ hln) (x5 _ (mj_in 622 (by decide +kernel) rfl)) (x5 _ (mj_in 621 (by decide +kernel) rfl)) (x5 _ (mj_in 16 (by decide +kernel) rfl)) g5 g6 g7 s2 j0 j1 u0 u1 hj0 hj1 hu0 hu1 rfl h1 h2 h3 h4 h5 (fun _ _ => rfl) (by omega) (by rw [mj_cats, show nativeFrameWords "java/lang/System" "arraycopy" 5 = 7 from by decide +kernel]; omega) hd (fun H1 locs1 hP hD hS => ?_)
      refine k p l e R s m args below meth c D b B0 MC MS as0 QQ X E as H1 locs1 ls cells slots ⟨?_, hS, s3, s4, s5, s6, s7, s8⟩
      refine mj_Hp_set g1 g2 g3 g4 g5 g8 hj1 hP hD (mj_scr g9 s2 hS x14 x15) (Or.inl ⟨by rw [hK1], cA1, u1, hu1, ?_⟩) (fun i hi => by simp [mj_row, hi]) (fun i hi => rfl)
      rw [hK1]
      simp [mj_row]
    · rw [hK1] at hc; cases hc
    · rw [hK1] at hc; cases hc
  · rw [hK0] at hc; cases hc
  · rw [hK0] at hc; cases hc
theorem mj_d2l {h : mj_H} {idx : Nat} {x : UInt64} (hd : decode M.2.1 pc = .ok (.invokestatic idx, 3)) (hln : Cond.methodLink M.2.2.2.2.1 idx ⟨"java/lang/Double", "doubleToRawLongBits", "(D)J"⟩ ∈ mj_TW) (hcat : (st.map fun v => v.category).sum ≤ 8) (hq : pc + 3 = q)
    (k : mj_W M (d + 1) mc ms Q q lv (.long x.toInt64 :: st) h) : mj_W M (d + 1) mc ms Q pc lv (.double x :: st) h := by
  subst hq
  intro p l e R s m args below meth c D b B0 MC MS as0 QQ X E as H locs ls cells slots S
  obtain ⟨s1, s2, s3, s4, s5, s6, s7, s8⟩ := S
  obtain ⟨x1, x2, x3, x4, x5, x6, x7, x8, x9, x10, x11, x12, x13, x14, x15⟩ := id X
  exact vn_d2l x1 x2 (x3.trans s4.1.symm) x4 (x5 _ hln) (x5 _ (mj_in 765 (by decide +kernel) rfl)) (x5 _ (mj_in 764 (by decide +kernel) rfl)) (x5 _ (mj_in 15 (by decide +kernel) rfl)) (by omega) (by rw [mj_cats]; omega) hd
    (k p l e R s m args below meth c D b B0 MC MS as0 QQ X E as H locs ls cells slots ⟨s1, s2, s3, s4, s5, ⟨trivial, s6.2⟩, s7, s8⟩)
theorem mj_l2d {h : mj_H} {idx : Nat} {x : Int64} (hd : decode M.2.1 pc = .ok (.invokestatic idx, 3)) (hln : Cond.methodLink M.2.2.2.2.1 idx ⟨"java/lang/Double", "longBitsToDouble", "(J)D"⟩ ∈ mj_TW) (hv : vn_snl2d x = false) (hcat : (st.map fun v => v.category).sum ≤ 8) (hq : pc + 3 = q)
    (k : mj_W M (d + 1) mc ms Q q lv (.double x.toUInt64 :: st) h) : mj_W M (d + 1) mc ms Q pc lv (.long x :: st) h := by
  subst hq
  intro p l e R s m args below meth c D b B0 MC MS as0 QQ X E as H locs ls cells slots S
  obtain ⟨s1, s2, s3, s4, s5, s6, s7, s8⟩ := S
  obtain ⟨x1, x2, x3, x4, x5, x6, x7, x8, x9, x10, x11, x12, x13, x14, x15⟩ := id X
  exact vn_l2d x1 x2 (x3.trans s4.1.symm) x4 (x5 _ hln) (x5 _ (mj_in 769 (by decide +kernel) rfl)) (x5 _ (mj_in 768 (by decide +kernel) rfl)) (x5 _ (mj_in 15 (by decide +kernel) rfl)) hv (by omega) (by rw [mj_cats]; omega) hd
    (k p l e R s m args below meth c D b B0 MC MS as0 QQ X E as H locs ls cells slots ⟨s1, s2, s3, s4, s5, ⟨trivial, s6.2⟩, s7, s8⟩)
theorem mj_ldc {h : mj_H} {idx : Nat} {x : Int32} (hd : decode M.2.1 pc = .ok (.ldc idx, 2)) (hw : Cond.constant M.2.2.2.2.1 idx x ∈ mj_TW) (hq : pc + 2 = q) (k : mj_W M d mc ms Q q lv (.int x :: st) h) : mj_W M d mc ms Q pc lv st h := by
  subst hq
  intro p l e R s m args below meth c D b B0 MC MS as0 QQ X E as H locs ls cells slots S
  obtain ⟨s1, s2, s3, s4, s5, s6, s7, s8⟩ := S
  exact lv_ldc X.1 X.2.1 X.2.2.2.1 (X.2.2.2.2.1 _ hw) hd (k p l e R s m args below meth c D b B0 MC MS as0 QQ X E as H locs ls cells slots ⟨s1, s2, s3, s4, s5, ⟨trivial, s6⟩, s7, s8⟩)
theorem mj_ldcw {h : mj_H} {idx : Nat} {x : Int32} (hd : decode M.2.1 pc = .ok (.ldc_w idx, 3)) (hw : Cond.constant M.2.2.2.2.1 idx x ∈ mj_TW) (hq : pc + 3 = q) (k : mj_W M d mc ms Q q lv (.int x :: st) h) : mj_W M d mc ms Q pc lv st h := by
  subst hq
  intro p l e R s m args below meth c D b B0 MC MS as0 QQ X E as H locs ls cells slots S
  obtain ⟨s1, s2, s3, s4, s5, s6, s7, s8⟩ := S
  exact lv_ldcw X.1 X.2.1 X.2.2.2.1 (X.2.2.2.2.1 _ hw) hd (k p l e R s m args below meth c D b B0 MC MS as0 QQ X E as H locs ls cells slots ⟨s1, s2, s3, s4, s5, ⟨trivial, s6⟩, s7, s8⟩)
theorem mj_ldc2 {h : mj_H} {idx : Nat} {x : Int64} (hd : decode M.2.1 pc = .ok (.ldc2_w idx, 3)) (hw : Cond.constantLong M.2.2.2.2.1 idx x ∈ mj_TW) (hq : pc + 3 = q) (k : mj_W M d mc ms Q q lv (.long x :: st) h) : mj_W M d mc ms Q pc lv st h := by
  subst hq
  intro p l e R s m args below meth c D b B0 MC MS as0 QQ X E as H locs ls cells slots S
  obtain ⟨s1, s2, s3, s4, s5, s6, s7, s8⟩ := S
  exact lv_ldc2 X.1 X.2.1 X.2.2.2.1 (X.2.2.2.2.1 _ hw) hd (k p l e R s m args below meth c D b B0 MC MS as0 QQ X E as H locs ls cells slots ⟨s1, s2, s3, s4, s5, ⟨trivial, s6⟩, s7, s8⟩)
theorem mj_ldc2d {h : mj_H} {idx : Nat} {x : UInt64} (hd : decode M.2.1 pc = .ok (.ldc2_w idx, 3)) (hw : Cond.constantDouble M.2.2.2.2.1 idx x ∈ mj_TW) (hq : pc + 3 = q) (k : mj_W M d mc ms Q q lv (.double x :: st) h) : mj_W M d mc ms Q pc lv st h := by
  subst hq
  intro p l e R s m args below meth c D b B0 MC MS as0 QQ X E as H locs ls cells slots S
  obtain ⟨s1, s2, s3, s4, s5, s6, s7, s8⟩ := S
  exact lv_ldc2d X.1 X.2.1 X.2.2.2.1 (X.2.2.2.2.1 _ hw) hd (k p l e R s m args below meth c D b B0 MC MS as0 QQ X E as H locs ls cells slots ⟨s1, s2, s3, s4, s5, ⟨trivial, s6⟩, s7, s8⟩)
end MJ4
end
