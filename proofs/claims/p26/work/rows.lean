section
-- ===== PART A: goes FIRST, ahead of the names: the tables' words, and 'selects' of the private methods out of them =====
/-- a private method of a class that the tables say can be made, by its rows of tables_1 -/
def lw_okq (q : MethodName × Nat) : Prop := (q.1.cls ≠ "java/lang/invoke/MethodHandle" ∧ q.1.cls ≠ "java/lang/invoke/VarHandle") ∧ Cond.instantiable q.1.cls q.2 ∈ tables_1 ∧ Cond.privateMethod q.1 ∈ tables_1 ∧ Cond.instanceMethod q.1 ∈ tables_1
theorem lw_p0 : lw_okq (⟨"java/util/ArrayList", "add", "(Ljava/lang/Object;[Ljava/lang/Object;I)V"⟩, 3) := ⟨⟨by decide +kernel, by decide +kernel⟩, List.mem_of_getElem? (i := 31) (by decide +kernel), List.mem_of_getElem? (i := 273) (by decide +kernel), List.mem_of_getElem? (i := 274) (by decide +kernel)⟩
theorem lw_p1 : lw_okq (⟨"java/util/ArrayList", "grow", "()[Ljava/lang/Object;"⟩, 3) := ⟨⟨by decide +kernel, by decide +kernel⟩, List.mem_of_getElem? (i := 31) (by decide +kernel), List.mem_of_getElem? (i := 277) (by decide +kernel), List.mem_of_getElem? (i := 278) (by decide +kernel)⟩
theorem lw_p2 : lw_okq (⟨"java/util/ArrayList", "grow", "(I)[Ljava/lang/Object;"⟩, 3) := ⟨⟨by decide +kernel, by decide +kernel⟩, List.mem_of_getElem? (i := 31) (by decide +kernel), List.mem_of_getElem? (i := 281) (by decide +kernel), List.mem_of_getElem? (i := 282) (by decide +kernel)⟩
theorem lw_p3 : lw_okq (⟨"java/util/ArrayList", "fastRemove", "([Ljava/lang/Object;I)V"⟩, 3) := ⟨⟨by decide +kernel, by decide +kernel⟩, List.mem_of_getElem? (i := 31) (by decide +kernel), List.mem_of_getElem? (i := 349) (by decide +kernel), List.mem_of_getElem? (i := 350) (by decide +kernel)⟩
theorem lw_p4 : lw_okq (⟨"BallastTrain$State", "carryOutOrders", "()V"⟩, 9) := ⟨⟨by decide +kernel, by decide +kernel⟩, List.mem_of_getElem? (i := 75) (by decide +kernel), List.mem_of_getElem? (i := 367) (by decide +kernel), List.mem_of_getElem? (i := 368) (by decide +kernel)⟩
theorem lw_p5 : lw_okq (⟨"BallastTrain$State", "unload", "()V"⟩, 9) := ⟨⟨by decide +kernel, by decide +kernel⟩, List.mem_of_getElem? (i := 75) (by decide +kernel), List.mem_of_getElem? (i := 394) (by decide +kernel), List.mem_of_getElem? (i := 395) (by decide +kernel)⟩
theorem lw_p6 : lw_okq (⟨"BallastTrain$State", "land", "(III)V"⟩, 9) := ⟨⟨by decide +kernel, by decide +kernel⟩, List.mem_of_getElem? (i := 75) (by decide +kernel), List.mem_of_getElem? (i := 403) (by decide +kernel), List.mem_of_getElem? (i := 404) (by decide +kernel)⟩
def lw_privs_1 : List (MethodName × Nat) := [(⟨"java/util/ArrayList", "add", "(Ljava/lang/Object;[Ljava/lang/Object;I)V"⟩, 3), (⟨"java/util/ArrayList", "grow", "()[Ljava/lang/Object;"⟩, 3), (⟨"java/util/ArrayList", "grow", "(I)[Ljava/lang/Object;"⟩, 3), (⟨"java/util/ArrayList", "fastRemove", "([Ljava/lang/Object;I)V"⟩, 3), (⟨"BallastTrain$State", "carryOutOrders", "()V"⟩, 9), (⟨"BallastTrain$State", "unload", "()V"⟩, 9), (⟨"BallastTrain$State", "land", "(III)V"⟩, 9)]
theorem lw_r1 : ∀ q ∈ lw_privs_1, lw_okq q := List.forall_mem_cons.mpr ⟨lw_p0, List.forall_mem_cons.mpr ⟨lw_p1, List.forall_mem_cons.mpr ⟨lw_p2, List.forall_mem_cons.mpr ⟨lw_p3, List.forall_mem_cons.mpr ⟨lw_p4, List.forall_mem_cons.mpr ⟨lw_p5, List.forall_mem_cons.mpr ⟨lw_p6, fun _ h => absurd h List.not_mem_nil⟩⟩⟩⟩⟩⟩⟩
def lw_privs : List (MethodName × Nat) := lw_privs_1
def lw_tbl : List Cond := k2_sels lw_privs ++ tables_1
theorem lw_privs_ok : ∀ q ∈ lw_privs, lw_okq q := lw_r1
end
section
def RX0 : String := "BallastTrain$History"
def TX0 : u_T := fun k => match k with
  | 0 => ("BallastTrain$History", "states", "[LBallastTrain$State;", true)
  | 1 => ("BallastTrain$History", "next", "I", false)
  | _ => ("BallastTrain$History", "size", "I", false)
def tyX0 : Nat → FieldType := fun k => match k with
  | 0 => .array (.object "BallastTrain$State")
  | 1 => .int
  | _ => .int
abbrev wsX00 : List Cond := u_ws RX0 TX0 3
theorem nmX0 : ∀ a, a < 3 → ∀ b, b < 3 → a ≠ b → (TX0 a).2.1 ≠ (TX0 b).2.1 := by decide +kernel
theorem tyX0_ok : ∀ k, k < 3 → parseFieldDescriptor (TX0 k).2.2.1 = some (tyX0 k) := by decide +kernel
abbrev cX0_init : ByteArray := prog_2_method_1_code
def yX0_init : MethodName := ⟨RX0, "<init>", "()V"⟩
abbrev cX0_keep : ByteArray := prog_2_method_2_code
def yX0_keep : MethodName := ⟨RX0, "keep", "(LBallastTrain$State;)V"⟩
abbrev cX0_restore : ByteArray := prog_2_method_3_code
def yX0_restore : MethodName := ⟨RX0, "restore", "(LBallastTrain$State;)V"⟩
def RX1 : String := "BallastTrain$Order"
def TX1 : u_T := fun k => match k with
  | _ => ("", "", "", false)
def tyX1 : Nat → FieldType := fun k => match k with
  | _ => .int
abbrev wsX10 : List Cond := u_ws RX1 TX1 0
theorem nmX1 : ∀ a, a < 0 → ∀ b, b < 0 → a ≠ b → (TX1 a).2.1 ≠ (TX1 b).2.1 := by decide +kernel
theorem tyX1_ok : ∀ k, k < 0 → parseFieldDescriptor (TX1 k).2.2.1 = some (tyX1 k) := by decide +kernel
abbrev cX1_isDue : ByteArray := prog_3_method_3_code
def yX1_isDue : MethodName := ⟨RX1, "isDue", "(LBallastTrain$Train;)Z"⟩
abbrev cX1_carryOut : ByteArray := prog_3_method_4_code
def yX1_carryOut : MethodName := ⟨RX1, "carryOut", "(LBallastTrain$Train;I)V"⟩
def RX2 : String := "BallastTrain$State"
def TX2 : u_T := fun k => match k with
  | 0 => ("BallastTrain$State", "settings", "[I", true)
  | 1 => ("BallastTrain$State", "track", "LBallastTrain$Track;", true)
  | 2 => ("BallastTrain$State", "train", "LBallastTrain$Train;", true)
  | 3 => ("BallastTrain$State", "orders", "Ljava/util/ArrayList;", true)
  | 4 => ("BallastTrain$State", "time", "I", false)
  | 5 => ("BallastTrain$State", "jams", "I", false)
  | 6 => ("BallastTrain$State", "loaded", "I", false)
  | 7 => ("BallastTrain$State", "lost", "I", false)
  | _ => ("BallastTrain$State", "taken", "I", false)
def tyX2 : Nat → FieldType := fun k => match k with
  | 0 => .array .int
  | 1 => .object "BallastTrain$Track"
  | 2 => .object "BallastTrain$Train"
  | 3 => .object "java/util/ArrayList"
  | 4 => .int
  | 5 => .int
  | 6 => .int
  | 7 => .int
  | _ => .int
abbrev wsX20 : List Cond := u_ws RX2 TX2 9
theorem nmX2 : ∀ a, a < 9 → ∀ b, b < 9 → a ≠ b → (TX2 a).2.1 ≠ (TX2 b).2.1 := by decide +kernel
theorem tyX2_ok : ∀ k, k < 9 → parseFieldDescriptor (TX2 k).2.2.1 = some (tyX2 k) := by decide +kernel
abbrev cX2_init : ByteArray := prog_4_method_1_code
def yX2_init : MethodName := ⟨RX2, "<init>", "()V"⟩
abbrev cX2_copyFrom : ByteArray := prog_4_method_2_code
def yX2_copyFrom : MethodName := ⟨RX2, "copyFrom", "(LBallastTrain$State;)V"⟩
abbrev cX2_passSecond : ByteArray := prog_4_method_3_code
def yX2_passSecond : MethodName := ⟨RX2, "passSecond", "()V"⟩
abbrev cX2_unload : ByteArray := prog_4_method_5_code
def yX2_unload : MethodName := ⟨RX2, "unload", "()V"⟩
abbrev cX2_land : ByteArray := prog_4_method_6_code
def yX2_land : MethodName := ⟨RX2, "land", "(III)V"⟩
abbrev cX2_carryOutOrders : ByteArray := prog_4_method_7_code
def yX2_carryOutOrders : MethodName := ⟨RX2, "carryOutOrders", "()V"⟩
def RX3 : String := "BallastTrain$Text"
def TX3 : u_T := fun k => match k with
  | 0 => ("BallastTrain$Text", "bytes", "[I", true)
  | 1 => ("BallastTrain$Text", "length", "I", false)
  | 2 => ("BallastTrain$Text", "orders", "Ljava/util/ArrayList;", true)
  | 3 => ("BallastTrain$Text", "fault", "I", false)
  | _ => ("BallastTrain$Text", "at", "I", false)
def tyX3 : Nat → FieldType := fun k => match k with
  | 0 => .array .int
  | 1 => .int
  | 2 => .object "java/util/ArrayList"
  | 3 => .int
  | _ => .int
abbrev wsX30 : List Cond := u_ws RX3 TX3 5
theorem nmX3 : ∀ a, a < 5 → ∀ b, b < 5 → a ≠ b → (TX3 a).2.1 ≠ (TX3 b).2.1 := by decide +kernel
theorem tyX3_ok : ∀ k, k < 5 → parseFieldDescriptor (TX3 k).2.2.1 = some (tyX3 k) := by decide +kernel
abbrev cX3_init : ByteArray := prog_5_method_1_code
def yX3_init : MethodName := ⟨RX3, "<init>", "()V"⟩
def RX4 : String := "BallastTrain$Track"
def TX4 : u_T := fun k => match k with
  | _ => ("BallastTrain$Track", "heights", "[I", true)
def tyX4 : Nat → FieldType := fun k => match k with
  | _ => .array .int
abbrev wsX40 : List Cond := u_ws RX4 TX4 1
theorem nmX4 : ∀ a, a < 1 → ∀ b, b < 1 → a ≠ b → (TX4 a).2.1 ≠ (TX4 b).2.1 := by decide +kernel
theorem tyX4_ok : ∀ k, k < 1 → parseFieldDescriptor (TX4 k).2.2.1 = some (tyX4 k) := by decide +kernel
abbrev cX4_init : ByteArray := prog_6_method_1_code
def yX4_init : MethodName := ⟨RX4, "<init>", "()V"⟩
abbrev cX4_has : ByteArray := prog_6_method_2_code
def yX4_has : MethodName := ⟨RX4, "has", "(II)Z"⟩
abbrev cX4_heightAt : ByteArray := prog_6_method_3_code
def yX4_heightAt : MethodName := ⟨RX4, "heightAt", "(II)I"⟩
abbrev cX4_add : ByteArray := prog_6_method_4_code
def yX4_add : MethodName := ⟨RX4, "add", "(III)V"⟩
abbrev cX4_slide : ByteArray := prog_6_method_5_code
def yX4_slide : MethodName := ⟨RX4, "slide", "(I)V"⟩
abbrev cX4_cutShoulders : ByteArray := prog_6_method_6_code
def yX4_cutShoulders : MethodName := ⟨RX4, "cutShoulders", "(I)I"⟩
abbrev cX4_units : ByteArray := prog_6_method_7_code
def yX4_units : MethodName := ⟨RX4, "units", "()I"⟩
def RX5 : String := "BallastTrain$Train"
def TX5 : u_T := fun k => match k with
  | 0 => ("BallastTrain$Train", "wagons", "I", false)
  | 1 => ("BallastTrain$Train", "place", "I", false)
  | 2 => ("BallastTrain$Train", "speed", "I", false)
  | 3 => ("BallastTrain$Train", "wish", "I", false)
  | 4 => ("BallastTrain$Train", "load", "[I", true)
  | 5 => ("BallastTrain$Train", "left", "[I", true)
  | 6 => ("BallastTrain$Train", "level", "[I", true)
  | _ => ("BallastTrain$Train", "rest", "[I", true)
def tyX5 : Nat → FieldType := fun k => match k with
  | 0 => .int
  | 1 => .int
  | 2 => .int
  | 3 => .int
  | 4 => .array .int
  | 5 => .array .int
  | 6 => .array .int
  | _ => .array .int
abbrev wsX50 : List Cond := u_ws RX5 TX5 8
theorem nmX5 : ∀ a, a < 8 → ∀ b, b < 8 → a ≠ b → (TX5 a).2.1 ≠ (TX5 b).2.1 := by decide +kernel
theorem tyX5_ok : ∀ k, k < 8 → parseFieldDescriptor (TX5 k).2.2.1 = some (tyX5 k) := by decide +kernel
abbrev cX5_init : ByteArray := prog_7_method_1_code
def yX5_init : MethodName := ⟨RX5, "<init>", "()V"⟩
abbrev cX5_replace : ByteArray := prog_7_method_2_code
def yX5_replace : MethodName := ⟨RX5, "replace", "(I)V"⟩
abbrev cX5_copyFrom : ByteArray := prog_7_method_3_code
def yX5_copyFrom : MethodName := ⟨RX5, "copyFrom", "(LBallastTrain$Train;)V"⟩
abbrev cX5_hasWagon : ByteArray := prog_7_method_4_code
def yX5_hasWagon : MethodName := ⟨RX5, "hasWagon", "(I)Z"⟩
abbrev cX5_hasDoor : ByteArray := prog_7_method_5_code
def yX5_hasDoor : MethodName := ⟨RX5, "hasDoor", "(II)Z"⟩
abbrev cX5_levelOf : ByteArray := prog_7_method_6_code
def yX5_levelOf : MethodName := ⟨RX5, "levelOf", "(II)I"⟩
abbrev cX5_restOf : ByteArray := prog_7_method_7_code
def yX5_restOf : MethodName := ⟨RX5, "restOf", "(II)I"⟩
abbrev cX5_cellBelow : ByteArray := prog_7_method_8_code
def yX5_cellBelow : MethodName := ⟨RX5, "cellBelow", "(I)I"⟩
abbrev cX5_units : ByteArray := prog_7_method_9_code
def yX5_units : MethodName := ⟨RX5, "units", "()I"⟩
abbrev cX5_sumOfLevels : ByteArray := prog_7_method_10_code
def yX5_sumOfLevels : MethodName := ⟨RX5, "sumOfLevels", "(I)I"⟩
abbrev cX5_closingDoors : ByteArray := prog_7_method_11_code
def yX5_closingDoors : MethodName := ⟨RX5, "closingDoors", "(I)I"⟩
abbrev cX5_openDoor : ByteArray := prog_7_method_12_code
def yX5_openDoor : MethodName := ⟨RX5, "openDoor", "(III)V"⟩
abbrev cX5_closeDoor : ByteArray := prog_7_method_13_code
def yX5_closeDoor : MethodName := ⟨RX5, "closeDoor", "(III)V"⟩
abbrev cX5_move : ByteArray := prog_7_method_14_code
def yX5_move : MethodName := ⟨RX5, "move", "()V"⟩
abbrev cX5_drop : ByteArray := prog_7_method_15_code
def yX5_drop : MethodName := ⟨RX5, "drop", "(II)I"⟩
abbrev cX5_closeFurther : ByteArray := prog_7_method_16_code
def yX5_closeFurther : MethodName := ⟨RX5, "closeFurther", "(I)I"⟩
def RX6 : String := "BallastTrain"
def TX6 : u_T := fun k => match k with
  | 0 => ("BallastTrain", "text", "LBallastTrain$Text;", true)
  | 1 => ("BallastTrain", "now", "LBallastTrain$State;", true)
  | 2 => ("BallastTrain", "ahead", "LBallastTrain$State;", true)
  | _ => ("BallastTrain", "history", "LBallastTrain$History;", true)
def tyX6 : Nat → FieldType := fun k => match k with
  | 0 => .object "BallastTrain$Text"
  | 1 => .object "BallastTrain$State"
  | 2 => .object "BallastTrain$State"
  | _ => .object "BallastTrain$History"
abbrev wsX60 : List Cond := u_ws RX6 TX6 4
theorem nmX6 : ∀ a, a < 4 → ∀ b, b < 4 → a ≠ b → (TX6 a).2.1 ≠ (TX6 b).2.1 := by decide +kernel
theorem tyX6_ok : ∀ k, k < 4 → parseFieldDescriptor (TX6 k).2.2.1 = some (tyX6 k) := by decide +kernel
abbrev cX6_init : ByteArray := prog_1_method_1_code
def yX6_init : MethodName := ⟨RX6, "<init>", "()V"⟩
abbrev cX6_set : ByteArray := prog_1_method_5_code
def yX6_set : MethodName := ⟨RX6, "set", "(II)I"⟩
abbrev cX6_setTrain : ByteArray := prog_1_method_6_code
def yX6_setTrain : MethodName := ⟨RX6, "setTrain", "(I)I"⟩
abbrev cX6_load : ByteArray := prog_1_method_7_code
def yX6_load : MethodName := ⟨RX6, "load", "(II)I"⟩
abbrev cX6_door : ByteArray := prog_1_method_8_code
def yX6_door : MethodName := ⟨RX6, "door", "(III)I"⟩
abbrev cX6_wish : ByteArray := prog_1_method_9_code
def yX6_wish : MethodName := ⟨RX6, "wish", "(I)I"⟩
abbrev cX6_cancel : ByteArray := prog_1_method_11_code
def yX6_cancel : MethodName := ⟨RX6, "cancel", "(I)I"⟩
abbrev cX6_pass : ByteArray := prog_1_method_12_code
def yX6_pass : MethodName := ⟨RX6, "pass", "(I)I"⟩
abbrev cX6_scrape : ByteArray := prog_1_method_13_code
def yX6_scrape : MethodName := ⟨RX6, "scrape", "(III)I"⟩
abbrev cX6_undo : ByteArray := prog_1_method_14_code
def yX6_undo : MethodName := ⟨RX6, "undo", "()I"⟩
abbrev cX6_wagon : ByteArray := prog_1_method_15_code
def yX6_wagon : MethodName := ⟨RX6, "wagon", "(II)I"⟩
abbrev cX6_doorOf : ByteArray := prog_1_method_16_code
def yX6_doorOf : MethodName := ⟨RX6, "doorOf", "(III)I"⟩
abbrev cX6_height : ByteArray := prog_1_method_17_code
def yX6_height : MethodName := ⟨RX6, "height", "(II)I"⟩
abbrev cX6_count : ByteArray := prog_1_method_23_code
def yX6_count : MethodName := ⟨RX6, "count", "(I)I"⟩
abbrev cX6_isWithin : ByteArray := prog_1_method_31_code
def yX6_isWithin : MethodName := ⟨RX6, "isWithin", "(III)Z"⟩
abbrev cX6_sum : ByteArray := prog_1_method_32_code
def yX6_sum : MethodName := ⟨RX6, "sum", "([I)I"⟩
abbrev cX6_copyRow : ByteArray := prog_1_method_33_code
def yX6_copyRow : MethodName := ⟨RX6, "copyRow", "([I[I)V"⟩
abbrev cX6_addAll : ByteArray := prog_1_method_34_code
def yX6_addAll : MethodName := ⟨RX6, "addAll", "(Ljava/util/ArrayList;Ljava/util/ArrayList;)V"⟩
def RX7 : String := "BallastTrainModel"
def TX7 : u_T := fun k => match k with
  | _ => ("", "", "", false)
def tyX7 : Nat → FieldType := fun k => match k with
  | _ => .int
abbrev wsX70 : List Cond := u_ws RX7 TX7 0
theorem nmX7 : ∀ a, a < 0 → ∀ b, b < 0 → a ≠ b → (TX7 a).2.1 ≠ (TX7 b).2.1 := by decide +kernel
theorem tyX7_ok : ∀ k, k < 0 → parseFieldDescriptor (TX7 k).2.2.1 = some (tyX7 k) := by decide +kernel
def RJx145de : String := "java/io/Serializable"
def TJx145de : u_T := fun k => match k with
  | _ => ("", "", "", false)
def tyJx145de : Nat → FieldType := fun k => match k with
  | _ => .int
abbrev wsJx145de0 : List Cond := u_ws RJx145de TJx145de 0
theorem nmJx145de : ∀ a, a < 0 → ∀ b, b < 0 → a ≠ b → (TJx145de a).2.1 ≠ (TJx145de b).2.1 := by decide +kernel
theorem tyJx145de_ok : ∀ k, k < 0 → parseFieldDescriptor (TJx145de k).2.2.1 = some (tyJx145de k) := by decide +kernel
def RJx8e188 : String := "java/lang/Cloneable"
def TJx8e188 : u_T := fun k => match k with
  | _ => ("", "", "", false)
def tyJx8e188 : Nat → FieldType := fun k => match k with
  | _ => .int
abbrev wsJx8e1880 : List Cond := u_ws RJx8e188 TJx8e188 0
theorem nmJx8e188 : ∀ a, a < 0 → ∀ b, b < 0 → a ≠ b → (TJx8e188 a).2.1 ≠ (TJx8e188 b).2.1 := by decide +kernel
theorem tyJx8e188_ok : ∀ k, k < 0 → parseFieldDescriptor (TJx8e188 k).2.2.1 = some (tyJx8e188 k) := by decide +kernel
def RJxab1ab : String := "java/lang/Iterable"
def TJxab1ab : u_T := fun k => match k with
  | _ => ("", "", "", false)
def tyJxab1ab : Nat → FieldType := fun k => match k with
  | _ => .int
abbrev wsJxab1ab0 : List Cond := u_ws RJxab1ab TJxab1ab 0
theorem nmJxab1ab : ∀ a, a < 0 → ∀ b, b < 0 → a ≠ b → (TJxab1ab a).2.1 ≠ (TJxab1ab b).2.1 := by decide +kernel
theorem tyJxab1ab_ok : ∀ k, k < 0 → parseFieldDescriptor (TJxab1ab k).2.2.1 = some (tyJxab1ab k) := by decide +kernel
def RJ9 : String := "java/lang/Math"
def TJ9 : u_T := fun k => match k with
  | _ => ("", "", "", false)
def tyJ9 : Nat → FieldType := fun k => match k with
  | _ => .int
abbrev wsJ90 : List Cond := u_ws RJ9 TJ9 0
theorem nmJ9 : ∀ a, a < 0 → ∀ b, b < 0 → a ≠ b → (TJ9 a).2.1 ≠ (TJ9 b).2.1 := by decide +kernel
theorem tyJ9_ok : ∀ k, k < 0 → parseFieldDescriptor (TJ9 k).2.2.1 = some (tyJ9 k) := by decide +kernel
abbrev cJ9_floorMod_7cf53 : ByteArray := prog_13_method_50_code
def yJ9_floorMod_7cf53 : MethodName := ⟨RJ9, "floorMod", "(II)I"⟩
abbrev cJ9_max_7cf53 : ByteArray := prog_13_method_65_code
def yJ9_max_7cf53 : MethodName := ⟨RJ9, "max", "(II)I"⟩
abbrev cJ9_min_7cf53 : ByteArray := prog_13_method_69_code
def yJ9_min_7cf53 : MethodName := ⟨RJ9, "min", "(II)I"⟩
def RJ10 : String := "java/lang/System"
def TJ10 : u_T := fun k => match k with
  | _ => ("", "", "", false)
def tyJ10 : Nat → FieldType := fun k => match k with
  | _ => .int
abbrev wsJ100 : List Cond := u_ws RJ10 TJ10 0
theorem nmJ10 : ∀ a, a < 0 → ∀ b, b < 0 → a ≠ b → (TJ10 a).2.1 ≠ (TJ10 b).2.1 := by decide +kernel
theorem tyJ10_ok : ∀ k, k < 0 → parseFieldDescriptor (TJ10 k).2.2.1 = some (tyJ10 k) := by decide +kernel
def RJxa1e45 : String := "java/util/AbstractCollection"
def TJxa1e45 : u_T := fun k => match k with
  | _ => ("", "", "", false)
def tyJxa1e45 : Nat → FieldType := fun k => match k with
  | _ => .int
abbrev wsJxa1e450 : List Cond := u_ws RJxa1e45 TJxa1e45 0
theorem nmJxa1e45 : ∀ a, a < 0 → ∀ b, b < 0 → a ≠ b → (TJxa1e45 a).2.1 ≠ (TJxa1e45 b).2.1 := by decide +kernel
theorem tyJxa1e45_ok : ∀ k, k < 0 → parseFieldDescriptor (TJxa1e45 k).2.2.1 = some (tyJxa1e45 k) := by decide +kernel
abbrev cJxa1e45_init_da8c8 : ByteArray := prog_15_method_1_code
def yJxa1e45_init_da8c8 : MethodName := ⟨RJxa1e45, "<init>", "()V"⟩
def RJxc12de : String := "java/util/AbstractList"
def TJxc12de : u_T := fun k => match k with
  | _ => ("", "", "", false)
def tyJxc12de : Nat → FieldType := fun k => match k with
  | _ => .int
abbrev wsJxc12de0 : List Cond := u_ws RJxc12de TJxc12de 0
theorem nmJxc12de : ∀ a, a < 0 → ∀ b, b < 0 → a ≠ b → (TJxc12de a).2.1 ≠ (TJxc12de b).2.1 := by decide +kernel
theorem tyJxc12de_ok : ∀ k, k < 0 → parseFieldDescriptor (TJxc12de k).2.2.1 = some (tyJxc12de k) := by decide +kernel
abbrev cJxc12de_init_da8c8 : ByteArray := prog_16_method_1_code
def yJxc12de_init_da8c8 : MethodName := ⟨RJxc12de, "<init>", "()V"⟩
def RJx4a65c : String := "java/util/ArrayList"
def TJx4a65c : u_T := fun k => match k with
  | 0 => ("java/util/AbstractList", "modCount", "I", false)
  | 1 => ("java/util/ArrayList", "elementData", "[Ljava/lang/Object;", false)
  | _ => ("java/util/ArrayList", "size", "I", false)
def tyJx4a65c : Nat → FieldType := fun k => match k with
  | 0 => .int
  | 1 => .array (.object "java/lang/Object")
  | _ => .int
abbrev wsJx4a65c0 : List Cond := u_ws RJx4a65c TJx4a65c 3
theorem nmJx4a65c : ∀ a, a < 3 → ∀ b, b < 3 → a ≠ b → (TJx4a65c a).2.1 ≠ (TJx4a65c b).2.1 := by decide +kernel
theorem tyJx4a65c_ok : ∀ k, k < 3 → parseFieldDescriptor (TJx4a65c k).2.2.1 = some (tyJx4a65c k) := by decide +kernel
abbrev cJx4a65c_init_da8c8 : ByteArray := prog_17_method_2_code
def yJx4a65c_init_da8c8 : MethodName := ⟨RJx4a65c, "<init>", "()V"⟩
abbrev cJx4a65c_grow_92f84 : ByteArray := prog_17_method_6_code
def yJx4a65c_grow_92f84 : MethodName := ⟨RJx4a65c, "grow", "(I)[Ljava/lang/Object;"⟩
abbrev cJx4a65c_grow_d5877 : ByteArray := prog_17_method_7_code
def yJx4a65c_grow_d5877 : MethodName := ⟨RJx4a65c, "grow", "()[Ljava/lang/Object;"⟩
abbrev cJx4a65c_size_8abf5 : ByteArray := prog_17_method_8_code
def yJx4a65c_size_8abf5 : MethodName := ⟨RJx4a65c, "size", "()I"⟩
abbrev cJx4a65c_elementData_915e3 : ByteArray := prog_17_method_18_code
def yJx4a65c_elementData_915e3 : MethodName := ⟨RJx4a65c, "elementData", "(I)Ljava/lang/Object;"⟩
abbrev cJx4a65c_get_915e3 : ByteArray := prog_17_method_20_code
def yJx4a65c_get_915e3 : MethodName := ⟨RJx4a65c, "get", "(I)Ljava/lang/Object;"⟩
abbrev cJx4a65c_set_bcc79 : ByteArray := prog_17_method_23_code
def yJx4a65c_set_bcc79 : MethodName := ⟨RJx4a65c, "set", "(ILjava/lang/Object;)Ljava/lang/Object;"⟩
abbrev cJx4a65c_add_72be8 : ByteArray := prog_17_method_24_code
def yJx4a65c_add_72be8 : MethodName := ⟨RJx4a65c, "add", "(Ljava/lang/Object;[Ljava/lang/Object;I)V"⟩
abbrev cJx4a65c_add_9ea2d : ByteArray := prog_17_method_25_code
def yJx4a65c_add_9ea2d : MethodName := ⟨RJx4a65c, "add", "(Ljava/lang/Object;)Z"⟩
abbrev cJx4a65c_remove_915e3 : ByteArray := prog_17_method_29_code
def yJx4a65c_remove_915e3 : MethodName := ⟨RJx4a65c, "remove", "(I)Ljava/lang/Object;"⟩
abbrev cJx4a65c_fastRemove_b59b0 : ByteArray := prog_17_method_39_code
def yJx4a65c_fastRemove_b59b0 : MethodName := ⟨RJx4a65c, "fastRemove", "([Ljava/lang/Object;I)V"⟩
abbrev cJx4a65c_clear_da8c8 : ByteArray := prog_17_method_40_code
def yJx4a65c_clear_da8c8 : MethodName := ⟨RJx4a65c, "clear", "()V"⟩
def RJ7 : String := "java/util/Arrays"
def TJ7 : u_T := fun k => match k with
  | _ => ("", "", "", false)
def tyJ7 : Nat → FieldType := fun k => match k with
  | _ => .int
abbrev wsJ70 : List Cond := u_ws RJ7 TJ7 0
theorem nmJ7 : ∀ a, a < 0 → ∀ b, b < 0 → a ≠ b → (TJ7 a).2.1 ≠ (TJ7 b).2.1 := by decide +kernel
theorem tyJ7_ok : ∀ k, k < 0 → parseFieldDescriptor (TJ7 k).2.2.1 = some (tyJ7 k) := by decide +kernel
abbrev cJ7_fill_53178 : ByteArray := prog_18_method_103_code
def yJ7_fill_53178 : MethodName := ⟨RJ7, "fill", "([II)V"⟩
abbrev cJ7_copyOf_1904c : ByteArray := prog_18_method_119_code
def yJ7_copyOf_1904c : MethodName := ⟨RJ7, "copyOf", "([Ljava/lang/Object;I)[Ljava/lang/Object;"⟩
abbrev cJ7_copyOf_6403c : ByteArray := prog_18_method_120_code
def yJ7_copyOf_6403c : MethodName := ⟨RJ7, "copyOf", "([Ljava/lang/Object;ILjava/lang/Class;)[Ljava/lang/Object;"⟩
def RJx5ef63 : String := "java/util/Collection"
def TJx5ef63 : u_T := fun k => match k with
  | _ => ("", "", "", false)
def tyJx5ef63 : Nat → FieldType := fun k => match k with
  | _ => .int
abbrev wsJx5ef630 : List Cond := u_ws RJx5ef63 TJx5ef63 0
theorem nmJx5ef63 : ∀ a, a < 0 → ∀ b, b < 0 → a ≠ b → (TJx5ef63 a).2.1 ≠ (TJx5ef63 b).2.1 := by decide +kernel
theorem tyJx5ef63_ok : ∀ k, k < 0 → parseFieldDescriptor (TJx5ef63 k).2.2.1 = some (tyJx5ef63 k) := by decide +kernel
def RJxbd725 : String := "java/util/List"
def TJxbd725 : u_T := fun k => match k with
  | _ => ("", "", "", false)
def tyJxbd725 : Nat → FieldType := fun k => match k with
  | _ => .int
abbrev wsJxbd7250 : List Cond := u_ws RJxbd725 TJxbd725 0
theorem nmJxbd725 : ∀ a, a < 0 → ∀ b, b < 0 → a ≠ b → (TJxbd725 a).2.1 ≠ (TJxbd725 b).2.1 := by decide +kernel
theorem tyJxbd725_ok : ∀ k, k < 0 → parseFieldDescriptor (TJxbd725 k).2.2.1 = some (tyJxbd725 k) := by decide +kernel
def RJ15 : String := "java/util/Objects"
def TJ15 : u_T := fun k => match k with
  | _ => ("", "", "", false)
def tyJ15 : Nat → FieldType := fun k => match k with
  | _ => .int
abbrev wsJ150 : List Cond := u_ws RJ15 TJ15 0
theorem nmJ15 : ∀ a, a < 0 → ∀ b, b < 0 → a ≠ b → (TJ15 a).2.1 ≠ (TJ15 b).2.1 := by decide +kernel
theorem tyJ15_ok : ∀ k, k < 0 → parseFieldDescriptor (TJ15 k).2.2.1 = some (tyJ15 k) := by decide +kernel
abbrev cJ15_checkIndex_7cf53 : ByteArray := prog_21_method_17_code
def yJ15_checkIndex_7cf53 : MethodName := ⟨RJ15, "checkIndex", "(II)I"⟩
def RJxf0a74 : String := "java/util/RandomAccess"
def TJxf0a74 : u_T := fun k => match k with
  | _ => ("", "", "", false)
def tyJxf0a74 : Nat → FieldType := fun k => match k with
  | _ => .int
abbrev wsJxf0a740 : List Cond := u_ws RJxf0a74 TJxf0a74 0
theorem nmJxf0a74 : ∀ a, a < 0 → ∀ b, b < 0 → a ≠ b → (TJxf0a74 a).2.1 ≠ (TJxf0a74 b).2.1 := by decide +kernel
theorem tyJxf0a74_ok : ∀ k, k < 0 → parseFieldDescriptor (TJxf0a74 k).2.2.1 = some (tyJxf0a74 k) := by decide +kernel
def RJxa66e6 : String := "java/util/SequencedCollection"
def TJxa66e6 : u_T := fun k => match k with
  | _ => ("", "", "", false)
def tyJxa66e6 : Nat → FieldType := fun k => match k with
  | _ => .int
abbrev wsJxa66e60 : List Cond := u_ws RJxa66e6 TJxa66e6 0
theorem nmJxa66e6 : ∀ a, a < 0 → ∀ b, b < 0 → a ≠ b → (TJxa66e6 a).2.1 ≠ (TJxa66e6 b).2.1 := by decide +kernel
theorem tyJxa66e6_ok : ∀ k, k < 0 → parseFieldDescriptor (TJxa66e6 k).2.2.1 = some (tyJxa66e6 k) := by decide +kernel
def RJ8 : String := "jdk/internal/util/ArraysSupport"
def TJ8 : u_T := fun k => match k with
  | _ => ("", "", "", false)
def tyJ8 : Nat → FieldType := fun k => match k with
  | _ => .int
abbrev wsJ80 : List Cond := u_ws RJ8 TJ8 0
theorem nmJ8 : ∀ a, a < 0 → ∀ b, b < 0 → a ≠ b → (TJ8 a).2.1 ≠ (TJ8 b).2.1 := by decide +kernel
theorem tyJ8_ok : ∀ k, k < 0 → parseFieldDescriptor (TJ8 k).2.2.1 = some (tyJ8 k) := by decide +kernel
abbrev cJ8_newLength_cabcc : ByteArray := prog_24_method_27_code
def yJ8_newLength_cabcc : MethodName := ⟨RJ8, "newLength", "(III)I"⟩
abbrev cJ8_hugeLength_7cf53 : ByteArray := prog_24_method_28_code
def yJ8_hugeLength_7cf53 : MethodName := ⟨RJ8, "hugeLength", "(II)I"⟩
def RJ3 : String := "jdk/internal/util/Preconditions"
def TJ3 : u_T := fun k => match k with
  | _ => ("", "", "", false)
def tyJ3 : Nat → FieldType := fun k => match k with
  | _ => .int
abbrev wsJ30 : List Cond := u_ws RJ3 TJ3 0
theorem nmJ3 : ∀ a, a < 0 → ∀ b, b < 0 → a ≠ b → (TJ3 a).2.1 ≠ (TJ3 b).2.1 := by decide +kernel
theorem tyJ3_ok : ∀ k, k < 0 → parseFieldDescriptor (TJ3 k).2.2.1 = some (tyJ3 k) := by decide +kernel
abbrev cJ3_checkIndex_8e157 : ByteArray := prog_25_method_11_code
def yJ3_checkIndex_8e157 : MethodName := ⟨RJ3, "checkIndex", "(IILjava/util/function/BiFunction;)I"⟩
def RL : String := "BallastTrainLaw"
abbrev cL_cell : ByteArray := method_2_code
def yL_cell : MethodName := ⟨RL, "cell", "([II)I"⟩
abbrev cL_low : ByteArray := method_3_code
def yL_low : MethodName := ⟨RL, "low", "(II)I"⟩
abbrev cL_begins : ByteArray := method_4_code
def yL_begins : MethodName := ⟨RL, "begins", "([I)V"⟩
abbrev cL_couples : ByteArray := method_5_code
def yL_couples : MethodName := ⟨RL, "couples", "([II)V"⟩
abbrev cL_height : ByteArray := method_6_code
def yL_height : MethodName := ⟨RL, "height", "([III)I"⟩
abbrev cL_comes : ByteArray := method_7_code
def yL_comes : MethodName := ⟨RL, "comes", "([IIII)V"⟩
abbrev cL_moves : ByteArray := method_8_code
def yL_moves : MethodName := ⟨RL, "moves", "([IIII)V"⟩
abbrev cL_drops : ByteArray := method_9_code
def yL_drops : MethodName := ⟨RL, "drops", "([II)V"⟩
abbrev cL_orders : ByteArray := method_10_code
def yL_orders : MethodName := ⟨RL, "orders", "([I[I)V"⟩
abbrev cL_second : ByteArray := method_11_code
def yL_second : MethodName := ⟨RL, "second", "([I[I[I)V"⟩
abbrev cL_inWagons : ByteArray := method_12_code
def yL_inWagons : MethodName := ⟨RL, "inWagons", "([I)I"⟩
abbrev cL_sum : ByteArray := method_13_code
def yL_sum : MethodName := ⟨RL, "sum", "([II)I"⟩
abbrev cL_sets : ByteArray := method_15_code
def yL_sets : MethodName := ⟨RL, "sets", "(LBallastTrain;[III)Z"⟩
abbrev cL_loads : ByteArray := method_16_code
def yL_loads : MethodName := ⟨RL, "loads", "(LBallastTrain;[III)Z"⟩
abbrev cL_doors : ByteArray := method_17_code
def yL_doors : MethodName := ⟨RL, "doors", "(LBallastTrain;[IIII)Z"⟩
abbrev cL_wishes : ByteArray := method_18_code
def yL_wishes : MethodName := ⟨RL, "wishes", "(LBallastTrain;[II)Z"⟩
abbrev cL_passes : ByteArray := method_19_code
def yL_passes : MethodName := ⟨RL, "passes", "(LBallastTrain;[I[I[II)Z"⟩
abbrev cL_isTold : ByteArray := method_20_code
def yL_isTold : MethodName := ⟨RL, "isTold", "(LBallastTrain;[I[I[I)Z"⟩
abbrev cL_scrapes : ByteArray := method_21_code
def yL_scrapes : MethodName := ⟨RL, "scrapes", "(LBallastTrain;[I[IIII)Z"⟩
abbrev cL_setsTrain : ByteArray := method_22_code
def yL_setsTrain : MethodName := ⟨RL, "setsTrain", "(LBallastTrain;[II)Z"⟩
abbrev cL_law : ByteArray := code
def yL_law : MethodName := ⟨RL, "law", "([I)Z"⟩
theorem inX0 : ∀ w ∈ wsX00, w ∈ lw_tbl := by decide +kernel
theorem inX1 : ∀ w ∈ wsX10, w ∈ lw_tbl := by decide +kernel
theorem inX2 : ∀ w ∈ wsX20, w ∈ lw_tbl := by decide +kernel
theorem inX3 : ∀ w ∈ wsX30, w ∈ lw_tbl := by decide +kernel
theorem inX4 : ∀ w ∈ wsX40, w ∈ lw_tbl := by decide +kernel
theorem inX5 : ∀ w ∈ wsX50, w ∈ lw_tbl := by decide +kernel
theorem inX6 : ∀ w ∈ wsX60, w ∈ lw_tbl := by decide +kernel
theorem inX7 : ∀ w ∈ wsX70, w ∈ lw_tbl := by decide +kernel
theorem inJx145de : ∀ w ∈ wsJx145de0, w ∈ lw_tbl := by decide +kernel
theorem inJx8e188 : ∀ w ∈ wsJx8e1880, w ∈ lw_tbl := by decide +kernel
theorem inJxab1ab : ∀ w ∈ wsJxab1ab0, w ∈ lw_tbl := by decide +kernel
theorem inJ9 : ∀ w ∈ wsJ90, w ∈ lw_tbl := by decide +kernel
theorem inJ10 : ∀ w ∈ wsJ100, w ∈ lw_tbl := by decide +kernel
theorem inJxa1e45 : ∀ w ∈ wsJxa1e450, w ∈ lw_tbl := by decide +kernel
theorem inJxc12de : ∀ w ∈ wsJxc12de0, w ∈ lw_tbl := by decide +kernel
theorem inJx4a65c : ∀ w ∈ wsJx4a65c0, w ∈ lw_tbl := by decide +kernel
theorem inJ7 : ∀ w ∈ wsJ70, w ∈ lw_tbl := by decide +kernel
theorem inJx5ef63 : ∀ w ∈ wsJx5ef630, w ∈ lw_tbl := by decide +kernel
theorem inJxbd725 : ∀ w ∈ wsJxbd7250, w ∈ lw_tbl := by decide +kernel
theorem inJ15 : ∀ w ∈ wsJ150, w ∈ lw_tbl := by decide +kernel
theorem inJxf0a74 : ∀ w ∈ wsJxf0a740, w ∈ lw_tbl := by decide +kernel
theorem inJxa66e6 : ∀ w ∈ wsJxa66e60, w ∈ lw_tbl := by decide +kernel
theorem inJ8 : ∀ w ∈ wsJ80, w ∈ lw_tbl := by decide +kernel
theorem inJ3 : ∀ w ∈ wsJ30, w ∈ lw_tbl := by decide +kernel
abbrev vwCl : List vw_C := [(RJx4a65c, TJx4a65c, 3), (RX0, TX0, 3), (RX2, TX2, 9), (RX3, TX3, 5), (RX4, TX4, 1), (RX5, TX5, 8), (RX6, TX6, 4)]
end
section
theorem dX0_init_0 : decode cX0_init 0 = .ok (.aload_n 0, 1) := by decide +kernel
theorem dX0_init_1 : decode cX0_init 1 = .ok (.invokespecial 3, 3) := by decide +kernel
theorem dX0_init_4 : decode cX0_init 4 = .ok (.aload_n 0, 1) := by decide +kernel
theorem dX0_init_5 : decode cX0_init 5 = .ok (.bipush 6, 2) := by decide +kernel
theorem dX0_init_7 : decode cX0_init 7 = .ok (.anewarray 9, 3) := by decide +kernel
theorem dX0_init_10 : decode cX0_init 10 = .ok (.putfield 11, 3) := by decide +kernel
theorem dX0_init_13 : decode cX0_init 13 = .ok (.aload_n 0, 1) := by decide +kernel
theorem dX0_init_14 : decode cX0_init 14 = .ok (.iconst 0, 1) := by decide +kernel
theorem dX0_init_15 : decode cX0_init 15 = .ok (.putfield 17, 3) := by decide +kernel
theorem dX0_init_18 : decode cX0_init 18 = .ok (.aload_n 0, 1) := by decide +kernel
theorem dX0_init_19 : decode cX0_init 19 = .ok (.iconst 0, 1) := by decide +kernel
theorem dX0_init_20 : decode cX0_init 20 = .ok (.putfield 21, 3) := by decide +kernel
theorem dX0_init_23 : decode cX0_init 23 = .ok (.iconst 0, 1) := by decide +kernel
theorem dX0_init_24 : decode cX0_init 24 = .ok (.istore_n 1, 1) := by decide +kernel
theorem dX0_init_25 : decode cX0_init 25 = .ok (.iload_n 1, 1) := by decide +kernel
theorem dX0_init_26 : decode cX0_init 26 = .ok (.aload_n 0, 1) := by decide +kernel
theorem dX0_init_27 : decode cX0_init 27 = .ok (.getfield 11, 3) := by decide +kernel
theorem dX0_init_30 : decode cX0_init 30 = .ok (.arraylength, 1) := by decide +kernel
theorem dX0_init_31 : decode cX0_init 31 = .ok (.if_icmp .ge 22, 3) := by decide +kernel
theorem dX0_init_34 : decode cX0_init 34 = .ok (.aload_n 0, 1) := by decide +kernel
theorem dX0_init_35 : decode cX0_init 35 = .ok (.getfield 11, 3) := by decide +kernel
theorem dX0_init_38 : decode cX0_init 38 = .ok (.iload_n 1, 1) := by decide +kernel
theorem dX0_init_39 : decode cX0_init 39 = .ok (.new 9, 3) := by decide +kernel
theorem dX0_init_42 : decode cX0_init 42 = .ok (.dup, 1) := by decide +kernel
theorem dX0_init_43 : decode cX0_init 43 = .ok (.invokespecial 24, 3) := by decide +kernel
theorem dX0_init_46 : decode cX0_init 46 = .ok (.aastore, 1) := by decide +kernel
theorem dX0_init_47 : decode cX0_init 47 = .ok (.iinc 1 1, 3) := by decide +kernel
theorem dX0_init_50 : decode cX0_init 50 = .ok (.goto (-25), 3) := by decide +kernel
theorem dX0_init_53 : decode cX0_init 53 = .ok (.return_, 1) := by decide +kernel
theorem dX0_keep_0 : decode cX0_keep 0 = .ok (.aload_n 0, 1) := by decide +kernel
theorem dX0_keep_1 : decode cX0_keep 1 = .ok (.getfield 11, 3) := by decide +kernel
theorem dX0_keep_4 : decode cX0_keep 4 = .ok (.aload_n 0, 1) := by decide +kernel
theorem dX0_keep_5 : decode cX0_keep 5 = .ok (.getfield 17, 3) := by decide +kernel
theorem dX0_keep_8 : decode cX0_keep 8 = .ok (.bipush 6, 2) := by decide +kernel
theorem dX0_keep_10 : decode cX0_keep 10 = .ok (.invokestatic 25, 3) := by decide +kernel
theorem dX0_keep_13 : decode cX0_keep 13 = .ok (.aaload, 1) := by decide +kernel
theorem dX0_keep_14 : decode cX0_keep 14 = .ok (.aload_n 1, 1) := by decide +kernel
theorem dX0_keep_15 : decode cX0_keep 15 = .ok (.invokevirtual 31, 3) := by decide +kernel
theorem dX0_keep_18 : decode cX0_keep 18 = .ok (.aload_n 0, 1) := by decide +kernel
theorem dX0_keep_19 : decode cX0_keep 19 = .ok (.dup, 1) := by decide +kernel
theorem dX0_keep_20 : decode cX0_keep 20 = .ok (.getfield 17, 3) := by decide +kernel
theorem dX0_keep_23 : decode cX0_keep 23 = .ok (.iconst 1, 1) := by decide +kernel
theorem dX0_keep_24 : decode cX0_keep 24 = .ok (.iadd, 1) := by decide +kernel
theorem dX0_keep_25 : decode cX0_keep 25 = .ok (.putfield 17, 3) := by decide +kernel
theorem dX0_keep_28 : decode cX0_keep 28 = .ok (.aload_n 0, 1) := by decide +kernel
theorem dX0_keep_29 : decode cX0_keep 29 = .ok (.aload_n 0, 1) := by decide +kernel
theorem dX0_keep_30 : decode cX0_keep 30 = .ok (.getfield 21, 3) := by decide +kernel
theorem dX0_keep_33 : decode cX0_keep 33 = .ok (.iconst 1, 1) := by decide +kernel
theorem dX0_keep_34 : decode cX0_keep 34 = .ok (.iadd, 1) := by decide +kernel
theorem dX0_keep_35 : decode cX0_keep 35 = .ok (.bipush 6, 2) := by decide +kernel
theorem dX0_keep_37 : decode cX0_keep 37 = .ok (.invokestatic 35, 3) := by decide +kernel
theorem dX0_keep_40 : decode cX0_keep 40 = .ok (.putfield 21, 3) := by decide +kernel
theorem dX0_keep_43 : decode cX0_keep 43 = .ok (.return_, 1) := by decide +kernel
theorem dX0_restore_0 : decode cX0_restore 0 = .ok (.aload_n 0, 1) := by decide +kernel
theorem dX0_restore_1 : decode cX0_restore 1 = .ok (.dup, 1) := by decide +kernel
theorem dX0_restore_2 : decode cX0_restore 2 = .ok (.getfield 17, 3) := by decide +kernel
theorem dX0_restore_5 : decode cX0_restore 5 = .ok (.iconst 1, 1) := by decide +kernel
theorem dX0_restore_6 : decode cX0_restore 6 = .ok (.isub, 1) := by decide +kernel
theorem dX0_restore_7 : decode cX0_restore 7 = .ok (.putfield 17, 3) := by decide +kernel
theorem dX0_restore_10 : decode cX0_restore 10 = .ok (.aload_n 0, 1) := by decide +kernel
theorem dX0_restore_11 : decode cX0_restore 11 = .ok (.dup, 1) := by decide +kernel
theorem dX0_restore_12 : decode cX0_restore 12 = .ok (.getfield 21, 3) := by decide +kernel
theorem dX0_restore_15 : decode cX0_restore 15 = .ok (.iconst 1, 1) := by decide +kernel
theorem dX0_restore_16 : decode cX0_restore 16 = .ok (.isub, 1) := by decide +kernel
theorem dX0_restore_17 : decode cX0_restore 17 = .ok (.putfield 21, 3) := by decide +kernel
theorem dX0_restore_20 : decode cX0_restore 20 = .ok (.aload_n 1, 1) := by decide +kernel
theorem dX0_restore_21 : decode cX0_restore 21 = .ok (.aload_n 0, 1) := by decide +kernel
theorem dX0_restore_22 : decode cX0_restore 22 = .ok (.getfield 11, 3) := by decide +kernel
theorem dX0_restore_25 : decode cX0_restore 25 = .ok (.aload_n 0, 1) := by decide +kernel
theorem dX0_restore_26 : decode cX0_restore 26 = .ok (.getfield 17, 3) := by decide +kernel
theorem dX0_restore_29 : decode cX0_restore 29 = .ok (.bipush 6, 2) := by decide +kernel
theorem dX0_restore_31 : decode cX0_restore 31 = .ok (.invokestatic 25, 3) := by decide +kernel
theorem dX0_restore_34 : decode cX0_restore 34 = .ok (.aaload, 1) := by decide +kernel
theorem dX0_restore_35 : decode cX0_restore 35 = .ok (.invokevirtual 31, 3) := by decide +kernel
theorem dX0_restore_38 : decode cX0_restore 38 = .ok (.return_, 1) := by decide +kernel
theorem dX1_isDue_0 : decode cX1_isDue 0 = .ok (.aload_n 0, 1) := by decide +kernel
theorem dX1_isDue_1 : decode cX1_isDue 1 = .ok (.getfield 15, 3) := by decide +kernel
theorem dX1_isDue_4 : decode cX1_isDue 4 = .ok (.iconst 2, 1) := by decide +kernel
theorem dX1_isDue_5 : decode cX1_isDue 5 = .ok (.if_icmp .ne 20, 3) := by decide +kernel
theorem dX1_isDue_8 : decode cX1_isDue 8 = .ok (.aload_n 1, 1) := by decide +kernel
theorem dX1_isDue_9 : decode cX1_isDue 9 = .ok (.getfield 27, 3) := by decide +kernel
theorem dX1_isDue_12 : decode cX1_isDue 12 = .ok (.aload_n 0, 1) := by decide +kernel
theorem dX1_isDue_13 : decode cX1_isDue 13 = .ok (.getfield 9, 3) := by decide +kernel
theorem dX1_isDue_16 : decode cX1_isDue 16 = .ok (.if_icmp .lt 7, 3) := by decide +kernel
theorem dX1_isDue_19 : decode cX1_isDue 19 = .ok (.iconst 1, 1) := by decide +kernel
theorem dX1_isDue_20 : decode cX1_isDue 20 = .ok (.goto 4, 3) := by decide +kernel
theorem dX1_isDue_23 : decode cX1_isDue 23 = .ok (.iconst 0, 1) := by decide +kernel
theorem dX1_isDue_24 : decode cX1_isDue 24 = .ok (.ireturn, 1) := by decide +kernel
theorem dX1_isDue_25 : decode cX1_isDue 25 = .ok (.aload_n 1, 1) := by decide +kernel
theorem dX1_isDue_26 : decode cX1_isDue 26 = .ok (.aload_n 0, 1) := by decide +kernel
theorem dX1_isDue_27 : decode cX1_isDue 27 = .ok (.getfield 18, 3) := by decide +kernel
theorem dX1_isDue_30 : decode cX1_isDue 30 = .ok (.aload_n 0, 1) := by decide +kernel
theorem dX1_isDue_31 : decode cX1_isDue 31 = .ok (.getfield 21, 3) := by decide +kernel
theorem dX1_isDue_34 : decode cX1_isDue 34 = .ok (.invokevirtual 32, 3) := by decide +kernel
theorem dX1_isDue_37 : decode cX1_isDue 37 = .ok (.ifCond .eq 22, 3) := by decide +kernel
theorem dX1_isDue_40 : decode cX1_isDue 40 = .ok (.aload_n 1, 1) := by decide +kernel
theorem dX1_isDue_41 : decode cX1_isDue 41 = .ok (.aload_n 0, 1) := by decide +kernel
theorem dX1_isDue_42 : decode cX1_isDue 42 = .ok (.getfield 18, 3) := by decide +kernel
theorem dX1_isDue_45 : decode cX1_isDue 45 = .ok (.invokevirtual 36, 3) := by decide +kernel
theorem dX1_isDue_48 : decode cX1_isDue 48 = .ok (.aload_n 0, 1) := by decide +kernel
theorem dX1_isDue_49 : decode cX1_isDue 49 = .ok (.getfield 9, 3) := by decide +kernel
theorem dX1_isDue_52 : decode cX1_isDue 52 = .ok (.if_icmp .lt 7, 3) := by decide +kernel
theorem dX1_isDue_55 : decode cX1_isDue 55 = .ok (.iconst 1, 1) := by decide +kernel
theorem dX1_isDue_56 : decode cX1_isDue 56 = .ok (.goto 4, 3) := by decide +kernel
theorem dX1_isDue_59 : decode cX1_isDue 59 = .ok (.iconst 0, 1) := by decide +kernel
theorem dX1_isDue_60 : decode cX1_isDue 60 = .ok (.ireturn, 1) := by decide +kernel
theorem dX1_carryOut_0 : decode cX1_carryOut 0 = .ok (.aload_n 0, 1) := by decide +kernel
theorem dX1_carryOut_1 : decode cX1_carryOut 1 = .ok (.getfield 15, 3) := by decide +kernel
theorem dX1_carryOut_4 : decode cX1_carryOut 4 = .ok (.iconst 2, 1) := by decide +kernel
theorem dX1_carryOut_5 : decode cX1_carryOut 5 = .ok (.if_icmp .ne 14, 3) := by decide +kernel
theorem dX1_carryOut_8 : decode cX1_carryOut 8 = .ok (.aload_n 1, 1) := by decide +kernel
theorem dX1_carryOut_9 : decode cX1_carryOut 9 = .ok (.aload_n 0, 1) := by decide +kernel
theorem dX1_carryOut_10 : decode cX1_carryOut 10 = .ok (.getfield 24, 3) := by decide +kernel
theorem dX1_carryOut_13 : decode cX1_carryOut 13 = .ok (.putfield 40, 3) := by decide +kernel
theorem dX1_carryOut_16 : decode cX1_carryOut 16 = .ok (.goto 42, 3) := by decide +kernel
theorem dX1_carryOut_19 : decode cX1_carryOut 19 = .ok (.aload_n 0, 1) := by decide +kernel
theorem dX1_carryOut_20 : decode cX1_carryOut 20 = .ok (.getfield 15, 3) := by decide +kernel
theorem dX1_carryOut_23 : decode cX1_carryOut 23 = .ok (.ifCond .ne 22, 3) := by decide +kernel
theorem dX1_carryOut_26 : decode cX1_carryOut 26 = .ok (.aload_n 1, 1) := by decide +kernel
theorem dX1_carryOut_27 : decode cX1_carryOut 27 = .ok (.aload_n 0, 1) := by decide +kernel
theorem dX1_carryOut_28 : decode cX1_carryOut 28 = .ok (.getfield 18, 3) := by decide +kernel
theorem dX1_carryOut_31 : decode cX1_carryOut 31 = .ok (.aload_n 0, 1) := by decide +kernel
theorem dX1_carryOut_32 : decode cX1_carryOut 32 = .ok (.getfield 21, 3) := by decide +kernel
theorem dX1_carryOut_35 : decode cX1_carryOut 35 = .ok (.aload_n 0, 1) := by decide +kernel
theorem dX1_carryOut_36 : decode cX1_carryOut 36 = .ok (.getfield 24, 3) := by decide +kernel
theorem dX1_carryOut_39 : decode cX1_carryOut 39 = .ok (.invokevirtual 43, 3) := by decide +kernel
theorem dX1_carryOut_42 : decode cX1_carryOut 42 = .ok (.goto 16, 3) := by decide +kernel
theorem dX1_carryOut_45 : decode cX1_carryOut 45 = .ok (.aload_n 1, 1) := by decide +kernel
theorem dX1_carryOut_46 : decode cX1_carryOut 46 = .ok (.aload_n 0, 1) := by decide +kernel
theorem dX1_carryOut_47 : decode cX1_carryOut 47 = .ok (.getfield 18, 3) := by decide +kernel
theorem dX1_carryOut_50 : decode cX1_carryOut 50 = .ok (.aload_n 0, 1) := by decide +kernel
theorem dX1_carryOut_51 : decode cX1_carryOut 51 = .ok (.getfield 21, 3) := by decide +kernel
theorem dX1_carryOut_54 : decode cX1_carryOut 54 = .ok (.iload_n 2, 1) := by decide +kernel
theorem dX1_carryOut_55 : decode cX1_carryOut 55 = .ok (.invokevirtual 47, 3) := by decide +kernel
theorem dX1_carryOut_58 : decode cX1_carryOut 58 = .ok (.return_, 1) := by decide +kernel
theorem dX2_init_0 : decode cX2_init 0 = .ok (.aload_n 0, 1) := by decide +kernel
theorem dX2_init_1 : decode cX2_init 1 = .ok (.invokespecial 3, 3) := by decide +kernel
theorem dX2_init_4 : decode cX2_init 4 = .ok (.aload_n 0, 1) := by decide +kernel
theorem dX2_init_5 : decode cX2_init 5 = .ok (.iconst 5, 1) := by decide +kernel
theorem dX2_init_6 : decode cX2_init 6 = .ok (.newarray .int, 2) := by decide +kernel
theorem dX2_init_8 : decode cX2_init 8 = .ok (.dup, 1) := by decide +kernel
theorem dX2_init_9 : decode cX2_init 9 = .ok (.iconst 0, 1) := by decide +kernel
theorem dX2_init_10 : decode cX2_init 10 = .ok (.iconst 4, 1) := by decide +kernel
theorem dX2_init_11 : decode cX2_init 11 = .ok (.iastore, 1) := by decide +kernel
theorem dX2_init_12 : decode cX2_init 12 = .ok (.dup, 1) := by decide +kernel
theorem dX2_init_13 : decode cX2_init 13 = .ok (.iconst 1, 1) := by decide +kernel
theorem dX2_init_14 : decode cX2_init 14 = .ok (.bipush 12, 2) := by decide +kernel
theorem dX2_init_16 : decode cX2_init 16 = .ok (.iastore, 1) := by decide +kernel
theorem dX2_init_17 : decode cX2_init 17 = .ok (.dup, 1) := by decide +kernel
theorem dX2_init_18 : decode cX2_init 18 = .ok (.iconst 2, 1) := by decide +kernel
theorem dX2_init_19 : decode cX2_init 19 = .ok (.iconst 1, 1) := by decide +kernel
theorem dX2_init_20 : decode cX2_init 20 = .ok (.iastore, 1) := by decide +kernel
theorem dX2_init_21 : decode cX2_init 21 = .ok (.dup, 1) := by decide +kernel
theorem dX2_init_22 : decode cX2_init 22 = .ok (.iconst 3, 1) := by decide +kernel
theorem dX2_init_23 : decode cX2_init 23 = .ok (.bipush 100, 2) := by decide +kernel
theorem dX2_init_25 : decode cX2_init 25 = .ok (.iastore, 1) := by decide +kernel
theorem dX2_init_26 : decode cX2_init 26 = .ok (.dup, 1) := by decide +kernel
theorem dX2_init_27 : decode cX2_init 27 = .ok (.iconst 4, 1) := by decide +kernel
theorem dX2_init_28 : decode cX2_init 28 = .ok (.bipush 8, 2) := by decide +kernel
theorem dX2_init_30 : decode cX2_init 30 = .ok (.iastore, 1) := by decide +kernel
theorem dX2_init_31 : decode cX2_init 31 = .ok (.putfield 9, 3) := by decide +kernel
theorem dX2_init_34 : decode cX2_init 34 = .ok (.aload_n 0, 1) := by decide +kernel
theorem dX2_init_35 : decode cX2_init 35 = .ok (.new 15, 3) := by decide +kernel
theorem dX2_init_38 : decode cX2_init 38 = .ok (.dup, 1) := by decide +kernel
theorem dX2_init_39 : decode cX2_init 39 = .ok (.invokespecial 17, 3) := by decide +kernel
theorem dX2_init_42 : decode cX2_init 42 = .ok (.putfield 18, 3) := by decide +kernel
theorem dX2_init_45 : decode cX2_init 45 = .ok (.aload_n 0, 1) := by decide +kernel
theorem dX2_init_46 : decode cX2_init 46 = .ok (.new 22, 3) := by decide +kernel
theorem dX2_init_49 : decode cX2_init 49 = .ok (.dup, 1) := by decide +kernel
theorem dX2_init_50 : decode cX2_init 50 = .ok (.invokespecial 24, 3) := by decide +kernel
theorem dX2_init_53 : decode cX2_init 53 = .ok (.putfield 25, 3) := by decide +kernel
theorem dX2_init_56 : decode cX2_init 56 = .ok (.aload_n 0, 1) := by decide +kernel
theorem dX2_init_57 : decode cX2_init 57 = .ok (.new 29, 3) := by decide +kernel
theorem dX2_init_60 : decode cX2_init 60 = .ok (.dup, 1) := by decide +kernel
theorem dX2_init_61 : decode cX2_init 61 = .ok (.invokespecial 31, 3) := by decide +kernel
theorem dX2_init_64 : decode cX2_init 64 = .ok (.putfield 32, 3) := by decide +kernel
theorem dX2_init_67 : decode cX2_init 67 = .ok (.aload_n 0, 1) := by decide +kernel
theorem dX2_init_68 : decode cX2_init 68 = .ok (.iconst 0, 1) := by decide +kernel
theorem dX2_init_69 : decode cX2_init 69 = .ok (.putfield 36, 3) := by decide +kernel
theorem dX2_init_72 : decode cX2_init 72 = .ok (.aload_n 0, 1) := by decide +kernel
theorem dX2_init_73 : decode cX2_init 73 = .ok (.iconst 0, 1) := by decide +kernel
theorem dX2_init_74 : decode cX2_init 74 = .ok (.putfield 40, 3) := by decide +kernel
theorem dX2_init_77 : decode cX2_init 77 = .ok (.aload_n 0, 1) := by decide +kernel
theorem dX2_init_78 : decode cX2_init 78 = .ok (.iconst 0, 1) := by decide +kernel
theorem dX2_init_79 : decode cX2_init 79 = .ok (.putfield 43, 3) := by decide +kernel
theorem dX2_init_82 : decode cX2_init 82 = .ok (.aload_n 0, 1) := by decide +kernel
theorem dX2_init_83 : decode cX2_init 83 = .ok (.iconst 0, 1) := by decide +kernel
theorem dX2_init_84 : decode cX2_init 84 = .ok (.putfield 46, 3) := by decide +kernel
theorem dX2_init_87 : decode cX2_init 87 = .ok (.aload_n 0, 1) := by decide +kernel
theorem dX2_init_88 : decode cX2_init 88 = .ok (.iconst 0, 1) := by decide +kernel
theorem dX2_init_89 : decode cX2_init 89 = .ok (.putfield 49, 3) := by decide +kernel
theorem dX2_init_92 : decode cX2_init 92 = .ok (.return_, 1) := by decide +kernel
theorem dX2_copyFrom_0 : decode cX2_copyFrom 0 = .ok (.aload_n 1, 1) := by decide +kernel
theorem dX2_copyFrom_1 : decode cX2_copyFrom 1 = .ok (.getfield 9, 3) := by decide +kernel
theorem dX2_copyFrom_4 : decode cX2_copyFrom 4 = .ok (.aload_n 0, 1) := by decide +kernel
theorem dX2_copyFrom_5 : decode cX2_copyFrom 5 = .ok (.getfield 9, 3) := by decide +kernel
theorem dX2_copyFrom_8 : decode cX2_copyFrom 8 = .ok (.invokestatic 52, 3) := by decide +kernel
theorem dX2_copyFrom_11 : decode cX2_copyFrom 11 = .ok (.aload_n 1, 1) := by decide +kernel
theorem dX2_copyFrom_12 : decode cX2_copyFrom 12 = .ok (.getfield 18, 3) := by decide +kernel
theorem dX2_copyFrom_15 : decode cX2_copyFrom 15 = .ok (.getfield 56, 3) := by decide +kernel
theorem dX2_copyFrom_18 : decode cX2_copyFrom 18 = .ok (.aload_n 0, 1) := by decide +kernel
theorem dX2_copyFrom_19 : decode cX2_copyFrom 19 = .ok (.getfield 18, 3) := by decide +kernel
theorem dX2_copyFrom_22 : decode cX2_copyFrom 22 = .ok (.getfield 56, 3) := by decide +kernel
theorem dX2_copyFrom_25 : decode cX2_copyFrom 25 = .ok (.invokestatic 52, 3) := by decide +kernel
theorem dX2_copyFrom_28 : decode cX2_copyFrom 28 = .ok (.aload_n 0, 1) := by decide +kernel
theorem dX2_copyFrom_29 : decode cX2_copyFrom 29 = .ok (.getfield 25, 3) := by decide +kernel
theorem dX2_copyFrom_32 : decode cX2_copyFrom 32 = .ok (.aload_n 1, 1) := by decide +kernel
theorem dX2_copyFrom_33 : decode cX2_copyFrom 33 = .ok (.getfield 25, 3) := by decide +kernel
theorem dX2_copyFrom_36 : decode cX2_copyFrom 36 = .ok (.invokevirtual 59, 3) := by decide +kernel
theorem dX2_copyFrom_39 : decode cX2_copyFrom 39 = .ok (.aload_n 0, 1) := by decide +kernel
theorem dX2_copyFrom_40 : decode cX2_copyFrom 40 = .ok (.getfield 32, 3) := by decide +kernel
theorem dX2_copyFrom_43 : decode cX2_copyFrom 43 = .ok (.invokevirtual 63, 3) := by decide +kernel
theorem dX2_copyFrom_46 : decode cX2_copyFrom 46 = .ok (.aload_n 1, 1) := by decide +kernel
theorem dX2_copyFrom_47 : decode cX2_copyFrom 47 = .ok (.getfield 32, 3) := by decide +kernel
theorem dX2_copyFrom_50 : decode cX2_copyFrom 50 = .ok (.aload_n 0, 1) := by decide +kernel
theorem dX2_copyFrom_51 : decode cX2_copyFrom 51 = .ok (.getfield 32, 3) := by decide +kernel
theorem dX2_copyFrom_54 : decode cX2_copyFrom 54 = .ok (.invokestatic 66, 3) := by decide +kernel
theorem dX2_copyFrom_57 : decode cX2_copyFrom 57 = .ok (.aload_n 0, 1) := by decide +kernel
theorem dX2_copyFrom_58 : decode cX2_copyFrom 58 = .ok (.aload_n 1, 1) := by decide +kernel
theorem dX2_copyFrom_59 : decode cX2_copyFrom 59 = .ok (.getfield 36, 3) := by decide +kernel
theorem dX2_copyFrom_62 : decode cX2_copyFrom 62 = .ok (.putfield 36, 3) := by decide +kernel
theorem dX2_copyFrom_65 : decode cX2_copyFrom 65 = .ok (.aload_n 0, 1) := by decide +kernel
theorem dX2_copyFrom_66 : decode cX2_copyFrom 66 = .ok (.aload_n 1, 1) := by decide +kernel
theorem dX2_copyFrom_67 : decode cX2_copyFrom 67 = .ok (.getfield 40, 3) := by decide +kernel
theorem dX2_copyFrom_70 : decode cX2_copyFrom 70 = .ok (.putfield 40, 3) := by decide +kernel
theorem dX2_copyFrom_73 : decode cX2_copyFrom 73 = .ok (.aload_n 0, 1) := by decide +kernel
theorem dX2_copyFrom_74 : decode cX2_copyFrom 74 = .ok (.aload_n 1, 1) := by decide +kernel
theorem dX2_copyFrom_75 : decode cX2_copyFrom 75 = .ok (.getfield 43, 3) := by decide +kernel
theorem dX2_copyFrom_78 : decode cX2_copyFrom 78 = .ok (.putfield 43, 3) := by decide +kernel
theorem dX2_copyFrom_81 : decode cX2_copyFrom 81 = .ok (.aload_n 0, 1) := by decide +kernel
theorem dX2_copyFrom_82 : decode cX2_copyFrom 82 = .ok (.aload_n 1, 1) := by decide +kernel
theorem dX2_copyFrom_83 : decode cX2_copyFrom 83 = .ok (.getfield 46, 3) := by decide +kernel
theorem dX2_copyFrom_86 : decode cX2_copyFrom 86 = .ok (.putfield 46, 3) := by decide +kernel
theorem dX2_copyFrom_89 : decode cX2_copyFrom 89 = .ok (.aload_n 0, 1) := by decide +kernel
theorem dX2_copyFrom_90 : decode cX2_copyFrom 90 = .ok (.aload_n 1, 1) := by decide +kernel
theorem dX2_copyFrom_91 : decode cX2_copyFrom 91 = .ok (.getfield 49, 3) := by decide +kernel
theorem dX2_copyFrom_94 : decode cX2_copyFrom 94 = .ok (.putfield 49, 3) := by decide +kernel
theorem dX2_copyFrom_97 : decode cX2_copyFrom 97 = .ok (.return_, 1) := by decide +kernel
theorem dX2_passSecond_0 : decode cX2_passSecond 0 = .ok (.aload_n 0, 1) := by decide +kernel
theorem dX2_passSecond_1 : decode cX2_passSecond 1 = .ok (.getfield 25, 3) := by decide +kernel
theorem dX2_passSecond_4 : decode cX2_passSecond 4 = .ok (.invokevirtual 70, 3) := by decide +kernel
theorem dX2_passSecond_7 : decode cX2_passSecond 7 = .ok (.aload_n 0, 1) := by decide +kernel
theorem dX2_passSecond_8 : decode cX2_passSecond 8 = .ok (.invokevirtual 73, 3) := by decide +kernel
theorem dX2_passSecond_11 : decode cX2_passSecond 11 = .ok (.aload_n 0, 1) := by decide +kernel
theorem dX2_passSecond_12 : decode cX2_passSecond 12 = .ok (.invokevirtual 76, 3) := by decide +kernel
theorem dX2_passSecond_15 : decode cX2_passSecond 15 = .ok (.aload_n 0, 1) := by decide +kernel
theorem dX2_passSecond_16 : decode cX2_passSecond 16 = .ok (.getfield 18, 3) := by decide +kernel
theorem dX2_passSecond_19 : decode cX2_passSecond 19 = .ok (.aload_n 0, 1) := by decide +kernel
theorem dX2_passSecond_20 : decode cX2_passSecond 20 = .ok (.getfield 9, 3) := by decide +kernel
theorem dX2_passSecond_23 : decode cX2_passSecond 23 = .ok (.iconst 0, 1) := by decide +kernel
theorem dX2_passSecond_24 : decode cX2_passSecond 24 = .ok (.iaload, 1) := by decide +kernel
theorem dX2_passSecond_25 : decode cX2_passSecond 25 = .ok (.invokevirtual 79, 3) := by decide +kernel
theorem dX2_passSecond_28 : decode cX2_passSecond 28 = .ok (.aload_n 0, 1) := by decide +kernel
theorem dX2_passSecond_29 : decode cX2_passSecond 29 = .ok (.dup, 1) := by decide +kernel
theorem dX2_passSecond_30 : decode cX2_passSecond 30 = .ok (.getfield 46, 3) := by decide +kernel
theorem dX2_passSecond_33 : decode cX2_passSecond 33 = .ok (.aload_n 0, 1) := by decide +kernel
theorem dX2_passSecond_34 : decode cX2_passSecond 34 = .ok (.getfield 18, 3) := by decide +kernel
theorem dX2_passSecond_37 : decode cX2_passSecond 37 = .ok (.aload_n 0, 1) := by decide +kernel
theorem dX2_passSecond_38 : decode cX2_passSecond 38 = .ok (.getfield 9, 3) := by decide +kernel
theorem dX2_passSecond_41 : decode cX2_passSecond 41 = .ok (.iconst 1, 1) := by decide +kernel
theorem dX2_passSecond_42 : decode cX2_passSecond 42 = .ok (.iaload, 1) := by decide +kernel
theorem dX2_passSecond_43 : decode cX2_passSecond 43 = .ok (.invokevirtual 83, 3) := by decide +kernel
theorem dX2_passSecond_46 : decode cX2_passSecond 46 = .ok (.iadd, 1) := by decide +kernel
theorem dX2_passSecond_47 : decode cX2_passSecond 47 = .ok (.putfield 46, 3) := by decide +kernel
theorem dX2_passSecond_50 : decode cX2_passSecond 50 = .ok (.aload_n 0, 1) := by decide +kernel
theorem dX2_passSecond_51 : decode cX2_passSecond 51 = .ok (.dup, 1) := by decide +kernel
theorem dX2_passSecond_52 : decode cX2_passSecond 52 = .ok (.getfield 40, 3) := by decide +kernel
theorem dX2_passSecond_55 : decode cX2_passSecond 55 = .ok (.aload_n 0, 1) := by decide +kernel
theorem dX2_passSecond_56 : decode cX2_passSecond 56 = .ok (.getfield 25, 3) := by decide +kernel
theorem dX2_passSecond_59 : decode cX2_passSecond 59 = .ok (.aload_n 0, 1) := by decide +kernel
theorem dX2_passSecond_60 : decode cX2_passSecond 60 = .ok (.getfield 9, 3) := by decide +kernel
theorem dX2_passSecond_63 : decode cX2_passSecond 63 = .ok (.iconst 3, 1) := by decide +kernel
theorem dX2_passSecond_64 : decode cX2_passSecond 64 = .ok (.iaload, 1) := by decide +kernel
theorem dX2_passSecond_65 : decode cX2_passSecond 65 = .ok (.invokevirtual 87, 3) := by decide +kernel
theorem dX2_passSecond_68 : decode cX2_passSecond 68 = .ok (.iadd, 1) := by decide +kernel
theorem dX2_passSecond_69 : decode cX2_passSecond 69 = .ok (.putfield 40, 3) := by decide +kernel
theorem dX2_passSecond_72 : decode cX2_passSecond 72 = .ok (.aload_n 0, 1) := by decide +kernel
theorem dX2_passSecond_73 : decode cX2_passSecond 73 = .ok (.dup, 1) := by decide +kernel
theorem dX2_passSecond_74 : decode cX2_passSecond 74 = .ok (.getfield 36, 3) := by decide +kernel
theorem dX2_passSecond_77 : decode cX2_passSecond 77 = .ok (.iconst 1, 1) := by decide +kernel
theorem dX2_passSecond_78 : decode cX2_passSecond 78 = .ok (.iadd, 1) := by decide +kernel
theorem dX2_passSecond_79 : decode cX2_passSecond 79 = .ok (.putfield 36, 3) := by decide +kernel
theorem dX2_passSecond_82 : decode cX2_passSecond 82 = .ok (.return_, 1) := by decide +kernel
theorem dX2_unload_0 : decode cX2_unload 0 = .ok (.iconst 0, 1) := by decide +kernel
theorem dX2_unload_1 : decode cX2_unload 1 = .ok (.istore_n 1, 1) := by decide +kernel
theorem dX2_unload_2 : decode cX2_unload 2 = .ok (.iload_n 1, 1) := by decide +kernel
theorem dX2_unload_3 : decode cX2_unload 3 = .ok (.aload_n 0, 1) := by decide +kernel
theorem dX2_unload_4 : decode cX2_unload 4 = .ok (.getfield 25, 3) := by decide +kernel
theorem dX2_unload_7 : decode cX2_unload 7 = .ok (.getfield 90, 3) := by decide +kernel
theorem dX2_unload_10 : decode cX2_unload 10 = .ok (.if_icmp .ge 44, 3) := by decide +kernel
theorem dX2_unload_13 : decode cX2_unload 13 = .ok (.iconst 0, 1) := by decide +kernel
theorem dX2_unload_14 : decode cX2_unload 14 = .ok (.istore_n 2, 1) := by decide +kernel
theorem dX2_unload_15 : decode cX2_unload 15 = .ok (.iload_n 2, 1) := by decide +kernel
theorem dX2_unload_16 : decode cX2_unload 16 = .ok (.iconst 3, 1) := by decide +kernel
theorem dX2_unload_17 : decode cX2_unload 17 = .ok (.if_icmp .ge 31, 3) := by decide +kernel
theorem dX2_unload_20 : decode cX2_unload 20 = .ok (.aload_n 0, 1) := by decide +kernel
theorem dX2_unload_21 : decode cX2_unload 21 = .ok (.aload_n 0, 1) := by decide +kernel
theorem dX2_unload_22 : decode cX2_unload 22 = .ok (.getfield 25, 3) := by decide +kernel
theorem dX2_unload_25 : decode cX2_unload 25 = .ok (.iload_n 1, 1) := by decide +kernel
theorem dX2_unload_26 : decode cX2_unload 26 = .ok (.invokevirtual 93, 3) := by decide +kernel
theorem dX2_unload_29 : decode cX2_unload 29 = .ok (.iload_n 2, 1) := by decide +kernel
theorem dX2_unload_30 : decode cX2_unload 30 = .ok (.aload_n 0, 1) := by decide +kernel
theorem dX2_unload_31 : decode cX2_unload 31 = .ok (.getfield 25, 3) := by decide +kernel
theorem dX2_unload_34 : decode cX2_unload 34 = .ok (.iload_n 1, 1) := by decide +kernel
theorem dX2_unload_35 : decode cX2_unload 35 = .ok (.iload_n 2, 1) := by decide +kernel
theorem dX2_unload_36 : decode cX2_unload 36 = .ok (.invokevirtual 96, 3) := by decide +kernel
theorem dX2_unload_39 : decode cX2_unload 39 = .ok (.invokevirtual 100, 3) := by decide +kernel
theorem dX2_unload_42 : decode cX2_unload 42 = .ok (.iinc 2 1, 3) := by decide +kernel
theorem dX2_unload_45 : decode cX2_unload 45 = .ok (.goto (-30), 3) := by decide +kernel
theorem dX2_unload_48 : decode cX2_unload 48 = .ok (.iinc 1 1, 3) := by decide +kernel
theorem dX2_unload_51 : decode cX2_unload 51 = .ok (.goto (-49), 3) := by decide +kernel
theorem dX2_unload_54 : decode cX2_unload 54 = .ok (.return_, 1) := by decide +kernel
theorem dX2_land_0 : decode cX2_land 0 = .ok (.iload_n 1, 1) := by decide +kernel
theorem dX2_land_1 : decode cX2_land 1 = .ok (.iload_n 2, 1) := by decide +kernel
theorem dX2_land_2 : decode cX2_land 2 = .ok (.invokestatic 104, 3) := by decide +kernel
theorem dX2_land_5 : decode cX2_land 5 = .ok (.ifCond .eq 16, 3) := by decide +kernel
theorem dX2_land_8 : decode cX2_land 8 = .ok (.aload_n 0, 1) := by decide +kernel
theorem dX2_land_9 : decode cX2_land 9 = .ok (.getfield 18, 3) := by decide +kernel
theorem dX2_land_12 : decode cX2_land 12 = .ok (.iload_n 1, 1) := by decide +kernel
theorem dX2_land_13 : decode cX2_land 13 = .ok (.iload_n 2, 1) := by decide +kernel
theorem dX2_land_14 : decode cX2_land 14 = .ok (.iload_n 3, 1) := by decide +kernel
theorem dX2_land_15 : decode cX2_land 15 = .ok (.invokevirtual 108, 3) := by decide +kernel
theorem dX2_land_18 : decode cX2_land 18 = .ok (.goto 13, 3) := by decide +kernel
theorem dX2_land_21 : decode cX2_land 21 = .ok (.aload_n 0, 1) := by decide +kernel
theorem dX2_land_22 : decode cX2_land 22 = .ok (.dup, 1) := by decide +kernel
theorem dX2_land_23 : decode cX2_land 23 = .ok (.getfield 46, 3) := by decide +kernel
theorem dX2_land_26 : decode cX2_land 26 = .ok (.iload_n 3, 1) := by decide +kernel
theorem dX2_land_27 : decode cX2_land 27 = .ok (.iadd, 1) := by decide +kernel
theorem dX2_land_28 : decode cX2_land 28 = .ok (.putfield 46, 3) := by decide +kernel
theorem dX2_land_31 : decode cX2_land 31 = .ok (.return_, 1) := by decide +kernel
theorem dX2_carryOutOrders_0 : decode cX2_carryOutOrders 0 = .ok (.iconst 0, 1) := by decide +kernel
theorem dX2_carryOutOrders_1 : decode cX2_carryOutOrders 1 = .ok (.istore_n 1, 1) := by decide +kernel
theorem dX2_carryOutOrders_2 : decode cX2_carryOutOrders 2 = .ok (.iconst 0, 1) := by decide +kernel
theorem dX2_carryOutOrders_3 : decode cX2_carryOutOrders 3 = .ok (.istore_n 2, 1) := by decide +kernel
theorem dX2_carryOutOrders_4 : decode cX2_carryOutOrders 4 = .ok (.iload_n 2, 1) := by decide +kernel
theorem dX2_carryOutOrders_5 : decode cX2_carryOutOrders 5 = .ok (.aload_n 0, 1) := by decide +kernel
theorem dX2_carryOutOrders_6 : decode cX2_carryOutOrders 6 = .ok (.getfield 32, 3) := by decide +kernel
theorem dX2_carryOutOrders_9 : decode cX2_carryOutOrders 9 = .ok (.invokevirtual 111, 3) := by decide +kernel
theorem dX2_carryOutOrders_12 : decode cX2_carryOutOrders 12 = .ok (.if_icmp .ge 62, 3) := by decide +kernel
theorem dX2_carryOutOrders_15 : decode cX2_carryOutOrders 15 = .ok (.aload_n 0, 1) := by decide +kernel
theorem dX2_carryOutOrders_16 : decode cX2_carryOutOrders 16 = .ok (.getfield 32, 3) := by decide +kernel
theorem dX2_carryOutOrders_19 : decode cX2_carryOutOrders 19 = .ok (.iload_n 2, 1) := by decide +kernel
theorem dX2_carryOutOrders_20 : decode cX2_carryOutOrders 20 = .ok (.invokevirtual 115, 3) := by decide +kernel
theorem dX2_carryOutOrders_23 : decode cX2_carryOutOrders 23 = .ok (.checkcast 119, 3) := by decide +kernel
theorem dX2_carryOutOrders_26 : decode cX2_carryOutOrders 26 = .ok (.astore_n 3, 1) := by decide +kernel
theorem dX2_carryOutOrders_27 : decode cX2_carryOutOrders 27 = .ok (.aload_n 3, 1) := by decide +kernel
theorem dX2_carryOutOrders_28 : decode cX2_carryOutOrders 28 = .ok (.aload_n 0, 1) := by decide +kernel
theorem dX2_carryOutOrders_29 : decode cX2_carryOutOrders 29 = .ok (.getfield 25, 3) := by decide +kernel
theorem dX2_carryOutOrders_32 : decode cX2_carryOutOrders 32 = .ok (.invokevirtual 121, 3) := by decide +kernel
theorem dX2_carryOutOrders_35 : decode cX2_carryOutOrders 35 = .ok (.ifCond .eq 20, 3) := by decide +kernel
theorem dX2_carryOutOrders_38 : decode cX2_carryOutOrders 38 = .ok (.aload_n 3, 1) := by decide +kernel
theorem dX2_carryOutOrders_39 : decode cX2_carryOutOrders 39 = .ok (.aload_n 0, 1) := by decide +kernel
theorem dX2_carryOutOrders_40 : decode cX2_carryOutOrders 40 = .ok (.getfield 25, 3) := by decide +kernel
theorem dX2_carryOutOrders_43 : decode cX2_carryOutOrders 43 = .ok (.aload_n 0, 1) := by decide +kernel
theorem dX2_carryOutOrders_44 : decode cX2_carryOutOrders 44 = .ok (.getfield 9, 3) := by decide +kernel
theorem dX2_carryOutOrders_47 : decode cX2_carryOutOrders 47 = .ok (.iconst 2, 1) := by decide +kernel
theorem dX2_carryOutOrders_48 : decode cX2_carryOutOrders 48 = .ok (.iaload, 1) := by decide +kernel
theorem dX2_carryOutOrders_49 : decode cX2_carryOutOrders 49 = .ok (.invokevirtual 125, 3) := by decide +kernel
theorem dX2_carryOutOrders_52 : decode cX2_carryOutOrders 52 = .ok (.goto 16, 3) := by decide +kernel
theorem dX2_carryOutOrders_55 : decode cX2_carryOutOrders 55 = .ok (.aload_n 0, 1) := by decide +kernel
theorem dX2_carryOutOrders_56 : decode cX2_carryOutOrders 56 = .ok (.getfield 32, 3) := by decide +kernel
theorem dX2_carryOutOrders_59 : decode cX2_carryOutOrders 59 = .ok (.iload_n 1, 1) := by decide +kernel
theorem dX2_carryOutOrders_60 : decode cX2_carryOutOrders 60 = .ok (.aload_n 3, 1) := by decide +kernel
theorem dX2_carryOutOrders_61 : decode cX2_carryOutOrders 61 = .ok (.invokevirtual 129, 3) := by decide +kernel
theorem dX2_carryOutOrders_64 : decode cX2_carryOutOrders 64 = .ok (.pop, 1) := by decide +kernel
theorem dX2_carryOutOrders_65 : decode cX2_carryOutOrders 65 = .ok (.iinc 1 1, 3) := by decide +kernel
theorem dX2_carryOutOrders_68 : decode cX2_carryOutOrders 68 = .ok (.iinc 2 1, 3) := by decide +kernel
theorem dX2_carryOutOrders_71 : decode cX2_carryOutOrders 71 = .ok (.goto (-67), 3) := by decide +kernel
theorem dX2_carryOutOrders_74 : decode cX2_carryOutOrders 74 = .ok (.aload_n 0, 1) := by decide +kernel
theorem dX2_carryOutOrders_75 : decode cX2_carryOutOrders 75 = .ok (.getfield 32, 3) := by decide +kernel
theorem dX2_carryOutOrders_78 : decode cX2_carryOutOrders 78 = .ok (.invokevirtual 111, 3) := by decide +kernel
theorem dX2_carryOutOrders_81 : decode cX2_carryOutOrders 81 = .ok (.iconst 1, 1) := by decide +kernel
theorem dX2_carryOutOrders_82 : decode cX2_carryOutOrders 82 = .ok (.isub, 1) := by decide +kernel
theorem dX2_carryOutOrders_83 : decode cX2_carryOutOrders 83 = .ok (.istore_n 2, 1) := by decide +kernel
theorem dX2_carryOutOrders_84 : decode cX2_carryOutOrders 84 = .ok (.iload_n 2, 1) := by decide +kernel
theorem dX2_carryOutOrders_85 : decode cX2_carryOutOrders 85 = .ok (.iload_n 1, 1) := by decide +kernel
theorem dX2_carryOutOrders_86 : decode cX2_carryOutOrders 86 = .ok (.if_icmp .lt 18, 3) := by decide +kernel
theorem dX2_carryOutOrders_89 : decode cX2_carryOutOrders 89 = .ok (.aload_n 0, 1) := by decide +kernel
theorem dX2_carryOutOrders_90 : decode cX2_carryOutOrders 90 = .ok (.getfield 32, 3) := by decide +kernel
theorem dX2_carryOutOrders_93 : decode cX2_carryOutOrders 93 = .ok (.iload_n 2, 1) := by decide +kernel
theorem dX2_carryOutOrders_94 : decode cX2_carryOutOrders 94 = .ok (.invokevirtual 133, 3) := by decide +kernel
theorem dX2_carryOutOrders_97 : decode cX2_carryOutOrders 97 = .ok (.pop, 1) := by decide +kernel
theorem dX2_carryOutOrders_98 : decode cX2_carryOutOrders 98 = .ok (.iinc 2 (-1), 3) := by decide +kernel
theorem dX2_carryOutOrders_101 : decode cX2_carryOutOrders 101 = .ok (.goto (-17), 3) := by decide +kernel
theorem dX2_carryOutOrders_104 : decode cX2_carryOutOrders 104 = .ok (.return_, 1) := by decide +kernel
theorem dX3_init_0 : decode cX3_init 0 = .ok (.aload_n 0, 1) := by decide +kernel
theorem dX3_init_1 : decode cX3_init 1 = .ok (.invokespecial 3, 3) := by decide +kernel
theorem dX3_init_4 : decode cX3_init 4 = .ok (.aload_n 0, 1) := by decide +kernel
theorem dX3_init_5 : decode cX3_init 5 = .ok (.bipush 60, 2) := by decide +kernel
theorem dX3_init_7 : decode cX3_init 7 = .ok (.newarray .int, 2) := by decide +kernel
theorem dX3_init_9 : decode cX3_init 9 = .ok (.putfield 9, 3) := by decide +kernel
theorem dX3_init_12 : decode cX3_init 12 = .ok (.aload_n 0, 1) := by decide +kernel
theorem dX3_init_13 : decode cX3_init 13 = .ok (.iconst 0, 1) := by decide +kernel
theorem dX3_init_14 : decode cX3_init 14 = .ok (.putfield 15, 3) := by decide +kernel
theorem dX3_init_17 : decode cX3_init 17 = .ok (.aload_n 0, 1) := by decide +kernel
theorem dX3_init_18 : decode cX3_init 18 = .ok (.new 19, 3) := by decide +kernel
theorem dX3_init_21 : decode cX3_init 21 = .ok (.dup, 1) := by decide +kernel
theorem dX3_init_22 : decode cX3_init 22 = .ok (.invokespecial 21, 3) := by decide +kernel
theorem dX3_init_25 : decode cX3_init 25 = .ok (.putfield 22, 3) := by decide +kernel
theorem dX3_init_28 : decode cX3_init 28 = .ok (.aload_n 0, 1) := by decide +kernel
theorem dX3_init_29 : decode cX3_init 29 = .ok (.sipush (-1001), 3) := by decide +kernel
theorem dX3_init_32 : decode cX3_init 32 = .ok (.putfield 26, 3) := by decide +kernel
theorem dX3_init_35 : decode cX3_init 35 = .ok (.aload_n 0, 1) := by decide +kernel
theorem dX3_init_36 : decode cX3_init 36 = .ok (.iconst 0, 1) := by decide +kernel
theorem dX3_init_37 : decode cX3_init 37 = .ok (.putfield 29, 3) := by decide +kernel
theorem dX3_init_40 : decode cX3_init 40 = .ok (.return_, 1) := by decide +kernel
theorem dX4_init_0 : decode cX4_init 0 = .ok (.aload_n 0, 1) := by decide +kernel
theorem dX4_init_1 : decode cX4_init 1 = .ok (.invokespecial 3, 3) := by decide +kernel
theorem dX4_init_4 : decode cX4_init 4 = .ok (.aload_n 0, 1) := by decide +kernel
theorem dX4_init_5 : decode cX4_init 5 = .ok (.bipush 120, 2) := by decide +kernel
theorem dX4_init_7 : decode cX4_init 7 = .ok (.newarray .int, 2) := by decide +kernel
theorem dX4_init_9 : decode cX4_init 9 = .ok (.putfield 9, 3) := by decide +kernel
theorem dX4_init_12 : decode cX4_init 12 = .ok (.return_, 1) := by decide +kernel
theorem dX4_has_0 : decode cX4_has 0 = .ok (.iload_n 0, 1) := by decide +kernel
theorem dX4_has_1 : decode cX4_has 1 = .ok (.ifCond .lt 22, 3) := by decide +kernel
theorem dX4_has_4 : decode cX4_has 4 = .ok (.iload_n 0, 1) := by decide +kernel
theorem dX4_has_5 : decode cX4_has 5 = .ok (.bipush 40, 2) := by decide +kernel
theorem dX4_has_7 : decode cX4_has 7 = .ok (.if_icmp .ge 16, 3) := by decide +kernel
theorem dX4_has_10 : decode cX4_has 10 = .ok (.iload_n 1, 1) := by decide +kernel
theorem dX4_has_11 : decode cX4_has 11 = .ok (.ifCond .lt 12, 3) := by decide +kernel
theorem dX4_has_14 : decode cX4_has 14 = .ok (.iload_n 1, 1) := by decide +kernel
theorem dX4_has_15 : decode cX4_has 15 = .ok (.iconst 3, 1) := by decide +kernel
theorem dX4_has_16 : decode cX4_has 16 = .ok (.if_icmp .ge 7, 3) := by decide +kernel
theorem dX4_has_19 : decode cX4_has 19 = .ok (.iconst 1, 1) := by decide +kernel
theorem dX4_has_20 : decode cX4_has 20 = .ok (.goto 4, 3) := by decide +kernel
theorem dX4_has_23 : decode cX4_has 23 = .ok (.iconst 0, 1) := by decide +kernel
theorem dX4_has_24 : decode cX4_has 24 = .ok (.ireturn, 1) := by decide +kernel
theorem dX4_heightAt_0 : decode cX4_heightAt 0 = .ok (.iload_n 1, 1) := by decide +kernel
theorem dX4_heightAt_1 : decode cX4_heightAt 1 = .ok (.iload_n 2, 1) := by decide +kernel
theorem dX4_heightAt_2 : decode cX4_heightAt 2 = .ok (.invokestatic 15, 3) := by decide +kernel
theorem dX4_heightAt_5 : decode cX4_heightAt 5 = .ok (.ifCond .eq 16, 3) := by decide +kernel
theorem dX4_heightAt_8 : decode cX4_heightAt 8 = .ok (.aload_n 0, 1) := by decide +kernel
theorem dX4_heightAt_9 : decode cX4_heightAt 9 = .ok (.getfield 9, 3) := by decide +kernel
theorem dX4_heightAt_12 : decode cX4_heightAt 12 = .ok (.iconst 3, 1) := by decide +kernel
theorem dX4_heightAt_13 : decode cX4_heightAt 13 = .ok (.iload_n 1, 1) := by decide +kernel
theorem dX4_heightAt_14 : decode cX4_heightAt 14 = .ok (.imul, 1) := by decide +kernel
theorem dX4_heightAt_15 : decode cX4_heightAt 15 = .ok (.iload_n 2, 1) := by decide +kernel
theorem dX4_heightAt_16 : decode cX4_heightAt 16 = .ok (.iadd, 1) := by decide +kernel
theorem dX4_heightAt_17 : decode cX4_heightAt 17 = .ok (.iaload, 1) := by decide +kernel
theorem dX4_heightAt_18 : decode cX4_heightAt 18 = .ok (.goto 4, 3) := by decide +kernel
theorem dX4_heightAt_21 : decode cX4_heightAt 21 = .ok (.iconst 0, 1) := by decide +kernel
theorem dX4_heightAt_22 : decode cX4_heightAt 22 = .ok (.ireturn, 1) := by decide +kernel
theorem dX4_add_0 : decode cX4_add 0 = .ok (.iload_n 1, 1) := by decide +kernel
theorem dX4_add_1 : decode cX4_add 1 = .ok (.iload_n 2, 1) := by decide +kernel
theorem dX4_add_2 : decode cX4_add 2 = .ok (.invokestatic 15, 3) := by decide +kernel
theorem dX4_add_5 : decode cX4_add 5 = .ok (.ifCond .eq 17, 3) := by decide +kernel
theorem dX4_add_8 : decode cX4_add 8 = .ok (.aload_n 0, 1) := by decide +kernel
theorem dX4_add_9 : decode cX4_add 9 = .ok (.getfield 9, 3) := by decide +kernel
theorem dX4_add_12 : decode cX4_add 12 = .ok (.iconst 3, 1) := by decide +kernel
theorem dX4_add_13 : decode cX4_add 13 = .ok (.iload_n 1, 1) := by decide +kernel
theorem dX4_add_14 : decode cX4_add 14 = .ok (.imul, 1) := by decide +kernel
theorem dX4_add_15 : decode cX4_add 15 = .ok (.iload_n 2, 1) := by decide +kernel
theorem dX4_add_16 : decode cX4_add 16 = .ok (.iadd, 1) := by decide +kernel
theorem dX4_add_17 : decode cX4_add 17 = .ok (.dup2, 1) := by decide +kernel
theorem dX4_add_18 : decode cX4_add 18 = .ok (.iaload, 1) := by decide +kernel
theorem dX4_add_19 : decode cX4_add 19 = .ok (.iload_n 3, 1) := by decide +kernel
theorem dX4_add_20 : decode cX4_add 20 = .ok (.iadd, 1) := by decide +kernel
theorem dX4_add_21 : decode cX4_add 21 = .ok (.iastore, 1) := by decide +kernel
theorem dX4_add_22 : decode cX4_add 22 = .ok (.return_, 1) := by decide +kernel
theorem dX4_slide_0 : decode cX4_slide 0 = .ok (.iconst 0, 1) := by decide +kernel
theorem dX4_slide_1 : decode cX4_slide 1 = .ok (.istore_n 2, 1) := by decide +kernel
theorem dX4_slide_2 : decode cX4_slide 2 = .ok (.iload_n 2, 1) := by decide +kernel
theorem dX4_slide_3 : decode cX4_slide 3 = .ok (.iconst 3, 1) := by decide +kernel
theorem dX4_slide_4 : decode cX4_slide 4 = .ok (.iadd, 1) := by decide +kernel
theorem dX4_slide_5 : decode cX4_slide 5 = .ok (.aload_n 0, 1) := by decide +kernel
theorem dX4_slide_6 : decode cX4_slide 6 = .ok (.getfield 9, 3) := by decide +kernel
theorem dX4_slide_9 : decode cX4_slide 9 = .ok (.arraylength, 1) := by decide +kernel
theorem dX4_slide_10 : decode cX4_slide 10 = .ok (.if_icmp .ge 83, 3) := by decide +kernel
theorem dX4_slide_13 : decode cX4_slide 13 = .ok (.aload_n 0, 1) := by decide +kernel
theorem dX4_slide_14 : decode cX4_slide 14 = .ok (.getfield 9, 3) := by decide +kernel
theorem dX4_slide_17 : decode cX4_slide 17 = .ok (.iload_n 2, 1) := by decide +kernel
theorem dX4_slide_18 : decode cX4_slide 18 = .ok (.iaload, 1) := by decide +kernel
theorem dX4_slide_19 : decode cX4_slide 19 = .ok (.aload_n 0, 1) := by decide +kernel
theorem dX4_slide_20 : decode cX4_slide 20 = .ok (.getfield 9, 3) := by decide +kernel
theorem dX4_slide_23 : decode cX4_slide 23 = .ok (.iload_n 2, 1) := by decide +kernel
theorem dX4_slide_24 : decode cX4_slide 24 = .ok (.iconst 3, 1) := by decide +kernel
theorem dX4_slide_25 : decode cX4_slide 25 = .ok (.iadd, 1) := by decide +kernel
theorem dX4_slide_26 : decode cX4_slide 26 = .ok (.iaload, 1) := by decide +kernel
theorem dX4_slide_27 : decode cX4_slide 27 = .ok (.isub, 1) := by decide +kernel
theorem dX4_slide_28 : decode cX4_slide 28 = .ok (.istore_n 3, 1) := by decide +kernel
theorem dX4_slide_29 : decode cX4_slide 29 = .ok (.iload_n 3, 1) := by decide +kernel
theorem dX4_slide_30 : decode cX4_slide 30 = .ok (.iload_n 1, 1) := by decide +kernel
theorem dX4_slide_31 : decode cX4_slide 31 = .ok (.if_icmp .le 28, 3) := by decide +kernel
theorem dX4_slide_34 : decode cX4_slide 34 = .ok (.aload_n 0, 1) := by decide +kernel
theorem dX4_slide_35 : decode cX4_slide 35 = .ok (.getfield 9, 3) := by decide +kernel
theorem dX4_slide_38 : decode cX4_slide 38 = .ok (.iload_n 2, 1) := by decide +kernel
theorem dX4_slide_39 : decode cX4_slide 39 = .ok (.dup2, 1) := by decide +kernel
theorem dX4_slide_40 : decode cX4_slide 40 = .ok (.iaload, 1) := by decide +kernel
theorem dX4_slide_41 : decode cX4_slide 41 = .ok (.iconst 1, 1) := by decide +kernel
theorem dX4_slide_42 : decode cX4_slide 42 = .ok (.isub, 1) := by decide +kernel
theorem dX4_slide_43 : decode cX4_slide 43 = .ok (.iastore, 1) := by decide +kernel
theorem dX4_slide_44 : decode cX4_slide 44 = .ok (.aload_n 0, 1) := by decide +kernel
theorem dX4_slide_45 : decode cX4_slide 45 = .ok (.getfield 9, 3) := by decide +kernel
theorem dX4_slide_48 : decode cX4_slide 48 = .ok (.iload_n 2, 1) := by decide +kernel
theorem dX4_slide_49 : decode cX4_slide 49 = .ok (.iconst 3, 1) := by decide +kernel
theorem dX4_slide_50 : decode cX4_slide 50 = .ok (.iadd, 1) := by decide +kernel
theorem dX4_slide_51 : decode cX4_slide 51 = .ok (.dup2, 1) := by decide +kernel
theorem dX4_slide_52 : decode cX4_slide 52 = .ok (.iaload, 1) := by decide +kernel
theorem dX4_slide_53 : decode cX4_slide 53 = .ok (.iconst 1, 1) := by decide +kernel
theorem dX4_slide_54 : decode cX4_slide 54 = .ok (.iadd, 1) := by decide +kernel
theorem dX4_slide_55 : decode cX4_slide 55 = .ok (.iastore, 1) := by decide +kernel
theorem dX4_slide_56 : decode cX4_slide 56 = .ok (.goto 31, 3) := by decide +kernel
theorem dX4_slide_59 : decode cX4_slide 59 = .ok (.iload_n 3, 1) := by decide +kernel
theorem dX4_slide_60 : decode cX4_slide 60 = .ok (.iload_n 1, 1) := by decide +kernel
theorem dX4_slide_61 : decode cX4_slide 61 = .ok (.ineg, 1) := by decide +kernel
theorem dX4_slide_62 : decode cX4_slide 62 = .ok (.if_icmp .ge 25, 3) := by decide +kernel
theorem dX4_slide_65 : decode cX4_slide 65 = .ok (.aload_n 0, 1) := by decide +kernel
theorem dX4_slide_66 : decode cX4_slide 66 = .ok (.getfield 9, 3) := by decide +kernel
theorem dX4_slide_69 : decode cX4_slide 69 = .ok (.iload_n 2, 1) := by decide +kernel
theorem dX4_slide_70 : decode cX4_slide 70 = .ok (.dup2, 1) := by decide +kernel
theorem dX4_slide_71 : decode cX4_slide 71 = .ok (.iaload, 1) := by decide +kernel
theorem dX4_slide_72 : decode cX4_slide 72 = .ok (.iconst 1, 1) := by decide +kernel
theorem dX4_slide_73 : decode cX4_slide 73 = .ok (.iadd, 1) := by decide +kernel
theorem dX4_slide_74 : decode cX4_slide 74 = .ok (.iastore, 1) := by decide +kernel
theorem dX4_slide_75 : decode cX4_slide 75 = .ok (.aload_n 0, 1) := by decide +kernel
theorem dX4_slide_76 : decode cX4_slide 76 = .ok (.getfield 9, 3) := by decide +kernel
theorem dX4_slide_79 : decode cX4_slide 79 = .ok (.iload_n 2, 1) := by decide +kernel
theorem dX4_slide_80 : decode cX4_slide 80 = .ok (.iconst 3, 1) := by decide +kernel
theorem dX4_slide_81 : decode cX4_slide 81 = .ok (.iadd, 1) := by decide +kernel
theorem dX4_slide_82 : decode cX4_slide 82 = .ok (.dup2, 1) := by decide +kernel
theorem dX4_slide_83 : decode cX4_slide 83 = .ok (.iaload, 1) := by decide +kernel
theorem dX4_slide_84 : decode cX4_slide 84 = .ok (.iconst 1, 1) := by decide +kernel
theorem dX4_slide_85 : decode cX4_slide 85 = .ok (.isub, 1) := by decide +kernel
theorem dX4_slide_86 : decode cX4_slide 86 = .ok (.iastore, 1) := by decide +kernel
theorem dX4_slide_87 : decode cX4_slide 87 = .ok (.iinc 2 1, 3) := by decide +kernel
theorem dX4_slide_90 : decode cX4_slide 90 = .ok (.goto (-88), 3) := by decide +kernel
theorem dX4_slide_93 : decode cX4_slide 93 = .ok (.return_, 1) := by decide +kernel
theorem dX4_cutShoulders_0 : decode cX4_cutShoulders 0 = .ok (.iconst 0, 1) := by decide +kernel
theorem dX4_cutShoulders_1 : decode cX4_cutShoulders 1 = .ok (.istore_n 2, 1) := by decide +kernel
theorem dX4_cutShoulders_2 : decode cX4_cutShoulders 2 = .ok (.iconst 0, 1) := by decide +kernel
theorem dX4_cutShoulders_3 : decode cX4_cutShoulders 3 = .ok (.istore_n 3, 1) := by decide +kernel
theorem dX4_cutShoulders_4 : decode cX4_cutShoulders 4 = .ok (.iload_n 3, 1) := by decide +kernel
theorem dX4_cutShoulders_5 : decode cX4_cutShoulders 5 = .ok (.aload_n 0, 1) := by decide +kernel
theorem dX4_cutShoulders_6 : decode cX4_cutShoulders 6 = .ok (.getfield 9, 3) := by decide +kernel
theorem dX4_cutShoulders_9 : decode cX4_cutShoulders 9 = .ok (.arraylength, 1) := by decide +kernel
theorem dX4_cutShoulders_10 : decode cX4_cutShoulders 10 = .ok (.if_icmp .ge 47, 3) := by decide +kernel
theorem dX4_cutShoulders_13 : decode cX4_cutShoulders 13 = .ok (.aload_n 0, 1) := by decide +kernel
theorem dX4_cutShoulders_14 : decode cX4_cutShoulders 14 = .ok (.getfield 9, 3) := by decide +kernel
theorem dX4_cutShoulders_17 : decode cX4_cutShoulders 17 = .ok (.iload_n 3, 1) := by decide +kernel
theorem dX4_cutShoulders_18 : decode cX4_cutShoulders 18 = .ok (.iaload, 1) := by decide +kernel
theorem dX4_cutShoulders_19 : decode cX4_cutShoulders 19 = .ok (.iload_n 1, 1) := by decide +kernel
theorem dX4_cutShoulders_20 : decode cX4_cutShoulders 20 = .ok (.isub, 1) := by decide +kernel
theorem dX4_cutShoulders_21 : decode cX4_cutShoulders 21 = .ok (.istore 4, 2) := by decide +kernel
theorem dX4_cutShoulders_23 : decode cX4_cutShoulders 23 = .ok (.iload_n 3, 1) := by decide +kernel
theorem dX4_cutShoulders_24 : decode cX4_cutShoulders 24 = .ok (.iconst 3, 1) := by decide +kernel
theorem dX4_cutShoulders_25 : decode cX4_cutShoulders 25 = .ok (.irem, 1) := by decide +kernel
theorem dX4_cutShoulders_26 : decode cX4_cutShoulders 26 = .ok (.iconst 1, 1) := by decide +kernel
theorem dX4_cutShoulders_27 : decode cX4_cutShoulders 27 = .ok (.if_icmp .eq 24, 3) := by decide +kernel
theorem dX4_cutShoulders_30 : decode cX4_cutShoulders 30 = .ok (.iload 4, 2) := by decide +kernel
theorem dX4_cutShoulders_32 : decode cX4_cutShoulders 32 = .ok (.ifCond .le 19, 3) := by decide +kernel
theorem dX4_cutShoulders_35 : decode cX4_cutShoulders 35 = .ok (.aload_n 0, 1) := by decide +kernel
theorem dX4_cutShoulders_36 : decode cX4_cutShoulders 36 = .ok (.getfield 9, 3) := by decide +kernel
theorem dX4_cutShoulders_39 : decode cX4_cutShoulders 39 = .ok (.iload_n 3, 1) := by decide +kernel
theorem dX4_cutShoulders_40 : decode cX4_cutShoulders 40 = .ok (.dup2, 1) := by decide +kernel
theorem dX4_cutShoulders_41 : decode cX4_cutShoulders 41 = .ok (.iaload, 1) := by decide +kernel
theorem dX4_cutShoulders_42 : decode cX4_cutShoulders 42 = .ok (.iload 4, 2) := by decide +kernel
theorem dX4_cutShoulders_44 : decode cX4_cutShoulders 44 = .ok (.isub, 1) := by decide +kernel
theorem dX4_cutShoulders_45 : decode cX4_cutShoulders 45 = .ok (.iastore, 1) := by decide +kernel
theorem dX4_cutShoulders_46 : decode cX4_cutShoulders 46 = .ok (.iload_n 2, 1) := by decide +kernel
theorem dX4_cutShoulders_47 : decode cX4_cutShoulders 47 = .ok (.iload 4, 2) := by decide +kernel
theorem dX4_cutShoulders_49 : decode cX4_cutShoulders 49 = .ok (.iadd, 1) := by decide +kernel
theorem dX4_cutShoulders_50 : decode cX4_cutShoulders 50 = .ok (.istore_n 2, 1) := by decide +kernel
theorem dX4_cutShoulders_51 : decode cX4_cutShoulders 51 = .ok (.iinc 3 1, 3) := by decide +kernel
theorem dX4_cutShoulders_54 : decode cX4_cutShoulders 54 = .ok (.goto (-50), 3) := by decide +kernel
theorem dX4_cutShoulders_57 : decode cX4_cutShoulders 57 = .ok (.iload_n 2, 1) := by decide +kernel
theorem dX4_cutShoulders_58 : decode cX4_cutShoulders 58 = .ok (.ireturn, 1) := by decide +kernel
theorem dX4_units_0 : decode cX4_units 0 = .ok (.aload_n 0, 1) := by decide +kernel
theorem dX4_units_1 : decode cX4_units 1 = .ok (.getfield 9, 3) := by decide +kernel
theorem dX4_units_4 : decode cX4_units 4 = .ok (.invokestatic 19, 3) := by decide +kernel
theorem dX4_units_7 : decode cX4_units 7 = .ok (.ireturn, 1) := by decide +kernel
theorem dX5_init_0 : decode cX5_init 0 = .ok (.aload_n 0, 1) := by decide +kernel
theorem dX5_init_1 : decode cX5_init 1 = .ok (.invokespecial 3, 3) := by decide +kernel
theorem dX5_init_4 : decode cX5_init 4 = .ok (.aload_n 0, 1) := by decide +kernel
theorem dX5_init_5 : decode cX5_init 5 = .ok (.iconst 3, 1) := by decide +kernel
theorem dX5_init_6 : decode cX5_init 6 = .ok (.putfield 9, 3) := by decide +kernel
theorem dX5_init_9 : decode cX5_init 9 = .ok (.aload_n 0, 1) := by decide +kernel
theorem dX5_init_10 : decode cX5_init 10 = .ok (.iconst (-1), 1) := by decide +kernel
theorem dX5_init_11 : decode cX5_init 11 = .ok (.putfield 15, 3) := by decide +kernel
theorem dX5_init_14 : decode cX5_init 14 = .ok (.aload_n 0, 1) := by decide +kernel
theorem dX5_init_15 : decode cX5_init 15 = .ok (.iconst 0, 1) := by decide +kernel
theorem dX5_init_16 : decode cX5_init 16 = .ok (.putfield 18, 3) := by decide +kernel
theorem dX5_init_19 : decode cX5_init 19 = .ok (.aload_n 0, 1) := by decide +kernel
theorem dX5_init_20 : decode cX5_init 20 = .ok (.iconst 0, 1) := by decide +kernel
theorem dX5_init_21 : decode cX5_init 21 = .ok (.putfield 21, 3) := by decide +kernel
theorem dX5_init_24 : decode cX5_init 24 = .ok (.aload_n 0, 1) := by decide +kernel
theorem dX5_init_25 : decode cX5_init 25 = .ok (.bipush 6, 2) := by decide +kernel
theorem dX5_init_27 : decode cX5_init 27 = .ok (.newarray .int, 2) := by decide +kernel
theorem dX5_init_29 : decode cX5_init 29 = .ok (.putfield 24, 3) := by decide +kernel
theorem dX5_init_32 : decode cX5_init 32 = .ok (.aload_n 0, 1) := by decide +kernel
theorem dX5_init_33 : decode cX5_init 33 = .ok (.bipush 6, 2) := by decide +kernel
theorem dX5_init_35 : decode cX5_init 35 = .ok (.newarray .int, 2) := by decide +kernel
theorem dX5_init_37 : decode cX5_init 37 = .ok (.putfield 28, 3) := by decide +kernel
theorem dX5_init_40 : decode cX5_init 40 = .ok (.aload_n 0, 1) := by decide +kernel
theorem dX5_init_41 : decode cX5_init 41 = .ok (.bipush 18, 2) := by decide +kernel
theorem dX5_init_43 : decode cX5_init 43 = .ok (.newarray .int, 2) := by decide +kernel
theorem dX5_init_45 : decode cX5_init 45 = .ok (.putfield 31, 3) := by decide +kernel
theorem dX5_init_48 : decode cX5_init 48 = .ok (.aload_n 0, 1) := by decide +kernel
theorem dX5_init_49 : decode cX5_init 49 = .ok (.bipush 18, 2) := by decide +kernel
theorem dX5_init_51 : decode cX5_init 51 = .ok (.newarray .int, 2) := by decide +kernel
theorem dX5_init_53 : decode cX5_init 53 = .ok (.putfield 34, 3) := by decide +kernel
theorem dX5_init_56 : decode cX5_init 56 = .ok (.aload_n 0, 1) := by decide +kernel
theorem dX5_init_57 : decode cX5_init 57 = .ok (.getfield 34, 3) := by decide +kernel
theorem dX5_init_60 : decode cX5_init 60 = .ok (.sipush (-1001), 3) := by decide +kernel
theorem dX5_init_63 : decode cX5_init 63 = .ok (.invokestatic 37, 3) := by decide +kernel
theorem dX5_init_66 : decode cX5_init 66 = .ok (.return_, 1) := by decide +kernel
theorem dX5_replace_0 : decode cX5_replace 0 = .ok (.aload_n 0, 1) := by decide +kernel
theorem dX5_replace_1 : decode cX5_replace 1 = .ok (.iload_n 1, 1) := by decide +kernel
theorem dX5_replace_2 : decode cX5_replace 2 = .ok (.putfield 9, 3) := by decide +kernel
theorem dX5_replace_5 : decode cX5_replace 5 = .ok (.aload_n 0, 1) := by decide +kernel
theorem dX5_replace_6 : decode cX5_replace 6 = .ok (.iconst (-1), 1) := by decide +kernel
theorem dX5_replace_7 : decode cX5_replace 7 = .ok (.putfield 15, 3) := by decide +kernel
theorem dX5_replace_10 : decode cX5_replace 10 = .ok (.aload_n 0, 1) := by decide +kernel
theorem dX5_replace_11 : decode cX5_replace 11 = .ok (.iconst 0, 1) := by decide +kernel
theorem dX5_replace_12 : decode cX5_replace 12 = .ok (.putfield 18, 3) := by decide +kernel
theorem dX5_replace_15 : decode cX5_replace 15 = .ok (.aload_n 0, 1) := by decide +kernel
theorem dX5_replace_16 : decode cX5_replace 16 = .ok (.iconst 0, 1) := by decide +kernel
theorem dX5_replace_17 : decode cX5_replace 17 = .ok (.putfield 21, 3) := by decide +kernel
theorem dX5_replace_20 : decode cX5_replace 20 = .ok (.aload_n 0, 1) := by decide +kernel
theorem dX5_replace_21 : decode cX5_replace 21 = .ok (.getfield 24, 3) := by decide +kernel
theorem dX5_replace_24 : decode cX5_replace 24 = .ok (.iconst 0, 1) := by decide +kernel
theorem dX5_replace_25 : decode cX5_replace 25 = .ok (.invokestatic 37, 3) := by decide +kernel
theorem dX5_replace_28 : decode cX5_replace 28 = .ok (.aload_n 0, 1) := by decide +kernel
theorem dX5_replace_29 : decode cX5_replace 29 = .ok (.getfield 28, 3) := by decide +kernel
theorem dX5_replace_32 : decode cX5_replace 32 = .ok (.iconst 0, 1) := by decide +kernel
theorem dX5_replace_33 : decode cX5_replace 33 = .ok (.invokestatic 37, 3) := by decide +kernel
theorem dX5_replace_36 : decode cX5_replace 36 = .ok (.aload_n 0, 1) := by decide +kernel
theorem dX5_replace_37 : decode cX5_replace 37 = .ok (.getfield 31, 3) := by decide +kernel
theorem dX5_replace_40 : decode cX5_replace 40 = .ok (.iconst 0, 1) := by decide +kernel
theorem dX5_replace_41 : decode cX5_replace 41 = .ok (.invokestatic 37, 3) := by decide +kernel
theorem dX5_replace_44 : decode cX5_replace 44 = .ok (.aload_n 0, 1) := by decide +kernel
theorem dX5_replace_45 : decode cX5_replace 45 = .ok (.getfield 34, 3) := by decide +kernel
theorem dX5_replace_48 : decode cX5_replace 48 = .ok (.sipush (-1001), 3) := by decide +kernel
theorem dX5_replace_51 : decode cX5_replace 51 = .ok (.invokestatic 37, 3) := by decide +kernel
theorem dX5_replace_54 : decode cX5_replace 54 = .ok (.return_, 1) := by decide +kernel
theorem dX5_copyFrom_0 : decode cX5_copyFrom 0 = .ok (.aload_n 0, 1) := by decide +kernel
theorem dX5_copyFrom_1 : decode cX5_copyFrom 1 = .ok (.aload_n 1, 1) := by decide +kernel
theorem dX5_copyFrom_2 : decode cX5_copyFrom 2 = .ok (.getfield 9, 3) := by decide +kernel
theorem dX5_copyFrom_5 : decode cX5_copyFrom 5 = .ok (.putfield 9, 3) := by decide +kernel
theorem dX5_copyFrom_8 : decode cX5_copyFrom 8 = .ok (.aload_n 0, 1) := by decide +kernel
theorem dX5_copyFrom_9 : decode cX5_copyFrom 9 = .ok (.aload_n 1, 1) := by decide +kernel
theorem dX5_copyFrom_10 : decode cX5_copyFrom 10 = .ok (.getfield 15, 3) := by decide +kernel
theorem dX5_copyFrom_13 : decode cX5_copyFrom 13 = .ok (.putfield 15, 3) := by decide +kernel
theorem dX5_copyFrom_16 : decode cX5_copyFrom 16 = .ok (.aload_n 0, 1) := by decide +kernel
theorem dX5_copyFrom_17 : decode cX5_copyFrom 17 = .ok (.aload_n 1, 1) := by decide +kernel
theorem dX5_copyFrom_18 : decode cX5_copyFrom 18 = .ok (.getfield 18, 3) := by decide +kernel
theorem dX5_copyFrom_21 : decode cX5_copyFrom 21 = .ok (.putfield 18, 3) := by decide +kernel
theorem dX5_copyFrom_24 : decode cX5_copyFrom 24 = .ok (.aload_n 0, 1) := by decide +kernel
theorem dX5_copyFrom_25 : decode cX5_copyFrom 25 = .ok (.aload_n 1, 1) := by decide +kernel
theorem dX5_copyFrom_26 : decode cX5_copyFrom 26 = .ok (.getfield 21, 3) := by decide +kernel
theorem dX5_copyFrom_29 : decode cX5_copyFrom 29 = .ok (.putfield 21, 3) := by decide +kernel
theorem dX5_copyFrom_32 : decode cX5_copyFrom 32 = .ok (.aload_n 1, 1) := by decide +kernel
theorem dX5_copyFrom_33 : decode cX5_copyFrom 33 = .ok (.getfield 24, 3) := by decide +kernel
theorem dX5_copyFrom_36 : decode cX5_copyFrom 36 = .ok (.aload_n 0, 1) := by decide +kernel
theorem dX5_copyFrom_37 : decode cX5_copyFrom 37 = .ok (.getfield 24, 3) := by decide +kernel
theorem dX5_copyFrom_40 : decode cX5_copyFrom 40 = .ok (.invokestatic 43, 3) := by decide +kernel
theorem dX5_copyFrom_43 : decode cX5_copyFrom 43 = .ok (.aload_n 1, 1) := by decide +kernel
theorem dX5_copyFrom_44 : decode cX5_copyFrom 44 = .ok (.getfield 28, 3) := by decide +kernel
theorem dX5_copyFrom_47 : decode cX5_copyFrom 47 = .ok (.aload_n 0, 1) := by decide +kernel
theorem dX5_copyFrom_48 : decode cX5_copyFrom 48 = .ok (.getfield 28, 3) := by decide +kernel
theorem dX5_copyFrom_51 : decode cX5_copyFrom 51 = .ok (.invokestatic 43, 3) := by decide +kernel
theorem dX5_copyFrom_54 : decode cX5_copyFrom 54 = .ok (.aload_n 1, 1) := by decide +kernel
theorem dX5_copyFrom_55 : decode cX5_copyFrom 55 = .ok (.getfield 31, 3) := by decide +kernel
theorem dX5_copyFrom_58 : decode cX5_copyFrom 58 = .ok (.aload_n 0, 1) := by decide +kernel
theorem dX5_copyFrom_59 : decode cX5_copyFrom 59 = .ok (.getfield 31, 3) := by decide +kernel
theorem dX5_copyFrom_62 : decode cX5_copyFrom 62 = .ok (.invokestatic 43, 3) := by decide +kernel
theorem dX5_copyFrom_65 : decode cX5_copyFrom 65 = .ok (.aload_n 1, 1) := by decide +kernel
theorem dX5_copyFrom_66 : decode cX5_copyFrom 66 = .ok (.getfield 34, 3) := by decide +kernel
theorem dX5_copyFrom_69 : decode cX5_copyFrom 69 = .ok (.aload_n 0, 1) := by decide +kernel
theorem dX5_copyFrom_70 : decode cX5_copyFrom 70 = .ok (.getfield 34, 3) := by decide +kernel
theorem dX5_copyFrom_73 : decode cX5_copyFrom 73 = .ok (.invokestatic 43, 3) := by decide +kernel
theorem dX5_copyFrom_76 : decode cX5_copyFrom 76 = .ok (.return_, 1) := by decide +kernel
theorem dX5_hasWagon_0 : decode cX5_hasWagon 0 = .ok (.iload_n 1, 1) := by decide +kernel
theorem dX5_hasWagon_1 : decode cX5_hasWagon 1 = .ok (.ifCond .lt 21, 3) := by decide +kernel
theorem dX5_hasWagon_4 : decode cX5_hasWagon 4 = .ok (.iload_n 1, 1) := by decide +kernel
theorem dX5_hasWagon_5 : decode cX5_hasWagon 5 = .ok (.aload_n 0, 1) := by decide +kernel
theorem dX5_hasWagon_6 : decode cX5_hasWagon 6 = .ok (.getfield 9, 3) := by decide +kernel
theorem dX5_hasWagon_9 : decode cX5_hasWagon 9 = .ok (.if_icmp .ge 13, 3) := by decide +kernel
theorem dX5_hasWagon_12 : decode cX5_hasWagon 12 = .ok (.iload_n 1, 1) := by decide +kernel
theorem dX5_hasWagon_13 : decode cX5_hasWagon 13 = .ok (.bipush 6, 2) := by decide +kernel
theorem dX5_hasWagon_15 : decode cX5_hasWagon 15 = .ok (.if_icmp .ge 7, 3) := by decide +kernel
theorem dX5_hasWagon_18 : decode cX5_hasWagon 18 = .ok (.iconst 1, 1) := by decide +kernel
theorem dX5_hasWagon_19 : decode cX5_hasWagon 19 = .ok (.goto 4, 3) := by decide +kernel
theorem dX5_hasWagon_22 : decode cX5_hasWagon 22 = .ok (.iconst 0, 1) := by decide +kernel
theorem dX5_hasWagon_23 : decode cX5_hasWagon 23 = .ok (.ireturn, 1) := by decide +kernel
theorem dX5_hasDoor_0 : decode cX5_hasDoor 0 = .ok (.iload_n 1, 1) := by decide +kernel
theorem dX5_hasDoor_1 : decode cX5_hasDoor 1 = .ok (.ifCond .lt 30, 3) := by decide +kernel
theorem dX5_hasDoor_4 : decode cX5_hasDoor 4 = .ok (.iload_n 1, 1) := by decide +kernel
theorem dX5_hasDoor_5 : decode cX5_hasDoor 5 = .ok (.aload_n 0, 1) := by decide +kernel
theorem dX5_hasDoor_6 : decode cX5_hasDoor 6 = .ok (.getfield 9, 3) := by decide +kernel
theorem dX5_hasDoor_9 : decode cX5_hasDoor 9 = .ok (.if_icmp .ge 22, 3) := by decide +kernel
theorem dX5_hasDoor_12 : decode cX5_hasDoor 12 = .ok (.iload_n 1, 1) := by decide +kernel
theorem dX5_hasDoor_13 : decode cX5_hasDoor 13 = .ok (.bipush 6, 2) := by decide +kernel
theorem dX5_hasDoor_15 : decode cX5_hasDoor 15 = .ok (.if_icmp .ge 16, 3) := by decide +kernel
theorem dX5_hasDoor_18 : decode cX5_hasDoor 18 = .ok (.iload_n 2, 1) := by decide +kernel
theorem dX5_hasDoor_19 : decode cX5_hasDoor 19 = .ok (.ifCond .lt 12, 3) := by decide +kernel
theorem dX5_hasDoor_22 : decode cX5_hasDoor 22 = .ok (.iload_n 2, 1) := by decide +kernel
theorem dX5_hasDoor_23 : decode cX5_hasDoor 23 = .ok (.iconst 3, 1) := by decide +kernel
theorem dX5_hasDoor_24 : decode cX5_hasDoor 24 = .ok (.if_icmp .ge 7, 3) := by decide +kernel
theorem dX5_hasDoor_27 : decode cX5_hasDoor 27 = .ok (.iconst 1, 1) := by decide +kernel
theorem dX5_hasDoor_28 : decode cX5_hasDoor 28 = .ok (.goto 4, 3) := by decide +kernel
theorem dX5_hasDoor_31 : decode cX5_hasDoor 31 = .ok (.iconst 0, 1) := by decide +kernel
theorem dX5_hasDoor_32 : decode cX5_hasDoor 32 = .ok (.ireturn, 1) := by decide +kernel
theorem dX5_levelOf_0 : decode cX5_levelOf 0 = .ok (.aload_n 0, 1) := by decide +kernel
theorem dX5_levelOf_1 : decode cX5_levelOf 1 = .ok (.iload_n 1, 1) := by decide +kernel
theorem dX5_levelOf_2 : decode cX5_levelOf 2 = .ok (.iload_n 2, 1) := by decide +kernel
theorem dX5_levelOf_3 : decode cX5_levelOf 3 = .ok (.invokevirtual 47, 3) := by decide +kernel
theorem dX5_levelOf_6 : decode cX5_levelOf 6 = .ok (.ifCond .eq 16, 3) := by decide +kernel
theorem dX5_levelOf_9 : decode cX5_levelOf 9 = .ok (.aload_n 0, 1) := by decide +kernel
theorem dX5_levelOf_10 : decode cX5_levelOf 10 = .ok (.getfield 31, 3) := by decide +kernel
theorem dX5_levelOf_13 : decode cX5_levelOf 13 = .ok (.iconst 3, 1) := by decide +kernel
theorem dX5_levelOf_14 : decode cX5_levelOf 14 = .ok (.iload_n 1, 1) := by decide +kernel
theorem dX5_levelOf_15 : decode cX5_levelOf 15 = .ok (.imul, 1) := by decide +kernel
theorem dX5_levelOf_16 : decode cX5_levelOf 16 = .ok (.iload_n 2, 1) := by decide +kernel
theorem dX5_levelOf_17 : decode cX5_levelOf 17 = .ok (.iadd, 1) := by decide +kernel
theorem dX5_levelOf_18 : decode cX5_levelOf 18 = .ok (.iaload, 1) := by decide +kernel
theorem dX5_levelOf_19 : decode cX5_levelOf 19 = .ok (.goto 4, 3) := by decide +kernel
theorem dX5_levelOf_22 : decode cX5_levelOf 22 = .ok (.iconst 0, 1) := by decide +kernel
theorem dX5_levelOf_23 : decode cX5_levelOf 23 = .ok (.ireturn, 1) := by decide +kernel
theorem dX5_restOf_0 : decode cX5_restOf 0 = .ok (.aload_n 0, 1) := by decide +kernel
theorem dX5_restOf_1 : decode cX5_restOf 1 = .ok (.iload_n 1, 1) := by decide +kernel
theorem dX5_restOf_2 : decode cX5_restOf 2 = .ok (.iload_n 2, 1) := by decide +kernel
theorem dX5_restOf_3 : decode cX5_restOf 3 = .ok (.invokevirtual 47, 3) := by decide +kernel
theorem dX5_restOf_6 : decode cX5_restOf 6 = .ok (.ifCond .eq 16, 3) := by decide +kernel
theorem dX5_restOf_9 : decode cX5_restOf 9 = .ok (.aload_n 0, 1) := by decide +kernel
theorem dX5_restOf_10 : decode cX5_restOf 10 = .ok (.getfield 34, 3) := by decide +kernel
theorem dX5_restOf_13 : decode cX5_restOf 13 = .ok (.iconst 3, 1) := by decide +kernel
theorem dX5_restOf_14 : decode cX5_restOf 14 = .ok (.iload_n 1, 1) := by decide +kernel
theorem dX5_restOf_15 : decode cX5_restOf 15 = .ok (.imul, 1) := by decide +kernel
theorem dX5_restOf_16 : decode cX5_restOf 16 = .ok (.iload_n 2, 1) := by decide +kernel
theorem dX5_restOf_17 : decode cX5_restOf 17 = .ok (.iadd, 1) := by decide +kernel
theorem dX5_restOf_18 : decode cX5_restOf 18 = .ok (.iaload, 1) := by decide +kernel
theorem dX5_restOf_19 : decode cX5_restOf 19 = .ok (.goto 6, 3) := by decide +kernel
theorem dX5_restOf_22 : decode cX5_restOf 22 = .ok (.sipush (-1001), 3) := by decide +kernel
theorem dX5_restOf_25 : decode cX5_restOf 25 = .ok (.ireturn, 1) := by decide +kernel
theorem dX5_cellBelow_0 : decode cX5_cellBelow 0 = .ok (.aload_n 0, 1) := by decide +kernel
theorem dX5_cellBelow_1 : decode cX5_cellBelow 1 = .ok (.getfield 15, 3) := by decide +kernel
theorem dX5_cellBelow_4 : decode cX5_cellBelow 4 = .ok (.iconst 4, 1) := by decide +kernel
theorem dX5_cellBelow_5 : decode cX5_cellBelow 5 = .ok (.iload_n 1, 1) := by decide +kernel
theorem dX5_cellBelow_6 : decode cX5_cellBelow 6 = .ok (.imul, 1) := by decide +kernel
theorem dX5_cellBelow_7 : decode cX5_cellBelow 7 = .ok (.isub, 1) := by decide +kernel
theorem dX5_cellBelow_8 : decode cX5_cellBelow 8 = .ok (.ireturn, 1) := by decide +kernel
theorem dX5_units_0 : decode cX5_units 0 = .ok (.aload_n 0, 1) := by decide +kernel
theorem dX5_units_1 : decode cX5_units 1 = .ok (.getfield 24, 3) := by decide +kernel
theorem dX5_units_4 : decode cX5_units 4 = .ok (.invokestatic 51, 3) := by decide +kernel
theorem dX5_units_7 : decode cX5_units 7 = .ok (.ireturn, 1) := by decide +kernel
theorem dX5_sumOfLevels_0 : decode cX5_sumOfLevels 0 = .ok (.iconst 0, 1) := by decide +kernel
theorem dX5_sumOfLevels_1 : decode cX5_sumOfLevels 1 = .ok (.istore_n 2, 1) := by decide +kernel
theorem dX5_sumOfLevels_2 : decode cX5_sumOfLevels 2 = .ok (.iconst 0, 1) := by decide +kernel
theorem dX5_sumOfLevels_3 : decode cX5_sumOfLevels 3 = .ok (.istore_n 3, 1) := by decide +kernel
theorem dX5_sumOfLevels_4 : decode cX5_sumOfLevels 4 = .ok (.iload_n 3, 1) := by decide +kernel
theorem dX5_sumOfLevels_5 : decode cX5_sumOfLevels 5 = .ok (.iconst 3, 1) := by decide +kernel
theorem dX5_sumOfLevels_6 : decode cX5_sumOfLevels 6 = .ok (.if_icmp .ge 18, 3) := by decide +kernel
theorem dX5_sumOfLevels_9 : decode cX5_sumOfLevels 9 = .ok (.iload_n 2, 1) := by decide +kernel
theorem dX5_sumOfLevels_10 : decode cX5_sumOfLevels 10 = .ok (.aload_n 0, 1) := by decide +kernel
theorem dX5_sumOfLevels_11 : decode cX5_sumOfLevels 11 = .ok (.iload_n 1, 1) := by decide +kernel
theorem dX5_sumOfLevels_12 : decode cX5_sumOfLevels 12 = .ok (.iload_n 3, 1) := by decide +kernel
theorem dX5_sumOfLevels_13 : decode cX5_sumOfLevels 13 = .ok (.invokevirtual 55, 3) := by decide +kernel
theorem dX5_sumOfLevels_16 : decode cX5_sumOfLevels 16 = .ok (.iadd, 1) := by decide +kernel
theorem dX5_sumOfLevels_17 : decode cX5_sumOfLevels 17 = .ok (.istore_n 2, 1) := by decide +kernel
theorem dX5_sumOfLevels_18 : decode cX5_sumOfLevels 18 = .ok (.iinc 3 1, 3) := by decide +kernel
theorem dX5_sumOfLevels_21 : decode cX5_sumOfLevels 21 = .ok (.goto (-17), 3) := by decide +kernel
theorem dX5_sumOfLevels_24 : decode cX5_sumOfLevels 24 = .ok (.iload_n 2, 1) := by decide +kernel
theorem dX5_sumOfLevels_25 : decode cX5_sumOfLevels 25 = .ok (.ireturn, 1) := by decide +kernel
theorem dX5_closingDoors_0 : decode cX5_closingDoors 0 = .ok (.iconst 0, 1) := by decide +kernel
theorem dX5_closingDoors_1 : decode cX5_closingDoors 1 = .ok (.istore_n 2, 1) := by decide +kernel
theorem dX5_closingDoors_2 : decode cX5_closingDoors 2 = .ok (.iconst 0, 1) := by decide +kernel
theorem dX5_closingDoors_3 : decode cX5_closingDoors 3 = .ok (.istore_n 3, 1) := by decide +kernel
theorem dX5_closingDoors_4 : decode cX5_closingDoors 4 = .ok (.iload_n 3, 1) := by decide +kernel
theorem dX5_closingDoors_5 : decode cX5_closingDoors 5 = .ok (.iconst 3, 1) := by decide +kernel
theorem dX5_closingDoors_6 : decode cX5_closingDoors 6 = .ok (.if_icmp .ge 24, 3) := by decide +kernel
theorem dX5_closingDoors_9 : decode cX5_closingDoors 9 = .ok (.aload_n 0, 1) := by decide +kernel
theorem dX5_closingDoors_10 : decode cX5_closingDoors 10 = .ok (.iload_n 1, 1) := by decide +kernel
theorem dX5_closingDoors_11 : decode cX5_closingDoors 11 = .ok (.iload_n 3, 1) := by decide +kernel
theorem dX5_closingDoors_12 : decode cX5_closingDoors 12 = .ok (.invokevirtual 59, 3) := by decide +kernel
theorem dX5_closingDoors_15 : decode cX5_closingDoors 15 = .ok (.sipush (-1001), 3) := by decide +kernel
theorem dX5_closingDoors_18 : decode cX5_closingDoors 18 = .ok (.if_icmp .eq 6, 3) := by decide +kernel
theorem dX5_closingDoors_21 : decode cX5_closingDoors 21 = .ok (.iinc 2 1, 3) := by decide +kernel
theorem dX5_closingDoors_24 : decode cX5_closingDoors 24 = .ok (.iinc 3 1, 3) := by decide +kernel
theorem dX5_closingDoors_27 : decode cX5_closingDoors 27 = .ok (.goto (-23), 3) := by decide +kernel
theorem dX5_closingDoors_30 : decode cX5_closingDoors 30 = .ok (.iload_n 2, 1) := by decide +kernel
theorem dX5_closingDoors_31 : decode cX5_closingDoors 31 = .ok (.ireturn, 1) := by decide +kernel
theorem dX5_openDoor_0 : decode cX5_openDoor 0 = .ok (.aload_n 0, 1) := by decide +kernel
theorem dX5_openDoor_1 : decode cX5_openDoor 1 = .ok (.iload_n 1, 1) := by decide +kernel
theorem dX5_openDoor_2 : decode cX5_openDoor 2 = .ok (.iload_n 2, 1) := by decide +kernel
theorem dX5_openDoor_3 : decode cX5_openDoor 3 = .ok (.invokevirtual 47, 3) := by decide +kernel
theorem dX5_openDoor_6 : decode cX5_openDoor 6 = .ok (.ifCond .eq 27, 3) := by decide +kernel
theorem dX5_openDoor_9 : decode cX5_openDoor 9 = .ok (.aload_n 0, 1) := by decide +kernel
theorem dX5_openDoor_10 : decode cX5_openDoor 10 = .ok (.getfield 31, 3) := by decide +kernel
theorem dX5_openDoor_13 : decode cX5_openDoor 13 = .ok (.iconst 3, 1) := by decide +kernel
theorem dX5_openDoor_14 : decode cX5_openDoor 14 = .ok (.iload_n 1, 1) := by decide +kernel
theorem dX5_openDoor_15 : decode cX5_openDoor 15 = .ok (.imul, 1) := by decide +kernel
theorem dX5_openDoor_16 : decode cX5_openDoor 16 = .ok (.iload_n 2, 1) := by decide +kernel
theorem dX5_openDoor_17 : decode cX5_openDoor 17 = .ok (.iadd, 1) := by decide +kernel
theorem dX5_openDoor_18 : decode cX5_openDoor 18 = .ok (.iload_n 3, 1) := by decide +kernel
theorem dX5_openDoor_19 : decode cX5_openDoor 19 = .ok (.iastore, 1) := by decide +kernel
theorem dX5_openDoor_20 : decode cX5_openDoor 20 = .ok (.aload_n 0, 1) := by decide +kernel
theorem dX5_openDoor_21 : decode cX5_openDoor 21 = .ok (.getfield 34, 3) := by decide +kernel
theorem dX5_openDoor_24 : decode cX5_openDoor 24 = .ok (.iconst 3, 1) := by decide +kernel
theorem dX5_openDoor_25 : decode cX5_openDoor 25 = .ok (.iload_n 1, 1) := by decide +kernel
theorem dX5_openDoor_26 : decode cX5_openDoor 26 = .ok (.imul, 1) := by decide +kernel
theorem dX5_openDoor_27 : decode cX5_openDoor 27 = .ok (.iload_n 2, 1) := by decide +kernel
theorem dX5_openDoor_28 : decode cX5_openDoor 28 = .ok (.iadd, 1) := by decide +kernel
theorem dX5_openDoor_29 : decode cX5_openDoor 29 = .ok (.sipush (-1001), 3) := by decide +kernel
theorem dX5_openDoor_32 : decode cX5_openDoor 32 = .ok (.iastore, 1) := by decide +kernel
theorem dX5_openDoor_33 : decode cX5_openDoor 33 = .ok (.return_, 1) := by decide +kernel
theorem dX5_closeDoor_0 : decode cX5_closeDoor 0 = .ok (.aload_n 0, 1) := by decide +kernel
theorem dX5_closeDoor_1 : decode cX5_closeDoor 1 = .ok (.iload_n 1, 1) := by decide +kernel
theorem dX5_closeDoor_2 : decode cX5_closeDoor 2 = .ok (.iload_n 2, 1) := by decide +kernel
theorem dX5_closeDoor_3 : decode cX5_closeDoor 3 = .ok (.invokevirtual 47, 3) := by decide +kernel
theorem dX5_closeDoor_6 : decode cX5_closeDoor 6 = .ok (.ifCond .eq 27, 3) := by decide +kernel
theorem dX5_closeDoor_9 : decode cX5_closeDoor 9 = .ok (.aload_n 0, 1) := by decide +kernel
theorem dX5_closeDoor_10 : decode cX5_closeDoor 10 = .ok (.getfield 31, 3) := by decide +kernel
theorem dX5_closeDoor_13 : decode cX5_closeDoor 13 = .ok (.iconst 3, 1) := by decide +kernel
theorem dX5_closeDoor_14 : decode cX5_closeDoor 14 = .ok (.iload_n 1, 1) := by decide +kernel
theorem dX5_closeDoor_15 : decode cX5_closeDoor 15 = .ok (.imul, 1) := by decide +kernel
theorem dX5_closeDoor_16 : decode cX5_closeDoor 16 = .ok (.iload_n 2, 1) := by decide +kernel
theorem dX5_closeDoor_17 : decode cX5_closeDoor 17 = .ok (.iadd, 1) := by decide +kernel
theorem dX5_closeDoor_18 : decode cX5_closeDoor 18 = .ok (.iaload, 1) := by decide +kernel
theorem dX5_closeDoor_19 : decode cX5_closeDoor 19 = .ok (.ifCond .eq 14, 3) := by decide +kernel
theorem dX5_closeDoor_22 : decode cX5_closeDoor 22 = .ok (.aload_n 0, 1) := by decide +kernel
theorem dX5_closeDoor_23 : decode cX5_closeDoor 23 = .ok (.getfield 34, 3) := by decide +kernel
theorem dX5_closeDoor_26 : decode cX5_closeDoor 26 = .ok (.iconst 3, 1) := by decide +kernel
theorem dX5_closeDoor_27 : decode cX5_closeDoor 27 = .ok (.iload_n 1, 1) := by decide +kernel
theorem dX5_closeDoor_28 : decode cX5_closeDoor 28 = .ok (.imul, 1) := by decide +kernel
theorem dX5_closeDoor_29 : decode cX5_closeDoor 29 = .ok (.iload_n 2, 1) := by decide +kernel
theorem dX5_closeDoor_30 : decode cX5_closeDoor 30 = .ok (.iadd, 1) := by decide +kernel
theorem dX5_closeDoor_31 : decode cX5_closeDoor 31 = .ok (.iload_n 3, 1) := by decide +kernel
theorem dX5_closeDoor_32 : decode cX5_closeDoor 32 = .ok (.iastore, 1) := by decide +kernel
theorem dX5_closeDoor_33 : decode cX5_closeDoor 33 = .ok (.return_, 1) := by decide +kernel
theorem dX5_move_0 : decode cX5_move 0 = .ok (.aload_n 0, 1) := by decide +kernel
theorem dX5_move_1 : decode cX5_move 1 = .ok (.getfield 18, 3) := by decide +kernel
theorem dX5_move_4 : decode cX5_move 4 = .ok (.aload_n 0, 1) := by decide +kernel
theorem dX5_move_5 : decode cX5_move 5 = .ok (.getfield 21, 3) := by decide +kernel
theorem dX5_move_8 : decode cX5_move 8 = .ok (.if_icmp .ge 16, 3) := by decide +kernel
theorem dX5_move_11 : decode cX5_move 11 = .ok (.aload_n 0, 1) := by decide +kernel
theorem dX5_move_12 : decode cX5_move 12 = .ok (.dup, 1) := by decide +kernel
theorem dX5_move_13 : decode cX5_move 13 = .ok (.getfield 18, 3) := by decide +kernel
theorem dX5_move_16 : decode cX5_move 16 = .ok (.iconst 1, 1) := by decide +kernel
theorem dX5_move_17 : decode cX5_move 17 = .ok (.iadd, 1) := by decide +kernel
theorem dX5_move_18 : decode cX5_move 18 = .ok (.putfield 18, 3) := by decide +kernel
theorem dX5_move_21 : decode cX5_move 21 = .ok (.goto 24, 3) := by decide +kernel
theorem dX5_move_24 : decode cX5_move 24 = .ok (.aload_n 0, 1) := by decide +kernel
theorem dX5_move_25 : decode cX5_move 25 = .ok (.getfield 18, 3) := by decide +kernel
theorem dX5_move_28 : decode cX5_move 28 = .ok (.aload_n 0, 1) := by decide +kernel
theorem dX5_move_29 : decode cX5_move 29 = .ok (.getfield 21, 3) := by decide +kernel
theorem dX5_move_32 : decode cX5_move 32 = .ok (.if_icmp .le 13, 3) := by decide +kernel
theorem dX5_move_35 : decode cX5_move 35 = .ok (.aload_n 0, 1) := by decide +kernel
theorem dX5_move_36 : decode cX5_move 36 = .ok (.dup, 1) := by decide +kernel
theorem dX5_move_37 : decode cX5_move 37 = .ok (.getfield 18, 3) := by decide +kernel
theorem dX5_move_40 : decode cX5_move 40 = .ok (.iconst 1, 1) := by decide +kernel
theorem dX5_move_41 : decode cX5_move 41 = .ok (.isub, 1) := by decide +kernel
theorem dX5_move_42 : decode cX5_move 42 = .ok (.putfield 18, 3) := by decide +kernel
end
section
theorem dX5_move_45 : decode cX5_move 45 = .ok (.aload_n 0, 1) := by decide +kernel
theorem dX5_move_46 : decode cX5_move 46 = .ok (.aload_n 0, 1) := by decide +kernel
theorem dX5_move_47 : decode cX5_move 47 = .ok (.getfield 15, 3) := by decide +kernel
theorem dX5_move_50 : decode cX5_move 50 = .ok (.aload_n 0, 1) := by decide +kernel
theorem dX5_move_51 : decode cX5_move 51 = .ok (.getfield 18, 3) := by decide +kernel
theorem dX5_move_54 : decode cX5_move 54 = .ok (.iadd, 1) := by decide +kernel
theorem dX5_move_55 : decode cX5_move 55 = .ok (.bipush 99, 2) := by decide +kernel
theorem dX5_move_57 : decode cX5_move 57 = .ok (.invokestatic 62, 3) := by decide +kernel
theorem dX5_move_60 : decode cX5_move 60 = .ok (.putfield 15, 3) := by decide +kernel
theorem dX5_move_63 : decode cX5_move 63 = .ok (.return_, 1) := by decide +kernel
theorem dX5_drop_0 : decode cX5_drop 0 = .ok (.aload_n 0, 1) := by decide +kernel
theorem dX5_drop_1 : decode cX5_drop 1 = .ok (.iload_n 1, 1) := by decide +kernel
theorem dX5_drop_2 : decode cX5_drop 2 = .ok (.iload_n 2, 1) := by decide +kernel
theorem dX5_drop_3 : decode cX5_drop 3 = .ok (.invokevirtual 47, 3) := by decide +kernel
theorem dX5_drop_6 : decode cX5_drop 6 = .ok (.ifCond .ne 5, 3) := by decide +kernel
theorem dX5_drop_9 : decode cX5_drop 9 = .ok (.iconst 0, 1) := by decide +kernel
theorem dX5_drop_10 : decode cX5_drop 10 = .ok (.ireturn, 1) := by decide +kernel
theorem dX5_drop_11 : decode cX5_drop 11 = .ok (.aload_n 0, 1) := by decide +kernel
theorem dX5_drop_12 : decode cX5_drop 12 = .ok (.getfield 31, 3) := by decide +kernel
theorem dX5_drop_15 : decode cX5_drop 15 = .ok (.iconst 3, 1) := by decide +kernel
theorem dX5_drop_16 : decode cX5_drop 16 = .ok (.iload_n 1, 1) := by decide +kernel
theorem dX5_drop_17 : decode cX5_drop 17 = .ok (.imul, 1) := by decide +kernel
theorem dX5_drop_18 : decode cX5_drop 18 = .ok (.iload_n 2, 1) := by decide +kernel
theorem dX5_drop_19 : decode cX5_drop 19 = .ok (.iadd, 1) := by decide +kernel
theorem dX5_drop_20 : decode cX5_drop 20 = .ok (.iaload, 1) := by decide +kernel
theorem dX5_drop_21 : decode cX5_drop 21 = .ok (.aload_n 0, 1) := by decide +kernel
theorem dX5_drop_22 : decode cX5_drop 22 = .ok (.getfield 24, 3) := by decide +kernel
theorem dX5_drop_25 : decode cX5_drop 25 = .ok (.iload_n 1, 1) := by decide +kernel
theorem dX5_drop_26 : decode cX5_drop 26 = .ok (.iaload, 1) := by decide +kernel
theorem dX5_drop_27 : decode cX5_drop 27 = .ok (.invokestatic 62, 3) := by decide +kernel
theorem dX5_drop_30 : decode cX5_drop 30 = .ok (.istore_n 3, 1) := by decide +kernel
theorem dX5_drop_31 : decode cX5_drop 31 = .ok (.aload_n 0, 1) := by decide +kernel
theorem dX5_drop_32 : decode cX5_drop 32 = .ok (.getfield 24, 3) := by decide +kernel
theorem dX5_drop_35 : decode cX5_drop 35 = .ok (.iload_n 1, 1) := by decide +kernel
theorem dX5_drop_36 : decode cX5_drop 36 = .ok (.dup2, 1) := by decide +kernel
theorem dX5_drop_37 : decode cX5_drop 37 = .ok (.iaload, 1) := by decide +kernel
theorem dX5_drop_38 : decode cX5_drop 38 = .ok (.iload_n 3, 1) := by decide +kernel
theorem dX5_drop_39 : decode cX5_drop 39 = .ok (.isub, 1) := by decide +kernel
theorem dX5_drop_40 : decode cX5_drop 40 = .ok (.iastore, 1) := by decide +kernel
theorem dX5_drop_41 : decode cX5_drop 41 = .ok (.aload_n 0, 1) := by decide +kernel
theorem dX5_drop_42 : decode cX5_drop 42 = .ok (.getfield 28, 3) := by decide +kernel
theorem dX5_drop_45 : decode cX5_drop 45 = .ok (.iload_n 1, 1) := by decide +kernel
theorem dX5_drop_46 : decode cX5_drop 46 = .ok (.dup2, 1) := by decide +kernel
theorem dX5_drop_47 : decode cX5_drop 47 = .ok (.iaload, 1) := by decide +kernel
theorem dX5_drop_48 : decode cX5_drop 48 = .ok (.iload_n 3, 1) := by decide +kernel
theorem dX5_drop_49 : decode cX5_drop 49 = .ok (.iadd, 1) := by decide +kernel
theorem dX5_drop_50 : decode cX5_drop 50 = .ok (.iastore, 1) := by decide +kernel
theorem dX5_drop_51 : decode cX5_drop 51 = .ok (.iload_n 3, 1) := by decide +kernel
theorem dX5_drop_52 : decode cX5_drop 52 = .ok (.ireturn, 1) := by decide +kernel
theorem dX5_closeFurther_0 : decode cX5_closeFurther 0 = .ok (.iconst 0, 1) := by decide +kernel
theorem dX5_closeFurther_1 : decode cX5_closeFurther 1 = .ok (.istore_n 2, 1) := by decide +kernel
theorem dX5_closeFurther_2 : decode cX5_closeFurther 2 = .ok (.iconst 0, 1) := by decide +kernel
theorem dX5_closeFurther_3 : decode cX5_closeFurther 3 = .ok (.istore_n 3, 1) := by decide +kernel
theorem dX5_closeFurther_4 : decode cX5_closeFurther 4 = .ok (.iload_n 3, 1) := by decide +kernel
theorem dX5_closeFurther_5 : decode cX5_closeFurther 5 = .ok (.bipush 18, 2) := by decide +kernel
theorem dX5_closeFurther_7 : decode cX5_closeFurther 7 = .ok (.if_icmp .ge 97, 3) := by decide +kernel
theorem dX5_closeFurther_10 : decode cX5_closeFurther 10 = .ok (.aload_n 0, 1) := by decide +kernel
theorem dX5_closeFurther_11 : decode cX5_closeFurther 11 = .ok (.getfield 34, 3) := by decide +kernel
theorem dX5_closeFurther_14 : decode cX5_closeFurther 14 = .ok (.iload_n 3, 1) := by decide +kernel
theorem dX5_closeFurther_15 : decode cX5_closeFurther 15 = .ok (.iaload, 1) := by decide +kernel
theorem dX5_closeFurther_16 : decode cX5_closeFurther 16 = .ok (.ifCond .le 16, 3) := by decide +kernel
theorem dX5_closeFurther_19 : decode cX5_closeFurther 19 = .ok (.aload_n 0, 1) := by decide +kernel
theorem dX5_closeFurther_20 : decode cX5_closeFurther 20 = .ok (.getfield 34, 3) := by decide +kernel
theorem dX5_closeFurther_23 : decode cX5_closeFurther 23 = .ok (.iload_n 3, 1) := by decide +kernel
theorem dX5_closeFurther_24 : decode cX5_closeFurther 24 = .ok (.dup2, 1) := by decide +kernel
theorem dX5_closeFurther_25 : decode cX5_closeFurther 25 = .ok (.iaload, 1) := by decide +kernel
theorem dX5_closeFurther_26 : decode cX5_closeFurther 26 = .ok (.iconst 1, 1) := by decide +kernel
theorem dX5_closeFurther_27 : decode cX5_closeFurther 27 = .ok (.isub, 1) := by decide +kernel
theorem dX5_closeFurther_28 : decode cX5_closeFurther 28 = .ok (.iastore, 1) := by decide +kernel
theorem dX5_closeFurther_29 : decode cX5_closeFurther 29 = .ok (.goto 69, 3) := by decide +kernel
theorem dX5_closeFurther_32 : decode cX5_closeFurther 32 = .ok (.aload_n 0, 1) := by decide +kernel
theorem dX5_closeFurther_33 : decode cX5_closeFurther 33 = .ok (.getfield 34, 3) := by decide +kernel
theorem dX5_closeFurther_36 : decode cX5_closeFurther 36 = .ok (.iload_n 3, 1) := by decide +kernel
theorem dX5_closeFurther_37 : decode cX5_closeFurther 37 = .ok (.iaload, 1) := by decide +kernel
theorem dX5_closeFurther_38 : decode cX5_closeFurther 38 = .ok (.ifCond .ne 60, 3) := by decide +kernel
theorem dX5_closeFurther_41 : decode cX5_closeFurther 41 = .ok (.aload_n 0, 1) := by decide +kernel
theorem dX5_closeFurther_42 : decode cX5_closeFurther 42 = .ok (.getfield 24, 3) := by decide +kernel
theorem dX5_closeFurther_45 : decode cX5_closeFurther 45 = .ok (.iload_n 3, 1) := by decide +kernel
theorem dX5_closeFurther_46 : decode cX5_closeFurther 46 = .ok (.iconst 3, 1) := by decide +kernel
theorem dX5_closeFurther_47 : decode cX5_closeFurther 47 = .ok (.idiv, 1) := by decide +kernel
theorem dX5_closeFurther_48 : decode cX5_closeFurther 48 = .ok (.iaload, 1) := by decide +kernel
theorem dX5_closeFurther_49 : decode cX5_closeFurther 49 = .ok (.iload_n 1, 1) := by decide +kernel
theorem dX5_closeFurther_50 : decode cX5_closeFurther 50 = .ok (.if_icmp .le 7, 3) := by decide +kernel
theorem dX5_closeFurther_53 : decode cX5_closeFurther 53 = .ok (.iconst 1, 1) := by decide +kernel
theorem dX5_closeFurther_54 : decode cX5_closeFurther 54 = .ok (.goto 4, 3) := by decide +kernel
theorem dX5_closeFurther_57 : decode cX5_closeFurther 57 = .ok (.iconst 0, 1) := by decide +kernel
theorem dX5_closeFurther_58 : decode cX5_closeFurther 58 = .ok (.istore 4, 2) := by decide +kernel
theorem dX5_closeFurther_60 : decode cX5_closeFurther 60 = .ok (.aload_n 0, 1) := by decide +kernel
theorem dX5_closeFurther_61 : decode cX5_closeFurther 61 = .ok (.getfield 31, 3) := by decide +kernel
theorem dX5_closeFurther_64 : decode cX5_closeFurther 64 = .ok (.iload_n 3, 1) := by decide +kernel
theorem dX5_closeFurther_65 : decode cX5_closeFurther 65 = .ok (.iload 4, 2) := by decide +kernel
theorem dX5_closeFurther_67 : decode cX5_closeFurther 67 = .ok (.ifCond .eq 7, 3) := by decide +kernel
theorem dX5_closeFurther_70 : decode cX5_closeFurther 70 = .ok (.iconst 1, 1) := by decide +kernel
theorem dX5_closeFurther_71 : decode cX5_closeFurther 71 = .ok (.goto 4, 3) := by decide +kernel
theorem dX5_closeFurther_74 : decode cX5_closeFurther 74 = .ok (.iconst 0, 1) := by decide +kernel
theorem dX5_closeFurther_75 : decode cX5_closeFurther 75 = .ok (.iastore, 1) := by decide +kernel
theorem dX5_closeFurther_76 : decode cX5_closeFurther 76 = .ok (.aload_n 0, 1) := by decide +kernel
theorem dX5_closeFurther_77 : decode cX5_closeFurther 77 = .ok (.getfield 34, 3) := by decide +kernel
theorem dX5_closeFurther_80 : decode cX5_closeFurther 80 = .ok (.iload_n 3, 1) := by decide +kernel
theorem dX5_closeFurther_81 : decode cX5_closeFurther 81 = .ok (.sipush (-1001), 3) := by decide +kernel
theorem dX5_closeFurther_84 : decode cX5_closeFurther 84 = .ok (.iastore, 1) := by decide +kernel
theorem dX5_closeFurther_85 : decode cX5_closeFurther 85 = .ok (.iload_n 2, 1) := by decide +kernel
theorem dX5_closeFurther_86 : decode cX5_closeFurther 86 = .ok (.iload 4, 2) := by decide +kernel
theorem dX5_closeFurther_88 : decode cX5_closeFurther 88 = .ok (.ifCond .eq 7, 3) := by decide +kernel
theorem dX5_closeFurther_91 : decode cX5_closeFurther 91 = .ok (.iconst 1, 1) := by decide +kernel
theorem dX5_closeFurther_92 : decode cX5_closeFurther 92 = .ok (.goto 4, 3) := by decide +kernel
theorem dX5_closeFurther_95 : decode cX5_closeFurther 95 = .ok (.iconst 0, 1) := by decide +kernel
theorem dX5_closeFurther_96 : decode cX5_closeFurther 96 = .ok (.iadd, 1) := by decide +kernel
theorem dX5_closeFurther_97 : decode cX5_closeFurther 97 = .ok (.istore_n 2, 1) := by decide +kernel
theorem dX5_closeFurther_98 : decode cX5_closeFurther 98 = .ok (.iinc 3 1, 3) := by decide +kernel
theorem dX5_closeFurther_101 : decode cX5_closeFurther 101 = .ok (.goto (-97), 3) := by decide +kernel
theorem dX5_closeFurther_104 : decode cX5_closeFurther 104 = .ok (.iload_n 2, 1) := by decide +kernel
theorem dX5_closeFurther_105 : decode cX5_closeFurther 105 = .ok (.ireturn, 1) := by decide +kernel
theorem dX6_init_0 : decode cX6_init 0 = .ok (.aload_n 0, 1) := by decide +kernel
theorem dX6_init_1 : decode cX6_init 1 = .ok (.invokespecial 1, 3) := by decide +kernel
theorem dX6_init_4 : decode cX6_init 4 = .ok (.aload_n 0, 1) := by decide +kernel
theorem dX6_init_5 : decode cX6_init 5 = .ok (.new 7, 3) := by decide +kernel
theorem dX6_init_8 : decode cX6_init 8 = .ok (.dup, 1) := by decide +kernel
theorem dX6_init_9 : decode cX6_init 9 = .ok (.invokespecial 9, 3) := by decide +kernel
theorem dX6_init_12 : decode cX6_init 12 = .ok (.putfield 10, 3) := by decide +kernel
theorem dX6_init_15 : decode cX6_init 15 = .ok (.aload_n 0, 1) := by decide +kernel
theorem dX6_init_16 : decode cX6_init 16 = .ok (.new 16, 3) := by decide +kernel
theorem dX6_init_19 : decode cX6_init 19 = .ok (.dup, 1) := by decide +kernel
theorem dX6_init_20 : decode cX6_init 20 = .ok (.invokespecial 18, 3) := by decide +kernel
theorem dX6_init_23 : decode cX6_init 23 = .ok (.putfield 19, 3) := by decide +kernel
theorem dX6_init_26 : decode cX6_init 26 = .ok (.aload_n 0, 1) := by decide +kernel
theorem dX6_init_27 : decode cX6_init 27 = .ok (.new 16, 3) := by decide +kernel
theorem dX6_init_30 : decode cX6_init 30 = .ok (.dup, 1) := by decide +kernel
theorem dX6_init_31 : decode cX6_init 31 = .ok (.invokespecial 18, 3) := by decide +kernel
theorem dX6_init_34 : decode cX6_init 34 = .ok (.putfield 23, 3) := by decide +kernel
theorem dX6_init_37 : decode cX6_init 37 = .ok (.aload_n 0, 1) := by decide +kernel
theorem dX6_init_38 : decode cX6_init 38 = .ok (.new 26, 3) := by decide +kernel
theorem dX6_init_41 : decode cX6_init 41 = .ok (.dup, 1) := by decide +kernel
theorem dX6_init_42 : decode cX6_init 42 = .ok (.invokespecial 28, 3) := by decide +kernel
theorem dX6_init_45 : decode cX6_init 45 = .ok (.putfield 29, 3) := by decide +kernel
theorem dX6_init_48 : decode cX6_init 48 = .ok (.return_, 1) := by decide +kernel
theorem dX6_set_0 : decode cX6_set 0 = .ok (.iload_n 1, 1) := by decide +kernel
theorem dX6_set_1 : decode cX6_set 1 = .ok (.iconst 0, 1) := by decide +kernel
theorem dX6_set_2 : decode cX6_set 2 = .ok (.iconst 4, 1) := by decide +kernel
theorem dX6_set_3 : decode cX6_set 3 = .ok (.invokestatic 33, 3) := by decide +kernel
theorem dX6_set_6 : decode cX6_set 6 = .ok (.ifCond .eq 20, 3) := by decide +kernel
theorem dX6_set_9 : decode cX6_set 9 = .ok (.iload_n 2, 1) := by decide +kernel
theorem dX6_set_10 : decode cX6_set 10 = .ok (.getstatic 51, 3) := by decide +kernel
theorem dX6_set_13 : decode cX6_set 13 = .ok (.iload_n 1, 1) := by decide +kernel
theorem dX6_set_14 : decode cX6_set 14 = .ok (.iaload, 1) := by decide +kernel
theorem dX6_set_15 : decode cX6_set 15 = .ok (.getstatic 55, 3) := by decide +kernel
theorem dX6_set_18 : decode cX6_set 18 = .ok (.iload_n 1, 1) := by decide +kernel
theorem dX6_set_19 : decode cX6_set 19 = .ok (.iaload, 1) := by decide +kernel
theorem dX6_set_20 : decode cX6_set 20 = .ok (.invokestatic 33, 3) := by decide +kernel
theorem dX6_set_23 : decode cX6_set 23 = .ok (.ifCond .ne 7, 3) := by decide +kernel
theorem dX6_set_26 : decode cX6_set 26 = .ok (.sipush (-1002), 3) := by decide +kernel
theorem dX6_set_29 : decode cX6_set 29 = .ok (.ireturn, 1) := by decide +kernel
theorem dX6_set_30 : decode cX6_set 30 = .ok (.aload_n 0, 1) := by decide +kernel
theorem dX6_set_31 : decode cX6_set 31 = .ok (.getfield 29, 3) := by decide +kernel
theorem dX6_set_34 : decode cX6_set 34 = .ok (.aload_n 0, 1) := by decide +kernel
theorem dX6_set_35 : decode cX6_set 35 = .ok (.getfield 19, 3) := by decide +kernel
theorem dX6_set_38 : decode cX6_set 38 = .ok (.invokevirtual 58, 3) := by decide +kernel
theorem dX6_set_41 : decode cX6_set 41 = .ok (.aload_n 0, 1) := by decide +kernel
theorem dX6_set_42 : decode cX6_set 42 = .ok (.getfield 19, 3) := by decide +kernel
theorem dX6_set_45 : decode cX6_set 45 = .ok (.getfield 62, 3) := by decide +kernel
theorem dX6_set_48 : decode cX6_set 48 = .ok (.iload_n 1, 1) := by decide +kernel
theorem dX6_set_49 : decode cX6_set 49 = .ok (.iaload, 1) := by decide +kernel
theorem dX6_set_50 : decode cX6_set 50 = .ok (.istore_n 3, 1) := by decide +kernel
theorem dX6_set_51 : decode cX6_set 51 = .ok (.aload_n 0, 1) := by decide +kernel
theorem dX6_set_52 : decode cX6_set 52 = .ok (.getfield 19, 3) := by decide +kernel
theorem dX6_set_55 : decode cX6_set 55 = .ok (.getfield 62, 3) := by decide +kernel
theorem dX6_set_58 : decode cX6_set 58 = .ok (.iload_n 1, 1) := by decide +kernel
theorem dX6_set_59 : decode cX6_set 59 = .ok (.iload_n 2, 1) := by decide +kernel
theorem dX6_set_60 : decode cX6_set 60 = .ok (.iastore, 1) := by decide +kernel
theorem dX6_set_61 : decode cX6_set 61 = .ok (.iload_n 3, 1) := by decide +kernel
theorem dX6_set_62 : decode cX6_set 62 = .ok (.ireturn, 1) := by decide +kernel
theorem dX6_setTrain_0 : decode cX6_setTrain 0 = .ok (.iload_n 1, 1) := by decide +kernel
theorem dX6_setTrain_1 : decode cX6_setTrain 1 = .ok (.iconst 1, 1) := by decide +kernel
theorem dX6_setTrain_2 : decode cX6_setTrain 2 = .ok (.bipush 6, 2) := by decide +kernel
theorem dX6_setTrain_4 : decode cX6_setTrain 4 = .ok (.invokestatic 33, 3) := by decide +kernel
theorem dX6_setTrain_7 : decode cX6_setTrain 7 = .ok (.ifCond .ne 7, 3) := by decide +kernel
theorem dX6_setTrain_10 : decode cX6_setTrain 10 = .ok (.sipush (-1002), 3) := by decide +kernel
theorem dX6_setTrain_13 : decode cX6_setTrain 13 = .ok (.ireturn, 1) := by decide +kernel
theorem dX6_setTrain_14 : decode cX6_setTrain 14 = .ok (.aload_n 0, 1) := by decide +kernel
theorem dX6_setTrain_15 : decode cX6_setTrain 15 = .ok (.getfield 29, 3) := by decide +kernel
theorem dX6_setTrain_18 : decode cX6_setTrain 18 = .ok (.aload_n 0, 1) := by decide +kernel
theorem dX6_setTrain_19 : decode cX6_setTrain 19 = .ok (.getfield 19, 3) := by decide +kernel
theorem dX6_setTrain_22 : decode cX6_setTrain 22 = .ok (.invokevirtual 58, 3) := by decide +kernel
theorem dX6_setTrain_25 : decode cX6_setTrain 25 = .ok (.aload_n 0, 1) := by decide +kernel
theorem dX6_setTrain_26 : decode cX6_setTrain 26 = .ok (.getfield 19, 3) := by decide +kernel
theorem dX6_setTrain_29 : decode cX6_setTrain 29 = .ok (.getfield 65, 3) := by decide +kernel
theorem dX6_setTrain_32 : decode cX6_setTrain 32 = .ok (.invokevirtual 69, 3) := by decide +kernel
theorem dX6_setTrain_35 : decode cX6_setTrain 35 = .ok (.istore_n 2, 1) := by decide +kernel
theorem dX6_setTrain_36 : decode cX6_setTrain 36 = .ok (.aload_n 0, 1) := by decide +kernel
theorem dX6_setTrain_37 : decode cX6_setTrain 37 = .ok (.getfield 19, 3) := by decide +kernel
theorem dX6_setTrain_40 : decode cX6_setTrain 40 = .ok (.getfield 65, 3) := by decide +kernel
theorem dX6_setTrain_43 : decode cX6_setTrain 43 = .ok (.iload_n 1, 1) := by decide +kernel
theorem dX6_setTrain_44 : decode cX6_setTrain 44 = .ok (.invokevirtual 75, 3) := by decide +kernel
theorem dX6_setTrain_47 : decode cX6_setTrain 47 = .ok (.aload_n 0, 1) := by decide +kernel
theorem dX6_setTrain_48 : decode cX6_setTrain 48 = .ok (.getfield 19, 3) := by decide +kernel
theorem dX6_setTrain_51 : decode cX6_setTrain 51 = .ok (.dup, 1) := by decide +kernel
theorem dX6_setTrain_52 : decode cX6_setTrain 52 = .ok (.getfield 79, 3) := by decide +kernel
theorem dX6_setTrain_55 : decode cX6_setTrain 55 = .ok (.iload_n 2, 1) := by decide +kernel
theorem dX6_setTrain_56 : decode cX6_setTrain 56 = .ok (.iadd, 1) := by decide +kernel
theorem dX6_setTrain_57 : decode cX6_setTrain 57 = .ok (.putfield 79, 3) := by decide +kernel
theorem dX6_setTrain_60 : decode cX6_setTrain 60 = .ok (.iload_n 2, 1) := by decide +kernel
theorem dX6_setTrain_61 : decode cX6_setTrain 61 = .ok (.ireturn, 1) := by decide +kernel
theorem dX6_load_0 : decode cX6_load 0 = .ok (.aload_n 0, 1) := by decide +kernel
theorem dX6_load_1 : decode cX6_load 1 = .ok (.getfield 19, 3) := by decide +kernel
theorem dX6_load_4 : decode cX6_load 4 = .ok (.getfield 65, 3) := by decide +kernel
theorem dX6_load_7 : decode cX6_load 7 = .ok (.iload_n 1, 1) := by decide +kernel
theorem dX6_load_8 : decode cX6_load 8 = .ok (.invokevirtual 82, 3) := by decide +kernel
theorem dX6_load_11 : decode cX6_load 11 = .ok (.ifCond .eq 14, 3) := by decide +kernel
theorem dX6_load_14 : decode cX6_load 14 = .ok (.iload_n 2, 1) := by decide +kernel
theorem dX6_load_15 : decode cX6_load 15 = .ok (.iconst 1, 1) := by decide +kernel
theorem dX6_load_16 : decode cX6_load 16 = .ok (.sipush 200, 3) := by decide +kernel
theorem dX6_load_19 : decode cX6_load 19 = .ok (.invokestatic 33, 3) := by decide +kernel
theorem dX6_load_22 : decode cX6_load 22 = .ok (.ifCond .ne 7, 3) := by decide +kernel
theorem dX6_load_25 : decode cX6_load 25 = .ok (.sipush (-1002), 3) := by decide +kernel
theorem dX6_load_28 : decode cX6_load 28 = .ok (.ireturn, 1) := by decide +kernel
theorem dX6_load_29 : decode cX6_load 29 = .ok (.aload_n 0, 1) := by decide +kernel
theorem dX6_load_30 : decode cX6_load 30 = .ok (.getfield 19, 3) := by decide +kernel
theorem dX6_load_33 : decode cX6_load 33 = .ok (.getfield 65, 3) := by decide +kernel
theorem dX6_load_36 : decode cX6_load 36 = .ok (.getfield 85, 3) := by decide +kernel
theorem dX6_load_39 : decode cX6_load 39 = .ok (.ifCond .eq 7, 3) := by decide +kernel
theorem dX6_load_42 : decode cX6_load 42 = .ok (.sipush (-1003), 3) := by decide +kernel
theorem dX6_load_45 : decode cX6_load 45 = .ok (.ireturn, 1) := by decide +kernel
theorem dX6_load_46 : decode cX6_load 46 = .ok (.aload_n 0, 1) := by decide +kernel
theorem dX6_load_47 : decode cX6_load 47 = .ok (.getfield 19, 3) := by decide +kernel
theorem dX6_load_50 : decode cX6_load 50 = .ok (.getfield 65, 3) := by decide +kernel
theorem dX6_load_53 : decode cX6_load 53 = .ok (.getfield 88, 3) := by decide +kernel
theorem dX6_load_56 : decode cX6_load 56 = .ok (.iload_n 1, 1) := by decide +kernel
theorem dX6_load_57 : decode cX6_load 57 = .ok (.iaload, 1) := by decide +kernel
theorem dX6_load_58 : decode cX6_load 58 = .ok (.iload_n 2, 1) := by decide +kernel
theorem dX6_load_59 : decode cX6_load 59 = .ok (.iadd, 1) := by decide +kernel
theorem dX6_load_60 : decode cX6_load 60 = .ok (.sipush 200, 3) := by decide +kernel
theorem dX6_load_63 : decode cX6_load 63 = .ok (.if_icmp .le 7, 3) := by decide +kernel
theorem dX6_load_66 : decode cX6_load 66 = .ok (.sipush (-1004), 3) := by decide +kernel
theorem dX6_load_69 : decode cX6_load 69 = .ok (.ireturn, 1) := by decide +kernel
theorem dX6_load_70 : decode cX6_load 70 = .ok (.aload_n 0, 1) := by decide +kernel
theorem dX6_load_71 : decode cX6_load 71 = .ok (.getfield 29, 3) := by decide +kernel
theorem dX6_load_74 : decode cX6_load 74 = .ok (.aload_n 0, 1) := by decide +kernel
theorem dX6_load_75 : decode cX6_load 75 = .ok (.getfield 19, 3) := by decide +kernel
theorem dX6_load_78 : decode cX6_load 78 = .ok (.invokevirtual 58, 3) := by decide +kernel
theorem dX6_load_81 : decode cX6_load 81 = .ok (.aload_n 0, 1) := by decide +kernel
theorem dX6_load_82 : decode cX6_load 82 = .ok (.getfield 19, 3) := by decide +kernel
theorem dX6_load_85 : decode cX6_load 85 = .ok (.getfield 65, 3) := by decide +kernel
theorem dX6_load_88 : decode cX6_load 88 = .ok (.getfield 88, 3) := by decide +kernel
theorem dX6_load_91 : decode cX6_load 91 = .ok (.iload_n 1, 1) := by decide +kernel
theorem dX6_load_92 : decode cX6_load 92 = .ok (.dup2, 1) := by decide +kernel
theorem dX6_load_93 : decode cX6_load 93 = .ok (.iaload, 1) := by decide +kernel
theorem dX6_load_94 : decode cX6_load 94 = .ok (.iload_n 2, 1) := by decide +kernel
theorem dX6_load_95 : decode cX6_load 95 = .ok (.iadd, 1) := by decide +kernel
theorem dX6_load_96 : decode cX6_load 96 = .ok (.iastore, 1) := by decide +kernel
theorem dX6_load_97 : decode cX6_load 97 = .ok (.aload_n 0, 1) := by decide +kernel
theorem dX6_load_98 : decode cX6_load 98 = .ok (.getfield 19, 3) := by decide +kernel
theorem dX6_load_101 : decode cX6_load 101 = .ok (.dup, 1) := by decide +kernel
theorem dX6_load_102 : decode cX6_load 102 = .ok (.getfield 91, 3) := by decide +kernel
theorem dX6_load_105 : decode cX6_load 105 = .ok (.iload_n 2, 1) := by decide +kernel
theorem dX6_load_106 : decode cX6_load 106 = .ok (.iadd, 1) := by decide +kernel
theorem dX6_load_107 : decode cX6_load 107 = .ok (.putfield 91, 3) := by decide +kernel
theorem dX6_load_110 : decode cX6_load 110 = .ok (.aload_n 0, 1) := by decide +kernel
theorem dX6_load_111 : decode cX6_load 111 = .ok (.getfield 19, 3) := by decide +kernel
theorem dX6_load_114 : decode cX6_load 114 = .ok (.getfield 65, 3) := by decide +kernel
theorem dX6_load_117 : decode cX6_load 117 = .ok (.getfield 88, 3) := by decide +kernel
theorem dX6_load_120 : decode cX6_load 120 = .ok (.iload_n 1, 1) := by decide +kernel
theorem dX6_load_121 : decode cX6_load 121 = .ok (.iaload, 1) := by decide +kernel
theorem dX6_load_122 : decode cX6_load 122 = .ok (.ireturn, 1) := by decide +kernel
theorem dX6_door_0 : decode cX6_door 0 = .ok (.aload_n 0, 1) := by decide +kernel
theorem dX6_door_1 : decode cX6_door 1 = .ok (.getfield 19, 3) := by decide +kernel
theorem dX6_door_4 : decode cX6_door 4 = .ok (.getfield 65, 3) := by decide +kernel
theorem dX6_door_7 : decode cX6_door 7 = .ok (.iload_n 1, 1) := by decide +kernel
theorem dX6_door_8 : decode cX6_door 8 = .ok (.iload_n 2, 1) := by decide +kernel
theorem dX6_door_9 : decode cX6_door 9 = .ok (.invokevirtual 94, 3) := by decide +kernel
theorem dX6_door_12 : decode cX6_door 12 = .ok (.ifCond .eq 12, 3) := by decide +kernel
theorem dX6_door_15 : decode cX6_door 15 = .ok (.iload_n 3, 1) := by decide +kernel
theorem dX6_door_16 : decode cX6_door 16 = .ok (.iconst 0, 1) := by decide +kernel
theorem dX6_door_17 : decode cX6_door 17 = .ok (.iconst 3, 1) := by decide +kernel
theorem dX6_door_18 : decode cX6_door 18 = .ok (.invokestatic 33, 3) := by decide +kernel
theorem dX6_door_21 : decode cX6_door 21 = .ok (.ifCond .ne 7, 3) := by decide +kernel
theorem dX6_door_24 : decode cX6_door 24 = .ok (.sipush (-1002), 3) := by decide +kernel
theorem dX6_door_27 : decode cX6_door 27 = .ok (.ireturn, 1) := by decide +kernel
theorem dX6_door_28 : decode cX6_door 28 = .ok (.aload_n 0, 1) := by decide +kernel
theorem dX6_door_29 : decode cX6_door 29 = .ok (.getfield 29, 3) := by decide +kernel
theorem dX6_door_32 : decode cX6_door 32 = .ok (.aload_n 0, 1) := by decide +kernel
theorem dX6_door_33 : decode cX6_door 33 = .ok (.getfield 19, 3) := by decide +kernel
theorem dX6_door_36 : decode cX6_door 36 = .ok (.invokevirtual 58, 3) := by decide +kernel
theorem dX6_door_39 : decode cX6_door 39 = .ok (.aload_n 0, 1) := by decide +kernel
theorem dX6_door_40 : decode cX6_door 40 = .ok (.getfield 19, 3) := by decide +kernel
theorem dX6_door_43 : decode cX6_door 43 = .ok (.getfield 65, 3) := by decide +kernel
theorem dX6_door_46 : decode cX6_door 46 = .ok (.iload_n 1, 1) := by decide +kernel
theorem dX6_door_47 : decode cX6_door 47 = .ok (.iload_n 2, 1) := by decide +kernel
theorem dX6_door_48 : decode cX6_door 48 = .ok (.invokevirtual 98, 3) := by decide +kernel
theorem dX6_door_51 : decode cX6_door 51 = .ok (.istore 4, 2) := by decide +kernel
theorem dX6_door_53 : decode cX6_door 53 = .ok (.iload_n 3, 1) := by decide +kernel
theorem dX6_door_54 : decode cX6_door 54 = .ok (.ifCond .ne 27, 3) := by decide +kernel
theorem dX6_door_57 : decode cX6_door 57 = .ok (.aload_n 0, 1) := by decide +kernel
theorem dX6_door_58 : decode cX6_door 58 = .ok (.getfield 19, 3) := by decide +kernel
theorem dX6_door_61 : decode cX6_door 61 = .ok (.getfield 65, 3) := by decide +kernel
theorem dX6_door_64 : decode cX6_door 64 = .ok (.iload_n 1, 1) := by decide +kernel
theorem dX6_door_65 : decode cX6_door 65 = .ok (.iload_n 2, 1) := by decide +kernel
theorem dX6_door_66 : decode cX6_door 66 = .ok (.aload_n 0, 1) := by decide +kernel
theorem dX6_door_67 : decode cX6_door 67 = .ok (.getfield 19, 3) := by decide +kernel
theorem dX6_door_70 : decode cX6_door 70 = .ok (.getfield 62, 3) := by decide +kernel
theorem dX6_door_73 : decode cX6_door 73 = .ok (.iconst 2, 1) := by decide +kernel
theorem dX6_door_74 : decode cX6_door 74 = .ok (.iaload, 1) := by decide +kernel
theorem dX6_door_75 : decode cX6_door 75 = .ok (.invokevirtual 102, 3) := by decide +kernel
theorem dX6_door_78 : decode cX6_door 78 = .ok (.goto 16, 3) := by decide +kernel
theorem dX6_door_81 : decode cX6_door 81 = .ok (.aload_n 0, 1) := by decide +kernel
theorem dX6_door_82 : decode cX6_door 82 = .ok (.getfield 19, 3) := by decide +kernel
theorem dX6_door_85 : decode cX6_door 85 = .ok (.getfield 65, 3) := by decide +kernel
theorem dX6_door_88 : decode cX6_door 88 = .ok (.iload_n 1, 1) := by decide +kernel
theorem dX6_door_89 : decode cX6_door 89 = .ok (.iload_n 2, 1) := by decide +kernel
theorem dX6_door_90 : decode cX6_door 90 = .ok (.iload_n 3, 1) := by decide +kernel
theorem dX6_door_91 : decode cX6_door 91 = .ok (.invokevirtual 106, 3) := by decide +kernel
theorem dX6_door_94 : decode cX6_door 94 = .ok (.iload 4, 2) := by decide +kernel
theorem dX6_door_96 : decode cX6_door 96 = .ok (.ireturn, 1) := by decide +kernel
theorem dX6_wish_0 : decode cX6_wish 0 = .ok (.iload_n 1, 1) := by decide +kernel
theorem dX6_wish_1 : decode cX6_wish 1 = .ok (.iconst 0, 1) := by decide +kernel
theorem dX6_wish_2 : decode cX6_wish 2 = .ok (.iconst 3, 1) := by decide +kernel
theorem dX6_wish_3 : decode cX6_wish 3 = .ok (.invokestatic 33, 3) := by decide +kernel
theorem dX6_wish_6 : decode cX6_wish 6 = .ok (.ifCond .ne 7, 3) := by decide +kernel
theorem dX6_wish_9 : decode cX6_wish 9 = .ok (.sipush (-1002), 3) := by decide +kernel
theorem dX6_wish_12 : decode cX6_wish 12 = .ok (.ireturn, 1) := by decide +kernel
theorem dX6_wish_13 : decode cX6_wish 13 = .ok (.aload_n 0, 1) := by decide +kernel
theorem dX6_wish_14 : decode cX6_wish 14 = .ok (.getfield 29, 3) := by decide +kernel
theorem dX6_wish_17 : decode cX6_wish 17 = .ok (.aload_n 0, 1) := by decide +kernel
theorem dX6_wish_18 : decode cX6_wish 18 = .ok (.getfield 19, 3) := by decide +kernel
theorem dX6_wish_21 : decode cX6_wish 21 = .ok (.invokevirtual 58, 3) := by decide +kernel
theorem dX6_wish_24 : decode cX6_wish 24 = .ok (.aload_n 0, 1) := by decide +kernel
theorem dX6_wish_25 : decode cX6_wish 25 = .ok (.getfield 19, 3) := by decide +kernel
theorem dX6_wish_28 : decode cX6_wish 28 = .ok (.getfield 65, 3) := by decide +kernel
theorem dX6_wish_31 : decode cX6_wish 31 = .ok (.getfield 109, 3) := by decide +kernel
theorem dX6_wish_34 : decode cX6_wish 34 = .ok (.istore_n 2, 1) := by decide +kernel
theorem dX6_wish_35 : decode cX6_wish 35 = .ok (.aload_n 0, 1) := by decide +kernel
theorem dX6_wish_36 : decode cX6_wish 36 = .ok (.getfield 19, 3) := by decide +kernel
theorem dX6_wish_39 : decode cX6_wish 39 = .ok (.getfield 65, 3) := by decide +kernel
theorem dX6_wish_42 : decode cX6_wish 42 = .ok (.iload_n 1, 1) := by decide +kernel
theorem dX6_wish_43 : decode cX6_wish 43 = .ok (.putfield 109, 3) := by decide +kernel
theorem dX6_wish_46 : decode cX6_wish 46 = .ok (.iload_n 2, 1) := by decide +kernel
theorem dX6_wish_47 : decode cX6_wish 47 = .ok (.ireturn, 1) := by decide +kernel
theorem dX6_cancel_0 : decode cX6_cancel 0 = .ok (.iload_n 1, 1) := by decide +kernel
theorem dX6_cancel_1 : decode cX6_cancel 1 = .ok (.ifCond .lt 17, 3) := by decide +kernel
theorem dX6_cancel_4 : decode cX6_cancel 4 = .ok (.iload_n 1, 1) := by decide +kernel
theorem dX6_cancel_5 : decode cX6_cancel 5 = .ok (.aload_n 0, 1) := by decide +kernel
theorem dX6_cancel_6 : decode cX6_cancel 6 = .ok (.getfield 19, 3) := by decide +kernel
theorem dX6_cancel_9 : decode cX6_cancel 9 = .ok (.getfield 112, 3) := by decide +kernel
theorem dX6_cancel_12 : decode cX6_cancel 12 = .ok (.invokevirtual 116, 3) := by decide +kernel
theorem dX6_cancel_15 : decode cX6_cancel 15 = .ok (.if_icmp .lt 7, 3) := by decide +kernel
theorem dX6_cancel_18 : decode cX6_cancel 18 = .ok (.sipush (-1002), 3) := by decide +kernel
theorem dX6_cancel_21 : decode cX6_cancel 21 = .ok (.ireturn, 1) := by decide +kernel
theorem dX6_cancel_22 : decode cX6_cancel 22 = .ok (.aload_n 0, 1) := by decide +kernel
theorem dX6_cancel_23 : decode cX6_cancel 23 = .ok (.getfield 29, 3) := by decide +kernel
theorem dX6_cancel_26 : decode cX6_cancel 26 = .ok (.aload_n 0, 1) := by decide +kernel
theorem dX6_cancel_27 : decode cX6_cancel 27 = .ok (.getfield 19, 3) := by decide +kernel
theorem dX6_cancel_30 : decode cX6_cancel 30 = .ok (.invokevirtual 58, 3) := by decide +kernel
theorem dX6_cancel_33 : decode cX6_cancel 33 = .ok (.aload_n 0, 1) := by decide +kernel
theorem dX6_cancel_34 : decode cX6_cancel 34 = .ok (.getfield 19, 3) := by decide +kernel
theorem dX6_cancel_37 : decode cX6_cancel 37 = .ok (.getfield 112, 3) := by decide +kernel
theorem dX6_cancel_40 : decode cX6_cancel 40 = .ok (.iload_n 1, 1) := by decide +kernel
theorem dX6_cancel_41 : decode cX6_cancel 41 = .ok (.invokevirtual 126, 3) := by decide +kernel
theorem dX6_cancel_44 : decode cX6_cancel 44 = .ok (.pop, 1) := by decide +kernel
theorem dX6_cancel_45 : decode cX6_cancel 45 = .ok (.aload_n 0, 1) := by decide +kernel
theorem dX6_cancel_46 : decode cX6_cancel 46 = .ok (.getfield 19, 3) := by decide +kernel
theorem dX6_cancel_49 : decode cX6_cancel 49 = .ok (.getfield 112, 3) := by decide +kernel
theorem dX6_cancel_52 : decode cX6_cancel 52 = .ok (.invokevirtual 116, 3) := by decide +kernel
theorem dX6_cancel_55 : decode cX6_cancel 55 = .ok (.ireturn, 1) := by decide +kernel
theorem dX6_pass_0 : decode cX6_pass 0 = .ok (.iload_n 1, 1) := by decide +kernel
theorem dX6_pass_1 : decode cX6_pass 1 = .ok (.iconst 1, 1) := by decide +kernel
theorem dX6_pass_2 : decode cX6_pass 2 = .ok (.sipush 200, 3) := by decide +kernel
theorem dX6_pass_5 : decode cX6_pass 5 = .ok (.invokestatic 33, 3) := by decide +kernel
theorem dX6_pass_8 : decode cX6_pass 8 = .ok (.ifCond .ne 7, 3) := by decide +kernel
theorem dX6_pass_11 : decode cX6_pass 11 = .ok (.sipush (-1002), 3) := by decide +kernel
theorem dX6_pass_14 : decode cX6_pass 14 = .ok (.ireturn, 1) := by decide +kernel
theorem dX6_pass_15 : decode cX6_pass 15 = .ok (.aload_n 0, 1) := by decide +kernel
theorem dX6_pass_16 : decode cX6_pass 16 = .ok (.getfield 19, 3) := by decide +kernel
theorem dX6_pass_19 : decode cX6_pass 19 = .ok (.getfield 130, 3) := by decide +kernel
theorem dX6_pass_22 : decode cX6_pass 22 = .ok (.iload_n 1, 1) := by decide +kernel
theorem dX6_pass_23 : decode cX6_pass 23 = .ok (.iadd, 1) := by decide +kernel
theorem dX6_pass_24 : decode cX6_pass 24 = .ok (.sipush 9999, 3) := by decide +kernel
theorem dX6_pass_27 : decode cX6_pass 27 = .ok (.if_icmp .le 7, 3) := by decide +kernel
theorem dX6_pass_30 : decode cX6_pass 30 = .ok (.sipush (-1004), 3) := by decide +kernel
theorem dX6_pass_33 : decode cX6_pass 33 = .ok (.ireturn, 1) := by decide +kernel
theorem dX6_pass_34 : decode cX6_pass 34 = .ok (.aload_n 0, 1) := by decide +kernel
theorem dX6_pass_35 : decode cX6_pass 35 = .ok (.getfield 29, 3) := by decide +kernel
theorem dX6_pass_38 : decode cX6_pass 38 = .ok (.aload_n 0, 1) := by decide +kernel
theorem dX6_pass_39 : decode cX6_pass 39 = .ok (.getfield 19, 3) := by decide +kernel
theorem dX6_pass_42 : decode cX6_pass 42 = .ok (.invokevirtual 58, 3) := by decide +kernel
theorem dX6_pass_45 : decode cX6_pass 45 = .ok (.iconst 0, 1) := by decide +kernel
theorem dX6_pass_46 : decode cX6_pass 46 = .ok (.istore_n 2, 1) := by decide +kernel
theorem dX6_pass_47 : decode cX6_pass 47 = .ok (.iload_n 2, 1) := by decide +kernel
theorem dX6_pass_48 : decode cX6_pass 48 = .ok (.iload_n 1, 1) := by decide +kernel
theorem dX6_pass_49 : decode cX6_pass 49 = .ok (.if_icmp .ge 16, 3) := by decide +kernel
theorem dX6_pass_52 : decode cX6_pass 52 = .ok (.aload_n 0, 1) := by decide +kernel
theorem dX6_pass_53 : decode cX6_pass 53 = .ok (.getfield 19, 3) := by decide +kernel
theorem dX6_pass_56 : decode cX6_pass 56 = .ok (.invokevirtual 133, 3) := by decide +kernel
theorem dX6_pass_59 : decode cX6_pass 59 = .ok (.iinc 2 1, 3) := by decide +kernel
theorem dX6_pass_62 : decode cX6_pass 62 = .ok (.goto (-15), 3) := by decide +kernel
theorem dX6_pass_65 : decode cX6_pass 65 = .ok (.aload_n 0, 1) := by decide +kernel
theorem dX6_pass_66 : decode cX6_pass 66 = .ok (.getfield 19, 3) := by decide +kernel
theorem dX6_pass_69 : decode cX6_pass 69 = .ok (.getfield 65, 3) := by decide +kernel
theorem dX6_pass_72 : decode cX6_pass 72 = .ok (.getfield 136, 3) := by decide +kernel
theorem dX6_pass_75 : decode cX6_pass 75 = .ok (.ireturn, 1) := by decide +kernel
theorem dX6_scrape_0 : decode cX6_scrape 0 = .ok (.iload_n 1, 1) := by decide +kernel
theorem dX6_scrape_1 : decode cX6_scrape 1 = .ok (.iload_n 2, 1) := by decide +kernel
theorem dX6_scrape_2 : decode cX6_scrape 2 = .ok (.invokestatic 139, 3) := by decide +kernel
theorem dX6_scrape_5 : decode cX6_scrape 5 = .ok (.ifCond .eq 13, 3) := by decide +kernel
theorem dX6_scrape_8 : decode cX6_scrape 8 = .ok (.iload_n 3, 1) := by decide +kernel
theorem dX6_scrape_9 : decode cX6_scrape 9 = .ok (.iconst 1, 1) := by decide +kernel
theorem dX6_scrape_10 : decode cX6_scrape 10 = .ok (.bipush 60, 2) := by decide +kernel
theorem dX6_scrape_12 : decode cX6_scrape 12 = .ok (.invokestatic 33, 3) := by decide +kernel
theorem dX6_scrape_15 : decode cX6_scrape 15 = .ok (.ifCond .ne 7, 3) := by decide +kernel
theorem dX6_scrape_18 : decode cX6_scrape 18 = .ok (.sipush (-1002), 3) := by decide +kernel
theorem dX6_scrape_21 : decode cX6_scrape 21 = .ok (.ireturn, 1) := by decide +kernel
theorem dX6_scrape_22 : decode cX6_scrape 22 = .ok (.aload_n 0, 1) := by decide +kernel
theorem dX6_scrape_23 : decode cX6_scrape 23 = .ok (.getfield 29, 3) := by decide +kernel
theorem dX6_scrape_26 : decode cX6_scrape 26 = .ok (.aload_n 0, 1) := by decide +kernel
theorem dX6_scrape_27 : decode cX6_scrape 27 = .ok (.getfield 19, 3) := by decide +kernel
theorem dX6_scrape_30 : decode cX6_scrape 30 = .ok (.invokevirtual 58, 3) := by decide +kernel
theorem dX6_scrape_33 : decode cX6_scrape 33 = .ok (.iload_n 3, 1) := by decide +kernel
theorem dX6_scrape_34 : decode cX6_scrape 34 = .ok (.aload_n 0, 1) := by decide +kernel
theorem dX6_scrape_35 : decode cX6_scrape 35 = .ok (.getfield 19, 3) := by decide +kernel
theorem dX6_scrape_38 : decode cX6_scrape 38 = .ok (.getfield 144, 3) := by decide +kernel
theorem dX6_scrape_41 : decode cX6_scrape 41 = .ok (.iload_n 1, 1) := by decide +kernel
theorem dX6_scrape_42 : decode cX6_scrape 42 = .ok (.iload_n 2, 1) := by decide +kernel
theorem dX6_scrape_43 : decode cX6_scrape 43 = .ok (.invokevirtual 148, 3) := by decide +kernel
theorem dX6_scrape_46 : decode cX6_scrape 46 = .ok (.invokestatic 151, 3) := by decide +kernel
theorem dX6_scrape_49 : decode cX6_scrape 49 = .ok (.istore 4, 2) := by decide +kernel
theorem dX6_scrape_51 : decode cX6_scrape 51 = .ok (.aload_n 0, 1) := by decide +kernel
theorem dX6_scrape_52 : decode cX6_scrape 52 = .ok (.getfield 19, 3) := by decide +kernel
theorem dX6_scrape_55 : decode cX6_scrape 55 = .ok (.getfield 144, 3) := by decide +kernel
theorem dX6_scrape_58 : decode cX6_scrape 58 = .ok (.iload_n 1, 1) := by decide +kernel
theorem dX6_scrape_59 : decode cX6_scrape 59 = .ok (.iload_n 2, 1) := by decide +kernel
theorem dX6_scrape_60 : decode cX6_scrape 60 = .ok (.iload 4, 2) := by decide +kernel
theorem dX6_scrape_62 : decode cX6_scrape 62 = .ok (.ineg, 1) := by decide +kernel
theorem dX6_scrape_63 : decode cX6_scrape 63 = .ok (.invokevirtual 156, 3) := by decide +kernel
theorem dX6_scrape_66 : decode cX6_scrape 66 = .ok (.aload_n 0, 1) := by decide +kernel
theorem dX6_scrape_67 : decode cX6_scrape 67 = .ok (.getfield 19, 3) := by decide +kernel
theorem dX6_scrape_70 : decode cX6_scrape 70 = .ok (.dup, 1) := by decide +kernel
theorem dX6_scrape_71 : decode cX6_scrape 71 = .ok (.getfield 79, 3) := by decide +kernel
theorem dX6_scrape_74 : decode cX6_scrape 74 = .ok (.iload 4, 2) := by decide +kernel
theorem dX6_scrape_76 : decode cX6_scrape 76 = .ok (.iadd, 1) := by decide +kernel
theorem dX6_scrape_77 : decode cX6_scrape 77 = .ok (.putfield 79, 3) := by decide +kernel
theorem dX6_scrape_80 : decode cX6_scrape 80 = .ok (.iload 4, 2) := by decide +kernel
theorem dX6_scrape_82 : decode cX6_scrape 82 = .ok (.ireturn, 1) := by decide +kernel
theorem dX6_undo_0 : decode cX6_undo 0 = .ok (.aload_n 0, 1) := by decide +kernel
theorem dX6_undo_1 : decode cX6_undo 1 = .ok (.getfield 29, 3) := by decide +kernel
theorem dX6_undo_4 : decode cX6_undo 4 = .ok (.getfield 159, 3) := by decide +kernel
theorem dX6_undo_7 : decode cX6_undo 7 = .ok (.ifCond .ne 7, 3) := by decide +kernel
theorem dX6_undo_10 : decode cX6_undo 10 = .ok (.sipush (-1003), 3) := by decide +kernel
theorem dX6_undo_13 : decode cX6_undo 13 = .ok (.ireturn, 1) := by decide +kernel
theorem dX6_undo_14 : decode cX6_undo 14 = .ok (.aload_n 0, 1) := by decide +kernel
theorem dX6_undo_15 : decode cX6_undo 15 = .ok (.getfield 29, 3) := by decide +kernel
theorem dX6_undo_18 : decode cX6_undo 18 = .ok (.aload_n 0, 1) := by decide +kernel
theorem dX6_undo_19 : decode cX6_undo 19 = .ok (.getfield 19, 3) := by decide +kernel
theorem dX6_undo_22 : decode cX6_undo 22 = .ok (.invokevirtual 161, 3) := by decide +kernel
theorem dX6_undo_25 : decode cX6_undo 25 = .ok (.aload_n 0, 1) := by decide +kernel
theorem dX6_undo_26 : decode cX6_undo 26 = .ok (.getfield 29, 3) := by decide +kernel
theorem dX6_undo_29 : decode cX6_undo 29 = .ok (.getfield 159, 3) := by decide +kernel
theorem dX6_undo_32 : decode cX6_undo 32 = .ok (.ireturn, 1) := by decide +kernel
theorem dX6_wagon_0 : decode cX6_wagon 0 = .ok (.aload_n 0, 1) := by decide +kernel
theorem dX6_wagon_1 : decode cX6_wagon 1 = .ok (.getfield 19, 3) := by decide +kernel
theorem dX6_wagon_4 : decode cX6_wagon 4 = .ok (.getfield 65, 3) := by decide +kernel
theorem dX6_wagon_7 : decode cX6_wagon 7 = .ok (.iload_n 1, 1) := by decide +kernel
theorem dX6_wagon_8 : decode cX6_wagon 8 = .ok (.invokevirtual 82, 3) := by decide +kernel
theorem dX6_wagon_11 : decode cX6_wagon 11 = .ok (.ifCond .ne 7, 3) := by decide +kernel
theorem dX6_wagon_14 : decode cX6_wagon 14 = .ok (.sipush (-1002), 3) := by decide +kernel
theorem dX6_wagon_17 : decode cX6_wagon 17 = .ok (.ireturn, 1) := by decide +kernel
theorem dX6_wagon_18 : decode cX6_wagon 18 = .ok (.iload_n 2, 1) := by decide +kernel
theorem dX6_wagon_19 : decode cX6_wagon 19 = .ok (.tableswitch 95 0 4 #[33, 46, 58, 70, 82], 33) := by decide +kernel
theorem dX6_wagon_52 : decode cX6_wagon 52 = .ok (.aload_n 0, 1) := by decide +kernel
theorem dX6_wagon_53 : decode cX6_wagon 53 = .ok (.getfield 19, 3) := by decide +kernel
theorem dX6_wagon_56 : decode cX6_wagon 56 = .ok (.getfield 65, 3) := by decide +kernel
theorem dX6_wagon_59 : decode cX6_wagon 59 = .ok (.getfield 88, 3) := by decide +kernel
theorem dX6_wagon_62 : decode cX6_wagon 62 = .ok (.iload_n 1, 1) := by decide +kernel
theorem dX6_wagon_63 : decode cX6_wagon 63 = .ok (.iaload, 1) := by decide +kernel
theorem dX6_wagon_64 : decode cX6_wagon 64 = .ok (.ireturn, 1) := by decide +kernel
theorem dX6_wagon_65 : decode cX6_wagon 65 = .ok (.aload_n 0, 1) := by decide +kernel
theorem dX6_wagon_66 : decode cX6_wagon 66 = .ok (.getfield 19, 3) := by decide +kernel
theorem dX6_wagon_69 : decode cX6_wagon 69 = .ok (.getfield 65, 3) := by decide +kernel
theorem dX6_wagon_72 : decode cX6_wagon 72 = .ok (.iload_n 1, 1) := by decide +kernel
theorem dX6_wagon_73 : decode cX6_wagon 73 = .ok (.invokevirtual 164, 3) := by decide +kernel
theorem dX6_wagon_76 : decode cX6_wagon 76 = .ok (.ireturn, 1) := by decide +kernel
theorem dX6_wagon_77 : decode cX6_wagon 77 = .ok (.aload_n 0, 1) := by decide +kernel
theorem dX6_wagon_78 : decode cX6_wagon 78 = .ok (.getfield 19, 3) := by decide +kernel
theorem dX6_wagon_81 : decode cX6_wagon 81 = .ok (.getfield 65, 3) := by decide +kernel
theorem dX6_wagon_84 : decode cX6_wagon 84 = .ok (.iload_n 1, 1) := by decide +kernel
theorem dX6_wagon_85 : decode cX6_wagon 85 = .ok (.invokevirtual 168, 3) := by decide +kernel
theorem dX6_wagon_88 : decode cX6_wagon 88 = .ok (.ireturn, 1) := by decide +kernel
theorem dX6_wagon_89 : decode cX6_wagon 89 = .ok (.aload_n 0, 1) := by decide +kernel
theorem dX6_wagon_90 : decode cX6_wagon 90 = .ok (.getfield 19, 3) := by decide +kernel
theorem dX6_wagon_93 : decode cX6_wagon 93 = .ok (.getfield 65, 3) := by decide +kernel
theorem dX6_wagon_96 : decode cX6_wagon 96 = .ok (.iload_n 1, 1) := by decide +kernel
theorem dX6_wagon_97 : decode cX6_wagon 97 = .ok (.invokevirtual 171, 3) := by decide +kernel
theorem dX6_wagon_100 : decode cX6_wagon 100 = .ok (.ireturn, 1) := by decide +kernel
theorem dX6_wagon_101 : decode cX6_wagon 101 = .ok (.aload_n 0, 1) := by decide +kernel
theorem dX6_wagon_102 : decode cX6_wagon 102 = .ok (.getfield 19, 3) := by decide +kernel
theorem dX6_wagon_105 : decode cX6_wagon 105 = .ok (.getfield 65, 3) := by decide +kernel
theorem dX6_wagon_108 : decode cX6_wagon 108 = .ok (.getfield 174, 3) := by decide +kernel
theorem dX6_wagon_111 : decode cX6_wagon 111 = .ok (.iload_n 1, 1) := by decide +kernel
theorem dX6_wagon_112 : decode cX6_wagon 112 = .ok (.iaload, 1) := by decide +kernel
theorem dX6_wagon_113 : decode cX6_wagon 113 = .ok (.ireturn, 1) := by decide +kernel
theorem dX6_wagon_114 : decode cX6_wagon 114 = .ok (.sipush (-1002), 3) := by decide +kernel
theorem dX6_wagon_117 : decode cX6_wagon 117 = .ok (.ireturn, 1) := by decide +kernel
theorem dX6_doorOf_0 : decode cX6_doorOf 0 = .ok (.aload_n 0, 1) := by decide +kernel
theorem dX6_doorOf_1 : decode cX6_doorOf 1 = .ok (.getfield 19, 3) := by decide +kernel
theorem dX6_doorOf_4 : decode cX6_doorOf 4 = .ok (.getfield 65, 3) := by decide +kernel
theorem dX6_doorOf_7 : decode cX6_doorOf 7 = .ok (.iload_n 1, 1) := by decide +kernel
theorem dX6_doorOf_8 : decode cX6_doorOf 8 = .ok (.iload_n 2, 1) := by decide +kernel
theorem dX6_doorOf_9 : decode cX6_doorOf 9 = .ok (.invokevirtual 94, 3) := by decide +kernel
theorem dX6_doorOf_12 : decode cX6_doorOf 12 = .ok (.ifCond .ne 7, 3) := by decide +kernel
theorem dX6_doorOf_15 : decode cX6_doorOf 15 = .ok (.sipush (-1002), 3) := by decide +kernel
theorem dX6_doorOf_18 : decode cX6_doorOf 18 = .ok (.ireturn, 1) := by decide +kernel
theorem dX6_doorOf_19 : decode cX6_doorOf 19 = .ok (.iload_n 3, 1) := by decide +kernel
theorem dX6_doorOf_20 : decode cX6_doorOf 20 = .ok (.lookupswitch 54 #[(0, 28), (1, 41)], 28) := by decide +kernel
theorem dX6_doorOf_48 : decode cX6_doorOf 48 = .ok (.aload_n 0, 1) := by decide +kernel
theorem dX6_doorOf_49 : decode cX6_doorOf 49 = .ok (.getfield 19, 3) := by decide +kernel
theorem dX6_doorOf_52 : decode cX6_doorOf 52 = .ok (.getfield 65, 3) := by decide +kernel
theorem dX6_doorOf_55 : decode cX6_doorOf 55 = .ok (.iload_n 1, 1) := by decide +kernel
theorem dX6_doorOf_56 : decode cX6_doorOf 56 = .ok (.iload_n 2, 1) := by decide +kernel
theorem dX6_doorOf_57 : decode cX6_doorOf 57 = .ok (.invokevirtual 98, 3) := by decide +kernel
theorem dX6_doorOf_60 : decode cX6_doorOf 60 = .ok (.ireturn, 1) := by decide +kernel
theorem dX6_doorOf_61 : decode cX6_doorOf 61 = .ok (.aload_n 0, 1) := by decide +kernel
theorem dX6_doorOf_62 : decode cX6_doorOf 62 = .ok (.getfield 19, 3) := by decide +kernel
theorem dX6_doorOf_65 : decode cX6_doorOf 65 = .ok (.getfield 65, 3) := by decide +kernel
theorem dX6_doorOf_68 : decode cX6_doorOf 68 = .ok (.iload_n 1, 1) := by decide +kernel
theorem dX6_doorOf_69 : decode cX6_doorOf 69 = .ok (.iload_n 2, 1) := by decide +kernel
theorem dX6_doorOf_70 : decode cX6_doorOf 70 = .ok (.invokevirtual 177, 3) := by decide +kernel
theorem dX6_doorOf_73 : decode cX6_doorOf 73 = .ok (.ireturn, 1) := by decide +kernel
theorem dX6_doorOf_74 : decode cX6_doorOf 74 = .ok (.sipush (-1002), 3) := by decide +kernel
theorem dX6_doorOf_77 : decode cX6_doorOf 77 = .ok (.ireturn, 1) := by decide +kernel
theorem dX6_height_0 : decode cX6_height 0 = .ok (.iload_n 1, 1) := by decide +kernel
theorem dX6_height_1 : decode cX6_height 1 = .ok (.iload_n 2, 1) := by decide +kernel
theorem dX6_height_2 : decode cX6_height 2 = .ok (.invokestatic 139, 3) := by decide +kernel
theorem dX6_height_5 : decode cX6_height 5 = .ok (.ifCond .eq 18, 3) := by decide +kernel
theorem dX6_height_8 : decode cX6_height 8 = .ok (.aload_n 0, 1) := by decide +kernel
theorem dX6_height_9 : decode cX6_height 9 = .ok (.getfield 19, 3) := by decide +kernel
theorem dX6_height_12 : decode cX6_height 12 = .ok (.getfield 144, 3) := by decide +kernel
theorem dX6_height_15 : decode cX6_height 15 = .ok (.iload_n 1, 1) := by decide +kernel
theorem dX6_height_16 : decode cX6_height 16 = .ok (.iload_n 2, 1) := by decide +kernel
theorem dX6_height_17 : decode cX6_height 17 = .ok (.invokevirtual 148, 3) := by decide +kernel
theorem dX6_height_20 : decode cX6_height 20 = .ok (.goto 6, 3) := by decide +kernel
theorem dX6_height_23 : decode cX6_height 23 = .ok (.sipush (-1002), 3) := by decide +kernel
theorem dX6_height_26 : decode cX6_height 26 = .ok (.ireturn, 1) := by decide +kernel
theorem dX6_count_0 : decode cX6_count 0 = .ok (.iload_n 1, 1) := by decide +kernel
theorem dX6_count_1 : decode cX6_count 1 = .ok (.bipush 14, 2) := by decide +kernel
theorem dX6_count_3 : decode cX6_count 3 = .ok (.bipush 18, 2) := by decide +kernel
theorem dX6_count_5 : decode cX6_count 5 = .ok (.invokestatic 33, 3) := by decide +kernel
theorem dX6_count_8 : decode cX6_count 8 = .ok (.ifCond .eq 16, 3) := by decide +kernel
theorem dX6_count_11 : decode cX6_count 11 = .ok (.aload_n 0, 1) := by decide +kernel
theorem dX6_count_12 : decode cX6_count 12 = .ok (.getfield 19, 3) := by decide +kernel
theorem dX6_count_15 : decode cX6_count 15 = .ok (.getfield 62, 3) := by decide +kernel
theorem dX6_count_18 : decode cX6_count 18 = .ok (.iload_n 1, 1) := by decide +kernel
theorem dX6_count_19 : decode cX6_count 19 = .ok (.bipush 14, 2) := by decide +kernel
theorem dX6_count_21 : decode cX6_count 21 = .ok (.isub, 1) := by decide +kernel
theorem dX6_count_22 : decode cX6_count 22 = .ok (.iaload, 1) := by decide +kernel
theorem dX6_count_23 : decode cX6_count 23 = .ok (.ireturn, 1) := by decide +kernel
theorem dX6_count_24 : decode cX6_count 24 = .ok (.iload_n 1, 1) := by decide +kernel
theorem dX6_count_25 : decode cX6_count 25 = .ok (.tableswitch 204 0 13 #[71, 82, 93, 104, 115, 123, 134, 142, 150, 161, 172, 180, 188, 196], 71) := by decide +kernel
theorem dX6_count_96 : decode cX6_count 96 = .ok (.aload_n 0, 1) := by decide +kernel
theorem dX6_count_97 : decode cX6_count 97 = .ok (.getfield 19, 3) := by decide +kernel
theorem dX6_count_100 : decode cX6_count 100 = .ok (.getfield 65, 3) := by decide +kernel
theorem dX6_count_103 : decode cX6_count 103 = .ok (.getfield 223, 3) := by decide +kernel
theorem dX6_count_106 : decode cX6_count 106 = .ok (.ireturn, 1) := by decide +kernel
theorem dX6_count_107 : decode cX6_count 107 = .ok (.aload_n 0, 1) := by decide +kernel
theorem dX6_count_108 : decode cX6_count 108 = .ok (.getfield 19, 3) := by decide +kernel
theorem dX6_count_111 : decode cX6_count 111 = .ok (.getfield 65, 3) := by decide +kernel
theorem dX6_count_114 : decode cX6_count 114 = .ok (.getfield 136, 3) := by decide +kernel
theorem dX6_count_117 : decode cX6_count 117 = .ok (.ireturn, 1) := by decide +kernel
theorem dX6_count_118 : decode cX6_count 118 = .ok (.aload_n 0, 1) := by decide +kernel
theorem dX6_count_119 : decode cX6_count 119 = .ok (.getfield 19, 3) := by decide +kernel
theorem dX6_count_122 : decode cX6_count 122 = .ok (.getfield 65, 3) := by decide +kernel
theorem dX6_count_125 : decode cX6_count 125 = .ok (.getfield 85, 3) := by decide +kernel
theorem dX6_count_128 : decode cX6_count 128 = .ok (.ireturn, 1) := by decide +kernel
theorem dX6_count_129 : decode cX6_count 129 = .ok (.aload_n 0, 1) := by decide +kernel
theorem dX6_count_130 : decode cX6_count 130 = .ok (.getfield 19, 3) := by decide +kernel
theorem dX6_count_133 : decode cX6_count 133 = .ok (.getfield 65, 3) := by decide +kernel
theorem dX6_count_136 : decode cX6_count 136 = .ok (.getfield 109, 3) := by decide +kernel
theorem dX6_count_139 : decode cX6_count 139 = .ok (.ireturn, 1) := by decide +kernel
theorem dX6_count_140 : decode cX6_count 140 = .ok (.aload_n 0, 1) := by decide +kernel
theorem dX6_count_141 : decode cX6_count 141 = .ok (.getfield 19, 3) := by decide +kernel
theorem dX6_count_144 : decode cX6_count 144 = .ok (.getfield 130, 3) := by decide +kernel
theorem dX6_count_147 : decode cX6_count 147 = .ok (.ireturn, 1) := by decide +kernel
theorem dX6_count_148 : decode cX6_count 148 = .ok (.aload_n 0, 1) := by decide +kernel
theorem dX6_count_149 : decode cX6_count 149 = .ok (.getfield 19, 3) := by decide +kernel
theorem dX6_count_152 : decode cX6_count 152 = .ok (.getfield 112, 3) := by decide +kernel
theorem dX6_count_155 : decode cX6_count 155 = .ok (.invokevirtual 116, 3) := by decide +kernel
theorem dX6_count_158 : decode cX6_count 158 = .ok (.ireturn, 1) := by decide +kernel
theorem dX6_count_159 : decode cX6_count 159 = .ok (.aload_n 0, 1) := by decide +kernel
theorem dX6_count_160 : decode cX6_count 160 = .ok (.getfield 19, 3) := by decide +kernel
theorem dX6_count_163 : decode cX6_count 163 = .ok (.getfield 226, 3) := by decide +kernel
theorem dX6_count_166 : decode cX6_count 166 = .ok (.ireturn, 1) := by decide +kernel
theorem dX6_count_167 : decode cX6_count 167 = .ok (.aload_n 0, 1) := by decide +kernel
theorem dX6_count_168 : decode cX6_count 168 = .ok (.getfield 19, 3) := by decide +kernel
theorem dX6_count_171 : decode cX6_count 171 = .ok (.getfield 91, 3) := by decide +kernel
theorem dX6_count_174 : decode cX6_count 174 = .ok (.ireturn, 1) := by decide +kernel
theorem dX6_count_175 : decode cX6_count 175 = .ok (.aload_n 0, 1) := by decide +kernel
theorem dX6_count_176 : decode cX6_count 176 = .ok (.getfield 19, 3) := by decide +kernel
theorem dX6_count_179 : decode cX6_count 179 = .ok (.getfield 65, 3) := by decide +kernel
theorem dX6_count_182 : decode cX6_count 182 = .ok (.invokevirtual 69, 3) := by decide +kernel
theorem dX6_count_185 : decode cX6_count 185 = .ok (.ireturn, 1) := by decide +kernel
theorem dX6_count_186 : decode cX6_count 186 = .ok (.aload_n 0, 1) := by decide +kernel
theorem dX6_count_187 : decode cX6_count 187 = .ok (.getfield 19, 3) := by decide +kernel
theorem dX6_count_190 : decode cX6_count 190 = .ok (.getfield 144, 3) := by decide +kernel
theorem dX6_count_193 : decode cX6_count 193 = .ok (.invokevirtual 229, 3) := by decide +kernel
theorem dX6_count_196 : decode cX6_count 196 = .ok (.ireturn, 1) := by decide +kernel
theorem dX6_count_197 : decode cX6_count 197 = .ok (.aload_n 0, 1) := by decide +kernel
theorem dX6_count_198 : decode cX6_count 198 = .ok (.getfield 19, 3) := by decide +kernel
theorem dX6_count_201 : decode cX6_count 201 = .ok (.getfield 230, 3) := by decide +kernel
theorem dX6_count_204 : decode cX6_count 204 = .ok (.ireturn, 1) := by decide +kernel
theorem dX6_count_205 : decode cX6_count 205 = .ok (.aload_n 0, 1) := by decide +kernel
theorem dX6_count_206 : decode cX6_count 206 = .ok (.getfield 19, 3) := by decide +kernel
theorem dX6_count_209 : decode cX6_count 209 = .ok (.getfield 79, 3) := by decide +kernel
theorem dX6_count_212 : decode cX6_count 212 = .ok (.ireturn, 1) := by decide +kernel
theorem dX6_count_213 : decode cX6_count 213 = .ok (.aload_n 0, 1) := by decide +kernel
theorem dX6_count_214 : decode cX6_count 214 = .ok (.getfield 29, 3) := by decide +kernel
theorem dX6_count_217 : decode cX6_count 217 = .ok (.getfield 159, 3) := by decide +kernel
theorem dX6_count_220 : decode cX6_count 220 = .ok (.ireturn, 1) := by decide +kernel
theorem dX6_count_221 : decode cX6_count 221 = .ok (.aload_n 0, 1) := by decide +kernel
theorem dX6_count_222 : decode cX6_count 222 = .ok (.getfield 10, 3) := by decide +kernel
theorem dX6_count_225 : decode cX6_count 225 = .ok (.getfield 41, 3) := by decide +kernel
theorem dX6_count_228 : decode cX6_count 228 = .ok (.ireturn, 1) := by decide +kernel
theorem dX6_count_229 : decode cX6_count 229 = .ok (.sipush (-1002), 3) := by decide +kernel
theorem dX6_count_232 : decode cX6_count 232 = .ok (.ireturn, 1) := by decide +kernel
theorem dX6_isWithin_0 : decode cX6_isWithin 0 = .ok (.iload_n 0, 1) := by decide +kernel
theorem dX6_isWithin_1 : decode cX6_isWithin 1 = .ok (.iload_n 1, 1) := by decide +kernel
theorem dX6_isWithin_2 : decode cX6_isWithin 2 = .ok (.if_icmp .lt 12, 3) := by decide +kernel
theorem dX6_isWithin_5 : decode cX6_isWithin 5 = .ok (.iload_n 0, 1) := by decide +kernel
theorem dX6_isWithin_6 : decode cX6_isWithin 6 = .ok (.iload_n 2, 1) := by decide +kernel
theorem dX6_isWithin_7 : decode cX6_isWithin 7 = .ok (.if_icmp .gt 7, 3) := by decide +kernel
theorem dX6_isWithin_10 : decode cX6_isWithin 10 = .ok (.iconst 1, 1) := by decide +kernel
theorem dX6_isWithin_11 : decode cX6_isWithin 11 = .ok (.goto 4, 3) := by decide +kernel
theorem dX6_isWithin_14 : decode cX6_isWithin 14 = .ok (.iconst 0, 1) := by decide +kernel
theorem dX6_isWithin_15 : decode cX6_isWithin 15 = .ok (.ireturn, 1) := by decide +kernel
theorem dX6_sum_0 : decode cX6_sum 0 = .ok (.iconst 0, 1) := by decide +kernel
theorem dX6_sum_1 : decode cX6_sum 1 = .ok (.istore_n 1, 1) := by decide +kernel
theorem dX6_sum_2 : decode cX6_sum 2 = .ok (.aload_n 0, 1) := by decide +kernel
theorem dX6_sum_3 : decode cX6_sum 3 = .ok (.astore_n 2, 1) := by decide +kernel
theorem dX6_sum_4 : decode cX6_sum 4 = .ok (.aload_n 2, 1) := by decide +kernel
theorem dX6_sum_5 : decode cX6_sum 5 = .ok (.arraylength, 1) := by decide +kernel
theorem dX6_sum_6 : decode cX6_sum 6 = .ok (.istore_n 3, 1) := by decide +kernel
theorem dX6_sum_7 : decode cX6_sum 7 = .ok (.iconst 0, 1) := by decide +kernel
theorem dX6_sum_8 : decode cX6_sum 8 = .ok (.istore 4, 2) := by decide +kernel
theorem dX6_sum_10 : decode cX6_sum 10 = .ok (.iload 4, 2) := by decide +kernel
theorem dX6_sum_12 : decode cX6_sum 12 = .ok (.iload_n 3, 1) := by decide +kernel
theorem dX6_sum_13 : decode cX6_sum 13 = .ok (.if_icmp .ge 20, 3) := by decide +kernel
theorem dX6_sum_16 : decode cX6_sum 16 = .ok (.aload_n 2, 1) := by decide +kernel
theorem dX6_sum_17 : decode cX6_sum 17 = .ok (.iload 4, 2) := by decide +kernel
theorem dX6_sum_19 : decode cX6_sum 19 = .ok (.iaload, 1) := by decide +kernel
theorem dX6_sum_20 : decode cX6_sum 20 = .ok (.istore 5, 2) := by decide +kernel
theorem dX6_sum_22 : decode cX6_sum 22 = .ok (.iload_n 1, 1) := by decide +kernel
theorem dX6_sum_23 : decode cX6_sum 23 = .ok (.iload 5, 2) := by decide +kernel
theorem dX6_sum_25 : decode cX6_sum 25 = .ok (.iadd, 1) := by decide +kernel
theorem dX6_sum_26 : decode cX6_sum 26 = .ok (.istore_n 1, 1) := by decide +kernel
theorem dX6_sum_27 : decode cX6_sum 27 = .ok (.iinc 4 1, 3) := by decide +kernel
theorem dX6_sum_30 : decode cX6_sum 30 = .ok (.goto (-20), 3) := by decide +kernel
theorem dX6_sum_33 : decode cX6_sum 33 = .ok (.iload_n 1, 1) := by decide +kernel
theorem dX6_sum_34 : decode cX6_sum 34 = .ok (.ireturn, 1) := by decide +kernel
theorem dX6_copyRow_0 : decode cX6_copyRow 0 = .ok (.aload_n 0, 1) := by decide +kernel
theorem dX6_copyRow_1 : decode cX6_copyRow 1 = .ok (.iconst 0, 1) := by decide +kernel
theorem dX6_copyRow_2 : decode cX6_copyRow 2 = .ok (.aload_n 1, 1) := by decide +kernel
theorem dX6_copyRow_3 : decode cX6_copyRow 3 = .ok (.iconst 0, 1) := by decide +kernel
theorem dX6_copyRow_4 : decode cX6_copyRow 4 = .ok (.aload_n 0, 1) := by decide +kernel
theorem dX6_copyRow_5 : decode cX6_copyRow 5 = .ok (.arraylength, 1) := by decide +kernel
theorem dX6_copyRow_6 : decode cX6_copyRow 6 = .ok (.aload_n 1, 1) := by decide +kernel
theorem dX6_copyRow_7 : decode cX6_copyRow 7 = .ok (.arraylength, 1) := by decide +kernel
theorem dX6_copyRow_8 : decode cX6_copyRow 8 = .ok (.invokestatic 151, 3) := by decide +kernel
theorem dX6_copyRow_11 : decode cX6_copyRow 11 = .ok (.invokestatic 279, 3) := by decide +kernel
theorem dX6_copyRow_14 : decode cX6_copyRow 14 = .ok (.return_, 1) := by decide +kernel
theorem dX6_addAll_0 : decode cX6_addAll 0 = .ok (.iconst 0, 1) := by decide +kernel
theorem dX6_addAll_1 : decode cX6_addAll 1 = .ok (.istore_n 2, 1) := by decide +kernel
theorem dX6_addAll_2 : decode cX6_addAll 2 = .ok (.iload_n 2, 1) := by decide +kernel
theorem dX6_addAll_3 : decode cX6_addAll 3 = .ok (.aload_n 0, 1) := by decide +kernel
theorem dX6_addAll_4 : decode cX6_addAll 4 = .ok (.invokevirtual 116, 3) := by decide +kernel
theorem dX6_addAll_7 : decode cX6_addAll 7 = .ok (.if_icmp .ge 22, 3) := by decide +kernel
theorem dX6_addAll_10 : decode cX6_addAll 10 = .ok (.aload_n 1, 1) := by decide +kernel
theorem dX6_addAll_11 : decode cX6_addAll 11 = .ok (.aload_n 0, 1) := by decide +kernel
theorem dX6_addAll_12 : decode cX6_addAll 12 = .ok (.iload_n 2, 1) := by decide +kernel
theorem dX6_addAll_13 : decode cX6_addAll 13 = .ok (.invokevirtual 203, 3) := by decide +kernel
theorem dX6_addAll_16 : decode cX6_addAll 16 = .ok (.checkcast 206, 3) := by decide +kernel
theorem dX6_addAll_19 : decode cX6_addAll 19 = .ok (.invokevirtual 285, 3) := by decide +kernel
theorem dX6_addAll_22 : decode cX6_addAll 22 = .ok (.pop, 1) := by decide +kernel
theorem dX6_addAll_23 : decode cX6_addAll 23 = .ok (.iinc 2 1, 3) := by decide +kernel
theorem dX6_addAll_26 : decode cX6_addAll 26 = .ok (.goto (-24), 3) := by decide +kernel
theorem dX6_addAll_29 : decode cX6_addAll 29 = .ok (.return_, 1) := by decide +kernel
theorem dJ9_floorMod_7cf53_0 : decode cJ9_floorMod_7cf53 0 = .ok (.iload_n 0, 1) := by decide +kernel
theorem dJ9_floorMod_7cf53_1 : decode cJ9_floorMod_7cf53 1 = .ok (.iload_n 1, 1) := by decide +kernel
theorem dJ9_floorMod_7cf53_2 : decode cJ9_floorMod_7cf53 2 = .ok (.irem, 1) := by decide +kernel
theorem dJ9_floorMod_7cf53_3 : decode cJ9_floorMod_7cf53 3 = .ok (.istore_n 2, 1) := by decide +kernel
theorem dJ9_floorMod_7cf53_4 : decode cJ9_floorMod_7cf53 4 = .ok (.iload_n 0, 1) := by decide +kernel
theorem dJ9_floorMod_7cf53_5 : decode cJ9_floorMod_7cf53 5 = .ok (.iload_n 1, 1) := by decide +kernel
theorem dJ9_floorMod_7cf53_6 : decode cJ9_floorMod_7cf53 6 = .ok (.ixor, 1) := by decide +kernel
theorem dJ9_floorMod_7cf53_7 : decode cJ9_floorMod_7cf53 7 = .ok (.ifCond .ge 11, 3) := by decide +kernel
theorem dJ9_floorMod_7cf53_10 : decode cJ9_floorMod_7cf53 10 = .ok (.iload_n 2, 1) := by decide +kernel
theorem dJ9_floorMod_7cf53_11 : decode cJ9_floorMod_7cf53 11 = .ok (.ifCond .eq 7, 3) := by decide +kernel
theorem dJ9_floorMod_7cf53_14 : decode cJ9_floorMod_7cf53 14 = .ok (.iload_n 2, 1) := by decide +kernel
theorem dJ9_floorMod_7cf53_15 : decode cJ9_floorMod_7cf53 15 = .ok (.iload_n 1, 1) := by decide +kernel
theorem dJ9_floorMod_7cf53_16 : decode cJ9_floorMod_7cf53 16 = .ok (.iadd, 1) := by decide +kernel
theorem dJ9_floorMod_7cf53_17 : decode cJ9_floorMod_7cf53 17 = .ok (.ireturn, 1) := by decide +kernel
theorem dJ9_floorMod_7cf53_18 : decode cJ9_floorMod_7cf53 18 = .ok (.iload_n 2, 1) := by decide +kernel
theorem dJ9_floorMod_7cf53_19 : decode cJ9_floorMod_7cf53 19 = .ok (.ireturn, 1) := by decide +kernel
theorem dJ9_max_7cf53_0 : decode cJ9_max_7cf53 0 = .ok (.iload_n 0, 1) := by decide +kernel
theorem dJ9_max_7cf53_1 : decode cJ9_max_7cf53 1 = .ok (.iload_n 1, 1) := by decide +kernel
theorem dJ9_max_7cf53_2 : decode cJ9_max_7cf53 2 = .ok (.if_icmp .lt 7, 3) := by decide +kernel
theorem dJ9_max_7cf53_5 : decode cJ9_max_7cf53 5 = .ok (.iload_n 0, 1) := by decide +kernel
theorem dJ9_max_7cf53_6 : decode cJ9_max_7cf53 6 = .ok (.goto 4, 3) := by decide +kernel
theorem dJ9_max_7cf53_9 : decode cJ9_max_7cf53 9 = .ok (.iload_n 1, 1) := by decide +kernel
theorem dJ9_max_7cf53_10 : decode cJ9_max_7cf53 10 = .ok (.ireturn, 1) := by decide +kernel
theorem dJ9_min_7cf53_0 : decode cJ9_min_7cf53 0 = .ok (.iload_n 0, 1) := by decide +kernel
theorem dJ9_min_7cf53_1 : decode cJ9_min_7cf53 1 = .ok (.iload_n 1, 1) := by decide +kernel
theorem dJ9_min_7cf53_2 : decode cJ9_min_7cf53 2 = .ok (.if_icmp .gt 7, 3) := by decide +kernel
theorem dJ9_min_7cf53_5 : decode cJ9_min_7cf53 5 = .ok (.iload_n 0, 1) := by decide +kernel
theorem dJ9_min_7cf53_6 : decode cJ9_min_7cf53 6 = .ok (.goto 4, 3) := by decide +kernel
theorem dJ9_min_7cf53_9 : decode cJ9_min_7cf53 9 = .ok (.iload_n 1, 1) := by decide +kernel
theorem dJ9_min_7cf53_10 : decode cJ9_min_7cf53 10 = .ok (.ireturn, 1) := by decide +kernel
theorem dJxa1e45_init_da8c8_0 : decode cJxa1e45_init_da8c8 0 = .ok (.aload_n 0, 1) := by decide +kernel
theorem dJxa1e45_init_da8c8_1 : decode cJxa1e45_init_da8c8 1 = .ok (.invokespecial 1, 3) := by decide +kernel
theorem dJxa1e45_init_da8c8_4 : decode cJxa1e45_init_da8c8 4 = .ok (.return_, 1) := by decide +kernel
theorem dJxc12de_init_da8c8_0 : decode cJxc12de_init_da8c8 0 = .ok (.aload_n 0, 1) := by decide +kernel
theorem dJxc12de_init_da8c8_1 : decode cJxc12de_init_da8c8 1 = .ok (.invokespecial 1, 3) := by decide +kernel
theorem dJxc12de_init_da8c8_4 : decode cJxc12de_init_da8c8 4 = .ok (.aload_n 0, 1) := by decide +kernel
theorem dJxc12de_init_da8c8_5 : decode cJxc12de_init_da8c8 5 = .ok (.iconst 0, 1) := by decide +kernel
theorem dJxc12de_init_da8c8_6 : decode cJxc12de_init_da8c8 6 = .ok (.putfield 7, 3) := by decide +kernel
theorem dJxc12de_init_da8c8_9 : decode cJxc12de_init_da8c8 9 = .ok (.return_, 1) := by decide +kernel
theorem dJx4a65c_init_da8c8_0 : decode cJx4a65c_init_da8c8 0 = .ok (.aload_n 0, 1) := by decide +kernel
theorem dJx4a65c_init_da8c8_1 : decode cJx4a65c_init_da8c8 1 = .ok (.invokespecial 1, 3) := by decide +kernel
theorem dJx4a65c_init_da8c8_4 : decode cJx4a65c_init_da8c8 4 = .ok (.aload_n 0, 1) := by decide +kernel
theorem dJx4a65c_init_da8c8_5 : decode cJx4a65c_init_da8c8 5 = .ok (.getstatic 39, 3) := by decide +kernel
theorem dJx4a65c_init_da8c8_8 : decode cJx4a65c_init_da8c8 8 = .ok (.putfield 9, 3) := by decide +kernel
theorem dJx4a65c_init_da8c8_11 : decode cJx4a65c_init_da8c8 11 = .ok (.return_, 1) := by decide +kernel
theorem dJx4a65c_grow_92f84_0 : decode cJx4a65c_grow_92f84 0 = .ok (.aload_n 0, 1) := by decide +kernel
theorem dJx4a65c_grow_92f84_1 : decode cJx4a65c_grow_92f84 1 = .ok (.getfield 9, 3) := by decide +kernel
theorem dJx4a65c_grow_92f84_4 : decode cJx4a65c_grow_92f84 4 = .ok (.arraylength, 1) := by decide +kernel
theorem dJx4a65c_grow_92f84_5 : decode cJx4a65c_grow_92f84 5 = .ok (.istore_n 2, 1) := by decide +kernel
theorem dJx4a65c_grow_92f84_6 : decode cJx4a65c_grow_92f84 6 = .ok (.iload_n 2, 1) := by decide +kernel
theorem dJx4a65c_grow_92f84_7 : decode cJx4a65c_grow_92f84 7 = .ok (.ifCond .gt 13, 3) := by decide +kernel
theorem dJx4a65c_grow_92f84_10 : decode cJx4a65c_grow_92f84 10 = .ok (.aload_n 0, 1) := by decide +kernel
theorem dJx4a65c_grow_92f84_11 : decode cJx4a65c_grow_92f84 11 = .ok (.getfield 9, 3) := by decide +kernel
theorem dJx4a65c_grow_92f84_14 : decode cJx4a65c_grow_92f84 14 = .ok (.getstatic 39, 3) := by decide +kernel
theorem dJx4a65c_grow_92f84_17 : decode cJx4a65c_grow_92f84 17 = .ok (.if_acmp .eq 28, 3) := by decide +kernel
theorem dJx4a65c_grow_92f84_20 : decode cJx4a65c_grow_92f84 20 = .ok (.iload_n 2, 1) := by decide +kernel
theorem dJx4a65c_grow_92f84_21 : decode cJx4a65c_grow_92f84 21 = .ok (.iload_n 1, 1) := by decide +kernel
theorem dJx4a65c_grow_92f84_22 : decode cJx4a65c_grow_92f84 22 = .ok (.iload_n 2, 1) := by decide +kernel
theorem dJx4a65c_grow_92f84_23 : decode cJx4a65c_grow_92f84 23 = .ok (.isub, 1) := by decide +kernel
theorem dJx4a65c_grow_92f84_24 : decode cJx4a65c_grow_92f84 24 = .ok (.iload_n 2, 1) := by decide +kernel
theorem dJx4a65c_grow_92f84_25 : decode cJx4a65c_grow_92f84 25 = .ok (.iconst 1, 1) := by decide +kernel
theorem dJx4a65c_grow_92f84_26 : decode cJx4a65c_grow_92f84 26 = .ok (.ishr, 1) := by decide +kernel
theorem dJx4a65c_grow_92f84_27 : decode cJx4a65c_grow_92f84 27 = .ok (.invokestatic 73, 3) := by decide +kernel
theorem dJx4a65c_grow_92f84_30 : decode cJx4a65c_grow_92f84 30 = .ok (.istore_n 3, 1) := by decide +kernel
theorem dJx4a65c_grow_92f84_31 : decode cJx4a65c_grow_92f84 31 = .ok (.aload_n 0, 1) := by decide +kernel
theorem dJx4a65c_grow_92f84_32 : decode cJx4a65c_grow_92f84 32 = .ok (.aload_n 0, 1) := by decide +kernel
theorem dJx4a65c_grow_92f84_33 : decode cJx4a65c_grow_92f84 33 = .ok (.getfield 9, 3) := by decide +kernel
theorem dJx4a65c_grow_92f84_36 : decode cJx4a65c_grow_92f84 36 = .ok (.iload_n 3, 1) := by decide +kernel
theorem dJx4a65c_grow_92f84_37 : decode cJx4a65c_grow_92f84 37 = .ok (.invokestatic 66, 3) := by decide +kernel
theorem dJx4a65c_grow_92f84_40 : decode cJx4a65c_grow_92f84 40 = .ok (.dup_x1, 1) := by decide +kernel
theorem dJx4a65c_grow_92f84_41 : decode cJx4a65c_grow_92f84 41 = .ok (.putfield 9, 3) := by decide +kernel
theorem dJx4a65c_grow_92f84_44 : decode cJx4a65c_grow_92f84 44 = .ok (.areturn, 1) := by decide +kernel
theorem dJx4a65c_grow_92f84_45 : decode cJx4a65c_grow_92f84 45 = .ok (.aload_n 0, 1) := by decide +kernel
theorem dJx4a65c_grow_92f84_46 : decode cJx4a65c_grow_92f84 46 = .ok (.bipush 10, 2) := by decide +kernel
theorem dJx4a65c_grow_92f84_48 : decode cJx4a65c_grow_92f84 48 = .ok (.iload_n 1, 1) := by decide +kernel
theorem dJx4a65c_grow_92f84_49 : decode cJx4a65c_grow_92f84 49 = .ok (.invokestatic 79, 3) := by decide +kernel
theorem dJx4a65c_grow_92f84_52 : decode cJx4a65c_grow_92f84 52 = .ok (.anewarray 7, 3) := by decide +kernel
theorem dJx4a65c_grow_92f84_55 : decode cJx4a65c_grow_92f84 55 = .ok (.dup_x1, 1) := by decide +kernel
theorem dJx4a65c_grow_92f84_56 : decode cJx4a65c_grow_92f84 56 = .ok (.putfield 9, 3) := by decide +kernel
theorem dJx4a65c_grow_92f84_59 : decode cJx4a65c_grow_92f84 59 = .ok (.areturn, 1) := by decide +kernel
theorem dJx4a65c_grow_d5877_0 : decode cJx4a65c_grow_d5877 0 = .ok (.aload_n 0, 1) := by decide +kernel
theorem dJx4a65c_grow_d5877_1 : decode cJx4a65c_grow_d5877 1 = .ok (.aload_n 0, 1) := by decide +kernel
theorem dJx4a65c_grow_d5877_2 : decode cJx4a65c_grow_d5877 2 = .ok (.getfield 48, 3) := by decide +kernel
theorem dJx4a65c_grow_d5877_5 : decode cJx4a65c_grow_d5877 5 = .ok (.iconst 1, 1) := by decide +kernel
theorem dJx4a65c_grow_d5877_6 : decode cJx4a65c_grow_d5877 6 = .ok (.iadd, 1) := by decide +kernel
theorem dJx4a65c_grow_d5877_7 : decode cJx4a65c_grow_d5877 7 = .ok (.invokevirtual 69, 3) := by decide +kernel
theorem dJx4a65c_grow_d5877_10 : decode cJx4a65c_grow_d5877 10 = .ok (.areturn, 1) := by decide +kernel
theorem dJx4a65c_size_8abf5_0 : decode cJx4a65c_size_8abf5 0 = .ok (.aload_n 0, 1) := by decide +kernel
theorem dJx4a65c_size_8abf5_1 : decode cJx4a65c_size_8abf5 1 = .ok (.getfield 48, 3) := by decide +kernel
theorem dJx4a65c_size_8abf5_4 : decode cJx4a65c_size_8abf5 4 = .ok (.ireturn, 1) := by decide +kernel
theorem dJx4a65c_elementData_915e3_0 : decode cJx4a65c_elementData_915e3 0 = .ok (.aload_n 0, 1) := by decide +kernel
theorem dJx4a65c_elementData_915e3_1 : decode cJx4a65c_elementData_915e3 1 = .ok (.getfield 9, 3) := by decide +kernel
theorem dJx4a65c_elementData_915e3_4 : decode cJx4a65c_elementData_915e3 4 = .ok (.iload_n 1, 1) := by decide +kernel
theorem dJx4a65c_elementData_915e3_5 : decode cJx4a65c_elementData_915e3 5 = .ok (.aaload, 1) := by decide +kernel
theorem dJx4a65c_elementData_915e3_6 : decode cJx4a65c_elementData_915e3 6 = .ok (.areturn, 1) := by decide +kernel
theorem dJx4a65c_get_915e3_0 : decode cJx4a65c_get_915e3 0 = .ok (.iload_n 1, 1) := by decide +kernel
theorem dJx4a65c_get_915e3_1 : decode cJx4a65c_get_915e3 1 = .ok (.aload_n 0, 1) := by decide +kernel
theorem dJx4a65c_get_915e3_2 : decode cJx4a65c_get_915e3 2 = .ok (.getfield 48, 3) := by decide +kernel
theorem dJx4a65c_get_915e3_5 : decode cJx4a65c_get_915e3 5 = .ok (.invokestatic 118, 3) := by decide +kernel
theorem dJx4a65c_get_915e3_8 : decode cJx4a65c_get_915e3 8 = .ok (.pop, 1) := by decide +kernel
theorem dJx4a65c_get_915e3_9 : decode cJx4a65c_get_915e3 9 = .ok (.aload_n 0, 1) := by decide +kernel
theorem dJx4a65c_get_915e3_10 : decode cJx4a65c_get_915e3 10 = .ok (.iload_n 1, 1) := by decide +kernel
theorem dJx4a65c_get_915e3_11 : decode cJx4a65c_get_915e3 11 = .ok (.invokevirtual 123, 3) := by decide +kernel
theorem dJx4a65c_get_915e3_14 : decode cJx4a65c_get_915e3 14 = .ok (.areturn, 1) := by decide +kernel
theorem dJx4a65c_set_bcc79_0 : decode cJx4a65c_set_bcc79 0 = .ok (.iload_n 1, 1) := by decide +kernel
theorem dJx4a65c_set_bcc79_1 : decode cJx4a65c_set_bcc79 1 = .ok (.aload_n 0, 1) := by decide +kernel
theorem dJx4a65c_set_bcc79_2 : decode cJx4a65c_set_bcc79 2 = .ok (.getfield 48, 3) := by decide +kernel
theorem dJx4a65c_set_bcc79_5 : decode cJx4a65c_set_bcc79 5 = .ok (.invokestatic 118, 3) := by decide +kernel
theorem dJx4a65c_set_bcc79_8 : decode cJx4a65c_set_bcc79 8 = .ok (.pop, 1) := by decide +kernel
theorem dJx4a65c_set_bcc79_9 : decode cJx4a65c_set_bcc79 9 = .ok (.aload_n 0, 1) := by decide +kernel
theorem dJx4a65c_set_bcc79_10 : decode cJx4a65c_set_bcc79 10 = .ok (.iload_n 1, 1) := by decide +kernel
theorem dJx4a65c_set_bcc79_11 : decode cJx4a65c_set_bcc79 11 = .ok (.invokevirtual 123, 3) := by decide +kernel
theorem dJx4a65c_set_bcc79_14 : decode cJx4a65c_set_bcc79 14 = .ok (.astore_n 3, 1) := by decide +kernel
theorem dJx4a65c_set_bcc79_15 : decode cJx4a65c_set_bcc79 15 = .ok (.aload_n 0, 1) := by decide +kernel
theorem dJx4a65c_set_bcc79_16 : decode cJx4a65c_set_bcc79 16 = .ok (.getfield 9, 3) := by decide +kernel
theorem dJx4a65c_set_bcc79_19 : decode cJx4a65c_set_bcc79 19 = .ok (.iload_n 1, 1) := by decide +kernel
theorem dJx4a65c_set_bcc79_20 : decode cJx4a65c_set_bcc79 20 = .ok (.aload_n 2, 1) := by decide +kernel
theorem dJx4a65c_set_bcc79_21 : decode cJx4a65c_set_bcc79 21 = .ok (.aastore, 1) := by decide +kernel
theorem dJx4a65c_set_bcc79_22 : decode cJx4a65c_set_bcc79 22 = .ok (.aload_n 3, 1) := by decide +kernel
theorem dJx4a65c_set_bcc79_23 : decode cJx4a65c_set_bcc79 23 = .ok (.areturn, 1) := by decide +kernel
theorem dJx4a65c_add_72be8_0 : decode cJx4a65c_add_72be8 0 = .ok (.iload_n 3, 1) := by decide +kernel
theorem dJx4a65c_add_72be8_1 : decode cJx4a65c_add_72be8 1 = .ok (.aload_n 2, 1) := by decide +kernel
theorem dJx4a65c_add_72be8_2 : decode cJx4a65c_add_72be8 2 = .ok (.arraylength, 1) := by decide +kernel
theorem dJx4a65c_add_72be8_3 : decode cJx4a65c_add_72be8 3 = .ok (.if_icmp .ne 8, 3) := by decide +kernel
theorem dJx4a65c_add_72be8_6 : decode cJx4a65c_add_72be8 6 = .ok (.aload_n 0, 1) := by decide +kernel
theorem dJx4a65c_add_72be8_7 : decode cJx4a65c_add_72be8 7 = .ok (.invokevirtual 129, 3) := by decide +kernel
theorem dJx4a65c_add_72be8_10 : decode cJx4a65c_add_72be8 10 = .ok (.astore_n 2, 1) := by decide +kernel
theorem dJx4a65c_add_72be8_11 : decode cJx4a65c_add_72be8 11 = .ok (.aload_n 2, 1) := by decide +kernel
theorem dJx4a65c_add_72be8_12 : decode cJx4a65c_add_72be8 12 = .ok (.iload_n 3, 1) := by decide +kernel
theorem dJx4a65c_add_72be8_13 : decode cJx4a65c_add_72be8 13 = .ok (.aload_n 1, 1) := by decide +kernel
theorem dJx4a65c_add_72be8_14 : decode cJx4a65c_add_72be8 14 = .ok (.aastore, 1) := by decide +kernel
theorem dJx4a65c_add_72be8_15 : decode cJx4a65c_add_72be8 15 = .ok (.aload_n 0, 1) := by decide +kernel
theorem dJx4a65c_add_72be8_16 : decode cJx4a65c_add_72be8 16 = .ok (.iload_n 3, 1) := by decide +kernel
theorem dJx4a65c_add_72be8_17 : decode cJx4a65c_add_72be8 17 = .ok (.iconst 1, 1) := by decide +kernel
theorem dJx4a65c_add_72be8_18 : decode cJx4a65c_add_72be8 18 = .ok (.iadd, 1) := by decide +kernel
theorem dJx4a65c_add_72be8_19 : decode cJx4a65c_add_72be8 19 = .ok (.putfield 48, 3) := by decide +kernel
theorem dJx4a65c_add_72be8_22 : decode cJx4a65c_add_72be8 22 = .ok (.return_, 1) := by decide +kernel
theorem dJx4a65c_add_9ea2d_0 : decode cJx4a65c_add_9ea2d 0 = .ok (.aload_n 0, 1) := by decide +kernel
theorem dJx4a65c_add_9ea2d_1 : decode cJx4a65c_add_9ea2d 1 = .ok (.dup, 1) := by decide +kernel
theorem dJx4a65c_add_9ea2d_2 : decode cJx4a65c_add_9ea2d 2 = .ok (.getfield 63, 3) := by decide +kernel
theorem dJx4a65c_add_9ea2d_5 : decode cJx4a65c_add_9ea2d 5 = .ok (.iconst 1, 1) := by decide +kernel
theorem dJx4a65c_add_9ea2d_6 : decode cJx4a65c_add_9ea2d 6 = .ok (.iadd, 1) := by decide +kernel
theorem dJx4a65c_add_9ea2d_7 : decode cJx4a65c_add_9ea2d 7 = .ok (.putfield 63, 3) := by decide +kernel
theorem dJx4a65c_add_9ea2d_10 : decode cJx4a65c_add_9ea2d 10 = .ok (.aload_n 0, 1) := by decide +kernel
theorem dJx4a65c_add_9ea2d_11 : decode cJx4a65c_add_9ea2d 11 = .ok (.aload_n 1, 1) := by decide +kernel
theorem dJx4a65c_add_9ea2d_12 : decode cJx4a65c_add_9ea2d 12 = .ok (.aload_n 0, 1) := by decide +kernel
theorem dJx4a65c_add_9ea2d_13 : decode cJx4a65c_add_9ea2d 13 = .ok (.getfield 9, 3) := by decide +kernel
theorem dJx4a65c_add_9ea2d_16 : decode cJx4a65c_add_9ea2d 16 = .ok (.aload_n 0, 1) := by decide +kernel
theorem dJx4a65c_add_9ea2d_17 : decode cJx4a65c_add_9ea2d 17 = .ok (.getfield 48, 3) := by decide +kernel
theorem dJx4a65c_add_9ea2d_20 : decode cJx4a65c_add_9ea2d 20 = .ok (.invokevirtual 131, 3) := by decide +kernel
theorem dJx4a65c_add_9ea2d_23 : decode cJx4a65c_add_9ea2d 23 = .ok (.iconst 1, 1) := by decide +kernel
theorem dJx4a65c_add_9ea2d_24 : decode cJx4a65c_add_9ea2d 24 = .ok (.ireturn, 1) := by decide +kernel
theorem dJx4a65c_remove_915e3_0 : decode cJx4a65c_remove_915e3 0 = .ok (.iload_n 1, 1) := by decide +kernel
theorem dJx4a65c_remove_915e3_1 : decode cJx4a65c_remove_915e3 1 = .ok (.aload_n 0, 1) := by decide +kernel
theorem dJx4a65c_remove_915e3_2 : decode cJx4a65c_remove_915e3 2 = .ok (.getfield 48, 3) := by decide +kernel
theorem dJx4a65c_remove_915e3_5 : decode cJx4a65c_remove_915e3 5 = .ok (.invokestatic 118, 3) := by decide +kernel
theorem dJx4a65c_remove_915e3_8 : decode cJx4a65c_remove_915e3 8 = .ok (.pop, 1) := by decide +kernel
theorem dJx4a65c_remove_915e3_9 : decode cJx4a65c_remove_915e3 9 = .ok (.aload_n 0, 1) := by decide +kernel
theorem dJx4a65c_remove_915e3_10 : decode cJx4a65c_remove_915e3 10 = .ok (.getfield 9, 3) := by decide +kernel
theorem dJx4a65c_remove_915e3_13 : decode cJx4a65c_remove_915e3 13 = .ok (.astore_n 2, 1) := by decide +kernel
theorem dJx4a65c_remove_915e3_14 : decode cJx4a65c_remove_915e3 14 = .ok (.aload_n 2, 1) := by decide +kernel
theorem dJx4a65c_remove_915e3_15 : decode cJx4a65c_remove_915e3 15 = .ok (.iload_n 1, 1) := by decide +kernel
theorem dJx4a65c_remove_915e3_16 : decode cJx4a65c_remove_915e3 16 = .ok (.aaload, 1) := by decide +kernel
theorem dJx4a65c_remove_915e3_17 : decode cJx4a65c_remove_915e3 17 = .ok (.astore_n 3, 1) := by decide +kernel
theorem dJx4a65c_remove_915e3_18 : decode cJx4a65c_remove_915e3 18 = .ok (.aload_n 0, 1) := by decide +kernel
theorem dJx4a65c_remove_915e3_19 : decode cJx4a65c_remove_915e3 19 = .ok (.aload_n 2, 1) := by decide +kernel
theorem dJx4a65c_remove_915e3_20 : decode cJx4a65c_remove_915e3 20 = .ok (.iload_n 1, 1) := by decide +kernel
theorem dJx4a65c_remove_915e3_21 : decode cJx4a65c_remove_915e3 21 = .ok (.invokevirtual 144, 3) := by decide +kernel
theorem dJx4a65c_remove_915e3_24 : decode cJx4a65c_remove_915e3 24 = .ok (.aload_n 3, 1) := by decide +kernel
theorem dJx4a65c_remove_915e3_25 : decode cJx4a65c_remove_915e3 25 = .ok (.areturn, 1) := by decide +kernel
theorem dJx4a65c_fastRemove_b59b0_0 : decode cJx4a65c_fastRemove_b59b0 0 = .ok (.aload_n 0, 1) := by decide +kernel
theorem dJx4a65c_fastRemove_b59b0_1 : decode cJx4a65c_fastRemove_b59b0 1 = .ok (.dup, 1) := by decide +kernel
end
section
theorem dJx4a65c_fastRemove_b59b0_2 : decode cJx4a65c_fastRemove_b59b0 2 = .ok (.getfield 63, 3) := by decide +kernel
theorem dJx4a65c_fastRemove_b59b0_5 : decode cJx4a65c_fastRemove_b59b0 5 = .ok (.iconst 1, 1) := by decide +kernel
theorem dJx4a65c_fastRemove_b59b0_6 : decode cJx4a65c_fastRemove_b59b0 6 = .ok (.iadd, 1) := by decide +kernel
theorem dJx4a65c_fastRemove_b59b0_7 : decode cJx4a65c_fastRemove_b59b0 7 = .ok (.putfield 63, 3) := by decide +kernel
theorem dJx4a65c_fastRemove_b59b0_10 : decode cJx4a65c_fastRemove_b59b0 10 = .ok (.aload_n 0, 1) := by decide +kernel
theorem dJx4a65c_fastRemove_b59b0_11 : decode cJx4a65c_fastRemove_b59b0 11 = .ok (.getfield 48, 3) := by decide +kernel
theorem dJx4a65c_fastRemove_b59b0_14 : decode cJx4a65c_fastRemove_b59b0 14 = .ok (.iconst 1, 1) := by decide +kernel
theorem dJx4a65c_fastRemove_b59b0_15 : decode cJx4a65c_fastRemove_b59b0 15 = .ok (.isub, 1) := by decide +kernel
theorem dJx4a65c_fastRemove_b59b0_16 : decode cJx4a65c_fastRemove_b59b0 16 = .ok (.dup, 1) := by decide +kernel
theorem dJx4a65c_fastRemove_b59b0_17 : decode cJx4a65c_fastRemove_b59b0 17 = .ok (.istore_n 3, 1) := by decide +kernel
theorem dJx4a65c_fastRemove_b59b0_18 : decode cJx4a65c_fastRemove_b59b0 18 = .ok (.iload_n 2, 1) := by decide +kernel
theorem dJx4a65c_fastRemove_b59b0_19 : decode cJx4a65c_fastRemove_b59b0 19 = .ok (.if_icmp .le 15, 3) := by decide +kernel
theorem dJx4a65c_fastRemove_b59b0_22 : decode cJx4a65c_fastRemove_b59b0 22 = .ok (.aload_n 1, 1) := by decide +kernel
theorem dJx4a65c_fastRemove_b59b0_23 : decode cJx4a65c_fastRemove_b59b0 23 = .ok (.iload_n 2, 1) := by decide +kernel
theorem dJx4a65c_fastRemove_b59b0_24 : decode cJx4a65c_fastRemove_b59b0 24 = .ok (.iconst 1, 1) := by decide +kernel
theorem dJx4a65c_fastRemove_b59b0_25 : decode cJx4a65c_fastRemove_b59b0 25 = .ok (.iadd, 1) := by decide +kernel
theorem dJx4a65c_fastRemove_b59b0_26 : decode cJx4a65c_fastRemove_b59b0 26 = .ok (.aload_n 1, 1) := by decide +kernel
theorem dJx4a65c_fastRemove_b59b0_27 : decode cJx4a65c_fastRemove_b59b0 27 = .ok (.iload_n 2, 1) := by decide +kernel
theorem dJx4a65c_fastRemove_b59b0_28 : decode cJx4a65c_fastRemove_b59b0 28 = .ok (.iload_n 3, 1) := by decide +kernel
theorem dJx4a65c_fastRemove_b59b0_29 : decode cJx4a65c_fastRemove_b59b0 29 = .ok (.iload_n 2, 1) := by decide +kernel
theorem dJx4a65c_fastRemove_b59b0_30 : decode cJx4a65c_fastRemove_b59b0 30 = .ok (.isub, 1) := by decide +kernel
theorem dJx4a65c_fastRemove_b59b0_31 : decode cJx4a65c_fastRemove_b59b0 31 = .ok (.invokestatic 112, 3) := by decide +kernel
theorem dJx4a65c_fastRemove_b59b0_34 : decode cJx4a65c_fastRemove_b59b0 34 = .ok (.aload_n 1, 1) := by decide +kernel
theorem dJx4a65c_fastRemove_b59b0_35 : decode cJx4a65c_fastRemove_b59b0 35 = .ok (.aload_n 0, 1) := by decide +kernel
theorem dJx4a65c_fastRemove_b59b0_36 : decode cJx4a65c_fastRemove_b59b0 36 = .ok (.iload_n 3, 1) := by decide +kernel
theorem dJx4a65c_fastRemove_b59b0_37 : decode cJx4a65c_fastRemove_b59b0 37 = .ok (.dup_x1, 1) := by decide +kernel
theorem dJx4a65c_fastRemove_b59b0_38 : decode cJx4a65c_fastRemove_b59b0 38 = .ok (.putfield 48, 3) := by decide +kernel
theorem dJx4a65c_fastRemove_b59b0_41 : decode cJx4a65c_fastRemove_b59b0 41 = .ok (.aconst_null, 1) := by decide +kernel
theorem dJx4a65c_fastRemove_b59b0_42 : decode cJx4a65c_fastRemove_b59b0 42 = .ok (.aastore, 1) := by decide +kernel
theorem dJx4a65c_fastRemove_b59b0_43 : decode cJx4a65c_fastRemove_b59b0 43 = .ok (.return_, 1) := by decide +kernel
theorem dJx4a65c_clear_da8c8_0 : decode cJx4a65c_clear_da8c8 0 = .ok (.aload_n 0, 1) := by decide +kernel
theorem dJx4a65c_clear_da8c8_1 : decode cJx4a65c_clear_da8c8 1 = .ok (.dup, 1) := by decide +kernel
theorem dJx4a65c_clear_da8c8_2 : decode cJx4a65c_clear_da8c8 2 = .ok (.getfield 63, 3) := by decide +kernel
theorem dJx4a65c_clear_da8c8_5 : decode cJx4a65c_clear_da8c8 5 = .ok (.iconst 1, 1) := by decide +kernel
theorem dJx4a65c_clear_da8c8_6 : decode cJx4a65c_clear_da8c8 6 = .ok (.iadd, 1) := by decide +kernel
theorem dJx4a65c_clear_da8c8_7 : decode cJx4a65c_clear_da8c8 7 = .ok (.putfield 63, 3) := by decide +kernel
theorem dJx4a65c_clear_da8c8_10 : decode cJx4a65c_clear_da8c8 10 = .ok (.aload_n 0, 1) := by decide +kernel
theorem dJx4a65c_clear_da8c8_11 : decode cJx4a65c_clear_da8c8 11 = .ok (.getfield 9, 3) := by decide +kernel
theorem dJx4a65c_clear_da8c8_14 : decode cJx4a65c_clear_da8c8 14 = .ok (.astore_n 1, 1) := by decide +kernel
theorem dJx4a65c_clear_da8c8_15 : decode cJx4a65c_clear_da8c8 15 = .ok (.aload_n 0, 1) := by decide +kernel
theorem dJx4a65c_clear_da8c8_16 : decode cJx4a65c_clear_da8c8 16 = .ok (.getfield 48, 3) := by decide +kernel
theorem dJx4a65c_clear_da8c8_19 : decode cJx4a65c_clear_da8c8 19 = .ok (.istore_n 2, 1) := by decide +kernel
theorem dJx4a65c_clear_da8c8_20 : decode cJx4a65c_clear_da8c8 20 = .ok (.aload_n 0, 1) := by decide +kernel
theorem dJx4a65c_clear_da8c8_21 : decode cJx4a65c_clear_da8c8 21 = .ok (.iconst 0, 1) := by decide +kernel
theorem dJx4a65c_clear_da8c8_22 : decode cJx4a65c_clear_da8c8 22 = .ok (.dup_x1, 1) := by decide +kernel
theorem dJx4a65c_clear_da8c8_23 : decode cJx4a65c_clear_da8c8 23 = .ok (.putfield 48, 3) := by decide +kernel
theorem dJx4a65c_clear_da8c8_26 : decode cJx4a65c_clear_da8c8 26 = .ok (.istore_n 3, 1) := by decide +kernel
theorem dJx4a65c_clear_da8c8_27 : decode cJx4a65c_clear_da8c8 27 = .ok (.iload_n 3, 1) := by decide +kernel
theorem dJx4a65c_clear_da8c8_28 : decode cJx4a65c_clear_da8c8 28 = .ok (.iload_n 2, 1) := by decide +kernel
theorem dJx4a65c_clear_da8c8_29 : decode cJx4a65c_clear_da8c8 29 = .ok (.if_icmp .ge 13, 3) := by decide +kernel
theorem dJx4a65c_clear_da8c8_32 : decode cJx4a65c_clear_da8c8 32 = .ok (.aload_n 1, 1) := by decide +kernel
theorem dJx4a65c_clear_da8c8_33 : decode cJx4a65c_clear_da8c8 33 = .ok (.iload_n 3, 1) := by decide +kernel
theorem dJx4a65c_clear_da8c8_34 : decode cJx4a65c_clear_da8c8 34 = .ok (.aconst_null, 1) := by decide +kernel
theorem dJx4a65c_clear_da8c8_35 : decode cJx4a65c_clear_da8c8 35 = .ok (.aastore, 1) := by decide +kernel
theorem dJx4a65c_clear_da8c8_36 : decode cJx4a65c_clear_da8c8 36 = .ok (.iinc 3 1, 3) := by decide +kernel
theorem dJx4a65c_clear_da8c8_39 : decode cJx4a65c_clear_da8c8 39 = .ok (.goto (-12), 3) := by decide +kernel
theorem dJx4a65c_clear_da8c8_42 : decode cJx4a65c_clear_da8c8 42 = .ok (.return_, 1) := by decide +kernel
theorem dJ7_fill_53178_0 : decode cJ7_fill_53178 0 = .ok (.iconst 0, 1) := by decide +kernel
theorem dJ7_fill_53178_1 : decode cJ7_fill_53178 1 = .ok (.istore_n 2, 1) := by decide +kernel
theorem dJ7_fill_53178_2 : decode cJ7_fill_53178 2 = .ok (.aload_n 0, 1) := by decide +kernel
theorem dJ7_fill_53178_3 : decode cJ7_fill_53178 3 = .ok (.arraylength, 1) := by decide +kernel
theorem dJ7_fill_53178_4 : decode cJ7_fill_53178 4 = .ok (.istore_n 3, 1) := by decide +kernel
theorem dJ7_fill_53178_5 : decode cJ7_fill_53178 5 = .ok (.iload_n 2, 1) := by decide +kernel
theorem dJ7_fill_53178_6 : decode cJ7_fill_53178 6 = .ok (.iload_n 3, 1) := by decide +kernel
theorem dJ7_fill_53178_7 : decode cJ7_fill_53178 7 = .ok (.if_icmp .ge 13, 3) := by decide +kernel
theorem dJ7_fill_53178_10 : decode cJ7_fill_53178 10 = .ok (.aload_n 0, 1) := by decide +kernel
theorem dJ7_fill_53178_11 : decode cJ7_fill_53178 11 = .ok (.iload_n 2, 1) := by decide +kernel
theorem dJ7_fill_53178_12 : decode cJ7_fill_53178 12 = .ok (.iload_n 1, 1) := by decide +kernel
theorem dJ7_fill_53178_13 : decode cJ7_fill_53178 13 = .ok (.iastore, 1) := by decide +kernel
theorem dJ7_fill_53178_14 : decode cJ7_fill_53178 14 = .ok (.iinc 2 1, 3) := by decide +kernel
theorem dJ7_fill_53178_17 : decode cJ7_fill_53178 17 = .ok (.goto (-12), 3) := by decide +kernel
theorem dJ7_fill_53178_20 : decode cJ7_fill_53178 20 = .ok (.return_, 1) := by decide +kernel
theorem dJ7_copyOf_1904c_0 : decode cJ7_copyOf_1904c 0 = .ok (.aload_n 0, 1) := by decide +kernel
theorem dJ7_copyOf_1904c_1 : decode cJ7_copyOf_1904c 1 = .ok (.iload_n 1, 1) := by decide +kernel
theorem dJ7_copyOf_1904c_2 : decode cJ7_copyOf_1904c 2 = .ok (.aload_n 0, 1) := by decide +kernel
theorem dJ7_copyOf_1904c_3 : decode cJ7_copyOf_1904c 3 = .ok (.invokevirtual 86, 3) := by decide +kernel
theorem dJ7_copyOf_1904c_6 : decode cJ7_copyOf_1904c 6 = .ok (.invokestatic 300, 3) := by decide +kernel
theorem dJ7_copyOf_1904c_9 : decode cJ7_copyOf_1904c 9 = .ok (.areturn, 1) := by decide +kernel
theorem dJ7_copyOf_6403c_0 : decode cJ7_copyOf_6403c 0 = .ok (.aload_n 2, 1) := by decide +kernel
theorem dJ7_copyOf_6403c_1 : decode cJ7_copyOf_6403c 1 = .ok (.ldc 110, 2) := by decide +kernel
theorem dJ7_copyOf_6403c_3 : decode cJ7_copyOf_6403c 3 = .ok (.if_acmp .ne 10, 3) := by decide +kernel
theorem dJ7_copyOf_6403c_6 : decode cJ7_copyOf_6403c 6 = .ok (.iload_n 1, 1) := by decide +kernel
theorem dJ7_copyOf_6403c_7 : decode cJ7_copyOf_6403c 7 = .ok (.anewarray 2, 3) := by decide +kernel
theorem dJ7_copyOf_6403c_10 : decode cJ7_copyOf_6403c 10 = .ok (.goto 14, 3) := by decide +kernel
theorem dJ7_copyOf_6403c_13 : decode cJ7_copyOf_6403c 13 = .ok (.aload_n 2, 1) := by decide +kernel
theorem dJ7_copyOf_6403c_14 : decode cJ7_copyOf_6403c 14 = .ok (.invokevirtual 90, 3) := by decide +kernel
theorem dJ7_copyOf_6403c_17 : decode cJ7_copyOf_6403c 17 = .ok (.iload_n 1, 1) := by decide +kernel
theorem dJ7_copyOf_6403c_18 : decode cJ7_copyOf_6403c 18 = .ok (.invokestatic 95, 3) := by decide +kernel
theorem dJ7_copyOf_6403c_21 : decode cJ7_copyOf_6403c 21 = .ok (.checkcast 110, 3) := by decide +kernel
theorem dJ7_copyOf_6403c_24 : decode cJ7_copyOf_6403c 24 = .ok (.astore_n 3, 1) := by decide +kernel
theorem dJ7_copyOf_6403c_25 : decode cJ7_copyOf_6403c 25 = .ok (.aload_n 0, 1) := by decide +kernel
theorem dJ7_copyOf_6403c_26 : decode cJ7_copyOf_6403c 26 = .ok (.iconst 0, 1) := by decide +kernel
theorem dJ7_copyOf_6403c_27 : decode cJ7_copyOf_6403c 27 = .ok (.aload_n 3, 1) := by decide +kernel
theorem dJ7_copyOf_6403c_28 : decode cJ7_copyOf_6403c 28 = .ok (.iconst 0, 1) := by decide +kernel
theorem dJ7_copyOf_6403c_29 : decode cJ7_copyOf_6403c 29 = .ok (.aload_n 0, 1) := by decide +kernel
theorem dJ7_copyOf_6403c_30 : decode cJ7_copyOf_6403c 30 = .ok (.arraylength, 1) := by decide +kernel
theorem dJ7_copyOf_6403c_31 : decode cJ7_copyOf_6403c 31 = .ok (.iload_n 1, 1) := by decide +kernel
theorem dJ7_copyOf_6403c_32 : decode cJ7_copyOf_6403c 32 = .ok (.invokestatic 304, 3) := by decide +kernel
theorem dJ7_copyOf_6403c_35 : decode cJ7_copyOf_6403c 35 = .ok (.invokestatic 150, 3) := by decide +kernel
theorem dJ7_copyOf_6403c_38 : decode cJ7_copyOf_6403c 38 = .ok (.aload_n 3, 1) := by decide +kernel
theorem dJ7_copyOf_6403c_39 : decode cJ7_copyOf_6403c 39 = .ok (.areturn, 1) := by decide +kernel
theorem dJ15_checkIndex_7cf53_0 : decode cJ15_checkIndex_7cf53 0 = .ok (.iload_n 0, 1) := by decide +kernel
theorem dJ15_checkIndex_7cf53_1 : decode cJ15_checkIndex_7cf53 1 = .ok (.iload_n 1, 1) := by decide +kernel
theorem dJ15_checkIndex_7cf53_2 : decode cJ15_checkIndex_7cf53 2 = .ok (.aconst_null, 1) := by decide +kernel
theorem dJ15_checkIndex_7cf53_3 : decode cJ15_checkIndex_7cf53 3 = .ok (.invokestatic 105, 3) := by decide +kernel
theorem dJ15_checkIndex_7cf53_6 : decode cJ15_checkIndex_7cf53 6 = .ok (.ireturn, 1) := by decide +kernel
theorem dJ8_newLength_cabcc_0 : decode cJ8_newLength_cabcc 0 = .ok (.iload_n 0, 1) := by decide +kernel
theorem dJ8_newLength_cabcc_1 : decode cJ8_newLength_cabcc 1 = .ok (.iload_n 1, 1) := by decide +kernel
theorem dJ8_newLength_cabcc_2 : decode cJ8_newLength_cabcc 2 = .ok (.iload_n 2, 1) := by decide +kernel
theorem dJ8_newLength_cabcc_3 : decode cJ8_newLength_cabcc 3 = .ok (.invokestatic 194, 3) := by decide +kernel
theorem dJ8_newLength_cabcc_6 : decode cJ8_newLength_cabcc 6 = .ok (.iadd, 1) := by decide +kernel
theorem dJ8_newLength_cabcc_7 : decode cJ8_newLength_cabcc 7 = .ok (.istore_n 3, 1) := by decide +kernel
theorem dJ8_newLength_cabcc_8 : decode cJ8_newLength_cabcc 8 = .ok (.iconst 0, 1) := by decide +kernel
theorem dJ8_newLength_cabcc_9 : decode cJ8_newLength_cabcc 9 = .ok (.iload_n 3, 1) := by decide +kernel
theorem dJ8_newLength_cabcc_10 : decode cJ8_newLength_cabcc 10 = .ok (.if_icmp .ge 11, 3) := by decide +kernel
theorem dJ8_newLength_cabcc_13 : decode cJ8_newLength_cabcc 13 = .ok (.iload_n 3, 1) := by decide +kernel
theorem dJ8_newLength_cabcc_14 : decode cJ8_newLength_cabcc 14 = .ok (.ldc 200, 2) := by decide +kernel
theorem dJ8_newLength_cabcc_16 : decode cJ8_newLength_cabcc 16 = .ok (.if_icmp .gt 5, 3) := by decide +kernel
theorem dJ8_newLength_cabcc_19 : decode cJ8_newLength_cabcc 19 = .ok (.iload_n 3, 1) := by decide +kernel
theorem dJ8_newLength_cabcc_20 : decode cJ8_newLength_cabcc 20 = .ok (.ireturn, 1) := by decide +kernel
theorem dJ8_newLength_cabcc_21 : decode cJ8_newLength_cabcc 21 = .ok (.iload_n 0, 1) := by decide +kernel
theorem dJ8_newLength_cabcc_22 : decode cJ8_newLength_cabcc 22 = .ok (.iload_n 1, 1) := by decide +kernel
theorem dJ8_newLength_cabcc_23 : decode cJ8_newLength_cabcc 23 = .ok (.invokestatic 201, 3) := by decide +kernel
theorem dJ8_newLength_cabcc_26 : decode cJ8_newLength_cabcc 26 = .ok (.ireturn, 1) := by decide +kernel
theorem dJ8_hugeLength_7cf53_0 : decode cJ8_hugeLength_7cf53 0 = .ok (.iload_n 0, 1) := by decide +kernel
theorem dJ8_hugeLength_7cf53_1 : decode cJ8_hugeLength_7cf53 1 = .ok (.iload_n 1, 1) := by decide +kernel
theorem dJ8_hugeLength_7cf53_2 : decode cJ8_hugeLength_7cf53 2 = .ok (.iadd, 1) := by decide +kernel
theorem dJ8_hugeLength_7cf53_3 : decode cJ8_hugeLength_7cf53 3 = .ok (.istore_n 2, 1) := by decide +kernel
theorem dJ8_hugeLength_7cf53_4 : decode cJ8_hugeLength_7cf53 4 = .ok (.iload_n 2, 1) := by decide +kernel
theorem dJ8_hugeLength_7cf53_5 : decode cJ8_hugeLength_7cf53 5 = .ok (.ifCond .ge 44, 3) := by decide +kernel
theorem dJ8_hugeLength_7cf53_8 : decode cJ8_hugeLength_7cf53 8 = .ok (.new 204, 3) := by decide +kernel
theorem dJ8_hugeLength_7cf53_11 : decode cJ8_hugeLength_7cf53 11 = .ok (.dup, 1) := by decide +kernel
theorem dJ8_hugeLength_7cf53_12 : decode cJ8_hugeLength_7cf53 12 = .ok (.new 89, 3) := by decide +kernel
theorem dJ8_hugeLength_7cf53_15 : decode cJ8_hugeLength_7cf53 15 = .ok (.dup, 1) := by decide +kernel
theorem dJ8_hugeLength_7cf53_16 : decode cJ8_hugeLength_7cf53 16 = .ok (.invokespecial 91, 3) := by decide +kernel
theorem dJ8_hugeLength_7cf53_19 : decode cJ8_hugeLength_7cf53 19 = .ok (.ldc 206, 2) := by decide +kernel
theorem dJ8_hugeLength_7cf53_21 : decode cJ8_hugeLength_7cf53 21 = .ok (.invokevirtual 94, 3) := by decide +kernel
theorem dJ8_hugeLength_7cf53_24 : decode cJ8_hugeLength_7cf53 24 = .ok (.iload_n 0, 1) := by decide +kernel
theorem dJ8_hugeLength_7cf53_25 : decode cJ8_hugeLength_7cf53 25 = .ok (.invokevirtual 98, 3) := by decide +kernel
theorem dJ8_hugeLength_7cf53_28 : decode cJ8_hugeLength_7cf53 28 = .ok (.ldc 208, 2) := by decide +kernel
theorem dJ8_hugeLength_7cf53_30 : decode cJ8_hugeLength_7cf53 30 = .ok (.invokevirtual 94, 3) := by decide +kernel
theorem dJ8_hugeLength_7cf53_33 : decode cJ8_hugeLength_7cf53 33 = .ok (.iload_n 1, 1) := by decide +kernel
theorem dJ8_hugeLength_7cf53_34 : decode cJ8_hugeLength_7cf53 34 = .ok (.invokevirtual 98, 3) := by decide +kernel
theorem dJ8_hugeLength_7cf53_37 : decode cJ8_hugeLength_7cf53 37 = .ok (.ldc 210, 2) := by decide +kernel
theorem dJ8_hugeLength_7cf53_39 : decode cJ8_hugeLength_7cf53 39 = .ok (.invokevirtual 94, 3) := by decide +kernel
theorem dJ8_hugeLength_7cf53_42 : decode cJ8_hugeLength_7cf53 42 = .ok (.invokevirtual 101, 3) := by decide +kernel
theorem dJ8_hugeLength_7cf53_45 : decode cJ8_hugeLength_7cf53 45 = .ok (.invokespecial 212, 3) := by decide +kernel
theorem dJ8_hugeLength_7cf53_48 : decode cJ8_hugeLength_7cf53 48 = .ok (.athrow, 1) := by decide +kernel
theorem dJ8_hugeLength_7cf53_49 : decode cJ8_hugeLength_7cf53 49 = .ok (.iload_n 2, 1) := by decide +kernel
theorem dJ8_hugeLength_7cf53_50 : decode cJ8_hugeLength_7cf53 50 = .ok (.ldc 200, 2) := by decide +kernel
theorem dJ8_hugeLength_7cf53_52 : decode cJ8_hugeLength_7cf53 52 = .ok (.if_icmp .gt 6, 3) := by decide +kernel
theorem dJ8_hugeLength_7cf53_55 : decode cJ8_hugeLength_7cf53 55 = .ok (.ldc 200, 2) := by decide +kernel
theorem dJ8_hugeLength_7cf53_57 : decode cJ8_hugeLength_7cf53 57 = .ok (.ireturn, 1) := by decide +kernel
theorem dJ8_hugeLength_7cf53_58 : decode cJ8_hugeLength_7cf53 58 = .ok (.iload_n 2, 1) := by decide +kernel
theorem dJ8_hugeLength_7cf53_59 : decode cJ8_hugeLength_7cf53 59 = .ok (.ireturn, 1) := by decide +kernel
theorem dJ3_checkIndex_8e157_0 : decode cJ3_checkIndex_8e157 0 = .ok (.iload_n 0, 1) := by decide +kernel
theorem dJ3_checkIndex_8e157_1 : decode cJ3_checkIndex_8e157 1 = .ok (.ifCond .lt 8, 3) := by decide +kernel
theorem dJ3_checkIndex_8e157_4 : decode cJ3_checkIndex_8e157 4 = .ok (.iload_n 0, 1) := by decide +kernel
theorem dJ3_checkIndex_8e157_5 : decode cJ3_checkIndex_8e157 5 = .ok (.iload_n 1, 1) := by decide +kernel
theorem dJ3_checkIndex_8e157_6 : decode cJ3_checkIndex_8e157 6 = .ok (.if_icmp .lt 10, 3) := by decide +kernel
theorem dJ3_checkIndex_8e157_9 : decode cJ3_checkIndex_8e157 9 = .ok (.aload_n 2, 1) := by decide +kernel
theorem dJ3_checkIndex_8e157_10 : decode cJ3_checkIndex_8e157 10 = .ok (.iload_n 0, 1) := by decide +kernel
theorem dJ3_checkIndex_8e157_11 : decode cJ3_checkIndex_8e157 11 = .ok (.iload_n 1, 1) := by decide +kernel
theorem dJ3_checkIndex_8e157_12 : decode cJ3_checkIndex_8e157 12 = .ok (.invokestatic 95, 3) := by decide +kernel
theorem dJ3_checkIndex_8e157_15 : decode cJ3_checkIndex_8e157 15 = .ok (.athrow, 1) := by decide +kernel
theorem dJ3_checkIndex_8e157_16 : decode cJ3_checkIndex_8e157 16 = .ok (.iload_n 0, 1) := by decide +kernel
theorem dJ3_checkIndex_8e157_17 : decode cJ3_checkIndex_8e157 17 = .ok (.ireturn, 1) := by decide +kernel
theorem dL_cell_0 : decode cL_cell 0 = .ok (.iload_n 1, 1) := by decide +kernel
theorem dL_cell_1 : decode cL_cell 1 = .ok (.aload_n 0, 1) := by decide +kernel
theorem dL_cell_2 : decode cL_cell 2 = .ok (.arraylength, 1) := by decide +kernel
theorem dL_cell_3 : decode cL_cell 3 = .ok (.if_icmp .ge 9, 3) := by decide +kernel
theorem dL_cell_6 : decode cL_cell 6 = .ok (.aload_n 0, 1) := by decide +kernel
theorem dL_cell_7 : decode cL_cell 7 = .ok (.iload_n 1, 1) := by decide +kernel
theorem dL_cell_8 : decode cL_cell 8 = .ok (.iaload, 1) := by decide +kernel
theorem dL_cell_9 : decode cL_cell 9 = .ok (.goto 9, 3) := by decide +kernel
theorem dL_cell_12 : decode cL_cell 12 = .ok (.ldc 7, 2) := by decide +kernel
theorem dL_cell_14 : decode cL_cell 14 = .ok (.iload_n 1, 1) := by decide +kernel
theorem dL_cell_15 : decode cL_cell 15 = .ok (.iconst 1, 1) := by decide +kernel
theorem dL_cell_16 : decode cL_cell 16 = .ok (.iadd, 1) := by decide +kernel
theorem dL_cell_17 : decode cL_cell 17 = .ok (.imul, 1) := by decide +kernel
theorem dL_cell_18 : decode cL_cell 18 = .ok (.ireturn, 1) := by decide +kernel
theorem dL_low_0 : decode cL_low 0 = .ok (.iload_n 0, 1) := by decide +kernel
theorem dL_low_1 : decode cL_low 1 = .ok (.ldc 8, 2) := by decide +kernel
theorem dL_low_3 : decode cL_low 3 = .ok (.iand, 1) := by decide +kernel
theorem dL_low_4 : decode cL_low 4 = .ok (.iload_n 1, 1) := by decide +kernel
theorem dL_low_5 : decode cL_low 5 = .ok (.irem, 1) := by decide +kernel
theorem dL_low_6 : decode cL_low 6 = .ok (.ireturn, 1) := by decide +kernel
theorem dL_begins_0 : decode cL_begins 0 = .ok (.aload_n 0, 1) := by decide +kernel
theorem dL_begins_1 : decode cL_begins 1 = .ok (.iconst 3, 1) := by decide +kernel
theorem dL_begins_2 : decode cL_begins 2 = .ok (.invokestatic 9, 3) := by decide +kernel
theorem dL_begins_5 : decode cL_begins 5 = .ok (.aload_n 0, 1) := by decide +kernel
theorem dL_begins_6 : decode cL_begins 6 = .ok (.bipush 57, 2) := by decide +kernel
theorem dL_begins_8 : decode cL_begins 8 = .ok (.iconst 4, 1) := by decide +kernel
theorem dL_begins_9 : decode cL_begins 9 = .ok (.iastore, 1) := by decide +kernel
theorem dL_begins_10 : decode cL_begins 10 = .ok (.aload_n 0, 1) := by decide +kernel
theorem dL_begins_11 : decode cL_begins 11 = .ok (.bipush 58, 2) := by decide +kernel
theorem dL_begins_13 : decode cL_begins 13 = .ok (.bipush 12, 2) := by decide +kernel
theorem dL_begins_15 : decode cL_begins 15 = .ok (.iastore, 1) := by decide +kernel
theorem dL_begins_16 : decode cL_begins 16 = .ok (.aload_n 0, 1) := by decide +kernel
theorem dL_begins_17 : decode cL_begins 17 = .ok (.bipush 59, 2) := by decide +kernel
theorem dL_begins_19 : decode cL_begins 19 = .ok (.iconst 1, 1) := by decide +kernel
theorem dL_begins_20 : decode cL_begins 20 = .ok (.iastore, 1) := by decide +kernel
theorem dL_begins_21 : decode cL_begins 21 = .ok (.aload_n 0, 1) := by decide +kernel
theorem dL_begins_22 : decode cL_begins 22 = .ok (.bipush 60, 2) := by decide +kernel
theorem dL_begins_24 : decode cL_begins 24 = .ok (.bipush 100, 2) := by decide +kernel
theorem dL_begins_26 : decode cL_begins 26 = .ok (.iastore, 1) := by decide +kernel
theorem dL_begins_27 : decode cL_begins 27 = .ok (.aload_n 0, 1) := by decide +kernel
theorem dL_begins_28 : decode cL_begins 28 = .ok (.bipush 61, 2) := by decide +kernel
theorem dL_begins_30 : decode cL_begins 30 = .ok (.bipush 8, 2) := by decide +kernel
theorem dL_begins_32 : decode cL_begins 32 = .ok (.iastore, 1) := by decide +kernel
theorem dL_begins_33 : decode cL_begins 33 = .ok (.return_, 1) := by decide +kernel
theorem dL_couples_0 : decode cL_couples 0 = .ok (.iconst 0, 1) := by decide +kernel
theorem dL_couples_1 : decode cL_couples 1 = .ok (.istore_n 2, 1) := by decide +kernel
theorem dL_couples_2 : decode cL_couples 2 = .ok (.iload_n 2, 1) := by decide +kernel
theorem dL_couples_3 : decode cL_couples 3 = .ok (.bipush 48, 2) := by decide +kernel
theorem dL_couples_5 : decode cL_couples 5 = .ok (.if_icmp .ge 27, 3) := by decide +kernel
theorem dL_couples_8 : decode cL_couples 8 = .ok (.aload_n 0, 1) := by decide +kernel
theorem dL_couples_9 : decode cL_couples 9 = .ok (.iload_n 2, 1) := by decide +kernel
theorem dL_couples_10 : decode cL_couples 10 = .ok (.iload_n 2, 1) := by decide +kernel
theorem dL_couples_11 : decode cL_couples 11 = .ok (.bipush 8, 2) := by decide +kernel
theorem dL_couples_13 : decode cL_couples 13 = .ok (.irem, 1) := by decide +kernel
theorem dL_couples_14 : decode cL_couples 14 = .ok (.iconst 4, 1) := by decide +kernel
theorem dL_couples_15 : decode cL_couples 15 = .ok (.if_icmp .le 9, 3) := by decide +kernel
theorem dL_couples_18 : decode cL_couples 18 = .ok (.sipush (-1001), 3) := by decide +kernel
theorem dL_couples_21 : decode cL_couples 21 = .ok (.goto 4, 3) := by decide +kernel
theorem dL_couples_24 : decode cL_couples 24 = .ok (.iconst 0, 1) := by decide +kernel
theorem dL_couples_25 : decode cL_couples 25 = .ok (.iastore, 1) := by decide +kernel
theorem dL_couples_26 : decode cL_couples 26 = .ok (.iinc 2 1, 3) := by decide +kernel
theorem dL_couples_29 : decode cL_couples 29 = .ok (.goto (-27), 3) := by decide +kernel
theorem dL_couples_32 : decode cL_couples 32 = .ok (.aload_n 0, 1) := by decide +kernel
theorem dL_couples_33 : decode cL_couples 33 = .ok (.bipush 48, 2) := by decide +kernel
theorem dL_couples_35 : decode cL_couples 35 = .ok (.iload_n 1, 1) := by decide +kernel
theorem dL_couples_36 : decode cL_couples 36 = .ok (.iastore, 1) := by decide +kernel
theorem dL_couples_37 : decode cL_couples 37 = .ok (.aload_n 0, 1) := by decide +kernel
theorem dL_couples_38 : decode cL_couples 38 = .ok (.bipush 49, 2) := by decide +kernel
theorem dL_couples_40 : decode cL_couples 40 = .ok (.iconst (-1), 1) := by decide +kernel
theorem dL_couples_41 : decode cL_couples 41 = .ok (.iastore, 1) := by decide +kernel
theorem dL_couples_42 : decode cL_couples 42 = .ok (.aload_n 0, 1) := by decide +kernel
theorem dL_couples_43 : decode cL_couples 43 = .ok (.bipush 50, 2) := by decide +kernel
theorem dL_couples_45 : decode cL_couples 45 = .ok (.iconst 0, 1) := by decide +kernel
theorem dL_couples_46 : decode cL_couples 46 = .ok (.iastore, 1) := by decide +kernel
theorem dL_couples_47 : decode cL_couples 47 = .ok (.aload_n 0, 1) := by decide +kernel
theorem dL_couples_48 : decode cL_couples 48 = .ok (.bipush 51, 2) := by decide +kernel
theorem dL_couples_50 : decode cL_couples 50 = .ok (.iconst 0, 1) := by decide +kernel
theorem dL_couples_51 : decode cL_couples 51 = .ok (.iastore, 1) := by decide +kernel
theorem dL_couples_52 : decode cL_couples 52 = .ok (.return_, 1) := by decide +kernel
theorem dL_height_0 : decode cL_height 0 = .ok (.aload_n 0, 1) := by decide +kernel
theorem dL_height_1 : decode cL_height 1 = .ok (.iload_n 1, 1) := by decide +kernel
theorem dL_height_2 : decode cL_height 2 = .ok (.iaload, 1) := by decide +kernel
theorem dL_height_3 : decode cL_height 3 = .ok (.bipush 10, 2) := by decide +kernel
theorem dL_height_5 : decode cL_height 5 = .ok (.iload_n 2, 1) := by decide +kernel
theorem dL_height_6 : decode cL_height 6 = .ok (.imul, 1) := by decide +kernel
theorem dL_height_7 : decode cL_height 7 = .ok (.ishr, 1) := by decide +kernel
theorem dL_height_8 : decode cL_height 8 = .ok (.sipush 1023, 3) := by decide +kernel
theorem dL_height_11 : decode cL_height 11 = .ok (.iand, 1) := by decide +kernel
theorem dL_height_12 : decode cL_height 12 = .ok (.ireturn, 1) := by decide +kernel
theorem dL_comes_0 : decode cL_comes 0 = .ok (.aload_n 0, 1) := by decide +kernel
theorem dL_comes_1 : decode cL_comes 1 = .ok (.iload_n 1, 1) := by decide +kernel
theorem dL_comes_2 : decode cL_comes 2 = .ok (.dup2, 1) := by decide +kernel
theorem dL_comes_3 : decode cL_comes 3 = .ok (.iaload, 1) := by decide +kernel
theorem dL_comes_4 : decode cL_comes 4 = .ok (.iload_n 3, 1) := by decide +kernel
theorem dL_comes_5 : decode cL_comes 5 = .ok (.bipush 10, 2) := by decide +kernel
theorem dL_comes_7 : decode cL_comes 7 = .ok (.iload_n 2, 1) := by decide +kernel
theorem dL_comes_8 : decode cL_comes 8 = .ok (.imul, 1) := by decide +kernel
theorem dL_comes_9 : decode cL_comes 9 = .ok (.ishl, 1) := by decide +kernel
theorem dL_comes_10 : decode cL_comes 10 = .ok (.iadd, 1) := by decide +kernel
theorem dL_comes_11 : decode cL_comes 11 = .ok (.iastore, 1) := by decide +kernel
theorem dL_comes_12 : decode cL_comes 12 = .ok (.return_, 1) := by decide +kernel
theorem dL_moves_0 : decode cL_moves 0 = .ok (.bipush 8, 2) := by decide +kernel
theorem dL_moves_2 : decode cL_moves 2 = .ok (.iload_n 1, 1) := by decide +kernel
theorem dL_moves_3 : decode cL_moves 3 = .ok (.imul, 1) := by decide +kernel
theorem dL_moves_4 : decode cL_moves 4 = .ok (.istore 4, 2) := by decide +kernel
theorem dL_moves_6 : decode cL_moves 6 = .ok (.aload_n 0, 1) := by decide +kernel
theorem dL_moves_7 : decode cL_moves 7 = .ok (.iload 4, 2) := by decide +kernel
theorem dL_moves_9 : decode cL_moves 9 = .ok (.iconst 2, 1) := by decide +kernel
theorem dL_moves_10 : decode cL_moves 10 = .ok (.iadd, 1) := by decide +kernel
theorem dL_moves_11 : decode cL_moves 11 = .ok (.iload_n 2, 1) := by decide +kernel
theorem dL_moves_12 : decode cL_moves 12 = .ok (.iadd, 1) := by decide +kernel
theorem dL_moves_13 : decode cL_moves 13 = .ok (.iaload, 1) := by decide +kernel
theorem dL_moves_14 : decode cL_moves 14 = .ok (.ifCond .le 7, 3) := by decide +kernel
theorem dL_moves_17 : decode cL_moves 17 = .ok (.iconst 1, 1) := by decide +kernel
theorem dL_moves_18 : decode cL_moves 18 = .ok (.goto 4, 3) := by decide +kernel
theorem dL_moves_21 : decode cL_moves 21 = .ok (.iconst 0, 1) := by decide +kernel
theorem dL_moves_22 : decode cL_moves 22 = .ok (.istore 5, 2) := by decide +kernel
theorem dL_moves_24 : decode cL_moves 24 = .ok (.aload_n 0, 1) := by decide +kernel
theorem dL_moves_25 : decode cL_moves 25 = .ok (.iload 4, 2) := by decide +kernel
theorem dL_moves_27 : decode cL_moves 27 = .ok (.iconst 2, 1) := by decide +kernel
theorem dL_moves_28 : decode cL_moves 28 = .ok (.iadd, 1) := by decide +kernel
theorem dL_moves_29 : decode cL_moves 29 = .ok (.iload_n 2, 1) := by decide +kernel
theorem dL_moves_30 : decode cL_moves 30 = .ok (.iadd, 1) := by decide +kernel
theorem dL_moves_31 : decode cL_moves 31 = .ok (.iload_n 3, 1) := by decide +kernel
theorem dL_moves_32 : decode cL_moves 32 = .ok (.ifCond .le 7, 3) := by decide +kernel
theorem dL_moves_35 : decode cL_moves 35 = .ok (.iload_n 3, 1) := by decide +kernel
theorem dL_moves_36 : decode cL_moves 36 = .ok (.goto 11, 3) := by decide +kernel
theorem dL_moves_39 : decode cL_moves 39 = .ok (.aload_n 0, 1) := by decide +kernel
theorem dL_moves_40 : decode cL_moves 40 = .ok (.iload 4, 2) := by decide +kernel
theorem dL_moves_42 : decode cL_moves 42 = .ok (.iconst 2, 1) := by decide +kernel
theorem dL_moves_43 : decode cL_moves 43 = .ok (.iadd, 1) := by decide +kernel
theorem dL_moves_44 : decode cL_moves 44 = .ok (.iload_n 2, 1) := by decide +kernel
theorem dL_moves_45 : decode cL_moves 45 = .ok (.iadd, 1) := by decide +kernel
theorem dL_moves_46 : decode cL_moves 46 = .ok (.iaload, 1) := by decide +kernel
theorem dL_moves_47 : decode cL_moves 47 = .ok (.iastore, 1) := by decide +kernel
theorem dL_moves_48 : decode cL_moves 48 = .ok (.aload_n 0, 1) := by decide +kernel
theorem dL_moves_49 : decode cL_moves 49 = .ok (.iload 4, 2) := by decide +kernel
theorem dL_moves_51 : decode cL_moves 51 = .ok (.iconst 5, 1) := by decide +kernel
theorem dL_moves_52 : decode cL_moves 52 = .ok (.iadd, 1) := by decide +kernel
theorem dL_moves_53 : decode cL_moves 53 = .ok (.iload_n 2, 1) := by decide +kernel
theorem dL_moves_54 : decode cL_moves 54 = .ok (.iadd, 1) := by decide +kernel
theorem dL_moves_55 : decode cL_moves 55 = .ok (.iload_n 3, 1) := by decide +kernel
theorem dL_moves_56 : decode cL_moves 56 = .ok (.ifCond .le 9, 3) := by decide +kernel
theorem dL_moves_59 : decode cL_moves 59 = .ok (.sipush (-1001), 3) := by decide +kernel
theorem dL_moves_62 : decode cL_moves 62 = .ok (.goto 23, 3) := by decide +kernel
theorem dL_moves_65 : decode cL_moves 65 = .ok (.iload 5, 2) := by decide +kernel
theorem dL_moves_67 : decode cL_moves 67 = .ok (.ifCond .eq 10, 3) := by decide +kernel
theorem dL_moves_70 : decode cL_moves 70 = .ok (.aload_n 0, 1) := by decide +kernel
theorem dL_moves_71 : decode cL_moves 71 = .ok (.bipush 59, 2) := by decide +kernel
theorem dL_moves_73 : decode cL_moves 73 = .ok (.iaload, 1) := by decide +kernel
theorem dL_moves_74 : decode cL_moves 74 = .ok (.goto 11, 3) := by decide +kernel
theorem dL_moves_77 : decode cL_moves 77 = .ok (.aload_n 0, 1) := by decide +kernel
theorem dL_moves_78 : decode cL_moves 78 = .ok (.iload 4, 2) := by decide +kernel
theorem dL_moves_80 : decode cL_moves 80 = .ok (.iconst 5, 1) := by decide +kernel
theorem dL_moves_81 : decode cL_moves 81 = .ok (.iadd, 1) := by decide +kernel
theorem dL_moves_82 : decode cL_moves 82 = .ok (.iload_n 2, 1) := by decide +kernel
theorem dL_moves_83 : decode cL_moves 83 = .ok (.iadd, 1) := by decide +kernel
theorem dL_moves_84 : decode cL_moves 84 = .ok (.iaload, 1) := by decide +kernel
theorem dL_moves_85 : decode cL_moves 85 = .ok (.iastore, 1) := by decide +kernel
theorem dL_moves_86 : decode cL_moves 86 = .ok (.return_, 1) := by decide +kernel
theorem dL_drops_0 : decode cL_drops 0 = .ok (.aload_n 0, 1) := by decide +kernel
theorem dL_drops_1 : decode cL_drops 1 = .ok (.bipush 60, 2) := by decide +kernel
theorem dL_drops_3 : decode cL_drops 3 = .ok (.dup2, 1) := by decide +kernel
theorem dL_drops_4 : decode cL_drops 4 = .ok (.iaload, 1) := by decide +kernel
theorem dL_drops_5 : decode cL_drops 5 = .ok (.iconst 1, 1) := by decide +kernel
theorem dL_drops_6 : decode cL_drops 6 = .ok (.isub, 1) := by decide +kernel
theorem dL_drops_7 : decode cL_drops 7 = .ok (.iastore, 1) := by decide +kernel
theorem dL_drops_8 : decode cL_drops 8 = .ok (.iconst 5, 1) := by decide +kernel
theorem dL_drops_9 : decode cL_drops 9 = .ok (.iload_n 1, 1) := by decide +kernel
theorem dL_drops_10 : decode cL_drops 10 = .ok (.imul, 1) := by decide +kernel
theorem dL_drops_11 : decode cL_drops 11 = .ok (.istore_n 2, 1) := by decide +kernel
theorem dL_drops_12 : decode cL_drops 12 = .ok (.iload_n 2, 1) := by decide +kernel
theorem dL_drops_13 : decode cL_drops 13 = .ok (.iconst 5, 1) := by decide +kernel
theorem dL_drops_14 : decode cL_drops 14 = .ok (.aload_n 0, 1) := by decide +kernel
theorem dL_drops_15 : decode cL_drops 15 = .ok (.bipush 60, 2) := by decide +kernel
theorem dL_drops_17 : decode cL_drops 17 = .ok (.iaload, 1) := by decide +kernel
theorem dL_drops_18 : decode cL_drops 18 = .ok (.imul, 1) := by decide +kernel
theorem dL_drops_19 : decode cL_drops 19 = .ok (.if_icmp .ge 17, 3) := by decide +kernel
theorem dL_drops_22 : decode cL_drops 22 = .ok (.aload_n 0, 1) := by decide +kernel
theorem dL_drops_23 : decode cL_drops 23 = .ok (.iload_n 2, 1) := by decide +kernel
theorem dL_drops_24 : decode cL_drops 24 = .ok (.aload_n 0, 1) := by decide +kernel
theorem dL_drops_25 : decode cL_drops 25 = .ok (.iload_n 2, 1) := by decide +kernel
theorem dL_drops_26 : decode cL_drops 26 = .ok (.iconst 5, 1) := by decide +kernel
theorem dL_drops_27 : decode cL_drops 27 = .ok (.iadd, 1) := by decide +kernel
theorem dL_drops_28 : decode cL_drops 28 = .ok (.iaload, 1) := by decide +kernel
theorem dL_drops_29 : decode cL_drops 29 = .ok (.iastore, 1) := by decide +kernel
theorem dL_drops_30 : decode cL_drops 30 = .ok (.iinc 2 1, 3) := by decide +kernel
theorem dL_drops_33 : decode cL_drops 33 = .ok (.goto (-21), 3) := by decide +kernel
theorem dL_drops_36 : decode cL_drops 36 = .ok (.return_, 1) := by decide +kernel
theorem dL_orders_0 : decode cL_orders 0 = .ok (.iconst 0, 1) := by decide +kernel
theorem dL_orders_1 : decode cL_orders 1 = .ok (.istore_n 2, 1) := by decide +kernel
theorem dL_orders_2 : decode cL_orders 2 = .ok (.iload_n 2, 1) := by decide +kernel
theorem dL_orders_3 : decode cL_orders 3 = .ok (.aload_n 1, 1) := by decide +kernel
theorem dL_orders_4 : decode cL_orders 4 = .ok (.bipush 60, 2) := by decide +kernel
theorem dL_orders_6 : decode cL_orders 6 = .ok (.iaload, 1) := by decide +kernel
theorem dL_orders_7 : decode cL_orders 7 = .ok (.if_icmp .ge 136, 3) := by decide +kernel
theorem dL_orders_10 : decode cL_orders 10 = .ok (.iconst 5, 1) := by decide +kernel
theorem dL_orders_11 : decode cL_orders 11 = .ok (.iload_n 2, 1) := by decide +kernel
theorem dL_orders_12 : decode cL_orders 12 = .ok (.imul, 1) := by decide +kernel
theorem dL_orders_13 : decode cL_orders 13 = .ok (.istore_n 3, 1) := by decide +kernel
theorem dL_orders_14 : decode cL_orders 14 = .ok (.aload_n 1, 1) := by decide +kernel
theorem dL_orders_15 : decode cL_orders 15 = .ok (.iload_n 3, 1) := by decide +kernel
theorem dL_orders_16 : decode cL_orders 16 = .ok (.iconst 1, 1) := by decide +kernel
theorem dL_orders_17 : decode cL_orders 17 = .ok (.iadd, 1) := by decide +kernel
theorem dL_orders_18 : decode cL_orders 18 = .ok (.iaload, 1) := by decide +kernel
theorem dL_orders_19 : decode cL_orders 19 = .ok (.iconst 2, 1) := by decide +kernel
theorem dL_orders_20 : decode cL_orders 20 = .ok (.if_icmp .ne 7, 3) := by decide +kernel
theorem dL_orders_23 : decode cL_orders 23 = .ok (.iconst 1, 1) := by decide +kernel
theorem dL_orders_24 : decode cL_orders 24 = .ok (.goto 4, 3) := by decide +kernel
theorem dL_orders_27 : decode cL_orders 27 = .ok (.iconst 0, 1) := by decide +kernel
theorem dL_orders_28 : decode cL_orders 28 = .ok (.istore 4, 2) := by decide +kernel
theorem dL_orders_30 : decode cL_orders 30 = .ok (.iload 4, 2) := by decide +kernel
theorem dL_orders_32 : decode cL_orders 32 = .ok (.ifCond .eq 10, 3) := by decide +kernel
theorem dL_orders_35 : decode cL_orders 35 = .ok (.aload_n 0, 1) := by decide +kernel
theorem dL_orders_36 : decode cL_orders 36 = .ok (.bipush 49, 2) := by decide +kernel
theorem dL_orders_38 : decode cL_orders 38 = .ok (.iaload, 1) := by decide +kernel
theorem dL_orders_39 : decode cL_orders 39 = .ok (.goto 15, 3) := by decide +kernel
theorem dL_orders_42 : decode cL_orders 42 = .ok (.aload_n 0, 1) := by decide +kernel
theorem dL_orders_43 : decode cL_orders 43 = .ok (.bipush 49, 2) := by decide +kernel
theorem dL_orders_45 : decode cL_orders 45 = .ok (.iaload, 1) := by decide +kernel
theorem dL_orders_46 : decode cL_orders 46 = .ok (.iconst 4, 1) := by decide +kernel
theorem dL_orders_47 : decode cL_orders 47 = .ok (.aload_n 1, 1) := by decide +kernel
theorem dL_orders_48 : decode cL_orders 48 = .ok (.iload_n 3, 1) := by decide +kernel
theorem dL_orders_49 : decode cL_orders 49 = .ok (.iconst 2, 1) := by decide +kernel
theorem dL_orders_50 : decode cL_orders 50 = .ok (.iadd, 1) := by decide +kernel
theorem dL_orders_51 : decode cL_orders 51 = .ok (.iaload, 1) := by decide +kernel
theorem dL_orders_52 : decode cL_orders 52 = .ok (.imul, 1) := by decide +kernel
theorem dL_orders_53 : decode cL_orders 53 = .ok (.isub, 1) := by decide +kernel
theorem dL_orders_54 : decode cL_orders 54 = .ok (.istore 5, 2) := by decide +kernel
theorem dL_orders_56 : decode cL_orders 56 = .ok (.iload 5, 2) := by decide +kernel
theorem dL_orders_58 : decode cL_orders 58 = .ok (.aload_n 1, 1) := by decide +kernel
theorem dL_orders_59 : decode cL_orders 59 = .ok (.iload_n 3, 1) := by decide +kernel
theorem dL_orders_60 : decode cL_orders 60 = .ok (.iaload, 1) := by decide +kernel
theorem dL_orders_61 : decode cL_orders 61 = .ok (.if_icmp .lt 76, 3) := by decide +kernel
theorem dL_orders_64 : decode cL_orders 64 = .ok (.iload 4, 2) := by decide +kernel
theorem dL_orders_66 : decode cL_orders 66 = .ok (.ifCond .ne 15, 3) := by decide +kernel
theorem dL_orders_69 : decode cL_orders 69 = .ok (.aload_n 1, 1) := by decide +kernel
theorem dL_orders_70 : decode cL_orders 70 = .ok (.iload_n 3, 1) := by decide +kernel
theorem dL_orders_71 : decode cL_orders 71 = .ok (.iconst 2, 1) := by decide +kernel
theorem dL_orders_72 : decode cL_orders 72 = .ok (.iadd, 1) := by decide +kernel
theorem dL_orders_73 : decode cL_orders 73 = .ok (.iaload, 1) := by decide +kernel
theorem dL_orders_74 : decode cL_orders 74 = .ok (.aload_n 0, 1) := by decide +kernel
theorem dL_orders_75 : decode cL_orders 75 = .ok (.bipush 48, 2) := by decide +kernel
theorem dL_orders_77 : decode cL_orders 77 = .ok (.iaload, 1) := by decide +kernel
theorem dL_orders_78 : decode cL_orders 78 = .ok (.if_icmp .ge 59, 3) := by decide +kernel
theorem dL_orders_81 : decode cL_orders 81 = .ok (.iload 4, 2) := by decide +kernel
theorem dL_orders_83 : decode cL_orders 83 = .ok (.ifCond .eq 15, 3) := by decide +kernel
theorem dL_orders_86 : decode cL_orders 86 = .ok (.aload_n 0, 1) := by decide +kernel
theorem dL_orders_87 : decode cL_orders 87 = .ok (.bipush 51, 2) := by decide +kernel
theorem dL_orders_89 : decode cL_orders 89 = .ok (.aload_n 1, 1) := by decide +kernel
theorem dL_orders_90 : decode cL_orders 90 = .ok (.iload_n 3, 1) := by decide +kernel
theorem dL_orders_91 : decode cL_orders 91 = .ok (.iconst 4, 1) := by decide +kernel
theorem dL_orders_92 : decode cL_orders 92 = .ok (.iadd, 1) := by decide +kernel
theorem dL_orders_93 : decode cL_orders 93 = .ok (.iaload, 1) := by decide +kernel
theorem dL_orders_94 : decode cL_orders 94 = .ok (.iastore, 1) := by decide +kernel
theorem dL_orders_95 : decode cL_orders 95 = .ok (.goto 34, 3) := by decide +kernel
theorem dL_orders_98 : decode cL_orders 98 = .ok (.aload_n 0, 1) := by decide +kernel
theorem dL_orders_99 : decode cL_orders 99 = .ok (.aload_n 1, 1) := by decide +kernel
theorem dL_orders_100 : decode cL_orders 100 = .ok (.iload_n 3, 1) := by decide +kernel
theorem dL_orders_101 : decode cL_orders 101 = .ok (.iconst 2, 1) := by decide +kernel
theorem dL_orders_102 : decode cL_orders 102 = .ok (.iadd, 1) := by decide +kernel
theorem dL_orders_103 : decode cL_orders 103 = .ok (.iaload, 1) := by decide +kernel
theorem dL_orders_104 : decode cL_orders 104 = .ok (.aload_n 1, 1) := by decide +kernel
theorem dL_orders_105 : decode cL_orders 105 = .ok (.iload_n 3, 1) := by decide +kernel
theorem dL_orders_106 : decode cL_orders 106 = .ok (.iconst 3, 1) := by decide +kernel
theorem dL_orders_107 : decode cL_orders 107 = .ok (.iadd, 1) := by decide +kernel
theorem dL_orders_108 : decode cL_orders 108 = .ok (.iaload, 1) := by decide +kernel
theorem dL_orders_109 : decode cL_orders 109 = .ok (.aload_n 1, 1) := by decide +kernel
theorem dL_orders_110 : decode cL_orders 110 = .ok (.iload_n 3, 1) := by decide +kernel
theorem dL_orders_111 : decode cL_orders 111 = .ok (.iconst 1, 1) := by decide +kernel
theorem dL_orders_112 : decode cL_orders 112 = .ok (.iadd, 1) := by decide +kernel
theorem dL_orders_113 : decode cL_orders 113 = .ok (.iaload, 1) := by decide +kernel
theorem dL_orders_114 : decode cL_orders 114 = .ok (.ifCond .ne 11, 3) := by decide +kernel
theorem dL_orders_117 : decode cL_orders 117 = .ok (.aload_n 1, 1) := by decide +kernel
theorem dL_orders_118 : decode cL_orders 118 = .ok (.iload_n 3, 1) := by decide +kernel
theorem dL_orders_119 : decode cL_orders 119 = .ok (.iconst 4, 1) := by decide +kernel
theorem dL_orders_120 : decode cL_orders 120 = .ok (.iadd, 1) := by decide +kernel
theorem dL_orders_121 : decode cL_orders 121 = .ok (.iaload, 1) := by decide +kernel
theorem dL_orders_122 : decode cL_orders 122 = .ok (.goto 4, 3) := by decide +kernel
theorem dL_orders_125 : decode cL_orders 125 = .ok (.iconst 0, 1) := by decide +kernel
theorem dL_orders_126 : decode cL_orders 126 = .ok (.invokestatic 15, 3) := by decide +kernel
theorem dL_orders_129 : decode cL_orders 129 = .ok (.aload_n 1, 1) := by decide +kernel
theorem dL_orders_130 : decode cL_orders 130 = .ok (.iload_n 2, 1) := by decide +kernel
theorem dL_orders_131 : decode cL_orders 131 = .ok (.invokestatic 19, 3) := by decide +kernel
theorem dL_orders_134 : decode cL_orders 134 = .ok (.iinc 2 (-1), 3) := by decide +kernel
theorem dL_orders_137 : decode cL_orders 137 = .ok (.iinc 2 1, 3) := by decide +kernel
theorem dL_orders_140 : decode cL_orders 140 = .ok (.goto (-138), 3) := by decide +kernel
theorem dL_orders_143 : decode cL_orders 143 = .ok (.return_, 1) := by decide +kernel
theorem dL_second_0 : decode cL_second 0 = .ok (.aload_n 1, 1) := by decide +kernel
theorem dL_second_1 : decode cL_second 1 = .ok (.bipush 50, 2) := by decide +kernel
theorem dL_second_3 : decode cL_second 3 = .ok (.dup2, 1) := by decide +kernel
theorem dL_second_4 : decode cL_second 4 = .ok (.iaload, 1) := by decide +kernel
theorem dL_second_5 : decode cL_second 5 = .ok (.aload_n 1, 1) := by decide +kernel
theorem dL_second_6 : decode cL_second 6 = .ok (.bipush 51, 2) := by decide +kernel
theorem dL_second_8 : decode cL_second 8 = .ok (.iaload, 1) := by decide +kernel
theorem dL_second_9 : decode cL_second 9 = .ok (.aload_n 1, 1) := by decide +kernel
theorem dL_second_10 : decode cL_second 10 = .ok (.bipush 50, 2) := by decide +kernel
theorem dL_second_12 : decode cL_second 12 = .ok (.iaload, 1) := by decide +kernel
theorem dL_second_13 : decode cL_second 13 = .ok (.if_icmp .ne 7, 3) := by decide +kernel
theorem dL_second_16 : decode cL_second 16 = .ok (.iconst 0, 1) := by decide +kernel
theorem dL_second_17 : decode cL_second 17 = .ok (.goto 19, 3) := by decide +kernel
theorem dL_second_20 : decode cL_second 20 = .ok (.aload_n 1, 1) := by decide +kernel
theorem dL_second_21 : decode cL_second 21 = .ok (.bipush 51, 2) := by decide +kernel
theorem dL_second_23 : decode cL_second 23 = .ok (.iaload, 1) := by decide +kernel
theorem dL_second_24 : decode cL_second 24 = .ok (.aload_n 1, 1) := by decide +kernel
theorem dL_second_25 : decode cL_second 25 = .ok (.bipush 50, 2) := by decide +kernel
theorem dL_second_27 : decode cL_second 27 = .ok (.iaload, 1) := by decide +kernel
theorem dL_second_28 : decode cL_second 28 = .ok (.if_icmp .le 7, 3) := by decide +kernel
theorem dL_second_31 : decode cL_second 31 = .ok (.iconst 1, 1) := by decide +kernel
theorem dL_second_32 : decode cL_second 32 = .ok (.goto 4, 3) := by decide +kernel
theorem dL_second_35 : decode cL_second 35 = .ok (.iconst (-1), 1) := by decide +kernel
theorem dL_second_36 : decode cL_second 36 = .ok (.iadd, 1) := by decide +kernel
theorem dL_second_37 : decode cL_second 37 = .ok (.iastore, 1) := by decide +kernel
theorem dL_second_38 : decode cL_second 38 = .ok (.aload_n 1, 1) := by decide +kernel
theorem dL_second_39 : decode cL_second 39 = .ok (.bipush 49, 2) := by decide +kernel
theorem dL_second_41 : decode cL_second 41 = .ok (.aload_n 1, 1) := by decide +kernel
theorem dL_second_42 : decode cL_second 42 = .ok (.bipush 49, 2) := by decide +kernel
theorem dL_second_44 : decode cL_second 44 = .ok (.iaload, 1) := by decide +kernel
theorem dL_second_45 : decode cL_second 45 = .ok (.aload_n 1, 1) := by decide +kernel
theorem dL_second_46 : decode cL_second 46 = .ok (.bipush 50, 2) := by decide +kernel
theorem dL_second_48 : decode cL_second 48 = .ok (.iaload, 1) := by decide +kernel
theorem dL_second_49 : decode cL_second 49 = .ok (.iadd, 1) := by decide +kernel
theorem dL_second_50 : decode cL_second 50 = .ok (.bipush 99, 2) := by decide +kernel
theorem dL_second_52 : decode cL_second 52 = .ok (.if_icmp .le 8, 3) := by decide +kernel
theorem dL_second_55 : decode cL_second 55 = .ok (.bipush 99, 2) := by decide +kernel
theorem dL_second_57 : decode cL_second 57 = .ok (.goto 12, 3) := by decide +kernel
theorem dL_second_60 : decode cL_second 60 = .ok (.aload_n 1, 1) := by decide +kernel
theorem dL_second_61 : decode cL_second 61 = .ok (.bipush 49, 2) := by decide +kernel
theorem dL_second_63 : decode cL_second 63 = .ok (.iaload, 1) := by decide +kernel
theorem dL_second_64 : decode cL_second 64 = .ok (.aload_n 1, 1) := by decide +kernel
theorem dL_second_65 : decode cL_second 65 = .ok (.bipush 50, 2) := by decide +kernel
theorem dL_second_67 : decode cL_second 67 = .ok (.iaload, 1) := by decide +kernel
theorem dL_second_68 : decode cL_second 68 = .ok (.iadd, 1) := by decide +kernel
theorem dL_second_69 : decode cL_second 69 = .ok (.iastore, 1) := by decide +kernel
theorem dL_second_70 : decode cL_second 70 = .ok (.aload_n 1, 1) := by decide +kernel
theorem dL_second_71 : decode cL_second 71 = .ok (.aload_n 2, 1) := by decide +kernel
theorem dL_second_72 : decode cL_second 72 = .ok (.invokestatic 22, 3) := by decide +kernel
theorem dL_second_75 : decode cL_second 75 = .ok (.iconst 0, 1) := by decide +kernel
theorem dL_second_76 : decode cL_second 76 = .ok (.istore_n 3, 1) := by decide +kernel
theorem dL_second_77 : decode cL_second 77 = .ok (.iload_n 3, 1) := by decide +kernel
theorem dL_second_78 : decode cL_second 78 = .ok (.aload_n 1, 1) := by decide +kernel
theorem dL_second_79 : decode cL_second 79 = .ok (.bipush 48, 2) := by decide +kernel
theorem dL_second_81 : decode cL_second 81 = .ok (.iaload, 1) := by decide +kernel
theorem dL_second_82 : decode cL_second 82 = .ok (.if_icmp .ge 134, 3) := by decide +kernel
theorem dL_second_85 : decode cL_second 85 = .ok (.aload_n 1, 1) := by decide +kernel
theorem dL_second_86 : decode cL_second 86 = .ok (.bipush 49, 2) := by decide +kernel
theorem dL_second_88 : decode cL_second 88 = .ok (.iaload, 1) := by decide +kernel
theorem dL_second_89 : decode cL_second 89 = .ok (.iconst 4, 1) := by decide +kernel
theorem dL_second_90 : decode cL_second 90 = .ok (.iload_n 3, 1) := by decide +kernel
theorem dL_second_91 : decode cL_second 91 = .ok (.imul, 1) := by decide +kernel
theorem dL_second_92 : decode cL_second 92 = .ok (.isub, 1) := by decide +kernel
theorem dL_second_93 : decode cL_second 93 = .ok (.istore 4, 2) := by decide +kernel
theorem dL_second_95 : decode cL_second 95 = .ok (.iconst 0, 1) := by decide +kernel
theorem dL_second_96 : decode cL_second 96 = .ok (.istore 5, 2) := by decide +kernel
theorem dL_second_98 : decode cL_second 98 = .ok (.iload 5, 2) := by decide +kernel
theorem dL_second_100 : decode cL_second 100 = .ok (.iconst 3, 1) := by decide +kernel
theorem dL_second_101 : decode cL_second 101 = .ok (.if_icmp .ge 109, 3) := by decide +kernel
theorem dL_second_104 : decode cL_second 104 = .ok (.aload_n 1, 1) := by decide +kernel
theorem dL_second_105 : decode cL_second 105 = .ok (.bipush 8, 2) := by decide +kernel
theorem dL_second_107 : decode cL_second 107 = .ok (.iload_n 3, 1) := by decide +kernel
theorem dL_second_108 : decode cL_second 108 = .ok (.imul, 1) := by decide +kernel
theorem dL_second_109 : decode cL_second 109 = .ok (.iaload, 1) := by decide +kernel
theorem dL_second_110 : decode cL_second 110 = .ok (.aload_n 1, 1) := by decide +kernel
theorem dL_second_111 : decode cL_second 111 = .ok (.bipush 8, 2) := by decide +kernel
theorem dL_second_113 : decode cL_second 113 = .ok (.iload_n 3, 1) := by decide +kernel
theorem dL_second_114 : decode cL_second 114 = .ok (.imul, 1) := by decide +kernel
theorem dL_second_115 : decode cL_second 115 = .ok (.iconst 2, 1) := by decide +kernel
theorem dL_second_116 : decode cL_second 116 = .ok (.iadd, 1) := by decide +kernel
theorem dL_second_117 : decode cL_second 117 = .ok (.iload 5, 2) := by decide +kernel
theorem dL_second_119 : decode cL_second 119 = .ok (.iadd, 1) := by decide +kernel
theorem dL_second_120 : decode cL_second 120 = .ok (.iaload, 1) := by decide +kernel
theorem dL_second_121 : decode cL_second 121 = .ok (.if_icmp .ge 12, 3) := by decide +kernel
theorem dL_second_124 : decode cL_second 124 = .ok (.aload_n 1, 1) := by decide +kernel
theorem dL_second_125 : decode cL_second 125 = .ok (.bipush 8, 2) := by decide +kernel
theorem dL_second_127 : decode cL_second 127 = .ok (.iload_n 3, 1) := by decide +kernel
theorem dL_second_128 : decode cL_second 128 = .ok (.imul, 1) := by decide +kernel
theorem dL_second_129 : decode cL_second 129 = .ok (.iaload, 1) := by decide +kernel
theorem dL_second_130 : decode cL_second 130 = .ok (.goto 14, 3) := by decide +kernel
theorem dL_second_133 : decode cL_second 133 = .ok (.aload_n 1, 1) := by decide +kernel
theorem dL_second_134 : decode cL_second 134 = .ok (.bipush 8, 2) := by decide +kernel
theorem dL_second_136 : decode cL_second 136 = .ok (.iload_n 3, 1) := by decide +kernel
theorem dL_second_137 : decode cL_second 137 = .ok (.imul, 1) := by decide +kernel
theorem dL_second_138 : decode cL_second 138 = .ok (.iconst 2, 1) := by decide +kernel
theorem dL_second_139 : decode cL_second 139 = .ok (.iadd, 1) := by decide +kernel
theorem dL_second_140 : decode cL_second 140 = .ok (.iload 5, 2) := by decide +kernel
theorem dL_second_142 : decode cL_second 142 = .ok (.iadd, 1) := by decide +kernel
theorem dL_second_143 : decode cL_second 143 = .ok (.iaload, 1) := by decide +kernel
theorem dL_second_144 : decode cL_second 144 = .ok (.istore 6, 2) := by decide +kernel
theorem dL_second_146 : decode cL_second 146 = .ok (.aload_n 1, 1) := by decide +kernel
theorem dL_second_147 : decode cL_second 147 = .ok (.bipush 8, 2) := by decide +kernel
theorem dL_second_149 : decode cL_second 149 = .ok (.iload_n 3, 1) := by decide +kernel
theorem dL_second_150 : decode cL_second 150 = .ok (.imul, 1) := by decide +kernel
theorem dL_second_151 : decode cL_second 151 = .ok (.dup2, 1) := by decide +kernel
theorem dL_second_152 : decode cL_second 152 = .ok (.iaload, 1) := by decide +kernel
theorem dL_second_153 : decode cL_second 153 = .ok (.iload 6, 2) := by decide +kernel
theorem dL_second_155 : decode cL_second 155 = .ok (.isub, 1) := by decide +kernel
theorem dL_second_156 : decode cL_second 156 = .ok (.iastore, 1) := by decide +kernel
theorem dL_second_157 : decode cL_second 157 = .ok (.aload_n 1, 1) := by decide +kernel
theorem dL_second_158 : decode cL_second 158 = .ok (.bipush 8, 2) := by decide +kernel
theorem dL_second_160 : decode cL_second 160 = .ok (.iload_n 3, 1) := by decide +kernel
theorem dL_second_161 : decode cL_second 161 = .ok (.imul, 1) := by decide +kernel
theorem dL_second_162 : decode cL_second 162 = .ok (.iconst 1, 1) := by decide +kernel
theorem dL_second_163 : decode cL_second 163 = .ok (.iadd, 1) := by decide +kernel
theorem dL_second_164 : decode cL_second 164 = .ok (.dup2, 1) := by decide +kernel
theorem dL_second_165 : decode cL_second 165 = .ok (.iaload, 1) := by decide +kernel
theorem dL_second_166 : decode cL_second 166 = .ok (.iload 6, 2) := by decide +kernel
theorem dL_second_168 : decode cL_second 168 = .ok (.iadd, 1) := by decide +kernel
theorem dL_second_169 : decode cL_second 169 = .ok (.iastore, 1) := by decide +kernel
theorem dL_second_170 : decode cL_second 170 = .ok (.iload 4, 2) := by decide +kernel
theorem dL_second_172 : decode cL_second 172 = .ok (.ifCond .lt 10, 3) := by decide +kernel
theorem dL_second_175 : decode cL_second 175 = .ok (.iload 4, 2) := by decide +kernel
theorem dL_second_177 : decode cL_second 177 = .ok (.bipush 39, 2) := by decide +kernel
theorem dL_second_179 : decode cL_second 179 = .ok (.if_icmp .le 15, 3) := by decide +kernel
theorem dL_second_182 : decode cL_second 182 = .ok (.aload_n 1, 1) := by decide +kernel
theorem dL_second_183 : decode cL_second 183 = .ok (.bipush 55, 2) := by decide +kernel
theorem dL_second_185 : decode cL_second 185 = .ok (.dup2, 1) := by decide +kernel
theorem dL_second_186 : decode cL_second 186 = .ok (.iaload, 1) := by decide +kernel
theorem dL_second_187 : decode cL_second 187 = .ok (.iload 6, 2) := by decide +kernel
theorem dL_second_189 : decode cL_second 189 = .ok (.iadd, 1) := by decide +kernel
theorem dL_second_190 : decode cL_second 190 = .ok (.iastore, 1) := by decide +kernel
theorem dL_second_191 : decode cL_second 191 = .ok (.goto 13, 3) := by decide +kernel
theorem dL_second_194 : decode cL_second 194 = .ok (.aload_n 0, 1) := by decide +kernel
theorem dL_second_195 : decode cL_second 195 = .ok (.iload 4, 2) := by decide +kernel
theorem dL_second_197 : decode cL_second 197 = .ok (.iload 5, 2) := by decide +kernel
theorem dL_second_199 : decode cL_second 199 = .ok (.iload 6, 2) := by decide +kernel
theorem dL_second_201 : decode cL_second 201 = .ok (.invokestatic 26, 3) := by decide +kernel
theorem dL_second_204 : decode cL_second 204 = .ok (.iinc 5 1, 3) := by decide +kernel
theorem dL_second_207 : decode cL_second 207 = .ok (.goto (-109), 3) := by decide +kernel
theorem dL_second_210 : decode cL_second 210 = .ok (.iinc 3 1, 3) := by decide +kernel
theorem dL_second_213 : decode cL_second 213 = .ok (.goto (-136), 3) := by decide +kernel
theorem dL_second_216 : decode cL_second 216 = .ok (.iconst 0, 1) := by decide +kernel
theorem dL_second_217 : decode cL_second 217 = .ok (.istore_n 3, 1) := by decide +kernel
theorem dL_second_218 : decode cL_second 218 = .ok (.iload_n 3, 1) := by decide +kernel
theorem dL_second_219 : decode cL_second 219 = .ok (.bipush 39, 2) := by decide +kernel
theorem dL_second_221 : decode cL_second 221 = .ok (.if_icmp .ge 94, 3) := by decide +kernel
theorem dL_second_224 : decode cL_second 224 = .ok (.iconst 0, 1) := by decide +kernel
theorem dL_second_225 : decode cL_second 225 = .ok (.istore 4, 2) := by decide +kernel
theorem dL_second_227 : decode cL_second 227 = .ok (.iload 4, 2) := by decide +kernel
theorem dL_second_229 : decode cL_second 229 = .ok (.iconst 3, 1) := by decide +kernel
theorem dL_second_230 : decode cL_second 230 = .ok (.if_icmp .ge 79, 3) := by decide +kernel
theorem dL_second_233 : decode cL_second 233 = .ok (.aload_n 0, 1) := by decide +kernel
theorem dL_second_234 : decode cL_second 234 = .ok (.iload_n 3, 1) := by decide +kernel
theorem dL_second_235 : decode cL_second 235 = .ok (.iload 4, 2) := by decide +kernel
theorem dL_second_237 : decode cL_second 237 = .ok (.invokestatic 29, 3) := by decide +kernel
theorem dL_second_240 : decode cL_second 240 = .ok (.aload_n 0, 1) := by decide +kernel
theorem dL_second_241 : decode cL_second 241 = .ok (.iload_n 3, 1) := by decide +kernel
theorem dL_second_242 : decode cL_second 242 = .ok (.iconst 1, 1) := by decide +kernel
theorem dL_second_243 : decode cL_second 243 = .ok (.iadd, 1) := by decide +kernel
theorem dL_second_244 : decode cL_second 244 = .ok (.iload 4, 2) := by decide +kernel
theorem dL_second_246 : decode cL_second 246 = .ok (.invokestatic 29, 3) := by decide +kernel
theorem dL_second_249 : decode cL_second 249 = .ok (.isub, 1) := by decide +kernel
theorem dL_second_250 : decode cL_second 250 = .ok (.istore 5, 2) := by decide +kernel
theorem dL_second_252 : decode cL_second 252 = .ok (.iload 5, 2) := by decide +kernel
theorem dL_second_254 : decode cL_second 254 = .ok (.aload_n 1, 1) := by decide +kernel
theorem dL_second_255 : decode cL_second 255 = .ok (.bipush 57, 2) := by decide +kernel
theorem dL_second_257 : decode cL_second 257 = .ok (.iaload, 1) := by decide +kernel
theorem dL_second_258 : decode cL_second 258 = .ok (.if_icmp .le 7, 3) := by decide +kernel
theorem dL_second_261 : decode cL_second 261 = .ok (.iconst 1, 1) := by decide +kernel
theorem dL_second_262 : decode cL_second 262 = .ok (.goto 18, 3) := by decide +kernel
theorem dL_second_265 : decode cL_second 265 = .ok (.iload 5, 2) := by decide +kernel
theorem dL_second_267 : decode cL_second 267 = .ok (.aload_n 1, 1) := by decide +kernel
theorem dL_second_268 : decode cL_second 268 = .ok (.bipush 57, 2) := by decide +kernel
theorem dL_second_270 : decode cL_second 270 = .ok (.iaload, 1) := by decide +kernel
theorem dL_second_271 : decode cL_second 271 = .ok (.ineg, 1) := by decide +kernel
theorem dL_second_272 : decode cL_second 272 = .ok (.if_icmp .ge 7, 3) := by decide +kernel
theorem dL_second_275 : decode cL_second 275 = .ok (.iconst (-1), 1) := by decide +kernel
theorem dL_second_276 : decode cL_second 276 = .ok (.goto 4, 3) := by decide +kernel
theorem dL_second_279 : decode cL_second 279 = .ok (.iconst 0, 1) := by decide +kernel
theorem dL_second_280 : decode cL_second 280 = .ok (.istore 6, 2) := by decide +kernel
theorem dL_second_282 : decode cL_second 282 = .ok (.aload_n 0, 1) := by decide +kernel
theorem dL_second_283 : decode cL_second 283 = .ok (.iload_n 3, 1) := by decide +kernel
theorem dL_second_284 : decode cL_second 284 = .ok (.iload 4, 2) := by decide +kernel
theorem dL_second_286 : decode cL_second 286 = .ok (.iload 6, 2) := by decide +kernel
theorem dL_second_288 : decode cL_second 288 = .ok (.ineg, 1) := by decide +kernel
theorem dL_second_289 : decode cL_second 289 = .ok (.invokestatic 26, 3) := by decide +kernel
theorem dL_second_292 : decode cL_second 292 = .ok (.aload_n 0, 1) := by decide +kernel
theorem dL_second_293 : decode cL_second 293 = .ok (.iload_n 3, 1) := by decide +kernel
theorem dL_second_294 : decode cL_second 294 = .ok (.iconst 1, 1) := by decide +kernel
theorem dL_second_295 : decode cL_second 295 = .ok (.iadd, 1) := by decide +kernel
theorem dL_second_296 : decode cL_second 296 = .ok (.iload 4, 2) := by decide +kernel
theorem dL_second_298 : decode cL_second 298 = .ok (.iload 6, 2) := by decide +kernel
theorem dL_second_300 : decode cL_second 300 = .ok (.invokestatic 26, 3) := by decide +kernel
theorem dL_second_303 : decode cL_second 303 = .ok (.iinc 4 1, 3) := by decide +kernel
theorem dL_second_306 : decode cL_second 306 = .ok (.goto (-79), 3) := by decide +kernel
theorem dL_second_309 : decode cL_second 309 = .ok (.iinc 3 1, 3) := by decide +kernel
theorem dL_second_312 : decode cL_second 312 = .ok (.goto (-94), 3) := by decide +kernel
theorem dL_second_315 : decode cL_second 315 = .ok (.iconst 0, 1) := by decide +kernel
theorem dL_second_316 : decode cL_second 316 = .ok (.istore_n 3, 1) := by decide +kernel
theorem dL_second_317 : decode cL_second 317 = .ok (.iload_n 3, 1) := by decide +kernel
theorem dL_second_318 : decode cL_second 318 = .ok (.bipush 40, 2) := by decide +kernel
theorem dL_second_320 : decode cL_second 320 = .ok (.if_icmp .ge 62, 3) := by decide +kernel
theorem dL_second_323 : decode cL_second 323 = .ok (.iconst 0, 1) := by decide +kernel
theorem dL_second_324 : decode cL_second 324 = .ok (.istore 4, 2) := by decide +kernel
theorem dL_second_326 : decode cL_second 326 = .ok (.iload 4, 2) := by decide +kernel
theorem dL_second_328 : decode cL_second 328 = .ok (.iconst 3, 1) := by decide +kernel
theorem dL_second_329 : decode cL_second 329 = .ok (.if_icmp .ge 47, 3) := by decide +kernel
theorem dL_second_332 : decode cL_second 332 = .ok (.aload_n 0, 1) := by decide +kernel
theorem dL_second_333 : decode cL_second 333 = .ok (.iload_n 3, 1) := by decide +kernel
theorem dL_second_334 : decode cL_second 334 = .ok (.iload 4, 2) := by decide +kernel
theorem dL_second_336 : decode cL_second 336 = .ok (.invokestatic 29, 3) := by decide +kernel
theorem dL_second_339 : decode cL_second 339 = .ok (.aload_n 1, 1) := by decide +kernel
theorem dL_second_340 : decode cL_second 340 = .ok (.bipush 58, 2) := by decide +kernel
theorem dL_second_342 : decode cL_second 342 = .ok (.iaload, 1) := by decide +kernel
theorem dL_second_343 : decode cL_second 343 = .ok (.isub, 1) := by decide +kernel
theorem dL_second_344 : decode cL_second 344 = .ok (.istore 5, 2) := by decide +kernel
theorem dL_second_346 : decode cL_second 346 = .ok (.iload 5, 2) := by decide +kernel
theorem dL_second_348 : decode cL_second 348 = .ok (.ifCond .le 22, 3) := by decide +kernel
theorem dL_second_351 : decode cL_second 351 = .ok (.aload_n 0, 1) := by decide +kernel
theorem dL_second_352 : decode cL_second 352 = .ok (.iload_n 3, 1) := by decide +kernel
theorem dL_second_353 : decode cL_second 353 = .ok (.iload 4, 2) := by decide +kernel
theorem dL_second_355 : decode cL_second 355 = .ok (.iload 5, 2) := by decide +kernel
theorem dL_second_357 : decode cL_second 357 = .ok (.ineg, 1) := by decide +kernel
theorem dL_second_358 : decode cL_second 358 = .ok (.invokestatic 26, 3) := by decide +kernel
theorem dL_second_361 : decode cL_second 361 = .ok (.aload_n 1, 1) := by decide +kernel
theorem dL_second_362 : decode cL_second 362 = .ok (.bipush 55, 2) := by decide +kernel
theorem dL_second_364 : decode cL_second 364 = .ok (.dup2, 1) := by decide +kernel
theorem dL_second_365 : decode cL_second 365 = .ok (.iaload, 1) := by decide +kernel
theorem dL_second_366 : decode cL_second 366 = .ok (.iload 5, 2) := by decide +kernel
theorem dL_second_368 : decode cL_second 368 = .ok (.iadd, 1) := by decide +kernel
theorem dL_second_369 : decode cL_second 369 = .ok (.iastore, 1) := by decide +kernel
theorem dL_second_370 : decode cL_second 370 = .ok (.iinc 4 2, 3) := by decide +kernel
theorem dL_second_373 : decode cL_second 373 = .ok (.goto (-47), 3) := by decide +kernel
theorem dL_second_376 : decode cL_second 376 = .ok (.iinc 3 1, 3) := by decide +kernel
theorem dL_second_379 : decode cL_second 379 = .ok (.goto (-62), 3) := by decide +kernel
theorem dL_second_382 : decode cL_second 382 = .ok (.iconst 0, 1) := by decide +kernel
theorem dL_second_383 : decode cL_second 383 = .ok (.istore_n 3, 1) := by decide +kernel
theorem dL_second_384 : decode cL_second 384 = .ok (.iload_n 3, 1) := by decide +kernel
theorem dL_second_385 : decode cL_second 385 = .ok (.aload_n 1, 1) := by decide +kernel
theorem dL_second_386 : decode cL_second 386 = .ok (.bipush 48, 2) := by decide +kernel
theorem dL_second_388 : decode cL_second 388 = .ok (.iaload, 1) := by decide +kernel
theorem dL_second_389 : decode cL_second 389 = .ok (.if_icmp .ge 120, 3) := by decide +kernel
theorem dL_second_392 : decode cL_second 392 = .ok (.iconst 0, 1) := by decide +kernel
theorem dL_second_393 : decode cL_second 393 = .ok (.istore 4, 2) := by decide +kernel
theorem dL_second_395 : decode cL_second 395 = .ok (.iload 4, 2) := by decide +kernel
theorem dL_second_397 : decode cL_second 397 = .ok (.iconst 3, 1) := by decide +kernel
theorem dL_second_398 : decode cL_second 398 = .ok (.if_icmp .ge 105, 3) := by decide +kernel
theorem dL_second_401 : decode cL_second 401 = .ok (.bipush 8, 2) := by decide +kernel
theorem dL_second_403 : decode cL_second 403 = .ok (.iload_n 3, 1) := by decide +kernel
theorem dL_second_404 : decode cL_second 404 = .ok (.imul, 1) := by decide +kernel
theorem dL_second_405 : decode cL_second 405 = .ok (.iconst 5, 1) := by decide +kernel
theorem dL_second_406 : decode cL_second 406 = .ok (.iadd, 1) := by decide +kernel
theorem dL_second_407 : decode cL_second 407 = .ok (.iload 4, 2) := by decide +kernel
theorem dL_second_409 : decode cL_second 409 = .ok (.iadd, 1) := by decide +kernel
theorem dL_second_410 : decode cL_second 410 = .ok (.istore 5, 2) := by decide +kernel
theorem dL_second_412 : decode cL_second 412 = .ok (.aload_n 1, 1) := by decide +kernel
theorem dL_second_413 : decode cL_second 413 = .ok (.iload 5, 2) := by decide +kernel
theorem dL_second_415 : decode cL_second 415 = .ok (.iaload, 1) := by decide +kernel
theorem dL_second_416 : decode cL_second 416 = .ok (.ifCond .ne 66, 3) := by decide +kernel
theorem dL_second_419 : decode cL_second 419 = .ok (.aload_n 1, 1) := by decide +kernel
theorem dL_second_420 : decode cL_second 420 = .ok (.bipush 8, 2) := by decide +kernel
theorem dL_second_422 : decode cL_second 422 = .ok (.iload_n 3, 1) := by decide +kernel
theorem dL_second_423 : decode cL_second 423 = .ok (.imul, 1) := by decide +kernel
theorem dL_second_424 : decode cL_second 424 = .ok (.iaload, 1) := by decide +kernel
theorem dL_second_425 : decode cL_second 425 = .ok (.aload_n 1, 1) := by decide +kernel
theorem dL_second_426 : decode cL_second 426 = .ok (.bipush 60, 2) := by decide +kernel
theorem dL_second_428 : decode cL_second 428 = .ok (.iaload, 1) := by decide +kernel
theorem dL_second_429 : decode cL_second 429 = .ok (.if_icmp .le 7, 3) := by decide +kernel
theorem dL_second_432 : decode cL_second 432 = .ok (.iconst 1, 1) := by decide +kernel
theorem dL_second_433 : decode cL_second 433 = .ok (.goto 4, 3) := by decide +kernel
theorem dL_second_436 : decode cL_second 436 = .ok (.iconst 0, 1) := by decide +kernel
theorem dL_second_437 : decode cL_second 437 = .ok (.istore 6, 2) := by decide +kernel
theorem dL_second_439 : decode cL_second 439 = .ok (.aload_n 1, 1) := by decide +kernel
theorem dL_second_440 : decode cL_second 440 = .ok (.iload 5, 2) := by decide +kernel
theorem dL_second_442 : decode cL_second 442 = .ok (.iconst 3, 1) := by decide +kernel
theorem dL_second_443 : decode cL_second 443 = .ok (.isub, 1) := by decide +kernel
theorem dL_second_444 : decode cL_second 444 = .ok (.iload 6, 2) := by decide +kernel
theorem dL_second_446 : decode cL_second 446 = .ok (.ifCond .eq 7, 3) := by decide +kernel
theorem dL_second_449 : decode cL_second 449 = .ok (.iconst 1, 1) := by decide +kernel
theorem dL_second_450 : decode cL_second 450 = .ok (.goto 4, 3) := by decide +kernel
theorem dL_second_453 : decode cL_second 453 = .ok (.iconst 0, 1) := by decide +kernel
theorem dL_second_454 : decode cL_second 454 = .ok (.iastore, 1) := by decide +kernel
theorem dL_second_455 : decode cL_second 455 = .ok (.aload_n 1, 1) := by decide +kernel
theorem dL_second_456 : decode cL_second 456 = .ok (.bipush 53, 2) := by decide +kernel
theorem dL_second_458 : decode cL_second 458 = .ok (.dup2, 1) := by decide +kernel
theorem dL_second_459 : decode cL_second 459 = .ok (.iaload, 1) := by decide +kernel
theorem dL_second_460 : decode cL_second 460 = .ok (.iload 6, 2) := by decide +kernel
theorem dL_second_462 : decode cL_second 462 = .ok (.ifCond .eq 7, 3) := by decide +kernel
theorem dL_second_465 : decode cL_second 465 = .ok (.iconst 1, 1) := by decide +kernel
theorem dL_second_466 : decode cL_second 466 = .ok (.goto 4, 3) := by decide +kernel
theorem dL_second_469 : decode cL_second 469 = .ok (.iconst 0, 1) := by decide +kernel
theorem dL_second_470 : decode cL_second 470 = .ok (.iadd, 1) := by decide +kernel
theorem dL_second_471 : decode cL_second 471 = .ok (.iastore, 1) := by decide +kernel
theorem dL_second_472 : decode cL_second 472 = .ok (.aload_n 1, 1) := by decide +kernel
theorem dL_second_473 : decode cL_second 473 = .ok (.iload 5, 2) := by decide +kernel
theorem dL_second_475 : decode cL_second 475 = .ok (.sipush (-1001), 3) := by decide +kernel
theorem dL_second_478 : decode cL_second 478 = .ok (.iastore, 1) := by decide +kernel
theorem dL_second_479 : decode cL_second 479 = .ok (.goto 18, 3) := by decide +kernel
theorem dL_second_482 : decode cL_second 482 = .ok (.aload_n 1, 1) := by decide +kernel
theorem dL_second_483 : decode cL_second 483 = .ok (.iload 5, 2) := by decide +kernel
theorem dL_second_485 : decode cL_second 485 = .ok (.iaload, 1) := by decide +kernel
theorem dL_second_486 : decode cL_second 486 = .ok (.ifCond .le 11, 3) := by decide +kernel
theorem dL_second_489 : decode cL_second 489 = .ok (.aload_n 1, 1) := by decide +kernel
theorem dL_second_490 : decode cL_second 490 = .ok (.iload 5, 2) := by decide +kernel
theorem dL_second_492 : decode cL_second 492 = .ok (.dup2, 1) := by decide +kernel
theorem dL_second_493 : decode cL_second 493 = .ok (.iaload, 1) := by decide +kernel
theorem dL_second_494 : decode cL_second 494 = .ok (.iconst 1, 1) := by decide +kernel
theorem dL_second_495 : decode cL_second 495 = .ok (.isub, 1) := by decide +kernel
theorem dL_second_496 : decode cL_second 496 = .ok (.iastore, 1) := by decide +kernel
theorem dL_second_497 : decode cL_second 497 = .ok (.iinc 4 1, 3) := by decide +kernel
theorem dL_second_500 : decode cL_second 500 = .ok (.goto (-105), 3) := by decide +kernel
theorem dL_second_503 : decode cL_second 503 = .ok (.iinc 3 1, 3) := by decide +kernel
theorem dL_second_506 : decode cL_second 506 = .ok (.goto (-122), 3) := by decide +kernel
theorem dL_second_509 : decode cL_second 509 = .ok (.aload_n 1, 1) := by decide +kernel
theorem dL_second_510 : decode cL_second 510 = .ok (.bipush 52, 2) := by decide +kernel
theorem dL_second_512 : decode cL_second 512 = .ok (.dup2, 1) := by decide +kernel
theorem dL_second_513 : decode cL_second 513 = .ok (.iaload, 1) := by decide +kernel
theorem dL_second_514 : decode cL_second 514 = .ok (.iconst 1, 1) := by decide +kernel
theorem dL_second_515 : decode cL_second 515 = .ok (.iadd, 1) := by decide +kernel
theorem dL_second_516 : decode cL_second 516 = .ok (.iastore, 1) := by decide +kernel
theorem dL_second_517 : decode cL_second 517 = .ok (.return_, 1) := by decide +kernel
theorem dL_inWagons_0 : decode cL_inWagons 0 = .ok (.aload_n 0, 1) := by decide +kernel
theorem dL_inWagons_1 : decode cL_inWagons 1 = .ok (.iconst 0, 1) := by decide +kernel
theorem dL_inWagons_2 : decode cL_inWagons 2 = .ok (.iaload, 1) := by decide +kernel
theorem dL_inWagons_3 : decode cL_inWagons 3 = .ok (.aload_n 0, 1) := by decide +kernel
theorem dL_inWagons_4 : decode cL_inWagons 4 = .ok (.bipush 8, 2) := by decide +kernel
theorem dL_inWagons_6 : decode cL_inWagons 6 = .ok (.iaload, 1) := by decide +kernel
theorem dL_inWagons_7 : decode cL_inWagons 7 = .ok (.iadd, 1) := by decide +kernel
theorem dL_inWagons_8 : decode cL_inWagons 8 = .ok (.aload_n 0, 1) := by decide +kernel
theorem dL_inWagons_9 : decode cL_inWagons 9 = .ok (.bipush 16, 2) := by decide +kernel
theorem dL_inWagons_11 : decode cL_inWagons 11 = .ok (.iaload, 1) := by decide +kernel
theorem dL_inWagons_12 : decode cL_inWagons 12 = .ok (.iadd, 1) := by decide +kernel
theorem dL_inWagons_13 : decode cL_inWagons 13 = .ok (.aload_n 0, 1) := by decide +kernel
theorem dL_inWagons_14 : decode cL_inWagons 14 = .ok (.bipush 24, 2) := by decide +kernel
theorem dL_inWagons_16 : decode cL_inWagons 16 = .ok (.iaload, 1) := by decide +kernel
theorem dL_inWagons_17 : decode cL_inWagons 17 = .ok (.iadd, 1) := by decide +kernel
theorem dL_inWagons_18 : decode cL_inWagons 18 = .ok (.aload_n 0, 1) := by decide +kernel
theorem dL_inWagons_19 : decode cL_inWagons 19 = .ok (.bipush 32, 2) := by decide +kernel
theorem dL_inWagons_21 : decode cL_inWagons 21 = .ok (.iaload, 1) := by decide +kernel
theorem dL_inWagons_22 : decode cL_inWagons 22 = .ok (.iadd, 1) := by decide +kernel
theorem dL_inWagons_23 : decode cL_inWagons 23 = .ok (.aload_n 0, 1) := by decide +kernel
theorem dL_inWagons_24 : decode cL_inWagons 24 = .ok (.bipush 40, 2) := by decide +kernel
theorem dL_inWagons_26 : decode cL_inWagons 26 = .ok (.iaload, 1) := by decide +kernel
theorem dL_inWagons_27 : decode cL_inWagons 27 = .ok (.iadd, 1) := by decide +kernel
theorem dL_inWagons_28 : decode cL_inWagons 28 = .ok (.ireturn, 1) := by decide +kernel
theorem dL_sum_0 : decode cL_sum 0 = .ok (.iconst 0, 1) := by decide +kernel
theorem dL_sum_1 : decode cL_sum 1 = .ok (.istore_n 2, 1) := by decide +kernel
theorem dL_sum_2 : decode cL_sum 2 = .ok (.iconst 0, 1) := by decide +kernel
theorem dL_sum_3 : decode cL_sum 3 = .ok (.istore_n 3, 1) := by decide +kernel
theorem dL_sum_4 : decode cL_sum 4 = .ok (.iload_n 3, 1) := by decide +kernel
theorem dL_sum_5 : decode cL_sum 5 = .ok (.bipush 40, 2) := by decide +kernel
theorem dL_sum_7 : decode cL_sum 7 = .ok (.if_icmp .ge 18, 3) := by decide +kernel
theorem dL_sum_10 : decode cL_sum 10 = .ok (.iload_n 2, 1) := by decide +kernel
theorem dL_sum_11 : decode cL_sum 11 = .ok (.aload_n 0, 1) := by decide +kernel
theorem dL_sum_12 : decode cL_sum 12 = .ok (.iload_n 3, 1) := by decide +kernel
theorem dL_sum_13 : decode cL_sum 13 = .ok (.iload_n 1, 1) := by decide +kernel
theorem dL_sum_14 : decode cL_sum 14 = .ok (.invokestatic 29, 3) := by decide +kernel
theorem dL_sum_17 : decode cL_sum 17 = .ok (.iadd, 1) := by decide +kernel
theorem dL_sum_18 : decode cL_sum 18 = .ok (.istore_n 2, 1) := by decide +kernel
theorem dL_sum_19 : decode cL_sum 19 = .ok (.iinc 3 1, 3) := by decide +kernel
theorem dL_sum_22 : decode cL_sum 22 = .ok (.goto (-18), 3) := by decide +kernel
theorem dL_sum_25 : decode cL_sum 25 = .ok (.iload_n 2, 1) := by decide +kernel
theorem dL_sum_26 : decode cL_sum 26 = .ok (.ireturn, 1) := by decide +kernel
theorem dL_sets_0 : decode cL_sets 0 = .ok (.aload_n 1, 1) := by decide +kernel
theorem dL_sets_1 : decode cL_sets 1 = .ok (.bipush 57, 2) := by decide +kernel
theorem dL_sets_3 : decode cL_sets 3 = .ok (.iload_n 2, 1) := by decide +kernel
theorem dL_sets_4 : decode cL_sets 4 = .ok (.iadd, 1) := by decide +kernel
theorem dL_sets_5 : decode cL_sets 5 = .ok (.iaload, 1) := by decide +kernel
theorem dL_sets_6 : decode cL_sets 6 = .ok (.istore 4, 2) := by decide +kernel
theorem dL_sets_8 : decode cL_sets 8 = .ok (.aload_n 1, 1) := by decide +kernel
theorem dL_sets_9 : decode cL_sets 9 = .ok (.bipush 57, 2) := by decide +kernel
theorem dL_sets_11 : decode cL_sets 11 = .ok (.iload_n 2, 1) := by decide +kernel
theorem dL_sets_12 : decode cL_sets 12 = .ok (.iadd, 1) := by decide +kernel
theorem dL_sets_13 : decode cL_sets 13 = .ok (.iload_n 3, 1) := by decide +kernel
theorem dL_sets_14 : decode cL_sets 14 = .ok (.iastore, 1) := by decide +kernel
theorem dL_sets_15 : decode cL_sets 15 = .ok (.aload_n 0, 1) := by decide +kernel
theorem dL_sets_16 : decode cL_sets 16 = .ok (.iload_n 2, 1) := by decide +kernel
theorem dL_sets_17 : decode cL_sets 17 = .ok (.iload_n 3, 1) := by decide +kernel
theorem dL_sets_18 : decode cL_sets 18 = .ok (.invokevirtual 33, 3) := by decide +kernel
theorem dL_sets_21 : decode cL_sets 21 = .ok (.iload 4, 2) := by decide +kernel
theorem dL_sets_23 : decode cL_sets 23 = .ok (.if_icmp .ne 33, 3) := by decide +kernel
theorem dL_sets_26 : decode cL_sets 26 = .ok (.aload_n 0, 1) := by decide +kernel
theorem dL_sets_27 : decode cL_sets 27 = .ok (.iload_n 2, 1) := by decide +kernel
theorem dL_sets_28 : decode cL_sets 28 = .ok (.sipush 201, 3) := by decide +kernel
theorem dL_sets_31 : decode cL_sets 31 = .ok (.invokevirtual 33, 3) := by decide +kernel
theorem dL_sets_34 : decode cL_sets 34 = .ok (.sipush (-1002), 3) := by decide +kernel
theorem dL_sets_37 : decode cL_sets 37 = .ok (.if_icmp .ne 19, 3) := by decide +kernel
theorem dL_sets_40 : decode cL_sets 40 = .ok (.aload_n 0, 1) := by decide +kernel
theorem dL_sets_41 : decode cL_sets 41 = .ok (.iconst 5, 1) := by decide +kernel
theorem dL_sets_42 : decode cL_sets 42 = .ok (.iconst 1, 1) := by decide +kernel
theorem dL_sets_43 : decode cL_sets 43 = .ok (.invokevirtual 33, 3) := by decide +kernel
theorem dL_sets_46 : decode cL_sets 46 = .ok (.sipush (-1002), 3) := by decide +kernel
theorem dL_sets_49 : decode cL_sets 49 = .ok (.if_icmp .ne 7, 3) := by decide +kernel
theorem dL_sets_52 : decode cL_sets 52 = .ok (.iconst 1, 1) := by decide +kernel
theorem dL_sets_53 : decode cL_sets 53 = .ok (.goto 4, 3) := by decide +kernel
theorem dL_sets_56 : decode cL_sets 56 = .ok (.iconst 0, 1) := by decide +kernel
end
section
theorem dL_sets_57 : decode cL_sets 57 = .ok (.ireturn, 1) := by decide +kernel
theorem dL_loads_0 : decode cL_loads 0 = .ok (.aload_n 1, 1) := by decide +kernel
theorem dL_loads_1 : decode cL_loads 1 = .ok (.bipush 50, 2) := by decide +kernel
theorem dL_loads_3 : decode cL_loads 3 = .ok (.iaload, 1) := by decide +kernel
theorem dL_loads_4 : decode cL_loads 4 = .ok (.ifCond .eq 21, 3) := by decide +kernel
theorem dL_loads_7 : decode cL_loads 7 = .ok (.aload_n 0, 1) := by decide +kernel
theorem dL_loads_8 : decode cL_loads 8 = .ok (.iload_n 2, 1) := by decide +kernel
theorem dL_loads_9 : decode cL_loads 9 = .ok (.iload_n 3, 1) := by decide +kernel
theorem dL_loads_10 : decode cL_loads 10 = .ok (.invokevirtual 39, 3) := by decide +kernel
theorem dL_loads_13 : decode cL_loads 13 = .ok (.sipush (-1003), 3) := by decide +kernel
theorem dL_loads_16 : decode cL_loads 16 = .ok (.if_icmp .ne 7, 3) := by decide +kernel
theorem dL_loads_19 : decode cL_loads 19 = .ok (.iconst 1, 1) := by decide +kernel
theorem dL_loads_20 : decode cL_loads 20 = .ok (.goto 4, 3) := by decide +kernel
theorem dL_loads_23 : decode cL_loads 23 = .ok (.iconst 0, 1) := by decide +kernel
theorem dL_loads_24 : decode cL_loads 24 = .ok (.ireturn, 1) := by decide +kernel
theorem dL_loads_25 : decode cL_loads 25 = .ok (.aload_n 1, 1) := by decide +kernel
theorem dL_loads_26 : decode cL_loads 26 = .ok (.bipush 8, 2) := by decide +kernel
theorem dL_loads_28 : decode cL_loads 28 = .ok (.iload_n 2, 1) := by decide +kernel
theorem dL_loads_29 : decode cL_loads 29 = .ok (.imul, 1) := by decide +kernel
theorem dL_loads_30 : decode cL_loads 30 = .ok (.iaload, 1) := by decide +kernel
theorem dL_loads_31 : decode cL_loads 31 = .ok (.iload_n 3, 1) := by decide +kernel
theorem dL_loads_32 : decode cL_loads 32 = .ok (.iadd, 1) := by decide +kernel
theorem dL_loads_33 : decode cL_loads 33 = .ok (.sipush 200, 3) := by decide +kernel
theorem dL_loads_36 : decode cL_loads 36 = .ok (.if_icmp .le 21, 3) := by decide +kernel
theorem dL_loads_39 : decode cL_loads 39 = .ok (.aload_n 0, 1) := by decide +kernel
theorem dL_loads_40 : decode cL_loads 40 = .ok (.iload_n 2, 1) := by decide +kernel
theorem dL_loads_41 : decode cL_loads 41 = .ok (.iload_n 3, 1) := by decide +kernel
theorem dL_loads_42 : decode cL_loads 42 = .ok (.invokevirtual 39, 3) := by decide +kernel
theorem dL_loads_45 : decode cL_loads 45 = .ok (.sipush (-1004), 3) := by decide +kernel
theorem dL_loads_48 : decode cL_loads 48 = .ok (.if_icmp .ne 7, 3) := by decide +kernel
theorem dL_loads_51 : decode cL_loads 51 = .ok (.iconst 1, 1) := by decide +kernel
theorem dL_loads_52 : decode cL_loads 52 = .ok (.goto 4, 3) := by decide +kernel
theorem dL_loads_55 : decode cL_loads 55 = .ok (.iconst 0, 1) := by decide +kernel
theorem dL_loads_56 : decode cL_loads 56 = .ok (.ireturn, 1) := by decide +kernel
theorem dL_loads_57 : decode cL_loads 57 = .ok (.aload_n 1, 1) := by decide +kernel
theorem dL_loads_58 : decode cL_loads 58 = .ok (.bipush 54, 2) := by decide +kernel
theorem dL_loads_60 : decode cL_loads 60 = .ok (.iaload, 1) := by decide +kernel
theorem dL_loads_61 : decode cL_loads 61 = .ok (.iload_n 3, 1) := by decide +kernel
theorem dL_loads_62 : decode cL_loads 62 = .ok (.iadd, 1) := by decide +kernel
theorem dL_loads_63 : decode cL_loads 63 = .ok (.sipush 1000, 3) := by decide +kernel
theorem dL_loads_66 : decode cL_loads 66 = .ok (.if_icmp .le 5, 3) := by decide +kernel
theorem dL_loads_69 : decode cL_loads 69 = .ok (.iconst 1, 1) := by decide +kernel
theorem dL_loads_70 : decode cL_loads 70 = .ok (.ireturn, 1) := by decide +kernel
theorem dL_loads_71 : decode cL_loads 71 = .ok (.aload_n 1, 1) := by decide +kernel
theorem dL_loads_72 : decode cL_loads 72 = .ok (.bipush 8, 2) := by decide +kernel
theorem dL_loads_74 : decode cL_loads 74 = .ok (.iload_n 2, 1) := by decide +kernel
theorem dL_loads_75 : decode cL_loads 75 = .ok (.imul, 1) := by decide +kernel
theorem dL_loads_76 : decode cL_loads 76 = .ok (.dup2, 1) := by decide +kernel
theorem dL_loads_77 : decode cL_loads 77 = .ok (.iaload, 1) := by decide +kernel
theorem dL_loads_78 : decode cL_loads 78 = .ok (.iload_n 3, 1) := by decide +kernel
theorem dL_loads_79 : decode cL_loads 79 = .ok (.iadd, 1) := by decide +kernel
theorem dL_loads_80 : decode cL_loads 80 = .ok (.iastore, 1) := by decide +kernel
theorem dL_loads_81 : decode cL_loads 81 = .ok (.aload_n 1, 1) := by decide +kernel
theorem dL_loads_82 : decode cL_loads 82 = .ok (.bipush 54, 2) := by decide +kernel
theorem dL_loads_84 : decode cL_loads 84 = .ok (.dup2, 1) := by decide +kernel
theorem dL_loads_85 : decode cL_loads 85 = .ok (.iaload, 1) := by decide +kernel
theorem dL_loads_86 : decode cL_loads 86 = .ok (.iload_n 3, 1) := by decide +kernel
theorem dL_loads_87 : decode cL_loads 87 = .ok (.iadd, 1) := by decide +kernel
theorem dL_loads_88 : decode cL_loads 88 = .ok (.iastore, 1) := by decide +kernel
theorem dL_loads_89 : decode cL_loads 89 = .ok (.aload_n 0, 1) := by decide +kernel
theorem dL_loads_90 : decode cL_loads 90 = .ok (.iload_n 2, 1) := by decide +kernel
theorem dL_loads_91 : decode cL_loads 91 = .ok (.iload_n 3, 1) := by decide +kernel
theorem dL_loads_92 : decode cL_loads 92 = .ok (.invokevirtual 39, 3) := by decide +kernel
theorem dL_loads_95 : decode cL_loads 95 = .ok (.aload_n 1, 1) := by decide +kernel
theorem dL_loads_96 : decode cL_loads 96 = .ok (.bipush 8, 2) := by decide +kernel
theorem dL_loads_98 : decode cL_loads 98 = .ok (.iload_n 2, 1) := by decide +kernel
theorem dL_loads_99 : decode cL_loads 99 = .ok (.imul, 1) := by decide +kernel
theorem dL_loads_100 : decode cL_loads 100 = .ok (.iaload, 1) := by decide +kernel
theorem dL_loads_101 : decode cL_loads 101 = .ok (.if_icmp .ne 7, 3) := by decide +kernel
theorem dL_loads_104 : decode cL_loads 104 = .ok (.iconst 1, 1) := by decide +kernel
theorem dL_loads_105 : decode cL_loads 105 = .ok (.goto 4, 3) := by decide +kernel
theorem dL_loads_108 : decode cL_loads 108 = .ok (.iconst 0, 1) := by decide +kernel
theorem dL_loads_109 : decode cL_loads 109 = .ok (.ireturn, 1) := by decide +kernel
theorem dL_doors_0 : decode cL_doors 0 = .ok (.aload_n 1, 1) := by decide +kernel
theorem dL_doors_1 : decode cL_doors 1 = .ok (.bipush 8, 2) := by decide +kernel
theorem dL_doors_3 : decode cL_doors 3 = .ok (.iload_n 2, 1) := by decide +kernel
theorem dL_doors_4 : decode cL_doors 4 = .ok (.imul, 1) := by decide +kernel
theorem dL_doors_5 : decode cL_doors 5 = .ok (.iconst 2, 1) := by decide +kernel
theorem dL_doors_6 : decode cL_doors 6 = .ok (.iadd, 1) := by decide +kernel
theorem dL_doors_7 : decode cL_doors 7 = .ok (.iload_n 3, 1) := by decide +kernel
theorem dL_doors_8 : decode cL_doors 8 = .ok (.iadd, 1) := by decide +kernel
theorem dL_doors_9 : decode cL_doors 9 = .ok (.iaload, 1) := by decide +kernel
theorem dL_doors_10 : decode cL_doors 10 = .ok (.istore 5, 2) := by decide +kernel
theorem dL_doors_12 : decode cL_doors 12 = .ok (.aload_n 1, 1) := by decide +kernel
theorem dL_doors_13 : decode cL_doors 13 = .ok (.iload_n 2, 1) := by decide +kernel
theorem dL_doors_14 : decode cL_doors 14 = .ok (.iload_n 3, 1) := by decide +kernel
theorem dL_doors_15 : decode cL_doors 15 = .ok (.iload 4, 2) := by decide +kernel
theorem dL_doors_17 : decode cL_doors 17 = .ok (.invokestatic 15, 3) := by decide +kernel
theorem dL_doors_20 : decode cL_doors 20 = .ok (.aload_n 0, 1) := by decide +kernel
theorem dL_doors_21 : decode cL_doors 21 = .ok (.iload_n 2, 1) := by decide +kernel
theorem dL_doors_22 : decode cL_doors 22 = .ok (.iload_n 3, 1) := by decide +kernel
theorem dL_doors_23 : decode cL_doors 23 = .ok (.iload 4, 2) := by decide +kernel
theorem dL_doors_25 : decode cL_doors 25 = .ok (.invokevirtual 42, 3) := by decide +kernel
theorem dL_doors_28 : decode cL_doors 28 = .ok (.iload 5, 2) := by decide +kernel
theorem dL_doors_30 : decode cL_doors 30 = .ok (.if_icmp .ne 20, 3) := by decide +kernel
theorem dL_doors_33 : decode cL_doors 33 = .ok (.aload_n 0, 1) := by decide +kernel
theorem dL_doors_34 : decode cL_doors 34 = .ok (.iload_n 2, 1) := by decide +kernel
theorem dL_doors_35 : decode cL_doors 35 = .ok (.iconst 3, 1) := by decide +kernel
theorem dL_doors_36 : decode cL_doors 36 = .ok (.iconst 0, 1) := by decide +kernel
theorem dL_doors_37 : decode cL_doors 37 = .ok (.invokevirtual 42, 3) := by decide +kernel
theorem dL_doors_40 : decode cL_doors 40 = .ok (.sipush (-1002), 3) := by decide +kernel
theorem dL_doors_43 : decode cL_doors 43 = .ok (.if_icmp .ne 7, 3) := by decide +kernel
theorem dL_doors_46 : decode cL_doors 46 = .ok (.iconst 1, 1) := by decide +kernel
theorem dL_doors_47 : decode cL_doors 47 = .ok (.goto 4, 3) := by decide +kernel
theorem dL_doors_50 : decode cL_doors 50 = .ok (.iconst 0, 1) := by decide +kernel
theorem dL_doors_51 : decode cL_doors 51 = .ok (.ireturn, 1) := by decide +kernel
theorem dL_wishes_0 : decode cL_wishes 0 = .ok (.aload_n 1, 1) := by decide +kernel
theorem dL_wishes_1 : decode cL_wishes 1 = .ok (.bipush 51, 2) := by decide +kernel
theorem dL_wishes_3 : decode cL_wishes 3 = .ok (.iaload, 1) := by decide +kernel
theorem dL_wishes_4 : decode cL_wishes 4 = .ok (.istore_n 3, 1) := by decide +kernel
theorem dL_wishes_5 : decode cL_wishes 5 = .ok (.aload_n 1, 1) := by decide +kernel
theorem dL_wishes_6 : decode cL_wishes 6 = .ok (.bipush 51, 2) := by decide +kernel
theorem dL_wishes_8 : decode cL_wishes 8 = .ok (.iload_n 2, 1) := by decide +kernel
theorem dL_wishes_9 : decode cL_wishes 9 = .ok (.iastore, 1) := by decide +kernel
theorem dL_wishes_10 : decode cL_wishes 10 = .ok (.aload_n 0, 1) := by decide +kernel
theorem dL_wishes_11 : decode cL_wishes 11 = .ok (.iload_n 2, 1) := by decide +kernel
theorem dL_wishes_12 : decode cL_wishes 12 = .ok (.invokevirtual 46, 3) := by decide +kernel
theorem dL_wishes_15 : decode cL_wishes 15 = .ok (.iload_n 3, 1) := by decide +kernel
theorem dL_wishes_16 : decode cL_wishes 16 = .ok (.if_icmp .ne 18, 3) := by decide +kernel
theorem dL_wishes_19 : decode cL_wishes 19 = .ok (.aload_n 0, 1) := by decide +kernel
theorem dL_wishes_20 : decode cL_wishes 20 = .ok (.iconst 4, 1) := by decide +kernel
theorem dL_wishes_21 : decode cL_wishes 21 = .ok (.invokevirtual 46, 3) := by decide +kernel
theorem dL_wishes_24 : decode cL_wishes 24 = .ok (.sipush (-1002), 3) := by decide +kernel
theorem dL_wishes_27 : decode cL_wishes 27 = .ok (.if_icmp .ne 7, 3) := by decide +kernel
theorem dL_wishes_30 : decode cL_wishes 30 = .ok (.iconst 1, 1) := by decide +kernel
theorem dL_wishes_31 : decode cL_wishes 31 = .ok (.goto 4, 3) := by decide +kernel
theorem dL_wishes_34 : decode cL_wishes 34 = .ok (.iconst 0, 1) := by decide +kernel
theorem dL_wishes_35 : decode cL_wishes 35 = .ok (.ireturn, 1) := by decide +kernel
theorem dL_passes_0 : decode cL_passes 0 = .ok (.iconst 0, 1) := by decide +kernel
theorem dL_passes_1 : decode cL_passes 1 = .ok (.istore 5, 2) := by decide +kernel
theorem dL_passes_3 : decode cL_passes 3 = .ok (.iload 5, 2) := by decide +kernel
theorem dL_passes_5 : decode cL_passes 5 = .ok (.iload 4, 2) := by decide +kernel
theorem dL_passes_7 : decode cL_passes 7 = .ok (.if_icmp .ge 15, 3) := by decide +kernel
theorem dL_passes_10 : decode cL_passes 10 = .ok (.aload_n 1, 1) := by decide +kernel
theorem dL_passes_11 : decode cL_passes 11 = .ok (.aload_n 2, 1) := by decide +kernel
theorem dL_passes_12 : decode cL_passes 12 = .ok (.aload_n 3, 1) := by decide +kernel
theorem dL_passes_13 : decode cL_passes 13 = .ok (.invokestatic 50, 3) := by decide +kernel
theorem dL_passes_16 : decode cL_passes 16 = .ok (.iinc 5 1, 3) := by decide +kernel
theorem dL_passes_19 : decode cL_passes 19 = .ok (.goto (-16), 3) := by decide +kernel
theorem dL_passes_22 : decode cL_passes 22 = .ok (.aload_n 0, 1) := by decide +kernel
theorem dL_passes_23 : decode cL_passes 23 = .ok (.iload 4, 2) := by decide +kernel
theorem dL_passes_25 : decode cL_passes 25 = .ok (.invokevirtual 54, 3) := by decide +kernel
theorem dL_passes_28 : decode cL_passes 28 = .ok (.aload_n 2, 1) := by decide +kernel
theorem dL_passes_29 : decode cL_passes 29 = .ok (.bipush 49, 2) := by decide +kernel
theorem dL_passes_31 : decode cL_passes 31 = .ok (.iaload, 1) := by decide +kernel
theorem dL_passes_32 : decode cL_passes 32 = .ok (.if_icmp .ne 20, 3) := by decide +kernel
theorem dL_passes_35 : decode cL_passes 35 = .ok (.aload_n 0, 1) := by decide +kernel
theorem dL_passes_36 : decode cL_passes 36 = .ok (.sipush 201, 3) := by decide +kernel
theorem dL_passes_39 : decode cL_passes 39 = .ok (.invokevirtual 54, 3) := by decide +kernel
theorem dL_passes_42 : decode cL_passes 42 = .ok (.sipush (-1002), 3) := by decide +kernel
theorem dL_passes_45 : decode cL_passes 45 = .ok (.if_icmp .ne 7, 3) := by decide +kernel
theorem dL_passes_48 : decode cL_passes 48 = .ok (.iconst 1, 1) := by decide +kernel
theorem dL_passes_49 : decode cL_passes 49 = .ok (.goto 4, 3) := by decide +kernel
theorem dL_passes_52 : decode cL_passes 52 = .ok (.iconst 0, 1) := by decide +kernel
theorem dL_passes_53 : decode cL_passes 53 = .ok (.ireturn, 1) := by decide +kernel
theorem dL_isTold_0 : decode cL_isTold 0 = .ok (.iconst 0, 1) := by decide +kernel
theorem dL_isTold_1 : decode cL_isTold 1 = .ok (.istore 4, 2) := by decide +kernel
theorem dL_isTold_3 : decode cL_isTold 3 = .ok (.iload 4, 2) := by decide +kernel
theorem dL_isTold_5 : decode cL_isTold 5 = .ok (.aload_n 2, 1) := by decide +kernel
theorem dL_isTold_6 : decode cL_isTold 6 = .ok (.bipush 48, 2) := by decide +kernel
theorem dL_isTold_8 : decode cL_isTold 8 = .ok (.iaload, 1) := by decide +kernel
theorem dL_isTold_9 : decode cL_isTold 9 = .ok (.if_icmp .ge 206, 3) := by decide +kernel
theorem dL_isTold_12 : decode cL_isTold 12 = .ok (.iconst 0, 1) := by decide +kernel
theorem dL_isTold_13 : decode cL_isTold 13 = .ok (.istore 5, 2) := by decide +kernel
theorem dL_isTold_15 : decode cL_isTold 15 = .ok (.iconst 0, 1) := by decide +kernel
theorem dL_isTold_16 : decode cL_isTold 16 = .ok (.istore 6, 2) := by decide +kernel
theorem dL_isTold_18 : decode cL_isTold 18 = .ok (.iconst 0, 1) := by decide +kernel
theorem dL_isTold_19 : decode cL_isTold 19 = .ok (.istore 7, 2) := by decide +kernel
theorem dL_isTold_21 : decode cL_isTold 21 = .ok (.iload 7, 2) := by decide +kernel
theorem dL_isTold_23 : decode cL_isTold 23 = .ok (.iconst 3, 1) := by decide +kernel
theorem dL_isTold_24 : decode cL_isTold 24 = .ok (.if_icmp .ge 104, 3) := by decide +kernel
theorem dL_isTold_27 : decode cL_isTold 27 = .ok (.aload_n 0, 1) := by decide +kernel
theorem dL_isTold_28 : decode cL_isTold 28 = .ok (.iload 4, 2) := by decide +kernel
theorem dL_isTold_30 : decode cL_isTold 30 = .ok (.iload 7, 2) := by decide +kernel
theorem dL_isTold_32 : decode cL_isTold 32 = .ok (.iconst 0, 1) := by decide +kernel
theorem dL_isTold_33 : decode cL_isTold 33 = .ok (.invokevirtual 57, 3) := by decide +kernel
theorem dL_isTold_36 : decode cL_isTold 36 = .ok (.aload_n 2, 1) := by decide +kernel
theorem dL_isTold_37 : decode cL_isTold 37 = .ok (.bipush 8, 2) := by decide +kernel
theorem dL_isTold_39 : decode cL_isTold 39 = .ok (.iload 4, 2) := by decide +kernel
theorem dL_isTold_41 : decode cL_isTold 41 = .ok (.imul, 1) := by decide +kernel
theorem dL_isTold_42 : decode cL_isTold 42 = .ok (.iconst 2, 1) := by decide +kernel
theorem dL_isTold_43 : decode cL_isTold 43 = .ok (.iadd, 1) := by decide +kernel
theorem dL_isTold_44 : decode cL_isTold 44 = .ok (.iload 7, 2) := by decide +kernel
theorem dL_isTold_46 : decode cL_isTold 46 = .ok (.iadd, 1) := by decide +kernel
theorem dL_isTold_47 : decode cL_isTold 47 = .ok (.iaload, 1) := by decide +kernel
theorem dL_isTold_48 : decode cL_isTold 48 = .ok (.if_icmp .ne 27, 3) := by decide +kernel
theorem dL_isTold_51 : decode cL_isTold 51 = .ok (.aload_n 0, 1) := by decide +kernel
theorem dL_isTold_52 : decode cL_isTold 52 = .ok (.iload 4, 2) := by decide +kernel
theorem dL_isTold_54 : decode cL_isTold 54 = .ok (.iload 7, 2) := by decide +kernel
theorem dL_isTold_56 : decode cL_isTold 56 = .ok (.iconst 1, 1) := by decide +kernel
theorem dL_isTold_57 : decode cL_isTold 57 = .ok (.invokevirtual 57, 3) := by decide +kernel
theorem dL_isTold_60 : decode cL_isTold 60 = .ok (.aload_n 2, 1) := by decide +kernel
theorem dL_isTold_61 : decode cL_isTold 61 = .ok (.bipush 8, 2) := by decide +kernel
theorem dL_isTold_63 : decode cL_isTold 63 = .ok (.iload 4, 2) := by decide +kernel
theorem dL_isTold_65 : decode cL_isTold 65 = .ok (.imul, 1) := by decide +kernel
theorem dL_isTold_66 : decode cL_isTold 66 = .ok (.iconst 5, 1) := by decide +kernel
theorem dL_isTold_67 : decode cL_isTold 67 = .ok (.iadd, 1) := by decide +kernel
theorem dL_isTold_68 : decode cL_isTold 68 = .ok (.iload 7, 2) := by decide +kernel
theorem dL_isTold_70 : decode cL_isTold 70 = .ok (.iadd, 1) := by decide +kernel
theorem dL_isTold_71 : decode cL_isTold 71 = .ok (.iaload, 1) := by decide +kernel
theorem dL_isTold_72 : decode cL_isTold 72 = .ok (.if_icmp .eq 5, 3) := by decide +kernel
theorem dL_isTold_75 : decode cL_isTold 75 = .ok (.iconst 0, 1) := by decide +kernel
theorem dL_isTold_76 : decode cL_isTold 76 = .ok (.ireturn, 1) := by decide +kernel
theorem dL_isTold_77 : decode cL_isTold 77 = .ok (.iload 6, 2) := by decide +kernel
theorem dL_isTold_79 : decode cL_isTold 79 = .ok (.aload_n 2, 1) := by decide +kernel
theorem dL_isTold_80 : decode cL_isTold 80 = .ok (.bipush 8, 2) := by decide +kernel
theorem dL_isTold_82 : decode cL_isTold 82 = .ok (.iload 4, 2) := by decide +kernel
theorem dL_isTold_84 : decode cL_isTold 84 = .ok (.imul, 1) := by decide +kernel
theorem dL_isTold_85 : decode cL_isTold 85 = .ok (.iconst 2, 1) := by decide +kernel
theorem dL_isTold_86 : decode cL_isTold 86 = .ok (.iadd, 1) := by decide +kernel
theorem dL_isTold_87 : decode cL_isTold 87 = .ok (.iload 7, 2) := by decide +kernel
theorem dL_isTold_89 : decode cL_isTold 89 = .ok (.iadd, 1) := by decide +kernel
theorem dL_isTold_90 : decode cL_isTold 90 = .ok (.iaload, 1) := by decide +kernel
theorem dL_isTold_91 : decode cL_isTold 91 = .ok (.iadd, 1) := by decide +kernel
theorem dL_isTold_92 : decode cL_isTold 92 = .ok (.istore 6, 2) := by decide +kernel
theorem dL_isTold_94 : decode cL_isTold 94 = .ok (.iload 5, 2) := by decide +kernel
theorem dL_isTold_96 : decode cL_isTold 96 = .ok (.aload_n 2, 1) := by decide +kernel
theorem dL_isTold_97 : decode cL_isTold 97 = .ok (.bipush 8, 2) := by decide +kernel
theorem dL_isTold_99 : decode cL_isTold 99 = .ok (.iload 4, 2) := by decide +kernel
theorem dL_isTold_101 : decode cL_isTold 101 = .ok (.imul, 1) := by decide +kernel
theorem dL_isTold_102 : decode cL_isTold 102 = .ok (.iconst 5, 1) := by decide +kernel
theorem dL_isTold_103 : decode cL_isTold 103 = .ok (.iadd, 1) := by decide +kernel
theorem dL_isTold_104 : decode cL_isTold 104 = .ok (.iload 7, 2) := by decide +kernel
theorem dL_isTold_106 : decode cL_isTold 106 = .ok (.iadd, 1) := by decide +kernel
theorem dL_isTold_107 : decode cL_isTold 107 = .ok (.iaload, 1) := by decide +kernel
theorem dL_isTold_108 : decode cL_isTold 108 = .ok (.sipush (-1001), 3) := by decide +kernel
theorem dL_isTold_111 : decode cL_isTold 111 = .ok (.if_icmp .ne 7, 3) := by decide +kernel
theorem dL_isTold_114 : decode cL_isTold 114 = .ok (.iconst 0, 1) := by decide +kernel
theorem dL_isTold_115 : decode cL_isTold 115 = .ok (.goto 4, 3) := by decide +kernel
theorem dL_isTold_118 : decode cL_isTold 118 = .ok (.iconst 1, 1) := by decide +kernel
theorem dL_isTold_119 : decode cL_isTold 119 = .ok (.iadd, 1) := by decide +kernel
theorem dL_isTold_120 : decode cL_isTold 120 = .ok (.istore 5, 2) := by decide +kernel
theorem dL_isTold_122 : decode cL_isTold 122 = .ok (.iinc 7 1, 3) := by decide +kernel
theorem dL_isTold_125 : decode cL_isTold 125 = .ok (.goto (-104), 3) := by decide +kernel
theorem dL_isTold_128 : decode cL_isTold 128 = .ok (.aload_n 0, 1) := by decide +kernel
theorem dL_isTold_129 : decode cL_isTold 129 = .ok (.iload 4, 2) := by decide +kernel
theorem dL_isTold_131 : decode cL_isTold 131 = .ok (.iconst 0, 1) := by decide +kernel
theorem dL_isTold_132 : decode cL_isTold 132 = .ok (.invokevirtual 60, 3) := by decide +kernel
theorem dL_isTold_135 : decode cL_isTold 135 = .ok (.aload_n 2, 1) := by decide +kernel
theorem dL_isTold_136 : decode cL_isTold 136 = .ok (.bipush 8, 2) := by decide +kernel
theorem dL_isTold_138 : decode cL_isTold 138 = .ok (.iload 4, 2) := by decide +kernel
theorem dL_isTold_140 : decode cL_isTold 140 = .ok (.imul, 1) := by decide +kernel
theorem dL_isTold_141 : decode cL_isTold 141 = .ok (.iaload, 1) := by decide +kernel
theorem dL_isTold_142 : decode cL_isTold 142 = .ok (.if_icmp .ne 65, 3) := by decide +kernel
theorem dL_isTold_145 : decode cL_isTold 145 = .ok (.aload_n 0, 1) := by decide +kernel
theorem dL_isTold_146 : decode cL_isTold 146 = .ok (.iload 4, 2) := by decide +kernel
theorem dL_isTold_148 : decode cL_isTold 148 = .ok (.iconst 1, 1) := by decide +kernel
theorem dL_isTold_149 : decode cL_isTold 149 = .ok (.invokevirtual 60, 3) := by decide +kernel
theorem dL_isTold_152 : decode cL_isTold 152 = .ok (.aload_n 2, 1) := by decide +kernel
theorem dL_isTold_153 : decode cL_isTold 153 = .ok (.bipush 49, 2) := by decide +kernel
theorem dL_isTold_155 : decode cL_isTold 155 = .ok (.iaload, 1) := by decide +kernel
theorem dL_isTold_156 : decode cL_isTold 156 = .ok (.iconst 4, 1) := by decide +kernel
theorem dL_isTold_157 : decode cL_isTold 157 = .ok (.iload 4, 2) := by decide +kernel
theorem dL_isTold_159 : decode cL_isTold 159 = .ok (.imul, 1) := by decide +kernel
theorem dL_isTold_160 : decode cL_isTold 160 = .ok (.isub, 1) := by decide +kernel
theorem dL_isTold_161 : decode cL_isTold 161 = .ok (.if_icmp .ne 46, 3) := by decide +kernel
theorem dL_isTold_164 : decode cL_isTold 164 = .ok (.aload_n 0, 1) := by decide +kernel
theorem dL_isTold_165 : decode cL_isTold 165 = .ok (.iload 4, 2) := by decide +kernel
theorem dL_isTold_167 : decode cL_isTold 167 = .ok (.iconst 2, 1) := by decide +kernel
theorem dL_isTold_168 : decode cL_isTold 168 = .ok (.invokevirtual 60, 3) := by decide +kernel
theorem dL_isTold_171 : decode cL_isTold 171 = .ok (.iload 6, 2) := by decide +kernel
theorem dL_isTold_173 : decode cL_isTold 173 = .ok (.if_icmp .ne 34, 3) := by decide +kernel
theorem dL_isTold_176 : decode cL_isTold 176 = .ok (.aload_n 0, 1) := by decide +kernel
theorem dL_isTold_177 : decode cL_isTold 177 = .ok (.iload 4, 2) := by decide +kernel
theorem dL_isTold_179 : decode cL_isTold 179 = .ok (.iconst 3, 1) := by decide +kernel
theorem dL_isTold_180 : decode cL_isTold 180 = .ok (.invokevirtual 60, 3) := by decide +kernel
theorem dL_isTold_183 : decode cL_isTold 183 = .ok (.iload 5, 2) := by decide +kernel
theorem dL_isTold_185 : decode cL_isTold 185 = .ok (.if_icmp .ne 22, 3) := by decide +kernel
theorem dL_isTold_188 : decode cL_isTold 188 = .ok (.aload_n 0, 1) := by decide +kernel
theorem dL_isTold_189 : decode cL_isTold 189 = .ok (.iload 4, 2) := by decide +kernel
theorem dL_isTold_191 : decode cL_isTold 191 = .ok (.iconst 4, 1) := by decide +kernel
theorem dL_isTold_192 : decode cL_isTold 192 = .ok (.invokevirtual 60, 3) := by decide +kernel
theorem dL_isTold_195 : decode cL_isTold 195 = .ok (.aload_n 2, 1) := by decide +kernel
theorem dL_isTold_196 : decode cL_isTold 196 = .ok (.bipush 8, 2) := by decide +kernel
theorem dL_isTold_198 : decode cL_isTold 198 = .ok (.iload 4, 2) := by decide +kernel
theorem dL_isTold_200 : decode cL_isTold 200 = .ok (.imul, 1) := by decide +kernel
theorem dL_isTold_201 : decode cL_isTold 201 = .ok (.iconst 1, 1) := by decide +kernel
theorem dL_isTold_202 : decode cL_isTold 202 = .ok (.iadd, 1) := by decide +kernel
theorem dL_isTold_203 : decode cL_isTold 203 = .ok (.iaload, 1) := by decide +kernel
theorem dL_isTold_204 : decode cL_isTold 204 = .ok (.if_icmp .eq 5, 3) := by decide +kernel
theorem dL_isTold_207 : decode cL_isTold 207 = .ok (.iconst 0, 1) := by decide +kernel
theorem dL_isTold_208 : decode cL_isTold 208 = .ok (.ireturn, 1) := by decide +kernel
theorem dL_isTold_209 : decode cL_isTold 209 = .ok (.iinc 4 1, 3) := by decide +kernel
theorem dL_isTold_212 : decode cL_isTold 212 = .ok (.goto (-209), 3) := by decide +kernel
theorem dL_isTold_215 : decode cL_isTold 215 = .ok (.iconst 0, 1) := by decide +kernel
theorem dL_isTold_216 : decode cL_isTold 216 = .ok (.istore 4, 2) := by decide +kernel
theorem dL_isTold_218 : decode cL_isTold 218 = .ok (.iload 4, 2) := by decide +kernel
theorem dL_isTold_220 : decode cL_isTold 220 = .ok (.bipush 40, 2) := by decide +kernel
theorem dL_isTold_222 : decode cL_isTold 222 = .ok (.if_icmp .ge 62, 3) := by decide +kernel
theorem dL_isTold_225 : decode cL_isTold 225 = .ok (.aload_n 0, 1) := by decide +kernel
theorem dL_isTold_226 : decode cL_isTold 226 = .ok (.iload 4, 2) := by decide +kernel
theorem dL_isTold_228 : decode cL_isTold 228 = .ok (.iconst 0, 1) := by decide +kernel
theorem dL_isTold_229 : decode cL_isTold 229 = .ok (.invokevirtual 63, 3) := by decide +kernel
theorem dL_isTold_232 : decode cL_isTold 232 = .ok (.aload_n 1, 1) := by decide +kernel
theorem dL_isTold_233 : decode cL_isTold 233 = .ok (.iload 4, 2) := by decide +kernel
theorem dL_isTold_235 : decode cL_isTold 235 = .ok (.iconst 0, 1) := by decide +kernel
theorem dL_isTold_236 : decode cL_isTold 236 = .ok (.invokestatic 29, 3) := by decide +kernel
theorem dL_isTold_239 : decode cL_isTold 239 = .ok (.if_icmp .ne 37, 3) := by decide +kernel
theorem dL_isTold_242 : decode cL_isTold 242 = .ok (.aload_n 0, 1) := by decide +kernel
theorem dL_isTold_243 : decode cL_isTold 243 = .ok (.iload 4, 2) := by decide +kernel
theorem dL_isTold_245 : decode cL_isTold 245 = .ok (.iconst 1, 1) := by decide +kernel
theorem dL_isTold_246 : decode cL_isTold 246 = .ok (.invokevirtual 63, 3) := by decide +kernel
theorem dL_isTold_249 : decode cL_isTold 249 = .ok (.aload_n 1, 1) := by decide +kernel
theorem dL_isTold_250 : decode cL_isTold 250 = .ok (.iload 4, 2) := by decide +kernel
theorem dL_isTold_252 : decode cL_isTold 252 = .ok (.iconst 1, 1) := by decide +kernel
theorem dL_isTold_253 : decode cL_isTold 253 = .ok (.invokestatic 29, 3) := by decide +kernel
theorem dL_isTold_256 : decode cL_isTold 256 = .ok (.if_icmp .ne 20, 3) := by decide +kernel
theorem dL_isTold_259 : decode cL_isTold 259 = .ok (.aload_n 0, 1) := by decide +kernel
theorem dL_isTold_260 : decode cL_isTold 260 = .ok (.iload 4, 2) := by decide +kernel
theorem dL_isTold_262 : decode cL_isTold 262 = .ok (.iconst 2, 1) := by decide +kernel
theorem dL_isTold_263 : decode cL_isTold 263 = .ok (.invokevirtual 63, 3) := by decide +kernel
theorem dL_isTold_266 : decode cL_isTold 266 = .ok (.aload_n 1, 1) := by decide +kernel
theorem dL_isTold_267 : decode cL_isTold 267 = .ok (.iload 4, 2) := by decide +kernel
theorem dL_isTold_269 : decode cL_isTold 269 = .ok (.iconst 2, 1) := by decide +kernel
theorem dL_isTold_270 : decode cL_isTold 270 = .ok (.invokestatic 29, 3) := by decide +kernel
theorem dL_isTold_273 : decode cL_isTold 273 = .ok (.if_icmp .eq 5, 3) := by decide +kernel
theorem dL_isTold_276 : decode cL_isTold 276 = .ok (.iconst 0, 1) := by decide +kernel
theorem dL_isTold_277 : decode cL_isTold 277 = .ok (.ireturn, 1) := by decide +kernel
theorem dL_isTold_278 : decode cL_isTold 278 = .ok (.iinc 4 1, 3) := by decide +kernel
theorem dL_isTold_281 : decode cL_isTold 281 = .ok (.goto (-63), 3) := by decide +kernel
theorem dL_isTold_284 : decode cL_isTold 284 = .ok (.iconst 0, 1) := by decide +kernel
theorem dL_isTold_285 : decode cL_isTold 285 = .ok (.istore 4, 2) := by decide +kernel
theorem dL_isTold_287 : decode cL_isTold 287 = .ok (.iload 4, 2) := by decide +kernel
theorem dL_isTold_289 : decode cL_isTold 289 = .ok (.iconst 5, 1) := by decide +kernel
theorem dL_isTold_290 : decode cL_isTold 290 = .ok (.if_icmp .ge 46, 3) := by decide +kernel
theorem dL_isTold_293 : decode cL_isTold 293 = .ok (.aload_n 0, 1) := by decide +kernel
theorem dL_isTold_294 : decode cL_isTold 294 = .ok (.bipush 14, 2) := by decide +kernel
theorem dL_isTold_296 : decode cL_isTold 296 = .ok (.iload 4, 2) := by decide +kernel
theorem dL_isTold_298 : decode cL_isTold 298 = .ok (.iadd, 1) := by decide +kernel
theorem dL_isTold_299 : decode cL_isTold 299 = .ok (.invokevirtual 65, 3) := by decide +kernel
theorem dL_isTold_302 : decode cL_isTold 302 = .ok (.aload_n 2, 1) := by decide +kernel
theorem dL_isTold_303 : decode cL_isTold 303 = .ok (.bipush 57, 2) := by decide +kernel
theorem dL_isTold_305 : decode cL_isTold 305 = .ok (.iload 4, 2) := by decide +kernel
theorem dL_isTold_307 : decode cL_isTold 307 = .ok (.iadd, 1) := by decide +kernel
theorem dL_isTold_308 : decode cL_isTold 308 = .ok (.iaload, 1) := by decide +kernel
theorem dL_isTold_309 : decode cL_isTold 309 = .ok (.if_icmp .ne 19, 3) := by decide +kernel
theorem dL_isTold_312 : decode cL_isTold 312 = .ok (.aload_n 0, 1) := by decide +kernel
theorem dL_isTold_313 : decode cL_isTold 313 = .ok (.iload 4, 2) := by decide +kernel
theorem dL_isTold_315 : decode cL_isTold 315 = .ok (.invokevirtual 65, 3) := by decide +kernel
theorem dL_isTold_318 : decode cL_isTold 318 = .ok (.aload_n 2, 1) := by decide +kernel
theorem dL_isTold_319 : decode cL_isTold 319 = .ok (.bipush 48, 2) := by decide +kernel
theorem dL_isTold_321 : decode cL_isTold 321 = .ok (.iload 4, 2) := by decide +kernel
theorem dL_isTold_323 : decode cL_isTold 323 = .ok (.iadd, 1) := by decide +kernel
theorem dL_isTold_324 : decode cL_isTold 324 = .ok (.iaload, 1) := by decide +kernel
theorem dL_isTold_325 : decode cL_isTold 325 = .ok (.if_icmp .eq 5, 3) := by decide +kernel
theorem dL_isTold_328 : decode cL_isTold 328 = .ok (.iconst 0, 1) := by decide +kernel
theorem dL_isTold_329 : decode cL_isTold 329 = .ok (.ireturn, 1) := by decide +kernel
theorem dL_isTold_330 : decode cL_isTold 330 = .ok (.iinc 4 1, 3) := by decide +kernel
theorem dL_isTold_333 : decode cL_isTold 333 = .ok (.goto (-46), 3) := by decide +kernel
theorem dL_isTold_336 : decode cL_isTold 336 = .ok (.aload_n 1, 1) := by decide +kernel
theorem dL_isTold_337 : decode cL_isTold 337 = .ok (.iconst 0, 1) := by decide +kernel
theorem dL_isTold_338 : decode cL_isTold 338 = .ok (.invokestatic 68, 3) := by decide +kernel
theorem dL_isTold_341 : decode cL_isTold 341 = .ok (.aload_n 1, 1) := by decide +kernel
theorem dL_isTold_342 : decode cL_isTold 342 = .ok (.iconst 1, 1) := by decide +kernel
theorem dL_isTold_343 : decode cL_isTold 343 = .ok (.invokestatic 68, 3) := by decide +kernel
theorem dL_isTold_346 : decode cL_isTold 346 = .ok (.iadd, 1) := by decide +kernel
theorem dL_isTold_347 : decode cL_isTold 347 = .ok (.aload_n 1, 1) := by decide +kernel
theorem dL_isTold_348 : decode cL_isTold 348 = .ok (.iconst 2, 1) := by decide +kernel
theorem dL_isTold_349 : decode cL_isTold 349 = .ok (.invokestatic 68, 3) := by decide +kernel
theorem dL_isTold_352 : decode cL_isTold 352 = .ok (.iadd, 1) := by decide +kernel
theorem dL_isTold_353 : decode cL_isTold 353 = .ok (.istore 4, 2) := by decide +kernel
theorem dL_isTold_355 : decode cL_isTold 355 = .ok (.aload_n 0, 1) := by decide +kernel
theorem dL_isTold_356 : decode cL_isTold 356 = .ok (.iconst 5, 1) := by decide +kernel
theorem dL_isTold_357 : decode cL_isTold 357 = .ok (.invokevirtual 65, 3) := by decide +kernel
theorem dL_isTold_360 : decode cL_isTold 360 = .ok (.aload_n 3, 1) := by decide +kernel
theorem dL_isTold_361 : decode cL_isTold 361 = .ok (.bipush 60, 2) := by decide +kernel
theorem dL_isTold_363 : decode cL_isTold 363 = .ok (.iaload, 1) := by decide +kernel
theorem dL_isTold_364 : decode cL_isTold 364 = .ok (.if_icmp .ne 111, 3) := by decide +kernel
theorem dL_isTold_367 : decode cL_isTold 367 = .ok (.aload_n 0, 1) := by decide +kernel
theorem dL_isTold_368 : decode cL_isTold 368 = .ok (.bipush 6, 2) := by decide +kernel
theorem dL_isTold_370 : decode cL_isTold 370 = .ok (.invokevirtual 65, 3) := by decide +kernel
theorem dL_isTold_373 : decode cL_isTold 373 = .ok (.aload_n 2, 1) := by decide +kernel
theorem dL_isTold_374 : decode cL_isTold 374 = .ok (.bipush 53, 2) := by decide +kernel
theorem dL_isTold_376 : decode cL_isTold 376 = .ok (.iaload, 1) := by decide +kernel
theorem dL_isTold_377 : decode cL_isTold 377 = .ok (.if_icmp .ne 98, 3) := by decide +kernel
theorem dL_isTold_380 : decode cL_isTold 380 = .ok (.aload_n 0, 1) := by decide +kernel
theorem dL_isTold_381 : decode cL_isTold 381 = .ok (.bipush 7, 2) := by decide +kernel
theorem dL_isTold_383 : decode cL_isTold 383 = .ok (.invokevirtual 65, 3) := by decide +kernel
theorem dL_isTold_386 : decode cL_isTold 386 = .ok (.aload_n 2, 1) := by decide +kernel
theorem dL_isTold_387 : decode cL_isTold 387 = .ok (.bipush 54, 2) := by decide +kernel
theorem dL_isTold_389 : decode cL_isTold 389 = .ok (.iaload, 1) := by decide +kernel
theorem dL_isTold_390 : decode cL_isTold 390 = .ok (.if_icmp .ne 85, 3) := by decide +kernel
theorem dL_isTold_393 : decode cL_isTold 393 = .ok (.aload_n 0, 1) := by decide +kernel
theorem dL_isTold_394 : decode cL_isTold 394 = .ok (.bipush 8, 2) := by decide +kernel
theorem dL_isTold_396 : decode cL_isTold 396 = .ok (.invokevirtual 65, 3) := by decide +kernel
theorem dL_isTold_399 : decode cL_isTold 399 = .ok (.aload_n 2, 1) := by decide +kernel
theorem dL_isTold_400 : decode cL_isTold 400 = .ok (.invokestatic 72, 3) := by decide +kernel
theorem dL_isTold_403 : decode cL_isTold 403 = .ok (.if_icmp .ne 72, 3) := by decide +kernel
theorem dL_isTold_406 : decode cL_isTold 406 = .ok (.aload_n 0, 1) := by decide +kernel
theorem dL_isTold_407 : decode cL_isTold 407 = .ok (.bipush 9, 2) := by decide +kernel
theorem dL_isTold_409 : decode cL_isTold 409 = .ok (.invokevirtual 65, 3) := by decide +kernel
theorem dL_isTold_412 : decode cL_isTold 412 = .ok (.iload 4, 2) := by decide +kernel
theorem dL_isTold_414 : decode cL_isTold 414 = .ok (.if_icmp .ne 61, 3) := by decide +kernel
theorem dL_isTold_417 : decode cL_isTold 417 = .ok (.aload_n 0, 1) := by decide +kernel
theorem dL_isTold_418 : decode cL_isTold 418 = .ok (.bipush 10, 2) := by decide +kernel
theorem dL_isTold_420 : decode cL_isTold 420 = .ok (.invokevirtual 65, 3) := by decide +kernel
theorem dL_isTold_423 : decode cL_isTold 423 = .ok (.aload_n 2, 1) := by decide +kernel
theorem dL_isTold_424 : decode cL_isTold 424 = .ok (.bipush 55, 2) := by decide +kernel
theorem dL_isTold_426 : decode cL_isTold 426 = .ok (.iaload, 1) := by decide +kernel
theorem dL_isTold_427 : decode cL_isTold 427 = .ok (.if_icmp .ne 48, 3) := by decide +kernel
theorem dL_isTold_430 : decode cL_isTold 430 = .ok (.aload_n 0, 1) := by decide +kernel
theorem dL_isTold_431 : decode cL_isTold 431 = .ok (.bipush 11, 2) := by decide +kernel
theorem dL_isTold_433 : decode cL_isTold 433 = .ok (.invokevirtual 65, 3) := by decide +kernel
theorem dL_isTold_436 : decode cL_isTold 436 = .ok (.aload_n 2, 1) := by decide +kernel
theorem dL_isTold_437 : decode cL_isTold 437 = .ok (.bipush 56, 2) := by decide +kernel
theorem dL_isTold_439 : decode cL_isTold 439 = .ok (.iaload, 1) := by decide +kernel
theorem dL_isTold_440 : decode cL_isTold 440 = .ok (.if_icmp .ne 35, 3) := by decide +kernel
theorem dL_isTold_443 : decode cL_isTold 443 = .ok (.aload_n 0, 1) := by decide +kernel
theorem dL_isTold_444 : decode cL_isTold 444 = .ok (.aload_n 2, 1) := by decide +kernel
theorem dL_isTold_445 : decode cL_isTold 445 = .ok (.bipush 48, 2) := by decide +kernel
theorem dL_isTold_447 : decode cL_isTold 447 = .ok (.iaload, 1) := by decide +kernel
theorem dL_isTold_448 : decode cL_isTold 448 = .ok (.iconst 0, 1) := by decide +kernel
theorem dL_isTold_449 : decode cL_isTold 449 = .ok (.invokevirtual 60, 3) := by decide +kernel
theorem dL_isTold_452 : decode cL_isTold 452 = .ok (.sipush (-1002), 3) := by decide +kernel
theorem dL_isTold_455 : decode cL_isTold 455 = .ok (.if_icmp .ne 20, 3) := by decide +kernel
theorem dL_isTold_458 : decode cL_isTold 458 = .ok (.aload_n 0, 1) := by decide +kernel
theorem dL_isTold_459 : decode cL_isTold 459 = .ok (.bipush 40, 2) := by decide +kernel
theorem dL_isTold_461 : decode cL_isTold 461 = .ok (.iconst 0, 1) := by decide +kernel
theorem dL_isTold_462 : decode cL_isTold 462 = .ok (.invokevirtual 63, 3) := by decide +kernel
theorem dL_isTold_465 : decode cL_isTold 465 = .ok (.sipush (-1002), 3) := by decide +kernel
theorem dL_isTold_468 : decode cL_isTold 468 = .ok (.if_icmp .ne 7, 3) := by decide +kernel
theorem dL_isTold_471 : decode cL_isTold 471 = .ok (.iconst 1, 1) := by decide +kernel
theorem dL_isTold_472 : decode cL_isTold 472 = .ok (.goto 4, 3) := by decide +kernel
theorem dL_isTold_475 : decode cL_isTold 475 = .ok (.iconst 0, 1) := by decide +kernel
theorem dL_isTold_476 : decode cL_isTold 476 = .ok (.ireturn, 1) := by decide +kernel
theorem dL_scrapes_0 : decode cL_scrapes 0 = .ok (.aload_n 1, 1) := by decide +kernel
theorem dL_scrapes_1 : decode cL_scrapes 1 = .ok (.iload_n 3, 1) := by decide +kernel
theorem dL_scrapes_2 : decode cL_scrapes 2 = .ok (.iload 4, 2) := by decide +kernel
theorem dL_scrapes_4 : decode cL_scrapes 4 = .ok (.invokestatic 29, 3) := by decide +kernel
theorem dL_scrapes_7 : decode cL_scrapes 7 = .ok (.iload 5, 2) := by decide +kernel
theorem dL_scrapes_9 : decode cL_scrapes 9 = .ok (.if_icmp .ge 13, 3) := by decide +kernel
theorem dL_scrapes_12 : decode cL_scrapes 12 = .ok (.aload_n 1, 1) := by decide +kernel
theorem dL_scrapes_13 : decode cL_scrapes 13 = .ok (.iload_n 3, 1) := by decide +kernel
theorem dL_scrapes_14 : decode cL_scrapes 14 = .ok (.iload 4, 2) := by decide +kernel
theorem dL_scrapes_16 : decode cL_scrapes 16 = .ok (.invokestatic 29, 3) := by decide +kernel
theorem dL_scrapes_19 : decode cL_scrapes 19 = .ok (.goto 5, 3) := by decide +kernel
theorem dL_scrapes_22 : decode cL_scrapes 22 = .ok (.iload 5, 2) := by decide +kernel
theorem dL_scrapes_24 : decode cL_scrapes 24 = .ok (.istore 6, 2) := by decide +kernel
theorem dL_scrapes_26 : decode cL_scrapes 26 = .ok (.aload_n 1, 1) := by decide +kernel
theorem dL_scrapes_27 : decode cL_scrapes 27 = .ok (.iload_n 3, 1) := by decide +kernel
theorem dL_scrapes_28 : decode cL_scrapes 28 = .ok (.iload 4, 2) := by decide +kernel
theorem dL_scrapes_30 : decode cL_scrapes 30 = .ok (.iload 6, 2) := by decide +kernel
theorem dL_scrapes_32 : decode cL_scrapes 32 = .ok (.ineg, 1) := by decide +kernel
theorem dL_scrapes_33 : decode cL_scrapes 33 = .ok (.invokestatic 26, 3) := by decide +kernel
theorem dL_scrapes_36 : decode cL_scrapes 36 = .ok (.aload_n 2, 1) := by decide +kernel
theorem dL_scrapes_37 : decode cL_scrapes 37 = .ok (.bipush 56, 2) := by decide +kernel
theorem dL_scrapes_39 : decode cL_scrapes 39 = .ok (.dup2, 1) := by decide +kernel
theorem dL_scrapes_40 : decode cL_scrapes 40 = .ok (.iaload, 1) := by decide +kernel
theorem dL_scrapes_41 : decode cL_scrapes 41 = .ok (.iload 6, 2) := by decide +kernel
theorem dL_scrapes_43 : decode cL_scrapes 43 = .ok (.iadd, 1) := by decide +kernel
theorem dL_scrapes_44 : decode cL_scrapes 44 = .ok (.iastore, 1) := by decide +kernel
theorem dL_scrapes_45 : decode cL_scrapes 45 = .ok (.aload_n 0, 1) := by decide +kernel
theorem dL_scrapes_46 : decode cL_scrapes 46 = .ok (.iload_n 3, 1) := by decide +kernel
theorem dL_scrapes_47 : decode cL_scrapes 47 = .ok (.iload 4, 2) := by decide +kernel
theorem dL_scrapes_49 : decode cL_scrapes 49 = .ok (.iload 5, 2) := by decide +kernel
theorem dL_scrapes_51 : decode cL_scrapes 51 = .ok (.invokevirtual 76, 3) := by decide +kernel
theorem dL_scrapes_54 : decode cL_scrapes 54 = .ok (.iload 6, 2) := by decide +kernel
theorem dL_scrapes_56 : decode cL_scrapes 56 = .ok (.if_icmp .ne 35, 3) := by decide +kernel
theorem dL_scrapes_59 : decode cL_scrapes 59 = .ok (.aload_n 0, 1) := by decide +kernel
theorem dL_scrapes_60 : decode cL_scrapes 60 = .ok (.bipush 40, 2) := by decide +kernel
theorem dL_scrapes_62 : decode cL_scrapes 62 = .ok (.iconst 0, 1) := by decide +kernel
theorem dL_scrapes_63 : decode cL_scrapes 63 = .ok (.iconst 1, 1) := by decide +kernel
theorem dL_scrapes_64 : decode cL_scrapes 64 = .ok (.invokevirtual 76, 3) := by decide +kernel
theorem dL_scrapes_67 : decode cL_scrapes 67 = .ok (.sipush (-1002), 3) := by decide +kernel
theorem dL_scrapes_70 : decode cL_scrapes 70 = .ok (.if_icmp .ne 21, 3) := by decide +kernel
theorem dL_scrapes_73 : decode cL_scrapes 73 = .ok (.aload_n 0, 1) := by decide +kernel
theorem dL_scrapes_74 : decode cL_scrapes 74 = .ok (.iconst 0, 1) := by decide +kernel
theorem dL_scrapes_75 : decode cL_scrapes 75 = .ok (.iconst 0, 1) := by decide +kernel
theorem dL_scrapes_76 : decode cL_scrapes 76 = .ok (.bipush 61, 2) := by decide +kernel
theorem dL_scrapes_78 : decode cL_scrapes 78 = .ok (.invokevirtual 76, 3) := by decide +kernel
theorem dL_scrapes_81 : decode cL_scrapes 81 = .ok (.sipush (-1002), 3) := by decide +kernel
theorem dL_scrapes_84 : decode cL_scrapes 84 = .ok (.if_icmp .ne 7, 3) := by decide +kernel
theorem dL_scrapes_87 : decode cL_scrapes 87 = .ok (.iconst 1, 1) := by decide +kernel
theorem dL_scrapes_88 : decode cL_scrapes 88 = .ok (.goto 4, 3) := by decide +kernel
theorem dL_scrapes_91 : decode cL_scrapes 91 = .ok (.iconst 0, 1) := by decide +kernel
theorem dL_scrapes_92 : decode cL_scrapes 92 = .ok (.ireturn, 1) := by decide +kernel
theorem dL_setsTrain_0 : decode cL_setsTrain 0 = .ok (.aload_n 1, 1) := by decide +kernel
theorem dL_setsTrain_1 : decode cL_setsTrain 1 = .ok (.invokestatic 72, 3) := by decide +kernel
theorem dL_setsTrain_4 : decode cL_setsTrain 4 = .ok (.istore_n 3, 1) := by decide +kernel
theorem dL_setsTrain_5 : decode cL_setsTrain 5 = .ok (.aload_n 1, 1) := by decide +kernel
theorem dL_setsTrain_6 : decode cL_setsTrain 6 = .ok (.bipush 56, 2) := by decide +kernel
theorem dL_setsTrain_8 : decode cL_setsTrain 8 = .ok (.dup2, 1) := by decide +kernel
theorem dL_setsTrain_9 : decode cL_setsTrain 9 = .ok (.iaload, 1) := by decide +kernel
theorem dL_setsTrain_10 : decode cL_setsTrain 10 = .ok (.iload_n 3, 1) := by decide +kernel
theorem dL_setsTrain_11 : decode cL_setsTrain 11 = .ok (.iadd, 1) := by decide +kernel
theorem dL_setsTrain_12 : decode cL_setsTrain 12 = .ok (.iastore, 1) := by decide +kernel
theorem dL_setsTrain_13 : decode cL_setsTrain 13 = .ok (.aload_n 1, 1) := by decide +kernel
theorem dL_setsTrain_14 : decode cL_setsTrain 14 = .ok (.iload_n 2, 1) := by decide +kernel
theorem dL_setsTrain_15 : decode cL_setsTrain 15 = .ok (.invokestatic 9, 3) := by decide +kernel
theorem dL_setsTrain_18 : decode cL_setsTrain 18 = .ok (.aload_n 0, 1) := by decide +kernel
theorem dL_setsTrain_19 : decode cL_setsTrain 19 = .ok (.iload_n 2, 1) := by decide +kernel
theorem dL_setsTrain_20 : decode cL_setsTrain 20 = .ok (.invokevirtual 79, 3) := by decide +kernel
theorem dL_setsTrain_23 : decode cL_setsTrain 23 = .ok (.iload_n 3, 1) := by decide +kernel
theorem dL_setsTrain_24 : decode cL_setsTrain 24 = .ok (.if_icmp .ne 19, 3) := by decide +kernel
theorem dL_setsTrain_27 : decode cL_setsTrain 27 = .ok (.aload_n 0, 1) := by decide +kernel
theorem dL_setsTrain_28 : decode cL_setsTrain 28 = .ok (.bipush 7, 2) := by decide +kernel
theorem dL_setsTrain_30 : decode cL_setsTrain 30 = .ok (.invokevirtual 79, 3) := by decide +kernel
theorem dL_setsTrain_33 : decode cL_setsTrain 33 = .ok (.sipush (-1002), 3) := by decide +kernel
theorem dL_setsTrain_36 : decode cL_setsTrain 36 = .ok (.if_icmp .ne 7, 3) := by decide +kernel
theorem dL_setsTrain_39 : decode cL_setsTrain 39 = .ok (.iconst 1, 1) := by decide +kernel
theorem dL_setsTrain_40 : decode cL_setsTrain 40 = .ok (.goto 4, 3) := by decide +kernel
theorem dL_setsTrain_43 : decode cL_setsTrain 43 = .ok (.iconst 0, 1) := by decide +kernel
theorem dL_setsTrain_44 : decode cL_setsTrain 44 = .ok (.ireturn, 1) := by decide +kernel
theorem dL_law_0 : decode cL_law 0 = .ok (.new 34, 3) := by decide +kernel
theorem dL_law_3 : decode cL_law 3 = .ok (.dup, 1) := by decide +kernel
theorem dL_law_4 : decode cL_law 4 = .ok (.invokespecial 82, 3) := by decide +kernel
theorem dL_law_7 : decode cL_law 7 = .ok (.astore_n 1, 1) := by decide +kernel
theorem dL_law_8 : decode cL_law 8 = .ok (.bipush 40, 2) := by decide +kernel
theorem dL_law_10 : decode cL_law 10 = .ok (.newarray .int, 2) := by decide +kernel
theorem dL_law_12 : decode cL_law 12 = .ok (.astore_n 2, 1) := by decide +kernel
theorem dL_law_13 : decode cL_law 13 = .ok (.bipush 64, 2) := by decide +kernel
theorem dL_law_15 : decode cL_law 15 = .ok (.newarray .int, 2) := by decide +kernel
theorem dL_law_17 : decode cL_law 17 = .ok (.astore_n 3, 1) := by decide +kernel
theorem dL_law_18 : decode cL_law 18 = .ok (.bipush 64, 2) := by decide +kernel
theorem dL_law_20 : decode cL_law 20 = .ok (.newarray .int, 2) := by decide +kernel
theorem dL_law_22 : decode cL_law 22 = .ok (.astore 4, 2) := by decide +kernel
theorem dL_law_24 : decode cL_law 24 = .ok (.aload_n 3, 1) := by decide +kernel
theorem dL_law_25 : decode cL_law 25 = .ok (.invokestatic 83, 3) := by decide +kernel
theorem dL_law_28 : decode cL_law 28 = .ok (.aload_n 1, 1) := by decide +kernel
theorem dL_law_29 : decode cL_law 29 = .ok (.iconst 3, 1) := by decide +kernel
theorem dL_law_30 : decode cL_law 30 = .ok (.iconst 1, 1) := by decide +kernel
theorem dL_law_31 : decode cL_law 31 = .ok (.invokevirtual 39, 3) := by decide +kernel
theorem dL_law_34 : decode cL_law 34 = .ok (.sipush (-1002), 3) := by decide +kernel
theorem dL_law_37 : decode cL_law 37 = .ok (.if_icmp .ne 98, 3) := by decide +kernel
theorem dL_law_40 : decode cL_law 40 = .ok (.aload_n 1, 1) := by decide +kernel
theorem dL_law_41 : decode cL_law 41 = .ok (.iconst 0, 1) := by decide +kernel
theorem dL_law_42 : decode cL_law 42 = .ok (.sipush 201, 3) := by decide +kernel
theorem dL_law_45 : decode cL_law 45 = .ok (.invokevirtual 39, 3) := by decide +kernel
theorem dL_law_48 : decode cL_law 48 = .ok (.sipush (-1002), 3) := by decide +kernel
theorem dL_law_51 : decode cL_law 51 = .ok (.if_icmp .ne 84, 3) := by decide +kernel
theorem dL_law_54 : decode cL_law 54 = .ok (.aload_n 1, 1) := by decide +kernel
theorem dL_law_55 : decode cL_law 55 = .ok (.iconst 3, 1) := by decide +kernel
theorem dL_law_56 : decode cL_law 56 = .ok (.iconst 0, 1) := by decide +kernel
theorem dL_law_57 : decode cL_law 57 = .ok (.iconst 0, 1) := by decide +kernel
theorem dL_law_58 : decode cL_law 58 = .ok (.invokevirtual 42, 3) := by decide +kernel
theorem dL_law_61 : decode cL_law 61 = .ok (.sipush (-1002), 3) := by decide +kernel
theorem dL_law_64 : decode cL_law 64 = .ok (.if_icmp .ne 71, 3) := by decide +kernel
theorem dL_law_67 : decode cL_law 67 = .ok (.aload_n 1, 1) := by decide +kernel
theorem dL_law_68 : decode cL_law 68 = .ok (.invokevirtual 87, 3) := by decide +kernel
theorem dL_law_71 : decode cL_law 71 = .ok (.sipush (-1003), 3) := by decide +kernel
theorem dL_law_74 : decode cL_law 74 = .ok (.if_icmp .ne 61, 3) := by decide +kernel
theorem dL_law_77 : decode cL_law 77 = .ok (.aload_n 1, 1) := by decide +kernel
theorem dL_law_78 : decode cL_law 78 = .ok (.iconst 0, 1) := by decide +kernel
theorem dL_law_79 : decode cL_law 79 = .ok (.invokevirtual 91, 3) := by decide +kernel
theorem dL_law_82 : decode cL_law 82 = .ok (.sipush (-1002), 3) := by decide +kernel
theorem dL_law_85 : decode cL_law 85 = .ok (.if_icmp .ne 50, 3) := by decide +kernel
theorem dL_law_88 : decode cL_law 88 = .ok (.aload_n 1, 1) := by decide +kernel
theorem dL_law_89 : decode cL_law 89 = .ok (.iconst 0, 1) := by decide +kernel
theorem dL_law_90 : decode cL_law 90 = .ok (.invokevirtual 54, 3) := by decide +kernel
theorem dL_law_93 : decode cL_law 93 = .ok (.sipush (-1002), 3) := by decide +kernel
theorem dL_law_96 : decode cL_law 96 = .ok (.if_icmp .ne 39, 3) := by decide +kernel
theorem dL_law_99 : decode cL_law 99 = .ok (.aload_n 1, 1) := by decide +kernel
theorem dL_law_100 : decode cL_law 100 = .ok (.iconst 0, 1) := by decide +kernel
theorem dL_law_101 : decode cL_law 101 = .ok (.iconst 0, 1) := by decide +kernel
theorem dL_law_102 : decode cL_law 102 = .ok (.iconst 2, 1) := by decide +kernel
theorem dL_law_103 : decode cL_law 103 = .ok (.invokevirtual 57, 3) := by decide +kernel
theorem dL_law_106 : decode cL_law 106 = .ok (.sipush (-1002), 3) := by decide +kernel
theorem dL_law_109 : decode cL_law 109 = .ok (.if_icmp .ne 26, 3) := by decide +kernel
theorem dL_law_112 : decode cL_law 112 = .ok (.aload_n 1, 1) := by decide +kernel
theorem dL_law_113 : decode cL_law 113 = .ok (.iconst 0, 1) := by decide +kernel
theorem dL_law_114 : decode cL_law 114 = .ok (.iconst 5, 1) := by decide +kernel
theorem dL_law_115 : decode cL_law 115 = .ok (.invokevirtual 60, 3) := by decide +kernel
theorem dL_law_118 : decode cL_law 118 = .ok (.sipush (-1002), 3) := by decide +kernel
theorem dL_law_121 : decode cL_law 121 = .ok (.if_icmp .ne 14, 3) := by decide +kernel
theorem dL_law_124 : decode cL_law 124 = .ok (.aload_n 1, 1) := by decide +kernel
theorem dL_law_125 : decode cL_law 125 = .ok (.aload_n 2, 1) := by decide +kernel
theorem dL_law_126 : decode cL_law 126 = .ok (.aload_n 3, 1) := by decide +kernel
theorem dL_law_127 : decode cL_law 127 = .ok (.aload 4, 2) := by decide +kernel
theorem dL_law_129 : decode cL_law 129 = .ok (.invokestatic 94, 3) := by decide +kernel
theorem dL_law_132 : decode cL_law 132 = .ok (.ifCond .ne 5, 3) := by decide +kernel
theorem dL_law_135 : decode cL_law 135 = .ok (.iconst 0, 1) := by decide +kernel
theorem dL_law_136 : decode cL_law 136 = .ok (.ireturn, 1) := by decide +kernel
theorem dL_law_137 : decode cL_law 137 = .ok (.aload_n 0, 1) := by decide +kernel
theorem dL_law_138 : decode cL_law 138 = .ok (.iconst 0, 1) := by decide +kernel
theorem dL_law_139 : decode cL_law 139 = .ok (.invokestatic 98, 3) := by decide +kernel
theorem dL_law_142 : decode cL_law 142 = .ok (.istore 5, 2) := by decide +kernel
theorem dL_law_144 : decode cL_law 144 = .ok (.aload_n 1, 1) := by decide +kernel
theorem dL_law_145 : decode cL_law 145 = .ok (.aload_n 3, 1) := by decide +kernel
theorem dL_law_146 : decode cL_law 146 = .ok (.iconst 0, 1) := by decide +kernel
theorem dL_law_147 : decode cL_law 147 = .ok (.iconst 1, 1) := by decide +kernel
theorem dL_law_148 : decode cL_law 148 = .ok (.iload 5, 2) := by decide +kernel
theorem dL_law_150 : decode cL_law 150 = .ok (.sipush 200, 3) := by decide +kernel
theorem dL_law_153 : decode cL_law 153 = .ok (.invokestatic 101, 3) := by decide +kernel
theorem dL_law_156 : decode cL_law 156 = .ok (.iadd, 1) := by decide +kernel
theorem dL_law_157 : decode cL_law 157 = .ok (.invokestatic 104, 3) := by decide +kernel
theorem dL_law_160 : decode cL_law 160 = .ok (.ifCond .eq 65, 3) := by decide +kernel
theorem dL_law_163 : decode cL_law 163 = .ok (.aload_n 1, 1) := by decide +kernel
theorem dL_law_164 : decode cL_law 164 = .ok (.aload_n 3, 1) := by decide +kernel
theorem dL_law_165 : decode cL_law 165 = .ok (.iconst 1, 1) := by decide +kernel
theorem dL_law_166 : decode cL_law 166 = .ok (.iconst 1, 1) := by decide +kernel
theorem dL_law_167 : decode cL_law 167 = .ok (.iload 5, 2) := by decide +kernel
theorem dL_law_169 : decode cL_law 169 = .ok (.bipush 8, 2) := by decide +kernel
theorem dL_law_171 : decode cL_law 171 = .ok (.ishr, 1) := by decide +kernel
theorem dL_law_172 : decode cL_law 172 = .ok (.bipush 120, 2) := by decide +kernel
theorem dL_law_174 : decode cL_law 174 = .ok (.invokestatic 101, 3) := by decide +kernel
theorem dL_law_177 : decode cL_law 177 = .ok (.iadd, 1) := by decide +kernel
theorem dL_law_178 : decode cL_law 178 = .ok (.invokestatic 104, 3) := by decide +kernel
theorem dL_law_181 : decode cL_law 181 = .ok (.ifCond .eq 44, 3) := by decide +kernel
theorem dL_law_184 : decode cL_law 184 = .ok (.aload_n 1, 1) := by decide +kernel
theorem dL_law_185 : decode cL_law 185 = .ok (.aload_n 3, 1) := by decide +kernel
theorem dL_law_186 : decode cL_law 186 = .ok (.iconst 0, 1) := by decide +kernel
theorem dL_law_187 : decode cL_law 187 = .ok (.iconst 1, 1) := by decide +kernel
theorem dL_law_188 : decode cL_law 188 = .ok (.iload 5, 2) := by decide +kernel
theorem dL_law_190 : decode cL_law 190 = .ok (.bipush 16, 2) := by decide +kernel
theorem dL_law_192 : decode cL_law 192 = .ok (.ishr, 1) := by decide +kernel
theorem dL_law_193 : decode cL_law 193 = .ok (.bipush 6, 2) := by decide +kernel
theorem dL_law_195 : decode cL_law 195 = .ok (.invokestatic 101, 3) := by decide +kernel
theorem dL_law_198 : decode cL_law 198 = .ok (.iadd, 1) := by decide +kernel
theorem dL_law_199 : decode cL_law 199 = .ok (.invokestatic 108, 3) := by decide +kernel
theorem dL_law_202 : decode cL_law 202 = .ok (.ifCond .eq 23, 3) := by decide +kernel
theorem dL_law_205 : decode cL_law 205 = .ok (.aload_n 1, 1) := by decide +kernel
theorem dL_law_206 : decode cL_law 206 = .ok (.aload_n 3, 1) := by decide +kernel
theorem dL_law_207 : decode cL_law 207 = .ok (.iconst 3, 1) := by decide +kernel
theorem dL_law_208 : decode cL_law 208 = .ok (.iload 5, 2) := by decide +kernel
theorem dL_law_210 : decode cL_law 210 = .ok (.bipush 20, 2) := by decide +kernel
theorem dL_law_212 : decode cL_law 212 = .ok (.ishr, 1) := by decide +kernel
theorem dL_law_213 : decode cL_law 213 = .ok (.sipush 150, 3) := by decide +kernel
theorem dL_law_216 : decode cL_law 216 = .ok (.invokestatic 101, 3) := by decide +kernel
theorem dL_law_219 : decode cL_law 219 = .ok (.invokestatic 108, 3) := by decide +kernel
theorem dL_law_222 : decode cL_law 222 = .ok (.ifCond .ne 5, 3) := by decide +kernel
theorem dL_law_225 : decode cL_law 225 = .ok (.iconst 0, 1) := by decide +kernel
theorem dL_law_226 : decode cL_law 226 = .ok (.ireturn, 1) := by decide +kernel
theorem dL_law_227 : decode cL_law 227 = .ok (.iconst 0, 1) := by decide +kernel
theorem dL_law_228 : decode cL_law 228 = .ok (.istore 6, 2) := by decide +kernel
theorem dL_law_230 : decode cL_law 230 = .ok (.iload 6, 2) := by decide +kernel
theorem dL_law_232 : decode cL_law 232 = .ok (.bipush 26, 2) := by decide +kernel
theorem dL_law_234 : decode cL_law 234 = .ok (.if_icmp .ge 410, 3) := by decide +kernel
theorem dL_law_237 : decode cL_law 237 = .ok (.aload_n 0, 1) := by decide +kernel
theorem dL_law_238 : decode cL_law 238 = .ok (.iconst 1, 1) := by decide +kernel
theorem dL_law_239 : decode cL_law 239 = .ok (.iload 6, 2) := by decide +kernel
theorem dL_law_241 : decode cL_law 241 = .ok (.iadd, 1) := by decide +kernel
theorem dL_law_242 : decode cL_law 242 = .ok (.invokestatic 98, 3) := by decide +kernel
theorem dL_law_245 : decode cL_law 245 = .ok (.istore 7, 2) := by decide +kernel
theorem dL_law_247 : decode cL_law 247 = .ok (.iload 7, 2) := by decide +kernel
theorem dL_law_249 : decode cL_law 249 = .ok (.iconst 4, 1) := by decide +kernel
theorem dL_law_250 : decode cL_law 250 = .ok (.ishr, 1) := by decide +kernel
theorem dL_law_251 : decode cL_law 251 = .ok (.aload_n 3, 1) := by decide +kernel
theorem dL_law_252 : decode cL_law 252 = .ok (.bipush 48, 2) := by decide +kernel
theorem dL_law_254 : decode cL_law 254 = .ok (.iaload, 1) := by decide +kernel
theorem dL_law_255 : decode cL_law 255 = .ok (.invokestatic 101, 3) := by decide +kernel
theorem dL_law_258 : decode cL_law 258 = .ok (.istore 8, 2) := by decide +kernel
theorem dL_law_260 : decode cL_law 260 = .ok (.iload 7, 2) := by decide +kernel
theorem dL_law_262 : decode cL_law 262 = .ok (.bipush 13, 2) := by decide +kernel
theorem dL_law_264 : decode cL_law 264 = .ok (.invokestatic 101, 3) := by decide +kernel
theorem dL_law_267 : decode cL_law 267 = .ok (.tableswitch 316 0 8 #[49, 73, 115, 156, 268, 268, 286, 286, 286], 49) := by decide +kernel
theorem dL_law_316 : decode cL_law 316 = .ok (.aload_n 1, 1) := by decide +kernel
theorem dL_law_317 : decode cL_law 317 = .ok (.aload_n 3, 1) := by decide +kernel
theorem dL_law_318 : decode cL_law 318 = .ok (.iload 8, 2) := by decide +kernel
theorem dL_law_320 : decode cL_law 320 = .ok (.iconst 1, 1) := by decide +kernel
theorem dL_law_321 : decode cL_law 321 = .ok (.iload 7, 2) := by decide +kernel
theorem dL_law_323 : decode cL_law 323 = .ok (.bipush 7, 2) := by decide +kernel
theorem dL_law_325 : decode cL_law 325 = .ok (.ishr, 1) := by decide +kernel
theorem dL_law_326 : decode cL_law 326 = .ok (.bipush 90, 2) := by decide +kernel
theorem dL_law_328 : decode cL_law 328 = .ok (.invokestatic 101, 3) := by decide +kernel
theorem dL_law_331 : decode cL_law 331 = .ok (.iadd, 1) := by decide +kernel
theorem dL_law_332 : decode cL_law 332 = .ok (.invokestatic 104, 3) := by decide +kernel
theorem dL_law_335 : decode cL_law 335 = .ok (.istore 9, 2) := by decide +kernel
theorem dL_law_337 : decode cL_law 337 = .ok (.goto 283, 3) := by decide +kernel
theorem dL_law_340 : decode cL_law 340 = .ok (.iload 7, 2) := by decide +kernel
theorem dL_law_342 : decode cL_law 342 = .ok (.bipush 7, 2) := by decide +kernel
theorem dL_law_344 : decode cL_law 344 = .ok (.ishr, 1) := by decide +kernel
theorem dL_law_345 : decode cL_law 345 = .ok (.iconst 5, 1) := by decide +kernel
theorem dL_law_346 : decode cL_law 346 = .ok (.invokestatic 101, 3) := by decide +kernel
theorem dL_law_349 : decode cL_law 349 = .ok (.ifCond .gt 23, 3) := by decide +kernel
theorem dL_law_352 : decode cL_law 352 = .ok (.aload_n 1, 1) := by decide +kernel
theorem dL_law_353 : decode cL_law 353 = .ok (.aload_n 3, 1) := by decide +kernel
theorem dL_law_354 : decode cL_law 354 = .ok (.iconst 1, 1) := by decide +kernel
theorem dL_law_355 : decode cL_law 355 = .ok (.iload 7, 2) := by decide +kernel
theorem dL_law_357 : decode cL_law 357 = .ok (.bipush 10, 2) := by decide +kernel
theorem dL_law_359 : decode cL_law 359 = .ok (.ishr, 1) := by decide +kernel
theorem dL_law_360 : decode cL_law 360 = .ok (.bipush 6, 2) := by decide +kernel
theorem dL_law_362 : decode cL_law 362 = .ok (.invokestatic 101, 3) := by decide +kernel
theorem dL_law_365 : decode cL_law 365 = .ok (.iadd, 1) := by decide +kernel
theorem dL_law_366 : decode cL_law 366 = .ok (.invokestatic 111, 3) := by decide +kernel
theorem dL_law_369 : decode cL_law 369 = .ok (.ifCond .eq 7, 3) := by decide +kernel
theorem dL_law_372 : decode cL_law 372 = .ok (.iconst 1, 1) := by decide +kernel
theorem dL_law_373 : decode cL_law 373 = .ok (.goto 4, 3) := by decide +kernel
theorem dL_law_376 : decode cL_law 376 = .ok (.iconst 0, 1) := by decide +kernel
theorem dL_law_377 : decode cL_law 377 = .ok (.istore 9, 2) := by decide +kernel
theorem dL_law_379 : decode cL_law 379 = .ok (.goto 241, 3) := by decide +kernel
theorem dL_law_382 : decode cL_law 382 = .ok (.aload_n 1, 1) := by decide +kernel
theorem dL_law_383 : decode cL_law 383 = .ok (.aload_n 2, 1) := by decide +kernel
theorem dL_law_384 : decode cL_law 384 = .ok (.aload_n 3, 1) := by decide +kernel
theorem dL_law_385 : decode cL_law 385 = .ok (.iload 7, 2) := by decide +kernel
theorem dL_law_387 : decode cL_law 387 = .ok (.iconst 4, 1) := by decide +kernel
theorem dL_law_388 : decode cL_law 388 = .ok (.ishr, 1) := by decide +kernel
theorem dL_law_389 : decode cL_law 389 = .ok (.bipush 40, 2) := by decide +kernel
theorem dL_law_391 : decode cL_law 391 = .ok (.invokestatic 101, 3) := by decide +kernel
theorem dL_law_394 : decode cL_law 394 = .ok (.iload 7, 2) := by decide +kernel
theorem dL_law_396 : decode cL_law 396 = .ok (.bipush 10, 2) := by decide +kernel
theorem dL_law_398 : decode cL_law 398 = .ok (.ishr, 1) := by decide +kernel
theorem dL_law_399 : decode cL_law 399 = .ok (.iconst 3, 1) := by decide +kernel
theorem dL_law_400 : decode cL_law 400 = .ok (.invokestatic 101, 3) := by decide +kernel
theorem dL_law_403 : decode cL_law 403 = .ok (.iconst 1, 1) := by decide +kernel
theorem dL_law_404 : decode cL_law 404 = .ok (.iload 7, 2) := by decide +kernel
theorem dL_law_406 : decode cL_law 406 = .ok (.bipush 12, 2) := by decide +kernel
theorem dL_law_408 : decode cL_law 408 = .ok (.ishr, 1) := by decide +kernel
theorem dL_law_409 : decode cL_law 409 = .ok (.bipush 60, 2) := by decide +kernel
theorem dL_law_411 : decode cL_law 411 = .ok (.invokestatic 101, 3) := by decide +kernel
theorem dL_law_414 : decode cL_law 414 = .ok (.iadd, 1) := by decide +kernel
theorem dL_law_415 : decode cL_law 415 = .ok (.invokestatic 115, 3) := by decide +kernel
theorem dL_law_418 : decode cL_law 418 = .ok (.istore 9, 2) := by decide +kernel
theorem dL_law_420 : decode cL_law 420 = .ok (.goto 200, 3) := by decide +kernel
theorem dL_law_423 : decode cL_law 423 = .ok (.iload 7, 2) := by decide +kernel
theorem dL_law_425 : decode cL_law 425 = .ok (.iconst 4, 1) := by decide +kernel
theorem dL_law_426 : decode cL_law 426 = .ok (.ishr, 1) := by decide +kernel
theorem dL_law_427 : decode cL_law 427 = .ok (.iconst 5, 1) := by decide +kernel
theorem dL_law_428 : decode cL_law 428 = .ok (.invokestatic 101, 3) := by decide +kernel
theorem dL_law_431 : decode cL_law 431 = .ok (.istore 10, 2) := by decide +kernel
theorem dL_law_433 : decode cL_law 433 = .ok (.aload_n 1, 1) := by decide +kernel
theorem dL_law_434 : decode cL_law 434 = .ok (.aload_n 3, 1) := by decide +kernel
theorem dL_law_435 : decode cL_law 435 = .ok (.iload 10, 2) := by decide +kernel
theorem dL_law_437 : decode cL_law 437 = .ok (.iload 10, 2) := by decide +kernel
theorem dL_law_439 : decode cL_law 439 = .ok (.ifCond .ne 18, 3) := by decide +kernel
theorem dL_law_442 : decode cL_law 442 = .ok (.iconst 1, 1) := by decide +kernel
theorem dL_law_443 : decode cL_law 443 = .ok (.iload 7, 2) := by decide +kernel
theorem dL_law_445 : decode cL_law 445 = .ok (.bipush 7, 2) := by decide +kernel
theorem dL_law_447 : decode cL_law 447 = .ok (.ishr, 1) := by decide +kernel
theorem dL_law_448 : decode cL_law 448 = .ok (.bipush 20, 2) := by decide +kernel
theorem dL_law_450 : decode cL_law 450 = .ok (.invokestatic 101, 3) := by decide +kernel
theorem dL_law_453 : decode cL_law 453 = .ok (.iadd, 1) := by decide +kernel
theorem dL_law_454 : decode cL_law 454 = .ok (.goto 73, 3) := by decide +kernel
theorem dL_law_457 : decode cL_law 457 = .ok (.iload 10, 2) := by decide +kernel
theorem dL_law_459 : decode cL_law 459 = .ok (.iconst 1, 1) := by decide +kernel
theorem dL_law_460 : decode cL_law 460 = .ok (.if_icmp .ne 18, 3) := by decide +kernel
theorem dL_law_463 : decode cL_law 463 = .ok (.iconst 1, 1) := by decide +kernel
theorem dL_law_464 : decode cL_law 464 = .ok (.iload 7, 2) := by decide +kernel
theorem dL_law_466 : decode cL_law 466 = .ok (.bipush 7, 2) := by decide +kernel
theorem dL_law_468 : decode cL_law 468 = .ok (.ishr, 1) := by decide +kernel
theorem dL_law_469 : decode cL_law 469 = .ok (.bipush 60, 2) := by decide +kernel
theorem dL_law_471 : decode cL_law 471 = .ok (.invokestatic 101, 3) := by decide +kernel
theorem dL_law_474 : decode cL_law 474 = .ok (.iadd, 1) := by decide +kernel
theorem dL_law_475 : decode cL_law 475 = .ok (.goto 52, 3) := by decide +kernel
theorem dL_law_478 : decode cL_law 478 = .ok (.iload 10, 2) := by decide +kernel
theorem dL_law_480 : decode cL_law 480 = .ok (.iconst 2, 1) := by decide +kernel
theorem dL_law_481 : decode cL_law 481 = .ok (.if_icmp .ne 16, 3) := by decide +kernel
theorem dL_law_484 : decode cL_law 484 = .ok (.iload 7, 2) := by decide +kernel
theorem dL_law_486 : decode cL_law 486 = .ok (.bipush 7, 2) := by decide +kernel
theorem dL_law_488 : decode cL_law 488 = .ok (.ishr, 1) := by decide +kernel
theorem dL_law_489 : decode cL_law 489 = .ok (.bipush 10, 2) := by decide +kernel
theorem dL_law_491 : decode cL_law 491 = .ok (.invokestatic 101, 3) := by decide +kernel
theorem dL_law_494 : decode cL_law 494 = .ok (.goto 33, 3) := by decide +kernel
theorem dL_law_497 : decode cL_law 497 = .ok (.iload 10, 2) := by decide +kernel
theorem dL_law_499 : decode cL_law 499 = .ok (.iconst 3, 1) := by decide +kernel
theorem dL_law_500 : decode cL_law 500 = .ok (.if_icmp .ne 17, 3) := by decide +kernel
theorem dL_law_503 : decode cL_law 503 = .ok (.iload 7, 2) := by decide +kernel
theorem dL_law_505 : decode cL_law 505 = .ok (.bipush 7, 2) := by decide +kernel
theorem dL_law_507 : decode cL_law 507 = .ok (.ishr, 1) := by decide +kernel
theorem dL_law_508 : decode cL_law 508 = .ok (.sipush 201, 3) := by decide +kernel
theorem dL_law_511 : decode cL_law 511 = .ok (.invokestatic 101, 3) := by decide +kernel
theorem dL_law_514 : decode cL_law 514 = .ok (.goto 13, 3) := by decide +kernel
theorem dL_law_517 : decode cL_law 517 = .ok (.iload 7, 2) := by decide +kernel
theorem dL_law_519 : decode cL_law 519 = .ok (.bipush 7, 2) := by decide +kernel
theorem dL_law_521 : decode cL_law 521 = .ok (.ishr, 1) := by decide +kernel
theorem dL_law_522 : decode cL_law 522 = .ok (.bipush 61, 2) := by decide +kernel
theorem dL_law_524 : decode cL_law 524 = .ok (.invokestatic 101, 3) := by decide +kernel
theorem dL_law_527 : decode cL_law 527 = .ok (.invokestatic 108, 3) := by decide +kernel
theorem dL_law_530 : decode cL_law 530 = .ok (.istore 9, 2) := by decide +kernel
theorem dL_law_532 : decode cL_law 532 = .ok (.goto 88, 3) := by decide +kernel
theorem dL_law_535 : decode cL_law 535 = .ok (.aload_n 1, 1) := by decide +kernel
theorem dL_law_536 : decode cL_law 536 = .ok (.aload_n 3, 1) := by decide +kernel
theorem dL_law_537 : decode cL_law 537 = .ok (.iload 7, 2) := by decide +kernel
theorem dL_law_539 : decode cL_law 539 = .ok (.iconst 4, 1) := by decide +kernel
theorem dL_law_540 : decode cL_law 540 = .ok (.ishr, 1) := by decide +kernel
theorem dL_law_541 : decode cL_law 541 = .ok (.iconst 4, 1) := by decide +kernel
theorem dL_law_542 : decode cL_law 542 = .ok (.invokestatic 101, 3) := by decide +kernel
theorem dL_law_545 : decode cL_law 545 = .ok (.invokestatic 119, 3) := by decide +kernel
theorem dL_law_548 : decode cL_law 548 = .ok (.istore 9, 2) := by decide +kernel
theorem dL_law_550 : decode cL_law 550 = .ok (.goto 70, 3) := by decide +kernel
theorem dL_law_553 : decode cL_law 553 = .ok (.aload_n 1, 1) := by decide +kernel
theorem dL_law_554 : decode cL_law 554 = .ok (.aload_n 3, 1) := by decide +kernel
theorem dL_law_555 : decode cL_law 555 = .ok (.iload 8, 2) := by decide +kernel
theorem dL_law_557 : decode cL_law 557 = .ok (.iload 7, 2) := by decide +kernel
theorem dL_law_559 : decode cL_law 559 = .ok (.bipush 7, 2) := by decide +kernel
theorem dL_law_561 : decode cL_law 561 = .ok (.ishr, 1) := by decide +kernel
theorem dL_law_562 : decode cL_law 562 = .ok (.iconst 3, 1) := by decide +kernel
theorem dL_law_563 : decode cL_law 563 = .ok (.invokestatic 101, 3) := by decide +kernel
theorem dL_law_566 : decode cL_law 566 = .ok (.iload 7, 2) := by decide +kernel
theorem dL_law_568 : decode cL_law 568 = .ok (.bipush 9, 2) := by decide +kernel
theorem dL_law_570 : decode cL_law 570 = .ok (.ishr, 1) := by decide +kernel
theorem dL_law_571 : decode cL_law 571 = .ok (.iconst 4, 1) := by decide +kernel
theorem dL_law_572 : decode cL_law 572 = .ok (.invokestatic 101, 3) := by decide +kernel
theorem dL_law_575 : decode cL_law 575 = .ok (.invokestatic 122, 3) := by decide +kernel
theorem dL_law_578 : decode cL_law 578 = .ok (.istore 9, 2) := by decide +kernel
theorem dL_law_580 : decode cL_law 580 = .ok (.goto 40, 3) := by decide +kernel
theorem dL_law_583 : decode cL_law 583 = .ok (.aload_n 1, 1) := by decide +kernel
theorem dL_law_584 : decode cL_law 584 = .ok (.aload_n 2, 1) := by decide +kernel
theorem dL_law_585 : decode cL_law 585 = .ok (.aload_n 3, 1) := by decide +kernel
theorem dL_law_586 : decode cL_law 586 = .ok (.aload 4, 2) := by decide +kernel
theorem dL_law_588 : decode cL_law 588 = .ok (.iconst 1, 1) := by decide +kernel
theorem dL_law_589 : decode cL_law 589 = .ok (.iload 7, 2) := by decide +kernel
theorem dL_law_591 : decode cL_law 591 = .ok (.iconst 4, 1) := by decide +kernel
theorem dL_law_592 : decode cL_law 592 = .ok (.ishr, 1) := by decide +kernel
theorem dL_law_593 : decode cL_law 593 = .ok (.iload 7, 2) := by decide +kernel
theorem dL_law_595 : decode cL_law 595 = .ok (.bipush 9, 2) := by decide +kernel
theorem dL_law_597 : decode cL_law 597 = .ok (.ishr, 1) := by decide +kernel
theorem dL_law_598 : decode cL_law 598 = .ok (.iconst 4, 1) := by decide +kernel
theorem dL_law_599 : decode cL_law 599 = .ok (.invokestatic 101, 3) := by decide +kernel
theorem dL_law_602 : decode cL_law 602 = .ok (.ifCond .ne 8, 3) := by decide +kernel
theorem dL_law_605 : decode cL_law 605 = .ok (.bipush 30, 2) := by decide +kernel
theorem dL_law_607 : decode cL_law 607 = .ok (.goto 4, 3) := by decide +kernel
theorem dL_law_610 : decode cL_law 610 = .ok (.iconst 4, 1) := by decide +kernel
theorem dL_law_611 : decode cL_law 611 = .ok (.invokestatic 101, 3) := by decide +kernel
theorem dL_law_614 : decode cL_law 614 = .ok (.iadd, 1) := by decide +kernel
theorem dL_law_615 : decode cL_law 615 = .ok (.invokestatic 126, 3) := by decide +kernel
theorem dL_law_618 : decode cL_law 618 = .ok (.istore 9, 2) := by decide +kernel
theorem dL_law_620 : decode cL_law 620 = .ok (.iload 9, 2) := by decide +kernel
theorem dL_law_622 : decode cL_law 622 = .ok (.ifCond .eq 14, 3) := by decide +kernel
theorem dL_law_625 : decode cL_law 625 = .ok (.aload_n 1, 1) := by decide +kernel
theorem dL_law_626 : decode cL_law 626 = .ok (.aload_n 2, 1) := by decide +kernel
theorem dL_law_627 : decode cL_law 627 = .ok (.aload_n 3, 1) := by decide +kernel
theorem dL_law_628 : decode cL_law 628 = .ok (.aload 4, 2) := by decide +kernel
theorem dL_law_630 : decode cL_law 630 = .ok (.invokestatic 94, 3) := by decide +kernel
theorem dL_law_633 : decode cL_law 633 = .ok (.ifCond .ne 5, 3) := by decide +kernel
theorem dL_law_636 : decode cL_law 636 = .ok (.iconst 0, 1) := by decide +kernel
theorem dL_law_637 : decode cL_law 637 = .ok (.ireturn, 1) := by decide +kernel
theorem dL_law_638 : decode cL_law 638 = .ok (.iinc 6 1, 3) := by decide +kernel
theorem dL_law_641 : decode cL_law 641 = .ok (.goto (-411), 3) := by decide +kernel
theorem dL_law_644 : decode cL_law 644 = .ok (.aload_n 3, 1) := by decide +kernel
theorem dL_law_645 : decode cL_law 645 = .ok (.bipush 54, 2) := by decide +kernel
theorem dL_law_647 : decode cL_law 647 = .ok (.iaload, 1) := by decide +kernel
theorem dL_law_648 : decode cL_law 648 = .ok (.aload_n 3, 1) := by decide +kernel
theorem dL_law_649 : decode cL_law 649 = .ok (.invokestatic 72, 3) := by decide +kernel
theorem dL_law_652 : decode cL_law 652 = .ok (.aload_n 2, 1) := by decide +kernel
theorem dL_law_653 : decode cL_law 653 = .ok (.iconst 0, 1) := by decide +kernel
theorem dL_law_654 : decode cL_law 654 = .ok (.invokestatic 68, 3) := by decide +kernel
theorem dL_law_657 : decode cL_law 657 = .ok (.iadd, 1) := by decide +kernel
theorem dL_law_658 : decode cL_law 658 = .ok (.aload_n 2, 1) := by decide +kernel
theorem dL_law_659 : decode cL_law 659 = .ok (.iconst 1, 1) := by decide +kernel
theorem dL_law_660 : decode cL_law 660 = .ok (.invokestatic 68, 3) := by decide +kernel
theorem dL_law_663 : decode cL_law 663 = .ok (.iadd, 1) := by decide +kernel
theorem dL_law_664 : decode cL_law 664 = .ok (.aload_n 2, 1) := by decide +kernel
theorem dL_law_665 : decode cL_law 665 = .ok (.iconst 2, 1) := by decide +kernel
theorem dL_law_666 : decode cL_law 666 = .ok (.invokestatic 68, 3) := by decide +kernel
theorem dL_law_669 : decode cL_law 669 = .ok (.iadd, 1) := by decide +kernel
theorem dL_law_670 : decode cL_law 670 = .ok (.aload_n 3, 1) := by decide +kernel
theorem dL_law_671 : decode cL_law 671 = .ok (.bipush 55, 2) := by decide +kernel
theorem dL_law_673 : decode cL_law 673 = .ok (.iaload, 1) := by decide +kernel
theorem dL_law_674 : decode cL_law 674 = .ok (.iadd, 1) := by decide +kernel
theorem dL_law_675 : decode cL_law 675 = .ok (.aload_n 3, 1) := by decide +kernel
theorem dL_law_676 : decode cL_law 676 = .ok (.bipush 56, 2) := by decide +kernel
theorem dL_law_678 : decode cL_law 678 = .ok (.iaload, 1) := by decide +kernel
theorem dL_law_679 : decode cL_law 679 = .ok (.iadd, 1) := by decide +kernel
theorem dL_law_680 : decode cL_law 680 = .ok (.if_icmp .ne 19, 3) := by decide +kernel
theorem dL_law_683 : decode cL_law 683 = .ok (.aload_n 1, 1) := by decide +kernel
theorem dL_law_684 : decode cL_law 684 = .ok (.bipush 19, 2) := by decide +kernel
theorem dL_law_686 : decode cL_law 686 = .ok (.invokevirtual 65, 3) := by decide +kernel
theorem dL_law_689 : decode cL_law 689 = .ok (.sipush (-1002), 3) := by decide +kernel
theorem dL_law_692 : decode cL_law 692 = .ok (.if_icmp .ne 7, 3) := by decide +kernel
theorem dL_law_695 : decode cL_law 695 = .ok (.iconst 1, 1) := by decide +kernel
theorem dL_law_696 : decode cL_law 696 = .ok (.goto 4, 3) := by decide +kernel
theorem dL_law_699 : decode cL_law 699 = .ok (.iconst 0, 1) := by decide +kernel
theorem dL_law_700 : decode cL_law 700 = .ok (.ireturn, 1) := by decide +kernel
end
section
def tb : List Cond := lw_tbl.filter goodWord
theorem tb_lw {w : Cond} (h : w ∈ tb) : w ∈ lw_tbl := (List.mem_filter.mp h).1
theorem tb_mem {w : Cond} (i : Nat) (h : lw_tbl[i]? = some w) (g : goodWord w = true) : w ∈ tb := List.mem_filter.mpr ⟨List.mem_of_getElem? h, g⟩
theorem tb_good {w : Cond} (h : w ∈ tb) : w ∈ tb ∧ ((w.onTables && w.keeps) = true ∨ ∃ ty, w = .arrayClass ty) := ⟨h, good_of_word (List.mem_filter.mp h).2⟩
theorem tb_cons {w : Cond} (h : w ∈ tb) : GoodIn tb (w :: tb) := fun x hx => (List.mem_cons.mp hx).elim (fun e => by rw [e]; exact tb_good h) tb_good
/-! the picture of a heap: what stands at each address, and how many cells there are -/
abbrev HP : Type := (Nat → Option va_E) × Nat
/-- the run's own constants: the first address of what the law makes; the tables' numbers; the numbers of the array kinds (0 int, 1 State, 2 Object); addresses of what stood there before -/
abbrev Gm : Type := Nat × va_G × (Nat → ClassId) × (Nat → Nat)
def Ag (γ : Gm) : Nat → Prop := fun q => γ.1 ≤ q
def hset (h : HP) (a : Nat) (e : va_E) : HP := (va_up h.1 a (some e), h.2)
def hnew (h : HP) (e : va_E) : HP := (va_up h.1 h.2 (some e), h.2 + 1)
def hOK (γ : Gm) (h : HP) (H : Heap) : Prop := H.size = h.2 ∧ γ.1 ≤ h.2 ∧ ∀ (a : Nat) (e : va_E), h.1 a = some e → va_at γ.2.1 vwCl (a, e) H ∧ γ.1 ≤ a
def tyl (γ : Gm) : List (ClassId × FieldType) := [(γ.2.2.1 0, .int), (γ.2.2.1 1, .object "BallastTrain$State"), (γ.2.2.1 2, .object "java/lang/Object")]
def lstS (j : Nat) : Int32 := [1, 1, 0, 0, 0].getD j 0
def mstS (j : Nat) : Int32 := [20, 60, 9, 200, 60].getD j 0
/-- what stood in the heap before, and stays -/
def Cst (γ : Gm) (U : State) (H : Heap) : Prop :=
  (va_Z "BallastTrain" "LEAST_SETTING" "[I" (.ref (γ.2.2.2 0)) (Ag γ) U H ∧ va_T .int (γ.2.2.2 0) 5 (fun j => .int (lstS j)) (Ag γ) U H) ∧
  (va_Z "BallastTrain" "MOST_SETTING" "[I" (.ref (γ.2.2.2 1)) (Ag γ) U H ∧ va_T .int (γ.2.2.2 1) 5 (fun j => .int (mstS j)) (Ag γ) U H) ∧
  (va_Z "java/util/ArrayList" "DEFAULTCAPACITY_EMPTY_ELEMENTDATA" "[Ljava/lang/Object;" (.ref (γ.2.2.2 2)) (Ag γ) U H ∧ va_T (.object "java/lang/Object") (γ.2.2.2 2) 0 (fun _ => .null) (Ag γ) U H) ∧
  ∃ xs : Nat → Int32, va_T .int (γ.2.2.2 5) (γ.2.2.2 6) (fun j => .int (xs j)) (Ag γ) U H
theorem Cst.moved {γ : Gm} {u U : State} {H : Heap} (hvm : u.vm.Alike U.vm) (h : Cst γ u H) : Cst γ U H :=
  ⟨⟨va_Z.moved hvm h.1.1, va_T.moved hvm h.1.2⟩, ⟨va_Z.moved hvm h.2.1.1, va_T.moved hvm h.2.1.2⟩, ⟨va_Z.moved hvm h.2.2.1.1, va_T.moved hvm h.2.2.1.2⟩, h.2.2.2.choose, va_T.moved hvm h.2.2.2.choose_spec⟩
theorem Cst.kept {γ : Gm} {U : State} {H H1 : Heap} (h : Cst γ U H) (hq : ∀ a : Nat, a < H.size → ¬ Ag γ a → H1[a]? = H[a]?) : Cst γ U H1 :=
  ⟨⟨h.1.1.kept hq, h.1.2.kept hq⟩, ⟨h.2.1.1.kept hq, h.2.1.2.kept hq⟩, ⟨h.2.2.1.1.kept hq, h.2.2.1.2.kept hq⟩, h.2.2.2.choose, h.2.2.2.choose_spec.kept hq⟩
/-- what the tables say beside their words: constants of text, class objects, nest mates, arrays of references, casts -/
def yGC : MethodName := ⟨"java/lang/Object", "getClass", "()Ljava/lang/Class;"⟩
def nests : List (String × Nat × MethodName) := [("BallastTrain", 9, ⟨"BallastTrain$Text", "<init>", "()V"⟩), ("BallastTrain", 18, ⟨"BallastTrain$State", "<init>", "()V"⟩), ("BallastTrain$State", 17, ⟨"BallastTrain$Track", "<init>", "()V"⟩), ("BallastTrain$History", 24, ⟨"BallastTrain$State", "<init>", "()V"⟩), ("BallastTrain$State", 52, ⟨"BallastTrain", "copyRow", "([I[I)V"⟩), ("BallastTrain$Train", 43, ⟨"BallastTrain", "copyRow", "([I[I)V"⟩), ("BallastTrain$State", 66, ⟨"BallastTrain", "addAll", "(Ljava/util/ArrayList;Ljava/util/ArrayList;)V"⟩), ("BallastTrain$Train", 51, ⟨"BallastTrain", "sum", "([I)I"⟩), ("BallastTrain$Track", 19, ⟨"BallastTrain", "sum", "([I)I"⟩)]
def Wm (γ : Gm) (U : State) : Prop :=
  True ∧ (∀ q ∈ nests, va_Nw (.methodLinkNest q.1 q.2.1 q.2.2 "BallastTrain") U) ∧ va_AO "BallastTrain$State" U ∧ va_AO "java/lang/Object" U
theorem Wm.warm {γ : Gm} {s U : State} (hW : s.WarmedH U.vm) (h : Wm γ s) : Wm γ U :=
  ⟨trivial, fun q hq => va_Nw.warmM hW (h.2.1 q hq), h.2.2.1.moved hW.alike, h.2.2.2.moved hW.alike⟩
theorem Wm.same {γ : Gm} {s U : State} (hv : U.vm = s.vm) (h : Wm γ s) : Wm γ U :=
  ⟨trivial, fun q hq => va_Nw.same rfl hv.symm (h.2.1 q hq), h.2.2.1.moved (hv ▸ Vm.Alike.refl _), h.2.2.2.moved (hv ▸ Vm.Alike.refl _)⟩
def EnvG (γ : Gm) (U : State) : Prop := va_K γ.2.1 vwCl (tyl γ) U ∧ γ.1 ≤ U.heap.size ∧ Cst γ U U.heap ∧ Wm γ U
theorem EnvG.at {γ : Gm} {s U : State} {H : Heap} {locs : List Loc} (h : EnvG γ s) (hS : va_S (Ag γ) s.heap H locs) (hU : U.heap = H) (hW : s.WarmedH U.vm) : EnvG γ U :=
  ⟨va_K.moved hW.alike h.1, by rw [hU]; exact Nat.le_trans h.2.1 hS.1, by rw [hU]; exact Cst.moved hW.alike (h.2.2.1.kept hS.2.1), h.2.2.2.warm hW⟩
theorem EnvG.blind {γ : Gm} (a : Array Value) (U : State) (g : JFrame) (mk : MethodId) (h : EnvG γ U) : EnvG γ (U.calling g mk a) :=
  ⟨va_K.moved (u := U) (U := U.calling g mk a) (Vm.Alike.refl U.vm) h.1, h.2.1, Cst.moved (u := U) (U := U.calling g mk a) (Vm.Alike.refl U.vm) h.2.2.1, Wm.same (s := U) (U := U.calling g mk a) rfl h.2.2.2⟩
/-! the local variables: a value at each place that is known -/
def lo (ls : Array Slot) (L : List (Option Value)) : Prop := ls.size = L.length ∧ lv_wf ls ∧ ∀ (i : Nat) (v : Value), L[i]? = some (some v) → ls[i]? = some (.val v)
def prs (L : List (Option Value)) : List (Nat × Value) := (List.range L.length).filterMap (fun i => (L.getD i none).map (fun v => (i, v)))
theorem prs_mem {L : List (Option Value)} {i : Nat} {v : Value} : (i, v) ∈ prs L ↔ L[i]? = some (some v) := by
  unfold prs
  rw [List.mem_filterMap]
  constructor
  · rintro ⟨a, ha, h⟩
    rw [List.getD_eq_getElem?_getD] at h
    cases hL : L[a]? with
    | none => rw [hL] at h; simp at h
    | some z =>
      rw [hL] at h
      cases z with
      | none => simp at h
      | some z => simp at h; obtain ⟨rfl, rfl⟩ := h; exact hL
  · intro h
    refine ⟨i, List.mem_range.mpr (List.getElem?_eq_some_iff.mp h).1, ?_⟩
    rw [List.getD_eq_getElem?_getD, h]; rfl
theorem lo_has {ls : Array Slot} {L : List (Option Value)} (h : lo ls L) : lv_has ls L.length (prs L) := ⟨h.1, h.2.1, fun q hq => h.2.2 q.1 q.2 (prs_mem.mp hq)⟩
theorem lo_len {ls : Array Slot} {L : List (Option Value)} (h : lo ls L) : L.length = ls.size := h.1.symm
/-- no long stands before the place -/
def lo_ok (L : List (Option Value)) (i : Nat) : Bool := match i with
  | 0 => true
  | k + 1 => match L[k]? with
    | some (some v) => v.category == 1
    | _ => true
theorem lo_ok_spec {L : List (Option Value)} {i k : Nat} {v : Value} (h : lo_ok L i = true) (hk : k + 1 = i) (hv : L[k]? = some (some v)) : (v.category == 2) = false := by
  subst hk
  simp only [lo_ok, hv] at h
  rw [beq_iff_eq] at h
  rw [h]; rfl
theorem lo_put1 {ls' : Array Slot} {L : List (Option Value)} {i : Nat} {v : Value} (hi : i < L.length) (hk : lo_ok L i = true) (h : lv_has ls' L.length ((i, v) :: (prs L).filter (fun q => !(q.1 == i) && !(q.1 + 1 == i && q.2.category == 2)))) : lo ls' (L.set i (some v)) := by
  refine ⟨by rw [List.length_set]; exact h.1, h.2.1, fun a x hx => ?_⟩
  by_cases ha : a = i
  · subst ha
    rw [List.getElem?_set_self hi] at hx
    cases hx
    exact h.2.2 _ List.mem_cons_self
  · rw [List.getElem?_set_ne (Ne.symm ha)] at hx
    refine h.2.2 (a, x) (List.mem_cons_of_mem _ (List.mem_filter.mpr ⟨prs_mem.mpr hx, ?_⟩))
    have h1 : (a == i) = false := beq_false_of_ne ha
    by_cases h2 : a + 1 = i
    · have h3 := lo_ok_spec hk h2 hx
      simp [h1, h3]
    · have h3 : (a + 1 == i) = false := beq_false_of_ne h2
      simp [h1, h3]
theorem lo_put2 {ls' : Array Slot} {L : List (Option Value)} {i : Nat} {v : Value} (hi : i < L.length) (hk : lo_ok L i = true) (h : lv_has ls' L.length ((i, v) :: (prs L).filter (fun q => !(q.1 == i) && (!(q.1 == i + 1) && !(q.1 + 1 == i && q.2.category == 2))))) : lo ls' ((L.set i (some v)).set (i + 1) none) := by
  refine ⟨by rw [List.length_set, List.length_set]; exact h.1, h.2.1, fun a x hx => ?_⟩
  by_cases hb : a = i + 1
  · subst hb
    by_cases hl : i + 1 < (L.set i (some v)).length
    · rw [List.getElem?_set_self hl] at hx; cases hx
    · rw [List.getElem?_eq_none (by rw [List.length_set]; omega)] at hx; cases hx
  · rw [List.getElem?_set_ne (Ne.symm hb)] at hx
    by_cases ha : a = i
    · subst ha
      rw [List.getElem?_set_self hi] at hx
      cases hx
      exact h.2.2 _ List.mem_cons_self
    · rw [List.getElem?_set_ne (Ne.symm ha)] at hx
      refine h.2.2 (a, x) (List.mem_cons_of_mem _ (List.mem_filter.mpr ⟨prs_mem.mpr hx, ?_⟩))
      have h1 : (a == i) = false := beq_false_of_ne ha
      have h4 : (a == i + 1) = false := beq_false_of_ne hb
      by_cases h2 : a + 1 = i
      · have h3 := lo_ok_spec hk h2 hx
        simp [h1, h3, h4]
      · have h3 : (a + 1 == i) = false := beq_false_of_ne h2
        simp [h1, h3, h4]
/-- what is known of the method that runs -/
def Cx (p : Program) (s : State) (m : MethodId) (args : Array Value) (meth : Method) (c : Code) (γ : Gm) (y : MethodName) (cc : ByteArray) (nL : Nat) (ret : Option FieldType) : Prop :=
  p.tables.exec = Jvm.exec ∧ c.code = cc ∧ c.maxLocals = nL ∧ s.vm.findClass y.cls = some m.cls ∧ (∀ w ∈ tb, w.before args s = true) ∧ meth.sig.returnType = ret ∧ meth.locks = false ∧ EnvG γ s ∧ (y.name = "<init>" → meth.name = "<init>")
/-- the machine, at pc with these locals and this stack over a heap of this picture, comes to a state with Q; k cells and j slots were made so far -/
def V (p : Program) (l : Launch) (e : Env) (R : Room) (s : State) (m : MethodId) (args : Array Value) (below : List Frame) (meth : Method) (c : Code) (γ : Gm) (Q : State → Prop) (h : HP) (k j pc : Nat) (L : List (Option Value)) (st : List Value) : Prop :=
  ∀ (H : Heap) (locs : List Loc) (ls : Array Slot), hOK γ h H → va_S (Ag γ) s.heap H locs → lo ls L → W p l e R s m args below meth c H locs k j Q (F0 m pc ls st)
theorem hOK_set {γ : Gm} {h : HP} {H H1 : Heap} {a : Nat} {e0 e : va_E} (hh : hOK γ h H) (ha : h.1 a = some e0) (z : H1.size = H.size) (oq : ∀ q : Nat, q ≠ a → H1[q]? = H[q]?) (hc : va_at γ.2.1 vwCl (a, e) H1) : hOK γ (hset h a e) H1 := by
  refine ⟨by rw [z]; exact hh.1, hh.2.1, fun b x hx => ?_⟩
  by_cases hb : b = a
  · subst hb
    have hx : some e = some x := by rw [← hx]; exact (va_up_self _ _ _).symm
    cases hx
    exact ⟨hc, (hh.2.2 _ _ ha).2⟩
  · have hx' : h.1 b = some x := by rw [← hx]; exact (va_up_ne _ _ hb).symm
    exact ⟨(hh.2.2 b x hx').1.kept (oq b hb), (hh.2.2 b x hx').2⟩
theorem hOK_new {γ : Gm} {h : HP} {H H1 : Heap} {e : va_E} (hh : hOK γ h H) (z : H1.size = H.size + 1) (oq : ∀ q : Nat, q < H.size → H1[q]? = H[q]?) (hc : va_at γ.2.1 vwCl (H.size, e) H1) : hOK γ (hnew h e) H1 := by
  refine ⟨by rw [z, hh.1]; rfl, Nat.le_succ_of_le hh.2.1, fun b x hx => ?_⟩
  by_cases hb : b = h.2
  · have hx1 : some e = some x := by rw [← hx, hb]; exact (va_up_self _ _ _).symm
    cases hx1
    rw [hb, ← hh.1]
    exact ⟨hc, by rw [hh.1]; exact hh.2.1⟩
  · have hx' : h.1 b = some x := by rw [← hx]; exact (va_up_ne _ _ hb).symm
    have hl := (hh.2.2 b x hx').1.lt
    exact ⟨(hh.2.2 b x hx').1.kept (oq b hl), (hh.2.2 b x hx').2⟩
theorem va_S.new {A : Nat → Prop} {H0 H H1 : Heap} {locs : List Loc} (hS : va_S A H0 H locs) (z : H.size ≤ H1.size) (oq : ∀ q : Nat, q < H.size → H1[q]? = H[q]?) : va_S A H0 H1 locs := ⟨Nat.le_trans hS.1 z, fun x h1 h2 => (oq x (Nat.lt_of_lt_of_le h1 hS.1)).trans (hS.2.1 x h1 h2), hS.2.2⟩
/-! static facts of fields, calls and makings: decided once for each entry of the pools -/
def FD (own : String) (index ci k : Nat) : Prop := ∃ (C ref : String) (T : u_T) (N : Nat), vwCl[ci]? = some (C, T, N) ∧ (∀ w ∈ u_ws C T N, w ∈ tb) ∧ k < N ∧ Cond.fieldLink own index ref (T k).2.1 (T k).2.2.1 ∈ tb ∧ (ref = (T k).1 ∨ Cond.sameField ref (T k).1 (T k).2.1 (T k).2.2.1 ∈ tb)
def FP (own : String) (index ci k : Nat) (fin : Bool) (ty : FieldType) : Prop := ∃ (C ref : String) (T : u_T) (N : Nat) (t0 : Nat → FieldType), vwCl[ci]? = some (C, T, N) ∧ (∀ w ∈ u_ws C T N, w ∈ tb) ∧ k < N ∧ Cond.fieldLink own index ref (T k).2.1 (T k).2.2.1 ∈ tb ∧ (ref = (T k).1 ∨ Cond.sameField ref (T k).1 (T k).2.1 (T k).2.2.1 ∈ tb) ∧ (∀ i, i < N → parseFieldDescriptor (T i).2.2.1 = some (t0 i)) ∧ (∀ a, a < N → ∀ b, b < N → a ≠ b → (T a).2.1 ≠ (T b).2.1) ∧ (T k).2.2.2 = fin ∧ (fin = true → (T k).1 = own) ∧ parseFieldDescriptor (T k).2.2.1 = some ty
def ND (own : String) (index ci n : Nat) (fs : List Value) : Prop := ∃ (C : String) (T : u_T) (t0 : Nat → FieldType), vwCl[ci]? = some (C, T, n) ∧ (∀ w ∈ u_ws C T n, w ∈ tb) ∧ (∀ i, i < n → parseFieldDescriptor (T i).2.2.1 = some (t0 i)) ∧ Cond.classLink own index C ∈ tb ∧ Cond.instantiable C n ∈ tb ∧ Cond.initialized C ∈ tb ∧ ∀ j, j < n → defaultValue (t0 j) = vp_V fs j
def MV (own : String) (index : Nat) (y : MethodName) (cc : ByteArray) (maxL : Nat) (ret : Option FieldType) (n : Nat) : Prop := (Cond.methodLink own index y ∈ tb ∧ Cond.instanceMethod y ∈ tb ∧ Cond.selects y.cls y y ∈ tb ∧ Cond.initialized y.cls ∈ tb ∧ Cond.code y cc maxL ret ∈ tb) ∧ y.cls ≠ "java/lang/invoke/MethodHandle" ∧ y.cls ≠ "java/lang/invoke/VarHandle" ∧ (parseMethodDescriptor y.desc).map (fun d => d.parameters.length) = some n
def MS (own : String) (index : Nat) (y : MethodName) (cc : ByteArray) (maxL : Nat) (ret : Option FieldType) (n : Nat) : Prop := (Cond.methodLink own index y ∈ tb ∧ Cond.static y ∈ tb ∧ Cond.initialized y.cls ∈ tb ∧ Cond.code y cc maxL ret ∈ tb) ∧ y.cls ≠ "java/lang/invoke/MethodHandle" ∧ y.cls ≠ "java/lang/invoke/VarHandle" ∧ (parseMethodDescriptor y.desc).map (fun d => d.parameters.length) = some n
def MI (own : String) (index : Nat) (y : MethodName) (cc : ByteArray) (maxL : Nat) (n : Nat) : Prop := (Cond.methodLink own index y ∈ tb ∧ Cond.instanceMethod y ∈ tb ∧ y.name = "<init>" ∧ Cond.initialized y.cls ∈ tb ∧ Cond.code y cc maxL none ∈ tb) ∧ y.cls ≠ "java/lang/invoke/MethodHandle" ∧ y.cls ≠ "java/lang/invoke/VarHandle" ∧ (parseMethodDescriptor y.desc).map (fun d => d.parameters.length) = some n
def MSN (own : String) (index : Nat) (y : MethodName) (cc : ByteArray) (maxL : Nat) (ret : Option FieldType) (n : Nat) : Prop := ((own, index, y) ∈ nests ∧ Cond.static y ∈ tb ∧ Cond.initialized y.cls ∈ tb ∧ Cond.code y cc maxL ret ∈ tb) ∧ y.cls ≠ "java/lang/invoke/MethodHandle" ∧ y.cls ≠ "java/lang/invoke/VarHandle" ∧ (parseMethodDescriptor y.desc).map (fun d => d.parameters.length) = some n
def MIN (own : String) (index : Nat) (y : MethodName) (cc : ByteArray) (maxL : Nat) (n : Nat) : Prop := ((own, index, y) ∈ nests ∧ Cond.instanceMethod y ∈ tb ∧ y.name = "<init>" ∧ Cond.initialized y.cls ∈ tb ∧ Cond.code y cc maxL none ∈ tb) ∧ y.cls ≠ "java/lang/invoke/MethodHandle" ∧ y.cls ≠ "java/lang/invoke/VarHandle" ∧ (parseMethodDescriptor y.desc).map (fun d => d.parameters.length) = some n

section VR
variable {p : Program} {l : Launch} {e : Env} {R : Room} {s : State} {m : MethodId} {args : Array Value} {below : List Frame} {meth : Method} {c : Code} {γ : Gm} {Q : State → Prop} {y : MethodName} {cc : ByteArray} {nL : Nat} {ret : Option FieldType} {h : HP} {k j pc : Nat} {L : List (Option Value)} {st : List Value}
theorem v_iconst (X : Cx p s m args meth c γ y cc nL ret) {n : Int} (d : decode cc pc = .ok (.iconst n, 1)) (kk : V p l e R s m args below meth c γ Q h k j (pc + 1) L (.int (Int32.ofInt n) :: st)) : V p l e R s m args below meth c γ Q h k j pc L (st) := fun H locs ls a b g => lv_iconst X.1 X.2.1 d rfl (kk H locs ls a b g)
theorem v_bipush (X : Cx p s m args meth c γ y cc nL ret) {n : Int} (d : decode cc pc = .ok (.bipush n, 2)) (kk : V p l e R s m args below meth c γ Q h k j (pc + 2) L (.int ((Int8.ofInt n).toInt32) :: st)) : V p l e R s m args below meth c γ Q h k j pc L (st) := fun H locs ls a b g => lv_bipush X.1 X.2.1 d rfl (kk H locs ls a b g)
theorem v_sipush (X : Cx p s m args meth c γ y cc nL ret) {n : Int} (d : decode cc pc = .ok (.sipush n, 3)) (kk : V p l e R s m args below meth c γ Q h k j (pc + 3) L (.int ((Int16.ofInt n).toInt32) :: st)) : V p l e R s m args below meth c γ Q h k j pc L (st) := fun H locs ls a b g => lv_sipush X.1 X.2.1 d rfl (kk H locs ls a b g)
theorem v_iload_n (X : Cx p s m args meth c γ y cc nL ret) {i : Fin 4} {x : Int32} (hl : L[(i : Nat)]? = some (some (.int x))) (d : decode cc pc = .ok (.iload_n i, 1)) (kk : V p l e R s m args below meth c γ Q h k j (pc + 1) L (.int x :: st)) : V p l e R s m args below meth c γ Q h k j pc L (st) := fun H locs ls a b g => lv_iload_n X.1 X.2.1 d rfl (g.2.2 _ _ hl) (kk H locs ls a b g)
theorem v_iload (X : Cx p s m args meth c γ y cc nL ret) {i : Nat} {x : Int32} (hl : L[i]? = some (some (.int x))) (d : decode cc pc = .ok (.iload i, 2)) (kk : V p l e R s m args below meth c γ Q h k j (pc + 2) L (.int x :: st)) : V p l e R s m args below meth c γ Q h k j pc L (st) := fun H locs ls a b g => lv_iload X.1 X.2.1 d (g.2.2 _ _ hl) (kk H locs ls a b g)
theorem v_lload_n (X : Cx p s m args meth c γ y cc nL ret) {i : Fin 4} {x : Int64} (hl : L[(i : Nat)]? = some (some (.long x))) (d : decode cc pc = .ok (.lload_n i, 1)) (kk : V p l e R s m args below meth c γ Q h k j (pc + 1) L (.long x :: st)) : V p l e R s m args below meth c γ Q h k j pc L (st) := fun H locs ls a b g => lv_lload_n X.1 X.2.1 d rfl (g.2.2 _ _ hl) (kk H locs ls a b g)
theorem v_aload_n (X : Cx p s m args meth c γ y cc nL ret) {i : Fin 4} {x : Nat} (hl : L[(i : Nat)]? = some (some (.ref x))) (d : decode cc pc = .ok (.aload_n i, 1)) (kk : V p l e R s m args below meth c γ Q h k j (pc + 1) L (.ref x :: st)) : V p l e R s m args below meth c γ Q h k j pc L (st) := fun H locs ls a b g => lv_aload_n X.1 X.2.1 d rfl (g.2.2 _ _ hl) (kk H locs ls a b g)
theorem v_aload (X : Cx p s m args meth c γ y cc nL ret) {i : Nat} {x : Nat} (hl : L[i]? = some (some (.ref x))) (d : decode cc pc = .ok (.aload i, 2)) (kk : V p l e R s m args below meth c γ Q h k j (pc + 2) L (.ref x :: st)) : V p l e R s m args below meth c γ Q h k j pc L (st) := fun H locs ls a b g => lv_aload X.1 X.2.1 d (g.2.2 _ _ hl) (kk H locs ls a b g)
theorem v_aconst_null (X : Cx p s m args meth c γ y cc nL ret)  (d : decode cc pc = .ok (.aconst_null, 1)) (kk : V p l e R s m args below meth c γ Q h k j (pc + 1) L (.null :: st)) : V p l e R s m args below meth c γ Q h k j pc L (st) := fun H locs ls a b g => lv_null X.1 X.2.1 d (kk H locs ls a b g)
theorem v_iadd (X : Cx p s m args meth c γ y cc nL ret) {x y : Int32} (d : decode cc pc = .ok (.iadd, 1)) (kk : V p l e R s m args below meth c γ Q h k j (pc + 1) L (.int (x + y) :: st)) : V p l e R s m args below meth c γ Q h k j pc L (.int y :: .int x :: st) := fun H locs ls a b g => lv_iadd X.1 X.2.1 d (kk H locs ls a b g)
theorem v_isub (X : Cx p s m args meth c γ y cc nL ret) {x y : Int32} (d : decode cc pc = .ok (.isub, 1)) (kk : V p l e R s m args below meth c γ Q h k j (pc + 1) L (.int (x - y) :: st)) : V p l e R s m args below meth c γ Q h k j pc L (.int y :: .int x :: st) := fun H locs ls a b g => lv_isub X.1 X.2.1 d (kk H locs ls a b g)
theorem v_imul (X : Cx p s m args meth c γ y cc nL ret) {x y : Int32} (d : decode cc pc = .ok (.imul, 1)) (kk : V p l e R s m args below meth c γ Q h k j (pc + 1) L (.int (x * y) :: st)) : V p l e R s m args below meth c γ Q h k j pc L (.int y :: .int x :: st) := fun H locs ls a b g => lv_imul X.1 X.2.1 d (kk H locs ls a b g)
theorem v_iand (X : Cx p s m args meth c γ y cc nL ret) {x y : Int32} (d : decode cc pc = .ok (.iand, 1)) (kk : V p l e R s m args below meth c γ Q h k j (pc + 1) L (.int (x &&& y) :: st)) : V p l e R s m args below meth c γ Q h k j pc L (.int y :: .int x :: st) := fun H locs ls a b g => lv_iand X.1 X.2.1 d (kk H locs ls a b g)
theorem v_ior (X : Cx p s m args meth c γ y cc nL ret) {x y : Int32} (d : decode cc pc = .ok (.ior, 1)) (kk : V p l e R s m args below meth c γ Q h k j (pc + 1) L (.int (x ||| y) :: st)) : V p l e R s m args below meth c γ Q h k j pc L (.int y :: .int x :: st) := fun H locs ls a b g => lv_ior X.1 X.2.1 d (kk H locs ls a b g)
theorem v_ixor (X : Cx p s m args meth c γ y cc nL ret) {x y : Int32} (d : decode cc pc = .ok (.ixor, 1)) (kk : V p l e R s m args below meth c γ Q h k j (pc + 1) L (.int (x ^^^ y) :: st)) : V p l e R s m args below meth c γ Q h k j pc L (.int y :: .int x :: st) := fun H locs ls a b g => lv_ixor X.1 X.2.1 d (kk H locs ls a b g)
theorem v_idiv (X : Cx p s m args meth c γ y cc nL ret) {x y : Int32} (hne : ¬ y = 0) (d : decode cc pc = .ok (.idiv, 1)) (kk : V p l e R s m args below meth c γ Q h k j (pc + 1) L (.int (x / y) :: st)) : V p l e R s m args below meth c γ Q h k j pc L (.int y :: .int x :: st) := fun H locs ls a b g => lv_idiv X.1 X.2.1 d hne (kk H locs ls a b g)
theorem v_irem (X : Cx p s m args meth c γ y cc nL ret) {x y : Int32} (hne : ¬ y = 0) (d : decode cc pc = .ok (.irem, 1)) (kk : V p l e R s m args below meth c γ Q h k j (pc + 1) L (.int (x - x / y * y) :: st)) : V p l e R s m args below meth c γ Q h k j pc L (.int y :: .int x :: st) := fun H locs ls a b g => lv_irem X.1 X.2.1 d hne (kk H locs ls a b g)
theorem v_ineg (X : Cx p s m args meth c γ y cc nL ret) {x : Int32} (d : decode cc pc = .ok (.ineg, 1)) (kk : V p l e R s m args below meth c γ Q h k j (pc + 1) L (.int (-x) :: st)) : V p l e R s m args below meth c γ Q h k j pc L (.int x :: st) := fun H locs ls a b g => lv_ineg X.1 X.2.1 d (kk H locs ls a b g)
theorem v_ishl (X : Cx p s m args meth c γ y cc nL ret) {x y : Int32} (d : decode cc pc = .ok (.ishl, 1)) (kk : V p l e R s m args below meth c γ Q h k j (pc + 1) L (.int (x <<< (y &&& 31)) :: st)) : V p l e R s m args below meth c γ Q h k j pc L (.int y :: .int x :: st) := fun H locs ls a b g => lv_ishl X.1 X.2.1 d (kk H locs ls a b g)
theorem v_ishr (X : Cx p s m args meth c γ y cc nL ret) {x y : Int32} (d : decode cc pc = .ok (.ishr, 1)) (kk : V p l e R s m args below meth c γ Q h k j (pc + 1) L (.int (x >>> (y &&& 31)) :: st)) : V p l e R s m args below meth c γ Q h k j pc L (.int y :: .int x :: st) := fun H locs ls a b g => lv_ishr X.1 X.2.1 d (kk H locs ls a b g)
theorem v_ladd (X : Cx p s m args meth c γ y cc nL ret) {x y : Int64} (d : decode cc pc = .ok (.ladd, 1)) (kk : V p l e R s m args below meth c γ Q h k j (pc + 1) L (.long (x + y) :: st)) : V p l e R s m args below meth c γ Q h k j pc L (.long y :: .long x :: st) := fun H locs ls a b g => lv_ladd X.1 X.2.1 d (kk H locs ls a b g)
theorem v_lmul (X : Cx p s m args meth c γ y cc nL ret) {x y : Int64} (d : decode cc pc = .ok (.lmul, 1)) (kk : V p l e R s m args below meth c γ Q h k j (pc + 1) L (.long (x * y) :: st)) : V p l e R s m args below meth c γ Q h k j pc L (.long y :: .long x :: st) := fun H locs ls a b g => lv_lmul X.1 X.2.1 d (kk H locs ls a b g)
theorem v_i2l (X : Cx p s m args meth c γ y cc nL ret) {x : Int32} (d : decode cc pc = .ok (.i2l, 1)) (kk : V p l e R s m args below meth c γ Q h k j (pc + 1) L (.long x.toInt64 :: st)) : V p l e R s m args below meth c γ Q h k j pc L (.int x :: st) := fun H locs ls a b g => lv_i2l X.1 X.2.1 d rfl (kk H locs ls a b g)
theorem v_i2b (X : Cx p s m args meth c γ y cc nL ret) {x : Int32} (d : decode cc pc = .ok (.i2b, 1)) (kk : V p l e R s m args below meth c γ Q h k j (pc + 1) L (.int x.toInt8.toInt32 :: st)) : V p l e R s m args below meth c γ Q h k j pc L (.int x :: st) := fun H locs ls a b g => lv_i2b X.1 X.2.1 d rfl (kk H locs ls a b g)
theorem v_i2c (X : Cx p s m args meth c γ y cc nL ret) {x : Int32} (d : decode cc pc = .ok (.i2c, 1)) (kk : V p l e R s m args below meth c γ Q h k j (pc + 1) L (.int (x.toUInt32 % 65536).toInt32 :: st)) : V p l e R s m args below meth c γ Q h k j pc L (.int x :: st) := fun H locs ls a b g => lv_i2c X.1 X.2.1 d rfl (kk H locs ls a b g)
theorem v_lcmp (X : Cx p s m args meth c γ y cc nL ret) {x y : Int64} (d : decode cc pc = .ok (.lcmp, 1)) (kk : V p l e R s m args below meth c γ Q h k j (pc + 1) L (.int (lg_cmp x y) :: st)) : V p l e R s m args below meth c γ Q h k j pc L (.long y :: .long x :: st) := fun H locs ls a b g => W.lcmp X.1 X.2.1 d (kk H locs ls a b g)
theorem v_dup (X : Cx p s m args meth c γ y cc nL ret) {v : Value} (h1 : v.category = 1) (d : decode cc pc = .ok (.dup, 1)) (kk : V p l e R s m args below meth c γ Q h k j (pc + 1) L (v :: v :: st)) : V p l e R s m args below meth c γ Q h k j pc L (v :: st) := fun H locs ls a b g => lv_dup X.1 X.2.1 d h1 (kk H locs ls a b g)
theorem v_pop (X : Cx p s m args meth c γ y cc nL ret) {v : Value} (h1 : v.category = 1) (d : decode cc pc = .ok (.pop, 1)) (kk : V p l e R s m args below meth c γ Q h k j (pc + 1) L (st)) : V p l e R s m args below meth c γ Q h k j pc L (v :: st) := fun H locs ls a b g => lv_pop X.1 X.2.1 d h1 (kk H locs ls a b g)
theorem v_dup_x1 (X : Cx p s m args meth c γ y cc nL ret) {v w : Value} (h1 : v.category = 1) (h2 : w.category = 1) (d : decode cc pc = .ok (.dup_x1, 1)) (kk : V p l e R s m args below meth c γ Q h k j (pc + 1) L (v :: w :: v :: st)) : V p l e R s m args below meth c γ Q h k j pc L (v :: w :: st) := fun H locs ls a b g => lv_dup_x1 X.1 X.2.1 d h1 h2 (kk H locs ls a b g)
theorem v_dup2 (X : Cx p s m args meth c γ y cc nL ret) {v w : Value} (h1 : v.category = 1) (h2 : w.category = 1) (d : decode cc pc = .ok (.dup2, 1)) (kk : V p l e R s m args below meth c γ Q h k j (pc + 1) L (v :: w :: v :: w :: st)) : V p l e R s m args below meth c γ Q h k j pc L (v :: w :: st) := fun H locs ls a b g => lv_dup2_11 X.1 X.2.1 d h1 h2 (kk H locs ls a b g)
theorem v_istore_n (X : Cx p s m args meth c γ y cc nL ret) {i : Fin 4} {x : Int32} (hi : (i : Nat) < L.length) (ho : lo_ok L (i : Nat) = true) (d : decode cc pc = .ok (.istore_n i, 1)) (kk : V p l e R s m args below meth c γ Q h k j (pc + 1) (L.set (i : Nat) (some (.int x))) st) : V p l e R s m args below meth c γ Q h k j pc L (.int x :: st) := fun H locs ls a b g => lv_istore_n X.1 X.2.1 d rfl (lo_has g) hi rfl (fun ls' g' => kk H locs ls' a b (lo_put1 hi ho g'))
theorem v_istore (X : Cx p s m args meth c γ y cc nL ret) {i : Nat} {x : Int32} (hi : i < L.length) (ho : lo_ok L i = true) (d : decode cc pc = .ok (.istore i, 2)) (kk : V p l e R s m args below meth c γ Q h k j (pc + 2) (L.set i (some (.int x))) st) : V p l e R s m args below meth c γ Q h k j pc L (.int x :: st) := fun H locs ls a b g => lv_istore X.1 X.2.1 d (lo_has g) hi rfl (fun ls' g' => kk H locs ls' a b (lo_put1 hi ho g'))
theorem v_astore_n (X : Cx p s m args meth c γ y cc nL ret) {i : Fin 4} {x : Nat} (hi : (i : Nat) < L.length) (ho : lo_ok L (i : Nat) = true) (d : decode cc pc = .ok (.astore_n i, 1)) (kk : V p l e R s m args below meth c γ Q h k j (pc + 1) (L.set (i : Nat) (some (.ref x))) st) : V p l e R s m args below meth c γ Q h k j pc L (.ref x :: st) := fun H locs ls a b g => lv_astore_n X.1 X.2.1 d rfl (lo_has g) hi rfl (fun ls' g' => kk H locs ls' a b (lo_put1 hi ho g'))
theorem v_astore (X : Cx p s m args meth c γ y cc nL ret) {i : Nat} {x : Nat} (hi : i < L.length) (ho : lo_ok L i = true) (d : decode cc pc = .ok (.astore i, 2)) (kk : V p l e R s m args below meth c γ Q h k j (pc + 2) (L.set i (some (.ref x))) st) : V p l e R s m args below meth c γ Q h k j pc L (.ref x :: st) := fun H locs ls a b g => lv_astore X.1 X.2.1 d (lo_has g) hi rfl (fun ls' g' => kk H locs ls' a b (lo_put1 hi ho g'))
theorem v_astoreN_n (X : Cx p s m args meth c γ y cc nL ret) {i : Fin 4} (hi : (i : Nat) < L.length) (ho : lo_ok L (i : Nat) = true) (d : decode cc pc = .ok (.astore_n i, 1)) (kk : V p l e R s m args below meth c γ Q h k j (pc + 1) (L.set (i : Nat) (some .null)) st) : V p l e R s m args below meth c γ Q h k j pc L (.null :: st) := fun H locs ls a b g => lv_astore_nN X.1 X.2.1 d rfl (lo_has g) hi rfl (fun ls' g' => kk H locs ls' a b (lo_put1 hi ho g'))
theorem v_lstore_n (X : Cx p s m args meth c γ y cc nL ret) {i : Fin 4} {x : Int64} (hi : (i : Nat) + 1 < L.length) (ho : lo_ok L (i : Nat) = true) (d : decode cc pc = .ok (.lstore_n i, 1)) (kk : V p l e R s m args below meth c γ Q h k j (pc + 1) ((L.set (i : Nat) (some (.long x))).set ((i : Nat) + 1) none) st) : V p l e R s m args below meth c γ Q h k j pc L (.long x :: st) := fun H locs ls a b g => lv_lstore_n X.1 X.2.1 d rfl (lo_has g) hi rfl (fun ls' g' => kk H locs ls' a b (lo_put2 (by omega) ho g'))
theorem v_iinc (X : Cx p s m args meth c γ y cc nL ret) {i : Nat} {n : Int} {x : Int32} (hx : L[i]? = some (some (.int x))) (ho : lo_ok L i = true) (d : decode cc pc = .ok (.iinc i n, 3)) (kk : V p l e R s m args below meth c γ Q h k j (pc + 3) (L.set i (some (.int (x + Int32.ofInt n)))) st) : V p l e R s m args below meth c γ Q h k j pc L st := by
  intro H locs ls a b g
  have hm : (i, Value.int x) ∈ prs L := prs_mem.mpr hx
  obtain ⟨q, hq⟩ := List.getElem?_of_mem hm
  have hi := (List.getElem?_eq_some_iff.mp hx).1
  exact lv_iinc X.1 X.2.1 d (lo_has g) hq rfl hi rfl (fun ls' g' => kk H locs ls' a b (lo_put1 hi ho g'))
theorem v_goto (X : Cx p s m args meth c γ y cc nL ret) {off : Int} {tgt : Nat} (d : decode cc pc = .ok (.goto off, 3)) (ht : (pc : Int) + off = (tgt : Int)) (kk : V p l e R s m args below meth c γ Q h k j tgt L st) : V p l e R s m args below meth c γ Q h k j pc L st := fun H locs ls a b g => lv_goto X.1 X.2.1 d ht (kk H locs ls a b g)
theorem v_if_eq (X : Cx p s m args meth c γ y cc nL ret) {x : Int32} {off : Int} {tgt : Nat} (d : decode cc pc = .ok (.ifCond .eq off, 3)) (ht : (pc : Int) + off = (tgt : Int)) (kt : x = 0 → V p l e R s m args below meth c γ Q h k j tgt L st) (kf : ¬ x = 0 → V p l e R s m args below meth c γ Q h k j (pc + 3) L st) : V p l e R s m args below meth c γ Q h k j pc L (.int x :: st) := fun H locs ls a b g => lv_if_eq X.1 X.2.1 d ht (fun q => kt q H locs ls a b g) (fun q => kf q H locs ls a b g)
theorem v_if_eq_t (X : Cx p s m args meth c γ y cc nL ret) {x : Int32} {off : Int} {tgt : Nat} (d : decode cc pc = .ok (.ifCond .eq off, 3)) (ht : (pc : Int) + off = (tgt : Int)) (q : x = 0) (kt : V p l e R s m args below meth c γ Q h k j tgt L st) : V p l e R s m args below meth c γ Q h k j pc L (.int x :: st) := v_if_eq X d ht (fun _ => kt) (fun z => absurd q z)
theorem v_if_eq_f (X : Cx p s m args meth c γ y cc nL ret) {x : Int32} {off : Int} {tgt : Nat} (d : decode cc pc = .ok (.ifCond .eq off, 3)) (ht : (pc : Int) + off = (tgt : Int)) (q : ¬ x = 0) (kf : V p l e R s m args below meth c γ Q h k j (pc + 3) L st) : V p l e R s m args below meth c γ Q h k j pc L (.int x :: st) := v_if_eq X d ht (fun z => absurd z q) (fun _ => kf)
theorem v_icmp_eq (X : Cx p s m args meth c γ y cc nL ret) {x y : Int32} {off : Int} {tgt : Nat} (d : decode cc pc = .ok (.if_icmp .eq off, 3)) (ht : (pc : Int) + off = (tgt : Int)) (kt : x = y → V p l e R s m args below meth c γ Q h k j tgt L st) (kf : ¬ x = y → V p l e R s m args below meth c γ Q h k j (pc + 3) L st) : V p l e R s m args below meth c γ Q h k j pc L (.int y :: .int x :: st) := fun H locs ls a b g => lv_icmp_eq X.1 X.2.1 d ht (fun q => kt q H locs ls a b g) (fun q => kf q H locs ls a b g)
theorem v_icmp_eq_t (X : Cx p s m args meth c γ y cc nL ret) {x y : Int32} {off : Int} {tgt : Nat} (d : decode cc pc = .ok (.if_icmp .eq off, 3)) (ht : (pc : Int) + off = (tgt : Int)) (q : x = y) (kt : V p l e R s m args below meth c γ Q h k j tgt L st) : V p l e R s m args below meth c γ Q h k j pc L (.int y :: .int x :: st) := v_icmp_eq X d ht (fun _ => kt) (fun z => absurd q z)
theorem v_icmp_eq_f (X : Cx p s m args meth c γ y cc nL ret) {x y : Int32} {off : Int} {tgt : Nat} (d : decode cc pc = .ok (.if_icmp .eq off, 3)) (ht : (pc : Int) + off = (tgt : Int)) (q : ¬ x = y) (kf : V p l e R s m args below meth c γ Q h k j (pc + 3) L st) : V p l e R s m args below meth c γ Q h k j pc L (.int y :: .int x :: st) := v_icmp_eq X d ht (fun z => absurd z q) (fun _ => kf)
theorem v_if_ne (X : Cx p s m args meth c γ y cc nL ret) {x : Int32} {off : Int} {tgt : Nat} (d : decode cc pc = .ok (.ifCond .ne off, 3)) (ht : (pc : Int) + off = (tgt : Int)) (kt : ¬ x = 0 → V p l e R s m args below meth c γ Q h k j tgt L st) (kf : x = 0 → V p l e R s m args below meth c γ Q h k j (pc + 3) L st) : V p l e R s m args below meth c γ Q h k j pc L (.int x :: st) := fun H locs ls a b g => lv_if_ne X.1 X.2.1 d ht (fun q => kt q H locs ls a b g) (fun q => kf q H locs ls a b g)
theorem v_if_ne_t (X : Cx p s m args meth c γ y cc nL ret) {x : Int32} {off : Int} {tgt : Nat} (d : decode cc pc = .ok (.ifCond .ne off, 3)) (ht : (pc : Int) + off = (tgt : Int)) (q : ¬ x = 0) (kt : V p l e R s m args below meth c γ Q h k j tgt L st) : V p l e R s m args below meth c γ Q h k j pc L (.int x :: st) := v_if_ne X d ht (fun _ => kt) (fun z => absurd z q)
theorem v_if_ne_f (X : Cx p s m args meth c γ y cc nL ret) {x : Int32} {off : Int} {tgt : Nat} (d : decode cc pc = .ok (.ifCond .ne off, 3)) (ht : (pc : Int) + off = (tgt : Int)) (q : x = 0) (kf : V p l e R s m args below meth c γ Q h k j (pc + 3) L st) : V p l e R s m args below meth c γ Q h k j pc L (.int x :: st) := v_if_ne X d ht (fun z => absurd q z) (fun _ => kf)
theorem v_icmp_ne (X : Cx p s m args meth c γ y cc nL ret) {x y : Int32} {off : Int} {tgt : Nat} (d : decode cc pc = .ok (.if_icmp .ne off, 3)) (ht : (pc : Int) + off = (tgt : Int)) (kt : ¬ x = y → V p l e R s m args below meth c γ Q h k j tgt L st) (kf : x = y → V p l e R s m args below meth c γ Q h k j (pc + 3) L st) : V p l e R s m args below meth c γ Q h k j pc L (.int y :: .int x :: st) := fun H locs ls a b g => lv_icmp_ne X.1 X.2.1 d ht (fun q => kt q H locs ls a b g) (fun q => kf q H locs ls a b g)
theorem v_icmp_ne_t (X : Cx p s m args meth c γ y cc nL ret) {x y : Int32} {off : Int} {tgt : Nat} (d : decode cc pc = .ok (.if_icmp .ne off, 3)) (ht : (pc : Int) + off = (tgt : Int)) (q : ¬ x = y) (kt : V p l e R s m args below meth c γ Q h k j tgt L st) : V p l e R s m args below meth c γ Q h k j pc L (.int y :: .int x :: st) := v_icmp_ne X d ht (fun _ => kt) (fun z => absurd z q)
theorem v_icmp_ne_f (X : Cx p s m args meth c γ y cc nL ret) {x y : Int32} {off : Int} {tgt : Nat} (d : decode cc pc = .ok (.if_icmp .ne off, 3)) (ht : (pc : Int) + off = (tgt : Int)) (q : x = y) (kf : V p l e R s m args below meth c γ Q h k j (pc + 3) L st) : V p l e R s m args below meth c γ Q h k j pc L (.int y :: .int x :: st) := v_icmp_ne X d ht (fun z => absurd q z) (fun _ => kf)
theorem v_if_lt (X : Cx p s m args meth c γ y cc nL ret) {x : Int32} {off : Int} {tgt : Nat} (d : decode cc pc = .ok (.ifCond .lt off, 3)) (ht : (pc : Int) + off = (tgt : Int)) (kt : x < 0 → V p l e R s m args below meth c γ Q h k j tgt L st) (kf : ¬ x < 0 → V p l e R s m args below meth c γ Q h k j (pc + 3) L st) : V p l e R s m args below meth c γ Q h k j pc L (.int x :: st) := fun H locs ls a b g => lv_if_lt X.1 X.2.1 d ht (fun q => kt q H locs ls a b g) (fun q => kf q H locs ls a b g)
theorem v_if_lt_t (X : Cx p s m args meth c γ y cc nL ret) {x : Int32} {off : Int} {tgt : Nat} (d : decode cc pc = .ok (.ifCond .lt off, 3)) (ht : (pc : Int) + off = (tgt : Int)) (q : x < 0) (kt : V p l e R s m args below meth c γ Q h k j tgt L st) : V p l e R s m args below meth c γ Q h k j pc L (.int x :: st) := v_if_lt X d ht (fun _ => kt) (fun z => absurd q z)
theorem v_if_lt_f (X : Cx p s m args meth c γ y cc nL ret) {x : Int32} {off : Int} {tgt : Nat} (d : decode cc pc = .ok (.ifCond .lt off, 3)) (ht : (pc : Int) + off = (tgt : Int)) (q : ¬ x < 0) (kf : V p l e R s m args below meth c γ Q h k j (pc + 3) L st) : V p l e R s m args below meth c γ Q h k j pc L (.int x :: st) := v_if_lt X d ht (fun z => absurd z q) (fun _ => kf)
theorem v_icmp_lt (X : Cx p s m args meth c γ y cc nL ret) {x y : Int32} {off : Int} {tgt : Nat} (d : decode cc pc = .ok (.if_icmp .lt off, 3)) (ht : (pc : Int) + off = (tgt : Int)) (kt : x < y → V p l e R s m args below meth c γ Q h k j tgt L st) (kf : ¬ x < y → V p l e R s m args below meth c γ Q h k j (pc + 3) L st) : V p l e R s m args below meth c γ Q h k j pc L (.int y :: .int x :: st) := fun H locs ls a b g => lv_icmp_lt X.1 X.2.1 d ht (fun q => kt q H locs ls a b g) (fun q => kf q H locs ls a b g)
theorem v_icmp_lt_t (X : Cx p s m args meth c γ y cc nL ret) {x y : Int32} {off : Int} {tgt : Nat} (d : decode cc pc = .ok (.if_icmp .lt off, 3)) (ht : (pc : Int) + off = (tgt : Int)) (q : x < y) (kt : V p l e R s m args below meth c γ Q h k j tgt L st) : V p l e R s m args below meth c γ Q h k j pc L (.int y :: .int x :: st) := v_icmp_lt X d ht (fun _ => kt) (fun z => absurd q z)
theorem v_icmp_lt_f (X : Cx p s m args meth c γ y cc nL ret) {x y : Int32} {off : Int} {tgt : Nat} (d : decode cc pc = .ok (.if_icmp .lt off, 3)) (ht : (pc : Int) + off = (tgt : Int)) (q : ¬ x < y) (kf : V p l e R s m args below meth c γ Q h k j (pc + 3) L st) : V p l e R s m args below meth c γ Q h k j pc L (.int y :: .int x :: st) := v_icmp_lt X d ht (fun z => absurd z q) (fun _ => kf)
theorem v_if_ge (X : Cx p s m args meth c γ y cc nL ret) {x : Int32} {off : Int} {tgt : Nat} (d : decode cc pc = .ok (.ifCond .ge off, 3)) (ht : (pc : Int) + off = (tgt : Int)) (kt : 0 ≤ x → V p l e R s m args below meth c γ Q h k j tgt L st) (kf : ¬ 0 ≤ x → V p l e R s m args below meth c γ Q h k j (pc + 3) L st) : V p l e R s m args below meth c γ Q h k j pc L (.int x :: st) := fun H locs ls a b g => lv_if_ge X.1 X.2.1 d ht (fun q => kt q H locs ls a b g) (fun q => kf q H locs ls a b g)
theorem v_if_ge_t (X : Cx p s m args meth c γ y cc nL ret) {x : Int32} {off : Int} {tgt : Nat} (d : decode cc pc = .ok (.ifCond .ge off, 3)) (ht : (pc : Int) + off = (tgt : Int)) (q : 0 ≤ x) (kt : V p l e R s m args below meth c γ Q h k j tgt L st) : V p l e R s m args below meth c γ Q h k j pc L (.int x :: st) := v_if_ge X d ht (fun _ => kt) (fun z => absurd q z)
theorem v_if_ge_f (X : Cx p s m args meth c γ y cc nL ret) {x : Int32} {off : Int} {tgt : Nat} (d : decode cc pc = .ok (.ifCond .ge off, 3)) (ht : (pc : Int) + off = (tgt : Int)) (q : ¬ 0 ≤ x) (kf : V p l e R s m args below meth c γ Q h k j (pc + 3) L st) : V p l e R s m args below meth c γ Q h k j pc L (.int x :: st) := v_if_ge X d ht (fun z => absurd z q) (fun _ => kf)
theorem v_icmp_ge (X : Cx p s m args meth c γ y cc nL ret) {x y : Int32} {off : Int} {tgt : Nat} (d : decode cc pc = .ok (.if_icmp .ge off, 3)) (ht : (pc : Int) + off = (tgt : Int)) (kt : y ≤ x → V p l e R s m args below meth c γ Q h k j tgt L st) (kf : ¬ y ≤ x → V p l e R s m args below meth c γ Q h k j (pc + 3) L st) : V p l e R s m args below meth c γ Q h k j pc L (.int y :: .int x :: st) := fun H locs ls a b g => lv_icmp_ge X.1 X.2.1 d ht (fun q => kt q H locs ls a b g) (fun q => kf q H locs ls a b g)
theorem v_icmp_ge_t (X : Cx p s m args meth c γ y cc nL ret) {x y : Int32} {off : Int} {tgt : Nat} (d : decode cc pc = .ok (.if_icmp .ge off, 3)) (ht : (pc : Int) + off = (tgt : Int)) (q : y ≤ x) (kt : V p l e R s m args below meth c γ Q h k j tgt L st) : V p l e R s m args below meth c γ Q h k j pc L (.int y :: .int x :: st) := v_icmp_ge X d ht (fun _ => kt) (fun z => absurd q z)
theorem v_icmp_ge_f (X : Cx p s m args meth c γ y cc nL ret) {x y : Int32} {off : Int} {tgt : Nat} (d : decode cc pc = .ok (.if_icmp .ge off, 3)) (ht : (pc : Int) + off = (tgt : Int)) (q : ¬ y ≤ x) (kf : V p l e R s m args below meth c γ Q h k j (pc + 3) L st) : V p l e R s m args below meth c γ Q h k j pc L (.int y :: .int x :: st) := v_icmp_ge X d ht (fun z => absurd z q) (fun _ => kf)
theorem v_if_gt (X : Cx p s m args meth c γ y cc nL ret) {x : Int32} {off : Int} {tgt : Nat} (d : decode cc pc = .ok (.ifCond .gt off, 3)) (ht : (pc : Int) + off = (tgt : Int)) (kt : 0 < x → V p l e R s m args below meth c γ Q h k j tgt L st) (kf : ¬ 0 < x → V p l e R s m args below meth c γ Q h k j (pc + 3) L st) : V p l e R s m args below meth c γ Q h k j pc L (.int x :: st) := fun H locs ls a b g => lv_if_gt X.1 X.2.1 d ht (fun q => kt q H locs ls a b g) (fun q => kf q H locs ls a b g)
theorem v_if_gt_t (X : Cx p s m args meth c γ y cc nL ret) {x : Int32} {off : Int} {tgt : Nat} (d : decode cc pc = .ok (.ifCond .gt off, 3)) (ht : (pc : Int) + off = (tgt : Int)) (q : 0 < x) (kt : V p l e R s m args below meth c γ Q h k j tgt L st) : V p l e R s m args below meth c γ Q h k j pc L (.int x :: st) := v_if_gt X d ht (fun _ => kt) (fun z => absurd q z)
theorem v_if_gt_f (X : Cx p s m args meth c γ y cc nL ret) {x : Int32} {off : Int} {tgt : Nat} (d : decode cc pc = .ok (.ifCond .gt off, 3)) (ht : (pc : Int) + off = (tgt : Int)) (q : ¬ 0 < x) (kf : V p l e R s m args below meth c γ Q h k j (pc + 3) L st) : V p l e R s m args below meth c γ Q h k j pc L (.int x :: st) := v_if_gt X d ht (fun z => absurd z q) (fun _ => kf)
theorem v_icmp_gt (X : Cx p s m args meth c γ y cc nL ret) {x y : Int32} {off : Int} {tgt : Nat} (d : decode cc pc = .ok (.if_icmp .gt off, 3)) (ht : (pc : Int) + off = (tgt : Int)) (kt : y < x → V p l e R s m args below meth c γ Q h k j tgt L st) (kf : ¬ y < x → V p l e R s m args below meth c γ Q h k j (pc + 3) L st) : V p l e R s m args below meth c γ Q h k j pc L (.int y :: .int x :: st) := fun H locs ls a b g => lv_icmp_gt X.1 X.2.1 d ht (fun q => kt q H locs ls a b g) (fun q => kf q H locs ls a b g)
theorem v_icmp_gt_t (X : Cx p s m args meth c γ y cc nL ret) {x y : Int32} {off : Int} {tgt : Nat} (d : decode cc pc = .ok (.if_icmp .gt off, 3)) (ht : (pc : Int) + off = (tgt : Int)) (q : y < x) (kt : V p l e R s m args below meth c γ Q h k j tgt L st) : V p l e R s m args below meth c γ Q h k j pc L (.int y :: .int x :: st) := v_icmp_gt X d ht (fun _ => kt) (fun z => absurd q z)
theorem v_icmp_gt_f (X : Cx p s m args meth c γ y cc nL ret) {x y : Int32} {off : Int} {tgt : Nat} (d : decode cc pc = .ok (.if_icmp .gt off, 3)) (ht : (pc : Int) + off = (tgt : Int)) (q : ¬ y < x) (kf : V p l e R s m args below meth c γ Q h k j (pc + 3) L st) : V p l e R s m args below meth c γ Q h k j pc L (.int y :: .int x :: st) := v_icmp_gt X d ht (fun z => absurd z q) (fun _ => kf)
theorem v_if_le (X : Cx p s m args meth c γ y cc nL ret) {x : Int32} {off : Int} {tgt : Nat} (d : decode cc pc = .ok (.ifCond .le off, 3)) (ht : (pc : Int) + off = (tgt : Int)) (kt : x ≤ 0 → V p l e R s m args below meth c γ Q h k j tgt L st) (kf : ¬ x ≤ 0 → V p l e R s m args below meth c γ Q h k j (pc + 3) L st) : V p l e R s m args below meth c γ Q h k j pc L (.int x :: st) := fun H locs ls a b g => lv_if_le X.1 X.2.1 d ht (fun q => kt q H locs ls a b g) (fun q => kf q H locs ls a b g)
theorem v_if_le_t (X : Cx p s m args meth c γ y cc nL ret) {x : Int32} {off : Int} {tgt : Nat} (d : decode cc pc = .ok (.ifCond .le off, 3)) (ht : (pc : Int) + off = (tgt : Int)) (q : x ≤ 0) (kt : V p l e R s m args below meth c γ Q h k j tgt L st) : V p l e R s m args below meth c γ Q h k j pc L (.int x :: st) := v_if_le X d ht (fun _ => kt) (fun z => absurd q z)
theorem v_if_le_f (X : Cx p s m args meth c γ y cc nL ret) {x : Int32} {off : Int} {tgt : Nat} (d : decode cc pc = .ok (.ifCond .le off, 3)) (ht : (pc : Int) + off = (tgt : Int)) (q : ¬ x ≤ 0) (kf : V p l e R s m args below meth c γ Q h k j (pc + 3) L st) : V p l e R s m args below meth c γ Q h k j pc L (.int x :: st) := v_if_le X d ht (fun z => absurd z q) (fun _ => kf)
theorem v_icmp_le (X : Cx p s m args meth c γ y cc nL ret) {x y : Int32} {off : Int} {tgt : Nat} (d : decode cc pc = .ok (.if_icmp .le off, 3)) (ht : (pc : Int) + off = (tgt : Int)) (kt : x ≤ y → V p l e R s m args below meth c γ Q h k j tgt L st) (kf : ¬ x ≤ y → V p l e R s m args below meth c γ Q h k j (pc + 3) L st) : V p l e R s m args below meth c γ Q h k j pc L (.int y :: .int x :: st) := fun H locs ls a b g => lv_icmp_le X.1 X.2.1 d ht (fun q => kt q H locs ls a b g) (fun q => kf q H locs ls a b g)
theorem v_icmp_le_t (X : Cx p s m args meth c γ y cc nL ret) {x y : Int32} {off : Int} {tgt : Nat} (d : decode cc pc = .ok (.if_icmp .le off, 3)) (ht : (pc : Int) + off = (tgt : Int)) (q : x ≤ y) (kt : V p l e R s m args below meth c γ Q h k j tgt L st) : V p l e R s m args below meth c γ Q h k j pc L (.int y :: .int x :: st) := v_icmp_le X d ht (fun _ => kt) (fun z => absurd q z)
theorem v_icmp_le_f (X : Cx p s m args meth c γ y cc nL ret) {x y : Int32} {off : Int} {tgt : Nat} (d : decode cc pc = .ok (.if_icmp .le off, 3)) (ht : (pc : Int) + off = (tgt : Int)) (q : ¬ x ≤ y) (kf : V p l e R s m args below meth c γ Q h k j (pc + 3) L st) : V p l e R s m args below meth c γ Q h k j pc L (.int y :: .int x :: st) := v_icmp_le X d ht (fun z => absurd z q) (fun _ => kf)
theorem v_acmp_eq (X : Cx p s m args meth c γ y cc nL ret) {rx ry : Nat} {off : Int} {tgt : Nat} (d : decode cc pc = .ok (.if_acmp .eq off, 3)) (ht : (pc : Int) + off = (tgt : Int)) (kt : rx = ry → V p l e R s m args below meth c γ Q h k j tgt L st) (kf : ¬ rx = ry → V p l e R s m args below meth c γ Q h k j (pc + 3) L st) : V p l e R s m args below meth c γ Q h k j pc L (.ref ry :: .ref rx :: st) := fun H locs ls a b g => lv_acmp_eq (rx := some rx) (ry := some ry) X.1 X.2.1 d ht (fun q => kt (by simpa using q) H locs ls a b g) (fun q => kf (by simpa using q) H locs ls a b g)
theorem v_acmp_ne (X : Cx p s m args meth c γ y cc nL ret) {rx ry : Nat} {off : Int} {tgt : Nat} (d : decode cc pc = .ok (.if_acmp .ne off, 3)) (ht : (pc : Int) + off = (tgt : Int)) (kt : ¬ rx = ry → V p l e R s m args below meth c γ Q h k j tgt L st) (kf : rx = ry → V p l e R s m args below meth c γ Q h k j (pc + 3) L st) : V p l e R s m args below meth c γ Q h k j pc L (.ref ry :: .ref rx :: st) := fun H locs ls a b g => lv_acmp_ne (rx := some rx) (ry := some ry) X.1 X.2.1 d ht (fun q => kt (by simpa using q) H locs ls a b g) (fun q => kf (by simpa using q) H locs ls a b g)
theorem v_tableOut (X : Cx p s m args meth c γ y cc nL ret) {dflt lo hi : Int} {offs : Array Int} {len tgt : Nat} {x : Int32} (d : decode cc pc = .ok (.tableswitch dflt lo hi offs, len)) (q : x.toInt < lo ∨ hi < x.toInt) (ht : (pc : Int) + dflt = (tgt : Int)) (kk : V p l e R s m args below meth c γ Q h k j tgt L st) : V p l e R s m args below meth c γ Q h k j pc L (.int x :: st) := fun H locs ls a b g => lv_tableOut X.1 X.2.1 d q ht (kk H locs ls a b g)
theorem v_tableIn (X : Cx p s m args meth c γ y cc nL ret) {dflt lo hi : Int} {offs : Array Int} {len tgt : Nat} {x : Int32} {off : Int} (d : decode cc pc = .ok (.tableswitch dflt lo hi offs, len)) (h1 : ¬ x.toInt < lo) (h2 : ¬ hi < x.toInt) (ho : offs[(x.toInt - lo).toNat]? = some off) (ht : (pc : Int) + off = (tgt : Int)) (kk : V p l e R s m args below meth c γ Q h k j tgt L st) : V p l e R s m args below meth c γ Q h k j pc L (.int x :: st) := fun H locs ls a b g => lv_tableIn X.1 X.2.1 d h1 h2 ho ht (kk H locs ls a b g)
theorem v_lookup (X : Cx p s m args meth c γ y cc nL ret) {dflt : Int} {ps : Array (Int × Int)} {len tgt : Nat} {x : Int32} {off : Int} (d : decode cc pc = .ok (.lookupswitch dflt ps, len)) (hp : (ps.toList.zip (ps.toList.drop 1)).all (fun (a, next) => a.1 < next.1) = true) (ho : Op.lookupswitch.offset ps.toList dflt x.toInt = off) (ht : (pc : Int) + off = (tgt : Int)) (kk : V p l e R s m args below meth c γ Q h k j tgt L st) : V p l e R s m args below meth c γ Q h k j pc L (.int x :: st) := fun H locs ls a b g => lv_lookup X.1 X.2.1 d hp ho ht (kk H locs ls a b g)
theorem v_widen {k' j' : Nat} (hk : k ≤ k') (hj : j ≤ j') (kk : V p l e R s m args below meth c γ Q h k' j' pc L st) : V p l e R s m args below meth c γ Q h k j pc L st := fun H locs ls a b g => W.widen hk hj (kk H locs ls a b g)
theorem at_of {H : Heap} {a : Nat} {e0 : va_E} (hh : hOK γ h H) (ha : h.1 a = some e0) : va_P γ.2.1 vwCl [(a, e0)] H := fun k q hq => by
  have hz : k < 1 := (List.getElem?_eq_some_iff.mp hq).1
  rw [show k = 0 by omega] at hq
  cases hq
  exact (hh.2.2 a e0 ha).1
theorem v_getf (X : Cx p s m args meth c γ y cc nL ret) {index ci kf a : Nat} {fs : List Value} {v : Value} (F : FD y.cls index ci kf) (hr : h.1 a = some (.inr (ci, fs))) (hv : fs[kf]? = some v) (d : decode cc pc = .ok (.getfield index, 3)) (kk : V p l e R s m args below meth c γ Q h k j (pc + 3) L (v :: st)) : V p l e R s m args below meth c γ Q h k j pc L (.ref a :: st) := by
  intro H locs ls hh hS hl
  obtain ⟨C, ref, T, N, f1, f2, f3, f4, f5⟩ := F
  exact va_get X.1 X.2.1 X.2.2.2.2.1 f2 X.2.2.2.1 X.2.2.2.2.2.2.2.1.1 (at_of hh hr) 0 rfl f1 kf f3 (X.2.2.2.2.1 _ f4) (fun x hx => f5.elim (fun z => by rw [z]; exact hx) (fun z => u_same (X.2.2.2.2.1 _ z) x hx)) hv d (kk H locs ls hh hS hl)
theorem v_putf (X : Cx p s m args meth c γ y cc nL ret) {index ci kf a : Nat} {fs : List Value} {v : Value} {ty : FieldType} (F : FP y.cls index ci kf false ty) (hr : h.1 a = some (.inr (ci, fs))) (hn : narrow ty v = v) (hfit : fits ty v = true) (hl : kf < fs.length) (d : decode cc pc = .ok (.putfield index, 3)) (kk : V p l e R s m args below meth c γ Q (hset h a (.inr (ci, fs.set kf v))) k j (pc + 3) L st) : V p l e R s m args below meth c γ Q h k j pc L (v :: .ref a :: st) := by
  intro H locs ls hh hS0 hlo
  obtain ⟨C, ref, T, N, t0, hc, hin, hk, hlink, hsame, hty, hnm, hfin, -, hd⟩ := F
  have hts := X.2.2.2.2.1
  have hown := X.2.2.2.1
  have hK := X.2.2.2.2.2.2.2.1.1
  have hap := va_apart (own := y.cls) hts hin t0 hty hnm hK hc
  obtain ⟨r, h1, cell, q1, q2, q3, q4⟩ := (hh.2.2 a _ hr).1
  have hr2 : r = (C, T, N) := Option.some.inj (h1.symm.trans hc)
  subst hr2
  obtain ⟨hS, hfc, kC, hkC, hkind⟩ := hK.1 ci _ hc
  obtain ⟨cf, kf', fi, f, hi, hsl⟩ := hS kf hk
  have hlay := hts _ (hin _ (u_in_lay hk))
  unfold u_lay at hlay
  rw [if_neg (by rw [hfin]; decide)] at hlay
  have hst := (u_facts hfc hkC (u_lays hts hin hk) hi).1
  have h6 := u_store hfc hkC hkind hlay hi hd hn hfit
  have hi2 : s.fieldFound? ref (T kf).2.1 (T kf).2.2.1 = some (cf, kf', fi, f) := hsame.elim (fun z => by rw [z]; exact hi) (fun z => u_same (hts _ z) _ hi)
  refine W.putK X.1 X.2.1 (f := f) ⟨hown, hts _ hlink, ⟨_, _, _, hi2⟩, hst⟩ (by rw [q2]; exact h6) q1 q3 (by rw [hsl]; exact k2_hasslot (q4 kf hk)) rfl rfl d fun H' e1 e2 e3 => ?_
  rw [hsl] at e1 ⊢
  exact kk H' _ ls (hOK_set hh hr e2 e3 ⟨_, hc, t_OB.to (V := updV (vp_V fs) kf v) ⟨_, e1, q2, q3, t_set q4 hap hk v⟩ (fun j _ => vp_updV_set hl v j)⟩) (hS0.put e2 e3 (hh.2.2 a _ hr).2) hlo
theorem v_putF (X : Cx p s m args meth c γ y cc nL ret) {index ci kf a : Nat} {fs : List Value} {v : Value} {ty : FieldType} (F : FP y.cls index ci kf true ty) (hin2 : y.name = "<init>") (hr : h.1 a = some (.inr (ci, fs))) (hn : narrow ty v = v) (hfit : fits ty v = true) (hl : kf < fs.length) (d : decode cc pc = .ok (.putfield index, 3)) (kk : V p l e R s m args below meth c γ Q (hset h a (.inr (ci, fs.set kf v))) k j (pc + 3) L st) : V p l e R s m args below meth c γ Q h k j pc L (v :: .ref a :: st) := by
  intro H locs ls hh hS0 hlo
  obtain ⟨C, ref, T, N, t0, hc, hin, hk, hlink, hsame, hty, hnm, hfin, hdecl, hd⟩ := F
  have hts := X.2.2.2.2.1
  have hown := X.2.2.2.1
  have hK := X.2.2.2.2.2.2.2.1.1
  have hap := va_apart (own := y.cls) hts hin t0 hty hnm hK hc
  obtain ⟨r, h1, cell, q1, q2, q3, q4⟩ := (hh.2.2 a _ hr).1
  have hr2 : r = (C, T, N) := Option.some.inj (h1.symm.trans hc)
  subst hr2
  obtain ⟨hS, hfc, kC, hkC, hkind⟩ := hK.1 ci _ hc
  obtain ⟨cf, kf', fi, f, hi, hsl⟩ := hS kf hk
  have hlay := hts _ (hin _ (u_in_lay hk))
  unfold u_lay at hlay
  rw [if_pos hfin] at hlay
  have hst := (u_facts hfc hkC (u_lays hts hin hk) hi).1
  have hcf : m.cls = cf := by
    obtain ⟨_, _, c', _, _, _, -, -, hf', -, -, -, hown2, -⟩ := Cond.laysFinal_spec hlay
    have e1 : c' = cf := by have := hi.symm.trans hf'; simp at this; exact this.1.symm
    rw [hdecl rfl] at hown2
    rw [← e1]; exact Option.some.inj (hown.symm.trans hown2)
  have h6 := u_fits hfc hkC hkind (Or.inr hlay) hi hd hn hfit
  have hi2 : s.fieldFound? ref (T kf).2.1 (T kf).2.2.1 = some (cf, kf', fi, f) := hsame.elim (fun z => by rw [z]; exact hi) (fun z => u_same (hts _ z) _ hi)
  refine W.putFinK X.1 X.2.1 hown (hts _ hlink) hi2 hst hcf (X.2.2.2.2.2.2.2.2 hin2) (by rw [q2]; exact h6) q1 q3 (by rw [hsl]; exact k2_hasslot (q4 kf hk)) rfl rfl d fun H' e1 e2 e3 => ?_
  rw [hsl] at e1 ⊢
  exact kk H' _ ls (hOK_set hh hr e2 e3 ⟨_, hc, t_OB.to (V := updV (vp_V fs) kf v) ⟨_, e1, q2, q3, t_set q4 hap hk v⟩ (fun j _ => vp_updV_set hl v j)⟩) (hS0.put e2 e3 (hh.2.2 a _ hr).2) hlo
theorem v_iald (X : Cx p s m args meth c γ y cc nL ret) {a n : Nat} {f : Nat → Int32} {x : Int32} (hr : h.1 a = some (.inl (γ.2.2.1 0, n, .inl f))) (i : Nat) (hx : x = nI i) (hi : i < n) (hn : n < 2 ^ 31) (d : decode cc pc = .ok (.iaload, 1)) (kk : V p l e R s m args below meth c γ Q h k j (pc + 1) L (.int (f i) :: st)) : V p l e R s m args below meth c γ Q h k j pc L (.int x :: .ref a :: st) := by
  intro H locs ls hh hS hl
  subst hx
  refine va_iald X.1 X.2.1 X.2.2.2.2.2.2.2.1.1 (at_of hh hr) 0 0 rfl rfl (vp_in_nI hi hn) d ?_
  rw [nI_clamp (Nat.lt_trans hi hn)]
  exact kk H locs ls hh hS hl
theorem v_iast (X : Cx p s m args meth c γ y cc nL ret) {a n : Nat} {f : Nat → Int32} {x z : Int32} (hr : h.1 a = some (.inl (γ.2.2.1 0, n, .inl f))) (i : Nat) (hx : x = nI i) (hi : i < n) (hn : n < 2 ^ 31) (d : decode cc pc = .ok (.iastore, 1)) (kk : V p l e R s m args below meth c γ Q (hset h a (.inl (γ.2.2.1 0, n, .inl (upd f i z)))) k j (pc + 1) L st) : V p l e R s m args below meth c γ Q h k j pc L (.int z :: .int x :: .ref a :: st) := by
  intro H locs ls hh hS hl
  subst hx
  have hp := (hh.2.2 a _ hr).1
  refine W.iast X.1 X.2.1 (cell := vp_cell (γ.2.2.1 0) (n, .inl f)) hp ((X.2.2.2.2.2.2.2.1.1.2 0 _ rfl).1 n (fun j => .int (f j))) (fun q => by cases q) (by show ¬ (nI i < 0 ∨ (arrV _ _ _).slots.size ≤ _); rw [arrV_size]; exact vp_in_nI hi hn) rfl rfl d fun H1 e1 e2 e3 => ?_
  refine kk H1 _ ls (hOK_set hh hr e2 e3 ?_) (hS.put e2 e3 (hh.2.2 a _ hr).2) hl
  show H1[a]? = some (vp_cell _ _)
  rw [e1, nI_clamp (Nat.lt_trans hi hn), vp_cell_i, vp_cell_i, arrV_store]
  congr 2
  funext q
  by_cases hq : q = i
  · subst hq; simp [updV, upd]
  · simp [updV, upd, hq]
theorem v_alen (X : Cx p s m args meth c γ y cc nL ret) {a t0 : Nat} {z : vp_A} {cA : ClassId} {ty : FieldType} (hr : h.1 a = some (.inl (cA, z))) (ht : (tyl γ)[t0]? = some (cA, ty)) (d : decode cc pc = .ok (.arraylength, 1)) (kk : V p l e R s m args below meth c γ Q h k j (pc + 1) L (.int (nI z.1) :: st)) : V p l e R s m args below meth c γ Q h k j pc L (.ref a :: st) := fun H locs ls hh hS hl =>
  va_alen X.1 X.2.1 X.2.2.2.2.2.2.2.1.1 (at_of hh hr) 0 t0 rfl ht rfl d (kk H locs ls hh hS hl)
theorem v_aald (X : Cx p s m args meth c γ y cc nL ret) {a t0 n b : Nat} {f : Nat → Option Nat} {cA : ClassId} {C : String} {x : Int32} (hr : h.1 a = some (.inl (cA, n, .inr (.inr (.inr (.inr f)))))) (ht : (tyl γ)[t0]? = some (cA, .object C)) (i : Nat) (hx : x = nI i) (hi : i < n) (hn : n < 2 ^ 31) (hb : f i = some b) (d : decode cc pc = .ok (.aaload, 1)) (kk : V p l e R s m args below meth c γ Q h k j (pc + 1) L (.ref b :: st)) : V p l e R s m args below meth c γ Q h k j pc L (.int x :: .ref a :: st) := by
  intro H locs ls hh hS hl
  subst hx
  refine va_aldq X.1 X.2.1 X.2.2.2.2.2.2.2.1.1 (at_of hh hr) 0 t0 rfl ht (vp_in_nI hi hn) d ?_
  rw [nI_clamp (Nat.lt_trans hi hn), hb]
  exact kk H locs ls hh hS hl
theorem v_aast (X : Cx p s m args meth c γ y cc nL ret) {a t0 n v ci : Nat} {f : Nat → Option Nat} {cA : ClassId} {E : String} {r : vw_C} {fs : List Value} {x : Int32} (hr : h.1 a = some (.inl (cA, n, .inr (.inr (.inr (.inr f)))))) (ht : (tyl γ)[t0]? = some (cA, .object E)) (hv : h.1 v = some (.inr (ci, fs))) (hci : vwCl[ci]? = some r) (hE : r.1 = E ∨ va_Nw (.castable r.1 E) s) (i : Nat) (hx : x = nI i) (hi : i < n) (hn : n < 2 ^ 31) (d : decode cc pc = .ok (.aastore, 1)) (kk : V p l e R s m args below meth c γ Q (hset h a (.inl (cA, n, .inr (.inr (.inr (.inr (va_up f i (some v)))))))) k j (pc + 1) L st) : V p l e R s m args below meth c γ Q h k j pc L (.ref v :: .int x :: .ref a :: st) := by
  intro H locs ls hh hS hl
  subst hx
  have hp := (hh.2.2 a _ hr).1
  have hK := X.2.2.2.2.2.2.2.1.1
  obtain ⟨cellV, g1, g2, g3⟩ := va_recv hK (at_of hh hv) (ci := ci) (q0 := 0) hci rfl
  obtain ⟨kC, hkC, -⟩ := Vm.findClass_spec g3
  obtain ⟨kA, comp, k1, k2, k3, -⟩ := (hK.2 t0 _ ht).2
  obtain ⟨kE, hkE, -⟩ := Vm.findClass_spec k3
  have hasg : s.vm.assignable cellV.cls comp = true := by
    rcases hE with z | z
    · have : comp = cellV.cls := by rw [← z] at k3; exact Option.some.inj (k3.symm.trans g3)
      rw [this]
      exact va_asg _ _
    · obtain ⟨c0, t1, f1, f2, f3⟩ := Cond.castable_spec (va_Nw.use (A := args) rfl z)
      cases g3.symm.trans f1
      cases k3.symm.trans f2
      exact f3
  refine W.aast X.1 X.2.1 (cell := vp_cell cA (n, .inr (.inr (.inr (.inr f))))) hp (fun q z => by cases z) (fun z => by cases z) k1 k2 rfl hkE ⟨fun q => (vp_in_nI hi hn) (Or.inl q), by show _ < (arrV _ _ _).slots.size; rw [arrV_size, nI_clamp (Nat.lt_trans hi hn)]; exact hi⟩ g1 (fun q z => by rw [z] at g2; cases g2) hkC hasg rfl rfl d fun H1 e1 e2 e3 => ?_
  refine kk H1 _ ls (hOK_set hh hr e2 e3 ?_) (hS.put e2 e3 (hh.2.2 a _ hr).2) hl
  show H1[a]? = some (vp_cell _ _)
  rw [e1, nI_clamp (Nat.lt_trans hi hn), vp_cell_q, vp_cell_q, arrV_store]
  congr 2
  funext q
  by_cases hq : q = i
  · subst hq; simp [updV, va_up, va_rf]
  · simp [updV, va_up, hq]
theorem v_aastN (X : Cx p s m args meth c γ y cc nL ret) {a t0 n : Nat} {f : Nat → Option Nat} {cA : ClassId} {E : String} {x : Int32} (hr : h.1 a = some (.inl (cA, n, .inr (.inr (.inr (.inr f)))))) (ht : (tyl γ)[t0]? = some (cA, .object E)) (i : Nat) (hx : x = nI i) (hi : i < n) (hn : n < 2 ^ 31) (d : decode cc pc = .ok (.aastore, 1)) (kk : V p l e R s m args below meth c γ Q (hset h a (.inl (cA, n, .inr (.inr (.inr (.inr (va_up f i none))))))) k j (pc + 1) L st) : V p l e R s m args below meth c γ Q h k j pc L (.null :: .int x :: .ref a :: st) := by
  intro H locs ls hh hS hl
  subst hx
  have hp := (hh.2.2 a _ hr).1
  refine va_WaastN (C := E) X.1 X.2.1 (cell := vp_cell cA (n, .inr (.inr (.inr (.inr f))))) hp ((X.2.2.2.2.2.2.2.1.1.2 t0 _ ht).1 n (fun j => va_rf (f j))) (fun z => by cases z) (by show ¬ (nI i < 0 ∨ (arrV _ _ _).slots.size ≤ _); rw [arrV_size]; exact vp_in_nI hi hn) rfl rfl d fun H1 e1 e2 e3 => ?_
  refine kk H1 _ ls (hOK_set hh hr e2 e3 ?_) (hS.put e2 e3 (hh.2.2 a _ hr).2) hl
  show H1[a]? = some (vp_cell _ _)
  rw [e1, nI_clamp (Nat.lt_trans hi hn), vp_cell_q, vp_cell_q, arrV_store]
  congr 2
  funext q
  by_cases hq : q = i
  · subst hq; simp [updV, va_up, va_rf]
  · simp [updV, va_up, hq]
theorem v_new (X : Cx p s m args meth c γ y cc nL ret) {index ci n : Nat} {fs : List Value} (F : ND y.cls index ci n fs) (hk : k + 1 ≤ R.cells) (hj : j + n ≤ R.slots) (d : decode cc pc = .ok (.new index, 3)) (kk : V p l e R s m args below meth c γ Q (hnew h (.inr (ci, fs))) (k + 1) (j + n) (pc + 3) L (.ref h.2 :: st)) : V p l e R s m args below meth c γ Q h k j pc L st := by
  intro H locs ls hh hS hl
  obtain ⟨C, T, t0, hc, hin, hty, hcl, hins, hini, hfs⟩ := F
  have hts := X.2.2.2.2.1
  have hKn := X.2.2.2.2.2.2.2.1.1.1 ci _ hc
  refine W.newcK X.1 X.2.1 X.2.2.2.1 (hts _ hcl) (hts _ hins) (hts _ hini) rfl d hk hj hKn.2.1 rfl fun H1 kC hkC e1 z1 o1 => ?_
  have hw := kk H1 locs ls (hOK_new hh z1 o1 ⟨_, hc, (u_born t0 hts hin hKn hkC e1 hty).to hfs⟩) (hS.new (by omega) o1) hl
  rw [← hh.1] at hw
  exact hw
theorem v_newarr (X : Cx p s m args meth c γ y cc nL ret) {x : Int32} (n : Nat) (hx : x = nI n) (hn : n < 100000) (hw : Cond.arrayClass .int ∈ tb) (hk : k + 1 ≤ R.cells) (hj : j + n ≤ R.slots) (d : decode cc pc = .ok (.newarray .int, 2)) (kk : V p l e R s m args below meth c γ Q (hnew h (.inl (γ.2.2.1 0, n, .inl (fun _ => 0)))) (k + 1) (j + n) (pc + 2) L (.ref h.2 :: st)) : V p l e R s m args below meth c γ Q h k j pc L (.int x :: st) := by
  intro H locs ls hh hS hl
  subst hx
  have hc : (nI n).toNatClampNeg = n := nI_clamp (by omega)
  refine va_newaK (atype := .int) (h := H.size) X.1 X.2.1 (X.2.2.2.2.1 _ hw) rfl d rfl (nI_pos (by omega)) hc (by show n * 4 ≤ _; omega) hk hj rfl fun H1 cA e1 z1 o1 hAr hNm => ?_
  have hra := (X.2.2.2.2.2.2.2.1.1.2 0 _ rfl).2
  have hcA : cA = γ.2.2.1 0 := Option.some.inj (hNm.symm.trans hra)
  subst hcA
  have hw := kk H1 locs ls (hOK_new hh z1 o1 e1) (hS.new (by omega) o1) hl
  rw [← hh.1] at hw
  exact hw
theorem v_anew (X : Cx p s m args meth c γ y cc nL ret) {index t0 : Nat} {cA : ClassId} {C : String} {x : Int32} (n : Nat) (hx : x = nI n) (hn : n < 100000) (hcl : Cond.classLink y.cls index C ∈ tb) (hov : va_AO C s) (ht : (tyl γ)[t0]? = some (cA, .object C)) (hk : k + 1 ≤ R.cells) (hj : j + n ≤ R.slots) (d : decode cc pc = .ok (.anewarray index, 3)) (kk : V p l e R s m args below meth c γ Q (hnew h (.inl (cA, n, .inr (.inr (.inr (.inr (fun _ => none))))))) (k + 1) (j + n) (pc + 3) L (.ref h.2 :: st)) : V p l e R s m args below meth c γ Q h k j pc L (.int x :: st) := by
  intro H locs ls hh hS hl
  subst hx
  have hc : (nI n).toNatClampNeg = n := nI_clamp (by omega)
  refine W.anew X.1 X.2.1 X.2.2.2.1 (X.2.2.2.2.1 _ hcl) (va_AO.use hov) rfl d rfl (nI_pos (by omega)) (by rw [hc]; omega) hk (by rw [hc]; exact hj) fun cB kB comp f1 f2 f3 f4 => ?_
  obtain ⟨kA, comp2, k1, k2, k3, k4⟩ := (X.2.2.2.2.2.2.2.1.1.2 t0 _ ht).2
  have hcA : cB = cA := Option.some.inj (f1.symm.trans k4)
  subst hcA
  rw [hc]
  generalize hH1 : H.push ({ cls := cB, slots := Array.replicate n .null, vm := .none } : Cell) = H1
  have z1 : H1.size = H.size + 1 := by rw [← hH1, Array.size_push]
  have e1 : H1[H.size]? = some (arrV cB n (fun _ => .null)) := by rw [← hH1, Array.getElem?_push_size, ← arrV_new]
  have o1 : ∀ q : Nat, q < H.size → H1[q]? = H[q]? := fun q hq => by rw [← hH1, Array.getElem?_push, if_neg (Nat.ne_of_lt hq)]
  have hw := kk H1 locs ls (hOK_new hh z1 o1 e1) (hS.new (by omega) o1) hl
  rw [← hh.1] at hw
  exact hw
theorem v_castS (X : Cx p s m args meth c γ y cc nL ret) {index ci a : Nat} {r : vw_C} {fs : List Value} (hcl : Cond.classLink y.cls index r.1 ∈ tb) (hci : vwCl[ci]? = some r) (hr : h.1 a = some (.inr (ci, fs))) (d : decode cc pc = .ok (.checkcast index, 3)) (kk : V p l e R s m args below meth c γ Q h k j (pc + 3) L (.ref a :: st)) : V p l e R s m args below meth c γ Q h k j pc L (.ref a :: st) := fun H locs ls hh hS hl =>
  va_castE X.1 X.2.1 X.2.2.2.1 (X.2.2.2.2.1 _ hcl) (va_recv X.2.2.2.2.2.2.2.1.1 (at_of hh hr) (q0 := 0) hci rfl) d (kk H locs ls hh hS hl)
theorem v_mmax (X : Cx p s m args meth c γ y cc nL ret) {index : Nat} {x z : Int32} (hw : Cond.methodLink y.cls index Lib.Math.max.name ∈ tb ∧ Cond.static Lib.Math.max.name ∈ tb ∧ Cond.initialized "java/lang/Math" ∈ tb ∧ Cond.code Lib.Math.max.name Lib.Math.max.code 2 (some .int) ∈ tb) (hf : 1 ≤ R.frames) (hlo : (st.map fun v => v.category).sum + 13 ≤ R.locals) (hk : k ≤ R.cells) (hj : j ≤ R.slots) (hnL : L.length = nL) (d : decode cc pc = .ok (.invokestatic index, 3)) (kk : V p l e R s m args below meth c γ Q h k j (pc + 3) L (.int (if x < z then z else x) :: st)) : V p l e R s m args below meth c γ Q h k j pc L (.int z :: .int x :: st) := fun H locs ls hh hS hl =>
  va_mmax X.1 X.2.1 (by rw [X.2.2.1, ← hnL, hl.1]) X.2.2.2.1 (X.2.2.2.2.1 _ hw.1) (X.2.2.2.2.1 _ hw.2.1) (X.2.2.2.2.1 _ hw.2.2.1) (X.2.2.2.2.1 _ hw.2.2.2) hf hlo hk hj d (kk H locs ls hh hS hl)
theorem v_mmin (X : Cx p s m args meth c γ y cc nL ret) {index : Nat} {x z : Int32} (hw : Cond.methodLink y.cls index Lib.Math.min.name ∈ tb ∧ Cond.static Lib.Math.min.name ∈ tb ∧ Cond.initialized "java/lang/Math" ∈ tb ∧ Cond.code Lib.Math.min.name Lib.Math.min.code 2 (some .int) ∈ tb) (hf : 1 ≤ R.frames) (hlo : (st.map fun v => v.category).sum + 13 ≤ R.locals) (hk : k ≤ R.cells) (hj : j ≤ R.slots) (hnL : L.length = nL) (d : decode cc pc = .ok (.invokestatic index, 3)) (kk : V p l e R s m args below meth c γ Q h k j (pc + 3) L (.int (if z < x then z else x) :: st)) : V p l e R s m args below meth c γ Q h k j pc L (.int z :: .int x :: st) := fun H locs ls hh hS hl =>
  va_mmin X.1 X.2.1 (by rw [X.2.2.1, ← hnL, hl.1]) X.2.2.2.1 (X.2.2.2.2.1 _ hw.1) (X.2.2.2.2.1 _ hw.2.1) (X.2.2.2.2.1 _ hw.2.2.1) (X.2.2.2.2.1 _ hw.2.2.2) hf hlo hk hj d (kk H locs ls hh hS hl)
theorem v_mabs (X : Cx p s m args meth c γ y cc nL ret) {index : Nat} {x : Int32} (hw : Cond.methodLink y.cls index Lib.Math.abs.name ∈ tb ∧ Cond.static Lib.Math.abs.name ∈ tb ∧ Cond.initialized "java/lang/Math" ∈ tb ∧ Cond.code Lib.Math.abs.name Lib.Math.abs.code 1 (some .int) ∈ tb) (hf : 1 ≤ R.frames) (hlo : (st.map fun v => v.category).sum + 13 ≤ R.locals) (hk : k ≤ R.cells) (hj : j ≤ R.slots) (hnL : L.length = nL) (d : decode cc pc = .ok (.invokestatic index, 3)) (kk : V p l e R s m args below meth c γ Q h k j (pc + 3) L (.int (if 0 ≤ x then x else 0 - x) :: st)) : V p l e R s m args below meth c γ Q h k j pc L (.int x :: st) := fun H locs ls hh hS hl =>
  va_mabs X.1 X.2.1 (by rw [X.2.2.1, ← hnL, hl.1]) X.2.2.2.1 (X.2.2.2.2.1 _ hw.1) (X.2.2.2.2.1 _ hw.2.1) (X.2.2.2.2.1 _ hw.2.2.1) (X.2.2.2.2.1 _ hw.2.2.2) hf hlo hk hj d (kk H locs ls hh hS hl)
theorem v_objInit (X : Cx p s m args meth c γ y cc nL ret) {index a : Nat} (hw : Cond.methodLink y.cls index objectInit ∈ tb ∧ Cond.instanceMethod objectInit ∈ tb ∧ Cond.code objectInit ⟨#[0xb1]⟩ 1 none ∈ tb) (hf : 1 ≤ R.frames) (hlo : (st.map fun v => v.category).sum + 12 ≤ R.locals) (hnL : L.length = nL) (d : decode cc pc = .ok (.invokespecial index, 3)) (kk : V p l e R s m args below meth c γ Q h k j (pc + 3) L st) : V p l e R s m args below meth c γ Q h k j pc L (.ref a :: st) := fun H locs ls hh hS hl =>
  W.objInit X.1 X.2.1 X.2.2.2.1 (X.2.2.2.2.1 _ hw.1) (X.2.2.2.2.1 _ hw.2.1) (X.2.2.2.2.1 _ hw.2.2) (g := F0 m pc ls (.ref a :: st)) rfl (by show ls.size = _; rw [X.2.2.1, ← hnL, hl.1]) rfl d hf (by show 2 * 0 + _ + 12 ≤ _; omega) (kk H locs ls hh hS hl)
theorem v_gets (X : Cx p s m args meth c γ y cc nL ret) {index : Nat} {C n dd : String} {v : Value} (hZ : va_Z C n dd v (Ag γ) s s.heap) (hl1 : Cond.fieldLink y.cls index C n dd ∈ tb) (d : decode cc pc = .ok (.getstatic index, 3)) (kk : V p l e R s m args below meth c γ Q h k j (pc + 3) L (v :: st)) : V p l e R s m args below meth c γ Q h k j pc L st := fun H locs ls hh hS hl =>
  va_gets X.1 X.2.1 hZ hS X.2.2.2.1 (X.2.2.2.2.1 _ hl1) (fun _ z => z) d (kk H locs ls hh hS hl)
theorem v_tald (X : Cx p s m args meth c γ y cc nL ret) {t N : Nat} {f : Nat → Value} {x : Int32} {v : Value} (hT : va_T .int t N f (Ag γ) s s.heap) (i : Nat) (hx : x = nI i) (hi : i < N) (hn : N < 2 ^ 31) (hv : f i = v) (d : decode cc pc = .ok (.iaload, 1)) (kk : V p l e R s m args below meth c γ Q h k j (pc + 1) L (v :: st)) : V p l e R s m args below meth c γ Q h k j pc L (.int x :: .ref t :: st) := fun H locs ls hh hS hl =>
  va_ti X.1 X.2.1 hT hS (by rw [hx]; exact vp_in_nI hi hn) (by rw [hx, nI_clamp (Nat.lt_trans hi hn)]; exact hv) d (kk H locs ls hh hS hl)
theorem v_tbald (X : Cx p s m args meth c γ y cc nL ret) {t N : Nat} {f : Nat → Value} {x : Int32} {v : Value} (hT : va_T .byte t N f (Ag γ) s s.heap) (i : Nat) (hx : x = nI i) (hi : i < N) (hn : N < 2 ^ 31) (hv : f i = v) (d : decode cc pc = .ok (.baload, 1)) (kk : V p l e R s m args below meth c γ Q h k j (pc + 1) L (v :: st)) : V p l e R s m args below meth c γ Q h k j pc L (.int x :: .ref t :: st) := fun H locs ls hh hS hl =>
  va_tb X.1 X.2.1 hT hS (by rw [hx]; exact vp_in_nI hi hn) (by rw [hx, nI_clamp (Nat.lt_trans hi hn)]; exact hv) d (kk H locs ls hh hS hl)
theorem v_tlen (X : Cx p s m args meth c γ y cc nL ret) {t N : Nat} {f : Nat → Value} {ty : FieldType} (hT : va_T ty t N f (Ag γ) s s.heap) (d : decode cc pc = .ok (.arraylength, 1)) (kk : V p l e R s m args below meth c γ Q h k j (pc + 1) L (.int (nI N) :: st)) : V p l e R s m args below meth c γ Q h k j pc L (.ref t :: st) := fun H locs ls hh hS hl =>
  va_tlen X.1 X.2.1 hT hS rfl d (kk H locs ls hh hS hl)
theorem v_ldcS (X : Cx p s m args meth c γ y cc nL ret) {tx : String} {index q : Nat} (hZ : vk_R y.cls index tx q s) (d : decode cc pc = .ok (.ldc index, 2)) (kk : V p l e R s m args below meth c γ Q h k j (pc + 2) L (.ref q :: st)) : V p l e R s m args below meth c γ Q h k j pc L st := fun H locs ls hh hS hl =>
  va_ldcS X.1 X.2.1 X.2.2.2.1 hZ d (kk H locs ls hh hS hl)
theorem v_ldc2 (X : Cx p s m args meth c γ y cc nL ret) {index : Nat} {v : Int64} (hw : Cond.constantLong y.cls index v ∈ tb) (d : decode cc pc = .ok (.ldc2_w index, 3)) (kk : V p l e R s m args below meth c γ Q h k j (pc + 3) L (.long v :: st)) : V p l e R s m args below meth c γ Q h k j pc L st := fun H locs ls hh hS hl =>
  lv_ldc2 X.1 X.2.1 X.2.2.2.1 (X.2.2.2.2.1 _ hw) d (kk H locs ls hh hS hl)
theorem v_ldcI (X : Cx p s m args meth c γ y cc nL ret) {index : Nat} {v : Int32} (hw : Cond.constant y.cls index v ∈ tb) (d : decode cc pc = .ok (.ldc index, 2)) (kk : V p l e R s m args below meth c γ Q h k j (pc + 2) L (.int v :: st)) : V p l e R s m args below meth c γ Q h k j pc L st := fun H locs ls hh hS hl =>
  lv_ldc X.1 X.2.1 X.2.2.2.1 (X.2.2.2.2.1 _ hw) d (kk H locs ls hh hS hl)

/-- what a contract says of a method's end -/
def Qof (γ : Gm) (Post : Option Value → HP → Prop) : Array Value → State → Outcome → State → Prop := fun _ st o t => (∃ (v : Option Value) (h' : HP), o = .returned v ∧ Post v h' ∧ hOK γ h' t.heap) ∧ va_F (Ag γ) st t
theorem v_iret (X : Cx p s m args meth c γ y cc nL ret) {Post : Option Value → HP → Prop} {v : Int32} {mc ms : Nat} (hr : ret = some .int) (hk : k ≤ mc) (hj : j ≤ ms) (d : decode cc pc = .ok (.ireturn, 1)) (hP : Post (some (.int v)) h) : V p l e R s m args below meth c γ (MQ below (Qof γ Post) args s mc ms (Ag γ)) h k j pc L [.int v] := fun H locs ls hh hS hl =>
  W.widen hk hj (W.iret X.1 X.2.1 (X.2.2.2.2.2.1.trans hr) (fun t ht _ => ⟨⟨_, h, rfl, hP, by rw [ht]; exact hh⟩, hS.F ht⟩) hS.2.2 d X.2.2.2.2.2.2.1)
theorem v_zret (X : Cx p s m args meth c γ y cc nL ret) {Post : Option Value → HP → Prop} {v : Int32} {mc ms : Nat} {ty : FieldType} (hr : ret = some ty) (hn : narrow ty (.int v) = .int v) (hk : k ≤ mc) (hj : j ≤ ms) (d : decode cc pc = .ok (.ireturn, 1)) (hP : Post (some (.int v)) h) : V p l e R s m args below meth c γ (MQ below (Qof γ Post) args s mc ms (Ag γ)) h k j pc L [.int v] := fun H locs ls hh hS hl =>
  W.widen hk hj (W.zret X.1 X.2.1 (X.2.2.2.2.2.1.trans hr) hn (fun t ht _ => ⟨⟨_, h, rfl, hP, by rw [ht]; exact hh⟩, hS.F ht⟩) hS.2.2 d X.2.2.2.2.2.2.1)
theorem v_vret (X : Cx p s m args meth c γ y cc nL ret) {Post : Option Value → HP → Prop} {mc ms : Nat} (hr : ret = none) (hk : k ≤ mc) (hj : j ≤ ms) (d : decode cc pc = .ok (.return_, 1)) (hP : Post none h) : V p l e R s m args below meth c γ (MQ below (Qof γ Post) args s mc ms (Ag γ)) h k j pc L [] := fun H locs ls hh hS hl =>
  W.widen hk hj (W.vret X.1 X.2.1 (X.2.2.2.2.2.1.trans hr) (fun t ht _ => ⟨⟨_, h, rfl, hP, by rw [ht]; exact hh⟩, hS.F ht⟩) hS.2.2 d X.2.2.2.2.2.2.1)
theorem v_lret (X : Cx p s m args meth c γ y cc nL ret) {Post : Option Value → HP → Prop} {v : Int64} {mc ms : Nat} (hr : ret = some .long) (hk : k ≤ mc) (hj : j ≤ ms) (d : decode cc pc = .ok (.lreturn, 1)) (hP : Post (some (.long v)) h) : V p l e R s m args below meth c γ (MQ below (Qof γ Post) args s mc ms (Ag γ)) h k j pc L [.long v] := fun H locs ls hh hS hl =>
  W.widen hk hj (W.lret X.1 X.2.1 (X.2.2.2.2.2.1.trans hr) (fun t ht _ => ⟨⟨_, h, rfl, hP, by rw [ht]; exact hh⟩, hS.F ht⟩) hS.2.2 d X.2.2.2.2.2.2.1)
theorem v_aret (X : Cx p s m args meth c γ y cc nL ret) {Post : Option Value → HP → Prop} {v : Nat} {mc ms : Nat} {rt : FieldType} (hr : ret = some rt) (hrt : (∃ n, rt = .object n) ∨ ∃ t, rt = .array t) (hk : k ≤ mc) (hj : j ≤ ms) (d : decode cc pc = .ok (.areturn, 1)) (hP : Post (some (.ref v)) h) : V p l e R s m args below meth c γ (MQ below (Qof γ Post) args s mc ms (Ag γ)) h k j pc L [.ref v] := fun H locs ls hh hS hl =>
  W.widen hk hj (W.aret X.1 X.2.1 (X.2.2.2.2.2.1.trans hr) hrt (Or.inr ⟨v, rfl⟩) (fun t ht _ => ⟨⟨_, h, rfl, hP, by rw [ht]; exact hh⟩, hS.F ht⟩) hS.2.2 d X.2.2.2.2.2.2.1)
/-- THE CONTRACT: from any state over a heap of the picture h, the method y at the arguments av returns v over the picture h', with Post v h' -/
def Cr (l : Launch) (γ : Gm) (y : MethodName) (cc : ByteArray) (maxL : Nat) (ret : Option FieldType) (fr lc mc ms : Nat) (av : List Value) (h : HP) (Post : Option Value → HP → Prop) : Prop :=
  Met l y (.code y cc maxL ret :: tb) { frames := fr, cells := mc, slots := ms, locals := lc } (va_Pc av (fun U => EnvG γ U ∧ hOK γ h U.heap)) (Qof γ Post) mc ms (Ag γ)
def lo0 (n : Nat) (av : List Value) : List (Option Value) := (List.range n).map (fun i => ((lv_args 0 av).find? (fun q => q.1 == i)).map (fun q => q.2))
theorem lo_entry {av : List Value} {n : Nat} (hn : (lg_sl av).length ≤ n) : lo ((lg_sl av ++ List.replicate (n - (lg_sl av).length) Slot.unset).toArray) (lo0 n av) := by
  have he := lv_entry av hn
  refine ⟨by rw [he.1]; simp [lo0], he.2.1, fun i v hv => ?_⟩
  unfold lo0 at hv
  rw [List.getElem?_map] at hv
  cases hr : (List.range n)[i]? with
  | none => rw [hr] at hv; cases hv
  | some a =>
    rw [hr] at hv
    have ha : a = i := by
      have := List.getElem?_eq_some_iff.mp hr
      obtain ⟨h1, h2⟩ := this
      rw [List.getElem_range] at h2
      exact h2.symm
    subst ha
    simp only [Option.map_some] at hv
    cases hf : (lv_args 0 av).find? (fun q => q.1 == a) with
    | none => rw [hf] at hv; cases hv
    | some q =>
      rw [hf] at hv
      cases hv
      have h1 := List.mem_of_find?_eq_some hf
      have h2 := List.find?_some hf
      rw [beq_iff_eq] at h2
      rw [← h2]
      exact he.2.2 q h1
end VR
theorem Cr_of {l : Launch} {γ : Gm} {y : MethodName} {cc : ByteArray} {maxL : Nat} {ret : Option FieldType} {fr lc mc ms : Nat} {av : List Value} {h : HP} {Post : Option Value → HP → Prop} (L0 : List (Option Value)) (hy : plainFor y = true) (hn : (lg_sl av).length ≤ maxL) (hL : lo0 maxL av = L0)
    (body : ∀ (p : Program) (e : Env) (s : State) (m : MethodId) (args : Array Value) (below : List Frame) (meth : Method) (c : Code), Cx p s m args meth c γ y cc maxL ret → V p l e { frames := fr, cells := mc, slots := ms, locals := lc } s m args below meth c γ (MQ below (Qof γ Post) args s mc ms (Ag γ)) h 0 0 0 L0 []) : Cr l γ y cc maxL ret fr lc mc ms av h Post := by
  refine va_MetF (cc := cc) (maxL := maxL) (ret := ret) hy rfl ?_
  intro p e s m args below meth c s₁ B hml hv
  obtain ⟨rfl, hE, hh⟩ := hv
  have hts := atoms_spec (ws := .code y cc maxL ret :: tb) B.pre
  have X : Cx p s m av.toArray meth c γ y cc maxL ret := ⟨B.exec, B.bytes, hml, findClass_of_methodNamed B.named, fun w hw => hts w (List.mem_cons_of_mem _ hw), B.returns, B.notSynchronized, hE, fun q => by rw [← q]; exact (name_of_methodNamed B.named B.method).1⟩
  rw [lg_entry_eq]
  exact body p e s m av.toArray below meth c X s.heap [] _ hh va_S.rf (hL ▸ lo_entry hn)
section VCALL
variable {p : Program} {l : Launch} {e : Env} {R : Room} {s : State} {m : MethodId} {args : Array Value} {below : List Frame} {meth : Method} {c : Code} {γ : Gm} {Q : State → Prop} {y : MethodName} {cc : ByteArray} {nL : Nat} {ret : Option FieldType} {h : HP} {k j pc : Nat} {L : List (Option Value)} {st : List Value}
variable {y2 : MethodName} {cc2 : ByteArray} {maxL2 fr lc mc ms n : Nat} {ret2 : Option FieldType} {Post : Option Value → HP → Prop} {index : Nat}
theorem pre_blind {av : List Value} : FrameBlind (va_Pc av (fun U => EnvG γ U ∧ hOK γ h U.heap)) := fun a U g mk q => ⟨q.1, EnvG.blind a U g mk q.2.1, q.2.2⟩
theorem v_back {H : Heap} {locs : List Loc} {ls : Array Slot} {st0 : List Value} {a : Array Value} (hE : EnvG γ s) (hS : va_S (Ag γ) s.heap H locs) (hl : lo ls L) (hr : va_Run p l e R s m args below meth c H locs k j mc ms (F0 m pc ls st0) st (Qof γ Post a) (Ag γ)) (kk : ∀ (v : Option Value) (h' : HP), Post v h' → V p l e R s m args below meth c γ Q h' (k + mc) (j + ms) (pc + 3) L (v.toList ++ st)) : W p l e R s m args below meth c H locs k j Q (F0 m pc ls st0) := by
  intro T hT XX
  obtain ⟨v, st₀, t, T', L1, h0, X', hL, e1, e2, ⟨⟨v', h', hv, hp, hb⟩, hz, hk⟩, stp⟩ := hr T hT XX
  cases hv
  rw [h0] at hz hk
  obtain ⟨t2, a1, b1⟩ := kk v h' hp T'.heap (locs ++ L1) ls (by rw [e1]; exact hb) ⟨Nat.le_trans hS.1 (by rw [e1]; exact hz), fun q h1 h2 => by rw [e1, hk q (Nat.lt_of_lt_of_le h1 hS.1) h2]; exact hS.2.1 q h1 h2, fun q hq => by
      rcases List.mem_append.mp hq with h3 | h3
      · exact hS.2.2 q h3
      · exact hL q h3⟩ hl T' rfl X'
  exact ⟨t2, stp t2 a1, b1⟩
abbrev Rm (R : Room) (k j fr lc mc ms maxL2 : Nat) : Prop := fr + 1 ≤ R.frames ∧ 8 + (maxL2 + 11) + lc ≤ R.locals ∧ k + mc ≤ R.cells ∧ j + ms ≤ R.slots
theorem v_callV (X : Cx p s m args meth c γ y cc nL ret) {b : Nat} {As : List Value} {ci : Nat} {r : vw_C} {fs : List Value} (M : MV y.cls index y2 cc2 maxL2 ret2 n) (hC : Cr l γ y2 cc2 maxL2 ret2 fr lc mc ms (.ref b :: As) h Post) (hci : vwCl[ci]? = some r) (hcls : r.1 = y2.cls) (hb : h.1 b = some (.inr (ci, fs))) (hn : As.length = n) (hm : Rm R k j fr lc mc ms maxL2) (hw : (st.map fun v => v.category).sum ≤ 8) (hnL : L.length = nL) (d : decode cc pc = .ok (.invokevirtual index, 3)) {st0 : List Value} (hst : st0 = As.reverse ++ .ref b :: st)
    (kk : ∀ (v : Option Value) (h' : HP), Post v h' → V p l e R s m args below meth c γ Q h' (k + mc) (j + ms) (pc + 3) L (v.toList ++ st)) : V p l e R s m args below meth c γ Q h k j pc L st0 := by
  intro H locs ls hh hS hl
  subst hst
  have hts := X.2.2.2.2.1
  have hcb : CallB R s args y.cls index y2 cc2 maxL2 ret2 (.code y2 cc2 maxL2 ret2 :: tb) { frames := fr, cells := mc, slots := ms, locals := lc } mc ms n := callB_of n hts (tb_cons M.1.2.2.2.2) rfl rfl rfl (hts _ M.1.2.2.2.1) (hts _ M.1.1) M.2 ⟨hm.1, hm.2.1⟩
  refine v_back X.2.2.2.2.2.2.2.1 hS hl (va_runV (C := y2.cls) (As := As) (rest := st) ⟨X.1, X.2.1, X.2.2.1, X.2.2.2.1, hts⟩ hC ⟨hcb, hts _ M.1.2.1, hts _ M.1.2.2.1⟩ ⟨pre_blind, ?_, fun U hU hW => ⟨rfl, X.2.2.2.2.2.2.2.1.at hS hU hW, by rw [hU]; exact hh⟩⟩ rfl hn (by show ls.size = _; rw [← hnL, hl.1]) rfl (lv_room hw) d ⟨hm.2.2.1, hm.2.2.2⟩) kk
  rw [← hcls]
  exact va_recv X.2.2.2.2.2.2.2.1.1 (at_of hh hb) (q0 := 0) hci rfl
/-- a text constant's method -/
theorem v_callT (X : Cx p s m args meth c γ y cc nL ret) {b : Nat} {As : List Value} (M : MV y.cls index y2 cc2 maxL2 ret2 n) (hC : Cr l γ y2 cc2 maxL2 ret2 fr lc mc ms (.ref b :: As) h Post) (hb : va_O y2.cls b (Ag γ) s s.heap) (hn : As.length = n) (hm : Rm R k j fr lc mc ms maxL2) (hw : (st.map fun v => v.category).sum ≤ 8) (hnL : L.length = nL) (d : decode cc pc = .ok (.invokevirtual index, 3)) {st0 : List Value} (hst : st0 = As.reverse ++ .ref b :: st)
    (kk : ∀ (v : Option Value) (h' : HP), Post v h' → V p l e R s m args below meth c γ Q h' (k + mc) (j + ms) (pc + 3) L (v.toList ++ st)) : V p l e R s m args below meth c γ Q h k j pc L st0 := by
  intro H locs ls hh hS hl
  subst hst
  have hts := X.2.2.2.2.1
  have hcb : CallB R s args y.cls index y2 cc2 maxL2 ret2 (.code y2 cc2 maxL2 ret2 :: tb) { frames := fr, cells := mc, slots := ms, locals := lc } mc ms n := callB_of n hts (tb_cons M.1.2.2.2.2) rfl rfl rfl (hts _ M.1.2.2.2.1) (hts _ M.1.1) M.2 ⟨hm.1, hm.2.1⟩
  refine v_back X.2.2.2.2.2.2.2.1 hS hl (va_runV (C := y2.cls) (As := As) (rest := st) ⟨X.1, X.2.1, X.2.2.1, X.2.2.2.1, hts⟩ hC ⟨hcb, hts _ M.1.2.1, hts _ M.1.2.2.1⟩ ⟨pre_blind, ?_, fun U hU hW => ⟨rfl, X.2.2.2.2.2.2.2.1.at hS hU hW, by rw [hU]; exact hh⟩⟩ rfl hn (by show ls.size = _; rw [← hnL, hl.1]) rfl (lv_room hw) d ⟨hm.2.2.1, hm.2.2.2⟩) kk
  obtain ⟨cell, h1, h2, h3, -⟩ := hb.kept hS.2.1
  exact ⟨cell, h1, h2, h3⟩
theorem v_callS (X : Cx p s m args meth c γ y cc nL ret) {As : List Value} (M : MS y.cls index y2 cc2 maxL2 ret2 n) (hC : Cr l γ y2 cc2 maxL2 ret2 fr lc mc ms As h Post) (hn : As.length = n) (hm : Rm R k j fr lc mc ms maxL2) (hw : (st.map fun v => v.category).sum ≤ 8) (hnL : L.length = nL) (d : decode cc pc = .ok (.invokestatic index, 3)) {st0 : List Value} (hst : st0 = As.reverse ++ st)
    (kk : ∀ (v : Option Value) (h' : HP), Post v h' → V p l e R s m args below meth c γ Q h' (k + mc) (j + ms) (pc + 3) L (v.toList ++ st)) : V p l e R s m args below meth c γ Q h k j pc L st0 := by
  intro H locs ls hh hS hl
  subst hst
  have hts := X.2.2.2.2.1
  have hcb : CallB R s args y.cls index y2 cc2 maxL2 ret2 (.code y2 cc2 maxL2 ret2 :: tb) { frames := fr, cells := mc, slots := ms, locals := lc } mc ms n := callB_of n hts (tb_cons M.1.2.2.2) rfl rfl rfl (hts _ M.1.2.2.1) (hts _ M.1.1) M.2 ⟨hm.1, hm.2.1⟩
  exact v_back X.2.2.2.2.2.2.2.1 hS hl (va_runS (As := As) (rest := st) ⟨X.1, X.2.1, X.2.2.1, X.2.2.2.1, hts⟩ hC ⟨hcb, hts _ M.1.2.1⟩ ⟨pre_blind, fun U hU hW => ⟨rfl, X.2.2.2.2.2.2.2.1.at hS hU hW, by rw [hU]; exact hh⟩⟩ rfl hn (by show ls.size = _; rw [← hnL, hl.1]) rfl (lv_room hw) d ⟨hm.2.2.1, hm.2.2.2⟩) kk
theorem v_callI (X : Cx p s m args meth c γ y cc nL ret) {b : Nat} {As : List Value} (M : MI y.cls index y2 cc2 maxL2 n) (hC : Cr l γ y2 cc2 maxL2 none fr lc mc ms (.ref b :: As) h Post) (hn : As.length = n) (hm : Rm R k j fr lc mc ms maxL2) (hw : (st.map fun v => v.category).sum ≤ 8) (hnL : L.length = nL) (d : decode cc pc = .ok (.invokespecial index, 3)) {st0 : List Value} (hst : st0 = As.reverse ++ .ref b :: st)
    (kk : ∀ (v : Option Value) (h' : HP), Post v h' → V p l e R s m args below meth c γ Q h' (k + mc) (j + ms) (pc + 3) L (v.toList ++ st)) : V p l e R s m args below meth c γ Q h k j pc L st0 := by
  intro H locs ls hh hS hl
  subst hst
  have hts := X.2.2.2.2.1
  have hcb : CallB R s args y.cls index y2 cc2 maxL2 none (.code y2 cc2 maxL2 none :: tb) { frames := fr, cells := mc, slots := ms, locals := lc } mc ms n := callB_of n hts (tb_cons M.1.2.2.2.2) rfl rfl rfl (hts _ M.1.2.2.2.1) (hts _ M.1.1) M.2 ⟨hm.1, hm.2.1⟩
  exact v_back X.2.2.2.2.2.2.2.1 hS hl (va_runI (b := b) (As := As) (rest := st) ⟨X.1, X.2.1, X.2.2.1, X.2.2.2.1, hts⟩ hC ⟨hcb, M.1.2.2.1, hts _ M.1.2.1⟩ ⟨pre_blind, fun U hU hW => ⟨rfl, X.2.2.2.2.2.2.2.1.at hS hU hW, by rw [hU]; exact hh⟩⟩ rfl hn (by show ls.size = _; rw [← hnL, hl.1]) rfl (lv_room hw) d ⟨hm.2.2.1, hm.2.2.2⟩) kk
theorem v_callSN (X : Cx p s m args meth c γ y cc nL ret) {As : List Value} (M : MSN y.cls index y2 cc2 maxL2 ret2 n) (hC : Cr l γ y2 cc2 maxL2 ret2 fr lc mc ms As h Post) (hn : As.length = n) (hm : Rm R k j fr lc mc ms maxL2) (hw : (st.map fun v => v.category).sum ≤ 8) (hnL : L.length = nL) (d : decode cc pc = .ok (.invokestatic index, 3)) {st0 : List Value} (hst : st0 = As.reverse ++ st)
    (kk : ∀ (v : Option Value) (h' : HP), Post v h' → V p l e R s m args below meth c γ Q h' (k + mc) (j + ms) (pc + 3) L (v.toList ++ st)) : V p l e R s m args below meth c γ Q h k j pc L st0 := by
  intro H locs ls hh hS hl
  subst hst
  have hts := X.2.2.2.2.1
  have hcn : va_CN R s args y.cls index y2 "BallastTrain" cc2 maxL2 ret2 (.code y2 cc2 maxL2 ret2 :: tb) { frames := fr, cells := mc, slots := ms, locals := lc } mc ms n := va_cnB n hts (tb_cons M.1.2.2.2) rfl rfl rfl (X.2.2.2.2.2.2.2.1.2.2.2.2.1 _ M.1.1) (hts _ M.1.2.2.1) M.2 ⟨hm.1, hm.2.1⟩
  exact v_back X.2.2.2.2.2.2.2.1 hS hl (va_runSN (As := As) (rest := st) ⟨X.1, X.2.1, X.2.2.1, X.2.2.2.1, hts⟩ hC ⟨hcn, hts _ M.1.2.1, trivial⟩ ⟨pre_blind, fun U hU hW => ⟨rfl, X.2.2.2.2.2.2.2.1.at hS hU hW, by rw [hU]; exact hh⟩⟩ rfl hn (by show ls.size = _; rw [← hnL, hl.1]) rfl (lv_room hw) d ⟨hm.2.2.1, hm.2.2.2⟩) kk
theorem v_callIN (X : Cx p s m args meth c γ y cc nL ret) {b : Nat} {As : List Value} (M : MIN y.cls index y2 cc2 maxL2 n) (hC : Cr l γ y2 cc2 maxL2 none fr lc mc ms (.ref b :: As) h Post) (hn : As.length = n) (hm : Rm R k j fr lc mc ms maxL2) (hw : (st.map fun v => v.category).sum ≤ 8) (hnL : L.length = nL) (d : decode cc pc = .ok (.invokespecial index, 3)) {st0 : List Value} (hst : st0 = As.reverse ++ .ref b :: st)
    (kk : ∀ (v : Option Value) (h' : HP), Post v h' → V p l e R s m args below meth c γ Q h' (k + mc) (j + ms) (pc + 3) L (v.toList ++ st)) : V p l e R s m args below meth c γ Q h k j pc L st0 := by
  intro H locs ls hh hS hl
  subst hst
  have hts := X.2.2.2.2.1
  have hcn : va_CN R s args y.cls index y2 "BallastTrain" cc2 maxL2 none (.code y2 cc2 maxL2 none :: tb) { frames := fr, cells := mc, slots := ms, locals := lc } mc ms n := va_cnB n hts (tb_cons M.1.2.2.2.2) rfl rfl rfl (X.2.2.2.2.2.2.2.1.2.2.2.2.1 _ M.1.1) (hts _ M.1.2.2.2.1) M.2 ⟨hm.1, hm.2.1⟩
  exact v_back X.2.2.2.2.2.2.2.1 hS hl (va_runIN (b := b) (As := As) (rest := st) ⟨X.1, X.2.1, X.2.2.1, X.2.2.2.1, hts⟩ hC ⟨hcn, M.1.2.2.1, hts _ M.1.2.1⟩ ⟨pre_blind, fun U hU hW => ⟨rfl, X.2.2.2.2.2.2.2.1.at hS hU hW, by rw [hU]; exact hh⟩⟩ rfl hn (by show ls.size = _; rw [← hnL, hl.1]) rfl (lv_room hw) d ⟨hm.2.2.1, hm.2.2.2⟩) kk
end VCALL
end
section
section VCPY
variable {p : Program} {l : Launch} {e : Env} {R : Room} {s : State} {m : MethodId} {args : Array Value} {below : List Frame} {meth : Method} {c : Code} {γ : Gm} {Q : State → Prop} {y : MethodName} {cc : ByteArray} {nL : Nat} {ret : Option FieldType} {h : HP} {k j pc : Nat} {L : List (Option Value)} {st : List Value}
abbrev CpyW (own : String) (index : Nat) : Prop := Cond.methodLink own index arraycopyName ∈ tb ∧ Cond.native arraycopyName ∈ tb ∧ Cond.static arraycopyName ∈ tb ∧ Cond.initialized "java/lang/System" ∈ tb
theorem nI_int {i : Nat} (h : i < 2 ^ 31) : (nI i).toInt = (((nI i).toNatClampNeg : Nat) : Int) := by rw [nI_toInt h, nI_clamp h]
/-- System.arraycopy between rows of numbers -/
theorem v_copyi (X : Cx p s m args meth c γ y cc nL ret) {index a0 a n0 n1 : Nat} {f g : Nat → Int32} {xs xd xn : Int32} (hw : CpyW y.cls index) (hr0 : h.1 a0 = some (.inl (γ.2.2.1 0, n0, .inl f))) (hr1 : h.1 a = some (.inl (γ.2.2.1 0, n1, .inl g))) (sp dp n : Nat) (hs : xs = nI sp) (hd : xd = nI dp) (hn : xn = nI n) (h4 : sp + n ≤ n0) (h5 : dp + n ≤ n1) (hb0 : n0 < 2 ^ 31) (hb1 : n1 < 2 ^ 31) (hf : 1 ≤ R.frames) (hlo : (st.map fun v => v.category).sum + (nativeFrameWords "java/lang/System" "arraycopy" 5 + 11) ≤ R.locals) (hnL : L.length = nL) (d : decode cc pc = .ok (.invokestatic index, 3))
    (kk : V p l e R s m args below meth c γ Q (hset h a (.inl (γ.2.2.1 0, n1, .inl (va_cpy f g sp dp n)))) k j (pc + 3) L st) : V p l e R s m args below meth c γ Q h k j pc L (.int xn :: .int xd :: .ref a :: .int xs :: .ref a0 :: st) := by
  intro H locs ls hh hS hl
  subst hs; subst hd; subst hn
  have hK := X.2.2.2.2.2.2.2.1.1
  have hts := X.2.2.2.2.1
  have b1 : sp < 2 ^ 31 := by omega
  have b2 : dp < 2 ^ 31 := by omega
  have b3 : n < 2 ^ 31 := by omega
  have hc0 : H[a0]? = some (vp_cell (γ.2.2.1 0) (n0, .inl f)) := (hh.2.2 a0 _ hr0).1
  have hc1 : H[a]? = some (vp_cell (γ.2.2.1 0) (n1, .inl g)) := (hh.2.2 a _ hr1).1
  obtain ⟨-, k0, hk0, cm0, hkk0⟩ := (hK.2 0 _ rfl).1 n0 (fun j => .int (f j))
  obtain ⟨-, k1, hk1, cm1, hkk1⟩ := (hK.2 0 _ rfl).1 n1 (fun j => .int (g j))
  intro T hT XX
  obtain ⟨vm', X', step⟩ := XX.arraycopy X.1 X.2.2.2.1 (hts _ hw.1) (hts _ hw.2.1) (hts _ hw.2.2.1) (hts _ hw.2.2.2) (src := a0) (dst := a) (cs := vp_cell (γ.2.2.1 0) (n0, .inl f)) (cd := vp_cell (γ.2.2.1 0) (n1, .inl g)) (srcPos := nI sp) (destPos := nI dp) (n := nI n) (by rw [hT]; exact hc0) (by rw [hT]; exact hc1)
    (fun _ h => by cases h) (fun _ h => by cases h) (fun h => by cases h) (fun h => by cases h) hk0 hk1 hkk0 hkk1 (by simp [refKind]) (nI_pos b1) (nI_pos b2) (nI_pos b3)
    (by rw [nI_toInt b1, nI_toInt b3]; show ¬ _ > ((arrV (γ.2.2.1 0) n0 (fun j => .int (f j))).slots.size : Int); rw [arrV_size]; omega)
    (by rw [nI_toInt b2, nI_toInt b3]; show ¬ _ > ((arrV (γ.2.2.1 0) n1 (fun j => .int (g j))).slots.size : Int); rw [arrV_size]; omega)
    (fun vm₁ _ i hi => by
      rw [nI_clamp b3] at hi
      have e : (vp_cell (γ.2.2.1 0) (n0, .inl f)).slots.getD ((nI sp).toNatClampNeg + i) .null = .int (f (sp + i)) := by
        show (arrV (γ.2.2.1 0) n0 (fun j => .int (f j))).slots.getD _ _ = _
        rw [Array.getD_eq_getD_getElem?, nI_clamp b1, arrV_read _ _ (by omega)]
        rfl
      rw [e]
      exact ⟨rfl, trivial⟩)
    (g := F0 m pc ls (.int (nI n) :: .int (nI dp) :: .ref a :: .int (nI sp) :: .ref a0 :: st)) rfl (by show ls.size = _; rw [X.2.2.1, ← hnL, hl.1]) (rest := st) rfl (by rw [X.2.1]; exact d) hf (by show 2 * 0 + _ + _ ≤ _; omega)
  have e1 : copied (vp_cell (γ.2.2.1 0) (n0, .inl f)) (vp_cell (γ.2.2.1 0) (n1, .inl g)) (nI sp) (nI dp) (nI n) = vp_cell (γ.2.2.1 0) (n1, .inl (va_cpy f g sp dp n)) := by
    have h4' : (nI sp).toNatClampNeg + (nI n).toNatClampNeg ≤ n0 := by rw [nI_clamp b1, nI_clamp b3]; exact h4
    have := va_copied (n1 := n1) (dp := (nI dp).toNatClampNeg) (fun z => Value.int z) (γ.2.2.1 0) (γ.2.2.1 0) f g h4'
    rw [nI_clamp b1, nI_clamp b2, nI_clamp b3] at this
    rw [vp_cell_i, vp_cell_i, vp_cell_i]
    unfold copied
    rw [nI_clamp b1, nI_clamp b2, nI_clamp b3]
    exact this
  rw [e1] at X' step
  have hla : a < H.size := (Array.getElem?_eq_some_iff.mp hc1).1
  have hheap : ((T.setVm vm').setCell a (vp_cell (γ.2.2.1 0) (n1, .inl (va_cpy f g sp dp n)))).heap = H.setIfInBounds a (vp_cell (γ.2.2.1 0) (n1, .inl (va_cpy f g sp dp n))) := by rw [← hT]; rfl
  have oq : ∀ q : Nat, q ≠ a → (H.setIfInBounds a (vp_cell (γ.2.2.1 0) (n1, .inl (va_cpy f g sp dp n))))[q]? = H[q]? := fun q hq => by simp [Array.getElem?_setIfInBounds, Ne.symm hq]
  have hag := (hh.2.2 a _ hr1).2
  obtain ⟨t, a1, b1⟩ := kk _ _ ls (hOK_set hh hr1 (by simp) oq (show (H.setIfInBounds a _)[a]? = some _ by simp [Array.getElem?_setIfInBounds, hla])) ⟨by simp; exact hS.1, fun q g1 g2 => by
      rw [oq q (fun e => g2 (by rw [e]; exact hag))]
      exact hS.2.1 q g1 g2, fun q hq => by
      rcases List.mem_append.mp hq with h | h
      · exact hS.2.2 q h
      · obtain ⟨z, -, hz⟩ := List.mem_map.mp h
        rw [← hz]
        exact hag⟩ hl _ hheap X'
  exact ⟨t, step t a1, b1⟩
/-- what may lie in a row of objects: null, or an object that the picture holds -/
def rowOK (s : State) (h : HP) (E : String) (f : Nat → Option Nat) (i : Nat) : Prop := ∀ z, f i = some z → ∃ (ci : Nat) (r : vw_C) (fs : List Value), h.1 z = some (.inr (ci, fs)) ∧ vwCl[ci]? = some r ∧ va_Nw (.castable r.1 E) s
theorem v_copyq (X : Cx p s m args meth c γ y cc nL ret) {index a0 a n0 n1 t0 : Nat} {cA : ClassId} {E : String} {f g : Nat → Option Nat} {xs xd xn : Int32} (hw : CpyW y.cls index) (hr0 : h.1 a0 = some (.inl (cA, n0, .inr (.inr (.inr (.inr f)))))) (hr1 : h.1 a = some (.inl (cA, n1, .inr (.inr (.inr (.inr g)))))) (ht : (tyl γ)[t0]? = some (cA, .object E)) (sp dp n : Nat) (hs : xs = nI sp) (hd : xd = nI dp) (hn : xn = nI n) (h4 : sp + n ≤ n0) (h5 : dp + n ≤ n1) (hb0 : n0 < 2 ^ 31) (hb1 : n1 < 2 ^ 31) (hel : ∀ i : Nat, i < n → rowOK s h E f (sp + i)) (hf : 1 ≤ R.frames) (hlo : (st.map fun v => v.category).sum + (nativeFrameWords "java/lang/System" "arraycopy" 5 + 11) ≤ R.locals) (hnL : L.length = nL) (d : decode cc pc = .ok (.invokestatic index, 3))
    (kk : V p l e R s m args below meth c γ Q (hset h a (.inl (cA, n1, .inr (.inr (.inr (.inr (va_cpy f g sp dp n))))))) k j (pc + 3) L st) : V p l e R s m args below meth c γ Q h k j pc L (.int xn :: .int xd :: .ref a :: .int xs :: .ref a0 :: st) := by
  intro H locs ls hh hS hl
  subst hs; subst hd; subst hn
  have hK := X.2.2.2.2.2.2.2.1.1
  have hts := X.2.2.2.2.1
  have b1 : sp < 2 ^ 31 := by omega
  have b2 : dp < 2 ^ 31 := by omega
  have b3 : n < 2 ^ 31 := by omega
  have hc0 : H[a0]? = some (vp_cell cA (n0, .inr (.inr (.inr (.inr f))))) := (hh.2.2 a0 _ hr0).1
  have hc1 : H[a]? = some (vp_cell cA (n1, .inr (.inr (.inr (.inr g))))) := (hh.2.2 a _ hr1).1
  obtain ⟨-, k0, hk0, cm0, hkk0⟩ := (hK.2 t0 _ ht).1 n0 (fun j => va_rf (f j))
  obtain ⟨-, k1, hk1, cm1, hkk1⟩ := (hK.2 t0 _ ht).1 n1 (fun j => va_rf (g j))
  intro T hT XX
  obtain ⟨vm', X', step⟩ := XX.arraycopy X.1 X.2.2.2.1 (hts _ hw.1) (hts _ hw.2.1) (hts _ hw.2.2.1) (hts _ hw.2.2.2) (src := a0) (dst := a) (cs := vp_cell cA (n0, .inr (.inr (.inr (.inr f))))) (cd := vp_cell cA (n1, .inr (.inr (.inr (.inr g))))) (srcPos := nI sp) (destPos := nI dp) (n := nI n) (by rw [hT]; exact hc0) (by rw [hT]; exact hc1)
    (fun _ h => by cases h) (fun _ h => by cases h) (fun h => by cases h) (fun h => by cases h) hk0 hk1 hkk0 hkk1 rfl (nI_pos b1) (nI_pos b2) (nI_pos b3)
    (by rw [nI_toInt b1, nI_toInt b3]; show ¬ _ > ((arrV cA n0 (fun j => va_rf (f j))).slots.size : Int); rw [arrV_size]; omega)
    (by rw [nI_toInt b2, nI_toInt b3]; show ¬ _ > ((arrV cA n1 (fun j => va_rf (g j))).slots.size : Int); rw [arrV_size]; omega)
    (fun vm₁ hal i hi => by
      rw [nI_clamp b3] at hi
      have e : (vp_cell cA (n0, .inr (.inr (.inr (.inr f))))).slots.getD ((nI sp).toNatClampNeg + i) .null = va_rf (f (sp + i)) := by
        show (arrV cA n0 (fun j => va_rf (f j))).slots.getD _ _ = _
        rw [Array.getD_eq_getD_getElem?, nI_clamp b1, arrV_read _ _ (by omega)]
        rfl
      rw [e]
      cases hy : f (sp + i) with
      | none => exact ⟨rfl, trivial⟩
      | some z =>
        obtain ⟨ci, r, fs, hz, hci, hcast⟩ := hel i hi z hy
        obtain ⟨cellV, g1, g2, g3⟩ := va_recv hK (at_of hh hz) (ci := ci) (q0 := 0) hci rfl
        obtain ⟨kC, hkC, -⟩ := Vm.findClass_spec g3
        obtain ⟨c9, t9, f1, f2, f3⟩ := Cond.castable_spec (va_Nw.use (A := args) rfl hcast)
        cases g3.symm.trans f1
        obtain ⟨kA, comp, r1, r2, r3, -⟩ := (hK.2 t0 _ ht).2
        cases hk1.symm.trans r1
        cases hkk1.symm.trans r2
        cases r3.symm.trans f2
        obtain ⟨kE, hkE, -⟩ := Vm.findClass_spec r3
        obtain ⟨kC', hkC', -⟩ := hal.2.2 _ _ hkC
        obtain ⟨kE', hkE', -⟩ := hal.2.2 _ _ hkE
        refine ⟨rfl, cellV, (show T.heap[z]? = some cellV by rw [hT]; exact g1), (fun q h => by rw [h] at g2; cases g2), ⟨kC', hkC'⟩, ?_, ?_⟩
        · exact ⟨kE', hkE'⟩
        · show vm₁.assignable _ _ = true
          rw [hal.assignable]
          exact f3)
    (g := F0 m pc ls (.int (nI n) :: .int (nI dp) :: .ref a :: .int (nI sp) :: .ref a0 :: st)) rfl (by show ls.size = _; rw [X.2.2.1, ← hnL, hl.1]) (rest := st) rfl (by rw [X.2.1]; exact d) hf (by show 2 * 0 + _ + _ ≤ _; omega)
  have e1 : copied (vp_cell cA (n0, .inr (.inr (.inr (.inr f))))) (vp_cell cA (n1, .inr (.inr (.inr (.inr g))))) (nI sp) (nI dp) (nI n) = vp_cell cA (n1, .inr (.inr (.inr (.inr (va_cpy f g sp dp n))))) := by
    have h4' : (nI sp).toNatClampNeg + (nI n).toNatClampNeg ≤ n0 := by rw [nI_clamp b1, nI_clamp b3]; exact h4
    have := va_copied (n1 := n1) (dp := (nI dp).toNatClampNeg) (fun z => va_rf z) cA cA f g h4'
    rw [nI_clamp b1, nI_clamp b2, nI_clamp b3] at this
    rw [vp_cell_q, vp_cell_q, vp_cell_q]
    unfold copied
    rw [nI_clamp b1, nI_clamp b2, nI_clamp b3]
    exact this
  rw [e1] at X' step
  have hla : a < H.size := (Array.getElem?_eq_some_iff.mp hc1).1
  have hheap : ((T.setVm vm').setCell a (vp_cell cA (n1, .inr (.inr (.inr (.inr (va_cpy f g sp dp n))))))).heap = H.setIfInBounds a (vp_cell cA (n1, .inr (.inr (.inr (.inr (va_cpy f g sp dp n)))))) := by rw [← hT]; rfl
  have oq : ∀ q : Nat, q ≠ a → (H.setIfInBounds a (vp_cell cA (n1, .inr (.inr (.inr (.inr (va_cpy f g sp dp n)))))))[q]? = H[q]? := fun q hq => by simp [Array.getElem?_setIfInBounds, Ne.symm hq]
  have hag := (hh.2.2 a _ hr1).2
  obtain ⟨t, a1, b1⟩ := kk _ _ ls (hOK_set hh hr1 (by simp) oq (show (H.setIfInBounds a _)[a]? = some _ by simp [Array.getElem?_setIfInBounds, hla])) ⟨by simp; exact hS.1, fun q g1 g2 => by
      rw [oq q (fun e => g2 (by rw [e]; exact hag))]
      exact hS.2.1 q g1 g2, fun q hq => by
      rcases List.mem_append.mp hq with h | h
      · exact hS.2.2 q h
      · obtain ⟨z, -, hz⟩ := List.mem_map.mp h
        rw [← hz]
        exact hag⟩ hl _ hheap X'
  exact ⟨t, step t a1, b1⟩
end VCPY
end
section
theorem tw_0 : (Jvm.Cond.selects "java/util/ArrayList" ({ cls := "java/util/ArrayList", name := "add", desc := "(Ljava/lang/Object;[Ljava/lang/Object;I)V" } : Jvm.MethodName) ({ cls := "java/util/ArrayList", name := "add", desc := "(Ljava/lang/Object;[Ljava/lang/Object;I)V" } : Jvm.MethodName)) ∈ tb := tb_mem 0 (by decide +kernel) rfl
theorem tw_1 : (Jvm.Cond.selects "java/util/ArrayList" ({ cls := "java/util/ArrayList", name := "grow", desc := "()[Ljava/lang/Object;" } : Jvm.MethodName) ({ cls := "java/util/ArrayList", name := "grow", desc := "()[Ljava/lang/Object;" } : Jvm.MethodName)) ∈ tb := tb_mem 1 (by decide +kernel) rfl
theorem tw_2 : (Jvm.Cond.selects "java/util/ArrayList" ({ cls := "java/util/ArrayList", name := "grow", desc := "(I)[Ljava/lang/Object;" } : Jvm.MethodName) ({ cls := "java/util/ArrayList", name := "grow", desc := "(I)[Ljava/lang/Object;" } : Jvm.MethodName)) ∈ tb := tb_mem 2 (by decide +kernel) rfl
theorem tw_3 : (Jvm.Cond.selects "java/util/ArrayList" ({ cls := "java/util/ArrayList", name := "fastRemove", desc := "([Ljava/lang/Object;I)V" } : Jvm.MethodName) ({ cls := "java/util/ArrayList", name := "fastRemove", desc := "([Ljava/lang/Object;I)V" } : Jvm.MethodName)) ∈ tb := tb_mem 3 (by decide +kernel) rfl
theorem tw_4 : (Jvm.Cond.selects "BallastTrain$State" ({ cls := "BallastTrain$State", name := "carryOutOrders", desc := "()V" } : Jvm.MethodName) ({ cls := "BallastTrain$State", name := "carryOutOrders", desc := "()V" } : Jvm.MethodName)) ∈ tb := tb_mem 4 (by decide +kernel) rfl
theorem tw_5 : (Jvm.Cond.selects "BallastTrain$State" ({ cls := "BallastTrain$State", name := "unload", desc := "()V" } : Jvm.MethodName) ({ cls := "BallastTrain$State", name := "unload", desc := "()V" } : Jvm.MethodName)) ∈ tb := tb_mem 5 (by decide +kernel) rfl
theorem tw_6 : (Jvm.Cond.selects "BallastTrain$State" ({ cls := "BallastTrain$State", name := "land", desc := "(III)V" } : Jvm.MethodName) ({ cls := "BallastTrain$State", name := "land", desc := "(III)V" } : Jvm.MethodName)) ∈ tb := tb_mem 6 (by decide +kernel) rfl
theorem tw_7 : (Jvm.Cond.initialized "BallastTrainLaw") ∈ tb := tb_mem 7 (by decide +kernel) rfl
theorem tw_8 : (Jvm.Cond.initialized "BallastTrain") ∈ tb := tb_mem 8 (by decide +kernel) rfl
theorem tw_9 : (Jvm.Cond.initialized "BallastTrain$Text") ∈ tb := tb_mem 9 (by decide +kernel) rfl
theorem tw_10 : (Jvm.Cond.initialized "java/util/AbstractCollection") ∈ tb := tb_mem 10 (by decide +kernel) rfl
theorem tw_11 : (Jvm.Cond.initialized "java/util/AbstractList") ∈ tb := tb_mem 11 (by decide +kernel) rfl
theorem tw_12 : (Jvm.Cond.initialized "java/util/ArrayList") ∈ tb := tb_mem 12 (by decide +kernel) rfl
theorem tw_13 : (Jvm.Cond.initialized "BallastTrain$State") ∈ tb := tb_mem 13 (by decide +kernel) rfl
theorem tw_14 : (Jvm.Cond.initialized "BallastTrain$Track") ∈ tb := tb_mem 14 (by decide +kernel) rfl
theorem tw_15 : (Jvm.Cond.initialized "BallastTrain$Train") ∈ tb := tb_mem 15 (by decide +kernel) rfl
theorem tw_16 : (Jvm.Cond.initialized "java/util/Arrays") ∈ tb := tb_mem 16 (by decide +kernel) rfl
theorem tw_17 : (Jvm.Cond.initialized "BallastTrain$History") ∈ tb := tb_mem 17 (by decide +kernel) rfl
theorem tw_18 : (Jvm.Cond.initialized "java/lang/Math") ∈ tb := tb_mem 18 (by decide +kernel) rfl
theorem tw_19 : (Jvm.Cond.initialized "java/lang/System") ∈ tb := tb_mem 19 (by decide +kernel) rfl
theorem tw_20 : (Jvm.Cond.initialized "java/util/Objects") ∈ tb := tb_mem 20 (by decide +kernel) rfl
theorem tw_21 : (Jvm.Cond.initialized "jdk/internal/util/Preconditions") ∈ tb := tb_mem 21 (by decide +kernel) rfl
theorem tw_22 : (Jvm.Cond.initialized "jdk/internal/util/ArraysSupport") ∈ tb := tb_mem 22 (by decide +kernel) rfl
theorem tw_23 : (Jvm.Cond.classLink "BallastTrainLaw" (34 : Nat) "BallastTrain") ∈ tb := tb_mem 23 (by decide +kernel) rfl
theorem tw_24 : (Jvm.Cond.instantiable "BallastTrain" (4 : Nat)) ∈ tb := tb_mem 24 (by decide +kernel) rfl
theorem tw_25 : (Jvm.Cond.methodLink "BallastTrainLaw" (82 : Nat) ({ cls := "BallastTrain", name := "<init>", desc := "()V" } : Jvm.MethodName)) ∈ tb := tb_mem 25 (by decide +kernel) rfl
theorem tw_26 : (Jvm.Cond.instanceMethod ({ cls := "BallastTrain", name := "<init>", desc := "()V" } : Jvm.MethodName)) ∈ tb := tb_mem 26 (by decide +kernel) rfl
theorem tw_27 : (Jvm.Cond.code ({ cls := "BallastTrain", name := "<init>", desc := "()V" } : Jvm.MethodName) prog_1_method_1_code (1 : Nat) (Option.none : Option Jvm.ClassFile.FieldType)) ∈ tb := tb_mem 27 (by decide +kernel) rfl
theorem tw_28 : (Jvm.Cond.methodLink "BallastTrain" (1 : Nat) ({ cls := "java/lang/Object", name := "<init>", desc := "()V" } : Jvm.MethodName)) ∈ tb := tb_mem 28 (by decide +kernel) rfl
theorem tw_29 : (Jvm.Cond.instanceMethod ({ cls := "java/lang/Object", name := "<init>", desc := "()V" } : Jvm.MethodName)) ∈ tb := tb_mem 29 (by decide +kernel) rfl
theorem tw_31 : (Jvm.Cond.classLink "BallastTrain" (7 : Nat) "BallastTrain$Text") ∈ tb := tb_mem 31 (by decide +kernel) rfl
theorem tw_32 : (Jvm.Cond.instantiable "BallastTrain$Text" (5 : Nat)) ∈ tb := tb_mem 32 (by decide +kernel) rfl
theorem tw_34 : (Jvm.Cond.instanceMethod ({ cls := "BallastTrain$Text", name := "<init>", desc := "()V" } : Jvm.MethodName)) ∈ tb := tb_mem 34 (by decide +kernel) rfl
theorem tw_35 : (Jvm.Cond.code ({ cls := "BallastTrain$Text", name := "<init>", desc := "()V" } : Jvm.MethodName) prog_5_method_1_code (1 : Nat) (Option.none : Option Jvm.ClassFile.FieldType)) ∈ tb := tb_mem 35 (by decide +kernel) rfl
theorem tw_36 : (Jvm.Cond.methodLink "BallastTrain$Text" (3 : Nat) ({ cls := "java/lang/Object", name := "<init>", desc := "()V" } : Jvm.MethodName)) ∈ tb := tb_mem 36 (by decide +kernel) rfl
theorem tw_37 : (Jvm.Cond.classLink "BallastTrain$Text" (19 : Nat) "java/util/ArrayList") ∈ tb := tb_mem 37 (by decide +kernel) rfl
theorem tw_38 : (Jvm.Cond.instantiable "java/util/ArrayList" (3 : Nat)) ∈ tb := tb_mem 38 (by decide +kernel) rfl
theorem tw_39 : (Jvm.Cond.methodLink "BallastTrain$Text" (21 : Nat) ({ cls := "java/util/ArrayList", name := "<init>", desc := "()V" } : Jvm.MethodName)) ∈ tb := tb_mem 39 (by decide +kernel) rfl
theorem tw_40 : (Jvm.Cond.instanceMethod ({ cls := "java/util/ArrayList", name := "<init>", desc := "()V" } : Jvm.MethodName)) ∈ tb := tb_mem 40 (by decide +kernel) rfl
theorem tw_41 : (Jvm.Cond.code ({ cls := "java/util/ArrayList", name := "<init>", desc := "()V" } : Jvm.MethodName) prog_17_method_2_code (1 : Nat) (Option.none : Option Jvm.ClassFile.FieldType)) ∈ tb := tb_mem 41 (by decide +kernel) rfl
theorem tw_42 : (Jvm.Cond.methodLink "java/util/ArrayList" (1 : Nat) ({ cls := "java/util/AbstractList", name := "<init>", desc := "()V" } : Jvm.MethodName)) ∈ tb := tb_mem 42 (by decide +kernel) rfl
theorem tw_43 : (Jvm.Cond.instanceMethod ({ cls := "java/util/AbstractList", name := "<init>", desc := "()V" } : Jvm.MethodName)) ∈ tb := tb_mem 43 (by decide +kernel) rfl
theorem tw_44 : (Jvm.Cond.code ({ cls := "java/util/AbstractList", name := "<init>", desc := "()V" } : Jvm.MethodName) prog_16_method_1_code (1 : Nat) (Option.none : Option Jvm.ClassFile.FieldType)) ∈ tb := tb_mem 44 (by decide +kernel) rfl
theorem tw_45 : (Jvm.Cond.methodLink "java/util/AbstractList" (1 : Nat) ({ cls := "java/util/AbstractCollection", name := "<init>", desc := "()V" } : Jvm.MethodName)) ∈ tb := tb_mem 45 (by decide +kernel) rfl
theorem tw_46 : (Jvm.Cond.instanceMethod ({ cls := "java/util/AbstractCollection", name := "<init>", desc := "()V" } : Jvm.MethodName)) ∈ tb := tb_mem 46 (by decide +kernel) rfl
theorem tw_47 : (Jvm.Cond.code ({ cls := "java/util/AbstractCollection", name := "<init>", desc := "()V" } : Jvm.MethodName) prog_15_method_1_code (1 : Nat) (Option.none : Option Jvm.ClassFile.FieldType)) ∈ tb := tb_mem 47 (by decide +kernel) rfl
theorem tw_48 : (Jvm.Cond.methodLink "java/util/AbstractCollection" (1 : Nat) ({ cls := "java/lang/Object", name := "<init>", desc := "()V" } : Jvm.MethodName)) ∈ tb := tb_mem 48 (by decide +kernel) rfl
theorem tw_49 : (Jvm.Cond.fieldLink "java/util/ArrayList" (39 : Nat) "java/util/ArrayList" "DEFAULTCAPACITY_EMPTY_ELEMENTDATA" "[Ljava/lang/Object;") ∈ tb := tb_mem 49 (by decide +kernel) rfl
theorem tw_51 : (Jvm.Cond.fieldLink "java/util/ArrayList" (9 : Nat) "java/util/ArrayList" "elementData" "[Ljava/lang/Object;") ∈ tb := tb_mem 51 (by decide +kernel) rfl
theorem tw_52 : (Jvm.Cond.fieldLink "java/util/ArrayList" (48 : Nat) "java/util/ArrayList" "size" "I") ∈ tb := tb_mem 52 (by decide +kernel) rfl
theorem tw_53 : (Jvm.Cond.fieldLink "java/util/AbstractList" (7 : Nat) "java/util/AbstractList" "modCount" "I") ∈ tb := tb_mem 53 (by decide +kernel) rfl
theorem tw_54 : (Jvm.Cond.fieldLink "java/util/ArrayList" (63 : Nat) "java/util/ArrayList" "modCount" "I") ∈ tb := tb_mem 54 (by decide +kernel) rfl
theorem tw_55 : (Jvm.Cond.sameField "java/util/ArrayList" "java/util/AbstractList" "modCount" "I") ∈ tb := tb_mem 55 (by decide +kernel) rfl
theorem tw_64 : (Jvm.Cond.fieldLink "BallastTrain$Text" (9 : Nat) "BallastTrain$Text" "bytes" "[I") ∈ tb := tb_mem 64 (by decide +kernel) rfl
theorem tw_65 : (Jvm.Cond.fieldLink "BallastTrain$Text" (15 : Nat) "BallastTrain$Text" "length" "I") ∈ tb := tb_mem 65 (by decide +kernel) rfl
theorem tw_66 : (Jvm.Cond.fieldLink "BallastTrain" (41 : Nat) "BallastTrain$Text" "length" "I") ∈ tb := tb_mem 66 (by decide +kernel) rfl
theorem tw_67 : (Jvm.Cond.fieldLink "BallastTrain$Text" (22 : Nat) "BallastTrain$Text" "orders" "Ljava/util/ArrayList;") ∈ tb := tb_mem 67 (by decide +kernel) rfl
theorem tw_68 : (Jvm.Cond.fieldLink "BallastTrain$Text" (26 : Nat) "BallastTrain$Text" "fault" "I") ∈ tb := tb_mem 68 (by decide +kernel) rfl
theorem tw_69 : (Jvm.Cond.fieldLink "BallastTrain$Text" (29 : Nat) "BallastTrain$Text" "at" "I") ∈ tb := tb_mem 69 (by decide +kernel) rfl
theorem tw_81 : (Jvm.Cond.classLink "BallastTrain" (16 : Nat) "BallastTrain$State") ∈ tb := tb_mem 81 (by decide +kernel) rfl
theorem tw_82 : (Jvm.Cond.instantiable "BallastTrain$State" (9 : Nat)) ∈ tb := tb_mem 82 (by decide +kernel) rfl
theorem tw_84 : (Jvm.Cond.instanceMethod ({ cls := "BallastTrain$State", name := "<init>", desc := "()V" } : Jvm.MethodName)) ∈ tb := tb_mem 84 (by decide +kernel) rfl
theorem tw_85 : (Jvm.Cond.code ({ cls := "BallastTrain$State", name := "<init>", desc := "()V" } : Jvm.MethodName) prog_4_method_1_code (1 : Nat) (Option.none : Option Jvm.ClassFile.FieldType)) ∈ tb := tb_mem 85 (by decide +kernel) rfl
theorem tw_86 : (Jvm.Cond.methodLink "BallastTrain$State" (3 : Nat) ({ cls := "java/lang/Object", name := "<init>", desc := "()V" } : Jvm.MethodName)) ∈ tb := tb_mem 86 (by decide +kernel) rfl
theorem tw_87 : (Jvm.Cond.classLink "BallastTrain$State" (15 : Nat) "BallastTrain$Track") ∈ tb := tb_mem 87 (by decide +kernel) rfl
theorem tw_88 : (Jvm.Cond.instantiable "BallastTrain$Track" (1 : Nat)) ∈ tb := tb_mem 88 (by decide +kernel) rfl
theorem tw_90 : (Jvm.Cond.instanceMethod ({ cls := "BallastTrain$Track", name := "<init>", desc := "()V" } : Jvm.MethodName)) ∈ tb := tb_mem 90 (by decide +kernel) rfl
theorem tw_91 : (Jvm.Cond.code ({ cls := "BallastTrain$Track", name := "<init>", desc := "()V" } : Jvm.MethodName) prog_6_method_1_code (1 : Nat) (Option.none : Option Jvm.ClassFile.FieldType)) ∈ tb := tb_mem 91 (by decide +kernel) rfl
theorem tw_92 : (Jvm.Cond.methodLink "BallastTrain$Track" (3 : Nat) ({ cls := "java/lang/Object", name := "<init>", desc := "()V" } : Jvm.MethodName)) ∈ tb := tb_mem 92 (by decide +kernel) rfl
theorem tw_93 : (Jvm.Cond.fieldLink "BallastTrain$Track" (9 : Nat) "BallastTrain$Track" "heights" "[I") ∈ tb := tb_mem 93 (by decide +kernel) rfl
theorem tw_94 : (Jvm.Cond.fieldLink "BallastTrain$State" (56 : Nat) "BallastTrain$Track" "heights" "[I") ∈ tb := tb_mem 94 (by decide +kernel) rfl
theorem tw_98 : (Jvm.Cond.classLink "BallastTrain$State" (22 : Nat) "BallastTrain$Train") ∈ tb := tb_mem 98 (by decide +kernel) rfl
theorem tw_99 : (Jvm.Cond.instantiable "BallastTrain$Train" (8 : Nat)) ∈ tb := tb_mem 99 (by decide +kernel) rfl
theorem tw_100 : (Jvm.Cond.methodLink "BallastTrain$State" (24 : Nat) ({ cls := "BallastTrain$Train", name := "<init>", desc := "()V" } : Jvm.MethodName)) ∈ tb := tb_mem 100 (by decide +kernel) rfl
theorem tw_101 : (Jvm.Cond.instanceMethod ({ cls := "BallastTrain$Train", name := "<init>", desc := "()V" } : Jvm.MethodName)) ∈ tb := tb_mem 101 (by decide +kernel) rfl
theorem tw_102 : (Jvm.Cond.code ({ cls := "BallastTrain$Train", name := "<init>", desc := "()V" } : Jvm.MethodName) prog_7_method_1_code (1 : Nat) (Option.none : Option Jvm.ClassFile.FieldType)) ∈ tb := tb_mem 102 (by decide +kernel) rfl
theorem tw_103 : (Jvm.Cond.methodLink "BallastTrain$Train" (3 : Nat) ({ cls := "java/lang/Object", name := "<init>", desc := "()V" } : Jvm.MethodName)) ∈ tb := tb_mem 103 (by decide +kernel) rfl
theorem tw_104 : (Jvm.Cond.methodLink "BallastTrain$Train" (37 : Nat) ({ cls := "java/util/Arrays", name := "fill", desc := "([II)V" } : Jvm.MethodName)) ∈ tb := tb_mem 104 (by decide +kernel) rfl
theorem tw_105 : (Jvm.Cond.static ({ cls := "java/util/Arrays", name := "fill", desc := "([II)V" } : Jvm.MethodName)) ∈ tb := tb_mem 105 (by decide +kernel) rfl
theorem tw_106 : (Jvm.Cond.code ({ cls := "java/util/Arrays", name := "fill", desc := "([II)V" } : Jvm.MethodName) prog_18_method_103_code (4 : Nat) (Option.none : Option Jvm.ClassFile.FieldType)) ∈ tb := tb_mem 106 (by decide +kernel) rfl
theorem tw_107 : (Jvm.Cond.fieldLink "BallastTrain$Train" (9 : Nat) "BallastTrain$Train" "wagons" "I") ∈ tb := tb_mem 107 (by decide +kernel) rfl
theorem tw_108 : (Jvm.Cond.fieldLink "BallastTrain$State" (90 : Nat) "BallastTrain$Train" "wagons" "I") ∈ tb := tb_mem 108 (by decide +kernel) rfl
theorem tw_109 : (Jvm.Cond.fieldLink "BallastTrain" (223 : Nat) "BallastTrain$Train" "wagons" "I") ∈ tb := tb_mem 109 (by decide +kernel) rfl
theorem tw_110 : (Jvm.Cond.fieldLink "BallastTrain$Train" (15 : Nat) "BallastTrain$Train" "place" "I") ∈ tb := tb_mem 110 (by decide +kernel) rfl
theorem tw_111 : (Jvm.Cond.fieldLink "BallastTrain$Order" (27 : Nat) "BallastTrain$Train" "place" "I") ∈ tb := tb_mem 111 (by decide +kernel) rfl
theorem tw_112 : (Jvm.Cond.fieldLink "BallastTrain" (136 : Nat) "BallastTrain$Train" "place" "I") ∈ tb := tb_mem 112 (by decide +kernel) rfl
theorem tw_113 : (Jvm.Cond.fieldLink "BallastTrain$Train" (18 : Nat) "BallastTrain$Train" "speed" "I") ∈ tb := tb_mem 113 (by decide +kernel) rfl
theorem tw_114 : (Jvm.Cond.fieldLink "BallastTrain" (85 : Nat) "BallastTrain$Train" "speed" "I") ∈ tb := tb_mem 114 (by decide +kernel) rfl
theorem tw_115 : (Jvm.Cond.fieldLink "BallastTrain$Train" (21 : Nat) "BallastTrain$Train" "wish" "I") ∈ tb := tb_mem 115 (by decide +kernel) rfl
theorem tw_116 : (Jvm.Cond.fieldLink "BallastTrain$Order" (40 : Nat) "BallastTrain$Train" "wish" "I") ∈ tb := tb_mem 116 (by decide +kernel) rfl
theorem tw_117 : (Jvm.Cond.fieldLink "BallastTrain" (109 : Nat) "BallastTrain$Train" "wish" "I") ∈ tb := tb_mem 117 (by decide +kernel) rfl
theorem tw_118 : (Jvm.Cond.fieldLink "BallastTrain$Train" (24 : Nat) "BallastTrain$Train" "load" "[I") ∈ tb := tb_mem 118 (by decide +kernel) rfl
theorem tw_119 : (Jvm.Cond.fieldLink "BallastTrain" (88 : Nat) "BallastTrain$Train" "load" "[I") ∈ tb := tb_mem 119 (by decide +kernel) rfl
theorem tw_120 : (Jvm.Cond.fieldLink "BallastTrain$Train" (28 : Nat) "BallastTrain$Train" "left" "[I") ∈ tb := tb_mem 120 (by decide +kernel) rfl
theorem tw_121 : (Jvm.Cond.fieldLink "BallastTrain" (174 : Nat) "BallastTrain$Train" "left" "[I") ∈ tb := tb_mem 121 (by decide +kernel) rfl
theorem tw_122 : (Jvm.Cond.fieldLink "BallastTrain$Train" (31 : Nat) "BallastTrain$Train" "level" "[I") ∈ tb := tb_mem 122 (by decide +kernel) rfl
theorem tw_123 : (Jvm.Cond.fieldLink "BallastTrain$Train" (34 : Nat) "BallastTrain$Train" "rest" "[I") ∈ tb := tb_mem 123 (by decide +kernel) rfl
theorem tw_141 : (Jvm.Cond.classLink "BallastTrain$State" (29 : Nat) "java/util/ArrayList") ∈ tb := tb_mem 141 (by decide +kernel) rfl
theorem tw_142 : (Jvm.Cond.methodLink "BallastTrain$State" (31 : Nat) ({ cls := "java/util/ArrayList", name := "<init>", desc := "()V" } : Jvm.MethodName)) ∈ tb := tb_mem 142 (by decide +kernel) rfl
theorem tw_143 : (Jvm.Cond.fieldLink "BallastTrain$State" (9 : Nat) "BallastTrain$State" "settings" "[I") ∈ tb := tb_mem 143 (by decide +kernel) rfl
theorem tw_144 : (Jvm.Cond.fieldLink "BallastTrain" (62 : Nat) "BallastTrain$State" "settings" "[I") ∈ tb := tb_mem 144 (by decide +kernel) rfl
theorem tw_145 : (Jvm.Cond.fieldLink "BallastTrain$State" (18 : Nat) "BallastTrain$State" "track" "LBallastTrain$Track;") ∈ tb := tb_mem 145 (by decide +kernel) rfl
theorem tw_146 : (Jvm.Cond.fieldLink "BallastTrain" (144 : Nat) "BallastTrain$State" "track" "LBallastTrain$Track;") ∈ tb := tb_mem 146 (by decide +kernel) rfl
theorem tw_147 : (Jvm.Cond.fieldLink "BallastTrain$State" (25 : Nat) "BallastTrain$State" "train" "LBallastTrain$Train;") ∈ tb := tb_mem 147 (by decide +kernel) rfl
theorem tw_148 : (Jvm.Cond.fieldLink "BallastTrain" (65 : Nat) "BallastTrain$State" "train" "LBallastTrain$Train;") ∈ tb := tb_mem 148 (by decide +kernel) rfl
theorem tw_149 : (Jvm.Cond.fieldLink "BallastTrain$State" (32 : Nat) "BallastTrain$State" "orders" "Ljava/util/ArrayList;") ∈ tb := tb_mem 149 (by decide +kernel) rfl
theorem tw_150 : (Jvm.Cond.fieldLink "BallastTrain" (112 : Nat) "BallastTrain$State" "orders" "Ljava/util/ArrayList;") ∈ tb := tb_mem 150 (by decide +kernel) rfl
theorem tw_151 : (Jvm.Cond.fieldLink "BallastTrain$State" (36 : Nat) "BallastTrain$State" "time" "I") ∈ tb := tb_mem 151 (by decide +kernel) rfl
theorem tw_152 : (Jvm.Cond.fieldLink "BallastTrain" (130 : Nat) "BallastTrain$State" "time" "I") ∈ tb := tb_mem 152 (by decide +kernel) rfl
theorem tw_153 : (Jvm.Cond.fieldLink "BallastTrain$State" (40 : Nat) "BallastTrain$State" "jams" "I") ∈ tb := tb_mem 153 (by decide +kernel) rfl
theorem tw_154 : (Jvm.Cond.fieldLink "BallastTrain" (226 : Nat) "BallastTrain$State" "jams" "I") ∈ tb := tb_mem 154 (by decide +kernel) rfl
theorem tw_155 : (Jvm.Cond.fieldLink "BallastTrain$State" (43 : Nat) "BallastTrain$State" "loaded" "I") ∈ tb := tb_mem 155 (by decide +kernel) rfl
theorem tw_156 : (Jvm.Cond.fieldLink "BallastTrain" (91 : Nat) "BallastTrain$State" "loaded" "I") ∈ tb := tb_mem 156 (by decide +kernel) rfl
theorem tw_157 : (Jvm.Cond.fieldLink "BallastTrain$State" (46 : Nat) "BallastTrain$State" "lost" "I") ∈ tb := tb_mem 157 (by decide +kernel) rfl
theorem tw_158 : (Jvm.Cond.fieldLink "BallastTrain" (230 : Nat) "BallastTrain$State" "lost" "I") ∈ tb := tb_mem 158 (by decide +kernel) rfl
theorem tw_159 : (Jvm.Cond.fieldLink "BallastTrain$State" (49 : Nat) "BallastTrain$State" "taken" "I") ∈ tb := tb_mem 159 (by decide +kernel) rfl
theorem tw_160 : (Jvm.Cond.fieldLink "BallastTrain" (79 : Nat) "BallastTrain$State" "taken" "I") ∈ tb := tb_mem 160 (by decide +kernel) rfl
theorem tw_180 : (Jvm.Cond.classLink "BallastTrain" (26 : Nat) "BallastTrain$History") ∈ tb := tb_mem 180 (by decide +kernel) rfl
theorem tw_181 : (Jvm.Cond.instantiable "BallastTrain$History" (3 : Nat)) ∈ tb := tb_mem 181 (by decide +kernel) rfl
theorem tw_182 : (Jvm.Cond.methodLink "BallastTrain" (28 : Nat) ({ cls := "BallastTrain$History", name := "<init>", desc := "()V" } : Jvm.MethodName)) ∈ tb := tb_mem 182 (by decide +kernel) rfl
theorem tw_183 : (Jvm.Cond.instanceMethod ({ cls := "BallastTrain$History", name := "<init>", desc := "()V" } : Jvm.MethodName)) ∈ tb := tb_mem 183 (by decide +kernel) rfl
theorem tw_184 : (Jvm.Cond.code ({ cls := "BallastTrain$History", name := "<init>", desc := "()V" } : Jvm.MethodName) prog_2_method_1_code (2 : Nat) (Option.none : Option Jvm.ClassFile.FieldType)) ∈ tb := tb_mem 184 (by decide +kernel) rfl
theorem tw_185 : (Jvm.Cond.methodLink "BallastTrain$History" (3 : Nat) ({ cls := "java/lang/Object", name := "<init>", desc := "()V" } : Jvm.MethodName)) ∈ tb := tb_mem 185 (by decide +kernel) rfl
theorem tw_186 : (Jvm.Cond.classLink "BallastTrain$History" (9 : Nat) "BallastTrain$State") ∈ tb := tb_mem 186 (by decide +kernel) rfl
theorem tw_189 : (Jvm.Cond.fieldLink "BallastTrain$History" (11 : Nat) "BallastTrain$History" "states" "[LBallastTrain$State;") ∈ tb := tb_mem 189 (by decide +kernel) rfl
theorem tw_190 : (Jvm.Cond.fieldLink "BallastTrain$History" (17 : Nat) "BallastTrain$History" "next" "I") ∈ tb := tb_mem 190 (by decide +kernel) rfl
theorem tw_191 : (Jvm.Cond.fieldLink "BallastTrain$History" (21 : Nat) "BallastTrain$History" "size" "I") ∈ tb := tb_mem 191 (by decide +kernel) rfl
theorem tw_192 : (Jvm.Cond.fieldLink "BallastTrain" (159 : Nat) "BallastTrain$History" "size" "I") ∈ tb := tb_mem 192 (by decide +kernel) rfl
theorem tw_200 : (Jvm.Cond.fieldLink "BallastTrain" (10 : Nat) "BallastTrain" "text" "LBallastTrain$Text;") ∈ tb := tb_mem 200 (by decide +kernel) rfl
theorem tw_201 : (Jvm.Cond.fieldLink "BallastTrain" (19 : Nat) "BallastTrain" "now" "LBallastTrain$State;") ∈ tb := tb_mem 201 (by decide +kernel) rfl
theorem tw_202 : (Jvm.Cond.fieldLink "BallastTrain" (23 : Nat) "BallastTrain" "ahead" "LBallastTrain$State;") ∈ tb := tb_mem 202 (by decide +kernel) rfl
theorem tw_203 : (Jvm.Cond.fieldLink "BallastTrain" (29 : Nat) "BallastTrain" "history" "LBallastTrain$History;") ∈ tb := tb_mem 203 (by decide +kernel) rfl
theorem tw_213 : (Jvm.Cond.methodLink "BallastTrainLaw" (39 : Nat) ({ cls := "BallastTrain", name := "load", desc := "(II)I" } : Jvm.MethodName)) ∈ tb := tb_mem 213 (by decide +kernel) rfl
theorem tw_214 : (Jvm.Cond.instanceMethod ({ cls := "BallastTrain", name := "load", desc := "(II)I" } : Jvm.MethodName)) ∈ tb := tb_mem 214 (by decide +kernel) rfl
theorem tw_215 : (Jvm.Cond.selects "BallastTrain" ({ cls := "BallastTrain", name := "load", desc := "(II)I" } : Jvm.MethodName) ({ cls := "BallastTrain", name := "load", desc := "(II)I" } : Jvm.MethodName)) ∈ tb := tb_mem 215 (by decide +kernel) rfl
theorem tw_216 : (Jvm.Cond.code ({ cls := "BallastTrain", name := "load", desc := "(II)I" } : Jvm.MethodName) prog_1_method_7_code (3 : Nat) (Option.some Jvm.ClassFile.FieldType.int)) ∈ tb := tb_mem 216 (by decide +kernel) rfl
theorem tw_217 : (Jvm.Cond.methodLink "BallastTrain" (82 : Nat) ({ cls := "BallastTrain$Train", name := "hasWagon", desc := "(I)Z" } : Jvm.MethodName)) ∈ tb := tb_mem 217 (by decide +kernel) rfl
theorem tw_218 : (Jvm.Cond.instanceMethod ({ cls := "BallastTrain$Train", name := "hasWagon", desc := "(I)Z" } : Jvm.MethodName)) ∈ tb := tb_mem 218 (by decide +kernel) rfl
theorem tw_219 : (Jvm.Cond.selects "BallastTrain$Train" ({ cls := "BallastTrain$Train", name := "hasWagon", desc := "(I)Z" } : Jvm.MethodName) ({ cls := "BallastTrain$Train", name := "hasWagon", desc := "(I)Z" } : Jvm.MethodName)) ∈ tb := tb_mem 219 (by decide +kernel) rfl
theorem tw_220 : (Jvm.Cond.code ({ cls := "BallastTrain$Train", name := "hasWagon", desc := "(I)Z" } : Jvm.MethodName) prog_7_method_4_code (2 : Nat) (Option.some Jvm.ClassFile.FieldType.boolean)) ∈ tb := tb_mem 220 (by decide +kernel) rfl
theorem tw_221 : (Jvm.Cond.methodLink "BallastTrain" (33 : Nat) ({ cls := "BallastTrain", name := "isWithin", desc := "(III)Z" } : Jvm.MethodName)) ∈ tb := tb_mem 221 (by decide +kernel) rfl
theorem tw_222 : (Jvm.Cond.static ({ cls := "BallastTrain", name := "isWithin", desc := "(III)Z" } : Jvm.MethodName)) ∈ tb := tb_mem 222 (by decide +kernel) rfl
theorem tw_223 : (Jvm.Cond.code ({ cls := "BallastTrain", name := "isWithin", desc := "(III)Z" } : Jvm.MethodName) prog_1_method_31_code (3 : Nat) (Option.some Jvm.ClassFile.FieldType.boolean)) ∈ tb := tb_mem 223 (by decide +kernel) rfl
theorem tw_224 : (Jvm.Cond.methodLink "BallastTrain" (58 : Nat) ({ cls := "BallastTrain$History", name := "keep", desc := "(LBallastTrain$State;)V" } : Jvm.MethodName)) ∈ tb := tb_mem 224 (by decide +kernel) rfl
theorem tw_225 : (Jvm.Cond.instanceMethod ({ cls := "BallastTrain$History", name := "keep", desc := "(LBallastTrain$State;)V" } : Jvm.MethodName)) ∈ tb := tb_mem 225 (by decide +kernel) rfl
theorem tw_226 : (Jvm.Cond.selects "BallastTrain$History" ({ cls := "BallastTrain$History", name := "keep", desc := "(LBallastTrain$State;)V" } : Jvm.MethodName) ({ cls := "BallastTrain$History", name := "keep", desc := "(LBallastTrain$State;)V" } : Jvm.MethodName)) ∈ tb := tb_mem 226 (by decide +kernel) rfl
theorem tw_227 : (Jvm.Cond.code ({ cls := "BallastTrain$History", name := "keep", desc := "(LBallastTrain$State;)V" } : Jvm.MethodName) prog_2_method_2_code (2 : Nat) (Option.none : Option Jvm.ClassFile.FieldType)) ∈ tb := tb_mem 227 (by decide +kernel) rfl
theorem tw_228 : (Jvm.Cond.methodLink "BallastTrain$History" (25 : Nat) ({ cls := "java/lang/Math", name := "floorMod", desc := "(II)I" } : Jvm.MethodName)) ∈ tb := tb_mem 228 (by decide +kernel) rfl
theorem tw_229 : (Jvm.Cond.static ({ cls := "java/lang/Math", name := "floorMod", desc := "(II)I" } : Jvm.MethodName)) ∈ tb := tb_mem 229 (by decide +kernel) rfl
theorem tw_230 : (Jvm.Cond.code ({ cls := "java/lang/Math", name := "floorMod", desc := "(II)I" } : Jvm.MethodName) prog_13_method_50_code (3 : Nat) (Option.some Jvm.ClassFile.FieldType.int)) ∈ tb := tb_mem 230 (by decide +kernel) rfl
theorem tw_231 : (Jvm.Cond.methodLink "BallastTrain$History" (31 : Nat) ({ cls := "BallastTrain$State", name := "copyFrom", desc := "(LBallastTrain$State;)V" } : Jvm.MethodName)) ∈ tb := tb_mem 231 (by decide +kernel) rfl
theorem tw_232 : (Jvm.Cond.instanceMethod ({ cls := "BallastTrain$State", name := "copyFrom", desc := "(LBallastTrain$State;)V" } : Jvm.MethodName)) ∈ tb := tb_mem 232 (by decide +kernel) rfl
theorem tw_233 : (Jvm.Cond.selects "BallastTrain$State" ({ cls := "BallastTrain$State", name := "copyFrom", desc := "(LBallastTrain$State;)V" } : Jvm.MethodName) ({ cls := "BallastTrain$State", name := "copyFrom", desc := "(LBallastTrain$State;)V" } : Jvm.MethodName)) ∈ tb := tb_mem 233 (by decide +kernel) rfl
theorem tw_234 : (Jvm.Cond.code ({ cls := "BallastTrain$State", name := "copyFrom", desc := "(LBallastTrain$State;)V" } : Jvm.MethodName) prog_4_method_2_code (2 : Nat) (Option.none : Option Jvm.ClassFile.FieldType)) ∈ tb := tb_mem 234 (by decide +kernel) rfl
theorem tw_236 : (Jvm.Cond.static ({ cls := "BallastTrain", name := "copyRow", desc := "([I[I)V" } : Jvm.MethodName)) ∈ tb := tb_mem 236 (by decide +kernel) rfl
theorem tw_237 : (Jvm.Cond.code ({ cls := "BallastTrain", name := "copyRow", desc := "([I[I)V" } : Jvm.MethodName) prog_1_method_33_code (2 : Nat) (Option.none : Option Jvm.ClassFile.FieldType)) ∈ tb := tb_mem 237 (by decide +kernel) rfl
theorem tw_238 : (Jvm.Cond.methodLink "BallastTrain" (151 : Nat) ({ cls := "java/lang/Math", name := "min", desc := "(II)I" } : Jvm.MethodName)) ∈ tb := tb_mem 238 (by decide +kernel) rfl
theorem tw_239 : (Jvm.Cond.static ({ cls := "java/lang/Math", name := "min", desc := "(II)I" } : Jvm.MethodName)) ∈ tb := tb_mem 239 (by decide +kernel) rfl
theorem tw_241 : (Jvm.Cond.methodLink "BallastTrain" (279 : Nat) ({ cls := "java/lang/System", name := "arraycopy", desc := "(Ljava/lang/Object;ILjava/lang/Object;II)V" } : Jvm.MethodName)) ∈ tb := tb_mem 241 (by decide +kernel) rfl
theorem tw_242 : (Jvm.Cond.static ({ cls := "java/lang/System", name := "arraycopy", desc := "(Ljava/lang/Object;ILjava/lang/Object;II)V" } : Jvm.MethodName)) ∈ tb := tb_mem 242 (by decide +kernel) rfl
theorem tw_243 : (Jvm.Cond.native ({ cls := "java/lang/System", name := "arraycopy", desc := "(Ljava/lang/Object;ILjava/lang/Object;II)V" } : Jvm.MethodName)) ∈ tb := tb_mem 243 (by decide +kernel) rfl
theorem tw_244 : (Jvm.Cond.methodLink "BallastTrain$State" (59 : Nat) ({ cls := "BallastTrain$Train", name := "copyFrom", desc := "(LBallastTrain$Train;)V" } : Jvm.MethodName)) ∈ tb := tb_mem 244 (by decide +kernel) rfl
theorem tw_245 : (Jvm.Cond.instanceMethod ({ cls := "BallastTrain$Train", name := "copyFrom", desc := "(LBallastTrain$Train;)V" } : Jvm.MethodName)) ∈ tb := tb_mem 245 (by decide +kernel) rfl
theorem tw_246 : (Jvm.Cond.selects "BallastTrain$Train" ({ cls := "BallastTrain$Train", name := "copyFrom", desc := "(LBallastTrain$Train;)V" } : Jvm.MethodName) ({ cls := "BallastTrain$Train", name := "copyFrom", desc := "(LBallastTrain$Train;)V" } : Jvm.MethodName)) ∈ tb := tb_mem 246 (by decide +kernel) rfl
theorem tw_247 : (Jvm.Cond.code ({ cls := "BallastTrain$Train", name := "copyFrom", desc := "(LBallastTrain$Train;)V" } : Jvm.MethodName) prog_7_method_3_code (2 : Nat) (Option.none : Option Jvm.ClassFile.FieldType)) ∈ tb := tb_mem 247 (by decide +kernel) rfl
theorem tw_249 : (Jvm.Cond.methodLink "BallastTrain$State" (63 : Nat) ({ cls := "java/util/ArrayList", name := "clear", desc := "()V" } : Jvm.MethodName)) ∈ tb := tb_mem 249 (by decide +kernel) rfl
theorem tw_250 : (Jvm.Cond.instanceMethod ({ cls := "java/util/ArrayList", name := "clear", desc := "()V" } : Jvm.MethodName)) ∈ tb := tb_mem 250 (by decide +kernel) rfl
theorem tw_251 : (Jvm.Cond.selects "java/util/ArrayList" ({ cls := "java/util/ArrayList", name := "clear", desc := "()V" } : Jvm.MethodName) ({ cls := "java/util/ArrayList", name := "clear", desc := "()V" } : Jvm.MethodName)) ∈ tb := tb_mem 251 (by decide +kernel) rfl
theorem tw_252 : (Jvm.Cond.code ({ cls := "java/util/ArrayList", name := "clear", desc := "()V" } : Jvm.MethodName) prog_17_method_40_code (4 : Nat) (Option.none : Option Jvm.ClassFile.FieldType)) ∈ tb := tb_mem 252 (by decide +kernel) rfl
theorem tw_254 : (Jvm.Cond.static ({ cls := "BallastTrain", name := "addAll", desc := "(Ljava/util/ArrayList;Ljava/util/ArrayList;)V" } : Jvm.MethodName)) ∈ tb := tb_mem 254 (by decide +kernel) rfl
theorem tw_255 : (Jvm.Cond.code ({ cls := "BallastTrain", name := "addAll", desc := "(Ljava/util/ArrayList;Ljava/util/ArrayList;)V" } : Jvm.MethodName) prog_1_method_34_code (3 : Nat) (Option.none : Option Jvm.ClassFile.FieldType)) ∈ tb := tb_mem 255 (by decide +kernel) rfl
theorem tw_256 : (Jvm.Cond.methodLink "BallastTrain" (116 : Nat) ({ cls := "java/util/ArrayList", name := "size", desc := "()I" } : Jvm.MethodName)) ∈ tb := tb_mem 256 (by decide +kernel) rfl
theorem tw_257 : (Jvm.Cond.instanceMethod ({ cls := "java/util/ArrayList", name := "size", desc := "()I" } : Jvm.MethodName)) ∈ tb := tb_mem 257 (by decide +kernel) rfl
theorem tw_258 : (Jvm.Cond.selects "java/util/ArrayList" ({ cls := "java/util/ArrayList", name := "size", desc := "()I" } : Jvm.MethodName) ({ cls := "java/util/ArrayList", name := "size", desc := "()I" } : Jvm.MethodName)) ∈ tb := tb_mem 258 (by decide +kernel) rfl
theorem tw_259 : (Jvm.Cond.code ({ cls := "java/util/ArrayList", name := "size", desc := "()I" } : Jvm.MethodName) prog_17_method_8_code (1 : Nat) (Option.some Jvm.ClassFile.FieldType.int)) ∈ tb := tb_mem 259 (by decide +kernel) rfl
theorem tw_260 : (Jvm.Cond.methodLink "BallastTrain" (203 : Nat) ({ cls := "java/util/ArrayList", name := "get", desc := "(I)Ljava/lang/Object;" } : Jvm.MethodName)) ∈ tb := tb_mem 260 (by decide +kernel) rfl
theorem tw_261 : (Jvm.Cond.instanceMethod ({ cls := "java/util/ArrayList", name := "get", desc := "(I)Ljava/lang/Object;" } : Jvm.MethodName)) ∈ tb := tb_mem 261 (by decide +kernel) rfl
theorem tw_262 : (Jvm.Cond.selects "java/util/ArrayList" ({ cls := "java/util/ArrayList", name := "get", desc := "(I)Ljava/lang/Object;" } : Jvm.MethodName) ({ cls := "java/util/ArrayList", name := "get", desc := "(I)Ljava/lang/Object;" } : Jvm.MethodName)) ∈ tb := tb_mem 262 (by decide +kernel) rfl
theorem tw_263 : (Jvm.Cond.code ({ cls := "java/util/ArrayList", name := "get", desc := "(I)Ljava/lang/Object;" } : Jvm.MethodName) prog_17_method_20_code (2 : Nat) (Option.some (Jvm.ClassFile.FieldType.object "java/lang/Object"))) ∈ tb := tb_mem 263 (by decide +kernel) rfl
theorem tw_264 : (Jvm.Cond.methodLink "java/util/ArrayList" (118 : Nat) ({ cls := "java/util/Objects", name := "checkIndex", desc := "(II)I" } : Jvm.MethodName)) ∈ tb := tb_mem 264 (by decide +kernel) rfl
theorem tw_265 : (Jvm.Cond.static ({ cls := "java/util/Objects", name := "checkIndex", desc := "(II)I" } : Jvm.MethodName)) ∈ tb := tb_mem 265 (by decide +kernel) rfl
theorem tw_266 : (Jvm.Cond.code ({ cls := "java/util/Objects", name := "checkIndex", desc := "(II)I" } : Jvm.MethodName) prog_21_method_17_code (2 : Nat) (Option.some Jvm.ClassFile.FieldType.int)) ∈ tb := tb_mem 266 (by decide +kernel) rfl
theorem tw_267 : (Jvm.Cond.methodLink "java/util/Objects" (105 : Nat) ({ cls := "jdk/internal/util/Preconditions", name := "checkIndex", desc := "(IILjava/util/function/BiFunction;)I" } : Jvm.MethodName)) ∈ tb := tb_mem 267 (by decide +kernel) rfl
theorem tw_268 : (Jvm.Cond.static ({ cls := "jdk/internal/util/Preconditions", name := "checkIndex", desc := "(IILjava/util/function/BiFunction;)I" } : Jvm.MethodName)) ∈ tb := tb_mem 268 (by decide +kernel) rfl
theorem tw_269 : (Jvm.Cond.code ({ cls := "jdk/internal/util/Preconditions", name := "checkIndex", desc := "(IILjava/util/function/BiFunction;)I" } : Jvm.MethodName) prog_25_method_11_code (3 : Nat) (Option.some Jvm.ClassFile.FieldType.int)) ∈ tb := tb_mem 269 (by decide +kernel) rfl
theorem tw_270 : (Jvm.Cond.methodLink "java/util/ArrayList" (123 : Nat) ({ cls := "java/util/ArrayList", name := "elementData", desc := "(I)Ljava/lang/Object;" } : Jvm.MethodName)) ∈ tb := tb_mem 270 (by decide +kernel) rfl
theorem tw_271 : (Jvm.Cond.instanceMethod ({ cls := "java/util/ArrayList", name := "elementData", desc := "(I)Ljava/lang/Object;" } : Jvm.MethodName)) ∈ tb := tb_mem 271 (by decide +kernel) rfl
theorem tw_272 : (Jvm.Cond.selects "java/util/ArrayList" ({ cls := "java/util/ArrayList", name := "elementData", desc := "(I)Ljava/lang/Object;" } : Jvm.MethodName) ({ cls := "java/util/ArrayList", name := "elementData", desc := "(I)Ljava/lang/Object;" } : Jvm.MethodName)) ∈ tb := tb_mem 272 (by decide +kernel) rfl
theorem tw_273 : (Jvm.Cond.code ({ cls := "java/util/ArrayList", name := "elementData", desc := "(I)Ljava/lang/Object;" } : Jvm.MethodName) prog_17_method_18_code (2 : Nat) (Option.some (Jvm.ClassFile.FieldType.object "java/lang/Object"))) ∈ tb := tb_mem 273 (by decide +kernel) rfl
theorem tw_274 : (Jvm.Cond.classLink "BallastTrain" (206 : Nat) "BallastTrain$Order") ∈ tb := tb_mem 274 (by decide +kernel) rfl
theorem tw_275 : (Jvm.Cond.methodLink "BallastTrain" (285 : Nat) ({ cls := "java/util/ArrayList", name := "add", desc := "(Ljava/lang/Object;)Z" } : Jvm.MethodName)) ∈ tb := tb_mem 275 (by decide +kernel) rfl
theorem tw_276 : (Jvm.Cond.instanceMethod ({ cls := "java/util/ArrayList", name := "add", desc := "(Ljava/lang/Object;)Z" } : Jvm.MethodName)) ∈ tb := tb_mem 276 (by decide +kernel) rfl
theorem tw_277 : (Jvm.Cond.selects "java/util/ArrayList" ({ cls := "java/util/ArrayList", name := "add", desc := "(Ljava/lang/Object;)Z" } : Jvm.MethodName) ({ cls := "java/util/ArrayList", name := "add", desc := "(Ljava/lang/Object;)Z" } : Jvm.MethodName)) ∈ tb := tb_mem 277 (by decide +kernel) rfl
theorem tw_278 : (Jvm.Cond.code ({ cls := "java/util/ArrayList", name := "add", desc := "(Ljava/lang/Object;)Z" } : Jvm.MethodName) prog_17_method_25_code (2 : Nat) (Option.some Jvm.ClassFile.FieldType.boolean)) ∈ tb := tb_mem 278 (by decide +kernel) rfl
theorem tw_279 : (Jvm.Cond.methodLink "java/util/ArrayList" (131 : Nat) ({ cls := "java/util/ArrayList", name := "add", desc := "(Ljava/lang/Object;[Ljava/lang/Object;I)V" } : Jvm.MethodName)) ∈ tb := tb_mem 279 (by decide +kernel) rfl
theorem tw_281 : (Jvm.Cond.instanceMethod ({ cls := "java/util/ArrayList", name := "add", desc := "(Ljava/lang/Object;[Ljava/lang/Object;I)V" } : Jvm.MethodName)) ∈ tb := tb_mem 281 (by decide +kernel) rfl
theorem tw_282 : (Jvm.Cond.code ({ cls := "java/util/ArrayList", name := "add", desc := "(Ljava/lang/Object;[Ljava/lang/Object;I)V" } : Jvm.MethodName) prog_17_method_24_code (4 : Nat) (Option.none : Option Jvm.ClassFile.FieldType)) ∈ tb := tb_mem 282 (by decide +kernel) rfl
theorem tw_283 : (Jvm.Cond.methodLink "java/util/ArrayList" (129 : Nat) ({ cls := "java/util/ArrayList", name := "grow", desc := "()[Ljava/lang/Object;" } : Jvm.MethodName)) ∈ tb := tb_mem 283 (by decide +kernel) rfl
theorem tw_285 : (Jvm.Cond.instanceMethod ({ cls := "java/util/ArrayList", name := "grow", desc := "()[Ljava/lang/Object;" } : Jvm.MethodName)) ∈ tb := tb_mem 285 (by decide +kernel) rfl
theorem tw_286 : (Jvm.Cond.code ({ cls := "java/util/ArrayList", name := "grow", desc := "()[Ljava/lang/Object;" } : Jvm.MethodName) prog_17_method_7_code (1 : Nat) (Option.some (Jvm.ClassFile.FieldType.array (Jvm.ClassFile.FieldType.object "java/lang/Object")))) ∈ tb := tb_mem 286 (by decide +kernel) rfl
theorem tw_287 : (Jvm.Cond.methodLink "java/util/ArrayList" (69 : Nat) ({ cls := "java/util/ArrayList", name := "grow", desc := "(I)[Ljava/lang/Object;" } : Jvm.MethodName)) ∈ tb := tb_mem 287 (by decide +kernel) rfl
theorem tw_289 : (Jvm.Cond.instanceMethod ({ cls := "java/util/ArrayList", name := "grow", desc := "(I)[Ljava/lang/Object;" } : Jvm.MethodName)) ∈ tb := tb_mem 289 (by decide +kernel) rfl
theorem tw_290 : (Jvm.Cond.code ({ cls := "java/util/ArrayList", name := "grow", desc := "(I)[Ljava/lang/Object;" } : Jvm.MethodName) prog_17_method_6_code (4 : Nat) (Option.some (Jvm.ClassFile.FieldType.array (Jvm.ClassFile.FieldType.object "java/lang/Object")))) ∈ tb := tb_mem 290 (by decide +kernel) rfl
theorem tw_291 : (Jvm.Cond.methodLink "java/util/ArrayList" (73 : Nat) ({ cls := "jdk/internal/util/ArraysSupport", name := "newLength", desc := "(III)I" } : Jvm.MethodName)) ∈ tb := tb_mem 291 (by decide +kernel) rfl
theorem tw_292 : (Jvm.Cond.static ({ cls := "jdk/internal/util/ArraysSupport", name := "newLength", desc := "(III)I" } : Jvm.MethodName)) ∈ tb := tb_mem 292 (by decide +kernel) rfl
theorem tw_293 : (Jvm.Cond.code ({ cls := "jdk/internal/util/ArraysSupport", name := "newLength", desc := "(III)I" } : Jvm.MethodName) prog_24_method_27_code (4 : Nat) (Option.some Jvm.ClassFile.FieldType.int)) ∈ tb := tb_mem 293 (by decide +kernel) rfl
theorem tw_294 : (Jvm.Cond.methodLink "jdk/internal/util/ArraysSupport" (194 : Nat) ({ cls := "java/lang/Math", name := "max", desc := "(II)I" } : Jvm.MethodName)) ∈ tb := tb_mem 294 (by decide +kernel) rfl
theorem tw_295 : (Jvm.Cond.static ({ cls := "java/lang/Math", name := "max", desc := "(II)I" } : Jvm.MethodName)) ∈ tb := tb_mem 295 (by decide +kernel) rfl
theorem tw_297 : (Jvm.Cond.constant "jdk/internal/util/ArraysSupport" (200 : Nat) (2147483639 : Int32)) ∈ tb := tb_mem 297 (by decide +kernel) rfl
theorem tw_298 : (Jvm.Cond.methodLink "jdk/internal/util/ArraysSupport" (201 : Nat) ({ cls := "jdk/internal/util/ArraysSupport", name := "hugeLength", desc := "(II)I" } : Jvm.MethodName)) ∈ tb := tb_mem 298 (by decide +kernel) rfl
theorem tw_299 : (Jvm.Cond.static ({ cls := "jdk/internal/util/ArraysSupport", name := "hugeLength", desc := "(II)I" } : Jvm.MethodName)) ∈ tb := tb_mem 299 (by decide +kernel) rfl
theorem tw_300 : (Jvm.Cond.code ({ cls := "jdk/internal/util/ArraysSupport", name := "hugeLength", desc := "(II)I" } : Jvm.MethodName) prog_24_method_28_code (3 : Nat) (Option.some Jvm.ClassFile.FieldType.int)) ∈ tb := tb_mem 300 (by decide +kernel) rfl
theorem tw_301 : (Jvm.Cond.methodLink "java/util/ArrayList" (66 : Nat) ({ cls := "java/util/Arrays", name := "copyOf", desc := "([Ljava/lang/Object;I)[Ljava/lang/Object;" } : Jvm.MethodName)) ∈ tb := tb_mem 301 (by decide +kernel) rfl
theorem tw_302 : (Jvm.Cond.static ({ cls := "java/util/Arrays", name := "copyOf", desc := "([Ljava/lang/Object;I)[Ljava/lang/Object;" } : Jvm.MethodName)) ∈ tb := tb_mem 302 (by decide +kernel) rfl
theorem tw_303 : (Jvm.Cond.code ({ cls := "java/util/Arrays", name := "copyOf", desc := "([Ljava/lang/Object;I)[Ljava/lang/Object;" } : Jvm.MethodName) prog_18_method_119_code (2 : Nat) (Option.some (Jvm.ClassFile.FieldType.array (Jvm.ClassFile.FieldType.object "java/lang/Object")))) ∈ tb := tb_mem 303 (by decide +kernel) rfl
theorem tw_304 : (Jvm.Cond.methodLink "java/util/Arrays" (86 : Nat) ({ cls := "java/lang/Object", name := "getClass", desc := "()Ljava/lang/Class;" } : Jvm.MethodName)) ∈ tb := tb_mem 304 (by decide +kernel) rfl
theorem tw_305 : (Jvm.Cond.instanceMethod ({ cls := "java/lang/Object", name := "getClass", desc := "()Ljava/lang/Class;" } : Jvm.MethodName)) ∈ tb := tb_mem 305 (by decide +kernel) rfl
theorem tw_314 : (Jvm.Cond.native ({ cls := "java/lang/Object", name := "getClass", desc := "()Ljava/lang/Class;" } : Jvm.MethodName)) ∈ tb := tb_mem 314 (by decide +kernel) rfl
theorem tw_315 : (Jvm.Cond.methodLink "java/util/Arrays" (300 : Nat) ({ cls := "java/util/Arrays", name := "copyOf", desc := "([Ljava/lang/Object;ILjava/lang/Class;)[Ljava/lang/Object;" } : Jvm.MethodName)) ∈ tb := tb_mem 315 (by decide +kernel) rfl
theorem tw_316 : (Jvm.Cond.static ({ cls := "java/util/Arrays", name := "copyOf", desc := "([Ljava/lang/Object;ILjava/lang/Class;)[Ljava/lang/Object;" } : Jvm.MethodName)) ∈ tb := tb_mem 316 (by decide +kernel) rfl
theorem tw_317 : (Jvm.Cond.code ({ cls := "java/util/Arrays", name := "copyOf", desc := "([Ljava/lang/Object;ILjava/lang/Class;)[Ljava/lang/Object;" } : Jvm.MethodName) prog_18_method_120_code (4 : Nat) (Option.some (Jvm.ClassFile.FieldType.array (Jvm.ClassFile.FieldType.object "java/lang/Object")))) ∈ tb := tb_mem 317 (by decide +kernel) rfl
theorem tw_318 : (Jvm.Cond.classLink "java/util/Arrays" (110 : Nat) "[Ljava/lang/Object;") ∈ tb := tb_mem 318 (by decide +kernel) rfl
theorem tw_320 : (Jvm.Cond.classLink "java/util/Arrays" (2 : Nat) "java/lang/Object") ∈ tb := tb_mem 320 (by decide +kernel) rfl
theorem tw_321 : (Jvm.Cond.methodLink "java/util/Arrays" (304 : Nat) ({ cls := "java/lang/Math", name := "min", desc := "(II)I" } : Jvm.MethodName)) ∈ tb := tb_mem 321 (by decide +kernel) rfl
theorem tw_322 : (Jvm.Cond.methodLink "java/util/Arrays" (150 : Nat) ({ cls := "java/lang/System", name := "arraycopy", desc := "(Ljava/lang/Object;ILjava/lang/Object;II)V" } : Jvm.MethodName)) ∈ tb := tb_mem 322 (by decide +kernel) rfl
theorem tw_323 : (Jvm.Cond.methodLink "java/util/ArrayList" (79 : Nat) ({ cls := "java/lang/Math", name := "max", desc := "(II)I" } : Jvm.MethodName)) ∈ tb := tb_mem 323 (by decide +kernel) rfl
theorem tw_324 : (Jvm.Cond.classLink "java/util/ArrayList" (7 : Nat) "java/lang/Object") ∈ tb := tb_mem 324 (by decide +kernel) rfl
theorem tw_325 : (Jvm.Cond.methodLink "BallastTrain$History" (35 : Nat) ({ cls := "java/lang/Math", name := "min", desc := "(II)I" } : Jvm.MethodName)) ∈ tb := tb_mem 325 (by decide +kernel) rfl
theorem tw_326 : (Jvm.Cond.methodLink "BallastTrainLaw" (42 : Nat) ({ cls := "BallastTrain", name := "door", desc := "(III)I" } : Jvm.MethodName)) ∈ tb := tb_mem 326 (by decide +kernel) rfl
theorem tw_327 : (Jvm.Cond.instanceMethod ({ cls := "BallastTrain", name := "door", desc := "(III)I" } : Jvm.MethodName)) ∈ tb := tb_mem 327 (by decide +kernel) rfl
theorem tw_328 : (Jvm.Cond.selects "BallastTrain" ({ cls := "BallastTrain", name := "door", desc := "(III)I" } : Jvm.MethodName) ({ cls := "BallastTrain", name := "door", desc := "(III)I" } : Jvm.MethodName)) ∈ tb := tb_mem 328 (by decide +kernel) rfl
theorem tw_329 : (Jvm.Cond.code ({ cls := "BallastTrain", name := "door", desc := "(III)I" } : Jvm.MethodName) prog_1_method_8_code (5 : Nat) (Option.some Jvm.ClassFile.FieldType.int)) ∈ tb := tb_mem 329 (by decide +kernel) rfl
theorem tw_330 : (Jvm.Cond.methodLink "BallastTrain" (94 : Nat) ({ cls := "BallastTrain$Train", name := "hasDoor", desc := "(II)Z" } : Jvm.MethodName)) ∈ tb := tb_mem 330 (by decide +kernel) rfl
theorem tw_331 : (Jvm.Cond.instanceMethod ({ cls := "BallastTrain$Train", name := "hasDoor", desc := "(II)Z" } : Jvm.MethodName)) ∈ tb := tb_mem 331 (by decide +kernel) rfl
theorem tw_332 : (Jvm.Cond.selects "BallastTrain$Train" ({ cls := "BallastTrain$Train", name := "hasDoor", desc := "(II)Z" } : Jvm.MethodName) ({ cls := "BallastTrain$Train", name := "hasDoor", desc := "(II)Z" } : Jvm.MethodName)) ∈ tb := tb_mem 332 (by decide +kernel) rfl
theorem tw_333 : (Jvm.Cond.code ({ cls := "BallastTrain$Train", name := "hasDoor", desc := "(II)Z" } : Jvm.MethodName) prog_7_method_5_code (3 : Nat) (Option.some Jvm.ClassFile.FieldType.boolean)) ∈ tb := tb_mem 333 (by decide +kernel) rfl
theorem tw_334 : (Jvm.Cond.methodLink "BallastTrain" (98 : Nat) ({ cls := "BallastTrain$Train", name := "levelOf", desc := "(II)I" } : Jvm.MethodName)) ∈ tb := tb_mem 334 (by decide +kernel) rfl
theorem tw_335 : (Jvm.Cond.instanceMethod ({ cls := "BallastTrain$Train", name := "levelOf", desc := "(II)I" } : Jvm.MethodName)) ∈ tb := tb_mem 335 (by decide +kernel) rfl
theorem tw_336 : (Jvm.Cond.selects "BallastTrain$Train" ({ cls := "BallastTrain$Train", name := "levelOf", desc := "(II)I" } : Jvm.MethodName) ({ cls := "BallastTrain$Train", name := "levelOf", desc := "(II)I" } : Jvm.MethodName)) ∈ tb := tb_mem 336 (by decide +kernel) rfl
theorem tw_337 : (Jvm.Cond.code ({ cls := "BallastTrain$Train", name := "levelOf", desc := "(II)I" } : Jvm.MethodName) prog_7_method_6_code (3 : Nat) (Option.some Jvm.ClassFile.FieldType.int)) ∈ tb := tb_mem 337 (by decide +kernel) rfl
theorem tw_338 : (Jvm.Cond.methodLink "BallastTrain$Train" (47 : Nat) ({ cls := "BallastTrain$Train", name := "hasDoor", desc := "(II)Z" } : Jvm.MethodName)) ∈ tb := tb_mem 338 (by decide +kernel) rfl
theorem tw_339 : (Jvm.Cond.methodLink "BallastTrain" (102 : Nat) ({ cls := "BallastTrain$Train", name := "closeDoor", desc := "(III)V" } : Jvm.MethodName)) ∈ tb := tb_mem 339 (by decide +kernel) rfl
theorem tw_340 : (Jvm.Cond.instanceMethod ({ cls := "BallastTrain$Train", name := "closeDoor", desc := "(III)V" } : Jvm.MethodName)) ∈ tb := tb_mem 340 (by decide +kernel) rfl
theorem tw_341 : (Jvm.Cond.selects "BallastTrain$Train" ({ cls := "BallastTrain$Train", name := "closeDoor", desc := "(III)V" } : Jvm.MethodName) ({ cls := "BallastTrain$Train", name := "closeDoor", desc := "(III)V" } : Jvm.MethodName)) ∈ tb := tb_mem 341 (by decide +kernel) rfl
theorem tw_342 : (Jvm.Cond.code ({ cls := "BallastTrain$Train", name := "closeDoor", desc := "(III)V" } : Jvm.MethodName) prog_7_method_13_code (4 : Nat) (Option.none : Option Jvm.ClassFile.FieldType)) ∈ tb := tb_mem 342 (by decide +kernel) rfl
theorem tw_343 : (Jvm.Cond.methodLink "BallastTrain" (106 : Nat) ({ cls := "BallastTrain$Train", name := "openDoor", desc := "(III)V" } : Jvm.MethodName)) ∈ tb := tb_mem 343 (by decide +kernel) rfl
theorem tw_344 : (Jvm.Cond.instanceMethod ({ cls := "BallastTrain$Train", name := "openDoor", desc := "(III)V" } : Jvm.MethodName)) ∈ tb := tb_mem 344 (by decide +kernel) rfl
theorem tw_345 : (Jvm.Cond.selects "BallastTrain$Train" ({ cls := "BallastTrain$Train", name := "openDoor", desc := "(III)V" } : Jvm.MethodName) ({ cls := "BallastTrain$Train", name := "openDoor", desc := "(III)V" } : Jvm.MethodName)) ∈ tb := tb_mem 345 (by decide +kernel) rfl
theorem tw_346 : (Jvm.Cond.code ({ cls := "BallastTrain$Train", name := "openDoor", desc := "(III)V" } : Jvm.MethodName) prog_7_method_12_code (4 : Nat) (Option.none : Option Jvm.ClassFile.FieldType)) ∈ tb := tb_mem 346 (by decide +kernel) rfl
theorem tw_347 : (Jvm.Cond.methodLink "BallastTrainLaw" (91 : Nat) ({ cls := "BallastTrain", name := "cancel", desc := "(I)I" } : Jvm.MethodName)) ∈ tb := tb_mem 347 (by decide +kernel) rfl
theorem tw_348 : (Jvm.Cond.instanceMethod ({ cls := "BallastTrain", name := "cancel", desc := "(I)I" } : Jvm.MethodName)) ∈ tb := tb_mem 348 (by decide +kernel) rfl
theorem tw_349 : (Jvm.Cond.selects "BallastTrain" ({ cls := "BallastTrain", name := "cancel", desc := "(I)I" } : Jvm.MethodName) ({ cls := "BallastTrain", name := "cancel", desc := "(I)I" } : Jvm.MethodName)) ∈ tb := tb_mem 349 (by decide +kernel) rfl
theorem tw_350 : (Jvm.Cond.code ({ cls := "BallastTrain", name := "cancel", desc := "(I)I" } : Jvm.MethodName) prog_1_method_11_code (2 : Nat) (Option.some Jvm.ClassFile.FieldType.int)) ∈ tb := tb_mem 350 (by decide +kernel) rfl
theorem tw_351 : (Jvm.Cond.methodLink "BallastTrain" (126 : Nat) ({ cls := "java/util/ArrayList", name := "remove", desc := "(I)Ljava/lang/Object;" } : Jvm.MethodName)) ∈ tb := tb_mem 351 (by decide +kernel) rfl
theorem tw_352 : (Jvm.Cond.instanceMethod ({ cls := "java/util/ArrayList", name := "remove", desc := "(I)Ljava/lang/Object;" } : Jvm.MethodName)) ∈ tb := tb_mem 352 (by decide +kernel) rfl
theorem tw_353 : (Jvm.Cond.selects "java/util/ArrayList" ({ cls := "java/util/ArrayList", name := "remove", desc := "(I)Ljava/lang/Object;" } : Jvm.MethodName) ({ cls := "java/util/ArrayList", name := "remove", desc := "(I)Ljava/lang/Object;" } : Jvm.MethodName)) ∈ tb := tb_mem 353 (by decide +kernel) rfl
theorem tw_354 : (Jvm.Cond.code ({ cls := "java/util/ArrayList", name := "remove", desc := "(I)Ljava/lang/Object;" } : Jvm.MethodName) prog_17_method_29_code (4 : Nat) (Option.some (Jvm.ClassFile.FieldType.object "java/lang/Object"))) ∈ tb := tb_mem 354 (by decide +kernel) rfl
theorem tw_355 : (Jvm.Cond.methodLink "java/util/ArrayList" (144 : Nat) ({ cls := "java/util/ArrayList", name := "fastRemove", desc := "([Ljava/lang/Object;I)V" } : Jvm.MethodName)) ∈ tb := tb_mem 355 (by decide +kernel) rfl
theorem tw_357 : (Jvm.Cond.instanceMethod ({ cls := "java/util/ArrayList", name := "fastRemove", desc := "([Ljava/lang/Object;I)V" } : Jvm.MethodName)) ∈ tb := tb_mem 357 (by decide +kernel) rfl
theorem tw_358 : (Jvm.Cond.code ({ cls := "java/util/ArrayList", name := "fastRemove", desc := "([Ljava/lang/Object;I)V" } : Jvm.MethodName) prog_17_method_39_code (4 : Nat) (Option.none : Option Jvm.ClassFile.FieldType)) ∈ tb := tb_mem 358 (by decide +kernel) rfl
theorem tw_359 : (Jvm.Cond.methodLink "java/util/ArrayList" (112 : Nat) ({ cls := "java/lang/System", name := "arraycopy", desc := "(Ljava/lang/Object;ILjava/lang/Object;II)V" } : Jvm.MethodName)) ∈ tb := tb_mem 359 (by decide +kernel) rfl
theorem tw_360 : (Jvm.Cond.methodLink "BallastTrainLaw" (54 : Nat) ({ cls := "BallastTrain", name := "pass", desc := "(I)I" } : Jvm.MethodName)) ∈ tb := tb_mem 360 (by decide +kernel) rfl
theorem tw_361 : (Jvm.Cond.instanceMethod ({ cls := "BallastTrain", name := "pass", desc := "(I)I" } : Jvm.MethodName)) ∈ tb := tb_mem 361 (by decide +kernel) rfl
theorem tw_362 : (Jvm.Cond.selects "BallastTrain" ({ cls := "BallastTrain", name := "pass", desc := "(I)I" } : Jvm.MethodName) ({ cls := "BallastTrain", name := "pass", desc := "(I)I" } : Jvm.MethodName)) ∈ tb := tb_mem 362 (by decide +kernel) rfl
theorem tw_363 : (Jvm.Cond.code ({ cls := "BallastTrain", name := "pass", desc := "(I)I" } : Jvm.MethodName) prog_1_method_12_code (3 : Nat) (Option.some Jvm.ClassFile.FieldType.int)) ∈ tb := tb_mem 363 (by decide +kernel) rfl
theorem tw_364 : (Jvm.Cond.methodLink "BallastTrain" (133 : Nat) ({ cls := "BallastTrain$State", name := "passSecond", desc := "()V" } : Jvm.MethodName)) ∈ tb := tb_mem 364 (by decide +kernel) rfl
theorem tw_365 : (Jvm.Cond.instanceMethod ({ cls := "BallastTrain$State", name := "passSecond", desc := "()V" } : Jvm.MethodName)) ∈ tb := tb_mem 365 (by decide +kernel) rfl
theorem tw_366 : (Jvm.Cond.selects "BallastTrain$State" ({ cls := "BallastTrain$State", name := "passSecond", desc := "()V" } : Jvm.MethodName) ({ cls := "BallastTrain$State", name := "passSecond", desc := "()V" } : Jvm.MethodName)) ∈ tb := tb_mem 366 (by decide +kernel) rfl
theorem tw_367 : (Jvm.Cond.code ({ cls := "BallastTrain$State", name := "passSecond", desc := "()V" } : Jvm.MethodName) prog_4_method_3_code (1 : Nat) (Option.none : Option Jvm.ClassFile.FieldType)) ∈ tb := tb_mem 367 (by decide +kernel) rfl
theorem tw_368 : (Jvm.Cond.methodLink "BallastTrain$State" (70 : Nat) ({ cls := "BallastTrain$Train", name := "move", desc := "()V" } : Jvm.MethodName)) ∈ tb := tb_mem 368 (by decide +kernel) rfl
theorem tw_369 : (Jvm.Cond.instanceMethod ({ cls := "BallastTrain$Train", name := "move", desc := "()V" } : Jvm.MethodName)) ∈ tb := tb_mem 369 (by decide +kernel) rfl
theorem tw_370 : (Jvm.Cond.selects "BallastTrain$Train" ({ cls := "BallastTrain$Train", name := "move", desc := "()V" } : Jvm.MethodName) ({ cls := "BallastTrain$Train", name := "move", desc := "()V" } : Jvm.MethodName)) ∈ tb := tb_mem 370 (by decide +kernel) rfl
theorem tw_371 : (Jvm.Cond.code ({ cls := "BallastTrain$Train", name := "move", desc := "()V" } : Jvm.MethodName) prog_7_method_14_code (1 : Nat) (Option.none : Option Jvm.ClassFile.FieldType)) ∈ tb := tb_mem 371 (by decide +kernel) rfl
theorem tw_372 : (Jvm.Cond.methodLink "BallastTrain$Train" (62 : Nat) ({ cls := "java/lang/Math", name := "min", desc := "(II)I" } : Jvm.MethodName)) ∈ tb := tb_mem 372 (by decide +kernel) rfl
theorem tw_373 : (Jvm.Cond.methodLink "BallastTrain$State" (73 : Nat) ({ cls := "BallastTrain$State", name := "carryOutOrders", desc := "()V" } : Jvm.MethodName)) ∈ tb := tb_mem 373 (by decide +kernel) rfl
theorem tw_375 : (Jvm.Cond.instanceMethod ({ cls := "BallastTrain$State", name := "carryOutOrders", desc := "()V" } : Jvm.MethodName)) ∈ tb := tb_mem 375 (by decide +kernel) rfl
theorem tw_376 : (Jvm.Cond.code ({ cls := "BallastTrain$State", name := "carryOutOrders", desc := "()V" } : Jvm.MethodName) prog_4_method_7_code (4 : Nat) (Option.none : Option Jvm.ClassFile.FieldType)) ∈ tb := tb_mem 376 (by decide +kernel) rfl
theorem tw_377 : (Jvm.Cond.methodLink "BallastTrain$State" (111 : Nat) ({ cls := "java/util/ArrayList", name := "size", desc := "()I" } : Jvm.MethodName)) ∈ tb := tb_mem 377 (by decide +kernel) rfl
theorem tw_378 : (Jvm.Cond.methodLink "BallastTrain$State" (115 : Nat) ({ cls := "java/util/ArrayList", name := "get", desc := "(I)Ljava/lang/Object;" } : Jvm.MethodName)) ∈ tb := tb_mem 378 (by decide +kernel) rfl
theorem tw_379 : (Jvm.Cond.classLink "BallastTrain$State" (119 : Nat) "BallastTrain$Order") ∈ tb := tb_mem 379 (by decide +kernel) rfl
theorem tw_380 : (Jvm.Cond.methodLink "BallastTrain$State" (121 : Nat) ({ cls := "BallastTrain$Order", name := "isDue", desc := "(LBallastTrain$Train;)Z" } : Jvm.MethodName)) ∈ tb := tb_mem 380 (by decide +kernel) rfl
theorem tw_381 : (Jvm.Cond.instanceMethod ({ cls := "BallastTrain$Order", name := "isDue", desc := "(LBallastTrain$Train;)Z" } : Jvm.MethodName)) ∈ tb := tb_mem 381 (by decide +kernel) rfl
theorem tw_382 : (Jvm.Cond.selects "BallastTrain$Order" ({ cls := "BallastTrain$Order", name := "isDue", desc := "(LBallastTrain$Train;)Z" } : Jvm.MethodName) ({ cls := "BallastTrain$Order", name := "isDue", desc := "(LBallastTrain$Train;)Z" } : Jvm.MethodName)) ∈ tb := tb_mem 382 (by decide +kernel) rfl
theorem tw_384 : (Jvm.Cond.methodLink "BallastTrain$Order" (32 : Nat) ({ cls := "BallastTrain$Train", name := "hasDoor", desc := "(II)Z" } : Jvm.MethodName)) ∈ tb := tb_mem 384 (by decide +kernel) rfl
theorem tw_385 : (Jvm.Cond.methodLink "BallastTrain$Order" (36 : Nat) ({ cls := "BallastTrain$Train", name := "cellBelow", desc := "(I)I" } : Jvm.MethodName)) ∈ tb := tb_mem 385 (by decide +kernel) rfl
theorem tw_386 : (Jvm.Cond.instanceMethod ({ cls := "BallastTrain$Train", name := "cellBelow", desc := "(I)I" } : Jvm.MethodName)) ∈ tb := tb_mem 386 (by decide +kernel) rfl
theorem tw_387 : (Jvm.Cond.selects "BallastTrain$Train" ({ cls := "BallastTrain$Train", name := "cellBelow", desc := "(I)I" } : Jvm.MethodName) ({ cls := "BallastTrain$Train", name := "cellBelow", desc := "(I)I" } : Jvm.MethodName)) ∈ tb := tb_mem 387 (by decide +kernel) rfl
theorem tw_388 : (Jvm.Cond.code ({ cls := "BallastTrain$Train", name := "cellBelow", desc := "(I)I" } : Jvm.MethodName) prog_7_method_8_code (2 : Nat) (Option.some Jvm.ClassFile.FieldType.int)) ∈ tb := tb_mem 388 (by decide +kernel) rfl
theorem tw_389 : (Jvm.Cond.methodLink "BallastTrain$State" (125 : Nat) ({ cls := "BallastTrain$Order", name := "carryOut", desc := "(LBallastTrain$Train;I)V" } : Jvm.MethodName)) ∈ tb := tb_mem 389 (by decide +kernel) rfl
theorem tw_390 : (Jvm.Cond.instanceMethod ({ cls := "BallastTrain$Order", name := "carryOut", desc := "(LBallastTrain$Train;I)V" } : Jvm.MethodName)) ∈ tb := tb_mem 390 (by decide +kernel) rfl
theorem tw_391 : (Jvm.Cond.selects "BallastTrain$Order" ({ cls := "BallastTrain$Order", name := "carryOut", desc := "(LBallastTrain$Train;I)V" } : Jvm.MethodName) ({ cls := "BallastTrain$Order", name := "carryOut", desc := "(LBallastTrain$Train;I)V" } : Jvm.MethodName)) ∈ tb := tb_mem 391 (by decide +kernel) rfl
theorem tw_393 : (Jvm.Cond.methodLink "BallastTrain$Order" (43 : Nat) ({ cls := "BallastTrain$Train", name := "openDoor", desc := "(III)V" } : Jvm.MethodName)) ∈ tb := tb_mem 393 (by decide +kernel) rfl
theorem tw_394 : (Jvm.Cond.methodLink "BallastTrain$Order" (47 : Nat) ({ cls := "BallastTrain$Train", name := "closeDoor", desc := "(III)V" } : Jvm.MethodName)) ∈ tb := tb_mem 394 (by decide +kernel) rfl
theorem tw_395 : (Jvm.Cond.methodLink "BallastTrain$State" (129 : Nat) ({ cls := "java/util/ArrayList", name := "set", desc := "(ILjava/lang/Object;)Ljava/lang/Object;" } : Jvm.MethodName)) ∈ tb := tb_mem 395 (by decide +kernel) rfl
theorem tw_396 : (Jvm.Cond.instanceMethod ({ cls := "java/util/ArrayList", name := "set", desc := "(ILjava/lang/Object;)Ljava/lang/Object;" } : Jvm.MethodName)) ∈ tb := tb_mem 396 (by decide +kernel) rfl
theorem tw_397 : (Jvm.Cond.selects "java/util/ArrayList" ({ cls := "java/util/ArrayList", name := "set", desc := "(ILjava/lang/Object;)Ljava/lang/Object;" } : Jvm.MethodName) ({ cls := "java/util/ArrayList", name := "set", desc := "(ILjava/lang/Object;)Ljava/lang/Object;" } : Jvm.MethodName)) ∈ tb := tb_mem 397 (by decide +kernel) rfl
theorem tw_398 : (Jvm.Cond.code ({ cls := "java/util/ArrayList", name := "set", desc := "(ILjava/lang/Object;)Ljava/lang/Object;" } : Jvm.MethodName) prog_17_method_23_code (4 : Nat) (Option.some (Jvm.ClassFile.FieldType.object "java/lang/Object"))) ∈ tb := tb_mem 398 (by decide +kernel) rfl
theorem tw_399 : (Jvm.Cond.methodLink "BallastTrain$State" (133 : Nat) ({ cls := "java/util/ArrayList", name := "remove", desc := "(I)Ljava/lang/Object;" } : Jvm.MethodName)) ∈ tb := tb_mem 399 (by decide +kernel) rfl
theorem tw_400 : (Jvm.Cond.methodLink "BallastTrain$State" (76 : Nat) ({ cls := "BallastTrain$State", name := "unload", desc := "()V" } : Jvm.MethodName)) ∈ tb := tb_mem 400 (by decide +kernel) rfl
theorem tw_402 : (Jvm.Cond.instanceMethod ({ cls := "BallastTrain$State", name := "unload", desc := "()V" } : Jvm.MethodName)) ∈ tb := tb_mem 402 (by decide +kernel) rfl
theorem tw_403 : (Jvm.Cond.code ({ cls := "BallastTrain$State", name := "unload", desc := "()V" } : Jvm.MethodName) prog_4_method_5_code (3 : Nat) (Option.none : Option Jvm.ClassFile.FieldType)) ∈ tb := tb_mem 403 (by decide +kernel) rfl
theorem tw_404 : (Jvm.Cond.methodLink "BallastTrain$State" (93 : Nat) ({ cls := "BallastTrain$Train", name := "cellBelow", desc := "(I)I" } : Jvm.MethodName)) ∈ tb := tb_mem 404 (by decide +kernel) rfl
theorem tw_405 : (Jvm.Cond.methodLink "BallastTrain$State" (96 : Nat) ({ cls := "BallastTrain$Train", name := "drop", desc := "(II)I" } : Jvm.MethodName)) ∈ tb := tb_mem 405 (by decide +kernel) rfl
theorem tw_406 : (Jvm.Cond.instanceMethod ({ cls := "BallastTrain$Train", name := "drop", desc := "(II)I" } : Jvm.MethodName)) ∈ tb := tb_mem 406 (by decide +kernel) rfl
theorem tw_407 : (Jvm.Cond.selects "BallastTrain$Train" ({ cls := "BallastTrain$Train", name := "drop", desc := "(II)I" } : Jvm.MethodName) ({ cls := "BallastTrain$Train", name := "drop", desc := "(II)I" } : Jvm.MethodName)) ∈ tb := tb_mem 407 (by decide +kernel) rfl
theorem tw_408 : (Jvm.Cond.code ({ cls := "BallastTrain$Train", name := "drop", desc := "(II)I" } : Jvm.MethodName) prog_7_method_15_code (4 : Nat) (Option.some Jvm.ClassFile.FieldType.int)) ∈ tb := tb_mem 408 (by decide +kernel) rfl
theorem tw_409 : (Jvm.Cond.methodLink "BallastTrain$State" (100 : Nat) ({ cls := "BallastTrain$State", name := "land", desc := "(III)V" } : Jvm.MethodName)) ∈ tb := tb_mem 409 (by decide +kernel) rfl
theorem tw_411 : (Jvm.Cond.instanceMethod ({ cls := "BallastTrain$State", name := "land", desc := "(III)V" } : Jvm.MethodName)) ∈ tb := tb_mem 411 (by decide +kernel) rfl
theorem tw_412 : (Jvm.Cond.code ({ cls := "BallastTrain$State", name := "land", desc := "(III)V" } : Jvm.MethodName) prog_4_method_6_code (4 : Nat) (Option.none : Option Jvm.ClassFile.FieldType)) ∈ tb := tb_mem 412 (by decide +kernel) rfl
theorem tw_413 : (Jvm.Cond.methodLink "BallastTrain$State" (104 : Nat) ({ cls := "BallastTrain$Track", name := "has", desc := "(II)Z" } : Jvm.MethodName)) ∈ tb := tb_mem 413 (by decide +kernel) rfl
theorem tw_414 : (Jvm.Cond.static ({ cls := "BallastTrain$Track", name := "has", desc := "(II)Z" } : Jvm.MethodName)) ∈ tb := tb_mem 414 (by decide +kernel) rfl
theorem tw_415 : (Jvm.Cond.code ({ cls := "BallastTrain$Track", name := "has", desc := "(II)Z" } : Jvm.MethodName) prog_6_method_2_code (2 : Nat) (Option.some Jvm.ClassFile.FieldType.boolean)) ∈ tb := tb_mem 415 (by decide +kernel) rfl
theorem tw_416 : (Jvm.Cond.methodLink "BallastTrain$State" (108 : Nat) ({ cls := "BallastTrain$Track", name := "add", desc := "(III)V" } : Jvm.MethodName)) ∈ tb := tb_mem 416 (by decide +kernel) rfl
theorem tw_417 : (Jvm.Cond.instanceMethod ({ cls := "BallastTrain$Track", name := "add", desc := "(III)V" } : Jvm.MethodName)) ∈ tb := tb_mem 417 (by decide +kernel) rfl
theorem tw_418 : (Jvm.Cond.selects "BallastTrain$Track" ({ cls := "BallastTrain$Track", name := "add", desc := "(III)V" } : Jvm.MethodName) ({ cls := "BallastTrain$Track", name := "add", desc := "(III)V" } : Jvm.MethodName)) ∈ tb := tb_mem 418 (by decide +kernel) rfl
theorem tw_419 : (Jvm.Cond.code ({ cls := "BallastTrain$Track", name := "add", desc := "(III)V" } : Jvm.MethodName) prog_6_method_4_code (4 : Nat) (Option.none : Option Jvm.ClassFile.FieldType)) ∈ tb := tb_mem 419 (by decide +kernel) rfl
theorem tw_420 : (Jvm.Cond.methodLink "BallastTrain$Track" (15 : Nat) ({ cls := "BallastTrain$Track", name := "has", desc := "(II)Z" } : Jvm.MethodName)) ∈ tb := tb_mem 420 (by decide +kernel) rfl
theorem tw_421 : (Jvm.Cond.methodLink "BallastTrain$State" (79 : Nat) ({ cls := "BallastTrain$Track", name := "slide", desc := "(I)V" } : Jvm.MethodName)) ∈ tb := tb_mem 421 (by decide +kernel) rfl
theorem tw_422 : (Jvm.Cond.instanceMethod ({ cls := "BallastTrain$Track", name := "slide", desc := "(I)V" } : Jvm.MethodName)) ∈ tb := tb_mem 422 (by decide +kernel) rfl
theorem tw_423 : (Jvm.Cond.selects "BallastTrain$Track" ({ cls := "BallastTrain$Track", name := "slide", desc := "(I)V" } : Jvm.MethodName) ({ cls := "BallastTrain$Track", name := "slide", desc := "(I)V" } : Jvm.MethodName)) ∈ tb := tb_mem 423 (by decide +kernel) rfl
theorem tw_424 : (Jvm.Cond.code ({ cls := "BallastTrain$Track", name := "slide", desc := "(I)V" } : Jvm.MethodName) prog_6_method_5_code (4 : Nat) (Option.none : Option Jvm.ClassFile.FieldType)) ∈ tb := tb_mem 424 (by decide +kernel) rfl
theorem tw_425 : (Jvm.Cond.methodLink "BallastTrain$State" (83 : Nat) ({ cls := "BallastTrain$Track", name := "cutShoulders", desc := "(I)I" } : Jvm.MethodName)) ∈ tb := tb_mem 425 (by decide +kernel) rfl
theorem tw_426 : (Jvm.Cond.instanceMethod ({ cls := "BallastTrain$Track", name := "cutShoulders", desc := "(I)I" } : Jvm.MethodName)) ∈ tb := tb_mem 426 (by decide +kernel) rfl
theorem tw_427 : (Jvm.Cond.selects "BallastTrain$Track" ({ cls := "BallastTrain$Track", name := "cutShoulders", desc := "(I)I" } : Jvm.MethodName) ({ cls := "BallastTrain$Track", name := "cutShoulders", desc := "(I)I" } : Jvm.MethodName)) ∈ tb := tb_mem 427 (by decide +kernel) rfl
theorem tw_428 : (Jvm.Cond.code ({ cls := "BallastTrain$Track", name := "cutShoulders", desc := "(I)I" } : Jvm.MethodName) prog_6_method_6_code (5 : Nat) (Option.some Jvm.ClassFile.FieldType.int)) ∈ tb := tb_mem 428 (by decide +kernel) rfl
theorem tw_429 : (Jvm.Cond.methodLink "BallastTrain$State" (87 : Nat) ({ cls := "BallastTrain$Train", name := "closeFurther", desc := "(I)I" } : Jvm.MethodName)) ∈ tb := tb_mem 429 (by decide +kernel) rfl
theorem tw_430 : (Jvm.Cond.instanceMethod ({ cls := "BallastTrain$Train", name := "closeFurther", desc := "(I)I" } : Jvm.MethodName)) ∈ tb := tb_mem 430 (by decide +kernel) rfl
theorem tw_431 : (Jvm.Cond.selects "BallastTrain$Train" ({ cls := "BallastTrain$Train", name := "closeFurther", desc := "(I)I" } : Jvm.MethodName) ({ cls := "BallastTrain$Train", name := "closeFurther", desc := "(I)I" } : Jvm.MethodName)) ∈ tb := tb_mem 431 (by decide +kernel) rfl
theorem tw_432 : (Jvm.Cond.code ({ cls := "BallastTrain$Train", name := "closeFurther", desc := "(I)I" } : Jvm.MethodName) prog_7_method_16_code (5 : Nat) (Option.some Jvm.ClassFile.FieldType.int)) ∈ tb := tb_mem 432 (by decide +kernel) rfl
theorem tw_433 : (Jvm.Cond.methodLink "BallastTrainLaw" (87 : Nat) ({ cls := "BallastTrain", name := "undo", desc := "()I" } : Jvm.MethodName)) ∈ tb := tb_mem 433 (by decide +kernel) rfl
theorem tw_434 : (Jvm.Cond.instanceMethod ({ cls := "BallastTrain", name := "undo", desc := "()I" } : Jvm.MethodName)) ∈ tb := tb_mem 434 (by decide +kernel) rfl
theorem tw_435 : (Jvm.Cond.selects "BallastTrain" ({ cls := "BallastTrain", name := "undo", desc := "()I" } : Jvm.MethodName) ({ cls := "BallastTrain", name := "undo", desc := "()I" } : Jvm.MethodName)) ∈ tb := tb_mem 435 (by decide +kernel) rfl
theorem tw_436 : (Jvm.Cond.code ({ cls := "BallastTrain", name := "undo", desc := "()I" } : Jvm.MethodName) prog_1_method_14_code (1 : Nat) (Option.some Jvm.ClassFile.FieldType.int)) ∈ tb := tb_mem 436 (by decide +kernel) rfl
theorem tw_437 : (Jvm.Cond.methodLink "BallastTrain" (161 : Nat) ({ cls := "BallastTrain$History", name := "restore", desc := "(LBallastTrain$State;)V" } : Jvm.MethodName)) ∈ tb := tb_mem 437 (by decide +kernel) rfl
theorem tw_438 : (Jvm.Cond.instanceMethod ({ cls := "BallastTrain$History", name := "restore", desc := "(LBallastTrain$State;)V" } : Jvm.MethodName)) ∈ tb := tb_mem 438 (by decide +kernel) rfl
theorem tw_439 : (Jvm.Cond.selects "BallastTrain$History" ({ cls := "BallastTrain$History", name := "restore", desc := "(LBallastTrain$State;)V" } : Jvm.MethodName) ({ cls := "BallastTrain$History", name := "restore", desc := "(LBallastTrain$State;)V" } : Jvm.MethodName)) ∈ tb := tb_mem 439 (by decide +kernel) rfl
theorem tw_440 : (Jvm.Cond.code ({ cls := "BallastTrain$History", name := "restore", desc := "(LBallastTrain$State;)V" } : Jvm.MethodName) prog_2_method_3_code (2 : Nat) (Option.none : Option Jvm.ClassFile.FieldType)) ∈ tb := tb_mem 440 (by decide +kernel) rfl
theorem tw_441 : (Jvm.Cond.methodLink "BallastTrainLaw" (60 : Nat) ({ cls := "BallastTrain", name := "wagon", desc := "(II)I" } : Jvm.MethodName)) ∈ tb := tb_mem 441 (by decide +kernel) rfl
theorem tw_442 : (Jvm.Cond.instanceMethod ({ cls := "BallastTrain", name := "wagon", desc := "(II)I" } : Jvm.MethodName)) ∈ tb := tb_mem 442 (by decide +kernel) rfl
theorem tw_443 : (Jvm.Cond.selects "BallastTrain" ({ cls := "BallastTrain", name := "wagon", desc := "(II)I" } : Jvm.MethodName) ({ cls := "BallastTrain", name := "wagon", desc := "(II)I" } : Jvm.MethodName)) ∈ tb := tb_mem 443 (by decide +kernel) rfl
theorem tw_444 : (Jvm.Cond.code ({ cls := "BallastTrain", name := "wagon", desc := "(II)I" } : Jvm.MethodName) prog_1_method_15_code (3 : Nat) (Option.some Jvm.ClassFile.FieldType.int)) ∈ tb := tb_mem 444 (by decide +kernel) rfl
theorem tw_445 : (Jvm.Cond.methodLink "BallastTrain" (164 : Nat) ({ cls := "BallastTrain$Train", name := "cellBelow", desc := "(I)I" } : Jvm.MethodName)) ∈ tb := tb_mem 445 (by decide +kernel) rfl
theorem tw_446 : (Jvm.Cond.methodLink "BallastTrain" (168 : Nat) ({ cls := "BallastTrain$Train", name := "sumOfLevels", desc := "(I)I" } : Jvm.MethodName)) ∈ tb := tb_mem 446 (by decide +kernel) rfl
theorem tw_447 : (Jvm.Cond.instanceMethod ({ cls := "BallastTrain$Train", name := "sumOfLevels", desc := "(I)I" } : Jvm.MethodName)) ∈ tb := tb_mem 447 (by decide +kernel) rfl
theorem tw_448 : (Jvm.Cond.selects "BallastTrain$Train" ({ cls := "BallastTrain$Train", name := "sumOfLevels", desc := "(I)I" } : Jvm.MethodName) ({ cls := "BallastTrain$Train", name := "sumOfLevels", desc := "(I)I" } : Jvm.MethodName)) ∈ tb := tb_mem 448 (by decide +kernel) rfl
theorem tw_449 : (Jvm.Cond.code ({ cls := "BallastTrain$Train", name := "sumOfLevels", desc := "(I)I" } : Jvm.MethodName) prog_7_method_10_code (4 : Nat) (Option.some Jvm.ClassFile.FieldType.int)) ∈ tb := tb_mem 449 (by decide +kernel) rfl
theorem tw_450 : (Jvm.Cond.methodLink "BallastTrain$Train" (55 : Nat) ({ cls := "BallastTrain$Train", name := "levelOf", desc := "(II)I" } : Jvm.MethodName)) ∈ tb := tb_mem 450 (by decide +kernel) rfl
theorem tw_451 : (Jvm.Cond.methodLink "BallastTrain" (171 : Nat) ({ cls := "BallastTrain$Train", name := "closingDoors", desc := "(I)I" } : Jvm.MethodName)) ∈ tb := tb_mem 451 (by decide +kernel) rfl
theorem tw_452 : (Jvm.Cond.instanceMethod ({ cls := "BallastTrain$Train", name := "closingDoors", desc := "(I)I" } : Jvm.MethodName)) ∈ tb := tb_mem 452 (by decide +kernel) rfl
theorem tw_453 : (Jvm.Cond.selects "BallastTrain$Train" ({ cls := "BallastTrain$Train", name := "closingDoors", desc := "(I)I" } : Jvm.MethodName) ({ cls := "BallastTrain$Train", name := "closingDoors", desc := "(I)I" } : Jvm.MethodName)) ∈ tb := tb_mem 453 (by decide +kernel) rfl
theorem tw_454 : (Jvm.Cond.code ({ cls := "BallastTrain$Train", name := "closingDoors", desc := "(I)I" } : Jvm.MethodName) prog_7_method_11_code (4 : Nat) (Option.some Jvm.ClassFile.FieldType.int)) ∈ tb := tb_mem 454 (by decide +kernel) rfl
theorem tw_455 : (Jvm.Cond.methodLink "BallastTrain$Train" (59 : Nat) ({ cls := "BallastTrain$Train", name := "restOf", desc := "(II)I" } : Jvm.MethodName)) ∈ tb := tb_mem 455 (by decide +kernel) rfl
theorem tw_456 : (Jvm.Cond.instanceMethod ({ cls := "BallastTrain$Train", name := "restOf", desc := "(II)I" } : Jvm.MethodName)) ∈ tb := tb_mem 456 (by decide +kernel) rfl
theorem tw_457 : (Jvm.Cond.selects "BallastTrain$Train" ({ cls := "BallastTrain$Train", name := "restOf", desc := "(II)I" } : Jvm.MethodName) ({ cls := "BallastTrain$Train", name := "restOf", desc := "(II)I" } : Jvm.MethodName)) ∈ tb := tb_mem 457 (by decide +kernel) rfl
theorem tw_458 : (Jvm.Cond.code ({ cls := "BallastTrain$Train", name := "restOf", desc := "(II)I" } : Jvm.MethodName) prog_7_method_7_code (3 : Nat) (Option.some Jvm.ClassFile.FieldType.int)) ∈ tb := tb_mem 458 (by decide +kernel) rfl
theorem tw_459 : (Jvm.Cond.methodLink "BallastTrainLaw" (57 : Nat) ({ cls := "BallastTrain", name := "doorOf", desc := "(III)I" } : Jvm.MethodName)) ∈ tb := tb_mem 459 (by decide +kernel) rfl
theorem tw_460 : (Jvm.Cond.instanceMethod ({ cls := "BallastTrain", name := "doorOf", desc := "(III)I" } : Jvm.MethodName)) ∈ tb := tb_mem 460 (by decide +kernel) rfl
theorem tw_461 : (Jvm.Cond.selects "BallastTrain" ({ cls := "BallastTrain", name := "doorOf", desc := "(III)I" } : Jvm.MethodName) ({ cls := "BallastTrain", name := "doorOf", desc := "(III)I" } : Jvm.MethodName)) ∈ tb := tb_mem 461 (by decide +kernel) rfl
theorem tw_462 : (Jvm.Cond.code ({ cls := "BallastTrain", name := "doorOf", desc := "(III)I" } : Jvm.MethodName) prog_1_method_16_code (4 : Nat) (Option.some Jvm.ClassFile.FieldType.int)) ∈ tb := tb_mem 462 (by decide +kernel) rfl
theorem tw_463 : (Jvm.Cond.methodLink "BallastTrain" (177 : Nat) ({ cls := "BallastTrain$Train", name := "restOf", desc := "(II)I" } : Jvm.MethodName)) ∈ tb := tb_mem 463 (by decide +kernel) rfl
theorem tw_464 : (Jvm.Cond.methodLink "BallastTrainLaw" (65 : Nat) ({ cls := "BallastTrain", name := "count", desc := "(I)I" } : Jvm.MethodName)) ∈ tb := tb_mem 464 (by decide +kernel) rfl
theorem tw_465 : (Jvm.Cond.instanceMethod ({ cls := "BallastTrain", name := "count", desc := "(I)I" } : Jvm.MethodName)) ∈ tb := tb_mem 465 (by decide +kernel) rfl
theorem tw_466 : (Jvm.Cond.selects "BallastTrain" ({ cls := "BallastTrain", name := "count", desc := "(I)I" } : Jvm.MethodName) ({ cls := "BallastTrain", name := "count", desc := "(I)I" } : Jvm.MethodName)) ∈ tb := tb_mem 466 (by decide +kernel) rfl
theorem tw_467 : (Jvm.Cond.code ({ cls := "BallastTrain", name := "count", desc := "(I)I" } : Jvm.MethodName) prog_1_method_23_code (2 : Nat) (Option.some Jvm.ClassFile.FieldType.int)) ∈ tb := tb_mem 467 (by decide +kernel) rfl
theorem tw_468 : (Jvm.Cond.methodLink "BallastTrain" (69 : Nat) ({ cls := "BallastTrain$Train", name := "units", desc := "()I" } : Jvm.MethodName)) ∈ tb := tb_mem 468 (by decide +kernel) rfl
theorem tw_469 : (Jvm.Cond.instanceMethod ({ cls := "BallastTrain$Train", name := "units", desc := "()I" } : Jvm.MethodName)) ∈ tb := tb_mem 469 (by decide +kernel) rfl
theorem tw_470 : (Jvm.Cond.selects "BallastTrain$Train" ({ cls := "BallastTrain$Train", name := "units", desc := "()I" } : Jvm.MethodName) ({ cls := "BallastTrain$Train", name := "units", desc := "()I" } : Jvm.MethodName)) ∈ tb := tb_mem 470 (by decide +kernel) rfl
theorem tw_471 : (Jvm.Cond.code ({ cls := "BallastTrain$Train", name := "units", desc := "()I" } : Jvm.MethodName) prog_7_method_9_code (1 : Nat) (Option.some Jvm.ClassFile.FieldType.int)) ∈ tb := tb_mem 471 (by decide +kernel) rfl
theorem tw_473 : (Jvm.Cond.static ({ cls := "BallastTrain", name := "sum", desc := "([I)I" } : Jvm.MethodName)) ∈ tb := tb_mem 473 (by decide +kernel) rfl
theorem tw_474 : (Jvm.Cond.code ({ cls := "BallastTrain", name := "sum", desc := "([I)I" } : Jvm.MethodName) prog_1_method_32_code (6 : Nat) (Option.some Jvm.ClassFile.FieldType.int)) ∈ tb := tb_mem 474 (by decide +kernel) rfl
theorem tw_475 : (Jvm.Cond.methodLink "BallastTrain" (229 : Nat) ({ cls := "BallastTrain$Track", name := "units", desc := "()I" } : Jvm.MethodName)) ∈ tb := tb_mem 475 (by decide +kernel) rfl
theorem tw_476 : (Jvm.Cond.instanceMethod ({ cls := "BallastTrain$Track", name := "units", desc := "()I" } : Jvm.MethodName)) ∈ tb := tb_mem 476 (by decide +kernel) rfl
theorem tw_477 : (Jvm.Cond.selects "BallastTrain$Track" ({ cls := "BallastTrain$Track", name := "units", desc := "()I" } : Jvm.MethodName) ({ cls := "BallastTrain$Track", name := "units", desc := "()I" } : Jvm.MethodName)) ∈ tb := tb_mem 477 (by decide +kernel) rfl
theorem tw_478 : (Jvm.Cond.code ({ cls := "BallastTrain$Track", name := "units", desc := "()I" } : Jvm.MethodName) prog_6_method_7_code (1 : Nat) (Option.some Jvm.ClassFile.FieldType.int)) ∈ tb := tb_mem 478 (by decide +kernel) rfl
theorem tw_480 : (Jvm.Cond.methodLink "BallastTrainLaw" (98 : Nat) ({ cls := "BallastTrainLaw", name := "cell", desc := "([II)I" } : Jvm.MethodName)) ∈ tb := tb_mem 480 (by decide +kernel) rfl
theorem tw_481 : (Jvm.Cond.static ({ cls := "BallastTrainLaw", name := "cell", desc := "([II)I" } : Jvm.MethodName)) ∈ tb := tb_mem 481 (by decide +kernel) rfl
theorem tw_482 : (Jvm.Cond.code ({ cls := "BallastTrainLaw", name := "cell", desc := "([II)I" } : Jvm.MethodName) method_2_code (2 : Nat) (Option.some Jvm.ClassFile.FieldType.int)) ∈ tb := tb_mem 482 (by decide +kernel) rfl
theorem tw_483 : (Jvm.Cond.constant "BallastTrainLaw" (7 : Nat) (795577677 : Int32)) ∈ tb := tb_mem 483 (by decide +kernel) rfl
theorem tw_484 : (Jvm.Cond.methodLink "BallastTrainLaw" (101 : Nat) ({ cls := "BallastTrainLaw", name := "low", desc := "(II)I" } : Jvm.MethodName)) ∈ tb := tb_mem 484 (by decide +kernel) rfl
theorem tw_485 : (Jvm.Cond.static ({ cls := "BallastTrainLaw", name := "low", desc := "(II)I" } : Jvm.MethodName)) ∈ tb := tb_mem 485 (by decide +kernel) rfl
theorem tw_486 : (Jvm.Cond.code ({ cls := "BallastTrainLaw", name := "low", desc := "(II)I" } : Jvm.MethodName) method_3_code (2 : Nat) (Option.some Jvm.ClassFile.FieldType.int)) ∈ tb := tb_mem 486 (by decide +kernel) rfl
theorem tw_487 : (Jvm.Cond.constant "BallastTrainLaw" (8 : Nat) (2147483647 : Int32)) ∈ tb := tb_mem 487 (by decide +kernel) rfl
theorem tw_488 : (Jvm.Cond.methodLink "BallastTrainLaw" (83 : Nat) ({ cls := "BallastTrainLaw", name := "begins", desc := "([I)V" } : Jvm.MethodName)) ∈ tb := tb_mem 488 (by decide +kernel) rfl
theorem tw_489 : (Jvm.Cond.static ({ cls := "BallastTrainLaw", name := "begins", desc := "([I)V" } : Jvm.MethodName)) ∈ tb := tb_mem 489 (by decide +kernel) rfl
theorem tw_490 : (Jvm.Cond.code ({ cls := "BallastTrainLaw", name := "begins", desc := "([I)V" } : Jvm.MethodName) method_4_code (1 : Nat) (Option.none : Option Jvm.ClassFile.FieldType)) ∈ tb := tb_mem 490 (by decide +kernel) rfl
theorem tw_491 : (Jvm.Cond.methodLink "BallastTrainLaw" (9 : Nat) ({ cls := "BallastTrainLaw", name := "couples", desc := "([II)V" } : Jvm.MethodName)) ∈ tb := tb_mem 491 (by decide +kernel) rfl
theorem tw_492 : (Jvm.Cond.static ({ cls := "BallastTrainLaw", name := "couples", desc := "([II)V" } : Jvm.MethodName)) ∈ tb := tb_mem 492 (by decide +kernel) rfl
theorem tw_493 : (Jvm.Cond.code ({ cls := "BallastTrainLaw", name := "couples", desc := "([II)V" } : Jvm.MethodName) method_5_code (3 : Nat) (Option.none : Option Jvm.ClassFile.FieldType)) ∈ tb := tb_mem 493 (by decide +kernel) rfl
theorem tw_494 : (Jvm.Cond.methodLink "BallastTrainLaw" (72 : Nat) ({ cls := "BallastTrainLaw", name := "inWagons", desc := "([I)I" } : Jvm.MethodName)) ∈ tb := tb_mem 494 (by decide +kernel) rfl
theorem tw_495 : (Jvm.Cond.static ({ cls := "BallastTrainLaw", name := "inWagons", desc := "([I)I" } : Jvm.MethodName)) ∈ tb := tb_mem 495 (by decide +kernel) rfl
theorem tw_496 : (Jvm.Cond.code ({ cls := "BallastTrainLaw", name := "inWagons", desc := "([I)I" } : Jvm.MethodName) method_12_code (1 : Nat) (Option.some Jvm.ClassFile.FieldType.int)) ∈ tb := tb_mem 496 (by decide +kernel) rfl
theorem tw_497 : (Jvm.Cond.methodLink "BallastTrainLaw" (68 : Nat) ({ cls := "BallastTrainLaw", name := "sum", desc := "([II)I" } : Jvm.MethodName)) ∈ tb := tb_mem 497 (by decide +kernel) rfl
theorem tw_498 : (Jvm.Cond.static ({ cls := "BallastTrainLaw", name := "sum", desc := "([II)I" } : Jvm.MethodName)) ∈ tb := tb_mem 498 (by decide +kernel) rfl
theorem tw_499 : (Jvm.Cond.code ({ cls := "BallastTrainLaw", name := "sum", desc := "([II)I" } : Jvm.MethodName) method_13_code (4 : Nat) (Option.some Jvm.ClassFile.FieldType.int)) ∈ tb := tb_mem 499 (by decide +kernel) rfl
theorem tw_500 : (Jvm.Cond.methodLink "BallastTrainLaw" (29 : Nat) ({ cls := "BallastTrainLaw", name := "height", desc := "([III)I" } : Jvm.MethodName)) ∈ tb := tb_mem 500 (by decide +kernel) rfl
theorem tw_501 : (Jvm.Cond.static ({ cls := "BallastTrainLaw", name := "height", desc := "([III)I" } : Jvm.MethodName)) ∈ tb := tb_mem 501 (by decide +kernel) rfl
theorem tw_502 : (Jvm.Cond.code ({ cls := "BallastTrainLaw", name := "height", desc := "([III)I" } : Jvm.MethodName) method_6_code (3 : Nat) (Option.some Jvm.ClassFile.FieldType.int)) ∈ tb := tb_mem 502 (by decide +kernel) rfl
theorem tw_503 : (Jvm.Cond.methodLink "BallastTrainLaw" (108 : Nat) ({ cls := "BallastTrainLaw", name := "sets", desc := "(LBallastTrain;[III)Z" } : Jvm.MethodName)) ∈ tb := tb_mem 503 (by decide +kernel) rfl
theorem tw_504 : (Jvm.Cond.static ({ cls := "BallastTrainLaw", name := "sets", desc := "(LBallastTrain;[III)Z" } : Jvm.MethodName)) ∈ tb := tb_mem 504 (by decide +kernel) rfl
theorem tw_505 : (Jvm.Cond.code ({ cls := "BallastTrainLaw", name := "sets", desc := "(LBallastTrain;[III)Z" } : Jvm.MethodName) method_15_code (5 : Nat) (Option.some Jvm.ClassFile.FieldType.boolean)) ∈ tb := tb_mem 505 (by decide +kernel) rfl
theorem tw_506 : (Jvm.Cond.methodLink "BallastTrainLaw" (33 : Nat) ({ cls := "BallastTrain", name := "set", desc := "(II)I" } : Jvm.MethodName)) ∈ tb := tb_mem 506 (by decide +kernel) rfl
theorem tw_507 : (Jvm.Cond.instanceMethod ({ cls := "BallastTrain", name := "set", desc := "(II)I" } : Jvm.MethodName)) ∈ tb := tb_mem 507 (by decide +kernel) rfl
theorem tw_508 : (Jvm.Cond.selects "BallastTrain" ({ cls := "BallastTrain", name := "set", desc := "(II)I" } : Jvm.MethodName) ({ cls := "BallastTrain", name := "set", desc := "(II)I" } : Jvm.MethodName)) ∈ tb := tb_mem 508 (by decide +kernel) rfl
theorem tw_509 : (Jvm.Cond.code ({ cls := "BallastTrain", name := "set", desc := "(II)I" } : Jvm.MethodName) prog_1_method_5_code (4 : Nat) (Option.some Jvm.ClassFile.FieldType.int)) ∈ tb := tb_mem 509 (by decide +kernel) rfl
theorem tw_510 : (Jvm.Cond.fieldLink "BallastTrain" (51 : Nat) "BallastTrain" "LEAST_SETTING" "[I") ∈ tb := tb_mem 510 (by decide +kernel) rfl
theorem tw_512 : (Jvm.Cond.fieldLink "BallastTrain" (55 : Nat) "BallastTrain" "MOST_SETTING" "[I") ∈ tb := tb_mem 512 (by decide +kernel) rfl
theorem tw_514 : (Jvm.Cond.methodLink "BallastTrainLaw" (104 : Nat) ({ cls := "BallastTrainLaw", name := "loads", desc := "(LBallastTrain;[III)Z" } : Jvm.MethodName)) ∈ tb := tb_mem 514 (by decide +kernel) rfl
theorem tw_515 : (Jvm.Cond.static ({ cls := "BallastTrainLaw", name := "loads", desc := "(LBallastTrain;[III)Z" } : Jvm.MethodName)) ∈ tb := tb_mem 515 (by decide +kernel) rfl
theorem tw_516 : (Jvm.Cond.code ({ cls := "BallastTrainLaw", name := "loads", desc := "(LBallastTrain;[III)Z" } : Jvm.MethodName) method_16_code (4 : Nat) (Option.some Jvm.ClassFile.FieldType.boolean)) ∈ tb := tb_mem 516 (by decide +kernel) rfl
theorem tw_517 : (Jvm.Cond.methodLink "BallastTrainLaw" (122 : Nat) ({ cls := "BallastTrainLaw", name := "doors", desc := "(LBallastTrain;[IIII)Z" } : Jvm.MethodName)) ∈ tb := tb_mem 517 (by decide +kernel) rfl
theorem tw_518 : (Jvm.Cond.static ({ cls := "BallastTrainLaw", name := "doors", desc := "(LBallastTrain;[IIII)Z" } : Jvm.MethodName)) ∈ tb := tb_mem 518 (by decide +kernel) rfl
theorem tw_519 : (Jvm.Cond.code ({ cls := "BallastTrainLaw", name := "doors", desc := "(LBallastTrain;[IIII)Z" } : Jvm.MethodName) method_17_code (6 : Nat) (Option.some Jvm.ClassFile.FieldType.boolean)) ∈ tb := tb_mem 519 (by decide +kernel) rfl
theorem tw_520 : (Jvm.Cond.methodLink "BallastTrainLaw" (15 : Nat) ({ cls := "BallastTrainLaw", name := "moves", desc := "([IIII)V" } : Jvm.MethodName)) ∈ tb := tb_mem 520 (by decide +kernel) rfl
theorem tw_521 : (Jvm.Cond.static ({ cls := "BallastTrainLaw", name := "moves", desc := "([IIII)V" } : Jvm.MethodName)) ∈ tb := tb_mem 521 (by decide +kernel) rfl
theorem tw_522 : (Jvm.Cond.code ({ cls := "BallastTrainLaw", name := "moves", desc := "([IIII)V" } : Jvm.MethodName) method_8_code (6 : Nat) (Option.none : Option Jvm.ClassFile.FieldType)) ∈ tb := tb_mem 522 (by decide +kernel) rfl
theorem tw_523 : (Jvm.Cond.methodLink "BallastTrainLaw" (119 : Nat) ({ cls := "BallastTrainLaw", name := "wishes", desc := "(LBallastTrain;[II)Z" } : Jvm.MethodName)) ∈ tb := tb_mem 523 (by decide +kernel) rfl
theorem tw_524 : (Jvm.Cond.static ({ cls := "BallastTrainLaw", name := "wishes", desc := "(LBallastTrain;[II)Z" } : Jvm.MethodName)) ∈ tb := tb_mem 524 (by decide +kernel) rfl
theorem tw_525 : (Jvm.Cond.code ({ cls := "BallastTrainLaw", name := "wishes", desc := "(LBallastTrain;[II)Z" } : Jvm.MethodName) method_18_code (4 : Nat) (Option.some Jvm.ClassFile.FieldType.boolean)) ∈ tb := tb_mem 525 (by decide +kernel) rfl
theorem tw_526 : (Jvm.Cond.methodLink "BallastTrainLaw" (46 : Nat) ({ cls := "BallastTrain", name := "wish", desc := "(I)I" } : Jvm.MethodName)) ∈ tb := tb_mem 526 (by decide +kernel) rfl
theorem tw_527 : (Jvm.Cond.instanceMethod ({ cls := "BallastTrain", name := "wish", desc := "(I)I" } : Jvm.MethodName)) ∈ tb := tb_mem 527 (by decide +kernel) rfl
theorem tw_528 : (Jvm.Cond.selects "BallastTrain" ({ cls := "BallastTrain", name := "wish", desc := "(I)I" } : Jvm.MethodName) ({ cls := "BallastTrain", name := "wish", desc := "(I)I" } : Jvm.MethodName)) ∈ tb := tb_mem 528 (by decide +kernel) rfl
theorem tw_529 : (Jvm.Cond.code ({ cls := "BallastTrain", name := "wish", desc := "(I)I" } : Jvm.MethodName) prog_1_method_9_code (3 : Nat) (Option.some Jvm.ClassFile.FieldType.int)) ∈ tb := tb_mem 529 (by decide +kernel) rfl
theorem tw_530 : (Jvm.Cond.methodLink "BallastTrainLaw" (126 : Nat) ({ cls := "BallastTrainLaw", name := "passes", desc := "(LBallastTrain;[I[I[II)Z" } : Jvm.MethodName)) ∈ tb := tb_mem 530 (by decide +kernel) rfl
theorem tw_531 : (Jvm.Cond.static ({ cls := "BallastTrainLaw", name := "passes", desc := "(LBallastTrain;[I[I[II)Z" } : Jvm.MethodName)) ∈ tb := tb_mem 531 (by decide +kernel) rfl
theorem tw_532 : (Jvm.Cond.code ({ cls := "BallastTrainLaw", name := "passes", desc := "(LBallastTrain;[I[I[II)Z" } : Jvm.MethodName) method_19_code (6 : Nat) (Option.some Jvm.ClassFile.FieldType.boolean)) ∈ tb := tb_mem 532 (by decide +kernel) rfl
theorem tw_533 : (Jvm.Cond.methodLink "BallastTrainLaw" (50 : Nat) ({ cls := "BallastTrainLaw", name := "second", desc := "([I[I[I)V" } : Jvm.MethodName)) ∈ tb := tb_mem 533 (by decide +kernel) rfl
theorem tw_534 : (Jvm.Cond.static ({ cls := "BallastTrainLaw", name := "second", desc := "([I[I[I)V" } : Jvm.MethodName)) ∈ tb := tb_mem 534 (by decide +kernel) rfl
theorem tw_535 : (Jvm.Cond.code ({ cls := "BallastTrainLaw", name := "second", desc := "([I[I[I)V" } : Jvm.MethodName) method_11_code (7 : Nat) (Option.none : Option Jvm.ClassFile.FieldType)) ∈ tb := tb_mem 535 (by decide +kernel) rfl
theorem tw_536 : (Jvm.Cond.methodLink "BallastTrainLaw" (22 : Nat) ({ cls := "BallastTrainLaw", name := "orders", desc := "([I[I)V" } : Jvm.MethodName)) ∈ tb := tb_mem 536 (by decide +kernel) rfl
theorem tw_537 : (Jvm.Cond.static ({ cls := "BallastTrainLaw", name := "orders", desc := "([I[I)V" } : Jvm.MethodName)) ∈ tb := tb_mem 537 (by decide +kernel) rfl
theorem tw_538 : (Jvm.Cond.code ({ cls := "BallastTrainLaw", name := "orders", desc := "([I[I)V" } : Jvm.MethodName) method_10_code (6 : Nat) (Option.none : Option Jvm.ClassFile.FieldType)) ∈ tb := tb_mem 538 (by decide +kernel) rfl
theorem tw_539 : (Jvm.Cond.methodLink "BallastTrainLaw" (19 : Nat) ({ cls := "BallastTrainLaw", name := "drops", desc := "([II)V" } : Jvm.MethodName)) ∈ tb := tb_mem 539 (by decide +kernel) rfl
theorem tw_540 : (Jvm.Cond.static ({ cls := "BallastTrainLaw", name := "drops", desc := "([II)V" } : Jvm.MethodName)) ∈ tb := tb_mem 540 (by decide +kernel) rfl
theorem tw_541 : (Jvm.Cond.code ({ cls := "BallastTrainLaw", name := "drops", desc := "([II)V" } : Jvm.MethodName) method_9_code (3 : Nat) (Option.none : Option Jvm.ClassFile.FieldType)) ∈ tb := tb_mem 541 (by decide +kernel) rfl
theorem tw_542 : (Jvm.Cond.methodLink "BallastTrainLaw" (26 : Nat) ({ cls := "BallastTrainLaw", name := "comes", desc := "([IIII)V" } : Jvm.MethodName)) ∈ tb := tb_mem 542 (by decide +kernel) rfl
theorem tw_543 : (Jvm.Cond.static ({ cls := "BallastTrainLaw", name := "comes", desc := "([IIII)V" } : Jvm.MethodName)) ∈ tb := tb_mem 543 (by decide +kernel) rfl
theorem tw_544 : (Jvm.Cond.code ({ cls := "BallastTrainLaw", name := "comes", desc := "([IIII)V" } : Jvm.MethodName) method_7_code (4 : Nat) (Option.none : Option Jvm.ClassFile.FieldType)) ∈ tb := tb_mem 544 (by decide +kernel) rfl
theorem tw_545 : (Jvm.Cond.methodLink "BallastTrainLaw" (94 : Nat) ({ cls := "BallastTrainLaw", name := "isTold", desc := "(LBallastTrain;[I[I[I)Z" } : Jvm.MethodName)) ∈ tb := tb_mem 545 (by decide +kernel) rfl
theorem tw_546 : (Jvm.Cond.static ({ cls := "BallastTrainLaw", name := "isTold", desc := "(LBallastTrain;[I[I[I)Z" } : Jvm.MethodName)) ∈ tb := tb_mem 546 (by decide +kernel) rfl
theorem tw_547 : (Jvm.Cond.code ({ cls := "BallastTrainLaw", name := "isTold", desc := "(LBallastTrain;[I[I[I)Z" } : Jvm.MethodName) method_20_code (8 : Nat) (Option.some Jvm.ClassFile.FieldType.boolean)) ∈ tb := tb_mem 547 (by decide +kernel) rfl
theorem tw_548 : (Jvm.Cond.methodLink "BallastTrainLaw" (63 : Nat) ({ cls := "BallastTrain", name := "height", desc := "(II)I" } : Jvm.MethodName)) ∈ tb := tb_mem 548 (by decide +kernel) rfl
theorem tw_549 : (Jvm.Cond.instanceMethod ({ cls := "BallastTrain", name := "height", desc := "(II)I" } : Jvm.MethodName)) ∈ tb := tb_mem 549 (by decide +kernel) rfl
theorem tw_550 : (Jvm.Cond.selects "BallastTrain" ({ cls := "BallastTrain", name := "height", desc := "(II)I" } : Jvm.MethodName) ({ cls := "BallastTrain", name := "height", desc := "(II)I" } : Jvm.MethodName)) ∈ tb := tb_mem 550 (by decide +kernel) rfl
theorem tw_551 : (Jvm.Cond.code ({ cls := "BallastTrain", name := "height", desc := "(II)I" } : Jvm.MethodName) prog_1_method_17_code (3 : Nat) (Option.some Jvm.ClassFile.FieldType.int)) ∈ tb := tb_mem 551 (by decide +kernel) rfl
theorem tw_552 : (Jvm.Cond.methodLink "BallastTrain" (139 : Nat) ({ cls := "BallastTrain$Track", name := "has", desc := "(II)Z" } : Jvm.MethodName)) ∈ tb := tb_mem 552 (by decide +kernel) rfl
theorem tw_553 : (Jvm.Cond.methodLink "BallastTrain" (148 : Nat) ({ cls := "BallastTrain$Track", name := "heightAt", desc := "(II)I" } : Jvm.MethodName)) ∈ tb := tb_mem 553 (by decide +kernel) rfl
theorem tw_554 : (Jvm.Cond.instanceMethod ({ cls := "BallastTrain$Track", name := "heightAt", desc := "(II)I" } : Jvm.MethodName)) ∈ tb := tb_mem 554 (by decide +kernel) rfl
theorem tw_555 : (Jvm.Cond.selects "BallastTrain$Track" ({ cls := "BallastTrain$Track", name := "heightAt", desc := "(II)I" } : Jvm.MethodName) ({ cls := "BallastTrain$Track", name := "heightAt", desc := "(II)I" } : Jvm.MethodName)) ∈ tb := tb_mem 555 (by decide +kernel) rfl
theorem tw_556 : (Jvm.Cond.code ({ cls := "BallastTrain$Track", name := "heightAt", desc := "(II)I" } : Jvm.MethodName) prog_6_method_3_code (3 : Nat) (Option.some Jvm.ClassFile.FieldType.int)) ∈ tb := tb_mem 556 (by decide +kernel) rfl
theorem tw_557 : (Jvm.Cond.methodLink "BallastTrainLaw" (115 : Nat) ({ cls := "BallastTrainLaw", name := "scrapes", desc := "(LBallastTrain;[I[IIII)Z" } : Jvm.MethodName)) ∈ tb := tb_mem 557 (by decide +kernel) rfl
theorem tw_558 : (Jvm.Cond.static ({ cls := "BallastTrainLaw", name := "scrapes", desc := "(LBallastTrain;[I[IIII)Z" } : Jvm.MethodName)) ∈ tb := tb_mem 558 (by decide +kernel) rfl
theorem tw_559 : (Jvm.Cond.code ({ cls := "BallastTrainLaw", name := "scrapes", desc := "(LBallastTrain;[I[IIII)Z" } : Jvm.MethodName) method_21_code (7 : Nat) (Option.some Jvm.ClassFile.FieldType.boolean)) ∈ tb := tb_mem 559 (by decide +kernel) rfl
theorem tw_560 : (Jvm.Cond.methodLink "BallastTrainLaw" (76 : Nat) ({ cls := "BallastTrain", name := "scrape", desc := "(III)I" } : Jvm.MethodName)) ∈ tb := tb_mem 560 (by decide +kernel) rfl
theorem tw_561 : (Jvm.Cond.instanceMethod ({ cls := "BallastTrain", name := "scrape", desc := "(III)I" } : Jvm.MethodName)) ∈ tb := tb_mem 561 (by decide +kernel) rfl
theorem tw_562 : (Jvm.Cond.selects "BallastTrain" ({ cls := "BallastTrain", name := "scrape", desc := "(III)I" } : Jvm.MethodName) ({ cls := "BallastTrain", name := "scrape", desc := "(III)I" } : Jvm.MethodName)) ∈ tb := tb_mem 562 (by decide +kernel) rfl
theorem tw_563 : (Jvm.Cond.code ({ cls := "BallastTrain", name := "scrape", desc := "(III)I" } : Jvm.MethodName) prog_1_method_13_code (5 : Nat) (Option.some Jvm.ClassFile.FieldType.int)) ∈ tb := tb_mem 563 (by decide +kernel) rfl
theorem tw_564 : (Jvm.Cond.methodLink "BallastTrain" (156 : Nat) ({ cls := "BallastTrain$Track", name := "add", desc := "(III)V" } : Jvm.MethodName)) ∈ tb := tb_mem 564 (by decide +kernel) rfl
theorem tw_565 : (Jvm.Cond.methodLink "BallastTrainLaw" (111 : Nat) ({ cls := "BallastTrainLaw", name := "setsTrain", desc := "(LBallastTrain;[II)Z" } : Jvm.MethodName)) ∈ tb := tb_mem 565 (by decide +kernel) rfl
theorem tw_566 : (Jvm.Cond.static ({ cls := "BallastTrainLaw", name := "setsTrain", desc := "(LBallastTrain;[II)Z" } : Jvm.MethodName)) ∈ tb := tb_mem 566 (by decide +kernel) rfl
theorem tw_567 : (Jvm.Cond.code ({ cls := "BallastTrainLaw", name := "setsTrain", desc := "(LBallastTrain;[II)Z" } : Jvm.MethodName) method_22_code (4 : Nat) (Option.some Jvm.ClassFile.FieldType.boolean)) ∈ tb := tb_mem 567 (by decide +kernel) rfl
theorem tw_568 : (Jvm.Cond.methodLink "BallastTrainLaw" (79 : Nat) ({ cls := "BallastTrain", name := "setTrain", desc := "(I)I" } : Jvm.MethodName)) ∈ tb := tb_mem 568 (by decide +kernel) rfl
theorem tw_569 : (Jvm.Cond.instanceMethod ({ cls := "BallastTrain", name := "setTrain", desc := "(I)I" } : Jvm.MethodName)) ∈ tb := tb_mem 569 (by decide +kernel) rfl
theorem tw_570 : (Jvm.Cond.selects "BallastTrain" ({ cls := "BallastTrain", name := "setTrain", desc := "(I)I" } : Jvm.MethodName) ({ cls := "BallastTrain", name := "setTrain", desc := "(I)I" } : Jvm.MethodName)) ∈ tb := tb_mem 570 (by decide +kernel) rfl
theorem tw_571 : (Jvm.Cond.code ({ cls := "BallastTrain", name := "setTrain", desc := "(I)I" } : Jvm.MethodName) prog_1_method_6_code (3 : Nat) (Option.some Jvm.ClassFile.FieldType.int)) ∈ tb := tb_mem 571 (by decide +kernel) rfl
theorem tw_572 : (Jvm.Cond.methodLink "BallastTrain" (75 : Nat) ({ cls := "BallastTrain$Train", name := "replace", desc := "(I)V" } : Jvm.MethodName)) ∈ tb := tb_mem 572 (by decide +kernel) rfl
theorem tw_573 : (Jvm.Cond.instanceMethod ({ cls := "BallastTrain$Train", name := "replace", desc := "(I)V" } : Jvm.MethodName)) ∈ tb := tb_mem 573 (by decide +kernel) rfl
theorem tw_574 : (Jvm.Cond.selects "BallastTrain$Train" ({ cls := "BallastTrain$Train", name := "replace", desc := "(I)V" } : Jvm.MethodName) ({ cls := "BallastTrain$Train", name := "replace", desc := "(I)V" } : Jvm.MethodName)) ∈ tb := tb_mem 574 (by decide +kernel) rfl
theorem tw_575 : (Jvm.Cond.code ({ cls := "BallastTrain$Train", name := "replace", desc := "(I)V" } : Jvm.MethodName) prog_7_method_2_code (2 : Nat) (Option.none : Option Jvm.ClassFile.FieldType)) ∈ tb := tb_mem 575 (by decide +kernel) rfl
theorem tw_584 : (Jvm.Cond.selects "[Ljava/lang/Object;" ({ cls := "java/lang/Object", name := "getClass", desc := "()Ljava/lang/Class;" } : Jvm.MethodName) ({ cls := "java/lang/Object", name := "getClass", desc := "()Ljava/lang/Class;" } : Jvm.MethodName)) ∈ tb := tb_mem 584 (by decide +kernel) rfl
theorem inb_Jx4a65c : ∀ w ∈ u_ws RJx4a65c TJx4a65c 3, w ∈ tb := by decide +kernel
theorem inb_X0 : ∀ w ∈ u_ws RX0 TX0 3, w ∈ tb := by decide +kernel
theorem inb_X2 : ∀ w ∈ u_ws RX2 TX2 9, w ∈ tb := by decide +kernel
theorem inb_X3 : ∀ w ∈ u_ws RX3 TX3 5, w ∈ tb := by decide +kernel
theorem inb_X4 : ∀ w ∈ u_ws RX4 TX4 1, w ∈ tb := by decide +kernel
theorem inb_X5 : ∀ w ∈ u_ws RX5 TX5 8, w ∈ tb := by decide +kernel
theorem inb_X6 : ∀ w ∈ u_ws RX6 TX6 4, w ∈ tb := by decide +kernel
theorem oi_X0_3 : Cond.methodLink "BallastTrain$History" 3 objectInit ∈ tb ∧ Cond.instanceMethod objectInit ∈ tb ∧ Cond.code objectInit ⟨#[0xb1]⟩ 1 none ∈ tb := ⟨tw_185, tw_29, by decide +kernel⟩
theorem cl_X0_9 : Cond.classLink "BallastTrain$History" 9 "BallastTrain$State" ∈ tb := tw_186
theorem fp_X0_11 : FP "BallastTrain$History" 11 1 0 true (.array (.object "BallastTrain$State")) := ⟨RX0, "BallastTrain$History", TX0, 3, tyX0, rfl, inb_X0, by decide, tw_189, Or.inl rfl, tyX0_ok, nmX0, rfl, fun _ => rfl, rfl⟩
theorem fp_X0_17 : FP "BallastTrain$History" 17 1 1 false .int := ⟨RX0, "BallastTrain$History", TX0, 3, tyX0, rfl, inb_X0, by decide, tw_190, Or.inl rfl, tyX0_ok, nmX0, rfl, (fun h => by cases h), rfl⟩
theorem fp_X0_21 : FP "BallastTrain$History" 21 1 2 false .int := ⟨RX0, "BallastTrain$History", TX0, 3, tyX0, rfl, inb_X0, by decide, tw_191, Or.inl rfl, tyX0_ok, nmX0, rfl, (fun h => by cases h), rfl⟩
theorem fd_X0_11 : FD "BallastTrain$History" 11 1 0 := ⟨RX0, "BallastTrain$History", TX0, 3, rfl, inb_X0, by decide, tw_189, Or.inl rfl⟩
theorem nd_X0_9 : ND "BallastTrain$History" 9 2 9 [.null, .null, .null, .null, .int 0, .int 0, .int 0, .int 0, .int 0] := ⟨RX2, TX2, tyX2, rfl, inb_X2, tyX2_ok, tw_186, tw_82, tw_13, fun j hj => by rcases (show j = 0 ∨ j = 1 ∨ j = 2 ∨ j = 3 ∨ j = 4 ∨ j = 5 ∨ j = 6 ∨ j = 7 ∨ j = 8 by omega) with rfl | rfl | rfl | rfl | rfl | rfl | rfl | rfl | rfl <;> rfl⟩
theorem min_X0_24 : MIN "BallastTrain$History" 24 yX2_init cX2_init 1 0 := ⟨⟨by decide +kernel, tw_84, rfl, tw_13, tw_85⟩, by decide, by decide, by decide +kernel⟩
theorem fd_X0_17 : FD "BallastTrain$History" 17 1 1 := ⟨RX0, "BallastTrain$History", TX0, 3, rfl, inb_X0, by decide, tw_190, Or.inl rfl⟩
theorem ms_X0_25 : MS "BallastTrain$History" 25 yJ9_floorMod_7cf53 cJ9_floorMod_7cf53 3 (some .int) 2 := ⟨⟨tw_228, tw_229, tw_18, tw_230⟩, by decide, by decide, by decide +kernel⟩
theorem mv_X0_31 : MV "BallastTrain$History" 31 yX2_copyFrom cX2_copyFrom 2 none 1 := ⟨⟨tw_231, tw_232, tw_233, tw_13, tw_234⟩, by decide, by decide, by decide +kernel⟩
theorem fd_X0_21 : FD "BallastTrain$History" 21 1 2 := ⟨RX0, "BallastTrain$History", TX0, 3, rfl, inb_X0, by decide, tw_191, Or.inl rfl⟩
theorem mm_X0_35 : Cond.methodLink "BallastTrain$History" 35 Lib.Math.min.name ∈ tb ∧ Cond.static Lib.Math.min.name ∈ tb ∧ Cond.initialized "java/lang/Math" ∈ tb ∧ Cond.code Lib.Math.min.name Lib.Math.min.code 2 (some .int) ∈ tb := ⟨tw_325, tw_239, tw_18, by decide +kernel⟩
theorem fd_X1_27 : FD "BallastTrain$Order" 27 5 1 := ⟨RX5, "BallastTrain$Train", TX5, 8, rfl, inb_X5, by decide, tw_111, Or.inl rfl⟩
theorem mv_X1_32 : MV "BallastTrain$Order" 32 yX5_hasDoor cX5_hasDoor 3 (some .boolean) 2 := ⟨⟨tw_384, tw_331, tw_332, tw_15, tw_333⟩, by decide, by decide, by decide +kernel⟩
theorem mv_X1_36 : MV "BallastTrain$Order" 36 yX5_cellBelow cX5_cellBelow 2 (some .int) 1 := ⟨⟨tw_385, tw_386, tw_387, tw_15, tw_388⟩, by decide, by decide, by decide +kernel⟩
theorem fp_X1_40 : FP "BallastTrain$Order" 40 5 3 false .int := ⟨RX5, "BallastTrain$Train", TX5, 8, tyX5, rfl, inb_X5, by decide, tw_116, Or.inl rfl, tyX5_ok, nmX5, rfl, (fun h => by cases h), rfl⟩
theorem mv_X1_43 : MV "BallastTrain$Order" 43 yX5_openDoor cX5_openDoor 4 none 3 := ⟨⟨tw_393, tw_344, tw_345, tw_15, tw_346⟩, by decide, by decide, by decide +kernel⟩
theorem mv_X1_47 : MV "BallastTrain$Order" 47 yX5_closeDoor cX5_closeDoor 4 none 3 := ⟨⟨tw_394, tw_340, tw_341, tw_15, tw_342⟩, by decide, by decide, by decide +kernel⟩
theorem oi_X2_3 : Cond.methodLink "BallastTrain$State" 3 objectInit ∈ tb ∧ Cond.instanceMethod objectInit ∈ tb ∧ Cond.code objectInit ⟨#[0xb1]⟩ 1 none ∈ tb := ⟨tw_86, tw_29, by decide +kernel⟩
theorem fp_X2_9 : FP "BallastTrain$State" 9 2 0 true (.array .int) := ⟨RX2, "BallastTrain$State", TX2, 9, tyX2, rfl, inb_X2, by decide, tw_143, Or.inl rfl, tyX2_ok, nmX2, rfl, fun _ => rfl, rfl⟩
theorem nd_X2_15 : ND "BallastTrain$State" 15 4 1 [.null] := ⟨RX4, TX4, tyX4, rfl, inb_X4, tyX4_ok, tw_87, tw_88, tw_14, fun j hj => by rcases (show j = 0 by omega) with rfl <;> rfl⟩
theorem min_X2_17 : MIN "BallastTrain$State" 17 yX4_init cX4_init 1 0 := ⟨⟨by decide +kernel, tw_90, rfl, tw_14, tw_91⟩, by decide, by decide, by decide +kernel⟩
theorem fp_X2_18 : FP "BallastTrain$State" 18 2 1 true (.object "BallastTrain$Track") := ⟨RX2, "BallastTrain$State", TX2, 9, tyX2, rfl, inb_X2, by decide, tw_145, Or.inl rfl, tyX2_ok, nmX2, rfl, fun _ => rfl, rfl⟩
theorem nd_X2_22 : ND "BallastTrain$State" 22 5 8 [.int 0, .int 0, .int 0, .int 0, .null, .null, .null, .null] := ⟨RX5, TX5, tyX5, rfl, inb_X5, tyX5_ok, tw_98, tw_99, tw_15, fun j hj => by rcases (show j = 0 ∨ j = 1 ∨ j = 2 ∨ j = 3 ∨ j = 4 ∨ j = 5 ∨ j = 6 ∨ j = 7 by omega) with rfl | rfl | rfl | rfl | rfl | rfl | rfl | rfl <;> rfl⟩
theorem mi_X2_24 : MI "BallastTrain$State" 24 yX5_init cX5_init 1 0 := ⟨⟨tw_100, tw_101, rfl, tw_15, tw_102⟩, by decide, by decide, by decide +kernel⟩
theorem fp_X2_25 : FP "BallastTrain$State" 25 2 2 true (.object "BallastTrain$Train") := ⟨RX2, "BallastTrain$State", TX2, 9, tyX2, rfl, inb_X2, by decide, tw_147, Or.inl rfl, tyX2_ok, nmX2, rfl, fun _ => rfl, rfl⟩
theorem nd_X2_29 : ND "BallastTrain$State" 29 0 3 [.int 0, .null, .int 0] := ⟨RJx4a65c, TJx4a65c, tyJx4a65c, rfl, inb_Jx4a65c, tyJx4a65c_ok, tw_141, tw_38, tw_12, fun j hj => by rcases (show j = 0 ∨ j = 1 ∨ j = 2 by omega) with rfl | rfl | rfl <;> rfl⟩
theorem mi_X2_31 : MI "BallastTrain$State" 31 yJx4a65c_init_da8c8 cJx4a65c_init_da8c8 1 0 := ⟨⟨tw_142, tw_40, rfl, tw_12, tw_41⟩, by decide, by decide, by decide +kernel⟩
theorem fp_X2_32 : FP "BallastTrain$State" 32 2 3 true (.object "java/util/ArrayList") := ⟨RX2, "BallastTrain$State", TX2, 9, tyX2, rfl, inb_X2, by decide, tw_149, Or.inl rfl, tyX2_ok, nmX2, rfl, fun _ => rfl, rfl⟩
theorem fp_X2_36 : FP "BallastTrain$State" 36 2 4 false .int := ⟨RX2, "BallastTrain$State", TX2, 9, tyX2, rfl, inb_X2, by decide, tw_151, Or.inl rfl, tyX2_ok, nmX2, rfl, (fun h => by cases h), rfl⟩
theorem fp_X2_40 : FP "BallastTrain$State" 40 2 5 false .int := ⟨RX2, "BallastTrain$State", TX2, 9, tyX2, rfl, inb_X2, by decide, tw_153, Or.inl rfl, tyX2_ok, nmX2, rfl, (fun h => by cases h), rfl⟩
theorem fp_X2_43 : FP "BallastTrain$State" 43 2 6 false .int := ⟨RX2, "BallastTrain$State", TX2, 9, tyX2, rfl, inb_X2, by decide, tw_155, Or.inl rfl, tyX2_ok, nmX2, rfl, (fun h => by cases h), rfl⟩
theorem fp_X2_46 : FP "BallastTrain$State" 46 2 7 false .int := ⟨RX2, "BallastTrain$State", TX2, 9, tyX2, rfl, inb_X2, by decide, tw_157, Or.inl rfl, tyX2_ok, nmX2, rfl, (fun h => by cases h), rfl⟩
theorem fp_X2_49 : FP "BallastTrain$State" 49 2 8 false .int := ⟨RX2, "BallastTrain$State", TX2, 9, tyX2, rfl, inb_X2, by decide, tw_159, Or.inl rfl, tyX2_ok, nmX2, rfl, (fun h => by cases h), rfl⟩
theorem fd_X2_9 : FD "BallastTrain$State" 9 2 0 := ⟨RX2, "BallastTrain$State", TX2, 9, rfl, inb_X2, by decide, tw_143, Or.inl rfl⟩
theorem msn_X2_52 : MSN "BallastTrain$State" 52 yX6_copyRow cX6_copyRow 2 none 2 := ⟨⟨by decide +kernel, tw_236, tw_8, tw_237⟩, by decide, by decide, by decide +kernel⟩
theorem fd_X2_18 : FD "BallastTrain$State" 18 2 1 := ⟨RX2, "BallastTrain$State", TX2, 9, rfl, inb_X2, by decide, tw_145, Or.inl rfl⟩
theorem fd_X2_56 : FD "BallastTrain$State" 56 4 0 := ⟨RX4, "BallastTrain$Track", TX4, 1, rfl, inb_X4, by decide, tw_94, Or.inl rfl⟩
theorem fd_X2_25 : FD "BallastTrain$State" 25 2 2 := ⟨RX2, "BallastTrain$State", TX2, 9, rfl, inb_X2, by decide, tw_147, Or.inl rfl⟩
theorem mv_X2_59 : MV "BallastTrain$State" 59 yX5_copyFrom cX5_copyFrom 2 none 1 := ⟨⟨tw_244, tw_245, tw_246, tw_15, tw_247⟩, by decide, by decide, by decide +kernel⟩
theorem fd_X2_32 : FD "BallastTrain$State" 32 2 3 := ⟨RX2, "BallastTrain$State", TX2, 9, rfl, inb_X2, by decide, tw_149, Or.inl rfl⟩
theorem mv_X2_63 : MV "BallastTrain$State" 63 yJx4a65c_clear_da8c8 cJx4a65c_clear_da8c8 4 none 0 := ⟨⟨tw_249, tw_250, tw_251, tw_12, tw_252⟩, by decide, by decide, by decide +kernel⟩
theorem msn_X2_66 : MSN "BallastTrain$State" 66 yX6_addAll cX6_addAll 3 none 2 := ⟨⟨by decide +kernel, tw_254, tw_8, tw_255⟩, by decide, by decide, by decide +kernel⟩
theorem fd_X2_36 : FD "BallastTrain$State" 36 2 4 := ⟨RX2, "BallastTrain$State", TX2, 9, rfl, inb_X2, by decide, tw_151, Or.inl rfl⟩
theorem fd_X2_40 : FD "BallastTrain$State" 40 2 5 := ⟨RX2, "BallastTrain$State", TX2, 9, rfl, inb_X2, by decide, tw_153, Or.inl rfl⟩
theorem fd_X2_43 : FD "BallastTrain$State" 43 2 6 := ⟨RX2, "BallastTrain$State", TX2, 9, rfl, inb_X2, by decide, tw_155, Or.inl rfl⟩
theorem fd_X2_46 : FD "BallastTrain$State" 46 2 7 := ⟨RX2, "BallastTrain$State", TX2, 9, rfl, inb_X2, by decide, tw_157, Or.inl rfl⟩
theorem fd_X2_49 : FD "BallastTrain$State" 49 2 8 := ⟨RX2, "BallastTrain$State", TX2, 9, rfl, inb_X2, by decide, tw_159, Or.inl rfl⟩
theorem mv_X2_70 : MV "BallastTrain$State" 70 yX5_move cX5_move 1 none 0 := ⟨⟨tw_368, tw_369, tw_370, tw_15, tw_371⟩, by decide, by decide, by decide +kernel⟩
theorem mv_X2_73 : MV "BallastTrain$State" 73 yX2_carryOutOrders cX2_carryOutOrders 4 none 0 := ⟨⟨tw_373, tw_375, tw_4, tw_13, tw_376⟩, by decide, by decide, by decide +kernel⟩
theorem mv_X2_76 : MV "BallastTrain$State" 76 yX2_unload cX2_unload 3 none 0 := ⟨⟨tw_400, tw_402, tw_5, tw_13, tw_403⟩, by decide, by decide, by decide +kernel⟩
theorem mv_X2_79 : MV "BallastTrain$State" 79 yX4_slide cX4_slide 4 none 1 := ⟨⟨tw_421, tw_422, tw_423, tw_14, tw_424⟩, by decide, by decide, by decide +kernel⟩
theorem mv_X2_83 : MV "BallastTrain$State" 83 yX4_cutShoulders cX4_cutShoulders 5 (some .int) 1 := ⟨⟨tw_425, tw_426, tw_427, tw_14, tw_428⟩, by decide, by decide, by decide +kernel⟩
theorem mv_X2_87 : MV "BallastTrain$State" 87 yX5_closeFurther cX5_closeFurther 5 (some .int) 1 := ⟨⟨tw_429, tw_430, tw_431, tw_15, tw_432⟩, by decide, by decide, by decide +kernel⟩
theorem fd_X2_90 : FD "BallastTrain$State" 90 5 0 := ⟨RX5, "BallastTrain$Train", TX5, 8, rfl, inb_X5, by decide, tw_108, Or.inl rfl⟩
theorem mv_X2_93 : MV "BallastTrain$State" 93 yX5_cellBelow cX5_cellBelow 2 (some .int) 1 := ⟨⟨tw_404, tw_386, tw_387, tw_15, tw_388⟩, by decide, by decide, by decide +kernel⟩
theorem mv_X2_96 : MV "BallastTrain$State" 96 yX5_drop cX5_drop 4 (some .int) 2 := ⟨⟨tw_405, tw_406, tw_407, tw_15, tw_408⟩, by decide, by decide, by decide +kernel⟩
theorem mv_X2_100 : MV "BallastTrain$State" 100 yX2_land cX2_land 4 none 3 := ⟨⟨tw_409, tw_411, tw_6, tw_13, tw_412⟩, by decide, by decide, by decide +kernel⟩
theorem ms_X2_104 : MS "BallastTrain$State" 104 yX4_has cX4_has 2 (some .boolean) 2 := ⟨⟨tw_413, tw_414, tw_14, tw_415⟩, by decide, by decide, by decide +kernel⟩
theorem mv_X2_108 : MV "BallastTrain$State" 108 yX4_add cX4_add 4 none 3 := ⟨⟨tw_416, tw_417, tw_418, tw_14, tw_419⟩, by decide, by decide, by decide +kernel⟩
theorem mv_X2_111 : MV "BallastTrain$State" 111 yJx4a65c_size_8abf5 cJx4a65c_size_8abf5 1 (some .int) 0 := ⟨⟨tw_377, tw_257, tw_258, tw_12, tw_259⟩, by decide, by decide, by decide +kernel⟩
theorem mv_X2_115 : MV "BallastTrain$State" 115 yJx4a65c_get_915e3 cJx4a65c_get_915e3 2 (some (.object "java/lang/Object")) 1 := ⟨⟨tw_378, tw_261, tw_262, tw_12, tw_263⟩, by decide, by decide, by decide +kernel⟩
theorem cl_X2_119 : Cond.classLink "BallastTrain$State" 119 "BallastTrain$Order" ∈ tb := tw_379
theorem mv_X2_129 : MV "BallastTrain$State" 129 yJx4a65c_set_bcc79 cJx4a65c_set_bcc79 4 (some (.object "java/lang/Object")) 2 := ⟨⟨tw_395, tw_396, tw_397, tw_12, tw_398⟩, by decide, by decide, by decide +kernel⟩
theorem mv_X2_133 : MV "BallastTrain$State" 133 yJx4a65c_remove_915e3 cJx4a65c_remove_915e3 4 (some (.object "java/lang/Object")) 1 := ⟨⟨tw_399, tw_352, tw_353, tw_12, tw_354⟩, by decide, by decide, by decide +kernel⟩
theorem oi_X3_3 : Cond.methodLink "BallastTrain$Text" 3 objectInit ∈ tb ∧ Cond.instanceMethod objectInit ∈ tb ∧ Cond.code objectInit ⟨#[0xb1]⟩ 1 none ∈ tb := ⟨tw_36, tw_29, by decide +kernel⟩
theorem fp_X3_9 : FP "BallastTrain$Text" 9 3 0 true (.array .int) := ⟨RX3, "BallastTrain$Text", TX3, 5, tyX3, rfl, inb_X3, by decide, tw_64, Or.inl rfl, tyX3_ok, nmX3, rfl, fun _ => rfl, rfl⟩
theorem fp_X3_15 : FP "BallastTrain$Text" 15 3 1 false .int := ⟨RX3, "BallastTrain$Text", TX3, 5, tyX3, rfl, inb_X3, by decide, tw_65, Or.inl rfl, tyX3_ok, nmX3, rfl, (fun h => by cases h), rfl⟩
theorem nd_X3_19 : ND "BallastTrain$Text" 19 0 3 [.int 0, .null, .int 0] := ⟨RJx4a65c, TJx4a65c, tyJx4a65c, rfl, inb_Jx4a65c, tyJx4a65c_ok, tw_37, tw_38, tw_12, fun j hj => by rcases (show j = 0 ∨ j = 1 ∨ j = 2 by omega) with rfl | rfl | rfl <;> rfl⟩
theorem mi_X3_21 : MI "BallastTrain$Text" 21 yJx4a65c_init_da8c8 cJx4a65c_init_da8c8 1 0 := ⟨⟨tw_39, tw_40, rfl, tw_12, tw_41⟩, by decide, by decide, by decide +kernel⟩
theorem fp_X3_22 : FP "BallastTrain$Text" 22 3 2 true (.object "java/util/ArrayList") := ⟨RX3, "BallastTrain$Text", TX3, 5, tyX3, rfl, inb_X3, by decide, tw_67, Or.inl rfl, tyX3_ok, nmX3, rfl, fun _ => rfl, rfl⟩
theorem fp_X3_26 : FP "BallastTrain$Text" 26 3 3 false .int := ⟨RX3, "BallastTrain$Text", TX3, 5, tyX3, rfl, inb_X3, by decide, tw_68, Or.inl rfl, tyX3_ok, nmX3, rfl, (fun h => by cases h), rfl⟩
theorem fp_X3_29 : FP "BallastTrain$Text" 29 3 4 false .int := ⟨RX3, "BallastTrain$Text", TX3, 5, tyX3, rfl, inb_X3, by decide, tw_69, Or.inl rfl, tyX3_ok, nmX3, rfl, (fun h => by cases h), rfl⟩
theorem oi_X4_3 : Cond.methodLink "BallastTrain$Track" 3 objectInit ∈ tb ∧ Cond.instanceMethod objectInit ∈ tb ∧ Cond.code objectInit ⟨#[0xb1]⟩ 1 none ∈ tb := ⟨tw_92, tw_29, by decide +kernel⟩
theorem fp_X4_9 : FP "BallastTrain$Track" 9 4 0 true (.array .int) := ⟨RX4, "BallastTrain$Track", TX4, 1, tyX4, rfl, inb_X4, by decide, tw_93, Or.inl rfl, tyX4_ok, nmX4, rfl, fun _ => rfl, rfl⟩
theorem ms_X4_15 : MS "BallastTrain$Track" 15 yX4_has cX4_has 2 (some .boolean) 2 := ⟨⟨tw_420, tw_414, tw_14, tw_415⟩, by decide, by decide, by decide +kernel⟩
theorem fd_X4_9 : FD "BallastTrain$Track" 9 4 0 := ⟨RX4, "BallastTrain$Track", TX4, 1, rfl, inb_X4, by decide, tw_93, Or.inl rfl⟩
theorem msn_X4_19 : MSN "BallastTrain$Track" 19 yX6_sum cX6_sum 6 (some .int) 1 := ⟨⟨by decide +kernel, tw_473, tw_8, tw_474⟩, by decide, by decide, by decide +kernel⟩
theorem oi_X5_3 : Cond.methodLink "BallastTrain$Train" 3 objectInit ∈ tb ∧ Cond.instanceMethod objectInit ∈ tb ∧ Cond.code objectInit ⟨#[0xb1]⟩ 1 none ∈ tb := ⟨tw_103, tw_29, by decide +kernel⟩
theorem fp_X5_9 : FP "BallastTrain$Train" 9 5 0 false .int := ⟨RX5, "BallastTrain$Train", TX5, 8, tyX5, rfl, inb_X5, by decide, tw_107, Or.inl rfl, tyX5_ok, nmX5, rfl, (fun h => by cases h), rfl⟩
theorem fp_X5_15 : FP "BallastTrain$Train" 15 5 1 false .int := ⟨RX5, "BallastTrain$Train", TX5, 8, tyX5, rfl, inb_X5, by decide, tw_110, Or.inl rfl, tyX5_ok, nmX5, rfl, (fun h => by cases h), rfl⟩
theorem fp_X5_18 : FP "BallastTrain$Train" 18 5 2 false .int := ⟨RX5, "BallastTrain$Train", TX5, 8, tyX5, rfl, inb_X5, by decide, tw_113, Or.inl rfl, tyX5_ok, nmX5, rfl, (fun h => by cases h), rfl⟩
theorem fp_X5_21 : FP "BallastTrain$Train" 21 5 3 false .int := ⟨RX5, "BallastTrain$Train", TX5, 8, tyX5, rfl, inb_X5, by decide, tw_115, Or.inl rfl, tyX5_ok, nmX5, rfl, (fun h => by cases h), rfl⟩
theorem fp_X5_24 : FP "BallastTrain$Train" 24 5 4 true (.array .int) := ⟨RX5, "BallastTrain$Train", TX5, 8, tyX5, rfl, inb_X5, by decide, tw_118, Or.inl rfl, tyX5_ok, nmX5, rfl, fun _ => rfl, rfl⟩
theorem fp_X5_28 : FP "BallastTrain$Train" 28 5 5 true (.array .int) := ⟨RX5, "BallastTrain$Train", TX5, 8, tyX5, rfl, inb_X5, by decide, tw_120, Or.inl rfl, tyX5_ok, nmX5, rfl, fun _ => rfl, rfl⟩
theorem fp_X5_31 : FP "BallastTrain$Train" 31 5 6 true (.array .int) := ⟨RX5, "BallastTrain$Train", TX5, 8, tyX5, rfl, inb_X5, by decide, tw_122, Or.inl rfl, tyX5_ok, nmX5, rfl, fun _ => rfl, rfl⟩
theorem fp_X5_34 : FP "BallastTrain$Train" 34 5 7 true (.array .int) := ⟨RX5, "BallastTrain$Train", TX5, 8, tyX5, rfl, inb_X5, by decide, tw_123, Or.inl rfl, tyX5_ok, nmX5, rfl, fun _ => rfl, rfl⟩
theorem fd_X5_34 : FD "BallastTrain$Train" 34 5 7 := ⟨RX5, "BallastTrain$Train", TX5, 8, rfl, inb_X5, by decide, tw_123, Or.inl rfl⟩
theorem ms_X5_37 : MS "BallastTrain$Train" 37 yJ7_fill_53178 cJ7_fill_53178 4 none 2 := ⟨⟨tw_104, tw_105, tw_16, tw_106⟩, by decide, by decide, by decide +kernel⟩
theorem fd_X5_24 : FD "BallastTrain$Train" 24 5 4 := ⟨RX5, "BallastTrain$Train", TX5, 8, rfl, inb_X5, by decide, tw_118, Or.inl rfl⟩
theorem fd_X5_28 : FD "BallastTrain$Train" 28 5 5 := ⟨RX5, "BallastTrain$Train", TX5, 8, rfl, inb_X5, by decide, tw_120, Or.inl rfl⟩
theorem fd_X5_31 : FD "BallastTrain$Train" 31 5 6 := ⟨RX5, "BallastTrain$Train", TX5, 8, rfl, inb_X5, by decide, tw_122, Or.inl rfl⟩
theorem fd_X5_9 : FD "BallastTrain$Train" 9 5 0 := ⟨RX5, "BallastTrain$Train", TX5, 8, rfl, inb_X5, by decide, tw_107, Or.inl rfl⟩
theorem fd_X5_15 : FD "BallastTrain$Train" 15 5 1 := ⟨RX5, "BallastTrain$Train", TX5, 8, rfl, inb_X5, by decide, tw_110, Or.inl rfl⟩
theorem fd_X5_18 : FD "BallastTrain$Train" 18 5 2 := ⟨RX5, "BallastTrain$Train", TX5, 8, rfl, inb_X5, by decide, tw_113, Or.inl rfl⟩
theorem fd_X5_21 : FD "BallastTrain$Train" 21 5 3 := ⟨RX5, "BallastTrain$Train", TX5, 8, rfl, inb_X5, by decide, tw_115, Or.inl rfl⟩
theorem msn_X5_43 : MSN "BallastTrain$Train" 43 yX6_copyRow cX6_copyRow 2 none 2 := ⟨⟨by decide +kernel, tw_236, tw_8, tw_237⟩, by decide, by decide, by decide +kernel⟩
theorem mv_X5_47 : MV "BallastTrain$Train" 47 yX5_hasDoor cX5_hasDoor 3 (some .boolean) 2 := ⟨⟨tw_338, tw_331, tw_332, tw_15, tw_333⟩, by decide, by decide, by decide +kernel⟩
theorem msn_X5_51 : MSN "BallastTrain$Train" 51 yX6_sum cX6_sum 6 (some .int) 1 := ⟨⟨by decide +kernel, tw_473, tw_8, tw_474⟩, by decide, by decide, by decide +kernel⟩
theorem mv_X5_55 : MV "BallastTrain$Train" 55 yX5_levelOf cX5_levelOf 3 (some .int) 2 := ⟨⟨tw_450, tw_335, tw_336, tw_15, tw_337⟩, by decide, by decide, by decide +kernel⟩
theorem mv_X5_59 : MV "BallastTrain$Train" 59 yX5_restOf cX5_restOf 3 (some .int) 2 := ⟨⟨tw_455, tw_456, tw_457, tw_15, tw_458⟩, by decide, by decide, by decide +kernel⟩
theorem mm_X5_62 : Cond.methodLink "BallastTrain$Train" 62 Lib.Math.min.name ∈ tb ∧ Cond.static Lib.Math.min.name ∈ tb ∧ Cond.initialized "java/lang/Math" ∈ tb ∧ Cond.code Lib.Math.min.name Lib.Math.min.code 2 (some .int) ∈ tb := ⟨tw_372, tw_239, tw_18, by decide +kernel⟩
theorem oi_X6_1 : Cond.methodLink "BallastTrain" 1 objectInit ∈ tb ∧ Cond.instanceMethod objectInit ∈ tb ∧ Cond.code objectInit ⟨#[0xb1]⟩ 1 none ∈ tb := ⟨tw_28, tw_29, by decide +kernel⟩
theorem nd_X6_7 : ND "BallastTrain" 7 3 5 [.null, .int 0, .null, .int 0, .int 0] := ⟨RX3, TX3, tyX3, rfl, inb_X3, tyX3_ok, tw_31, tw_32, tw_9, fun j hj => by rcases (show j = 0 ∨ j = 1 ∨ j = 2 ∨ j = 3 ∨ j = 4 by omega) with rfl | rfl | rfl | rfl | rfl <;> rfl⟩
theorem min_X6_9 : MIN "BallastTrain" 9 yX3_init cX3_init 1 0 := ⟨⟨by decide +kernel, tw_34, rfl, tw_9, tw_35⟩, by decide, by decide, by decide +kernel⟩
theorem fp_X6_10 : FP "BallastTrain" 10 6 0 true (.object "BallastTrain$Text") := ⟨RX6, "BallastTrain", TX6, 4, tyX6, rfl, inb_X6, by decide, tw_200, Or.inl rfl, tyX6_ok, nmX6, rfl, fun _ => rfl, rfl⟩
theorem nd_X6_16 : ND "BallastTrain" 16 2 9 [.null, .null, .null, .null, .int 0, .int 0, .int 0, .int 0, .int 0] := ⟨RX2, TX2, tyX2, rfl, inb_X2, tyX2_ok, tw_81, tw_82, tw_13, fun j hj => by rcases (show j = 0 ∨ j = 1 ∨ j = 2 ∨ j = 3 ∨ j = 4 ∨ j = 5 ∨ j = 6 ∨ j = 7 ∨ j = 8 by omega) with rfl | rfl | rfl | rfl | rfl | rfl | rfl | rfl | rfl <;> rfl⟩
theorem min_X6_18 : MIN "BallastTrain" 18 yX2_init cX2_init 1 0 := ⟨⟨by decide +kernel, tw_84, rfl, tw_13, tw_85⟩, by decide, by decide, by decide +kernel⟩
theorem fp_X6_19 : FP "BallastTrain" 19 6 1 true (.object "BallastTrain$State") := ⟨RX6, "BallastTrain", TX6, 4, tyX6, rfl, inb_X6, by decide, tw_201, Or.inl rfl, tyX6_ok, nmX6, rfl, fun _ => rfl, rfl⟩
theorem fp_X6_23 : FP "BallastTrain" 23 6 2 true (.object "BallastTrain$State") := ⟨RX6, "BallastTrain", TX6, 4, tyX6, rfl, inb_X6, by decide, tw_202, Or.inl rfl, tyX6_ok, nmX6, rfl, fun _ => rfl, rfl⟩
theorem nd_X6_26 : ND "BallastTrain" 26 1 3 [.null, .int 0, .int 0] := ⟨RX0, TX0, tyX0, rfl, inb_X0, tyX0_ok, tw_180, tw_181, tw_17, fun j hj => by rcases (show j = 0 ∨ j = 1 ∨ j = 2 by omega) with rfl | rfl | rfl <;> rfl⟩
theorem mi_X6_28 : MI "BallastTrain" 28 yX0_init cX0_init 2 0 := ⟨⟨tw_182, tw_183, rfl, tw_17, tw_184⟩, by decide, by decide, by decide +kernel⟩
theorem fp_X6_29 : FP "BallastTrain" 29 6 3 true (.object "BallastTrain$History") := ⟨RX6, "BallastTrain", TX6, 4, tyX6, rfl, inb_X6, by decide, tw_203, Or.inl rfl, tyX6_ok, nmX6, rfl, fun _ => rfl, rfl⟩
theorem ms_X6_33 : MS "BallastTrain" 33 yX6_isWithin cX6_isWithin 3 (some .boolean) 3 := ⟨⟨tw_221, tw_222, tw_8, tw_223⟩, by decide, by decide, by decide +kernel⟩
theorem gs_X6_51 : Cond.fieldLink "BallastTrain" 51 "BallastTrain" "LEAST_SETTING" "[I" ∈ tb := tw_510
theorem gs_X6_55 : Cond.fieldLink "BallastTrain" 55 "BallastTrain" "MOST_SETTING" "[I" ∈ tb := tw_512
theorem fd_X6_29 : FD "BallastTrain" 29 6 3 := ⟨RX6, "BallastTrain", TX6, 4, rfl, inb_X6, by decide, tw_203, Or.inl rfl⟩
theorem fd_X6_19 : FD "BallastTrain" 19 6 1 := ⟨RX6, "BallastTrain", TX6, 4, rfl, inb_X6, by decide, tw_201, Or.inl rfl⟩
theorem mv_X6_58 : MV "BallastTrain" 58 yX0_keep cX0_keep 2 none 1 := ⟨⟨tw_224, tw_225, tw_226, tw_17, tw_227⟩, by decide, by decide, by decide +kernel⟩
theorem fd_X6_62 : FD "BallastTrain" 62 2 0 := ⟨RX2, "BallastTrain$State", TX2, 9, rfl, inb_X2, by decide, tw_144, Or.inl rfl⟩
theorem fd_X6_65 : FD "BallastTrain" 65 2 2 := ⟨RX2, "BallastTrain$State", TX2, 9, rfl, inb_X2, by decide, tw_148, Or.inl rfl⟩
theorem mv_X6_69 : MV "BallastTrain" 69 yX5_units cX5_units 1 (some .int) 0 := ⟨⟨tw_468, tw_469, tw_470, tw_15, tw_471⟩, by decide, by decide, by decide +kernel⟩
theorem mv_X6_75 : MV "BallastTrain" 75 yX5_replace cX5_replace 2 none 1 := ⟨⟨tw_572, tw_573, tw_574, tw_15, tw_575⟩, by decide, by decide, by decide +kernel⟩
theorem fd_X6_79 : FD "BallastTrain" 79 2 8 := ⟨RX2, "BallastTrain$State", TX2, 9, rfl, inb_X2, by decide, tw_160, Or.inl rfl⟩
theorem fp_X6_79 : FP "BallastTrain" 79 2 8 false .int := ⟨RX2, "BallastTrain$State", TX2, 9, tyX2, rfl, inb_X2, by decide, tw_160, Or.inl rfl, tyX2_ok, nmX2, rfl, (fun h => by cases h), rfl⟩
theorem mv_X6_82 : MV "BallastTrain" 82 yX5_hasWagon cX5_hasWagon 2 (some .boolean) 1 := ⟨⟨tw_217, tw_218, tw_219, tw_15, tw_220⟩, by decide, by decide, by decide +kernel⟩
theorem fd_X6_85 : FD "BallastTrain" 85 5 2 := ⟨RX5, "BallastTrain$Train", TX5, 8, rfl, inb_X5, by decide, tw_114, Or.inl rfl⟩
theorem fd_X6_88 : FD "BallastTrain" 88 5 4 := ⟨RX5, "BallastTrain$Train", TX5, 8, rfl, inb_X5, by decide, tw_119, Or.inl rfl⟩
theorem fd_X6_91 : FD "BallastTrain" 91 2 6 := ⟨RX2, "BallastTrain$State", TX2, 9, rfl, inb_X2, by decide, tw_156, Or.inl rfl⟩
theorem fp_X6_91 : FP "BallastTrain" 91 2 6 false .int := ⟨RX2, "BallastTrain$State", TX2, 9, tyX2, rfl, inb_X2, by decide, tw_156, Or.inl rfl, tyX2_ok, nmX2, rfl, (fun h => by cases h), rfl⟩
theorem mv_X6_94 : MV "BallastTrain" 94 yX5_hasDoor cX5_hasDoor 3 (some .boolean) 2 := ⟨⟨tw_330, tw_331, tw_332, tw_15, tw_333⟩, by decide, by decide, by decide +kernel⟩
theorem mv_X6_98 : MV "BallastTrain" 98 yX5_levelOf cX5_levelOf 3 (some .int) 2 := ⟨⟨tw_334, tw_335, tw_336, tw_15, tw_337⟩, by decide, by decide, by decide +kernel⟩
theorem mv_X6_102 : MV "BallastTrain" 102 yX5_closeDoor cX5_closeDoor 4 none 3 := ⟨⟨tw_339, tw_340, tw_341, tw_15, tw_342⟩, by decide, by decide, by decide +kernel⟩
theorem mv_X6_106 : MV "BallastTrain" 106 yX5_openDoor cX5_openDoor 4 none 3 := ⟨⟨tw_343, tw_344, tw_345, tw_15, tw_346⟩, by decide, by decide, by decide +kernel⟩
theorem fd_X6_109 : FD "BallastTrain" 109 5 3 := ⟨RX5, "BallastTrain$Train", TX5, 8, rfl, inb_X5, by decide, tw_117, Or.inl rfl⟩
theorem fp_X6_109 : FP "BallastTrain" 109 5 3 false .int := ⟨RX5, "BallastTrain$Train", TX5, 8, tyX5, rfl, inb_X5, by decide, tw_117, Or.inl rfl, tyX5_ok, nmX5, rfl, (fun h => by cases h), rfl⟩
theorem fd_X6_112 : FD "BallastTrain" 112 2 3 := ⟨RX2, "BallastTrain$State", TX2, 9, rfl, inb_X2, by decide, tw_150, Or.inl rfl⟩
theorem mv_X6_116 : MV "BallastTrain" 116 yJx4a65c_size_8abf5 cJx4a65c_size_8abf5 1 (some .int) 0 := ⟨⟨tw_256, tw_257, tw_258, tw_12, tw_259⟩, by decide, by decide, by decide +kernel⟩
theorem mv_X6_126 : MV "BallastTrain" 126 yJx4a65c_remove_915e3 cJx4a65c_remove_915e3 4 (some (.object "java/lang/Object")) 1 := ⟨⟨tw_351, tw_352, tw_353, tw_12, tw_354⟩, by decide, by decide, by decide +kernel⟩
theorem fd_X6_130 : FD "BallastTrain" 130 2 4 := ⟨RX2, "BallastTrain$State", TX2, 9, rfl, inb_X2, by decide, tw_152, Or.inl rfl⟩
theorem mv_X6_133 : MV "BallastTrain" 133 yX2_passSecond cX2_passSecond 1 none 0 := ⟨⟨tw_364, tw_365, tw_366, tw_13, tw_367⟩, by decide, by decide, by decide +kernel⟩
theorem fd_X6_136 : FD "BallastTrain" 136 5 1 := ⟨RX5, "BallastTrain$Train", TX5, 8, rfl, inb_X5, by decide, tw_112, Or.inl rfl⟩
theorem ms_X6_139 : MS "BallastTrain" 139 yX4_has cX4_has 2 (some .boolean) 2 := ⟨⟨tw_552, tw_414, tw_14, tw_415⟩, by decide, by decide, by decide +kernel⟩
theorem fd_X6_144 : FD "BallastTrain" 144 2 1 := ⟨RX2, "BallastTrain$State", TX2, 9, rfl, inb_X2, by decide, tw_146, Or.inl rfl⟩
theorem mv_X6_148 : MV "BallastTrain" 148 yX4_heightAt cX4_heightAt 3 (some .int) 2 := ⟨⟨tw_553, tw_554, tw_555, tw_14, tw_556⟩, by decide, by decide, by decide +kernel⟩
theorem mm_X6_151 : Cond.methodLink "BallastTrain" 151 Lib.Math.min.name ∈ tb ∧ Cond.static Lib.Math.min.name ∈ tb ∧ Cond.initialized "java/lang/Math" ∈ tb ∧ Cond.code Lib.Math.min.name Lib.Math.min.code 2 (some .int) ∈ tb := ⟨tw_238, tw_239, tw_18, by decide +kernel⟩
theorem mv_X6_156 : MV "BallastTrain" 156 yX4_add cX4_add 4 none 3 := ⟨⟨tw_564, tw_417, tw_418, tw_14, tw_419⟩, by decide, by decide, by decide +kernel⟩
theorem fd_X6_159 : FD "BallastTrain" 159 1 2 := ⟨RX0, "BallastTrain$History", TX0, 3, rfl, inb_X0, by decide, tw_192, Or.inl rfl⟩
theorem mv_X6_161 : MV "BallastTrain" 161 yX0_restore cX0_restore 2 none 1 := ⟨⟨tw_437, tw_438, tw_439, tw_17, tw_440⟩, by decide, by decide, by decide +kernel⟩
theorem mv_X6_164 : MV "BallastTrain" 164 yX5_cellBelow cX5_cellBelow 2 (some .int) 1 := ⟨⟨tw_445, tw_386, tw_387, tw_15, tw_388⟩, by decide, by decide, by decide +kernel⟩
theorem mv_X6_168 : MV "BallastTrain" 168 yX5_sumOfLevels cX5_sumOfLevels 4 (some .int) 1 := ⟨⟨tw_446, tw_447, tw_448, tw_15, tw_449⟩, by decide, by decide, by decide +kernel⟩
theorem mv_X6_171 : MV "BallastTrain" 171 yX5_closingDoors cX5_closingDoors 4 (some .int) 1 := ⟨⟨tw_451, tw_452, tw_453, tw_15, tw_454⟩, by decide, by decide, by decide +kernel⟩
theorem fd_X6_174 : FD "BallastTrain" 174 5 5 := ⟨RX5, "BallastTrain$Train", TX5, 8, rfl, inb_X5, by decide, tw_121, Or.inl rfl⟩
theorem mv_X6_177 : MV "BallastTrain" 177 yX5_restOf cX5_restOf 3 (some .int) 2 := ⟨⟨tw_463, tw_456, tw_457, tw_15, tw_458⟩, by decide, by decide, by decide +kernel⟩
theorem fd_X6_223 : FD "BallastTrain" 223 5 0 := ⟨RX5, "BallastTrain$Train", TX5, 8, rfl, inb_X5, by decide, tw_109, Or.inl rfl⟩
theorem fd_X6_226 : FD "BallastTrain" 226 2 5 := ⟨RX2, "BallastTrain$State", TX2, 9, rfl, inb_X2, by decide, tw_154, Or.inl rfl⟩
theorem mv_X6_229 : MV "BallastTrain" 229 yX4_units cX4_units 1 (some .int) 0 := ⟨⟨tw_475, tw_476, tw_477, tw_14, tw_478⟩, by decide, by decide, by decide +kernel⟩
theorem fd_X6_230 : FD "BallastTrain" 230 2 7 := ⟨RX2, "BallastTrain$State", TX2, 9, rfl, inb_X2, by decide, tw_158, Or.inl rfl⟩
theorem fd_X6_10 : FD "BallastTrain" 10 6 0 := ⟨RX6, "BallastTrain", TX6, 4, rfl, inb_X6, by decide, tw_200, Or.inl rfl⟩
theorem fd_X6_41 : FD "BallastTrain" 41 3 1 := ⟨RX3, "BallastTrain$Text", TX3, 5, rfl, inb_X3, by decide, tw_66, Or.inl rfl⟩
theorem ac_X6_279 : CpyW "BallastTrain" 279 := ⟨tw_241, tw_243, tw_242, tw_19⟩
theorem mv_X6_203 : MV "BallastTrain" 203 yJx4a65c_get_915e3 cJx4a65c_get_915e3 2 (some (.object "java/lang/Object")) 1 := ⟨⟨tw_260, tw_261, tw_262, tw_12, tw_263⟩, by decide, by decide, by decide +kernel⟩
theorem cl_X6_206 : Cond.classLink "BallastTrain" 206 "BallastTrain$Order" ∈ tb := tw_274
theorem mv_X6_285 : MV "BallastTrain" 285 yJx4a65c_add_9ea2d cJx4a65c_add_9ea2d 2 (some .boolean) 1 := ⟨⟨tw_275, tw_276, tw_277, tw_12, tw_278⟩, by decide, by decide, by decide +kernel⟩
theorem oi_Jxa1e45_1 : Cond.methodLink "java/util/AbstractCollection" 1 objectInit ∈ tb ∧ Cond.instanceMethod objectInit ∈ tb ∧ Cond.code objectInit ⟨#[0xb1]⟩ 1 none ∈ tb := ⟨tw_48, tw_29, by decide +kernel⟩
theorem mi_Jxc12de_1 : MI "java/util/AbstractList" 1 yJxa1e45_init_da8c8 cJxa1e45_init_da8c8 1 0 := ⟨⟨tw_45, tw_46, rfl, tw_10, tw_47⟩, by decide, by decide, by decide +kernel⟩
theorem fp_Jxc12de_7 : FP "java/util/AbstractList" 7 0 0 false .int := ⟨RJx4a65c, "java/util/AbstractList", TJx4a65c, 3, tyJx4a65c, rfl, inb_Jx4a65c, by decide, tw_53, Or.inl rfl, tyJx4a65c_ok, nmJx4a65c, rfl, (fun h => by cases h), rfl⟩
theorem mi_Jx4a65c_1 : MI "java/util/ArrayList" 1 yJxc12de_init_da8c8 cJxc12de_init_da8c8 1 0 := ⟨⟨tw_42, tw_43, rfl, tw_11, tw_44⟩, by decide, by decide, by decide +kernel⟩
theorem gs_Jx4a65c_39 : Cond.fieldLink "java/util/ArrayList" 39 "java/util/ArrayList" "DEFAULTCAPACITY_EMPTY_ELEMENTDATA" "[Ljava/lang/Object;" ∈ tb := tw_49
theorem fp_Jx4a65c_9 : FP "java/util/ArrayList" 9 0 1 false (.array (.object "java/lang/Object")) := ⟨RJx4a65c, "java/util/ArrayList", TJx4a65c, 3, tyJx4a65c, rfl, inb_Jx4a65c, by decide, tw_51, Or.inl rfl, tyJx4a65c_ok, nmJx4a65c, rfl, (fun h => by cases h), rfl⟩
theorem fd_Jx4a65c_9 : FD "java/util/ArrayList" 9 0 1 := ⟨RJx4a65c, "java/util/ArrayList", TJx4a65c, 3, rfl, inb_Jx4a65c, by decide, tw_51, Or.inl rfl⟩
theorem ms_Jx4a65c_73 : MS "java/util/ArrayList" 73 yJ8_newLength_cabcc cJ8_newLength_cabcc 4 (some .int) 3 := ⟨⟨tw_291, tw_292, tw_22, tw_293⟩, by decide, by decide, by decide +kernel⟩
theorem ms_Jx4a65c_66 : MS "java/util/ArrayList" 66 yJ7_copyOf_1904c cJ7_copyOf_1904c 2 (some (.array (.object "java/lang/Object"))) 2 := ⟨⟨tw_301, tw_302, tw_16, tw_303⟩, by decide, by decide, by decide +kernel⟩
theorem mm_Jx4a65c_79 : Cond.methodLink "java/util/ArrayList" 79 Lib.Math.max.name ∈ tb ∧ Cond.static Lib.Math.max.name ∈ tb ∧ Cond.initialized "java/lang/Math" ∈ tb ∧ Cond.code Lib.Math.max.name Lib.Math.max.code 2 (some .int) ∈ tb := ⟨tw_323, tw_295, tw_18, by decide +kernel⟩
theorem cl_Jx4a65c_7 : Cond.classLink "java/util/ArrayList" 7 "java/lang/Object" ∈ tb := tw_324
theorem fd_Jx4a65c_48 : FD "java/util/ArrayList" 48 0 2 := ⟨RJx4a65c, "java/util/ArrayList", TJx4a65c, 3, rfl, inb_Jx4a65c, by decide, tw_52, Or.inl rfl⟩
theorem mv_Jx4a65c_69 : MV "java/util/ArrayList" 69 yJx4a65c_grow_92f84 cJx4a65c_grow_92f84 4 (some (.array (.object "java/lang/Object"))) 1 := ⟨⟨tw_287, tw_289, tw_2, tw_12, tw_290⟩, by decide, by decide, by decide +kernel⟩
theorem ms_Jx4a65c_118 : MS "java/util/ArrayList" 118 yJ15_checkIndex_7cf53 cJ15_checkIndex_7cf53 2 (some .int) 2 := ⟨⟨tw_264, tw_265, tw_20, tw_266⟩, by decide, by decide, by decide +kernel⟩
theorem mv_Jx4a65c_123 : MV "java/util/ArrayList" 123 yJx4a65c_elementData_915e3 cJx4a65c_elementData_915e3 2 (some (.object "java/lang/Object")) 1 := ⟨⟨tw_270, tw_271, tw_272, tw_12, tw_273⟩, by decide, by decide, by decide +kernel⟩
theorem mv_Jx4a65c_129 : MV "java/util/ArrayList" 129 yJx4a65c_grow_d5877 cJx4a65c_grow_d5877 1 (some (.array (.object "java/lang/Object"))) 0 := ⟨⟨tw_283, tw_285, tw_1, tw_12, tw_286⟩, by decide, by decide, by decide +kernel⟩
theorem fp_Jx4a65c_48 : FP "java/util/ArrayList" 48 0 2 false .int := ⟨RJx4a65c, "java/util/ArrayList", TJx4a65c, 3, tyJx4a65c, rfl, inb_Jx4a65c, by decide, tw_52, Or.inl rfl, tyJx4a65c_ok, nmJx4a65c, rfl, (fun h => by cases h), rfl⟩
theorem fd_Jx4a65c_63 : FD "java/util/ArrayList" 63 0 0 := ⟨RJx4a65c, "java/util/ArrayList", TJx4a65c, 3, rfl, inb_Jx4a65c, by decide, tw_54, Or.inr tw_55⟩
theorem fp_Jx4a65c_63 : FP "java/util/ArrayList" 63 0 0 false .int := ⟨RJx4a65c, "java/util/ArrayList", TJx4a65c, 3, tyJx4a65c, rfl, inb_Jx4a65c, by decide, tw_54, Or.inr tw_55, tyJx4a65c_ok, nmJx4a65c, rfl, (fun h => by cases h), rfl⟩
theorem mv_Jx4a65c_131 : MV "java/util/ArrayList" 131 yJx4a65c_add_72be8 cJx4a65c_add_72be8 4 none 3 := ⟨⟨tw_279, tw_281, tw_0, tw_12, tw_282⟩, by decide, by decide, by decide +kernel⟩
theorem mv_Jx4a65c_144 : MV "java/util/ArrayList" 144 yJx4a65c_fastRemove_b59b0 cJx4a65c_fastRemove_b59b0 4 none 2 := ⟨⟨tw_355, tw_357, tw_3, tw_12, tw_358⟩, by decide, by decide, by decide +kernel⟩
theorem ac_Jx4a65c_112 : CpyW "java/util/ArrayList" 112 := ⟨tw_359, tw_243, tw_242, tw_19⟩
theorem gc_J7_86 : Cond.methodLink "java/util/Arrays" 86 yGC ∈ tb ∧ Cond.selects "[Ljava/lang/Object;" yGC yGC ∈ tb ∧ Cond.instanceMethod yGC ∈ tb ∧ Cond.native yGC ∈ tb := ⟨tw_304, tw_584, tw_305, tw_314⟩
theorem ms_J7_300 : MS "java/util/Arrays" 300 yJ7_copyOf_6403c cJ7_copyOf_6403c 4 (some (.array (.object "java/lang/Object"))) 3 := ⟨⟨tw_315, tw_316, tw_16, tw_317⟩, by decide, by decide, by decide +kernel⟩
theorem cl_J7_110 : Cond.classLink "java/util/Arrays" 110 "[Ljava/lang/Object;" ∈ tb := tw_318
theorem cl_J7_2 : Cond.classLink "java/util/Arrays" 2 "java/lang/Object" ∈ tb := tw_320
theorem mm_J7_304 : Cond.methodLink "java/util/Arrays" 304 Lib.Math.min.name ∈ tb ∧ Cond.static Lib.Math.min.name ∈ tb ∧ Cond.initialized "java/lang/Math" ∈ tb ∧ Cond.code Lib.Math.min.name Lib.Math.min.code 2 (some .int) ∈ tb := ⟨tw_321, tw_239, tw_18, by decide +kernel⟩
theorem ac_J7_150 : CpyW "java/util/Arrays" 150 := ⟨tw_322, tw_243, tw_242, tw_19⟩
theorem ms_J15_105 : MS "java/util/Objects" 105 yJ3_checkIndex_8e157 cJ3_checkIndex_8e157 3 (some .int) 3 := ⟨⟨tw_267, tw_268, tw_21, tw_269⟩, by decide, by decide, by decide +kernel⟩
theorem mm_J8_194 : Cond.methodLink "jdk/internal/util/ArraysSupport" 194 Lib.Math.max.name ∈ tb ∧ Cond.static Lib.Math.max.name ∈ tb ∧ Cond.initialized "java/lang/Math" ∈ tb ∧ Cond.code Lib.Math.max.name Lib.Math.max.code 2 (some .int) ∈ tb := ⟨tw_294, tw_295, tw_18, by decide +kernel⟩
theorem ki_J8_200 : (Jvm.Cond.constant "jdk/internal/util/ArraysSupport" (200 : Nat) (2147483639 : Int32)) ∈ tb := tw_297
theorem ms_J8_201 : MS "jdk/internal/util/ArraysSupport" 201 yJ8_hugeLength_7cf53 cJ8_hugeLength_7cf53 3 (some .int) 2 := ⟨⟨tw_298, tw_299, tw_22, tw_300⟩, by decide, by decide, by decide +kernel⟩
theorem ki_L_7 : (Jvm.Cond.constant "BallastTrainLaw" (7 : Nat) (795577677 : Int32)) ∈ tb := tw_483
theorem ki_L_8 : (Jvm.Cond.constant "BallastTrainLaw" (8 : Nat) (2147483647 : Int32)) ∈ tb := tw_487
theorem ms_L_9 : MS "BallastTrainLaw" 9 yL_couples cL_couples 3 none 2 := ⟨⟨tw_491, tw_492, tw_7, tw_493⟩, by decide, by decide, by decide +kernel⟩
theorem ms_L_15 : MS "BallastTrainLaw" 15 yL_moves cL_moves 6 none 4 := ⟨⟨tw_520, tw_521, tw_7, tw_522⟩, by decide, by decide, by decide +kernel⟩
theorem ms_L_19 : MS "BallastTrainLaw" 19 yL_drops cL_drops 3 none 2 := ⟨⟨tw_539, tw_540, tw_7, tw_541⟩, by decide, by decide, by decide +kernel⟩
theorem ms_L_22 : MS "BallastTrainLaw" 22 yL_orders cL_orders 6 none 2 := ⟨⟨tw_536, tw_537, tw_7, tw_538⟩, by decide, by decide, by decide +kernel⟩
theorem ms_L_26 : MS "BallastTrainLaw" 26 yL_comes cL_comes 4 none 4 := ⟨⟨tw_542, tw_543, tw_7, tw_544⟩, by decide, by decide, by decide +kernel⟩
theorem ms_L_29 : MS "BallastTrainLaw" 29 yL_height cL_height 3 (some .int) 3 := ⟨⟨tw_500, tw_501, tw_7, tw_502⟩, by decide, by decide, by decide +kernel⟩
theorem mv_L_33 : MV "BallastTrainLaw" 33 yX6_set cX6_set 4 (some .int) 2 := ⟨⟨tw_506, tw_507, tw_508, tw_8, tw_509⟩, by decide, by decide, by decide +kernel⟩
theorem mv_L_39 : MV "BallastTrainLaw" 39 yX6_load cX6_load 3 (some .int) 2 := ⟨⟨tw_213, tw_214, tw_215, tw_8, tw_216⟩, by decide, by decide, by decide +kernel⟩
theorem mv_L_42 : MV "BallastTrainLaw" 42 yX6_door cX6_door 5 (some .int) 3 := ⟨⟨tw_326, tw_327, tw_328, tw_8, tw_329⟩, by decide, by decide, by decide +kernel⟩
theorem mv_L_46 : MV "BallastTrainLaw" 46 yX6_wish cX6_wish 3 (some .int) 1 := ⟨⟨tw_526, tw_527, tw_528, tw_8, tw_529⟩, by decide, by decide, by decide +kernel⟩
theorem ms_L_50 : MS "BallastTrainLaw" 50 yL_second cL_second 7 none 3 := ⟨⟨tw_533, tw_534, tw_7, tw_535⟩, by decide, by decide, by decide +kernel⟩
theorem mv_L_54 : MV "BallastTrainLaw" 54 yX6_pass cX6_pass 3 (some .int) 1 := ⟨⟨tw_360, tw_361, tw_362, tw_8, tw_363⟩, by decide, by decide, by decide +kernel⟩
theorem mv_L_57 : MV "BallastTrainLaw" 57 yX6_doorOf cX6_doorOf 4 (some .int) 3 := ⟨⟨tw_459, tw_460, tw_461, tw_8, tw_462⟩, by decide, by decide, by decide +kernel⟩
theorem mv_L_60 : MV "BallastTrainLaw" 60 yX6_wagon cX6_wagon 3 (some .int) 2 := ⟨⟨tw_441, tw_442, tw_443, tw_8, tw_444⟩, by decide, by decide, by decide +kernel⟩
theorem mv_L_63 : MV "BallastTrainLaw" 63 yX6_height cX6_height 3 (some .int) 2 := ⟨⟨tw_548, tw_549, tw_550, tw_8, tw_551⟩, by decide, by decide, by decide +kernel⟩
theorem mv_L_65 : MV "BallastTrainLaw" 65 yX6_count cX6_count 2 (some .int) 1 := ⟨⟨tw_464, tw_465, tw_466, tw_8, tw_467⟩, by decide, by decide, by decide +kernel⟩
theorem ms_L_68 : MS "BallastTrainLaw" 68 yL_sum cL_sum 4 (some .int) 2 := ⟨⟨tw_497, tw_498, tw_7, tw_499⟩, by decide, by decide, by decide +kernel⟩
theorem ms_L_72 : MS "BallastTrainLaw" 72 yL_inWagons cL_inWagons 1 (some .int) 1 := ⟨⟨tw_494, tw_495, tw_7, tw_496⟩, by decide, by decide, by decide +kernel⟩
theorem mv_L_76 : MV "BallastTrainLaw" 76 yX6_scrape cX6_scrape 5 (some .int) 3 := ⟨⟨tw_560, tw_561, tw_562, tw_8, tw_563⟩, by decide, by decide, by decide +kernel⟩
theorem mv_L_79 : MV "BallastTrainLaw" 79 yX6_setTrain cX6_setTrain 3 (some .int) 1 := ⟨⟨tw_568, tw_569, tw_570, tw_8, tw_571⟩, by decide, by decide, by decide +kernel⟩
theorem nd_L_34 : ND "BallastTrainLaw" 34 6 4 [.null, .null, .null, .null] := ⟨RX6, TX6, tyX6, rfl, inb_X6, tyX6_ok, tw_23, tw_24, tw_8, fun j hj => by rcases (show j = 0 ∨ j = 1 ∨ j = 2 ∨ j = 3 by omega) with rfl | rfl | rfl | rfl <;> rfl⟩
theorem mi_L_82 : MI "BallastTrainLaw" 82 yX6_init cX6_init 1 0 := ⟨⟨tw_25, tw_26, rfl, tw_8, tw_27⟩, by decide, by decide, by decide +kernel⟩
theorem ms_L_83 : MS "BallastTrainLaw" 83 yL_begins cL_begins 1 none 1 := ⟨⟨tw_488, tw_489, tw_7, tw_490⟩, by decide, by decide, by decide +kernel⟩
theorem mv_L_87 : MV "BallastTrainLaw" 87 yX6_undo cX6_undo 1 (some .int) 0 := ⟨⟨tw_433, tw_434, tw_435, tw_8, tw_436⟩, by decide, by decide, by decide +kernel⟩
theorem mv_L_91 : MV "BallastTrainLaw" 91 yX6_cancel cX6_cancel 2 (some .int) 1 := ⟨⟨tw_347, tw_348, tw_349, tw_8, tw_350⟩, by decide, by decide, by decide +kernel⟩
theorem ms_L_94 : MS "BallastTrainLaw" 94 yL_isTold cL_isTold 8 (some .boolean) 4 := ⟨⟨tw_545, tw_546, tw_7, tw_547⟩, by decide, by decide, by decide +kernel⟩
theorem ms_L_98 : MS "BallastTrainLaw" 98 yL_cell cL_cell 2 (some .int) 2 := ⟨⟨tw_480, tw_481, tw_7, tw_482⟩, by decide, by decide, by decide +kernel⟩
theorem ms_L_101 : MS "BallastTrainLaw" 101 yL_low cL_low 2 (some .int) 2 := ⟨⟨tw_484, tw_485, tw_7, tw_486⟩, by decide, by decide, by decide +kernel⟩
theorem ms_L_104 : MS "BallastTrainLaw" 104 yL_loads cL_loads 4 (some .boolean) 4 := ⟨⟨tw_514, tw_515, tw_7, tw_516⟩, by decide, by decide, by decide +kernel⟩
theorem ms_L_108 : MS "BallastTrainLaw" 108 yL_sets cL_sets 5 (some .boolean) 4 := ⟨⟨tw_503, tw_504, tw_7, tw_505⟩, by decide, by decide, by decide +kernel⟩
theorem ms_L_111 : MS "BallastTrainLaw" 111 yL_setsTrain cL_setsTrain 4 (some .boolean) 3 := ⟨⟨tw_565, tw_566, tw_7, tw_567⟩, by decide, by decide, by decide +kernel⟩
theorem ms_L_115 : MS "BallastTrainLaw" 115 yL_scrapes cL_scrapes 7 (some .boolean) 6 := ⟨⟨tw_557, tw_558, tw_7, tw_559⟩, by decide, by decide, by decide +kernel⟩
theorem ms_L_119 : MS "BallastTrainLaw" 119 yL_wishes cL_wishes 4 (some .boolean) 3 := ⟨⟨tw_523, tw_524, tw_7, tw_525⟩, by decide, by decide, by decide +kernel⟩
theorem ms_L_122 : MS "BallastTrainLaw" 122 yL_doors cL_doors 6 (some .boolean) 5 := ⟨⟨tw_517, tw_518, tw_7, tw_519⟩, by decide, by decide, by decide +kernel⟩
theorem ms_L_126 : MS "BallastTrainLaw" 126 yL_passes cL_passes 6 (some .boolean) 5 := ⟨⟨tw_530, tw_531, tw_7, tw_532⟩, by decide, by decide, by decide +kernel⟩
theorem ac_int : Cond.arrayClass .int ∈ tb := tb_mem 63 (by decide +kernel) rfl
end
section
/-! the world: rows of numbers (0..7 the states in the reference's places, 8 the text, 9 the history, 10 m, 11 past, 12 aside, 13 the reference's text, 14 read, 15 its numbers), the lists of orders, what is made in the run, the digest's number, the count of cells -/
abbrev LVt : Type := Int32 × Nat × Nat × Nat × (Nat → Option Nat)
abbrev DVt : Type := Nat ⊕ (Nat → Int32)
abbrev Wd : Type := (Nat → Nat → Int32) × (Nat → LVt) × (Nat → Option DVt) × Int64 × Nat
def vw (n : Nat) (φ : Nat → Nat) (f : Nat → Int32) : Nat → Int32 := fun i => if i < n then f (φ i) else 0
theorem vw_at {n : Nat} {φ : Nat → Nat} {f : Nat → Int32} {i : Nat} (h : i < n) : vw n φ f i = f (φ i) := if_pos h
theorem vw_up {n : Nat} {φ : Nat → Nat} {f : Nat → Int32} {i : Nat} (x : Int32) (h : i < n) (inj : ∀ a, a < n → φ a = φ i → a = i) : upd (vw n φ f) i x = vw n φ (upd f (φ i) x) := by
  funext a
  by_cases ha : a < n
  · by_cases e : a = i
    · subst e; simp [upd, vw, ha]
    · have : ¬ φ a = φ i := fun q => e (inj a ha q)
      simp [upd, vw, ha, e, this]
  · have : ¬ a = i := by omega
    simp [upd, vw, ha, this]
theorem vw_off {n : Nat} {φ : Nat → Nat} {f : Nat → Int32} {i : Nat} {x : Int32} (h : ∀ a, a < n → φ a ≠ i) : vw n φ (upd f i x) = vw n φ f := by
  funext a
  by_cases ha : a < n
  · simp [vw, ha, upd, h a ha]
  · simp [vw, ha]
def wset (w : Wd) (b : Nat) (g : Nat → Int32) : Wd := (fun c => if c = b then g else w.1 c, w.2)
def wl (w : Wd) (b : Nat) (v : LVt) : Wd := (w.1, fun c => if c = b then v else w.2.1 c, w.2.2)
def wdy (w : Wd) (a : Nat) (v : DVt) : Wd := (w.1, w.2.1, fun c => if c = a then some v else w.2.2.1 c, w.2.2.2)
def wha (w : Wd) (x : Int64) : Wd := (w.1, w.2.1, w.2.2.1, x, w.2.2.2.2)
def wn (w : Wd) (n : Nat) : Wd := (w.1, w.2.1, w.2.2.1, w.2.2.2.1, n)
def so (k : Nat) : Nat := if k < 2 then 4 + 10 * k else 6 + 10 * k
def lsE (v : LVt) : va_E := .inr (0, [.int v.1, .ref v.2.2.1, .int (nI v.2.1)])
def iE (γ : Gm) (n : Nat) (f : Nat → Int32) : va_E := .inl (γ.2.2.1 0, n, .inl f)
def rE (γ : Gm) (t n : Nat) (f : Nat → Option Nat) : va_E := .inl (γ.2.2.1 t, n, .inr (.inr (.inr (.inr f))))
def f_set (i : Nat) : Nat := 228 + i
def f_hts (i : Nat) : Nat := i
def f_load (i : Nat) : Nat := 120 + 8 * i
def f_left (i : Nat) : Nat := 121 + 8 * i
def f_lev (i : Nat) : Nat := 122 + 8 * (i / 3) + i % 3
def f_rest (i : Nat) : Nat := 125 + 8 * (i / 3) + i % 3
def f_w (i : Nat) : Nat := if i < 48 then 120 + i else if i < 53 then 170 + i else 171 + i
/-- three heights in one number -/
def pk3 (f : Nat → Int32) (c : Nat) : Int32 := f (3 * c + 0) + nI 1024 * f (3 * c + 1) + nI 1048576 * f (3 * c + 2)
def pkh (f : Nat → Int32) : Nat → Int32 := fun c => if c < 40 then pk3 f c else 0
def stE (γ : Gm) (o r : Nat) (f : Nat → Int32) (v : LVt) : Option va_E := match r with
  | 0 => some (.inr (2, [.ref (γ.1 + o + 1), .ref (γ.1 + o + 2), .ref (γ.1 + o + 4), .ref (γ.1 + o + 9), .int (f 222), .int (f 224), .int (f 225), .int (f 226), .int (f 227)]))
  | 1 => some (iE γ 5 (vw 5 f_set f))
  | 2 => some (.inr (4, [.ref (γ.1 + o + 3)]))
  | 3 => some (iE γ 120 (vw 120 f_hts f))
  | 4 => some (.inr (5, [.int (f 218), .int (f 219), .int (f 220), .int (f 221), .ref (γ.1 + o + 5), .ref (γ.1 + o + 6), .ref (γ.1 + o + 7), .ref (γ.1 + o + 8)]))
  | 5 => some (iE γ 6 (vw 6 f_load f))
  | 6 => some (iE γ 6 (vw 6 f_left f))
  | 7 => some (iE γ 18 (vw 18 f_lev f))
  | 8 => some (iE γ 18 (vw 18 f_rest f))
  | _ => some (lsE v)
def ent (γ : Gm) (i : Nat) (f : Nat → Int32) (v : LVt) (hs : Int64) : Option va_E :=
  if i < 4 then (match i with
    | 0 => some (.inr (6, [.ref (γ.1 + 1), .ref (γ.1 + 4), .ref (γ.1 + 14), .ref (γ.1 + 24)]))
    | 1 => some (.inr (3, [.ref (γ.1 + 2), .int (f 60), .ref (γ.1 + 3), .int (f 61), .int (f 62)]))
    | 2 => some (iE γ 60 (vw 60 f_hts f))
    | _ => some (lsE v))
  else if i < 24 then stE γ (i - (i - 4) % 10) ((i - 4) % 10) f v
  else if i < 26 then (if i = 24 then some (.inr (1, [.ref (γ.1 + 25), .int (f 0), .int (f 1)])) else some (rE γ 1 6 (fun q => some (γ.1 + so (q + 2)))))
  else if i < 86 then stE γ (i - (i - 6) % 10) ((i - 6) % 10) f v
  else match i with
    | 86 => some (iE γ 40 (pkh f))
    | 87 => some (iE γ 64 (vw 62 f_w f))
    | 88 => some (iE γ 64 (fun _ => 0))
    | _ => none
def bk (i : Nat) : Nat := if i < 4 then 8 else if i < 24 then (i - 4) / 10 else if i < 26 then 9 else if i < 86 then (i - 6) / 10 else if i = 86 then 10 else i - 77
def lk (i : Nat) : Nat := if i < 4 then 8 else if i < 24 then (i - 4) / 10 else (i - 6) / 10
def dynE (γ : Gm) (w : Wd) (a : Nat) : Option va_E := match w.2.2.1 a with
  | some (.inl j) => if (w.2.1 j).2.2.1 = a then some (rE γ 2 (w.2.1 j).2.2.2.1 (w.2.1 j).2.2.2.2) else none
  | some (.inr v) => some (.inr (7, [.int (v 0), .int (v 1), .int (v 2), .int (v 3), .int (v 4)]))
  | none => none
def rdw (γ : Gm) (w : Wd) : HP := (fun a => if a < γ.1 then none else if a < γ.1 + 92 then ent γ (a - γ.1) (w.1 (bk (a - γ.1))) (w.2.1 (lk (a - γ.1))) w.2.2.2.1 else dynE γ w a, w.2.2.2.2)
/-! reading the world -/
theorem rdw_at (γ : Gm) (w : Wd) {i : Nat} (hi : i < 92) : (rdw γ w).1 (γ.1 + i) = ent γ i (w.1 (bk i)) (w.2.1 (lk i)) w.2.2.2.1 := by
  simp only [rdw]
  rw [if_neg (by omega), if_pos (by omega), Nat.add_sub_cancel_left]
theorem so_ent (γ : Gm) {k r : Nat} (hk : k < 8) (hr : r < 10) (f : Nat → Int32) (v : LVt) (hs : Int64) : ent γ (so k + r) f v hs = stE γ (so k) r f v := by
  unfold so
  by_cases h : k < 2
  · simp only [if_pos h, ent]
    have e1 : (4 + 10 * k + r - 4) % 10 = r := by omega
    rw [if_neg (by omega), if_pos (by omega), e1, show 4 + 10 * k + r - r = 4 + 10 * k by omega]
  · simp only [if_neg h, ent]
    have e1 : (6 + 10 * k + r - 6) % 10 = r := by omega
    rw [if_neg (by omega), if_neg (by omega), if_neg (by omega), if_pos (by omega), e1, show 6 + 10 * k + r - r = 6 + 10 * k by omega]
theorem so_bk {k r : Nat} (hk : k < 8) (hr : r < 10) : bk (so k + r) = k := by
  unfold so bk
  by_cases h : k < 2
  · simp only [if_pos h]
    rw [if_neg (by omega), if_pos (by omega)]; omega
  · simp only [if_neg h]
    rw [if_neg (by omega), if_neg (by omega), if_neg (by omega), if_pos (by omega)]; omega
theorem so_lk {k r : Nat} (hk : k < 8) (hr : r < 10) : lk (so k + r) = k := by
  unfold so lk
  by_cases h : k < 2
  · simp only [if_pos h]
    rw [if_neg (by omega), if_pos (by omega)]; omega
  · simp only [if_neg h]
    rw [if_neg (by omega), if_neg (by omega)]; omega
theorem so_lt {k r : Nat} (hk : k < 8) (hr : r < 10) : so k + r < 92 := by unfold so; split <;> omega
theorem bk_so {i k : Nat} (hk : k < 8) (hi : i < 92) (h : bk i = k) : ∃ r, r < 10 ∧ i = so k + r := by
  unfold bk at h
  by_cases h1 : i < 4
  · rw [if_pos h1] at h; omega
  · rw [if_neg h1] at h
    by_cases h2 : i < 24
    · rw [if_pos h2] at h
      have hk2 : k < 2 := by omega
      exact ⟨(i - 4) % 10, by omega, by unfold so; rw [if_pos hk2]; omega⟩
    · rw [if_neg h2] at h
      by_cases h3 : i < 26
      · rw [if_pos h3] at h; omega
      · rw [if_neg h3] at h
        by_cases h4 : i < 86
        · rw [if_pos h4] at h
          have hk2 : ¬ k < 2 := by omega
          exact ⟨(i - 6) % 10, by omega, by unfold so; rw [if_neg hk2]; omega⟩
        · rw [if_neg h4] at h
          by_cases h5 : i = 86
          · rw [if_pos h5] at h; omega
          · rw [if_neg h5] at h; omega
theorem ws_same (w : Wd) (b : Nat) (g : Nat → Int32) : (wset w b g).1 b = g := by simp [wset]
theorem ws_ne (w : Wd) {b c : Nat} (g : Nat → Int32) (h : c ≠ b) : (wset w b g).1 c = w.1 c := by simp [wset, h]
theorem wset_self (w : Wd) (b : Nat) : wset w b (w.1 b) = w := by
  refine Prod.ext (funext fun c => ?_) rfl
  by_cases h : c = b
  · subst h; simp [wset]
  · simp [wset, h]
theorem wset_wset (w : Wd) (b : Nat) (g g' : Nat → Int32) : wset (wset w b g) b g' = wset w b g' := by
  refine Prod.ext (funext fun c => ?_) rfl
  by_cases h : c = b <;> simp [wset, h]
theorem wset_swap (w : Wd) {b c : Nat} (h : c < b) (g g' : Nat → Int32) : wset (wset w b g) c g' = wset (wset w c g') b g := by
  refine Prod.ext (funext fun x => ?_) rfl
  by_cases h1 : x = b
  · subst h1; simp [wset, Nat.ne_of_gt h]
  · simp [wset, h1]
theorem rd_st (γ : Gm) (w : Wd) (g : Nat → Int32) {k : Nat} (hk : k < 8) (r : Nat) (hr : r < 10) : (rdw γ (wset w k g)).1 (γ.1 + (so k + r)) = stE γ (so k) r g (w.2.1 k) := by
  rw [rdw_at γ _ (so_lt hk hr), so_ent γ hk hr, so_bk hk hr, so_lk hk hr, ws_same]; rfl
theorem rd_State (γ : Gm) (w : Wd) (g : Nat → Int32) {k : Nat} (hk : k < 8) : (rdw γ (wset w k g)).1 (γ.1 + so k) = some (.inr (2, [.ref (γ.1 + so k + 1), .ref (γ.1 + so k + 2), .ref (γ.1 + so k + 4), .ref (γ.1 + so k + 9), .int (g 222), .int (g 224), .int (g 225), .int (g 226), .int (g 227)])) := rd_st γ w g hk 0 (by decide)
theorem rd_Settings (γ : Gm) (w : Wd) (g : Nat → Int32) {k : Nat} (hk : k < 8) : (rdw γ (wset w k g)).1 (γ.1 + so k + 1) = some (iE γ 5 (vw 5 f_set g)) := rd_st γ w g hk 1 (by decide)
theorem rd_Track (γ : Gm) (w : Wd) (g : Nat → Int32) {k : Nat} (hk : k < 8) : (rdw γ (wset w k g)).1 (γ.1 + so k + 2) = some (.inr (4, [.ref (γ.1 + so k + 3)])) := rd_st γ w g hk 2 (by decide)
theorem rd_Heights (γ : Gm) (w : Wd) (g : Nat → Int32) {k : Nat} (hk : k < 8) : (rdw γ (wset w k g)).1 (γ.1 + so k + 3) = some (iE γ 120 (vw 120 f_hts g)) := rd_st γ w g hk 3 (by decide)
theorem rd_Train (γ : Gm) (w : Wd) (g : Nat → Int32) {k : Nat} (hk : k < 8) : (rdw γ (wset w k g)).1 (γ.1 + so k + 4) = some (.inr (5, [.int (g 218), .int (g 219), .int (g 220), .int (g 221), .ref (γ.1 + so k + 5), .ref (γ.1 + so k + 6), .ref (γ.1 + so k + 7), .ref (γ.1 + so k + 8)])) := rd_st γ w g hk 4 (by decide)
theorem rd_Load (γ : Gm) (w : Wd) (g : Nat → Int32) {k : Nat} (hk : k < 8) : (rdw γ (wset w k g)).1 (γ.1 + so k + 5) = some (iE γ 6 (vw 6 f_load g)) := rd_st γ w g hk 5 (by decide)
theorem rd_Left (γ : Gm) (w : Wd) (g : Nat → Int32) {k : Nat} (hk : k < 8) : (rdw γ (wset w k g)).1 (γ.1 + so k + 6) = some (iE γ 6 (vw 6 f_left g)) := rd_st γ w g hk 6 (by decide)
theorem rd_Level (γ : Gm) (w : Wd) (g : Nat → Int32) {k : Nat} (hk : k < 8) : (rdw γ (wset w k g)).1 (γ.1 + so k + 7) = some (iE γ 18 (vw 18 f_lev g)) := rd_st γ w g hk 7 (by decide)
theorem rd_Rest (γ : Gm) (w : Wd) (g : Nat → Int32) {k : Nat} (hk : k < 8) : (rdw γ (wset w k g)).1 (γ.1 + so k + 8) = some (iE γ 18 (vw 18 f_rest g)) := rd_st γ w g hk 8 (by decide)
def lA (j : Nat) : Nat := if j < 8 then so j + 9 else 3
theorem rd_List (γ : Gm) (w : Wd) {j : Nat} (hj : j < 9) : (rdw γ w).1 (γ.1 + lA j) = some (lsE (w.2.1 j)) := by
  by_cases h : j < 8
  · unfold lA
    rw [if_pos h, rdw_at γ _ (so_lt h (by decide)), so_ent γ h (by decide), so_lk h (by decide)]
    rfl
  · have : j = 8 := by omega
    subst this
    exact rdw_at γ w (i := 3) (by decide)
theorem rd_SList (γ : Gm) (w : Wd) {k : Nat} (hk : k < 8) : (rdw γ w).1 (γ.1 + so k + 9) = some (lsE (w.2.1 k)) := by
  have h := rd_List γ w (j := k) (by omega)
  unfold lA at h
  rw [if_pos hk] at h
  exact h
theorem rd_BT (γ : Gm) (w : Wd) : (rdw γ w).1 γ.1 = some (.inr (6, [.ref (γ.1 + 1), .ref (γ.1 + 4), .ref (γ.1 + 14), .ref (γ.1 + 24)])) := rdw_at γ w (i := 0) (by decide)
theorem rd_Text (γ : Gm) (w : Wd) : (rdw γ w).1 (γ.1 + 1) = some (.inr (3, [.ref (γ.1 + 2), .int (w.1 8 60), .ref (γ.1 + 3), .int (w.1 8 61), .int (w.1 8 62)])) := rdw_at γ w (i := 1) (by decide)
theorem rd_Bytes (γ : Gm) (w : Wd) : (rdw γ w).1 (γ.1 + 2) = some (iE γ 60 (vw 60 f_hts (w.1 8))) := rdw_at γ w (i := 2) (by decide)
theorem rd_TList (γ : Gm) (w : Wd) : (rdw γ w).1 (γ.1 + 3) = some (lsE (w.2.1 8)) := rdw_at γ w (i := 3) (by decide)
theorem rd_Hist (γ : Gm) (w : Wd) : (rdw γ w).1 (γ.1 + 24) = some (.inr (1, [.ref (γ.1 + 25), .int (w.1 9 0), .int (w.1 9 1)])) := rdw_at γ w (i := 24) (by decide)
theorem rd_HStates (γ : Gm) (w : Wd) : (rdw γ w).1 (γ.1 + 25) = some (rE γ 1 6 (fun q => some (γ.1 + so (q + 2)))) := rdw_at γ w (i := 25) (by decide)
theorem rd_Ord (γ : Gm) (w : Wd) {a : Nat} {v : Nat → Int32} (ha : γ.1 + 92 ≤ a) (h : w.2.2.1 a = some (.inr v)) : (rdw γ w).1 a = some (.inr (7, [.int (v 0), .int (v 1), .int (v 2), .int (v 3), .int (v 4)])) := by
  simp only [rdw]
  rw [if_neg (by omega), if_neg (by omega)]
  simp only [dynE, h]
theorem rd_Row (γ : Gm) (w : Wd) {j : Nat} (ha : γ.1 + 92 ≤ (w.2.1 j).2.2.1) (h : w.2.2.1 (w.2.1 j).2.2.1 = some (.inl j)) : (rdw γ w).1 (w.2.1 j).2.2.1 = some (rE γ 2 (w.2.1 j).2.2.2.1 (w.2.1 j).2.2.2.2) := by
  simp only [rdw]
  rw [if_neg (by omega), if_neg (by omega)]
  simp only [dynE, h, if_true]
/-! writing the world -/
theorem v_eqh {p : Program} {l : Launch} {e : Env} {R : Room} {s : State} {m : MethodId} {args : Array Value} {below : List Frame} {meth : Method} {c : Code} {γ : Gm} {Q : State → Prop} {h h' : HP} {k j pc : Nat} {L : List (Option Value)} {st : List Value} (q : h = h') (kk : V p l e R s m args below meth c γ Q h' k j pc L st) : V p l e R s m args below meth c γ Q h k j pc L st := by rw [q]; exact kk
/-- less of a picture -/
theorem v_le {p : Program} {l : Launch} {e : Env} {R : Room} {s : State} {m : MethodId} {args : Array Value} {below : List Frame} {meth : Method} {c : Code} {γ : Gm} {Q : State → Prop} {h h' : HP} {k j pc : Nat} {L : List (Option Value)} {st : List Value} (q : h'.2 = h.2 ∧ ∀ a x, h'.1 a = some x → h.1 a = some x) (kk : V p l e R s m args below meth c γ Q h' k j pc L st) : V p l e R s m args below meth c γ Q h k j pc L st :=
  fun H locs ls a b g => kk H locs ls ⟨by rw [q.1]; exact a.1, by rw [q.1]; exact a.2.1, fun x y hx => a.2.2 x y (q.2 x y hx)⟩ b g
theorem v_L {p : Program} {l : Launch} {e : Env} {R : Room} {s : State} {m : MethodId} {args : Array Value} {below : List Frame} {meth : Method} {c : Code} {γ : Gm} {Q : State → Prop} {h : HP} {k j pc : Nat} {L L' : List (Option Value)} {st : List Value} (hl : L'.length = L.length) (q : ∀ (i : Nat) (v : Value), L'[i]? = some (some v) → L[i]? = some (some v)) (kk : V p l e R s m args below meth c γ Q h k j pc L' st) : V p l e R s m args below meth c γ Q h k j pc L st :=
  fun H locs ls a b g => kk H locs ls a b ⟨g.1.trans hl.symm, g.2.1, fun i v hv => g.2.2 i v (q i v hv)⟩
theorem hset_at (h : HP) (a : Nat) (e : va_E) : (hset h a e).1 a = some e := va_up_self _ _ _
theorem hset_off (h : HP) {a b : Nat} (e : va_E) (hb : b ≠ a) : (hset h a e).1 b = h.1 b := va_up_ne _ _ hb
theorem rdw_off (γ : Gm) (w w' : Wd) {a : Nat} (h : ∀ i, i < 92 → a = γ.1 + i → ent γ i (w.1 (bk i)) (w.2.1 (lk i)) w.2.2.2.1 = ent γ i (w'.1 (bk i)) (w'.2.1 (lk i)) w'.2.2.2.1) (hd : dynE γ w a = dynE γ w' a) : (rdw γ w).1 a = (rdw γ w').1 a := by
  simp only [rdw]
  by_cases h1 : a < γ.1
  · rw [if_pos h1, if_pos h1]
  · rw [if_neg h1, if_neg h1]
    by_cases h2 : a < γ.1 + 92
    · rw [if_pos h2, if_pos h2]
      exact h (a - γ.1) (by omega) (by omega)
    · rw [if_neg h2, if_neg h2]; exact hd
theorem set_st (γ : Gm) (w : Wd) (g g' : Nat → Int32) {k : Nat} (hk : k < 8) (r0 : Nat) (h0 : r0 < 10) (e : va_E) (he : stE γ (so k) r0 g' (w.2.1 k) = some e) (hr : ∀ r, r < 10 → r ≠ r0 → stE γ (so k) r g' (w.2.1 k) = stE γ (so k) r g (w.2.1 k)) : hset (rdw γ (wset w k g)) (γ.1 + (so k + r0)) e = rdw γ (wset w k g') := by
  refine Prod.ext (funext fun a => ?_) rfl
  by_cases ha : a = γ.1 + (so k + r0)
  · rw [ha, hset_at, rd_st γ w g' hk r0 h0, he]
  · rw [hset_off _ _ ha]
    refine rdw_off γ _ _ (fun i hi hai => ?_) rfl
    by_cases hb : bk i = k
    · obtain ⟨r, hr1, rfl⟩ := bk_so hk hi hb
      have hne : r ≠ r0 := fun z => ha (by rw [hai, z])
      rw [so_ent γ hk hr1, so_ent γ hk hr1, so_bk hk hr1, so_lk hk hr1, ws_same, ws_same]
      exact (hr r hr1 hne).symm
    · rw [ws_ne _ _ hb, ws_ne _ _ hb]; rfl
theorem o_set {f : Nat → Int32} {i : Nat} {x : Int32} (h : i < 228 ∨ 233 ≤ i) : vw 5 f_set (upd f i x) = vw 5 f_set f := vw_off fun a ha => by unfold f_set; omega
theorem o_hts {f : Nat → Int32} {i : Nat} {x : Int32} (h : 120 ≤ i) : vw 120 f_hts (upd f i x) = vw 120 f_hts f := vw_off fun a ha => by unfold f_hts; omega
theorem o_load {f : Nat → Int32} {i : Nat} {x : Int32} (h : i < 120 ∨ 168 ≤ i ∨ i % 8 ≠ 0) : vw 6 f_load (upd f i x) = vw 6 f_load f := vw_off fun a ha => by unfold f_load; omega
theorem o_left {f : Nat → Int32} {i : Nat} {x : Int32} (h : i < 120 ∨ 168 ≤ i ∨ i % 8 ≠ 1) : vw 6 f_left (upd f i x) = vw 6 f_left f := vw_off fun a ha => by unfold f_left; omega
theorem o_lev {f : Nat → Int32} {i : Nat} {x : Int32} (h : i < 120 ∨ 168 ≤ i ∨ i % 8 < 2 ∨ 4 < i % 8) : vw 18 f_lev (upd f i x) = vw 18 f_lev f := vw_off fun a ha => by unfold f_lev; omega
theorem o_rest {f : Nat → Int32} {i : Nat} {x : Int32} (h : i < 120 ∨ 168 ≤ i ∨ i % 8 < 5) : vw 18 f_rest (upd f i x) = vw 18 f_rest f := vw_off fun a ha => by unfold f_rest; omega
theorem o_n {f : Nat → Int32} {k j : Nat} {x : Int32} (h : j ≠ k) : upd f k x j = f j := pk_un h
theorem r10 {P : Nat → Prop} (h0 : P 0) (h1 : P 1) (h2 : P 2) (h3 : P 3) (h4 : P 4) (h5 : P 5) (h6 : P 6) (h7 : P 7) (h8 : P 8) (h9 : P 9) : ∀ r, r < 10 → P r := by
  intro r hr
  rcases (by omega : r = 0 ∨ r = 1 ∨ r = 2 ∨ r = 3 ∨ r = 4 ∨ r = 5 ∨ r = 6 ∨ r = 7 ∨ r = 8 ∨ r = 9) with rfl | rfl | rfl | rfl | rfl | rfl | rfl | rfl | rfl | rfl <;> assumption
theorem up_time (γ : Gm) (w : Wd) (g : Nat → Int32) {k : Nat} (hk : k < 8) (x : Int32) : hset (rdw γ (wset w k g)) (γ.1 + so k) (.inr (2, [.ref (γ.1 + so k + 1), .ref (γ.1 + so k + 2), .ref (γ.1 + so k + 4), .ref (γ.1 + so k + 9), .int x, .int (g 224), .int (g 225), .int (g 226), .int (g 227)])) = rdw γ (wset w k (upd g 222 x)) := set_st γ w g (upd g 222 x) hk 0 (by decide) _ (by simp (disch := omega) only [stE, o_n, pk_us]) (r10 (P := fun r => r ≠ 0 → stE γ (so k) r _ (w.2.1 k) = stE γ (so k) r g (w.2.1 k)) (fun q => absurd rfl q) (fun _ => by simp (disch := omega) only [stE, o_set, o_hts, o_load, o_left, o_lev, o_rest]) (fun _ => rfl) (fun _ => by simp (disch := omega) only [stE, o_set, o_hts, o_load, o_left, o_lev, o_rest]) (fun _ => by simp (disch := omega) only [stE, o_n]) (fun _ => by simp (disch := omega) only [stE, o_set, o_hts, o_load, o_left, o_lev, o_rest]) (fun _ => by simp (disch := omega) only [stE, o_set, o_hts, o_load, o_left, o_lev, o_rest]) (fun _ => by simp (disch := omega) only [stE, o_set, o_hts, o_load, o_left, o_lev, o_rest]) (fun _ => by simp (disch := omega) only [stE, o_set, o_hts, o_load, o_left, o_lev, o_rest]) (fun _ => rfl))
theorem up_jams (γ : Gm) (w : Wd) (g : Nat → Int32) {k : Nat} (hk : k < 8) (x : Int32) : hset (rdw γ (wset w k g)) (γ.1 + so k) (.inr (2, [.ref (γ.1 + so k + 1), .ref (γ.1 + so k + 2), .ref (γ.1 + so k + 4), .ref (γ.1 + so k + 9), .int (g 222), .int x, .int (g 225), .int (g 226), .int (g 227)])) = rdw γ (wset w k (upd g 224 x)) := set_st γ w g (upd g 224 x) hk 0 (by decide) _ (by simp (disch := omega) only [stE, o_n, pk_us]) (r10 (P := fun r => r ≠ 0 → stE γ (so k) r _ (w.2.1 k) = stE γ (so k) r g (w.2.1 k)) (fun q => absurd rfl q) (fun _ => by simp (disch := omega) only [stE, o_set, o_hts, o_load, o_left, o_lev, o_rest]) (fun _ => rfl) (fun _ => by simp (disch := omega) only [stE, o_set, o_hts, o_load, o_left, o_lev, o_rest]) (fun _ => by simp (disch := omega) only [stE, o_n]) (fun _ => by simp (disch := omega) only [stE, o_set, o_hts, o_load, o_left, o_lev, o_rest]) (fun _ => by simp (disch := omega) only [stE, o_set, o_hts, o_load, o_left, o_lev, o_rest]) (fun _ => by simp (disch := omega) only [stE, o_set, o_hts, o_load, o_left, o_lev, o_rest]) (fun _ => by simp (disch := omega) only [stE, o_set, o_hts, o_load, o_left, o_lev, o_rest]) (fun _ => rfl))
theorem up_loaded (γ : Gm) (w : Wd) (g : Nat → Int32) {k : Nat} (hk : k < 8) (x : Int32) : hset (rdw γ (wset w k g)) (γ.1 + so k) (.inr (2, [.ref (γ.1 + so k + 1), .ref (γ.1 + so k + 2), .ref (γ.1 + so k + 4), .ref (γ.1 + so k + 9), .int (g 222), .int (g 224), .int x, .int (g 226), .int (g 227)])) = rdw γ (wset w k (upd g 225 x)) := set_st γ w g (upd g 225 x) hk 0 (by decide) _ (by simp (disch := omega) only [stE, o_n, pk_us]) (r10 (P := fun r => r ≠ 0 → stE γ (so k) r _ (w.2.1 k) = stE γ (so k) r g (w.2.1 k)) (fun q => absurd rfl q) (fun _ => by simp (disch := omega) only [stE, o_set, o_hts, o_load, o_left, o_lev, o_rest]) (fun _ => rfl) (fun _ => by simp (disch := omega) only [stE, o_set, o_hts, o_load, o_left, o_lev, o_rest]) (fun _ => by simp (disch := omega) only [stE, o_n]) (fun _ => by simp (disch := omega) only [stE, o_set, o_hts, o_load, o_left, o_lev, o_rest]) (fun _ => by simp (disch := omega) only [stE, o_set, o_hts, o_load, o_left, o_lev, o_rest]) (fun _ => by simp (disch := omega) only [stE, o_set, o_hts, o_load, o_left, o_lev, o_rest]) (fun _ => by simp (disch := omega) only [stE, o_set, o_hts, o_load, o_left, o_lev, o_rest]) (fun _ => rfl))
theorem up_lost (γ : Gm) (w : Wd) (g : Nat → Int32) {k : Nat} (hk : k < 8) (x : Int32) : hset (rdw γ (wset w k g)) (γ.1 + so k) (.inr (2, [.ref (γ.1 + so k + 1), .ref (γ.1 + so k + 2), .ref (γ.1 + so k + 4), .ref (γ.1 + so k + 9), .int (g 222), .int (g 224), .int (g 225), .int x, .int (g 227)])) = rdw γ (wset w k (upd g 226 x)) := set_st γ w g (upd g 226 x) hk 0 (by decide) _ (by simp (disch := omega) only [stE, o_n, pk_us]) (r10 (P := fun r => r ≠ 0 → stE γ (so k) r _ (w.2.1 k) = stE γ (so k) r g (w.2.1 k)) (fun q => absurd rfl q) (fun _ => by simp (disch := omega) only [stE, o_set, o_hts, o_load, o_left, o_lev, o_rest]) (fun _ => rfl) (fun _ => by simp (disch := omega) only [stE, o_set, o_hts, o_load, o_left, o_lev, o_rest]) (fun _ => by simp (disch := omega) only [stE, o_n]) (fun _ => by simp (disch := omega) only [stE, o_set, o_hts, o_load, o_left, o_lev, o_rest]) (fun _ => by simp (disch := omega) only [stE, o_set, o_hts, o_load, o_left, o_lev, o_rest]) (fun _ => by simp (disch := omega) only [stE, o_set, o_hts, o_load, o_left, o_lev, o_rest]) (fun _ => by simp (disch := omega) only [stE, o_set, o_hts, o_load, o_left, o_lev, o_rest]) (fun _ => rfl))
theorem up_taken (γ : Gm) (w : Wd) (g : Nat → Int32) {k : Nat} (hk : k < 8) (x : Int32) : hset (rdw γ (wset w k g)) (γ.1 + so k) (.inr (2, [.ref (γ.1 + so k + 1), .ref (γ.1 + so k + 2), .ref (γ.1 + so k + 4), .ref (γ.1 + so k + 9), .int (g 222), .int (g 224), .int (g 225), .int (g 226), .int x])) = rdw γ (wset w k (upd g 227 x)) := set_st γ w g (upd g 227 x) hk 0 (by decide) _ (by simp (disch := omega) only [stE, o_n, pk_us]) (r10 (P := fun r => r ≠ 0 → stE γ (so k) r _ (w.2.1 k) = stE γ (so k) r g (w.2.1 k)) (fun q => absurd rfl q) (fun _ => by simp (disch := omega) only [stE, o_set, o_hts, o_load, o_left, o_lev, o_rest]) (fun _ => rfl) (fun _ => by simp (disch := omega) only [stE, o_set, o_hts, o_load, o_left, o_lev, o_rest]) (fun _ => by simp (disch := omega) only [stE, o_n]) (fun _ => by simp (disch := omega) only [stE, o_set, o_hts, o_load, o_left, o_lev, o_rest]) (fun _ => by simp (disch := omega) only [stE, o_set, o_hts, o_load, o_left, o_lev, o_rest]) (fun _ => by simp (disch := omega) only [stE, o_set, o_hts, o_load, o_left, o_lev, o_rest]) (fun _ => by simp (disch := omega) only [stE, o_set, o_hts, o_load, o_left, o_lev, o_rest]) (fun _ => rfl))
theorem up_wagons (γ : Gm) (w : Wd) (g : Nat → Int32) {k : Nat} (hk : k < 8) (x : Int32) : hset (rdw γ (wset w k g)) (γ.1 + so k + 4) (.inr (5, [.int x, .int (g 219), .int (g 220), .int (g 221), .ref (γ.1 + so k + 5), .ref (γ.1 + so k + 6), .ref (γ.1 + so k + 7), .ref (γ.1 + so k + 8)])) = rdw γ (wset w k (upd g 218 x)) := set_st γ w g (upd g 218 x) hk 4 (by decide) _ (by simp (disch := omega) only [stE, o_n, pk_us]) (r10 (P := fun r => r ≠ 4 → stE γ (so k) r _ (w.2.1 k) = stE γ (so k) r g (w.2.1 k)) (fun _ => by simp (disch := omega) only [stE, o_n]) (fun _ => by simp (disch := omega) only [stE, o_set, o_hts, o_load, o_left, o_lev, o_rest]) (fun _ => rfl) (fun _ => by simp (disch := omega) only [stE, o_set, o_hts, o_load, o_left, o_lev, o_rest]) (fun q => absurd rfl q) (fun _ => by simp (disch := omega) only [stE, o_set, o_hts, o_load, o_left, o_lev, o_rest]) (fun _ => by simp (disch := omega) only [stE, o_set, o_hts, o_load, o_left, o_lev, o_rest]) (fun _ => by simp (disch := omega) only [stE, o_set, o_hts, o_load, o_left, o_lev, o_rest]) (fun _ => by simp (disch := omega) only [stE, o_set, o_hts, o_load, o_left, o_lev, o_rest]) (fun _ => rfl))
theorem up_place (γ : Gm) (w : Wd) (g : Nat → Int32) {k : Nat} (hk : k < 8) (x : Int32) : hset (rdw γ (wset w k g)) (γ.1 + so k + 4) (.inr (5, [.int (g 218), .int x, .int (g 220), .int (g 221), .ref (γ.1 + so k + 5), .ref (γ.1 + so k + 6), .ref (γ.1 + so k + 7), .ref (γ.1 + so k + 8)])) = rdw γ (wset w k (upd g 219 x)) := set_st γ w g (upd g 219 x) hk 4 (by decide) _ (by simp (disch := omega) only [stE, o_n, pk_us]) (r10 (P := fun r => r ≠ 4 → stE γ (so k) r _ (w.2.1 k) = stE γ (so k) r g (w.2.1 k)) (fun _ => by simp (disch := omega) only [stE, o_n]) (fun _ => by simp (disch := omega) only [stE, o_set, o_hts, o_load, o_left, o_lev, o_rest]) (fun _ => rfl) (fun _ => by simp (disch := omega) only [stE, o_set, o_hts, o_load, o_left, o_lev, o_rest]) (fun q => absurd rfl q) (fun _ => by simp (disch := omega) only [stE, o_set, o_hts, o_load, o_left, o_lev, o_rest]) (fun _ => by simp (disch := omega) only [stE, o_set, o_hts, o_load, o_left, o_lev, o_rest]) (fun _ => by simp (disch := omega) only [stE, o_set, o_hts, o_load, o_left, o_lev, o_rest]) (fun _ => by simp (disch := omega) only [stE, o_set, o_hts, o_load, o_left, o_lev, o_rest]) (fun _ => rfl))
theorem up_speed (γ : Gm) (w : Wd) (g : Nat → Int32) {k : Nat} (hk : k < 8) (x : Int32) : hset (rdw γ (wset w k g)) (γ.1 + so k + 4) (.inr (5, [.int (g 218), .int (g 219), .int x, .int (g 221), .ref (γ.1 + so k + 5), .ref (γ.1 + so k + 6), .ref (γ.1 + so k + 7), .ref (γ.1 + so k + 8)])) = rdw γ (wset w k (upd g 220 x)) := set_st γ w g (upd g 220 x) hk 4 (by decide) _ (by simp (disch := omega) only [stE, o_n, pk_us]) (r10 (P := fun r => r ≠ 4 → stE γ (so k) r _ (w.2.1 k) = stE γ (so k) r g (w.2.1 k)) (fun _ => by simp (disch := omega) only [stE, o_n]) (fun _ => by simp (disch := omega) only [stE, o_set, o_hts, o_load, o_left, o_lev, o_rest]) (fun _ => rfl) (fun _ => by simp (disch := omega) only [stE, o_set, o_hts, o_load, o_left, o_lev, o_rest]) (fun q => absurd rfl q) (fun _ => by simp (disch := omega) only [stE, o_set, o_hts, o_load, o_left, o_lev, o_rest]) (fun _ => by simp (disch := omega) only [stE, o_set, o_hts, o_load, o_left, o_lev, o_rest]) (fun _ => by simp (disch := omega) only [stE, o_set, o_hts, o_load, o_left, o_lev, o_rest]) (fun _ => by simp (disch := omega) only [stE, o_set, o_hts, o_load, o_left, o_lev, o_rest]) (fun _ => rfl))
theorem up_wish (γ : Gm) (w : Wd) (g : Nat → Int32) {k : Nat} (hk : k < 8) (x : Int32) : hset (rdw γ (wset w k g)) (γ.1 + so k + 4) (.inr (5, [.int (g 218), .int (g 219), .int (g 220), .int x, .ref (γ.1 + so k + 5), .ref (γ.1 + so k + 6), .ref (γ.1 + so k + 7), .ref (γ.1 + so k + 8)])) = rdw γ (wset w k (upd g 221 x)) := set_st γ w g (upd g 221 x) hk 4 (by decide) _ (by simp (disch := omega) only [stE, o_n, pk_us]) (r10 (P := fun r => r ≠ 4 → stE γ (so k) r _ (w.2.1 k) = stE γ (so k) r g (w.2.1 k)) (fun _ => by simp (disch := omega) only [stE, o_n]) (fun _ => by simp (disch := omega) only [stE, o_set, o_hts, o_load, o_left, o_lev, o_rest]) (fun _ => rfl) (fun _ => by simp (disch := omega) only [stE, o_set, o_hts, o_load, o_left, o_lev, o_rest]) (fun q => absurd rfl q) (fun _ => by simp (disch := omega) only [stE, o_set, o_hts, o_load, o_left, o_lev, o_rest]) (fun _ => by simp (disch := omega) only [stE, o_set, o_hts, o_load, o_left, o_lev, o_rest]) (fun _ => by simp (disch := omega) only [stE, o_set, o_hts, o_load, o_left, o_lev, o_rest]) (fun _ => by simp (disch := omega) only [stE, o_set, o_hts, o_load, o_left, o_lev, o_rest]) (fun _ => rfl))
theorem up_set (γ : Gm) (w : Wd) (g : Nat → Int32) {k : Nat} (hk : k < 8) {i : Nat} (hi : i < 5) (x : Int32) : hset (rdw γ (wset w k g)) (γ.1 + so k + 1) (iE γ 5 (upd (vw 5 f_set g) i x)) = rdw γ (wset w k (upd g (f_set i) x)) := by
  have hf : f_set i = f_set i := rfl
  rw [vw_up x hi (fun a ha q => by unfold f_set at q; omega)]
  unfold f_set at hf
  exact set_st γ w g (upd g (f_set i) x) hk 1 (by decide) _ rfl (by unfold f_set; exact r10 (P := fun r => r ≠ 1 → stE γ (so k) r _ (w.2.1 k) = stE γ (so k) r g (w.2.1 k)) (fun _ => by simp (disch := omega) only [stE, o_n]) (fun q => absurd rfl q) (fun _ => rfl) (fun _ => by simp (disch := omega) only [stE, o_set, o_hts, o_load, o_left, o_lev, o_rest]) (fun _ => by simp (disch := omega) only [stE, o_n]) (fun _ => by simp (disch := omega) only [stE, o_set, o_hts, o_load, o_left, o_lev, o_rest]) (fun _ => by simp (disch := omega) only [stE, o_set, o_hts, o_load, o_left, o_lev, o_rest]) (fun _ => by simp (disch := omega) only [stE, o_set, o_hts, o_load, o_left, o_lev, o_rest]) (fun _ => by simp (disch := omega) only [stE, o_set, o_hts, o_load, o_left, o_lev, o_rest]) (fun _ => rfl))
theorem up_hts (γ : Gm) (w : Wd) (g : Nat → Int32) {k : Nat} (hk : k < 8) {i : Nat} (hi : i < 120) (x : Int32) : hset (rdw γ (wset w k g)) (γ.1 + so k + 3) (iE γ 120 (upd (vw 120 f_hts g) i x)) = rdw γ (wset w k (upd g (f_hts i) x)) := by
  have hf : f_hts i = f_hts i := rfl
  rw [vw_up x hi (fun a ha q => by unfold f_hts at q; omega)]
  unfold f_hts at hf
  exact set_st γ w g (upd g (f_hts i) x) hk 3 (by decide) _ rfl (by unfold f_hts; exact r10 (P := fun r => r ≠ 3 → stE γ (so k) r _ (w.2.1 k) = stE γ (so k) r g (w.2.1 k)) (fun _ => by simp (disch := omega) only [stE, o_n]) (fun _ => by simp (disch := omega) only [stE, o_set, o_hts, o_load, o_left, o_lev, o_rest]) (fun _ => rfl) (fun q => absurd rfl q) (fun _ => by simp (disch := omega) only [stE, o_n]) (fun _ => by simp (disch := omega) only [stE, o_set, o_hts, o_load, o_left, o_lev, o_rest]) (fun _ => by simp (disch := omega) only [stE, o_set, o_hts, o_load, o_left, o_lev, o_rest]) (fun _ => by simp (disch := omega) only [stE, o_set, o_hts, o_load, o_left, o_lev, o_rest]) (fun _ => by simp (disch := omega) only [stE, o_set, o_hts, o_load, o_left, o_lev, o_rest]) (fun _ => rfl))
theorem up_load (γ : Gm) (w : Wd) (g : Nat → Int32) {k : Nat} (hk : k < 8) {i : Nat} (hi : i < 6) (x : Int32) : hset (rdw γ (wset w k g)) (γ.1 + so k + 5) (iE γ 6 (upd (vw 6 f_load g) i x)) = rdw γ (wset w k (upd g (f_load i) x)) := by
  have hf : f_load i = f_load i := rfl
  rw [vw_up x hi (fun a ha q => by unfold f_load at q; omega)]
  unfold f_load at hf
  exact set_st γ w g (upd g (f_load i) x) hk 5 (by decide) _ rfl (by unfold f_load; exact r10 (P := fun r => r ≠ 5 → stE γ (so k) r _ (w.2.1 k) = stE γ (so k) r g (w.2.1 k)) (fun _ => by simp (disch := omega) only [stE, o_n]) (fun _ => by simp (disch := omega) only [stE, o_set, o_hts, o_load, o_left, o_lev, o_rest]) (fun _ => rfl) (fun _ => by simp (disch := omega) only [stE, o_set, o_hts, o_load, o_left, o_lev, o_rest]) (fun _ => by simp (disch := omega) only [stE, o_n]) (fun q => absurd rfl q) (fun _ => by simp (disch := omega) only [stE, o_set, o_hts, o_load, o_left, o_lev, o_rest]) (fun _ => by simp (disch := omega) only [stE, o_set, o_hts, o_load, o_left, o_lev, o_rest]) (fun _ => by simp (disch := omega) only [stE, o_set, o_hts, o_load, o_left, o_lev, o_rest]) (fun _ => rfl))
theorem up_left (γ : Gm) (w : Wd) (g : Nat → Int32) {k : Nat} (hk : k < 8) {i : Nat} (hi : i < 6) (x : Int32) : hset (rdw γ (wset w k g)) (γ.1 + so k + 6) (iE γ 6 (upd (vw 6 f_left g) i x)) = rdw γ (wset w k (upd g (f_left i) x)) := by
  have hf : f_left i = f_left i := rfl
  rw [vw_up x hi (fun a ha q => by unfold f_left at q; omega)]
  unfold f_left at hf
  exact set_st γ w g (upd g (f_left i) x) hk 6 (by decide) _ rfl (by unfold f_left; exact r10 (P := fun r => r ≠ 6 → stE γ (so k) r _ (w.2.1 k) = stE γ (so k) r g (w.2.1 k)) (fun _ => by simp (disch := omega) only [stE, o_n]) (fun _ => by simp (disch := omega) only [stE, o_set, o_hts, o_load, o_left, o_lev, o_rest]) (fun _ => rfl) (fun _ => by simp (disch := omega) only [stE, o_set, o_hts, o_load, o_left, o_lev, o_rest]) (fun _ => by simp (disch := omega) only [stE, o_n]) (fun _ => by simp (disch := omega) only [stE, o_set, o_hts, o_load, o_left, o_lev, o_rest]) (fun q => absurd rfl q) (fun _ => by simp (disch := omega) only [stE, o_set, o_hts, o_load, o_left, o_lev, o_rest]) (fun _ => by simp (disch := omega) only [stE, o_set, o_hts, o_load, o_left, o_lev, o_rest]) (fun _ => rfl))
theorem up_lev (γ : Gm) (w : Wd) (g : Nat → Int32) {k : Nat} (hk : k < 8) {i : Nat} (hi : i < 18) (x : Int32) : hset (rdw γ (wset w k g)) (γ.1 + so k + 7) (iE γ 18 (upd (vw 18 f_lev g) i x)) = rdw γ (wset w k (upd g (f_lev i) x)) := by
  have hf : f_lev i = f_lev i := rfl
  rw [vw_up x hi (fun a ha q => by unfold f_lev at q; omega)]
  unfold f_lev at hf
  exact set_st γ w g (upd g (f_lev i) x) hk 7 (by decide) _ rfl (by unfold f_lev; exact r10 (P := fun r => r ≠ 7 → stE γ (so k) r _ (w.2.1 k) = stE γ (so k) r g (w.2.1 k)) (fun _ => by simp (disch := omega) only [stE, o_n]) (fun _ => by simp (disch := omega) only [stE, o_set, o_hts, o_load, o_left, o_lev, o_rest]) (fun _ => rfl) (fun _ => by simp (disch := omega) only [stE, o_set, o_hts, o_load, o_left, o_lev, o_rest]) (fun _ => by simp (disch := omega) only [stE, o_n]) (fun _ => by simp (disch := omega) only [stE, o_set, o_hts, o_load, o_left, o_lev, o_rest]) (fun _ => by simp (disch := omega) only [stE, o_set, o_hts, o_load, o_left, o_lev, o_rest]) (fun q => absurd rfl q) (fun _ => by simp (disch := omega) only [stE, o_set, o_hts, o_load, o_left, o_lev, o_rest]) (fun _ => rfl))
theorem up_rest (γ : Gm) (w : Wd) (g : Nat → Int32) {k : Nat} (hk : k < 8) {i : Nat} (hi : i < 18) (x : Int32) : hset (rdw γ (wset w k g)) (γ.1 + so k + 8) (iE γ 18 (upd (vw 18 f_rest g) i x)) = rdw γ (wset w k (upd g (f_rest i) x)) := by
  have hf : f_rest i = f_rest i := rfl
  rw [vw_up x hi (fun a ha q => by unfold f_rest at q; omega)]
  unfold f_rest at hf
  exact set_st γ w g (upd g (f_rest i) x) hk 8 (by decide) _ rfl (by unfold f_rest; exact r10 (P := fun r => r ≠ 8 → stE γ (so k) r _ (w.2.1 k) = stE γ (so k) r g (w.2.1 k)) (fun _ => by simp (disch := omega) only [stE, o_n]) (fun _ => by simp (disch := omega) only [stE, o_set, o_hts, o_load, o_left, o_lev, o_rest]) (fun _ => rfl) (fun _ => by simp (disch := omega) only [stE, o_set, o_hts, o_load, o_left, o_lev, o_rest]) (fun _ => by simp (disch := omega) only [stE, o_n]) (fun _ => by simp (disch := omega) only [stE, o_set, o_hts, o_load, o_left, o_lev, o_rest]) (fun _ => by simp (disch := omega) only [stE, o_set, o_hts, o_load, o_left, o_lev, o_rest]) (fun _ => by simp (disch := omega) only [stE, o_set, o_hts, o_load, o_left, o_lev, o_rest]) (fun q => absurd rfl q) (fun _ => rfl))
theorem set_one (γ : Gm) (w : Wd) (g g' : Nat → Int32) (b i0 : Nat) (h0 : i0 < 92) (hb : bk i0 = b) (e : va_E) (he : ent γ i0 g' (w.2.1 (lk i0)) w.2.2.2.1 = some e) (hr : ∀ i, i < 92 → bk i = b → i ≠ i0 → ent γ i g' (w.2.1 (lk i)) w.2.2.2.1 = ent γ i g (w.2.1 (lk i)) w.2.2.2.1) : hset (rdw γ (wset w b g)) (γ.1 + i0) e = rdw γ (wset w b g') := by
  refine Prod.ext (funext fun a => ?_) rfl
  by_cases ha : a = γ.1 + i0
  · rw [ha, hset_at, rdw_at γ _ h0, hb, ws_same]; exact he.symm
  · rw [hset_off _ _ ha]
    refine rdw_off γ _ _ (fun i hi hai => ?_) rfl
    have hne : i ≠ i0 := fun z => ha (by rw [hai, z])
    by_cases hbi : bk i = b
    · rw [hbi, ws_same, ws_same]; exact (hr i hi hbi hne).symm
    · rw [ws_ne _ _ hbi, ws_ne _ _ hbi]; rfl
theorem bk_big {i b : Nat} (hi : i < 92) (h : bk i = b) (hb : 8 ≤ b) : (b = 8 ∧ i < 4) ∨ (b = 9 ∧ (i = 24 ∨ i = 25)) ∨ (b = 10 ∧ i = 86) ∨ (i = b + 77 ∧ 10 ≤ b ∧ b < 15) := by
  unfold bk at h
  by_cases h1 : i < 4
  · rw [if_pos h1] at h; omega
  · rw [if_neg h1] at h
    by_cases h2 : i < 24
    · rw [if_pos h2] at h; omega
    · rw [if_neg h2] at h
      by_cases h3 : i < 26
      · rw [if_pos h3] at h; omega
      · rw [if_neg h3] at h
        by_cases h4 : i < 86
        · rw [if_pos h4] at h; omega
        · rw [if_neg h4] at h
          by_cases h5 : i = 86
          · rw [if_pos h5] at h; omega
          · rw [if_neg h5] at h; omega
theorem up_Bytes (γ : Gm) (w : Wd) (g : Nat → Int32) {i : Nat} (hi : i < 60) (x : Int32) : hset (rdw γ (wset w 8 g)) (γ.1 + 2) (iE γ 60 (upd (vw 60 f_hts g) i x)) = rdw γ (wset w 8 (upd g i x)) := by
  rw [vw_up (φ := f_hts) x hi (fun a ha q => q)]
  exact set_one γ w g (upd g (f_hts i) x) 8 2 (by decide) rfl _ rfl (fun (j : Nat) (hj : j < 92) (hb : bk j = 8) (hne : j ≠ 2) => by
    have h9 := bk_big hj hb (by decide)
    have hj92 : j < 92 := hj
    have hne9 := hne
    have h3 : j = 0 ∨ j = 1 ∨ j = 3 := by omega
    rcases h3 with rfl | rfl | rfl
    · rfl
    · show some _ = some _
      unfold f_hts
      rw [o_n (by omega), o_n (by omega), o_n (by omega)]
    · rfl)
theorem up_tlen (γ : Gm) (w : Wd) (g : Nat → Int32) (x : Int32) : hset (rdw γ (wset w 8 g)) (γ.1 + 1) (.inr (3, [.ref (γ.1 + 2), .int x, .ref (γ.1 + 3), .int (g 61), .int (g 62)])) = rdw γ (wset w 8 (upd g 60 x)) := by
  exact set_one γ w g (upd g 60 x) 8 1 (by decide) rfl _ rfl (fun (j : Nat) (hj : j < 92) (hb : bk j = 8) (hne : j ≠ 1) => by
    have h9 := bk_big hj hb (by decide)
    have hj92 : j < 92 := hj
    have hne9 := hne
    have h3 : j = 0 ∨ j = 2 ∨ j = 3 := by omega
    rcases h3 with rfl | rfl | rfl
    · rfl
    · show some (iE _ _ _) = some (iE _ _ _)
      rw [vw_off (n := 60) (φ := f_hts) (fun a ha => by unfold f_hts; omega)]
    · rfl)
theorem up_tfault (γ : Gm) (w : Wd) (g : Nat → Int32) (x : Int32) : hset (rdw γ (wset w 8 g)) (γ.1 + 1) (.inr (3, [.ref (γ.1 + 2), .int (g 60), .ref (γ.1 + 3), .int x, .int (g 62)])) = rdw γ (wset w 8 (upd g 61 x)) := by
  exact set_one γ w g (upd g 61 x) 8 1 (by decide) rfl _ rfl (fun (j : Nat) (hj : j < 92) (hb : bk j = 8) (hne : j ≠ 1) => by
    have h9 := bk_big hj hb (by decide)
    have hj92 : j < 92 := hj
    have hne9 := hne
    have h3 : j = 0 ∨ j = 2 ∨ j = 3 := by omega
    rcases h3 with rfl | rfl | rfl
    · rfl
    · show some (iE _ _ _) = some (iE _ _ _)
      rw [vw_off (n := 60) (φ := f_hts) (fun a ha => by unfold f_hts; omega)]
    · rfl)
theorem up_tat (γ : Gm) (w : Wd) (g : Nat → Int32) (x : Int32) : hset (rdw γ (wset w 8 g)) (γ.1 + 1) (.inr (3, [.ref (γ.1 + 2), .int (g 60), .ref (γ.1 + 3), .int (g 61), .int x])) = rdw γ (wset w 8 (upd g 62 x)) := by
  exact set_one γ w g (upd g 62 x) 8 1 (by decide) rfl _ rfl (fun (j : Nat) (hj : j < 92) (hb : bk j = 8) (hne : j ≠ 1) => by
    have h9 := bk_big hj hb (by decide)
    have hj92 : j < 92 := hj
    have hne9 := hne
    have h3 : j = 0 ∨ j = 2 ∨ j = 3 := by omega
    rcases h3 with rfl | rfl | rfl
    · rfl
    · show some (iE _ _ _) = some (iE _ _ _)
      rw [vw_off (n := 60) (φ := f_hts) (fun a ha => by unfold f_hts; omega)]
    · rfl)
theorem up_next (γ : Gm) (w : Wd) (g : Nat → Int32) (x : Int32) : hset (rdw γ (wset w 9 g)) (γ.1 + 24) (.inr (1, [.ref (γ.1 + 25), .int x, .int (g 1)])) = rdw γ (wset w 9 (upd g 0 x)) := by
  exact set_one γ w g (upd g 0 x) 9 24 (by decide) rfl _ rfl (fun (j : Nat) (hj : j < 92) (hb : bk j = 9) (hne : j ≠ 24) => by
    have h9 := bk_big hj hb (by decide)
    have hj92 : j < 92 := hj
    have hne9 := hne
    have h3 : j = 25 := by omega
    rcases h3 with rfl
    rfl)
theorem up_size (γ : Gm) (w : Wd) (g : Nat → Int32) (x : Int32) : hset (rdw γ (wset w 9 g)) (γ.1 + 24) (.inr (1, [.ref (γ.1 + 25), .int (g 0), .int x])) = rdw γ (wset w 9 (upd g 1 x)) := by
  exact set_one γ w g (upd g 1 x) 9 24 (by decide) rfl _ rfl (fun (j : Nat) (hj : j < 92) (hb : bk j = 9) (hne : j ≠ 24) => by
    have h9 := bk_big hj hb (by decide)
    have hj92 : j < 92 := hj
    have hne9 := hne
    have h3 : j = 25 := by omega
    rcases h3 with rfl
    rfl)

theorem rd_H (γ : Gm) (w : Wd) : (rdw γ w).1 (γ.1 + 86) = some (iE γ 40 (pkh (w.1 10))) := rdw_at γ w (i := 86) (by decide)
theorem rd_W (γ : Gm) (w : Wd) : (rdw γ w).1 (γ.1 + 87) = some (iE γ 64 (vw 62 f_w (w.1 10))) := rdw_at γ w (i := 87) (by decide)
theorem rd_Q (γ : Gm) (w : Wd) : (rdw γ w).1 (γ.1 + 88) = some (iE γ 64 (fun _ => 0)) := rdw_at γ w (i := 88) (by decide)
theorem f_w_hi (i : Nat) : 120 ≤ f_w i := by unfold f_w; split <;> (try split) <;> omega
theorem f_w_inj {a b : Nat} (h : f_w a = f_w b) : a = b := by
  unfold f_w at h
  by_cases h1 : a < 48 <;> by_cases h2 : b < 48 <;> by_cases h3 : a < 53 <;> by_cases h4 : b < 53 <;> simp only [h1, h2, h3, h4, if_true, if_false] at h <;> omega
theorem pkh_off {f : Nat → Int32} {i : Nat} {x : Int32} (h : 120 ≤ i) : pkh (upd f i x) = pkh f := by
  funext c
  by_cases hc : c < 40
  · simp only [pkh, if_pos hc, pk3]
    rw [pk_un (by omega), pk_un (by omega), pk_un (by omega)]
  · simp only [pkh, if_neg hc]
theorem vw_w_off {f : Nat → Int32} {i : Nat} {x : Int32} (h : i < 120) : vw 62 f_w (upd f i x) = vw 62 f_w f := vw_off fun a _ => by have := f_w_hi a; omega
theorem up_W (γ : Gm) (w : Wd) (g : Nat → Int32) {i : Nat} (hi : i < 62) (x : Int32) : hset (rdw γ (wset w 10 g)) (γ.1 + 87) (iE γ 64 (upd (vw 62 f_w g) i x)) = rdw γ (wset w 10 (upd g (f_w i) x)) := by
  rw [vw_up (φ := f_w) x hi (fun a ha q => f_w_inj q)]
  exact set_one γ w g (upd g (f_w i) x) 10 87 (by decide) rfl _ rfl (fun (j : Nat) (hj : j < 92) (hb : bk j = 10) (hne : j ≠ 87) => by
    have h9 := bk_big hj hb (by decide)
    have h86 : j = 86 := by omega
    subst h86
    show some (iE _ _ _) = some (iE _ _ _)
    rw [pkh_off (f_w_hi i)])
theorem pkh_up (g : Nat → Int32) {c s : Nat} (hc : c < 40) (hs : s < 3) (u : Int32) : upd (pkh g) c (pkh g c + (if s = 0 then nI 1 else if s = 1 then nI 1024 else nI 1048576) * u) = pkh (upd g (3 * c + s) (g (3 * c + s) + u)) := by
  funext a
  by_cases ha : a = c
  · subst ha
    rw [pk_us]
    simp only [pkh, if_pos hc, pk3]
    have e1 : ∀ z, z ≠ s → upd g (3 * a + s) (g (3 * a + s) + u) (3 * a + z) = g (3 * a + z) := fun z hz => pk_un (by omega)
    have e2 : upd g (3 * a + s) (g (3 * a + s) + u) (3 * a + s) = g (3 * a + s) + u := pk_us
    rcases (by omega : s = 0 ∨ s = 1 ∨ s = 2) with rfl | rfl | rfl
    · rw [if_pos rfl, e2, e1 1 (by decide), e1 2 (by decide), show nI 1 * u = u from Int32.one_mul u]
      ac_rfl
    · rw [if_neg (by decide), if_pos rfl, e2, e1 0 (by decide), e1 2 (by decide), Int32.mul_add]
      ac_rfl
    · rw [if_neg (by decide), if_neg (by decide), e2, e1 0 (by decide), e1 1 (by decide), Int32.mul_add]
      ac_rfl
  · rw [pk_un ha]
    by_cases h4 : a < 40
    · simp only [pkh, if_pos h4, pk3]
      rw [pk_un (by omega), pk_un (by omega), pk_un (by omega)]
    · simp only [pkh, if_neg h4]
theorem up_H (γ : Gm) (w : Wd) (g : Nat → Int32) {c s : Nat} (hc : c < 40) (hs : s < 3) (u : Int32) : hset (rdw γ (wset w 10 g)) (γ.1 + 86) (iE γ 40 (upd (pkh g) c (pkh g c + (if s = 0 then nI 1 else if s = 1 then nI 1024 else nI 1048576) * u))) = rdw γ (wset w 10 (upd g (3 * c + s) (g (3 * c + s) + u))) := by
  rw [pkh_up g hc hs u]
  exact set_one γ w g (upd g (3 * c + s) (g (3 * c + s) + u)) 10 86 (by decide) rfl _ rfl (fun (j : Nat) (hj : j < 92) (hb : bk j = 10) (hne : j ≠ 86) => by
    have h9 := bk_big hj hb (by decide)
    have h87 : j = 87 := by omega
    subst h87
    show some (iE _ _ _) = some (iE _ _ _)
    rw [vw_w_off (by omega)])
end
