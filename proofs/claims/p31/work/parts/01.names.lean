/-! ===== BEGIN words of one list among another's, by their places ===== -/
theorem goodIn_r {big : List Cond} (ws : List Cond) (ps : List Nat) (hp : ws = ps.filterMap (fun i => big[i]?)) (h : ws.all goodWord = true) : GoodIn big ws := by
  intro w hw
  have h1 := List.all_eq_true.mp h w hw
  rw [hp] at hw
  obtain ⟨i, -, hi⟩ := List.mem_filterMap.mp hw
  have hm : w ∈ big := by first | exact List.mem_of_getElem? hi | exact List.getElem?_mem hi
  exact ⟨hm, good_of_word h1⟩
theorem goodIn_app {big a b : List Cond} (ha : GoodIn big a) (hb : GoodIn big b) : GoodIn big (a ++ b) := fun w h => (List.mem_append.mp h).elim (ha w) (hb w)
theorem goodIn_ca {big a b : List Cond} {c : Cond} (ha : GoodIn big (c :: a)) (hb : GoodIn big b) : GoodIn big (c :: (a ++ b)) := fun w h => (List.mem_cons.mp h).elim (fun e => ha w (List.mem_cons.mpr (Or.inl e))) (fun h => (List.mem_append.mp h).elim (fun h => ha w (List.mem_cons.mpr (Or.inr h))) (hb w))
theorem goodIn_sub {big ws : List Cond} (hm : ∀ w ∈ ws, w ∈ big) (h : ws.all goodWord = true) : GoodIn big ws := fun w hw => ⟨hm w hw, good_of_word (List.all_eq_true.mp h w hw)⟩
/-! ===== END ===== -/

/-! ===== BEGIN printed: names, fields, word lists, decode rows ===== -/
def RX0 : String := "ScooterFlags$Rider"
def TX0 : u_T := fun k => match k with
  | 0 => ("ScooterFlags$Rider", "flag", "I", false)
  | 1 => ("ScooterFlags$Rider", "pace", "I", false)
  | 2 => ("ScooterFlags$Rider", "foot", "I", false)
  | 3 => ("ScooterFlags$Rider", "tired", "I", false)
  | 4 => ("ScooterFlags$Rider", "soleLeft", "I", false)
  | 5 => ("ScooterFlags$Rider", "seconds", "I", false)
  | _ => ("ScooterFlags$Rider", "pushes", "I", false)
def tyX0 : Nat → FieldType := fun k => match k with
  | 0 => .int
  | 1 => .int
  | 2 => .int
  | 3 => .int
  | 4 => .int
  | 5 => .int
  | _ => .int
abbrev wsX00 : List Cond := u_ws RX0 TX0 7
theorem nmX0 : ∀ a, a < 7 → ∀ b, b < 7 → a ≠ b → (TX0 a).2.1 ≠ (TX0 b).2.1 := by decide +kernel
theorem tyX0_ok : ∀ k, k < 7 → parseFieldDescriptor (TX0 k).2.2.1 = some (tyX0 k) := by decide +kernel
abbrev cX0_init : ByteArray := prog_2_method_1_code
def yX0_init : MethodName := ⟨RX0, "<init>", "()V"⟩
abbrev cX0_begin : ByteArray := prog_2_method_2_code
def yX0_begin : MethodName := ⟨RX0, "begin", "(LScooterFlags$Street;)V"⟩
abbrev cX0_can : ByteArray := prog_2_method_3_code
def yX0_can : MethodName := ⟨RX0, "can", "(LScooterFlags$Street;I)Z"⟩
abbrev cX0_goBy : ByteArray := prog_2_method_4_code
def yX0_goBy : MethodName := ⟨RX0, "goBy", "(LScooterFlags$Street;I)V"⟩
abbrev cX0_roll : ByteArray := prog_2_method_5_code
def yX0_roll : MethodName := ⟨RX0, "roll", "(LScooterFlags$Street;)V"⟩
def RX1 : String := "ScooterFlags$Row"
def TX1 : u_T := fun k => match k with
  | 0 => ("ScooterFlags$Row", "cells", "[I", true)
  | 1 => ("ScooterFlags$Row", "there", "Z", false)
  | 2 => ("ScooterFlags$Row", "lane", "I", false)
  | _ => ("ScooterFlags$Row", "length", "I", false)
def tyX1 : Nat → FieldType := fun k => match k with
  | 0 => .array .int
  | 1 => .boolean
  | 2 => .int
  | _ => .int
abbrev wsX10 : List Cond := u_ws RX1 TX1 4
theorem nmX1 : ∀ a, a < 4 → ∀ b, b < 4 → a ≠ b → (TX1 a).2.1 ≠ (TX1 b).2.1 := by decide +kernel
theorem tyX1_ok : ∀ k, k < 4 → parseFieldDescriptor (TX1 k).2.2.1 = some (tyX1 k) := by decide +kernel
abbrev cX1_init : ByteArray := prog_3_method_1_code
def yX1_init : MethodName := ⟨RX1, "<init>", "()V"⟩
abbrev cX1_becomeNew : ByteArray := prog_3_method_2_code
def yX1_becomeNew : MethodName := ⟨RX1, "becomeNew", "(II)V"⟩
abbrev cX1_isUnlike : ByteArray := prog_3_method_3_code
def yX1_isUnlike : MethodName := ⟨RX1, "isUnlike", "(I)Z"⟩
abbrev cX1_holds : ByteArray := prog_3_method_4_code
def yX1_holds : MethodName := ⟨RX1, "holds", "(II)Z"⟩
abbrev cX1_at : ByteArray := prog_3_method_5_code
def yX1_at : MethodName := ⟨RX1, "at", "(I)I"⟩
abbrev cX1_keep : ByteArray := prog_3_method_6_code
def yX1_keep : MethodName := ⟨RX1, "keep", "(II)V"⟩
abbrev cX1_cut : ByteArray := prog_3_method_7_code
def yX1_cut : MethodName := ⟨RX1, "cut", "(I)I"⟩
def RX2 : String := "ScooterFlags$Search"
def TX2 : u_T := fun k => match k with
  | 0 => ("ScooterFlags$Search", "rider", "LScooterFlags$Rider;", true)
  | 1 => ("ScooterFlags$Search", "fewest", "[I", true)
  | 2 => ("ScooterFlags$Search", "waiting", "[I", true)
  | 3 => ("ScooterFlags$Search", "waitingPushes", "[I", true)
  | 4 => ("ScooterFlags$Search", "waitingCount", "[I", true)
  | 5 => ("ScooterFlags$Search", "countsPushes", "Z", false)
  | 6 => ("ScooterFlags$Search", "limit", "I", false)
  | _ => ("ScooterFlags$Search", "best", "I", false)
def tyX2 : Nat → FieldType := fun k => match k with
  | 0 => .object "ScooterFlags$Rider"
  | 1 => .array .int
  | 2 => .array .int
  | 3 => .array .int
  | 4 => .array .int
  | 5 => .boolean
  | 6 => .int
  | _ => .int
abbrev wsX20 : List Cond := u_ws RX2 TX2 8
theorem nmX2 : ∀ a, a < 8 → ∀ b, b < 8 → a ≠ b → (TX2 a).2.1 ≠ (TX2 b).2.1 := by decide +kernel
theorem tyX2_ok : ∀ k, k < 8 → parseFieldDescriptor (TX2 k).2.2.1 = some (tyX2 k) := by decide +kernel
abbrev cX2_init : ByteArray := prog_4_method_1_code
def yX2_init : MethodName := ⟨RX2, "<init>", "()V"⟩
def RX3 : String := "ScooterFlags$Street"
def TX3 : u_T := fun k => match k with
  | 0 => ("ScooterFlags$Street", "kind", "[I", true)
  | 1 => ("ScooterFlags$Street", "taken", "[I", true)
  | 2 => ("ScooterFlags$Street", "grated", "[Z", true)
  | 3 => ("ScooterFlags$Street", "count", "I", false)
  | 4 => ("ScooterFlags$Street", "strength", "I", false)
  | 5 => ("ScooterFlags$Street", "kneeBears", "I", false)
  | _ => ("ScooterFlags$Street", "soleBears", "I", false)
def tyX3 : Nat → FieldType := fun k => match k with
  | 0 => .array .int
  | 1 => .array .int
  | 2 => .array .boolean
  | 3 => .int
  | 4 => .int
  | 5 => .int
  | _ => .int
abbrev wsX30 : List Cond := u_ws RX3 TX3 7
theorem nmX3 : ∀ a, a < 7 → ∀ b, b < 7 → a ≠ b → (TX3 a).2.1 ≠ (TX3 b).2.1 := by decide +kernel
theorem tyX3_ok : ∀ k, k < 7 → parseFieldDescriptor (TX3 k).2.2.1 = some (tyX3 k) := by decide +kernel
abbrev cX3_init : ByteArray := prog_5_method_1_code
def yX3_init : MethodName := ⟨RX3, "<init>", "()V"⟩
abbrev cX3_isNone : ByteArray := prog_5_method_2_code
def yX3_isNone : MethodName := ⟨RX3, "isNone", "()Z"⟩
abbrev cX3_has : ByteArray := prog_5_method_3_code
def yX3_has : MethodName := ⟨RX3, "has", "(I)Z"⟩
abbrev cX3_dragOf : ByteArray := prog_5_method_4_code
def yX3_dragOf : MethodName := ⟨RX3, "dragOf", "(I)I"⟩
abbrev cX3_readText : ByteArray := prog_5_method_6_code
def yX3_readText : MethodName := ⟨RX3, "readText", "(LScooterFlags$Row;II)I"⟩
abbrev cX3_readHead : ByteArray := prog_5_method_7_code
def yX3_readHead : MethodName := ⟨RX3, "readHead", "(LScooterFlags$Row;II)I"⟩
abbrev cX3_readFlag : ByteArray := prog_5_method_8_code
def yX3_readFlag : MethodName := ⟨RX3, "readFlag", "(LScooterFlags$Row;III)I"⟩
abbrev cX3_kindOfLetter : ByteArray := prog_5_method_9_code
def yX3_kindOfLetter : MethodName := ⟨RX3, "kindOfLetter", "(I)I"⟩
def RX4 : String := "ScooterFlags"
def TX4 : u_T := fun k => match k with
  | 0 => ("ScooterFlags", "rows", "[LScooterFlags$Row;", true)
  | 1 => ("ScooterFlags", "rider", "LScooterFlags$Rider;", true)
  | 2 => ("ScooterFlags", "search", "LScooterFlags$Search;", true)
  | 3 => ("ScooterFlags", "readings", "[I", true)
  | 4 => ("ScooterFlags", "openFlags", "[I", true)
  | 5 => ("ScooterFlags", "road", "LScooterFlags$Street;", false)
  | 6 => ("ScooterFlags", "draft", "LScooterFlags$Street;", false)
  | 7 => ("ScooterFlags", "readingCount", "I", false)
  | 8 => ("ScooterFlags", "traced", "I", false)
  | _ => ("ScooterFlags", "lastFault", "I", false)
def tyX4 : Nat → FieldType := fun k => match k with
  | 0 => .array (.object "ScooterFlags$Row")
  | 1 => .object "ScooterFlags$Rider"
  | 2 => .object "ScooterFlags$Search"
  | 3 => .array .int
  | 4 => .array .int
  | 5 => .object "ScooterFlags$Street"
  | 6 => .object "ScooterFlags$Street"
  | 7 => .int
  | 8 => .int
  | _ => .int
abbrev wsX40 : List Cond := u_ws RX4 TX4 10
theorem nmX4 : ∀ a, a < 10 → ∀ b, b < 10 → a ≠ b → (TX4 a).2.1 ≠ (TX4 b).2.1 := by decide +kernel
theorem tyX4_ok : ∀ k, k < 10 → parseFieldDescriptor (TX4 k).2.2.1 = some (tyX4 k) := by decide +kernel
abbrev cX4_init : ByteArray := prog_1_method_1_code
def yX4_init : MethodName := ⟨RX4, "<init>", "()V"⟩
abbrev cX4_street : ByteArray := prog_1_method_2_code
def yX4_street : MethodName := ⟨RX4, "street", "(IIII)I"⟩
abbrev cX4_ofFlag : ByteArray := prog_1_method_3_code
def yX4_ofFlag : MethodName := ⟨RX4, "ofFlag", "(II)I"⟩
abbrev cX4_strong : ByteArray := prog_1_method_4_code
def yX4_strong : MethodName := ⟨RX4, "strong", "(I)I"⟩
abbrev cX4_knee : ByteArray := prog_1_method_5_code
def yX4_knee : MethodName := ⟨RX4, "knee", "(I)I"⟩
abbrev cX4_sole : ByteArray := prog_1_method_6_code
def yX4_sole : MethodName := ⟨RX4, "sole", "(I)I"⟩
abbrev cX4_grating : ByteArray := prog_1_method_7_code
def yX4_grating : MethodName := ⟨RX4, "grating", "(IZ)I"⟩
abbrev cX4_way : ByteArray := prog_1_method_8_code
def yX4_way : MethodName := ⟨RX4, "way", "(IIIII)I"⟩
abbrev cX4_areActs : ByteArray := prog_1_method_9_code
def yX4_areActs : MethodName := ⟨RX4, "areActs", "(LScooterFlags$Row;II)Z"⟩
abbrev cX4_ride : ByteArray := prog_1_method_10_code
def yX4_ride : MethodName := ⟨RX4, "ride", "(LScooterFlags$Row;II)I"⟩
abbrev cX4_riderTells : ByteArray := prog_1_method_11_code
def yX4_riderTells : MethodName := ⟨RX4, "riderTells", "(I)I"⟩
abbrev cX4_sheet : ByteArray := prog_1_method_25_code
def yX4_sheet : MethodName := ⟨RX4, "sheet", "(III)I"⟩
abbrev cX4_put : ByteArray := prog_1_method_27_code
def yX4_put : MethodName := ⟨RX4, "put", "(III)I"⟩
abbrev cX4_many : ByteArray := prog_1_method_35_code
def yX4_many : MethodName := ⟨RX4, "many", "(I)I"⟩
abbrev cX4_failed : ByteArray := prog_1_method_40_code
def yX4_failed : MethodName := ⟨RX4, "failed", "(I)I"⟩
abbrev cX4_isSheet : ByteArray := prog_1_method_42_code
def yX4_isSheet : MethodName := ⟨RX4, "isSheet", "(I)Z"⟩
abbrev cX4_isLane : ByteArray := prog_1_method_43_code
def yX4_isLane : MethodName := ⟨RX4, "isLane", "(I)Z"⟩
def RX5 : String := "ScooterFlagsModel"
def TX5 : u_T := fun k => match k with
  | _ => ("", "", "", false)
def tyX5 : Nat → FieldType := fun k => match k with
  | _ => .int
abbrev wsX50 : List Cond := u_ws RX5 TX5 0
theorem nmX5 : ∀ a, a < 0 → ∀ b, b < 0 → a ≠ b → (TX5 a).2.1 ≠ (TX5 b).2.1 := by decide +kernel
theorem tyX5_ok : ∀ k, k < 0 → parseFieldDescriptor (TX5 k).2.2.1 = some (tyX5 k) := by decide +kernel
def RJ9 : String := "java/lang/Math"
def TJ9 : u_T := fun k => match k with
  | _ => ("", "", "", false)
def tyJ9 : Nat → FieldType := fun k => match k with
  | _ => .int
abbrev wsJ90 : List Cond := u_ws RJ9 TJ9 0
theorem nmJ9 : ∀ a, a < 0 → ∀ b, b < 0 → a ≠ b → (TJ9 a).2.1 ≠ (TJ9 b).2.1 := by decide +kernel
theorem tyJ9_ok : ∀ k, k < 0 → parseFieldDescriptor (TJ9 k).2.2.1 = some (tyJ9 k) := by decide +kernel
abbrev cJ9_max_7cf53 : ByteArray := prog_8_method_65_code
def yJ9_max_7cf53 : MethodName := ⟨RJ9, "max", "(II)I"⟩
abbrev cJ9_min_7cf53 : ByteArray := prog_8_method_69_code
def yJ9_min_7cf53 : MethodName := ⟨RJ9, "min", "(II)I"⟩
def RJ7 : String := "java/util/Arrays"
def TJ7 : u_T := fun k => match k with
  | _ => ("", "", "", false)
def tyJ7 : Nat → FieldType := fun k => match k with
  | _ => .int
abbrev wsJ70 : List Cond := u_ws RJ7 TJ7 0
theorem nmJ7 : ∀ a, a < 0 → ∀ b, b < 0 → a ≠ b → (TJ7 a).2.1 ≠ (TJ7 b).2.1 := by decide +kernel
theorem tyJ7_ok : ∀ k, k < 0 → parseFieldDescriptor (TJ7 k).2.2.1 = some (tyJ7 k) := by decide +kernel
abbrev cJ7_fill_53178 : ByteArray := prog_9_method_103_code
def yJ7_fill_53178 : MethodName := ⟨RJ7, "fill", "([II)V"⟩
def RL : String := "ScooterFlagsLaw"
abbrev cL_cell : ByteArray := method_2_code
def yL_cell : MethodName := ⟨RL, "cell", "([II)I"⟩
abbrev cL_some : ByteArray := method_3_code
def yL_some : MethodName := ⟨RL, "some", "(II)I"⟩
abbrev cL_put : ByteArray := method_4_code
def yL_put : MethodName := ⟨RL, "put", "(LScooterFlags;[III[I)I"⟩
abbrev cL_change : ByteArray := method_5_code
def yL_change : MethodName := ⟨RL, "change", "(LScooterFlags;I[I)Z"⟩
abbrev cL_drag : ByteArray := method_6_code
def yL_drag : MethodName := ⟨RL, "drag", "([II)I"⟩
abbrev cL_go : ByteArray := method_7_code
def yL_go : MethodName := ⟨RL, "go", "([III)I"⟩
abbrev cL_law : ByteArray := code
def yL_law : MethodName := ⟨RL, "law", "([I)Z"⟩
def wsX0_init : List Cond := .code yX0_init cX0_init 1 none :: ([.methodLink RX0 3 objectInit, .instanceMethod objectInit, .code objectInit ⟨#[0xb1]⟩ 1 none, .fieldLink RX0 9 "ScooterFlags$Rider" "flag" "I", .fieldLink RX0 15 "ScooterFlags$Rider" "pace" "I", .fieldLink RX0 18 "ScooterFlags$Rider" "foot" "I", .fieldLink RX0 21 "ScooterFlags$Rider" "tired" "I", .fieldLink RX0 24 "ScooterFlags$Rider" "soleLeft" "I", .fieldLink RX0 27 "ScooterFlags$Rider" "seconds" "I", .fieldLink RX0 30 "ScooterFlags$Rider" "pushes" "I"] ++ wsX00)
def wsX0_begin : List Cond := .code yX0_begin cX0_begin 2 none :: ([.fieldLink RX0 9 "ScooterFlags$Rider" "flag" "I", .fieldLink RX0 15 "ScooterFlags$Rider" "pace" "I", .fieldLink RX0 18 "ScooterFlags$Rider" "foot" "I", .fieldLink RX0 21 "ScooterFlags$Rider" "tired" "I", .fieldLink RX0 33 "ScooterFlags$Street" "soleBears" "I", .fieldLink RX0 24 "ScooterFlags$Rider" "soleLeft" "I", .fieldLink RX0 27 "ScooterFlags$Rider" "seconds" "I", .fieldLink RX0 30 "ScooterFlags$Rider" "pushes" "I"] ++ wsX00 ++ wsX30)
def wsX3_has : List Cond := .code yX3_has cX3_has 2 (some .boolean) :: ([.fieldLink RX3 22 "ScooterFlags$Street" "count" "I"] ++ wsX30)
def wsX0_can : List Cond := .code yX0_can cX0_can 3 (some .boolean) :: ([.fieldLink RX0 9 "ScooterFlags$Rider" "flag" "I", .fieldLink RX0 21 "ScooterFlags$Rider" "tired" "I", .fieldLink RX0 42 "ScooterFlags$Street" "kneeBears" "I", .fieldLink RX0 15 "ScooterFlags$Rider" "pace" "I", .fieldLink RX0 24 "ScooterFlags$Rider" "soleLeft" "I", .methodLink RX0 38 yX3_has, .instanceMethod yX3_has, .selects RX3 yX3_has yX3_has, .initialized RX3, .code yX3_has cX3_has 2 (some .boolean), .fieldLink RX3 22 "ScooterFlags$Street" "count" "I"] ++ wsX00 ++ wsX30)
def wsX3_dragOf : List Cond := .code yX3_dragOf cX3_dragOf 2 (some .int) :: ([.fieldLink RX3 22 "ScooterFlags$Street" "count" "I", .fieldLink RX3 9 "ScooterFlags$Street" "kind" "[I", .fieldLink RX3 15 "ScooterFlags$Street" "taken" "[I"] ++ wsX30)
def wsX0_roll : List Cond := .code yX0_roll cX0_roll 4 none :: ([.fieldLink RX0 15 "ScooterFlags$Rider" "pace" "I", .fieldLink RX0 9 "ScooterFlags$Rider" "flag" "I", .methodLink RX0 54 Lib.Math.max.name, .static Lib.Math.max.name, .initialized "java/lang/Math", .code Lib.Math.max.name Lib.Math.max.code 2 (some .int), .fieldLink RX0 65 "ScooterFlags$Street" "grated" "[Z", .methodLink RX0 61 yX3_dragOf, .instanceMethod yX3_dragOf, .selects RX3 yX3_dragOf yX3_dragOf, .initialized RX3, .code yX3_dragOf cX3_dragOf 2 (some .int), .fieldLink RX3 22 "ScooterFlags$Street" "count" "I", .fieldLink RX3 9 "ScooterFlags$Street" "kind" "[I", .fieldLink RX3 15 "ScooterFlags$Street" "taken" "[I", .methodLink RX0 38 yX3_has, .instanceMethod yX3_has, .selects RX3 yX3_has yX3_has, .code yX3_has cX3_has 2 (some .boolean)] ++ wsX00 ++ wsX30)
def wsX0_goBy_r1 : List Cond := [Cond.fieldLink RX0 15 "ScooterFlags$Rider" "pace" "I", Cond.fieldLink RX0 21 "ScooterFlags$Rider" "tired" "I", Cond.fieldLink RX0 9 "ScooterFlags$Rider" "flag" "I", Cond.fieldLink RX0 27 "ScooterFlags$Rider" "seconds" "I", Cond.fieldLink RX0 45 "ScooterFlags$Street" "strength" "I", Cond.methodLink RX0 48 Lib.Math.min.name, Cond.static Lib.Math.min.name, Cond.initialized "java/lang/Math", Cond.code Lib.Math.min.name Lib.Math.min.code 2 (some .int), Cond.fieldLink RX0 30 "ScooterFlags$Rider" "pushes" "I", Cond.fieldLink RX0 18 "ScooterFlags$Rider" "foot" "I", Cond.methodLink RX0 54 Lib.Math.max.name, Cond.static Lib.Math.max.name, Cond.code Lib.Math.max.name Lib.Math.max.code 2 (some .int), Cond.fieldLink RX0 24 "ScooterFlags$Rider" "soleLeft" "I", Cond.methodLink RX0 57 yX0_roll, Cond.instanceMethod yX0_roll, Cond.selects RX0 yX0_roll yX0_roll, Cond.initialized RX0, Cond.code yX0_roll cX0_roll 4 none, Cond.fieldLink RX0 65 "ScooterFlags$Street" "grated" "[Z", Cond.methodLink RX0 61 yX3_dragOf, Cond.instanceMethod yX3_dragOf, Cond.selects RX3 yX3_dragOf yX3_dragOf]
def wsX0_goBy_r2 : List Cond := [Cond.initialized RX3, Cond.code yX3_dragOf cX3_dragOf 2 (some .int), Cond.fieldLink RX3 22 "ScooterFlags$Street" "count" "I", Cond.fieldLink RX3 9 "ScooterFlags$Street" "kind" "[I", Cond.fieldLink RX3 15 "ScooterFlags$Street" "taken" "[I", Cond.methodLink RX0 38 yX3_has, Cond.instanceMethod yX3_has, Cond.selects RX3 yX3_has yX3_has, Cond.code yX3_has cX3_has 2 (some .boolean)]
def wsX0_goBy : List Cond := .code yX0_goBy cX0_goBy 3 none :: ((wsX0_goBy_r1 ++ wsX0_goBy_r2) ++ wsX00 ++ wsX30)
def wsX1_init : List Cond := .code yX1_init cX1_init 1 none :: ([.methodLink RX1 3 objectInit, .instanceMethod objectInit, .code objectInit ⟨#[0xb1]⟩ 1 none, .arrayClass .int, .fieldLink RX1 9 "ScooterFlags$Row" "cells" "[I", .fieldLink RX1 15 "ScooterFlags$Row" "there" "Z", .fieldLink RX1 19 "ScooterFlags$Row" "lane" "I", .fieldLink RX1 23 "ScooterFlags$Row" "length" "I"] ++ wsX10)
def wsJ7_fill_53178 : List Cond := .code yJ7_fill_53178 cJ7_fill_53178 4 none :: ([])
def wsX1_becomeNew : List Cond := .code yX1_becomeNew cX1_becomeNew 3 none :: ([.fieldLink RX1 9 "ScooterFlags$Row" "cells" "[I", .fieldLink RX1 15 "ScooterFlags$Row" "there" "Z", .fieldLink RX1 19 "ScooterFlags$Row" "lane" "I", .methodLink RX1 32 Lib.Math.min.name, .static Lib.Math.min.name, .initialized "java/lang/Math", .code Lib.Math.min.name Lib.Math.min.code 2 (some .int), .methodLink RX1 38 Lib.Math.max.name, .static Lib.Math.max.name, .code Lib.Math.max.name Lib.Math.max.code 2 (some .int), .fieldLink RX1 23 "ScooterFlags$Row" "length" "I", .methodLink RX1 26 yJ7_fill_53178, .static yJ7_fill_53178, .initialized RJ7, .code yJ7_fill_53178 cJ7_fill_53178 4 none] ++ wsX10)
def wsX1_isUnlike : List Cond := .code yX1_isUnlike cX1_isUnlike 2 (some .boolean) :: ([.fieldLink RX1 15 "ScooterFlags$Row" "there" "Z", .fieldLink RX1 19 "ScooterFlags$Row" "lane" "I"] ++ wsX10)
def wsX1_holds : List Cond := .code yX1_holds cX1_holds 3 (some .boolean) :: ([.fieldLink RX1 23 "ScooterFlags$Row" "length" "I"] ++ wsX10)
def wsX1_at : List Cond := .code yX1_at cX1_at 2 (some .int) :: ([.fieldLink RX1 23 "ScooterFlags$Row" "length" "I", .fieldLink RX1 9 "ScooterFlags$Row" "cells" "[I"] ++ wsX10)
def wsX1_cut : List Cond := .code yX1_cut cX1_cut 2 (some .int) :: ([.fieldLink RX1 19 "ScooterFlags$Row" "lane" "I"] ++ wsX10)
def wsX1_keep : List Cond := .code yX1_keep cX1_keep 3 none :: ([.fieldLink RX1 23 "ScooterFlags$Row" "length" "I", .fieldLink RX1 9 "ScooterFlags$Row" "cells" "[I", .methodLink RX1 41 yX1_cut, .instanceMethod yX1_cut, .selects RX1 yX1_cut yX1_cut, .initialized RX1, .code yX1_cut cX1_cut 2 (some .int), .fieldLink RX1 19 "ScooterFlags$Row" "lane" "I"] ++ wsX10)
def wsX2_init_r1 : List Cond := [Cond.methodLink RX2 5 objectInit, Cond.instanceMethod objectInit, Cond.code objectInit ⟨#[0xb1]⟩ 1 none, Cond.classLink RX2 11 RX0, Cond.instantiable RX0 7, Cond.initialized RX0, Cond.fieldLink RX2 14 "ScooterFlags$Search" "rider" "LScooterFlags$Rider;", Cond.arrayClass .int, Cond.fieldLink RX2 18 "ScooterFlags$Search" "fewest" "[I", Cond.fieldLink RX2 22 "ScooterFlags$Search" "waiting" "[I", Cond.fieldLink RX2 25 "ScooterFlags$Search" "waitingPushes" "[I", Cond.fieldLink RX2 28 "ScooterFlags$Search" "waitingCount" "[I", Cond.fieldLink RX2 31 "ScooterFlags$Search" "countsPushes" "Z", Cond.fieldLink RX2 35 "ScooterFlags$Search" "limit" "I", Cond.fieldLink RX2 39 "ScooterFlags$Search" "best" "I", Cond.instanceMethod yX0_init, Cond.code yX0_init cX0_init 1 none, Cond.methodLink RX0 3 objectInit, Cond.fieldLink RX0 9 "ScooterFlags$Rider" "flag" "I", Cond.fieldLink RX0 15 "ScooterFlags$Rider" "pace" "I", Cond.fieldLink RX0 18 "ScooterFlags$Rider" "foot" "I", Cond.fieldLink RX0 21 "ScooterFlags$Rider" "tired" "I", Cond.fieldLink RX0 24 "ScooterFlags$Rider" "soleLeft" "I", Cond.fieldLink RX0 27 "ScooterFlags$Rider" "seconds" "I"]
def wsX2_init_r2 : List Cond := [Cond.fieldLink RX0 30 "ScooterFlags$Rider" "pushes" "I", Cond.methodLink RX2 42 yJ7_fill_53178, Cond.static yJ7_fill_53178, Cond.initialized RJ7, Cond.code yJ7_fill_53178 cJ7_fill_53178 4 none]
def wsX2_init : List Cond := .code yX2_init cX2_init 1 none :: ((wsX2_init_r1 ++ wsX2_init_r2) ++ wsX00 ++ wsX20)
def wsX3_init : List Cond := .code yX3_init cX3_init 1 none :: ([.methodLink RX3 3 objectInit, .instanceMethod objectInit, .code objectInit ⟨#[0xb1]⟩ 1 none, .arrayClass .int, .fieldLink RX3 9 "ScooterFlags$Street" "kind" "[I", .fieldLink RX3 15 "ScooterFlags$Street" "taken" "[I", .arrayClass .boolean, .fieldLink RX3 18 "ScooterFlags$Street" "grated" "[Z", .fieldLink RX3 22 "ScooterFlags$Street" "count" "I", .fieldLink RX3 26 "ScooterFlags$Street" "strength" "I", .fieldLink RX3 29 "ScooterFlags$Street" "kneeBears" "I", .fieldLink RX3 32 "ScooterFlags$Street" "soleBears" "I"] ++ wsX30)
def wsX3_isNone : List Cond := .code yX3_isNone cX3_isNone 1 (some .boolean) :: ([.fieldLink RX3 22 "ScooterFlags$Street" "count" "I"] ++ wsX30)
def wsX3_readHead : List Cond := .code yX3_readHead cX3_readHead 6 (some .int) :: ([.fieldLink RX3 55 "ScooterFlags$Street" "LEAST_HEAD_CODES" "[I", .fieldLink RX3 58 "ScooterFlags$Street" "MOST_HEAD_CODES" "[I", .fieldLink RX3 26 "ScooterFlags$Street" "strength" "I", .fieldLink RX3 29 "ScooterFlags$Street" "kneeBears" "I", .fieldLink RX3 32 "ScooterFlags$Street" "soleBears" "I", .methodLink RX3 49 yX1_at, .instanceMethod yX1_at, .selects RX1 yX1_at yX1_at, .initialized RX1, .code yX1_at cX1_at 2 (some .int), .fieldLink RX1 23 "ScooterFlags$Row" "length" "I", .fieldLink RX1 9 "ScooterFlags$Row" "cells" "[I"] ++ wsX30 ++ wsX10)
def wsX3_kindOfLetter : List Cond := .code yX3_kindOfLetter cX3_kindOfLetter 1 (some .int) :: ([])
def wsX3_readFlag : List Cond := .code yX3_readFlag cX3_readFlag 7 (some .int) :: ([.fieldLink RX3 22 "ScooterFlags$Street" "count" "I", .fieldLink RX3 9 "ScooterFlags$Street" "kind" "[I", .fieldLink RX3 15 "ScooterFlags$Street" "taken" "[I", .fieldLink RX3 18 "ScooterFlags$Street" "grated" "[Z", .methodLink RX3 49 yX1_at, .instanceMethod yX1_at, .selects RX1 yX1_at yX1_at, .initialized RX1, .code yX1_at cX1_at 2 (some .int), .fieldLink RX1 23 "ScooterFlags$Row" "length" "I", .fieldLink RX1 9 "ScooterFlags$Row" "cells" "[I", .methodLink RX3 61 yX3_kindOfLetter, .static yX3_kindOfLetter, .initialized RX3, .code yX3_kindOfLetter cX3_kindOfLetter 1 (some .int)] ++ wsX30 ++ wsX10)
def wsX3_readText_r1 : List Cond := [Cond.fieldLink RX3 22 "ScooterFlags$Street" "count" "I", Cond.fieldLink RX3 18 "ScooterFlags$Street" "grated" "[Z", Cond.methodLink RX3 41 yX3_readHead, Cond.instanceMethod yX3_readHead, Cond.selects RX3 yX3_readHead yX3_readHead, Cond.initialized RX3, Cond.code yX3_readHead cX3_readHead 6 (some .int), Cond.fieldLink RX3 55 "ScooterFlags$Street" "LEAST_HEAD_CODES" "[I", Cond.fieldLink RX3 58 "ScooterFlags$Street" "MOST_HEAD_CODES" "[I", Cond.fieldLink RX3 26 "ScooterFlags$Street" "strength" "I", Cond.fieldLink RX3 29 "ScooterFlags$Street" "kneeBears" "I", Cond.fieldLink RX3 32 "ScooterFlags$Street" "soleBears" "I", Cond.methodLink RX3 49 yX1_at, Cond.instanceMethod yX1_at, Cond.selects RX1 yX1_at yX1_at, Cond.initialized RX1, Cond.code yX1_at cX1_at 2 (some .int), Cond.fieldLink RX1 23 "ScooterFlags$Row" "length" "I", Cond.fieldLink RX1 9 "ScooterFlags$Row" "cells" "[I", Cond.methodLink RX3 45 yX3_readFlag, Cond.instanceMethod yX3_readFlag, Cond.selects RX3 yX3_readFlag yX3_readFlag, Cond.code yX3_readFlag cX3_readFlag 7 (some .int), Cond.fieldLink RX3 9 "ScooterFlags$Street" "kind" "[I"]
def wsX3_readText_r2 : List Cond := [Cond.fieldLink RX3 15 "ScooterFlags$Street" "taken" "[I", Cond.methodLink RX3 61 yX3_kindOfLetter, Cond.static yX3_kindOfLetter, Cond.code yX3_kindOfLetter cX3_kindOfLetter 1 (some .int)]
def wsX3_readText : List Cond := .code yX3_readText cX3_readText 7 (some .int) :: ((wsX3_readText_r1 ++ wsX3_readText_r2) ++ wsX30 ++ wsX10)
def wsX4_init_r1 : List Cond := [Cond.methodLink RX4 3 objectInit, Cond.instanceMethod objectInit, Cond.code objectInit ⟨#[0xb1]⟩ 1 none, Cond.classLink RX4 11 RX1, Cond.fieldLink RX4 13 "ScooterFlags" "rows" "[LScooterFlags$Row;", Cond.classLink RX4 17 RX0, Cond.instantiable RX0 7, Cond.initialized RX0, Cond.fieldLink RX4 20 "ScooterFlags" "rider" "LScooterFlags$Rider;", Cond.classLink RX4 24 RX2, Cond.instantiable RX2 8, Cond.initialized RX2, Cond.fieldLink RX4 27 "ScooterFlags" "search" "LScooterFlags$Search;", Cond.arrayClass .int, Cond.fieldLink RX4 31 "ScooterFlags" "readings" "[I", Cond.fieldLink RX4 35 "ScooterFlags" "openFlags" "[I", Cond.classLink RX4 38 RX3, Cond.instantiable RX3 7, Cond.initialized RX3, Cond.fieldLink RX4 41 "ScooterFlags" "road" "LScooterFlags$Street;", Cond.fieldLink RX4 45 "ScooterFlags" "draft" "LScooterFlags$Street;", Cond.fieldLink RX4 48 "ScooterFlags" "readingCount" "I", Cond.fieldLink RX4 52 "ScooterFlags" "traced" "I", Cond.fieldLink RX4 55 "ScooterFlags" "lastFault" "I"]
def wsX4_init_r2 : List Cond := [Cond.instantiable RX1 4, Cond.initialized RX1, Cond.instanceMethod yX0_init, Cond.code yX0_init cX0_init 1 none, Cond.methodLink RX0 3 objectInit, Cond.fieldLink RX0 9 "ScooterFlags$Rider" "flag" "I", Cond.fieldLink RX0 15 "ScooterFlags$Rider" "pace" "I", Cond.fieldLink RX0 18 "ScooterFlags$Rider" "foot" "I", Cond.fieldLink RX0 21 "ScooterFlags$Rider" "tired" "I", Cond.fieldLink RX0 24 "ScooterFlags$Rider" "soleLeft" "I", Cond.fieldLink RX0 27 "ScooterFlags$Rider" "seconds" "I", Cond.fieldLink RX0 30 "ScooterFlags$Rider" "pushes" "I", Cond.methodLink RX4 26 yX2_init, Cond.instanceMethod yX2_init, Cond.code yX2_init cX2_init 1 none, Cond.methodLink RX2 5 objectInit, Cond.classLink RX2 11 RX0, Cond.fieldLink RX2 14 "ScooterFlags$Search" "rider" "LScooterFlags$Rider;", Cond.fieldLink RX2 18 "ScooterFlags$Search" "fewest" "[I", Cond.fieldLink RX2 22 "ScooterFlags$Search" "waiting" "[I", Cond.fieldLink RX2 25 "ScooterFlags$Search" "waitingPushes" "[I", Cond.fieldLink RX2 28 "ScooterFlags$Search" "waitingCount" "[I", Cond.fieldLink RX2 31 "ScooterFlags$Search" "countsPushes" "Z", Cond.fieldLink RX2 35 "ScooterFlags$Search" "limit" "I"]
def wsX4_init_r3 : List Cond := [Cond.fieldLink RX2 39 "ScooterFlags$Search" "best" "I", Cond.methodLink RX2 42 yJ7_fill_53178, Cond.static yJ7_fill_53178, Cond.initialized RJ7, Cond.code yJ7_fill_53178 cJ7_fill_53178 4 none, Cond.instanceMethod yX3_init, Cond.code yX3_init cX3_init 1 none, Cond.methodLink RX3 3 objectInit, Cond.fieldLink RX3 9 "ScooterFlags$Street" "kind" "[I", Cond.fieldLink RX3 15 "ScooterFlags$Street" "taken" "[I", Cond.arrayClass .boolean, Cond.fieldLink RX3 18 "ScooterFlags$Street" "grated" "[Z", Cond.fieldLink RX3 22 "ScooterFlags$Street" "count" "I", Cond.fieldLink RX3 26 "ScooterFlags$Street" "strength" "I", Cond.fieldLink RX3 29 "ScooterFlags$Street" "kneeBears" "I", Cond.fieldLink RX3 32 "ScooterFlags$Street" "soleBears" "I", Cond.instanceMethod yX1_init, Cond.code yX1_init cX1_init 1 none, Cond.methodLink RX1 3 objectInit, Cond.fieldLink RX1 9 "ScooterFlags$Row" "cells" "[I", Cond.fieldLink RX1 15 "ScooterFlags$Row" "there" "Z", Cond.fieldLink RX1 19 "ScooterFlags$Row" "lane" "I", Cond.fieldLink RX1 23 "ScooterFlags$Row" "length" "I"]
def wsX4_init : List Cond := .code yX4_init cX4_init 2 none :: ((wsX4_init_r1 ++ (wsX4_init_r2 ++ wsX4_init_r3)) ++ wsX40 ++ wsX00 ++ wsX20 ++ wsX30 ++ wsX10)
def wsX4_isSheet : List Cond := .code yX4_isSheet cX4_isSheet 1 (some .boolean) :: ([])
def wsX4_isLane : List Cond := .code yX4_isLane cX4_isLane 1 (some .boolean) :: ([])
def wsX4_failed : List Cond := .code yX4_failed cX4_failed 2 (some .int) :: ([.fieldLink RX4 55 "ScooterFlags" "lastFault" "I"] ++ wsX40)
def wsX4_street_r1 : List Cond := [Cond.fieldLink RX4 55 "ScooterFlags" "lastFault" "I", Cond.fieldLink RX4 13 "ScooterFlags" "rows" "[LScooterFlags$Row;", Cond.fieldLink RX4 73 "ScooterFlags$Row" "there" "Z", Cond.fieldLink RX4 45 "ScooterFlags" "draft" "LScooterFlags$Street;", Cond.fieldLink RX4 41 "ScooterFlags" "road" "LScooterFlags$Street;", Cond.fieldLink RX4 48 "ScooterFlags" "readingCount" "I", Cond.fieldLink RX4 85 "ScooterFlags$Street" "count" "I", Cond.methodLink RX4 59 yX4_isSheet, Cond.static yX4_isSheet, Cond.initialized RX4, Cond.code yX4_isSheet cX4_isSheet 1 (some .boolean), Cond.methodLink RX4 63 yX4_isLane, Cond.static yX4_isLane, Cond.code yX4_isLane cX4_isLane 1 (some .boolean), Cond.methodLink RX4 66 yX1_isUnlike, Cond.instanceMethod yX1_isUnlike, Cond.selects RX1 yX1_isUnlike yX1_isUnlike, Cond.initialized RX1, Cond.code yX1_isUnlike cX1_isUnlike 2 (some .boolean), Cond.fieldLink RX1 15 "ScooterFlags$Row" "there" "Z", Cond.fieldLink RX1 19 "ScooterFlags$Row" "lane" "I", Cond.methodLink RX4 69 yX4_failed, Cond.instanceMethod yX4_failed, Cond.selects RX4 yX4_failed yX4_failed]
def wsX4_street_r2 : List Cond := [Cond.code yX4_failed cX4_failed 2 (some .int), Cond.methodLink RX4 77 yX1_holds, Cond.instanceMethod yX1_holds, Cond.selects RX1 yX1_holds yX1_holds, Cond.code yX1_holds cX1_holds 3 (some .boolean), Cond.fieldLink RX1 23 "ScooterFlags$Row" "length" "I", Cond.methodLink RX4 81 yX3_readText, Cond.instanceMethod yX3_readText, Cond.selects RX3 yX3_readText yX3_readText, Cond.initialized RX3, Cond.code yX3_readText cX3_readText 7 (some .int), Cond.fieldLink RX3 22 "ScooterFlags$Street" "count" "I", Cond.fieldLink RX3 18 "ScooterFlags$Street" "grated" "[Z", Cond.methodLink RX3 41 yX3_readHead, Cond.instanceMethod yX3_readHead, Cond.selects RX3 yX3_readHead yX3_readHead, Cond.code yX3_readHead cX3_readHead 6 (some .int), Cond.fieldLink RX3 55 "ScooterFlags$Street" "LEAST_HEAD_CODES" "[I", Cond.fieldLink RX3 58 "ScooterFlags$Street" "MOST_HEAD_CODES" "[I", Cond.fieldLink RX3 26 "ScooterFlags$Street" "strength" "I", Cond.fieldLink RX3 29 "ScooterFlags$Street" "kneeBears" "I", Cond.fieldLink RX3 32 "ScooterFlags$Street" "soleBears" "I", Cond.methodLink RX3 49 yX1_at, Cond.instanceMethod yX1_at]
def wsX4_street_r3 : List Cond := [Cond.selects RX1 yX1_at yX1_at, Cond.code yX1_at cX1_at 2 (some .int), Cond.fieldLink RX1 9 "ScooterFlags$Row" "cells" "[I", Cond.methodLink RX3 45 yX3_readFlag, Cond.instanceMethod yX3_readFlag, Cond.selects RX3 yX3_readFlag yX3_readFlag, Cond.code yX3_readFlag cX3_readFlag 7 (some .int), Cond.fieldLink RX3 9 "ScooterFlags$Street" "kind" "[I", Cond.fieldLink RX3 15 "ScooterFlags$Street" "taken" "[I", Cond.methodLink RX3 61 yX3_kindOfLetter, Cond.static yX3_kindOfLetter, Cond.code yX3_kindOfLetter cX3_kindOfLetter 1 (some .int)]
def wsX4_street : List Cond := .code yX4_street cX4_street 8 (some .int) :: ((wsX4_street_r1 ++ (wsX4_street_r2 ++ wsX4_street_r3)) ++ wsX40 ++ wsX10 ++ wsX30)
def wsX4_ofFlag : List Cond := .code yX4_ofFlag cX4_ofFlag 3 (some .int) :: ([.fieldLink RX4 41 "ScooterFlags" "road" "LScooterFlags$Street;", .fieldLink RX4 91 "ScooterFlags$Street" "kind" "[I", .fieldLink RX4 94 "ScooterFlags$Street" "taken" "[I", .fieldLink RX4 100 "ScooterFlags$Street" "grated" "[Z", .methodLink RX4 88 yX3_has, .instanceMethod yX3_has, .selects RX3 yX3_has yX3_has, .initialized RX3, .code yX3_has cX3_has 2 (some .boolean), .fieldLink RX3 22 "ScooterFlags$Street" "count" "I", .methodLink RX4 97 yX3_dragOf, .instanceMethod yX3_dragOf, .selects RX3 yX3_dragOf yX3_dragOf, .code yX3_dragOf cX3_dragOf 2 (some .int), .fieldLink RX3 9 "ScooterFlags$Street" "kind" "[I", .fieldLink RX3 15 "ScooterFlags$Street" "taken" "[I"] ++ wsX40 ++ wsX30)
def wsX4_strong : List Cond := .code yX4_strong cX4_strong 3 (some .int) :: ([.fieldLink RX4 41 "ScooterFlags" "road" "LScooterFlags$Street;", .fieldLink RX4 108 "ScooterFlags$Street" "strength" "I", .methodLink RX4 104 yX3_isNone, .instanceMethod yX3_isNone, .selects RX3 yX3_isNone yX3_isNone, .initialized RX3, .code yX3_isNone cX3_isNone 1 (some .boolean), .fieldLink RX3 22 "ScooterFlags$Street" "count" "I"] ++ wsX40 ++ wsX30)
def wsX4_knee : List Cond := .code yX4_knee cX4_knee 3 (some .int) :: ([.fieldLink RX4 41 "ScooterFlags" "road" "LScooterFlags$Street;", .fieldLink RX4 111 "ScooterFlags$Street" "kneeBears" "I", .methodLink RX4 104 yX3_isNone, .instanceMethod yX3_isNone, .selects RX3 yX3_isNone yX3_isNone, .initialized RX3, .code yX3_isNone cX3_isNone 1 (some .boolean), .fieldLink RX3 22 "ScooterFlags$Street" "count" "I"] ++ wsX40 ++ wsX30)
def wsX4_sole : List Cond := .code yX4_sole cX4_sole 3 (some .int) :: ([.fieldLink RX4 41 "ScooterFlags" "road" "LScooterFlags$Street;", .fieldLink RX4 114 "ScooterFlags$Street" "soleBears" "I", .methodLink RX4 104 yX3_isNone, .instanceMethod yX3_isNone, .selects RX3 yX3_isNone yX3_isNone, .initialized RX3, .code yX3_isNone cX3_isNone 1 (some .boolean), .fieldLink RX3 22 "ScooterFlags$Street" "count" "I"] ++ wsX40 ++ wsX30)
def wsX4_grating : List Cond := .code yX4_grating cX4_grating 3 (some .int) :: ([.fieldLink RX4 41 "ScooterFlags" "road" "LScooterFlags$Street;", .fieldLink RX4 100 "ScooterFlags$Street" "grated" "[Z", .methodLink RX4 88 yX3_has, .instanceMethod yX3_has, .selects RX3 yX3_has yX3_has, .initialized RX3, .code yX3_has cX3_has 2 (some .boolean), .fieldLink RX3 22 "ScooterFlags$Street" "count" "I"] ++ wsX40 ++ wsX30)
def wsX4_areActs : List Cond := .code yX4_areActs cX4_areActs 5 (some .boolean) :: ([.methodLink RX4 127 yX1_at, .instanceMethod yX1_at, .selects RX1 yX1_at yX1_at, .initialized RX1, .code yX1_at cX1_at 2 (some .int), .fieldLink RX1 23 "ScooterFlags$Row" "length" "I", .fieldLink RX1 9 "ScooterFlags$Row" "cells" "[I"] ++ wsX10)
def wsX4_ride_r1 : List Cond := [Cond.fieldLink RX4 20 "ScooterFlags" "rider" "LScooterFlags$Rider;", Cond.fieldLink RX4 41 "ScooterFlags" "road" "LScooterFlags$Street;", Cond.methodLink RX4 130 yX0_begin, Cond.instanceMethod yX0_begin, Cond.selects RX0 yX0_begin yX0_begin, Cond.initialized RX0, Cond.code yX0_begin cX0_begin 2 none, Cond.fieldLink RX0 9 "ScooterFlags$Rider" "flag" "I", Cond.fieldLink RX0 15 "ScooterFlags$Rider" "pace" "I", Cond.fieldLink RX0 18 "ScooterFlags$Rider" "foot" "I", Cond.fieldLink RX0 21 "ScooterFlags$Rider" "tired" "I", Cond.fieldLink RX0 33 "ScooterFlags$Street" "soleBears" "I", Cond.fieldLink RX0 24 "ScooterFlags$Rider" "soleLeft" "I", Cond.fieldLink RX0 27 "ScooterFlags$Rider" "seconds" "I", Cond.fieldLink RX0 30 "ScooterFlags$Rider" "pushes" "I", Cond.methodLink RX4 127 yX1_at, Cond.instanceMethod yX1_at, Cond.selects RX1 yX1_at yX1_at, Cond.initialized RX1, Cond.code yX1_at cX1_at 2 (some .int), Cond.fieldLink RX1 23 "ScooterFlags$Row" "length" "I", Cond.fieldLink RX1 9 "ScooterFlags$Row" "cells" "[I", Cond.methodLink RX4 134 yX0_can, Cond.instanceMethod yX0_can]
def wsX4_ride_r2 : List Cond := [Cond.selects RX0 yX0_can yX0_can, Cond.code yX0_can cX0_can 3 (some .boolean), Cond.fieldLink RX0 42 "ScooterFlags$Street" "kneeBears" "I", Cond.methodLink RX0 38 yX3_has, Cond.instanceMethod yX3_has, Cond.selects RX3 yX3_has yX3_has, Cond.initialized RX3, Cond.code yX3_has cX3_has 2 (some .boolean), Cond.fieldLink RX3 22 "ScooterFlags$Street" "count" "I", Cond.methodLink RX4 138 yX0_goBy, Cond.instanceMethod yX0_goBy, Cond.selects RX0 yX0_goBy yX0_goBy, Cond.code yX0_goBy cX0_goBy 3 none, Cond.fieldLink RX0 45 "ScooterFlags$Street" "strength" "I", Cond.methodLink RX0 48 Lib.Math.min.name, Cond.static Lib.Math.min.name, Cond.initialized "java/lang/Math", Cond.code Lib.Math.min.name Lib.Math.min.code 2 (some .int), Cond.methodLink RX0 54 Lib.Math.max.name, Cond.static Lib.Math.max.name, Cond.code Lib.Math.max.name Lib.Math.max.code 2 (some .int), Cond.methodLink RX0 57 yX0_roll, Cond.instanceMethod yX0_roll, Cond.selects RX0 yX0_roll yX0_roll]
def wsX4_ride_r3 : List Cond := [Cond.code yX0_roll cX0_roll 4 none, Cond.fieldLink RX0 65 "ScooterFlags$Street" "grated" "[Z", Cond.methodLink RX0 61 yX3_dragOf, Cond.instanceMethod yX3_dragOf, Cond.selects RX3 yX3_dragOf yX3_dragOf, Cond.code yX3_dragOf cX3_dragOf 2 (some .int), Cond.fieldLink RX3 9 "ScooterFlags$Street" "kind" "[I", Cond.fieldLink RX3 15 "ScooterFlags$Street" "taken" "[I"]
def wsX4_ride : List Cond := .code yX4_ride cX4_ride 6 (some .int) :: ((wsX4_ride_r1 ++ (wsX4_ride_r2 ++ wsX4_ride_r3)) ++ wsX40 ++ wsX00 ++ wsX30 ++ wsX10)
def wsX4_riderTells : List Cond := .code yX4_riderTells cX4_riderTells 2 (some .int) :: ([.fieldLink RX4 20 "ScooterFlags" "rider" "LScooterFlags$Rider;", .fieldLink RX4 142 "ScooterFlags$Rider" "seconds" "I", .fieldLink RX4 145 "ScooterFlags$Rider" "flag" "I", .fieldLink RX4 148 "ScooterFlags$Rider" "pace" "I", .fieldLink RX4 151 "ScooterFlags$Rider" "foot" "I", .fieldLink RX4 154 "ScooterFlags$Rider" "tired" "I", .fieldLink RX4 157 "ScooterFlags$Rider" "soleLeft" "I", .fieldLink RX4 160 "ScooterFlags$Rider" "pushes" "I"] ++ wsX40 ++ wsX00)
def wsX4_way_r1 : List Cond := [Cond.fieldLink RX4 55 "ScooterFlags" "lastFault" "I", Cond.fieldLink RX4 13 "ScooterFlags" "rows" "[LScooterFlags$Row;", Cond.fieldLink RX4 73 "ScooterFlags$Row" "there" "Z", Cond.fieldLink RX4 41 "ScooterFlags" "road" "LScooterFlags$Street;", Cond.methodLink RX4 59 yX4_isSheet, Cond.static yX4_isSheet, Cond.initialized RX4, Cond.code yX4_isSheet cX4_isSheet 1 (some .boolean), Cond.methodLink RX4 63 yX4_isLane, Cond.static yX4_isLane, Cond.code yX4_isLane cX4_isLane 1 (some .boolean), Cond.methodLink RX4 66 yX1_isUnlike, Cond.instanceMethod yX1_isUnlike, Cond.selects RX1 yX1_isUnlike yX1_isUnlike, Cond.initialized RX1, Cond.code yX1_isUnlike cX1_isUnlike 2 (some .boolean), Cond.fieldLink RX1 15 "ScooterFlags$Row" "there" "Z", Cond.fieldLink RX1 19 "ScooterFlags$Row" "lane" "I", Cond.methodLink RX4 69 yX4_failed, Cond.instanceMethod yX4_failed, Cond.selects RX4 yX4_failed yX4_failed, Cond.code yX4_failed cX4_failed 2 (some .int), Cond.methodLink RX4 77 yX1_holds, Cond.instanceMethod yX1_holds]
def wsX4_way_r2 : List Cond := [Cond.selects RX1 yX1_holds yX1_holds, Cond.code yX1_holds cX1_holds 3 (some .boolean), Cond.fieldLink RX1 23 "ScooterFlags$Row" "length" "I", Cond.methodLink RX4 104 yX3_isNone, Cond.instanceMethod yX3_isNone, Cond.selects RX3 yX3_isNone yX3_isNone, Cond.initialized RX3, Cond.code yX3_isNone cX3_isNone 1 (some .boolean), Cond.fieldLink RX3 22 "ScooterFlags$Street" "count" "I", Cond.methodLink RX4 117 yX4_areActs, Cond.static yX4_areActs, Cond.code yX4_areActs cX4_areActs 5 (some .boolean), Cond.methodLink RX4 127 yX1_at, Cond.instanceMethod yX1_at, Cond.selects RX1 yX1_at yX1_at, Cond.code yX1_at cX1_at 2 (some .int), Cond.fieldLink RX1 9 "ScooterFlags$Row" "cells" "[I", Cond.methodLink RX4 121 yX4_ride, Cond.instanceMethod yX4_ride, Cond.selects RX4 yX4_ride yX4_ride, Cond.code yX4_ride cX4_ride 6 (some .int), Cond.fieldLink RX4 20 "ScooterFlags" "rider" "LScooterFlags$Rider;", Cond.methodLink RX4 130 yX0_begin, Cond.instanceMethod yX0_begin]
def wsX4_way_r3 : List Cond := [Cond.selects RX0 yX0_begin yX0_begin, Cond.initialized RX0, Cond.code yX0_begin cX0_begin 2 none, Cond.fieldLink RX0 9 "ScooterFlags$Rider" "flag" "I", Cond.fieldLink RX0 15 "ScooterFlags$Rider" "pace" "I", Cond.fieldLink RX0 18 "ScooterFlags$Rider" "foot" "I", Cond.fieldLink RX0 21 "ScooterFlags$Rider" "tired" "I", Cond.fieldLink RX0 33 "ScooterFlags$Street" "soleBears" "I", Cond.fieldLink RX0 24 "ScooterFlags$Rider" "soleLeft" "I", Cond.fieldLink RX0 27 "ScooterFlags$Rider" "seconds" "I", Cond.fieldLink RX0 30 "ScooterFlags$Rider" "pushes" "I", Cond.methodLink RX4 134 yX0_can, Cond.instanceMethod yX0_can, Cond.selects RX0 yX0_can yX0_can, Cond.code yX0_can cX0_can 3 (some .boolean), Cond.fieldLink RX0 42 "ScooterFlags$Street" "kneeBears" "I", Cond.methodLink RX0 38 yX3_has, Cond.instanceMethod yX3_has, Cond.selects RX3 yX3_has yX3_has, Cond.code yX3_has cX3_has 2 (some .boolean), Cond.methodLink RX4 138 yX0_goBy, Cond.instanceMethod yX0_goBy, Cond.selects RX0 yX0_goBy yX0_goBy, Cond.code yX0_goBy cX0_goBy 3 none]
def wsX4_way_r4 : List Cond := [Cond.fieldLink RX0 45 "ScooterFlags$Street" "strength" "I", Cond.methodLink RX0 48 Lib.Math.min.name, Cond.static Lib.Math.min.name, Cond.initialized "java/lang/Math", Cond.code Lib.Math.min.name Lib.Math.min.code 2 (some .int), Cond.methodLink RX0 54 Lib.Math.max.name, Cond.static Lib.Math.max.name, Cond.code Lib.Math.max.name Lib.Math.max.code 2 (some .int), Cond.methodLink RX0 57 yX0_roll, Cond.instanceMethod yX0_roll, Cond.selects RX0 yX0_roll yX0_roll, Cond.code yX0_roll cX0_roll 4 none, Cond.fieldLink RX0 65 "ScooterFlags$Street" "grated" "[Z", Cond.methodLink RX0 61 yX3_dragOf, Cond.instanceMethod yX3_dragOf, Cond.selects RX3 yX3_dragOf yX3_dragOf, Cond.code yX3_dragOf cX3_dragOf 2 (some .int), Cond.fieldLink RX3 9 "ScooterFlags$Street" "kind" "[I", Cond.fieldLink RX3 15 "ScooterFlags$Street" "taken" "[I", Cond.methodLink RX4 124 yX4_riderTells, Cond.instanceMethod yX4_riderTells, Cond.selects RX4 yX4_riderTells yX4_riderTells, Cond.code yX4_riderTells cX4_riderTells 2 (some .int), Cond.fieldLink RX4 142 "ScooterFlags$Rider" "seconds" "I"]
def wsX4_way_r5 : List Cond := [Cond.fieldLink RX4 145 "ScooterFlags$Rider" "flag" "I", Cond.fieldLink RX4 148 "ScooterFlags$Rider" "pace" "I", Cond.fieldLink RX4 151 "ScooterFlags$Rider" "foot" "I", Cond.fieldLink RX4 154 "ScooterFlags$Rider" "tired" "I", Cond.fieldLink RX4 157 "ScooterFlags$Rider" "soleLeft" "I", Cond.fieldLink RX4 160 "ScooterFlags$Rider" "pushes" "I"]
def wsX4_way : List Cond := .code yX4_way cX4_way 8 (some .int) :: ((wsX4_way_r1 ++ (wsX4_way_r2 ++ (wsX4_way_r3 ++ (wsX4_way_r4 ++ wsX4_way_r5)))) ++ wsX40 ++ wsX10 ++ wsX30 ++ wsX00)
def wsX4_sheet_r1 : List Cond := [Cond.fieldLink RX4 55 "ScooterFlags" "lastFault" "I", Cond.fieldLink RX4 13 "ScooterFlags" "rows" "[LScooterFlags$Row;", Cond.methodLink RX4 59 yX4_isSheet, Cond.static yX4_isSheet, Cond.initialized RX4, Cond.code yX4_isSheet cX4_isSheet 1 (some .boolean), Cond.methodLink RX4 63 yX4_isLane, Cond.static yX4_isLane, Cond.code yX4_isLane cX4_isLane 1 (some .boolean), Cond.methodLink RX4 69 yX4_failed, Cond.instanceMethod yX4_failed, Cond.selects RX4 yX4_failed yX4_failed, Cond.code yX4_failed cX4_failed 2 (some .int), Cond.methodLink RX4 183 yX1_becomeNew, Cond.instanceMethod yX1_becomeNew, Cond.selects RX1 yX1_becomeNew yX1_becomeNew, Cond.initialized RX1, Cond.code yX1_becomeNew cX1_becomeNew 3 none, Cond.fieldLink RX1 9 "ScooterFlags$Row" "cells" "[I", Cond.fieldLink RX1 15 "ScooterFlags$Row" "there" "Z", Cond.fieldLink RX1 19 "ScooterFlags$Row" "lane" "I", Cond.methodLink RX1 32 Lib.Math.min.name, Cond.static Lib.Math.min.name, Cond.initialized "java/lang/Math"]
def wsX4_sheet_r2 : List Cond := [Cond.code Lib.Math.min.name Lib.Math.min.code 2 (some .int), Cond.methodLink RX1 38 Lib.Math.max.name, Cond.static Lib.Math.max.name, Cond.code Lib.Math.max.name Lib.Math.max.code 2 (some .int), Cond.fieldLink RX1 23 "ScooterFlags$Row" "length" "I", Cond.methodLink RX1 26 yJ7_fill_53178, Cond.static yJ7_fill_53178, Cond.initialized RJ7, Cond.code yJ7_fill_53178 cJ7_fill_53178 4 none]
def wsX4_sheet : List Cond := .code yX4_sheet cX4_sheet 4 (some .int) :: ((wsX4_sheet_r1 ++ wsX4_sheet_r2) ++ wsX40 ++ wsX10)
def wsX4_put_r1 : List Cond := [Cond.fieldLink RX4 55 "ScooterFlags" "lastFault" "I", Cond.fieldLink RX4 13 "ScooterFlags" "rows" "[LScooterFlags$Row;", Cond.fieldLink RX4 73 "ScooterFlags$Row" "there" "Z", Cond.methodLink RX4 59 yX4_isSheet, Cond.static yX4_isSheet, Cond.initialized RX4, Cond.code yX4_isSheet cX4_isSheet 1 (some .boolean), Cond.methodLink RX4 69 yX4_failed, Cond.instanceMethod yX4_failed, Cond.selects RX4 yX4_failed yX4_failed, Cond.code yX4_failed cX4_failed 2 (some .int), Cond.methodLink RX4 77 yX1_holds, Cond.instanceMethod yX1_holds, Cond.selects RX1 yX1_holds yX1_holds, Cond.initialized RX1, Cond.code yX1_holds cX1_holds 3 (some .boolean), Cond.fieldLink RX1 23 "ScooterFlags$Row" "length" "I", Cond.methodLink RX4 187 yX1_keep, Cond.instanceMethod yX1_keep, Cond.selects RX1 yX1_keep yX1_keep, Cond.code yX1_keep cX1_keep 3 none, Cond.fieldLink RX1 9 "ScooterFlags$Row" "cells" "[I", Cond.methodLink RX1 41 yX1_cut, Cond.instanceMethod yX1_cut]
def wsX4_put_r2 : List Cond := [Cond.selects RX1 yX1_cut yX1_cut, Cond.code yX1_cut cX1_cut 2 (some .int), Cond.fieldLink RX1 19 "ScooterFlags$Row" "lane" "I"]
def wsX4_put : List Cond := .code yX4_put cX4_put 5 (some .int) :: ((wsX4_put_r1 ++ wsX4_put_r2) ++ wsX40 ++ wsX10)
def wsX4_many : List Cond := .code yX4_many cX4_many 2 (some .int) :: ([.fieldLink RX4 41 "ScooterFlags" "road" "LScooterFlags$Street;", .fieldLink RX4 85 "ScooterFlags$Street" "count" "I", .fieldLink RX4 108 "ScooterFlags$Street" "strength" "I", .fieldLink RX4 111 "ScooterFlags$Street" "kneeBears" "I", .fieldLink RX4 114 "ScooterFlags$Street" "soleBears" "I", .fieldLink RX4 48 "ScooterFlags" "readingCount" "I"] ++ wsX40 ++ wsX30)
def wsJ9_max_7cf53 : List Cond := .code yJ9_max_7cf53 cJ9_max_7cf53 2 (some .int) :: ([])
def wsJ9_min_7cf53 : List Cond := .code yJ9_min_7cf53 cJ9_min_7cf53 2 (some .int) :: ([])
def wsL_cell : List Cond := .code yL_cell cL_cell 2 (some .int) :: ([.constant RL 7 (747796405)])
def wsL_some : List Cond := .code yL_some cL_some 2 (some .int) :: ([.constant RL 8 (2147483647)])
def wsL_put_r1 : List Cond := [Cond.methodLink RL 9 yL_cell, Cond.static yL_cell, Cond.initialized RL, Cond.code yL_cell cL_cell 2 (some .int), Cond.constant RL 7 (747796405), Cond.methodLink RL 15 yL_some, Cond.static yL_some, Cond.code yL_some cL_some 2 (some .int), Cond.constant RL 8 (2147483647), Cond.methodLink RL 19 yX4_sheet, Cond.instanceMethod yX4_sheet, Cond.selects RX4 yX4_sheet yX4_sheet, Cond.initialized RX4, Cond.code yX4_sheet cX4_sheet 4 (some .int), Cond.fieldLink RX4 55 "ScooterFlags" "lastFault" "I", Cond.fieldLink RX4 13 "ScooterFlags" "rows" "[LScooterFlags$Row;", Cond.methodLink RX4 59 yX4_isSheet, Cond.static yX4_isSheet, Cond.code yX4_isSheet cX4_isSheet 1 (some .boolean), Cond.methodLink RX4 63 yX4_isLane, Cond.static yX4_isLane, Cond.code yX4_isLane cX4_isLane 1 (some .boolean), Cond.methodLink RX4 69 yX4_failed, Cond.instanceMethod yX4_failed]
def wsL_put_r2 : List Cond := [Cond.selects RX4 yX4_failed yX4_failed, Cond.code yX4_failed cX4_failed 2 (some .int), Cond.methodLink RX4 183 yX1_becomeNew, Cond.instanceMethod yX1_becomeNew, Cond.selects RX1 yX1_becomeNew yX1_becomeNew, Cond.initialized RX1, Cond.code yX1_becomeNew cX1_becomeNew 3 none, Cond.fieldLink RX1 9 "ScooterFlags$Row" "cells" "[I", Cond.fieldLink RX1 15 "ScooterFlags$Row" "there" "Z", Cond.fieldLink RX1 19 "ScooterFlags$Row" "lane" "I", Cond.methodLink RX1 32 Lib.Math.min.name, Cond.static Lib.Math.min.name, Cond.initialized "java/lang/Math", Cond.code Lib.Math.min.name Lib.Math.min.code 2 (some .int), Cond.methodLink RX1 38 Lib.Math.max.name, Cond.static Lib.Math.max.name, Cond.code Lib.Math.max.name Lib.Math.max.code 2 (some .int), Cond.fieldLink RX1 23 "ScooterFlags$Row" "length" "I", Cond.methodLink RX1 26 yJ7_fill_53178, Cond.static yJ7_fill_53178, Cond.initialized RJ7, Cond.code yJ7_fill_53178 cJ7_fill_53178 4 none, Cond.methodLink RL 25 yX4_put, Cond.instanceMethod yX4_put]
def wsL_put_r3 : List Cond := [Cond.selects RX4 yX4_put yX4_put, Cond.code yX4_put cX4_put 5 (some .int), Cond.fieldLink RX4 73 "ScooterFlags$Row" "there" "Z", Cond.methodLink RX4 77 yX1_holds, Cond.instanceMethod yX1_holds, Cond.selects RX1 yX1_holds yX1_holds, Cond.code yX1_holds cX1_holds 3 (some .boolean), Cond.methodLink RX4 187 yX1_keep, Cond.instanceMethod yX1_keep, Cond.selects RX1 yX1_keep yX1_keep, Cond.code yX1_keep cX1_keep 3 none, Cond.methodLink RX1 41 yX1_cut, Cond.instanceMethod yX1_cut, Cond.selects RX1 yX1_cut yX1_cut, Cond.code yX1_cut cX1_cut 2 (some .int)]
def wsL_put : List Cond := .code yL_put cL_put 9 (some .int) :: ((wsL_put_r1 ++ (wsL_put_r2 ++ wsL_put_r3)) ++ wsX40 ++ wsX10)
def wsL_change_r1 : List Cond := [Cond.methodLink RL 15 yL_some, Cond.static yL_some, Cond.initialized RL, Cond.code yL_some cL_some 2 (some .int), Cond.constant RL 8 (2147483647), Cond.methodLink RL 28 yX4_strong, Cond.instanceMethod yX4_strong, Cond.selects RX4 yX4_strong yX4_strong, Cond.initialized RX4, Cond.code yX4_strong cX4_strong 3 (some .int), Cond.fieldLink RX4 41 "ScooterFlags" "road" "LScooterFlags$Street;", Cond.fieldLink RX4 108 "ScooterFlags$Street" "strength" "I", Cond.methodLink RX4 104 yX3_isNone, Cond.instanceMethod yX3_isNone, Cond.selects RX3 yX3_isNone yX3_isNone, Cond.initialized RX3, Cond.code yX3_isNone cX3_isNone 1 (some .boolean), Cond.fieldLink RX3 22 "ScooterFlags$Street" "count" "I", Cond.methodLink RL 32 yX4_knee, Cond.instanceMethod yX4_knee, Cond.selects RX4 yX4_knee yX4_knee, Cond.code yX4_knee cX4_knee 3 (some .int), Cond.fieldLink RX4 111 "ScooterFlags$Street" "kneeBears" "I", Cond.methodLink RL 35 yX4_sole]
def wsL_change_r2 : List Cond := [Cond.instanceMethod yX4_sole, Cond.selects RX4 yX4_sole yX4_sole, Cond.code yX4_sole cX4_sole 3 (some .int), Cond.fieldLink RX4 114 "ScooterFlags$Street" "soleBears" "I", Cond.methodLink RL 38 yX4_grating, Cond.instanceMethod yX4_grating, Cond.selects RX4 yX4_grating yX4_grating, Cond.code yX4_grating cX4_grating 3 (some .int), Cond.fieldLink RX4 100 "ScooterFlags$Street" "grated" "[Z", Cond.methodLink RX4 88 yX3_has, Cond.instanceMethod yX3_has, Cond.selects RX3 yX3_has yX3_has, Cond.code yX3_has cX3_has 2 (some .boolean)]
def wsL_change : List Cond := .code yL_change cL_change 8 (some .boolean) :: ((wsL_change_r1 ++ wsL_change_r2) ++ wsX40 ++ wsX30)
def wsL_drag : List Cond := .code yL_drag cL_drag 3 (some .int) :: ([])
def wsL_go : List Cond := .code yL_go cL_go 8 (some .int) :: ([.methodLink RL 42 yL_drag, .static yL_drag, .initialized RL, .code yL_drag cL_drag 3 (some .int)])
def wsL_law_r1 : List Cond := [Cond.classLink RL 20 RX4, Cond.instantiable RX4 10, Cond.initialized RX4, Cond.arrayClass .int, Cond.methodLink RL 45 yX4_init, Cond.instanceMethod yX4_init, Cond.code yX4_init cX4_init 2 none, Cond.methodLink RX4 3 objectInit, Cond.instanceMethod objectInit, Cond.code objectInit ⟨#[0xb1]⟩ 1 none, Cond.classLink RX4 11 RX1, Cond.fieldLink RX4 13 "ScooterFlags" "rows" "[LScooterFlags$Row;", Cond.classLink RX4 17 RX0, Cond.instantiable RX0 7, Cond.initialized RX0, Cond.fieldLink RX4 20 "ScooterFlags" "rider" "LScooterFlags$Rider;", Cond.classLink RX4 24 RX2, Cond.instantiable RX2 8, Cond.initialized RX2, Cond.fieldLink RX4 27 "ScooterFlags" "search" "LScooterFlags$Search;", Cond.fieldLink RX4 31 "ScooterFlags" "readings" "[I", Cond.fieldLink RX4 35 "ScooterFlags" "openFlags" "[I", Cond.classLink RX4 38 RX3, Cond.instantiable RX3 7]
def wsL_law_r2 : List Cond := [Cond.initialized RX3, Cond.fieldLink RX4 41 "ScooterFlags" "road" "LScooterFlags$Street;", Cond.fieldLink RX4 45 "ScooterFlags" "draft" "LScooterFlags$Street;", Cond.fieldLink RX4 48 "ScooterFlags" "readingCount" "I", Cond.fieldLink RX4 52 "ScooterFlags" "traced" "I", Cond.fieldLink RX4 55 "ScooterFlags" "lastFault" "I", Cond.instantiable RX1 4, Cond.initialized RX1, Cond.instanceMethod yX0_init, Cond.code yX0_init cX0_init 1 none, Cond.methodLink RX0 3 objectInit, Cond.fieldLink RX0 9 "ScooterFlags$Rider" "flag" "I", Cond.fieldLink RX0 15 "ScooterFlags$Rider" "pace" "I", Cond.fieldLink RX0 18 "ScooterFlags$Rider" "foot" "I", Cond.fieldLink RX0 21 "ScooterFlags$Rider" "tired" "I", Cond.fieldLink RX0 24 "ScooterFlags$Rider" "soleLeft" "I", Cond.fieldLink RX0 27 "ScooterFlags$Rider" "seconds" "I", Cond.fieldLink RX0 30 "ScooterFlags$Rider" "pushes" "I", Cond.methodLink RX4 26 yX2_init, Cond.instanceMethod yX2_init, Cond.code yX2_init cX2_init 1 none, Cond.methodLink RX2 5 objectInit, Cond.classLink RX2 11 RX0, Cond.fieldLink RX2 14 "ScooterFlags$Search" "rider" "LScooterFlags$Rider;"]
def wsL_law_r3 : List Cond := [Cond.fieldLink RX2 18 "ScooterFlags$Search" "fewest" "[I", Cond.fieldLink RX2 22 "ScooterFlags$Search" "waiting" "[I", Cond.fieldLink RX2 25 "ScooterFlags$Search" "waitingPushes" "[I", Cond.fieldLink RX2 28 "ScooterFlags$Search" "waitingCount" "[I", Cond.fieldLink RX2 31 "ScooterFlags$Search" "countsPushes" "Z", Cond.fieldLink RX2 35 "ScooterFlags$Search" "limit" "I", Cond.fieldLink RX2 39 "ScooterFlags$Search" "best" "I", Cond.methodLink RX2 42 yJ7_fill_53178, Cond.static yJ7_fill_53178, Cond.initialized RJ7, Cond.code yJ7_fill_53178 cJ7_fill_53178 4 none, Cond.instanceMethod yX3_init, Cond.code yX3_init cX3_init 1 none, Cond.methodLink RX3 3 objectInit, Cond.fieldLink RX3 9 "ScooterFlags$Street" "kind" "[I", Cond.fieldLink RX3 15 "ScooterFlags$Street" "taken" "[I", Cond.arrayClass .boolean, Cond.fieldLink RX3 18 "ScooterFlags$Street" "grated" "[Z", Cond.fieldLink RX3 22 "ScooterFlags$Street" "count" "I", Cond.fieldLink RX3 26 "ScooterFlags$Street" "strength" "I", Cond.fieldLink RX3 29 "ScooterFlags$Street" "kneeBears" "I", Cond.fieldLink RX3 32 "ScooterFlags$Street" "soleBears" "I", Cond.instanceMethod yX1_init, Cond.code yX1_init cX1_init 1 none]
def wsL_law_r4 : List Cond := [Cond.methodLink RX1 3 objectInit, Cond.fieldLink RX1 9 "ScooterFlags$Row" "cells" "[I", Cond.fieldLink RX1 15 "ScooterFlags$Row" "there" "Z", Cond.fieldLink RX1 19 "ScooterFlags$Row" "lane" "I", Cond.fieldLink RX1 23 "ScooterFlags$Row" "length" "I", Cond.methodLink RL 46 yL_put, Cond.static yL_put, Cond.initialized RL, Cond.code yL_put cL_put 9 (some .int), Cond.methodLink RL 9 yL_cell, Cond.static yL_cell, Cond.code yL_cell cL_cell 2 (some .int), Cond.constant RL 7 (747796405), Cond.methodLink RL 15 yL_some, Cond.static yL_some, Cond.code yL_some cL_some 2 (some .int), Cond.constant RL 8 (2147483647), Cond.methodLink RL 19 yX4_sheet, Cond.instanceMethod yX4_sheet, Cond.selects RX4 yX4_sheet yX4_sheet, Cond.code yX4_sheet cX4_sheet 4 (some .int), Cond.methodLink RX4 59 yX4_isSheet, Cond.static yX4_isSheet, Cond.code yX4_isSheet cX4_isSheet 1 (some .boolean)]
def wsL_law_r5 : List Cond := [Cond.methodLink RX4 63 yX4_isLane, Cond.static yX4_isLane, Cond.code yX4_isLane cX4_isLane 1 (some .boolean), Cond.methodLink RX4 69 yX4_failed, Cond.instanceMethod yX4_failed, Cond.selects RX4 yX4_failed yX4_failed, Cond.code yX4_failed cX4_failed 2 (some .int), Cond.methodLink RX4 183 yX1_becomeNew, Cond.instanceMethod yX1_becomeNew, Cond.selects RX1 yX1_becomeNew yX1_becomeNew, Cond.code yX1_becomeNew cX1_becomeNew 3 none, Cond.methodLink RX1 32 Lib.Math.min.name, Cond.static Lib.Math.min.name, Cond.initialized "java/lang/Math", Cond.code Lib.Math.min.name Lib.Math.min.code 2 (some .int), Cond.methodLink RX1 38 Lib.Math.max.name, Cond.static Lib.Math.max.name, Cond.code Lib.Math.max.name Lib.Math.max.code 2 (some .int), Cond.methodLink RX1 26 yJ7_fill_53178, Cond.methodLink RL 25 yX4_put, Cond.instanceMethod yX4_put, Cond.selects RX4 yX4_put yX4_put, Cond.code yX4_put cX4_put 5 (some .int), Cond.fieldLink RX4 73 "ScooterFlags$Row" "there" "Z"]
def wsL_law_r6 : List Cond := [Cond.methodLink RX4 77 yX1_holds, Cond.instanceMethod yX1_holds, Cond.selects RX1 yX1_holds yX1_holds, Cond.code yX1_holds cX1_holds 3 (some .boolean), Cond.methodLink RX4 187 yX1_keep, Cond.instanceMethod yX1_keep, Cond.selects RX1 yX1_keep yX1_keep, Cond.code yX1_keep cX1_keep 3 none, Cond.methodLink RX1 41 yX1_cut, Cond.instanceMethod yX1_cut, Cond.selects RX1 yX1_cut yX1_cut, Cond.code yX1_cut cX1_cut 2 (some .int), Cond.methodLink RL 49 yX4_street, Cond.instanceMethod yX4_street, Cond.selects RX4 yX4_street yX4_street, Cond.code yX4_street cX4_street 8 (some .int), Cond.fieldLink RX4 85 "ScooterFlags$Street" "count" "I", Cond.methodLink RX4 66 yX1_isUnlike, Cond.instanceMethod yX1_isUnlike, Cond.selects RX1 yX1_isUnlike yX1_isUnlike, Cond.code yX1_isUnlike cX1_isUnlike 2 (some .boolean), Cond.methodLink RX4 81 yX3_readText, Cond.instanceMethod yX3_readText, Cond.selects RX3 yX3_readText yX3_readText]
def wsL_law_r7 : List Cond := [Cond.code yX3_readText cX3_readText 7 (some .int), Cond.methodLink RX3 41 yX3_readHead, Cond.instanceMethod yX3_readHead, Cond.selects RX3 yX3_readHead yX3_readHead, Cond.code yX3_readHead cX3_readHead 6 (some .int), Cond.fieldLink RX3 55 "ScooterFlags$Street" "LEAST_HEAD_CODES" "[I", Cond.fieldLink RX3 58 "ScooterFlags$Street" "MOST_HEAD_CODES" "[I", Cond.methodLink RX3 49 yX1_at, Cond.instanceMethod yX1_at, Cond.selects RX1 yX1_at yX1_at, Cond.code yX1_at cX1_at 2 (some .int), Cond.methodLink RX3 45 yX3_readFlag, Cond.instanceMethod yX3_readFlag, Cond.selects RX3 yX3_readFlag yX3_readFlag, Cond.code yX3_readFlag cX3_readFlag 7 (some .int), Cond.methodLink RX3 61 yX3_kindOfLetter, Cond.static yX3_kindOfLetter, Cond.code yX3_kindOfLetter cX3_kindOfLetter 1 (some .int), Cond.methodLink RL 53 yX4_many, Cond.instanceMethod yX4_many, Cond.selects RX4 yX4_many yX4_many, Cond.code yX4_many cX4_many 2 (some .int), Cond.fieldLink RX4 108 "ScooterFlags$Street" "strength" "I", Cond.fieldLink RX4 111 "ScooterFlags$Street" "kneeBears" "I"]
def wsL_law_r8 : List Cond := [Cond.fieldLink RX4 114 "ScooterFlags$Street" "soleBears" "I", Cond.methodLink RL 56 yL_change, Cond.static yL_change, Cond.code yL_change cL_change 8 (some .boolean), Cond.methodLink RL 28 yX4_strong, Cond.instanceMethod yX4_strong, Cond.selects RX4 yX4_strong yX4_strong, Cond.code yX4_strong cX4_strong 3 (some .int), Cond.methodLink RX4 104 yX3_isNone, Cond.instanceMethod yX3_isNone, Cond.selects RX3 yX3_isNone yX3_isNone, Cond.code yX3_isNone cX3_isNone 1 (some .boolean), Cond.methodLink RL 32 yX4_knee, Cond.instanceMethod yX4_knee, Cond.selects RX4 yX4_knee yX4_knee, Cond.code yX4_knee cX4_knee 3 (some .int), Cond.methodLink RL 35 yX4_sole, Cond.instanceMethod yX4_sole, Cond.selects RX4 yX4_sole yX4_sole, Cond.code yX4_sole cX4_sole 3 (some .int), Cond.methodLink RL 38 yX4_grating, Cond.instanceMethod yX4_grating, Cond.selects RX4 yX4_grating yX4_grating, Cond.code yX4_grating cX4_grating 3 (some .int)]
def wsL_law_r9 : List Cond := [Cond.fieldLink RX4 100 "ScooterFlags$Street" "grated" "[Z", Cond.methodLink RX4 88 yX3_has, Cond.instanceMethod yX3_has, Cond.selects RX3 yX3_has yX3_has, Cond.code yX3_has cX3_has 2 (some .boolean), Cond.methodLink RL 60 yX4_ofFlag, Cond.instanceMethod yX4_ofFlag, Cond.selects RX4 yX4_ofFlag yX4_ofFlag, Cond.code yX4_ofFlag cX4_ofFlag 3 (some .int), Cond.fieldLink RX4 91 "ScooterFlags$Street" "kind" "[I", Cond.fieldLink RX4 94 "ScooterFlags$Street" "taken" "[I", Cond.methodLink RX4 97 yX3_dragOf, Cond.instanceMethod yX3_dragOf, Cond.selects RX3 yX3_dragOf yX3_dragOf, Cond.code yX3_dragOf cX3_dragOf 2 (some .int), Cond.methodLink RL 42 yL_drag, Cond.static yL_drag, Cond.code yL_drag cL_drag 3 (some .int), Cond.methodLink RL 63 yL_go, Cond.static yL_go, Cond.code yL_go cL_go 8 (some .int), Cond.methodLink RL 67 yX4_way, Cond.instanceMethod yX4_way, Cond.selects RX4 yX4_way yX4_way]
def wsL_law_r10 : List Cond := [Cond.code yX4_way cX4_way 8 (some .int), Cond.methodLink RX4 117 yX4_areActs, Cond.static yX4_areActs, Cond.code yX4_areActs cX4_areActs 5 (some .boolean), Cond.methodLink RX4 127 yX1_at, Cond.methodLink RX4 121 yX4_ride, Cond.instanceMethod yX4_ride, Cond.selects RX4 yX4_ride yX4_ride, Cond.code yX4_ride cX4_ride 6 (some .int), Cond.methodLink RX4 130 yX0_begin, Cond.instanceMethod yX0_begin, Cond.selects RX0 yX0_begin yX0_begin, Cond.code yX0_begin cX0_begin 2 none, Cond.fieldLink RX0 33 "ScooterFlags$Street" "soleBears" "I", Cond.methodLink RX4 134 yX0_can, Cond.instanceMethod yX0_can, Cond.selects RX0 yX0_can yX0_can, Cond.code yX0_can cX0_can 3 (some .boolean), Cond.fieldLink RX0 42 "ScooterFlags$Street" "kneeBears" "I", Cond.methodLink RX0 38 yX3_has, Cond.methodLink RX4 138 yX0_goBy, Cond.instanceMethod yX0_goBy, Cond.selects RX0 yX0_goBy yX0_goBy, Cond.code yX0_goBy cX0_goBy 3 none]
def wsL_law_r11 : List Cond := [Cond.fieldLink RX0 45 "ScooterFlags$Street" "strength" "I", Cond.methodLink RX0 48 Lib.Math.min.name, Cond.methodLink RX0 54 Lib.Math.max.name, Cond.methodLink RX0 57 yX0_roll, Cond.instanceMethod yX0_roll, Cond.selects RX0 yX0_roll yX0_roll, Cond.code yX0_roll cX0_roll 4 none, Cond.fieldLink RX0 65 "ScooterFlags$Street" "grated" "[Z", Cond.methodLink RX0 61 yX3_dragOf, Cond.methodLink RX4 124 yX4_riderTells, Cond.instanceMethod yX4_riderTells, Cond.selects RX4 yX4_riderTells yX4_riderTells, Cond.code yX4_riderTells cX4_riderTells 2 (some .int), Cond.fieldLink RX4 142 "ScooterFlags$Rider" "seconds" "I", Cond.fieldLink RX4 145 "ScooterFlags$Rider" "flag" "I", Cond.fieldLink RX4 148 "ScooterFlags$Rider" "pace" "I", Cond.fieldLink RX4 151 "ScooterFlags$Rider" "foot" "I", Cond.fieldLink RX4 154 "ScooterFlags$Rider" "tired" "I", Cond.fieldLink RX4 157 "ScooterFlags$Rider" "soleLeft" "I", Cond.fieldLink RX4 160 "ScooterFlags$Rider" "pushes" "I"]
def wsL_law : List Cond := (wsL_law_r1 ++ (wsL_law_r2 ++ (wsL_law_r3 ++ (wsL_law_r4 ++ (wsL_law_r5 ++ (wsL_law_r6 ++ (wsL_law_r7 ++ (wsL_law_r8 ++ (wsL_law_r9 ++ (wsL_law_r10 ++ wsL_law_r11)))))))))) ++ wsX40 ++ wsX00 ++ wsX20 ++ wsX30 ++ wsX10 ++ ([] : List Cond)
abbrev vwCl : List vw_C := [(RX0, TX0, 7), (RX1, TX1, 4), (RX2, TX2, 8), (RX3, TX3, 7), (RX4, TX4, 10)]
