section
-- ===== PART A: goes FIRST, ahead of the names: the tables' words, and 'selects' of the private methods out of them =====
/-- a private method of a class that the tables say can be made, by its rows of tables_1 -/
def lw_okq (q : MethodName × Nat) : Prop := (q.1.cls ≠ "java/lang/invoke/MethodHandle" ∧ q.1.cls ≠ "java/lang/invoke/VarHandle") ∧ Cond.instantiable q.1.cls q.2 ∈ tables_1 ∧ Cond.privateMethod q.1 ∈ tables_1 ∧ Cond.instanceMethod q.1 ∈ tables_1
theorem lw_p0 : lw_okq (⟨"SpeedRows", "turnLimit", "(II)I"⟩, 10) := ⟨⟨by decide +kernel, by decide +kernel⟩, List.mem_of_getElem? (i := 5) (by decide +kernel), List.mem_of_getElem? (i := 68) (by decide +kernel), List.mem_of_getElem? (i := 69) (by decide +kernel)⟩
theorem lw_p1 : lw_okq (⟨"SpeedRows", "limitAt", "(I)I"⟩, 10) := ⟨⟨by decide +kernel, by decide +kernel⟩, List.mem_of_getElem? (i := 5) (by decide +kernel), List.mem_of_getElem? (i := 96) (by decide +kernel), List.mem_of_getElem? (i := 97) (by decide +kernel)⟩
theorem lw_p2 : lw_okq (⟨"SpeedRows", "reckonSpeeds", "()V"⟩, 10) := ⟨⟨by decide +kernel, by decide +kernel⟩, List.mem_of_getElem? (i := 5) (by decide +kernel), List.mem_of_getElem? (i := 104) (by decide +kernel), List.mem_of_getElem? (i := 105) (by decide +kernel)⟩
theorem lw_p3 : lw_okq (⟨"SpeedRows", "fastestAcross", "(III)I"⟩, 10) := ⟨⟨by decide +kernel, by decide +kernel⟩, List.mem_of_getElem? (i := 5) (by decide +kernel), List.mem_of_getElem? (i := 108) (by decide +kernel), List.mem_of_getElem? (i := 109) (by decide +kernel)⟩
theorem lw_p4 : lw_okq (⟨"SpeedRowsModel", "know", "()V"⟩, 10) := ⟨⟨by decide +kernel, by decide +kernel⟩, List.mem_of_getElem? (i := 121) (by decide +kernel), List.mem_of_getElem? (i := 197) (by decide +kernel), List.mem_of_getElem? (i := 198) (by decide +kernel)⟩
theorem lw_p5 : lw_okq (⟨"SpeedRowsModel", "reach", "(II)I"⟩, 10) := ⟨⟨by decide +kernel, by decide +kernel⟩, List.mem_of_getElem? (i := 121) (by decide +kernel), List.mem_of_getElem? (i := 202) (by decide +kernel), List.mem_of_getElem? (i := 203) (by decide +kernel)⟩
theorem lw_p6 : lw_okq (⟨"SpeedRowsModel", "lowered", "(II)Z"⟩, 10) := ⟨⟨by decide +kernel, by decide +kernel⟩, List.mem_of_getElem? (i := 121) (by decide +kernel), List.mem_of_getElem? (i := 211) (by decide +kernel), List.mem_of_getElem? (i := 212) (by decide +kernel)⟩
def lw_privs_1 : List (MethodName × Nat) := [(⟨"SpeedRows", "turnLimit", "(II)I"⟩, 10), (⟨"SpeedRows", "limitAt", "(I)I"⟩, 10), (⟨"SpeedRows", "reckonSpeeds", "()V"⟩, 10), (⟨"SpeedRows", "fastestAcross", "(III)I"⟩, 10), (⟨"SpeedRowsModel", "know", "()V"⟩, 10), (⟨"SpeedRowsModel", "reach", "(II)I"⟩, 10), (⟨"SpeedRowsModel", "lowered", "(II)Z"⟩, 10)]
theorem lw_r1 : ∀ q ∈ lw_privs_1, lw_okq q := List.forall_mem_cons.mpr ⟨lw_p0, List.forall_mem_cons.mpr ⟨lw_p1, List.forall_mem_cons.mpr ⟨lw_p2, List.forall_mem_cons.mpr ⟨lw_p3, List.forall_mem_cons.mpr ⟨lw_p4, List.forall_mem_cons.mpr ⟨lw_p5, List.forall_mem_cons.mpr ⟨lw_p6, fun _ h => absurd h List.not_mem_nil⟩⟩⟩⟩⟩⟩⟩
def lw_privs : List (MethodName × Nat) := lw_privs_1
def lw_tbl : List Cond := k2_sels lw_privs ++ tables_1
theorem lw_privs_ok : ∀ q ∈ lw_privs, lw_okq q := lw_r1
-- ===== end of PART A; then your names; then what follows =====
end
section
/-! ===== BEGIN words of one list among another's, by their places ===== -/
theorem goodIn_r {big : List Cond} (ws : List Cond) (ps : List Nat) (hp : ws = ps.filterMap (fun i => big[i]?)) (h : ws.all goodWord = true) : GoodIn big ws := by
  intro w hw
  have h1 := List.all_eq_true.mp h w hw
  rw [hp] at hw
  obtain ⟨i, -, hi⟩ := List.mem_filterMap.mp hw
  have hm : w ∈ big := by first | exact List.mem_of_getElem? hi | exact List.getElem?_mem hi
  exact ⟨hm, good_of_word h1⟩
theorem goodIn_app {big a b : List Cond} (ha : GoodIn big a) (hb : GoodIn big b) : GoodIn big (a ++ b) := fun w h => (List.mem_append.mp h).elim (ha w) (hb w)
theorem goodIn_ca {big a b : List Cond} {c : Cond} (ha : GoodIn big (c :: a)) (hb : GoodIn big b) : GoodIn big (c :: (a ++ b)) := fun w h => (List.mem_cons.mp h).elim (fun e => ha w (List.mem_cons.mpr (Or.inl e))) (fun h => (List.mem_append.mp h).elim (fun h => ha w (List.mem_cons.mpr (Or.inr h))) (hb w))
theorem goodIn_sub {big ws : List Cond} (hm : ∀ w ∈ ws, w ∈ big) (h : ws.all goodWord = true) : GoodIn big ws := fun w hw => ⟨hm w hw, good_of_word (List.all_eq_true.mp h w hw)⟩
/-! ===== END ===== -/

/-! ===== BEGIN printed: names, fields, word lists, decode rows ===== -/
def RX0 : String := "SpeedRows"
def TX0 : u_T := fun k => match k with
  | 0 => ("SpeedRows", "ticks", "[I", true)
  | 1 => ("SpeedRows", "feeds", "[I", true)
  | 2 => ("SpeedRows", "lastSteps", "[I", true)
  | 3 => ("SpeedRows", "turnLimits", "[I", true)
  | 4 => ("SpeedRows", "speeds", "[I", true)
  | 5 => ("SpeedRows", "moves", "I", false)
  | 6 => ("SpeedRows", "nextFirst", "I", false)
  | 7 => ("SpeedRows", "nextLast", "I", false)
  | 8 => ("SpeedRows", "rate", "I", false)
  | _ => ("SpeedRows", "speedsStand", "Z", false)
def tyX0 : Nat → FieldType := fun k => match k with
  | 0 => .array .int
  | 1 => .array .int
  | 2 => .array .int
  | 3 => .array .int
  | 4 => .array .int
  | 5 => .int
  | 6 => .int
  | 7 => .int
  | 8 => .int
  | _ => .boolean
abbrev wsX00 : List Cond := u_ws RX0 TX0 10
theorem nmX0 : ∀ a, a < 10 → ∀ b, b < 10 → a ≠ b → (TX0 a).2.1 ≠ (TX0 b).2.1 := by decide +kernel
theorem tyX0_ok : ∀ k, k < 10 → parseFieldDescriptor (TX0 k).2.2.1 = some (tyX0 k) := by decide +kernel
abbrev cX0_init : ByteArray := prog_1_method_1_code
def yX0_init : MethodName := ⟨RX0, "<init>", "()V"⟩
abbrev cX0_first : ByteArray := prog_1_method_2_code
def yX0_first : MethodName := ⟨RX0, "first", "(III)Z"⟩
abbrev cX0_last : ByteArray := prog_1_method_3_code
def yX0_last : MethodName := ⟨RX0, "last", "(III)Z"⟩
abbrev cX0_move : ByteArray := prog_1_method_4_code
def yX0_move : MethodName := ⟨RX0, "move", "(II)I"⟩
abbrev cX0_back : ByteArray := prog_1_method_5_code
def yX0_back : MethodName := ⟨RX0, "back", "(I)I"⟩
abbrev cX0_acceleration : ByteArray := prog_1_method_6_code
def yX0_acceleration : MethodName := ⟨RX0, "acceleration", "(I)Z"⟩
abbrev cX0_limit : ByteArray := prog_1_method_7_code
def yX0_limit : MethodName := ⟨RX0, "limit", "(I)I"⟩
abbrev cX0_speed : ByteArray := prog_1_method_8_code
def yX0_speed : MethodName := ⟨RX0, "speed", "(I)I"⟩
abbrev cX0_sum : ByteArray := prog_1_method_9_code
def yX0_sum : MethodName := ⟨RX0, "sum", "()J"⟩
abbrev cX0_below : ByteArray := prog_1_method_10_code
def yX0_below : MethodName := ⟨RX0, "below", "()I"⟩
abbrev cX0_isWithin : ByteArray := prog_1_method_11_code
def yX0_isWithin : MethodName := ⟨RX0, "isWithin", "(III)Z"⟩
abbrev cX0_isStep : ByteArray := prog_1_method_12_code
def yX0_isStep : MethodName := ⟨RX0, "isStep", "(III)Z"⟩
abbrev cX0_packed : ByteArray := prog_1_method_13_code
def yX0_packed : MethodName := ⟨RX0, "packed", "(III)I"⟩
abbrev cX0_sumOfProducts : ByteArray := prog_1_method_14_code
def yX0_sumOfProducts : MethodName := ⟨RX0, "sumOfProducts", "(II)I"⟩
abbrev cX0_sumOfSquares : ByteArray := prog_1_method_15_code
def yX0_sumOfSquares : MethodName := ⟨RX0, "sumOfSquares", "(I)I"⟩
abbrev cX0_turnLimit : ByteArray := prog_1_method_16_code
def yX0_turnLimit : MethodName := ⟨RX0, "turnLimit", "(II)I"⟩
abbrev cX0_limitAt : ByteArray := prog_1_method_17_code
def yX0_limitAt : MethodName := ⟨RX0, "limitAt", "(I)I"⟩
abbrev cX0_reckonSpeeds : ByteArray := prog_1_method_18_code
def yX0_reckonSpeeds : MethodName := ⟨RX0, "reckonSpeeds", "()V"⟩
abbrev cX0_fastestAcross : ByteArray := prog_1_method_19_code
def yX0_fastestAcross : MethodName := ⟨RX0, "fastestAcross", "(III)I"⟩
def RX1 : String := "SpeedRowsModel"
def TX1 : u_T := fun k => match k with
  | 0 => ("SpeedRowsModel", "ticks", "[I", true)
  | 1 => ("SpeedRowsModel", "feeds", "[I", true)
  | 2 => ("SpeedRowsModel", "firsts", "[B", true)
  | 3 => ("SpeedRowsModel", "lasts", "[B", true)
  | 4 => ("SpeedRowsModel", "first", "[B", true)
  | 5 => ("SpeedRowsModel", "last", "[B", true)
  | 6 => ("SpeedRowsModel", "moves", "I", false)
  | 7 => ("SpeedRowsModel", "most", "I", false)
  | 8 => ("SpeedRowsModel", "speeds", "[I", true)
  | _ => ("SpeedRowsModel", "isKnown", "Z", false)
def tyX1 : Nat → FieldType := fun k => match k with
  | 0 => .array .int
  | 1 => .array .int
  | 2 => .array .byte
  | 3 => .array .byte
  | 4 => .array .byte
  | 5 => .array .byte
  | 6 => .int
  | 7 => .int
  | 8 => .array .int
  | _ => .boolean
abbrev wsX10 : List Cond := u_ws RX1 TX1 10
theorem nmX1 : ∀ a, a < 10 → ∀ b, b < 10 → a ≠ b → (TX1 a).2.1 ≠ (TX1 b).2.1 := by decide +kernel
theorem tyX1_ok : ∀ k, k < 10 → parseFieldDescriptor (TX1 k).2.2.1 = some (tyX1 k) := by decide +kernel
abbrev cX1_init : ByteArray := prog_3_method_1_code
def yX1_init : MethodName := ⟨RX1, "<init>", "()V"⟩
abbrev cX1_isStep : ByteArray := prog_3_method_3_code
def yX1_isStep : MethodName := ⟨RX1, "isStep", "(III)Z"⟩
abbrev cX1_told : ByteArray := prog_3_method_4_code
def yX1_told : MethodName := ⟨RX1, "told", "([BIII)Z"⟩
abbrev cX1_first : ByteArray := prog_3_method_5_code
def yX1_first : MethodName := ⟨RX1, "first", "(III)Z"⟩
abbrev cX1_last : ByteArray := prog_3_method_6_code
def yX1_last : MethodName := ⟨RX1, "last", "(III)Z"⟩
abbrev cX1_move : ByteArray := prog_3_method_7_code
def yX1_move : MethodName := ⟨RX1, "move", "(II)I"⟩
abbrev cX1_back : ByteArray := prog_3_method_8_code
def yX1_back : MethodName := ⟨RX1, "back", "(I)I"⟩
abbrev cX1_acceleration : ByteArray := prog_3_method_9_code
def yX1_acceleration : MethodName := ⟨RX1, "acceleration", "(I)Z"⟩
abbrev cX1_limit : ByteArray := prog_3_method_10_code
def yX1_limit : MethodName := ⟨RX1, "limit", "(I)I"⟩
abbrev cX1_root : ByteArray := prog_3_method_11_code
def yX1_root : MethodName := ⟨RX1, "root", "(J)J"⟩
abbrev cX1_reach : ByteArray := prog_3_method_12_code
def yX1_reach : MethodName := ⟨RX1, "reach", "(II)I"⟩
abbrev cX1_lowered : ByteArray := prog_3_method_13_code
def yX1_lowered : MethodName := ⟨RX1, "lowered", "(II)Z"⟩
abbrev cX1_know : ByteArray := prog_3_method_14_code
def yX1_know : MethodName := ⟨RX1, "know", "()V"⟩
abbrev cX1_speed : ByteArray := prog_3_method_15_code
def yX1_speed : MethodName := ⟨RX1, "speed", "(I)I"⟩
abbrev cX1_sum : ByteArray := prog_3_method_16_code
def yX1_sum : MethodName := ⟨RX1, "sum", "()J"⟩
abbrev cX1_below : ByteArray := prog_3_method_17_code
def yX1_below : MethodName := ⟨RX1, "below", "()I"⟩
def RJ9 : String := "java/lang/Math"
def TJ9 : u_T := fun k => match k with
  | _ => ("", "", "", false)
def tyJ9 : Nat → FieldType := fun k => match k with
  | _ => .int
abbrev wsJ90 : List Cond := u_ws RJ9 TJ9 0
theorem nmJ9 : ∀ a, a < 0 → ∀ b, b < 0 → a ≠ b → (TJ9 a).2.1 ≠ (TJ9 b).2.1 := by decide +kernel
theorem tyJ9_ok : ∀ k, k < 0 → parseFieldDescriptor (TJ9 k).2.2.1 = some (tyJ9 k) := by decide +kernel
abbrev cJ9_max_7cf53 : ByteArray := prog_4_method_65_code
def yJ9_max_7cf53 : MethodName := ⟨RJ9, "max", "(II)I"⟩
abbrev cJ9_min_7cf53 : ByteArray := prog_4_method_69_code
def yJ9_min_7cf53 : MethodName := ⟨RJ9, "min", "(II)I"⟩
def RL : String := "SpeedRowsLaw"
abbrev cL_law : ByteArray := code
def yL_law : MethodName := ⟨RL, "law", "([I)Z"⟩
def wsX0_packed : List Cond := .code yX0_packed cX0_packed 3 (some .int) :: ([])
def wsX0_init : List Cond := .code yX0_init cX0_init 1 none :: ([.methodLink RX0 1 objectInit, .instanceMethod objectInit, .code objectInit ⟨#[0xb1]⟩ 1 none, .arrayClass .int, .fieldLink RX0 9 "SpeedRows" "ticks" "[I", .fieldLink RX0 13 "SpeedRows" "feeds" "[I", .fieldLink RX0 16 "SpeedRows" "lastSteps" "[I", .fieldLink RX0 19 "SpeedRows" "turnLimits" "[I", .fieldLink RX0 22 "SpeedRows" "speeds" "[I", .fieldLink RX0 25 "SpeedRows" "moves" "I", .fieldLink RX0 33 "SpeedRows" "nextFirst" "I", .fieldLink RX0 36 "SpeedRows" "nextLast" "I", .fieldLink RX0 39 "SpeedRows" "rate" "I", .fieldLink RX0 42 "SpeedRows" "speedsStand" "Z", .methodLink RX0 29 yX0_packed, .static yX0_packed, .initialized RX0, .code yX0_packed cX0_packed 3 (some .int)] ++ wsX00)
def wsX0_isWithin : List Cond := .code yX0_isWithin cX0_isWithin 3 (some .boolean) :: ([])
def wsX0_isStep : List Cond := .code yX0_isStep cX0_isStep 3 (some .boolean) :: ([.methodLink RX0 51 yX0_isWithin, .static yX0_isWithin, .initialized RX0, .code yX0_isWithin cX0_isWithin 3 (some .boolean)])
def wsX0_first : List Cond := .code yX0_first cX0_first 4 (some .boolean) :: ([.fieldLink RX0 33 "SpeedRows" "nextFirst" "I", .methodLink RX0 46 yX0_isStep, .static yX0_isStep, .initialized RX0, .code yX0_isStep cX0_isStep 3 (some .boolean), .methodLink RX0 51 yX0_isWithin, .static yX0_isWithin, .code yX0_isWithin cX0_isWithin 3 (some .boolean), .methodLink RX0 29 yX0_packed, .static yX0_packed, .code yX0_packed cX0_packed 3 (some .int)] ++ wsX00)
def wsX0_last : List Cond := .code yX0_last cX0_last 4 (some .boolean) :: ([.fieldLink RX0 36 "SpeedRows" "nextLast" "I", .methodLink RX0 46 yX0_isStep, .static yX0_isStep, .initialized RX0, .code yX0_isStep cX0_isStep 3 (some .boolean), .methodLink RX0 51 yX0_isWithin, .static yX0_isWithin, .code yX0_isWithin cX0_isWithin 3 (some .boolean), .methodLink RX0 29 yX0_packed, .static yX0_packed, .code yX0_packed cX0_packed 3 (some .int)] ++ wsX00)
def wsX0_sumOfProducts : List Cond := .code yX0_sumOfProducts cX0_sumOfProducts 5 (some .int) :: ([])
def wsX0_sumOfSquares : List Cond := .code yX0_sumOfSquares cX0_sumOfSquares 1 (some .int) :: ([.methodLink RX0 66 yX0_sumOfProducts, .static yX0_sumOfProducts, .initialized RX0, .code yX0_sumOfProducts cX0_sumOfProducts 5 (some .int)])
def wsX0_turnLimit : List Cond := .code yX0_turnLimit cX0_turnLimit 5 (some .int) :: ([.fieldLink RX0 16 "SpeedRows" "lastSteps" "[I", .fieldLink RX0 33 "SpeedRows" "nextFirst" "I", .methodLink RX0 72 Lib.Math.max.name, .static Lib.Math.max.name, .initialized "java/lang/Math", .code Lib.Math.max.name Lib.Math.max.code 2 (some .int), .fieldLink RX0 13 "SpeedRows" "feeds" "[I", .methodLink RX0 77 Lib.Math.min.name, .static Lib.Math.min.name, .code Lib.Math.min.name Lib.Math.min.code 2 (some .int), .methodLink RX0 69 yX0_sumOfSquares, .static yX0_sumOfSquares, .initialized RX0, .code yX0_sumOfSquares cX0_sumOfSquares 1 (some .int), .methodLink RX0 66 yX0_sumOfProducts, .static yX0_sumOfProducts, .code yX0_sumOfProducts cX0_sumOfProducts 5 (some .int)] ++ wsX00)
def wsX0_move_r1 : List Cond := [Cond.constant RX0 50 (100000), Cond.constant RX0 54 (99999), Cond.fieldLink RX0 25 "SpeedRows" "moves" "I", Cond.fieldLink RX0 9 "SpeedRows" "ticks" "[I", Cond.fieldLink RX0 13 "SpeedRows" "feeds" "[I", Cond.fieldLink RX0 16 "SpeedRows" "lastSteps" "[I", Cond.fieldLink RX0 36 "SpeedRows" "nextLast" "I", Cond.fieldLink RX0 19 "SpeedRows" "turnLimits" "[I", Cond.fieldLink RX0 42 "SpeedRows" "speedsStand" "Z", Cond.methodLink RX0 51 yX0_isWithin, Cond.static yX0_isWithin, Cond.initialized RX0, Cond.code yX0_isWithin cX0_isWithin 3 (some .boolean), Cond.methodLink RX0 55 yX0_turnLimit, Cond.instanceMethod yX0_turnLimit, Cond.selects RX0 yX0_turnLimit yX0_turnLimit, Cond.code yX0_turnLimit cX0_turnLimit 5 (some .int), Cond.fieldLink RX0 33 "SpeedRows" "nextFirst" "I", Cond.methodLink RX0 72 Lib.Math.max.name, Cond.static Lib.Math.max.name, Cond.initialized "java/lang/Math", Cond.code Lib.Math.max.name Lib.Math.max.code 2 (some .int), Cond.methodLink RX0 77 Lib.Math.min.name, Cond.static Lib.Math.min.name]
def wsX0_move_r2 : List Cond := [Cond.code Lib.Math.min.name Lib.Math.min.code 2 (some .int), Cond.methodLink RX0 69 yX0_sumOfSquares, Cond.static yX0_sumOfSquares, Cond.code yX0_sumOfSquares cX0_sumOfSquares 1 (some .int), Cond.methodLink RX0 66 yX0_sumOfProducts, Cond.static yX0_sumOfProducts, Cond.code yX0_sumOfProducts cX0_sumOfProducts 5 (some .int)]
def wsX0_move : List Cond := .code yX0_move cX0_move 3 (some .int) :: ((wsX0_move_r1 ++ wsX0_move_r2) ++ wsX00)
def wsX0_back : List Cond := .code yX0_back cX0_back 2 (some .int) :: ([.fieldLink RX0 25 "SpeedRows" "moves" "I", .fieldLink RX0 42 "SpeedRows" "speedsStand" "Z", .methodLink RX0 51 yX0_isWithin, .static yX0_isWithin, .initialized RX0, .code yX0_isWithin cX0_isWithin 3 (some .boolean)] ++ wsX00)
def wsX0_acceleration : List Cond := .code yX0_acceleration cX0_acceleration 2 (some .boolean) :: ([.fieldLink RX0 39 "SpeedRows" "rate" "I", .fieldLink RX0 42 "SpeedRows" "speedsStand" "Z", .methodLink RX0 51 yX0_isWithin, .static yX0_isWithin, .initialized RX0, .code yX0_isWithin cX0_isWithin 3 (some .boolean)] ++ wsX00)
def wsX0_limitAt : List Cond := .code yX0_limitAt cX0_limitAt 2 (some .int) :: ([.fieldLink RX0 25 "SpeedRows" "moves" "I", .fieldLink RX0 19 "SpeedRows" "turnLimits" "[I"] ++ wsX00)
def wsX0_limit : List Cond := .code yX0_limit cX0_limit 2 (some .int) :: ([.fieldLink RX0 25 "SpeedRows" "moves" "I", .methodLink RX0 51 yX0_isWithin, .static yX0_isWithin, .initialized RX0, .code yX0_isWithin cX0_isWithin 3 (some .boolean), .methodLink RX0 59 yX0_limitAt, .instanceMethod yX0_limitAt, .selects RX0 yX0_limitAt yX0_limitAt, .code yX0_limitAt cX0_limitAt 2 (some .int), .fieldLink RX0 19 "SpeedRows" "turnLimits" "[I"] ++ wsX00)
def wsX0_fastestAcross : List Cond := .code yX0_fastestAcross cX0_fastestAcross 10 (some .int) :: ([.constantLong RX0 83 (2), .fieldLink RX0 39 "SpeedRows" "rate" "I"] ++ wsX00)
def wsX0_reckonSpeeds : List Cond := .code yX0_reckonSpeeds cX0_reckonSpeeds 2 none :: ([.fieldLink RX0 42 "SpeedRows" "speedsStand" "Z", .fieldLink RX0 22 "SpeedRows" "speeds" "[I", .fieldLink RX0 25 "SpeedRows" "moves" "I", .fieldLink RX0 9 "SpeedRows" "ticks" "[I", .methodLink RX0 59 yX0_limitAt, .instanceMethod yX0_limitAt, .selects RX0 yX0_limitAt yX0_limitAt, .initialized RX0, .code yX0_limitAt cX0_limitAt 2 (some .int), .fieldLink RX0 19 "SpeedRows" "turnLimits" "[I", .methodLink RX0 80 yX0_fastestAcross, .instanceMethod yX0_fastestAcross, .selects RX0 yX0_fastestAcross yX0_fastestAcross, .code yX0_fastestAcross cX0_fastestAcross 10 (some .int), .constantLong RX0 83 (2), .fieldLink RX0 39 "SpeedRows" "rate" "I"] ++ wsX00)
def wsX0_speed : List Cond := .code yX0_speed cX0_speed 2 (some .int) :: ([.fieldLink RX0 25 "SpeedRows" "moves" "I", .fieldLink RX0 22 "SpeedRows" "speeds" "[I", .methodLink RX0 51 yX0_isWithin, .static yX0_isWithin, .initialized RX0, .code yX0_isWithin cX0_isWithin 3 (some .boolean), .methodLink RX0 63 yX0_reckonSpeeds, .instanceMethod yX0_reckonSpeeds, .selects RX0 yX0_reckonSpeeds yX0_reckonSpeeds, .code yX0_reckonSpeeds cX0_reckonSpeeds 2 none, .fieldLink RX0 42 "SpeedRows" "speedsStand" "Z", .fieldLink RX0 9 "SpeedRows" "ticks" "[I", .methodLink RX0 59 yX0_limitAt, .instanceMethod yX0_limitAt, .selects RX0 yX0_limitAt yX0_limitAt, .code yX0_limitAt cX0_limitAt 2 (some .int), .fieldLink RX0 19 "SpeedRows" "turnLimits" "[I", .methodLink RX0 80 yX0_fastestAcross, .instanceMethod yX0_fastestAcross, .selects RX0 yX0_fastestAcross yX0_fastestAcross, .code yX0_fastestAcross cX0_fastestAcross 10 (some .int), .constantLong RX0 83 (2), .fieldLink RX0 39 "SpeedRows" "rate" "I"] ++ wsX00)
def wsX0_sum : List Cond := .code yX0_sum cX0_sum 4 (some .long) :: ([.fieldLink RX0 25 "SpeedRows" "moves" "I", .fieldLink RX0 22 "SpeedRows" "speeds" "[I", .methodLink RX0 63 yX0_reckonSpeeds, .instanceMethod yX0_reckonSpeeds, .selects RX0 yX0_reckonSpeeds yX0_reckonSpeeds, .initialized RX0, .code yX0_reckonSpeeds cX0_reckonSpeeds 2 none, .fieldLink RX0 42 "SpeedRows" "speedsStand" "Z", .fieldLink RX0 9 "SpeedRows" "ticks" "[I", .methodLink RX0 59 yX0_limitAt, .instanceMethod yX0_limitAt, .selects RX0 yX0_limitAt yX0_limitAt, .code yX0_limitAt cX0_limitAt 2 (some .int), .fieldLink RX0 19 "SpeedRows" "turnLimits" "[I", .methodLink RX0 80 yX0_fastestAcross, .instanceMethod yX0_fastestAcross, .selects RX0 yX0_fastestAcross yX0_fastestAcross, .code yX0_fastestAcross cX0_fastestAcross 10 (some .int), .constantLong RX0 83 (2), .fieldLink RX0 39 "SpeedRows" "rate" "I"] ++ wsX00)
def wsX0_below : List Cond := .code yX0_below cX0_below 3 (some .int) :: ([.fieldLink RX0 25 "SpeedRows" "moves" "I", .fieldLink RX0 22 "SpeedRows" "speeds" "[I", .methodLink RX0 63 yX0_reckonSpeeds, .instanceMethod yX0_reckonSpeeds, .selects RX0 yX0_reckonSpeeds yX0_reckonSpeeds, .initialized RX0, .code yX0_reckonSpeeds cX0_reckonSpeeds 2 none, .fieldLink RX0 42 "SpeedRows" "speedsStand" "Z", .fieldLink RX0 9 "SpeedRows" "ticks" "[I", .methodLink RX0 59 yX0_limitAt, .instanceMethod yX0_limitAt, .selects RX0 yX0_limitAt yX0_limitAt, .code yX0_limitAt cX0_limitAt 2 (some .int), .fieldLink RX0 19 "SpeedRows" "turnLimits" "[I", .methodLink RX0 80 yX0_fastestAcross, .instanceMethod yX0_fastestAcross, .selects RX0 yX0_fastestAcross yX0_fastestAcross, .code yX0_fastestAcross cX0_fastestAcross 10 (some .int), .constantLong RX0 83 (2), .fieldLink RX0 39 "SpeedRows" "rate" "I"] ++ wsX00)
def wsX1_init : List Cond := .code yX1_init cX1_init 1 none :: ([.methodLink RX1 1 objectInit, .instanceMethod objectInit, .code objectInit ⟨#[0xb1]⟩ 1 none, .arrayClass .int, .fieldLink RX1 9 "SpeedRowsModel" "ticks" "[I", .fieldLink RX1 13 "SpeedRowsModel" "feeds" "[I", .arrayClass .byte, .fieldLink RX1 16 "SpeedRowsModel" "firsts" "[B", .fieldLink RX1 20 "SpeedRowsModel" "lasts" "[B", .fieldLink RX1 23 "SpeedRowsModel" "first" "[B", .fieldLink RX1 26 "SpeedRowsModel" "last" "[B", .fieldLink RX1 29 "SpeedRowsModel" "most" "I", .fieldLink RX1 33 "SpeedRowsModel" "speeds" "[I"] ++ wsX10)
def wsX1_isStep : List Cond := .code yX1_isStep cX1_isStep 3 (some .boolean) :: ([])
def wsX1_told : List Cond := .code yX1_told cX1_told 4 (some .boolean) :: ([.methodLink RX1 36 yX1_isStep, .static yX1_isStep, .initialized RX1, .code yX1_isStep cX1_isStep 3 (some .boolean)])
def wsX1_first : List Cond := .code yX1_first cX1_first 4 (some .boolean) :: ([.fieldLink RX1 23 "SpeedRowsModel" "first" "[B", .methodLink RX1 40 yX1_told, .static yX1_told, .initialized RX1, .code yX1_told cX1_told 4 (some .boolean), .methodLink RX1 36 yX1_isStep, .static yX1_isStep, .code yX1_isStep cX1_isStep 3 (some .boolean)] ++ wsX10)
def wsX1_last : List Cond := .code yX1_last cX1_last 4 (some .boolean) :: ([.fieldLink RX1 26 "SpeedRowsModel" "last" "[B", .methodLink RX1 40 yX1_told, .static yX1_told, .initialized RX1, .code yX1_told cX1_told 4 (some .boolean), .methodLink RX1 36 yX1_isStep, .static yX1_isStep, .code yX1_isStep cX1_isStep 3 (some .boolean)] ++ wsX10)
def wsX1_move : List Cond := .code yX1_move cX1_move 4 (some .int) :: ([.constant RX1 44 (100000), .constant RX1 45 (99999), .fieldLink RX1 46 "SpeedRowsModel" "moves" "I", .fieldLink RX1 9 "SpeedRowsModel" "ticks" "[I", .fieldLink RX1 13 "SpeedRowsModel" "feeds" "[I", .fieldLink RX1 16 "SpeedRowsModel" "firsts" "[B", .fieldLink RX1 23 "SpeedRowsModel" "first" "[B", .fieldLink RX1 20 "SpeedRowsModel" "lasts" "[B", .fieldLink RX1 26 "SpeedRowsModel" "last" "[B", .fieldLink RX1 49 "SpeedRowsModel" "isKnown" "Z"] ++ wsX10)
def wsX1_back : List Cond := .code yX1_back cX1_back 2 (some .int) :: ([.fieldLink RX1 46 "SpeedRowsModel" "moves" "I", .fieldLink RX1 49 "SpeedRowsModel" "isKnown" "Z"] ++ wsX10)
def wsX1_acceleration : List Cond := .code yX1_acceleration cX1_acceleration 2 (some .boolean) :: ([.fieldLink RX1 29 "SpeedRowsModel" "most" "I", .fieldLink RX1 49 "SpeedRowsModel" "isKnown" "Z"] ++ wsX10)
def wsX1_limit : List Cond := .code yX1_limit cX1_limit 8 (some .int) :: ([.fieldLink RX1 46 "SpeedRowsModel" "moves" "I", .fieldLink RX1 20 "SpeedRowsModel" "lasts" "[B", .fieldLink RX1 16 "SpeedRowsModel" "firsts" "[B", .fieldLink RX1 13 "SpeedRowsModel" "feeds" "[I", .methodLink RX1 53 Lib.Math.min.name, .static Lib.Math.min.name, .initialized "java/lang/Math", .code Lib.Math.min.name Lib.Math.min.code 2 (some .int), .methodLink RX1 59 Lib.Math.max.name, .static Lib.Math.max.name, .code Lib.Math.max.name Lib.Math.max.code 2 (some .int)] ++ wsX10)
def wsX1_root : List Cond := .code yX1_root cX1_root 8 (some .long) :: ([.constantLong RX1 62 (2000000000), .constantLong RX1 64 (2)])
def wsX1_reach : List Cond := .code yX1_reach cX1_reach 3 (some .int) :: ([.constantLong RX1 64 (2), .fieldLink RX1 29 "SpeedRowsModel" "most" "I", .fieldLink RX1 9 "SpeedRowsModel" "ticks" "[I", .methodLink RX1 66 yX1_root, .static yX1_root, .initialized RX1, .code yX1_root cX1_root 8 (some .long), .constantLong RX1 62 (2000000000)] ++ wsX10)
def wsX1_lowered : List Cond := .code yX1_lowered cX1_lowered 3 (some .boolean) :: ([.fieldLink RX1 33 "SpeedRowsModel" "speeds" "[I"] ++ wsX10)
def wsX1_know_r1 : List Cond := [Cond.fieldLink RX1 49 "SpeedRowsModel" "isKnown" "Z", Cond.fieldLink RX1 46 "SpeedRowsModel" "moves" "I", Cond.fieldLink RX1 33 "SpeedRowsModel" "speeds" "[I", Cond.methodLink RX1 70 yX1_limit, Cond.instanceMethod yX1_limit, Cond.selects RX1 yX1_limit yX1_limit, Cond.initialized RX1, Cond.code yX1_limit cX1_limit 8 (some .int), Cond.fieldLink RX1 20 "SpeedRowsModel" "lasts" "[B", Cond.fieldLink RX1 16 "SpeedRowsModel" "firsts" "[B", Cond.fieldLink RX1 13 "SpeedRowsModel" "feeds" "[I", Cond.methodLink RX1 53 Lib.Math.min.name, Cond.static Lib.Math.min.name, Cond.initialized "java/lang/Math", Cond.code Lib.Math.min.name Lib.Math.min.code 2 (some .int), Cond.methodLink RX1 59 Lib.Math.max.name, Cond.static Lib.Math.max.name, Cond.code Lib.Math.max.name Lib.Math.max.code 2 (some .int), Cond.methodLink RX1 74 yX1_reach, Cond.instanceMethod yX1_reach, Cond.selects RX1 yX1_reach yX1_reach, Cond.code yX1_reach cX1_reach 3 (some .int), Cond.constantLong RX1 64 (2), Cond.fieldLink RX1 29 "SpeedRowsModel" "most" "I"]
def wsX1_know_r2 : List Cond := [Cond.fieldLink RX1 9 "SpeedRowsModel" "ticks" "[I", Cond.methodLink RX1 66 yX1_root, Cond.static yX1_root, Cond.code yX1_root cX1_root 8 (some .long), Cond.constantLong RX1 62 (2000000000), Cond.methodLink RX1 77 yX1_lowered, Cond.instanceMethod yX1_lowered, Cond.selects RX1 yX1_lowered yX1_lowered, Cond.code yX1_lowered cX1_lowered 3 (some .boolean)]
def wsX1_know : List Cond := .code yX1_know cX1_know 3 none :: ((wsX1_know_r1 ++ wsX1_know_r2) ++ wsX10)
def wsX1_speed_r1 : List Cond := [Cond.fieldLink RX1 46 "SpeedRowsModel" "moves" "I", Cond.fieldLink RX1 33 "SpeedRowsModel" "speeds" "[I", Cond.methodLink RX1 81 yX1_know, Cond.instanceMethod yX1_know, Cond.selects RX1 yX1_know yX1_know, Cond.initialized RX1, Cond.code yX1_know cX1_know 3 none, Cond.fieldLink RX1 49 "SpeedRowsModel" "isKnown" "Z", Cond.methodLink RX1 70 yX1_limit, Cond.instanceMethod yX1_limit, Cond.selects RX1 yX1_limit yX1_limit, Cond.code yX1_limit cX1_limit 8 (some .int), Cond.fieldLink RX1 20 "SpeedRowsModel" "lasts" "[B", Cond.fieldLink RX1 16 "SpeedRowsModel" "firsts" "[B", Cond.fieldLink RX1 13 "SpeedRowsModel" "feeds" "[I", Cond.methodLink RX1 53 Lib.Math.min.name, Cond.static Lib.Math.min.name, Cond.initialized "java/lang/Math", Cond.code Lib.Math.min.name Lib.Math.min.code 2 (some .int), Cond.methodLink RX1 59 Lib.Math.max.name, Cond.static Lib.Math.max.name, Cond.code Lib.Math.max.name Lib.Math.max.code 2 (some .int), Cond.methodLink RX1 74 yX1_reach, Cond.instanceMethod yX1_reach]
def wsX1_speed_r2 : List Cond := [Cond.selects RX1 yX1_reach yX1_reach, Cond.code yX1_reach cX1_reach 3 (some .int), Cond.constantLong RX1 64 (2), Cond.fieldLink RX1 29 "SpeedRowsModel" "most" "I", Cond.fieldLink RX1 9 "SpeedRowsModel" "ticks" "[I", Cond.methodLink RX1 66 yX1_root, Cond.static yX1_root, Cond.code yX1_root cX1_root 8 (some .long), Cond.constantLong RX1 62 (2000000000), Cond.methodLink RX1 77 yX1_lowered, Cond.instanceMethod yX1_lowered, Cond.selects RX1 yX1_lowered yX1_lowered, Cond.code yX1_lowered cX1_lowered 3 (some .boolean)]
def wsX1_speed : List Cond := .code yX1_speed cX1_speed 2 (some .int) :: ((wsX1_speed_r1 ++ wsX1_speed_r2) ++ wsX10)
def wsX1_sum_r1 : List Cond := [Cond.fieldLink RX1 46 "SpeedRowsModel" "moves" "I", Cond.fieldLink RX1 33 "SpeedRowsModel" "speeds" "[I", Cond.methodLink RX1 81 yX1_know, Cond.instanceMethod yX1_know, Cond.selects RX1 yX1_know yX1_know, Cond.initialized RX1, Cond.code yX1_know cX1_know 3 none, Cond.fieldLink RX1 49 "SpeedRowsModel" "isKnown" "Z", Cond.methodLink RX1 70 yX1_limit, Cond.instanceMethod yX1_limit, Cond.selects RX1 yX1_limit yX1_limit, Cond.code yX1_limit cX1_limit 8 (some .int), Cond.fieldLink RX1 20 "SpeedRowsModel" "lasts" "[B", Cond.fieldLink RX1 16 "SpeedRowsModel" "firsts" "[B", Cond.fieldLink RX1 13 "SpeedRowsModel" "feeds" "[I", Cond.methodLink RX1 53 Lib.Math.min.name, Cond.static Lib.Math.min.name, Cond.initialized "java/lang/Math", Cond.code Lib.Math.min.name Lib.Math.min.code 2 (some .int), Cond.methodLink RX1 59 Lib.Math.max.name, Cond.static Lib.Math.max.name, Cond.code Lib.Math.max.name Lib.Math.max.code 2 (some .int), Cond.methodLink RX1 74 yX1_reach, Cond.instanceMethod yX1_reach]
def wsX1_sum_r2 : List Cond := [Cond.selects RX1 yX1_reach yX1_reach, Cond.code yX1_reach cX1_reach 3 (some .int), Cond.constantLong RX1 64 (2), Cond.fieldLink RX1 29 "SpeedRowsModel" "most" "I", Cond.fieldLink RX1 9 "SpeedRowsModel" "ticks" "[I", Cond.methodLink RX1 66 yX1_root, Cond.static yX1_root, Cond.code yX1_root cX1_root 8 (some .long), Cond.constantLong RX1 62 (2000000000), Cond.methodLink RX1 77 yX1_lowered, Cond.instanceMethod yX1_lowered, Cond.selects RX1 yX1_lowered yX1_lowered, Cond.code yX1_lowered cX1_lowered 3 (some .boolean)]
def wsX1_sum : List Cond := .code yX1_sum cX1_sum 4 (some .long) :: ((wsX1_sum_r1 ++ wsX1_sum_r2) ++ wsX10)
def wsX1_below_r1 : List Cond := [Cond.fieldLink RX1 46 "SpeedRowsModel" "moves" "I", Cond.fieldLink RX1 33 "SpeedRowsModel" "speeds" "[I", Cond.methodLink RX1 81 yX1_know, Cond.instanceMethod yX1_know, Cond.selects RX1 yX1_know yX1_know, Cond.initialized RX1, Cond.code yX1_know cX1_know 3 none, Cond.fieldLink RX1 49 "SpeedRowsModel" "isKnown" "Z", Cond.methodLink RX1 70 yX1_limit, Cond.instanceMethod yX1_limit, Cond.selects RX1 yX1_limit yX1_limit, Cond.code yX1_limit cX1_limit 8 (some .int), Cond.fieldLink RX1 20 "SpeedRowsModel" "lasts" "[B", Cond.fieldLink RX1 16 "SpeedRowsModel" "firsts" "[B", Cond.fieldLink RX1 13 "SpeedRowsModel" "feeds" "[I", Cond.methodLink RX1 53 Lib.Math.min.name, Cond.static Lib.Math.min.name, Cond.initialized "java/lang/Math", Cond.code Lib.Math.min.name Lib.Math.min.code 2 (some .int), Cond.methodLink RX1 59 Lib.Math.max.name, Cond.static Lib.Math.max.name, Cond.code Lib.Math.max.name Lib.Math.max.code 2 (some .int), Cond.methodLink RX1 74 yX1_reach, Cond.instanceMethod yX1_reach]
def wsX1_below_r2 : List Cond := [Cond.selects RX1 yX1_reach yX1_reach, Cond.code yX1_reach cX1_reach 3 (some .int), Cond.constantLong RX1 64 (2), Cond.fieldLink RX1 29 "SpeedRowsModel" "most" "I", Cond.fieldLink RX1 9 "SpeedRowsModel" "ticks" "[I", Cond.methodLink RX1 66 yX1_root, Cond.static yX1_root, Cond.code yX1_root cX1_root 8 (some .long), Cond.constantLong RX1 62 (2000000000), Cond.methodLink RX1 77 yX1_lowered, Cond.instanceMethod yX1_lowered, Cond.selects RX1 yX1_lowered yX1_lowered, Cond.code yX1_lowered cX1_lowered 3 (some .boolean)]
def wsX1_below : List Cond := .code yX1_below cX1_below 3 (some .int) :: ((wsX1_below_r1 ++ wsX1_below_r2) ++ wsX10)
def wsJ9_max_7cf53 : List Cond := .code yJ9_max_7cf53 cJ9_max_7cf53 2 (some .int) :: ([])
def wsJ9_min_7cf53 : List Cond := .code yJ9_min_7cf53 cJ9_min_7cf53 2 (some .int) :: ([])
def wsL_law_r1 : List Cond := [Cond.classLink RL 7 RX0, Cond.instantiable RX0 10, Cond.initialized RX0, Cond.classLink RL 10 RX1, Cond.instantiable RX1 10, Cond.initialized RX1, Cond.methodLink RL 9 yX0_init, Cond.instanceMethod yX0_init, Cond.code yX0_init cX0_init 1 none, Cond.methodLink RX0 1 objectInit, Cond.instanceMethod objectInit, Cond.code objectInit ⟨#[0xb1]⟩ 1 none, Cond.arrayClass .int, Cond.fieldLink RX0 9 "SpeedRows" "ticks" "[I", Cond.fieldLink RX0 13 "SpeedRows" "feeds" "[I", Cond.fieldLink RX0 16 "SpeedRows" "lastSteps" "[I", Cond.fieldLink RX0 19 "SpeedRows" "turnLimits" "[I", Cond.fieldLink RX0 22 "SpeedRows" "speeds" "[I", Cond.fieldLink RX0 25 "SpeedRows" "moves" "I", Cond.fieldLink RX0 33 "SpeedRows" "nextFirst" "I", Cond.fieldLink RX0 36 "SpeedRows" "nextLast" "I", Cond.fieldLink RX0 39 "SpeedRows" "rate" "I", Cond.fieldLink RX0 42 "SpeedRows" "speedsStand" "Z", Cond.methodLink RX0 29 yX0_packed]
def wsL_law_r2 : List Cond := [Cond.static yX0_packed, Cond.code yX0_packed cX0_packed 3 (some .int), Cond.methodLink RL 12 yX1_init, Cond.instanceMethod yX1_init, Cond.code yX1_init cX1_init 1 none, Cond.methodLink RX1 1 objectInit, Cond.fieldLink RX1 9 "SpeedRowsModel" "ticks" "[I", Cond.fieldLink RX1 13 "SpeedRowsModel" "feeds" "[I", Cond.arrayClass .byte, Cond.fieldLink RX1 16 "SpeedRowsModel" "firsts" "[B", Cond.fieldLink RX1 20 "SpeedRowsModel" "lasts" "[B", Cond.fieldLink RX1 23 "SpeedRowsModel" "first" "[B", Cond.fieldLink RX1 26 "SpeedRowsModel" "last" "[B", Cond.fieldLink RX1 29 "SpeedRowsModel" "most" "I", Cond.fieldLink RX1 33 "SpeedRowsModel" "speeds" "[I", Cond.methodLink RL 13 yX0_first, Cond.instanceMethod yX0_first, Cond.selects RX0 yX0_first yX0_first, Cond.code yX0_first cX0_first 4 (some .boolean), Cond.methodLink RX0 46 yX0_isStep, Cond.static yX0_isStep, Cond.code yX0_isStep cX0_isStep 3 (some .boolean), Cond.methodLink RX0 51 yX0_isWithin, Cond.static yX0_isWithin]
def wsL_law_r3 : List Cond := [Cond.code yX0_isWithin cX0_isWithin 3 (some .boolean), Cond.methodLink RL 17 yX1_first, Cond.instanceMethod yX1_first, Cond.selects RX1 yX1_first yX1_first, Cond.code yX1_first cX1_first 4 (some .boolean), Cond.methodLink RX1 40 yX1_told, Cond.static yX1_told, Cond.code yX1_told cX1_told 4 (some .boolean), Cond.methodLink RX1 36 yX1_isStep, Cond.static yX1_isStep, Cond.code yX1_isStep cX1_isStep 3 (some .boolean), Cond.methodLink RL 18 yX0_last, Cond.instanceMethod yX0_last, Cond.selects RX0 yX0_last yX0_last, Cond.code yX0_last cX0_last 4 (some .boolean), Cond.methodLink RL 21 yX1_last, Cond.instanceMethod yX1_last, Cond.selects RX1 yX1_last yX1_last, Cond.code yX1_last cX1_last 4 (some .boolean), Cond.methodLink RL 22 yX0_move, Cond.instanceMethod yX0_move, Cond.selects RX0 yX0_move yX0_move, Cond.code yX0_move cX0_move 3 (some .int), Cond.constant RX0 50 (100000)]
def wsL_law_r4 : List Cond := [Cond.constant RX0 54 (99999), Cond.methodLink RX0 55 yX0_turnLimit, Cond.instanceMethod yX0_turnLimit, Cond.selects RX0 yX0_turnLimit yX0_turnLimit, Cond.code yX0_turnLimit cX0_turnLimit 5 (some .int), Cond.methodLink RX0 72 Lib.Math.max.name, Cond.static Lib.Math.max.name, Cond.initialized "java/lang/Math", Cond.code Lib.Math.max.name Lib.Math.max.code 2 (some .int), Cond.methodLink RX0 77 Lib.Math.min.name, Cond.static Lib.Math.min.name, Cond.code Lib.Math.min.name Lib.Math.min.code 2 (some .int), Cond.methodLink RX0 69 yX0_sumOfSquares, Cond.static yX0_sumOfSquares, Cond.code yX0_sumOfSquares cX0_sumOfSquares 1 (some .int), Cond.methodLink RX0 66 yX0_sumOfProducts, Cond.static yX0_sumOfProducts, Cond.code yX0_sumOfProducts cX0_sumOfProducts 5 (some .int), Cond.methodLink RL 26 yX1_move, Cond.instanceMethod yX1_move, Cond.selects RX1 yX1_move yX1_move, Cond.code yX1_move cX1_move 4 (some .int), Cond.constant RX1 44 (100000), Cond.constant RX1 45 (99999)]
def wsL_law_r5 : List Cond := [Cond.fieldLink RX1 46 "SpeedRowsModel" "moves" "I", Cond.fieldLink RX1 49 "SpeedRowsModel" "isKnown" "Z", Cond.methodLink RL 27 yX0_back, Cond.instanceMethod yX0_back, Cond.selects RX0 yX0_back yX0_back, Cond.code yX0_back cX0_back 2 (some .int), Cond.methodLink RL 31 yX1_back, Cond.instanceMethod yX1_back, Cond.selects RX1 yX1_back yX1_back, Cond.code yX1_back cX1_back 2 (some .int), Cond.methodLink RL 32 yX0_acceleration, Cond.instanceMethod yX0_acceleration, Cond.selects RX0 yX0_acceleration yX0_acceleration, Cond.code yX0_acceleration cX0_acceleration 2 (some .boolean), Cond.methodLink RL 36 yX1_acceleration, Cond.instanceMethod yX1_acceleration, Cond.selects RX1 yX1_acceleration yX1_acceleration, Cond.code yX1_acceleration cX1_acceleration 2 (some .boolean), Cond.methodLink RL 37 yX0_limit, Cond.instanceMethod yX0_limit, Cond.selects RX0 yX0_limit yX0_limit, Cond.code yX0_limit cX0_limit 2 (some .int), Cond.methodLink RX0 59 yX0_limitAt, Cond.instanceMethod yX0_limitAt]
def wsL_law_r6 : List Cond := [Cond.selects RX0 yX0_limitAt yX0_limitAt, Cond.code yX0_limitAt cX0_limitAt 2 (some .int), Cond.methodLink RL 40 yX1_limit, Cond.instanceMethod yX1_limit, Cond.selects RX1 yX1_limit yX1_limit, Cond.code yX1_limit cX1_limit 8 (some .int), Cond.methodLink RX1 53 Lib.Math.min.name, Cond.methodLink RX1 59 Lib.Math.max.name, Cond.methodLink RL 41 yX0_speed, Cond.instanceMethod yX0_speed, Cond.selects RX0 yX0_speed yX0_speed, Cond.code yX0_speed cX0_speed 2 (some .int), Cond.methodLink RX0 63 yX0_reckonSpeeds, Cond.instanceMethod yX0_reckonSpeeds, Cond.selects RX0 yX0_reckonSpeeds yX0_reckonSpeeds, Cond.code yX0_reckonSpeeds cX0_reckonSpeeds 2 none, Cond.methodLink RX0 80 yX0_fastestAcross, Cond.instanceMethod yX0_fastestAcross, Cond.selects RX0 yX0_fastestAcross yX0_fastestAcross, Cond.code yX0_fastestAcross cX0_fastestAcross 10 (some .int), Cond.constantLong RX0 83 (2), Cond.methodLink RL 44 yX1_speed, Cond.instanceMethod yX1_speed, Cond.selects RX1 yX1_speed yX1_speed]
def wsL_law_r7 : List Cond := [Cond.code yX1_speed cX1_speed 2 (some .int), Cond.methodLink RX1 81 yX1_know, Cond.instanceMethod yX1_know, Cond.selects RX1 yX1_know yX1_know, Cond.code yX1_know cX1_know 3 none, Cond.methodLink RX1 70 yX1_limit, Cond.methodLink RX1 74 yX1_reach, Cond.instanceMethod yX1_reach, Cond.selects RX1 yX1_reach yX1_reach, Cond.code yX1_reach cX1_reach 3 (some .int), Cond.constantLong RX1 64 (2), Cond.methodLink RX1 66 yX1_root, Cond.static yX1_root, Cond.code yX1_root cX1_root 8 (some .long), Cond.constantLong RX1 62 (2000000000), Cond.methodLink RX1 77 yX1_lowered, Cond.instanceMethod yX1_lowered, Cond.selects RX1 yX1_lowered yX1_lowered, Cond.code yX1_lowered cX1_lowered 3 (some .boolean), Cond.methodLink RL 45 yX0_sum, Cond.instanceMethod yX0_sum, Cond.selects RX0 yX0_sum yX0_sum, Cond.code yX0_sum cX0_sum 4 (some .long), Cond.methodLink RL 49 yX1_sum]
def wsL_law_r8 : List Cond := [Cond.instanceMethod yX1_sum, Cond.selects RX1 yX1_sum yX1_sum, Cond.code yX1_sum cX1_sum 4 (some .long), Cond.methodLink RL 50 yX0_below, Cond.instanceMethod yX0_below, Cond.selects RX0 yX0_below yX0_below, Cond.code yX0_below cX0_below 3 (some .int), Cond.methodLink RL 54 yX1_below, Cond.instanceMethod yX1_below, Cond.selects RX1 yX1_below yX1_below, Cond.code yX1_below cX1_below 3 (some .int)]
def wsL_law : List Cond := (wsL_law_r1 ++ (wsL_law_r2 ++ (wsL_law_r3 ++ (wsL_law_r4 ++ (wsL_law_r5 ++ (wsL_law_r6 ++ (wsL_law_r7 ++ wsL_law_r8))))))) ++ wsX00 ++ wsX10 ++ ([] : List Cond)
set_option maxRecDepth 20000 in
theorem wsL_law_in : ∀ w ∈ wsL_law, w ∈ lw_tbl := fun w h => (goodIn_p wsL_law [15, 18, 21, 131, 57, 60, 63, 168, 171, 174, 67, 178, 71, 77, 86, 89, 80, 83, 182, 93, 188, 97, 192, 101, 105, 196, 109, 113, 117, 202, 206, 211, 215, 220, 122, 224, 126, 228] (by decide +kernel) (by decide +kernel) w h).1
theorem inlX0 : ∀ w ∈ wsX00, w ∈ wsL_law := fun _ h => List.mem_append_left _ (List.mem_append_left _ (List.mem_append_right _ h))
theorem inX0 : ∀ w ∈ wsX00, w ∈ lw_tbl := fun w h => wsL_law_in w (inlX0 w h)
theorem inlX1 : ∀ w ∈ wsX10, w ∈ wsL_law := fun _ h => List.mem_append_left _ (List.mem_append_right _ h)
theorem inX1 : ∀ w ∈ wsX10, w ∈ lw_tbl := fun w h => wsL_law_in w (inlX1 w h)
theorem inJ9 : ∀ w ∈ wsJ90, w ∈ lw_tbl := by decide +kernel
set_option maxRecDepth 20000 in
theorem ggX0_init_X0_packed : GoodIn wsX0_init wsX0_packed := goodIn_r _ [18] (by decide +kernel) (by decide +kernel)
set_option maxRecDepth 20000 in
theorem gX0_init_X0_packed : GoodIn wsX0_init (va_wsS RX0 29 yX0_packed wsX0_packed) := goodIn_app (goodIn_of _ (by decide +kernel)) ggX0_init_X0_packed
theorem dX0_init_0 : decode cX0_init 0 = .ok (.aload_n 0, 1) := by decide +kernel
theorem dX0_init_1 : decode cX0_init 1 = .ok (.invokespecial 1, 3) := by decide +kernel
theorem dX0_init_4 : decode cX0_init 4 = .ok (.aload_n 0, 1) := by decide +kernel
theorem dX0_init_5 : decode cX0_init 5 = .ok (.sipush 2000, 3) := by decide +kernel
theorem dX0_init_8 : decode cX0_init 8 = .ok (.newarray .int, 2) := by decide +kernel
theorem dX0_init_10 : decode cX0_init 10 = .ok (.putfield 9, 3) := by decide +kernel
theorem dX0_init_13 : decode cX0_init 13 = .ok (.aload_n 0, 1) := by decide +kernel
theorem dX0_init_14 : decode cX0_init 14 = .ok (.sipush 2000, 3) := by decide +kernel
theorem dX0_init_17 : decode cX0_init 17 = .ok (.newarray .int, 2) := by decide +kernel
theorem dX0_init_19 : decode cX0_init 19 = .ok (.putfield 13, 3) := by decide +kernel
theorem dX0_init_22 : decode cX0_init 22 = .ok (.aload_n 0, 1) := by decide +kernel
theorem dX0_init_23 : decode cX0_init 23 = .ok (.sipush 2000, 3) := by decide +kernel
theorem dX0_init_26 : decode cX0_init 26 = .ok (.newarray .int, 2) := by decide +kernel
theorem dX0_init_28 : decode cX0_init 28 = .ok (.putfield 16, 3) := by decide +kernel
theorem dX0_init_31 : decode cX0_init 31 = .ok (.aload_n 0, 1) := by decide +kernel
theorem dX0_init_32 : decode cX0_init 32 = .ok (.sipush 2000, 3) := by decide +kernel
theorem dX0_init_35 : decode cX0_init 35 = .ok (.newarray .int, 2) := by decide +kernel
theorem dX0_init_37 : decode cX0_init 37 = .ok (.putfield 19, 3) := by decide +kernel
theorem dX0_init_40 : decode cX0_init 40 = .ok (.aload_n 0, 1) := by decide +kernel
theorem dX0_init_41 : decode cX0_init 41 = .ok (.sipush 2001, 3) := by decide +kernel
theorem dX0_init_44 : decode cX0_init 44 = .ok (.newarray .int, 2) := by decide +kernel
theorem dX0_init_46 : decode cX0_init 46 = .ok (.putfield 22, 3) := by decide +kernel
theorem dX0_init_49 : decode cX0_init 49 = .ok (.aload_n 0, 1) := by decide +kernel
theorem dX0_init_50 : decode cX0_init 50 = .ok (.iconst 0, 1) := by decide +kernel
theorem dX0_init_51 : decode cX0_init 51 = .ok (.putfield 25, 3) := by decide +kernel
theorem dX0_init_54 : decode cX0_init 54 = .ok (.aload_n 0, 1) := by decide +kernel
theorem dX0_init_55 : decode cX0_init 55 = .ok (.iconst 1, 1) := by decide +kernel
theorem dX0_init_56 : decode cX0_init 56 = .ok (.iconst 0, 1) := by decide +kernel
theorem dX0_init_57 : decode cX0_init 57 = .ok (.iconst 0, 1) := by decide +kernel
theorem dX0_init_58 : decode cX0_init 58 = .ok (.invokestatic 29, 3) := by decide +kernel
theorem dX0_init_61 : decode cX0_init 61 = .ok (.putfield 33, 3) := by decide +kernel
theorem dX0_init_64 : decode cX0_init 64 = .ok (.aload_n 0, 1) := by decide +kernel
theorem dX0_init_65 : decode cX0_init 65 = .ok (.iconst 1, 1) := by decide +kernel
theorem dX0_init_66 : decode cX0_init 66 = .ok (.iconst 0, 1) := by decide +kernel
theorem dX0_init_67 : decode cX0_init 67 = .ok (.iconst 0, 1) := by decide +kernel
theorem dX0_init_68 : decode cX0_init 68 = .ok (.invokestatic 29, 3) := by decide +kernel
theorem dX0_init_71 : decode cX0_init 71 = .ok (.putfield 36, 3) := by decide +kernel
theorem dX0_init_74 : decode cX0_init 74 = .ok (.aload_n 0, 1) := by decide +kernel
theorem dX0_init_75 : decode cX0_init 75 = .ok (.bipush 100, 2) := by decide +kernel
theorem dX0_init_77 : decode cX0_init 77 = .ok (.putfield 39, 3) := by decide +kernel
theorem dX0_init_80 : decode cX0_init 80 = .ok (.aload_n 0, 1) := by decide +kernel
theorem dX0_init_81 : decode cX0_init 81 = .ok (.iconst 0, 1) := by decide +kernel
theorem dX0_init_82 : decode cX0_init 82 = .ok (.putfield 42, 3) := by decide +kernel
theorem dX0_init_85 : decode cX0_init 85 = .ok (.return_, 1) := by decide +kernel
set_option maxRecDepth 20000 in
theorem ggX0_first_X0_isStep : GoodIn wsX0_first wsX0_isStep := goodIn_r _ [5, 6, 7, 4, 8] (by decide +kernel) (by decide +kernel)
set_option maxRecDepth 20000 in
theorem gX0_first_X0_isStep : GoodIn wsX0_first (va_wsS RX0 46 yX0_isStep wsX0_isStep) := goodIn_app (goodIn_of _ (by decide +kernel)) ggX0_first_X0_isStep
set_option maxRecDepth 20000 in
theorem ggX0_first_X0_packed : GoodIn wsX0_first wsX0_packed := goodIn_r _ [11] (by decide +kernel) (by decide +kernel)
set_option maxRecDepth 20000 in
theorem gX0_first_X0_packed : GoodIn wsX0_first (va_wsS RX0 29 yX0_packed wsX0_packed) := goodIn_app (goodIn_of _ (by decide +kernel)) ggX0_first_X0_packed
theorem dX0_first_0 : decode cX0_first 0 = .ok (.iload_n 1, 1) := by decide +kernel
theorem dX0_first_1 : decode cX0_first 1 = .ok (.iload_n 2, 1) := by decide +kernel
theorem dX0_first_2 : decode cX0_first 2 = .ok (.iload_n 3, 1) := by decide +kernel
theorem dX0_first_3 : decode cX0_first 3 = .ok (.invokestatic 46, 3) := by decide +kernel
theorem dX0_first_6 : decode cX0_first 6 = .ok (.ifCond .ne 5, 3) := by decide +kernel
theorem dX0_first_9 : decode cX0_first 9 = .ok (.iconst 0, 1) := by decide +kernel
theorem dX0_first_10 : decode cX0_first 10 = .ok (.ireturn, 1) := by decide +kernel
theorem dX0_first_11 : decode cX0_first 11 = .ok (.aload_n 0, 1) := by decide +kernel
theorem dX0_first_12 : decode cX0_first 12 = .ok (.iload_n 1, 1) := by decide +kernel
theorem dX0_first_13 : decode cX0_first 13 = .ok (.iload_n 2, 1) := by decide +kernel
theorem dX0_first_14 : decode cX0_first 14 = .ok (.iload_n 3, 1) := by decide +kernel
theorem dX0_first_15 : decode cX0_first 15 = .ok (.invokestatic 29, 3) := by decide +kernel
theorem dX0_first_18 : decode cX0_first 18 = .ok (.putfield 33, 3) := by decide +kernel
theorem dX0_first_21 : decode cX0_first 21 = .ok (.iconst 1, 1) := by decide +kernel
theorem dX0_first_22 : decode cX0_first 22 = .ok (.ireturn, 1) := by decide +kernel
set_option maxRecDepth 20000 in
theorem ggX0_last_X0_isStep : GoodIn wsX0_last wsX0_isStep := goodIn_r _ [5, 6, 7, 4, 8] (by decide +kernel) (by decide +kernel)
set_option maxRecDepth 20000 in
theorem gX0_last_X0_isStep : GoodIn wsX0_last (va_wsS RX0 46 yX0_isStep wsX0_isStep) := goodIn_app (goodIn_of _ (by decide +kernel)) ggX0_last_X0_isStep
set_option maxRecDepth 20000 in
theorem ggX0_last_X0_packed : GoodIn wsX0_last wsX0_packed := goodIn_r _ [11] (by decide +kernel) (by decide +kernel)
set_option maxRecDepth 20000 in
theorem gX0_last_X0_packed : GoodIn wsX0_last (va_wsS RX0 29 yX0_packed wsX0_packed) := goodIn_app (goodIn_of _ (by decide +kernel)) ggX0_last_X0_packed
theorem dX0_last_0 : decode cX0_last 0 = .ok (.iload_n 1, 1) := by decide +kernel
theorem dX0_last_1 : decode cX0_last 1 = .ok (.iload_n 2, 1) := by decide +kernel
theorem dX0_last_2 : decode cX0_last 2 = .ok (.iload_n 3, 1) := by decide +kernel
theorem dX0_last_3 : decode cX0_last 3 = .ok (.invokestatic 46, 3) := by decide +kernel
theorem dX0_last_6 : decode cX0_last 6 = .ok (.ifCond .ne 5, 3) := by decide +kernel
theorem dX0_last_9 : decode cX0_last 9 = .ok (.iconst 0, 1) := by decide +kernel
theorem dX0_last_10 : decode cX0_last 10 = .ok (.ireturn, 1) := by decide +kernel
theorem dX0_last_11 : decode cX0_last 11 = .ok (.aload_n 0, 1) := by decide +kernel
theorem dX0_last_12 : decode cX0_last 12 = .ok (.iload_n 1, 1) := by decide +kernel
theorem dX0_last_13 : decode cX0_last 13 = .ok (.iload_n 2, 1) := by decide +kernel
theorem dX0_last_14 : decode cX0_last 14 = .ok (.iload_n 3, 1) := by decide +kernel
theorem dX0_last_15 : decode cX0_last 15 = .ok (.invokestatic 29, 3) := by decide +kernel
theorem dX0_last_18 : decode cX0_last 18 = .ok (.putfield 36, 3) := by decide +kernel
theorem dX0_last_21 : decode cX0_last 21 = .ok (.iconst 1, 1) := by decide +kernel
theorem dX0_last_22 : decode cX0_last 22 = .ok (.ireturn, 1) := by decide +kernel
set_option maxRecDepth 20000 in
theorem ggX0_move_X0_isWithin : GoodIn wsX0_move wsX0_isWithin := goodIn_r _ [13] (by decide +kernel) (by decide +kernel)
set_option maxRecDepth 20000 in
theorem gX0_move_X0_isWithin : GoodIn wsX0_move (va_wsS RX0 51 yX0_isWithin wsX0_isWithin) := goodIn_app (goodIn_of _ (by decide +kernel)) ggX0_move_X0_isWithin
set_option maxRecDepth 20000 in
theorem ggX0_move_X0_turnLimit : GoodIn wsX0_move wsX0_turnLimit := goodIn_r _ [17, 6, 18, 19, 20, 21, 22, 5, 23, 24, 25, 26, 27, 12, 28, 29, 30, 31, 32, 33, 34, 35, 36, 37, 38, 39, 40, 41] (by decide +kernel) (by decide +kernel)
set_option maxRecDepth 20000 in
theorem gX0_move_X0_turnLimit : GoodIn wsX0_move (wsV RX0 55 RX0 yX0_turnLimit wsX0_turnLimit) := goodIn_app (goodIn_of _ (by decide +kernel)) ggX0_move_X0_turnLimit
theorem dX0_move_0 : decode cX0_move 0 = .ok (.iload_n 1, 1) := by decide +kernel
theorem dX0_move_1 : decode cX0_move 1 = .ok (.iconst 1, 1) := by decide +kernel
theorem dX0_move_2 : decode cX0_move 2 = .ok (.ldc 50, 2) := by decide +kernel
theorem dX0_move_4 : decode cX0_move 4 = .ok (.invokestatic 51, 3) := by decide +kernel
theorem dX0_move_7 : decode cX0_move 7 = .ok (.ifCond .eq 23, 3) := by decide +kernel
theorem dX0_move_10 : decode cX0_move 10 = .ok (.iload_n 2, 1) := by decide +kernel
theorem dX0_move_11 : decode cX0_move 11 = .ok (.iconst 1, 1) := by decide +kernel
theorem dX0_move_12 : decode cX0_move 12 = .ok (.ldc 54, 2) := by decide +kernel
theorem dX0_move_14 : decode cX0_move 14 = .ok (.invokestatic 51, 3) := by decide +kernel
theorem dX0_move_17 : decode cX0_move 17 = .ok (.ifCond .eq 13, 3) := by decide +kernel
theorem dX0_move_20 : decode cX0_move 20 = .ok (.aload_n 0, 1) := by decide +kernel
theorem dX0_move_21 : decode cX0_move 21 = .ok (.getfield 25, 3) := by decide +kernel
theorem dX0_move_24 : decode cX0_move 24 = .ok (.sipush 2000, 3) := by decide +kernel
theorem dX0_move_27 : decode cX0_move 27 = .ok (.if_icmp .lt 5, 3) := by decide +kernel
theorem dX0_move_30 : decode cX0_move 30 = .ok (.iconst (-1), 1) := by decide +kernel
theorem dX0_move_31 : decode cX0_move 31 = .ok (.ireturn, 1) := by decide +kernel
theorem dX0_move_32 : decode cX0_move 32 = .ok (.aload_n 0, 1) := by decide +kernel
theorem dX0_move_33 : decode cX0_move 33 = .ok (.getfield 9, 3) := by decide +kernel
theorem dX0_move_36 : decode cX0_move 36 = .ok (.aload_n 0, 1) := by decide +kernel
theorem dX0_move_37 : decode cX0_move 37 = .ok (.getfield 25, 3) := by decide +kernel
theorem dX0_move_40 : decode cX0_move 40 = .ok (.iload_n 1, 1) := by decide +kernel
theorem dX0_move_41 : decode cX0_move 41 = .ok (.iastore, 1) := by decide +kernel
theorem dX0_move_42 : decode cX0_move 42 = .ok (.aload_n 0, 1) := by decide +kernel
theorem dX0_move_43 : decode cX0_move 43 = .ok (.getfield 13, 3) := by decide +kernel
theorem dX0_move_46 : decode cX0_move 46 = .ok (.aload_n 0, 1) := by decide +kernel
theorem dX0_move_47 : decode cX0_move 47 = .ok (.getfield 25, 3) := by decide +kernel
theorem dX0_move_50 : decode cX0_move 50 = .ok (.iload_n 2, 1) := by decide +kernel
theorem dX0_move_51 : decode cX0_move 51 = .ok (.iastore, 1) := by decide +kernel
theorem dX0_move_52 : decode cX0_move 52 = .ok (.aload_n 0, 1) := by decide +kernel
theorem dX0_move_53 : decode cX0_move 53 = .ok (.getfield 16, 3) := by decide +kernel
theorem dX0_move_56 : decode cX0_move 56 = .ok (.aload_n 0, 1) := by decide +kernel
theorem dX0_move_57 : decode cX0_move 57 = .ok (.getfield 25, 3) := by decide +kernel
theorem dX0_move_60 : decode cX0_move 60 = .ok (.aload_n 0, 1) := by decide +kernel
theorem dX0_move_61 : decode cX0_move 61 = .ok (.getfield 36, 3) := by decide +kernel
theorem dX0_move_64 : decode cX0_move 64 = .ok (.iastore, 1) := by decide +kernel
theorem dX0_move_65 : decode cX0_move 65 = .ok (.aload_n 0, 1) := by decide +kernel
theorem dX0_move_66 : decode cX0_move 66 = .ok (.getfield 19, 3) := by decide +kernel
theorem dX0_move_69 : decode cX0_move 69 = .ok (.aload_n 0, 1) := by decide +kernel
theorem dX0_move_70 : decode cX0_move 70 = .ok (.getfield 25, 3) := by decide +kernel
theorem dX0_move_73 : decode cX0_move 73 = .ok (.aload_n 0, 1) := by decide +kernel
theorem dX0_move_74 : decode cX0_move 74 = .ok (.getfield 25, 3) := by decide +kernel
theorem dX0_move_77 : decode cX0_move 77 = .ok (.ifCond .ne 7, 3) := by decide +kernel
theorem dX0_move_80 : decode cX0_move 80 = .ok (.iconst 0, 1) := by decide +kernel
theorem dX0_move_81 : decode cX0_move 81 = .ok (.goto 14, 3) := by decide +kernel
theorem dX0_move_84 : decode cX0_move 84 = .ok (.aload_n 0, 1) := by decide +kernel
theorem dX0_move_85 : decode cX0_move 85 = .ok (.aload_n 0, 1) := by decide +kernel
theorem dX0_move_86 : decode cX0_move 86 = .ok (.getfield 25, 3) := by decide +kernel
theorem dX0_move_89 : decode cX0_move 89 = .ok (.iconst 1, 1) := by decide +kernel
theorem dX0_move_90 : decode cX0_move 90 = .ok (.isub, 1) := by decide +kernel
theorem dX0_move_91 : decode cX0_move 91 = .ok (.iload_n 2, 1) := by decide +kernel
theorem dX0_move_92 : decode cX0_move 92 = .ok (.invokevirtual 55, 3) := by decide +kernel
theorem dX0_move_95 : decode cX0_move 95 = .ok (.iastore, 1) := by decide +kernel
theorem dX0_move_96 : decode cX0_move 96 = .ok (.aload_n 0, 1) := by decide +kernel
theorem dX0_move_97 : decode cX0_move 97 = .ok (.dup, 1) := by decide +kernel
theorem dX0_move_98 : decode cX0_move 98 = .ok (.getfield 25, 3) := by decide +kernel
theorem dX0_move_101 : decode cX0_move 101 = .ok (.iconst 1, 1) := by decide +kernel
theorem dX0_move_102 : decode cX0_move 102 = .ok (.iadd, 1) := by decide +kernel
theorem dX0_move_103 : decode cX0_move 103 = .ok (.putfield 25, 3) := by decide +kernel
theorem dX0_move_106 : decode cX0_move 106 = .ok (.aload_n 0, 1) := by decide +kernel
theorem dX0_move_107 : decode cX0_move 107 = .ok (.iconst 0, 1) := by decide +kernel
theorem dX0_move_108 : decode cX0_move 108 = .ok (.putfield 42, 3) := by decide +kernel
theorem dX0_move_111 : decode cX0_move 111 = .ok (.aload_n 0, 1) := by decide +kernel
theorem dX0_move_112 : decode cX0_move 112 = .ok (.getfield 25, 3) := by decide +kernel
theorem dX0_move_115 : decode cX0_move 115 = .ok (.ireturn, 1) := by decide +kernel
set_option maxRecDepth 20000 in
theorem ggX0_back_X0_isWithin : GoodIn wsX0_back wsX0_isWithin := goodIn_r _ [6] (by decide +kernel) (by decide +kernel)
set_option maxRecDepth 20000 in
theorem gX0_back_X0_isWithin : GoodIn wsX0_back (va_wsS RX0 51 yX0_isWithin wsX0_isWithin) := goodIn_app (goodIn_of _ (by decide +kernel)) ggX0_back_X0_isWithin
theorem dX0_back_0 : decode cX0_back 0 = .ok (.iload_n 1, 1) := by decide +kernel
theorem dX0_back_1 : decode cX0_back 1 = .ok (.iconst 0, 1) := by decide +kernel
theorem dX0_back_2 : decode cX0_back 2 = .ok (.aload_n 0, 1) := by decide +kernel
theorem dX0_back_3 : decode cX0_back 3 = .ok (.getfield 25, 3) := by decide +kernel
theorem dX0_back_6 : decode cX0_back 6 = .ok (.invokestatic 51, 3) := by decide +kernel
theorem dX0_back_9 : decode cX0_back 9 = .ok (.ifCond .ne 5, 3) := by decide +kernel
theorem dX0_back_12 : decode cX0_back 12 = .ok (.iconst (-1), 1) := by decide +kernel
theorem dX0_back_13 : decode cX0_back 13 = .ok (.ireturn, 1) := by decide +kernel
theorem dX0_back_14 : decode cX0_back 14 = .ok (.aload_n 0, 1) := by decide +kernel
theorem dX0_back_15 : decode cX0_back 15 = .ok (.dup, 1) := by decide +kernel
theorem dX0_back_16 : decode cX0_back 16 = .ok (.getfield 25, 3) := by decide +kernel
theorem dX0_back_19 : decode cX0_back 19 = .ok (.iload_n 1, 1) := by decide +kernel
theorem dX0_back_20 : decode cX0_back 20 = .ok (.isub, 1) := by decide +kernel
theorem dX0_back_21 : decode cX0_back 21 = .ok (.putfield 25, 3) := by decide +kernel
theorem dX0_back_24 : decode cX0_back 24 = .ok (.aload_n 0, 1) := by decide +kernel
theorem dX0_back_25 : decode cX0_back 25 = .ok (.iconst 0, 1) := by decide +kernel
theorem dX0_back_26 : decode cX0_back 26 = .ok (.putfield 42, 3) := by decide +kernel
theorem dX0_back_29 : decode cX0_back 29 = .ok (.aload_n 0, 1) := by decide +kernel
theorem dX0_back_30 : decode cX0_back 30 = .ok (.getfield 25, 3) := by decide +kernel
theorem dX0_back_33 : decode cX0_back 33 = .ok (.ireturn, 1) := by decide +kernel
set_option maxRecDepth 20000 in
theorem ggX0_acceleration_X0_isWithin : GoodIn wsX0_acceleration wsX0_isWithin := goodIn_r _ [6] (by decide +kernel) (by decide +kernel)
set_option maxRecDepth 20000 in
theorem gX0_acceleration_X0_isWithin : GoodIn wsX0_acceleration (va_wsS RX0 51 yX0_isWithin wsX0_isWithin) := goodIn_app (goodIn_of _ (by decide +kernel)) ggX0_acceleration_X0_isWithin
theorem dX0_acceleration_0 : decode cX0_acceleration 0 = .ok (.iload_n 1, 1) := by decide +kernel
theorem dX0_acceleration_1 : decode cX0_acceleration 1 = .ok (.iconst 1, 1) := by decide +kernel
theorem dX0_acceleration_2 : decode cX0_acceleration 2 = .ok (.sipush 10000, 3) := by decide +kernel
theorem dX0_acceleration_5 : decode cX0_acceleration 5 = .ok (.invokestatic 51, 3) := by decide +kernel
theorem dX0_acceleration_8 : decode cX0_acceleration 8 = .ok (.ifCond .ne 5, 3) := by decide +kernel
theorem dX0_acceleration_11 : decode cX0_acceleration 11 = .ok (.iconst 0, 1) := by decide +kernel
theorem dX0_acceleration_12 : decode cX0_acceleration 12 = .ok (.ireturn, 1) := by decide +kernel
theorem dX0_acceleration_13 : decode cX0_acceleration 13 = .ok (.aload_n 0, 1) := by decide +kernel
theorem dX0_acceleration_14 : decode cX0_acceleration 14 = .ok (.iload_n 1, 1) := by decide +kernel
theorem dX0_acceleration_15 : decode cX0_acceleration 15 = .ok (.putfield 39, 3) := by decide +kernel
theorem dX0_acceleration_18 : decode cX0_acceleration 18 = .ok (.aload_n 0, 1) := by decide +kernel
theorem dX0_acceleration_19 : decode cX0_acceleration 19 = .ok (.iconst 0, 1) := by decide +kernel
theorem dX0_acceleration_20 : decode cX0_acceleration 20 = .ok (.putfield 42, 3) := by decide +kernel
theorem dX0_acceleration_23 : decode cX0_acceleration 23 = .ok (.iconst 1, 1) := by decide +kernel
theorem dX0_acceleration_24 : decode cX0_acceleration 24 = .ok (.ireturn, 1) := by decide +kernel
set_option maxRecDepth 20000 in
theorem ggX0_limit_X0_isWithin : GoodIn wsX0_limit wsX0_isWithin := goodIn_r _ [5] (by decide +kernel) (by decide +kernel)
set_option maxRecDepth 20000 in
theorem gX0_limit_X0_isWithin : GoodIn wsX0_limit (va_wsS RX0 51 yX0_isWithin wsX0_isWithin) := goodIn_app (goodIn_of _ (by decide +kernel)) ggX0_limit_X0_isWithin
set_option maxRecDepth 20000 in
theorem ggX0_limit_X0_limitAt : GoodIn wsX0_limit wsX0_limitAt := goodIn_r _ [9, 1, 10, 11, 12, 13, 14, 15, 16, 17, 18, 19, 20] (by decide +kernel) (by decide +kernel)
set_option maxRecDepth 20000 in
theorem gX0_limit_X0_limitAt : GoodIn wsX0_limit (wsV RX0 59 RX0 yX0_limitAt wsX0_limitAt) := goodIn_app (goodIn_of _ (by decide +kernel)) ggX0_limit_X0_limitAt
theorem dX0_limit_0 : decode cX0_limit 0 = .ok (.iload_n 1, 1) := by decide +kernel
theorem dX0_limit_1 : decode cX0_limit 1 = .ok (.iconst 0, 1) := by decide +kernel
theorem dX0_limit_2 : decode cX0_limit 2 = .ok (.aload_n 0, 1) := by decide +kernel
theorem dX0_limit_3 : decode cX0_limit 3 = .ok (.getfield 25, 3) := by decide +kernel
theorem dX0_limit_6 : decode cX0_limit 6 = .ok (.invokestatic 51, 3) := by decide +kernel
theorem dX0_limit_9 : decode cX0_limit 9 = .ok (.ifCond .eq 11, 3) := by decide +kernel
theorem dX0_limit_12 : decode cX0_limit 12 = .ok (.aload_n 0, 1) := by decide +kernel
theorem dX0_limit_13 : decode cX0_limit 13 = .ok (.iload_n 1, 1) := by decide +kernel
theorem dX0_limit_14 : decode cX0_limit 14 = .ok (.invokevirtual 59, 3) := by decide +kernel
theorem dX0_limit_17 : decode cX0_limit 17 = .ok (.goto 4, 3) := by decide +kernel
theorem dX0_limit_20 : decode cX0_limit 20 = .ok (.iconst (-1), 1) := by decide +kernel
theorem dX0_limit_21 : decode cX0_limit 21 = .ok (.ireturn, 1) := by decide +kernel
set_option maxRecDepth 20000 in
theorem ggX0_speed_X0_isWithin : GoodIn wsX0_speed wsX0_isWithin := goodIn_r _ [6] (by decide +kernel) (by decide +kernel)
set_option maxRecDepth 20000 in
theorem gX0_speed_X0_isWithin : GoodIn wsX0_speed (va_wsS RX0 51 yX0_isWithin wsX0_isWithin) := goodIn_app (goodIn_of _ (by decide +kernel)) ggX0_speed_X0_isWithin
set_option maxRecDepth 20000 in
theorem ggX0_speed_X0_reckonSpeeds : GoodIn wsX0_speed wsX0_reckonSpeeds := goodIn_r _ [10, 11, 2, 1, 12, 13, 14, 15, 5, 16, 17, 18, 19, 20, 21, 22, 23, 24, 25, 26, 27, 28, 29, 30, 31, 32, 33] (by decide +kernel) (by decide +kernel)
set_option maxRecDepth 20000 in
theorem gX0_speed_X0_reckonSpeeds : GoodIn wsX0_speed (wsV RX0 63 RX0 yX0_reckonSpeeds wsX0_reckonSpeeds) := goodIn_app (goodIn_of _ (by decide +kernel)) ggX0_speed_X0_reckonSpeeds
theorem dX0_speed_0 : decode cX0_speed 0 = .ok (.iload_n 1, 1) := by decide +kernel
theorem dX0_speed_1 : decode cX0_speed 1 = .ok (.iconst 0, 1) := by decide +kernel
theorem dX0_speed_2 : decode cX0_speed 2 = .ok (.aload_n 0, 1) := by decide +kernel
theorem dX0_speed_3 : decode cX0_speed 3 = .ok (.getfield 25, 3) := by decide +kernel
theorem dX0_speed_6 : decode cX0_speed 6 = .ok (.invokestatic 51, 3) := by decide +kernel
theorem dX0_speed_9 : decode cX0_speed 9 = .ok (.ifCond .ne 5, 3) := by decide +kernel
theorem dX0_speed_12 : decode cX0_speed 12 = .ok (.iconst (-1), 1) := by decide +kernel
theorem dX0_speed_13 : decode cX0_speed 13 = .ok (.ireturn, 1) := by decide +kernel
theorem dX0_speed_14 : decode cX0_speed 14 = .ok (.aload_n 0, 1) := by decide +kernel
theorem dX0_speed_15 : decode cX0_speed 15 = .ok (.invokevirtual 63, 3) := by decide +kernel
theorem dX0_speed_18 : decode cX0_speed 18 = .ok (.aload_n 0, 1) := by decide +kernel
theorem dX0_speed_19 : decode cX0_speed 19 = .ok (.getfield 22, 3) := by decide +kernel
theorem dX0_speed_22 : decode cX0_speed 22 = .ok (.iload_n 1, 1) := by decide +kernel
theorem dX0_speed_23 : decode cX0_speed 23 = .ok (.iaload, 1) := by decide +kernel
theorem dX0_speed_24 : decode cX0_speed 24 = .ok (.ireturn, 1) := by decide +kernel
set_option maxRecDepth 20000 in
theorem ggX0_sum_X0_reckonSpeeds : GoodIn wsX0_sum wsX0_reckonSpeeds := goodIn_r _ [7, 8, 2, 1, 9, 10, 11, 12, 6, 13, 14, 15, 16, 17, 18, 19, 20, 21, 22, 23, 24, 25, 26, 27, 28, 29, 30] (by decide +kernel) (by decide +kernel)
set_option maxRecDepth 20000 in
theorem gX0_sum_X0_reckonSpeeds : GoodIn wsX0_sum (wsV RX0 63 RX0 yX0_reckonSpeeds wsX0_reckonSpeeds) := goodIn_app (goodIn_of _ (by decide +kernel)) ggX0_sum_X0_reckonSpeeds
theorem dX0_sum_0 : decode cX0_sum 0 = .ok (.aload_n 0, 1) := by decide +kernel
theorem dX0_sum_1 : decode cX0_sum 1 = .ok (.invokevirtual 63, 3) := by decide +kernel
theorem dX0_sum_4 : decode cX0_sum 4 = .ok (.lconst 0, 1) := by decide +kernel
theorem dX0_sum_5 : decode cX0_sum 5 = .ok (.lstore_n 1, 1) := by decide +kernel
theorem dX0_sum_6 : decode cX0_sum 6 = .ok (.iconst 0, 1) := by decide +kernel
theorem dX0_sum_7 : decode cX0_sum 7 = .ok (.istore_n 3, 1) := by decide +kernel
theorem dX0_sum_8 : decode cX0_sum 8 = .ok (.iload_n 3, 1) := by decide +kernel
theorem dX0_sum_9 : decode cX0_sum 9 = .ok (.aload_n 0, 1) := by decide +kernel
theorem dX0_sum_10 : decode cX0_sum 10 = .ok (.getfield 25, 3) := by decide +kernel
theorem dX0_sum_13 : decode cX0_sum 13 = .ok (.if_icmp .gt 19, 3) := by decide +kernel
theorem dX0_sum_16 : decode cX0_sum 16 = .ok (.lload_n 1, 1) := by decide +kernel
theorem dX0_sum_17 : decode cX0_sum 17 = .ok (.aload_n 0, 1) := by decide +kernel
theorem dX0_sum_18 : decode cX0_sum 18 = .ok (.getfield 22, 3) := by decide +kernel
theorem dX0_sum_21 : decode cX0_sum 21 = .ok (.iload_n 3, 1) := by decide +kernel
theorem dX0_sum_22 : decode cX0_sum 22 = .ok (.iaload, 1) := by decide +kernel
theorem dX0_sum_23 : decode cX0_sum 23 = .ok (.i2l, 1) := by decide +kernel
theorem dX0_sum_24 : decode cX0_sum 24 = .ok (.ladd, 1) := by decide +kernel
theorem dX0_sum_25 : decode cX0_sum 25 = .ok (.lstore_n 1, 1) := by decide +kernel
theorem dX0_sum_26 : decode cX0_sum 26 = .ok (.iinc 3 1, 3) := by decide +kernel
theorem dX0_sum_29 : decode cX0_sum 29 = .ok (.goto (-21), 3) := by decide +kernel
theorem dX0_sum_32 : decode cX0_sum 32 = .ok (.lload_n 1, 1) := by decide +kernel
theorem dX0_sum_33 : decode cX0_sum 33 = .ok (.lreturn, 1) := by decide +kernel
set_option maxRecDepth 20000 in
theorem ggX0_below_X0_reckonSpeeds : GoodIn wsX0_below wsX0_reckonSpeeds := goodIn_r _ [7, 8, 2, 1, 9, 10, 11, 12, 6, 13, 14, 15, 16, 17, 18, 19, 20, 21, 22, 23, 24, 25, 26, 27, 28, 29, 30] (by decide +kernel) (by decide +kernel)
set_option maxRecDepth 20000 in
theorem gX0_below_X0_reckonSpeeds : GoodIn wsX0_below (wsV RX0 63 RX0 yX0_reckonSpeeds wsX0_reckonSpeeds) := goodIn_app (goodIn_of _ (by decide +kernel)) ggX0_below_X0_reckonSpeeds
set_option maxRecDepth 20000 in
theorem ggX0_below_X0_limitAt : GoodIn wsX0_below wsX0_limitAt := goodIn_r _ [13, 1, 14, 21, 22, 23, 24, 25, 26, 27, 28, 29, 30] (by decide +kernel) (by decide +kernel)
set_option maxRecDepth 20000 in
theorem gX0_below_X0_limitAt : GoodIn wsX0_below (wsV RX0 59 RX0 yX0_limitAt wsX0_limitAt) := goodIn_app (goodIn_of _ (by decide +kernel)) ggX0_below_X0_limitAt
theorem dX0_below_0 : decode cX0_below 0 = .ok (.aload_n 0, 1) := by decide +kernel
theorem dX0_below_1 : decode cX0_below 1 = .ok (.invokevirtual 63, 3) := by decide +kernel
theorem dX0_below_4 : decode cX0_below 4 = .ok (.iconst 0, 1) := by decide +kernel
theorem dX0_below_5 : decode cX0_below 5 = .ok (.istore_n 1, 1) := by decide +kernel
theorem dX0_below_6 : decode cX0_below 6 = .ok (.iconst 0, 1) := by decide +kernel
theorem dX0_below_7 : decode cX0_below 7 = .ok (.istore_n 2, 1) := by decide +kernel
theorem dX0_below_8 : decode cX0_below 8 = .ok (.iload_n 2, 1) := by decide +kernel
theorem dX0_below_9 : decode cX0_below 9 = .ok (.aload_n 0, 1) := by decide +kernel
theorem dX0_below_10 : decode cX0_below 10 = .ok (.getfield 25, 3) := by decide +kernel
theorem dX0_below_13 : decode cX0_below 13 = .ok (.if_icmp .gt 26, 3) := by decide +kernel
theorem dX0_below_16 : decode cX0_below 16 = .ok (.aload_n 0, 1) := by decide +kernel
theorem dX0_below_17 : decode cX0_below 17 = .ok (.getfield 22, 3) := by decide +kernel
theorem dX0_below_20 : decode cX0_below 20 = .ok (.iload_n 2, 1) := by decide +kernel
theorem dX0_below_21 : decode cX0_below 21 = .ok (.iaload, 1) := by decide +kernel
theorem dX0_below_22 : decode cX0_below 22 = .ok (.aload_n 0, 1) := by decide +kernel
theorem dX0_below_23 : decode cX0_below 23 = .ok (.iload_n 2, 1) := by decide +kernel
theorem dX0_below_24 : decode cX0_below 24 = .ok (.invokevirtual 59, 3) := by decide +kernel
theorem dX0_below_27 : decode cX0_below 27 = .ok (.if_icmp .ge 6, 3) := by decide +kernel
theorem dX0_below_30 : decode cX0_below 30 = .ok (.iinc 1 1, 3) := by decide +kernel
theorem dX0_below_33 : decode cX0_below 33 = .ok (.iinc 2 1, 3) := by decide +kernel
theorem dX0_below_36 : decode cX0_below 36 = .ok (.goto (-28), 3) := by decide +kernel
theorem dX0_below_39 : decode cX0_below 39 = .ok (.iload_n 1, 1) := by decide +kernel
theorem dX0_below_40 : decode cX0_below 40 = .ok (.ireturn, 1) := by decide +kernel
theorem dX0_isWithin_0 : decode cX0_isWithin 0 = .ok (.iload_n 1, 1) := by decide +kernel
theorem dX0_isWithin_1 : decode cX0_isWithin 1 = .ok (.iload_n 0, 1) := by decide +kernel
theorem dX0_isWithin_2 : decode cX0_isWithin 2 = .ok (.if_icmp .gt 12, 3) := by decide +kernel
theorem dX0_isWithin_5 : decode cX0_isWithin 5 = .ok (.iload_n 0, 1) := by decide +kernel
theorem dX0_isWithin_6 : decode cX0_isWithin 6 = .ok (.iload_n 2, 1) := by decide +kernel
theorem dX0_isWithin_7 : decode cX0_isWithin 7 = .ok (.if_icmp .gt 7, 3) := by decide +kernel
theorem dX0_isWithin_10 : decode cX0_isWithin 10 = .ok (.iconst 1, 1) := by decide +kernel
theorem dX0_isWithin_11 : decode cX0_isWithin 11 = .ok (.goto 4, 3) := by decide +kernel
theorem dX0_isWithin_14 : decode cX0_isWithin 14 = .ok (.iconst 0, 1) := by decide +kernel
theorem dX0_isWithin_15 : decode cX0_isWithin 15 = .ok (.ireturn, 1) := by decide +kernel
set_option maxRecDepth 20000 in
theorem ggX0_isStep_X0_isWithin : GoodIn wsX0_isStep wsX0_isWithin := goodIn_r _ [4] (by decide +kernel) (by decide +kernel)
set_option maxRecDepth 20000 in
theorem gX0_isStep_X0_isWithin : GoodIn wsX0_isStep (va_wsS RX0 51 yX0_isWithin wsX0_isWithin) := goodIn_app (goodIn_of _ (by decide +kernel)) ggX0_isStep_X0_isWithin
theorem dX0_isStep_0 : decode cX0_isStep 0 = .ok (.iload_n 0, 1) := by decide +kernel
theorem dX0_isStep_1 : decode cX0_isStep 1 = .ok (.iconst (-1), 1) := by decide +kernel
theorem dX0_isStep_2 : decode cX0_isStep 2 = .ok (.iconst 1, 1) := by decide +kernel
theorem dX0_isStep_3 : decode cX0_isStep 3 = .ok (.invokestatic 51, 3) := by decide +kernel
theorem dX0_isStep_6 : decode cX0_isStep 6 = .ok (.ifCond .eq 37, 3) := by decide +kernel
theorem dX0_isStep_9 : decode cX0_isStep 9 = .ok (.iload_n 1, 1) := by decide +kernel
theorem dX0_isStep_10 : decode cX0_isStep 10 = .ok (.iconst (-1), 1) := by decide +kernel
theorem dX0_isStep_11 : decode cX0_isStep 11 = .ok (.iconst 1, 1) := by decide +kernel
theorem dX0_isStep_12 : decode cX0_isStep 12 = .ok (.invokestatic 51, 3) := by decide +kernel
theorem dX0_isStep_15 : decode cX0_isStep 15 = .ok (.ifCond .eq 28, 3) := by decide +kernel
theorem dX0_isStep_18 : decode cX0_isStep 18 = .ok (.iload_n 2, 1) := by decide +kernel
theorem dX0_isStep_19 : decode cX0_isStep 19 = .ok (.iconst (-1), 1) := by decide +kernel
theorem dX0_isStep_20 : decode cX0_isStep 20 = .ok (.iconst 1, 1) := by decide +kernel
theorem dX0_isStep_21 : decode cX0_isStep 21 = .ok (.invokestatic 51, 3) := by decide +kernel
theorem dX0_isStep_24 : decode cX0_isStep 24 = .ok (.ifCond .eq 19, 3) := by decide +kernel
theorem dX0_isStep_27 : decode cX0_isStep 27 = .ok (.iload_n 0, 1) := by decide +kernel
theorem dX0_isStep_28 : decode cX0_isStep 28 = .ok (.ifCond .ne 11, 3) := by decide +kernel
theorem dX0_isStep_31 : decode cX0_isStep 31 = .ok (.iload_n 1, 1) := by decide +kernel
theorem dX0_isStep_32 : decode cX0_isStep 32 = .ok (.ifCond .ne 7, 3) := by decide +kernel
theorem dX0_isStep_35 : decode cX0_isStep 35 = .ok (.iload_n 2, 1) := by decide +kernel
theorem dX0_isStep_36 : decode cX0_isStep 36 = .ok (.ifCond .eq 7, 3) := by decide +kernel
theorem dX0_isStep_39 : decode cX0_isStep 39 = .ok (.iconst 1, 1) := by decide +kernel
theorem dX0_isStep_40 : decode cX0_isStep 40 = .ok (.goto 4, 3) := by decide +kernel
theorem dX0_isStep_43 : decode cX0_isStep 43 = .ok (.iconst 0, 1) := by decide +kernel
theorem dX0_isStep_44 : decode cX0_isStep 44 = .ok (.ireturn, 1) := by decide +kernel
theorem dX0_packed_0 : decode cX0_packed 0 = .ok (.iload_n 0, 1) := by decide +kernel
theorem dX0_packed_1 : decode cX0_packed 1 = .ok (.iconst 1, 1) := by decide +kernel
theorem dX0_packed_2 : decode cX0_packed 2 = .ok (.iadd, 1) := by decide +kernel
theorem dX0_packed_3 : decode cX0_packed 3 = .ok (.bipush 9, 2) := by decide +kernel
theorem dX0_packed_5 : decode cX0_packed 5 = .ok (.imul, 1) := by decide +kernel
theorem dX0_packed_6 : decode cX0_packed 6 = .ok (.iload_n 1, 1) := by decide +kernel
theorem dX0_packed_7 : decode cX0_packed 7 = .ok (.iconst 1, 1) := by decide +kernel
theorem dX0_packed_8 : decode cX0_packed 8 = .ok (.iadd, 1) := by decide +kernel
theorem dX0_packed_9 : decode cX0_packed 9 = .ok (.iconst 3, 1) := by decide +kernel
theorem dX0_packed_10 : decode cX0_packed 10 = .ok (.imul, 1) := by decide +kernel
theorem dX0_packed_11 : decode cX0_packed 11 = .ok (.iadd, 1) := by decide +kernel
theorem dX0_packed_12 : decode cX0_packed 12 = .ok (.iload_n 2, 1) := by decide +kernel
theorem dX0_packed_13 : decode cX0_packed 13 = .ok (.iconst 1, 1) := by decide +kernel
theorem dX0_packed_14 : decode cX0_packed 14 = .ok (.iadd, 1) := by decide +kernel
theorem dX0_packed_15 : decode cX0_packed 15 = .ok (.iadd, 1) := by decide +kernel
theorem dX0_packed_16 : decode cX0_packed 16 = .ok (.ireturn, 1) := by decide +kernel
theorem dX0_sumOfProducts_0 : decode cX0_sumOfProducts 0 = .ok (.iload_n 0, 1) := by decide +kernel
theorem dX0_sumOfProducts_1 : decode cX0_sumOfProducts 1 = .ok (.bipush 9, 2) := by decide +kernel
theorem dX0_sumOfProducts_3 : decode cX0_sumOfProducts 3 = .ok (.idiv, 1) := by decide +kernel
theorem dX0_sumOfProducts_4 : decode cX0_sumOfProducts 4 = .ok (.iconst 1, 1) := by decide +kernel
theorem dX0_sumOfProducts_5 : decode cX0_sumOfProducts 5 = .ok (.isub, 1) := by decide +kernel
theorem dX0_sumOfProducts_6 : decode cX0_sumOfProducts 6 = .ok (.iload_n 1, 1) := by decide +kernel
theorem dX0_sumOfProducts_7 : decode cX0_sumOfProducts 7 = .ok (.bipush 9, 2) := by decide +kernel
theorem dX0_sumOfProducts_9 : decode cX0_sumOfProducts 9 = .ok (.idiv, 1) := by decide +kernel
theorem dX0_sumOfProducts_10 : decode cX0_sumOfProducts 10 = .ok (.iconst 1, 1) := by decide +kernel
theorem dX0_sumOfProducts_11 : decode cX0_sumOfProducts 11 = .ok (.isub, 1) := by decide +kernel
theorem dX0_sumOfProducts_12 : decode cX0_sumOfProducts 12 = .ok (.imul, 1) := by decide +kernel
theorem dX0_sumOfProducts_13 : decode cX0_sumOfProducts 13 = .ok (.istore_n 2, 1) := by decide +kernel
theorem dX0_sumOfProducts_14 : decode cX0_sumOfProducts 14 = .ok (.iload_n 0, 1) := by decide +kernel
theorem dX0_sumOfProducts_15 : decode cX0_sumOfProducts 15 = .ok (.iconst 3, 1) := by decide +kernel
theorem dX0_sumOfProducts_16 : decode cX0_sumOfProducts 16 = .ok (.idiv, 1) := by decide +kernel
theorem dX0_sumOfProducts_17 : decode cX0_sumOfProducts 17 = .ok (.iconst 3, 1) := by decide +kernel
theorem dX0_sumOfProducts_18 : decode cX0_sumOfProducts 18 = .ok (.irem, 1) := by decide +kernel
theorem dX0_sumOfProducts_19 : decode cX0_sumOfProducts 19 = .ok (.iconst 1, 1) := by decide +kernel
theorem dX0_sumOfProducts_20 : decode cX0_sumOfProducts 20 = .ok (.isub, 1) := by decide +kernel
theorem dX0_sumOfProducts_21 : decode cX0_sumOfProducts 21 = .ok (.iload_n 1, 1) := by decide +kernel
theorem dX0_sumOfProducts_22 : decode cX0_sumOfProducts 22 = .ok (.iconst 3, 1) := by decide +kernel
theorem dX0_sumOfProducts_23 : decode cX0_sumOfProducts 23 = .ok (.idiv, 1) := by decide +kernel
theorem dX0_sumOfProducts_24 : decode cX0_sumOfProducts 24 = .ok (.iconst 3, 1) := by decide +kernel
theorem dX0_sumOfProducts_25 : decode cX0_sumOfProducts 25 = .ok (.irem, 1) := by decide +kernel
theorem dX0_sumOfProducts_26 : decode cX0_sumOfProducts 26 = .ok (.iconst 1, 1) := by decide +kernel
theorem dX0_sumOfProducts_27 : decode cX0_sumOfProducts 27 = .ok (.isub, 1) := by decide +kernel
theorem dX0_sumOfProducts_28 : decode cX0_sumOfProducts 28 = .ok (.imul, 1) := by decide +kernel
theorem dX0_sumOfProducts_29 : decode cX0_sumOfProducts 29 = .ok (.istore_n 3, 1) := by decide +kernel
theorem dX0_sumOfProducts_30 : decode cX0_sumOfProducts 30 = .ok (.iload_n 0, 1) := by decide +kernel
theorem dX0_sumOfProducts_31 : decode cX0_sumOfProducts 31 = .ok (.iconst 3, 1) := by decide +kernel
theorem dX0_sumOfProducts_32 : decode cX0_sumOfProducts 32 = .ok (.irem, 1) := by decide +kernel
theorem dX0_sumOfProducts_33 : decode cX0_sumOfProducts 33 = .ok (.iconst 1, 1) := by decide +kernel
theorem dX0_sumOfProducts_34 : decode cX0_sumOfProducts 34 = .ok (.isub, 1) := by decide +kernel
theorem dX0_sumOfProducts_35 : decode cX0_sumOfProducts 35 = .ok (.iload_n 1, 1) := by decide +kernel
theorem dX0_sumOfProducts_36 : decode cX0_sumOfProducts 36 = .ok (.iconst 3, 1) := by decide +kernel
theorem dX0_sumOfProducts_37 : decode cX0_sumOfProducts 37 = .ok (.irem, 1) := by decide +kernel
theorem dX0_sumOfProducts_38 : decode cX0_sumOfProducts 38 = .ok (.iconst 1, 1) := by decide +kernel
theorem dX0_sumOfProducts_39 : decode cX0_sumOfProducts 39 = .ok (.isub, 1) := by decide +kernel
theorem dX0_sumOfProducts_40 : decode cX0_sumOfProducts 40 = .ok (.imul, 1) := by decide +kernel
theorem dX0_sumOfProducts_41 : decode cX0_sumOfProducts 41 = .ok (.istore 4, 2) := by decide +kernel
theorem dX0_sumOfProducts_43 : decode cX0_sumOfProducts 43 = .ok (.iload_n 2, 1) := by decide +kernel
theorem dX0_sumOfProducts_44 : decode cX0_sumOfProducts 44 = .ok (.iload_n 3, 1) := by decide +kernel
theorem dX0_sumOfProducts_45 : decode cX0_sumOfProducts 45 = .ok (.iadd, 1) := by decide +kernel
theorem dX0_sumOfProducts_46 : decode cX0_sumOfProducts 46 = .ok (.iload 4, 2) := by decide +kernel
theorem dX0_sumOfProducts_48 : decode cX0_sumOfProducts 48 = .ok (.iadd, 1) := by decide +kernel
theorem dX0_sumOfProducts_49 : decode cX0_sumOfProducts 49 = .ok (.ireturn, 1) := by decide +kernel
set_option maxRecDepth 20000 in
theorem ggX0_sumOfSquares_X0_sumOfProducts : GoodIn wsX0_sumOfSquares wsX0_sumOfProducts := goodIn_r _ [4] (by decide +kernel) (by decide +kernel)
set_option maxRecDepth 20000 in
theorem gX0_sumOfSquares_X0_sumOfProducts : GoodIn wsX0_sumOfSquares (va_wsS RX0 66 yX0_sumOfProducts wsX0_sumOfProducts) := goodIn_app (goodIn_of _ (by decide +kernel)) ggX0_sumOfSquares_X0_sumOfProducts
theorem dX0_sumOfSquares_0 : decode cX0_sumOfSquares 0 = .ok (.iload_n 0, 1) := by decide +kernel
theorem dX0_sumOfSquares_1 : decode cX0_sumOfSquares 1 = .ok (.iload_n 0, 1) := by decide +kernel
theorem dX0_sumOfSquares_2 : decode cX0_sumOfSquares 2 = .ok (.invokestatic 66, 3) := by decide +kernel
theorem dX0_sumOfSquares_5 : decode cX0_sumOfSquares 5 = .ok (.ireturn, 1) := by decide +kernel
set_option maxRecDepth 20000 in
theorem ggX0_turnLimit_X0_sumOfSquares : GoodIn wsX0_turnLimit wsX0_sumOfSquares := goodIn_r _ [14, 15, 16, 13, 17] (by decide +kernel) (by decide +kernel)
set_option maxRecDepth 20000 in
theorem gX0_turnLimit_X0_sumOfSquares : GoodIn wsX0_turnLimit (va_wsS RX0 69 yX0_sumOfSquares wsX0_sumOfSquares) := goodIn_app (goodIn_of _ (by decide +kernel)) ggX0_turnLimit_X0_sumOfSquares
set_option maxRecDepth 20000 in
theorem ggX0_turnLimit_X0_sumOfProducts : GoodIn wsX0_turnLimit wsX0_sumOfProducts := goodIn_r _ [17] (by decide +kernel) (by decide +kernel)
set_option maxRecDepth 20000 in
theorem gX0_turnLimit_X0_sumOfProducts : GoodIn wsX0_turnLimit (va_wsS RX0 66 yX0_sumOfProducts wsX0_sumOfProducts) := goodIn_app (goodIn_of _ (by decide +kernel)) ggX0_turnLimit_X0_sumOfProducts
theorem dX0_turnLimit_0 : decode cX0_turnLimit 0 = .ok (.aload_n 0, 1) := by decide +kernel
theorem dX0_turnLimit_1 : decode cX0_turnLimit 1 = .ok (.getfield 16, 3) := by decide +kernel
theorem dX0_turnLimit_4 : decode cX0_turnLimit 4 = .ok (.iload_n 1, 1) := by decide +kernel
theorem dX0_turnLimit_5 : decode cX0_turnLimit 5 = .ok (.iaload, 1) := by decide +kernel
theorem dX0_turnLimit_6 : decode cX0_turnLimit 6 = .ok (.istore_n 3, 1) := by decide +kernel
theorem dX0_turnLimit_7 : decode cX0_turnLimit 7 = .ok (.iload_n 3, 1) := by decide +kernel
theorem dX0_turnLimit_8 : decode cX0_turnLimit 8 = .ok (.invokestatic 69, 3) := by decide +kernel
theorem dX0_turnLimit_11 : decode cX0_turnLimit 11 = .ok (.aload_n 0, 1) := by decide +kernel
theorem dX0_turnLimit_12 : decode cX0_turnLimit 12 = .ok (.getfield 33, 3) := by decide +kernel
theorem dX0_turnLimit_15 : decode cX0_turnLimit 15 = .ok (.invokestatic 69, 3) := by decide +kernel
theorem dX0_turnLimit_18 : decode cX0_turnLimit 18 = .ok (.invokestatic 72, 3) := by decide +kernel
theorem dX0_turnLimit_21 : decode cX0_turnLimit 21 = .ok (.istore 4, 2) := by decide +kernel
theorem dX0_turnLimit_23 : decode cX0_turnLimit 23 = .ok (.iload 4, 2) := by decide +kernel
theorem dX0_turnLimit_25 : decode cX0_turnLimit 25 = .ok (.iconst 1, 1) := by decide +kernel
theorem dX0_turnLimit_26 : decode cX0_turnLimit 26 = .ok (.if_icmp .ge 5, 3) := by decide +kernel
theorem dX0_turnLimit_29 : decode cX0_turnLimit 29 = .ok (.iconst 0, 1) := by decide +kernel
theorem dX0_turnLimit_30 : decode cX0_turnLimit 30 = .ok (.ireturn, 1) := by decide +kernel
theorem dX0_turnLimit_31 : decode cX0_turnLimit 31 = .ok (.aload_n 0, 1) := by decide +kernel
theorem dX0_turnLimit_32 : decode cX0_turnLimit 32 = .ok (.getfield 13, 3) := by decide +kernel
theorem dX0_turnLimit_35 : decode cX0_turnLimit 35 = .ok (.iload_n 1, 1) := by decide +kernel
theorem dX0_turnLimit_36 : decode cX0_turnLimit 36 = .ok (.iaload, 1) := by decide +kernel
theorem dX0_turnLimit_37 : decode cX0_turnLimit 37 = .ok (.iload_n 2, 1) := by decide +kernel
theorem dX0_turnLimit_38 : decode cX0_turnLimit 38 = .ok (.invokestatic 77, 3) := by decide +kernel
theorem dX0_turnLimit_41 : decode cX0_turnLimit 41 = .ok (.iconst 0, 1) := by decide +kernel
theorem dX0_turnLimit_42 : decode cX0_turnLimit 42 = .ok (.iload_n 3, 1) := by decide +kernel
theorem dX0_turnLimit_43 : decode cX0_turnLimit 43 = .ok (.aload_n 0, 1) := by decide +kernel
theorem dX0_turnLimit_44 : decode cX0_turnLimit 44 = .ok (.getfield 33, 3) := by decide +kernel
theorem dX0_turnLimit_47 : decode cX0_turnLimit 47 = .ok (.invokestatic 66, 3) := by decide +kernel
theorem dX0_turnLimit_50 : decode cX0_turnLimit 50 = .ok (.invokestatic 72, 3) := by decide +kernel
theorem dX0_turnLimit_53 : decode cX0_turnLimit 53 = .ok (.imul, 1) := by decide +kernel
theorem dX0_turnLimit_54 : decode cX0_turnLimit 54 = .ok (.iload 4, 2) := by decide +kernel
theorem dX0_turnLimit_56 : decode cX0_turnLimit 56 = .ok (.idiv, 1) := by decide +kernel
theorem dX0_turnLimit_57 : decode cX0_turnLimit 57 = .ok (.ireturn, 1) := by decide +kernel
theorem dX0_limitAt_0 : decode cX0_limitAt 0 = .ok (.iload_n 1, 1) := by decide +kernel
theorem dX0_limitAt_1 : decode cX0_limitAt 1 = .ok (.ifCond .le 11, 3) := by decide +kernel
theorem dX0_limitAt_4 : decode cX0_limitAt 4 = .ok (.iload_n 1, 1) := by decide +kernel
theorem dX0_limitAt_5 : decode cX0_limitAt 5 = .ok (.aload_n 0, 1) := by decide +kernel
theorem dX0_limitAt_6 : decode cX0_limitAt 6 = .ok (.getfield 25, 3) := by decide +kernel
theorem dX0_limitAt_9 : decode cX0_limitAt 9 = .ok (.if_icmp .lt 7, 3) := by decide +kernel
theorem dX0_limitAt_12 : decode cX0_limitAt 12 = .ok (.iconst 0, 1) := by decide +kernel
theorem dX0_limitAt_13 : decode cX0_limitAt 13 = .ok (.goto 9, 3) := by decide +kernel
theorem dX0_limitAt_16 : decode cX0_limitAt 16 = .ok (.aload_n 0, 1) := by decide +kernel
theorem dX0_limitAt_17 : decode cX0_limitAt 17 = .ok (.getfield 19, 3) := by decide +kernel
theorem dX0_limitAt_20 : decode cX0_limitAt 20 = .ok (.iload_n 1, 1) := by decide +kernel
theorem dX0_limitAt_21 : decode cX0_limitAt 21 = .ok (.iaload, 1) := by decide +kernel
theorem dX0_limitAt_22 : decode cX0_limitAt 22 = .ok (.ireturn, 1) := by decide +kernel
set_option maxRecDepth 20000 in
theorem ggX0_reckonSpeeds_X0_limitAt : GoodIn wsX0_reckonSpeeds wsX0_limitAt := goodIn_r _ [9, 3, 10, 17, 18, 19, 20, 21, 22, 23, 24, 25, 26] (by decide +kernel) (by decide +kernel)
set_option maxRecDepth 20000 in
theorem gX0_reckonSpeeds_X0_limitAt : GoodIn wsX0_reckonSpeeds (wsV RX0 59 RX0 yX0_limitAt wsX0_limitAt) := goodIn_app (goodIn_of _ (by decide +kernel)) ggX0_reckonSpeeds_X0_limitAt
set_option maxRecDepth 20000 in
theorem ggX0_reckonSpeeds_X0_fastestAcross : GoodIn wsX0_reckonSpeeds wsX0_fastestAcross := goodIn_r _ [14, 15, 16, 17, 18, 19, 20, 21, 22, 23, 24, 25, 26] (by decide +kernel) (by decide +kernel)
set_option maxRecDepth 20000 in
theorem gX0_reckonSpeeds_X0_fastestAcross : GoodIn wsX0_reckonSpeeds (wsV RX0 80 RX0 yX0_fastestAcross wsX0_fastestAcross) := goodIn_app (goodIn_of _ (by decide +kernel)) ggX0_reckonSpeeds_X0_fastestAcross
theorem dX0_reckonSpeeds_0 : decode cX0_reckonSpeeds 0 = .ok (.aload_n 0, 1) := by decide +kernel
theorem dX0_reckonSpeeds_1 : decode cX0_reckonSpeeds 1 = .ok (.getfield 42, 3) := by decide +kernel
theorem dX0_reckonSpeeds_4 : decode cX0_reckonSpeeds 4 = .ok (.ifCond .eq 4, 3) := by decide +kernel
theorem dX0_reckonSpeeds_7 : decode cX0_reckonSpeeds 7 = .ok (.return_, 1) := by decide +kernel
theorem dX0_reckonSpeeds_8 : decode cX0_reckonSpeeds 8 = .ok (.aload_n 0, 1) := by decide +kernel
theorem dX0_reckonSpeeds_9 : decode cX0_reckonSpeeds 9 = .ok (.getfield 22, 3) := by decide +kernel
theorem dX0_reckonSpeeds_12 : decode cX0_reckonSpeeds 12 = .ok (.iconst 0, 1) := by decide +kernel
theorem dX0_reckonSpeeds_13 : decode cX0_reckonSpeeds 13 = .ok (.iconst 0, 1) := by decide +kernel
theorem dX0_reckonSpeeds_14 : decode cX0_reckonSpeeds 14 = .ok (.iastore, 1) := by decide +kernel
theorem dX0_reckonSpeeds_15 : decode cX0_reckonSpeeds 15 = .ok (.iconst 1, 1) := by decide +kernel
theorem dX0_reckonSpeeds_16 : decode cX0_reckonSpeeds 16 = .ok (.istore_n 1, 1) := by decide +kernel
theorem dX0_reckonSpeeds_17 : decode cX0_reckonSpeeds 17 = .ok (.iload_n 1, 1) := by decide +kernel
theorem dX0_reckonSpeeds_18 : decode cX0_reckonSpeeds 18 = .ok (.aload_n 0, 1) := by decide +kernel
theorem dX0_reckonSpeeds_19 : decode cX0_reckonSpeeds 19 = .ok (.getfield 25, 3) := by decide +kernel
theorem dX0_reckonSpeeds_22 : decode cX0_reckonSpeeds 22 = .ok (.if_icmp .gt 40, 3) := by decide +kernel
theorem dX0_reckonSpeeds_25 : decode cX0_reckonSpeeds 25 = .ok (.aload_n 0, 1) := by decide +kernel
theorem dX0_reckonSpeeds_26 : decode cX0_reckonSpeeds 26 = .ok (.getfield 22, 3) := by decide +kernel
theorem dX0_reckonSpeeds_29 : decode cX0_reckonSpeeds 29 = .ok (.iload_n 1, 1) := by decide +kernel
theorem dX0_reckonSpeeds_30 : decode cX0_reckonSpeeds 30 = .ok (.aload_n 0, 1) := by decide +kernel
theorem dX0_reckonSpeeds_31 : decode cX0_reckonSpeeds 31 = .ok (.aload_n 0, 1) := by decide +kernel
theorem dX0_reckonSpeeds_32 : decode cX0_reckonSpeeds 32 = .ok (.getfield 9, 3) := by decide +kernel
theorem dX0_reckonSpeeds_35 : decode cX0_reckonSpeeds 35 = .ok (.iload_n 1, 1) := by decide +kernel
theorem dX0_reckonSpeeds_36 : decode cX0_reckonSpeeds 36 = .ok (.iconst 1, 1) := by decide +kernel
theorem dX0_reckonSpeeds_37 : decode cX0_reckonSpeeds 37 = .ok (.isub, 1) := by decide +kernel
theorem dX0_reckonSpeeds_38 : decode cX0_reckonSpeeds 38 = .ok (.iaload, 1) := by decide +kernel
theorem dX0_reckonSpeeds_39 : decode cX0_reckonSpeeds 39 = .ok (.aload_n 0, 1) := by decide +kernel
theorem dX0_reckonSpeeds_40 : decode cX0_reckonSpeeds 40 = .ok (.getfield 22, 3) := by decide +kernel
theorem dX0_reckonSpeeds_43 : decode cX0_reckonSpeeds 43 = .ok (.iload_n 1, 1) := by decide +kernel
theorem dX0_reckonSpeeds_44 : decode cX0_reckonSpeeds 44 = .ok (.iconst 1, 1) := by decide +kernel
theorem dX0_reckonSpeeds_45 : decode cX0_reckonSpeeds 45 = .ok (.isub, 1) := by decide +kernel
theorem dX0_reckonSpeeds_46 : decode cX0_reckonSpeeds 46 = .ok (.iaload, 1) := by decide +kernel
theorem dX0_reckonSpeeds_47 : decode cX0_reckonSpeeds 47 = .ok (.aload_n 0, 1) := by decide +kernel
theorem dX0_reckonSpeeds_48 : decode cX0_reckonSpeeds 48 = .ok (.iload_n 1, 1) := by decide +kernel
theorem dX0_reckonSpeeds_49 : decode cX0_reckonSpeeds 49 = .ok (.invokevirtual 59, 3) := by decide +kernel
theorem dX0_reckonSpeeds_52 : decode cX0_reckonSpeeds 52 = .ok (.invokevirtual 80, 3) := by decide +kernel
theorem dX0_reckonSpeeds_55 : decode cX0_reckonSpeeds 55 = .ok (.iastore, 1) := by decide +kernel
theorem dX0_reckonSpeeds_56 : decode cX0_reckonSpeeds 56 = .ok (.iinc 1 1, 3) := by decide +kernel
theorem dX0_reckonSpeeds_59 : decode cX0_reckonSpeeds 59 = .ok (.goto (-42), 3) := by decide +kernel
theorem dX0_reckonSpeeds_62 : decode cX0_reckonSpeeds 62 = .ok (.aload_n 0, 1) := by decide +kernel
theorem dX0_reckonSpeeds_63 : decode cX0_reckonSpeeds 63 = .ok (.getfield 25, 3) := by decide +kernel
theorem dX0_reckonSpeeds_66 : decode cX0_reckonSpeeds 66 = .ok (.iconst 1, 1) := by decide +kernel
theorem dX0_reckonSpeeds_67 : decode cX0_reckonSpeeds 67 = .ok (.isub, 1) := by decide +kernel
theorem dX0_reckonSpeeds_68 : decode cX0_reckonSpeeds 68 = .ok (.istore_n 1, 1) := by decide +kernel
theorem dX0_reckonSpeeds_69 : decode cX0_reckonSpeeds 69 = .ok (.iload_n 1, 1) := by decide +kernel
theorem dX0_reckonSpeeds_70 : decode cX0_reckonSpeeds 70 = .ok (.ifCond .lt 39, 3) := by decide +kernel
theorem dX0_reckonSpeeds_73 : decode cX0_reckonSpeeds 73 = .ok (.aload_n 0, 1) := by decide +kernel
theorem dX0_reckonSpeeds_74 : decode cX0_reckonSpeeds 74 = .ok (.getfield 22, 3) := by decide +kernel
theorem dX0_reckonSpeeds_77 : decode cX0_reckonSpeeds 77 = .ok (.iload_n 1, 1) := by decide +kernel
theorem dX0_reckonSpeeds_78 : decode cX0_reckonSpeeds 78 = .ok (.aload_n 0, 1) := by decide +kernel
theorem dX0_reckonSpeeds_79 : decode cX0_reckonSpeeds 79 = .ok (.aload_n 0, 1) := by decide +kernel
theorem dX0_reckonSpeeds_80 : decode cX0_reckonSpeeds 80 = .ok (.getfield 9, 3) := by decide +kernel
theorem dX0_reckonSpeeds_83 : decode cX0_reckonSpeeds 83 = .ok (.iload_n 1, 1) := by decide +kernel
theorem dX0_reckonSpeeds_84 : decode cX0_reckonSpeeds 84 = .ok (.iaload, 1) := by decide +kernel
theorem dX0_reckonSpeeds_85 : decode cX0_reckonSpeeds 85 = .ok (.aload_n 0, 1) := by decide +kernel
theorem dX0_reckonSpeeds_86 : decode cX0_reckonSpeeds 86 = .ok (.getfield 22, 3) := by decide +kernel
theorem dX0_reckonSpeeds_89 : decode cX0_reckonSpeeds 89 = .ok (.iload_n 1, 1) := by decide +kernel
theorem dX0_reckonSpeeds_90 : decode cX0_reckonSpeeds 90 = .ok (.iconst 1, 1) := by decide +kernel
theorem dX0_reckonSpeeds_91 : decode cX0_reckonSpeeds 91 = .ok (.iadd, 1) := by decide +kernel
theorem dX0_reckonSpeeds_92 : decode cX0_reckonSpeeds 92 = .ok (.iaload, 1) := by decide +kernel
theorem dX0_reckonSpeeds_93 : decode cX0_reckonSpeeds 93 = .ok (.aload_n 0, 1) := by decide +kernel
theorem dX0_reckonSpeeds_94 : decode cX0_reckonSpeeds 94 = .ok (.getfield 22, 3) := by decide +kernel
theorem dX0_reckonSpeeds_97 : decode cX0_reckonSpeeds 97 = .ok (.iload_n 1, 1) := by decide +kernel
theorem dX0_reckonSpeeds_98 : decode cX0_reckonSpeeds 98 = .ok (.iaload, 1) := by decide +kernel
theorem dX0_reckonSpeeds_99 : decode cX0_reckonSpeeds 99 = .ok (.invokevirtual 80, 3) := by decide +kernel
theorem dX0_reckonSpeeds_102 : decode cX0_reckonSpeeds 102 = .ok (.iastore, 1) := by decide +kernel
theorem dX0_reckonSpeeds_103 : decode cX0_reckonSpeeds 103 = .ok (.iinc 1 (-1), 3) := by decide +kernel
theorem dX0_reckonSpeeds_106 : decode cX0_reckonSpeeds 106 = .ok (.goto (-37), 3) := by decide +kernel
theorem dX0_reckonSpeeds_109 : decode cX0_reckonSpeeds 109 = .ok (.aload_n 0, 1) := by decide +kernel
theorem dX0_reckonSpeeds_110 : decode cX0_reckonSpeeds 110 = .ok (.iconst 1, 1) := by decide +kernel
theorem dX0_reckonSpeeds_111 : decode cX0_reckonSpeeds 111 = .ok (.putfield 42, 3) := by decide +kernel
theorem dX0_reckonSpeeds_114 : decode cX0_reckonSpeeds 114 = .ok (.return_, 1) := by decide +kernel
theorem dX0_fastestAcross_0 : decode cX0_fastestAcross 0 = .ok (.iload_n 2, 1) := by decide +kernel
theorem dX0_fastestAcross_1 : decode cX0_fastestAcross 1 = .ok (.i2l, 1) := by decide +kernel
theorem dX0_fastestAcross_2 : decode cX0_fastestAcross 2 = .ok (.iload_n 2, 1) := by decide +kernel
theorem dX0_fastestAcross_3 : decode cX0_fastestAcross 3 = .ok (.i2l, 1) := by decide +kernel
theorem dX0_fastestAcross_4 : decode cX0_fastestAcross 4 = .ok (.lmul, 1) := by decide +kernel
theorem dX0_fastestAcross_5 : decode cX0_fastestAcross 5 = .ok (.ldc2_w 83, 3) := by decide +kernel
theorem dX0_fastestAcross_8 : decode cX0_fastestAcross 8 = .ok (.aload_n 0, 1) := by decide +kernel
theorem dX0_fastestAcross_9 : decode cX0_fastestAcross 9 = .ok (.getfield 39, 3) := by decide +kernel
theorem dX0_fastestAcross_12 : decode cX0_fastestAcross 12 = .ok (.i2l, 1) := by decide +kernel
theorem dX0_fastestAcross_13 : decode cX0_fastestAcross 13 = .ok (.lmul, 1) := by decide +kernel
theorem dX0_fastestAcross_14 : decode cX0_fastestAcross 14 = .ok (.iload_n 1, 1) := by decide +kernel
theorem dX0_fastestAcross_15 : decode cX0_fastestAcross 15 = .ok (.i2l, 1) := by decide +kernel
theorem dX0_fastestAcross_16 : decode cX0_fastestAcross 16 = .ok (.lmul, 1) := by decide +kernel
theorem dX0_fastestAcross_17 : decode cX0_fastestAcross 17 = .ok (.ladd, 1) := by decide +kernel
theorem dX0_fastestAcross_18 : decode cX0_fastestAcross 18 = .ok (.lstore 4, 2) := by decide +kernel
theorem dX0_fastestAcross_20 : decode cX0_fastestAcross 20 = .ok (.iload_n 3, 1) := by decide +kernel
theorem dX0_fastestAcross_21 : decode cX0_fastestAcross 21 = .ok (.i2l, 1) := by decide +kernel
theorem dX0_fastestAcross_22 : decode cX0_fastestAcross 22 = .ok (.iload_n 3, 1) := by decide +kernel
theorem dX0_fastestAcross_23 : decode cX0_fastestAcross 23 = .ok (.i2l, 1) := by decide +kernel
theorem dX0_fastestAcross_24 : decode cX0_fastestAcross 24 = .ok (.lmul, 1) := by decide +kernel
theorem dX0_fastestAcross_25 : decode cX0_fastestAcross 25 = .ok (.lload 4, 2) := by decide +kernel
theorem dX0_fastestAcross_27 : decode cX0_fastestAcross 27 = .ok (.lcmp, 1) := by decide +kernel
theorem dX0_fastestAcross_28 : decode cX0_fastestAcross 28 = .ok (.ifCond .gt 5, 3) := by decide +kernel
theorem dX0_fastestAcross_31 : decode cX0_fastestAcross 31 = .ok (.iload_n 3, 1) := by decide +kernel
theorem dX0_fastestAcross_32 : decode cX0_fastestAcross 32 = .ok (.ireturn, 1) := by decide +kernel
theorem dX0_fastestAcross_33 : decode cX0_fastestAcross 33 = .ok (.iconst 0, 1) := by decide +kernel
theorem dX0_fastestAcross_34 : decode cX0_fastestAcross 34 = .ok (.istore 6, 2) := by decide +kernel
theorem dX0_fastestAcross_36 : decode cX0_fastestAcross 36 = .ok (.bipush 16, 2) := by decide +kernel
theorem dX0_fastestAcross_38 : decode cX0_fastestAcross 38 = .ok (.istore 7, 2) := by decide +kernel
theorem dX0_fastestAcross_40 : decode cX0_fastestAcross 40 = .ok (.iload 7, 2) := by decide +kernel
theorem dX0_fastestAcross_42 : decode cX0_fastestAcross 42 = .ok (.ifCond .lt 39, 3) := by decide +kernel
theorem dX0_fastestAcross_45 : decode cX0_fastestAcross 45 = .ok (.iload 6, 2) := by decide +kernel
theorem dX0_fastestAcross_47 : decode cX0_fastestAcross 47 = .ok (.i2l, 1) := by decide +kernel
theorem dX0_fastestAcross_48 : decode cX0_fastestAcross 48 = .ok (.lconst 1, 1) := by decide +kernel
theorem dX0_fastestAcross_49 : decode cX0_fastestAcross 49 = .ok (.iload 7, 2) := by decide +kernel
theorem dX0_fastestAcross_51 : decode cX0_fastestAcross 51 = .ok (.lshl, 1) := by decide +kernel
theorem dX0_fastestAcross_52 : decode cX0_fastestAcross 52 = .ok (.ladd, 1) := by decide +kernel
theorem dX0_fastestAcross_53 : decode cX0_fastestAcross 53 = .ok (.lstore 8, 2) := by decide +kernel
theorem dX0_fastestAcross_55 : decode cX0_fastestAcross 55 = .ok (.lload 8, 2) := by decide +kernel
theorem dX0_fastestAcross_57 : decode cX0_fastestAcross 57 = .ok (.lload 8, 2) := by decide +kernel
theorem dX0_fastestAcross_59 : decode cX0_fastestAcross 59 = .ok (.lmul, 1) := by decide +kernel
theorem dX0_fastestAcross_60 : decode cX0_fastestAcross 60 = .ok (.lload 4, 2) := by decide +kernel
theorem dX0_fastestAcross_62 : decode cX0_fastestAcross 62 = .ok (.lcmp, 1) := by decide +kernel
theorem dX0_fastestAcross_63 : decode cX0_fastestAcross 63 = .ok (.ifCond .gt 12, 3) := by decide +kernel
theorem dX0_fastestAcross_66 : decode cX0_fastestAcross 66 = .ok (.iload 6, 2) := by decide +kernel
theorem dX0_fastestAcross_68 : decode cX0_fastestAcross 68 = .ok (.iconst 1, 1) := by decide +kernel
theorem dX0_fastestAcross_69 : decode cX0_fastestAcross 69 = .ok (.iload 7, 2) := by decide +kernel
theorem dX0_fastestAcross_71 : decode cX0_fastestAcross 71 = .ok (.ishl, 1) := by decide +kernel
theorem dX0_fastestAcross_72 : decode cX0_fastestAcross 72 = .ok (.iadd, 1) := by decide +kernel
theorem dX0_fastestAcross_73 : decode cX0_fastestAcross 73 = .ok (.istore 6, 2) := by decide +kernel
theorem dX0_fastestAcross_75 : decode cX0_fastestAcross 75 = .ok (.iinc 7 (-1), 3) := by decide +kernel
theorem dX0_fastestAcross_78 : decode cX0_fastestAcross 78 = .ok (.goto (-38), 3) := by decide +kernel
theorem dX0_fastestAcross_81 : decode cX0_fastestAcross 81 = .ok (.iload 6, 2) := by decide +kernel
theorem dX0_fastestAcross_83 : decode cX0_fastestAcross 83 = .ok (.ireturn, 1) := by decide +kernel
theorem dX1_init_0 : decode cX1_init 0 = .ok (.aload_n 0, 1) := by decide +kernel
theorem dX1_init_1 : decode cX1_init 1 = .ok (.invokespecial 1, 3) := by decide +kernel
theorem dX1_init_4 : decode cX1_init 4 = .ok (.aload_n 0, 1) := by decide +kernel
theorem dX1_init_5 : decode cX1_init 5 = .ok (.sipush 2000, 3) := by decide +kernel
theorem dX1_init_8 : decode cX1_init 8 = .ok (.newarray .int, 2) := by decide +kernel
theorem dX1_init_10 : decode cX1_init 10 = .ok (.putfield 9, 3) := by decide +kernel
theorem dX1_init_13 : decode cX1_init 13 = .ok (.aload_n 0, 1) := by decide +kernel
theorem dX1_init_14 : decode cX1_init 14 = .ok (.sipush 2000, 3) := by decide +kernel
theorem dX1_init_17 : decode cX1_init 17 = .ok (.newarray .int, 2) := by decide +kernel
theorem dX1_init_19 : decode cX1_init 19 = .ok (.putfield 13, 3) := by decide +kernel
theorem dX1_init_22 : decode cX1_init 22 = .ok (.aload_n 0, 1) := by decide +kernel
theorem dX1_init_23 : decode cX1_init 23 = .ok (.sipush 6000, 3) := by decide +kernel
theorem dX1_init_26 : decode cX1_init 26 = .ok (.newarray .byte, 2) := by decide +kernel
theorem dX1_init_28 : decode cX1_init 28 = .ok (.putfield 16, 3) := by decide +kernel
theorem dX1_init_31 : decode cX1_init 31 = .ok (.aload_n 0, 1) := by decide +kernel
theorem dX1_init_32 : decode cX1_init 32 = .ok (.sipush 6000, 3) := by decide +kernel
theorem dX1_init_35 : decode cX1_init 35 = .ok (.newarray .byte, 2) := by decide +kernel
theorem dX1_init_37 : decode cX1_init 37 = .ok (.putfield 20, 3) := by decide +kernel
theorem dX1_init_40 : decode cX1_init 40 = .ok (.aload_n 0, 1) := by decide +kernel
theorem dX1_init_41 : decode cX1_init 41 = .ok (.iconst 3, 1) := by decide +kernel
theorem dX1_init_42 : decode cX1_init 42 = .ok (.newarray .byte, 2) := by decide +kernel
theorem dX1_init_44 : decode cX1_init 44 = .ok (.putfield 23, 3) := by decide +kernel
theorem dX1_init_47 : decode cX1_init 47 = .ok (.aload_n 0, 1) := by decide +kernel
theorem dX1_init_48 : decode cX1_init 48 = .ok (.iconst 3, 1) := by decide +kernel
theorem dX1_init_49 : decode cX1_init 49 = .ok (.newarray .byte, 2) := by decide +kernel
theorem dX1_init_51 : decode cX1_init 51 = .ok (.putfield 26, 3) := by decide +kernel
theorem dX1_init_54 : decode cX1_init 54 = .ok (.aload_n 0, 1) := by decide +kernel
theorem dX1_init_55 : decode cX1_init 55 = .ok (.bipush 100, 2) := by decide +kernel
theorem dX1_init_57 : decode cX1_init 57 = .ok (.putfield 29, 3) := by decide +kernel
theorem dX1_init_60 : decode cX1_init 60 = .ok (.aload_n 0, 1) := by decide +kernel
theorem dX1_init_61 : decode cX1_init 61 = .ok (.sipush 2001, 3) := by decide +kernel
theorem dX1_init_64 : decode cX1_init 64 = .ok (.newarray .int, 2) := by decide +kernel
theorem dX1_init_66 : decode cX1_init 66 = .ok (.putfield 33, 3) := by decide +kernel
theorem dX1_init_69 : decode cX1_init 69 = .ok (.aload_n 0, 1) := by decide +kernel
theorem dX1_init_70 : decode cX1_init 70 = .ok (.getfield 23, 3) := by decide +kernel
theorem dX1_init_73 : decode cX1_init 73 = .ok (.iconst 0, 1) := by decide +kernel
theorem dX1_init_74 : decode cX1_init 74 = .ok (.iconst 1, 1) := by decide +kernel
theorem dX1_init_75 : decode cX1_init 75 = .ok (.bastore, 1) := by decide +kernel
theorem dX1_init_76 : decode cX1_init 76 = .ok (.aload_n 0, 1) := by decide +kernel
theorem dX1_init_77 : decode cX1_init 77 = .ok (.getfield 26, 3) := by decide +kernel
theorem dX1_init_80 : decode cX1_init 80 = .ok (.iconst 0, 1) := by decide +kernel
theorem dX1_init_81 : decode cX1_init 81 = .ok (.iconst 1, 1) := by decide +kernel
theorem dX1_init_82 : decode cX1_init 82 = .ok (.bastore, 1) := by decide +kernel
theorem dX1_init_83 : decode cX1_init 83 = .ok (.return_, 1) := by decide +kernel
theorem dX1_isStep_0 : decode cX1_isStep 0 = .ok (.iload_n 0, 1) := by decide +kernel
theorem dX1_isStep_1 : decode cX1_isStep 1 = .ok (.iconst (-1), 1) := by decide +kernel
theorem dX1_isStep_2 : decode cX1_isStep 2 = .ok (.if_icmp .lt 44, 3) := by decide +kernel
theorem dX1_isStep_5 : decode cX1_isStep 5 = .ok (.iload_n 0, 1) := by decide +kernel
theorem dX1_isStep_6 : decode cX1_isStep 6 = .ok (.iconst 1, 1) := by decide +kernel
theorem dX1_isStep_7 : decode cX1_isStep 7 = .ok (.if_icmp .gt 39, 3) := by decide +kernel
theorem dX1_isStep_10 : decode cX1_isStep 10 = .ok (.iload_n 1, 1) := by decide +kernel
theorem dX1_isStep_11 : decode cX1_isStep 11 = .ok (.iconst (-1), 1) := by decide +kernel
theorem dX1_isStep_12 : decode cX1_isStep 12 = .ok (.if_icmp .lt 34, 3) := by decide +kernel
theorem dX1_isStep_15 : decode cX1_isStep 15 = .ok (.iload_n 1, 1) := by decide +kernel
theorem dX1_isStep_16 : decode cX1_isStep 16 = .ok (.iconst 1, 1) := by decide +kernel
theorem dX1_isStep_17 : decode cX1_isStep 17 = .ok (.if_icmp .gt 29, 3) := by decide +kernel
theorem dX1_isStep_20 : decode cX1_isStep 20 = .ok (.iload_n 2, 1) := by decide +kernel
theorem dX1_isStep_21 : decode cX1_isStep 21 = .ok (.iconst (-1), 1) := by decide +kernel
theorem dX1_isStep_22 : decode cX1_isStep 22 = .ok (.if_icmp .lt 24, 3) := by decide +kernel
theorem dX1_isStep_25 : decode cX1_isStep 25 = .ok (.iload_n 2, 1) := by decide +kernel
theorem dX1_isStep_26 : decode cX1_isStep 26 = .ok (.iconst 1, 1) := by decide +kernel
theorem dX1_isStep_27 : decode cX1_isStep 27 = .ok (.if_icmp .gt 19, 3) := by decide +kernel
theorem dX1_isStep_30 : decode cX1_isStep 30 = .ok (.iload_n 0, 1) := by decide +kernel
theorem dX1_isStep_31 : decode cX1_isStep 31 = .ok (.ifCond .ne 11, 3) := by decide +kernel
theorem dX1_isStep_34 : decode cX1_isStep 34 = .ok (.iload_n 1, 1) := by decide +kernel
theorem dX1_isStep_35 : decode cX1_isStep 35 = .ok (.ifCond .ne 7, 3) := by decide +kernel
theorem dX1_isStep_38 : decode cX1_isStep 38 = .ok (.iload_n 2, 1) := by decide +kernel
theorem dX1_isStep_39 : decode cX1_isStep 39 = .ok (.ifCond .eq 7, 3) := by decide +kernel
theorem dX1_isStep_42 : decode cX1_isStep 42 = .ok (.iconst 1, 1) := by decide +kernel
theorem dX1_isStep_43 : decode cX1_isStep 43 = .ok (.goto 4, 3) := by decide +kernel
theorem dX1_isStep_46 : decode cX1_isStep 46 = .ok (.iconst 0, 1) := by decide +kernel
theorem dX1_isStep_47 : decode cX1_isStep 47 = .ok (.ireturn, 1) := by decide +kernel
set_option maxRecDepth 20000 in
theorem ggX1_told_X1_isStep : GoodIn wsX1_told wsX1_isStep := goodIn_r _ [4] (by decide +kernel) (by decide +kernel)
set_option maxRecDepth 20000 in
theorem gX1_told_X1_isStep : GoodIn wsX1_told (va_wsS RX1 36 yX1_isStep wsX1_isStep) := goodIn_app (goodIn_of _ (by decide +kernel)) ggX1_told_X1_isStep
theorem dX1_told_0 : decode cX1_told 0 = .ok (.iload_n 1, 1) := by decide +kernel
theorem dX1_told_1 : decode cX1_told 1 = .ok (.iload_n 2, 1) := by decide +kernel
theorem dX1_told_2 : decode cX1_told 2 = .ok (.iload_n 3, 1) := by decide +kernel
theorem dX1_told_3 : decode cX1_told 3 = .ok (.invokestatic 36, 3) := by decide +kernel
theorem dX1_told_6 : decode cX1_told 6 = .ok (.ifCond .ne 5, 3) := by decide +kernel
theorem dX1_told_9 : decode cX1_told 9 = .ok (.iconst 0, 1) := by decide +kernel
theorem dX1_told_10 : decode cX1_told 10 = .ok (.ireturn, 1) := by decide +kernel
theorem dX1_told_11 : decode cX1_told 11 = .ok (.aload_n 0, 1) := by decide +kernel
theorem dX1_told_12 : decode cX1_told 12 = .ok (.iconst 0, 1) := by decide +kernel
theorem dX1_told_13 : decode cX1_told 13 = .ok (.iload_n 1, 1) := by decide +kernel
theorem dX1_told_14 : decode cX1_told 14 = .ok (.i2b, 1) := by decide +kernel
theorem dX1_told_15 : decode cX1_told 15 = .ok (.bastore, 1) := by decide +kernel
theorem dX1_told_16 : decode cX1_told 16 = .ok (.aload_n 0, 1) := by decide +kernel
theorem dX1_told_17 : decode cX1_told 17 = .ok (.iconst 1, 1) := by decide +kernel
theorem dX1_told_18 : decode cX1_told 18 = .ok (.iload_n 2, 1) := by decide +kernel
theorem dX1_told_19 : decode cX1_told 19 = .ok (.i2b, 1) := by decide +kernel
theorem dX1_told_20 : decode cX1_told 20 = .ok (.bastore, 1) := by decide +kernel
theorem dX1_told_21 : decode cX1_told 21 = .ok (.aload_n 0, 1) := by decide +kernel
theorem dX1_told_22 : decode cX1_told 22 = .ok (.iconst 2, 1) := by decide +kernel
theorem dX1_told_23 : decode cX1_told 23 = .ok (.iload_n 3, 1) := by decide +kernel
theorem dX1_told_24 : decode cX1_told 24 = .ok (.i2b, 1) := by decide +kernel
theorem dX1_told_25 : decode cX1_told 25 = .ok (.bastore, 1) := by decide +kernel
theorem dX1_told_26 : decode cX1_told 26 = .ok (.iconst 1, 1) := by decide +kernel
theorem dX1_told_27 : decode cX1_told 27 = .ok (.ireturn, 1) := by decide +kernel
set_option maxRecDepth 20000 in
theorem ggX1_first_X1_told : GoodIn wsX1_first wsX1_told := goodIn_r _ [5, 6, 7, 4, 8] (by decide +kernel) (by decide +kernel)
set_option maxRecDepth 20000 in
theorem gX1_first_X1_told : GoodIn wsX1_first (va_wsS RX1 40 yX1_told wsX1_told) := goodIn_app (goodIn_of _ (by decide +kernel)) ggX1_first_X1_told
theorem dX1_first_0 : decode cX1_first 0 = .ok (.aload_n 0, 1) := by decide +kernel
theorem dX1_first_1 : decode cX1_first 1 = .ok (.getfield 23, 3) := by decide +kernel
theorem dX1_first_4 : decode cX1_first 4 = .ok (.iload_n 1, 1) := by decide +kernel
theorem dX1_first_5 : decode cX1_first 5 = .ok (.iload_n 2, 1) := by decide +kernel
theorem dX1_first_6 : decode cX1_first 6 = .ok (.iload_n 3, 1) := by decide +kernel
theorem dX1_first_7 : decode cX1_first 7 = .ok (.invokestatic 40, 3) := by decide +kernel
theorem dX1_first_10 : decode cX1_first 10 = .ok (.ireturn, 1) := by decide +kernel
set_option maxRecDepth 20000 in
theorem ggX1_last_X1_told : GoodIn wsX1_last wsX1_told := goodIn_r _ [5, 6, 7, 4, 8] (by decide +kernel) (by decide +kernel)
set_option maxRecDepth 20000 in
theorem gX1_last_X1_told : GoodIn wsX1_last (va_wsS RX1 40 yX1_told wsX1_told) := goodIn_app (goodIn_of _ (by decide +kernel)) ggX1_last_X1_told
theorem dX1_last_0 : decode cX1_last 0 = .ok (.aload_n 0, 1) := by decide +kernel
theorem dX1_last_1 : decode cX1_last 1 = .ok (.getfield 26, 3) := by decide +kernel
theorem dX1_last_4 : decode cX1_last 4 = .ok (.iload_n 1, 1) := by decide +kernel
theorem dX1_last_5 : decode cX1_last 5 = .ok (.iload_n 2, 1) := by decide +kernel
theorem dX1_last_6 : decode cX1_last 6 = .ok (.iload_n 3, 1) := by decide +kernel
theorem dX1_last_7 : decode cX1_last 7 = .ok (.invokestatic 40, 3) := by decide +kernel
theorem dX1_last_10 : decode cX1_last 10 = .ok (.ireturn, 1) := by decide +kernel
theorem dX1_move_0 : decode cX1_move 0 = .ok (.iload_n 1, 1) := by decide +kernel
theorem dX1_move_1 : decode cX1_move 1 = .ok (.iconst 1, 1) := by decide +kernel
theorem dX1_move_2 : decode cX1_move 2 = .ok (.if_icmp .lt 30, 3) := by decide +kernel
theorem dX1_move_5 : decode cX1_move 5 = .ok (.iload_n 1, 1) := by decide +kernel
theorem dX1_move_6 : decode cX1_move 6 = .ok (.ldc 44, 2) := by decide +kernel
theorem dX1_move_8 : decode cX1_move 8 = .ok (.if_icmp .gt 24, 3) := by decide +kernel
theorem dX1_move_11 : decode cX1_move 11 = .ok (.iload_n 2, 1) := by decide +kernel
theorem dX1_move_12 : decode cX1_move 12 = .ok (.iconst 1, 1) := by decide +kernel
theorem dX1_move_13 : decode cX1_move 13 = .ok (.if_icmp .lt 19, 3) := by decide +kernel
theorem dX1_move_16 : decode cX1_move 16 = .ok (.iload_n 2, 1) := by decide +kernel
theorem dX1_move_17 : decode cX1_move 17 = .ok (.ldc 45, 2) := by decide +kernel
theorem dX1_move_19 : decode cX1_move 19 = .ok (.if_icmp .gt 13, 3) := by decide +kernel
theorem dX1_move_22 : decode cX1_move 22 = .ok (.aload_n 0, 1) := by decide +kernel
theorem dX1_move_23 : decode cX1_move 23 = .ok (.getfield 46, 3) := by decide +kernel
theorem dX1_move_26 : decode cX1_move 26 = .ok (.sipush 2000, 3) := by decide +kernel
theorem dX1_move_29 : decode cX1_move 29 = .ok (.if_icmp .ne 5, 3) := by decide +kernel
theorem dX1_move_32 : decode cX1_move 32 = .ok (.iconst (-1), 1) := by decide +kernel
theorem dX1_move_33 : decode cX1_move 33 = .ok (.ireturn, 1) := by decide +kernel
theorem dX1_move_34 : decode cX1_move 34 = .ok (.aload_n 0, 1) := by decide +kernel
theorem dX1_move_35 : decode cX1_move 35 = .ok (.getfield 9, 3) := by decide +kernel
theorem dX1_move_38 : decode cX1_move 38 = .ok (.aload_n 0, 1) := by decide +kernel
theorem dX1_move_39 : decode cX1_move 39 = .ok (.getfield 46, 3) := by decide +kernel
theorem dX1_move_42 : decode cX1_move 42 = .ok (.iload_n 1, 1) := by decide +kernel
theorem dX1_move_43 : decode cX1_move 43 = .ok (.iastore, 1) := by decide +kernel
theorem dX1_move_44 : decode cX1_move 44 = .ok (.aload_n 0, 1) := by decide +kernel
theorem dX1_move_45 : decode cX1_move 45 = .ok (.getfield 13, 3) := by decide +kernel
theorem dX1_move_48 : decode cX1_move 48 = .ok (.aload_n 0, 1) := by decide +kernel
theorem dX1_move_49 : decode cX1_move 49 = .ok (.getfield 46, 3) := by decide +kernel
theorem dX1_move_52 : decode cX1_move 52 = .ok (.iload_n 2, 1) := by decide +kernel
theorem dX1_move_53 : decode cX1_move 53 = .ok (.iastore, 1) := by decide +kernel
theorem dX1_move_54 : decode cX1_move 54 = .ok (.iconst 0, 1) := by decide +kernel
theorem dX1_move_55 : decode cX1_move 55 = .ok (.istore_n 3, 1) := by decide +kernel
theorem dX1_move_56 : decode cX1_move 56 = .ok (.iload_n 3, 1) := by decide +kernel
theorem dX1_move_57 : decode cX1_move 57 = .ok (.iconst 3, 1) := by decide +kernel
theorem dX1_move_58 : decode cX1_move 58 = .ok (.if_icmp .ge 47, 3) := by decide +kernel
theorem dX1_move_61 : decode cX1_move 61 = .ok (.aload_n 0, 1) := by decide +kernel
theorem dX1_move_62 : decode cX1_move 62 = .ok (.getfield 16, 3) := by decide +kernel
theorem dX1_move_65 : decode cX1_move 65 = .ok (.iconst 3, 1) := by decide +kernel
theorem dX1_move_66 : decode cX1_move 66 = .ok (.aload_n 0, 1) := by decide +kernel
theorem dX1_move_67 : decode cX1_move 67 = .ok (.getfield 46, 3) := by decide +kernel
theorem dX1_move_70 : decode cX1_move 70 = .ok (.imul, 1) := by decide +kernel
theorem dX1_move_71 : decode cX1_move 71 = .ok (.iload_n 3, 1) := by decide +kernel
theorem dX1_move_72 : decode cX1_move 72 = .ok (.iadd, 1) := by decide +kernel
theorem dX1_move_73 : decode cX1_move 73 = .ok (.aload_n 0, 1) := by decide +kernel
theorem dX1_move_74 : decode cX1_move 74 = .ok (.getfield 23, 3) := by decide +kernel
theorem dX1_move_77 : decode cX1_move 77 = .ok (.iload_n 3, 1) := by decide +kernel
theorem dX1_move_78 : decode cX1_move 78 = .ok (.baload, 1) := by decide +kernel
theorem dX1_move_79 : decode cX1_move 79 = .ok (.bastore, 1) := by decide +kernel
theorem dX1_move_80 : decode cX1_move 80 = .ok (.aload_n 0, 1) := by decide +kernel
theorem dX1_move_81 : decode cX1_move 81 = .ok (.getfield 20, 3) := by decide +kernel
theorem dX1_move_84 : decode cX1_move 84 = .ok (.iconst 3, 1) := by decide +kernel
theorem dX1_move_85 : decode cX1_move 85 = .ok (.aload_n 0, 1) := by decide +kernel
theorem dX1_move_86 : decode cX1_move 86 = .ok (.getfield 46, 3) := by decide +kernel
theorem dX1_move_89 : decode cX1_move 89 = .ok (.imul, 1) := by decide +kernel
theorem dX1_move_90 : decode cX1_move 90 = .ok (.iload_n 3, 1) := by decide +kernel
theorem dX1_move_91 : decode cX1_move 91 = .ok (.iadd, 1) := by decide +kernel
theorem dX1_move_92 : decode cX1_move 92 = .ok (.aload_n 0, 1) := by decide +kernel
theorem dX1_move_93 : decode cX1_move 93 = .ok (.getfield 26, 3) := by decide +kernel
theorem dX1_move_96 : decode cX1_move 96 = .ok (.iload_n 3, 1) := by decide +kernel
theorem dX1_move_97 : decode cX1_move 97 = .ok (.baload, 1) := by decide +kernel
theorem dX1_move_98 : decode cX1_move 98 = .ok (.bastore, 1) := by decide +kernel
theorem dX1_move_99 : decode cX1_move 99 = .ok (.iinc 3 1, 3) := by decide +kernel
theorem dX1_move_102 : decode cX1_move 102 = .ok (.goto (-46), 3) := by decide +kernel
theorem dX1_move_105 : decode cX1_move 105 = .ok (.aload_n 0, 1) := by decide +kernel
theorem dX1_move_106 : decode cX1_move 106 = .ok (.dup, 1) := by decide +kernel
theorem dX1_move_107 : decode cX1_move 107 = .ok (.getfield 46, 3) := by decide +kernel
theorem dX1_move_110 : decode cX1_move 110 = .ok (.iconst 1, 1) := by decide +kernel
theorem dX1_move_111 : decode cX1_move 111 = .ok (.iadd, 1) := by decide +kernel
theorem dX1_move_112 : decode cX1_move 112 = .ok (.putfield 46, 3) := by decide +kernel
theorem dX1_move_115 : decode cX1_move 115 = .ok (.aload_n 0, 1) := by decide +kernel
theorem dX1_move_116 : decode cX1_move 116 = .ok (.iconst 0, 1) := by decide +kernel
theorem dX1_move_117 : decode cX1_move 117 = .ok (.putfield 49, 3) := by decide +kernel
theorem dX1_move_120 : decode cX1_move 120 = .ok (.aload_n 0, 1) := by decide +kernel
theorem dX1_move_121 : decode cX1_move 121 = .ok (.getfield 46, 3) := by decide +kernel
theorem dX1_move_124 : decode cX1_move 124 = .ok (.ireturn, 1) := by decide +kernel
theorem dX1_back_0 : decode cX1_back 0 = .ok (.iload_n 1, 1) := by decide +kernel
theorem dX1_back_1 : decode cX1_back 1 = .ok (.ifCond .lt 11, 3) := by decide +kernel
theorem dX1_back_4 : decode cX1_back 4 = .ok (.iload_n 1, 1) := by decide +kernel
theorem dX1_back_5 : decode cX1_back 5 = .ok (.aload_n 0, 1) := by decide +kernel
theorem dX1_back_6 : decode cX1_back 6 = .ok (.getfield 46, 3) := by decide +kernel
theorem dX1_back_9 : decode cX1_back 9 = .ok (.if_icmp .le 5, 3) := by decide +kernel
theorem dX1_back_12 : decode cX1_back 12 = .ok (.iconst (-1), 1) := by decide +kernel
theorem dX1_back_13 : decode cX1_back 13 = .ok (.ireturn, 1) := by decide +kernel
theorem dX1_back_14 : decode cX1_back 14 = .ok (.aload_n 0, 1) := by decide +kernel
theorem dX1_back_15 : decode cX1_back 15 = .ok (.dup, 1) := by decide +kernel
theorem dX1_back_16 : decode cX1_back 16 = .ok (.getfield 46, 3) := by decide +kernel
theorem dX1_back_19 : decode cX1_back 19 = .ok (.iload_n 1, 1) := by decide +kernel
theorem dX1_back_20 : decode cX1_back 20 = .ok (.isub, 1) := by decide +kernel
theorem dX1_back_21 : decode cX1_back 21 = .ok (.putfield 46, 3) := by decide +kernel
theorem dX1_back_24 : decode cX1_back 24 = .ok (.aload_n 0, 1) := by decide +kernel
theorem dX1_back_25 : decode cX1_back 25 = .ok (.iconst 0, 1) := by decide +kernel
theorem dX1_back_26 : decode cX1_back 26 = .ok (.putfield 49, 3) := by decide +kernel
theorem dX1_back_29 : decode cX1_back 29 = .ok (.aload_n 0, 1) := by decide +kernel
theorem dX1_back_30 : decode cX1_back 30 = .ok (.getfield 46, 3) := by decide +kernel
theorem dX1_back_33 : decode cX1_back 33 = .ok (.ireturn, 1) := by decide +kernel
theorem dX1_acceleration_0 : decode cX1_acceleration 0 = .ok (.iload_n 1, 1) := by decide +kernel
theorem dX1_acceleration_1 : decode cX1_acceleration 1 = .ok (.iconst 1, 1) := by decide +kernel
theorem dX1_acceleration_2 : decode cX1_acceleration 2 = .ok (.if_icmp .lt 10, 3) := by decide +kernel
theorem dX1_acceleration_5 : decode cX1_acceleration 5 = .ok (.iload_n 1, 1) := by decide +kernel
theorem dX1_acceleration_6 : decode cX1_acceleration 6 = .ok (.sipush 10000, 3) := by decide +kernel
theorem dX1_acceleration_9 : decode cX1_acceleration 9 = .ok (.if_icmp .le 5, 3) := by decide +kernel
theorem dX1_acceleration_12 : decode cX1_acceleration 12 = .ok (.iconst 0, 1) := by decide +kernel
theorem dX1_acceleration_13 : decode cX1_acceleration 13 = .ok (.ireturn, 1) := by decide +kernel
theorem dX1_acceleration_14 : decode cX1_acceleration 14 = .ok (.aload_n 0, 1) := by decide +kernel
theorem dX1_acceleration_15 : decode cX1_acceleration 15 = .ok (.iload_n 1, 1) := by decide +kernel
theorem dX1_acceleration_16 : decode cX1_acceleration 16 = .ok (.putfield 29, 3) := by decide +kernel
theorem dX1_acceleration_19 : decode cX1_acceleration 19 = .ok (.aload_n 0, 1) := by decide +kernel
theorem dX1_acceleration_20 : decode cX1_acceleration 20 = .ok (.iconst 0, 1) := by decide +kernel
theorem dX1_acceleration_21 : decode cX1_acceleration 21 = .ok (.putfield 49, 3) := by decide +kernel
theorem dX1_acceleration_24 : decode cX1_acceleration 24 = .ok (.iconst 1, 1) := by decide +kernel
theorem dX1_acceleration_25 : decode cX1_acceleration 25 = .ok (.ireturn, 1) := by decide +kernel
theorem dX1_limit_0 : decode cX1_limit 0 = .ok (.iload_n 1, 1) := by decide +kernel
theorem dX1_limit_1 : decode cX1_limit 1 = .ok (.ifCond .lt 11, 3) := by decide +kernel
theorem dX1_limit_4 : decode cX1_limit 4 = .ok (.iload_n 1, 1) := by decide +kernel
theorem dX1_limit_5 : decode cX1_limit 5 = .ok (.aload_n 0, 1) := by decide +kernel
theorem dX1_limit_6 : decode cX1_limit 6 = .ok (.getfield 46, 3) := by decide +kernel
theorem dX1_limit_9 : decode cX1_limit 9 = .ok (.if_icmp .le 5, 3) := by decide +kernel
theorem dX1_limit_12 : decode cX1_limit 12 = .ok (.iconst (-1), 1) := by decide +kernel
theorem dX1_limit_13 : decode cX1_limit 13 = .ok (.ireturn, 1) := by decide +kernel
theorem dX1_limit_14 : decode cX1_limit 14 = .ok (.iload_n 1, 1) := by decide +kernel
theorem dX1_limit_15 : decode cX1_limit 15 = .ok (.ifCond .eq 11, 3) := by decide +kernel
theorem dX1_limit_18 : decode cX1_limit 18 = .ok (.iload_n 1, 1) := by decide +kernel
theorem dX1_limit_19 : decode cX1_limit 19 = .ok (.aload_n 0, 1) := by decide +kernel
theorem dX1_limit_20 : decode cX1_limit 20 = .ok (.getfield 46, 3) := by decide +kernel
theorem dX1_limit_23 : decode cX1_limit 23 = .ok (.if_icmp .ne 5, 3) := by decide +kernel
theorem dX1_limit_26 : decode cX1_limit 26 = .ok (.iconst 0, 1) := by decide +kernel
theorem dX1_limit_27 : decode cX1_limit 27 = .ok (.ireturn, 1) := by decide +kernel
theorem dX1_limit_28 : decode cX1_limit 28 = .ok (.iconst 0, 1) := by decide +kernel
theorem dX1_limit_29 : decode cX1_limit 29 = .ok (.istore_n 2, 1) := by decide +kernel
theorem dX1_limit_30 : decode cX1_limit 30 = .ok (.iconst 0, 1) := by decide +kernel
theorem dX1_limit_31 : decode cX1_limit 31 = .ok (.istore_n 3, 1) := by decide +kernel
theorem dX1_limit_32 : decode cX1_limit 32 = .ok (.iconst 0, 1) := by decide +kernel
theorem dX1_limit_33 : decode cX1_limit 33 = .ok (.istore 4, 2) := by decide +kernel
theorem dX1_limit_35 : decode cX1_limit 35 = .ok (.iconst 0, 1) := by decide +kernel
theorem dX1_limit_36 : decode cX1_limit 36 = .ok (.istore 5, 2) := by decide +kernel
theorem dX1_limit_38 : decode cX1_limit 38 = .ok (.iload 5, 2) := by decide +kernel
theorem dX1_limit_40 : decode cX1_limit 40 = .ok (.iconst 3, 1) := by decide +kernel
theorem dX1_limit_41 : decode cX1_limit 41 = .ok (.if_icmp .ge 63, 3) := by decide +kernel
theorem dX1_limit_44 : decode cX1_limit 44 = .ok (.aload_n 0, 1) := by decide +kernel
theorem dX1_limit_45 : decode cX1_limit 45 = .ok (.getfield 20, 3) := by decide +kernel
theorem dX1_limit_48 : decode cX1_limit 48 = .ok (.iconst 3, 1) := by decide +kernel
theorem dX1_limit_49 : decode cX1_limit 49 = .ok (.iload_n 1, 1) := by decide +kernel
theorem dX1_limit_50 : decode cX1_limit 50 = .ok (.iconst 1, 1) := by decide +kernel
theorem dX1_limit_51 : decode cX1_limit 51 = .ok (.isub, 1) := by decide +kernel
theorem dX1_limit_52 : decode cX1_limit 52 = .ok (.imul, 1) := by decide +kernel
theorem dX1_limit_53 : decode cX1_limit 53 = .ok (.iload 5, 2) := by decide +kernel
theorem dX1_limit_55 : decode cX1_limit 55 = .ok (.iadd, 1) := by decide +kernel
theorem dX1_limit_56 : decode cX1_limit 56 = .ok (.baload, 1) := by decide +kernel
theorem dX1_limit_57 : decode cX1_limit 57 = .ok (.istore 6, 2) := by decide +kernel
theorem dX1_limit_59 : decode cX1_limit 59 = .ok (.aload_n 0, 1) := by decide +kernel
theorem dX1_limit_60 : decode cX1_limit 60 = .ok (.getfield 16, 3) := by decide +kernel
theorem dX1_limit_63 : decode cX1_limit 63 = .ok (.iconst 3, 1) := by decide +kernel
theorem dX1_limit_64 : decode cX1_limit 64 = .ok (.iload_n 1, 1) := by decide +kernel
theorem dX1_limit_65 : decode cX1_limit 65 = .ok (.imul, 1) := by decide +kernel
theorem dX1_limit_66 : decode cX1_limit 66 = .ok (.iload 5, 2) := by decide +kernel
theorem dX1_limit_68 : decode cX1_limit 68 = .ok (.iadd, 1) := by decide +kernel
theorem dX1_limit_69 : decode cX1_limit 69 = .ok (.baload, 1) := by decide +kernel
theorem dX1_limit_70 : decode cX1_limit 70 = .ok (.istore 7, 2) := by decide +kernel
theorem dX1_limit_72 : decode cX1_limit 72 = .ok (.iload_n 2, 1) := by decide +kernel
theorem dX1_limit_73 : decode cX1_limit 73 = .ok (.iload 6, 2) := by decide +kernel
theorem dX1_limit_75 : decode cX1_limit 75 = .ok (.iload 7, 2) := by decide +kernel
theorem dX1_limit_77 : decode cX1_limit 77 = .ok (.imul, 1) := by decide +kernel
theorem dX1_limit_78 : decode cX1_limit 78 = .ok (.iadd, 1) := by decide +kernel
theorem dX1_limit_79 : decode cX1_limit 79 = .ok (.istore_n 2, 1) := by decide +kernel
theorem dX1_limit_80 : decode cX1_limit 80 = .ok (.iload_n 3, 1) := by decide +kernel
theorem dX1_limit_81 : decode cX1_limit 81 = .ok (.iload 6, 2) := by decide +kernel
theorem dX1_limit_83 : decode cX1_limit 83 = .ok (.iload 6, 2) := by decide +kernel
theorem dX1_limit_85 : decode cX1_limit 85 = .ok (.imul, 1) := by decide +kernel
theorem dX1_limit_86 : decode cX1_limit 86 = .ok (.iadd, 1) := by decide +kernel
theorem dX1_limit_87 : decode cX1_limit 87 = .ok (.istore_n 3, 1) := by decide +kernel
theorem dX1_limit_88 : decode cX1_limit 88 = .ok (.iload 4, 2) := by decide +kernel
theorem dX1_limit_90 : decode cX1_limit 90 = .ok (.iload 7, 2) := by decide +kernel
theorem dX1_limit_92 : decode cX1_limit 92 = .ok (.iload 7, 2) := by decide +kernel
theorem dX1_limit_94 : decode cX1_limit 94 = .ok (.imul, 1) := by decide +kernel
theorem dX1_limit_95 : decode cX1_limit 95 = .ok (.iadd, 1) := by decide +kernel
theorem dX1_limit_96 : decode cX1_limit 96 = .ok (.istore 4, 2) := by decide +kernel
theorem dX1_limit_98 : decode cX1_limit 98 = .ok (.iinc 5 1, 3) := by decide +kernel
theorem dX1_limit_101 : decode cX1_limit 101 = .ok (.goto (-63), 3) := by decide +kernel
theorem dX1_limit_104 : decode cX1_limit 104 = .ok (.aload_n 0, 1) := by decide +kernel
theorem dX1_limit_105 : decode cX1_limit 105 = .ok (.getfield 13, 3) := by decide +kernel
theorem dX1_limit_108 : decode cX1_limit 108 = .ok (.iload_n 1, 1) := by decide +kernel
theorem dX1_limit_109 : decode cX1_limit 109 = .ok (.iconst 1, 1) := by decide +kernel
theorem dX1_limit_110 : decode cX1_limit 110 = .ok (.isub, 1) := by decide +kernel
theorem dX1_limit_111 : decode cX1_limit 111 = .ok (.iaload, 1) := by decide +kernel
theorem dX1_limit_112 : decode cX1_limit 112 = .ok (.aload_n 0, 1) := by decide +kernel
theorem dX1_limit_113 : decode cX1_limit 113 = .ok (.getfield 13, 3) := by decide +kernel
theorem dX1_limit_116 : decode cX1_limit 116 = .ok (.iload_n 1, 1) := by decide +kernel
theorem dX1_limit_117 : decode cX1_limit 117 = .ok (.iaload, 1) := by decide +kernel
theorem dX1_limit_118 : decode cX1_limit 118 = .ok (.invokestatic 53, 3) := by decide +kernel
theorem dX1_limit_121 : decode cX1_limit 121 = .ok (.iload_n 2, 1) := by decide +kernel
theorem dX1_limit_122 : decode cX1_limit 122 = .ok (.iconst 0, 1) := by decide +kernel
theorem dX1_limit_123 : decode cX1_limit 123 = .ok (.invokestatic 59, 3) := by decide +kernel
theorem dX1_limit_126 : decode cX1_limit 126 = .ok (.imul, 1) := by decide +kernel
theorem dX1_limit_127 : decode cX1_limit 127 = .ok (.iload_n 3, 1) := by decide +kernel
theorem dX1_limit_128 : decode cX1_limit 128 = .ok (.iload 4, 2) := by decide +kernel
theorem dX1_limit_130 : decode cX1_limit 130 = .ok (.invokestatic 59, 3) := by decide +kernel
theorem dX1_limit_133 : decode cX1_limit 133 = .ok (.idiv, 1) := by decide +kernel
theorem dX1_limit_134 : decode cX1_limit 134 = .ok (.ireturn, 1) := by decide +kernel
theorem dX1_root_0 : decode cX1_root 0 = .ok (.lconst 0, 1) := by decide +kernel
theorem dX1_root_1 : decode cX1_root 1 = .ok (.lstore_n 2, 1) := by decide +kernel
theorem dX1_root_2 : decode cX1_root 2 = .ok (.ldc2_w 62, 3) := by decide +kernel
theorem dX1_root_5 : decode cX1_root 5 = .ok (.lstore 4, 2) := by decide +kernel
theorem dX1_root_7 : decode cX1_root 7 = .ok (.lload_n 2, 1) := by decide +kernel
theorem dX1_root_8 : decode cX1_root 8 = .ok (.lload 4, 2) := by decide +kernel
theorem dX1_root_10 : decode cX1_root 10 = .ok (.lcmp, 1) := by decide +kernel
theorem dX1_root_11 : decode cX1_root 11 = .ok (.ifCond .ge 40, 3) := by decide +kernel
theorem dX1_root_14 : decode cX1_root 14 = .ok (.lload_n 2, 1) := by decide +kernel
theorem dX1_root_15 : decode cX1_root 15 = .ok (.lload 4, 2) := by decide +kernel
theorem dX1_root_17 : decode cX1_root 17 = .ok (.ladd, 1) := by decide +kernel
theorem dX1_root_18 : decode cX1_root 18 = .ok (.lconst 1, 1) := by decide +kernel
theorem dX1_root_19 : decode cX1_root 19 = .ok (.ladd, 1) := by decide +kernel
theorem dX1_root_20 : decode cX1_root 20 = .ok (.ldc2_w 64, 3) := by decide +kernel
theorem dX1_root_23 : decode cX1_root 23 = .ok (.ldiv, 1) := by decide +kernel
theorem dX1_root_24 : decode cX1_root 24 = .ok (.lstore 6, 2) := by decide +kernel
theorem dX1_root_26 : decode cX1_root 26 = .ok (.lload 6, 2) := by decide +kernel
theorem dX1_root_28 : decode cX1_root 28 = .ok (.lload 6, 2) := by decide +kernel
theorem dX1_root_30 : decode cX1_root 30 = .ok (.lmul, 1) := by decide +kernel
theorem dX1_root_31 : decode cX1_root 31 = .ok (.lload_n 0, 1) := by decide +kernel
theorem dX1_root_32 : decode cX1_root 32 = .ok (.lcmp, 1) := by decide +kernel
theorem dX1_root_33 : decode cX1_root 33 = .ok (.ifCond .gt 9, 3) := by decide +kernel
theorem dX1_root_36 : decode cX1_root 36 = .ok (.lload 6, 2) := by decide +kernel
theorem dX1_root_38 : decode cX1_root 38 = .ok (.lstore_n 2, 1) := by decide +kernel
theorem dX1_root_39 : decode cX1_root 39 = .ok (.goto 9, 3) := by decide +kernel
theorem dX1_root_42 : decode cX1_root 42 = .ok (.lload 6, 2) := by decide +kernel
theorem dX1_root_44 : decode cX1_root 44 = .ok (.lconst 1, 1) := by decide +kernel
theorem dX1_root_45 : decode cX1_root 45 = .ok (.lsub, 1) := by decide +kernel
theorem dX1_root_46 : decode cX1_root 46 = .ok (.lstore 4, 2) := by decide +kernel
theorem dX1_root_48 : decode cX1_root 48 = .ok (.goto (-41), 3) := by decide +kernel
theorem dX1_root_51 : decode cX1_root 51 = .ok (.lload_n 2, 1) := by decide +kernel
theorem dX1_root_52 : decode cX1_root 52 = .ok (.lreturn, 1) := by decide +kernel
set_option maxRecDepth 20000 in
theorem ggX1_reach_X1_root : GoodIn wsX1_reach wsX1_root := goodIn_r _ [7, 8, 1] (by decide +kernel) (by decide +kernel)
set_option maxRecDepth 20000 in
theorem gX1_reach_X1_root : GoodIn wsX1_reach (va_wsS RX1 66 yX1_root wsX1_root) := goodIn_app (goodIn_of _ (by decide +kernel)) ggX1_reach_X1_root
theorem dX1_reach_0 : decode cX1_reach 0 = .ok (.iload_n 1, 1) := by decide +kernel
theorem dX1_reach_1 : decode cX1_reach 1 = .ok (.i2l, 1) := by decide +kernel
theorem dX1_reach_2 : decode cX1_reach 2 = .ok (.iload_n 1, 1) := by decide +kernel
theorem dX1_reach_3 : decode cX1_reach 3 = .ok (.i2l, 1) := by decide +kernel
theorem dX1_reach_4 : decode cX1_reach 4 = .ok (.lmul, 1) := by decide +kernel
theorem dX1_reach_5 : decode cX1_reach 5 = .ok (.ldc2_w 64, 3) := by decide +kernel
theorem dX1_reach_8 : decode cX1_reach 8 = .ok (.aload_n 0, 1) := by decide +kernel
theorem dX1_reach_9 : decode cX1_reach 9 = .ok (.getfield 29, 3) := by decide +kernel
theorem dX1_reach_12 : decode cX1_reach 12 = .ok (.i2l, 1) := by decide +kernel
theorem dX1_reach_13 : decode cX1_reach 13 = .ok (.lmul, 1) := by decide +kernel
theorem dX1_reach_14 : decode cX1_reach 14 = .ok (.aload_n 0, 1) := by decide +kernel
theorem dX1_reach_15 : decode cX1_reach 15 = .ok (.getfield 9, 3) := by decide +kernel
theorem dX1_reach_18 : decode cX1_reach 18 = .ok (.iload_n 2, 1) := by decide +kernel
theorem dX1_reach_19 : decode cX1_reach 19 = .ok (.iaload, 1) := by decide +kernel
theorem dX1_reach_20 : decode cX1_reach 20 = .ok (.i2l, 1) := by decide +kernel
theorem dX1_reach_21 : decode cX1_reach 21 = .ok (.lmul, 1) := by decide +kernel
theorem dX1_reach_22 : decode cX1_reach 22 = .ok (.ladd, 1) := by decide +kernel
theorem dX1_reach_23 : decode cX1_reach 23 = .ok (.invokestatic 66, 3) := by decide +kernel
theorem dX1_reach_26 : decode cX1_reach 26 = .ok (.l2i, 1) := by decide +kernel
theorem dX1_reach_27 : decode cX1_reach 27 = .ok (.ireturn, 1) := by decide +kernel
theorem dX1_lowered_0 : decode cX1_lowered 0 = .ok (.aload_n 0, 1) := by decide +kernel
theorem dX1_lowered_1 : decode cX1_lowered 1 = .ok (.getfield 33, 3) := by decide +kernel
theorem dX1_lowered_4 : decode cX1_lowered 4 = .ok (.iload_n 1, 1) := by decide +kernel
theorem dX1_lowered_5 : decode cX1_lowered 5 = .ok (.iaload, 1) := by decide +kernel
theorem dX1_lowered_6 : decode cX1_lowered 6 = .ok (.iload_n 2, 1) := by decide +kernel
theorem dX1_lowered_7 : decode cX1_lowered 7 = .ok (.if_icmp .gt 5, 3) := by decide +kernel
theorem dX1_lowered_10 : decode cX1_lowered 10 = .ok (.iconst 0, 1) := by decide +kernel
theorem dX1_lowered_11 : decode cX1_lowered 11 = .ok (.ireturn, 1) := by decide +kernel
theorem dX1_lowered_12 : decode cX1_lowered 12 = .ok (.aload_n 0, 1) := by decide +kernel
theorem dX1_lowered_13 : decode cX1_lowered 13 = .ok (.getfield 33, 3) := by decide +kernel
theorem dX1_lowered_16 : decode cX1_lowered 16 = .ok (.iload_n 1, 1) := by decide +kernel
theorem dX1_lowered_17 : decode cX1_lowered 17 = .ok (.iload_n 2, 1) := by decide +kernel
theorem dX1_lowered_18 : decode cX1_lowered 18 = .ok (.iastore, 1) := by decide +kernel
theorem dX1_lowered_19 : decode cX1_lowered 19 = .ok (.iconst 1, 1) := by decide +kernel
theorem dX1_lowered_20 : decode cX1_lowered 20 = .ok (.ireturn, 1) := by decide +kernel
set_option maxRecDepth 20000 in
theorem ggX1_know_X1_limit : GoodIn wsX1_know wsX1_limit := goodIn_r _ [8, 2, 9, 10, 11, 12, 13, 14, 15, 16, 17, 18, 34, 35, 36, 37, 38, 39, 40, 41, 42, 43] (by decide +kernel) (by decide +kernel)
set_option maxRecDepth 20000 in
theorem gX1_know_X1_limit : GoodIn wsX1_know (wsV RX1 70 RX1 yX1_limit wsX1_limit) := goodIn_app (goodIn_of _ (by decide +kernel)) ggX1_know_X1_limit
set_option maxRecDepth 20000 in
theorem ggX1_know_X1_reach : GoodIn wsX1_know wsX1_reach := goodIn_r _ [22, 23, 24, 25, 26, 27, 7, 28, 29, 34, 35, 36, 37, 38, 39, 40, 41, 42, 43] (by decide +kernel) (by decide +kernel)
set_option maxRecDepth 20000 in
theorem gX1_know_X1_reach : GoodIn wsX1_know (wsV RX1 74 RX1 yX1_reach wsX1_reach) := goodIn_app (goodIn_of _ (by decide +kernel)) ggX1_know_X1_reach
set_option maxRecDepth 20000 in
theorem ggX1_know_X1_lowered : GoodIn wsX1_know wsX1_lowered := goodIn_r _ [33, 3, 34, 35, 36, 37, 38, 39, 40, 41, 42, 43] (by decide +kernel) (by decide +kernel)
set_option maxRecDepth 20000 in
theorem gX1_know_X1_lowered : GoodIn wsX1_know (wsV RX1 77 RX1 yX1_lowered wsX1_lowered) := goodIn_app (goodIn_of _ (by decide +kernel)) ggX1_know_X1_lowered
theorem dX1_know_0 : decode cX1_know 0 = .ok (.aload_n 0, 1) := by decide +kernel
theorem dX1_know_1 : decode cX1_know 1 = .ok (.getfield 49, 3) := by decide +kernel
theorem dX1_know_4 : decode cX1_know 4 = .ok (.ifCond .eq 4, 3) := by decide +kernel
theorem dX1_know_7 : decode cX1_know 7 = .ok (.return_, 1) := by decide +kernel
theorem dX1_know_8 : decode cX1_know 8 = .ok (.aload_n 0, 1) := by decide +kernel
theorem dX1_know_9 : decode cX1_know 9 = .ok (.iconst 1, 1) := by decide +kernel
theorem dX1_know_10 : decode cX1_know 10 = .ok (.putfield 49, 3) := by decide +kernel
theorem dX1_know_13 : decode cX1_know 13 = .ok (.iconst 0, 1) := by decide +kernel
theorem dX1_know_14 : decode cX1_know 14 = .ok (.istore_n 1, 1) := by decide +kernel
theorem dX1_know_15 : decode cX1_know 15 = .ok (.iload_n 1, 1) := by decide +kernel
theorem dX1_know_16 : decode cX1_know 16 = .ok (.aload_n 0, 1) := by decide +kernel
theorem dX1_know_17 : decode cX1_know 17 = .ok (.getfield 46, 3) := by decide +kernel
theorem dX1_know_20 : decode cX1_know 20 = .ok (.if_icmp .gt 20, 3) := by decide +kernel
theorem dX1_know_23 : decode cX1_know 23 = .ok (.aload_n 0, 1) := by decide +kernel
theorem dX1_know_24 : decode cX1_know 24 = .ok (.getfield 33, 3) := by decide +kernel
theorem dX1_know_27 : decode cX1_know 27 = .ok (.iload_n 1, 1) := by decide +kernel
theorem dX1_know_28 : decode cX1_know 28 = .ok (.aload_n 0, 1) := by decide +kernel
theorem dX1_know_29 : decode cX1_know 29 = .ok (.iload_n 1, 1) := by decide +kernel
theorem dX1_know_30 : decode cX1_know 30 = .ok (.invokevirtual 70, 3) := by decide +kernel
theorem dX1_know_33 : decode cX1_know 33 = .ok (.iastore, 1) := by decide +kernel
theorem dX1_know_34 : decode cX1_know 34 = .ok (.iinc 1 1, 3) := by decide +kernel
theorem dX1_know_37 : decode cX1_know 37 = .ok (.goto (-22), 3) := by decide +kernel
theorem dX1_know_40 : decode cX1_know 40 = .ok (.iconst 1, 1) := by decide +kernel
theorem dX1_know_41 : decode cX1_know 41 = .ok (.istore_n 1, 1) := by decide +kernel
theorem dX1_know_42 : decode cX1_know 42 = .ok (.iload_n 1, 1) := by decide +kernel
theorem dX1_know_43 : decode cX1_know 43 = .ok (.ifCond .eq 103, 3) := by decide +kernel
theorem dX1_know_46 : decode cX1_know 46 = .ok (.iconst 0, 1) := by decide +kernel
theorem dX1_know_47 : decode cX1_know 47 = .ok (.istore_n 1, 1) := by decide +kernel
theorem dX1_know_48 : decode cX1_know 48 = .ok (.iconst 0, 1) := by decide +kernel
theorem dX1_know_49 : decode cX1_know 49 = .ok (.istore_n 2, 1) := by decide +kernel
theorem dX1_know_50 : decode cX1_know 50 = .ok (.iload_n 2, 1) := by decide +kernel
theorem dX1_know_51 : decode cX1_know 51 = .ok (.aload_n 0, 1) := by decide +kernel
theorem dX1_know_52 : decode cX1_know 52 = .ok (.getfield 46, 3) := by decide +kernel
theorem dX1_know_55 : decode cX1_know 55 = .ok (.if_icmp .ge 40, 3) := by decide +kernel
theorem dX1_know_58 : decode cX1_know 58 = .ok (.aload_n 0, 1) := by decide +kernel
theorem dX1_know_59 : decode cX1_know 59 = .ok (.iload_n 2, 1) := by decide +kernel
theorem dX1_know_60 : decode cX1_know 60 = .ok (.iconst 1, 1) := by decide +kernel
theorem dX1_know_61 : decode cX1_know 61 = .ok (.iadd, 1) := by decide +kernel
theorem dX1_know_62 : decode cX1_know 62 = .ok (.aload_n 0, 1) := by decide +kernel
theorem dX1_know_63 : decode cX1_know 63 = .ok (.aload_n 0, 1) := by decide +kernel
theorem dX1_know_64 : decode cX1_know 64 = .ok (.getfield 33, 3) := by decide +kernel
theorem dX1_know_67 : decode cX1_know 67 = .ok (.iload_n 2, 1) := by decide +kernel
theorem dX1_know_68 : decode cX1_know 68 = .ok (.iaload, 1) := by decide +kernel
theorem dX1_know_69 : decode cX1_know 69 = .ok (.iload_n 2, 1) := by decide +kernel
theorem dX1_know_70 : decode cX1_know 70 = .ok (.invokevirtual 74, 3) := by decide +kernel
theorem dX1_know_73 : decode cX1_know 73 = .ok (.invokevirtual 77, 3) := by decide +kernel
theorem dX1_know_76 : decode cX1_know 76 = .ok (.ifCond .ne 7, 3) := by decide +kernel
theorem dX1_know_79 : decode cX1_know 79 = .ok (.iload_n 1, 1) := by decide +kernel
theorem dX1_know_80 : decode cX1_know 80 = .ok (.ifCond .eq 7, 3) := by decide +kernel
theorem dX1_know_83 : decode cX1_know 83 = .ok (.iconst 1, 1) := by decide +kernel
theorem dX1_know_84 : decode cX1_know 84 = .ok (.goto 4, 3) := by decide +kernel
theorem dX1_know_87 : decode cX1_know 87 = .ok (.iconst 0, 1) := by decide +kernel
theorem dX1_know_88 : decode cX1_know 88 = .ok (.istore_n 1, 1) := by decide +kernel
theorem dX1_know_89 : decode cX1_know 89 = .ok (.iinc 2 1, 3) := by decide +kernel
theorem dX1_know_92 : decode cX1_know 92 = .ok (.goto (-42), 3) := by decide +kernel
theorem dX1_know_95 : decode cX1_know 95 = .ok (.aload_n 0, 1) := by decide +kernel
theorem dX1_know_96 : decode cX1_know 96 = .ok (.getfield 46, 3) := by decide +kernel
theorem dX1_know_99 : decode cX1_know 99 = .ok (.istore_n 2, 1) := by decide +kernel
theorem dX1_know_100 : decode cX1_know 100 = .ok (.iload_n 2, 1) := by decide +kernel
theorem dX1_know_101 : decode cX1_know 101 = .ok (.ifCond .le 42, 3) := by decide +kernel
theorem dX1_know_104 : decode cX1_know 104 = .ok (.aload_n 0, 1) := by decide +kernel
theorem dX1_know_105 : decode cX1_know 105 = .ok (.iload_n 2, 1) := by decide +kernel
theorem dX1_know_106 : decode cX1_know 106 = .ok (.iconst 1, 1) := by decide +kernel
theorem dX1_know_107 : decode cX1_know 107 = .ok (.isub, 1) := by decide +kernel
theorem dX1_know_108 : decode cX1_know 108 = .ok (.aload_n 0, 1) := by decide +kernel
theorem dX1_know_109 : decode cX1_know 109 = .ok (.aload_n 0, 1) := by decide +kernel
theorem dX1_know_110 : decode cX1_know 110 = .ok (.getfield 33, 3) := by decide +kernel
theorem dX1_know_113 : decode cX1_know 113 = .ok (.iload_n 2, 1) := by decide +kernel
theorem dX1_know_114 : decode cX1_know 114 = .ok (.iaload, 1) := by decide +kernel
theorem dX1_know_115 : decode cX1_know 115 = .ok (.iload_n 2, 1) := by decide +kernel
theorem dX1_know_116 : decode cX1_know 116 = .ok (.iconst 1, 1) := by decide +kernel
theorem dX1_know_117 : decode cX1_know 117 = .ok (.isub, 1) := by decide +kernel
theorem dX1_know_118 : decode cX1_know 118 = .ok (.invokevirtual 74, 3) := by decide +kernel
theorem dX1_know_121 : decode cX1_know 121 = .ok (.invokevirtual 77, 3) := by decide +kernel
theorem dX1_know_124 : decode cX1_know 124 = .ok (.ifCond .ne 7, 3) := by decide +kernel
theorem dX1_know_127 : decode cX1_know 127 = .ok (.iload_n 1, 1) := by decide +kernel
theorem dX1_know_128 : decode cX1_know 128 = .ok (.ifCond .eq 7, 3) := by decide +kernel
theorem dX1_know_131 : decode cX1_know 131 = .ok (.iconst 1, 1) := by decide +kernel
theorem dX1_know_132 : decode cX1_know 132 = .ok (.goto 4, 3) := by decide +kernel
theorem dX1_know_135 : decode cX1_know 135 = .ok (.iconst 0, 1) := by decide +kernel
theorem dX1_know_136 : decode cX1_know 136 = .ok (.istore_n 1, 1) := by decide +kernel
theorem dX1_know_137 : decode cX1_know 137 = .ok (.iinc 2 (-1), 3) := by decide +kernel
theorem dX1_know_140 : decode cX1_know 140 = .ok (.goto (-40), 3) := by decide +kernel
theorem dX1_know_143 : decode cX1_know 143 = .ok (.goto (-101), 3) := by decide +kernel
theorem dX1_know_146 : decode cX1_know 146 = .ok (.return_, 1) := by decide +kernel
set_option maxRecDepth 20000 in
theorem ggX1_speed_X1_know : GoodIn wsX1_speed wsX1_know := goodIn_r _ [7, 8, 1, 2, 9, 10, 11, 6, 12, 13, 14, 15, 16, 17, 18, 19, 20, 21, 22, 23, 24, 25, 26, 27, 28, 29, 30, 31, 32, 33, 34, 35, 36, 37, 38, 39, 40, 41, 42, 43, 44, 45, 46, 47] (by decide +kernel) (by decide +kernel)
set_option maxRecDepth 20000 in
theorem gX1_speed_X1_know : GoodIn wsX1_speed (wsV RX1 81 RX1 yX1_know wsX1_know) := goodIn_app (goodIn_of _ (by decide +kernel)) ggX1_speed_X1_know
theorem dX1_speed_0 : decode cX1_speed 0 = .ok (.aload_n 0, 1) := by decide +kernel
theorem dX1_speed_1 : decode cX1_speed 1 = .ok (.invokevirtual 81, 3) := by decide +kernel
theorem dX1_speed_4 : decode cX1_speed 4 = .ok (.iload_n 1, 1) := by decide +kernel
theorem dX1_speed_5 : decode cX1_speed 5 = .ok (.ifCond .lt 11, 3) := by decide +kernel
theorem dX1_speed_8 : decode cX1_speed 8 = .ok (.iload_n 1, 1) := by decide +kernel
theorem dX1_speed_9 : decode cX1_speed 9 = .ok (.aload_n 0, 1) := by decide +kernel
theorem dX1_speed_10 : decode cX1_speed 10 = .ok (.getfield 46, 3) := by decide +kernel
theorem dX1_speed_13 : decode cX1_speed 13 = .ok (.if_icmp .le 7, 3) := by decide +kernel
theorem dX1_speed_16 : decode cX1_speed 16 = .ok (.iconst (-1), 1) := by decide +kernel
theorem dX1_speed_17 : decode cX1_speed 17 = .ok (.goto 9, 3) := by decide +kernel
theorem dX1_speed_20 : decode cX1_speed 20 = .ok (.aload_n 0, 1) := by decide +kernel
theorem dX1_speed_21 : decode cX1_speed 21 = .ok (.getfield 33, 3) := by decide +kernel
theorem dX1_speed_24 : decode cX1_speed 24 = .ok (.iload_n 1, 1) := by decide +kernel
theorem dX1_speed_25 : decode cX1_speed 25 = .ok (.iaload, 1) := by decide +kernel
theorem dX1_speed_26 : decode cX1_speed 26 = .ok (.ireturn, 1) := by decide +kernel
set_option maxRecDepth 20000 in
theorem ggX1_sum_X1_know : GoodIn wsX1_sum wsX1_know := goodIn_r _ [7, 8, 1, 2, 9, 10, 11, 6, 12, 13, 14, 15, 16, 17, 18, 19, 20, 21, 22, 23, 24, 25, 26, 27, 28, 29, 30, 31, 32, 33, 34, 35, 36, 37, 38, 39, 40, 41, 42, 43, 44, 45, 46, 47] (by decide +kernel) (by decide +kernel)
set_option maxRecDepth 20000 in
theorem gX1_sum_X1_know : GoodIn wsX1_sum (wsV RX1 81 RX1 yX1_know wsX1_know) := goodIn_app (goodIn_of _ (by decide +kernel)) ggX1_sum_X1_know
theorem dX1_sum_0 : decode cX1_sum 0 = .ok (.aload_n 0, 1) := by decide +kernel
theorem dX1_sum_1 : decode cX1_sum 1 = .ok (.invokevirtual 81, 3) := by decide +kernel
theorem dX1_sum_4 : decode cX1_sum 4 = .ok (.lconst 0, 1) := by decide +kernel
theorem dX1_sum_5 : decode cX1_sum 5 = .ok (.lstore_n 1, 1) := by decide +kernel
theorem dX1_sum_6 : decode cX1_sum 6 = .ok (.iconst 0, 1) := by decide +kernel
theorem dX1_sum_7 : decode cX1_sum 7 = .ok (.istore_n 3, 1) := by decide +kernel
theorem dX1_sum_8 : decode cX1_sum 8 = .ok (.iload_n 3, 1) := by decide +kernel
theorem dX1_sum_9 : decode cX1_sum 9 = .ok (.aload_n 0, 1) := by decide +kernel
theorem dX1_sum_10 : decode cX1_sum 10 = .ok (.getfield 46, 3) := by decide +kernel
theorem dX1_sum_13 : decode cX1_sum 13 = .ok (.if_icmp .gt 19, 3) := by decide +kernel
theorem dX1_sum_16 : decode cX1_sum 16 = .ok (.lload_n 1, 1) := by decide +kernel
theorem dX1_sum_17 : decode cX1_sum 17 = .ok (.aload_n 0, 1) := by decide +kernel
theorem dX1_sum_18 : decode cX1_sum 18 = .ok (.getfield 33, 3) := by decide +kernel
theorem dX1_sum_21 : decode cX1_sum 21 = .ok (.iload_n 3, 1) := by decide +kernel
theorem dX1_sum_22 : decode cX1_sum 22 = .ok (.iaload, 1) := by decide +kernel
theorem dX1_sum_23 : decode cX1_sum 23 = .ok (.i2l, 1) := by decide +kernel
theorem dX1_sum_24 : decode cX1_sum 24 = .ok (.ladd, 1) := by decide +kernel
theorem dX1_sum_25 : decode cX1_sum 25 = .ok (.lstore_n 1, 1) := by decide +kernel
theorem dX1_sum_26 : decode cX1_sum 26 = .ok (.iinc 3 1, 3) := by decide +kernel
theorem dX1_sum_29 : decode cX1_sum 29 = .ok (.goto (-21), 3) := by decide +kernel
theorem dX1_sum_32 : decode cX1_sum 32 = .ok (.lload_n 1, 1) := by decide +kernel
theorem dX1_sum_33 : decode cX1_sum 33 = .ok (.lreturn, 1) := by decide +kernel
set_option maxRecDepth 20000 in
theorem ggX1_below_X1_know : GoodIn wsX1_below wsX1_know := goodIn_r _ [7, 8, 1, 2, 9, 10, 11, 6, 12, 13, 14, 15, 16, 17, 18, 19, 20, 21, 22, 23, 24, 25, 26, 27, 28, 29, 30, 31, 32, 33, 34, 35, 36, 37, 38, 39, 40, 41, 42, 43, 44, 45, 46, 47] (by decide +kernel) (by decide +kernel)
set_option maxRecDepth 20000 in
theorem gX1_below_X1_know : GoodIn wsX1_below (wsV RX1 81 RX1 yX1_know wsX1_know) := goodIn_app (goodIn_of _ (by decide +kernel)) ggX1_below_X1_know
set_option maxRecDepth 20000 in
theorem ggX1_below_X1_limit : GoodIn wsX1_below wsX1_limit := goodIn_r _ [12, 1, 13, 14, 15, 16, 17, 18, 19, 20, 21, 22, 38, 39, 40, 41, 42, 43, 44, 45, 46, 47] (by decide +kernel) (by decide +kernel)
set_option maxRecDepth 20000 in
theorem gX1_below_X1_limit : GoodIn wsX1_below (wsV RX1 70 RX1 yX1_limit wsX1_limit) := goodIn_app (goodIn_of _ (by decide +kernel)) ggX1_below_X1_limit
theorem dX1_below_0 : decode cX1_below 0 = .ok (.aload_n 0, 1) := by decide +kernel
theorem dX1_below_1 : decode cX1_below 1 = .ok (.invokevirtual 81, 3) := by decide +kernel
theorem dX1_below_4 : decode cX1_below 4 = .ok (.iconst 0, 1) := by decide +kernel
theorem dX1_below_5 : decode cX1_below 5 = .ok (.istore_n 1, 1) := by decide +kernel
theorem dX1_below_6 : decode cX1_below 6 = .ok (.iconst 0, 1) := by decide +kernel
theorem dX1_below_7 : decode cX1_below 7 = .ok (.istore_n 2, 1) := by decide +kernel
theorem dX1_below_8 : decode cX1_below 8 = .ok (.iload_n 2, 1) := by decide +kernel
theorem dX1_below_9 : decode cX1_below 9 = .ok (.aload_n 0, 1) := by decide +kernel
theorem dX1_below_10 : decode cX1_below 10 = .ok (.getfield 46, 3) := by decide +kernel
theorem dX1_below_13 : decode cX1_below 13 = .ok (.if_icmp .gt 26, 3) := by decide +kernel
theorem dX1_below_16 : decode cX1_below 16 = .ok (.aload_n 0, 1) := by decide +kernel
theorem dX1_below_17 : decode cX1_below 17 = .ok (.getfield 33, 3) := by decide +kernel
theorem dX1_below_20 : decode cX1_below 20 = .ok (.iload_n 2, 1) := by decide +kernel
theorem dX1_below_21 : decode cX1_below 21 = .ok (.iaload, 1) := by decide +kernel
theorem dX1_below_22 : decode cX1_below 22 = .ok (.aload_n 0, 1) := by decide +kernel
theorem dX1_below_23 : decode cX1_below 23 = .ok (.iload_n 2, 1) := by decide +kernel
theorem dX1_below_24 : decode cX1_below 24 = .ok (.invokevirtual 70, 3) := by decide +kernel
theorem dX1_below_27 : decode cX1_below 27 = .ok (.if_icmp .ge 6, 3) := by decide +kernel
theorem dX1_below_30 : decode cX1_below 30 = .ok (.iinc 1 1, 3) := by decide +kernel
theorem dX1_below_33 : decode cX1_below 33 = .ok (.iinc 2 1, 3) := by decide +kernel
theorem dX1_below_36 : decode cX1_below 36 = .ok (.goto (-28), 3) := by decide +kernel
theorem dX1_below_39 : decode cX1_below 39 = .ok (.iload_n 1, 1) := by decide +kernel
theorem dX1_below_40 : decode cX1_below 40 = .ok (.ireturn, 1) := by decide +kernel
theorem dJ9_max_7cf53_0 : decode cJ9_max_7cf53 0 = .ok (.iload_n 0, 1) := by decide +kernel
theorem dJ9_max_7cf53_1 : decode cJ9_max_7cf53 1 = .ok (.iload_n 1, 1) := by decide +kernel
theorem dJ9_max_7cf53_2 : decode cJ9_max_7cf53 2 = .ok (.if_icmp .lt 7, 3) := by decide +kernel
theorem dJ9_max_7cf53_5 : decode cJ9_max_7cf53 5 = .ok (.iload_n 0, 1) := by decide +kernel
theorem dJ9_max_7cf53_6 : decode cJ9_max_7cf53 6 = .ok (.goto 4, 3) := by decide +kernel
theorem dJ9_max_7cf53_9 : decode cJ9_max_7cf53 9 = .ok (.iload_n 1, 1) := by decide +kernel
theorem dJ9_max_7cf53_10 : decode cJ9_max_7cf53 10 = .ok (.ireturn, 1) := by decide +kernel
theorem dJ9_min_7cf53_0 : decode cJ9_min_7cf53 0 = .ok (.iload_n 0, 1) := by decide +kernel
theorem dJ9_min_7cf53_1 : decode cJ9_min_7cf53 1 = .ok (.iload_n 1, 1) := by decide +kernel
theorem dJ9_min_7cf53_2 : decode cJ9_min_7cf53 2 = .ok (.if_icmp .gt 7, 3) := by decide +kernel
theorem dJ9_min_7cf53_5 : decode cJ9_min_7cf53 5 = .ok (.iload_n 0, 1) := by decide +kernel
theorem dJ9_min_7cf53_6 : decode cJ9_min_7cf53 6 = .ok (.goto 4, 3) := by decide +kernel
theorem dJ9_min_7cf53_9 : decode cJ9_min_7cf53 9 = .ok (.iload_n 1, 1) := by decide +kernel
theorem dJ9_min_7cf53_10 : decode cJ9_min_7cf53 10 = .ok (.ireturn, 1) := by decide +kernel
set_option maxRecDepth 20000 in
theorem ggL_law_X0_init : GoodIn wsL_law wsX0_init := goodIn_r _ [8, 9, 10, 11, 12, 13, 14, 15, 16, 17, 18, 19, 20, 21, 22, 23, 24, 2, 25, 179, 180, 181, 182, 183, 184, 185, 186, 187, 188] (by decide +kernel) (by decide +kernel)
set_option maxRecDepth 20000 in
theorem gL_law_X0_init : GoodIn wsL_law (wsX0_init) := ggL_law_X0_init
set_option maxRecDepth 20000 in
theorem ggL_law_X1_init : GoodIn wsL_law wsX1_init := goodIn_r _ [28, 29, 10, 11, 12, 30, 31, 32, 33, 34, 35, 36, 37, 38, 189, 190, 191, 192, 193, 194, 195, 196, 197, 198] (by decide +kernel) (by decide +kernel)
set_option maxRecDepth 20000 in
theorem gL_law_X1_init : GoodIn wsL_law (wsX1_init) := ggL_law_X1_init
set_option maxRecDepth 20000 in
theorem ggL_law_X0_first : GoodIn wsL_law wsX0_first := goodIn_r _ [42, 19, 43, 44, 2, 45, 46, 47, 48, 23, 24, 25, 179, 180, 181, 182, 183, 184, 185, 186, 187, 188] (by decide +kernel) (by decide +kernel)
set_option maxRecDepth 20000 in
theorem gL_law_X0_first : GoodIn wsL_law (wsV RL 13 RX0 yX0_first wsX0_first) := goodIn_app (goodIn_of _ (by decide +kernel)) ggL_law_X0_first
set_option maxRecDepth 20000 in
theorem ggL_law_X1_first : GoodIn wsL_law wsX1_first := goodIn_r _ [52, 35, 53, 54, 5, 55, 56, 57, 58, 189, 190, 191, 192, 193, 194, 195, 196, 197, 198] (by decide +kernel) (by decide +kernel)
set_option maxRecDepth 20000 in
theorem gL_law_X1_first : GoodIn wsL_law (wsV RL 17 RX1 yX1_first wsX1_first) := goodIn_app (goodIn_of _ (by decide +kernel)) ggL_law_X1_first
set_option maxRecDepth 20000 in
theorem ggL_law_X0_last : GoodIn wsL_law wsX0_last := goodIn_r _ [62, 20, 43, 44, 2, 45, 46, 47, 48, 23, 24, 25, 179, 180, 181, 182, 183, 184, 185, 186, 187, 188] (by decide +kernel) (by decide +kernel)
set_option maxRecDepth 20000 in
theorem gL_law_X0_last : GoodIn wsL_law (wsV RL 18 RX0 yX0_last wsX0_last) := goodIn_app (goodIn_of _ (by decide +kernel)) ggL_law_X0_last
set_option maxRecDepth 20000 in
theorem ggL_law_X1_last : GoodIn wsL_law wsX1_last := goodIn_r _ [66, 36, 53, 54, 5, 55, 56, 57, 58, 189, 190, 191, 192, 193, 194, 195, 196, 197, 198] (by decide +kernel) (by decide +kernel)
set_option maxRecDepth 20000 in
theorem gL_law_X1_last : GoodIn wsL_law (wsV RL 21 RX1 yX1_last wsX1_last) := goodIn_app (goodIn_of _ (by decide +kernel)) ggL_law_X1_last
set_option maxRecDepth 20000 in
theorem ggL_law_X0_move : GoodIn wsL_law wsX0_move := goodIn_r _ [70, 71, 72, 18, 13, 14, 15, 20, 16, 22, 46, 47, 2, 48, 73, 74, 75, 76, 19, 77, 78, 79, 80, 81, 82, 83, 84, 85, 86, 87, 88, 89, 179, 180, 181, 182, 183, 184, 185, 186, 187, 188] (by decide +kernel) (by decide +kernel)
set_option maxRecDepth 20000 in
theorem gL_law_X0_move : GoodIn wsL_law (wsV RL 22 RX0 yX0_move wsX0_move) := goodIn_app (goodIn_of _ (by decide +kernel)) ggL_law_X0_move
set_option maxRecDepth 20000 in
theorem ggL_law_X1_move : GoodIn wsL_law wsX1_move := goodIn_r _ [93, 94, 95, 96, 30, 31, 33, 35, 34, 36, 97, 189, 190, 191, 192, 193, 194, 195, 196, 197, 198] (by decide +kernel) (by decide +kernel)
set_option maxRecDepth 20000 in
theorem gL_law_X1_move : GoodIn wsL_law (wsV RL 26 RX1 yX1_move wsX1_move) := goodIn_app (goodIn_of _ (by decide +kernel)) ggL_law_X1_move
set_option maxRecDepth 20000 in
theorem ggL_law_X0_back : GoodIn wsL_law wsX0_back := goodIn_r _ [101, 18, 22, 46, 47, 2, 48, 179, 180, 181, 182, 183, 184, 185, 186, 187, 188] (by decide +kernel) (by decide +kernel)
set_option maxRecDepth 20000 in
theorem gL_law_X0_back : GoodIn wsL_law (wsV RL 27 RX0 yX0_back wsX0_back) := goodIn_app (goodIn_of _ (by decide +kernel)) ggL_law_X0_back
set_option maxRecDepth 20000 in
theorem ggL_law_X1_back : GoodIn wsL_law wsX1_back := goodIn_r _ [105, 96, 97, 189, 190, 191, 192, 193, 194, 195, 196, 197, 198] (by decide +kernel) (by decide +kernel)
set_option maxRecDepth 20000 in
theorem gL_law_X1_back : GoodIn wsL_law (wsV RL 31 RX1 yX1_back wsX1_back) := goodIn_app (goodIn_of _ (by decide +kernel)) ggL_law_X1_back
set_option maxRecDepth 20000 in
theorem ggL_law_X0_acceleration : GoodIn wsL_law wsX0_acceleration := goodIn_r _ [109, 21, 22, 46, 47, 2, 48, 179, 180, 181, 182, 183, 184, 185, 186, 187, 188] (by decide +kernel) (by decide +kernel)
set_option maxRecDepth 20000 in
theorem gL_law_X0_acceleration : GoodIn wsL_law (wsV RL 32 RX0 yX0_acceleration wsX0_acceleration) := goodIn_app (goodIn_of _ (by decide +kernel)) ggL_law_X0_acceleration
set_option maxRecDepth 20000 in
theorem ggL_law_X1_acceleration : GoodIn wsL_law wsX1_acceleration := goodIn_r _ [113, 37, 97, 189, 190, 191, 192, 193, 194, 195, 196, 197, 198] (by decide +kernel) (by decide +kernel)
set_option maxRecDepth 20000 in
theorem gL_law_X1_acceleration : GoodIn wsL_law (wsV RL 36 RX1 yX1_acceleration wsX1_acceleration) := goodIn_app (goodIn_of _ (by decide +kernel)) ggL_law_X1_acceleration
set_option maxRecDepth 20000 in
theorem ggL_law_X0_limit : GoodIn wsL_law wsX0_limit := goodIn_r _ [117, 18, 46, 47, 2, 48, 118, 119, 120, 121, 16, 179, 180, 181, 182, 183, 184, 185, 186, 187, 188] (by decide +kernel) (by decide +kernel)
set_option maxRecDepth 20000 in
theorem gL_law_X0_limit : GoodIn wsL_law (wsV RL 37 RX0 yX0_limit wsX0_limit) := goodIn_app (goodIn_of _ (by decide +kernel)) ggL_law_X0_limit
set_option maxRecDepth 20000 in
theorem ggL_law_X1_limit : GoodIn wsL_law wsX1_limit := goodIn_r _ [125, 96, 34, 33, 31, 126, 82, 79, 83, 127, 78, 80, 189, 190, 191, 192, 193, 194, 195, 196, 197, 198] (by decide +kernel) (by decide +kernel)
set_option maxRecDepth 20000 in
theorem gL_law_X1_limit : GoodIn wsL_law (wsV RL 40 RX1 yX1_limit wsX1_limit) := goodIn_app (goodIn_of _ (by decide +kernel)) ggL_law_X1_limit
set_option maxRecDepth 20000 in
theorem ggL_law_X0_speed : GoodIn wsL_law wsX0_speed := goodIn_r _ [131, 18, 17, 46, 47, 2, 48, 132, 133, 134, 135, 22, 13, 118, 119, 120, 121, 16, 136, 137, 138, 139, 140, 21, 179, 180, 181, 182, 183, 184, 185, 186, 187, 188] (by decide +kernel) (by decide +kernel)
set_option maxRecDepth 20000 in
theorem gL_law_X0_speed : GoodIn wsL_law (wsV RL 41 RX0 yX0_speed wsX0_speed) := goodIn_app (goodIn_of _ (by decide +kernel)) ggL_law_X0_speed
set_option maxRecDepth 20000 in
theorem ggL_law_X1_speed : GoodIn wsL_law wsX1_speed := goodIn_r _ [144, 96, 38, 145, 146, 147, 5, 148, 97, 149, 123, 124, 125, 34, 33, 31, 126, 82, 79, 83, 127, 78, 80, 150, 151, 152, 153, 154, 37, 30, 155, 156, 157, 158, 159, 160, 161, 162, 189, 190, 191, 192, 193, 194, 195, 196, 197, 198] (by decide +kernel) (by decide +kernel)
set_option maxRecDepth 20000 in
theorem gL_law_X1_speed : GoodIn wsL_law (wsV RL 44 RX1 yX1_speed wsX1_speed) := goodIn_app (goodIn_of _ (by decide +kernel)) ggL_law_X1_speed
set_option maxRecDepth 20000 in
theorem ggL_law_X0_sum : GoodIn wsL_law wsX0_sum := goodIn_r _ [166, 18, 17, 132, 133, 134, 2, 135, 22, 13, 118, 119, 120, 121, 16, 136, 137, 138, 139, 140, 21, 179, 180, 181, 182, 183, 184, 185, 186, 187, 188] (by decide +kernel) (by decide +kernel)
set_option maxRecDepth 20000 in
theorem gL_law_X0_sum : GoodIn wsL_law (wsV RL 45 RX0 yX0_sum wsX0_sum) := goodIn_app (goodIn_of _ (by decide +kernel)) ggL_law_X0_sum
set_option maxRecDepth 20000 in
theorem ggL_law_X1_sum : GoodIn wsL_law wsX1_sum := goodIn_r _ [170, 96, 38, 145, 146, 147, 5, 148, 97, 149, 123, 124, 125, 34, 33, 31, 126, 82, 79, 83, 127, 78, 80, 150, 151, 152, 153, 154, 37, 30, 155, 156, 157, 158, 159, 160, 161, 162, 189, 190, 191, 192, 193, 194, 195, 196, 197, 198] (by decide +kernel) (by decide +kernel)
set_option maxRecDepth 20000 in
theorem gL_law_X1_sum : GoodIn wsL_law (wsV RL 49 RX1 yX1_sum wsX1_sum) := goodIn_app (goodIn_of _ (by decide +kernel)) ggL_law_X1_sum
set_option maxRecDepth 20000 in
theorem ggL_law_X0_below : GoodIn wsL_law wsX0_below := goodIn_r _ [174, 18, 17, 132, 133, 134, 2, 135, 22, 13, 118, 119, 120, 121, 16, 136, 137, 138, 139, 140, 21, 179, 180, 181, 182, 183, 184, 185, 186, 187, 188] (by decide +kernel) (by decide +kernel)
set_option maxRecDepth 20000 in
theorem gL_law_X0_below : GoodIn wsL_law (wsV RL 50 RX0 yX0_below wsX0_below) := goodIn_app (goodIn_of _ (by decide +kernel)) ggL_law_X0_below
set_option maxRecDepth 20000 in
theorem ggL_law_X1_below : GoodIn wsL_law wsX1_below := goodIn_r _ [178, 96, 38, 145, 146, 147, 5, 148, 97, 149, 123, 124, 125, 34, 33, 31, 126, 82, 79, 83, 127, 78, 80, 150, 151, 152, 153, 154, 37, 30, 155, 156, 157, 158, 159, 160, 161, 162, 189, 190, 191, 192, 193, 194, 195, 196, 197, 198] (by decide +kernel) (by decide +kernel)
set_option maxRecDepth 20000 in
theorem gL_law_X1_below : GoodIn wsL_law (wsV RL 54 RX1 yX1_below wsX1_below) := goodIn_app (goodIn_of _ (by decide +kernel)) ggL_law_X1_below
theorem dL_law_0 : decode cL_law 0 = .ok (.new 7, 3) := by decide +kernel
theorem dL_law_3 : decode cL_law 3 = .ok (.dup, 1) := by decide +kernel
theorem dL_law_4 : decode cL_law 4 = .ok (.invokespecial 9, 3) := by decide +kernel
theorem dL_law_7 : decode cL_law 7 = .ok (.astore_n 1, 1) := by decide +kernel
theorem dL_law_8 : decode cL_law 8 = .ok (.new 10, 3) := by decide +kernel
theorem dL_law_11 : decode cL_law 11 = .ok (.dup, 1) := by decide +kernel
theorem dL_law_12 : decode cL_law 12 = .ok (.invokespecial 12, 3) := by decide +kernel
theorem dL_law_15 : decode cL_law 15 = .ok (.astore_n 2, 1) := by decide +kernel
theorem dL_law_16 : decode cL_law 16 = .ok (.iconst 0, 1) := by decide +kernel
theorem dL_law_17 : decode cL_law 17 = .ok (.istore_n 3, 1) := by decide +kernel
theorem dL_law_18 : decode cL_law 18 = .ok (.iload_n 3, 1) := by decide +kernel
theorem dL_law_19 : decode cL_law 19 = .ok (.aload_n 0, 1) := by decide +kernel
theorem dL_law_20 : decode cL_law 20 = .ok (.arraylength, 1) := by decide +kernel
theorem dL_law_21 : decode cL_law 21 = .ok (.iconst 4, 1) := by decide +kernel
theorem dL_law_22 : decode cL_law 22 = .ok (.isub, 1) := by decide +kernel
theorem dL_law_23 : decode cL_law 23 = .ok (.if_icmp .gt 305, 3) := by decide +kernel
theorem dL_law_26 : decode cL_law 26 = .ok (.aload_n 0, 1) := by decide +kernel
theorem dL_law_27 : decode cL_law 27 = .ok (.iload_n 3, 1) := by decide +kernel
theorem dL_law_28 : decode cL_law 28 = .ok (.iaload, 1) := by decide +kernel
theorem dL_law_29 : decode cL_law 29 = .ok (.bipush 15, 2) := by decide +kernel
theorem dL_law_31 : decode cL_law 31 = .ok (.iand, 1) := by decide +kernel
theorem dL_law_32 : decode cL_law 32 = .ok (.tableswitch 290 0 8 #[52, 95, 138, 171, 194, 217, 240, 263, 277], 52) := by decide +kernel
theorem dL_law_84 : decode cL_law 84 = .ok (.aload_n 1, 1) := by decide +kernel
theorem dL_law_85 : decode cL_law 85 = .ok (.aload_n 0, 1) := by decide +kernel
theorem dL_law_86 : decode cL_law 86 = .ok (.iload_n 3, 1) := by decide +kernel
theorem dL_law_87 : decode cL_law 87 = .ok (.iconst 1, 1) := by decide +kernel
theorem dL_law_88 : decode cL_law 88 = .ok (.iadd, 1) := by decide +kernel
theorem dL_law_89 : decode cL_law 89 = .ok (.iaload, 1) := by decide +kernel
theorem dL_law_90 : decode cL_law 90 = .ok (.aload_n 0, 1) := by decide +kernel
theorem dL_law_91 : decode cL_law 91 = .ok (.iload_n 3, 1) := by decide +kernel
theorem dL_law_92 : decode cL_law 92 = .ok (.iconst 2, 1) := by decide +kernel
theorem dL_law_93 : decode cL_law 93 = .ok (.iadd, 1) := by decide +kernel
theorem dL_law_94 : decode cL_law 94 = .ok (.iaload, 1) := by decide +kernel
theorem dL_law_95 : decode cL_law 95 = .ok (.aload_n 0, 1) := by decide +kernel
theorem dL_law_96 : decode cL_law 96 = .ok (.iload_n 3, 1) := by decide +kernel
theorem dL_law_97 : decode cL_law 97 = .ok (.iconst 3, 1) := by decide +kernel
theorem dL_law_98 : decode cL_law 98 = .ok (.iadd, 1) := by decide +kernel
theorem dL_law_99 : decode cL_law 99 = .ok (.iaload, 1) := by decide +kernel
theorem dL_law_100 : decode cL_law 100 = .ok (.invokevirtual 13, 3) := by decide +kernel
theorem dL_law_103 : decode cL_law 103 = .ok (.aload_n 2, 1) := by decide +kernel
theorem dL_law_104 : decode cL_law 104 = .ok (.aload_n 0, 1) := by decide +kernel
theorem dL_law_105 : decode cL_law 105 = .ok (.iload_n 3, 1) := by decide +kernel
theorem dL_law_106 : decode cL_law 106 = .ok (.iconst 1, 1) := by decide +kernel
theorem dL_law_107 : decode cL_law 107 = .ok (.iadd, 1) := by decide +kernel
theorem dL_law_108 : decode cL_law 108 = .ok (.iaload, 1) := by decide +kernel
theorem dL_law_109 : decode cL_law 109 = .ok (.aload_n 0, 1) := by decide +kernel
theorem dL_law_110 : decode cL_law 110 = .ok (.iload_n 3, 1) := by decide +kernel
theorem dL_law_111 : decode cL_law 111 = .ok (.iconst 2, 1) := by decide +kernel
theorem dL_law_112 : decode cL_law 112 = .ok (.iadd, 1) := by decide +kernel
theorem dL_law_113 : decode cL_law 113 = .ok (.iaload, 1) := by decide +kernel
theorem dL_law_114 : decode cL_law 114 = .ok (.aload_n 0, 1) := by decide +kernel
theorem dL_law_115 : decode cL_law 115 = .ok (.iload_n 3, 1) := by decide +kernel
theorem dL_law_116 : decode cL_law 116 = .ok (.iconst 3, 1) := by decide +kernel
theorem dL_law_117 : decode cL_law 117 = .ok (.iadd, 1) := by decide +kernel
theorem dL_law_118 : decode cL_law 118 = .ok (.iaload, 1) := by decide +kernel
theorem dL_law_119 : decode cL_law 119 = .ok (.invokevirtual 17, 3) := by decide +kernel
theorem dL_law_122 : decode cL_law 122 = .ok (.if_icmp .eq 200, 3) := by decide +kernel
theorem dL_law_125 : decode cL_law 125 = .ok (.iconst 0, 1) := by decide +kernel
theorem dL_law_126 : decode cL_law 126 = .ok (.ireturn, 1) := by decide +kernel
theorem dL_law_127 : decode cL_law 127 = .ok (.aload_n 1, 1) := by decide +kernel
theorem dL_law_128 : decode cL_law 128 = .ok (.aload_n 0, 1) := by decide +kernel
theorem dL_law_129 : decode cL_law 129 = .ok (.iload_n 3, 1) := by decide +kernel
theorem dL_law_130 : decode cL_law 130 = .ok (.iconst 1, 1) := by decide +kernel
theorem dL_law_131 : decode cL_law 131 = .ok (.iadd, 1) := by decide +kernel
theorem dL_law_132 : decode cL_law 132 = .ok (.iaload, 1) := by decide +kernel
theorem dL_law_133 : decode cL_law 133 = .ok (.aload_n 0, 1) := by decide +kernel
theorem dL_law_134 : decode cL_law 134 = .ok (.iload_n 3, 1) := by decide +kernel
theorem dL_law_135 : decode cL_law 135 = .ok (.iconst 2, 1) := by decide +kernel
theorem dL_law_136 : decode cL_law 136 = .ok (.iadd, 1) := by decide +kernel
theorem dL_law_137 : decode cL_law 137 = .ok (.iaload, 1) := by decide +kernel
theorem dL_law_138 : decode cL_law 138 = .ok (.aload_n 0, 1) := by decide +kernel
theorem dL_law_139 : decode cL_law 139 = .ok (.iload_n 3, 1) := by decide +kernel
theorem dL_law_140 : decode cL_law 140 = .ok (.iconst 3, 1) := by decide +kernel
theorem dL_law_141 : decode cL_law 141 = .ok (.iadd, 1) := by decide +kernel
theorem dL_law_142 : decode cL_law 142 = .ok (.iaload, 1) := by decide +kernel
theorem dL_law_143 : decode cL_law 143 = .ok (.invokevirtual 18, 3) := by decide +kernel
theorem dL_law_146 : decode cL_law 146 = .ok (.aload_n 2, 1) := by decide +kernel
theorem dL_law_147 : decode cL_law 147 = .ok (.aload_n 0, 1) := by decide +kernel
theorem dL_law_148 : decode cL_law 148 = .ok (.iload_n 3, 1) := by decide +kernel
theorem dL_law_149 : decode cL_law 149 = .ok (.iconst 1, 1) := by decide +kernel
theorem dL_law_150 : decode cL_law 150 = .ok (.iadd, 1) := by decide +kernel
theorem dL_law_151 : decode cL_law 151 = .ok (.iaload, 1) := by decide +kernel
theorem dL_law_152 : decode cL_law 152 = .ok (.aload_n 0, 1) := by decide +kernel
theorem dL_law_153 : decode cL_law 153 = .ok (.iload_n 3, 1) := by decide +kernel
theorem dL_law_154 : decode cL_law 154 = .ok (.iconst 2, 1) := by decide +kernel
theorem dL_law_155 : decode cL_law 155 = .ok (.iadd, 1) := by decide +kernel
theorem dL_law_156 : decode cL_law 156 = .ok (.iaload, 1) := by decide +kernel
theorem dL_law_157 : decode cL_law 157 = .ok (.aload_n 0, 1) := by decide +kernel
theorem dL_law_158 : decode cL_law 158 = .ok (.iload_n 3, 1) := by decide +kernel
theorem dL_law_159 : decode cL_law 159 = .ok (.iconst 3, 1) := by decide +kernel
theorem dL_law_160 : decode cL_law 160 = .ok (.iadd, 1) := by decide +kernel
theorem dL_law_161 : decode cL_law 161 = .ok (.iaload, 1) := by decide +kernel
theorem dL_law_162 : decode cL_law 162 = .ok (.invokevirtual 21, 3) := by decide +kernel
theorem dL_law_165 : decode cL_law 165 = .ok (.if_icmp .eq 157, 3) := by decide +kernel
theorem dL_law_168 : decode cL_law 168 = .ok (.iconst 0, 1) := by decide +kernel
theorem dL_law_169 : decode cL_law 169 = .ok (.ireturn, 1) := by decide +kernel
theorem dL_law_170 : decode cL_law 170 = .ok (.aload_n 1, 1) := by decide +kernel
theorem dL_law_171 : decode cL_law 171 = .ok (.aload_n 0, 1) := by decide +kernel
theorem dL_law_172 : decode cL_law 172 = .ok (.iload_n 3, 1) := by decide +kernel
theorem dL_law_173 : decode cL_law 173 = .ok (.iconst 1, 1) := by decide +kernel
theorem dL_law_174 : decode cL_law 174 = .ok (.iadd, 1) := by decide +kernel
theorem dL_law_175 : decode cL_law 175 = .ok (.iaload, 1) := by decide +kernel
theorem dL_law_176 : decode cL_law 176 = .ok (.aload_n 0, 1) := by decide +kernel
theorem dL_law_177 : decode cL_law 177 = .ok (.iload_n 3, 1) := by decide +kernel
theorem dL_law_178 : decode cL_law 178 = .ok (.iconst 2, 1) := by decide +kernel
theorem dL_law_179 : decode cL_law 179 = .ok (.iadd, 1) := by decide +kernel
theorem dL_law_180 : decode cL_law 180 = .ok (.iaload, 1) := by decide +kernel
theorem dL_law_181 : decode cL_law 181 = .ok (.invokevirtual 22, 3) := by decide +kernel
theorem dL_law_184 : decode cL_law 184 = .ok (.aload_n 2, 1) := by decide +kernel
theorem dL_law_185 : decode cL_law 185 = .ok (.aload_n 0, 1) := by decide +kernel
theorem dL_law_186 : decode cL_law 186 = .ok (.iload_n 3, 1) := by decide +kernel
theorem dL_law_187 : decode cL_law 187 = .ok (.iconst 1, 1) := by decide +kernel
theorem dL_law_188 : decode cL_law 188 = .ok (.iadd, 1) := by decide +kernel
theorem dL_law_189 : decode cL_law 189 = .ok (.iaload, 1) := by decide +kernel
theorem dL_law_190 : decode cL_law 190 = .ok (.aload_n 0, 1) := by decide +kernel
theorem dL_law_191 : decode cL_law 191 = .ok (.iload_n 3, 1) := by decide +kernel
theorem dL_law_192 : decode cL_law 192 = .ok (.iconst 2, 1) := by decide +kernel
theorem dL_law_193 : decode cL_law 193 = .ok (.iadd, 1) := by decide +kernel
theorem dL_law_194 : decode cL_law 194 = .ok (.iaload, 1) := by decide +kernel
theorem dL_law_195 : decode cL_law 195 = .ok (.invokevirtual 26, 3) := by decide +kernel
theorem dL_law_198 : decode cL_law 198 = .ok (.if_icmp .eq 124, 3) := by decide +kernel
theorem dL_law_201 : decode cL_law 201 = .ok (.iconst 0, 1) := by decide +kernel
theorem dL_law_202 : decode cL_law 202 = .ok (.ireturn, 1) := by decide +kernel
theorem dL_law_203 : decode cL_law 203 = .ok (.aload_n 1, 1) := by decide +kernel
theorem dL_law_204 : decode cL_law 204 = .ok (.aload_n 0, 1) := by decide +kernel
theorem dL_law_205 : decode cL_law 205 = .ok (.iload_n 3, 1) := by decide +kernel
theorem dL_law_206 : decode cL_law 206 = .ok (.iconst 1, 1) := by decide +kernel
theorem dL_law_207 : decode cL_law 207 = .ok (.iadd, 1) := by decide +kernel
theorem dL_law_208 : decode cL_law 208 = .ok (.iaload, 1) := by decide +kernel
theorem dL_law_209 : decode cL_law 209 = .ok (.invokevirtual 27, 3) := by decide +kernel
theorem dL_law_212 : decode cL_law 212 = .ok (.aload_n 2, 1) := by decide +kernel
theorem dL_law_213 : decode cL_law 213 = .ok (.aload_n 0, 1) := by decide +kernel
theorem dL_law_214 : decode cL_law 214 = .ok (.iload_n 3, 1) := by decide +kernel
theorem dL_law_215 : decode cL_law 215 = .ok (.iconst 1, 1) := by decide +kernel
theorem dL_law_216 : decode cL_law 216 = .ok (.iadd, 1) := by decide +kernel
theorem dL_law_217 : decode cL_law 217 = .ok (.iaload, 1) := by decide +kernel
theorem dL_law_218 : decode cL_law 218 = .ok (.invokevirtual 31, 3) := by decide +kernel
theorem dL_law_221 : decode cL_law 221 = .ok (.if_icmp .eq 101, 3) := by decide +kernel
theorem dL_law_224 : decode cL_law 224 = .ok (.iconst 0, 1) := by decide +kernel
theorem dL_law_225 : decode cL_law 225 = .ok (.ireturn, 1) := by decide +kernel
theorem dL_law_226 : decode cL_law 226 = .ok (.aload_n 1, 1) := by decide +kernel
theorem dL_law_227 : decode cL_law 227 = .ok (.aload_n 0, 1) := by decide +kernel
theorem dL_law_228 : decode cL_law 228 = .ok (.iload_n 3, 1) := by decide +kernel
theorem dL_law_229 : decode cL_law 229 = .ok (.iconst 1, 1) := by decide +kernel
theorem dL_law_230 : decode cL_law 230 = .ok (.iadd, 1) := by decide +kernel
theorem dL_law_231 : decode cL_law 231 = .ok (.iaload, 1) := by decide +kernel
theorem dL_law_232 : decode cL_law 232 = .ok (.invokevirtual 32, 3) := by decide +kernel
theorem dL_law_235 : decode cL_law 235 = .ok (.aload_n 2, 1) := by decide +kernel
theorem dL_law_236 : decode cL_law 236 = .ok (.aload_n 0, 1) := by decide +kernel
theorem dL_law_237 : decode cL_law 237 = .ok (.iload_n 3, 1) := by decide +kernel
theorem dL_law_238 : decode cL_law 238 = .ok (.iconst 1, 1) := by decide +kernel
theorem dL_law_239 : decode cL_law 239 = .ok (.iadd, 1) := by decide +kernel
theorem dL_law_240 : decode cL_law 240 = .ok (.iaload, 1) := by decide +kernel
theorem dL_law_241 : decode cL_law 241 = .ok (.invokevirtual 36, 3) := by decide +kernel
theorem dL_law_244 : decode cL_law 244 = .ok (.if_icmp .eq 78, 3) := by decide +kernel
theorem dL_law_247 : decode cL_law 247 = .ok (.iconst 0, 1) := by decide +kernel
theorem dL_law_248 : decode cL_law 248 = .ok (.ireturn, 1) := by decide +kernel
theorem dL_law_249 : decode cL_law 249 = .ok (.aload_n 1, 1) := by decide +kernel
theorem dL_law_250 : decode cL_law 250 = .ok (.aload_n 0, 1) := by decide +kernel
theorem dL_law_251 : decode cL_law 251 = .ok (.iload_n 3, 1) := by decide +kernel
theorem dL_law_252 : decode cL_law 252 = .ok (.iconst 1, 1) := by decide +kernel
theorem dL_law_253 : decode cL_law 253 = .ok (.iadd, 1) := by decide +kernel
theorem dL_law_254 : decode cL_law 254 = .ok (.iaload, 1) := by decide +kernel
theorem dL_law_255 : decode cL_law 255 = .ok (.invokevirtual 37, 3) := by decide +kernel
theorem dL_law_258 : decode cL_law 258 = .ok (.aload_n 2, 1) := by decide +kernel
theorem dL_law_259 : decode cL_law 259 = .ok (.aload_n 0, 1) := by decide +kernel
theorem dL_law_260 : decode cL_law 260 = .ok (.iload_n 3, 1) := by decide +kernel
theorem dL_law_261 : decode cL_law 261 = .ok (.iconst 1, 1) := by decide +kernel
theorem dL_law_262 : decode cL_law 262 = .ok (.iadd, 1) := by decide +kernel
theorem dL_law_263 : decode cL_law 263 = .ok (.iaload, 1) := by decide +kernel
theorem dL_law_264 : decode cL_law 264 = .ok (.invokevirtual 40, 3) := by decide +kernel
theorem dL_law_267 : decode cL_law 267 = .ok (.if_icmp .eq 55, 3) := by decide +kernel
theorem dL_law_270 : decode cL_law 270 = .ok (.iconst 0, 1) := by decide +kernel
theorem dL_law_271 : decode cL_law 271 = .ok (.ireturn, 1) := by decide +kernel
theorem dL_law_272 : decode cL_law 272 = .ok (.aload_n 1, 1) := by decide +kernel
theorem dL_law_273 : decode cL_law 273 = .ok (.aload_n 0, 1) := by decide +kernel
theorem dL_law_274 : decode cL_law 274 = .ok (.iload_n 3, 1) := by decide +kernel
theorem dL_law_275 : decode cL_law 275 = .ok (.iconst 1, 1) := by decide +kernel
theorem dL_law_276 : decode cL_law 276 = .ok (.iadd, 1) := by decide +kernel
theorem dL_law_277 : decode cL_law 277 = .ok (.iaload, 1) := by decide +kernel
theorem dL_law_278 : decode cL_law 278 = .ok (.invokevirtual 41, 3) := by decide +kernel
theorem dL_law_281 : decode cL_law 281 = .ok (.aload_n 2, 1) := by decide +kernel
theorem dL_law_282 : decode cL_law 282 = .ok (.aload_n 0, 1) := by decide +kernel
theorem dL_law_283 : decode cL_law 283 = .ok (.iload_n 3, 1) := by decide +kernel
theorem dL_law_284 : decode cL_law 284 = .ok (.iconst 1, 1) := by decide +kernel
theorem dL_law_285 : decode cL_law 285 = .ok (.iadd, 1) := by decide +kernel
theorem dL_law_286 : decode cL_law 286 = .ok (.iaload, 1) := by decide +kernel
theorem dL_law_287 : decode cL_law 287 = .ok (.invokevirtual 44, 3) := by decide +kernel
theorem dL_law_290 : decode cL_law 290 = .ok (.if_icmp .eq 32, 3) := by decide +kernel
theorem dL_law_293 : decode cL_law 293 = .ok (.iconst 0, 1) := by decide +kernel
theorem dL_law_294 : decode cL_law 294 = .ok (.ireturn, 1) := by decide +kernel
theorem dL_law_295 : decode cL_law 295 = .ok (.aload_n 1, 1) := by decide +kernel
theorem dL_law_296 : decode cL_law 296 = .ok (.invokevirtual 45, 3) := by decide +kernel
theorem dL_law_299 : decode cL_law 299 = .ok (.aload_n 2, 1) := by decide +kernel
theorem dL_law_300 : decode cL_law 300 = .ok (.invokevirtual 49, 3) := by decide +kernel
theorem dL_law_303 : decode cL_law 303 = .ok (.lcmp, 1) := by decide +kernel
theorem dL_law_304 : decode cL_law 304 = .ok (.ifCond .eq 18, 3) := by decide +kernel
theorem dL_law_307 : decode cL_law 307 = .ok (.iconst 0, 1) := by decide +kernel
theorem dL_law_308 : decode cL_law 308 = .ok (.ireturn, 1) := by decide +kernel
theorem dL_law_309 : decode cL_law 309 = .ok (.aload_n 1, 1) := by decide +kernel
theorem dL_law_310 : decode cL_law 310 = .ok (.invokevirtual 50, 3) := by decide +kernel
theorem dL_law_313 : decode cL_law 313 = .ok (.aload_n 2, 1) := by decide +kernel
theorem dL_law_314 : decode cL_law 314 = .ok (.invokevirtual 54, 3) := by decide +kernel
theorem dL_law_317 : decode cL_law 317 = .ok (.if_icmp .eq 5, 3) := by decide +kernel
theorem dL_law_320 : decode cL_law 320 = .ok (.iconst 0, 1) := by decide +kernel
theorem dL_law_321 : decode cL_law 321 = .ok (.ireturn, 1) := by decide +kernel
theorem dL_law_322 : decode cL_law 322 = .ok (.iinc 3 4, 3) := by decide +kernel
theorem dL_law_325 : decode cL_law 325 = .ok (.goto (-307), 3) := by decide +kernel
theorem dL_law_328 : decode cL_law 328 = .ok (.iconst 1, 1) := by decide +kernel
theorem dL_law_329 : decode cL_law 329 = .ok (.ireturn, 1) := by decide +kernel
abbrev vwCl : List vw_C := [(RX0, TX0, 10), (RX1, TX1, 10)]
/-! ===== END printed: names (the pool behind vwCl is left out: my rows need none of it) ===== -/
end
section
/-! BASE: rows of mine over the kit's rows: an index is 'nI j' with j in range, a loaded value gets its name at once. -/
section SRW
variable {p : Program} {l : Launch} {e : Env} {R : Room} {s : State} {m : MethodId} {args : Array Value} {below : List Frame} {meth : Method} {c : Code} {H : Heap} {locs : List Loc} {cells slots : Nat} {Q : State → Prop}
variable {cc : ByteArray} {pc : Nat} {ls : Array Slot} {rest : List Value}
variable {D : va_G} {cl : List vw_C} {tys : List (ClassId × FieldType)} {ws : va_W} {a : Nat} {A : Nat → Prop} {H0 : Heap}
theorem sr_ti {x y : Int32} (h : x = y) (k : W p l e R s m args below meth c H locs cells slots Q (F0 m pc ls (.int y :: rest))) : W p l e R s m args below meth c H locs cells slots Q (F0 m pc ls (.int x :: rest)) := by
  subst h
  exact k
theorem sr_tl {x y : Int64} (h : x = y) (k : W p l e R s m args below meth c H locs cells slots Q (F0 m pc ls (.long y :: rest))) : W p l e R s m args below meth c H locs cells slots Q (F0 m pc ls (.long x :: rest)) := by
  subst h
  exact k
theorem sr_iald {j : Nat} {v : Int32} (hexec : p.tables.exec = Jvm.exec) (hb : c.code = cc) (hK : va_K D cl tys s) (hP : va_P D cl ws H) (q0 t0 : Nat) {cA : ClassId} {n : Nat} {f : Nat → Int32} (ha : ws[q0]? = some (a, .inl (cA, n, .inl f))) (ht : tys[t0]? = some (cA, .int)) (hj : j < n) (hn : n < 2 ^ 31) (hv : f j = v) (hdg : decode cc pc = .ok (.iaload, 1))
    (kk : W p l e R s m args below meth c H locs cells slots Q (F0 m (pc + 1) ls (.int v :: rest))) : W p l e R s m args below meth c H locs cells slots Q (F0 m pc ls (.int (nI j) :: .ref a :: rest)) := by
  refine va_iald hexec hb hK hP q0 t0 ha ht (vp_in_nI hj hn) hdg ?_
  rw [nI_clamp (Nat.lt_trans hj hn), hv]
  exact kk
theorem sr_bald {j : Nat} {v : Int32} (hexec : p.tables.exec = Jvm.exec) (hb : c.code = cc) (hK : va_K D cl tys s) (hP : va_P D cl ws H) (q0 t0 : Nat) {cA : ClassId} {n : Nat} {f : Nat → Int32} (ha : ws[q0]? = some (a, .inl (cA, n, .inl f))) (ht : tys[t0]? = some (cA, .byte)) (hj : j < n) (hn : n < 2 ^ 31) (hv : f j = v) (hdg : decode cc pc = .ok (.baload, 1))
    (kk : W p l e R s m args below meth c H locs cells slots Q (F0 m (pc + 1) ls (.int v :: rest))) : W p l e R s m args below meth c H locs cells slots Q (F0 m pc ls (.int (nI j) :: .ref a :: rest)) := by
  refine va_bald hexec hb hK hP q0 t0 ha ht (vp_in_nI hj hn) hdg ?_
  rw [nI_clamp (Nat.lt_trans hj hn), hv]
  exact kk
theorem sr_iast {j : Nat} {x : Int32} (hexec : p.tables.exec = Jvm.exec) (hb : c.code = cc) (hK : va_K D cl tys s) (hP : va_P D cl ws H) (hD : va_D A ws) (hS : va_S A H0 H locs) (q0 t0 : Nat) {cA : ClassId} {n : Nat} {f : Nat → Int32} (ha : ws[q0]? = some (a, .inl (cA, n, .inl f))) (ht : tys[t0]? = some (cA, .int)) (hj : j < n) (hn : n < 2 ^ 31) (hdg : decode cc pc = .ok (.iastore, 1))
    (kk : ∀ (H1 : Heap) (locs1 : List Loc), va_P D cl (ws.set q0 (a, .inl (cA, n, .inl (upd f j x)))) H1 → va_D A (ws.set q0 (a, .inl (cA, n, .inl (upd f j x)))) → va_S A H0 H1 locs1 → W p l e R s m args below meth c H1 locs1 cells slots Q (F0 m (pc + 1) ls rest)) : W p l e R s m args below meth c H locs cells slots Q (F0 m pc ls (.int x :: .int (nI j) :: .ref a :: rest)) := by
  refine va_iast hexec hb hK hP hD hS q0 t0 ha ht (vp_in_nI hj hn) hdg (fun H1 l1 h1 h2 h3 => ?_)
  rw [nI_clamp (Nat.lt_trans hj hn)] at h1 h2
  exact kk H1 l1 h1 h2 h3
theorem sr_bast {j : Nat} {x v : Int32} (hexec : p.tables.exec = Jvm.exec) (hb : c.code = cc) (hK : va_K D cl tys s) (hP : va_P D cl ws H) (hD : va_D A ws) (hS : va_S A H0 H locs) (q0 t0 : Nat) {cA : ClassId} {n : Nat} {f : Nat → Int32} (ha : ws[q0]? = some (a, .inl (cA, n, .inl f))) (ht : tys[t0]? = some (cA, .byte)) (hj : j < n) (hn : n < 2 ^ 31) (hv : vp_nar .byte x = v) (hdg : decode cc pc = .ok (.bastore, 1))
    (kk : ∀ (H1 : Heap) (locs1 : List Loc), va_P D cl (ws.set q0 (a, .inl (cA, n, .inl (upd f j v)))) H1 → va_D A (ws.set q0 (a, .inl (cA, n, .inl (upd f j v)))) → va_S A H0 H1 locs1 → W p l e R s m args below meth c H1 locs1 cells slots Q (F0 m (pc + 1) ls rest)) : W p l e R s m args below meth c H locs cells slots Q (F0 m pc ls (.int x :: .int (nI j) :: .ref a :: rest)) := by
  refine va_bast hexec hb hK hP hD hS q0 t0 ha ht (vp_in_nI hj hn) hdg (fun H1 l1 h1 h2 h3 => ?_)
  rw [nI_clamp (Nat.lt_trans hj hn), hv] at h1 h2
  exact kk H1 l1 h1 h2 h3
theorem sr_sld {j : Nat} (hexec : p.tables.exec = Jvm.exec) (hb : c.code = cc) {b L : Nat} {xs : Nat → Int32} (hX : va_X b L xs s H0) (hbl : b < H0.size) (hbA : ¬ A b) (hS : va_S A H0 H locs) (hj : j < L) (hn : L < 2 ^ 31) (hdg : decode cc pc = .ok (.iaload, 1))
    (kk : W p l e R s m args below meth c H locs cells slots Q (F0 m (pc + 1) ls (.int (xs j) :: rest))) : W p l e R s m args below meth c H locs cells slots Q (F0 m pc ls (.int (nI j) :: .ref b :: rest)) := by
  refine va_sld hexec hb hX hbl hbA hS (vp_in_nI hj hn) hdg ?_
  rw [nI_clamp (Nat.lt_trans hj hn)]
  exact kk
end SRW
end
section
/-! PURE: whole roots, the two passes, limits. Nothing of the machine here. -/
def sr_q : Nat → Nat
  | 0 => 0
  | n + 1 => if (sr_q n + 1) * (sr_q n + 1) ≤ n + 1 then sr_q n + 1 else sr_q n
theorem sr_q_le (n : Nat) : sr_q n * sr_q n ≤ n := by
  induction n with
  | zero => exact Nat.le_refl 0
  | succ n ih =>
    rw [sr_q]
    split
    · assumption
    · omega
theorem sr_q_lt (n : Nat) : n < (sr_q n + 1) * (sr_q n + 1) := by
  induction n with
  | zero => exact Nat.lt_succ_self 0
  | succ n ih =>
    rw [sr_q]
    split
    · have h := Nat.mul_self_lt_mul_self (Nat.lt_succ_self (sr_q n + 1))
      have h2 : (sr_q n + 1).succ = sr_q n + 1 + 1 := rfl
      rw [h2] at h
      omega
    · omega
theorem sr_q_uniq {n r : Nat} (h1 : r * r ≤ n) (h2 : n < (r + 1) * (r + 1)) : sr_q n = r := by
  have a := sr_q_le n
  have b := sr_q_lt n
  rcases Nat.lt_trichotomy (sr_q n) r with h | h | h
  · have := Nat.mul_self_le_mul_self (show sr_q n + 1 ≤ r from h)
    omega
  · exact h
  · have := Nat.mul_self_le_mul_self (show r + 1 ≤ sr_q n from h)
    omega
theorem sr_le_q {a n : Nat} : a ≤ sr_q n ↔ a * a ≤ n := by
  constructor
  · intro h
    exact Nat.le_trans (Nat.mul_self_le_mul_self h) (sr_q_le n)
  · intro h
    rcases Nat.lt_or_ge (sr_q n) a with g | g
    · have := Nat.mul_self_le_mul_self (show sr_q n + 1 ≤ a from g)
      have := sr_q_lt n
      omega
    · exact g
/-- what a speed w reaches across t ticks -/
def sr_r (A t w : Nat) : Nat := sr_q (w * w + 2 * A * t)
theorem sr_r_ge (A t w : Nat) : w ≤ sr_r A t w := sr_le_q.mpr (Nat.le_add_right _ _)
def sr_f (s : Nat → Nat) (A : Nat) (tk : Nat → Nat) : Nat → Nat
  | 0 => s 0
  | k + 1 => min (s (k + 1)) (sr_r A (tk k) (sr_f s A tk k))
def sr_b (f : Nat → Nat) (A : Nat) (tk : Nat → Nat) (n : Nat) : Nat → Nat
  | 0 => f n
  | d + 1 => min (f (n - (d + 1))) (sr_r A (tk (n - (d + 1))) (sr_b f A tk n d))
/-- the speeds behind one pass forth and one back -/
def sr_s (s : Nat → Nat) (A : Nat) (tk : Nat → Nat) (n k : Nat) : Nat := sr_b (sr_f s A tk) A tk n (n - k)
def sr_St (s : Nat → Nat) (A : Nat) (tk : Nat → Nat) (n : Nat) : Prop := ∀ k, k < n → s (k + 1) ≤ sr_r A (tk k) (s k) ∧ s k ≤ sr_r A (tk k) (s (k + 1))
theorem sr_s_n (s : Nat → Nat) (A : Nat) (tk : Nat → Nat) (n : Nat) : sr_s s A tk n n = sr_f s A tk n := by
  unfold sr_s
  rw [Nat.sub_self, sr_b]
theorem sr_s_k (s : Nat → Nat) (A : Nat) (tk : Nat → Nat) {n k : Nat} (h : k < n) : sr_s s A tk n k = min (sr_f s A tk k) (sr_r A (tk k) (sr_s s A tk n (k + 1))) := by
  unfold sr_s
  have e1 : n - k = (n - (k + 1)) + 1 := by omega
  have e2 : n - ((n - (k + 1)) + 1) = k := by omega
  rw [e1, sr_b, e2]
theorem sr_f_le (s : Nat → Nat) (A : Nat) (tk : Nat → Nat) (k : Nat) : sr_f s A tk k ≤ s k := by
  cases k with
  | zero => rw [sr_f]; exact Nat.le_refl _
  | succ k => rw [sr_f]; exact Nat.min_le_left _ _
theorem sr_s_le_f (s : Nat → Nat) (A : Nat) (tk : Nat → Nat) {n k : Nat} (h : k ≤ n) : sr_s s A tk n k ≤ sr_f s A tk k := by
  rcases Nat.lt_or_ge k n with g | g
  · rw [sr_s_k s A tk g]; exact Nat.min_le_left _ _
  · have e : k = n := by omega
    rw [e, sr_s_n]; exact Nat.le_refl _
theorem sr_s_le (s : Nat → Nat) (A : Nat) (tk : Nat → Nat) {n k : Nat} (h : k ≤ n) : sr_s s A tk n k ≤ s k := Nat.le_trans (sr_s_le_f s A tk h) (sr_f_le s A tk k)
theorem sr_s_stable (s : Nat → Nat) (A : Nat) (tk : Nat → Nat) (n : Nat) : sr_St (sr_s s A tk n) A tk n := by
  intro k hk
  have e := sr_s_k s A tk hk
  have h1 : sr_s s A tk n (k + 1) ≤ sr_f s A tk (k + 1) := sr_s_le_f s A tk hk
  have h2 : sr_f s A tk (k + 1) ≤ sr_r A (tk k) (sr_f s A tk k) := by rw [sr_f]; exact Nat.min_le_right _ _
  refine ⟨?_, ?_⟩
  · rcases Nat.le_total (sr_f s A tk k) (sr_r A (tk k) (sr_s s A tk n (k + 1))) with g | g
    · rw [Nat.min_eq_left g] at e
      rw [e]
      exact Nat.le_trans h1 h2
    · rw [Nat.min_eq_right g] at e
      have a := sr_r_ge A (tk k) (sr_s s A tk n (k + 1))
      rw [← e] at a
      exact Nat.le_trans a (sr_r_ge A (tk k) (sr_s s A tk n k))
  · rw [e]
    exact Nat.min_le_right _ _
theorem sr_f_fix {s : Nat → Nat} {A : Nat} {tk : Nat → Nat} {n : Nat} (h : sr_St s A tk n) : ∀ k, k ≤ n → sr_f s A tk k = s k := by
  intro k
  induction k with
  | zero => intro _; rw [sr_f]
  | succ k ih =>
    intro hk
    rw [sr_f, ih (by omega)]
    exact Nat.min_eq_left (h k hk).1
theorem sr_s_fix {s : Nat → Nat} {A : Nat} {tk : Nat → Nat} {n : Nat} (h : sr_St s A tk n) : ∀ d, d ≤ n → sr_s s A tk n (n - d) = s (n - d) := by
  intro d
  induction d with
  | zero => intro _; rw [Nat.sub_zero, sr_s_n, sr_f_fix h n (Nat.le_refl n)]
  | succ d ih =>
    intro hd
    have e : n - (d + 1) + 1 = n - d := by omega
    have hk : n - (d + 1) < n := by omega
    rw [sr_s_k s A tk hk, e, ih (by omega), sr_f_fix h _ (by omega)]
    have g := (h _ hk).2
    rw [e] at g
    exact Nat.min_eq_left g
theorem sr_s_fix' {s : Nat → Nat} {A : Nat} {tk : Nat → Nat} {n k : Nat} (h : sr_St s A tk n) (hk : k ≤ n) : sr_s s A tk n k = s k := by
  have := sr_s_fix h (n - k) (by omega)
  have e : n - (n - k) = k := by omega
  rw [e] at this
  exact this
theorem sr_s_twice (s : Nat → Nat) (A : Nat) (tk : Nat → Nat) {n k : Nat} (hk : k ≤ n) : sr_s (sr_s s A tk n) A tk n k = sr_s s A tk n k := sr_s_fix' (sr_s_stable s A tk n) hk
-- steps: a step is a number below 27, its digits to the base 3
def sr_dg (p a : Nat) : Int32 := if a = 0 then nI (p / 9) - 1 else if a = 1 then nI (p / 3 % 3) - 1 else nI (p % 3) - 1
def sr_dot (p q : Nat) : Int := ((p / 9 : Nat) - 1 : Int) * ((q / 9 : Nat) - 1) + ((p / 3 % 3 : Nat) - 1 : Int) * ((q / 3 % 3 : Nat) - 1) + ((p % 3 : Nat) - 1 : Int) * ((q % 3 : Nat) - 1)
def sr_pd (p q : Nat) : Nat := (sr_dot p q).toNat
def sr_mx (p q : Nat) : Nat := max (sr_pd p p) (sr_pd q q)
def sr_sop (a b : Int32) : Int32 := (a / 9 - 1) * (b / 9 - 1) + (a / 3 - a / 3 / 3 * 3 - 1) * (b / 3 - b / 3 / 3 * 3 - 1) + (a - a / 3 * 3 - 1) * (b - b / 3 * 3 - 1)
/-- the limit of corner k where a move follows it -/
def sr_tm (fd fs la : Nat → Nat) (k : Nat) : Nat := if k = 0 then 0 else min (fd (k - 1)) (fd k) * sr_pd (la (k - 1)) (fs k) / sr_mx (la (k - 1)) (fs k)
def sr_lim (mo : Nat) (fd fs la : Nat → Nat) (k : Nat) : Nat := if k = 0 ∨ mo ≤ k then 0 else sr_tm fd fs la k
/-- the speed of corner k -/
def sr_sp (mo ac : Nat) (tk fd fs la : Nat → Nat) (k : Nat) : Nat := sr_s (sr_lim mo fd fs la) ac tk mo k
def sr_up (f : Nat → Nat) (k v : Nat) : Nat → Nat := fun j => if j = k then v else f j
theorem sr_up_s (f : Nat → Nat) (k v : Nat) : sr_up f k v k = v := by simp [sr_up]
theorem sr_up_n {f : Nat → Nat} {k v j : Nat} (h : j ≠ k) : sr_up f k v j = f j := by simp [sr_up, h]
/-- the legal steps -/
def sr_ok (p : Nat) : Prop := p < 27 ∧ p ≠ 13
theorem sr_st_all : ∀ p, p < 27 → ∀ q, q < 27 →
    ((if (0 : Int32) < sr_sop (nI p) (nI q) then sr_sop (nI p) (nI q) else 0) = nI (sr_pd p q)) ∧
    (p ≠ 13 → 1 ≤ sr_pd p p ∧ sr_sop (nI p) (nI p) = nI (sr_pd p p)) ∧ sr_pd p q ≤ 3 := by decide +kernel
theorem sr_pd_mx : ∀ p, p < 27 → ∀ q, q < 27 → sr_pd p q ≤ sr_mx p q := by decide +kernel
theorem sr_m_all : ∀ p, p < 27 → ∀ q, q < 27 →
    (if (sr_dg p 0 * sr_dg q 0 + sr_dg p 1 * sr_dg q 1 + sr_dg p 2 * sr_dg q 2) < 0 then 0 else (sr_dg p 0 * sr_dg q 0 + sr_dg p 1 * sr_dg q 1 + sr_dg p 2 * sr_dg q 2)) = nI (sr_pd p q) := by decide +kernel
theorem sr_m_sq : ∀ p, p < 27 → sr_dg p 0 * sr_dg p 0 + sr_dg p 1 * sr_dg p 1 + sr_dg p 2 * sr_dg p 2 = nI (sr_pd p p) := by decide +kernel
theorem sr_dg_nar : ∀ p, p < 27 → ∀ a, a < 3 → vp_nar .byte (sr_dg p a) = sr_dg p a := by decide +kernel
theorem sr_dg_i2b : ∀ p, p < 27 → ∀ a, a < 3 → (sr_dg p a).toInt8.toInt32 = sr_dg p a := by decide +kernel
theorem sr_dg_pack : ∀ p, p < 27 → (sr_dg p 0 + 1) * 9 + (sr_dg p 1 + 1) * 3 + (sr_dg p 2 + 1) = nI p := by decide +kernel
theorem sr_pd_le {p q : Nat} (hp : p < 27) (hq : q < 27) : sr_pd p q ≤ 3 := (sr_st_all p hp q hq).2.2
theorem sr_pd_pos {p : Nat} (hp : sr_ok p) : 1 ≤ sr_pd p p := ((sr_st_all p hp.1 p hp.1).2.1 hp.2).1
/-- which triples of ints are a step -/
def sr_isS (x y z : Int32) : Prop := (((((-1 ≤ x ∧ x ≤ 1) ∧ -1 ≤ y) ∧ y ≤ 1) ∧ -1 ≤ z) ∧ z ≤ 1) ∧ (x ≠ 0 ∨ y ≠ 0 ∨ z ≠ 0)
theorem sr_three {x : Int32} (h1 : -1 ≤ x) (h2 : x ≤ 1) : x = -1 ∨ x = 0 ∨ x = 1 := by
  have a : (-1 : Int32).toInt ≤ x.toInt := Int32.le_iff_toInt_le.mp h1
  have b : x.toInt ≤ (1 : Int32).toInt := Int32.le_iff_toInt_le.mp h2
  have a1 : (-1 : Int32).toInt = -1 := by decide
  have b1 : (1 : Int32).toInt = 1 := by decide
  have c0 : (0 : Int32).toInt = 0 := by decide
  rw [a1] at a
  rw [b1] at b
  rcases (show x.toInt = -1 ∨ x.toInt = 0 ∨ x.toInt = 1 by omega) with h | h | h
  · exact Or.inl (Int32.toInt_inj.mp (by rw [h, a1]))
  · exact Or.inr (Or.inl (Int32.toInt_inj.mp (by rw [h, c0])))
  · exact Or.inr (Or.inr (Int32.toInt_inj.mp (by rw [h, b1])))
theorem sr_step {x y z : Int32} (h : sr_isS x y z) : ∃ p, sr_ok p ∧ x = sr_dg p 0 ∧ y = sr_dg p 1 ∧ z = sr_dg p 2 := by
  obtain ⟨⟨⟨⟨⟨⟨a, b⟩, c⟩, d⟩, e⟩, f⟩, g⟩ := h
  rcases sr_three a b with rfl | rfl | rfl <;> rcases sr_three c d with rfl | rfl | rfl <;> rcases sr_three e f with rfl | rfl | rfl
  · exact ⟨0, by unfold sr_ok; decide, by decide, by decide, by decide⟩
  · exact ⟨1, by unfold sr_ok; decide, by decide, by decide, by decide⟩
  · exact ⟨2, by unfold sr_ok; decide, by decide, by decide, by decide⟩
  · exact ⟨3, by unfold sr_ok; decide, by decide, by decide, by decide⟩
  · exact ⟨4, by unfold sr_ok; decide, by decide, by decide, by decide⟩
  · exact ⟨5, by unfold sr_ok; decide, by decide, by decide, by decide⟩
  · exact ⟨6, by unfold sr_ok; decide, by decide, by decide, by decide⟩
  · exact ⟨7, by unfold sr_ok; decide, by decide, by decide, by decide⟩
  · exact ⟨8, by unfold sr_ok; decide, by decide, by decide, by decide⟩
  · exact ⟨9, by unfold sr_ok; decide, by decide, by decide, by decide⟩
  · exact ⟨10, by unfold sr_ok; decide, by decide, by decide, by decide⟩
  · exact ⟨11, by unfold sr_ok; decide, by decide, by decide, by decide⟩
  · exact ⟨12, by unfold sr_ok; decide, by decide, by decide, by decide⟩
  · exact absurd g (by decide)
  · exact ⟨14, by unfold sr_ok; decide, by decide, by decide, by decide⟩
  · exact ⟨15, by unfold sr_ok; decide, by decide, by decide, by decide⟩
  · exact ⟨16, by unfold sr_ok; decide, by decide, by decide, by decide⟩
  · exact ⟨17, by unfold sr_ok; decide, by decide, by decide, by decide⟩
  · exact ⟨18, by unfold sr_ok; decide, by decide, by decide, by decide⟩
  · exact ⟨19, by unfold sr_ok; decide, by decide, by decide, by decide⟩
  · exact ⟨20, by unfold sr_ok; decide, by decide, by decide, by decide⟩
  · exact ⟨21, by unfold sr_ok; decide, by decide, by decide, by decide⟩
  · exact ⟨22, by unfold sr_ok; decide, by decide, by decide, by decide⟩
  · exact ⟨23, by unfold sr_ok; decide, by decide, by decide, by decide⟩
  · exact ⟨24, by unfold sr_ok; decide, by decide, by decide, by decide⟩
  · exact ⟨25, by unfold sr_ok; decide, by decide, by decide, by decide⟩
  · exact ⟨26, by unfold sr_ok; decide, by decide, by decide, by decide⟩
end
section
/-! STATE: the cells of the class and of the reference, and what they hold. -/
abbrev sr_at (dC : Nat → ClassId) (dI : Nat → Nat → Nat) (tys : List (ClassId × FieldType)) (A : Nat → Prop) (u : va_W) (t : State) : Prop := va_P (dC, dI) vwCl u t.heap ∧ va_K (dC, dI) vwCl tys t ∧ va_D A u
abbrev sr_pre (dC : Nat → ClassId) (dI : Nat → Nat → Nat) (tys : List (ClassId × FieldType)) (w : va_W) (sz : Nat) (av : List Value) : Array Value → State → Prop := va_Pc av (fun U => U.heap.size = sz ∧ va_P (dC, dI) vwCl w U.heap ∧ va_K (dC, dI) vwCl tys U ∧ va_D (fun _ => True) w)
theorem sr_blind {dC : Nat → ClassId} {dI : Nat → Nat → Nat} {tys : List (ClassId × FieldType)} {w : va_W} {sz : Nat} {av : List Value} : FrameBlind (sr_pre dC dI tys w sz av) := fun a U g mk q => by
  obtain ⟨q0, q1, qP, qK, qD⟩ := q
  exact ⟨q0, q1, qP, va_K.moved (u := U) (U := U.calling g mk a) (Vm.Alike.refl U.vm) qK, qD⟩
theorem sr_mk {dC : Nat → ClassId} {dI : Nat → Nat → Nat} {tys : List (ClassId × FieldType)} {w : va_W} {av : List Value} {s : State} {H : Heap} {A : Nat → Prop} (hP : va_P (dC, dI) vwCl w H) (hK : va_K (dC, dI) vwCl tys s) (hD : va_D A w) : ∀ U : State, U.heap = H → s.WarmedH U.vm → sr_pre dC dI tys w H.size av av.toArray U := fun U hU hW => ⟨rfl, by rw [hU], by rw [hU]; exact hP, va_K.moved hW.alike hK, hD.weaken (fun _ _ _ _ => trivial)⟩
theorem sr_blindT {av : List Value} : FrameBlind (va_Pc av (fun _ => True)) := fun _ _ _ _ q => ⟨q.1, trivial⟩
theorem sr_mkT {av : List Value} {s : State} {H : Heap} : ∀ U : State, U.heap = H → s.WarmedH U.vm → va_Pc av (fun _ => True) av.toArray U := fun _ _ _ => ⟨rfl, trivial⟩
/-- the path: its numbers are as the document has them -/
def sr_G (mo ac cf cl : Nat) (tk fd fs la : Nat → Nat) : Prop := mo ≤ 2000 ∧ (1 ≤ ac ∧ ac ≤ 10000) ∧ sr_ok cf ∧ sr_ok cl ∧ ∀ i, i < mo → (1 ≤ tk i ∧ tk i ≤ 100000) ∧ (1 ≤ fd i ∧ fd i ≤ 99999) ∧ sr_ok (fs i) ∧ sr_ok (la i)
abbrev sr_tX (c1 c2 c3 c4 c5 : ClassId) : List (ClassId × FieldType) := [(c1, .int), (c2, .int), (c3, .int), (c4, .int), (c5, .int)]
abbrev sr_wX (x a1 a2 a3 a4 a5 : Nat) (c1 c2 c3 c4 c5 : ClassId) (mo cf cl ac : Nat) (st : Int32) (T F G L S : Nat → Int32) : va_W := [(x, .inr (0, [.ref a1, .ref a2, .ref a3, .ref a4, .ref a5, .int (nI mo), .int (nI cf), .int (nI cl), .int (nI ac), .int st])), (a1, .inl (c1, 2000, .inl T)), (a2, .inl (c2, 2000, .inl F)), (a3, .inl (c3, 2000, .inl G)), (a4, .inl (c4, 2000, .inl L)), (a5, .inl (c5, 2001, .inl S))]
def sr_XI (mo : Nat) (tk fd fs la : Nat → Nat) (T F G L : Nat → Int32) : Prop := ∀ i, i < mo → T i = nI (tk i) ∧ F i = nI (fd i) ∧ G i = nI (la i) ∧ L i = nI (sr_tm fd fs la i)
def sr_XS (mo ac : Nat) (tk fd fs la : Nat → Nat) (st : Int32) (S : Nat → Int32) : Prop := st = 0 ∨ (st = 1 ∧ ∀ k, k ≤ mo → S k = nI (sr_sp mo ac tk fd fs la k))
abbrev sr_tM (d1 d2 d3 d4 d5 d6 d7 : ClassId) : List (ClassId × FieldType) := [(d1, .int), (d2, .int), (d3, .byte), (d4, .byte), (d5, .byte), (d6, .byte), (d7, .int)]
abbrev sr_wM (y b1 b2 b3 b4 b5 b6 b7 : Nat) (d1 d2 d3 d4 d5 d6 d7 : ClassId) (mo ac : Nat) (kn : Int32) (T F I J U V S : Nat → Int32) : va_W := [(y, .inr (1, [.ref b1, .ref b2, .ref b3, .ref b4, .ref b5, .ref b6, .int (nI mo), .int (nI ac), .ref b7, .int kn])), (b1, .inl (d1, 2000, .inl T)), (b2, .inl (d2, 2000, .inl F)), (b3, .inl (d3, 6000, .inl I)), (b4, .inl (d4, 6000, .inl J)), (b5, .inl (d5, 3, .inl U)), (b6, .inl (d6, 3, .inl V)), (b7, .inl (d7, 2001, .inl S))]
def sr_MI (mo cf cl : Nat) (tk fd fs la : Nat → Nat) (T F I J U V : Nat → Int32) : Prop := (∀ i, i < mo → T i = nI (tk i) ∧ F i = nI (fd i) ∧ ∀ a, a < 3 → I (3 * i + a) = sr_dg (fs i) a ∧ J (3 * i + a) = sr_dg (la i) a) ∧ ∀ a, a < 3 → U a = sr_dg cf a ∧ V a = sr_dg cl a
/-- the answer for a place k: the function's value at a corner, else -1 -/
def sr_an (mo : Nat) (g : Nat → Nat) (k : Int32) : Int32 := if 0 ≤ k ∧ k ≤ nI mo then nI (g k.toNatClampNeg) else -1
def sr_sum (g : Nat → Nat) : Nat → Nat
  | 0 => 0
  | n + 1 => sr_sum g n + g n
def sr_cnt (g h : Nat → Nat) : Nat → Nat
  | 0 => 0
  | n + 1 => sr_cnt g h n + (if g n < h n then 1 else 0)
theorem sr_tm_le {fd fs la : Nat → Nat} {k : Nat} (h1 : k ≠ 0 → fd (k - 1) ≤ 99999) (h2 : k ≠ 0 → sr_ok (la (k - 1)) ∧ sr_ok (fs k)) : sr_tm fd fs la k ≤ 99999 := by
  unfold sr_tm
  split
  · omega
  · rename_i hk
    have a : min (fd (k - 1)) (fd k) ≤ 99999 := Nat.le_trans (Nat.min_le_left _ _) (h1 hk)
    have b := sr_pd_mx _ (h2 hk).1.1 _ (h2 hk).2.1
    have c : 0 < sr_mx (la (k - 1)) (fs k) := Nat.lt_of_lt_of_le (sr_pd_pos (h2 hk).1) (Nat.le_max_left _ _)
    refine Nat.le_trans (Nat.div_le_of_le_mul ?_) a
    rw [Nat.mul_comm]
    exact Nat.mul_le_mul_right _ b
theorem sr_lim_le {mo ac cf cl : Nat} {tk fd fs la : Nat → Nat} (g : sr_G mo ac cf cl tk fd fs la) (k : Nat) : sr_lim mo fd fs la k ≤ 99999 := by
  unfold sr_lim
  split
  · omega
  · rename_i h
    have h1 : k ≠ 0 := fun e => h (Or.inl e)
    have h2 : k < mo := Nat.lt_of_not_le (fun e => h (Or.inr e))
    exact sr_tm_le (fun _ => (g.2.2.2.2 (k - 1) (by omega)).2.1.2) (fun _ => ⟨(g.2.2.2.2 (k - 1) (by omega)).2.2.2, (g.2.2.2.2 k h2).2.2.1⟩)
theorem sr_sp_le {mo ac cf cl : Nat} {tk fd fs la : Nat → Nat} (g : sr_G mo ac cf cl tk fd fs la) {k : Nat} (hk : k ≤ mo) : sr_sp mo ac tk fd fs la k ≤ 99999 := Nat.le_trans (sr_s_le _ _ _ hk) (sr_lim_le g k)
theorem sr_lim_0 (mo : Nat) (fd fs la : Nat → Nat) : sr_lim mo fd fs la 0 = 0 := by simp [sr_lim]
theorem sr_lim_top {mo k : Nat} {fd fs la : Nat → Nat} (h : mo ≤ k) : sr_lim mo fd fs la k = 0 := by simp [sr_lim, h]
theorem sr_lim_in {mo k : Nat} {fd fs la : Nat → Nat} (h1 : k ≠ 0) (h2 : k < mo) : sr_lim mo fd fs la k = sr_tm fd fs la k := by
  have h3 : ¬ mo ≤ k := Nat.not_le.mpr h2
  simp [sr_lim, h1, h3]
theorem sr_shl : ∀ b, b < 17 → lN 1 <<< ((nI b).toInt64 &&& 63) = lN (2 ^ b) := by decide +kernel
theorem sr_ishl : ∀ b, b < 17 → nI 1 <<< (nI b &&& 31) = nI (2 ^ b) := by decide +kernel
theorem sr_maxN {a b : Nat} (ha : a < 2 ^ 31) (hb : b < 2 ^ 31) : (if nI a < nI b then nI b else nI a) = nI (max a b) := by
  rcases Nat.lt_or_ge a b with h | h
  · rw [if_pos ((nI_ltI ha hb).mpr h), Nat.max_eq_right (Nat.le_of_lt h)]
  · rw [if_neg (fun q => absurd ((nI_ltI ha hb).mp q) (Nat.not_lt.mpr h)), Nat.max_eq_left h]
theorem sr_minN {a b : Nat} (ha : a < 2 ^ 31) (hb : b < 2 ^ 31) : (if nI b < nI a then nI b else nI a) = nI (min a b) := by
  rcases Nat.lt_or_ge b a with h | h
  · rw [if_pos ((nI_ltI hb ha).mpr h), Nat.min_eq_right (Nat.le_of_lt h)]
  · rw [if_neg (fun q => absurd ((nI_ltI hb ha).mp q) (Nat.not_lt.mpr h)), Nat.min_eq_left h]
theorem sr_dec (x : Int32) : x + Int32.ofInt (-1) = x - 1 := by
  have h : Int32.ofInt (-1) = -1 := by decide
  rw [h, Int32.sub_eq_add_neg]
end
section
/-! THE CLASS: its static methods. -/
set_option maxHeartbeats 4000000 in
set_option maxRecDepth 100000 in
theorem c_X0_isWithin (l : Launch) (v lo hi : Int32) : Met l yX0_isWithin wsX0_isWithin ({ frames := 0, cells := 0, slots := 0, locals := 0 }) (va_Pc [.int v, .int lo, .int hi] (fun _ => True)) (vp_Si (fun r => (r = 1 ∧ lo ≤ v ∧ v ≤ hi) ∨ (r = 0 ∧ ¬ (lo ≤ v ∧ v ≤ hi)))) 0 0 (fun _ => False) := by
  refine Met.ofW (cc := cX0_isWithin) (maxL := 3) (ret := (some .boolean)) (by decide) rfl ?_
  intro p e s m args below meth c s₁ B hml hv
  obtain ⟨rfl, -⟩ := hv
  have hx := B.exec
  have hb := B.bytes
  have hr := B.returns
  have hts := atoms_spec (ws := wsX0_isWithin) B.pre
  have hown : s.vm.findClass RX0 = some m.cls := findClass_of_methodNamed B.named
  have hlocks := B.notSynchronized
  have hl := lv_entry ([.int v, .int lo, .int hi]) (n := 3) (Nat.le_of_ble_eq_true rfl)
  rw [lg_entry_eq]
  generalize (lg_sl ([.int v, .int lo, .int hi]) ++ List.replicate (3 - (lg_sl ([.int v, .int lo, .int hi])).length) Slot.unset).toArray = ls at hl ⊢
  have hl : lv_has ls 3 [(0, .int v), (1, .int lo), (2, .int hi)] := hl
  refine lv_iload_n hx hb dX0_isWithin_0 rfl (lv_at hl 1 rfl) ?_
  refine lv_iload_n hx hb dX0_isWithin_1 rfl (lv_at hl 0 rfl) ?_
  refine lv_icmp_gt (tgt := 14) hx hb dX0_isWithin_2 (by decide) (fun c1 => ?_) (fun c1 => ?_)
  · refine lv_iconst (v := 0) hx hb dX0_isWithin_14 (by decide) ?_
    exact W.zret (v := 0) hx hb hr rfl (fun t ht hW => ⟨0, rfl, Or.inr ⟨rfl, fun h => absurd h.1 (Int32.not_le.mpr c1)⟩, ht⟩) (fun q h => absurd h List.not_mem_nil) dX0_isWithin_15
  · refine lv_iload_n hx hb dX0_isWithin_5 rfl (lv_at hl 0 rfl) ?_
    refine lv_iload_n hx hb dX0_isWithin_6 rfl (lv_at hl 2 rfl) ?_
    refine lv_icmp_gt (tgt := 14) hx hb dX0_isWithin_7 (by decide) (fun c2 => ?_) (fun c2 => ?_)
    · refine lv_iconst (v := 0) hx hb dX0_isWithin_14 (by decide) ?_
      exact W.zret (v := 0) hx hb hr rfl (fun t ht hW => ⟨0, rfl, Or.inr ⟨rfl, fun h => absurd h.2 (Int32.not_le.mpr c2)⟩, ht⟩) (fun q h => absurd h List.not_mem_nil) dX0_isWithin_15
    · refine lv_iconst (v := 1) hx hb dX0_isWithin_10 (by decide) ?_
      refine lv_goto (tgt := 15) hx hb dX0_isWithin_11 (by decide) ?_
      exact W.zret (v := 1) hx hb hr rfl (fun t ht hW => ⟨1, rfl, Or.inl ⟨rfl, Int32.not_lt.mp c1, Int32.not_lt.mp c2⟩, ht⟩) (fun q h => absurd h List.not_mem_nil) dX0_isWithin_15
set_option maxHeartbeats 4000000 in
set_option maxRecDepth 100000 in
theorem c_X0_isStep (l : Launch) (x y z : Int32) : Met l yX0_isStep wsX0_isStep ({ frames := 1, cells := 0, slots := 0, locals := 22 }) (va_Pc [.int x, .int y, .int z] (fun _ => True)) (vp_Si (fun r => (r = 1 ∧ sr_isS x y z) ∨ (r = 0 ∧ ¬ sr_isS x y z))) 0 0 (fun _ => False) := by
  refine Met.ofW (cc := cX0_isStep) (maxL := 3) (ret := (some .boolean)) (by decide) rfl ?_
  intro p e s m args below meth c s₁ B hml hv
  obtain ⟨rfl, -⟩ := hv
  have hx := B.exec
  have hb := B.bytes
  have hr := B.returns
  have hts := atoms_spec (ws := wsX0_isStep) B.pre
  have hown : s.vm.findClass RX0 = some m.cls := findClass_of_methodNamed B.named
  have hlocks := B.notSynchronized
  have hl := lv_entry ([.int x, .int y, .int z]) (n := 3) (Nat.le_of_ble_eq_true rfl)
  rw [lg_entry_eq]
  generalize (lg_sl ([.int x, .int y, .int z]) ++ List.replicate (3 - (lg_sl ([.int x, .int y, .int z])).length) Slot.unset).toArray = ls at hl ⊢
  have hl : lv_has ls 3 [(0, .int x), (1, .int y), (2, .int z)] := hl
  refine lv_iload_n hx hb dX0_isStep_0 rfl (lv_at hl 0 rfl) ?_
  refine lv_iconst (v := (-1)) hx hb dX0_isStep_1 (by decide) ?_
  refine lv_iconst (v := 1) hx hb dX0_isStep_2 (by decide) ?_
  refine vp_callSi (W.runS (As := [.int x, .int ((-1)), .int 1]) (rest := []) ⟨hx, hb, hml, hown, hts⟩ (c_X0_isWithin l x (-1) 1) (va_cwS 3 hts gX0_isStep_X0_isWithin rfl rfl rfl (by decide +kernel) ⟨Nat.le_of_ble_eq_true rfl, Nat.le_of_ble_eq_true rfl⟩) ⟨sr_blindT, sr_mkT⟩ rfl rfl hl.1 rfl (lv_room (Nat.le_of_ble_eq_true rfl)) dX0_isStep_3 ⟨Nat.zero_le _, Nat.zero_le _⟩) (fun rx ex => ?_)
  refine lv_if_eq (tgt := 43) hx hb dX0_isStep_6 (by decide) (fun kx => ?_) (fun kx => ?_)
  · have gx : ¬ (-1 ≤ x ∧ x ≤ 1) := by
      rcases ex with ⟨q, _⟩ | ⟨_, q⟩
      · exact absurd (q.symm.trans kx) (by decide)
      · exact q
    refine lv_iconst (v := 0) hx hb dX0_isStep_43 (by decide) ?_
    exact W.zret (v := 0) hx hb hr rfl (fun t ht hW => ⟨0, rfl, Or.inr ⟨rfl, fun h => gx ⟨h.1.1.1.1.1.1, h.1.1.1.1.1.2⟩⟩, ht⟩) (fun q h => absurd h List.not_mem_nil) dX0_isStep_44
  · have gx : -1 ≤ x ∧ x ≤ 1 := by
      rcases ex with ⟨_, q⟩ | ⟨q, _⟩
      · exact q
      · exact absurd q kx
    refine lv_iload_n hx hb dX0_isStep_9 rfl (lv_at hl 1 rfl) ?_
    refine lv_iconst (v := (-1)) hx hb dX0_isStep_10 (by decide) ?_
    refine lv_iconst (v := 1) hx hb dX0_isStep_11 (by decide) ?_
    refine vp_callSi (W.runS (As := [.int y, .int ((-1)), .int 1]) (rest := []) ⟨hx, hb, hml, hown, hts⟩ (c_X0_isWithin l y (-1) 1) (va_cwS 3 hts gX0_isStep_X0_isWithin rfl rfl rfl (by decide +kernel) ⟨Nat.le_of_ble_eq_true rfl, Nat.le_of_ble_eq_true rfl⟩) ⟨sr_blindT, sr_mkT⟩ rfl rfl hl.1 rfl (lv_room (Nat.le_of_ble_eq_true rfl)) dX0_isStep_12 ⟨Nat.zero_le _, Nat.zero_le _⟩) (fun ry ey => ?_)
    refine lv_if_eq (tgt := 43) hx hb dX0_isStep_15 (by decide) (fun ky => ?_) (fun ky => ?_)
    · have gy : ¬ (-1 ≤ y ∧ y ≤ 1) := by
        rcases ey with ⟨q, _⟩ | ⟨_, q⟩
        · exact absurd (q.symm.trans ky) (by decide)
        · exact q
      refine lv_iconst (v := 0) hx hb dX0_isStep_43 (by decide) ?_
      exact W.zret (v := 0) hx hb hr rfl (fun t ht hW => ⟨0, rfl, Or.inr ⟨rfl, fun h => gy ⟨h.1.1.1.1.2, h.1.1.1.2⟩⟩, ht⟩) (fun q h => absurd h List.not_mem_nil) dX0_isStep_44
    · have gy : -1 ≤ y ∧ y ≤ 1 := by
        rcases ey with ⟨_, q⟩ | ⟨q, _⟩
        · exact q
        · exact absurd q ky
      refine lv_iload_n hx hb dX0_isStep_18 rfl (lv_at hl 2 rfl) ?_
      refine lv_iconst (v := (-1)) hx hb dX0_isStep_19 (by decide) ?_
      refine lv_iconst (v := 1) hx hb dX0_isStep_20 (by decide) ?_
      refine vp_callSi (W.runS (As := [.int z, .int ((-1)), .int 1]) (rest := []) ⟨hx, hb, hml, hown, hts⟩ (c_X0_isWithin l z (-1) 1) (va_cwS 3 hts gX0_isStep_X0_isWithin rfl rfl rfl (by decide +kernel) ⟨Nat.le_of_ble_eq_true rfl, Nat.le_of_ble_eq_true rfl⟩) ⟨sr_blindT, sr_mkT⟩ rfl rfl hl.1 rfl (lv_room (Nat.le_of_ble_eq_true rfl)) dX0_isStep_21 ⟨Nat.zero_le _, Nat.zero_le _⟩) (fun rz ez => ?_)
      refine lv_if_eq (tgt := 43) hx hb dX0_isStep_24 (by decide) (fun kz => ?_) (fun kz => ?_)
      · have gz : ¬ (-1 ≤ z ∧ z ≤ 1) := by
          rcases ez with ⟨q, _⟩ | ⟨_, q⟩
          · exact absurd (q.symm.trans kz) (by decide)
          · exact q
        refine lv_iconst (v := 0) hx hb dX0_isStep_43 (by decide) ?_
        exact W.zret (v := 0) hx hb hr rfl (fun t ht hW => ⟨0, rfl, Or.inr ⟨rfl, fun h => gz ⟨h.1.1.2, h.1.2⟩⟩, ht⟩) (fun q h => absurd h List.not_mem_nil) dX0_isStep_44
      · have gz : -1 ≤ z ∧ z ≤ 1 := by
          rcases ez with ⟨_, q⟩ | ⟨q, _⟩
          · exact q
          · exact absurd q kz
        refine lv_iload_n hx hb dX0_isStep_27 rfl (lv_at hl 0 rfl) ?_
        refine lv_if_ne (tgt := 39) hx hb dX0_isStep_28 (by decide) (fun n1 => ?_) (fun n1 => ?_)
        · refine lv_iconst (v := 1) hx hb dX0_isStep_39 (by decide) ?_
          refine lv_goto (tgt := 44) hx hb dX0_isStep_40 (by decide) ?_
          exact W.zret (v := 1) hx hb hr rfl (fun t ht hW => ⟨1, rfl, Or.inl ⟨rfl, ⟨⟨⟨⟨⟨⟨gx.1, gx.2⟩, gy.1⟩, gy.2⟩, gz.1⟩, gz.2⟩, Or.inl n1⟩⟩, ht⟩) (fun q h => absurd h List.not_mem_nil) dX0_isStep_44
        · refine lv_iload_n hx hb dX0_isStep_31 rfl (lv_at hl 1 rfl) ?_
          refine lv_if_ne (tgt := 39) hx hb dX0_isStep_32 (by decide) (fun n2 => ?_) (fun n2 => ?_)
          · refine lv_iconst (v := 1) hx hb dX0_isStep_39 (by decide) ?_
            refine lv_goto (tgt := 44) hx hb dX0_isStep_40 (by decide) ?_
            exact W.zret (v := 1) hx hb hr rfl (fun t ht hW => ⟨1, rfl, Or.inl ⟨rfl, ⟨⟨⟨⟨⟨⟨gx.1, gx.2⟩, gy.1⟩, gy.2⟩, gz.1⟩, gz.2⟩, Or.inr (Or.inl n2)⟩⟩, ht⟩) (fun q h => absurd h List.not_mem_nil) dX0_isStep_44
          · refine lv_iload_n hx hb dX0_isStep_35 rfl (lv_at hl 2 rfl) ?_
            refine lv_if_eq (tgt := 43) hx hb dX0_isStep_36 (by decide) (fun n3 => ?_) (fun n3 => ?_)
            · refine lv_iconst (v := 0) hx hb dX0_isStep_43 (by decide) ?_
              exact W.zret (v := 0) hx hb hr rfl (fun t ht hW => ⟨0, rfl, Or.inr ⟨rfl, fun h => h.2.elim (fun q => q n1) (fun q => q.elim (fun q => q n2) (fun q => q n3))⟩, ht⟩) (fun q h => absurd h List.not_mem_nil) dX0_isStep_44
            · refine lv_iconst (v := 1) hx hb dX0_isStep_39 (by decide) ?_
              refine lv_goto (tgt := 44) hx hb dX0_isStep_40 (by decide) ?_
              exact W.zret (v := 1) hx hb hr rfl (fun t ht hW => ⟨1, rfl, Or.inl ⟨rfl, ⟨⟨⟨⟨⟨⟨gx.1, gx.2⟩, gy.1⟩, gy.2⟩, gz.1⟩, gz.2⟩, Or.inr (Or.inr n3)⟩⟩, ht⟩) (fun q h => absurd h List.not_mem_nil) dX0_isStep_44
set_option maxHeartbeats 4000000 in
set_option maxRecDepth 100000 in
theorem c_X0_packed (l : Launch) (x y z : Int32) : Met l yX0_packed wsX0_packed ({ frames := 0, cells := 0, slots := 0, locals := 0 }) (va_Pc [.int x, .int y, .int z] (fun _ => True)) (vp_Si (fun r => r = (x + 1) * 9 + (y + 1) * 3 + (z + 1))) 0 0 (fun _ => False) := by
  refine Met.ofW (cc := cX0_packed) (maxL := 3) (ret := (some .int)) (by decide) rfl ?_
  intro p e s m args below meth c s₁ B hml hv
  obtain ⟨rfl, -⟩ := hv
  have hx := B.exec
  have hb := B.bytes
  have hr := B.returns
  have hts := atoms_spec (ws := wsX0_packed) B.pre
  have hown : s.vm.findClass RX0 = some m.cls := findClass_of_methodNamed B.named
  have hlocks := B.notSynchronized
  have hl := lv_entry ([.int x, .int y, .int z]) (n := 3) (Nat.le_of_ble_eq_true rfl)
  rw [lg_entry_eq]
  generalize (lg_sl ([.int x, .int y, .int z]) ++ List.replicate (3 - (lg_sl ([.int x, .int y, .int z])).length) Slot.unset).toArray = ls at hl ⊢
  have hl : lv_has ls 3 [(0, .int x), (1, .int y), (2, .int z)] := hl
  refine lv_iload_n hx hb dX0_packed_0 rfl (lv_at hl 0 rfl) ?_
  refine lv_iconst (v := 1) hx hb dX0_packed_1 (by decide) ?_
  refine lv_iadd hx hb dX0_packed_2 ?_
  refine lv_bipush (v := 9) hx hb dX0_packed_3 (by decide) ?_
  refine lv_imul hx hb dX0_packed_5 ?_
  refine lv_iload_n hx hb dX0_packed_6 rfl (lv_at hl 1 rfl) ?_
  refine lv_iconst (v := 1) hx hb dX0_packed_7 (by decide) ?_
  refine lv_iadd hx hb dX0_packed_8 ?_
  refine lv_iconst (v := 3) hx hb dX0_packed_9 (by decide) ?_
  refine lv_imul hx hb dX0_packed_10 ?_
  refine lv_iadd hx hb dX0_packed_11 ?_
  refine lv_iload_n hx hb dX0_packed_12 rfl (lv_at hl 2 rfl) ?_
  refine lv_iconst (v := 1) hx hb dX0_packed_13 (by decide) ?_
  refine lv_iadd hx hb dX0_packed_14 ?_
  refine lv_iadd hx hb dX0_packed_15 ?_
  exact W.iret (v := (((x + 1) * 9) + ((y + 1) * 3)) + (z + 1)) hx hb hr (fun t ht hW => ⟨(((x + 1) * 9) + ((y + 1) * 3)) + (z + 1), rfl, rfl, ht⟩) (fun q h => absurd h List.not_mem_nil) dX0_packed_16
set_option maxHeartbeats 4000000 in
set_option maxRecDepth 100000 in
theorem c_X0_sumOfProducts (l : Launch) (a b : Int32) : Met l yX0_sumOfProducts wsX0_sumOfProducts ({ frames := 0, cells := 0, slots := 0, locals := 0 }) (va_Pc [.int a, .int b] (fun _ => True)) (vp_Si (fun r => r = sr_sop a b)) 0 0 (fun _ => False) := by
  refine Met.ofW (cc := cX0_sumOfProducts) (maxL := 5) (ret := (some .int)) (by decide) rfl ?_
  intro p e s m args below meth c s₁ B hml hv
  obtain ⟨rfl, -⟩ := hv
  have hx := B.exec
  have hb := B.bytes
  have hr := B.returns
  have hts := atoms_spec (ws := wsX0_sumOfProducts) B.pre
  have hown : s.vm.findClass RX0 = some m.cls := findClass_of_methodNamed B.named
  have hlocks := B.notSynchronized
  have hl := lv_entry ([.int a, .int b]) (n := 5) (Nat.le_of_ble_eq_true rfl)
  rw [lg_entry_eq]
  generalize (lg_sl ([.int a, .int b]) ++ List.replicate (5 - (lg_sl ([.int a, .int b])).length) Slot.unset).toArray = ls at hl ⊢
  have hl : lv_has ls 5 [(0, .int a), (1, .int b)] := hl
  refine lv_iload_n hx hb dX0_sumOfProducts_0 rfl (lv_at hl 0 rfl) ?_
  refine lv_bipush (v := 9) hx hb dX0_sumOfProducts_1 (by decide) ?_
  refine lv_idiv hx hb dX0_sumOfProducts_3 (by decide) ?_
  refine lv_iconst (v := 1) hx hb dX0_sumOfProducts_4 (by decide) ?_
  refine lv_isub hx hb dX0_sumOfProducts_5 ?_
  refine lv_iload_n hx hb dX0_sumOfProducts_6 rfl (lv_at hl 1 rfl) ?_
  refine lv_bipush (v := 9) hx hb dX0_sumOfProducts_7 (by decide) ?_
  refine lv_idiv hx hb dX0_sumOfProducts_9 (by decide) ?_
  refine lv_iconst (v := 1) hx hb dX0_sumOfProducts_10 (by decide) ?_
  refine lv_isub hx hb dX0_sumOfProducts_11 ?_
  refine lv_imul hx hb dX0_sumOfProducts_12 ?_
  refine lv_istore_n (lv' := [(2, .int (((a / 9) - 1) * ((b / 9) - 1))), (0, .int a), (1, .int b)]) hx hb dX0_sumOfProducts_13 rfl hl (by decide) rfl (fun ls hl => ?_)
  refine lv_iload_n hx hb dX0_sumOfProducts_14 rfl (lv_at hl 1 rfl) ?_
  refine lv_iconst (v := 3) hx hb dX0_sumOfProducts_15 (by decide) ?_
  refine lv_idiv hx hb dX0_sumOfProducts_16 (by decide) ?_
  refine lv_iconst (v := 3) hx hb dX0_sumOfProducts_17 (by decide) ?_
  refine lv_irem hx hb dX0_sumOfProducts_18 (by decide) ?_
  refine lv_iconst (v := 1) hx hb dX0_sumOfProducts_19 (by decide) ?_
  refine lv_isub hx hb dX0_sumOfProducts_20 ?_
  refine lv_iload_n hx hb dX0_sumOfProducts_21 rfl (lv_at hl 2 rfl) ?_
  refine lv_iconst (v := 3) hx hb dX0_sumOfProducts_22 (by decide) ?_
  refine lv_idiv hx hb dX0_sumOfProducts_23 (by decide) ?_
  refine lv_iconst (v := 3) hx hb dX0_sumOfProducts_24 (by decide) ?_
  refine lv_irem hx hb dX0_sumOfProducts_25 (by decide) ?_
  refine lv_iconst (v := 1) hx hb dX0_sumOfProducts_26 (by decide) ?_
  refine lv_isub hx hb dX0_sumOfProducts_27 ?_
  refine lv_imul hx hb dX0_sumOfProducts_28 ?_
  refine lv_istore_n (lv' := [(3, .int ((((a / 3) - (a / 3) / 3 * 3) - 1) * (((b / 3) - (b / 3) / 3 * 3) - 1))), (2, .int (((a / 9) - 1) * ((b / 9) - 1))), (0, .int a), (1, .int b)]) hx hb dX0_sumOfProducts_29 rfl hl (by decide) rfl (fun ls hl => ?_)
  refine lv_iload_n hx hb dX0_sumOfProducts_30 rfl (lv_at hl 2 rfl) ?_
  refine lv_iconst (v := 3) hx hb dX0_sumOfProducts_31 (by decide) ?_
  refine lv_irem hx hb dX0_sumOfProducts_32 (by decide) ?_
  refine lv_iconst (v := 1) hx hb dX0_sumOfProducts_33 (by decide) ?_
  refine lv_isub hx hb dX0_sumOfProducts_34 ?_
  refine lv_iload_n hx hb dX0_sumOfProducts_35 rfl (lv_at hl 3 rfl) ?_
  refine lv_iconst (v := 3) hx hb dX0_sumOfProducts_36 (by decide) ?_
  refine lv_irem hx hb dX0_sumOfProducts_37 (by decide) ?_
  refine lv_iconst (v := 1) hx hb dX0_sumOfProducts_38 (by decide) ?_
  refine lv_isub hx hb dX0_sumOfProducts_39 ?_
  refine lv_imul hx hb dX0_sumOfProducts_40 ?_
  refine lv_istore (lv' := [(4, .int (((a - a / 3 * 3) - 1) * ((b - b / 3 * 3) - 1))), (3, .int ((((a / 3) - (a / 3) / 3 * 3) - 1) * (((b / 3) - (b / 3) / 3 * 3) - 1))), (2, .int (((a / 9) - 1) * ((b / 9) - 1))), (0, .int a), (1, .int b)]) hx hb dX0_sumOfProducts_41 hl (by decide) rfl (fun ls hl => ?_)
  refine lv_iload_n hx hb dX0_sumOfProducts_43 rfl (lv_at hl 2 rfl) ?_
  refine lv_iload_n hx hb dX0_sumOfProducts_44 rfl (lv_at hl 1 rfl) ?_
  refine lv_iadd hx hb dX0_sumOfProducts_45 ?_
  refine lv_iload hx hb dX0_sumOfProducts_46 (lv_at hl 0 rfl) ?_
  refine lv_iadd hx hb dX0_sumOfProducts_48 ?_
  exact W.iret (v := ((((a / 9) - 1) * ((b / 9) - 1)) + ((((a / 3) - (a / 3) / 3 * 3) - 1) * (((b / 3) - (b / 3) / 3 * 3) - 1))) + (((a - a / 3 * 3) - 1) * ((b - b / 3 * 3) - 1))) hx hb hr (fun t ht hW => ⟨((((a / 9) - 1) * ((b / 9) - 1)) + ((((a / 3) - (a / 3) / 3 * 3) - 1) * (((b / 3) - (b / 3) / 3 * 3) - 1))) + (((a - a / 3 * 3) - 1) * ((b - b / 3 * 3) - 1)), rfl, rfl, ht⟩) (fun q h => absurd h List.not_mem_nil) dX0_sumOfProducts_49
set_option maxHeartbeats 4000000 in
set_option maxRecDepth 100000 in
theorem c_X0_sumOfSquares (l : Launch) (a : Int32) : Met l yX0_sumOfSquares wsX0_sumOfSquares ({ frames := 1, cells := 0, slots := 0, locals := 24 }) (va_Pc [.int a] (fun _ => True)) (vp_Si (fun r => r = sr_sop a a)) 0 0 (fun _ => False) := by
  refine Met.ofW (cc := cX0_sumOfSquares) (maxL := 1) (ret := (some .int)) (by decide) rfl ?_
  intro p e s m args below meth c s₁ B hml hv
  obtain ⟨rfl, -⟩ := hv
  have hx := B.exec
  have hb := B.bytes
  have hr := B.returns
  have hts := atoms_spec (ws := wsX0_sumOfSquares) B.pre
  have hown : s.vm.findClass RX0 = some m.cls := findClass_of_methodNamed B.named
  have hlocks := B.notSynchronized
  have hl := lv_entry ([.int a]) (n := 1) (Nat.le_of_ble_eq_true rfl)
  rw [lg_entry_eq]
  generalize (lg_sl ([.int a]) ++ List.replicate (1 - (lg_sl ([.int a])).length) Slot.unset).toArray = ls at hl ⊢
  have hl : lv_has ls 1 [(0, .int a)] := hl
  refine lv_iload_n hx hb dX0_sumOfSquares_0 rfl (lv_at hl 0 rfl) ?_
  refine lv_iload_n hx hb dX0_sumOfSquares_1 rfl (lv_at hl 0 rfl) ?_
  refine vp_callSi (W.runS (As := [.int a, .int a]) (rest := []) ⟨hx, hb, hml, hown, hts⟩ (c_X0_sumOfProducts l a a) (va_cwS 2 hts gX0_sumOfSquares_X0_sumOfProducts rfl rfl rfl (by decide +kernel) ⟨Nat.le_of_ble_eq_true rfl, Nat.le_of_ble_eq_true rfl⟩) ⟨sr_blindT, sr_mkT⟩ rfl rfl hl.1 rfl (lv_room (Nat.le_of_ble_eq_true rfl)) dX0_sumOfSquares_2 ⟨Nat.zero_le _, Nat.zero_le _⟩) (fun r er => ?_)
  exact W.iret (v := r) hx hb hr (fun t ht hW => ⟨r, rfl, er, ht⟩) (fun q h => absurd h List.not_mem_nil) dX0_sumOfSquares_5
end
section
/-! THE CLASS: limitAt, fastestAcross, turnLimit. -/
set_option maxHeartbeats 4000000 in
set_option maxRecDepth 100000 in
theorem c_X0_limitAt (l : Launch) (dC : Nat → ClassId) (dI : Nat → Nat → Nat) (x a1 a2 a3 a4 a5 : Nat) (z1 z2 z3 z4 z5 : ClassId) (sz : Nat) (mo cf cl ac : Nat) (st : Int32) (T F G L S : Nat → Int32) (tk fd fs la : Nat → Nat) (k : Nat) (hI : sr_XI mo tk fd fs la T F G L) (hmo : mo ≤ 2000) (hk : k ≤ 2000) : Met l yX0_limitAt wsX0_limitAt ({ frames := 0, cells := 0, slots := 0, locals := 0 }) (sr_pre dC dI (sr_tX z1 z2 z3 z4 z5) (sr_wX x a1 a2 a3 a4 a5 z1 z2 z3 z4 z5 mo cf cl ac st T F G L S) sz [.ref x, .int (nI k)]) (va_Qi (fun (r : Int32) (u : va_W) => u = sr_wX x a1 a2 a3 a4 a5 z1 z2 z3 z4 z5 mo cf cl ac st T F G L S ∧ r = nI (sr_lim mo fd fs la k)) (sr_at dC dI (sr_tX z1 z2 z3 z4 z5) (va_A (sr_wX x a1 a2 a3 a4 a5 z1 z2 z3 z4 z5 mo cf cl ac st T F G L S) sz)) (va_A (sr_wX x a1 a2 a3 a4 a5 z1 z2 z3 z4 z5 mo cf cl ac st T F G L S) sz)) 0 0 (va_A (sr_wX x a1 a2 a3 a4 a5 z1 z2 z3 z4 z5 mo cf cl ac st T F G L S) sz) := by
  refine Met.ofW (cc := cX0_limitAt) (maxL := 2) (ret := (some .int)) (by decide) rfl ?_
  intro p e s m args below meth c s₁ B hml hv
  obtain ⟨rfl, hsz, hP, hK, hD0⟩ := hv
  have hx := B.exec
  have hb := B.bytes
  have hr := B.returns
  have hts := atoms_spec (ws := wsX0_limitAt) B.pre
  have hown : s.vm.findClass RX0 = some m.cls := findClass_of_methodNamed B.named
  have hlocks := B.notSynchronized
  subst hsz
  have hD := hD0.self (sz := s.heap.size)
  generalize hAe : va_A (sr_wX x a1 a2 a3 a4 a5 z1 z2 z3 z4 z5 mo cf cl ac st T F G L S) s.heap.size = A at hD ⊢
  have hA : ∀ q : Nat, s.heap.size ≤ q → A q := fun q h => by rw [← hAe]; exact Or.inr h
  have hS : va_S A s.heap s.heap [] := va_S.rf
  have hP : va_P (dC, dI) vwCl [(x, .inr (0, [.ref a1, .ref a2, .ref a3, .ref a4, .ref a5, .int (nI mo), .int (nI cf), .int (nI cl), .int (nI ac), .int st])), (a1, .inl (z1, 2000, .inl T)), (a2, .inl (z2, 2000, .inl F)), (a3, .inl (z3, 2000, .inl G)), (a4, .inl (z4, 2000, .inl L)), (a5, .inl (z5, 2001, .inl S))] s.heap := hP
  have hD : va_D A [(x, .inr (0, [.ref a1, .ref a2, .ref a3, .ref a4, .ref a5, .int (nI mo), .int (nI cf), .int (nI cl), .int (nI ac), .int st])), (a1, .inl (z1, 2000, .inl T)), (a2, .inl (z2, 2000, .inl F)), (a3, .inl (z3, 2000, .inl G)), (a4, .inl (z4, 2000, .inl L)), (a5, .inl (z5, 2001, .inl S))] := hD
  have hK : va_K (dC, dI) vwCl [(z1, .int), (z2, .int), (z3, .int), (z4, .int), (z5, .int)] s := hK
  have hin0 : ∀ w ∈ u_ws RX0 TX0 10, w ∈ wsX0_limitAt := by decide +kernel
  have hl := lv_entry ([.ref x, .int (nI k)]) (n := 2) (Nat.le_of_ble_eq_true rfl)
  rw [lg_entry_eq]
  generalize (lg_sl ([.ref x, .int (nI k)]) ++ List.replicate (2 - (lg_sl ([.ref x, .int (nI k)])).length) Slot.unset).toArray = ls at hl ⊢
  have hl : lv_has ls 2 [(0, .ref x), (1, .int (nI k))] := hl
  refine lv_iload_n hx hb dX0_limitAt_0 rfl (lv_at hl 1 rfl) ?_
  refine lv_if_le (tgt := 12) hx hb dX0_limitAt_1 (by decide) (fun c1 => ?_) (fun c1 => ?_)
  · have hk0 : k = 0 := by
      rcases Nat.eq_zero_or_pos k with q | q
      · exact q
      · exact absurd c1 (nI_nle q (by omega))
    refine lv_iconst (v := nI 0) hx hb dX0_limitAt_12 (by decide) ?_
    refine lv_goto (tgt := 22) hx hb dX0_limitAt_13 (by decide) ?_
    exact W.iret (v := nI 0) hx hb hr (fun t ht hW => ⟨⟨nI 0, _, rfl, ⟨rfl, by rw [hk0, sr_lim_0]⟩, by rw [ht]; exact hP, va_K.moved hW.alike hK, hD⟩, hS.F ht⟩) hS.2.2 dX0_limitAt_22
  · refine lv_iload_n hx hb dX0_limitAt_4 rfl (lv_at hl 1 rfl) ?_
    refine lv_aload_n hx hb dX0_limitAt_5 rfl (lv_at hl 0 rfl) ?_
    refine va_get (D := (dC, dI)) (ci := 0) (v := .int (nI mo)) (C := RX0) (T := TX0) (N := 10) hx hb hts hin0 hown hK hP 0 rfl rfl 5 (by decide) (hts (.fieldLink RX0 25 "SpeedRows" "moves" "I") (by decide +kernel)) (fun _ h9 => h9) rfl dX0_limitAt_6 ?_
    refine lv_icmp_lt (tgt := 16) hx hb dX0_limitAt_9 (by decide) (fun c2 => ?_) (fun c2 => ?_)
    · have hk1 : k < mo := (nI_ltI (by omega) (by omega)).mp c2
      have hk2 : k ≠ 0 := fun q => c1 (by rw [q]; decide)
      refine lv_aload_n hx hb dX0_limitAt_16 rfl (lv_at hl 0 rfl) ?_
      refine va_get (D := (dC, dI)) (ci := 0) (v := .ref a4) (C := RX0) (T := TX0) (N := 10) hx hb hts hin0 hown hK hP 0 rfl rfl 3 (by decide) (hts (.fieldLink RX0 19 "SpeedRows" "turnLimits" "[I") (by decide +kernel)) (fun _ h9 => h9) rfl dX0_limitAt_17 ?_
      refine lv_iload_n hx hb dX0_limitAt_20 rfl (lv_at hl 1 rfl) ?_
      refine sr_iald (v := nI (sr_tm fd fs la k)) hx hb hK hP 4 3 rfl rfl (by omega) (by decide) ((hI k hk1).2.2.2) dX0_limitAt_21 ?_
      exact W.iret (v := nI (sr_tm fd fs la k)) hx hb hr (fun t ht hW => ⟨⟨nI (sr_tm fd fs la k), _, rfl, ⟨rfl, by rw [sr_lim_in hk2 hk1]⟩, by rw [ht]; exact hP, va_K.moved hW.alike hK, hD⟩, hS.F ht⟩) hS.2.2 dX0_limitAt_22
    · have hk1 : mo ≤ k := Nat.le_of_not_lt (fun q => c2 ((nI_ltI (by omega) (by omega)).mpr q))
      refine lv_iconst (v := nI 0) hx hb dX0_limitAt_12 (by decide) ?_
      refine lv_goto (tgt := 22) hx hb dX0_limitAt_13 (by decide) ?_
      exact W.iret (v := nI 0) hx hb hr (fun t ht hW => ⟨⟨nI 0, _, rfl, ⟨rfl, by rw [sr_lim_top hk1]⟩, by rw [ht]; exact hP, va_K.moved hW.alike hK, hD⟩, hS.F ht⟩) hS.2.2 dX0_limitAt_22
set_option maxHeartbeats 4000000 in
set_option maxRecDepth 100000 in
theorem lp_X0_fa {p : Program} {l : Launch} {e : Env} {R : Room} {s : State} {m : MethodId} {args : Array Value} {below : List Frame} {meth : Method} {c : Code} {Q : State → Prop} (C0 : CallFix p m c cX0_fastestAcross 10 s args wsX0_fastestAcross RX0) {H : Heap} {locs : List Loc} {sq : Nat} (hsq : sq < 2 ^ 40) (hk : ∀ (r : Nat) (ls : Array Slot), r * r ≤ sq → sq < (r + 1) * (r + 1) → r ≤ 131072 → lv_has ls 10 [(6, .int (nI r))] → W p l e R s m args below meth c H locs 0 0 Q (F0 m 81 ls [])) :
    ∀ (B r : Nat) (v : Int32) (ls : Array Slot), B ≤ 17 → r + 2 ^ B ≤ 131072 → r * r ≤ sq → sq < (r + 2 ^ B) * (r + 2 ^ B) → v = nI B - 1 → lv_has ls 10 [(4, .long (lN sq)), (6, .int (nI r)), (7, .int v)] → W p l e R s m args below meth c H locs 0 0 Q (F0 m 40 ls []) := by
  obtain ⟨hx, hb, hml, hown, hts⟩ := C0
  intro B
  induction B with
  | zero =>
    intro r v ls h1 h2 h3 h4 ev hl
    refine lv_iload hx hb dX0_fastestAcross_40 (lv_at hl 2 rfl) ?_
    refine lv_if_lt (tgt := 81) hx hb dX0_fastestAcross_42 (by decide) (fun c1 => ?_) (fun c1 => ?_)
    · exact hk r ls h3 (by simpa using h4) (by omega) (lv_sub hl [1] rfl)
    · exact absurd (by rw [ev]; decide) c1
  | succ b ih =>
    intro r v ls h1 h2 h3 h4 ev hl
    obtain rfl : v = nI b := by rw [ev]; exact nI_pred b
    have hp : 2 ^ (b + 1) = 2 ^ b * 2 := Nat.pow_succ 2 b
    rw [hp] at h2 h4
    have hs1 := sr_shl b (by omega)
    have hs2 := sr_ishl b (by omega)
    generalize 2 ^ b = w at h2 h4 hs1 hs2 ih
    have hb1 : (r + w) * (r + w) ≤ 131072 * 131072 := Nat.mul_le_mul (by omega) (by omega)
    refine lv_iload hx hb dX0_fastestAcross_40 (lv_at hl 2 rfl) ?_
    refine lv_if_lt (tgt := 81) hx hb dX0_fastestAcross_42 (by decide) (fun c1 => ?_) (fun c1 => ?_)
    · exact absurd c1 (nI_pos (by omega))
    · refine lv_iload hx hb dX0_fastestAcross_45 (lv_at hl 1 rfl) ?_
      refine lv_i2l (v := lN r) hx hb dX0_fastestAcross_47 (nI_l (by omega)) ?_
      refine lv_lconst (v := lN 1) hx hb dX0_fastestAcross_48 (by decide) ?_
      refine lv_iload hx hb dX0_fastestAcross_49 (lv_at hl 2 rfl) ?_
      refine lv_lshl (v := lN w) hx hb dX0_fastestAcross_51 (hs1) ?_
      refine lv_ladd hx hb dX0_fastestAcross_52 ?_
      refine sr_tl (y := lN (r + w)) (lN_add _ _) ?_
      refine lv_lstore (lv' := [(8, .long (lN (r + w))), (4, .long (lN sq)), (6, .int (nI r)), (7, .int (nI b))]) hx hb dX0_fastestAcross_53 hl (by decide) rfl (fun ls hl => ?_)
      refine lv_lload hx hb dX0_fastestAcross_55 (lv_at hl 0 rfl) ?_
      refine lv_lload hx hb dX0_fastestAcross_57 (lv_at hl 0 rfl) ?_
      refine lv_lmul hx hb dX0_fastestAcross_59 ?_
      refine sr_tl (y := lN ((r + w) * (r + w))) (lN_mul _ _) ?_
      refine lv_lload hx hb dX0_fastestAcross_60 (lv_at hl 1 rfl) ?_
      refine W.lcmp hx hb dX0_fastestAcross_62 ?_
      refine lv_if_gt (tgt := 75) hx hb dX0_fastestAcross_63 (by decide) (fun c2 => ?_) (fun c2 => ?_)
      · have g : sq < (r + w) * (r + w) := (pk_lLT (by omega) (by omega)).mp ((lg_cmp_gt _ _).mp c2)
        refine lv_iinc (v := nI b - 1) (lv' := [(7, .int (nI b - 1)), (8, .long (lN (r + w))), (4, .long (lN sq)), (6, .int (nI r))]) hx hb dX0_fastestAcross_75 hl (k := 3) rfl (sr_dec _) (by decide) rfl (fun ls hl => ?_)
        refine lv_goto (tgt := 40) hx hb dX0_fastestAcross_78 (by decide) ?_
        exact ih r _ ls (by omega) (by omega) h3 g rfl (lv_sub hl [2, 3, 0] rfl)
      · have g : (r + w) * (r + w) ≤ sq := Nat.le_of_not_lt (fun q => c2 ((lg_cmp_gt _ _).mpr ((pk_lLT (by omega) (by omega)).mpr q)))
        refine lv_iload hx hb dX0_fastestAcross_66 (lv_at hl 2 rfl) ?_
        refine lv_iconst (v := nI 1) hx hb dX0_fastestAcross_68 (by decide) ?_
        refine lv_iload hx hb dX0_fastestAcross_69 (lv_at hl 3 rfl) ?_
        refine lv_ishl hx hb dX0_fastestAcross_71 ?_
        refine sr_ti (y := nI w) (hs2) ?_
        refine lv_iadd hx hb dX0_fastestAcross_72 ?_
        refine sr_ti (y := nI (r + w)) (nI_add _ _) ?_
        refine lv_istore (lv' := [(6, .int (nI (r + w))), (8, .long (lN (r + w))), (4, .long (lN sq)), (7, .int (nI b))]) hx hb dX0_fastestAcross_73 hl (by decide) rfl (fun ls hl => ?_)
        refine lv_iinc (v := nI b - 1) (lv' := [(7, .int (nI b - 1)), (6, .int (nI (r + w))), (8, .long (lN (r + w))), (4, .long (lN sq))]) hx hb dX0_fastestAcross_75 hl (k := 3) rfl (sr_dec _) (by decide) rfl (fun ls hl => ?_)
        refine lv_goto (tgt := 40) hx hb dX0_fastestAcross_78 (by decide) ?_
        exact ih (r + w) _ ls (by omega) (by omega) g (by rw [show r + w + w = r + w * 2 by omega]; exact h4) rfl (lv_sub hl [3, 1, 0] rfl)
set_option maxHeartbeats 4000000 in
set_option maxRecDepth 100000 in
theorem c_X0_fastestAcross (l : Launch) (dC : Nat → ClassId) (dI : Nat → Nat → Nat) (x a1 a2 a3 a4 a5 : Nat) (z1 z2 z3 z4 z5 : ClassId) (sz : Nat) (mo cf cl ac : Nat) (st : Int32) (T F G L S : Nat → Int32) (t a b : Nat) (ht : t ≤ 100000) (ha : a ≤ 99999) (hbb : b ≤ 99999) (hac : ac ≤ 10000) : Met l yX0_fastestAcross wsX0_fastestAcross ({ frames := 0, cells := 0, slots := 0, locals := 0 }) (sr_pre dC dI (sr_tX z1 z2 z3 z4 z5) (sr_wX x a1 a2 a3 a4 a5 z1 z2 z3 z4 z5 mo cf cl ac st T F G L S) sz [.ref x, .int (nI t), .int (nI a), .int (nI b)]) (va_Qi (fun (r : Int32) (u : va_W) => u = sr_wX x a1 a2 a3 a4 a5 z1 z2 z3 z4 z5 mo cf cl ac st T F G L S ∧ r = nI (min b (sr_r ac t a))) (sr_at dC dI (sr_tX z1 z2 z3 z4 z5) (va_A (sr_wX x a1 a2 a3 a4 a5 z1 z2 z3 z4 z5 mo cf cl ac st T F G L S) sz)) (va_A (sr_wX x a1 a2 a3 a4 a5 z1 z2 z3 z4 z5 mo cf cl ac st T F G L S) sz)) 0 0 (va_A (sr_wX x a1 a2 a3 a4 a5 z1 z2 z3 z4 z5 mo cf cl ac st T F G L S) sz) := by
  refine Met.ofW (cc := cX0_fastestAcross) (maxL := 10) (ret := (some .int)) (by decide) rfl ?_
  intro p e s m args below meth c s₁ B hml hv
  obtain ⟨rfl, hsz, hP, hK, hD0⟩ := hv
  have hx := B.exec
  have hb := B.bytes
  have hr := B.returns
  have hts := atoms_spec (ws := wsX0_fastestAcross) B.pre
  have hown : s.vm.findClass RX0 = some m.cls := findClass_of_methodNamed B.named
  have hlocks := B.notSynchronized
  subst hsz
  have hD := hD0.self (sz := s.heap.size)
  generalize hAe : va_A (sr_wX x a1 a2 a3 a4 a5 z1 z2 z3 z4 z5 mo cf cl ac st T F G L S) s.heap.size = A at hD ⊢
  have hA : ∀ q : Nat, s.heap.size ≤ q → A q := fun q h => by rw [← hAe]; exact Or.inr h
  have hS : va_S A s.heap s.heap [] := va_S.rf
  have hP : va_P (dC, dI) vwCl [(x, .inr (0, [.ref a1, .ref a2, .ref a3, .ref a4, .ref a5, .int (nI mo), .int (nI cf), .int (nI cl), .int (nI ac), .int st])), (a1, .inl (z1, 2000, .inl T)), (a2, .inl (z2, 2000, .inl F)), (a3, .inl (z3, 2000, .inl G)), (a4, .inl (z4, 2000, .inl L)), (a5, .inl (z5, 2001, .inl S))] s.heap := hP
  have hD : va_D A [(x, .inr (0, [.ref a1, .ref a2, .ref a3, .ref a4, .ref a5, .int (nI mo), .int (nI cf), .int (nI cl), .int (nI ac), .int st])), (a1, .inl (z1, 2000, .inl T)), (a2, .inl (z2, 2000, .inl F)), (a3, .inl (z3, 2000, .inl G)), (a4, .inl (z4, 2000, .inl L)), (a5, .inl (z5, 2001, .inl S))] := hD
  have hK : va_K (dC, dI) vwCl [(z1, .int), (z2, .int), (z3, .int), (z4, .int), (z5, .int)] s := hK
  have hin0 : ∀ w ∈ u_ws RX0 TX0 10, w ∈ wsX0_fastestAcross := by decide +kernel
  have hl := lv_entry ([.ref x, .int (nI t), .int (nI a), .int (nI b)]) (n := 10) (Nat.le_of_ble_eq_true rfl)
  rw [lg_entry_eq]
  generalize (lg_sl ([.ref x, .int (nI t), .int (nI a), .int (nI b)]) ++ List.replicate (10 - (lg_sl ([.ref x, .int (nI t), .int (nI a), .int (nI b)])).length) Slot.unset).toArray = ls at hl ⊢
  have hl : lv_has ls 10 [(0, .ref x), (1, .int (nI t)), (2, .int (nI a)), (3, .int (nI b))] := hl
  have e1 : a * a ≤ 99999 * 99999 := Nat.mul_le_mul ha ha
  have e2 : 2 * ac * t ≤ 20000 * 100000 := Nat.mul_le_mul (by omega) ht
  have e3 : b * b ≤ 99999 * 99999 := Nat.mul_le_mul hbb hbb
  obtain ⟨sq, esq⟩ : ∃ z, z = a * a + 2 * ac * t := ⟨_, rfl⟩
  refine lv_iload_n hx hb dX0_fastestAcross_0 rfl (lv_at hl 2 rfl) ?_
  refine lv_i2l (v := lN a) hx hb dX0_fastestAcross_1 (nI_l (by omega)) ?_
  refine lv_iload_n hx hb dX0_fastestAcross_2 rfl (lv_at hl 2 rfl) ?_
  refine lv_i2l (v := lN a) hx hb dX0_fastestAcross_3 (nI_l (by omega)) ?_
  refine lv_lmul hx hb dX0_fastestAcross_4 ?_
  refine sr_tl (y := lN (a * a)) (lN_mul _ _) ?_
  refine lv_ldc2 (v := lN 2) hx hb hown (hts (.constantLong RX0 83 2) (by decide +kernel)) dX0_fastestAcross_5 ?_
  refine lv_aload_n hx hb dX0_fastestAcross_8 rfl (lv_at hl 0 rfl) ?_
  refine va_get (D := (dC, dI)) (ci := 0) (v := .int (nI ac)) (C := RX0) (T := TX0) (N := 10) hx hb hts hin0 hown hK hP 0 rfl rfl 8 (by decide) (hts (.fieldLink RX0 39 "SpeedRows" "rate" "I") (by decide +kernel)) (fun _ h9 => h9) rfl dX0_fastestAcross_9 ?_
  refine lv_i2l (v := lN ac) hx hb dX0_fastestAcross_12 (nI_l (by omega)) ?_
  refine lv_lmul hx hb dX0_fastestAcross_13 ?_
  refine sr_tl (y := lN (2 * ac)) (lN_mul _ _) ?_
  refine lv_iload_n hx hb dX0_fastestAcross_14 rfl (lv_at hl 1 rfl) ?_
  refine lv_i2l (v := lN t) hx hb dX0_fastestAcross_15 (nI_l (by omega)) ?_
  refine lv_lmul hx hb dX0_fastestAcross_16 ?_
  refine sr_tl (y := lN ((2 * ac) * t)) (lN_mul _ _) ?_
  refine lv_ladd hx hb dX0_fastestAcross_17 ?_
  refine sr_tl (y := lN ((a * a) + ((2 * ac) * t))) (lN_add _ _) ?_
  refine sr_tl (y := lN sq) (by rw [esq]) ?_
  refine lv_lstore (lv' := [(4, .long (lN sq)), (0, .ref x), (1, .int (nI t)), (2, .int (nI a)), (3, .int (nI b))]) hx hb dX0_fastestAcross_18 hl (by decide) rfl (fun ls hl => ?_)
  refine lv_iload_n hx hb dX0_fastestAcross_20 rfl (lv_at hl 4 rfl) ?_
  refine lv_i2l (v := lN b) hx hb dX0_fastestAcross_21 (nI_l (by omega)) ?_
  refine lv_iload_n hx hb dX0_fastestAcross_22 rfl (lv_at hl 4 rfl) ?_
  refine lv_i2l (v := lN b) hx hb dX0_fastestAcross_23 (nI_l (by omega)) ?_
  refine lv_lmul hx hb dX0_fastestAcross_24 ?_
  refine sr_tl (y := lN (b * b)) (lN_mul _ _) ?_
  refine lv_lload hx hb dX0_fastestAcross_25 (lv_at hl 0 rfl) ?_
  refine W.lcmp hx hb dX0_fastestAcross_27 ?_
  refine lv_if_gt (tgt := 33) hx hb dX0_fastestAcross_28 (by decide) (fun c1 => ?_) (fun c1 => ?_)
  · have g : sq < b * b := (pk_lLT (by omega) (by omega)).mp ((lg_cmp_gt _ _).mp c1)
    refine lv_iconst (v := nI 0) hx hb dX0_fastestAcross_33 (by decide) ?_
    refine lv_istore (lv' := [(6, .int (nI 0)), (4, .long (lN sq)), (0, .ref x), (1, .int (nI t)), (2, .int (nI a)), (3, .int (nI b))]) hx hb dX0_fastestAcross_34 hl (by decide) rfl (fun ls hl => ?_)
    refine lv_bipush (v := nI 16) hx hb dX0_fastestAcross_36 (by decide) ?_
    refine lv_istore (lv' := [(7, .int (nI 16)), (6, .int (nI 0)), (4, .long (lN sq)), (0, .ref x), (1, .int (nI t)), (2, .int (nI a)), (3, .int (nI b))]) hx hb dX0_fastestAcross_38 hl (by decide) rfl (fun ls hl => ?_)
    refine lp_X0_fa ⟨hx, hb, hml, hown, hts⟩ (sq := sq) (by omega) (fun r ls q1 q2 q3 hl => ?_) 17 0 (nI 16) ls (by decide) (by decide) (by omega) ?_ (by decide) (lv_sub hl [2, 1, 0] rfl)
    · have er : sr_r ac t a = r := by unfold sr_r; rw [← esq]; exact sr_q_uniq q1 q2
      have hrb : r ≤ b := by
        rcases Nat.lt_or_ge b r with q | q
        · have := Nat.mul_self_le_mul_self (Nat.le_of_lt q)
          omega
        · exact q
      refine lv_iload hx hb dX0_fastestAcross_81 (lv_at hl 0 rfl) ?_
      exact W.iret (v := nI r) hx hb hr (fun t ht hW => ⟨⟨nI r, _, rfl, ⟨rfl, by rw [er, Nat.min_eq_right hrb]⟩, by rw [ht]; exact hP, va_K.moved hW.alike hK, hD⟩, hS.F ht⟩) hS.2.2 dX0_fastestAcross_83
    · omega
  · have g : b * b ≤ sq := Nat.le_of_not_lt (fun q => c1 ((lg_cmp_gt _ _).mpr ((pk_lLT (by omega) (by omega)).mpr q)))
    have gq : b ≤ sr_r ac t a := by unfold sr_r; rw [← esq]; exact sr_le_q.mpr g
    refine lv_iload_n hx hb dX0_fastestAcross_31 rfl (lv_at hl 4 rfl) ?_
    exact W.iret (v := nI b) hx hb hr (fun t ht hW => ⟨⟨nI b, _, rfl, ⟨rfl, by rw [Nat.min_eq_left gq]⟩, by rw [ht]; exact hP, va_K.moved hW.alike hK, hD⟩, hS.F ht⟩) hS.2.2 dX0_fastestAcross_32
set_option maxHeartbeats 4000000 in
set_option maxRecDepth 100000 in
theorem c_X0_turnLimit (l : Launch) (dC : Nat → ClassId) (dI : Nat → Nat → Nat) (x a1 a2 a3 a4 a5 : Nat) (z1 z2 z3 z4 z5 : ClassId) (sz : Nat) (mo cf cl ac : Nat) (st : Int32) (T F G L S : Nat → Int32) (j q g fe : Nat) (hj : j < 2000) (hq : sr_ok q) (hcf : sr_ok cf) (hG : G j = nI q) (hF : F j = nI g) (hg : g ≤ 99999) (hfe : fe ≤ 99999) : Met l yX0_turnLimit wsX0_turnLimit ({ frames := 2, cells := 0, slots := 0, locals := 44 }) (sr_pre dC dI (sr_tX z1 z2 z3 z4 z5) (sr_wX x a1 a2 a3 a4 a5 z1 z2 z3 z4 z5 mo cf cl ac st T F G L S) sz [.ref x, .int (nI j), .int (nI fe)]) (va_Qi (fun (r : Int32) (u : va_W) => u = sr_wX x a1 a2 a3 a4 a5 z1 z2 z3 z4 z5 mo cf cl ac st T F G L S ∧ r = nI (min g fe * sr_pd q cf / sr_mx q cf)) (sr_at dC dI (sr_tX z1 z2 z3 z4 z5) (va_A (sr_wX x a1 a2 a3 a4 a5 z1 z2 z3 z4 z5 mo cf cl ac st T F G L S) sz)) (va_A (sr_wX x a1 a2 a3 a4 a5 z1 z2 z3 z4 z5 mo cf cl ac st T F G L S) sz)) 0 0 (va_A (sr_wX x a1 a2 a3 a4 a5 z1 z2 z3 z4 z5 mo cf cl ac st T F G L S) sz) := by
  refine Met.ofW (cc := cX0_turnLimit) (maxL := 5) (ret := (some .int)) (by decide) rfl ?_
  intro p e s m args below meth c s₁ B hml hv
  obtain ⟨rfl, hsz, hP, hK, hD0⟩ := hv
  have hx := B.exec
  have hb := B.bytes
  have hr := B.returns
  have hts := atoms_spec (ws := wsX0_turnLimit) B.pre
  have hown : s.vm.findClass RX0 = some m.cls := findClass_of_methodNamed B.named
  have hlocks := B.notSynchronized
  subst hsz
  have hD := hD0.self (sz := s.heap.size)
  generalize hAe : va_A (sr_wX x a1 a2 a3 a4 a5 z1 z2 z3 z4 z5 mo cf cl ac st T F G L S) s.heap.size = A at hD ⊢
  have hA : ∀ q : Nat, s.heap.size ≤ q → A q := fun q h => by rw [← hAe]; exact Or.inr h
  have hS : va_S A s.heap s.heap [] := va_S.rf
  have hP : va_P (dC, dI) vwCl [(x, .inr (0, [.ref a1, .ref a2, .ref a3, .ref a4, .ref a5, .int (nI mo), .int (nI cf), .int (nI cl), .int (nI ac), .int st])), (a1, .inl (z1, 2000, .inl T)), (a2, .inl (z2, 2000, .inl F)), (a3, .inl (z3, 2000, .inl G)), (a4, .inl (z4, 2000, .inl L)), (a5, .inl (z5, 2001, .inl S))] s.heap := hP
  have hD : va_D A [(x, .inr (0, [.ref a1, .ref a2, .ref a3, .ref a4, .ref a5, .int (nI mo), .int (nI cf), .int (nI cl), .int (nI ac), .int st])), (a1, .inl (z1, 2000, .inl T)), (a2, .inl (z2, 2000, .inl F)), (a3, .inl (z3, 2000, .inl G)), (a4, .inl (z4, 2000, .inl L)), (a5, .inl (z5, 2001, .inl S))] := hD
  have hK : va_K (dC, dI) vwCl [(z1, .int), (z2, .int), (z3, .int), (z4, .int), (z5, .int)] s := hK
  have hin0 : ∀ w ∈ u_ws RX0 TX0 10, w ∈ wsX0_turnLimit := by decide +kernel
  have hl := lv_entry ([.ref x, .int (nI j), .int (nI fe)]) (n := 5) (Nat.le_of_ble_eq_true rfl)
  rw [lg_entry_eq]
  generalize (lg_sl ([.ref x, .int (nI j), .int (nI fe)]) ++ List.replicate (5 - (lg_sl ([.ref x, .int (nI j), .int (nI fe)])).length) Slot.unset).toArray = ls at hl ⊢
  have hl : lv_has ls 5 [(0, .ref x), (1, .int (nI j)), (2, .int (nI fe))] := hl
  have p1 := sr_pd_le hq.1 hq.1
  have p2 := sr_pd_le hcf.1 hcf.1
  have p3 := sr_pd_le hq.1 hcf.1
  have p4 := sr_pd_pos hq
  have p5 := sr_pd_pos hcf
  have p6 : sr_mx q cf ≤ 3 := Nat.max_le.mpr ⟨p1, p2⟩
  have p7 : 1 ≤ sr_mx q cf := Nat.le_trans p4 (Nat.le_max_left _ _)
  have p8 : min g fe * sr_pd q cf ≤ 99999 * 3 := Nat.mul_le_mul (Nat.le_trans (Nat.min_le_left _ _) hg) p3
  refine lv_aload_n hx hb dX0_turnLimit_0 rfl (lv_at hl 0 rfl) ?_
  refine va_get (D := (dC, dI)) (ci := 0) (v := .ref a3) (C := RX0) (T := TX0) (N := 10) hx hb hts hin0 hown hK hP 0 rfl rfl 2 (by decide) (hts (.fieldLink RX0 16 "SpeedRows" "lastSteps" "[I") (by decide +kernel)) (fun _ h9 => h9) rfl dX0_turnLimit_1 ?_
  refine lv_iload_n hx hb dX0_turnLimit_4 rfl (lv_at hl 1 rfl) ?_
  refine sr_iald (v := nI q) hx hb hK hP 3 2 rfl rfl (by omega) (by decide) (hG) dX0_turnLimit_5 ?_
  refine lv_istore_n (lv' := [(3, .int (nI q)), (0, .ref x), (1, .int (nI j)), (2, .int (nI fe))]) hx hb dX0_turnLimit_6 rfl hl (by decide) rfl (fun ls hl => ?_)
  refine lv_iload_n hx hb dX0_turnLimit_7 rfl (lv_at hl 0 rfl) ?_
  refine vp_callSi (W.runS (As := [.int (nI q)]) (rest := []) ⟨hx, hb, hml, hown, hts⟩ (c_X0_sumOfSquares l (nI q)) (va_cwS 1 hts gX0_turnLimit_X0_sumOfSquares rfl rfl rfl (by decide +kernel) ⟨Nat.le_of_ble_eq_true rfl, Nat.le_of_ble_eq_true rfl⟩) ⟨sr_blindT, sr_mkT⟩ rfl rfl hl.1 rfl (lv_room (Nat.le_of_ble_eq_true rfl)) dX0_turnLimit_8 ⟨Nat.zero_le _, Nat.zero_le _⟩) (fun r1 e1 => ?_)
  refine sr_ti (y := nI (sr_pd q q)) (by rw [e1]; exact ((sr_st_all q hq.1 q hq.1).2.1 hq.2).2) ?_
  refine lv_aload_n hx hb dX0_turnLimit_11 rfl (lv_at hl 1 rfl) ?_
  refine va_get (D := (dC, dI)) (ci := 0) (v := .int (nI cf)) (C := RX0) (T := TX0) (N := 10) hx hb hts hin0 hown hK hP 0 rfl rfl 6 (by decide) (hts (.fieldLink RX0 33 "SpeedRows" "nextFirst" "I") (by decide +kernel)) (fun _ h9 => h9) rfl dX0_turnLimit_12 ?_
  refine vp_callSi (W.runS (As := [.int (nI cf)]) (rest := [.int (nI (sr_pd q q))]) ⟨hx, hb, hml, hown, hts⟩ (c_X0_sumOfSquares l (nI cf)) (va_cwS 1 hts gX0_turnLimit_X0_sumOfSquares rfl rfl rfl (by decide +kernel) ⟨Nat.le_of_ble_eq_true rfl, Nat.le_of_ble_eq_true rfl⟩) ⟨sr_blindT, sr_mkT⟩ rfl rfl hl.1 rfl (lv_room (Nat.le_of_ble_eq_true rfl)) dX0_turnLimit_15 ⟨Nat.zero_le _, Nat.zero_le _⟩) (fun r2 e2 => ?_)
  refine sr_ti (y := nI (sr_pd cf cf)) (by rw [e2]; exact ((sr_st_all cf hcf.1 cf hcf.1).2.1 hcf.2).2) ?_
  refine va_mmax hx hb (by rw [hml]; exact hl.1.symm) hown (hts (.methodLink RX0 72 Lib.Math.max.name) (by decide +kernel)) (hts (.static Lib.Math.max.name) (by decide +kernel)) (hts (.initialized "java/lang/Math") (by decide +kernel)) (hts (.code Lib.Math.max.name Lib.Math.max.code 2 (some .int)) (by decide +kernel)) (Nat.le_of_ble_eq_true rfl) (Nat.le_of_ble_eq_true rfl) (Nat.zero_le _) (Nat.zero_le _) dX0_turnLimit_18 ?_
  refine sr_ti (y := nI (sr_mx q cf)) (sr_maxN (by omega) (by omega)) ?_
  refine lv_istore (lv' := [(4, .int (nI (sr_mx q cf))), (3, .int (nI q)), (0, .ref x), (1, .int (nI j)), (2, .int (nI fe))]) hx hb dX0_turnLimit_21 hl (by decide) rfl (fun ls hl => ?_)
  refine lv_iload hx hb dX0_turnLimit_23 (lv_at hl 0 rfl) ?_
  refine lv_iconst (v := nI 1) hx hb dX0_turnLimit_25 (by decide) ?_
  refine lv_icmp_ge (tgt := 31) hx hb dX0_turnLimit_26 (by decide) (fun c1 => ?_) (fun c1 => ?_)
  · refine lv_aload_n hx hb dX0_turnLimit_31 rfl (lv_at hl 2 rfl) ?_
    refine va_get (D := (dC, dI)) (ci := 0) (v := .ref a2) (C := RX0) (T := TX0) (N := 10) hx hb hts hin0 hown hK hP 0 rfl rfl 1 (by decide) (hts (.fieldLink RX0 13 "SpeedRows" "feeds" "[I") (by decide +kernel)) (fun _ h9 => h9) rfl dX0_turnLimit_32 ?_
    refine lv_iload_n hx hb dX0_turnLimit_35 rfl (lv_at hl 3 rfl) ?_
    refine sr_iald (v := nI g) hx hb hK hP 2 1 rfl rfl (by omega) (by decide) (hF) dX0_turnLimit_36 ?_
    refine lv_iload_n hx hb dX0_turnLimit_37 rfl (lv_at hl 4 rfl) ?_
    refine va_mmin hx hb (by rw [hml]; exact hl.1.symm) hown (hts (.methodLink RX0 77 Lib.Math.min.name) (by decide +kernel)) (hts (.static Lib.Math.min.name) (by decide +kernel)) (hts (.initialized "java/lang/Math") (by decide +kernel)) (hts (.code Lib.Math.min.name Lib.Math.min.code 2 (some .int)) (by decide +kernel)) (Nat.le_of_ble_eq_true rfl) (Nat.le_of_ble_eq_true rfl) (Nat.zero_le _) (Nat.zero_le _) dX0_turnLimit_38 ?_
    refine sr_ti (y := nI (min g fe)) (sr_minN (by omega) (by omega)) ?_
    refine lv_iconst (v := 0) hx hb dX0_turnLimit_41 (by decide) ?_
    refine lv_iload_n hx hb dX0_turnLimit_42 rfl (lv_at hl 1 rfl) ?_
    refine lv_aload_n hx hb dX0_turnLimit_43 rfl (lv_at hl 2 rfl) ?_
    refine va_get (D := (dC, dI)) (ci := 0) (v := .int (nI cf)) (C := RX0) (T := TX0) (N := 10) hx hb hts hin0 hown hK hP 0 rfl rfl 6 (by decide) (hts (.fieldLink RX0 33 "SpeedRows" "nextFirst" "I") (by decide +kernel)) (fun _ h9 => h9) rfl dX0_turnLimit_44 ?_
    refine vp_callSi (W.runS (As := [.int (nI q), .int (nI cf)]) (rest := [.int 0, .int (nI (min g fe))]) ⟨hx, hb, hml, hown, hts⟩ (c_X0_sumOfProducts l (nI q) (nI cf)) (va_cwS 2 hts gX0_turnLimit_X0_sumOfProducts rfl rfl rfl (by decide +kernel) ⟨Nat.le_of_ble_eq_true rfl, Nat.le_of_ble_eq_true rfl⟩) ⟨sr_blindT, sr_mkT⟩ rfl rfl hl.1 rfl (lv_room (Nat.le_of_ble_eq_true rfl)) dX0_turnLimit_47 ⟨Nat.zero_le _, Nat.zero_le _⟩) (fun r3 e3 => ?_)
    refine va_mmax hx hb (by rw [hml]; exact hl.1.symm) hown (hts (.methodLink RX0 72 Lib.Math.max.name) (by decide +kernel)) (hts (.static Lib.Math.max.name) (by decide +kernel)) (hts (.initialized "java/lang/Math") (by decide +kernel)) (hts (.code Lib.Math.max.name Lib.Math.max.code 2 (some .int)) (by decide +kernel)) (Nat.le_of_ble_eq_true rfl) (Nat.le_of_ble_eq_true rfl) (Nat.zero_le _) (Nat.zero_le _) dX0_turnLimit_50 ?_
    refine sr_ti (y := nI (sr_pd q cf)) (by rw [e3]; exact (sr_st_all q hq.1 cf hcf.1).1) ?_
    refine lv_imul hx hb dX0_turnLimit_53 ?_
    refine sr_ti (y := nI ((min g fe) * (sr_pd q cf))) (pk_mul _ _) ?_
    refine lv_iload hx hb dX0_turnLimit_54 (lv_at hl 0 rfl) ?_
    refine lv_idiv hx hb dX0_turnLimit_56 (nI_ne0 (by omega) (by omega)) ?_
    refine sr_ti (y := nI (min g fe * sr_pd q cf / sr_mx q cf)) (pk_div (by omega) (by omega) (by omega)) ?_
    exact W.iret (v := nI (min g fe * sr_pd q cf / sr_mx q cf)) hx hb hr (fun t ht hW => ⟨⟨nI (min g fe * sr_pd q cf / sr_mx q cf), _, rfl, ⟨rfl, rfl⟩, by rw [ht]; exact hP, va_K.moved hW.alike hK, hD⟩, hS.F ht⟩) hS.2.2 dX0_turnLimit_57
  · exact absurd (nI_le p7 (by omega)) c1
end
section
/-! THE CLASS: reckonSpeeds. -/
set_option maxHeartbeats 4000000 in
set_option maxRecDepth 100000 in
theorem lp_X0_rk1 {p : Program} {l : Launch} {e : Env} {R : Room} {s : State} {m : MethodId} {args : Array Value} {below : List Frame} {meth : Method} {c : Code} {Q : State → Prop} {A : Nat → Prop} {H0 : Heap} (C0 : CallFix p m c cX0_reckonSpeeds 2 s args wsX0_reckonSpeeds RX0) (hRf : 1 ≤ R.frames) (hRl : 29 ≤ R.locals) {dC : Nat → ClassId} {dI : Nat → Nat → Nat} {x a1 a2 a3 a4 a5 : Nat} {z1 z2 z3 z4 z5 : ClassId} {mo cf cl ac : Nat} {st : Int32} {T F G L : Nat → Int32} {tk fd fs la : Nat → Nat} (g : sr_G mo ac cf cl tk fd fs la) (hI : sr_XI mo tk fd fs la T F G L) (hK : va_K (dC, dI) vwCl (sr_tX z1 z2 z3 z4 z5) s) (hA : ∀ q, H0.size ≤ q → A q)
    (hk : ∀ (S : Nat → Int32) (H : Heap) (locs : List Loc) (ls : Array Slot), (∀ k, k ≤ mo → S k = nI (sr_f (sr_lim mo fd fs la) ac tk k)) → va_P (dC, dI) vwCl (sr_wX x a1 a2 a3 a4 a5 z1 z2 z3 z4 z5 mo cf cl ac st T F G L S) H → va_D A (sr_wX x a1 a2 a3 a4 a5 z1 z2 z3 z4 z5 mo cf cl ac st T F G L S) → va_S A H0 H locs → lv_has ls 2 [(0, .ref x)] → W p l e R s m args below meth c H locs 0 0 Q (F0 m 62 ls [])) :
    ∀ (n j : Nat) (S : Nat → Int32) (H : Heap) (locs : List Loc) (ls : Array Slot), j ≤ mo → mo + 1 ≤ j + n → (∀ k, k ≤ j → S k = nI (sr_f (sr_lim mo fd fs la) ac tk k)) → va_P (dC, dI) vwCl (sr_wX x a1 a2 a3 a4 a5 z1 z2 z3 z4 z5 mo cf cl ac st T F G L S) H → va_D A (sr_wX x a1 a2 a3 a4 a5 z1 z2 z3 z4 z5 mo cf cl ac st T F G L S) → va_S A H0 H locs → lv_has ls 2 [(0, .ref x), (1, .int (nI (j + 1)))] → W p l e R s m args below meth c H locs 0 0 Q (F0 m 17 ls []) := by
  obtain ⟨hx, hb, hml, hown, hts⟩ := C0
  have hin0 : ∀ w ∈ u_ws RX0 TX0 10, w ∈ wsX0_reckonSpeeds := by decide +kernel
  obtain ⟨hmo, ⟨hac1, hac2⟩, hcf, hcl, hpath⟩ := id g
  have hK : va_K (dC, dI) vwCl [(z1, .int), (z2, .int), (z3, .int), (z4, .int), (z5, .int)] s := hK
  intro n
  induction n with
  | zero =>
    intro j S H locs ls h1 h2
    exact absurd h2 (by omega)
  | succ n ih =>
    intro j S H locs ls h1 h2 hv hP hD hS hl
    have hP : va_P (dC, dI) vwCl [(x, .inr (0, [.ref a1, .ref a2, .ref a3, .ref a4, .ref a5, .int (nI mo), .int (nI cf), .int (nI cl), .int (nI ac), .int st])), (a1, .inl (z1, 2000, .inl T)), (a2, .inl (z2, 2000, .inl F)), (a3, .inl (z3, 2000, .inl G)), (a4, .inl (z4, 2000, .inl L)), (a5, .inl (z5, 2001, .inl S))] H := hP
    have hD : va_D A [(x, .inr (0, [.ref a1, .ref a2, .ref a3, .ref a4, .ref a5, .int (nI mo), .int (nI cf), .int (nI cl), .int (nI ac), .int st])), (a1, .inl (z1, 2000, .inl T)), (a2, .inl (z2, 2000, .inl F)), (a3, .inl (z3, 2000, .inl G)), (a4, .inl (z4, 2000, .inl L)), (a5, .inl (z5, 2001, .inl S))] := hD
    refine lv_iload_n hx hb dX0_reckonSpeeds_17 rfl (lv_at hl 1 rfl) ?_
    refine lv_aload_n hx hb dX0_reckonSpeeds_18 rfl (lv_at hl 0 rfl) ?_
    refine va_get (D := (dC, dI)) (ci := 0) (v := .int (nI mo)) (C := RX0) (T := TX0) (N := 10) hx hb hts hin0 hown hK hP 0 rfl rfl 5 (by decide) (hts (.fieldLink RX0 25 "SpeedRows" "moves" "I") (by decide +kernel)) (fun _ h9 => h9) rfl dX0_reckonSpeeds_19 ?_
    refine lv_icmp_gt (tgt := 62) hx hb dX0_reckonSpeeds_22 (by decide) (fun c1 => ?_) (fun c1 => ?_)
    · have e1 : mo < j + 1 := (nI_ltI (by omega) (by omega)).mp c1
      exact hk S H locs ls (fun k q => hv k (by omega)) hP hD hS (lv_sub hl [0] rfl)
    · have e1 : j < mo := by
        rcases Nat.lt_or_ge j mo with q | q
        · exact q
        · exact absurd ((nI_ltI (by omega) (by omega)).mpr (by omega)) c1
      have hb1 : sr_f (sr_lim mo fd fs la) ac tk j ≤ 99999 := Nat.le_trans (sr_f_le _ _ _ _) (sr_lim_le g j)
      have hb2 : sr_lim mo fd fs la (j + 1) ≤ 99999 := sr_lim_le g _
      refine lv_aload_n hx hb dX0_reckonSpeeds_25 rfl (lv_at hl 0 rfl) ?_
      refine va_get (D := (dC, dI)) (ci := 0) (v := .ref a5) (C := RX0) (T := TX0) (N := 10) hx hb hts hin0 hown hK hP 0 rfl rfl 4 (by decide) (hts (.fieldLink RX0 22 "SpeedRows" "speeds" "[I") (by decide +kernel)) (fun _ h9 => h9) rfl dX0_reckonSpeeds_26 ?_
      refine lv_iload_n hx hb dX0_reckonSpeeds_29 rfl (lv_at hl 1 rfl) ?_
      refine lv_aload_n hx hb dX0_reckonSpeeds_30 rfl (lv_at hl 0 rfl) ?_
      refine lv_aload_n hx hb dX0_reckonSpeeds_31 rfl (lv_at hl 0 rfl) ?_
      refine va_get (D := (dC, dI)) (ci := 0) (v := .ref a1) (C := RX0) (T := TX0) (N := 10) hx hb hts hin0 hown hK hP 0 rfl rfl 0 (by decide) (hts (.fieldLink RX0 9 "SpeedRows" "ticks" "[I") (by decide +kernel)) (fun _ h9 => h9) rfl dX0_reckonSpeeds_32 ?_
      refine lv_iload_n hx hb dX0_reckonSpeeds_35 rfl (lv_at hl 1 rfl) ?_
      refine lv_iconst (v := 1) hx hb dX0_reckonSpeeds_36 (by decide) ?_
      refine lv_isub hx hb dX0_reckonSpeeds_37 ?_
      refine sr_ti (y := nI j) (nI_pred j) ?_
      refine sr_iald (v := nI (tk j)) hx hb hK hP 1 0 rfl rfl (by omega) (by decide) ((hI j e1).1) dX0_reckonSpeeds_38 ?_
      refine lv_aload_n hx hb dX0_reckonSpeeds_39 rfl (lv_at hl 0 rfl) ?_
      refine va_get (D := (dC, dI)) (ci := 0) (v := .ref a5) (C := RX0) (T := TX0) (N := 10) hx hb hts hin0 hown hK hP 0 rfl rfl 4 (by decide) (hts (.fieldLink RX0 22 "SpeedRows" "speeds" "[I") (by decide +kernel)) (fun _ h9 => h9) rfl dX0_reckonSpeeds_40 ?_
      refine lv_iload_n hx hb dX0_reckonSpeeds_43 rfl (lv_at hl 1 rfl) ?_
      refine lv_iconst (v := 1) hx hb dX0_reckonSpeeds_44 (by decide) ?_
      refine lv_isub hx hb dX0_reckonSpeeds_45 ?_
      refine sr_ti (y := nI j) (nI_pred j) ?_
      refine sr_iald (v := nI (sr_f (sr_lim mo fd fs la) ac tk j)) hx hb hK hP 5 4 rfl rfl (by omega) (by decide) (hv j (Nat.le_refl j)) dX0_reckonSpeeds_46 ?_
      refine lv_aload_n hx hb dX0_reckonSpeeds_47 rfl (lv_at hl 0 rfl) ?_
      refine lv_iload_n hx hb dX0_reckonSpeeds_48 rfl (lv_at hl 1 rfl) ?_
      have hPc := hP.sub (ws' := [(x, .inr (0, [.ref a1, .ref a2, .ref a3, .ref a4, .ref a5, .int (nI mo), .int (nI cf), .int (nI cl), .int (nI ac), .int st])), (a1, .inl (z1, 2000, .inl T)), (a2, .inl (z2, 2000, .inl F)), (a3, .inl (z3, 2000, .inl G)), (a4, .inl (z4, 2000, .inl L)), (a5, .inl (z5, 2001, .inl S))]) [0, 1, 2, 3, 4, 5] rfl
      have hDc := hD.sub (ws' := [(x, .inr (0, [.ref a1, .ref a2, .ref a3, .ref a4, .ref a5, .int (nI mo), .int (nI cf), .int (nI cl), .int (nI ac), .int st])), (a1, .inl (z1, 2000, .inl T)), (a2, .inl (z2, 2000, .inl F)), (a3, .inl (z3, 2000, .inl G)), (a4, .inl (z4, 2000, .inl L)), (a5, .inl (z5, 2001, .inl S))]) [0, 1, 2, 3, 4, 5] (by decide) rfl
      have hKc := hK.sub (tys' := [(z1, .int), (z2, .int), (z3, .int), (z4, .int), (z5, .int)]) [0, 1, 2, 3, 4] rfl
      have hFc := va_free (wc := [(x, .inr (0, [.ref a1, .ref a2, .ref a3, .ref a4, .ref a5, .int (nI mo), .int (nI cf), .int (nI cl), .int (nI ac), .int st])), (a1, .inl (z1, 2000, .inl T)), (a2, .inl (z2, 2000, .inl F)), (a3, .inl (z3, 2000, .inl G)), (a4, .inl (z4, 2000, .inl L)), (a5, .inl (z5, 2001, .inl S))]) hD hS hA [0, 1, 2, 3, 4, 5] rfl
      refine va_calli (va_runV (As := [.int (nI (j + 1))]) (rest := [.int (nI (sr_f (sr_lim mo fd fs la) ac tk j)), .int (nI (tk j)), .ref x, .int (nI (j + 1)), .ref a5]) ⟨hx, hb, hml, hown, hts⟩ (c_X0_limitAt l dC dI x a1 a2 a3 a4 a5 z1 z2 z3 z4 z5 H.size mo cf cl ac st T F G L S tk fd fs la (j + 1) hI hmo (by omega)) (cwV 1 hts gX0_reckonSpeeds_X0_limitAt rfl rfl rfl (by decide +kernel) ⟨Nat.le_trans (show _ ≤ 1 from Nat.le_of_ble_eq_true rfl) hRf, Nat.le_trans (show _ ≤ 29 from Nat.le_of_ble_eq_true rfl) hRl⟩) ⟨sr_blind, va_recv hKc hPc (ci := 0) (q0 := 0) rfl rfl, sr_mk hPc hKc hDc⟩ rfl rfl hl.1 rfl (lv_room (Nat.le_of_ble_eq_true rfl)) dX0_reckonSpeeds_49 ⟨Nat.zero_le _, Nat.zero_le _⟩) hS (fun q _ h => hFc q h) hFc (fun r1 u t H1 locs ht hvm hw hB hz1 hk1 hS => ?_)
      obtain ⟨hP1, hK1, hD1⟩ := hB
      rw [ht] at hP1
      obtain ⟨rfl, rfl⟩ := hw
      obtain ⟨hP, hD⟩ := va_join (wr := []) (w1 := [(x, .inr (0, [.ref a1, .ref a2, .ref a3, .ref a4, .ref a5, .int (nI mo), .int (nI cf), .int (nI cl), .int (nI ac), .int st])), (a1, .inl (z1, 2000, .inl T)), (a2, .inl (z2, 2000, .inl F)), (a3, .inl (z3, 2000, .inl G)), (a4, .inl (z4, 2000, .inl L)), (a5, .inl (z5, 2001, .inl S))]) hP hD [0, 1, 2, 3, 4, 5] [] rfl rfl (by decide) (by decide) hk1 hFc hP1 hD1
      generalize H1 = H at hP hS ⊢
      have hP : va_P (dC, dI) vwCl [(x, .inr (0, [.ref a1, .ref a2, .ref a3, .ref a4, .ref a5, .int (nI mo), .int (nI cf), .int (nI cl), .int (nI ac), .int st])), (a1, .inl (z1, 2000, .inl T)), (a2, .inl (z2, 2000, .inl F)), (a3, .inl (z3, 2000, .inl G)), (a4, .inl (z4, 2000, .inl L)), (a5, .inl (z5, 2001, .inl S))] H := hP
      have hD : va_D A [(x, .inr (0, [.ref a1, .ref a2, .ref a3, .ref a4, .ref a5, .int (nI mo), .int (nI cf), .int (nI cl), .int (nI ac), .int st])), (a1, .inl (z1, 2000, .inl T)), (a2, .inl (z2, 2000, .inl F)), (a3, .inl (z3, 2000, .inl G)), (a4, .inl (z4, 2000, .inl L)), (a5, .inl (z5, 2001, .inl S))] := hD
      have hPc := hP.sub (ws' := [(x, .inr (0, [.ref a1, .ref a2, .ref a3, .ref a4, .ref a5, .int (nI mo), .int (nI cf), .int (nI cl), .int (nI ac), .int st])), (a1, .inl (z1, 2000, .inl T)), (a2, .inl (z2, 2000, .inl F)), (a3, .inl (z3, 2000, .inl G)), (a4, .inl (z4, 2000, .inl L)), (a5, .inl (z5, 2001, .inl S))]) [0, 1, 2, 3, 4, 5] rfl
      have hDc := hD.sub (ws' := [(x, .inr (0, [.ref a1, .ref a2, .ref a3, .ref a4, .ref a5, .int (nI mo), .int (nI cf), .int (nI cl), .int (nI ac), .int st])), (a1, .inl (z1, 2000, .inl T)), (a2, .inl (z2, 2000, .inl F)), (a3, .inl (z3, 2000, .inl G)), (a4, .inl (z4, 2000, .inl L)), (a5, .inl (z5, 2001, .inl S))]) [0, 1, 2, 3, 4, 5] (by decide) rfl
      have hKc := hK.sub (tys' := [(z1, .int), (z2, .int), (z3, .int), (z4, .int), (z5, .int)]) [0, 1, 2, 3, 4] rfl
      have hFc := va_free (wc := [(x, .inr (0, [.ref a1, .ref a2, .ref a3, .ref a4, .ref a5, .int (nI mo), .int (nI cf), .int (nI cl), .int (nI ac), .int st])), (a1, .inl (z1, 2000, .inl T)), (a2, .inl (z2, 2000, .inl F)), (a3, .inl (z3, 2000, .inl G)), (a4, .inl (z4, 2000, .inl L)), (a5, .inl (z5, 2001, .inl S))]) hD hS hA [0, 1, 2, 3, 4, 5] rfl
      refine va_calli (va_runV (As := [.int (nI (tk j)), .int (nI (sr_f (sr_lim mo fd fs la) ac tk j)), .int (nI (sr_lim mo fd fs la (j + 1)))]) (rest := [.int (nI (j + 1)), .ref a5]) ⟨hx, hb, hml, hown, hts⟩ (c_X0_fastestAcross l dC dI x a1 a2 a3 a4 a5 z1 z2 z3 z4 z5 H.size mo cf cl ac st T F G L S (tk j) (sr_f (sr_lim mo fd fs la) ac tk j) (sr_lim mo fd fs la (j + 1)) (hpath j e1).1.2 hb1 hb2 hac2) (cwV 3 hts gX0_reckonSpeeds_X0_fastestAcross rfl rfl rfl (by decide +kernel) ⟨Nat.le_trans (show _ ≤ 1 from Nat.le_of_ble_eq_true rfl) hRf, Nat.le_trans (show _ ≤ 29 from Nat.le_of_ble_eq_true rfl) hRl⟩) ⟨sr_blind, va_recv hKc hPc (ci := 0) (q0 := 0) rfl rfl, sr_mk hPc hKc hDc⟩ rfl rfl hl.1 rfl (lv_room (Nat.le_of_ble_eq_true rfl)) dX0_reckonSpeeds_52 ⟨Nat.zero_le _, Nat.zero_le _⟩) hS (fun q _ h => hFc q h) hFc (fun r2 u t H1 locs ht hvm hw hB hz1 hk1 hS => ?_)
      obtain ⟨hP1, hK1, hD1⟩ := hB
      rw [ht] at hP1
      obtain ⟨rfl, rfl⟩ := hw
      obtain ⟨hP, hD⟩ := va_join (wr := []) (w1 := [(x, .inr (0, [.ref a1, .ref a2, .ref a3, .ref a4, .ref a5, .int (nI mo), .int (nI cf), .int (nI cl), .int (nI ac), .int st])), (a1, .inl (z1, 2000, .inl T)), (a2, .inl (z2, 2000, .inl F)), (a3, .inl (z3, 2000, .inl G)), (a4, .inl (z4, 2000, .inl L)), (a5, .inl (z5, 2001, .inl S))]) hP hD [0, 1, 2, 3, 4, 5] [] rfl rfl (by decide) (by decide) hk1 hFc hP1 hD1
      generalize H1 = H at hP hS ⊢
      have hP : va_P (dC, dI) vwCl [(x, .inr (0, [.ref a1, .ref a2, .ref a3, .ref a4, .ref a5, .int (nI mo), .int (nI cf), .int (nI cl), .int (nI ac), .int st])), (a1, .inl (z1, 2000, .inl T)), (a2, .inl (z2, 2000, .inl F)), (a3, .inl (z3, 2000, .inl G)), (a4, .inl (z4, 2000, .inl L)), (a5, .inl (z5, 2001, .inl S))] H := hP
      have hD : va_D A [(x, .inr (0, [.ref a1, .ref a2, .ref a3, .ref a4, .ref a5, .int (nI mo), .int (nI cf), .int (nI cl), .int (nI ac), .int st])), (a1, .inl (z1, 2000, .inl T)), (a2, .inl (z2, 2000, .inl F)), (a3, .inl (z3, 2000, .inl G)), (a4, .inl (z4, 2000, .inl L)), (a5, .inl (z5, 2001, .inl S))] := hD
      refine sr_ti (y := nI (sr_f (sr_lim mo fd fs la) ac tk (j + 1))) (by rw [sr_f]) ?_
      refine sr_iast hx hb hK hP hD hS 5 4 rfl rfl (by omega) (by decide) dX0_reckonSpeeds_55 (fun H locs hP hD hS => ?_)
      have hP : va_P (dC, dI) vwCl [(x, .inr (0, [.ref a1, .ref a2, .ref a3, .ref a4, .ref a5, .int (nI mo), .int (nI cf), .int (nI cl), .int (nI ac), .int st])), (a1, .inl (z1, 2000, .inl T)), (a2, .inl (z2, 2000, .inl F)), (a3, .inl (z3, 2000, .inl G)), (a4, .inl (z4, 2000, .inl L)), (a5, .inl (z5, 2001, .inl (upd S (j + 1) (nI (sr_f (sr_lim mo fd fs la) ac tk (j + 1))))))] H := hP
      have hD : va_D A [(x, .inr (0, [.ref a1, .ref a2, .ref a3, .ref a4, .ref a5, .int (nI mo), .int (nI cf), .int (nI cl), .int (nI ac), .int st])), (a1, .inl (z1, 2000, .inl T)), (a2, .inl (z2, 2000, .inl F)), (a3, .inl (z3, 2000, .inl G)), (a4, .inl (z4, 2000, .inl L)), (a5, .inl (z5, 2001, .inl (upd S (j + 1) (nI (sr_f (sr_lim mo fd fs la) ac tk (j + 1))))))] := hD
      refine lv_iinc (v := nI ((j + 1) + 1)) (lv' := [(1, .int (nI ((j + 1) + 1))), (0, .ref x)]) hx hb dX0_reckonSpeeds_56 hl (k := 1) rfl (nI_1 _) (by decide) rfl (fun ls hl => ?_)
      refine lv_goto (tgt := 17) hx hb dX0_reckonSpeeds_59 (by decide) ?_
      refine ih (j + 1) _ H locs ls (by omega) (by omega) (fun k q => ?_) hP hD hS (lv_sub hl [1, 0] rfl)
      rcases Nat.lt_or_ge k (j + 1) with h | h
      · rw [pk_un (by omega)]
        exact hv k (by omega)
      · obtain rfl : k = j + 1 := by omega
        rw [pk_us]
set_option maxHeartbeats 4000000 in
set_option maxRecDepth 100000 in
theorem lp_X0_rk2 {p : Program} {l : Launch} {e : Env} {R : Room} {s : State} {m : MethodId} {args : Array Value} {below : List Frame} {meth : Method} {c : Code} {Q : State → Prop} {A : Nat → Prop} {H0 : Heap} (C0 : CallFix p m c cX0_reckonSpeeds 2 s args wsX0_reckonSpeeds RX0) (hRf : 1 ≤ R.frames) (hRl : 29 ≤ R.locals) {dC : Nat → ClassId} {dI : Nat → Nat → Nat} {x a1 a2 a3 a4 a5 : Nat} {z1 z2 z3 z4 z5 : ClassId} {mo cf cl ac : Nat} {st : Int32} {T F G L : Nat → Int32} {tk fd fs la : Nat → Nat} (g : sr_G mo ac cf cl tk fd fs la) (hI : sr_XI mo tk fd fs la T F G L) (hK : va_K (dC, dI) vwCl (sr_tX z1 z2 z3 z4 z5) s) (hA : ∀ q, H0.size ≤ q → A q)
    (hk : ∀ (S : Nat → Int32) (H : Heap) (locs : List Loc) (ls : Array Slot), (∀ k, k ≤ mo → S k = nI (sr_sp mo ac tk fd fs la k)) → va_P (dC, dI) vwCl (sr_wX x a1 a2 a3 a4 a5 z1 z2 z3 z4 z5 mo cf cl ac st T F G L S) H → va_D A (sr_wX x a1 a2 a3 a4 a5 z1 z2 z3 z4 z5 mo cf cl ac st T F G L S) → va_S A H0 H locs → lv_has ls 2 [(0, .ref x)] → W p l e R s m args below meth c H locs 0 0 Q (F0 m 109 ls [])) :
    ∀ (B : Nat) (v : Int32) (S : Nat → Int32) (H : Heap) (locs : List Loc) (ls : Array Slot), B ≤ mo → v = nI B - 1 → (∀ k, k < B → S k = nI (sr_f (sr_lim mo fd fs la) ac tk k)) → (∀ k, B ≤ k → k ≤ mo → S k = nI (sr_sp mo ac tk fd fs la k)) → va_P (dC, dI) vwCl (sr_wX x a1 a2 a3 a4 a5 z1 z2 z3 z4 z5 mo cf cl ac st T F G L S) H → va_D A (sr_wX x a1 a2 a3 a4 a5 z1 z2 z3 z4 z5 mo cf cl ac st T F G L S) → va_S A H0 H locs → lv_has ls 2 [(0, .ref x), (1, .int v)] → W p l e R s m args below meth c H locs 0 0 Q (F0 m 69 ls []) := by
  obtain ⟨hx, hb, hml, hown, hts⟩ := C0
  have hin0 : ∀ w ∈ u_ws RX0 TX0 10, w ∈ wsX0_reckonSpeeds := by decide +kernel
  obtain ⟨hmo, ⟨hac1, hac2⟩, hcf, hcl, hpath⟩ := id g
  have hK : va_K (dC, dI) vwCl [(z1, .int), (z2, .int), (z3, .int), (z4, .int), (z5, .int)] s := hK
  intro B
  induction B with
  | zero =>
    intro v S H locs ls h1 ev hv hw2 hP hD hS hl
    refine lv_iload_n hx hb dX0_reckonSpeeds_69 rfl (lv_at hl 1 rfl) ?_
    refine lv_if_lt (tgt := 109) hx hb dX0_reckonSpeeds_70 (by decide) (fun c1 => ?_) (fun c1 => ?_)
    · exact hk S H locs ls (fun k q => hw2 k (Nat.zero_le k) q) hP hD hS (lv_sub hl [0] rfl)
    · exact absurd (by rw [ev]; decide) c1
  | succ b ih =>
    intro v S H locs ls h1 ev hv hw2 hP hD hS hl
    obtain rfl : v = nI b := by rw [ev]; exact nI_pred b
    have hP : va_P (dC, dI) vwCl [(x, .inr (0, [.ref a1, .ref a2, .ref a3, .ref a4, .ref a5, .int (nI mo), .int (nI cf), .int (nI cl), .int (nI ac), .int st])), (a1, .inl (z1, 2000, .inl T)), (a2, .inl (z2, 2000, .inl F)), (a3, .inl (z3, 2000, .inl G)), (a4, .inl (z4, 2000, .inl L)), (a5, .inl (z5, 2001, .inl S))] H := hP
    have hD : va_D A [(x, .inr (0, [.ref a1, .ref a2, .ref a3, .ref a4, .ref a5, .int (nI mo), .int (nI cf), .int (nI cl), .int (nI ac), .int st])), (a1, .inl (z1, 2000, .inl T)), (a2, .inl (z2, 2000, .inl F)), (a3, .inl (z3, 2000, .inl G)), (a4, .inl (z4, 2000, .inl L)), (a5, .inl (z5, 2001, .inl S))] := hD
    refine lv_iload_n hx hb dX0_reckonSpeeds_69 rfl (lv_at hl 1 rfl) ?_
    refine lv_if_lt (tgt := 109) hx hb dX0_reckonSpeeds_70 (by decide) (fun c1 => ?_) (fun c1 => ?_)
    · exact absurd c1 (nI_pos (by omega))
    · have e1 : b < mo := h1
      have hb1 : sr_f (sr_lim mo fd fs la) ac tk b ≤ 99999 := Nat.le_trans (sr_f_le _ _ _ _) (sr_lim_le g b)
      have hb2 : sr_sp mo ac tk fd fs la (b + 1) ≤ 99999 := sr_sp_le g h1
      refine lv_aload_n hx hb dX0_reckonSpeeds_73 rfl (lv_at hl 0 rfl) ?_
      refine va_get (D := (dC, dI)) (ci := 0) (v := .ref a5) (C := RX0) (T := TX0) (N := 10) hx hb hts hin0 hown hK hP 0 rfl rfl 4 (by decide) (hts (.fieldLink RX0 22 "SpeedRows" "speeds" "[I") (by decide +kernel)) (fun _ h9 => h9) rfl dX0_reckonSpeeds_74 ?_
      refine lv_iload_n hx hb dX0_reckonSpeeds_77 rfl (lv_at hl 1 rfl) ?_
      refine lv_aload_n hx hb dX0_reckonSpeeds_78 rfl (lv_at hl 0 rfl) ?_
      refine lv_aload_n hx hb dX0_reckonSpeeds_79 rfl (lv_at hl 0 rfl) ?_
      refine va_get (D := (dC, dI)) (ci := 0) (v := .ref a1) (C := RX0) (T := TX0) (N := 10) hx hb hts hin0 hown hK hP 0 rfl rfl 0 (by decide) (hts (.fieldLink RX0 9 "SpeedRows" "ticks" "[I") (by decide +kernel)) (fun _ h9 => h9) rfl dX0_reckonSpeeds_80 ?_
      refine lv_iload_n hx hb dX0_reckonSpeeds_83 rfl (lv_at hl 1 rfl) ?_
      refine sr_iald (v := nI (tk b)) hx hb hK hP 1 0 rfl rfl (by omega) (by decide) ((hI b e1).1) dX0_reckonSpeeds_84 ?_
      refine lv_aload_n hx hb dX0_reckonSpeeds_85 rfl (lv_at hl 0 rfl) ?_
      refine va_get (D := (dC, dI)) (ci := 0) (v := .ref a5) (C := RX0) (T := TX0) (N := 10) hx hb hts hin0 hown hK hP 0 rfl rfl 4 (by decide) (hts (.fieldLink RX0 22 "SpeedRows" "speeds" "[I") (by decide +kernel)) (fun _ h9 => h9) rfl dX0_reckonSpeeds_86 ?_
      refine lv_iload_n hx hb dX0_reckonSpeeds_89 rfl (lv_at hl 1 rfl) ?_
      refine lv_iconst (v := nI 1) hx hb dX0_reckonSpeeds_90 (by decide) ?_
      refine lv_iadd hx hb dX0_reckonSpeeds_91 ?_
      refine sr_ti (y := nI (b + 1)) (nI_add _ _) ?_
      refine sr_iald (v := nI (sr_sp mo ac tk fd fs la (b + 1))) hx hb hK hP 5 4 rfl rfl (by omega) (by decide) (hw2 (b + 1) (Nat.le_refl _) h1) dX0_reckonSpeeds_92 ?_
      refine lv_aload_n hx hb dX0_reckonSpeeds_93 rfl (lv_at hl 0 rfl) ?_
      refine va_get (D := (dC, dI)) (ci := 0) (v := .ref a5) (C := RX0) (T := TX0) (N := 10) hx hb hts hin0 hown hK hP 0 rfl rfl 4 (by decide) (hts (.fieldLink RX0 22 "SpeedRows" "speeds" "[I") (by decide +kernel)) (fun _ h9 => h9) rfl dX0_reckonSpeeds_94 ?_
      refine lv_iload_n hx hb dX0_reckonSpeeds_97 rfl (lv_at hl 1 rfl) ?_
      refine sr_iald (v := nI (sr_f (sr_lim mo fd fs la) ac tk b)) hx hb hK hP 5 4 rfl rfl (by omega) (by decide) (hv b (Nat.lt_succ_self b)) dX0_reckonSpeeds_98 ?_
      have hPc := hP.sub (ws' := [(x, .inr (0, [.ref a1, .ref a2, .ref a3, .ref a4, .ref a5, .int (nI mo), .int (nI cf), .int (nI cl), .int (nI ac), .int st])), (a1, .inl (z1, 2000, .inl T)), (a2, .inl (z2, 2000, .inl F)), (a3, .inl (z3, 2000, .inl G)), (a4, .inl (z4, 2000, .inl L)), (a5, .inl (z5, 2001, .inl S))]) [0, 1, 2, 3, 4, 5] rfl
      have hDc := hD.sub (ws' := [(x, .inr (0, [.ref a1, .ref a2, .ref a3, .ref a4, .ref a5, .int (nI mo), .int (nI cf), .int (nI cl), .int (nI ac), .int st])), (a1, .inl (z1, 2000, .inl T)), (a2, .inl (z2, 2000, .inl F)), (a3, .inl (z3, 2000, .inl G)), (a4, .inl (z4, 2000, .inl L)), (a5, .inl (z5, 2001, .inl S))]) [0, 1, 2, 3, 4, 5] (by decide) rfl
      have hKc := hK.sub (tys' := [(z1, .int), (z2, .int), (z3, .int), (z4, .int), (z5, .int)]) [0, 1, 2, 3, 4] rfl
      have hFc := va_free (wc := [(x, .inr (0, [.ref a1, .ref a2, .ref a3, .ref a4, .ref a5, .int (nI mo), .int (nI cf), .int (nI cl), .int (nI ac), .int st])), (a1, .inl (z1, 2000, .inl T)), (a2, .inl (z2, 2000, .inl F)), (a3, .inl (z3, 2000, .inl G)), (a4, .inl (z4, 2000, .inl L)), (a5, .inl (z5, 2001, .inl S))]) hD hS hA [0, 1, 2, 3, 4, 5] rfl
      refine va_calli (va_runV (As := [.int (nI (tk b)), .int (nI (sr_sp mo ac tk fd fs la (b + 1))), .int (nI (sr_f (sr_lim mo fd fs la) ac tk b))]) (rest := [.int (nI b), .ref a5]) ⟨hx, hb, hml, hown, hts⟩ (c_X0_fastestAcross l dC dI x a1 a2 a3 a4 a5 z1 z2 z3 z4 z5 H.size mo cf cl ac st T F G L S (tk b) (sr_sp mo ac tk fd fs la (b + 1)) (sr_f (sr_lim mo fd fs la) ac tk b) (hpath b e1).1.2 hb2 hb1 hac2) (cwV 3 hts gX0_reckonSpeeds_X0_fastestAcross rfl rfl rfl (by decide +kernel) ⟨Nat.le_trans (show _ ≤ 1 from Nat.le_of_ble_eq_true rfl) hRf, Nat.le_trans (show _ ≤ 29 from Nat.le_of_ble_eq_true rfl) hRl⟩) ⟨sr_blind, va_recv hKc hPc (ci := 0) (q0 := 0) rfl rfl, sr_mk hPc hKc hDc⟩ rfl rfl hl.1 rfl (lv_room (Nat.le_of_ble_eq_true rfl)) dX0_reckonSpeeds_99 ⟨Nat.zero_le _, Nat.zero_le _⟩) hS (fun q _ h => hFc q h) hFc (fun r2 u t H1 locs ht hvm hw hB hz1 hk1 hS => ?_)
      obtain ⟨hP1, hK1, hD1⟩ := hB
      rw [ht] at hP1
      obtain ⟨rfl, rfl⟩ := hw
      obtain ⟨hP, hD⟩ := va_join (wr := []) (w1 := [(x, .inr (0, [.ref a1, .ref a2, .ref a3, .ref a4, .ref a5, .int (nI mo), .int (nI cf), .int (nI cl), .int (nI ac), .int st])), (a1, .inl (z1, 2000, .inl T)), (a2, .inl (z2, 2000, .inl F)), (a3, .inl (z3, 2000, .inl G)), (a4, .inl (z4, 2000, .inl L)), (a5, .inl (z5, 2001, .inl S))]) hP hD [0, 1, 2, 3, 4, 5] [] rfl rfl (by decide) (by decide) hk1 hFc hP1 hD1
      generalize H1 = H at hP hS ⊢
      have hP : va_P (dC, dI) vwCl [(x, .inr (0, [.ref a1, .ref a2, .ref a3, .ref a4, .ref a5, .int (nI mo), .int (nI cf), .int (nI cl), .int (nI ac), .int st])), (a1, .inl (z1, 2000, .inl T)), (a2, .inl (z2, 2000, .inl F)), (a3, .inl (z3, 2000, .inl G)), (a4, .inl (z4, 2000, .inl L)), (a5, .inl (z5, 2001, .inl S))] H := hP
      have hD : va_D A [(x, .inr (0, [.ref a1, .ref a2, .ref a3, .ref a4, .ref a5, .int (nI mo), .int (nI cf), .int (nI cl), .int (nI ac), .int st])), (a1, .inl (z1, 2000, .inl T)), (a2, .inl (z2, 2000, .inl F)), (a3, .inl (z3, 2000, .inl G)), (a4, .inl (z4, 2000, .inl L)), (a5, .inl (z5, 2001, .inl S))] := hD
      refine sr_ti (y := nI (sr_sp mo ac tk fd fs la b)) (by unfold sr_sp; rw [sr_s_k _ _ _ e1]) ?_
      refine sr_iast hx hb hK hP hD hS 5 4 rfl rfl (by omega) (by decide) dX0_reckonSpeeds_102 (fun H locs hP hD hS => ?_)
      have hP : va_P (dC, dI) vwCl [(x, .inr (0, [.ref a1, .ref a2, .ref a3, .ref a4, .ref a5, .int (nI mo), .int (nI cf), .int (nI cl), .int (nI ac), .int st])), (a1, .inl (z1, 2000, .inl T)), (a2, .inl (z2, 2000, .inl F)), (a3, .inl (z3, 2000, .inl G)), (a4, .inl (z4, 2000, .inl L)), (a5, .inl (z5, 2001, .inl (upd S b (nI (sr_sp mo ac tk fd fs la b)))))] H := hP
      have hD : va_D A [(x, .inr (0, [.ref a1, .ref a2, .ref a3, .ref a4, .ref a5, .int (nI mo), .int (nI cf), .int (nI cl), .int (nI ac), .int st])), (a1, .inl (z1, 2000, .inl T)), (a2, .inl (z2, 2000, .inl F)), (a3, .inl (z3, 2000, .inl G)), (a4, .inl (z4, 2000, .inl L)), (a5, .inl (z5, 2001, .inl (upd S b (nI (sr_sp mo ac tk fd fs la b)))))] := hD
      refine lv_iinc (v := nI b - 1) (lv' := [(1, .int (nI b - 1)), (0, .ref x)]) hx hb dX0_reckonSpeeds_103 hl (k := 1) rfl (sr_dec _) (by decide) rfl (fun ls hl => ?_)
      refine lv_goto (tgt := 69) hx hb dX0_reckonSpeeds_106 (by decide) ?_
      refine ih _ _ H locs ls (by omega) rfl (fun k q => ?_) (fun k q q2 => ?_) hP hD hS (lv_sub hl [1, 0] rfl)
      · rw [pk_un (by omega)]
        exact hv k (by omega)
      · rcases Nat.lt_or_ge b k with h | h
        · rw [pk_un (by omega)]
          exact hw2 k h q2
        · obtain rfl : k = b := by omega
          rw [pk_us]
set_option maxHeartbeats 4000000 in
set_option maxRecDepth 100000 in
theorem c_X0_reckonSpeeds (l : Launch) (dC : Nat → ClassId) (dI : Nat → Nat → Nat) (x a1 a2 a3 a4 a5 : Nat) (z1 z2 z3 z4 z5 : ClassId) (sz : Nat) (mo cf cl ac : Nat) (st : Int32) (T F G L S : Nat → Int32) (tk fd fs la : Nat → Nat) (g : sr_G mo ac cf cl tk fd fs la) (hI : sr_XI mo tk fd fs la T F G L) (hQ : sr_XS mo ac tk fd fs la st S) : Met l yX0_reckonSpeeds wsX0_reckonSpeeds ({ frames := 1, cells := 0, slots := 0, locals := 29 }) (sr_pre dC dI (sr_tX z1 z2 z3 z4 z5) (sr_wX x a1 a2 a3 a4 a5 z1 z2 z3 z4 z5 mo cf cl ac st T F G L S) sz [.ref x]) (va_Qv (fun (u : va_W) => ∃ S' : Nat → Int32, u = sr_wX x a1 a2 a3 a4 a5 z1 z2 z3 z4 z5 mo cf cl ac 1 T F G L S' ∧ ∀ k, k ≤ mo → S' k = nI (sr_sp mo ac tk fd fs la k)) (sr_at dC dI (sr_tX z1 z2 z3 z4 z5) (va_A (sr_wX x a1 a2 a3 a4 a5 z1 z2 z3 z4 z5 mo cf cl ac st T F G L S) sz)) (va_A (sr_wX x a1 a2 a3 a4 a5 z1 z2 z3 z4 z5 mo cf cl ac st T F G L S) sz)) 0 0 (va_A (sr_wX x a1 a2 a3 a4 a5 z1 z2 z3 z4 z5 mo cf cl ac st T F G L S) sz) := by
  refine Met.ofW (cc := cX0_reckonSpeeds) (maxL := 2) (ret := none) (by decide) rfl ?_
  intro p e s m args below meth c s₁ B hml hv
  obtain ⟨rfl, hsz, hP, hK, hD0⟩ := hv
  have hx := B.exec
  have hb := B.bytes
  have hr := B.returns
  have hts := atoms_spec (ws := wsX0_reckonSpeeds) B.pre
  have hown : s.vm.findClass RX0 = some m.cls := findClass_of_methodNamed B.named
  have hlocks := B.notSynchronized
  subst hsz
  have hD := hD0.self (sz := s.heap.size)
  generalize hAe : va_A (sr_wX x a1 a2 a3 a4 a5 z1 z2 z3 z4 z5 mo cf cl ac st T F G L S) s.heap.size = A at hD ⊢
  have hA : ∀ q : Nat, s.heap.size ≤ q → A q := fun q h => by rw [← hAe]; exact Or.inr h
  have hS : va_S A s.heap s.heap [] := va_S.rf
  have hP : va_P (dC, dI) vwCl [(x, .inr (0, [.ref a1, .ref a2, .ref a3, .ref a4, .ref a5, .int (nI mo), .int (nI cf), .int (nI cl), .int (nI ac), .int st])), (a1, .inl (z1, 2000, .inl T)), (a2, .inl (z2, 2000, .inl F)), (a3, .inl (z3, 2000, .inl G)), (a4, .inl (z4, 2000, .inl L)), (a5, .inl (z5, 2001, .inl S))] s.heap := hP
  have hD : va_D A [(x, .inr (0, [.ref a1, .ref a2, .ref a3, .ref a4, .ref a5, .int (nI mo), .int (nI cf), .int (nI cl), .int (nI ac), .int st])), (a1, .inl (z1, 2000, .inl T)), (a2, .inl (z2, 2000, .inl F)), (a3, .inl (z3, 2000, .inl G)), (a4, .inl (z4, 2000, .inl L)), (a5, .inl (z5, 2001, .inl S))] := hD
  have hK : va_K (dC, dI) vwCl [(z1, .int), (z2, .int), (z3, .int), (z4, .int), (z5, .int)] s := hK
  have hin0 : ∀ w ∈ u_ws RX0 TX0 10, w ∈ wsX0_reckonSpeeds := by decide +kernel
  have hl := lv_entry ([.ref x]) (n := 2) (Nat.le_of_ble_eq_true rfl)
  rw [lg_entry_eq]
  generalize (lg_sl ([.ref x]) ++ List.replicate (2 - (lg_sl ([.ref x])).length) Slot.unset).toArray = ls at hl ⊢
  have hl : lv_has ls 2 [(0, .ref x)] := hl
  have hmo : mo ≤ 2000 := g.1
  refine lv_aload_n hx hb dX0_reckonSpeeds_0 rfl (lv_at hl 0 rfl) ?_
  refine va_get (D := (dC, dI)) (ci := 0) (v := .int st) (C := RX0) (T := TX0) (N := 10) hx hb hts hin0 hown hK hP 0 rfl rfl 9 (by decide) (hts (.fieldLink RX0 42 "SpeedRows" "speedsStand" "Z") (by decide +kernel)) (fun _ h9 => h9) rfl dX0_reckonSpeeds_1 ?_
  refine lv_if_eq (tgt := 8) hx hb dX0_reckonSpeeds_4 (by decide) (fun c1 => ?_) (fun c1 => ?_)
  · subst c1
    refine lv_aload_n hx hb dX0_reckonSpeeds_8 rfl (lv_at hl 0 rfl) ?_
    refine va_get (D := (dC, dI)) (ci := 0) (v := .ref a5) (C := RX0) (T := TX0) (N := 10) hx hb hts hin0 hown hK hP 0 rfl rfl 4 (by decide) (hts (.fieldLink RX0 22 "SpeedRows" "speeds" "[I") (by decide +kernel)) (fun _ h9 => h9) rfl dX0_reckonSpeeds_9 ?_
    refine lv_iconst (v := nI 0) hx hb dX0_reckonSpeeds_12 (by decide) ?_
    refine lv_iconst (v := nI 0) hx hb dX0_reckonSpeeds_13 (by decide) ?_
    refine sr_iast hx hb hK hP hD hS 5 4 rfl rfl (by omega) (by decide) dX0_reckonSpeeds_14 (fun H locs hP hD hS => ?_)
    have hP : va_P (dC, dI) vwCl [(x, .inr (0, [.ref a1, .ref a2, .ref a3, .ref a4, .ref a5, .int (nI mo), .int (nI cf), .int (nI cl), .int (nI ac), .int 0])), (a1, .inl (z1, 2000, .inl T)), (a2, .inl (z2, 2000, .inl F)), (a3, .inl (z3, 2000, .inl G)), (a4, .inl (z4, 2000, .inl L)), (a5, .inl (z5, 2001, .inl (upd S 0 (nI 0))))] H := hP
    have hD : va_D A [(x, .inr (0, [.ref a1, .ref a2, .ref a3, .ref a4, .ref a5, .int (nI mo), .int (nI cf), .int (nI cl), .int (nI ac), .int 0])), (a1, .inl (z1, 2000, .inl T)), (a2, .inl (z2, 2000, .inl F)), (a3, .inl (z3, 2000, .inl G)), (a4, .inl (z4, 2000, .inl L)), (a5, .inl (z5, 2001, .inl (upd S 0 (nI 0))))] := hD
    refine lv_iconst (v := nI (0 + 1)) hx hb dX0_reckonSpeeds_15 (by decide) ?_
    refine lv_istore_n (lv' := [(1, .int (nI (0 + 1))), (0, .ref x)]) hx hb dX0_reckonSpeeds_16 rfl hl (by decide) rfl (fun ls hl => ?_)
    refine lp_X0_rk1 ⟨hx, hb, hml, hown, hts⟩ (Nat.le_of_ble_eq_true rfl) (Nat.le_of_ble_eq_true rfl) g hI hK hA (fun S H locs ls hv hP hD hS hl => ?_) (mo + 1) 0 _ H locs ls (Nat.zero_le _) (by omega) (fun k q => ?_) hP hD hS (lv_sub hl [1, 0] rfl)
    · have hP : va_P (dC, dI) vwCl [(x, .inr (0, [.ref a1, .ref a2, .ref a3, .ref a4, .ref a5, .int (nI mo), .int (nI cf), .int (nI cl), .int (nI ac), .int 0])), (a1, .inl (z1, 2000, .inl T)), (a2, .inl (z2, 2000, .inl F)), (a3, .inl (z3, 2000, .inl G)), (a4, .inl (z4, 2000, .inl L)), (a5, .inl (z5, 2001, .inl S))] H := hP
      have hD : va_D A [(x, .inr (0, [.ref a1, .ref a2, .ref a3, .ref a4, .ref a5, .int (nI mo), .int (nI cf), .int (nI cl), .int (nI ac), .int 0])), (a1, .inl (z1, 2000, .inl T)), (a2, .inl (z2, 2000, .inl F)), (a3, .inl (z3, 2000, .inl G)), (a4, .inl (z4, 2000, .inl L)), (a5, .inl (z5, 2001, .inl S))] := hD
      refine lv_aload_n hx hb dX0_reckonSpeeds_62 rfl (lv_at hl 0 rfl) ?_
      refine va_get (D := (dC, dI)) (ci := 0) (v := .int (nI mo)) (C := RX0) (T := TX0) (N := 10) hx hb hts hin0 hown hK hP 0 rfl rfl 5 (by decide) (hts (.fieldLink RX0 25 "SpeedRows" "moves" "I") (by decide +kernel)) (fun _ h9 => h9) rfl dX0_reckonSpeeds_63 ?_
      refine lv_iconst (v := 1) hx hb dX0_reckonSpeeds_66 (by decide) ?_
      refine lv_isub hx hb dX0_reckonSpeeds_67 ?_
      refine lv_istore_n (lv' := [(1, .int ((nI mo) - 1)), (0, .ref x)]) hx hb dX0_reckonSpeeds_68 rfl hl (by decide) rfl (fun ls hl => ?_)
      refine lp_X0_rk2 ⟨hx, hb, hml, hown, hts⟩ (Nat.le_of_ble_eq_true rfl) (Nat.le_of_ble_eq_true rfl) g hI hK hA (fun S H locs ls hv2 hP hD hS hl => ?_) mo _ _ H locs ls (Nat.le_refl _) rfl (fun k q => hv k (by omega)) (fun k q q2 => ?_) hP hD hS (lv_sub hl [1, 0] rfl)
      · have hP : va_P (dC, dI) vwCl [(x, .inr (0, [.ref a1, .ref a2, .ref a3, .ref a4, .ref a5, .int (nI mo), .int (nI cf), .int (nI cl), .int (nI ac), .int 0])), (a1, .inl (z1, 2000, .inl T)), (a2, .inl (z2, 2000, .inl F)), (a3, .inl (z3, 2000, .inl G)), (a4, .inl (z4, 2000, .inl L)), (a5, .inl (z5, 2001, .inl S))] H := hP
        have hD : va_D A [(x, .inr (0, [.ref a1, .ref a2, .ref a3, .ref a4, .ref a5, .int (nI mo), .int (nI cf), .int (nI cl), .int (nI ac), .int 0])), (a1, .inl (z1, 2000, .inl T)), (a2, .inl (z2, 2000, .inl F)), (a3, .inl (z3, 2000, .inl G)), (a4, .inl (z4, 2000, .inl L)), (a5, .inl (z5, 2001, .inl S))] := hD
        refine lv_aload_n hx hb dX0_reckonSpeeds_109 rfl (lv_at hl 0 rfl) ?_
        refine lv_iconst (v := 1) hx hb dX0_reckonSpeeds_110 (by decide) ?_
        refine va_put (D := (dC, dI)) (ci := 0) (v := .int 1) (ty := .boolean) (C := RX0) (T := TX0) (N := 10) hx hb hts hin0 tyX0 tyX0_ok nmX0 hown hK hP hD hS 0 rfl rfl 9 (by decide) (hts (.fieldLink RX0 42 "SpeedRows" "speedsStand" "Z") (by decide +kernel)) (fun _ h9 => h9) rfl (by decide +kernel) rfl rfl (Nat.le_of_ble_eq_true rfl) dX0_reckonSpeeds_111 (fun H locs hP hD hS => ?_)
        have hP : va_P (dC, dI) vwCl [(x, .inr (0, [.ref a1, .ref a2, .ref a3, .ref a4, .ref a5, .int (nI mo), .int (nI cf), .int (nI cl), .int (nI ac), .int 1])), (a1, .inl (z1, 2000, .inl T)), (a2, .inl (z2, 2000, .inl F)), (a3, .inl (z3, 2000, .inl G)), (a4, .inl (z4, 2000, .inl L)), (a5, .inl (z5, 2001, .inl S))] H := hP
        have hD : va_D A [(x, .inr (0, [.ref a1, .ref a2, .ref a3, .ref a4, .ref a5, .int (nI mo), .int (nI cf), .int (nI cl), .int (nI ac), .int 1])), (a1, .inl (z1, 2000, .inl T)), (a2, .inl (z2, 2000, .inl F)), (a3, .inl (z3, 2000, .inl G)), (a4, .inl (z4, 2000, .inl L)), (a5, .inl (z5, 2001, .inl S))] := hD
        exact W.vret hx hb hr (fun t ht hW => ⟨⟨_, rfl, ⟨S, rfl, hv2⟩, by rw [ht]; exact hP, va_K.moved hW.alike hK, hD⟩, hS.F ht⟩) hS.2.2 dX0_reckonSpeeds_114
      · obtain rfl : k = mo := by omega
        rw [hv k (Nat.le_refl _)]
        unfold sr_sp
        rw [sr_s_n]
    · obtain rfl : k = 0 := by omega
      rw [pk_us, sr_f, sr_lim_0]
  · rcases hQ with q | ⟨q, hq⟩
    · exact absurd q c1
    · subst q
      exact W.vret hx hb hr (fun t ht hW => ⟨⟨_, rfl, ⟨S, rfl, hq⟩, by rw [ht]; exact hP, va_K.moved hW.alike hK, hD⟩, hS.F ht⟩) hS.2.2 dX0_reckonSpeeds_7
end
section
/-! THE CLASS: first, last, back, acceleration, limit, speed, sum, below. -/
set_option maxHeartbeats 4000000 in
set_option maxRecDepth 100000 in
theorem c_X0_first (l : Launch) (dC : Nat → ClassId) (dI : Nat → Nat → Nat) (x a1 a2 a3 a4 a5 : Nat) (z1 z2 z3 z4 z5 : ClassId) (sz : Nat) (mo cf cl ac : Nat) (st : Int32) (T F G L S : Nat → Int32) (px py pz : Int32) : Met l yX0_first wsX0_first ({ frames := 2, cells := 0, slots := 0, locals := 44 }) (sr_pre dC dI (sr_tX z1 z2 z3 z4 z5) (sr_wX x a1 a2 a3 a4 a5 z1 z2 z3 z4 z5 mo cf cl ac st T F G L S) sz [.ref x, .int px, .int py, .int pz]) (va_Qi (fun (r : Int32) (u : va_W) => (sr_isS px py pz ∧ r = 1 ∧ ∃ q, sr_ok q ∧ px = sr_dg q 0 ∧ py = sr_dg q 1 ∧ pz = sr_dg q 2 ∧ u = sr_wX x a1 a2 a3 a4 a5 z1 z2 z3 z4 z5 mo q cl ac st T F G L S) ∨ (¬ sr_isS px py pz ∧ r = 0 ∧ u = sr_wX x a1 a2 a3 a4 a5 z1 z2 z3 z4 z5 mo cf cl ac st T F G L S)) (sr_at dC dI (sr_tX z1 z2 z3 z4 z5) (va_A (sr_wX x a1 a2 a3 a4 a5 z1 z2 z3 z4 z5 mo cf cl ac st T F G L S) sz)) (va_A (sr_wX x a1 a2 a3 a4 a5 z1 z2 z3 z4 z5 mo cf cl ac st T F G L S) sz)) 0 0 (va_A (sr_wX x a1 a2 a3 a4 a5 z1 z2 z3 z4 z5 mo cf cl ac st T F G L S) sz) := by
  refine Met.ofW (cc := cX0_first) (maxL := 4) (ret := (some .boolean)) (by decide) rfl ?_
  intro p e s m args below meth c s₁ B hml hv
  obtain ⟨rfl, hsz, hP, hK, hD0⟩ := hv
  have hx := B.exec
  have hb := B.bytes
  have hr := B.returns
  have hts := atoms_spec (ws := wsX0_first) B.pre
  have hown : s.vm.findClass RX0 = some m.cls := findClass_of_methodNamed B.named
  have hlocks := B.notSynchronized
  subst hsz
  have hD := hD0.self (sz := s.heap.size)
  generalize hAe : va_A (sr_wX x a1 a2 a3 a4 a5 z1 z2 z3 z4 z5 mo cf cl ac st T F G L S) s.heap.size = A at hD ⊢
  have hA : ∀ q : Nat, s.heap.size ≤ q → A q := fun q h => by rw [← hAe]; exact Or.inr h
  have hS : va_S A s.heap s.heap [] := va_S.rf
  have hP : va_P (dC, dI) vwCl [(x, .inr (0, [.ref a1, .ref a2, .ref a3, .ref a4, .ref a5, .int (nI mo), .int (nI cf), .int (nI cl), .int (nI ac), .int st])), (a1, .inl (z1, 2000, .inl T)), (a2, .inl (z2, 2000, .inl F)), (a3, .inl (z3, 2000, .inl G)), (a4, .inl (z4, 2000, .inl L)), (a5, .inl (z5, 2001, .inl S))] s.heap := hP
  have hD : va_D A [(x, .inr (0, [.ref a1, .ref a2, .ref a3, .ref a4, .ref a5, .int (nI mo), .int (nI cf), .int (nI cl), .int (nI ac), .int st])), (a1, .inl (z1, 2000, .inl T)), (a2, .inl (z2, 2000, .inl F)), (a3, .inl (z3, 2000, .inl G)), (a4, .inl (z4, 2000, .inl L)), (a5, .inl (z5, 2001, .inl S))] := hD
  have hK : va_K (dC, dI) vwCl [(z1, .int), (z2, .int), (z3, .int), (z4, .int), (z5, .int)] s := hK
  have hin0 : ∀ w ∈ u_ws RX0 TX0 10, w ∈ wsX0_first := by decide +kernel
  have hl := lv_entry ([.ref x, .int px, .int py, .int pz]) (n := 4) (Nat.le_of_ble_eq_true rfl)
  rw [lg_entry_eq]
  generalize (lg_sl ([.ref x, .int px, .int py, .int pz]) ++ List.replicate (4 - (lg_sl ([.ref x, .int px, .int py, .int pz])).length) Slot.unset).toArray = ls at hl ⊢
  have hl : lv_has ls 4 [(0, .ref x), (1, .int px), (2, .int py), (3, .int pz)] := hl
  refine lv_iload_n hx hb dX0_first_0 rfl (lv_at hl 1 rfl) ?_
  refine lv_iload_n hx hb dX0_first_1 rfl (lv_at hl 2 rfl) ?_
  refine lv_iload_n hx hb dX0_first_2 rfl (lv_at hl 3 rfl) ?_
  refine vp_callSi (W.runS (As := [.int px, .int py, .int pz]) (rest := []) ⟨hx, hb, hml, hown, hts⟩ (c_X0_isStep l px py pz) (va_cwS 3 hts gX0_first_X0_isStep rfl rfl rfl (by decide +kernel) ⟨Nat.le_of_ble_eq_true rfl, Nat.le_of_ble_eq_true rfl⟩) ⟨sr_blindT, sr_mkT⟩ rfl rfl hl.1 rfl (lv_room (Nat.le_of_ble_eq_true rfl)) dX0_first_3 ⟨Nat.zero_le _, Nat.zero_le _⟩) (fun r er => ?_)
  refine lv_if_ne (tgt := 11) hx hb dX0_first_6 (by decide) (fun c1 => ?_) (fun c1 => ?_)
  · have hc : sr_isS px py pz := by
      rcases er with ⟨_, q⟩ | ⟨q, _⟩
      · exact q
      · exact absurd q c1
    obtain ⟨q, hq, e1, e2, e3⟩ := sr_step hc
    refine lv_aload_n hx hb dX0_first_11 rfl (lv_at hl 0 rfl) ?_
    refine lv_iload_n hx hb dX0_first_12 rfl (lv_at hl 1 rfl) ?_
    refine lv_iload_n hx hb dX0_first_13 rfl (lv_at hl 2 rfl) ?_
    refine lv_iload_n hx hb dX0_first_14 rfl (lv_at hl 3 rfl) ?_
    refine vp_callSi (W.runS (As := [.int px, .int py, .int pz]) (rest := [.ref x]) ⟨hx, hb, hml, hown, hts⟩ (c_X0_packed l px py pz) (va_cwS 3 hts gX0_first_X0_packed rfl rfl rfl (by decide +kernel) ⟨Nat.le_of_ble_eq_true rfl, Nat.le_of_ble_eq_true rfl⟩) ⟨sr_blindT, sr_mkT⟩ rfl rfl hl.1 rfl (lv_room (Nat.le_of_ble_eq_true rfl)) dX0_first_15 ⟨Nat.zero_le _, Nat.zero_le _⟩) (fun r2 e4 => ?_)
    refine sr_ti (y := nI q) (by rw [e4, e1, e2, e3]; exact sr_dg_pack q hq.1) ?_
    refine va_put (D := (dC, dI)) (ci := 0) (v := .int (nI q)) (ty := .int) (C := RX0) (T := TX0) (N := 10) hx hb hts hin0 tyX0 tyX0_ok nmX0 hown hK hP hD hS 0 rfl rfl 6 (by decide) (hts (.fieldLink RX0 33 "SpeedRows" "nextFirst" "I") (by decide +kernel)) (fun _ h9 => h9) rfl (by decide +kernel) rfl rfl (Nat.le_of_ble_eq_true rfl) dX0_first_18 (fun H locs hP hD hS => ?_)
    have hP : va_P (dC, dI) vwCl [(x, .inr (0, [.ref a1, .ref a2, .ref a3, .ref a4, .ref a5, .int (nI mo), .int (nI q), .int (nI cl), .int (nI ac), .int st])), (a1, .inl (z1, 2000, .inl T)), (a2, .inl (z2, 2000, .inl F)), (a3, .inl (z3, 2000, .inl G)), (a4, .inl (z4, 2000, .inl L)), (a5, .inl (z5, 2001, .inl S))] H := hP
    have hD : va_D A [(x, .inr (0, [.ref a1, .ref a2, .ref a3, .ref a4, .ref a5, .int (nI mo), .int (nI q), .int (nI cl), .int (nI ac), .int st])), (a1, .inl (z1, 2000, .inl T)), (a2, .inl (z2, 2000, .inl F)), (a3, .inl (z3, 2000, .inl G)), (a4, .inl (z4, 2000, .inl L)), (a5, .inl (z5, 2001, .inl S))] := hD
    refine lv_iconst (v := 1) hx hb dX0_first_21 (by decide) ?_
    exact W.zret (v := 1) hx hb hr rfl (fun t ht hW => ⟨⟨1, _, rfl, Or.inl ⟨hc, rfl, q, hq, e1, e2, e3, rfl⟩, by rw [ht]; exact hP, va_K.moved hW.alike hK, hD⟩, hS.F ht⟩) hS.2.2 dX0_first_22
  · have hc : ¬ (sr_isS px py pz) := by
      rcases er with ⟨q, _⟩ | ⟨_, q⟩
      · exact absurd (q.symm.trans c1) (by decide)
      · exact q
    refine lv_iconst (v := 0) hx hb dX0_first_9 (by decide) ?_
    exact W.zret (v := 0) hx hb hr rfl (fun t ht hW => ⟨⟨0, _, rfl, Or.inr ⟨hc, rfl, rfl⟩, by rw [ht]; exact hP, va_K.moved hW.alike hK, hD⟩, hS.F ht⟩) hS.2.2 dX0_first_10
set_option maxHeartbeats 4000000 in
set_option maxRecDepth 100000 in
theorem c_X0_last (l : Launch) (dC : Nat → ClassId) (dI : Nat → Nat → Nat) (x a1 a2 a3 a4 a5 : Nat) (z1 z2 z3 z4 z5 : ClassId) (sz : Nat) (mo cf cl ac : Nat) (st : Int32) (T F G L S : Nat → Int32) (px py pz : Int32) : Met l yX0_last wsX0_last ({ frames := 2, cells := 0, slots := 0, locals := 44 }) (sr_pre dC dI (sr_tX z1 z2 z3 z4 z5) (sr_wX x a1 a2 a3 a4 a5 z1 z2 z3 z4 z5 mo cf cl ac st T F G L S) sz [.ref x, .int px, .int py, .int pz]) (va_Qi (fun (r : Int32) (u : va_W) => (sr_isS px py pz ∧ r = 1 ∧ ∃ q, sr_ok q ∧ px = sr_dg q 0 ∧ py = sr_dg q 1 ∧ pz = sr_dg q 2 ∧ u = sr_wX x a1 a2 a3 a4 a5 z1 z2 z3 z4 z5 mo cf q ac st T F G L S) ∨ (¬ sr_isS px py pz ∧ r = 0 ∧ u = sr_wX x a1 a2 a3 a4 a5 z1 z2 z3 z4 z5 mo cf cl ac st T F G L S)) (sr_at dC dI (sr_tX z1 z2 z3 z4 z5) (va_A (sr_wX x a1 a2 a3 a4 a5 z1 z2 z3 z4 z5 mo cf cl ac st T F G L S) sz)) (va_A (sr_wX x a1 a2 a3 a4 a5 z1 z2 z3 z4 z5 mo cf cl ac st T F G L S) sz)) 0 0 (va_A (sr_wX x a1 a2 a3 a4 a5 z1 z2 z3 z4 z5 mo cf cl ac st T F G L S) sz) := by
  refine Met.ofW (cc := cX0_last) (maxL := 4) (ret := (some .boolean)) (by decide) rfl ?_
  intro p e s m args below meth c s₁ B hml hv
  obtain ⟨rfl, hsz, hP, hK, hD0⟩ := hv
  have hx := B.exec
  have hb := B.bytes
  have hr := B.returns
  have hts := atoms_spec (ws := wsX0_last) B.pre
  have hown : s.vm.findClass RX0 = some m.cls := findClass_of_methodNamed B.named
  have hlocks := B.notSynchronized
  subst hsz
  have hD := hD0.self (sz := s.heap.size)
  generalize hAe : va_A (sr_wX x a1 a2 a3 a4 a5 z1 z2 z3 z4 z5 mo cf cl ac st T F G L S) s.heap.size = A at hD ⊢
  have hA : ∀ q : Nat, s.heap.size ≤ q → A q := fun q h => by rw [← hAe]; exact Or.inr h
  have hS : va_S A s.heap s.heap [] := va_S.rf
  have hP : va_P (dC, dI) vwCl [(x, .inr (0, [.ref a1, .ref a2, .ref a3, .ref a4, .ref a5, .int (nI mo), .int (nI cf), .int (nI cl), .int (nI ac), .int st])), (a1, .inl (z1, 2000, .inl T)), (a2, .inl (z2, 2000, .inl F)), (a3, .inl (z3, 2000, .inl G)), (a4, .inl (z4, 2000, .inl L)), (a5, .inl (z5, 2001, .inl S))] s.heap := hP
  have hD : va_D A [(x, .inr (0, [.ref a1, .ref a2, .ref a3, .ref a4, .ref a5, .int (nI mo), .int (nI cf), .int (nI cl), .int (nI ac), .int st])), (a1, .inl (z1, 2000, .inl T)), (a2, .inl (z2, 2000, .inl F)), (a3, .inl (z3, 2000, .inl G)), (a4, .inl (z4, 2000, .inl L)), (a5, .inl (z5, 2001, .inl S))] := hD
  have hK : va_K (dC, dI) vwCl [(z1, .int), (z2, .int), (z3, .int), (z4, .int), (z5, .int)] s := hK
  have hin0 : ∀ w ∈ u_ws RX0 TX0 10, w ∈ wsX0_last := by decide +kernel
  have hl := lv_entry ([.ref x, .int px, .int py, .int pz]) (n := 4) (Nat.le_of_ble_eq_true rfl)
  rw [lg_entry_eq]
  generalize (lg_sl ([.ref x, .int px, .int py, .int pz]) ++ List.replicate (4 - (lg_sl ([.ref x, .int px, .int py, .int pz])).length) Slot.unset).toArray = ls at hl ⊢
  have hl : lv_has ls 4 [(0, .ref x), (1, .int px), (2, .int py), (3, .int pz)] := hl
  refine lv_iload_n hx hb dX0_last_0 rfl (lv_at hl 1 rfl) ?_
  refine lv_iload_n hx hb dX0_last_1 rfl (lv_at hl 2 rfl) ?_
  refine lv_iload_n hx hb dX0_last_2 rfl (lv_at hl 3 rfl) ?_
  refine vp_callSi (W.runS (As := [.int px, .int py, .int pz]) (rest := []) ⟨hx, hb, hml, hown, hts⟩ (c_X0_isStep l px py pz) (va_cwS 3 hts gX0_last_X0_isStep rfl rfl rfl (by decide +kernel) ⟨Nat.le_of_ble_eq_true rfl, Nat.le_of_ble_eq_true rfl⟩) ⟨sr_blindT, sr_mkT⟩ rfl rfl hl.1 rfl (lv_room (Nat.le_of_ble_eq_true rfl)) dX0_last_3 ⟨Nat.zero_le _, Nat.zero_le _⟩) (fun r er => ?_)
  refine lv_if_ne (tgt := 11) hx hb dX0_last_6 (by decide) (fun c1 => ?_) (fun c1 => ?_)
  · have hc : sr_isS px py pz := by
      rcases er with ⟨_, q⟩ | ⟨q, _⟩
      · exact q
      · exact absurd q c1
    obtain ⟨q, hq, e1, e2, e3⟩ := sr_step hc
    refine lv_aload_n hx hb dX0_last_11 rfl (lv_at hl 0 rfl) ?_
    refine lv_iload_n hx hb dX0_last_12 rfl (lv_at hl 1 rfl) ?_
    refine lv_iload_n hx hb dX0_last_13 rfl (lv_at hl 2 rfl) ?_
    refine lv_iload_n hx hb dX0_last_14 rfl (lv_at hl 3 rfl) ?_
    refine vp_callSi (W.runS (As := [.int px, .int py, .int pz]) (rest := [.ref x]) ⟨hx, hb, hml, hown, hts⟩ (c_X0_packed l px py pz) (va_cwS 3 hts gX0_last_X0_packed rfl rfl rfl (by decide +kernel) ⟨Nat.le_of_ble_eq_true rfl, Nat.le_of_ble_eq_true rfl⟩) ⟨sr_blindT, sr_mkT⟩ rfl rfl hl.1 rfl (lv_room (Nat.le_of_ble_eq_true rfl)) dX0_last_15 ⟨Nat.zero_le _, Nat.zero_le _⟩) (fun r2 e4 => ?_)
    refine sr_ti (y := nI q) (by rw [e4, e1, e2, e3]; exact sr_dg_pack q hq.1) ?_
    refine va_put (D := (dC, dI)) (ci := 0) (v := .int (nI q)) (ty := .int) (C := RX0) (T := TX0) (N := 10) hx hb hts hin0 tyX0 tyX0_ok nmX0 hown hK hP hD hS 0 rfl rfl 7 (by decide) (hts (.fieldLink RX0 36 "SpeedRows" "nextLast" "I") (by decide +kernel)) (fun _ h9 => h9) rfl (by decide +kernel) rfl rfl (Nat.le_of_ble_eq_true rfl) dX0_last_18 (fun H locs hP hD hS => ?_)
    have hP : va_P (dC, dI) vwCl [(x, .inr (0, [.ref a1, .ref a2, .ref a3, .ref a4, .ref a5, .int (nI mo), .int (nI cf), .int (nI q), .int (nI ac), .int st])), (a1, .inl (z1, 2000, .inl T)), (a2, .inl (z2, 2000, .inl F)), (a3, .inl (z3, 2000, .inl G)), (a4, .inl (z4, 2000, .inl L)), (a5, .inl (z5, 2001, .inl S))] H := hP
    have hD : va_D A [(x, .inr (0, [.ref a1, .ref a2, .ref a3, .ref a4, .ref a5, .int (nI mo), .int (nI cf), .int (nI q), .int (nI ac), .int st])), (a1, .inl (z1, 2000, .inl T)), (a2, .inl (z2, 2000, .inl F)), (a3, .inl (z3, 2000, .inl G)), (a4, .inl (z4, 2000, .inl L)), (a5, .inl (z5, 2001, .inl S))] := hD
    refine lv_iconst (v := 1) hx hb dX0_last_21 (by decide) ?_
    exact W.zret (v := 1) hx hb hr rfl (fun t ht hW => ⟨⟨1, _, rfl, Or.inl ⟨hc, rfl, q, hq, e1, e2, e3, rfl⟩, by rw [ht]; exact hP, va_K.moved hW.alike hK, hD⟩, hS.F ht⟩) hS.2.2 dX0_last_22
  · have hc : ¬ (sr_isS px py pz) := by
      rcases er with ⟨q, _⟩ | ⟨_, q⟩
      · exact absurd (q.symm.trans c1) (by decide)
      · exact q
    refine lv_iconst (v := 0) hx hb dX0_last_9 (by decide) ?_
    exact W.zret (v := 0) hx hb hr rfl (fun t ht hW => ⟨⟨0, _, rfl, Or.inr ⟨hc, rfl, rfl⟩, by rw [ht]; exact hP, va_K.moved hW.alike hK, hD⟩, hS.F ht⟩) hS.2.2 dX0_last_10
set_option maxHeartbeats 4000000 in
set_option maxRecDepth 100000 in
theorem c_X0_back (l : Launch) (dC : Nat → ClassId) (dI : Nat → Nat → Nat) (x a1 a2 a3 a4 a5 : Nat) (z1 z2 z3 z4 z5 : ClassId) (sz : Nat) (mo cf cl ac : Nat) (st : Int32) (T F G L S : Nat → Int32) (n : Int32) (hmo : mo ≤ 2000) : Met l yX0_back wsX0_back ({ frames := 1, cells := 0, slots := 0, locals := 22 }) (sr_pre dC dI (sr_tX z1 z2 z3 z4 z5) (sr_wX x a1 a2 a3 a4 a5 z1 z2 z3 z4 z5 mo cf cl ac st T F G L S) sz [.ref x, .int n]) (va_Qi (fun (r : Int32) (u : va_W) => ((0 ≤ n ∧ n ≤ nI mo) ∧ r = nI (mo - n.toNatClampNeg) ∧ u = sr_wX x a1 a2 a3 a4 a5 z1 z2 z3 z4 z5 (mo - n.toNatClampNeg) cf cl ac 0 T F G L S) ∨ (¬ (0 ≤ n ∧ n ≤ nI mo) ∧ r = -1 ∧ u = sr_wX x a1 a2 a3 a4 a5 z1 z2 z3 z4 z5 mo cf cl ac st T F G L S)) (sr_at dC dI (sr_tX z1 z2 z3 z4 z5) (va_A (sr_wX x a1 a2 a3 a4 a5 z1 z2 z3 z4 z5 mo cf cl ac st T F G L S) sz)) (va_A (sr_wX x a1 a2 a3 a4 a5 z1 z2 z3 z4 z5 mo cf cl ac st T F G L S) sz)) 0 0 (va_A (sr_wX x a1 a2 a3 a4 a5 z1 z2 z3 z4 z5 mo cf cl ac st T F G L S) sz) := by
  refine Met.ofW (cc := cX0_back) (maxL := 2) (ret := (some .int)) (by decide) rfl ?_
  intro p e s m args below meth c s₁ B hml hv
  obtain ⟨rfl, hsz, hP, hK, hD0⟩ := hv
  have hx := B.exec
  have hb := B.bytes
  have hr := B.returns
  have hts := atoms_spec (ws := wsX0_back) B.pre
  have hown : s.vm.findClass RX0 = some m.cls := findClass_of_methodNamed B.named
  have hlocks := B.notSynchronized
  subst hsz
  have hD := hD0.self (sz := s.heap.size)
  generalize hAe : va_A (sr_wX x a1 a2 a3 a4 a5 z1 z2 z3 z4 z5 mo cf cl ac st T F G L S) s.heap.size = A at hD ⊢
  have hA : ∀ q : Nat, s.heap.size ≤ q → A q := fun q h => by rw [← hAe]; exact Or.inr h
  have hS : va_S A s.heap s.heap [] := va_S.rf
  have hP : va_P (dC, dI) vwCl [(x, .inr (0, [.ref a1, .ref a2, .ref a3, .ref a4, .ref a5, .int (nI mo), .int (nI cf), .int (nI cl), .int (nI ac), .int st])), (a1, .inl (z1, 2000, .inl T)), (a2, .inl (z2, 2000, .inl F)), (a3, .inl (z3, 2000, .inl G)), (a4, .inl (z4, 2000, .inl L)), (a5, .inl (z5, 2001, .inl S))] s.heap := hP
  have hD : va_D A [(x, .inr (0, [.ref a1, .ref a2, .ref a3, .ref a4, .ref a5, .int (nI mo), .int (nI cf), .int (nI cl), .int (nI ac), .int st])), (a1, .inl (z1, 2000, .inl T)), (a2, .inl (z2, 2000, .inl F)), (a3, .inl (z3, 2000, .inl G)), (a4, .inl (z4, 2000, .inl L)), (a5, .inl (z5, 2001, .inl S))] := hD
  have hK : va_K (dC, dI) vwCl [(z1, .int), (z2, .int), (z3, .int), (z4, .int), (z5, .int)] s := hK
  have hin0 : ∀ w ∈ u_ws RX0 TX0 10, w ∈ wsX0_back := by decide +kernel
  have hl := lv_entry ([.ref x, .int n]) (n := 2) (Nat.le_of_ble_eq_true rfl)
  rw [lg_entry_eq]
  generalize (lg_sl ([.ref x, .int n]) ++ List.replicate (2 - (lg_sl ([.ref x, .int n])).length) Slot.unset).toArray = ls at hl ⊢
  have hl : lv_has ls 2 [(0, .ref x), (1, .int n)] := hl
  refine lv_iload_n hx hb dX0_back_0 rfl (lv_at hl 1 rfl) ?_
  refine lv_iconst (v := 0) hx hb dX0_back_1 (by decide) ?_
  refine lv_aload_n hx hb dX0_back_2 rfl (lv_at hl 0 rfl) ?_
  refine va_get (D := (dC, dI)) (ci := 0) (v := .int (nI mo)) (C := RX0) (T := TX0) (N := 10) hx hb hts hin0 hown hK hP 0 rfl rfl 5 (by decide) (hts (.fieldLink RX0 25 "SpeedRows" "moves" "I") (by decide +kernel)) (fun _ h9 => h9) rfl dX0_back_3 ?_
  refine vp_callSi (W.runS (As := [.int n, .int 0, .int (nI mo)]) (rest := []) ⟨hx, hb, hml, hown, hts⟩ (c_X0_isWithin l n 0 (nI mo)) (va_cwS 3 hts gX0_back_X0_isWithin rfl rfl rfl (by decide +kernel) ⟨Nat.le_of_ble_eq_true rfl, Nat.le_of_ble_eq_true rfl⟩) ⟨sr_blindT, sr_mkT⟩ rfl rfl hl.1 rfl (lv_room (Nat.le_of_ble_eq_true rfl)) dX0_back_6 ⟨Nat.zero_le _, Nat.zero_le _⟩) (fun r er => ?_)
  refine lv_if_ne (tgt := 14) hx hb dX0_back_9 (by decide) (fun c1 => ?_) (fun c1 => ?_)
  · have hc : 0 ≤ n ∧ n ≤ nI mo := by
      rcases er with ⟨_, q⟩ | ⟨q, _⟩
      · exact q
      · exact absurd q c1
    obtain ⟨j, hj, rfl⟩ : ∃ j, j ≤ mo ∧ n = nI j := nI_of2 (nI_toInt (by omega)) (Int32.not_lt.mpr hc.1) hc.2
    refine lv_aload_n hx hb dX0_back_14 rfl (lv_at hl 0 rfl) ?_
    refine lv_dup hx hb dX0_back_15 rfl ?_
    refine va_get (D := (dC, dI)) (ci := 0) (v := .int (nI mo)) (C := RX0) (T := TX0) (N := 10) hx hb hts hin0 hown hK hP 0 rfl rfl 5 (by decide) (hts (.fieldLink RX0 25 "SpeedRows" "moves" "I") (by decide +kernel)) (fun _ h9 => h9) rfl dX0_back_16 ?_
    refine lv_iload_n hx hb dX0_back_19 rfl (lv_at hl 1 rfl) ?_
    refine lv_isub hx hb dX0_back_20 ?_
    refine sr_ti (y := nI (mo - j)) (pk_sub (by omega)) ?_
    refine va_put (D := (dC, dI)) (ci := 0) (v := .int (nI (mo - j))) (ty := .int) (C := RX0) (T := TX0) (N := 10) hx hb hts hin0 tyX0 tyX0_ok nmX0 hown hK hP hD hS 0 rfl rfl 5 (by decide) (hts (.fieldLink RX0 25 "SpeedRows" "moves" "I") (by decide +kernel)) (fun _ h9 => h9) rfl (by decide +kernel) rfl rfl (Nat.le_of_ble_eq_true rfl) dX0_back_21 (fun H locs hP hD hS => ?_)
    have hP : va_P (dC, dI) vwCl [(x, .inr (0, [.ref a1, .ref a2, .ref a3, .ref a4, .ref a5, .int (nI (mo - j)), .int (nI cf), .int (nI cl), .int (nI ac), .int st])), (a1, .inl (z1, 2000, .inl T)), (a2, .inl (z2, 2000, .inl F)), (a3, .inl (z3, 2000, .inl G)), (a4, .inl (z4, 2000, .inl L)), (a5, .inl (z5, 2001, .inl S))] H := hP
    have hD : va_D A [(x, .inr (0, [.ref a1, .ref a2, .ref a3, .ref a4, .ref a5, .int (nI (mo - j)), .int (nI cf), .int (nI cl), .int (nI ac), .int st])), (a1, .inl (z1, 2000, .inl T)), (a2, .inl (z2, 2000, .inl F)), (a3, .inl (z3, 2000, .inl G)), (a4, .inl (z4, 2000, .inl L)), (a5, .inl (z5, 2001, .inl S))] := hD
    refine lv_aload_n hx hb dX0_back_24 rfl (lv_at hl 0 rfl) ?_
    refine lv_iconst (v := 0) hx hb dX0_back_25 (by decide) ?_
    refine va_put (D := (dC, dI)) (ci := 0) (v := .int 0) (ty := .boolean) (C := RX0) (T := TX0) (N := 10) hx hb hts hin0 tyX0 tyX0_ok nmX0 hown hK hP hD hS 0 rfl rfl 9 (by decide) (hts (.fieldLink RX0 42 "SpeedRows" "speedsStand" "Z") (by decide +kernel)) (fun _ h9 => h9) rfl (by decide +kernel) rfl rfl (Nat.le_of_ble_eq_true rfl) dX0_back_26 (fun H locs hP hD hS => ?_)
    have hP : va_P (dC, dI) vwCl [(x, .inr (0, [.ref a1, .ref a2, .ref a3, .ref a4, .ref a5, .int (nI (mo - j)), .int (nI cf), .int (nI cl), .int (nI ac), .int 0])), (a1, .inl (z1, 2000, .inl T)), (a2, .inl (z2, 2000, .inl F)), (a3, .inl (z3, 2000, .inl G)), (a4, .inl (z4, 2000, .inl L)), (a5, .inl (z5, 2001, .inl S))] H := hP
    have hD : va_D A [(x, .inr (0, [.ref a1, .ref a2, .ref a3, .ref a4, .ref a5, .int (nI (mo - j)), .int (nI cf), .int (nI cl), .int (nI ac), .int 0])), (a1, .inl (z1, 2000, .inl T)), (a2, .inl (z2, 2000, .inl F)), (a3, .inl (z3, 2000, .inl G)), (a4, .inl (z4, 2000, .inl L)), (a5, .inl (z5, 2001, .inl S))] := hD
    refine lv_aload_n hx hb dX0_back_29 rfl (lv_at hl 0 rfl) ?_
    refine va_get (D := (dC, dI)) (ci := 0) (v := .int (nI (mo - j))) (C := RX0) (T := TX0) (N := 10) hx hb hts hin0 hown hK hP 0 rfl rfl 5 (by decide) (hts (.fieldLink RX0 25 "SpeedRows" "moves" "I") (by decide +kernel)) (fun _ h9 => h9) rfl dX0_back_30 ?_
    exact W.iret (v := nI (mo - j)) hx hb hr (fun t ht hW => ⟨⟨nI (mo - j), _, rfl, Or.inl ⟨hc, by rw [nI_clamp (by omega)], by rw [nI_clamp (by omega)]⟩, by rw [ht]; exact hP, va_K.moved hW.alike hK, hD⟩, hS.F ht⟩) hS.2.2 dX0_back_33
  · have hc : ¬ (0 ≤ n ∧ n ≤ nI mo) := by
      rcases er with ⟨q, _⟩ | ⟨_, q⟩
      · exact absurd (q.symm.trans c1) (by decide)
      · exact q
    refine lv_iconst (v := (-1)) hx hb dX0_back_12 (by decide) ?_
    exact W.iret (v := (-1)) hx hb hr (fun t ht hW => ⟨⟨(-1), _, rfl, Or.inr ⟨hc, rfl, rfl⟩, by rw [ht]; exact hP, va_K.moved hW.alike hK, hD⟩, hS.F ht⟩) hS.2.2 dX0_back_13
set_option maxHeartbeats 4000000 in
set_option maxRecDepth 100000 in
theorem c_X0_acceleration (l : Launch) (dC : Nat → ClassId) (dI : Nat → Nat → Nat) (x a1 a2 a3 a4 a5 : Nat) (z1 z2 z3 z4 z5 : ClassId) (sz : Nat) (mo cf cl ac : Nat) (st : Int32) (T F G L S : Nat → Int32) (a : Int32) : Met l yX0_acceleration wsX0_acceleration ({ frames := 1, cells := 0, slots := 0, locals := 22 }) (sr_pre dC dI (sr_tX z1 z2 z3 z4 z5) (sr_wX x a1 a2 a3 a4 a5 z1 z2 z3 z4 z5 mo cf cl ac st T F G L S) sz [.ref x, .int a]) (va_Qi (fun (r : Int32) (u : va_W) => ((1 ≤ a ∧ a ≤ 10000) ∧ r = 1 ∧ u = sr_wX x a1 a2 a3 a4 a5 z1 z2 z3 z4 z5 mo cf cl a.toNatClampNeg 0 T F G L S) ∨ (¬ (1 ≤ a ∧ a ≤ 10000) ∧ r = 0 ∧ u = sr_wX x a1 a2 a3 a4 a5 z1 z2 z3 z4 z5 mo cf cl ac st T F G L S)) (sr_at dC dI (sr_tX z1 z2 z3 z4 z5) (va_A (sr_wX x a1 a2 a3 a4 a5 z1 z2 z3 z4 z5 mo cf cl ac st T F G L S) sz)) (va_A (sr_wX x a1 a2 a3 a4 a5 z1 z2 z3 z4 z5 mo cf cl ac st T F G L S) sz)) 0 0 (va_A (sr_wX x a1 a2 a3 a4 a5 z1 z2 z3 z4 z5 mo cf cl ac st T F G L S) sz) := by
  refine Met.ofW (cc := cX0_acceleration) (maxL := 2) (ret := (some .boolean)) (by decide) rfl ?_
  intro p e s m args below meth c s₁ B hml hv
  obtain ⟨rfl, hsz, hP, hK, hD0⟩ := hv
  have hx := B.exec
  have hb := B.bytes
  have hr := B.returns
  have hts := atoms_spec (ws := wsX0_acceleration) B.pre
  have hown : s.vm.findClass RX0 = some m.cls := findClass_of_methodNamed B.named
  have hlocks := B.notSynchronized
  subst hsz
  have hD := hD0.self (sz := s.heap.size)
  generalize hAe : va_A (sr_wX x a1 a2 a3 a4 a5 z1 z2 z3 z4 z5 mo cf cl ac st T F G L S) s.heap.size = A at hD ⊢
  have hA : ∀ q : Nat, s.heap.size ≤ q → A q := fun q h => by rw [← hAe]; exact Or.inr h
  have hS : va_S A s.heap s.heap [] := va_S.rf
  have hP : va_P (dC, dI) vwCl [(x, .inr (0, [.ref a1, .ref a2, .ref a3, .ref a4, .ref a5, .int (nI mo), .int (nI cf), .int (nI cl), .int (nI ac), .int st])), (a1, .inl (z1, 2000, .inl T)), (a2, .inl (z2, 2000, .inl F)), (a3, .inl (z3, 2000, .inl G)), (a4, .inl (z4, 2000, .inl L)), (a5, .inl (z5, 2001, .inl S))] s.heap := hP
  have hD : va_D A [(x, .inr (0, [.ref a1, .ref a2, .ref a3, .ref a4, .ref a5, .int (nI mo), .int (nI cf), .int (nI cl), .int (nI ac), .int st])), (a1, .inl (z1, 2000, .inl T)), (a2, .inl (z2, 2000, .inl F)), (a3, .inl (z3, 2000, .inl G)), (a4, .inl (z4, 2000, .inl L)), (a5, .inl (z5, 2001, .inl S))] := hD
  have hK : va_K (dC, dI) vwCl [(z1, .int), (z2, .int), (z3, .int), (z4, .int), (z5, .int)] s := hK
  have hin0 : ∀ w ∈ u_ws RX0 TX0 10, w ∈ wsX0_acceleration := by decide +kernel
  have hl := lv_entry ([.ref x, .int a]) (n := 2) (Nat.le_of_ble_eq_true rfl)
  rw [lg_entry_eq]
  generalize (lg_sl ([.ref x, .int a]) ++ List.replicate (2 - (lg_sl ([.ref x, .int a])).length) Slot.unset).toArray = ls at hl ⊢
  have hl : lv_has ls 2 [(0, .ref x), (1, .int a)] := hl
  refine lv_iload_n hx hb dX0_acceleration_0 rfl (lv_at hl 1 rfl) ?_
  refine lv_iconst (v := 1) hx hb dX0_acceleration_1 (by decide) ?_
  refine lv_sipush (v := 10000) hx hb dX0_acceleration_2 (by decide) ?_
  refine vp_callSi (W.runS (As := [.int a, .int 1, .int 10000]) (rest := []) ⟨hx, hb, hml, hown, hts⟩ (c_X0_isWithin l a 1 10000) (va_cwS 3 hts gX0_acceleration_X0_isWithin rfl rfl rfl (by decide +kernel) ⟨Nat.le_of_ble_eq_true rfl, Nat.le_of_ble_eq_true rfl⟩) ⟨sr_blindT, sr_mkT⟩ rfl rfl hl.1 rfl (lv_room (Nat.le_of_ble_eq_true rfl)) dX0_acceleration_5 ⟨Nat.zero_le _, Nat.zero_le _⟩) (fun r er => ?_)
  refine lv_if_ne (tgt := 13) hx hb dX0_acceleration_8 (by decide) (fun c1 => ?_) (fun c1 => ?_)
  · have hc : 1 ≤ a ∧ a ≤ 10000 := by
      rcases er with ⟨_, q⟩ | ⟨q, _⟩
      · exact q
      · exact absurd q c1
    obtain ⟨j, hj, rfl⟩ : ∃ j, j ≤ 10000 ∧ a = nI j := nI_of2 (M := 10000) (by decide) (fun q => absurd (Int32.lt_of_lt_of_le q (by decide : (0 : Int32) ≤ 1)) (Int32.not_lt.mpr hc.1)) hc.2
    refine lv_aload_n hx hb dX0_acceleration_13 rfl (lv_at hl 0 rfl) ?_
    refine lv_iload_n hx hb dX0_acceleration_14 rfl (lv_at hl 1 rfl) ?_
    refine va_put (D := (dC, dI)) (ci := 0) (v := .int (nI j)) (ty := .int) (C := RX0) (T := TX0) (N := 10) hx hb hts hin0 tyX0 tyX0_ok nmX0 hown hK hP hD hS 0 rfl rfl 8 (by decide) (hts (.fieldLink RX0 39 "SpeedRows" "rate" "I") (by decide +kernel)) (fun _ h9 => h9) rfl (by decide +kernel) rfl rfl (Nat.le_of_ble_eq_true rfl) dX0_acceleration_15 (fun H locs hP hD hS => ?_)
    have hP : va_P (dC, dI) vwCl [(x, .inr (0, [.ref a1, .ref a2, .ref a3, .ref a4, .ref a5, .int (nI mo), .int (nI cf), .int (nI cl), .int (nI j), .int st])), (a1, .inl (z1, 2000, .inl T)), (a2, .inl (z2, 2000, .inl F)), (a3, .inl (z3, 2000, .inl G)), (a4, .inl (z4, 2000, .inl L)), (a5, .inl (z5, 2001, .inl S))] H := hP
    have hD : va_D A [(x, .inr (0, [.ref a1, .ref a2, .ref a3, .ref a4, .ref a5, .int (nI mo), .int (nI cf), .int (nI cl), .int (nI j), .int st])), (a1, .inl (z1, 2000, .inl T)), (a2, .inl (z2, 2000, .inl F)), (a3, .inl (z3, 2000, .inl G)), (a4, .inl (z4, 2000, .inl L)), (a5, .inl (z5, 2001, .inl S))] := hD
    refine lv_aload_n hx hb dX0_acceleration_18 rfl (lv_at hl 0 rfl) ?_
    refine lv_iconst (v := 0) hx hb dX0_acceleration_19 (by decide) ?_
    refine va_put (D := (dC, dI)) (ci := 0) (v := .int 0) (ty := .boolean) (C := RX0) (T := TX0) (N := 10) hx hb hts hin0 tyX0 tyX0_ok nmX0 hown hK hP hD hS 0 rfl rfl 9 (by decide) (hts (.fieldLink RX0 42 "SpeedRows" "speedsStand" "Z") (by decide +kernel)) (fun _ h9 => h9) rfl (by decide +kernel) rfl rfl (Nat.le_of_ble_eq_true rfl) dX0_acceleration_20 (fun H locs hP hD hS => ?_)
    have hP : va_P (dC, dI) vwCl [(x, .inr (0, [.ref a1, .ref a2, .ref a3, .ref a4, .ref a5, .int (nI mo), .int (nI cf), .int (nI cl), .int (nI j), .int 0])), (a1, .inl (z1, 2000, .inl T)), (a2, .inl (z2, 2000, .inl F)), (a3, .inl (z3, 2000, .inl G)), (a4, .inl (z4, 2000, .inl L)), (a5, .inl (z5, 2001, .inl S))] H := hP
    have hD : va_D A [(x, .inr (0, [.ref a1, .ref a2, .ref a3, .ref a4, .ref a5, .int (nI mo), .int (nI cf), .int (nI cl), .int (nI j), .int 0])), (a1, .inl (z1, 2000, .inl T)), (a2, .inl (z2, 2000, .inl F)), (a3, .inl (z3, 2000, .inl G)), (a4, .inl (z4, 2000, .inl L)), (a5, .inl (z5, 2001, .inl S))] := hD
    refine lv_iconst (v := 1) hx hb dX0_acceleration_23 (by decide) ?_
    exact W.zret (v := 1) hx hb hr rfl (fun t ht hW => ⟨⟨1, _, rfl, Or.inl ⟨hc, rfl, by rw [nI_clamp (by omega)]⟩, by rw [ht]; exact hP, va_K.moved hW.alike hK, hD⟩, hS.F ht⟩) hS.2.2 dX0_acceleration_24
  · have hc : ¬ (1 ≤ a ∧ a ≤ 10000) := by
      rcases er with ⟨q, _⟩ | ⟨_, q⟩
      · exact absurd (q.symm.trans c1) (by decide)
      · exact q
    refine lv_iconst (v := 0) hx hb dX0_acceleration_11 (by decide) ?_
    exact W.zret (v := 0) hx hb hr rfl (fun t ht hW => ⟨⟨0, _, rfl, Or.inr ⟨hc, rfl, rfl⟩, by rw [ht]; exact hP, va_K.moved hW.alike hK, hD⟩, hS.F ht⟩) hS.2.2 dX0_acceleration_12
set_option maxHeartbeats 4000000 in
set_option maxRecDepth 100000 in
theorem c_X0_limit (l : Launch) (dC : Nat → ClassId) (dI : Nat → Nat → Nat) (x a1 a2 a3 a4 a5 : Nat) (z1 z2 z3 z4 z5 : ClassId) (sz : Nat) (mo cf cl ac : Nat) (st : Int32) (T F G L S : Nat → Int32) (k : Int32) (tk fd fs la : Nat → Nat) (hI : sr_XI mo tk fd fs la T F G L) (hmo : mo ≤ 2000) : Met l yX0_limit wsX0_limit ({ frames := 1, cells := 0, slots := 0, locals := 22 }) (sr_pre dC dI (sr_tX z1 z2 z3 z4 z5) (sr_wX x a1 a2 a3 a4 a5 z1 z2 z3 z4 z5 mo cf cl ac st T F G L S) sz [.ref x, .int k]) (va_Qi (fun (r : Int32) (u : va_W) => u = sr_wX x a1 a2 a3 a4 a5 z1 z2 z3 z4 z5 mo cf cl ac st T F G L S ∧ r = sr_an mo (sr_lim mo fd fs la) k) (sr_at dC dI (sr_tX z1 z2 z3 z4 z5) (va_A (sr_wX x a1 a2 a3 a4 a5 z1 z2 z3 z4 z5 mo cf cl ac st T F G L S) sz)) (va_A (sr_wX x a1 a2 a3 a4 a5 z1 z2 z3 z4 z5 mo cf cl ac st T F G L S) sz)) 0 0 (va_A (sr_wX x a1 a2 a3 a4 a5 z1 z2 z3 z4 z5 mo cf cl ac st T F G L S) sz) := by
  refine Met.ofW (cc := cX0_limit) (maxL := 2) (ret := (some .int)) (by decide) rfl ?_
  intro p e s m args below meth c s₁ B hml hv
  obtain ⟨rfl, hsz, hP, hK, hD0⟩ := hv
  have hx := B.exec
  have hb := B.bytes
  have hr := B.returns
  have hts := atoms_spec (ws := wsX0_limit) B.pre
  have hown : s.vm.findClass RX0 = some m.cls := findClass_of_methodNamed B.named
  have hlocks := B.notSynchronized
  subst hsz
  have hD := hD0.self (sz := s.heap.size)
  generalize hAe : va_A (sr_wX x a1 a2 a3 a4 a5 z1 z2 z3 z4 z5 mo cf cl ac st T F G L S) s.heap.size = A at hD ⊢
  have hA : ∀ q : Nat, s.heap.size ≤ q → A q := fun q h => by rw [← hAe]; exact Or.inr h
  have hS : va_S A s.heap s.heap [] := va_S.rf
  have hP : va_P (dC, dI) vwCl [(x, .inr (0, [.ref a1, .ref a2, .ref a3, .ref a4, .ref a5, .int (nI mo), .int (nI cf), .int (nI cl), .int (nI ac), .int st])), (a1, .inl (z1, 2000, .inl T)), (a2, .inl (z2, 2000, .inl F)), (a3, .inl (z3, 2000, .inl G)), (a4, .inl (z4, 2000, .inl L)), (a5, .inl (z5, 2001, .inl S))] s.heap := hP
  have hD : va_D A [(x, .inr (0, [.ref a1, .ref a2, .ref a3, .ref a4, .ref a5, .int (nI mo), .int (nI cf), .int (nI cl), .int (nI ac), .int st])), (a1, .inl (z1, 2000, .inl T)), (a2, .inl (z2, 2000, .inl F)), (a3, .inl (z3, 2000, .inl G)), (a4, .inl (z4, 2000, .inl L)), (a5, .inl (z5, 2001, .inl S))] := hD
  have hK : va_K (dC, dI) vwCl [(z1, .int), (z2, .int), (z3, .int), (z4, .int), (z5, .int)] s := hK
  have hin0 : ∀ w ∈ u_ws RX0 TX0 10, w ∈ wsX0_limit := by decide +kernel
  have hl := lv_entry ([.ref x, .int k]) (n := 2) (Nat.le_of_ble_eq_true rfl)
  rw [lg_entry_eq]
  generalize (lg_sl ([.ref x, .int k]) ++ List.replicate (2 - (lg_sl ([.ref x, .int k])).length) Slot.unset).toArray = ls at hl ⊢
  have hl : lv_has ls 2 [(0, .ref x), (1, .int k)] := hl
  refine lv_iload_n hx hb dX0_limit_0 rfl (lv_at hl 1 rfl) ?_
  refine lv_iconst (v := 0) hx hb dX0_limit_1 (by decide) ?_
  refine lv_aload_n hx hb dX0_limit_2 rfl (lv_at hl 0 rfl) ?_
  refine va_get (D := (dC, dI)) (ci := 0) (v := .int (nI mo)) (C := RX0) (T := TX0) (N := 10) hx hb hts hin0 hown hK hP 0 rfl rfl 5 (by decide) (hts (.fieldLink RX0 25 "SpeedRows" "moves" "I") (by decide +kernel)) (fun _ h9 => h9) rfl dX0_limit_3 ?_
  refine vp_callSi (W.runS (As := [.int k, .int 0, .int (nI mo)]) (rest := []) ⟨hx, hb, hml, hown, hts⟩ (c_X0_isWithin l k 0 (nI mo)) (va_cwS 3 hts gX0_limit_X0_isWithin rfl rfl rfl (by decide +kernel) ⟨Nat.le_of_ble_eq_true rfl, Nat.le_of_ble_eq_true rfl⟩) ⟨sr_blindT, sr_mkT⟩ rfl rfl hl.1 rfl (lv_room (Nat.le_of_ble_eq_true rfl)) dX0_limit_6 ⟨Nat.zero_le _, Nat.zero_le _⟩) (fun r er => ?_)
  refine lv_if_eq (tgt := 20) hx hb dX0_limit_9 (by decide) (fun c1 => ?_) (fun c1 => ?_)
  · have hc : ¬ (0 ≤ k ∧ k ≤ nI mo) := by
      rcases er with ⟨q, _⟩ | ⟨_, q⟩
      · exact absurd (q.symm.trans c1) (by decide)
      · exact q
    refine lv_iconst (v := (-1)) hx hb dX0_limit_20 (by decide) ?_
    exact W.iret (v := (-1)) hx hb hr (fun t ht hW => ⟨⟨(-1), _, rfl, ⟨rfl, by rw [sr_an, if_neg hc]⟩, by rw [ht]; exact hP, va_K.moved hW.alike hK, hD⟩, hS.F ht⟩) hS.2.2 dX0_limit_21
  · have hc : 0 ≤ k ∧ k ≤ nI mo := by
      rcases er with ⟨_, q⟩ | ⟨q, _⟩
      · exact q
      · exact absurd q c1
    obtain ⟨j, hj, rfl⟩ : ∃ j, j ≤ mo ∧ k = nI j := nI_of2 (nI_toInt (by omega)) (Int32.not_lt.mpr hc.1) hc.2
    refine lv_aload_n hx hb dX0_limit_12 rfl (lv_at hl 0 rfl) ?_
    refine lv_iload_n hx hb dX0_limit_13 rfl (lv_at hl 1 rfl) ?_
    have hPc := hP.sub (ws' := [(x, .inr (0, [.ref a1, .ref a2, .ref a3, .ref a4, .ref a5, .int (nI mo), .int (nI cf), .int (nI cl), .int (nI ac), .int st])), (a1, .inl (z1, 2000, .inl T)), (a2, .inl (z2, 2000, .inl F)), (a3, .inl (z3, 2000, .inl G)), (a4, .inl (z4, 2000, .inl L)), (a5, .inl (z5, 2001, .inl S))]) [0, 1, 2, 3, 4, 5] rfl
    have hDc := hD.sub (ws' := [(x, .inr (0, [.ref a1, .ref a2, .ref a3, .ref a4, .ref a5, .int (nI mo), .int (nI cf), .int (nI cl), .int (nI ac), .int st])), (a1, .inl (z1, 2000, .inl T)), (a2, .inl (z2, 2000, .inl F)), (a3, .inl (z3, 2000, .inl G)), (a4, .inl (z4, 2000, .inl L)), (a5, .inl (z5, 2001, .inl S))]) [0, 1, 2, 3, 4, 5] (by decide) rfl
    have hKc := hK.sub (tys' := [(z1, .int), (z2, .int), (z3, .int), (z4, .int), (z5, .int)]) [0, 1, 2, 3, 4] rfl
    have hFc := va_free (wc := [(x, .inr (0, [.ref a1, .ref a2, .ref a3, .ref a4, .ref a5, .int (nI mo), .int (nI cf), .int (nI cl), .int (nI ac), .int st])), (a1, .inl (z1, 2000, .inl T)), (a2, .inl (z2, 2000, .inl F)), (a3, .inl (z3, 2000, .inl G)), (a4, .inl (z4, 2000, .inl L)), (a5, .inl (z5, 2001, .inl S))]) hD hS hA [0, 1, 2, 3, 4, 5] rfl
    refine va_calli (va_runV (As := [.int (nI j)]) (rest := []) ⟨hx, hb, hml, hown, hts⟩ (c_X0_limitAt l dC dI x a1 a2 a3 a4 a5 z1 z2 z3 z4 z5 s.heap.size mo cf cl ac st T F G L S tk fd fs la j hI hmo (by omega)) (cwV 1 hts gX0_limit_X0_limitAt rfl rfl rfl (by decide +kernel) ⟨Nat.le_of_ble_eq_true rfl, Nat.le_of_ble_eq_true rfl⟩) ⟨sr_blind, va_recv hKc hPc (ci := 0) (q0 := 0) rfl rfl, sr_mk hPc hKc hDc⟩ rfl rfl hl.1 rfl (lv_room (Nat.le_of_ble_eq_true rfl)) dX0_limit_14 ⟨Nat.zero_le _, Nat.zero_le _⟩) hS (fun q _ h => hFc q h) hFc (fun r1 u t H1 locs ht hvm hw hB hz1 hk1 hS => ?_)
    obtain ⟨hP1, hK1, hD1⟩ := hB
    rw [ht] at hP1
    obtain ⟨rfl, rfl⟩ := hw
    obtain ⟨hP, hD⟩ := va_join (wr := []) (w1 := [(x, .inr (0, [.ref a1, .ref a2, .ref a3, .ref a4, .ref a5, .int (nI mo), .int (nI cf), .int (nI cl), .int (nI ac), .int st])), (a1, .inl (z1, 2000, .inl T)), (a2, .inl (z2, 2000, .inl F)), (a3, .inl (z3, 2000, .inl G)), (a4, .inl (z4, 2000, .inl L)), (a5, .inl (z5, 2001, .inl S))]) hP hD [0, 1, 2, 3, 4, 5] [] rfl rfl (by decide) (by decide) hk1 hFc hP1 hD1
    generalize H1 = H at hP hS ⊢
    have hP : va_P (dC, dI) vwCl [(x, .inr (0, [.ref a1, .ref a2, .ref a3, .ref a4, .ref a5, .int (nI mo), .int (nI cf), .int (nI cl), .int (nI ac), .int st])), (a1, .inl (z1, 2000, .inl T)), (a2, .inl (z2, 2000, .inl F)), (a3, .inl (z3, 2000, .inl G)), (a4, .inl (z4, 2000, .inl L)), (a5, .inl (z5, 2001, .inl S))] H := hP
    have hD : va_D A [(x, .inr (0, [.ref a1, .ref a2, .ref a3, .ref a4, .ref a5, .int (nI mo), .int (nI cf), .int (nI cl), .int (nI ac), .int st])), (a1, .inl (z1, 2000, .inl T)), (a2, .inl (z2, 2000, .inl F)), (a3, .inl (z3, 2000, .inl G)), (a4, .inl (z4, 2000, .inl L)), (a5, .inl (z5, 2001, .inl S))] := hD
    refine lv_goto (tgt := 21) hx hb dX0_limit_17 (by decide) ?_
    exact W.iret (v := nI (sr_lim mo fd fs la j)) hx hb hr (fun t ht hW => ⟨⟨nI (sr_lim mo fd fs la j), _, rfl, ⟨rfl, by rw [sr_an, if_pos hc, nI_clamp (by omega)]⟩, by rw [ht]; exact hP, va_K.moved hW.alike hK, hD⟩, hS.F ht⟩) hS.2.2 dX0_limit_21
set_option maxHeartbeats 4000000 in
set_option maxRecDepth 100000 in
theorem c_X0_speed (l : Launch) (dC : Nat → ClassId) (dI : Nat → Nat → Nat) (x a1 a2 a3 a4 a5 : Nat) (z1 z2 z3 z4 z5 : ClassId) (sz : Nat) (mo cf cl ac : Nat) (st : Int32) (T F G L S : Nat → Int32) (k : Int32) (tk fd fs la : Nat → Nat) (g : sr_G mo ac cf cl tk fd fs la) (hI : sr_XI mo tk fd fs la T F G L) (hQ : sr_XS mo ac tk fd fs la st S) : Met l yX0_speed wsX0_speed ({ frames := 2, cells := 0, slots := 0, locals := 50 }) (sr_pre dC dI (sr_tX z1 z2 z3 z4 z5) (sr_wX x a1 a2 a3 a4 a5 z1 z2 z3 z4 z5 mo cf cl ac st T F G L S) sz [.ref x, .int k]) (va_Qi (fun (r : Int32) (u : va_W) => ∃ (S' : Nat → Int32) (st' : Int32), u = sr_wX x a1 a2 a3 a4 a5 z1 z2 z3 z4 z5 mo cf cl ac st' T F G L S' ∧ sr_XS mo ac tk fd fs la st' S' ∧ r = sr_an mo (sr_sp mo ac tk fd fs la) k) (sr_at dC dI (sr_tX z1 z2 z3 z4 z5) (va_A (sr_wX x a1 a2 a3 a4 a5 z1 z2 z3 z4 z5 mo cf cl ac st T F G L S) sz)) (va_A (sr_wX x a1 a2 a3 a4 a5 z1 z2 z3 z4 z5 mo cf cl ac st T F G L S) sz)) 0 0 (va_A (sr_wX x a1 a2 a3 a4 a5 z1 z2 z3 z4 z5 mo cf cl ac st T F G L S) sz) := by
  refine Met.ofW (cc := cX0_speed) (maxL := 2) (ret := (some .int)) (by decide) rfl ?_
  intro p e s m args below meth c s₁ B hml hv
  obtain ⟨rfl, hsz, hP, hK, hD0⟩ := hv
  have hx := B.exec
  have hb := B.bytes
  have hr := B.returns
  have hts := atoms_spec (ws := wsX0_speed) B.pre
  have hown : s.vm.findClass RX0 = some m.cls := findClass_of_methodNamed B.named
  have hlocks := B.notSynchronized
  subst hsz
  have hD := hD0.self (sz := s.heap.size)
  generalize hAe : va_A (sr_wX x a1 a2 a3 a4 a5 z1 z2 z3 z4 z5 mo cf cl ac st T F G L S) s.heap.size = A at hD ⊢
  have hA : ∀ q : Nat, s.heap.size ≤ q → A q := fun q h => by rw [← hAe]; exact Or.inr h
  have hS : va_S A s.heap s.heap [] := va_S.rf
  have hP : va_P (dC, dI) vwCl [(x, .inr (0, [.ref a1, .ref a2, .ref a3, .ref a4, .ref a5, .int (nI mo), .int (nI cf), .int (nI cl), .int (nI ac), .int st])), (a1, .inl (z1, 2000, .inl T)), (a2, .inl (z2, 2000, .inl F)), (a3, .inl (z3, 2000, .inl G)), (a4, .inl (z4, 2000, .inl L)), (a5, .inl (z5, 2001, .inl S))] s.heap := hP
  have hD : va_D A [(x, .inr (0, [.ref a1, .ref a2, .ref a3, .ref a4, .ref a5, .int (nI mo), .int (nI cf), .int (nI cl), .int (nI ac), .int st])), (a1, .inl (z1, 2000, .inl T)), (a2, .inl (z2, 2000, .inl F)), (a3, .inl (z3, 2000, .inl G)), (a4, .inl (z4, 2000, .inl L)), (a5, .inl (z5, 2001, .inl S))] := hD
  have hK : va_K (dC, dI) vwCl [(z1, .int), (z2, .int), (z3, .int), (z4, .int), (z5, .int)] s := hK
  have hin0 : ∀ w ∈ u_ws RX0 TX0 10, w ∈ wsX0_speed := by decide +kernel
  have hl := lv_entry ([.ref x, .int k]) (n := 2) (Nat.le_of_ble_eq_true rfl)
  rw [lg_entry_eq]
  generalize (lg_sl ([.ref x, .int k]) ++ List.replicate (2 - (lg_sl ([.ref x, .int k])).length) Slot.unset).toArray = ls at hl ⊢
  have hl : lv_has ls 2 [(0, .ref x), (1, .int k)] := hl
  have hmo : mo ≤ 2000 := g.1
  refine lv_iload_n hx hb dX0_speed_0 rfl (lv_at hl 1 rfl) ?_
  refine lv_iconst (v := 0) hx hb dX0_speed_1 (by decide) ?_
  refine lv_aload_n hx hb dX0_speed_2 rfl (lv_at hl 0 rfl) ?_
  refine va_get (D := (dC, dI)) (ci := 0) (v := .int (nI mo)) (C := RX0) (T := TX0) (N := 10) hx hb hts hin0 hown hK hP 0 rfl rfl 5 (by decide) (hts (.fieldLink RX0 25 "SpeedRows" "moves" "I") (by decide +kernel)) (fun _ h9 => h9) rfl dX0_speed_3 ?_
  refine vp_callSi (W.runS (As := [.int k, .int 0, .int (nI mo)]) (rest := []) ⟨hx, hb, hml, hown, hts⟩ (c_X0_isWithin l k 0 (nI mo)) (va_cwS 3 hts gX0_speed_X0_isWithin rfl rfl rfl (by decide +kernel) ⟨Nat.le_of_ble_eq_true rfl, Nat.le_of_ble_eq_true rfl⟩) ⟨sr_blindT, sr_mkT⟩ rfl rfl hl.1 rfl (lv_room (Nat.le_of_ble_eq_true rfl)) dX0_speed_6 ⟨Nat.zero_le _, Nat.zero_le _⟩) (fun r er => ?_)
  refine lv_if_ne (tgt := 14) hx hb dX0_speed_9 (by decide) (fun c1 => ?_) (fun c1 => ?_)
  · have hc : 0 ≤ k ∧ k ≤ nI mo := by
      rcases er with ⟨_, q⟩ | ⟨q, _⟩
      · exact q
      · exact absurd q c1
    obtain ⟨j, hj, rfl⟩ : ∃ j, j ≤ mo ∧ k = nI j := nI_of2 (nI_toInt (by omega)) (Int32.not_lt.mpr hc.1) hc.2
    refine lv_aload_n hx hb dX0_speed_14 rfl (lv_at hl 0 rfl) ?_
    have hPc := hP.sub (ws' := [(x, .inr (0, [.ref a1, .ref a2, .ref a3, .ref a4, .ref a5, .int (nI mo), .int (nI cf), .int (nI cl), .int (nI ac), .int st])), (a1, .inl (z1, 2000, .inl T)), (a2, .inl (z2, 2000, .inl F)), (a3, .inl (z3, 2000, .inl G)), (a4, .inl (z4, 2000, .inl L)), (a5, .inl (z5, 2001, .inl S))]) [0, 1, 2, 3, 4, 5] rfl
    have hDc := hD.sub (ws' := [(x, .inr (0, [.ref a1, .ref a2, .ref a3, .ref a4, .ref a5, .int (nI mo), .int (nI cf), .int (nI cl), .int (nI ac), .int st])), (a1, .inl (z1, 2000, .inl T)), (a2, .inl (z2, 2000, .inl F)), (a3, .inl (z3, 2000, .inl G)), (a4, .inl (z4, 2000, .inl L)), (a5, .inl (z5, 2001, .inl S))]) [0, 1, 2, 3, 4, 5] (by decide) rfl
    have hKc := hK.sub (tys' := [(z1, .int), (z2, .int), (z3, .int), (z4, .int), (z5, .int)]) [0, 1, 2, 3, 4] rfl
    have hFc := va_free (wc := [(x, .inr (0, [.ref a1, .ref a2, .ref a3, .ref a4, .ref a5, .int (nI mo), .int (nI cf), .int (nI cl), .int (nI ac), .int st])), (a1, .inl (z1, 2000, .inl T)), (a2, .inl (z2, 2000, .inl F)), (a3, .inl (z3, 2000, .inl G)), (a4, .inl (z4, 2000, .inl L)), (a5, .inl (z5, 2001, .inl S))]) hD hS hA [0, 1, 2, 3, 4, 5] rfl
    refine va_callv (va_runV (As := []) (rest := []) ⟨hx, hb, hml, hown, hts⟩ (c_X0_reckonSpeeds l dC dI x a1 a2 a3 a4 a5 z1 z2 z3 z4 z5 s.heap.size mo cf cl ac st T F G L S tk fd fs la g hI hQ) (cwV 0 hts gX0_speed_X0_reckonSpeeds rfl rfl rfl (by decide +kernel) ⟨Nat.le_of_ble_eq_true rfl, Nat.le_of_ble_eq_true rfl⟩) ⟨sr_blind, va_recv hKc hPc (ci := 0) (q0 := 0) rfl rfl, sr_mk hPc hKc hDc⟩ rfl rfl hl.1 rfl (lv_room (Nat.le_of_ble_eq_true rfl)) dX0_speed_15 ⟨Nat.zero_le _, Nat.zero_le _⟩) hS (fun q _ h => hFc q h) hFc (fun u t H1 locs ht hvm hw hB hz1 hk1 hS => ?_)
    obtain ⟨hP1, hK1, hD1⟩ := hB
    rw [ht] at hP1
    obtain ⟨S2, rfl, hS2⟩ := hw
    obtain ⟨hP, hD⟩ := va_join (wr := []) (w1 := [(x, .inr (0, [.ref a1, .ref a2, .ref a3, .ref a4, .ref a5, .int (nI mo), .int (nI cf), .int (nI cl), .int (nI ac), .int 1])), (a1, .inl (z1, 2000, .inl T)), (a2, .inl (z2, 2000, .inl F)), (a3, .inl (z3, 2000, .inl G)), (a4, .inl (z4, 2000, .inl L)), (a5, .inl (z5, 2001, .inl S2))]) hP hD [0, 1, 2, 3, 4, 5] [] rfl rfl (by decide) (by decide) hk1 hFc hP1 hD1
    generalize H1 = H at hP hS ⊢
    have hP : va_P (dC, dI) vwCl [(x, .inr (0, [.ref a1, .ref a2, .ref a3, .ref a4, .ref a5, .int (nI mo), .int (nI cf), .int (nI cl), .int (nI ac), .int 1])), (a1, .inl (z1, 2000, .inl T)), (a2, .inl (z2, 2000, .inl F)), (a3, .inl (z3, 2000, .inl G)), (a4, .inl (z4, 2000, .inl L)), (a5, .inl (z5, 2001, .inl S2))] H := hP
    have hD : va_D A [(x, .inr (0, [.ref a1, .ref a2, .ref a3, .ref a4, .ref a5, .int (nI mo), .int (nI cf), .int (nI cl), .int (nI ac), .int 1])), (a1, .inl (z1, 2000, .inl T)), (a2, .inl (z2, 2000, .inl F)), (a3, .inl (z3, 2000, .inl G)), (a4, .inl (z4, 2000, .inl L)), (a5, .inl (z5, 2001, .inl S2))] := hD
    refine lv_aload_n hx hb dX0_speed_18 rfl (lv_at hl 0 rfl) ?_
    refine va_get (D := (dC, dI)) (ci := 0) (v := .ref a5) (C := RX0) (T := TX0) (N := 10) hx hb hts hin0 hown hK hP 0 rfl rfl 4 (by decide) (hts (.fieldLink RX0 22 "SpeedRows" "speeds" "[I") (by decide +kernel)) (fun _ h9 => h9) rfl dX0_speed_19 ?_
    refine lv_iload_n hx hb dX0_speed_22 rfl (lv_at hl 1 rfl) ?_
    refine sr_iald (v := nI (sr_sp mo ac tk fd fs la j)) hx hb hK hP 5 4 rfl rfl (by omega) (by decide) (hS2 j hj) dX0_speed_23 ?_
    exact W.iret (v := nI (sr_sp mo ac tk fd fs la j)) hx hb hr (fun t ht hW => ⟨⟨nI (sr_sp mo ac tk fd fs la j), _, rfl, ⟨S2, 1, rfl, Or.inr ⟨rfl, hS2⟩, by rw [sr_an, if_pos hc, nI_clamp (by omega)]⟩, by rw [ht]; exact hP, va_K.moved hW.alike hK, hD⟩, hS.F ht⟩) hS.2.2 dX0_speed_24
  · have hc : ¬ (0 ≤ k ∧ k ≤ nI mo) := by
      rcases er with ⟨q, _⟩ | ⟨_, q⟩
      · exact absurd (q.symm.trans c1) (by decide)
      · exact q
    refine lv_iconst (v := (-1)) hx hb dX0_speed_12 (by decide) ?_
    exact W.iret (v := (-1)) hx hb hr (fun t ht hW => ⟨⟨(-1), _, rfl, ⟨S, st, rfl, hQ, by rw [sr_an, if_neg hc]⟩, by rw [ht]; exact hP, va_K.moved hW.alike hK, hD⟩, hS.F ht⟩) hS.2.2 dX0_speed_13
set_option maxHeartbeats 4000000 in
set_option maxRecDepth 100000 in
theorem lp_X0_sum {p : Program} {l : Launch} {e : Env} {R : Room} {s : State} {m : MethodId} {args : Array Value} {below : List Frame} {meth : Method} {c : Code} {Q : State → Prop} (C0 : CallFix p m c cX0_sum 4 s args wsX0_sum RX0) {dC : Nat → ClassId} {dI : Nat → Nat → Nat} {x a1 a2 a3 a4 a5 : Nat} {z1 z2 z3 z4 z5 : ClassId} {mo cf cl ac : Nat} {st : Int32} {T F G L S : Nat → Int32} {sp : Nat → Nat} (hmo : mo ≤ 2000) (hsp : ∀ k, k ≤ mo → sp k ≤ 99999) (hS2 : ∀ k, k ≤ mo → S k = nI (sp k)) (hK : va_K (dC, dI) vwCl (sr_tX z1 z2 z3 z4 z5) s) {H : Heap} {locs : List Loc} (hP : va_P (dC, dI) vwCl (sr_wX x a1 a2 a3 a4 a5 z1 z2 z3 z4 z5 mo cf cl ac st T F G L S) H)
    (hk : ∀ (ls : Array Slot), lv_has ls 4 [(1, .long (lN (sr_sum sp (mo + 1))))] → W p l e R s m args below meth c H locs 0 0 Q (F0 m 32 ls [])) :
    ∀ (n i : Nat) (ls : Array Slot), i ≤ mo + 1 → mo + 2 ≤ i + n → lv_has ls 4 [(0, .ref x), (1, .long (lN (sr_sum sp i))), (3, .int (nI i))] → W p l e R s m args below meth c H locs 0 0 Q (F0 m 8 ls []) := by
  obtain ⟨hx, hb, hml, hown, hts⟩ := C0
  have hin0 : ∀ w ∈ u_ws RX0 TX0 10, w ∈ wsX0_sum := by decide +kernel
  have hK : va_K (dC, dI) vwCl [(z1, .int), (z2, .int), (z3, .int), (z4, .int), (z5, .int)] s := hK
  have hP : va_P (dC, dI) vwCl [(x, .inr (0, [.ref a1, .ref a2, .ref a3, .ref a4, .ref a5, .int (nI mo), .int (nI cf), .int (nI cl), .int (nI ac), .int st])), (a1, .inl (z1, 2000, .inl T)), (a2, .inl (z2, 2000, .inl F)), (a3, .inl (z3, 2000, .inl G)), (a4, .inl (z4, 2000, .inl L)), (a5, .inl (z5, 2001, .inl S))] H := hP
  intro n
  induction n with
  | zero =>
    intro i ls h1 h2
    exact absurd h2 (by omega)
  | succ n ih =>
    intro i ls h1 h2 hl
    refine lv_iload_n hx hb dX0_sum_8 rfl (lv_at hl 2 rfl) ?_
    refine lv_aload_n hx hb dX0_sum_9 rfl (lv_at hl 0 rfl) ?_
    refine va_get (D := (dC, dI)) (ci := 0) (v := .int (nI mo)) (C := RX0) (T := TX0) (N := 10) hx hb hts hin0 hown hK hP 0 rfl rfl 5 (by decide) (hts (.fieldLink RX0 25 "SpeedRows" "moves" "I") (by decide +kernel)) (fun _ h9 => h9) rfl dX0_sum_10 ?_
    refine lv_icmp_gt (tgt := 32) hx hb dX0_sum_13 (by decide) (fun c1 => ?_) (fun c1 => ?_)
    · have e1 : mo < i := (nI_ltI (by omega) (by omega)).mp c1
      obtain rfl : i = mo + 1 := by omega
      exact hk ls (lv_sub hl [1] rfl)
    · have e1 : i ≤ mo := by
        rcases Nat.lt_or_ge mo i with q | q
        · exact absurd ((nI_ltI (by omega) (by omega)).mpr q) c1
        · exact q
      have e2 := hsp i e1
      refine lv_lload_n hx hb dX0_sum_16 rfl (lv_at hl 1 rfl) ?_
      refine lv_aload_n hx hb dX0_sum_17 rfl (lv_at hl 0 rfl) ?_
      refine va_get (D := (dC, dI)) (ci := 0) (v := .ref a5) (C := RX0) (T := TX0) (N := 10) hx hb hts hin0 hown hK hP 0 rfl rfl 4 (by decide) (hts (.fieldLink RX0 22 "SpeedRows" "speeds" "[I") (by decide +kernel)) (fun _ h9 => h9) rfl dX0_sum_18 ?_
      refine lv_iload_n hx hb dX0_sum_21 rfl (lv_at hl 2 rfl) ?_
      refine sr_iald (v := nI (sp i)) hx hb hK hP 5 4 rfl rfl (by omega) (by decide) (hS2 i e1) dX0_sum_22 ?_
      refine lv_i2l (v := lN (sp i)) hx hb dX0_sum_23 (nI_l (by omega)) ?_
      refine lv_ladd hx hb dX0_sum_24 ?_
      refine sr_tl (y := lN ((sr_sum sp i) + (sp i))) (lN_add _ _) ?_
      refine lv_lstore_n (lv' := [(1, .long (lN ((sr_sum sp i) + (sp i)))), (0, .ref x), (3, .int (nI i))]) hx hb dX0_sum_25 rfl hl (by decide) rfl (fun ls hl => ?_)
      refine lv_iinc (v := nI (i + 1)) (lv' := [(3, .int (nI (i + 1))), (1, .long (lN ((sr_sum sp i) + (sp i)))), (0, .ref x)]) hx hb dX0_sum_26 hl (k := 2) rfl (nI_1 _) (by decide) rfl (fun ls hl => ?_)
      refine lv_goto (tgt := 8) hx hb dX0_sum_29 (by decide) ?_
      exact ih (i + 1) ls (by omega) (by omega) (lv_sub hl [2, 1, 0] rfl)
set_option maxHeartbeats 4000000 in
set_option maxRecDepth 100000 in
theorem c_X0_sum (l : Launch) (dC : Nat → ClassId) (dI : Nat → Nat → Nat) (x a1 a2 a3 a4 a5 : Nat) (z1 z2 z3 z4 z5 : ClassId) (sz : Nat) (mo cf cl ac : Nat) (st : Int32) (T F G L S : Nat → Int32) (tk fd fs la : Nat → Nat) (g : sr_G mo ac cf cl tk fd fs la) (hI : sr_XI mo tk fd fs la T F G L) (hQ : sr_XS mo ac tk fd fs la st S) : Met l yX0_sum wsX0_sum ({ frames := 2, cells := 0, slots := 0, locals := 50 }) (sr_pre dC dI (sr_tX z1 z2 z3 z4 z5) (sr_wX x a1 a2 a3 a4 a5 z1 z2 z3 z4 z5 mo cf cl ac st T F G L S) sz [.ref x]) (va_Ql (fun (r : Int64) (u : va_W) => ∃ S' : Nat → Int32, u = sr_wX x a1 a2 a3 a4 a5 z1 z2 z3 z4 z5 mo cf cl ac 1 T F G L S' ∧ sr_XS mo ac tk fd fs la 1 S' ∧ r = lN (sr_sum (sr_sp mo ac tk fd fs la) (mo + 1))) (sr_at dC dI (sr_tX z1 z2 z3 z4 z5) (va_A (sr_wX x a1 a2 a3 a4 a5 z1 z2 z3 z4 z5 mo cf cl ac st T F G L S) sz)) (va_A (sr_wX x a1 a2 a3 a4 a5 z1 z2 z3 z4 z5 mo cf cl ac st T F G L S) sz)) 0 0 (va_A (sr_wX x a1 a2 a3 a4 a5 z1 z2 z3 z4 z5 mo cf cl ac st T F G L S) sz) := by
  refine Met.ofW (cc := cX0_sum) (maxL := 4) (ret := (some .long)) (by decide) rfl ?_
  intro p e s m args below meth c s₁ B hml hv
  obtain ⟨rfl, hsz, hP, hK, hD0⟩ := hv
  have hx := B.exec
  have hb := B.bytes
  have hr := B.returns
  have hts := atoms_spec (ws := wsX0_sum) B.pre
  have hown : s.vm.findClass RX0 = some m.cls := findClass_of_methodNamed B.named
  have hlocks := B.notSynchronized
  subst hsz
  have hD := hD0.self (sz := s.heap.size)
  generalize hAe : va_A (sr_wX x a1 a2 a3 a4 a5 z1 z2 z3 z4 z5 mo cf cl ac st T F G L S) s.heap.size = A at hD ⊢
  have hA : ∀ q : Nat, s.heap.size ≤ q → A q := fun q h => by rw [← hAe]; exact Or.inr h
  have hS : va_S A s.heap s.heap [] := va_S.rf
  have hP : va_P (dC, dI) vwCl [(x, .inr (0, [.ref a1, .ref a2, .ref a3, .ref a4, .ref a5, .int (nI mo), .int (nI cf), .int (nI cl), .int (nI ac), .int st])), (a1, .inl (z1, 2000, .inl T)), (a2, .inl (z2, 2000, .inl F)), (a3, .inl (z3, 2000, .inl G)), (a4, .inl (z4, 2000, .inl L)), (a5, .inl (z5, 2001, .inl S))] s.heap := hP
  have hD : va_D A [(x, .inr (0, [.ref a1, .ref a2, .ref a3, .ref a4, .ref a5, .int (nI mo), .int (nI cf), .int (nI cl), .int (nI ac), .int st])), (a1, .inl (z1, 2000, .inl T)), (a2, .inl (z2, 2000, .inl F)), (a3, .inl (z3, 2000, .inl G)), (a4, .inl (z4, 2000, .inl L)), (a5, .inl (z5, 2001, .inl S))] := hD
  have hK : va_K (dC, dI) vwCl [(z1, .int), (z2, .int), (z3, .int), (z4, .int), (z5, .int)] s := hK
  have hin0 : ∀ w ∈ u_ws RX0 TX0 10, w ∈ wsX0_sum := by decide +kernel
  have hl := lv_entry ([.ref x]) (n := 4) (Nat.le_of_ble_eq_true rfl)
  rw [lg_entry_eq]
  generalize (lg_sl ([.ref x]) ++ List.replicate (4 - (lg_sl ([.ref x])).length) Slot.unset).toArray = ls at hl ⊢
  have hl : lv_has ls 4 [(0, .ref x)] := hl
  have hmo : mo ≤ 2000 := g.1
  refine lv_aload_n hx hb dX0_sum_0 rfl (lv_at hl 0 rfl) ?_
  have hPc := hP.sub (ws' := [(x, .inr (0, [.ref a1, .ref a2, .ref a3, .ref a4, .ref a5, .int (nI mo), .int (nI cf), .int (nI cl), .int (nI ac), .int st])), (a1, .inl (z1, 2000, .inl T)), (a2, .inl (z2, 2000, .inl F)), (a3, .inl (z3, 2000, .inl G)), (a4, .inl (z4, 2000, .inl L)), (a5, .inl (z5, 2001, .inl S))]) [0, 1, 2, 3, 4, 5] rfl
  have hDc := hD.sub (ws' := [(x, .inr (0, [.ref a1, .ref a2, .ref a3, .ref a4, .ref a5, .int (nI mo), .int (nI cf), .int (nI cl), .int (nI ac), .int st])), (a1, .inl (z1, 2000, .inl T)), (a2, .inl (z2, 2000, .inl F)), (a3, .inl (z3, 2000, .inl G)), (a4, .inl (z4, 2000, .inl L)), (a5, .inl (z5, 2001, .inl S))]) [0, 1, 2, 3, 4, 5] (by decide) rfl
  have hKc := hK.sub (tys' := [(z1, .int), (z2, .int), (z3, .int), (z4, .int), (z5, .int)]) [0, 1, 2, 3, 4] rfl
  have hFc := va_free (wc := [(x, .inr (0, [.ref a1, .ref a2, .ref a3, .ref a4, .ref a5, .int (nI mo), .int (nI cf), .int (nI cl), .int (nI ac), .int st])), (a1, .inl (z1, 2000, .inl T)), (a2, .inl (z2, 2000, .inl F)), (a3, .inl (z3, 2000, .inl G)), (a4, .inl (z4, 2000, .inl L)), (a5, .inl (z5, 2001, .inl S))]) hD hS hA [0, 1, 2, 3, 4, 5] rfl
  refine va_callv (va_runV (As := []) (rest := []) ⟨hx, hb, hml, hown, hts⟩ (c_X0_reckonSpeeds l dC dI x a1 a2 a3 a4 a5 z1 z2 z3 z4 z5 s.heap.size mo cf cl ac st T F G L S tk fd fs la g hI hQ) (cwV 0 hts gX0_sum_X0_reckonSpeeds rfl rfl rfl (by decide +kernel) ⟨Nat.le_of_ble_eq_true rfl, Nat.le_of_ble_eq_true rfl⟩) ⟨sr_blind, va_recv hKc hPc (ci := 0) (q0 := 0) rfl rfl, sr_mk hPc hKc hDc⟩ rfl rfl hl.1 rfl (lv_room (Nat.le_of_ble_eq_true rfl)) dX0_sum_1 ⟨Nat.zero_le _, Nat.zero_le _⟩) hS (fun q _ h => hFc q h) hFc (fun u t H1 locs ht hvm hw hB hz1 hk1 hS => ?_)
  obtain ⟨hP1, hK1, hD1⟩ := hB
  rw [ht] at hP1
  obtain ⟨S2, rfl, hS2⟩ := hw
  obtain ⟨hP, hD⟩ := va_join (wr := []) (w1 := [(x, .inr (0, [.ref a1, .ref a2, .ref a3, .ref a4, .ref a5, .int (nI mo), .int (nI cf), .int (nI cl), .int (nI ac), .int 1])), (a1, .inl (z1, 2000, .inl T)), (a2, .inl (z2, 2000, .inl F)), (a3, .inl (z3, 2000, .inl G)), (a4, .inl (z4, 2000, .inl L)), (a5, .inl (z5, 2001, .inl S2))]) hP hD [0, 1, 2, 3, 4, 5] [] rfl rfl (by decide) (by decide) hk1 hFc hP1 hD1
  generalize H1 = H at hP hS ⊢
  have hP : va_P (dC, dI) vwCl [(x, .inr (0, [.ref a1, .ref a2, .ref a3, .ref a4, .ref a5, .int (nI mo), .int (nI cf), .int (nI cl), .int (nI ac), .int 1])), (a1, .inl (z1, 2000, .inl T)), (a2, .inl (z2, 2000, .inl F)), (a3, .inl (z3, 2000, .inl G)), (a4, .inl (z4, 2000, .inl L)), (a5, .inl (z5, 2001, .inl S2))] H := hP
  have hD : va_D A [(x, .inr (0, [.ref a1, .ref a2, .ref a3, .ref a4, .ref a5, .int (nI mo), .int (nI cf), .int (nI cl), .int (nI ac), .int 1])), (a1, .inl (z1, 2000, .inl T)), (a2, .inl (z2, 2000, .inl F)), (a3, .inl (z3, 2000, .inl G)), (a4, .inl (z4, 2000, .inl L)), (a5, .inl (z5, 2001, .inl S2))] := hD
  refine lv_lconst (v := lN 0) hx hb dX0_sum_4 (by decide) ?_
  refine lv_lstore_n (lv' := [(1, .long (lN 0)), (0, .ref x)]) hx hb dX0_sum_5 rfl hl (by decide) rfl (fun ls hl => ?_)
  refine lv_iconst (v := nI 0) hx hb dX0_sum_6 (by decide) ?_
  refine lv_istore_n (lv' := [(3, .int (nI 0)), (1, .long (lN 0)), (0, .ref x)]) hx hb dX0_sum_7 rfl hl (by decide) rfl (fun ls hl => ?_)
  refine lp_X0_sum ⟨hx, hb, hml, hown, hts⟩ (sp := sr_sp mo ac tk fd fs la) hmo (fun k q => sr_sp_le g q) hS2 hK hP (fun ls hl => ?_) (mo + 2) 0 ls (by omega) (by omega) (lv_sub hl [2, 1, 0] rfl)
  refine lv_lload_n hx hb dX0_sum_32 rfl (lv_at hl 0 rfl) ?_
  exact W.lret (v := lN (sr_sum (sr_sp mo ac tk fd fs la) (mo + 1))) hx hb hr (fun t ht hW => ⟨⟨lN (sr_sum (sr_sp mo ac tk fd fs la) (mo + 1)), _, rfl, ⟨S2, rfl, Or.inr ⟨rfl, hS2⟩, rfl⟩, by rw [ht]; exact hP, va_K.moved hW.alike hK, hD⟩, hS.F ht⟩) hS.2.2 dX0_sum_33
set_option maxHeartbeats 4000000 in
set_option maxRecDepth 100000 in
theorem lp_X0_below {p : Program} {l : Launch} {e : Env} {R : Room} {s : State} {m : MethodId} {args : Array Value} {below : List Frame} {meth : Method} {c : Code} {Q : State → Prop} (C0 : CallFix p m c cX0_below 3 s args wsX0_below RX0) {dC : Nat → ClassId} {dI : Nat → Nat → Nat} {x a1 a2 a3 a4 a5 : Nat} {z1 z2 z3 z4 z5 : ClassId} {mo cf cl ac : Nat} {st : Int32} {T F G L S : Nat → Int32} {sp : Nat → Nat} (hmo : mo ≤ 2000) (hsp : ∀ k, k ≤ mo → sp k ≤ 99999) (hS2 : ∀ k, k ≤ mo → S k = nI (sp k)) (hK : va_K (dC, dI) vwCl (sr_tX z1 z2 z3 z4 z5) s) {A : Nat → Prop} {H0 : Heap} {tk fd fs la : Nat → Nat} (hRf : 1 ≤ R.frames) (hRl : 21 ≤ R.locals) (hI : sr_XI mo tk fd fs la T F G L) (hA : ∀ q, H0.size ≤ q → A q) (hlm : ∀ k, sr_lim mo fd fs la k ≤ 99999)
    (hk : ∀ (H : Heap) (locs : List Loc) (ls : Array Slot), va_P (dC, dI) vwCl (sr_wX x a1 a2 a3 a4 a5 z1 z2 z3 z4 z5 mo cf cl ac st T F G L S) H → va_D A (sr_wX x a1 a2 a3 a4 a5 z1 z2 z3 z4 z5 mo cf cl ac st T F G L S) → va_S A H0 H locs → lv_has ls 3 [(1, .int (nI (sr_cnt sp (sr_lim mo fd fs la) (mo + 1))))] → W p l e R s m args below meth c H locs 0 0 Q (F0 m 39 ls [])) :
    ∀ (n i : Nat) (H : Heap) (locs : List Loc) (ls : Array Slot), i ≤ mo + 1 → mo + 2 ≤ i + n → va_P (dC, dI) vwCl (sr_wX x a1 a2 a3 a4 a5 z1 z2 z3 z4 z5 mo cf cl ac st T F G L S) H → va_D A (sr_wX x a1 a2 a3 a4 a5 z1 z2 z3 z4 z5 mo cf cl ac st T F G L S) → va_S A H0 H locs → lv_has ls 3 [(0, .ref x), (1, .int (nI (sr_cnt sp (sr_lim mo fd fs la) i))), (2, .int (nI i))] → W p l e R s m args below meth c H locs 0 0 Q (F0 m 8 ls []) := by
  obtain ⟨hx, hb, hml, hown, hts⟩ := C0
  have hin0 : ∀ w ∈ u_ws RX0 TX0 10, w ∈ wsX0_below := by decide +kernel
  have hK : va_K (dC, dI) vwCl [(z1, .int), (z2, .int), (z3, .int), (z4, .int), (z5, .int)] s := hK
  intro n
  induction n with
  | zero =>
    intro i H locs ls h1 h2
    exact absurd h2 (by omega)
  | succ n ih =>
    intro i H locs ls h1 h2 hP hD hS hl
    have hP : va_P (dC, dI) vwCl [(x, .inr (0, [.ref a1, .ref a2, .ref a3, .ref a4, .ref a5, .int (nI mo), .int (nI cf), .int (nI cl), .int (nI ac), .int st])), (a1, .inl (z1, 2000, .inl T)), (a2, .inl (z2, 2000, .inl F)), (a3, .inl (z3, 2000, .inl G)), (a4, .inl (z4, 2000, .inl L)), (a5, .inl (z5, 2001, .inl S))] H := hP
    have hD : va_D A [(x, .inr (0, [.ref a1, .ref a2, .ref a3, .ref a4, .ref a5, .int (nI mo), .int (nI cf), .int (nI cl), .int (nI ac), .int st])), (a1, .inl (z1, 2000, .inl T)), (a2, .inl (z2, 2000, .inl F)), (a3, .inl (z3, 2000, .inl G)), (a4, .inl (z4, 2000, .inl L)), (a5, .inl (z5, 2001, .inl S))] := hD
    refine lv_iload_n hx hb dX0_below_8 rfl (lv_at hl 2 rfl) ?_
    refine lv_aload_n hx hb dX0_below_9 rfl (lv_at hl 0 rfl) ?_
    refine va_get (D := (dC, dI)) (ci := 0) (v := .int (nI mo)) (C := RX0) (T := TX0) (N := 10) hx hb hts hin0 hown hK hP 0 rfl rfl 5 (by decide) (hts (.fieldLink RX0 25 "SpeedRows" "moves" "I") (by decide +kernel)) (fun _ h9 => h9) rfl dX0_below_10 ?_
    refine lv_icmp_gt (tgt := 39) hx hb dX0_below_13 (by decide) (fun c1 => ?_) (fun c1 => ?_)
    · have e1 : mo < i := (nI_ltI (by omega) (by omega)).mp c1
      obtain rfl : i = mo + 1 := by omega
      exact hk H locs ls hP hD hS (lv_sub hl [1] rfl)
    · have e1 : i ≤ mo := by
        rcases Nat.lt_or_ge mo i with q | q
        · exact absurd ((nI_ltI (by omega) (by omega)).mpr q) c1
        · exact q
      have e2 := hsp i e1
      have e3 := hlm i
      refine lv_aload_n hx hb dX0_below_16 rfl (lv_at hl 0 rfl) ?_
      refine va_get (D := (dC, dI)) (ci := 0) (v := .ref a5) (C := RX0) (T := TX0) (N := 10) hx hb hts hin0 hown hK hP 0 rfl rfl 4 (by decide) (hts (.fieldLink RX0 22 "SpeedRows" "speeds" "[I") (by decide +kernel)) (fun _ h9 => h9) rfl dX0_below_17 ?_
      refine lv_iload_n hx hb dX0_below_20 rfl (lv_at hl 2 rfl) ?_
      refine sr_iald (v := nI (sp i)) hx hb hK hP 5 4 rfl rfl (by omega) (by decide) (hS2 i e1) dX0_below_21 ?_
      refine lv_aload_n hx hb dX0_below_22 rfl (lv_at hl 0 rfl) ?_
      refine lv_iload_n hx hb dX0_below_23 rfl (lv_at hl 2 rfl) ?_
      have hPc := hP.sub (ws' := [(x, .inr (0, [.ref a1, .ref a2, .ref a3, .ref a4, .ref a5, .int (nI mo), .int (nI cf), .int (nI cl), .int (nI ac), .int st])), (a1, .inl (z1, 2000, .inl T)), (a2, .inl (z2, 2000, .inl F)), (a3, .inl (z3, 2000, .inl G)), (a4, .inl (z4, 2000, .inl L)), (a5, .inl (z5, 2001, .inl S))]) [0, 1, 2, 3, 4, 5] rfl
      have hDc := hD.sub (ws' := [(x, .inr (0, [.ref a1, .ref a2, .ref a3, .ref a4, .ref a5, .int (nI mo), .int (nI cf), .int (nI cl), .int (nI ac), .int st])), (a1, .inl (z1, 2000, .inl T)), (a2, .inl (z2, 2000, .inl F)), (a3, .inl (z3, 2000, .inl G)), (a4, .inl (z4, 2000, .inl L)), (a5, .inl (z5, 2001, .inl S))]) [0, 1, 2, 3, 4, 5] (by decide) rfl
      have hKc := hK.sub (tys' := [(z1, .int), (z2, .int), (z3, .int), (z4, .int), (z5, .int)]) [0, 1, 2, 3, 4] rfl
      have hFc := va_free (wc := [(x, .inr (0, [.ref a1, .ref a2, .ref a3, .ref a4, .ref a5, .int (nI mo), .int (nI cf), .int (nI cl), .int (nI ac), .int st])), (a1, .inl (z1, 2000, .inl T)), (a2, .inl (z2, 2000, .inl F)), (a3, .inl (z3, 2000, .inl G)), (a4, .inl (z4, 2000, .inl L)), (a5, .inl (z5, 2001, .inl S))]) hD hS hA [0, 1, 2, 3, 4, 5] rfl
      refine va_calli (va_runV (As := [.int (nI i)]) (rest := [.int (nI (sp i))]) ⟨hx, hb, hml, hown, hts⟩ (c_X0_limitAt l dC dI x a1 a2 a3 a4 a5 z1 z2 z3 z4 z5 H.size mo cf cl ac st T F G L S tk fd fs la i hI hmo (by omega)) (cwV 1 hts gX0_below_X0_limitAt rfl rfl rfl (by decide +kernel) ⟨Nat.le_trans (show _ ≤ 1 from Nat.le_of_ble_eq_true rfl) hRf, Nat.le_trans (show _ ≤ 21 from Nat.le_of_ble_eq_true rfl) hRl⟩) ⟨sr_blind, va_recv hKc hPc (ci := 0) (q0 := 0) rfl rfl, sr_mk hPc hKc hDc⟩ rfl rfl hl.1 rfl (lv_room (Nat.le_of_ble_eq_true rfl)) dX0_below_24 ⟨Nat.zero_le _, Nat.zero_le _⟩) hS (fun q _ h => hFc q h) hFc (fun r1 u t H1 locs ht hvm hw hB hz1 hk1 hS => ?_)
      obtain ⟨hP1, hK1, hD1⟩ := hB
      rw [ht] at hP1
      obtain ⟨rfl, rfl⟩ := hw
      obtain ⟨hP, hD⟩ := va_join (wr := []) (w1 := [(x, .inr (0, [.ref a1, .ref a2, .ref a3, .ref a4, .ref a5, .int (nI mo), .int (nI cf), .int (nI cl), .int (nI ac), .int st])), (a1, .inl (z1, 2000, .inl T)), (a2, .inl (z2, 2000, .inl F)), (a3, .inl (z3, 2000, .inl G)), (a4, .inl (z4, 2000, .inl L)), (a5, .inl (z5, 2001, .inl S))]) hP hD [0, 1, 2, 3, 4, 5] [] rfl rfl (by decide) (by decide) hk1 hFc hP1 hD1
      generalize H1 = H at hP hS ⊢
      have hP : va_P (dC, dI) vwCl [(x, .inr (0, [.ref a1, .ref a2, .ref a3, .ref a4, .ref a5, .int (nI mo), .int (nI cf), .int (nI cl), .int (nI ac), .int st])), (a1, .inl (z1, 2000, .inl T)), (a2, .inl (z2, 2000, .inl F)), (a3, .inl (z3, 2000, .inl G)), (a4, .inl (z4, 2000, .inl L)), (a5, .inl (z5, 2001, .inl S))] H := hP
      have hD : va_D A [(x, .inr (0, [.ref a1, .ref a2, .ref a3, .ref a4, .ref a5, .int (nI mo), .int (nI cf), .int (nI cl), .int (nI ac), .int st])), (a1, .inl (z1, 2000, .inl T)), (a2, .inl (z2, 2000, .inl F)), (a3, .inl (z3, 2000, .inl G)), (a4, .inl (z4, 2000, .inl L)), (a5, .inl (z5, 2001, .inl S))] := hD
      refine lv_icmp_ge (tgt := 33) hx hb dX0_below_27 (by decide) (fun c2 => ?_) (fun c2 => ?_)
      · have e4 : ¬ sp i < sr_lim mo fd fs la i := fun q => absurd c2 (nI_ge q (by omega))
        have e5 : sr_cnt sp (sr_lim mo fd fs la) (i + 1) = sr_cnt sp (sr_lim mo fd fs la) i := by rw [sr_cnt, if_neg e4]; rfl
        refine lv_iinc (v := nI (i + 1)) (lv' := [(2, .int (nI (i + 1))), (0, .ref x), (1, .int (nI (sr_cnt sp (sr_lim mo fd fs la) i)))]) hx hb dX0_below_33 hl (k := 2) rfl (nI_1 _) (by decide) rfl (fun ls hl => ?_)
        refine lv_goto (tgt := 8) hx hb dX0_below_36 (by decide) ?_
        exact ih (i + 1) H locs ls (by omega) (by omega) hP hD hS (by rw [e5]; exact lv_sub hl [1, 2, 0] rfl)
      · have e4 : sp i < sr_lim mo fd fs la i := Nat.lt_of_not_le (fun q => c2 (nI_le q (by omega)))
        have e5 : sr_cnt sp (sr_lim mo fd fs la) (i + 1) = sr_cnt sp (sr_lim mo fd fs la) i + 1 := by rw [sr_cnt, if_pos e4]
        refine lv_iinc (v := nI ((sr_cnt sp (sr_lim mo fd fs la) i) + 1)) (lv' := [(1, .int (nI ((sr_cnt sp (sr_lim mo fd fs la) i) + 1))), (0, .ref x), (2, .int (nI i))]) hx hb dX0_below_30 hl (k := 1) rfl (nI_1 _) (by decide) rfl (fun ls hl => ?_)
        refine lv_iinc (v := nI (i + 1)) (lv' := [(2, .int (nI (i + 1))), (1, .int (nI ((sr_cnt sp (sr_lim mo fd fs la) i) + 1))), (0, .ref x)]) hx hb dX0_below_33 hl (k := 2) rfl (nI_1 _) (by decide) rfl (fun ls hl => ?_)
        refine lv_goto (tgt := 8) hx hb dX0_below_36 (by decide) ?_
        exact ih (i + 1) H locs ls (by omega) (by omega) hP hD hS (by rw [e5]; exact lv_sub hl [2, 1, 0] rfl)
set_option maxHeartbeats 4000000 in
set_option maxRecDepth 100000 in
theorem c_X0_below (l : Launch) (dC : Nat → ClassId) (dI : Nat → Nat → Nat) (x a1 a2 a3 a4 a5 : Nat) (z1 z2 z3 z4 z5 : ClassId) (sz : Nat) (mo cf cl ac : Nat) (st : Int32) (T F G L S : Nat → Int32) (tk fd fs la : Nat → Nat) (g : sr_G mo ac cf cl tk fd fs la) (hI : sr_XI mo tk fd fs la T F G L) (hQ : sr_XS mo ac tk fd fs la st S) : Met l yX0_below wsX0_below ({ frames := 2, cells := 0, slots := 0, locals := 50 }) (sr_pre dC dI (sr_tX z1 z2 z3 z4 z5) (sr_wX x a1 a2 a3 a4 a5 z1 z2 z3 z4 z5 mo cf cl ac st T F G L S) sz [.ref x]) (va_Qi (fun (r : Int32) (u : va_W) => ∃ S' : Nat → Int32, u = sr_wX x a1 a2 a3 a4 a5 z1 z2 z3 z4 z5 mo cf cl ac 1 T F G L S' ∧ sr_XS mo ac tk fd fs la 1 S' ∧ r = nI (sr_cnt (sr_sp mo ac tk fd fs la) (sr_lim mo fd fs la) (mo + 1))) (sr_at dC dI (sr_tX z1 z2 z3 z4 z5) (va_A (sr_wX x a1 a2 a3 a4 a5 z1 z2 z3 z4 z5 mo cf cl ac st T F G L S) sz)) (va_A (sr_wX x a1 a2 a3 a4 a5 z1 z2 z3 z4 z5 mo cf cl ac st T F G L S) sz)) 0 0 (va_A (sr_wX x a1 a2 a3 a4 a5 z1 z2 z3 z4 z5 mo cf cl ac st T F G L S) sz) := by
  refine Met.ofW (cc := cX0_below) (maxL := 3) (ret := (some .int)) (by decide) rfl ?_
  intro p e s m args below meth c s₁ B hml hv
  obtain ⟨rfl, hsz, hP, hK, hD0⟩ := hv
  have hx := B.exec
  have hb := B.bytes
  have hr := B.returns
  have hts := atoms_spec (ws := wsX0_below) B.pre
  have hown : s.vm.findClass RX0 = some m.cls := findClass_of_methodNamed B.named
  have hlocks := B.notSynchronized
  subst hsz
  have hD := hD0.self (sz := s.heap.size)
  generalize hAe : va_A (sr_wX x a1 a2 a3 a4 a5 z1 z2 z3 z4 z5 mo cf cl ac st T F G L S) s.heap.size = A at hD ⊢
  have hA : ∀ q : Nat, s.heap.size ≤ q → A q := fun q h => by rw [← hAe]; exact Or.inr h
  have hS : va_S A s.heap s.heap [] := va_S.rf
  have hP : va_P (dC, dI) vwCl [(x, .inr (0, [.ref a1, .ref a2, .ref a3, .ref a4, .ref a5, .int (nI mo), .int (nI cf), .int (nI cl), .int (nI ac), .int st])), (a1, .inl (z1, 2000, .inl T)), (a2, .inl (z2, 2000, .inl F)), (a3, .inl (z3, 2000, .inl G)), (a4, .inl (z4, 2000, .inl L)), (a5, .inl (z5, 2001, .inl S))] s.heap := hP
  have hD : va_D A [(x, .inr (0, [.ref a1, .ref a2, .ref a3, .ref a4, .ref a5, .int (nI mo), .int (nI cf), .int (nI cl), .int (nI ac), .int st])), (a1, .inl (z1, 2000, .inl T)), (a2, .inl (z2, 2000, .inl F)), (a3, .inl (z3, 2000, .inl G)), (a4, .inl (z4, 2000, .inl L)), (a5, .inl (z5, 2001, .inl S))] := hD
  have hK : va_K (dC, dI) vwCl [(z1, .int), (z2, .int), (z3, .int), (z4, .int), (z5, .int)] s := hK
  have hin0 : ∀ w ∈ u_ws RX0 TX0 10, w ∈ wsX0_below := by decide +kernel
  have hl := lv_entry ([.ref x]) (n := 3) (Nat.le_of_ble_eq_true rfl)
  rw [lg_entry_eq]
  generalize (lg_sl ([.ref x]) ++ List.replicate (3 - (lg_sl ([.ref x])).length) Slot.unset).toArray = ls at hl ⊢
  have hl : lv_has ls 3 [(0, .ref x)] := hl
  have hmo : mo ≤ 2000 := g.1
  refine lv_aload_n hx hb dX0_below_0 rfl (lv_at hl 0 rfl) ?_
  have hPc := hP.sub (ws' := [(x, .inr (0, [.ref a1, .ref a2, .ref a3, .ref a4, .ref a5, .int (nI mo), .int (nI cf), .int (nI cl), .int (nI ac), .int st])), (a1, .inl (z1, 2000, .inl T)), (a2, .inl (z2, 2000, .inl F)), (a3, .inl (z3, 2000, .inl G)), (a4, .inl (z4, 2000, .inl L)), (a5, .inl (z5, 2001, .inl S))]) [0, 1, 2, 3, 4, 5] rfl
  have hDc := hD.sub (ws' := [(x, .inr (0, [.ref a1, .ref a2, .ref a3, .ref a4, .ref a5, .int (nI mo), .int (nI cf), .int (nI cl), .int (nI ac), .int st])), (a1, .inl (z1, 2000, .inl T)), (a2, .inl (z2, 2000, .inl F)), (a3, .inl (z3, 2000, .inl G)), (a4, .inl (z4, 2000, .inl L)), (a5, .inl (z5, 2001, .inl S))]) [0, 1, 2, 3, 4, 5] (by decide) rfl
  have hKc := hK.sub (tys' := [(z1, .int), (z2, .int), (z3, .int), (z4, .int), (z5, .int)]) [0, 1, 2, 3, 4] rfl
  have hFc := va_free (wc := [(x, .inr (0, [.ref a1, .ref a2, .ref a3, .ref a4, .ref a5, .int (nI mo), .int (nI cf), .int (nI cl), .int (nI ac), .int st])), (a1, .inl (z1, 2000, .inl T)), (a2, .inl (z2, 2000, .inl F)), (a3, .inl (z3, 2000, .inl G)), (a4, .inl (z4, 2000, .inl L)), (a5, .inl (z5, 2001, .inl S))]) hD hS hA [0, 1, 2, 3, 4, 5] rfl
  refine va_callv (va_runV (As := []) (rest := []) ⟨hx, hb, hml, hown, hts⟩ (c_X0_reckonSpeeds l dC dI x a1 a2 a3 a4 a5 z1 z2 z3 z4 z5 s.heap.size mo cf cl ac st T F G L S tk fd fs la g hI hQ) (cwV 0 hts gX0_below_X0_reckonSpeeds rfl rfl rfl (by decide +kernel) ⟨Nat.le_of_ble_eq_true rfl, Nat.le_of_ble_eq_true rfl⟩) ⟨sr_blind, va_recv hKc hPc (ci := 0) (q0 := 0) rfl rfl, sr_mk hPc hKc hDc⟩ rfl rfl hl.1 rfl (lv_room (Nat.le_of_ble_eq_true rfl)) dX0_below_1 ⟨Nat.zero_le _, Nat.zero_le _⟩) hS (fun q _ h => hFc q h) hFc (fun u t H1 locs ht hvm hw hB hz1 hk1 hS => ?_)
  obtain ⟨hP1, hK1, hD1⟩ := hB
  rw [ht] at hP1
  obtain ⟨S2, rfl, hS2⟩ := hw
  obtain ⟨hP, hD⟩ := va_join (wr := []) (w1 := [(x, .inr (0, [.ref a1, .ref a2, .ref a3, .ref a4, .ref a5, .int (nI mo), .int (nI cf), .int (nI cl), .int (nI ac), .int 1])), (a1, .inl (z1, 2000, .inl T)), (a2, .inl (z2, 2000, .inl F)), (a3, .inl (z3, 2000, .inl G)), (a4, .inl (z4, 2000, .inl L)), (a5, .inl (z5, 2001, .inl S2))]) hP hD [0, 1, 2, 3, 4, 5] [] rfl rfl (by decide) (by decide) hk1 hFc hP1 hD1
  generalize H1 = H at hP hS ⊢
  have hP : va_P (dC, dI) vwCl [(x, .inr (0, [.ref a1, .ref a2, .ref a3, .ref a4, .ref a5, .int (nI mo), .int (nI cf), .int (nI cl), .int (nI ac), .int 1])), (a1, .inl (z1, 2000, .inl T)), (a2, .inl (z2, 2000, .inl F)), (a3, .inl (z3, 2000, .inl G)), (a4, .inl (z4, 2000, .inl L)), (a5, .inl (z5, 2001, .inl S2))] H := hP
  have hD : va_D A [(x, .inr (0, [.ref a1, .ref a2, .ref a3, .ref a4, .ref a5, .int (nI mo), .int (nI cf), .int (nI cl), .int (nI ac), .int 1])), (a1, .inl (z1, 2000, .inl T)), (a2, .inl (z2, 2000, .inl F)), (a3, .inl (z3, 2000, .inl G)), (a4, .inl (z4, 2000, .inl L)), (a5, .inl (z5, 2001, .inl S2))] := hD
  refine lv_iconst (v := nI 0) hx hb dX0_below_4 (by decide) ?_
  refine lv_istore_n (lv' := [(1, .int (nI 0)), (0, .ref x)]) hx hb dX0_below_5 rfl hl (by decide) rfl (fun ls hl => ?_)
  refine lv_iconst (v := nI 0) hx hb dX0_below_6 (by decide) ?_
  refine lv_istore_n (lv' := [(2, .int (nI 0)), (1, .int (nI 0)), (0, .ref x)]) hx hb dX0_below_7 rfl hl (by decide) rfl (fun ls hl => ?_)
  refine lp_X0_below ⟨hx, hb, hml, hown, hts⟩ (sp := sr_sp mo ac tk fd fs la) hmo (fun k q => sr_sp_le g q) hS2 hK (Nat.le_of_ble_eq_true rfl) (Nat.le_of_ble_eq_true rfl) hI hA (fun k => sr_lim_le g k) (fun H locs ls hP hD hS hl => ?_) (mo + 2) 0 H locs ls (by omega) (by omega) hP hD hS (lv_sub hl [2, 1, 0] rfl)
  have hP : va_P (dC, dI) vwCl [(x, .inr (0, [.ref a1, .ref a2, .ref a3, .ref a4, .ref a5, .int (nI mo), .int (nI cf), .int (nI cl), .int (nI ac), .int 1])), (a1, .inl (z1, 2000, .inl T)), (a2, .inl (z2, 2000, .inl F)), (a3, .inl (z3, 2000, .inl G)), (a4, .inl (z4, 2000, .inl L)), (a5, .inl (z5, 2001, .inl S2))] H := hP
  have hD : va_D A [(x, .inr (0, [.ref a1, .ref a2, .ref a3, .ref a4, .ref a5, .int (nI mo), .int (nI cf), .int (nI cl), .int (nI ac), .int 1])), (a1, .inl (z1, 2000, .inl T)), (a2, .inl (z2, 2000, .inl F)), (a3, .inl (z3, 2000, .inl G)), (a4, .inl (z4, 2000, .inl L)), (a5, .inl (z5, 2001, .inl S2))] := hD
  refine lv_iload_n hx hb dX0_below_39 rfl (lv_at hl 0 rfl) ?_
  exact W.iret (v := nI (sr_cnt (sr_sp mo ac tk fd fs la) (sr_lim mo fd fs la) (mo + 1))) hx hb hr (fun t ht hW => ⟨⟨nI (sr_cnt (sr_sp mo ac tk fd fs la) (sr_lim mo fd fs la) (mo + 1)), _, rfl, ⟨S2, rfl, Or.inr ⟨rfl, hS2⟩, rfl⟩, by rw [ht]; exact hP, va_K.moved hW.alike hK, hD⟩, hS.F ht⟩) hS.2.2 dX0_below_40
end
section
/-! THE CLASS: move. -/
theorem sr_tm_up {mo f1 cf cl i : Nat} {fd fs la : Nat → Nat} (h : i < mo) : sr_tm (sr_up fd mo f1) (sr_up fs mo cf) (sr_up la mo cl) i = sr_tm fd fs la i := by
  have h1 : i - 1 ≠ mo := by omega
  have h2 : i ≠ mo := by omega
  unfold sr_tm
  simp only [sr_up_n h1, sr_up_n h2]
theorem sr_XI_push {mo : Nat} {tk fd fs la : Nat → Nat} {T F G L : Nat → Int32} (hI : sr_XI mo tk fd fs la T F G L) (n1 f1 cf cl : Nat) : sr_XI (mo + 1) (sr_up tk mo n1) (sr_up fd mo f1) (sr_up fs mo cf) (sr_up la mo cl) (upd T mo (nI n1)) (upd F mo (nI f1)) (upd G mo (nI cl)) (upd L mo (nI (sr_tm (sr_up fd mo f1) (sr_up fs mo cf) (sr_up la mo cl) mo))) := by
  intro i hi
  rcases Nat.lt_or_ge i mo with h | h
  · have e : i ≠ mo := by omega
    rw [pk_un e, pk_un e, pk_un e, pk_un e, sr_up_n e, sr_up_n e, sr_up_n e, sr_tm_up h]
    exact hI i h
  · obtain rfl : i = mo := by omega
    rw [pk_us, pk_us, pk_us, pk_us, sr_up_s, sr_up_s, sr_up_s]
    exact ⟨rfl, rfl, rfl, rfl⟩
set_option maxHeartbeats 4000000 in
set_option maxRecDepth 100000 in
theorem c_X0_move (l : Launch) (dC : Nat → ClassId) (dI : Nat → Nat → Nat) (x a1 a2 a3 a4 a5 : Nat) (z1 z2 z3 z4 z5 : ClassId) (sz : Nat) (mo cf cl ac : Nat) (st : Int32) (T F G L S : Nat → Int32) (n f : Int32) (tk fd fs la : Nat → Nat) (g : sr_G mo ac cf cl tk fd fs la) (hI : sr_XI mo tk fd fs la T F G L) : Met l yX0_move wsX0_move ({ frames := 3, cells := 0, slots := 0, locals := 68 }) (sr_pre dC dI (sr_tX z1 z2 z3 z4 z5) (sr_wX x a1 a2 a3 a4 a5 z1 z2 z3 z4 z5 mo cf cl ac st T F G L S) sz [.ref x, .int n, .int f]) (va_Qi (fun (r : Int32) (u : va_W) => (((1 ≤ n ∧ n ≤ 100000) ∧ (1 ≤ f ∧ f ≤ 99999) ∧ mo < 2000) ∧ r = nI (mo + 1) ∧ ∃ T' F' G' L' : Nat → Int32, u = sr_wX x a1 a2 a3 a4 a5 z1 z2 z3 z4 z5 (mo + 1) cf cl ac 0 T' F' G' L' S ∧ sr_XI (mo + 1) (sr_up tk mo n.toNatClampNeg) (sr_up fd mo f.toNatClampNeg) (sr_up fs mo cf) (sr_up la mo cl) T' F' G' L') ∨ (¬ ((1 ≤ n ∧ n ≤ 100000) ∧ (1 ≤ f ∧ f ≤ 99999) ∧ mo < 2000) ∧ r = -1 ∧ u = sr_wX x a1 a2 a3 a4 a5 z1 z2 z3 z4 z5 mo cf cl ac st T F G L S)) (sr_at dC dI (sr_tX z1 z2 z3 z4 z5) (va_A (sr_wX x a1 a2 a3 a4 a5 z1 z2 z3 z4 z5 mo cf cl ac st T F G L S) sz)) (va_A (sr_wX x a1 a2 a3 a4 a5 z1 z2 z3 z4 z5 mo cf cl ac st T F G L S) sz)) 0 0 (va_A (sr_wX x a1 a2 a3 a4 a5 z1 z2 z3 z4 z5 mo cf cl ac st T F G L S) sz) := by
  refine Met.ofW (cc := cX0_move) (maxL := 3) (ret := (some .int)) (by decide) rfl ?_
  intro p e s m args below meth c s₁ B hml hv
  obtain ⟨rfl, hsz, hP, hK, hD0⟩ := hv
  have hx := B.exec
  have hb := B.bytes
  have hr := B.returns
  have hts := atoms_spec (ws := wsX0_move) B.pre
  have hown : s.vm.findClass RX0 = some m.cls := findClass_of_methodNamed B.named
  have hlocks := B.notSynchronized
  subst hsz
  have hD := hD0.self (sz := s.heap.size)
  generalize hAe : va_A (sr_wX x a1 a2 a3 a4 a5 z1 z2 z3 z4 z5 mo cf cl ac st T F G L S) s.heap.size = A at hD ⊢
  have hA : ∀ q : Nat, s.heap.size ≤ q → A q := fun q h => by rw [← hAe]; exact Or.inr h
  have hS : va_S A s.heap s.heap [] := va_S.rf
  have hP : va_P (dC, dI) vwCl [(x, .inr (0, [.ref a1, .ref a2, .ref a3, .ref a4, .ref a5, .int (nI mo), .int (nI cf), .int (nI cl), .int (nI ac), .int st])), (a1, .inl (z1, 2000, .inl T)), (a2, .inl (z2, 2000, .inl F)), (a3, .inl (z3, 2000, .inl G)), (a4, .inl (z4, 2000, .inl L)), (a5, .inl (z5, 2001, .inl S))] s.heap := hP
  have hD : va_D A [(x, .inr (0, [.ref a1, .ref a2, .ref a3, .ref a4, .ref a5, .int (nI mo), .int (nI cf), .int (nI cl), .int (nI ac), .int st])), (a1, .inl (z1, 2000, .inl T)), (a2, .inl (z2, 2000, .inl F)), (a3, .inl (z3, 2000, .inl G)), (a4, .inl (z4, 2000, .inl L)), (a5, .inl (z5, 2001, .inl S))] := hD
  have hK : va_K (dC, dI) vwCl [(z1, .int), (z2, .int), (z3, .int), (z4, .int), (z5, .int)] s := hK
  have hin0 : ∀ w ∈ u_ws RX0 TX0 10, w ∈ wsX0_move := by decide +kernel
  have hl := lv_entry ([.ref x, .int n, .int f]) (n := 3) (Nat.le_of_ble_eq_true rfl)
  rw [lg_entry_eq]
  generalize (lg_sl ([.ref x, .int n, .int f]) ++ List.replicate (3 - (lg_sl ([.ref x, .int n, .int f])).length) Slot.unset).toArray = ls at hl ⊢
  have hl : lv_has ls 3 [(0, .ref x), (1, .int n), (2, .int f)] := hl
  obtain ⟨hmo, ⟨hac1, hac2⟩, hcf, hcl, hpath⟩ := id g
  refine lv_iload_n hx hb dX0_move_0 rfl (lv_at hl 1 rfl) ?_
  refine lv_iconst (v := 1) hx hb dX0_move_1 (by decide) ?_
  refine lv_ldc (v := 100000) hx hb hown (hts (.constant RX0 50 (100000)) (by decide +kernel)) dX0_move_2 ?_
  refine vp_callSi (W.runS (As := [.int n, .int 1, .int 100000]) (rest := []) ⟨hx, hb, hml, hown, hts⟩ (c_X0_isWithin l n 1 100000) (va_cwS 3 hts gX0_move_X0_isWithin rfl rfl rfl (by decide +kernel) ⟨Nat.le_of_ble_eq_true rfl, Nat.le_of_ble_eq_true rfl⟩) ⟨sr_blindT, sr_mkT⟩ rfl rfl hl.1 rfl (lv_room (Nat.le_of_ble_eq_true rfl)) dX0_move_4 ⟨Nat.zero_le _, Nat.zero_le _⟩) (fun r1 e1 => ?_)
  refine lv_if_eq (tgt := 30) hx hb dX0_move_7 (by decide) (fun c1 => ?_) (fun c1 => ?_)
  · have hc : ¬ (1 ≤ n ∧ n ≤ 100000) := by
      rcases e1 with ⟨q, _⟩ | ⟨_, q⟩
      · exact absurd (q.symm.trans c1) (by decide)
      · exact q
    refine lv_iconst (v := (-1)) hx hb dX0_move_30 (by decide) ?_
    exact W.iret (v := (-1)) hx hb hr (fun t ht hW => ⟨⟨(-1), _, rfl, Or.inr ⟨fun q => hc q.1, rfl, rfl⟩, by rw [ht]; exact hP, va_K.moved hW.alike hK, hD⟩, hS.F ht⟩) hS.2.2 dX0_move_31
  · have hc : 1 ≤ n ∧ n ≤ 100000 := by
      rcases e1 with ⟨_, q⟩ | ⟨q, _⟩
      · exact q
      · exact absurd q c1
    have hn := hc
    refine lv_iload_n hx hb dX0_move_10 rfl (lv_at hl 2 rfl) ?_
    refine lv_iconst (v := 1) hx hb dX0_move_11 (by decide) ?_
    refine lv_ldc (v := 99999) hx hb hown (hts (.constant RX0 54 (99999)) (by decide +kernel)) dX0_move_12 ?_
    refine vp_callSi (W.runS (As := [.int f, .int 1, .int 99999]) (rest := []) ⟨hx, hb, hml, hown, hts⟩ (c_X0_isWithin l f 1 99999) (va_cwS 3 hts gX0_move_X0_isWithin rfl rfl rfl (by decide +kernel) ⟨Nat.le_of_ble_eq_true rfl, Nat.le_of_ble_eq_true rfl⟩) ⟨sr_blindT, sr_mkT⟩ rfl rfl hl.1 rfl (lv_room (Nat.le_of_ble_eq_true rfl)) dX0_move_14 ⟨Nat.zero_le _, Nat.zero_le _⟩) (fun r2 e2 => ?_)
    refine lv_if_eq (tgt := 30) hx hb dX0_move_17 (by decide) (fun c2 => ?_) (fun c2 => ?_)
    · have hc : ¬ (1 ≤ f ∧ f ≤ 99999) := by
        rcases e2 with ⟨q, _⟩ | ⟨_, q⟩
        · exact absurd (q.symm.trans c2) (by decide)
        · exact q
      refine lv_iconst (v := (-1)) hx hb dX0_move_30 (by decide) ?_
      exact W.iret (v := (-1)) hx hb hr (fun t ht hW => ⟨⟨(-1), _, rfl, Or.inr ⟨fun q => hc q.2.1, rfl, rfl⟩, by rw [ht]; exact hP, va_K.moved hW.alike hK, hD⟩, hS.F ht⟩) hS.2.2 dX0_move_31
    · have hc : 1 ≤ f ∧ f ≤ 99999 := by
        rcases e2 with ⟨_, q⟩ | ⟨q, _⟩
        · exact q
        · exact absurd q c2
      have hf := hc
      refine lv_aload_n hx hb dX0_move_20 rfl (lv_at hl 0 rfl) ?_
      refine va_get (D := (dC, dI)) (ci := 0) (v := .int (nI mo)) (C := RX0) (T := TX0) (N := 10) hx hb hts hin0 hown hK hP 0 rfl rfl 5 (by decide) (hts (.fieldLink RX0 25 "SpeedRows" "moves" "I") (by decide +kernel)) (fun _ h9 => h9) rfl dX0_move_21 ?_
      refine lv_sipush (v := nI 2000) hx hb dX0_move_24 (by decide) ?_
      refine lv_icmp_lt (tgt := 32) hx hb dX0_move_27 (by decide) (fun c3 => ?_) (fun c3 => ?_)
      · have hm : mo < 2000 := (nI_ltI (by omega) (by omega)).mp c3
        obtain ⟨n1, hn1, rfl⟩ : ∃ j, j ≤ 100000 ∧ n = nI j := nI_of2 (M := 100000) (by decide) (fun q => absurd (Int32.lt_of_lt_of_le q (by decide : (0 : Int32) ≤ 1)) (Int32.not_lt.mpr hn.1)) hn.2
        obtain ⟨f1, hf1, rfl⟩ : ∃ j, j ≤ 99999 ∧ f = nI j := nI_of2 (M := 99999) (by decide) (fun q => absurd (Int32.lt_of_lt_of_le q (by decide : (0 : Int32) ≤ 1)) (Int32.not_lt.mpr hf.1)) hf.2
        refine lv_aload_n hx hb dX0_move_32 rfl (lv_at hl 0 rfl) ?_
        refine va_get (D := (dC, dI)) (ci := 0) (v := .ref a1) (C := RX0) (T := TX0) (N := 10) hx hb hts hin0 hown hK hP 0 rfl rfl 0 (by decide) (hts (.fieldLink RX0 9 "SpeedRows" "ticks" "[I") (by decide +kernel)) (fun _ h9 => h9) rfl dX0_move_33 ?_
        refine lv_aload_n hx hb dX0_move_36 rfl (lv_at hl 0 rfl) ?_
        refine va_get (D := (dC, dI)) (ci := 0) (v := .int (nI mo)) (C := RX0) (T := TX0) (N := 10) hx hb hts hin0 hown hK hP 0 rfl rfl 5 (by decide) (hts (.fieldLink RX0 25 "SpeedRows" "moves" "I") (by decide +kernel)) (fun _ h9 => h9) rfl dX0_move_37 ?_
        refine lv_iload_n hx hb dX0_move_40 rfl (lv_at hl 1 rfl) ?_
        refine sr_iast hx hb hK hP hD hS 1 0 rfl rfl (by omega) (by decide) dX0_move_41 (fun H locs hP hD hS => ?_)
        have hP : va_P (dC, dI) vwCl [(x, .inr (0, [.ref a1, .ref a2, .ref a3, .ref a4, .ref a5, .int (nI mo), .int (nI cf), .int (nI cl), .int (nI ac), .int st])), (a1, .inl (z1, 2000, .inl (upd T mo (nI n1)))), (a2, .inl (z2, 2000, .inl F)), (a3, .inl (z3, 2000, .inl G)), (a4, .inl (z4, 2000, .inl L)), (a5, .inl (z5, 2001, .inl S))] H := hP
        have hD : va_D A [(x, .inr (0, [.ref a1, .ref a2, .ref a3, .ref a4, .ref a5, .int (nI mo), .int (nI cf), .int (nI cl), .int (nI ac), .int st])), (a1, .inl (z1, 2000, .inl (upd T mo (nI n1)))), (a2, .inl (z2, 2000, .inl F)), (a3, .inl (z3, 2000, .inl G)), (a4, .inl (z4, 2000, .inl L)), (a5, .inl (z5, 2001, .inl S))] := hD
        refine lv_aload_n hx hb dX0_move_42 rfl (lv_at hl 0 rfl) ?_
        refine va_get (D := (dC, dI)) (ci := 0) (v := .ref a2) (C := RX0) (T := TX0) (N := 10) hx hb hts hin0 hown hK hP 0 rfl rfl 1 (by decide) (hts (.fieldLink RX0 13 "SpeedRows" "feeds" "[I") (by decide +kernel)) (fun _ h9 => h9) rfl dX0_move_43 ?_
        refine lv_aload_n hx hb dX0_move_46 rfl (lv_at hl 0 rfl) ?_
        refine va_get (D := (dC, dI)) (ci := 0) (v := .int (nI mo)) (C := RX0) (T := TX0) (N := 10) hx hb hts hin0 hown hK hP 0 rfl rfl 5 (by decide) (hts (.fieldLink RX0 25 "SpeedRows" "moves" "I") (by decide +kernel)) (fun _ h9 => h9) rfl dX0_move_47 ?_
        refine lv_iload_n hx hb dX0_move_50 rfl (lv_at hl 2 rfl) ?_
        refine sr_iast hx hb hK hP hD hS 2 1 rfl rfl (by omega) (by decide) dX0_move_51 (fun H locs hP hD hS => ?_)
        have hP : va_P (dC, dI) vwCl [(x, .inr (0, [.ref a1, .ref a2, .ref a3, .ref a4, .ref a5, .int (nI mo), .int (nI cf), .int (nI cl), .int (nI ac), .int st])), (a1, .inl (z1, 2000, .inl (upd T mo (nI n1)))), (a2, .inl (z2, 2000, .inl (upd F mo (nI f1)))), (a3, .inl (z3, 2000, .inl G)), (a4, .inl (z4, 2000, .inl L)), (a5, .inl (z5, 2001, .inl S))] H := hP
        have hD : va_D A [(x, .inr (0, [.ref a1, .ref a2, .ref a3, .ref a4, .ref a5, .int (nI mo), .int (nI cf), .int (nI cl), .int (nI ac), .int st])), (a1, .inl (z1, 2000, .inl (upd T mo (nI n1)))), (a2, .inl (z2, 2000, .inl (upd F mo (nI f1)))), (a3, .inl (z3, 2000, .inl G)), (a4, .inl (z4, 2000, .inl L)), (a5, .inl (z5, 2001, .inl S))] := hD
        refine lv_aload_n hx hb dX0_move_52 rfl (lv_at hl 0 rfl) ?_
        refine va_get (D := (dC, dI)) (ci := 0) (v := .ref a3) (C := RX0) (T := TX0) (N := 10) hx hb hts hin0 hown hK hP 0 rfl rfl 2 (by decide) (hts (.fieldLink RX0 16 "SpeedRows" "lastSteps" "[I") (by decide +kernel)) (fun _ h9 => h9) rfl dX0_move_53 ?_
        refine lv_aload_n hx hb dX0_move_56 rfl (lv_at hl 0 rfl) ?_
        refine va_get (D := (dC, dI)) (ci := 0) (v := .int (nI mo)) (C := RX0) (T := TX0) (N := 10) hx hb hts hin0 hown hK hP 0 rfl rfl 5 (by decide) (hts (.fieldLink RX0 25 "SpeedRows" "moves" "I") (by decide +kernel)) (fun _ h9 => h9) rfl dX0_move_57 ?_
        refine lv_aload_n hx hb dX0_move_60 rfl (lv_at hl 0 rfl) ?_
        refine va_get (D := (dC, dI)) (ci := 0) (v := .int (nI cl)) (C := RX0) (T := TX0) (N := 10) hx hb hts hin0 hown hK hP 0 rfl rfl 7 (by decide) (hts (.fieldLink RX0 36 "SpeedRows" "nextLast" "I") (by decide +kernel)) (fun _ h9 => h9) rfl dX0_move_61 ?_
        refine sr_iast hx hb hK hP hD hS 3 2 rfl rfl (by omega) (by decide) dX0_move_64 (fun H locs hP hD hS => ?_)
        have hP : va_P (dC, dI) vwCl [(x, .inr (0, [.ref a1, .ref a2, .ref a3, .ref a4, .ref a5, .int (nI mo), .int (nI cf), .int (nI cl), .int (nI ac), .int st])), (a1, .inl (z1, 2000, .inl (upd T mo (nI n1)))), (a2, .inl (z2, 2000, .inl (upd F mo (nI f1)))), (a3, .inl (z3, 2000, .inl (upd G mo (nI cl)))), (a4, .inl (z4, 2000, .inl L)), (a5, .inl (z5, 2001, .inl S))] H := hP
        have hD : va_D A [(x, .inr (0, [.ref a1, .ref a2, .ref a3, .ref a4, .ref a5, .int (nI mo), .int (nI cf), .int (nI cl), .int (nI ac), .int st])), (a1, .inl (z1, 2000, .inl (upd T mo (nI n1)))), (a2, .inl (z2, 2000, .inl (upd F mo (nI f1)))), (a3, .inl (z3, 2000, .inl (upd G mo (nI cl)))), (a4, .inl (z4, 2000, .inl L)), (a5, .inl (z5, 2001, .inl S))] := hD
        refine lv_aload_n hx hb dX0_move_65 rfl (lv_at hl 0 rfl) ?_
        refine va_get (D := (dC, dI)) (ci := 0) (v := .ref a4) (C := RX0) (T := TX0) (N := 10) hx hb hts hin0 hown hK hP 0 rfl rfl 3 (by decide) (hts (.fieldLink RX0 19 "SpeedRows" "turnLimits" "[I") (by decide +kernel)) (fun _ h9 => h9) rfl dX0_move_66 ?_
        refine lv_aload_n hx hb dX0_move_69 rfl (lv_at hl 0 rfl) ?_
        refine va_get (D := (dC, dI)) (ci := 0) (v := .int (nI mo)) (C := RX0) (T := TX0) (N := 10) hx hb hts hin0 hown hK hP 0 rfl rfl 5 (by decide) (hts (.fieldLink RX0 25 "SpeedRows" "moves" "I") (by decide +kernel)) (fun _ h9 => h9) rfl dX0_move_70 ?_
        refine lv_aload_n hx hb dX0_move_73 rfl (lv_at hl 0 rfl) ?_
        refine va_get (D := (dC, dI)) (ci := 0) (v := .int (nI mo)) (C := RX0) (T := TX0) (N := 10) hx hb hts hin0 hown hK hP 0 rfl rfl 5 (by decide) (hts (.fieldLink RX0 25 "SpeedRows" "moves" "I") (by decide +kernel)) (fun _ h9 => h9) rfl dX0_move_74 ?_
        refine lv_if_ne (tgt := 84) hx hb dX0_move_77 (by decide) (fun c4 => ?_) (fun c4 => ?_)
        · have hm0 : mo ≠ 0 := fun q => c4 (by rw [q]; decide)
          have hm1 : mo - 1 < mo := by omega
          refine lv_aload_n hx hb dX0_move_84 rfl (lv_at hl 0 rfl) ?_
          refine lv_aload_n hx hb dX0_move_85 rfl (lv_at hl 0 rfl) ?_
          refine va_get (D := (dC, dI)) (ci := 0) (v := .int (nI mo)) (C := RX0) (T := TX0) (N := 10) hx hb hts hin0 hown hK hP 0 rfl rfl 5 (by decide) (hts (.fieldLink RX0 25 "SpeedRows" "moves" "I") (by decide +kernel)) (fun _ h9 => h9) rfl dX0_move_86 ?_
          refine lv_iconst (v := nI 1) hx hb dX0_move_89 (by decide) ?_
          refine lv_isub hx hb dX0_move_90 ?_
          refine sr_ti (y := nI (mo - 1)) (pk_sub (by omega)) ?_
          refine lv_iload_n hx hb dX0_move_91 rfl (lv_at hl 2 rfl) ?_
          have hPc := hP.sub (ws' := [(x, .inr (0, [.ref a1, .ref a2, .ref a3, .ref a4, .ref a5, .int (nI mo), .int (nI cf), .int (nI cl), .int (nI ac), .int st])), (a1, .inl (z1, 2000, .inl (upd T mo (nI n1)))), (a2, .inl (z2, 2000, .inl (upd F mo (nI f1)))), (a3, .inl (z3, 2000, .inl (upd G mo (nI cl)))), (a4, .inl (z4, 2000, .inl L)), (a5, .inl (z5, 2001, .inl S))]) [0, 1, 2, 3, 4, 5] rfl
          have hDc := hD.sub (ws' := [(x, .inr (0, [.ref a1, .ref a2, .ref a3, .ref a4, .ref a5, .int (nI mo), .int (nI cf), .int (nI cl), .int (nI ac), .int st])), (a1, .inl (z1, 2000, .inl (upd T mo (nI n1)))), (a2, .inl (z2, 2000, .inl (upd F mo (nI f1)))), (a3, .inl (z3, 2000, .inl (upd G mo (nI cl)))), (a4, .inl (z4, 2000, .inl L)), (a5, .inl (z5, 2001, .inl S))]) [0, 1, 2, 3, 4, 5] (by decide) rfl
          have hKc := hK.sub (tys' := [(z1, .int), (z2, .int), (z3, .int), (z4, .int), (z5, .int)]) [0, 1, 2, 3, 4] rfl
          have hFc := va_free (wc := [(x, .inr (0, [.ref a1, .ref a2, .ref a3, .ref a4, .ref a5, .int (nI mo), .int (nI cf), .int (nI cl), .int (nI ac), .int st])), (a1, .inl (z1, 2000, .inl (upd T mo (nI n1)))), (a2, .inl (z2, 2000, .inl (upd F mo (nI f1)))), (a3, .inl (z3, 2000, .inl (upd G mo (nI cl)))), (a4, .inl (z4, 2000, .inl L)), (a5, .inl (z5, 2001, .inl S))]) hD hS hA [0, 1, 2, 3, 4, 5] rfl
          refine va_calli (va_runV (As := [.int (nI (mo - 1)), .int (nI f1)]) (rest := [.int (nI mo), .ref a4]) ⟨hx, hb, hml, hown, hts⟩ (c_X0_turnLimit l dC dI x a1 a2 a3 a4 a5 z1 z2 z3 z4 z5 H.size mo cf cl ac st (upd T mo (nI n1)) (upd F mo (nI f1)) (upd G mo (nI cl)) L S (mo - 1) (la (mo - 1)) (fd (mo - 1)) f1 (by omega) (hpath _ hm1).2.2.2 hcf (by rw [pk_un (by omega)]; exact (hI _ hm1).2.2.1) (by rw [pk_un (by omega)]; exact (hI _ hm1).2.1) (hpath _ hm1).2.1.2 hf1) (cwV 2 hts gX0_move_X0_turnLimit rfl rfl rfl (by decide +kernel) ⟨Nat.le_of_ble_eq_true rfl, Nat.le_of_ble_eq_true rfl⟩) ⟨sr_blind, va_recv hKc hPc (ci := 0) (q0 := 0) rfl rfl, sr_mk hPc hKc hDc⟩ rfl rfl hl.1 rfl (lv_room (Nat.le_of_ble_eq_true rfl)) dX0_move_92 ⟨Nat.zero_le _, Nat.zero_le _⟩) hS (fun q _ h => hFc q h) hFc (fun r4 u t H1 locs ht hvm hw hB hz1 hk1 hS => ?_)
          obtain ⟨hP1, hK1, hD1⟩ := hB
          rw [ht] at hP1
          obtain ⟨rfl, rfl⟩ := hw
          obtain ⟨hP, hD⟩ := va_join (wr := []) (w1 := [(x, .inr (0, [.ref a1, .ref a2, .ref a3, .ref a4, .ref a5, .int (nI mo), .int (nI cf), .int (nI cl), .int (nI ac), .int st])), (a1, .inl (z1, 2000, .inl (upd T mo (nI n1)))), (a2, .inl (z2, 2000, .inl (upd F mo (nI f1)))), (a3, .inl (z3, 2000, .inl (upd G mo (nI cl)))), (a4, .inl (z4, 2000, .inl L)), (a5, .inl (z5, 2001, .inl S))]) hP hD [0, 1, 2, 3, 4, 5] [] rfl rfl (by decide) (by decide) hk1 hFc hP1 hD1
          generalize H1 = H at hP hS ⊢
          have hP : va_P (dC, dI) vwCl [(x, .inr (0, [.ref a1, .ref a2, .ref a3, .ref a4, .ref a5, .int (nI mo), .int (nI cf), .int (nI cl), .int (nI ac), .int st])), (a1, .inl (z1, 2000, .inl (upd T mo (nI n1)))), (a2, .inl (z2, 2000, .inl (upd F mo (nI f1)))), (a3, .inl (z3, 2000, .inl (upd G mo (nI cl)))), (a4, .inl (z4, 2000, .inl L)), (a5, .inl (z5, 2001, .inl S))] H := hP
          have hD : va_D A [(x, .inr (0, [.ref a1, .ref a2, .ref a3, .ref a4, .ref a5, .int (nI mo), .int (nI cf), .int (nI cl), .int (nI ac), .int st])), (a1, .inl (z1, 2000, .inl (upd T mo (nI n1)))), (a2, .inl (z2, 2000, .inl (upd F mo (nI f1)))), (a3, .inl (z3, 2000, .inl (upd G mo (nI cl)))), (a4, .inl (z4, 2000, .inl L)), (a5, .inl (z5, 2001, .inl S))] := hD
          refine sr_ti (y := nI (sr_tm (sr_up fd mo f1) (sr_up fs mo cf) (sr_up la mo cl) mo)) (by rw [sr_tm, if_neg hm0, sr_up_s, sr_up_s, sr_up_n (by omega), sr_up_n (by omega)]) ?_
          refine sr_iast hx hb hK hP hD hS 4 3 rfl rfl (by omega) (by decide) dX0_move_95 (fun H locs hP hD hS => ?_)
          have hP : va_P (dC, dI) vwCl [(x, .inr (0, [.ref a1, .ref a2, .ref a3, .ref a4, .ref a5, .int (nI mo), .int (nI cf), .int (nI cl), .int (nI ac), .int st])), (a1, .inl (z1, 2000, .inl (upd T mo (nI n1)))), (a2, .inl (z2, 2000, .inl (upd F mo (nI f1)))), (a3, .inl (z3, 2000, .inl (upd G mo (nI cl)))), (a4, .inl (z4, 2000, .inl (upd L mo (nI (sr_tm (sr_up fd mo f1) (sr_up fs mo cf) (sr_up la mo cl) mo))))), (a5, .inl (z5, 2001, .inl S))] H := hP
          have hD : va_D A [(x, .inr (0, [.ref a1, .ref a2, .ref a3, .ref a4, .ref a5, .int (nI mo), .int (nI cf), .int (nI cl), .int (nI ac), .int st])), (a1, .inl (z1, 2000, .inl (upd T mo (nI n1)))), (a2, .inl (z2, 2000, .inl (upd F mo (nI f1)))), (a3, .inl (z3, 2000, .inl (upd G mo (nI cl)))), (a4, .inl (z4, 2000, .inl (upd L mo (nI (sr_tm (sr_up fd mo f1) (sr_up fs mo cf) (sr_up la mo cl) mo))))), (a5, .inl (z5, 2001, .inl S))] := hD
          refine lv_aload_n hx hb dX0_move_96 rfl (lv_at hl 0 rfl) ?_
          refine lv_dup hx hb dX0_move_97 rfl ?_
          refine va_get (D := (dC, dI)) (ci := 0) (v := .int (nI mo)) (C := RX0) (T := TX0) (N := 10) hx hb hts hin0 hown hK hP 0 rfl rfl 5 (by decide) (hts (.fieldLink RX0 25 "SpeedRows" "moves" "I") (by decide +kernel)) (fun _ h9 => h9) rfl dX0_move_98 ?_
          refine lv_iconst (v := nI 1) hx hb dX0_move_101 (by decide) ?_
          refine lv_iadd hx hb dX0_move_102 ?_
          refine sr_ti (y := nI (mo + 1)) (nI_add _ _) ?_
          refine va_put (D := (dC, dI)) (ci := 0) (v := .int (nI (mo + 1))) (ty := .int) (C := RX0) (T := TX0) (N := 10) hx hb hts hin0 tyX0 tyX0_ok nmX0 hown hK hP hD hS 0 rfl rfl 5 (by decide) (hts (.fieldLink RX0 25 "SpeedRows" "moves" "I") (by decide +kernel)) (fun _ h9 => h9) rfl (by decide +kernel) rfl rfl (Nat.le_of_ble_eq_true rfl) dX0_move_103 (fun H locs hP hD hS => ?_)
          have hP : va_P (dC, dI) vwCl [(x, .inr (0, [.ref a1, .ref a2, .ref a3, .ref a4, .ref a5, .int (nI (mo + 1)), .int (nI cf), .int (nI cl), .int (nI ac), .int st])), (a1, .inl (z1, 2000, .inl (upd T mo (nI n1)))), (a2, .inl (z2, 2000, .inl (upd F mo (nI f1)))), (a3, .inl (z3, 2000, .inl (upd G mo (nI cl)))), (a4, .inl (z4, 2000, .inl (upd L mo (nI (sr_tm (sr_up fd mo f1) (sr_up fs mo cf) (sr_up la mo cl) mo))))), (a5, .inl (z5, 2001, .inl S))] H := hP
          have hD : va_D A [(x, .inr (0, [.ref a1, .ref a2, .ref a3, .ref a4, .ref a5, .int (nI (mo + 1)), .int (nI cf), .int (nI cl), .int (nI ac), .int st])), (a1, .inl (z1, 2000, .inl (upd T mo (nI n1)))), (a2, .inl (z2, 2000, .inl (upd F mo (nI f1)))), (a3, .inl (z3, 2000, .inl (upd G mo (nI cl)))), (a4, .inl (z4, 2000, .inl (upd L mo (nI (sr_tm (sr_up fd mo f1) (sr_up fs mo cf) (sr_up la mo cl) mo))))), (a5, .inl (z5, 2001, .inl S))] := hD
          refine lv_aload_n hx hb dX0_move_106 rfl (lv_at hl 0 rfl) ?_
          refine lv_iconst (v := 0) hx hb dX0_move_107 (by decide) ?_
          refine va_put (D := (dC, dI)) (ci := 0) (v := .int 0) (ty := .boolean) (C := RX0) (T := TX0) (N := 10) hx hb hts hin0 tyX0 tyX0_ok nmX0 hown hK hP hD hS 0 rfl rfl 9 (by decide) (hts (.fieldLink RX0 42 "SpeedRows" "speedsStand" "Z") (by decide +kernel)) (fun _ h9 => h9) rfl (by decide +kernel) rfl rfl (Nat.le_of_ble_eq_true rfl) dX0_move_108 (fun H locs hP hD hS => ?_)
          have hP : va_P (dC, dI) vwCl [(x, .inr (0, [.ref a1, .ref a2, .ref a3, .ref a4, .ref a5, .int (nI (mo + 1)), .int (nI cf), .int (nI cl), .int (nI ac), .int 0])), (a1, .inl (z1, 2000, .inl (upd T mo (nI n1)))), (a2, .inl (z2, 2000, .inl (upd F mo (nI f1)))), (a3, .inl (z3, 2000, .inl (upd G mo (nI cl)))), (a4, .inl (z4, 2000, .inl (upd L mo (nI (sr_tm (sr_up fd mo f1) (sr_up fs mo cf) (sr_up la mo cl) mo))))), (a5, .inl (z5, 2001, .inl S))] H := hP
          have hD : va_D A [(x, .inr (0, [.ref a1, .ref a2, .ref a3, .ref a4, .ref a5, .int (nI (mo + 1)), .int (nI cf), .int (nI cl), .int (nI ac), .int 0])), (a1, .inl (z1, 2000, .inl (upd T mo (nI n1)))), (a2, .inl (z2, 2000, .inl (upd F mo (nI f1)))), (a3, .inl (z3, 2000, .inl (upd G mo (nI cl)))), (a4, .inl (z4, 2000, .inl (upd L mo (nI (sr_tm (sr_up fd mo f1) (sr_up fs mo cf) (sr_up la mo cl) mo))))), (a5, .inl (z5, 2001, .inl S))] := hD
          refine lv_aload_n hx hb dX0_move_111 rfl (lv_at hl 0 rfl) ?_
          refine va_get (D := (dC, dI)) (ci := 0) (v := .int (nI (mo + 1))) (C := RX0) (T := TX0) (N := 10) hx hb hts hin0 hown hK hP 0 rfl rfl 5 (by decide) (hts (.fieldLink RX0 25 "SpeedRows" "moves" "I") (by decide +kernel)) (fun _ h9 => h9) rfl dX0_move_112 ?_
          exact W.iret (v := nI (mo + 1)) hx hb hr (fun t ht hW => ⟨⟨nI (mo + 1), _, rfl, Or.inl ⟨⟨hn, hf, hm⟩, rfl, _, _, _, _, rfl, by rw [nI_clamp (by omega), nI_clamp (by omega)]; exact sr_XI_push hI n1 f1 cf cl⟩, by rw [ht]; exact hP, va_K.moved hW.alike hK, hD⟩, hS.F ht⟩) hS.2.2 dX0_move_115
        · have hm0 : mo = 0 := (nI_eq (by omega) (by omega)).mp c4
          refine lv_iconst (v := nI 0) hx hb dX0_move_80 (by decide) ?_
          refine lv_goto (tgt := 95) hx hb dX0_move_81 (by decide) ?_
          refine sr_ti (y := nI (sr_tm (sr_up fd mo f1) (sr_up fs mo cf) (sr_up la mo cl) mo)) (by rw [sr_tm, if_pos hm0]) ?_
          refine sr_iast hx hb hK hP hD hS 4 3 rfl rfl (by omega) (by decide) dX0_move_95 (fun H locs hP hD hS => ?_)
          have hP : va_P (dC, dI) vwCl [(x, .inr (0, [.ref a1, .ref a2, .ref a3, .ref a4, .ref a5, .int (nI mo), .int (nI cf), .int (nI cl), .int (nI ac), .int st])), (a1, .inl (z1, 2000, .inl (upd T mo (nI n1)))), (a2, .inl (z2, 2000, .inl (upd F mo (nI f1)))), (a3, .inl (z3, 2000, .inl (upd G mo (nI cl)))), (a4, .inl (z4, 2000, .inl (upd L mo (nI (sr_tm (sr_up fd mo f1) (sr_up fs mo cf) (sr_up la mo cl) mo))))), (a5, .inl (z5, 2001, .inl S))] H := hP
          have hD : va_D A [(x, .inr (0, [.ref a1, .ref a2, .ref a3, .ref a4, .ref a5, .int (nI mo), .int (nI cf), .int (nI cl), .int (nI ac), .int st])), (a1, .inl (z1, 2000, .inl (upd T mo (nI n1)))), (a2, .inl (z2, 2000, .inl (upd F mo (nI f1)))), (a3, .inl (z3, 2000, .inl (upd G mo (nI cl)))), (a4, .inl (z4, 2000, .inl (upd L mo (nI (sr_tm (sr_up fd mo f1) (sr_up fs mo cf) (sr_up la mo cl) mo))))), (a5, .inl (z5, 2001, .inl S))] := hD
          refine lv_aload_n hx hb dX0_move_96 rfl (lv_at hl 0 rfl) ?_
          refine lv_dup hx hb dX0_move_97 rfl ?_
          refine va_get (D := (dC, dI)) (ci := 0) (v := .int (nI mo)) (C := RX0) (T := TX0) (N := 10) hx hb hts hin0 hown hK hP 0 rfl rfl 5 (by decide) (hts (.fieldLink RX0 25 "SpeedRows" "moves" "I") (by decide +kernel)) (fun _ h9 => h9) rfl dX0_move_98 ?_
          refine lv_iconst (v := nI 1) hx hb dX0_move_101 (by decide) ?_
          refine lv_iadd hx hb dX0_move_102 ?_
          refine sr_ti (y := nI (mo + 1)) (nI_add _ _) ?_
          refine va_put (D := (dC, dI)) (ci := 0) (v := .int (nI (mo + 1))) (ty := .int) (C := RX0) (T := TX0) (N := 10) hx hb hts hin0 tyX0 tyX0_ok nmX0 hown hK hP hD hS 0 rfl rfl 5 (by decide) (hts (.fieldLink RX0 25 "SpeedRows" "moves" "I") (by decide +kernel)) (fun _ h9 => h9) rfl (by decide +kernel) rfl rfl (Nat.le_of_ble_eq_true rfl) dX0_move_103 (fun H locs hP hD hS => ?_)
          have hP : va_P (dC, dI) vwCl [(x, .inr (0, [.ref a1, .ref a2, .ref a3, .ref a4, .ref a5, .int (nI (mo + 1)), .int (nI cf), .int (nI cl), .int (nI ac), .int st])), (a1, .inl (z1, 2000, .inl (upd T mo (nI n1)))), (a2, .inl (z2, 2000, .inl (upd F mo (nI f1)))), (a3, .inl (z3, 2000, .inl (upd G mo (nI cl)))), (a4, .inl (z4, 2000, .inl (upd L mo (nI (sr_tm (sr_up fd mo f1) (sr_up fs mo cf) (sr_up la mo cl) mo))))), (a5, .inl (z5, 2001, .inl S))] H := hP
          have hD : va_D A [(x, .inr (0, [.ref a1, .ref a2, .ref a3, .ref a4, .ref a5, .int (nI (mo + 1)), .int (nI cf), .int (nI cl), .int (nI ac), .int st])), (a1, .inl (z1, 2000, .inl (upd T mo (nI n1)))), (a2, .inl (z2, 2000, .inl (upd F mo (nI f1)))), (a3, .inl (z3, 2000, .inl (upd G mo (nI cl)))), (a4, .inl (z4, 2000, .inl (upd L mo (nI (sr_tm (sr_up fd mo f1) (sr_up fs mo cf) (sr_up la mo cl) mo))))), (a5, .inl (z5, 2001, .inl S))] := hD
          refine lv_aload_n hx hb dX0_move_106 rfl (lv_at hl 0 rfl) ?_
          refine lv_iconst (v := 0) hx hb dX0_move_107 (by decide) ?_
          refine va_put (D := (dC, dI)) (ci := 0) (v := .int 0) (ty := .boolean) (C := RX0) (T := TX0) (N := 10) hx hb hts hin0 tyX0 tyX0_ok nmX0 hown hK hP hD hS 0 rfl rfl 9 (by decide) (hts (.fieldLink RX0 42 "SpeedRows" "speedsStand" "Z") (by decide +kernel)) (fun _ h9 => h9) rfl (by decide +kernel) rfl rfl (Nat.le_of_ble_eq_true rfl) dX0_move_108 (fun H locs hP hD hS => ?_)
          have hP : va_P (dC, dI) vwCl [(x, .inr (0, [.ref a1, .ref a2, .ref a3, .ref a4, .ref a5, .int (nI (mo + 1)), .int (nI cf), .int (nI cl), .int (nI ac), .int 0])), (a1, .inl (z1, 2000, .inl (upd T mo (nI n1)))), (a2, .inl (z2, 2000, .inl (upd F mo (nI f1)))), (a3, .inl (z3, 2000, .inl (upd G mo (nI cl)))), (a4, .inl (z4, 2000, .inl (upd L mo (nI (sr_tm (sr_up fd mo f1) (sr_up fs mo cf) (sr_up la mo cl) mo))))), (a5, .inl (z5, 2001, .inl S))] H := hP
          have hD : va_D A [(x, .inr (0, [.ref a1, .ref a2, .ref a3, .ref a4, .ref a5, .int (nI (mo + 1)), .int (nI cf), .int (nI cl), .int (nI ac), .int 0])), (a1, .inl (z1, 2000, .inl (upd T mo (nI n1)))), (a2, .inl (z2, 2000, .inl (upd F mo (nI f1)))), (a3, .inl (z3, 2000, .inl (upd G mo (nI cl)))), (a4, .inl (z4, 2000, .inl (upd L mo (nI (sr_tm (sr_up fd mo f1) (sr_up fs mo cf) (sr_up la mo cl) mo))))), (a5, .inl (z5, 2001, .inl S))] := hD
          refine lv_aload_n hx hb dX0_move_111 rfl (lv_at hl 0 rfl) ?_
          refine va_get (D := (dC, dI)) (ci := 0) (v := .int (nI (mo + 1))) (C := RX0) (T := TX0) (N := 10) hx hb hts hin0 hown hK hP 0 rfl rfl 5 (by decide) (hts (.fieldLink RX0 25 "SpeedRows" "moves" "I") (by decide +kernel)) (fun _ h9 => h9) rfl dX0_move_112 ?_
          exact W.iret (v := nI (mo + 1)) hx hb hr (fun t ht hW => ⟨⟨nI (mo + 1), _, rfl, Or.inl ⟨⟨hn, hf, hm⟩, rfl, _, _, _, _, rfl, by rw [nI_clamp (by omega), nI_clamp (by omega)]; exact sr_XI_push hI n1 f1 cf cl⟩, by rw [ht]; exact hP, va_K.moved hW.alike hK, hD⟩, hS.F ht⟩) hS.2.2 dX0_move_115
      · refine lv_iconst (v := (-1)) hx hb dX0_move_30 (by decide) ?_
        exact W.iret (v := (-1)) hx hb hr (fun t ht hW => ⟨⟨(-1), _, rfl, Or.inr ⟨fun q => c3 ((nI_ltI (by omega) (by omega)).mpr q.2.2), rfl, rfl⟩, by rw [ht]; exact hP, va_K.moved hW.alike hK, hD⟩, hS.F ht⟩) hS.2.2 dX0_move_31
end
section
/-! THE CLASS: the constructor. -/
theorem sr_ca_i (n : Nat) : ∀ cA : ClassId, vp_cell cA (n, .inl (fun _ => (0 : Int32))) = arrV cA n (fun _ => defaultValue .int) := fun _ => rfl
theorem sr_ca_b (n : Nat) : ∀ cA : ClassId, vp_cell cA (n, .inl (fun _ => (0 : Int32))) = arrV cA n (fun _ => defaultValue .byte) := fun _ => rfl
set_option maxHeartbeats 400000 in
set_option maxRecDepth 100000 in
theorem c_X0_init (l : Launch) (dC : Nat → ClassId) (dI : Nat → Nat → Nat) (x sz : Nat) : Met l yX0_init wsX0_init ({ frames := 1, cells := 5, slots := 10001, locals := 22 }) (sr_pre dC dI [] [(x, .inr (0, [.null, .null, .null, .null, .null, .int 0, .int 0, .int 0, .int 0, .int 0]))] sz [.ref x]) (va_Qv (fun (u : va_W × List (ClassId × FieldType)) => ∃ (a1 a2 a3 a4 a5 : Nat) (z1 z2 z3 z4 z5 : ClassId), u = (sr_wX x a1 a2 a3 a4 a5 z1 z2 z3 z4 z5 0 22 22 100 0 (fun _ => 0) (fun _ => 0) (fun _ => 0) (fun _ => 0) (fun _ => 0), sr_tX z1 z2 z3 z4 z5)) (fun u t => va_P (dC, dI) vwCl u.1 t.heap ∧ va_K (dC, dI) vwCl u.2 t ∧ va_D (va_A [(x, .inr (0, [.null, .null, .null, .null, .null, .int 0, .int 0, .int 0, .int 0, .int 0]))] sz) u.1) (va_A [(x, .inr (0, [.null, .null, .null, .null, .null, .int 0, .int 0, .int 0, .int 0, .int 0]))] sz)) 5 10001 (va_A [(x, .inr (0, [.null, .null, .null, .null, .null, .int 0, .int 0, .int 0, .int 0, .int 0]))] sz) := by
  refine Met.ofW (cc := cX0_init) (maxL := 1) (ret := none) (by decide) rfl ?_
  intro p e s m args below meth c s₁ B hml hv
  obtain ⟨rfl, hsz, hP, hK, hD0⟩ := hv
  have hx := B.exec
  have hb := B.bytes
  have hr := B.returns
  have hts := atoms_spec (ws := wsX0_init) B.pre
  have hown : s.vm.findClass RX0 = some m.cls := findClass_of_methodNamed B.named
  have hlocks := B.notSynchronized
  have hin : meth.name = "<init>" := (name_of_methodNamed B.named B.method).1
  subst hsz
  have hD := hD0.self (sz := s.heap.size)
  generalize hAe : va_A [(x, .inr (0, [.null, .null, .null, .null, .null, .int 0, .int 0, .int 0, .int 0, .int 0]))] s.heap.size = A at hD ⊢
  have hA : ∀ q : Nat, s.heap.size ≤ q → A q := fun q h => by rw [← hAe]; exact Or.inr h
  have hS : va_S A s.heap s.heap [] := va_S.rf
  have hP : va_P (dC, dI) vwCl [(x, .inr (0, [.null, .null, .null, .null, .null, .int 0, .int 0, .int 0, .int 0, .int 0]))] s.heap := hP
  have hD : va_D A [(x, .inr (0, [.null, .null, .null, .null, .null, .int 0, .int 0, .int 0, .int 0, .int 0]))] := hD
  have hK : va_K (dC, dI) vwCl [] s := hK
  have hin0 : ∀ w ∈ u_ws RX0 TX0 10, w ∈ wsX0_init := by decide +kernel
  have hl := lv_entry ([.ref x]) (n := 1) (Nat.le_of_ble_eq_true rfl)
  rw [lg_entry_eq]
  generalize (lg_sl ([.ref x]) ++ List.replicate (1 - (lg_sl ([.ref x])).length) Slot.unset).toArray = ls at hl ⊢
  have hl : lv_has ls 1 [(0, .ref x)] := hl
  refine lv_aload_n hx hb dX0_init_0 rfl (lv_at hl 0 rfl) ?_
  refine W.objInit hx hb hown (hts (.methodLink RX0 1 objectInit) (by decide +kernel)) (hts (.instanceMethod objectInit) (by decide +kernel)) (hts _ (List.mem_cons_of_mem _ (List.mem_append_left _ (List.mem_of_getElem? (i := 2) rfl)))) rfl (by rw [hml]; exact hl.1) rfl dX0_init_1 (Nat.le_of_ble_eq_true rfl) (Nat.le_of_ble_eq_true rfl) ?_
  refine W.eq (g2 := F0 m 4 ls []) rfl ?_
  refine lv_aload_n hx hb dX0_init_4 rfl (lv_at hl 0 rfl) ?_
  refine lv_sipush (v := nI 2000) hx hb dX0_init_5 (by decide) ?_
  refine va_newa (atype := .int) (ty := .int) (N' := 2000) (a0 := (2000, .inl (fun _ => 0))) hx hb (hts (.arrayClass .int) (by decide +kernel)) rfl hK hP hD hS hA (sr_ca_i 2000) (nI_pos (by omega)) (nI_clamp (by omega)) (by show 2000 * 4 ≤ 536870912; omega) (by show _ ≤ 5; omega) (by show _ ≤ 10001; omega) dX0_init_8 (fun a1 z1 H hK hP hD hS => ?_)
  have hK : va_K (dC, dI) vwCl [(z1, .int)] s := hK
  have hP : va_P (dC, dI) vwCl [(x, .inr (0, [.null, .null, .null, .null, .null, .int 0, .int 0, .int 0, .int 0, .int 0])), (a1, .inl (z1, 2000, .inl (fun _ => 0)))] H := hP
  have hD : va_D A [(x, .inr (0, [.null, .null, .null, .null, .null, .int 0, .int 0, .int 0, .int 0, .int 0])), (a1, .inl (z1, 2000, .inl (fun _ => 0)))] := hD
  refine va_putF (D := (dC, dI)) (ci := 0) (v := .ref a1) (ty := (.array .int)) (C := RX0) (T := TX0) (N := 10) hx hb hts hin0 tyX0 tyX0_ok nmX0 hown hK hP hD hS 0 rfl rfl 0 (by decide) (hts (.fieldLink RX0 9 "SpeedRows" "ticks" "[I") (by decide +kernel)) (fun _ h9 => h9) rfl hin rfl (by decide +kernel) rfl rfl (Nat.le_of_ble_eq_true rfl) dX0_init_10 (fun H locs hP hD hS => ?_)
  have hP : va_P (dC, dI) vwCl [(x, .inr (0, [.ref a1, .null, .null, .null, .null, .int 0, .int 0, .int 0, .int 0, .int 0])), (a1, .inl (z1, 2000, .inl (fun _ => 0)))] H := hP
  have hD : va_D A [(x, .inr (0, [.ref a1, .null, .null, .null, .null, .int 0, .int 0, .int 0, .int 0, .int 0])), (a1, .inl (z1, 2000, .inl (fun _ => 0)))] := hD
  refine lv_aload_n hx hb dX0_init_13 rfl (lv_at hl 0 rfl) ?_
  refine lv_sipush (v := nI 2000) hx hb dX0_init_14 (by decide) ?_
  refine va_newa (atype := .int) (ty := .int) (N' := 2000) (a0 := (2000, .inl (fun _ => 0))) hx hb (hts (.arrayClass .int) (by decide +kernel)) rfl hK hP hD hS hA (sr_ca_i 2000) (nI_pos (by omega)) (nI_clamp (by omega)) (by show 2000 * 4 ≤ 536870912; omega) (by show _ ≤ 5; omega) (by show _ ≤ 10001; omega) dX0_init_17 (fun a2 z2 H hK hP hD hS => ?_)
  have hK : va_K (dC, dI) vwCl [(z1, .int), (z2, .int)] s := hK
  have hP : va_P (dC, dI) vwCl [(x, .inr (0, [.ref a1, .null, .null, .null, .null, .int 0, .int 0, .int 0, .int 0, .int 0])), (a1, .inl (z1, 2000, .inl (fun _ => 0))), (a2, .inl (z2, 2000, .inl (fun _ => 0)))] H := hP
  have hD : va_D A [(x, .inr (0, [.ref a1, .null, .null, .null, .null, .int 0, .int 0, .int 0, .int 0, .int 0])), (a1, .inl (z1, 2000, .inl (fun _ => 0))), (a2, .inl (z2, 2000, .inl (fun _ => 0)))] := hD
  refine va_putF (D := (dC, dI)) (ci := 0) (v := .ref a2) (ty := (.array .int)) (C := RX0) (T := TX0) (N := 10) hx hb hts hin0 tyX0 tyX0_ok nmX0 hown hK hP hD hS 0 rfl rfl 1 (by decide) (hts (.fieldLink RX0 13 "SpeedRows" "feeds" "[I") (by decide +kernel)) (fun _ h9 => h9) rfl hin rfl (by decide +kernel) rfl rfl (Nat.le_of_ble_eq_true rfl) dX0_init_19 (fun H locs hP hD hS => ?_)
  have hP : va_P (dC, dI) vwCl [(x, .inr (0, [.ref a1, .ref a2, .null, .null, .null, .int 0, .int 0, .int 0, .int 0, .int 0])), (a1, .inl (z1, 2000, .inl (fun _ => 0))), (a2, .inl (z2, 2000, .inl (fun _ => 0)))] H := hP
  have hD : va_D A [(x, .inr (0, [.ref a1, .ref a2, .null, .null, .null, .int 0, .int 0, .int 0, .int 0, .int 0])), (a1, .inl (z1, 2000, .inl (fun _ => 0))), (a2, .inl (z2, 2000, .inl (fun _ => 0)))] := hD
  refine lv_aload_n hx hb dX0_init_22 rfl (lv_at hl 0 rfl) ?_
  refine lv_sipush (v := nI 2000) hx hb dX0_init_23 (by decide) ?_
  refine va_newa (atype := .int) (ty := .int) (N' := 2000) (a0 := (2000, .inl (fun _ => 0))) hx hb (hts (.arrayClass .int) (by decide +kernel)) rfl hK hP hD hS hA (sr_ca_i 2000) (nI_pos (by omega)) (nI_clamp (by omega)) (by show 2000 * 4 ≤ 536870912; omega) (by show _ ≤ 5; omega) (by show _ ≤ 10001; omega) dX0_init_26 (fun a3 z3 H hK hP hD hS => ?_)
  have hK : va_K (dC, dI) vwCl [(z1, .int), (z2, .int), (z3, .int)] s := hK
  have hP : va_P (dC, dI) vwCl [(x, .inr (0, [.ref a1, .ref a2, .null, .null, .null, .int 0, .int 0, .int 0, .int 0, .int 0])), (a1, .inl (z1, 2000, .inl (fun _ => 0))), (a2, .inl (z2, 2000, .inl (fun _ => 0))), (a3, .inl (z3, 2000, .inl (fun _ => 0)))] H := hP
  have hD : va_D A [(x, .inr (0, [.ref a1, .ref a2, .null, .null, .null, .int 0, .int 0, .int 0, .int 0, .int 0])), (a1, .inl (z1, 2000, .inl (fun _ => 0))), (a2, .inl (z2, 2000, .inl (fun _ => 0))), (a3, .inl (z3, 2000, .inl (fun _ => 0)))] := hD
  refine va_putF (D := (dC, dI)) (ci := 0) (v := .ref a3) (ty := (.array .int)) (C := RX0) (T := TX0) (N := 10) hx hb hts hin0 tyX0 tyX0_ok nmX0 hown hK hP hD hS 0 rfl rfl 2 (by decide) (hts (.fieldLink RX0 16 "SpeedRows" "lastSteps" "[I") (by decide +kernel)) (fun _ h9 => h9) rfl hin rfl (by decide +kernel) rfl rfl (Nat.le_of_ble_eq_true rfl) dX0_init_28 (fun H locs hP hD hS => ?_)
  have hP : va_P (dC, dI) vwCl [(x, .inr (0, [.ref a1, .ref a2, .ref a3, .null, .null, .int 0, .int 0, .int 0, .int 0, .int 0])), (a1, .inl (z1, 2000, .inl (fun _ => 0))), (a2, .inl (z2, 2000, .inl (fun _ => 0))), (a3, .inl (z3, 2000, .inl (fun _ => 0)))] H := hP
  have hD : va_D A [(x, .inr (0, [.ref a1, .ref a2, .ref a3, .null, .null, .int 0, .int 0, .int 0, .int 0, .int 0])), (a1, .inl (z1, 2000, .inl (fun _ => 0))), (a2, .inl (z2, 2000, .inl (fun _ => 0))), (a3, .inl (z3, 2000, .inl (fun _ => 0)))] := hD
  refine lv_aload_n hx hb dX0_init_31 rfl (lv_at hl 0 rfl) ?_
  refine lv_sipush (v := nI 2000) hx hb dX0_init_32 (by decide) ?_
  refine va_newa (atype := .int) (ty := .int) (N' := 2000) (a0 := (2000, .inl (fun _ => 0))) hx hb (hts (.arrayClass .int) (by decide +kernel)) rfl hK hP hD hS hA (sr_ca_i 2000) (nI_pos (by omega)) (nI_clamp (by omega)) (by show 2000 * 4 ≤ 536870912; omega) (by show _ ≤ 5; omega) (by show _ ≤ 10001; omega) dX0_init_35 (fun a4 z4 H hK hP hD hS => ?_)
  have hK : va_K (dC, dI) vwCl [(z1, .int), (z2, .int), (z3, .int), (z4, .int)] s := hK
  have hP : va_P (dC, dI) vwCl [(x, .inr (0, [.ref a1, .ref a2, .ref a3, .null, .null, .int 0, .int 0, .int 0, .int 0, .int 0])), (a1, .inl (z1, 2000, .inl (fun _ => 0))), (a2, .inl (z2, 2000, .inl (fun _ => 0))), (a3, .inl (z3, 2000, .inl (fun _ => 0))), (a4, .inl (z4, 2000, .inl (fun _ => 0)))] H := hP
  have hD : va_D A [(x, .inr (0, [.ref a1, .ref a2, .ref a3, .null, .null, .int 0, .int 0, .int 0, .int 0, .int 0])), (a1, .inl (z1, 2000, .inl (fun _ => 0))), (a2, .inl (z2, 2000, .inl (fun _ => 0))), (a3, .inl (z3, 2000, .inl (fun _ => 0))), (a4, .inl (z4, 2000, .inl (fun _ => 0)))] := hD
  refine va_putF (D := (dC, dI)) (ci := 0) (v := .ref a4) (ty := (.array .int)) (C := RX0) (T := TX0) (N := 10) hx hb hts hin0 tyX0 tyX0_ok nmX0 hown hK hP hD hS 0 rfl rfl 3 (by decide) (hts (.fieldLink RX0 19 "SpeedRows" "turnLimits" "[I") (by decide +kernel)) (fun _ h9 => h9) rfl hin rfl (by decide +kernel) rfl rfl (Nat.le_of_ble_eq_true rfl) dX0_init_37 (fun H locs hP hD hS => ?_)
  have hP : va_P (dC, dI) vwCl [(x, .inr (0, [.ref a1, .ref a2, .ref a3, .ref a4, .null, .int 0, .int 0, .int 0, .int 0, .int 0])), (a1, .inl (z1, 2000, .inl (fun _ => 0))), (a2, .inl (z2, 2000, .inl (fun _ => 0))), (a3, .inl (z3, 2000, .inl (fun _ => 0))), (a4, .inl (z4, 2000, .inl (fun _ => 0)))] H := hP
  have hD : va_D A [(x, .inr (0, [.ref a1, .ref a2, .ref a3, .ref a4, .null, .int 0, .int 0, .int 0, .int 0, .int 0])), (a1, .inl (z1, 2000, .inl (fun _ => 0))), (a2, .inl (z2, 2000, .inl (fun _ => 0))), (a3, .inl (z3, 2000, .inl (fun _ => 0))), (a4, .inl (z4, 2000, .inl (fun _ => 0)))] := hD
  refine lv_aload_n hx hb dX0_init_40 rfl (lv_at hl 0 rfl) ?_
  refine lv_sipush (v := nI 2001) hx hb dX0_init_41 (by decide) ?_
  refine va_newa (atype := .int) (ty := .int) (N' := 2001) (a0 := (2001, .inl (fun _ => 0))) hx hb (hts (.arrayClass .int) (by decide +kernel)) rfl hK hP hD hS hA (sr_ca_i 2001) (nI_pos (by omega)) (nI_clamp (by omega)) (by show 2001 * 4 ≤ 536870912; omega) (by show _ ≤ 5; omega) (by show _ ≤ 10001; omega) dX0_init_44 (fun a5 z5 H hK hP hD hS => ?_)
  have hK : va_K (dC, dI) vwCl [(z1, .int), (z2, .int), (z3, .int), (z4, .int), (z5, .int)] s := hK
  have hP : va_P (dC, dI) vwCl [(x, .inr (0, [.ref a1, .ref a2, .ref a3, .ref a4, .null, .int 0, .int 0, .int 0, .int 0, .int 0])), (a1, .inl (z1, 2000, .inl (fun _ => 0))), (a2, .inl (z2, 2000, .inl (fun _ => 0))), (a3, .inl (z3, 2000, .inl (fun _ => 0))), (a4, .inl (z4, 2000, .inl (fun _ => 0))), (a5, .inl (z5, 2001, .inl (fun _ => 0)))] H := hP
  have hD : va_D A [(x, .inr (0, [.ref a1, .ref a2, .ref a3, .ref a4, .null, .int 0, .int 0, .int 0, .int 0, .int 0])), (a1, .inl (z1, 2000, .inl (fun _ => 0))), (a2, .inl (z2, 2000, .inl (fun _ => 0))), (a3, .inl (z3, 2000, .inl (fun _ => 0))), (a4, .inl (z4, 2000, .inl (fun _ => 0))), (a5, .inl (z5, 2001, .inl (fun _ => 0)))] := hD
  refine va_putF (D := (dC, dI)) (ci := 0) (v := .ref a5) (ty := (.array .int)) (C := RX0) (T := TX0) (N := 10) hx hb hts hin0 tyX0 tyX0_ok nmX0 hown hK hP hD hS 0 rfl rfl 4 (by decide) (hts (.fieldLink RX0 22 "SpeedRows" "speeds" "[I") (by decide +kernel)) (fun _ h9 => h9) rfl hin rfl (by decide +kernel) rfl rfl (Nat.le_of_ble_eq_true rfl) dX0_init_46 (fun H locs hP hD hS => ?_)
  have hP : va_P (dC, dI) vwCl [(x, .inr (0, [.ref a1, .ref a2, .ref a3, .ref a4, .ref a5, .int 0, .int 0, .int 0, .int 0, .int 0])), (a1, .inl (z1, 2000, .inl (fun _ => 0))), (a2, .inl (z2, 2000, .inl (fun _ => 0))), (a3, .inl (z3, 2000, .inl (fun _ => 0))), (a4, .inl (z4, 2000, .inl (fun _ => 0))), (a5, .inl (z5, 2001, .inl (fun _ => 0)))] H := hP
  have hD : va_D A [(x, .inr (0, [.ref a1, .ref a2, .ref a3, .ref a4, .ref a5, .int 0, .int 0, .int 0, .int 0, .int 0])), (a1, .inl (z1, 2000, .inl (fun _ => 0))), (a2, .inl (z2, 2000, .inl (fun _ => 0))), (a3, .inl (z3, 2000, .inl (fun _ => 0))), (a4, .inl (z4, 2000, .inl (fun _ => 0))), (a5, .inl (z5, 2001, .inl (fun _ => 0)))] := hD
  refine W.widen (k := 5) (n := 10001) (by omega) (by omega) ?_
  refine lv_aload_n hx hb dX0_init_49 rfl (lv_at hl 0 rfl) ?_
  refine lv_iconst (v := nI 0) hx hb dX0_init_50 (by decide) ?_
  refine va_put (D := (dC, dI)) (ci := 0) (v := .int (nI 0)) (ty := .int) (C := RX0) (T := TX0) (N := 10) hx hb hts hin0 tyX0 tyX0_ok nmX0 hown hK hP hD hS 0 rfl rfl 5 (by decide) (hts (.fieldLink RX0 25 "SpeedRows" "moves" "I") (by decide +kernel)) (fun _ h9 => h9) rfl (by decide +kernel) rfl rfl (Nat.le_of_ble_eq_true rfl) dX0_init_51 (fun H locs hP hD hS => ?_)
  have hP : va_P (dC, dI) vwCl [(x, .inr (0, [.ref a1, .ref a2, .ref a3, .ref a4, .ref a5, .int (nI 0), .int 0, .int 0, .int 0, .int 0])), (a1, .inl (z1, 2000, .inl (fun _ => 0))), (a2, .inl (z2, 2000, .inl (fun _ => 0))), (a3, .inl (z3, 2000, .inl (fun _ => 0))), (a4, .inl (z4, 2000, .inl (fun _ => 0))), (a5, .inl (z5, 2001, .inl (fun _ => 0)))] H := hP
  have hD : va_D A [(x, .inr (0, [.ref a1, .ref a2, .ref a3, .ref a4, .ref a5, .int (nI 0), .int 0, .int 0, .int 0, .int 0])), (a1, .inl (z1, 2000, .inl (fun _ => 0))), (a2, .inl (z2, 2000, .inl (fun _ => 0))), (a3, .inl (z3, 2000, .inl (fun _ => 0))), (a4, .inl (z4, 2000, .inl (fun _ => 0))), (a5, .inl (z5, 2001, .inl (fun _ => 0)))] := hD
  refine lv_aload_n hx hb dX0_init_54 rfl (lv_at hl 0 rfl) ?_
  refine lv_iconst (v := 1) hx hb dX0_init_55 (by decide) ?_
  refine lv_iconst (v := 0) hx hb dX0_init_56 (by decide) ?_
  refine lv_iconst (v := 0) hx hb dX0_init_57 (by decide) ?_
  refine vp_callSi (W.runS (As := [.int 1, .int 0, .int 0]) (rest := [.ref x]) ⟨hx, hb, hml, hown, hts⟩ (c_X0_packed l 1 0 0) (va_cwS 3 hts gX0_init_X0_packed rfl rfl rfl (by decide +kernel) ⟨Nat.le_of_ble_eq_true rfl, Nat.le_of_ble_eq_true rfl⟩) ⟨sr_blindT, sr_mkT⟩ rfl rfl hl.1 rfl (lv_room (Nat.le_of_ble_eq_true rfl)) dX0_init_58 ⟨by show _ ≤ 5; omega, by show _ ≤ 10001; omega⟩) (fun r1 e1 => ?_)
  refine sr_ti (y := nI 22) (by rw [e1]; decide) ?_
  refine va_put (D := (dC, dI)) (ci := 0) (v := .int (nI 22)) (ty := .int) (C := RX0) (T := TX0) (N := 10) hx hb hts hin0 tyX0 tyX0_ok nmX0 hown hK hP hD hS 0 rfl rfl 6 (by decide) (hts (.fieldLink RX0 33 "SpeedRows" "nextFirst" "I") (by decide +kernel)) (fun _ h9 => h9) rfl (by decide +kernel) rfl rfl (Nat.le_of_ble_eq_true rfl) dX0_init_61 (fun H locs hP hD hS => ?_)
  have hP : va_P (dC, dI) vwCl [(x, .inr (0, [.ref a1, .ref a2, .ref a3, .ref a4, .ref a5, .int (nI 0), .int (nI 22), .int 0, .int 0, .int 0])), (a1, .inl (z1, 2000, .inl (fun _ => 0))), (a2, .inl (z2, 2000, .inl (fun _ => 0))), (a3, .inl (z3, 2000, .inl (fun _ => 0))), (a4, .inl (z4, 2000, .inl (fun _ => 0))), (a5, .inl (z5, 2001, .inl (fun _ => 0)))] H := hP
  have hD : va_D A [(x, .inr (0, [.ref a1, .ref a2, .ref a3, .ref a4, .ref a5, .int (nI 0), .int (nI 22), .int 0, .int 0, .int 0])), (a1, .inl (z1, 2000, .inl (fun _ => 0))), (a2, .inl (z2, 2000, .inl (fun _ => 0))), (a3, .inl (z3, 2000, .inl (fun _ => 0))), (a4, .inl (z4, 2000, .inl (fun _ => 0))), (a5, .inl (z5, 2001, .inl (fun _ => 0)))] := hD
  refine lv_aload_n hx hb dX0_init_64 rfl (lv_at hl 0 rfl) ?_
  refine lv_iconst (v := 1) hx hb dX0_init_65 (by decide) ?_
  refine lv_iconst (v := 0) hx hb dX0_init_66 (by decide) ?_
  refine lv_iconst (v := 0) hx hb dX0_init_67 (by decide) ?_
  refine vp_callSi (W.runS (As := [.int 1, .int 0, .int 0]) (rest := [.ref x]) ⟨hx, hb, hml, hown, hts⟩ (c_X0_packed l 1 0 0) (va_cwS 3 hts gX0_init_X0_packed rfl rfl rfl (by decide +kernel) ⟨Nat.le_of_ble_eq_true rfl, Nat.le_of_ble_eq_true rfl⟩) ⟨sr_blindT, sr_mkT⟩ rfl rfl hl.1 rfl (lv_room (Nat.le_of_ble_eq_true rfl)) dX0_init_68 ⟨by show _ ≤ 5; omega, by show _ ≤ 10001; omega⟩) (fun r2 e2 => ?_)
  refine sr_ti (y := nI 22) (by rw [e2]; decide) ?_
  refine va_put (D := (dC, dI)) (ci := 0) (v := .int (nI 22)) (ty := .int) (C := RX0) (T := TX0) (N := 10) hx hb hts hin0 tyX0 tyX0_ok nmX0 hown hK hP hD hS 0 rfl rfl 7 (by decide) (hts (.fieldLink RX0 36 "SpeedRows" "nextLast" "I") (by decide +kernel)) (fun _ h9 => h9) rfl (by decide +kernel) rfl rfl (Nat.le_of_ble_eq_true rfl) dX0_init_71 (fun H locs hP hD hS => ?_)
  have hP : va_P (dC, dI) vwCl [(x, .inr (0, [.ref a1, .ref a2, .ref a3, .ref a4, .ref a5, .int (nI 0), .int (nI 22), .int (nI 22), .int 0, .int 0])), (a1, .inl (z1, 2000, .inl (fun _ => 0))), (a2, .inl (z2, 2000, .inl (fun _ => 0))), (a3, .inl (z3, 2000, .inl (fun _ => 0))), (a4, .inl (z4, 2000, .inl (fun _ => 0))), (a5, .inl (z5, 2001, .inl (fun _ => 0)))] H := hP
  have hD : va_D A [(x, .inr (0, [.ref a1, .ref a2, .ref a3, .ref a4, .ref a5, .int (nI 0), .int (nI 22), .int (nI 22), .int 0, .int 0])), (a1, .inl (z1, 2000, .inl (fun _ => 0))), (a2, .inl (z2, 2000, .inl (fun _ => 0))), (a3, .inl (z3, 2000, .inl (fun _ => 0))), (a4, .inl (z4, 2000, .inl (fun _ => 0))), (a5, .inl (z5, 2001, .inl (fun _ => 0)))] := hD
  refine lv_aload_n hx hb dX0_init_74 rfl (lv_at hl 0 rfl) ?_
  refine lv_bipush (v := nI 100) hx hb dX0_init_75 (by decide) ?_
  refine va_put (D := (dC, dI)) (ci := 0) (v := .int (nI 100)) (ty := .int) (C := RX0) (T := TX0) (N := 10) hx hb hts hin0 tyX0 tyX0_ok nmX0 hown hK hP hD hS 0 rfl rfl 8 (by decide) (hts (.fieldLink RX0 39 "SpeedRows" "rate" "I") (by decide +kernel)) (fun _ h9 => h9) rfl (by decide +kernel) rfl rfl (Nat.le_of_ble_eq_true rfl) dX0_init_77 (fun H locs hP hD hS => ?_)
  have hP : va_P (dC, dI) vwCl [(x, .inr (0, [.ref a1, .ref a2, .ref a3, .ref a4, .ref a5, .int (nI 0), .int (nI 22), .int (nI 22), .int (nI 100), .int 0])), (a1, .inl (z1, 2000, .inl (fun _ => 0))), (a2, .inl (z2, 2000, .inl (fun _ => 0))), (a3, .inl (z3, 2000, .inl (fun _ => 0))), (a4, .inl (z4, 2000, .inl (fun _ => 0))), (a5, .inl (z5, 2001, .inl (fun _ => 0)))] H := hP
  have hD : va_D A [(x, .inr (0, [.ref a1, .ref a2, .ref a3, .ref a4, .ref a5, .int (nI 0), .int (nI 22), .int (nI 22), .int (nI 100), .int 0])), (a1, .inl (z1, 2000, .inl (fun _ => 0))), (a2, .inl (z2, 2000, .inl (fun _ => 0))), (a3, .inl (z3, 2000, .inl (fun _ => 0))), (a4, .inl (z4, 2000, .inl (fun _ => 0))), (a5, .inl (z5, 2001, .inl (fun _ => 0)))] := hD
  refine lv_aload_n hx hb dX0_init_80 rfl (lv_at hl 0 rfl) ?_
  refine lv_iconst (v := 0) hx hb dX0_init_81 (by decide) ?_
  refine va_put (D := (dC, dI)) (ci := 0) (v := .int 0) (ty := .boolean) (C := RX0) (T := TX0) (N := 10) hx hb hts hin0 tyX0 tyX0_ok nmX0 hown hK hP hD hS 0 rfl rfl 9 (by decide) (hts (.fieldLink RX0 42 "SpeedRows" "speedsStand" "Z") (by decide +kernel)) (fun _ h9 => h9) rfl (by decide +kernel) rfl rfl (Nat.le_of_ble_eq_true rfl) dX0_init_82 (fun H locs hP hD hS => ?_)
  have hP : va_P (dC, dI) vwCl [(x, .inr (0, [.ref a1, .ref a2, .ref a3, .ref a4, .ref a5, .int (nI 0), .int (nI 22), .int (nI 22), .int (nI 100), .int 0])), (a1, .inl (z1, 2000, .inl (fun _ => 0))), (a2, .inl (z2, 2000, .inl (fun _ => 0))), (a3, .inl (z3, 2000, .inl (fun _ => 0))), (a4, .inl (z4, 2000, .inl (fun _ => 0))), (a5, .inl (z5, 2001, .inl (fun _ => 0)))] H := hP
  have hD : va_D A [(x, .inr (0, [.ref a1, .ref a2, .ref a3, .ref a4, .ref a5, .int (nI 0), .int (nI 22), .int (nI 22), .int (nI 100), .int 0])), (a1, .inl (z1, 2000, .inl (fun _ => 0))), (a2, .inl (z2, 2000, .inl (fun _ => 0))), (a3, .inl (z3, 2000, .inl (fun _ => 0))), (a4, .inl (z4, 2000, .inl (fun _ => 0))), (a5, .inl (z5, 2001, .inl (fun _ => 0)))] := hD
  exact W.vret hx hb hr (fun t ht hW => ⟨⟨(_, _), rfl, ⟨a1, a2, a3, a4, a5, z1, z2, z3, z4, z5, rfl⟩, by rw [ht]; exact hP, va_K.moved hW.alike hK, hD⟩, hS.F ht⟩) hS.2.2 dX0_init_85
end
section
/-! THE REFERENCE: isStep, told, first, last, root, reach, lowered. -/
set_option maxHeartbeats 4000000 in
set_option maxRecDepth 100000 in
theorem c_X1_isStep (l : Launch) (x y z : Int32) : Met l yX1_isStep wsX1_isStep ({ frames := 0, cells := 0, slots := 0, locals := 0 }) (va_Pc [.int x, .int y, .int z] (fun _ => True)) (vp_Si (fun r => (r = 1 ∧ sr_isS x y z) ∨ (r = 0 ∧ ¬ sr_isS x y z))) 0 0 (fun _ => False) := by
  refine Met.ofW (cc := cX1_isStep) (maxL := 3) (ret := (some .boolean)) (by decide) rfl ?_
  intro p e s m args below meth c s₁ B hml hv
  obtain ⟨rfl, -⟩ := hv
  have hx := B.exec
  have hb := B.bytes
  have hr := B.returns
  have hts := atoms_spec (ws := wsX1_isStep) B.pre
  have hown : s.vm.findClass RX1 = some m.cls := findClass_of_methodNamed B.named
  have hlocks := B.notSynchronized
  have hl := lv_entry ([.int x, .int y, .int z]) (n := 3) (Nat.le_of_ble_eq_true rfl)
  rw [lg_entry_eq]
  generalize (lg_sl ([.int x, .int y, .int z]) ++ List.replicate (3 - (lg_sl ([.int x, .int y, .int z])).length) Slot.unset).toArray = ls at hl ⊢
  have hl : lv_has ls 3 [(0, .int x), (1, .int y), (2, .int z)] := hl
  refine lv_iload_n hx hb dX1_isStep_0 rfl (lv_at hl 0 rfl) ?_
  refine lv_iconst (v := (-1)) hx hb dX1_isStep_1 (by decide) ?_
  refine lv_icmp_lt (tgt := 46) hx hb dX1_isStep_2 (by decide) (fun k0 => ?_) (fun k0 => ?_)
  · refine lv_iconst (v := 0) hx hb dX1_isStep_46 (by decide) ?_
    exact W.zret (v := 0) hx hb hr rfl (fun t ht hW => ⟨0, rfl, Or.inr ⟨rfl, fun h => absurd h.1.1.1.1.1.1 (Int32.not_le.mpr k0)⟩, ht⟩) (fun q h => absurd h List.not_mem_nil) dX1_isStep_47
  · refine lv_iload_n hx hb dX1_isStep_5 rfl (lv_at hl 0 rfl) ?_
    refine lv_iconst (v := 1) hx hb dX1_isStep_6 (by decide) ?_
    refine lv_icmp_gt (tgt := 46) hx hb dX1_isStep_7 (by decide) (fun k1 => ?_) (fun k1 => ?_)
    · refine lv_iconst (v := 0) hx hb dX1_isStep_46 (by decide) ?_
      exact W.zret (v := 0) hx hb hr rfl (fun t ht hW => ⟨0, rfl, Or.inr ⟨rfl, fun h => absurd h.1.1.1.1.1.2 (Int32.not_le.mpr k1)⟩, ht⟩) (fun q h => absurd h List.not_mem_nil) dX1_isStep_47
    · refine lv_iload_n hx hb dX1_isStep_10 rfl (lv_at hl 1 rfl) ?_
      refine lv_iconst (v := (-1)) hx hb dX1_isStep_11 (by decide) ?_
      refine lv_icmp_lt (tgt := 46) hx hb dX1_isStep_12 (by decide) (fun k2 => ?_) (fun k2 => ?_)
      · refine lv_iconst (v := 0) hx hb dX1_isStep_46 (by decide) ?_
        exact W.zret (v := 0) hx hb hr rfl (fun t ht hW => ⟨0, rfl, Or.inr ⟨rfl, fun h => absurd h.1.1.1.1.2 (Int32.not_le.mpr k2)⟩, ht⟩) (fun q h => absurd h List.not_mem_nil) dX1_isStep_47
      · refine lv_iload_n hx hb dX1_isStep_15 rfl (lv_at hl 1 rfl) ?_
        refine lv_iconst (v := 1) hx hb dX1_isStep_16 (by decide) ?_
        refine lv_icmp_gt (tgt := 46) hx hb dX1_isStep_17 (by decide) (fun k3 => ?_) (fun k3 => ?_)
        · refine lv_iconst (v := 0) hx hb dX1_isStep_46 (by decide) ?_
          exact W.zret (v := 0) hx hb hr rfl (fun t ht hW => ⟨0, rfl, Or.inr ⟨rfl, fun h => absurd h.1.1.1.2 (Int32.not_le.mpr k3)⟩, ht⟩) (fun q h => absurd h List.not_mem_nil) dX1_isStep_47
        · refine lv_iload_n hx hb dX1_isStep_20 rfl (lv_at hl 2 rfl) ?_
          refine lv_iconst (v := (-1)) hx hb dX1_isStep_21 (by decide) ?_
          refine lv_icmp_lt (tgt := 46) hx hb dX1_isStep_22 (by decide) (fun k4 => ?_) (fun k4 => ?_)
          · refine lv_iconst (v := 0) hx hb dX1_isStep_46 (by decide) ?_
            exact W.zret (v := 0) hx hb hr rfl (fun t ht hW => ⟨0, rfl, Or.inr ⟨rfl, fun h => absurd h.1.1.2 (Int32.not_le.mpr k4)⟩, ht⟩) (fun q h => absurd h List.not_mem_nil) dX1_isStep_47
          · refine lv_iload_n hx hb dX1_isStep_25 rfl (lv_at hl 2 rfl) ?_
            refine lv_iconst (v := 1) hx hb dX1_isStep_26 (by decide) ?_
            refine lv_icmp_gt (tgt := 46) hx hb dX1_isStep_27 (by decide) (fun k5 => ?_) (fun k5 => ?_)
            · refine lv_iconst (v := 0) hx hb dX1_isStep_46 (by decide) ?_
              exact W.zret (v := 0) hx hb hr rfl (fun t ht hW => ⟨0, rfl, Or.inr ⟨rfl, fun h => absurd h.1.2 (Int32.not_le.mpr k5)⟩, ht⟩) (fun q h => absurd h List.not_mem_nil) dX1_isStep_47
            · refine lv_iload_n hx hb dX1_isStep_30 rfl (lv_at hl 0 rfl) ?_
              refine lv_if_ne (tgt := 42) hx hb dX1_isStep_31 (by decide) (fun n1 => ?_) (fun n1 => ?_)
              · refine lv_iconst (v := 1) hx hb dX1_isStep_42 (by decide) ?_
                refine lv_goto (tgt := 47) hx hb dX1_isStep_43 (by decide) ?_
                exact W.zret (v := 1) hx hb hr rfl (fun t ht hW => ⟨1, rfl, Or.inl ⟨rfl, ⟨⟨⟨⟨⟨⟨Int32.not_lt.mp k0, Int32.not_lt.mp k1⟩, Int32.not_lt.mp k2⟩, Int32.not_lt.mp k3⟩, Int32.not_lt.mp k4⟩, Int32.not_lt.mp k5⟩, Or.inl n1⟩⟩, ht⟩) (fun q h => absurd h List.not_mem_nil) dX1_isStep_47
              · refine lv_iload_n hx hb dX1_isStep_34 rfl (lv_at hl 1 rfl) ?_
                refine lv_if_ne (tgt := 42) hx hb dX1_isStep_35 (by decide) (fun n2 => ?_) (fun n2 => ?_)
                · refine lv_iconst (v := 1) hx hb dX1_isStep_42 (by decide) ?_
                  refine lv_goto (tgt := 47) hx hb dX1_isStep_43 (by decide) ?_
                  exact W.zret (v := 1) hx hb hr rfl (fun t ht hW => ⟨1, rfl, Or.inl ⟨rfl, ⟨⟨⟨⟨⟨⟨Int32.not_lt.mp k0, Int32.not_lt.mp k1⟩, Int32.not_lt.mp k2⟩, Int32.not_lt.mp k3⟩, Int32.not_lt.mp k4⟩, Int32.not_lt.mp k5⟩, Or.inr (Or.inl n2)⟩⟩, ht⟩) (fun q h => absurd h List.not_mem_nil) dX1_isStep_47
                · refine lv_iload_n hx hb dX1_isStep_38 rfl (lv_at hl 2 rfl) ?_
                  refine lv_if_eq (tgt := 46) hx hb dX1_isStep_39 (by decide) (fun n3 => ?_) (fun n3 => ?_)
                  · refine lv_iconst (v := 0) hx hb dX1_isStep_46 (by decide) ?_
                    exact W.zret (v := 0) hx hb hr rfl (fun t ht hW => ⟨0, rfl, Or.inr ⟨rfl, fun h => h.2.elim (fun q => q n1) (fun q => q.elim (fun q => q n2) (fun q => q n3))⟩, ht⟩) (fun q h => absurd h List.not_mem_nil) dX1_isStep_47
                  · refine lv_iconst (v := 1) hx hb dX1_isStep_42 (by decide) ?_
                    refine lv_goto (tgt := 47) hx hb dX1_isStep_43 (by decide) ?_
                    exact W.zret (v := 1) hx hb hr rfl (fun t ht hW => ⟨1, rfl, Or.inl ⟨rfl, ⟨⟨⟨⟨⟨⟨Int32.not_lt.mp k0, Int32.not_lt.mp k1⟩, Int32.not_lt.mp k2⟩, Int32.not_lt.mp k3⟩, Int32.not_lt.mp k4⟩, Int32.not_lt.mp k5⟩, Or.inr (Or.inr n3)⟩⟩, ht⟩) (fun q h => absurd h List.not_mem_nil) dX1_isStep_47
set_option maxHeartbeats 4000000 in
set_option maxRecDepth 100000 in
theorem c_X1_told (l : Launch) (dC : Nat → ClassId) (dI : Nat → Nat → Nat) (b : Nat) (tb : ClassId) (sz : Nat) (U : Nat → Int32) (px py pz : Int32) : Met l yX1_told wsX1_told ({ frames := 1, cells := 0, slots := 0, locals := 22 }) (sr_pre dC dI ([(tb, .byte)]) ([(b, .inl (tb, 3, .inl U))]) sz [.ref b, .int px, .int py, .int pz]) (va_Qi (fun (r : Int32) (u : va_W) => ∃ U' : Nat → Int32, u = [(b, .inl (tb, 3, .inl U'))] ∧ ((sr_isS px py pz ∧ r = 1 ∧ U' 0 = px ∧ U' 1 = py ∧ U' 2 = pz) ∨ (¬ sr_isS px py pz ∧ r = 0 ∧ U' = U))) (sr_at dC dI ([(tb, .byte)]) (va_A ([(b, .inl (tb, 3, .inl U))]) sz)) (va_A ([(b, .inl (tb, 3, .inl U))]) sz)) 0 0 (va_A ([(b, .inl (tb, 3, .inl U))]) sz) := by
  refine Met.ofW (cc := cX1_told) (maxL := 4) (ret := (some .boolean)) (by decide) rfl ?_
  intro p e s m args below meth c s₁ B hml hv
  obtain ⟨rfl, hsz, hP, hK, hD0⟩ := hv
  have hx := B.exec
  have hb := B.bytes
  have hr := B.returns
  have hts := atoms_spec (ws := wsX1_told) B.pre
  have hown : s.vm.findClass RX1 = some m.cls := findClass_of_methodNamed B.named
  have hlocks := B.notSynchronized
  subst hsz
  have hD := hD0.self (sz := s.heap.size)
  generalize hAe : va_A ([(b, .inl (tb, 3, .inl U))]) s.heap.size = A at hD ⊢
  have hA : ∀ q : Nat, s.heap.size ≤ q → A q := fun q h => by rw [← hAe]; exact Or.inr h
  have hS : va_S A s.heap s.heap [] := va_S.rf
  have hP : va_P (dC, dI) vwCl [(b, .inl (tb, 3, .inl U))] s.heap := hP
  have hD : va_D A [(b, .inl (tb, 3, .inl U))] := hD
  have hK : va_K (dC, dI) vwCl [(tb, .byte)] s := hK
  have hl := lv_entry ([.ref b, .int px, .int py, .int pz]) (n := 4) (Nat.le_of_ble_eq_true rfl)
  rw [lg_entry_eq]
  generalize (lg_sl ([.ref b, .int px, .int py, .int pz]) ++ List.replicate (4 - (lg_sl ([.ref b, .int px, .int py, .int pz])).length) Slot.unset).toArray = ls at hl ⊢
  have hl : lv_has ls 4 [(0, .ref b), (1, .int px), (2, .int py), (3, .int pz)] := hl
  refine lv_iload_n hx hb dX1_told_0 rfl (lv_at hl 1 rfl) ?_
  refine lv_iload_n hx hb dX1_told_1 rfl (lv_at hl 2 rfl) ?_
  refine lv_iload_n hx hb dX1_told_2 rfl (lv_at hl 3 rfl) ?_
  refine vp_callSi (W.runS (As := [.int px, .int py, .int pz]) (rest := []) ⟨hx, hb, hml, hown, hts⟩ (c_X1_isStep l px py pz) (va_cwS 3 hts gX1_told_X1_isStep rfl rfl rfl (by decide +kernel) ⟨Nat.le_of_ble_eq_true rfl, Nat.le_of_ble_eq_true rfl⟩) ⟨sr_blindT, sr_mkT⟩ rfl rfl hl.1 rfl (lv_room (Nat.le_of_ble_eq_true rfl)) dX1_told_3 ⟨Nat.zero_le _, Nat.zero_le _⟩) (fun r er => ?_)
  refine lv_if_ne (tgt := 11) hx hb dX1_told_6 (by decide) (fun c1 => ?_) (fun c1 => ?_)
  · have hc : sr_isS px py pz := by
      rcases er with ⟨_, q⟩ | ⟨q, _⟩
      · exact q
      · exact absurd q c1
    obtain ⟨q, hq, e1, e2, e3⟩ := sr_step hc
    refine lv_aload_n hx hb dX1_told_11 rfl (lv_at hl 0 rfl) ?_
    refine lv_iconst (v := nI 0) hx hb dX1_told_12 (by decide) ?_
    refine lv_iload_n hx hb dX1_told_13 rfl (lv_at hl 1 rfl) ?_
    refine lv_i2b (v := px) hx hb dX1_told_14 (by rw [e1]; exact sr_dg_i2b q hq.1 0 (by decide)) ?_
    refine sr_bast (v := px) hx hb hK hP hD hS 0 0 rfl rfl (by decide) (by decide) (by rw [e1]; exact sr_dg_nar q hq.1 0 (by decide)) dX1_told_15 (fun H locs hP hD hS => ?_)
    have hP : va_P (dC, dI) vwCl [(b, .inl (tb, 3, .inl (upd U 0 px)))] H := hP
    have hD : va_D A [(b, .inl (tb, 3, .inl (upd U 0 px)))] := hD
    refine lv_aload_n hx hb dX1_told_16 rfl (lv_at hl 0 rfl) ?_
    refine lv_iconst (v := nI 1) hx hb dX1_told_17 (by decide) ?_
    refine lv_iload_n hx hb dX1_told_18 rfl (lv_at hl 2 rfl) ?_
    refine lv_i2b (v := py) hx hb dX1_told_19 (by rw [e2]; exact sr_dg_i2b q hq.1 1 (by decide)) ?_
    refine sr_bast (v := py) hx hb hK hP hD hS 0 0 rfl rfl (by decide) (by decide) (by rw [e2]; exact sr_dg_nar q hq.1 1 (by decide)) dX1_told_20 (fun H locs hP hD hS => ?_)
    have hP : va_P (dC, dI) vwCl [(b, .inl (tb, 3, .inl (upd (upd U 0 px) 1 py)))] H := hP
    have hD : va_D A [(b, .inl (tb, 3, .inl (upd (upd U 0 px) 1 py)))] := hD
    refine lv_aload_n hx hb dX1_told_21 rfl (lv_at hl 0 rfl) ?_
    refine lv_iconst (v := nI 2) hx hb dX1_told_22 (by decide) ?_
    refine lv_iload_n hx hb dX1_told_23 rfl (lv_at hl 3 rfl) ?_
    refine lv_i2b (v := pz) hx hb dX1_told_24 (by rw [e3]; exact sr_dg_i2b q hq.1 2 (by decide)) ?_
    refine sr_bast (v := pz) hx hb hK hP hD hS 0 0 rfl rfl (by decide) (by decide) (by rw [e3]; exact sr_dg_nar q hq.1 2 (by decide)) dX1_told_25 (fun H locs hP hD hS => ?_)
    have hP : va_P (dC, dI) vwCl [(b, .inl (tb, 3, .inl (upd (upd (upd U 0 px) 1 py) 2 pz)))] H := hP
    have hD : va_D A [(b, .inl (tb, 3, .inl (upd (upd (upd U 0 px) 1 py) 2 pz)))] := hD
    refine lv_iconst (v := 1) hx hb dX1_told_26 (by decide) ?_
    exact W.zret (v := 1) hx hb hr rfl (fun t ht hW => ⟨⟨1, _, rfl, ⟨_, rfl, Or.inl ⟨hc, rfl, by rw [pk_un (by decide), pk_un (by decide), pk_us], by rw [pk_un (by decide), pk_us], by rw [pk_us]⟩⟩, by rw [ht]; exact hP, va_K.moved hW.alike hK, hD⟩, hS.F ht⟩) hS.2.2 dX1_told_27
  · have hc : ¬ (sr_isS px py pz) := by
      rcases er with ⟨q, _⟩ | ⟨_, q⟩
      · exact absurd (q.symm.trans c1) (by decide)
      · exact q
    refine lv_iconst (v := 0) hx hb dX1_told_9 (by decide) ?_
    exact W.zret (v := 0) hx hb hr rfl (fun t ht hW => ⟨⟨0, _, rfl, ⟨U, rfl, Or.inr ⟨hc, rfl, rfl⟩⟩, by rw [ht]; exact hP, va_K.moved hW.alike hK, hD⟩, hS.F ht⟩) hS.2.2 dX1_told_10
set_option maxHeartbeats 4000000 in
set_option maxRecDepth 100000 in
theorem c_X1_first (l : Launch) (dC : Nat → ClassId) (dI : Nat → Nat → Nat) (y b1 b2 b3 b4 b5 b6 b7 : Nat) (t1 t2 t3 t4 t5 t6 t7 : ClassId) (sz : Nat) (mo ac : Nat) (kn : Int32) (T F I J U V S : Nat → Int32) (px py pz : Int32) : Met l yX1_first wsX1_first ({ frames := 2, cells := 0, slots := 0, locals := 45 }) (sr_pre dC dI (sr_tM t1 t2 t3 t4 t5 t6 t7) (sr_wM y b1 b2 b3 b4 b5 b6 b7 t1 t2 t3 t4 t5 t6 t7 mo ac kn T F I J U V S) sz [.ref y, .int px, .int py, .int pz]) (va_Qi (fun (r : Int32) (u : va_W) => ∃ U' : Nat → Int32, u = sr_wM y b1 b2 b3 b4 b5 b6 b7 t1 t2 t3 t4 t5 t6 t7 mo ac kn T F I J U' V S ∧ ((sr_isS px py pz ∧ r = 1 ∧ U' 0 = px ∧ U' 1 = py ∧ U' 2 = pz) ∨ (¬ sr_isS px py pz ∧ r = 0 ∧ U' = U))) (sr_at dC dI (sr_tM t1 t2 t3 t4 t5 t6 t7) (va_A (sr_wM y b1 b2 b3 b4 b5 b6 b7 t1 t2 t3 t4 t5 t6 t7 mo ac kn T F I J U V S) sz)) (va_A (sr_wM y b1 b2 b3 b4 b5 b6 b7 t1 t2 t3 t4 t5 t6 t7 mo ac kn T F I J U V S) sz)) 0 0 (va_A (sr_wM y b1 b2 b3 b4 b5 b6 b7 t1 t2 t3 t4 t5 t6 t7 mo ac kn T F I J U V S) sz) := by
  refine Met.ofW (cc := cX1_first) (maxL := 4) (ret := (some .boolean)) (by decide) rfl ?_
  intro p e s m args below meth c s₁ B hml hv
  obtain ⟨rfl, hsz, hP, hK, hD0⟩ := hv
  have hx := B.exec
  have hb := B.bytes
  have hr := B.returns
  have hts := atoms_spec (ws := wsX1_first) B.pre
  have hown : s.vm.findClass RX1 = some m.cls := findClass_of_methodNamed B.named
  have hlocks := B.notSynchronized
  subst hsz
  have hD := hD0.self (sz := s.heap.size)
  generalize hAe : va_A (sr_wM y b1 b2 b3 b4 b5 b6 b7 t1 t2 t3 t4 t5 t6 t7 mo ac kn T F I J U V S) s.heap.size = A at hD ⊢
  have hA : ∀ q : Nat, s.heap.size ≤ q → A q := fun q h => by rw [← hAe]; exact Or.inr h
  have hS : va_S A s.heap s.heap [] := va_S.rf
  have hP : va_P (dC, dI) vwCl [(y, .inr (1, [.ref b1, .ref b2, .ref b3, .ref b4, .ref b5, .ref b6, .int (nI mo), .int (nI ac), .ref b7, .int kn])), (b1, .inl (t1, 2000, .inl T)), (b2, .inl (t2, 2000, .inl F)), (b3, .inl (t3, 6000, .inl I)), (b4, .inl (t4, 6000, .inl J)), (b5, .inl (t5, 3, .inl U)), (b6, .inl (t6, 3, .inl V)), (b7, .inl (t7, 2001, .inl S))] s.heap := hP
  have hD : va_D A [(y, .inr (1, [.ref b1, .ref b2, .ref b3, .ref b4, .ref b5, .ref b6, .int (nI mo), .int (nI ac), .ref b7, .int kn])), (b1, .inl (t1, 2000, .inl T)), (b2, .inl (t2, 2000, .inl F)), (b3, .inl (t3, 6000, .inl I)), (b4, .inl (t4, 6000, .inl J)), (b5, .inl (t5, 3, .inl U)), (b6, .inl (t6, 3, .inl V)), (b7, .inl (t7, 2001, .inl S))] := hD
  have hK : va_K (dC, dI) vwCl [(t1, .int), (t2, .int), (t3, .byte), (t4, .byte), (t5, .byte), (t6, .byte), (t7, .int)] s := hK
  have hin1 : ∀ w ∈ u_ws RX1 TX1 10, w ∈ wsX1_first := by decide +kernel
  have hl := lv_entry ([.ref y, .int px, .int py, .int pz]) (n := 4) (Nat.le_of_ble_eq_true rfl)
  rw [lg_entry_eq]
  generalize (lg_sl ([.ref y, .int px, .int py, .int pz]) ++ List.replicate (4 - (lg_sl ([.ref y, .int px, .int py, .int pz])).length) Slot.unset).toArray = ls at hl ⊢
  have hl : lv_has ls 4 [(0, .ref y), (1, .int px), (2, .int py), (3, .int pz)] := hl
  refine lv_aload_n hx hb dX1_first_0 rfl (lv_at hl 0 rfl) ?_
  refine va_get (D := (dC, dI)) (ci := 1) (v := .ref b5) (C := RX1) (T := TX1) (N := 10) hx hb hts hin1 hown hK hP 0 rfl rfl 4 (by decide) (hts (.fieldLink RX1 23 "SpeedRowsModel" "first" "[B") (by decide +kernel)) (fun _ h9 => h9) rfl dX1_first_1 ?_
  refine lv_iload_n hx hb dX1_first_4 rfl (lv_at hl 1 rfl) ?_
  refine lv_iload_n hx hb dX1_first_5 rfl (lv_at hl 2 rfl) ?_
  refine lv_iload_n hx hb dX1_first_6 rfl (lv_at hl 3 rfl) ?_
  have hPc := hP.sub (ws' := [(b5, .inl (t5, 3, .inl U))]) [5] rfl
  have hDc := hD.sub (ws' := [(b5, .inl (t5, 3, .inl U))]) [5] (by decide) rfl
  have hKc := hK.sub (tys' := [(t5, .byte)]) [4] rfl
  have hFc := va_free (wc := [(b5, .inl (t5, 3, .inl U))]) hD hS hA [5] rfl
  refine va_calli (va_runS (As := [.ref b5, .int px, .int py, .int pz]) (rest := []) ⟨hx, hb, hml, hown, hts⟩ (c_X1_told l dC dI b5 t5 s.heap.size U px py pz) (va_cwS 4 hts gX1_first_X1_told rfl rfl rfl (by decide +kernel) ⟨Nat.le_of_ble_eq_true rfl, Nat.le_of_ble_eq_true rfl⟩) ⟨sr_blind, sr_mk hPc hKc hDc⟩ rfl rfl hl.1 rfl (lv_room (Nat.le_of_ble_eq_true rfl)) dX1_first_7 ⟨Nat.zero_le _, Nat.zero_le _⟩) hS (fun q _ h => hFc q h) hFc (fun r u t H1 locs ht hvm hw hB hz1 hk1 hS => ?_)
  obtain ⟨hP1, hK1, hD1⟩ := hB
  rw [ht] at hP1
  obtain ⟨U2, rfl, hw⟩ := hw
  obtain ⟨hP, hD⟩ := va_join (wr := [(y, .inr (1, [.ref b1, .ref b2, .ref b3, .ref b4, .ref b5, .ref b6, .int (nI mo), .int (nI ac), .ref b7, .int kn])), (b1, .inl (t1, 2000, .inl T)), (b2, .inl (t2, 2000, .inl F)), (b3, .inl (t3, 6000, .inl I)), (b4, .inl (t4, 6000, .inl J)), (b6, .inl (t6, 3, .inl V)), (b7, .inl (t7, 2001, .inl S))]) (w1 := [(b5, .inl (t5, 3, .inl U2))]) hP hD [5] [0, 1, 2, 3, 4, 6, 7] rfl rfl (by decide) (by decide) hk1 hFc hP1 hD1
  generalize H1 = H at hP hS ⊢
  have hP : va_P (dC, dI) vwCl [(y, .inr (1, [.ref b1, .ref b2, .ref b3, .ref b4, .ref b5, .ref b6, .int (nI mo), .int (nI ac), .ref b7, .int kn])), (b1, .inl (t1, 2000, .inl T)), (b2, .inl (t2, 2000, .inl F)), (b3, .inl (t3, 6000, .inl I)), (b4, .inl (t4, 6000, .inl J)), (b6, .inl (t6, 3, .inl V)), (b7, .inl (t7, 2001, .inl S)), (b5, .inl (t5, 3, .inl U2))] H := hP
  have hD : va_D A [(y, .inr (1, [.ref b1, .ref b2, .ref b3, .ref b4, .ref b5, .ref b6, .int (nI mo), .int (nI ac), .ref b7, .int kn])), (b1, .inl (t1, 2000, .inl T)), (b2, .inl (t2, 2000, .inl F)), (b3, .inl (t3, 6000, .inl I)), (b4, .inl (t4, 6000, .inl J)), (b6, .inl (t6, 3, .inl V)), (b7, .inl (t7, 2001, .inl S)), (b5, .inl (t5, 3, .inl U2))] := hD
  have hP := hP.sub (ws' := [(y, .inr (1, [.ref b1, .ref b2, .ref b3, .ref b4, .ref b5, .ref b6, .int (nI mo), .int (nI ac), .ref b7, .int kn])), (b1, .inl (t1, 2000, .inl T)), (b2, .inl (t2, 2000, .inl F)), (b3, .inl (t3, 6000, .inl I)), (b4, .inl (t4, 6000, .inl J)), (b5, .inl (t5, 3, .inl U2)), (b6, .inl (t6, 3, .inl V)), (b7, .inl (t7, 2001, .inl S))]) [0, 1, 2, 3, 4, 7, 5, 6] rfl
  have hD := hD.sub (ws' := [(y, .inr (1, [.ref b1, .ref b2, .ref b3, .ref b4, .ref b5, .ref b6, .int (nI mo), .int (nI ac), .ref b7, .int kn])), (b1, .inl (t1, 2000, .inl T)), (b2, .inl (t2, 2000, .inl F)), (b3, .inl (t3, 6000, .inl I)), (b4, .inl (t4, 6000, .inl J)), (b5, .inl (t5, 3, .inl U2)), (b6, .inl (t6, 3, .inl V)), (b7, .inl (t7, 2001, .inl S))]) [0, 1, 2, 3, 4, 7, 5, 6] (by decide) rfl
  rcases hw with ⟨hc, rfl, f0, f1, f2⟩ | ⟨hc, rfl, hU⟩
  · exact W.zret (v := 1) hx hb hr rfl (fun t ht hW => ⟨⟨1, _, rfl, ⟨U2, rfl, Or.inl ⟨hc, rfl, f0, f1, f2⟩⟩, by rw [ht]; exact hP, va_K.moved hW.alike hK, hD⟩, hS.F ht⟩) hS.2.2 dX1_first_10
  · exact W.zret (v := 0) hx hb hr rfl (fun t ht hW => ⟨⟨0, _, rfl, ⟨U2, rfl, Or.inr ⟨hc, rfl, hU⟩⟩, by rw [ht]; exact hP, va_K.moved hW.alike hK, hD⟩, hS.F ht⟩) hS.2.2 dX1_first_10
set_option maxHeartbeats 4000000 in
set_option maxRecDepth 100000 in
theorem c_X1_last (l : Launch) (dC : Nat → ClassId) (dI : Nat → Nat → Nat) (y b1 b2 b3 b4 b5 b6 b7 : Nat) (t1 t2 t3 t4 t5 t6 t7 : ClassId) (sz : Nat) (mo ac : Nat) (kn : Int32) (T F I J U V S : Nat → Int32) (px py pz : Int32) : Met l yX1_last wsX1_last ({ frames := 2, cells := 0, slots := 0, locals := 45 }) (sr_pre dC dI (sr_tM t1 t2 t3 t4 t5 t6 t7) (sr_wM y b1 b2 b3 b4 b5 b6 b7 t1 t2 t3 t4 t5 t6 t7 mo ac kn T F I J U V S) sz [.ref y, .int px, .int py, .int pz]) (va_Qi (fun (r : Int32) (u : va_W) => ∃ V' : Nat → Int32, u = sr_wM y b1 b2 b3 b4 b5 b6 b7 t1 t2 t3 t4 t5 t6 t7 mo ac kn T F I J U V' S ∧ ((sr_isS px py pz ∧ r = 1 ∧ V' 0 = px ∧ V' 1 = py ∧ V' 2 = pz) ∨ (¬ sr_isS px py pz ∧ r = 0 ∧ V' = V))) (sr_at dC dI (sr_tM t1 t2 t3 t4 t5 t6 t7) (va_A (sr_wM y b1 b2 b3 b4 b5 b6 b7 t1 t2 t3 t4 t5 t6 t7 mo ac kn T F I J U V S) sz)) (va_A (sr_wM y b1 b2 b3 b4 b5 b6 b7 t1 t2 t3 t4 t5 t6 t7 mo ac kn T F I J U V S) sz)) 0 0 (va_A (sr_wM y b1 b2 b3 b4 b5 b6 b7 t1 t2 t3 t4 t5 t6 t7 mo ac kn T F I J U V S) sz) := by
  refine Met.ofW (cc := cX1_last) (maxL := 4) (ret := (some .boolean)) (by decide) rfl ?_
  intro p e s m args below meth c s₁ B hml hv
  obtain ⟨rfl, hsz, hP, hK, hD0⟩ := hv
  have hx := B.exec
  have hb := B.bytes
  have hr := B.returns
  have hts := atoms_spec (ws := wsX1_last) B.pre
  have hown : s.vm.findClass RX1 = some m.cls := findClass_of_methodNamed B.named
  have hlocks := B.notSynchronized
  subst hsz
  have hD := hD0.self (sz := s.heap.size)
  generalize hAe : va_A (sr_wM y b1 b2 b3 b4 b5 b6 b7 t1 t2 t3 t4 t5 t6 t7 mo ac kn T F I J U V S) s.heap.size = A at hD ⊢
  have hA : ∀ q : Nat, s.heap.size ≤ q → A q := fun q h => by rw [← hAe]; exact Or.inr h
  have hS : va_S A s.heap s.heap [] := va_S.rf
  have hP : va_P (dC, dI) vwCl [(y, .inr (1, [.ref b1, .ref b2, .ref b3, .ref b4, .ref b5, .ref b6, .int (nI mo), .int (nI ac), .ref b7, .int kn])), (b1, .inl (t1, 2000, .inl T)), (b2, .inl (t2, 2000, .inl F)), (b3, .inl (t3, 6000, .inl I)), (b4, .inl (t4, 6000, .inl J)), (b5, .inl (t5, 3, .inl U)), (b6, .inl (t6, 3, .inl V)), (b7, .inl (t7, 2001, .inl S))] s.heap := hP
  have hD : va_D A [(y, .inr (1, [.ref b1, .ref b2, .ref b3, .ref b4, .ref b5, .ref b6, .int (nI mo), .int (nI ac), .ref b7, .int kn])), (b1, .inl (t1, 2000, .inl T)), (b2, .inl (t2, 2000, .inl F)), (b3, .inl (t3, 6000, .inl I)), (b4, .inl (t4, 6000, .inl J)), (b5, .inl (t5, 3, .inl U)), (b6, .inl (t6, 3, .inl V)), (b7, .inl (t7, 2001, .inl S))] := hD
  have hK : va_K (dC, dI) vwCl [(t1, .int), (t2, .int), (t3, .byte), (t4, .byte), (t5, .byte), (t6, .byte), (t7, .int)] s := hK
  have hin1 : ∀ w ∈ u_ws RX1 TX1 10, w ∈ wsX1_last := by decide +kernel
  have hl := lv_entry ([.ref y, .int px, .int py, .int pz]) (n := 4) (Nat.le_of_ble_eq_true rfl)
  rw [lg_entry_eq]
  generalize (lg_sl ([.ref y, .int px, .int py, .int pz]) ++ List.replicate (4 - (lg_sl ([.ref y, .int px, .int py, .int pz])).length) Slot.unset).toArray = ls at hl ⊢
  have hl : lv_has ls 4 [(0, .ref y), (1, .int px), (2, .int py), (3, .int pz)] := hl
  refine lv_aload_n hx hb dX1_last_0 rfl (lv_at hl 0 rfl) ?_
  refine va_get (D := (dC, dI)) (ci := 1) (v := .ref b6) (C := RX1) (T := TX1) (N := 10) hx hb hts hin1 hown hK hP 0 rfl rfl 5 (by decide) (hts (.fieldLink RX1 26 "SpeedRowsModel" "last" "[B") (by decide +kernel)) (fun _ h9 => h9) rfl dX1_last_1 ?_
  refine lv_iload_n hx hb dX1_last_4 rfl (lv_at hl 1 rfl) ?_
  refine lv_iload_n hx hb dX1_last_5 rfl (lv_at hl 2 rfl) ?_
  refine lv_iload_n hx hb dX1_last_6 rfl (lv_at hl 3 rfl) ?_
  have hPc := hP.sub (ws' := [(b6, .inl (t6, 3, .inl V))]) [6] rfl
  have hDc := hD.sub (ws' := [(b6, .inl (t6, 3, .inl V))]) [6] (by decide) rfl
  have hKc := hK.sub (tys' := [(t6, .byte)]) [5] rfl
  have hFc := va_free (wc := [(b6, .inl (t6, 3, .inl V))]) hD hS hA [6] rfl
  refine va_calli (va_runS (As := [.ref b6, .int px, .int py, .int pz]) (rest := []) ⟨hx, hb, hml, hown, hts⟩ (c_X1_told l dC dI b6 t6 s.heap.size V px py pz) (va_cwS 4 hts gX1_last_X1_told rfl rfl rfl (by decide +kernel) ⟨Nat.le_of_ble_eq_true rfl, Nat.le_of_ble_eq_true rfl⟩) ⟨sr_blind, sr_mk hPc hKc hDc⟩ rfl rfl hl.1 rfl (lv_room (Nat.le_of_ble_eq_true rfl)) dX1_last_7 ⟨Nat.zero_le _, Nat.zero_le _⟩) hS (fun q _ h => hFc q h) hFc (fun r u t H1 locs ht hvm hw hB hz1 hk1 hS => ?_)
  obtain ⟨hP1, hK1, hD1⟩ := hB
  rw [ht] at hP1
  obtain ⟨U2, rfl, hw⟩ := hw
  obtain ⟨hP, hD⟩ := va_join (wr := [(y, .inr (1, [.ref b1, .ref b2, .ref b3, .ref b4, .ref b5, .ref b6, .int (nI mo), .int (nI ac), .ref b7, .int kn])), (b1, .inl (t1, 2000, .inl T)), (b2, .inl (t2, 2000, .inl F)), (b3, .inl (t3, 6000, .inl I)), (b4, .inl (t4, 6000, .inl J)), (b5, .inl (t5, 3, .inl U)), (b7, .inl (t7, 2001, .inl S))]) (w1 := [(b6, .inl (t6, 3, .inl U2))]) hP hD [6] [0, 1, 2, 3, 4, 5, 7] rfl rfl (by decide) (by decide) hk1 hFc hP1 hD1
  generalize H1 = H at hP hS ⊢
  have hP : va_P (dC, dI) vwCl [(y, .inr (1, [.ref b1, .ref b2, .ref b3, .ref b4, .ref b5, .ref b6, .int (nI mo), .int (nI ac), .ref b7, .int kn])), (b1, .inl (t1, 2000, .inl T)), (b2, .inl (t2, 2000, .inl F)), (b3, .inl (t3, 6000, .inl I)), (b4, .inl (t4, 6000, .inl J)), (b5, .inl (t5, 3, .inl U)), (b7, .inl (t7, 2001, .inl S)), (b6, .inl (t6, 3, .inl U2))] H := hP
  have hD : va_D A [(y, .inr (1, [.ref b1, .ref b2, .ref b3, .ref b4, .ref b5, .ref b6, .int (nI mo), .int (nI ac), .ref b7, .int kn])), (b1, .inl (t1, 2000, .inl T)), (b2, .inl (t2, 2000, .inl F)), (b3, .inl (t3, 6000, .inl I)), (b4, .inl (t4, 6000, .inl J)), (b5, .inl (t5, 3, .inl U)), (b7, .inl (t7, 2001, .inl S)), (b6, .inl (t6, 3, .inl U2))] := hD
  have hP := hP.sub (ws' := [(y, .inr (1, [.ref b1, .ref b2, .ref b3, .ref b4, .ref b5, .ref b6, .int (nI mo), .int (nI ac), .ref b7, .int kn])), (b1, .inl (t1, 2000, .inl T)), (b2, .inl (t2, 2000, .inl F)), (b3, .inl (t3, 6000, .inl I)), (b4, .inl (t4, 6000, .inl J)), (b5, .inl (t5, 3, .inl U)), (b6, .inl (t6, 3, .inl U2)), (b7, .inl (t7, 2001, .inl S))]) [0, 1, 2, 3, 4, 5, 7, 6] rfl
  have hD := hD.sub (ws' := [(y, .inr (1, [.ref b1, .ref b2, .ref b3, .ref b4, .ref b5, .ref b6, .int (nI mo), .int (nI ac), .ref b7, .int kn])), (b1, .inl (t1, 2000, .inl T)), (b2, .inl (t2, 2000, .inl F)), (b3, .inl (t3, 6000, .inl I)), (b4, .inl (t4, 6000, .inl J)), (b5, .inl (t5, 3, .inl U)), (b6, .inl (t6, 3, .inl U2)), (b7, .inl (t7, 2001, .inl S))]) [0, 1, 2, 3, 4, 5, 7, 6] (by decide) rfl
  rcases hw with ⟨hc, rfl, f0, f1, f2⟩ | ⟨hc, rfl, hU⟩
  · exact W.zret (v := 1) hx hb hr rfl (fun t ht hW => ⟨⟨1, _, rfl, ⟨U2, rfl, Or.inl ⟨hc, rfl, f0, f1, f2⟩⟩, by rw [ht]; exact hP, va_K.moved hW.alike hK, hD⟩, hS.F ht⟩) hS.2.2 dX1_last_10
  · exact W.zret (v := 0) hx hb hr rfl (fun t ht hW => ⟨⟨0, _, rfl, ⟨U2, rfl, Or.inr ⟨hc, rfl, hU⟩⟩, by rw [ht]; exact hP, va_K.moved hW.alike hK, hD⟩, hS.F ht⟩) hS.2.2 dX1_last_10
set_option maxHeartbeats 4000000 in
set_option maxRecDepth 100000 in
theorem lp_X1_root {p : Program} {l : Launch} {e : Env} {R : Room} {s : State} {m : MethodId} {args : Array Value} {below : List Frame} {meth : Method} {c : Code} {Q : State → Prop} (C0 : CallFix p m c cX1_root 8 s args wsX1_root RX1) {H : Heap} {locs : List Loc} {nn : Nat} (hnn : nn < 2 ^ 62) (hk : ∀ (r : Nat) (ls : Array Slot), r * r ≤ nn → nn < (r + 1) * (r + 1) → lv_has ls 8 [(2, .long (lN r))] → W p l e R s m args below meth c H locs 0 0 Q (F0 m 51 ls [])) :
    ∀ (n lo hi : Nat) (ls : Array Slot), hi < lo + n → lo ≤ hi → hi ≤ 2000000000 → lo * lo ≤ nn → nn < (hi + 1) * (hi + 1) → lv_has ls 8 [(0, .long (lN nn)), (2, .long (lN lo)), (4, .long (lN hi))] → W p l e R s m args below meth c H locs 0 0 Q (F0 m 7 ls []) := by
  obtain ⟨hx, hb, hml, hown, hts⟩ := C0
  intro n
  induction n with
  | zero =>
    intro lo hi ls h1 h2
    exact absurd h1 (by omega)
  | succ n ih =>
    intro lo hi ls h1 h2 h3 h4 h5 hl
    refine lv_lload_n hx hb dX1_root_7 rfl (lv_at hl 1 rfl) ?_
    refine lv_lload hx hb dX1_root_8 (lv_at hl 2 rfl) ?_
    refine W.lcmp hx hb dX1_root_10 ?_
    refine lv_if_ge (tgt := 51) hx hb dX1_root_11 (by decide) (fun c1 => ?_) (fun c1 => ?_)
    · have e1 : hi ≤ lo := (pk_lLE (by omega) (by omega)).mp ((lg_cmp_ge _ _).mp c1)
      obtain rfl : lo = hi := by omega
      exact hk lo ls h4 h5 (lv_sub hl [1] rfl)
    · have e1 : lo < hi := Nat.lt_of_not_le (fun q => c1 ((lg_cmp_ge _ _).mpr ((pk_lLE (by omega) (by omega)).mpr q)))
      obtain ⟨md, emd⟩ : ∃ z, z = (lo + hi + 1) / 2 := ⟨_, rfl⟩
      have g1 : lo < md := by omega
      have g2 : md ≤ hi := by omega
      have g3 : md * md ≤ 2000000000 * 2000000000 := Nat.mul_le_mul (by omega) (by omega)
      refine lv_lload_n hx hb dX1_root_14 rfl (lv_at hl 1 rfl) ?_
      refine lv_lload hx hb dX1_root_15 (lv_at hl 2 rfl) ?_
      refine lv_ladd hx hb dX1_root_17 ?_
      refine sr_tl (y := lN (lo + hi)) (lN_add _ _) ?_
      refine lv_lconst (v := lN 1) hx hb dX1_root_18 (by decide) ?_
      refine lv_ladd hx hb dX1_root_19 ?_
      refine sr_tl (y := lN ((lo + hi) + 1)) (lN_add _ _) ?_
      refine lv_ldc2 (v := lN 2) hx hb hown (hts (.constantLong RX1 64 2) (by decide +kernel)) dX1_root_20 ?_
      refine lv_ldiv hx hb dX1_root_23 (by decide) ?_
      refine sr_tl (y := lN md) (by rw [emd]; exact pk_lDiv (by omega) (by omega) (by omega)) ?_
      refine lv_lstore (lv' := [(6, .long (lN md)), (0, .long (lN nn)), (2, .long (lN lo)), (4, .long (lN hi))]) hx hb dX1_root_24 hl (by decide) rfl (fun ls hl => ?_)
      refine lv_lload hx hb dX1_root_26 (lv_at hl 0 rfl) ?_
      refine lv_lload hx hb dX1_root_28 (lv_at hl 0 rfl) ?_
      refine lv_lmul hx hb dX1_root_30 ?_
      refine sr_tl (y := lN (md * md)) (lN_mul _ _) ?_
      refine lv_lload_n hx hb dX1_root_31 rfl (lv_at hl 1 rfl) ?_
      refine W.lcmp hx hb dX1_root_32 ?_
      refine lv_if_gt (tgt := 42) hx hb dX1_root_33 (by decide) (fun c2 => ?_) (fun c2 => ?_)
      · have g4 : nn < md * md := (pk_lLT (by omega) (by omega)).mp ((lg_cmp_gt _ _).mp c2)
        refine lv_lload hx hb dX1_root_42 (lv_at hl 0 rfl) ?_
        refine lv_lconst (v := lN 1) hx hb dX1_root_44 (by decide) ?_
        refine lv_lsub hx hb dX1_root_45 ?_
        refine sr_tl (y := lN (md - 1)) (lN_sub (by omega)) ?_
        refine lv_lstore (lv' := [(4, .long (lN (md - 1))), (6, .long (lN md)), (0, .long (lN nn)), (2, .long (lN lo))]) hx hb dX1_root_46 hl (by decide) rfl (fun ls hl => ?_)
        refine lv_goto (tgt := 7) hx hb dX1_root_48 (by decide) ?_
        exact ih lo (md - 1) ls (by omega) (by omega) (by omega) h4 (by rw [show md - 1 + 1 = md by omega]; exact g4) (lv_sub hl [2, 3, 0] rfl)
      · have g4 : md * md ≤ nn := Nat.le_of_not_lt (fun q => c2 ((lg_cmp_gt _ _).mpr ((pk_lLT (by omega) (by omega)).mpr q)))
        refine lv_lload hx hb dX1_root_36 (lv_at hl 0 rfl) ?_
        refine lv_lstore_n (lv' := [(2, .long (lN md)), (6, .long (lN md)), (0, .long (lN nn)), (4, .long (lN hi))]) hx hb dX1_root_38 rfl hl (by decide) rfl (fun ls hl => ?_)
        refine lv_goto (tgt := 48) hx hb dX1_root_39 (by decide) ?_
        refine lv_goto (tgt := 7) hx hb dX1_root_48 (by decide) ?_
        exact ih md hi ls (by omega) g2 h3 g4 h5 (lv_sub hl [2, 0, 3] rfl)
set_option maxHeartbeats 4000000 in
set_option maxRecDepth 100000 in
theorem c_X1_root (l : Launch) (nn : Nat) (hnn : nn < 2 ^ 60) : Met l yX1_root wsX1_root ({ frames := 0, cells := 0, slots := 0, locals := 0 }) (va_Pc [.long (lN nn)] (fun _ => True)) (vp_Sl (fun r => r = lN (sr_q nn))) 0 0 (fun _ => False) := by
  refine Met.ofW (cc := cX1_root) (maxL := 8) (ret := (some .long)) (by decide) rfl ?_
  intro p e s m args below meth c s₁ B hml hv
  obtain ⟨rfl, -⟩ := hv
  have hx := B.exec
  have hb := B.bytes
  have hr := B.returns
  have hts := atoms_spec (ws := wsX1_root) B.pre
  have hown : s.vm.findClass RX1 = some m.cls := findClass_of_methodNamed B.named
  have hlocks := B.notSynchronized
  have hl := lv_entry ([.long (lN nn)]) (n := 8) (Nat.le_of_ble_eq_true rfl)
  rw [lg_entry_eq]
  generalize (lg_sl ([.long (lN nn)]) ++ List.replicate (8 - (lg_sl ([.long (lN nn)])).length) Slot.unset).toArray = ls at hl ⊢
  have hl : lv_has ls 8 [(0, .long (lN nn))] := hl
  refine lv_lconst (v := lN 0) hx hb dX1_root_0 (by decide) ?_
  refine lv_lstore_n (lv' := [(2, .long (lN 0)), (0, .long (lN nn))]) hx hb dX1_root_1 rfl hl (by decide) rfl (fun ls hl => ?_)
  refine lv_ldc2 (v := lN 2000000000) hx hb hown (hts (.constantLong RX1 62 2000000000) (by decide +kernel)) dX1_root_2 ?_
  refine lv_lstore (lv' := [(4, .long (lN 2000000000)), (2, .long (lN 0)), (0, .long (lN nn))]) hx hb dX1_root_5 hl (by decide) rfl (fun ls hl => ?_)
  refine lp_X1_root ⟨hx, hb, hml, hown, hts⟩ (nn := nn) (by omega) (fun r ls q1 q2 hl => ?_) 2000000001 0 2000000000 ls (by omega) (by omega) (by omega) (by omega) (by omega) (lv_sub hl [2, 1, 0] rfl)
  refine lv_lload_n hx hb dX1_root_51 rfl (lv_at hl 0 rfl) ?_
  exact W.lret (v := lN r) hx hb hr (fun t ht hW => ⟨lN r, rfl, by rw [sr_q_uniq q1 q2], ht⟩) (fun q h => absurd h List.not_mem_nil) dX1_root_52
set_option maxHeartbeats 4000000 in
set_option maxRecDepth 100000 in
theorem c_X1_reach (l : Launch) (dC : Nat → ClassId) (dI : Nat → Nat → Nat) (y b1 b2 b3 b4 b5 b6 b7 : Nat) (t1 t2 t3 t4 t5 t6 t7 : ClassId) (sz : Nat) (mo ac : Nat) (kn : Int32) (T F I J U V S : Nat → Int32) (a j tt : Nat) (ha : a ≤ 99999) (hj : j < 2000) (hT : T j = nI tt) (htt : tt ≤ 100000) (hac : ac ≤ 10000) : Met l yX1_reach wsX1_reach ({ frames := 1, cells := 0, slots := 0, locals := 27 }) (sr_pre dC dI (sr_tM t1 t2 t3 t4 t5 t6 t7) (sr_wM y b1 b2 b3 b4 b5 b6 b7 t1 t2 t3 t4 t5 t6 t7 mo ac kn T F I J U V S) sz [.ref y, .int (nI a), .int (nI j)]) (va_Qi (fun (r : Int32) (u : va_W) => u = sr_wM y b1 b2 b3 b4 b5 b6 b7 t1 t2 t3 t4 t5 t6 t7 mo ac kn T F I J U V S ∧ r = nI (sr_r ac tt a)) (sr_at dC dI (sr_tM t1 t2 t3 t4 t5 t6 t7) (va_A (sr_wM y b1 b2 b3 b4 b5 b6 b7 t1 t2 t3 t4 t5 t6 t7 mo ac kn T F I J U V S) sz)) (va_A (sr_wM y b1 b2 b3 b4 b5 b6 b7 t1 t2 t3 t4 t5 t6 t7 mo ac kn T F I J U V S) sz)) 0 0 (va_A (sr_wM y b1 b2 b3 b4 b5 b6 b7 t1 t2 t3 t4 t5 t6 t7 mo ac kn T F I J U V S) sz) := by
  refine Met.ofW (cc := cX1_reach) (maxL := 3) (ret := (some .int)) (by decide) rfl ?_
  intro p e s m args below meth c s₁ B hml hv
  obtain ⟨rfl, hsz, hP, hK, hD0⟩ := hv
  have hx := B.exec
  have hb := B.bytes
  have hr := B.returns
  have hts := atoms_spec (ws := wsX1_reach) B.pre
  have hown : s.vm.findClass RX1 = some m.cls := findClass_of_methodNamed B.named
  have hlocks := B.notSynchronized
  subst hsz
  have hD := hD0.self (sz := s.heap.size)
  generalize hAe : va_A (sr_wM y b1 b2 b3 b4 b5 b6 b7 t1 t2 t3 t4 t5 t6 t7 mo ac kn T F I J U V S) s.heap.size = A at hD ⊢
  have hA : ∀ q : Nat, s.heap.size ≤ q → A q := fun q h => by rw [← hAe]; exact Or.inr h
  have hS : va_S A s.heap s.heap [] := va_S.rf
  have hP : va_P (dC, dI) vwCl [(y, .inr (1, [.ref b1, .ref b2, .ref b3, .ref b4, .ref b5, .ref b6, .int (nI mo), .int (nI ac), .ref b7, .int kn])), (b1, .inl (t1, 2000, .inl T)), (b2, .inl (t2, 2000, .inl F)), (b3, .inl (t3, 6000, .inl I)), (b4, .inl (t4, 6000, .inl J)), (b5, .inl (t5, 3, .inl U)), (b6, .inl (t6, 3, .inl V)), (b7, .inl (t7, 2001, .inl S))] s.heap := hP
  have hD : va_D A [(y, .inr (1, [.ref b1, .ref b2, .ref b3, .ref b4, .ref b5, .ref b6, .int (nI mo), .int (nI ac), .ref b7, .int kn])), (b1, .inl (t1, 2000, .inl T)), (b2, .inl (t2, 2000, .inl F)), (b3, .inl (t3, 6000, .inl I)), (b4, .inl (t4, 6000, .inl J)), (b5, .inl (t5, 3, .inl U)), (b6, .inl (t6, 3, .inl V)), (b7, .inl (t7, 2001, .inl S))] := hD
  have hK : va_K (dC, dI) vwCl [(t1, .int), (t2, .int), (t3, .byte), (t4, .byte), (t5, .byte), (t6, .byte), (t7, .int)] s := hK
  have hin1 : ∀ w ∈ u_ws RX1 TX1 10, w ∈ wsX1_reach := by decide +kernel
  have hl := lv_entry ([.ref y, .int (nI a), .int (nI j)]) (n := 3) (Nat.le_of_ble_eq_true rfl)
  rw [lg_entry_eq]
  generalize (lg_sl ([.ref y, .int (nI a), .int (nI j)]) ++ List.replicate (3 - (lg_sl ([.ref y, .int (nI a), .int (nI j)])).length) Slot.unset).toArray = ls at hl ⊢
  have hl : lv_has ls 3 [(0, .ref y), (1, .int (nI a)), (2, .int (nI j))] := hl
  have e1 : a * a ≤ 99999 * 99999 := Nat.mul_le_mul ha ha
  have e2 : 2 * ac * tt ≤ 20000 * 100000 := Nat.mul_le_mul (by omega) htt
  refine lv_iload_n hx hb dX1_reach_0 rfl (lv_at hl 1 rfl) ?_
  refine lv_i2l (v := lN a) hx hb dX1_reach_1 (nI_l (by omega)) ?_
  refine lv_iload_n hx hb dX1_reach_2 rfl (lv_at hl 1 rfl) ?_
  refine lv_i2l (v := lN a) hx hb dX1_reach_3 (nI_l (by omega)) ?_
  refine lv_lmul hx hb dX1_reach_4 ?_
  refine sr_tl (y := lN (a * a)) (lN_mul _ _) ?_
  refine lv_ldc2 (v := lN 2) hx hb hown (hts (.constantLong RX1 64 2) (by decide +kernel)) dX1_reach_5 ?_
  refine lv_aload_n hx hb dX1_reach_8 rfl (lv_at hl 0 rfl) ?_
  refine va_get (D := (dC, dI)) (ci := 1) (v := .int (nI ac)) (C := RX1) (T := TX1) (N := 10) hx hb hts hin1 hown hK hP 0 rfl rfl 7 (by decide) (hts (.fieldLink RX1 29 "SpeedRowsModel" "most" "I") (by decide +kernel)) (fun _ h9 => h9) rfl dX1_reach_9 ?_
  refine lv_i2l (v := lN ac) hx hb dX1_reach_12 (nI_l (by omega)) ?_
  refine lv_lmul hx hb dX1_reach_13 ?_
  refine sr_tl (y := lN (2 * ac)) (lN_mul _ _) ?_
  refine lv_aload_n hx hb dX1_reach_14 rfl (lv_at hl 0 rfl) ?_
  refine va_get (D := (dC, dI)) (ci := 1) (v := .ref b1) (C := RX1) (T := TX1) (N := 10) hx hb hts hin1 hown hK hP 0 rfl rfl 0 (by decide) (hts (.fieldLink RX1 9 "SpeedRowsModel" "ticks" "[I") (by decide +kernel)) (fun _ h9 => h9) rfl dX1_reach_15 ?_
  refine lv_iload_n hx hb dX1_reach_18 rfl (lv_at hl 2 rfl) ?_
  refine sr_iald (v := nI tt) hx hb hK hP 1 0 rfl rfl (by omega) (by decide) (hT) dX1_reach_19 ?_
  refine lv_i2l (v := lN tt) hx hb dX1_reach_20 (nI_l (by omega)) ?_
  refine lv_lmul hx hb dX1_reach_21 ?_
  refine sr_tl (y := lN ((2 * ac) * tt)) (lN_mul _ _) ?_
  refine lv_ladd hx hb dX1_reach_22 ?_
  refine sr_tl (y := lN ((a * a) + ((2 * ac) * tt))) (lN_add _ _) ?_
  refine vp_callSl (W.runS (As := [.long (lN ((a * a) + ((2 * ac) * tt)))]) (rest := []) ⟨hx, hb, hml, hown, hts⟩ (c_X1_root l (a * a + 2 * ac * tt) (by omega)) (va_cwS 1 hts gX1_reach_X1_root rfl rfl rfl (by decide +kernel) ⟨Nat.le_of_ble_eq_true rfl, Nat.le_of_ble_eq_true rfl⟩) ⟨sr_blindT, sr_mkT⟩ rfl rfl hl.1 rfl (lv_room (Nat.le_of_ble_eq_true rfl)) dX1_reach_23 ⟨Nat.zero_le _, Nat.zero_le _⟩) (fun r1 er => ?_)
  refine sr_tl (y := lN (sr_r ac tt a)) (by rw [er]; rfl) ?_
  refine lv_l2i (v := nI (sr_r ac tt a)) hx hb dX1_reach_26 (lN_i _) ?_
  exact W.iret (v := nI (sr_r ac tt a)) hx hb hr (fun t ht hW => ⟨⟨nI (sr_r ac tt a), _, rfl, ⟨rfl, rfl⟩, by rw [ht]; exact hP, va_K.moved hW.alike hK, hD⟩, hS.F ht⟩) hS.2.2 dX1_reach_27
set_option maxHeartbeats 4000000 in
set_option maxRecDepth 100000 in
theorem c_X1_lowered (l : Launch) (dC : Nat → ClassId) (dI : Nat → Nat → Nat) (y b1 b2 b3 b4 b5 b6 b7 : Nat) (t1 t2 t3 t4 t5 t6 t7 : ClassId) (sz : Nat) (mo ac : Nat) (kn : Int32) (T F I J U V S : Nat → Int32) (k a b : Nat) (hk : k < 2001) (ha : a < 2 ^ 31) (hbb : b < 2 ^ 31) (hSk : S k = nI a) : Met l yX1_lowered wsX1_lowered ({ frames := 0, cells := 0, slots := 0, locals := 0 }) (sr_pre dC dI (sr_tM t1 t2 t3 t4 t5 t6 t7) (sr_wM y b1 b2 b3 b4 b5 b6 b7 t1 t2 t3 t4 t5 t6 t7 mo ac kn T F I J U V S) sz [.ref y, .int (nI k), .int (nI b)]) (va_Qi (fun (r : Int32) (u : va_W) => ∃ S' : Nat → Int32, u = sr_wM y b1 b2 b3 b4 b5 b6 b7 t1 t2 t3 t4 t5 t6 t7 mo ac kn T F I J U V S' ∧ (∀ i, i ≠ k → S' i = S i) ∧ S' k = nI (min a b) ∧ (r = 0 ∨ r = 1) ∧ (a ≤ b → r = 0)) (sr_at dC dI (sr_tM t1 t2 t3 t4 t5 t6 t7) (va_A (sr_wM y b1 b2 b3 b4 b5 b6 b7 t1 t2 t3 t4 t5 t6 t7 mo ac kn T F I J U V S) sz)) (va_A (sr_wM y b1 b2 b3 b4 b5 b6 b7 t1 t2 t3 t4 t5 t6 t7 mo ac kn T F I J U V S) sz)) 0 0 (va_A (sr_wM y b1 b2 b3 b4 b5 b6 b7 t1 t2 t3 t4 t5 t6 t7 mo ac kn T F I J U V S) sz) := by
  refine Met.ofW (cc := cX1_lowered) (maxL := 3) (ret := (some .boolean)) (by decide) rfl ?_
  intro p e s m args below meth c s₁ B hml hv
  obtain ⟨rfl, hsz, hP, hK, hD0⟩ := hv
  have hx := B.exec
  have hb := B.bytes
  have hr := B.returns
  have hts := atoms_spec (ws := wsX1_lowered) B.pre
  have hown : s.vm.findClass RX1 = some m.cls := findClass_of_methodNamed B.named
  have hlocks := B.notSynchronized
  subst hsz
  have hD := hD0.self (sz := s.heap.size)
  generalize hAe : va_A (sr_wM y b1 b2 b3 b4 b5 b6 b7 t1 t2 t3 t4 t5 t6 t7 mo ac kn T F I J U V S) s.heap.size = A at hD ⊢
  have hA : ∀ q : Nat, s.heap.size ≤ q → A q := fun q h => by rw [← hAe]; exact Or.inr h
  have hS : va_S A s.heap s.heap [] := va_S.rf
  have hP : va_P (dC, dI) vwCl [(y, .inr (1, [.ref b1, .ref b2, .ref b3, .ref b4, .ref b5, .ref b6, .int (nI mo), .int (nI ac), .ref b7, .int kn])), (b1, .inl (t1, 2000, .inl T)), (b2, .inl (t2, 2000, .inl F)), (b3, .inl (t3, 6000, .inl I)), (b4, .inl (t4, 6000, .inl J)), (b5, .inl (t5, 3, .inl U)), (b6, .inl (t6, 3, .inl V)), (b7, .inl (t7, 2001, .inl S))] s.heap := hP
  have hD : va_D A [(y, .inr (1, [.ref b1, .ref b2, .ref b3, .ref b4, .ref b5, .ref b6, .int (nI mo), .int (nI ac), .ref b7, .int kn])), (b1, .inl (t1, 2000, .inl T)), (b2, .inl (t2, 2000, .inl F)), (b3, .inl (t3, 6000, .inl I)), (b4, .inl (t4, 6000, .inl J)), (b5, .inl (t5, 3, .inl U)), (b6, .inl (t6, 3, .inl V)), (b7, .inl (t7, 2001, .inl S))] := hD
  have hK : va_K (dC, dI) vwCl [(t1, .int), (t2, .int), (t3, .byte), (t4, .byte), (t5, .byte), (t6, .byte), (t7, .int)] s := hK
  have hin1 : ∀ w ∈ u_ws RX1 TX1 10, w ∈ wsX1_lowered := by decide +kernel
  have hl := lv_entry ([.ref y, .int (nI k), .int (nI b)]) (n := 3) (Nat.le_of_ble_eq_true rfl)
  rw [lg_entry_eq]
  generalize (lg_sl ([.ref y, .int (nI k), .int (nI b)]) ++ List.replicate (3 - (lg_sl ([.ref y, .int (nI k), .int (nI b)])).length) Slot.unset).toArray = ls at hl ⊢
  have hl : lv_has ls 3 [(0, .ref y), (1, .int (nI k)), (2, .int (nI b))] := hl
  refine lv_aload_n hx hb dX1_lowered_0 rfl (lv_at hl 0 rfl) ?_
  refine va_get (D := (dC, dI)) (ci := 1) (v := .ref b7) (C := RX1) (T := TX1) (N := 10) hx hb hts hin1 hown hK hP 0 rfl rfl 8 (by decide) (hts (.fieldLink RX1 33 "SpeedRowsModel" "speeds" "[I") (by decide +kernel)) (fun _ h9 => h9) rfl dX1_lowered_1 ?_
  refine lv_iload_n hx hb dX1_lowered_4 rfl (lv_at hl 1 rfl) ?_
  refine sr_iald (v := nI a) hx hb hK hP 7 6 rfl rfl (by omega) (by decide) (hSk) dX1_lowered_5 ?_
  refine lv_iload_n hx hb dX1_lowered_6 rfl (lv_at hl 2 rfl) ?_
  refine lv_icmp_gt (tgt := 12) hx hb dX1_lowered_7 (by decide) (fun c1 => ?_) (fun c1 => ?_)
  · have e1 : b < a := (nI_ltI hbb ha).mp c1
    refine lv_aload_n hx hb dX1_lowered_12 rfl (lv_at hl 0 rfl) ?_
    refine va_get (D := (dC, dI)) (ci := 1) (v := .ref b7) (C := RX1) (T := TX1) (N := 10) hx hb hts hin1 hown hK hP 0 rfl rfl 8 (by decide) (hts (.fieldLink RX1 33 "SpeedRowsModel" "speeds" "[I") (by decide +kernel)) (fun _ h9 => h9) rfl dX1_lowered_13 ?_
    refine lv_iload_n hx hb dX1_lowered_16 rfl (lv_at hl 1 rfl) ?_
    refine lv_iload_n hx hb dX1_lowered_17 rfl (lv_at hl 2 rfl) ?_
    refine sr_iast hx hb hK hP hD hS 7 6 rfl rfl (by omega) (by decide) dX1_lowered_18 (fun H locs hP hD hS => ?_)
    have hP : va_P (dC, dI) vwCl [(y, .inr (1, [.ref b1, .ref b2, .ref b3, .ref b4, .ref b5, .ref b6, .int (nI mo), .int (nI ac), .ref b7, .int kn])), (b1, .inl (t1, 2000, .inl T)), (b2, .inl (t2, 2000, .inl F)), (b3, .inl (t3, 6000, .inl I)), (b4, .inl (t4, 6000, .inl J)), (b5, .inl (t5, 3, .inl U)), (b6, .inl (t6, 3, .inl V)), (b7, .inl (t7, 2001, .inl (upd S k (nI b))))] H := hP
    have hD : va_D A [(y, .inr (1, [.ref b1, .ref b2, .ref b3, .ref b4, .ref b5, .ref b6, .int (nI mo), .int (nI ac), .ref b7, .int kn])), (b1, .inl (t1, 2000, .inl T)), (b2, .inl (t2, 2000, .inl F)), (b3, .inl (t3, 6000, .inl I)), (b4, .inl (t4, 6000, .inl J)), (b5, .inl (t5, 3, .inl U)), (b6, .inl (t6, 3, .inl V)), (b7, .inl (t7, 2001, .inl (upd S k (nI b))))] := hD
    refine lv_iconst (v := 1) hx hb dX1_lowered_19 (by decide) ?_
    exact W.zret (v := 1) hx hb hr rfl (fun t ht hW => ⟨⟨1, _, rfl, ⟨_, rfl, fun i q => pk_un q, by rw [pk_us, Nat.min_eq_right (Nat.le_of_lt e1)], Or.inr rfl, fun q => absurd q (by omega)⟩, by rw [ht]; exact hP, va_K.moved hW.alike hK, hD⟩, hS.F ht⟩) hS.2.2 dX1_lowered_20
  · have e1 : a ≤ b := Nat.le_of_not_lt (fun q => c1 ((nI_ltI hbb ha).mpr q))
    refine lv_iconst (v := 0) hx hb dX1_lowered_10 (by decide) ?_
    exact W.zret (v := 0) hx hb hr rfl (fun t ht hW => ⟨⟨0, _, rfl, ⟨S, rfl, fun i q => rfl, by rw [hSk, Nat.min_eq_left e1], Or.inl rfl, fun q => rfl⟩, by rw [ht]; exact hP, va_K.moved hW.alike hK, hD⟩, hS.F ht⟩) hS.2.2 dX1_lowered_11
end
section
/-! THE REFERENCE: limit. -/
set_option maxHeartbeats 4000000 in
set_option maxRecDepth 100000 in
theorem c_X1_limit (l : Launch) (dC : Nat → ClassId) (dI : Nat → Nat → Nat) (y b1 b2 b3 b4 b5 b6 b7 : Nat) (t1 t2 t3 t4 t5 t6 t7 : ClassId) (sz : Nat) (mo ac : Nat) (kn : Int32) (T F I J U V S : Nat → Int32) (k : Int32) (cf cl : Nat) (tk fd fs la : Nat → Nat) (g : sr_G mo ac cf cl tk fd fs la) (hM : sr_MI mo cf cl tk fd fs la T F I J U V) : Met l yX1_limit wsX1_limit ({ frames := 1, cells := 0, slots := 0, locals := 14 }) (sr_pre dC dI (sr_tM t1 t2 t3 t4 t5 t6 t7) (sr_wM y b1 b2 b3 b4 b5 b6 b7 t1 t2 t3 t4 t5 t6 t7 mo ac kn T F I J U V S) sz [.ref y, .int k]) (va_Qi (fun (r : Int32) (u : va_W) => u = sr_wM y b1 b2 b3 b4 b5 b6 b7 t1 t2 t3 t4 t5 t6 t7 mo ac kn T F I J U V S ∧ r = sr_an mo (sr_lim mo fd fs la) k) (sr_at dC dI (sr_tM t1 t2 t3 t4 t5 t6 t7) (va_A (sr_wM y b1 b2 b3 b4 b5 b6 b7 t1 t2 t3 t4 t5 t6 t7 mo ac kn T F I J U V S) sz)) (va_A (sr_wM y b1 b2 b3 b4 b5 b6 b7 t1 t2 t3 t4 t5 t6 t7 mo ac kn T F I J U V S) sz)) 0 0 (va_A (sr_wM y b1 b2 b3 b4 b5 b6 b7 t1 t2 t3 t4 t5 t6 t7 mo ac kn T F I J U V S) sz) := by
  refine Met.ofW (cc := cX1_limit) (maxL := 8) (ret := (some .int)) (by decide) rfl ?_
  intro p e s m args below meth c s₁ B hml hv
  obtain ⟨rfl, hsz, hP, hK, hD0⟩ := hv
  have hx := B.exec
  have hb := B.bytes
  have hr := B.returns
  have hts := atoms_spec (ws := wsX1_limit) B.pre
  have hown : s.vm.findClass RX1 = some m.cls := findClass_of_methodNamed B.named
  have hlocks := B.notSynchronized
  subst hsz
  have hD := hD0.self (sz := s.heap.size)
  generalize hAe : va_A (sr_wM y b1 b2 b3 b4 b5 b6 b7 t1 t2 t3 t4 t5 t6 t7 mo ac kn T F I J U V S) s.heap.size = A at hD ⊢
  have hA : ∀ q : Nat, s.heap.size ≤ q → A q := fun q h => by rw [← hAe]; exact Or.inr h
  have hS : va_S A s.heap s.heap [] := va_S.rf
  have hP : va_P (dC, dI) vwCl [(y, .inr (1, [.ref b1, .ref b2, .ref b3, .ref b4, .ref b5, .ref b6, .int (nI mo), .int (nI ac), .ref b7, .int kn])), (b1, .inl (t1, 2000, .inl T)), (b2, .inl (t2, 2000, .inl F)), (b3, .inl (t3, 6000, .inl I)), (b4, .inl (t4, 6000, .inl J)), (b5, .inl (t5, 3, .inl U)), (b6, .inl (t6, 3, .inl V)), (b7, .inl (t7, 2001, .inl S))] s.heap := hP
  have hD : va_D A [(y, .inr (1, [.ref b1, .ref b2, .ref b3, .ref b4, .ref b5, .ref b6, .int (nI mo), .int (nI ac), .ref b7, .int kn])), (b1, .inl (t1, 2000, .inl T)), (b2, .inl (t2, 2000, .inl F)), (b3, .inl (t3, 6000, .inl I)), (b4, .inl (t4, 6000, .inl J)), (b5, .inl (t5, 3, .inl U)), (b6, .inl (t6, 3, .inl V)), (b7, .inl (t7, 2001, .inl S))] := hD
  have hK : va_K (dC, dI) vwCl [(t1, .int), (t2, .int), (t3, .byte), (t4, .byte), (t5, .byte), (t6, .byte), (t7, .int)] s := hK
  have hin1 : ∀ w ∈ u_ws RX1 TX1 10, w ∈ wsX1_limit := by decide +kernel
  have hl := lv_entry ([.ref y, .int k]) (n := 8) (Nat.le_of_ble_eq_true rfl)
  rw [lg_entry_eq]
  generalize (lg_sl ([.ref y, .int k]) ++ List.replicate (8 - (lg_sl ([.ref y, .int k])).length) Slot.unset).toArray = ls at hl ⊢
  have hl : lv_has ls 8 [(0, .ref y), (1, .int k)] := hl
  obtain ⟨hmo, ⟨hac1, hac2⟩, hcf, hcl, hpath⟩ := id g
  refine lv_iload_n hx hb dX1_limit_0 rfl (lv_at hl 1 rfl) ?_
  refine lv_if_lt (tgt := 12) hx hb dX1_limit_1 (by decide) (fun c1 => ?_) (fun c1 => ?_)
  · refine lv_iconst (v := (-1)) hx hb dX1_limit_12 (by decide) ?_
    exact W.iret (v := (-1)) hx hb hr (fun t ht hW => ⟨⟨(-1), _, rfl, ⟨rfl, by rw [sr_an, if_neg (fun q => absurd q.1 (Int32.not_le.mpr c1))]⟩, by rw [ht]; exact hP, va_K.moved hW.alike hK, hD⟩, hS.F ht⟩) hS.2.2 dX1_limit_13
  · refine lv_iload_n hx hb dX1_limit_4 rfl (lv_at hl 1 rfl) ?_
    refine lv_aload_n hx hb dX1_limit_5 rfl (lv_at hl 0 rfl) ?_
    refine va_get (D := (dC, dI)) (ci := 1) (v := .int (nI mo)) (C := RX1) (T := TX1) (N := 10) hx hb hts hin1 hown hK hP 0 rfl rfl 6 (by decide) (hts (.fieldLink RX1 46 "SpeedRowsModel" "moves" "I") (by decide +kernel)) (fun _ h9 => h9) rfl dX1_limit_6 ?_
    refine lv_icmp_le (tgt := 14) hx hb dX1_limit_9 (by decide) (fun c2 => ?_) (fun c2 => ?_)
    · have hc : 0 ≤ k ∧ k ≤ nI mo := ⟨Int32.not_lt.mp c1, c2⟩
      obtain ⟨j, hj, rfl⟩ : ∃ j, j ≤ mo ∧ k = nI j := nI_of2 (nI_toInt (by omega)) c1 c2
      have ean : sr_an mo (sr_lim mo fd fs la) (nI j) = nI (sr_lim mo fd fs la j) := by rw [sr_an, if_pos hc, nI_clamp (by omega)]
      refine lv_iload_n hx hb dX1_limit_14 rfl (lv_at hl 1 rfl) ?_
      refine lv_if_eq (tgt := 26) hx hb dX1_limit_15 (by decide) (fun c3 => ?_) (fun c3 => ?_)
      · have hj0 : j = 0 := (nI_eq (by omega) (by omega)).mp c3
        refine lv_iconst (v := nI 0) hx hb dX1_limit_26 (by decide) ?_
        exact W.iret (v := nI 0) hx hb hr (fun t ht hW => ⟨⟨nI 0, _, rfl, ⟨rfl, by rw [ean, hj0, sr_lim_0]⟩, by rw [ht]; exact hP, va_K.moved hW.alike hK, hD⟩, hS.F ht⟩) hS.2.2 dX1_limit_27
      · refine lv_iload_n hx hb dX1_limit_18 rfl (lv_at hl 1 rfl) ?_
        refine lv_aload_n hx hb dX1_limit_19 rfl (lv_at hl 0 rfl) ?_
        refine va_get (D := (dC, dI)) (ci := 1) (v := .int (nI mo)) (C := RX1) (T := TX1) (N := 10) hx hb hts hin1 hown hK hP 0 rfl rfl 6 (by decide) (hts (.fieldLink RX1 46 "SpeedRowsModel" "moves" "I") (by decide +kernel)) (fun _ h9 => h9) rfl dX1_limit_20 ?_
        refine lv_icmp_ne (tgt := 28) hx hb dX1_limit_23 (by decide) (fun c4 => ?_) (fun c4 => ?_)
        · have hj0 : j ≠ 0 := fun q => c3 (by rw [q]; decide)
          have hjm : j < mo := by
            rcases Nat.lt_or_ge j mo with q | q
            · exact q
            · exact absurd (by rw [show j = mo by omega]) c4
          obtain ⟨hp1, hp2, hp3, hp4⟩ := hpath (j - 1) (by omega)
          obtain ⟨hq1, hq2, hq3, hq4⟩ := hpath j hjm
          obtain ⟨m1, m2, m3⟩ := hM.1 (j - 1) (by omega)
          obtain ⟨m4, m5, m6⟩ := hM.1 j hjm
          generalize epp : la (j - 1) = pp at hp4 m3
          generalize eqq : fs j = qq at hq3 m6
          have p1 := sr_pd_le hp4.1 hp4.1
          have p2 := sr_pd_le hq3.1 hq3.1
          have p3 := sr_pd_le hp4.1 hq3.1
          have p4 := sr_pd_pos hp4
          have p6 : sr_mx pp qq ≤ 3 := Nat.max_le.mpr ⟨p1, p2⟩
          have p7 : 1 ≤ sr_mx pp qq := Nat.le_trans p4 (Nat.le_max_left _ _)
          have p8 : min (fd (j - 1)) (fd j) * sr_pd pp qq ≤ 99999 * 3 := Nat.mul_le_mul (Nat.le_trans (Nat.min_le_left _ _) hp2.2) p3
          refine lv_iconst (v := 0) hx hb dX1_limit_28 (by decide) ?_
          refine lv_istore_n (lv' := [(2, .int 0), (0, .ref y), (1, .int (nI j))]) hx hb dX1_limit_29 rfl hl (by decide) rfl (fun ls hl => ?_)
          refine lv_iconst (v := 0) hx hb dX1_limit_30 (by decide) ?_
          refine lv_istore_n (lv' := [(3, .int 0), (2, .int 0), (0, .ref y), (1, .int (nI j))]) hx hb dX1_limit_31 rfl hl (by decide) rfl (fun ls hl => ?_)
          refine lv_iconst (v := 0) hx hb dX1_limit_32 (by decide) ?_
          refine lv_istore (lv' := [(4, .int 0), (3, .int 0), (2, .int 0), (0, .ref y), (1, .int (nI j))]) hx hb dX1_limit_33 hl (by decide) rfl (fun ls hl => ?_)
          refine lv_iconst (v := nI 0) hx hb dX1_limit_35 (by decide) ?_
          refine lv_istore (lv' := [(5, .int (nI 0)), (4, .int 0), (3, .int 0), (2, .int 0), (0, .ref y), (1, .int (nI j))]) hx hb dX1_limit_36 hl (by decide) rfl (fun ls hl => ?_)
          refine lv_iload hx hb dX1_limit_38 (lv_at hl 0 rfl) ?_
          refine lv_iconst (v := nI 3) hx hb dX1_limit_40 (by decide) ?_
          refine lv_icmp_ge (tgt := 104) hx hb dX1_limit_41 (by decide) (fun k0 => ?_) (fun k0 => ?_)
          · exact absurd k0 (by decide)
          · refine lv_aload_n hx hb dX1_limit_44 rfl (lv_at hl 4 rfl) ?_
            refine va_get (D := (dC, dI)) (ci := 1) (v := .ref b4) (C := RX1) (T := TX1) (N := 10) hx hb hts hin1 hown hK hP 0 rfl rfl 3 (by decide) (hts (.fieldLink RX1 20 "SpeedRowsModel" "lasts" "[B") (by decide +kernel)) (fun _ h9 => h9) rfl dX1_limit_45 ?_
            refine lv_iconst (v := nI 3) hx hb dX1_limit_48 (by decide) ?_
            refine lv_iload_n hx hb dX1_limit_49 rfl (lv_at hl 5 rfl) ?_
            refine lv_iconst (v := nI 1) hx hb dX1_limit_50 (by decide) ?_
            refine lv_isub hx hb dX1_limit_51 ?_
            refine sr_ti (y := nI (j - 1)) (pk_sub (by omega)) ?_
            refine lv_imul hx hb dX1_limit_52 ?_
            refine sr_ti (y := nI (3 * (j - 1))) (pk_mul _ _) ?_
            refine lv_iload hx hb dX1_limit_53 (lv_at hl 0 rfl) ?_
            refine lv_iadd hx hb dX1_limit_55 ?_
            refine sr_ti (y := nI ((3 * (j - 1)) + 0)) (nI_add _ _) ?_
            refine sr_bald (v := sr_dg pp 0) hx hb hK hP 4 3 rfl rfl (by omega) (by decide) ((m3 0 (by decide)).2) dX1_limit_56 ?_
            refine lv_istore (lv' := [(6, .int (sr_dg pp 0)), (5, .int (nI 0)), (4, .int 0), (3, .int 0), (2, .int 0), (0, .ref y), (1, .int (nI j))]) hx hb dX1_limit_57 hl (by decide) rfl (fun ls hl => ?_)
            refine lv_aload_n hx hb dX1_limit_59 rfl (lv_at hl 5 rfl) ?_
            refine va_get (D := (dC, dI)) (ci := 1) (v := .ref b3) (C := RX1) (T := TX1) (N := 10) hx hb hts hin1 hown hK hP 0 rfl rfl 2 (by decide) (hts (.fieldLink RX1 16 "SpeedRowsModel" "firsts" "[B") (by decide +kernel)) (fun _ h9 => h9) rfl dX1_limit_60 ?_
            refine lv_iconst (v := nI 3) hx hb dX1_limit_63 (by decide) ?_
            refine lv_iload_n hx hb dX1_limit_64 rfl (lv_at hl 6 rfl) ?_
            refine lv_imul hx hb dX1_limit_65 ?_
            refine sr_ti (y := nI (3 * j)) (pk_mul _ _) ?_
            refine lv_iload hx hb dX1_limit_66 (lv_at hl 1 rfl) ?_
            refine lv_iadd hx hb dX1_limit_68 ?_
            refine sr_ti (y := nI ((3 * j) + 0)) (nI_add _ _) ?_
            refine sr_bald (v := sr_dg qq 0) hx hb hK hP 3 2 rfl rfl (by omega) (by decide) ((m6 0 (by decide)).1) dX1_limit_69 ?_
            refine lv_istore (lv' := [(7, .int (sr_dg qq 0)), (6, .int (sr_dg pp 0)), (5, .int (nI 0)), (4, .int 0), (3, .int 0), (2, .int 0), (0, .ref y), (1, .int (nI j))]) hx hb dX1_limit_70 hl (by decide) rfl (fun ls hl => ?_)
            refine lv_iload_n hx hb dX1_limit_72 rfl (lv_at hl 5 rfl) ?_
            refine lv_iload hx hb dX1_limit_73 (lv_at hl 1 rfl) ?_
            refine lv_iload hx hb dX1_limit_75 (lv_at hl 0 rfl) ?_
            refine lv_imul hx hb dX1_limit_77 ?_
            refine lv_iadd hx hb dX1_limit_78 ?_
            refine sr_ti (y := sr_dg pp 0 * sr_dg qq 0) (Int32.zero_add _) ?_
            refine lv_istore_n (lv' := [(2, .int (sr_dg pp 0 * sr_dg qq 0)), (7, .int (sr_dg qq 0)), (6, .int (sr_dg pp 0)), (5, .int (nI 0)), (4, .int 0), (3, .int 0), (0, .ref y), (1, .int (nI j))]) hx hb dX1_limit_79 rfl hl (by decide) rfl (fun ls hl => ?_)
            refine lv_iload_n hx hb dX1_limit_80 rfl (lv_at hl 5 rfl) ?_
            refine lv_iload hx hb dX1_limit_81 (lv_at hl 2 rfl) ?_
            refine lv_iload hx hb dX1_limit_83 (lv_at hl 2 rfl) ?_
            refine lv_imul hx hb dX1_limit_85 ?_
            refine lv_iadd hx hb dX1_limit_86 ?_
            refine sr_ti (y := sr_dg pp 0 * sr_dg pp 0) (Int32.zero_add _) ?_
            refine lv_istore_n (lv' := [(3, .int (sr_dg pp 0 * sr_dg pp 0)), (2, .int (sr_dg pp 0 * sr_dg qq 0)), (7, .int (sr_dg qq 0)), (6, .int (sr_dg pp 0)), (5, .int (nI 0)), (4, .int 0), (0, .ref y), (1, .int (nI j))]) hx hb dX1_limit_87 rfl hl (by decide) rfl (fun ls hl => ?_)
            refine lv_iload hx hb dX1_limit_88 (lv_at hl 5 rfl) ?_
            refine lv_iload hx hb dX1_limit_90 (lv_at hl 2 rfl) ?_
            refine lv_iload hx hb dX1_limit_92 (lv_at hl 2 rfl) ?_
            refine lv_imul hx hb dX1_limit_94 ?_
            refine lv_iadd hx hb dX1_limit_95 ?_
            refine sr_ti (y := sr_dg qq 0 * sr_dg qq 0) (Int32.zero_add _) ?_
            refine lv_istore (lv' := [(4, .int (sr_dg qq 0 * sr_dg qq 0)), (3, .int (sr_dg pp 0 * sr_dg pp 0)), (2, .int (sr_dg pp 0 * sr_dg qq 0)), (7, .int (sr_dg qq 0)), (6, .int (sr_dg pp 0)), (5, .int (nI 0)), (0, .ref y), (1, .int (nI j))]) hx hb dX1_limit_96 hl (by decide) rfl (fun ls hl => ?_)
            refine lv_iinc (v := nI (0 + 1)) (lv' := [(5, .int (nI (0 + 1))), (4, .int (sr_dg qq 0 * sr_dg qq 0)), (3, .int (sr_dg pp 0 * sr_dg pp 0)), (2, .int (sr_dg pp 0 * sr_dg qq 0)), (7, .int (sr_dg qq 0)), (6, .int (sr_dg pp 0)), (0, .ref y), (1, .int (nI j))]) hx hb dX1_limit_98 hl (k := 5) rfl (nI_1 _) (by decide) rfl (fun ls hl => ?_)
            refine lv_goto (tgt := 38) hx hb dX1_limit_101 (by decide) ?_
            refine lv_iload hx hb dX1_limit_38 (lv_at hl 0 rfl) ?_
            refine lv_iconst (v := nI 3) hx hb dX1_limit_40 (by decide) ?_
            refine lv_icmp_ge (tgt := 104) hx hb dX1_limit_41 (by decide) (fun k1 => ?_) (fun k1 => ?_)
            · exact absurd k1 (by decide)
            · refine lv_aload_n hx hb dX1_limit_44 rfl (lv_at hl 6 rfl) ?_
              refine va_get (D := (dC, dI)) (ci := 1) (v := .ref b4) (C := RX1) (T := TX1) (N := 10) hx hb hts hin1 hown hK hP 0 rfl rfl 3 (by decide) (hts (.fieldLink RX1 20 "SpeedRowsModel" "lasts" "[B") (by decide +kernel)) (fun _ h9 => h9) rfl dX1_limit_45 ?_
              refine lv_iconst (v := nI 3) hx hb dX1_limit_48 (by decide) ?_
              refine lv_iload_n hx hb dX1_limit_49 rfl (lv_at hl 7 rfl) ?_
              refine lv_iconst (v := nI 1) hx hb dX1_limit_50 (by decide) ?_
              refine lv_isub hx hb dX1_limit_51 ?_
              refine sr_ti (y := nI (j - 1)) (pk_sub (by omega)) ?_
              refine lv_imul hx hb dX1_limit_52 ?_
              refine sr_ti (y := nI (3 * (j - 1))) (pk_mul _ _) ?_
              refine lv_iload hx hb dX1_limit_53 (lv_at hl 0 rfl) ?_
              refine lv_iadd hx hb dX1_limit_55 ?_
              refine sr_ti (y := nI ((3 * (j - 1)) + (0 + 1))) (nI_add _ _) ?_
              refine sr_bald (v := sr_dg pp 1) hx hb hK hP 4 3 rfl rfl (by omega) (by decide) ((m3 1 (by decide)).2) dX1_limit_56 ?_
              refine lv_istore (lv' := [(6, .int (sr_dg pp 1)), (5, .int (nI (0 + 1))), (4, .int (sr_dg qq 0 * sr_dg qq 0)), (3, .int (sr_dg pp 0 * sr_dg pp 0)), (2, .int (sr_dg pp 0 * sr_dg qq 0)), (7, .int (sr_dg qq 0)), (0, .ref y), (1, .int (nI j))]) hx hb dX1_limit_57 hl (by decide) rfl (fun ls hl => ?_)
              refine lv_aload_n hx hb dX1_limit_59 rfl (lv_at hl 6 rfl) ?_
              refine va_get (D := (dC, dI)) (ci := 1) (v := .ref b3) (C := RX1) (T := TX1) (N := 10) hx hb hts hin1 hown hK hP 0 rfl rfl 2 (by decide) (hts (.fieldLink RX1 16 "SpeedRowsModel" "firsts" "[B") (by decide +kernel)) (fun _ h9 => h9) rfl dX1_limit_60 ?_
              refine lv_iconst (v := nI 3) hx hb dX1_limit_63 (by decide) ?_
              refine lv_iload_n hx hb dX1_limit_64 rfl (lv_at hl 7 rfl) ?_
              refine lv_imul hx hb dX1_limit_65 ?_
              refine sr_ti (y := nI (3 * j)) (pk_mul _ _) ?_
              refine lv_iload hx hb dX1_limit_66 (lv_at hl 1 rfl) ?_
              refine lv_iadd hx hb dX1_limit_68 ?_
              refine sr_ti (y := nI ((3 * j) + (0 + 1))) (nI_add _ _) ?_
              refine sr_bald (v := sr_dg qq 1) hx hb hK hP 3 2 rfl rfl (by omega) (by decide) ((m6 1 (by decide)).1) dX1_limit_69 ?_
              refine lv_istore (lv' := [(7, .int (sr_dg qq 1)), (6, .int (sr_dg pp 1)), (5, .int (nI (0 + 1))), (4, .int (sr_dg qq 0 * sr_dg qq 0)), (3, .int (sr_dg pp 0 * sr_dg pp 0)), (2, .int (sr_dg pp 0 * sr_dg qq 0)), (0, .ref y), (1, .int (nI j))]) hx hb dX1_limit_70 hl (by decide) rfl (fun ls hl => ?_)
              refine lv_iload_n hx hb dX1_limit_72 rfl (lv_at hl 5 rfl) ?_
              refine lv_iload hx hb dX1_limit_73 (lv_at hl 1 rfl) ?_
              refine lv_iload hx hb dX1_limit_75 (lv_at hl 0 rfl) ?_
              refine lv_imul hx hb dX1_limit_77 ?_
              refine lv_iadd hx hb dX1_limit_78 ?_
              refine lv_istore_n (lv' := [(2, .int ((sr_dg pp 0 * sr_dg qq 0) + ((sr_dg pp 1) * (sr_dg qq 1)))), (7, .int (sr_dg qq 1)), (6, .int (sr_dg pp 1)), (5, .int (nI (0 + 1))), (4, .int (sr_dg qq 0 * sr_dg qq 0)), (3, .int (sr_dg pp 0 * sr_dg pp 0)), (0, .ref y), (1, .int (nI j))]) hx hb dX1_limit_79 rfl hl (by decide) rfl (fun ls hl => ?_)
              refine lv_iload_n hx hb dX1_limit_80 rfl (lv_at hl 5 rfl) ?_
              refine lv_iload hx hb dX1_limit_81 (lv_at hl 2 rfl) ?_
              refine lv_iload hx hb dX1_limit_83 (lv_at hl 2 rfl) ?_
              refine lv_imul hx hb dX1_limit_85 ?_
              refine lv_iadd hx hb dX1_limit_86 ?_
              refine lv_istore_n (lv' := [(3, .int ((sr_dg pp 0 * sr_dg pp 0) + ((sr_dg pp 1) * (sr_dg pp 1)))), (2, .int ((sr_dg pp 0 * sr_dg qq 0) + ((sr_dg pp 1) * (sr_dg qq 1)))), (7, .int (sr_dg qq 1)), (6, .int (sr_dg pp 1)), (5, .int (nI (0 + 1))), (4, .int (sr_dg qq 0 * sr_dg qq 0)), (0, .ref y), (1, .int (nI j))]) hx hb dX1_limit_87 rfl hl (by decide) rfl (fun ls hl => ?_)
              refine lv_iload hx hb dX1_limit_88 (lv_at hl 5 rfl) ?_
              refine lv_iload hx hb dX1_limit_90 (lv_at hl 2 rfl) ?_
              refine lv_iload hx hb dX1_limit_92 (lv_at hl 2 rfl) ?_
              refine lv_imul hx hb dX1_limit_94 ?_
              refine lv_iadd hx hb dX1_limit_95 ?_
              refine lv_istore (lv' := [(4, .int ((sr_dg qq 0 * sr_dg qq 0) + ((sr_dg qq 1) * (sr_dg qq 1)))), (3, .int ((sr_dg pp 0 * sr_dg pp 0) + ((sr_dg pp 1) * (sr_dg pp 1)))), (2, .int ((sr_dg pp 0 * sr_dg qq 0) + ((sr_dg pp 1) * (sr_dg qq 1)))), (7, .int (sr_dg qq 1)), (6, .int (sr_dg pp 1)), (5, .int (nI (0 + 1))), (0, .ref y), (1, .int (nI j))]) hx hb dX1_limit_96 hl (by decide) rfl (fun ls hl => ?_)
              refine lv_iinc (v := nI ((0 + 1) + 1)) (lv' := [(5, .int (nI ((0 + 1) + 1))), (4, .int ((sr_dg qq 0 * sr_dg qq 0) + ((sr_dg qq 1) * (sr_dg qq 1)))), (3, .int ((sr_dg pp 0 * sr_dg pp 0) + ((sr_dg pp 1) * (sr_dg pp 1)))), (2, .int ((sr_dg pp 0 * sr_dg qq 0) + ((sr_dg pp 1) * (sr_dg qq 1)))), (7, .int (sr_dg qq 1)), (6, .int (sr_dg pp 1)), (0, .ref y), (1, .int (nI j))]) hx hb dX1_limit_98 hl (k := 5) rfl (nI_1 _) (by decide) rfl (fun ls hl => ?_)
              refine lv_goto (tgt := 38) hx hb dX1_limit_101 (by decide) ?_
              refine lv_iload hx hb dX1_limit_38 (lv_at hl 0 rfl) ?_
              refine lv_iconst (v := nI 3) hx hb dX1_limit_40 (by decide) ?_
              refine lv_icmp_ge (tgt := 104) hx hb dX1_limit_41 (by decide) (fun k2 => ?_) (fun k2 => ?_)
              · exact absurd k2 (by decide)
              · refine lv_aload_n hx hb dX1_limit_44 rfl (lv_at hl 6 rfl) ?_
                refine va_get (D := (dC, dI)) (ci := 1) (v := .ref b4) (C := RX1) (T := TX1) (N := 10) hx hb hts hin1 hown hK hP 0 rfl rfl 3 (by decide) (hts (.fieldLink RX1 20 "SpeedRowsModel" "lasts" "[B") (by decide +kernel)) (fun _ h9 => h9) rfl dX1_limit_45 ?_
                refine lv_iconst (v := nI 3) hx hb dX1_limit_48 (by decide) ?_
                refine lv_iload_n hx hb dX1_limit_49 rfl (lv_at hl 7 rfl) ?_
                refine lv_iconst (v := nI 1) hx hb dX1_limit_50 (by decide) ?_
                refine lv_isub hx hb dX1_limit_51 ?_
                refine sr_ti (y := nI (j - 1)) (pk_sub (by omega)) ?_
                refine lv_imul hx hb dX1_limit_52 ?_
                refine sr_ti (y := nI (3 * (j - 1))) (pk_mul _ _) ?_
                refine lv_iload hx hb dX1_limit_53 (lv_at hl 0 rfl) ?_
                refine lv_iadd hx hb dX1_limit_55 ?_
                refine sr_ti (y := nI ((3 * (j - 1)) + ((0 + 1) + 1))) (nI_add _ _) ?_
                refine sr_bald (v := sr_dg pp 2) hx hb hK hP 4 3 rfl rfl (by omega) (by decide) ((m3 2 (by decide)).2) dX1_limit_56 ?_
                refine lv_istore (lv' := [(6, .int (sr_dg pp 2)), (5, .int (nI ((0 + 1) + 1))), (4, .int ((sr_dg qq 0 * sr_dg qq 0) + ((sr_dg qq 1) * (sr_dg qq 1)))), (3, .int ((sr_dg pp 0 * sr_dg pp 0) + ((sr_dg pp 1) * (sr_dg pp 1)))), (2, .int ((sr_dg pp 0 * sr_dg qq 0) + ((sr_dg pp 1) * (sr_dg qq 1)))), (7, .int (sr_dg qq 1)), (0, .ref y), (1, .int (nI j))]) hx hb dX1_limit_57 hl (by decide) rfl (fun ls hl => ?_)
                refine lv_aload_n hx hb dX1_limit_59 rfl (lv_at hl 6 rfl) ?_
                refine va_get (D := (dC, dI)) (ci := 1) (v := .ref b3) (C := RX1) (T := TX1) (N := 10) hx hb hts hin1 hown hK hP 0 rfl rfl 2 (by decide) (hts (.fieldLink RX1 16 "SpeedRowsModel" "firsts" "[B") (by decide +kernel)) (fun _ h9 => h9) rfl dX1_limit_60 ?_
                refine lv_iconst (v := nI 3) hx hb dX1_limit_63 (by decide) ?_
                refine lv_iload_n hx hb dX1_limit_64 rfl (lv_at hl 7 rfl) ?_
                refine lv_imul hx hb dX1_limit_65 ?_
                refine sr_ti (y := nI (3 * j)) (pk_mul _ _) ?_
                refine lv_iload hx hb dX1_limit_66 (lv_at hl 1 rfl) ?_
                refine lv_iadd hx hb dX1_limit_68 ?_
                refine sr_ti (y := nI ((3 * j) + ((0 + 1) + 1))) (nI_add _ _) ?_
                refine sr_bald (v := sr_dg qq 2) hx hb hK hP 3 2 rfl rfl (by omega) (by decide) ((m6 2 (by decide)).1) dX1_limit_69 ?_
                refine lv_istore (lv' := [(7, .int (sr_dg qq 2)), (6, .int (sr_dg pp 2)), (5, .int (nI ((0 + 1) + 1))), (4, .int ((sr_dg qq 0 * sr_dg qq 0) + ((sr_dg qq 1) * (sr_dg qq 1)))), (3, .int ((sr_dg pp 0 * sr_dg pp 0) + ((sr_dg pp 1) * (sr_dg pp 1)))), (2, .int ((sr_dg pp 0 * sr_dg qq 0) + ((sr_dg pp 1) * (sr_dg qq 1)))), (0, .ref y), (1, .int (nI j))]) hx hb dX1_limit_70 hl (by decide) rfl (fun ls hl => ?_)
                refine lv_iload_n hx hb dX1_limit_72 rfl (lv_at hl 5 rfl) ?_
                refine lv_iload hx hb dX1_limit_73 (lv_at hl 1 rfl) ?_
                refine lv_iload hx hb dX1_limit_75 (lv_at hl 0 rfl) ?_
                refine lv_imul hx hb dX1_limit_77 ?_
                refine lv_iadd hx hb dX1_limit_78 ?_
                refine lv_istore_n (lv' := [(2, .int (((sr_dg pp 0 * sr_dg qq 0) + ((sr_dg pp 1) * (sr_dg qq 1))) + ((sr_dg pp 2) * (sr_dg qq 2)))), (7, .int (sr_dg qq 2)), (6, .int (sr_dg pp 2)), (5, .int (nI ((0 + 1) + 1))), (4, .int ((sr_dg qq 0 * sr_dg qq 0) + ((sr_dg qq 1) * (sr_dg qq 1)))), (3, .int ((sr_dg pp 0 * sr_dg pp 0) + ((sr_dg pp 1) * (sr_dg pp 1)))), (0, .ref y), (1, .int (nI j))]) hx hb dX1_limit_79 rfl hl (by decide) rfl (fun ls hl => ?_)
                refine lv_iload_n hx hb dX1_limit_80 rfl (lv_at hl 5 rfl) ?_
                refine lv_iload hx hb dX1_limit_81 (lv_at hl 2 rfl) ?_
                refine lv_iload hx hb dX1_limit_83 (lv_at hl 2 rfl) ?_
                refine lv_imul hx hb dX1_limit_85 ?_
                refine lv_iadd hx hb dX1_limit_86 ?_
                refine sr_ti (y := nI (sr_pd pp pp)) (sr_m_sq pp hp4.1) ?_
                refine lv_istore_n (lv' := [(3, .int (nI (sr_pd pp pp))), (2, .int (((sr_dg pp 0 * sr_dg qq 0) + ((sr_dg pp 1) * (sr_dg qq 1))) + ((sr_dg pp 2) * (sr_dg qq 2)))), (7, .int (sr_dg qq 2)), (6, .int (sr_dg pp 2)), (5, .int (nI ((0 + 1) + 1))), (4, .int ((sr_dg qq 0 * sr_dg qq 0) + ((sr_dg qq 1) * (sr_dg qq 1)))), (0, .ref y), (1, .int (nI j))]) hx hb dX1_limit_87 rfl hl (by decide) rfl (fun ls hl => ?_)
                refine lv_iload hx hb dX1_limit_88 (lv_at hl 5 rfl) ?_
                refine lv_iload hx hb dX1_limit_90 (lv_at hl 2 rfl) ?_
                refine lv_iload hx hb dX1_limit_92 (lv_at hl 2 rfl) ?_
                refine lv_imul hx hb dX1_limit_94 ?_
                refine lv_iadd hx hb dX1_limit_95 ?_
                refine sr_ti (y := nI (sr_pd qq qq)) (sr_m_sq qq hq3.1) ?_
                refine lv_istore (lv' := [(4, .int (nI (sr_pd qq qq))), (3, .int (nI (sr_pd pp pp))), (2, .int (((sr_dg pp 0 * sr_dg qq 0) + ((sr_dg pp 1) * (sr_dg qq 1))) + ((sr_dg pp 2) * (sr_dg qq 2)))), (7, .int (sr_dg qq 2)), (6, .int (sr_dg pp 2)), (5, .int (nI ((0 + 1) + 1))), (0, .ref y), (1, .int (nI j))]) hx hb dX1_limit_96 hl (by decide) rfl (fun ls hl => ?_)
                refine lv_iinc (v := nI (((0 + 1) + 1) + 1)) (lv' := [(5, .int (nI (((0 + 1) + 1) + 1))), (4, .int (nI (sr_pd qq qq))), (3, .int (nI (sr_pd pp pp))), (2, .int (((sr_dg pp 0 * sr_dg qq 0) + ((sr_dg pp 1) * (sr_dg qq 1))) + ((sr_dg pp 2) * (sr_dg qq 2)))), (7, .int (sr_dg qq 2)), (6, .int (sr_dg pp 2)), (0, .ref y), (1, .int (nI j))]) hx hb dX1_limit_98 hl (k := 5) rfl (nI_1 _) (by decide) rfl (fun ls hl => ?_)
                refine lv_goto (tgt := 38) hx hb dX1_limit_101 (by decide) ?_
                refine lv_iload hx hb dX1_limit_38 (lv_at hl 0 rfl) ?_
                refine lv_iconst (v := nI 3) hx hb dX1_limit_40 (by decide) ?_
                refine lv_icmp_ge (tgt := 104) hx hb dX1_limit_41 (by decide) (fun k3 => ?_) (fun k3 => ?_)
                · refine lv_aload_n hx hb dX1_limit_104 rfl (lv_at hl 6 rfl) ?_
                  refine va_get (D := (dC, dI)) (ci := 1) (v := .ref b2) (C := RX1) (T := TX1) (N := 10) hx hb hts hin1 hown hK hP 0 rfl rfl 1 (by decide) (hts (.fieldLink RX1 13 "SpeedRowsModel" "feeds" "[I") (by decide +kernel)) (fun _ h9 => h9) rfl dX1_limit_105 ?_
                  refine lv_iload_n hx hb dX1_limit_108 rfl (lv_at hl 7 rfl) ?_
                  refine lv_iconst (v := nI 1) hx hb dX1_limit_109 (by decide) ?_
                  refine lv_isub hx hb dX1_limit_110 ?_
                  refine sr_ti (y := nI (j - 1)) (pk_sub (by omega)) ?_
                  refine sr_iald (v := nI (fd (j - 1))) hx hb hK hP 2 1 rfl rfl (by omega) (by decide) (m2) dX1_limit_111 ?_
                  refine lv_aload_n hx hb dX1_limit_112 rfl (lv_at hl 6 rfl) ?_
                  refine va_get (D := (dC, dI)) (ci := 1) (v := .ref b2) (C := RX1) (T := TX1) (N := 10) hx hb hts hin1 hown hK hP 0 rfl rfl 1 (by decide) (hts (.fieldLink RX1 13 "SpeedRowsModel" "feeds" "[I") (by decide +kernel)) (fun _ h9 => h9) rfl dX1_limit_113 ?_
                  refine lv_iload_n hx hb dX1_limit_116 rfl (lv_at hl 7 rfl) ?_
                  refine sr_iald (v := nI (fd j)) hx hb hK hP 2 1 rfl rfl (by omega) (by decide) (m5) dX1_limit_117 ?_
                  refine va_mmin hx hb (by rw [hml]; exact hl.1.symm) hown (hts (.methodLink RX1 53 Lib.Math.min.name) (by decide +kernel)) (hts (.static Lib.Math.min.name) (by decide +kernel)) (hts (.initialized "java/lang/Math") (by decide +kernel)) (hts (.code Lib.Math.min.name Lib.Math.min.code 2 (some .int)) (by decide +kernel)) (Nat.le_of_ble_eq_true rfl) (Nat.le_of_ble_eq_true rfl) (Nat.zero_le _) (Nat.zero_le _) dX1_limit_118 ?_
                  refine sr_ti (y := nI (min (fd (j - 1)) (fd j))) (sr_minN (by omega) (by omega)) ?_
                  refine lv_iload_n hx hb dX1_limit_121 rfl (lv_at hl 3 rfl) ?_
                  refine lv_iconst (v := 0) hx hb dX1_limit_122 (by decide) ?_
                  refine va_mmax hx hb (by rw [hml]; exact hl.1.symm) hown (hts (.methodLink RX1 59 Lib.Math.max.name) (by decide +kernel)) (hts (.static Lib.Math.max.name) (by decide +kernel)) (hts (.initialized "java/lang/Math") (by decide +kernel)) (hts (.code Lib.Math.max.name Lib.Math.max.code 2 (some .int)) (by decide +kernel)) (Nat.le_of_ble_eq_true rfl) (Nat.le_of_ble_eq_true rfl) (Nat.zero_le _) (Nat.zero_le _) dX1_limit_123 ?_
                  refine sr_ti (y := nI (sr_pd pp qq)) (sr_m_all pp hp4.1 qq hq3.1) ?_
                  refine lv_imul hx hb dX1_limit_126 ?_
                  refine sr_ti (y := nI ((min (fd (j - 1)) (fd j)) * (sr_pd pp qq))) (pk_mul _ _) ?_
                  refine lv_iload_n hx hb dX1_limit_127 rfl (lv_at hl 2 rfl) ?_
                  refine lv_iload hx hb dX1_limit_128 (lv_at hl 1 rfl) ?_
                  refine va_mmax hx hb (by rw [hml]; exact hl.1.symm) hown (hts (.methodLink RX1 59 Lib.Math.max.name) (by decide +kernel)) (hts (.static Lib.Math.max.name) (by decide +kernel)) (hts (.initialized "java/lang/Math") (by decide +kernel)) (hts (.code Lib.Math.max.name Lib.Math.max.code 2 (some .int)) (by decide +kernel)) (Nat.le_of_ble_eq_true rfl) (Nat.le_of_ble_eq_true rfl) (Nat.zero_le _) (Nat.zero_le _) dX1_limit_130 ?_
                  refine sr_ti (y := nI (sr_mx pp qq)) (sr_maxN (by omega) (by omega)) ?_
                  refine lv_idiv hx hb dX1_limit_133 (nI_ne0 (by omega) (by omega)) ?_
                  refine sr_ti (y := nI (min (fd (j - 1)) (fd j) * sr_pd pp qq / sr_mx pp qq)) (pk_div (by omega) (by omega) (by omega)) ?_
                  exact W.iret (v := nI (min (fd (j - 1)) (fd j) * sr_pd pp qq / sr_mx pp qq)) hx hb hr (fun t ht hW => ⟨⟨nI (min (fd (j - 1)) (fd j) * sr_pd pp qq / sr_mx pp qq), _, rfl, ⟨rfl, by rw [ean, sr_lim_in hj0 hjm, sr_tm, if_neg hj0, epp, eqq]⟩, by rw [ht]; exact hP, va_K.moved hW.alike hK, hD⟩, hS.F ht⟩) hS.2.2 dX1_limit_134
                · exact absurd (by decide) k3
        · have hjm : j = mo := (nI_eq (by omega) (by omega)).mp c4
          refine lv_iconst (v := nI 0) hx hb dX1_limit_26 (by decide) ?_
          exact W.iret (v := nI 0) hx hb hr (fun t ht hW => ⟨⟨nI 0, _, rfl, ⟨rfl, by rw [ean, sr_lim_top (by omega)]⟩, by rw [ht]; exact hP, va_K.moved hW.alike hK, hD⟩, hS.F ht⟩) hS.2.2 dX1_limit_27
    · refine lv_iconst (v := (-1)) hx hb dX1_limit_12 (by decide) ?_
      exact W.iret (v := (-1)) hx hb hr (fun t ht hW => ⟨⟨(-1), _, rfl, ⟨rfl, by rw [sr_an, if_neg (fun q => c2 q.2)]⟩, by rw [ht]; exact hP, va_K.moved hW.alike hK, hD⟩, hS.F ht⟩) hS.2.2 dX1_limit_13
end
section
/-! THE REFERENCE: know. -/
theorem sr_r_lt {ac t w : Nat} (hw : w ≤ 99999) (hac : ac ≤ 10000) (ht : t ≤ 100000) : sr_r ac t w < 2 ^ 31 := by
  have e1 : w * w ≤ 99999 * 99999 := Nat.mul_le_mul hw hw
  have e2 : 2 * ac * t ≤ 20000 * 100000 := Nat.mul_le_mul (by omega) ht
  rcases Nat.lt_or_ge (sr_r ac t w) (2 ^ 31) with h | h
  · exact h
  · have h1 := sr_q_le (w * w + 2 * ac * t)
    have h2 : 2 ^ 31 * 2 ^ 31 ≤ sr_r ac t w * sr_r ac t w := Nat.mul_le_mul h h
    unfold sr_r at h2
    omega
set_option maxHeartbeats 4000000 in
set_option maxRecDepth 100000 in
theorem lp_X1_k0 {p : Program} {l : Launch} {e : Env} {R : Room} {s : State} {m : MethodId} {args : Array Value} {below : List Frame} {meth : Method} {c : Code} {Q : State → Prop} {A : Nat → Prop} {H0 : Heap} (C0 : CallFix p m c cX1_know 3 s args wsX1_know RX1) (hRf : 2 ≤ R.frames) (hRl : 49 ≤ R.locals) {dC : Nat → ClassId} {dI : Nat → Nat → Nat} {y b1 b2 b3 b4 b5 b6 b7 : Nat} {t1 t2 t3 t4 t5 t6 t7 : ClassId} {mo ac cf cl : Nat} {kn : Int32} {T F I J U V : Nat → Int32} {tk fd fs la : Nat → Nat} (g : sr_G mo ac cf cl tk fd fs la) (hM : sr_MI mo cf cl tk fd fs la T F I J U V) (hK : va_K (dC, dI) vwCl (sr_tM t1 t2 t3 t4 t5 t6 t7) s) (hA : ∀ q, H0.size ≤ q → A q)
    (hk : ∀ (S : Nat → Int32) (H : Heap) (locs : List Loc) (ls : Array Slot), (∀ k, k ≤ mo → S k = nI (sr_lim mo fd fs la k)) → va_P (dC, dI) vwCl (sr_wM y b1 b2 b3 b4 b5 b6 b7 t1 t2 t3 t4 t5 t6 t7 mo ac kn T F I J U V S) H → va_D A (sr_wM y b1 b2 b3 b4 b5 b6 b7 t1 t2 t3 t4 t5 t6 t7 mo ac kn T F I J U V S) → va_S A H0 H locs → lv_has ls 3 [(0, .ref y)] → W p l e R s m args below meth c H locs 0 0 Q (F0 m 40 ls [])) :
    ∀ (n i : Nat) (S : Nat → Int32) (H : Heap) (locs : List Loc) (ls : Array Slot), i ≤ mo + 1 → mo + 2 ≤ i + n → (∀ k, k < i → S k = nI (sr_lim mo fd fs la k)) → va_P (dC, dI) vwCl (sr_wM y b1 b2 b3 b4 b5 b6 b7 t1 t2 t3 t4 t5 t6 t7 mo ac kn T F I J U V S) H → va_D A (sr_wM y b1 b2 b3 b4 b5 b6 b7 t1 t2 t3 t4 t5 t6 t7 mo ac kn T F I J U V S) → va_S A H0 H locs → lv_has ls 3 [(0, .ref y), (1, .int (nI i))] → W p l e R s m args below meth c H locs 0 0 Q (F0 m 15 ls []) := by
  obtain ⟨hx, hb, hml, hown, hts⟩ := C0
  have hin1 : ∀ w ∈ u_ws RX1 TX1 10, w ∈ wsX1_know := by decide +kernel
  obtain ⟨hmo, ⟨hac1, hac2⟩, hcf, hcl, hpath⟩ := id g
  have hK : va_K (dC, dI) vwCl [(t1, .int), (t2, .int), (t3, .byte), (t4, .byte), (t5, .byte), (t6, .byte), (t7, .int)] s := hK
  intro n
  induction n with
  | zero =>
    intro i S H locs ls h1 h2
    exact absurd h2 (by omega)
  | succ n ih =>
    intro i S H locs ls h1 h2 hv hP hD hS hl
    have hP : va_P (dC, dI) vwCl [(y, .inr (1, [.ref b1, .ref b2, .ref b3, .ref b4, .ref b5, .ref b6, .int (nI mo), .int (nI ac), .ref b7, .int kn])), (b1, .inl (t1, 2000, .inl T)), (b2, .inl (t2, 2000, .inl F)), (b3, .inl (t3, 6000, .inl I)), (b4, .inl (t4, 6000, .inl J)), (b5, .inl (t5, 3, .inl U)), (b6, .inl (t6, 3, .inl V)), (b7, .inl (t7, 2001, .inl S))] H := hP
    have hD : va_D A [(y, .inr (1, [.ref b1, .ref b2, .ref b3, .ref b4, .ref b5, .ref b6, .int (nI mo), .int (nI ac), .ref b7, .int kn])), (b1, .inl (t1, 2000, .inl T)), (b2, .inl (t2, 2000, .inl F)), (b3, .inl (t3, 6000, .inl I)), (b4, .inl (t4, 6000, .inl J)), (b5, .inl (t5, 3, .inl U)), (b6, .inl (t6, 3, .inl V)), (b7, .inl (t7, 2001, .inl S))] := hD
    refine lv_iload_n hx hb dX1_know_15 rfl (lv_at hl 1 rfl) ?_
    refine lv_aload_n hx hb dX1_know_16 rfl (lv_at hl 0 rfl) ?_
    refine va_get (D := (dC, dI)) (ci := 1) (v := .int (nI mo)) (C := RX1) (T := TX1) (N := 10) hx hb hts hin1 hown hK hP 0 rfl rfl 6 (by decide) (hts (.fieldLink RX1 46 "SpeedRowsModel" "moves" "I") (by decide +kernel)) (fun _ h9 => h9) rfl dX1_know_17 ?_
    refine lv_icmp_gt (tgt := 40) hx hb dX1_know_20 (by decide) (fun c1 => ?_) (fun c1 => ?_)
    · have e1 : mo < i := (nI_ltI (by omega) (by omega)).mp c1
      exact hk S H locs ls (fun k q => hv k (by omega)) hP hD hS (lv_sub hl [0] rfl)
    · have e1 : i ≤ mo := by
        rcases Nat.lt_or_ge mo i with q | q
        · exact absurd ((nI_ltI (by omega) (by omega)).mpr q) c1
        · exact q
      refine lv_aload_n hx hb dX1_know_23 rfl (lv_at hl 0 rfl) ?_
      refine va_get (D := (dC, dI)) (ci := 1) (v := .ref b7) (C := RX1) (T := TX1) (N := 10) hx hb hts hin1 hown hK hP 0 rfl rfl 8 (by decide) (hts (.fieldLink RX1 33 "SpeedRowsModel" "speeds" "[I") (by decide +kernel)) (fun _ h9 => h9) rfl dX1_know_24 ?_
      refine lv_iload_n hx hb dX1_know_27 rfl (lv_at hl 1 rfl) ?_
      refine lv_aload_n hx hb dX1_know_28 rfl (lv_at hl 0 rfl) ?_
      refine lv_iload_n hx hb dX1_know_29 rfl (lv_at hl 1 rfl) ?_
      have hPc := hP.sub (ws' := [(y, .inr (1, [.ref b1, .ref b2, .ref b3, .ref b4, .ref b5, .ref b6, .int (nI mo), .int (nI ac), .ref b7, .int kn])), (b1, .inl (t1, 2000, .inl T)), (b2, .inl (t2, 2000, .inl F)), (b3, .inl (t3, 6000, .inl I)), (b4, .inl (t4, 6000, .inl J)), (b5, .inl (t5, 3, .inl U)), (b6, .inl (t6, 3, .inl V)), (b7, .inl (t7, 2001, .inl S))]) [0, 1, 2, 3, 4, 5, 6, 7] rfl
      have hDc := hD.sub (ws' := [(y, .inr (1, [.ref b1, .ref b2, .ref b3, .ref b4, .ref b5, .ref b6, .int (nI mo), .int (nI ac), .ref b7, .int kn])), (b1, .inl (t1, 2000, .inl T)), (b2, .inl (t2, 2000, .inl F)), (b3, .inl (t3, 6000, .inl I)), (b4, .inl (t4, 6000, .inl J)), (b5, .inl (t5, 3, .inl U)), (b6, .inl (t6, 3, .inl V)), (b7, .inl (t7, 2001, .inl S))]) [0, 1, 2, 3, 4, 5, 6, 7] (by decide) rfl
      have hKc := hK.sub (tys' := [(t1, .int), (t2, .int), (t3, .byte), (t4, .byte), (t5, .byte), (t6, .byte), (t7, .int)]) [0, 1, 2, 3, 4, 5, 6] rfl
      have hFc := va_free (wc := [(y, .inr (1, [.ref b1, .ref b2, .ref b3, .ref b4, .ref b5, .ref b6, .int (nI mo), .int (nI ac), .ref b7, .int kn])), (b1, .inl (t1, 2000, .inl T)), (b2, .inl (t2, 2000, .inl F)), (b3, .inl (t3, 6000, .inl I)), (b4, .inl (t4, 6000, .inl J)), (b5, .inl (t5, 3, .inl U)), (b6, .inl (t6, 3, .inl V)), (b7, .inl (t7, 2001, .inl S))]) hD hS hA [0, 1, 2, 3, 4, 5, 6, 7] rfl
      refine va_calli (va_runV (As := [.int (nI i)]) (rest := [.int (nI i), .ref b7]) ⟨hx, hb, hml, hown, hts⟩ (c_X1_limit l dC dI y b1 b2 b3 b4 b5 b6 b7 t1 t2 t3 t4 t5 t6 t7 H.size mo ac kn T F I J U V S (nI i) cf cl tk fd fs la g hM) (cwV 1 hts gX1_know_X1_limit rfl rfl rfl (by decide +kernel) ⟨Nat.le_trans (show _ ≤ 2 from Nat.le_of_ble_eq_true rfl) hRf, Nat.le_trans (show _ ≤ 49 from Nat.le_of_ble_eq_true rfl) hRl⟩) ⟨sr_blind, va_recv hKc hPc (ci := 1) (q0 := 0) rfl rfl, sr_mk hPc hKc hDc⟩ rfl rfl hl.1 rfl (lv_room (Nat.le_of_ble_eq_true rfl)) dX1_know_30 ⟨Nat.zero_le _, Nat.zero_le _⟩) hS (fun q _ h => hFc q h) hFc (fun r1 u t H1 locs ht hvm hw hB hz1 hk1 hS => ?_)
      obtain ⟨hP1, hK1, hD1⟩ := hB
      rw [ht] at hP1
      obtain ⟨rfl, er⟩ := hw
      obtain ⟨hP, hD⟩ := va_join (wr := []) (w1 := [(y, .inr (1, [.ref b1, .ref b2, .ref b3, .ref b4, .ref b5, .ref b6, .int (nI mo), .int (nI ac), .ref b7, .int kn])), (b1, .inl (t1, 2000, .inl T)), (b2, .inl (t2, 2000, .inl F)), (b3, .inl (t3, 6000, .inl I)), (b4, .inl (t4, 6000, .inl J)), (b5, .inl (t5, 3, .inl U)), (b6, .inl (t6, 3, .inl V)), (b7, .inl (t7, 2001, .inl S))]) hP hD [0, 1, 2, 3, 4, 5, 6, 7] [] rfl rfl (by decide) (by decide) hk1 hFc hP1 hD1
      generalize H1 = H at hP hS ⊢
      have hP : va_P (dC, dI) vwCl [(y, .inr (1, [.ref b1, .ref b2, .ref b3, .ref b4, .ref b5, .ref b6, .int (nI mo), .int (nI ac), .ref b7, .int kn])), (b1, .inl (t1, 2000, .inl T)), (b2, .inl (t2, 2000, .inl F)), (b3, .inl (t3, 6000, .inl I)), (b4, .inl (t4, 6000, .inl J)), (b5, .inl (t5, 3, .inl U)), (b6, .inl (t6, 3, .inl V)), (b7, .inl (t7, 2001, .inl S))] H := hP
      have hD : va_D A [(y, .inr (1, [.ref b1, .ref b2, .ref b3, .ref b4, .ref b5, .ref b6, .int (nI mo), .int (nI ac), .ref b7, .int kn])), (b1, .inl (t1, 2000, .inl T)), (b2, .inl (t2, 2000, .inl F)), (b3, .inl (t3, 6000, .inl I)), (b4, .inl (t4, 6000, .inl J)), (b5, .inl (t5, 3, .inl U)), (b6, .inl (t6, 3, .inl V)), (b7, .inl (t7, 2001, .inl S))] := hD
      refine sr_ti (y := nI (sr_lim mo fd fs la i)) (by rw [er, sr_an, if_pos ⟨nI_pos' (by omega), nI_le e1 (by omega)⟩, nI_clamp (by omega)]) ?_
      refine sr_iast hx hb hK hP hD hS 7 6 rfl rfl (by omega) (by decide) dX1_know_33 (fun H locs hP hD hS => ?_)
      have hP : va_P (dC, dI) vwCl [(y, .inr (1, [.ref b1, .ref b2, .ref b3, .ref b4, .ref b5, .ref b6, .int (nI mo), .int (nI ac), .ref b7, .int kn])), (b1, .inl (t1, 2000, .inl T)), (b2, .inl (t2, 2000, .inl F)), (b3, .inl (t3, 6000, .inl I)), (b4, .inl (t4, 6000, .inl J)), (b5, .inl (t5, 3, .inl U)), (b6, .inl (t6, 3, .inl V)), (b7, .inl (t7, 2001, .inl (upd S i (nI (sr_lim mo fd fs la i)))))] H := hP
      have hD : va_D A [(y, .inr (1, [.ref b1, .ref b2, .ref b3, .ref b4, .ref b5, .ref b6, .int (nI mo), .int (nI ac), .ref b7, .int kn])), (b1, .inl (t1, 2000, .inl T)), (b2, .inl (t2, 2000, .inl F)), (b3, .inl (t3, 6000, .inl I)), (b4, .inl (t4, 6000, .inl J)), (b5, .inl (t5, 3, .inl U)), (b6, .inl (t6, 3, .inl V)), (b7, .inl (t7, 2001, .inl (upd S i (nI (sr_lim mo fd fs la i)))))] := hD
      refine lv_iinc (v := nI (i + 1)) (lv' := [(1, .int (nI (i + 1))), (0, .ref y)]) hx hb dX1_know_34 hl (k := 1) rfl (nI_1 _) (by decide) rfl (fun ls hl => ?_)
      refine lv_goto (tgt := 15) hx hb dX1_know_37 (by decide) ?_
      refine ih (i + 1) _ H locs ls (by omega) (by omega) (fun k q => ?_) hP hD hS (lv_sub hl [1, 0] rfl)
      rcases Nat.lt_or_ge k i with h | h
      · rw [pk_un (by omega)]
        exact hv k h
      · obtain rfl : k = i := by omega
        rw [pk_us]
set_option maxHeartbeats 4000000 in
set_option maxRecDepth 100000 in
theorem lp_X1_k1 {p : Program} {l : Launch} {e : Env} {R : Room} {s : State} {m : MethodId} {args : Array Value} {below : List Frame} {meth : Method} {c : Code} {Q : State → Prop} {A : Nat → Prop} {H0 : Heap} (C0 : CallFix p m c cX1_know 3 s args wsX1_know RX1) (hRf : 2 ≤ R.frames) (hRl : 49 ≤ R.locals) {dC : Nat → ClassId} {dI : Nat → Nat → Nat} {y b1 b2 b3 b4 b5 b6 b7 : Nat} {t1 t2 t3 t4 t5 t6 t7 : ClassId} {mo ac cf cl : Nat} {kn : Int32} {T F I J U V : Nat → Int32} {tk fd fs la : Nat → Nat} (g : sr_G mo ac cf cl tk fd fs la) (hM : sr_MI mo cf cl tk fd fs la T F I J U V) (hK : va_K (dC, dI) vwCl (sr_tM t1 t2 t3 t4 t5 t6 t7) s) (hA : ∀ q, H0.size ≤ q → A q) {sv : Nat → Nat} (hsv : ∀ k, k ≤ mo → sv k ≤ 99999)
    (hk : ∀ (mr : Int32) (S : Nat → Int32) (H : Heap) (locs : List Loc) (ls : Array Slot), (mr = 0 ∨ mr = 1) → (sr_St sv ac tk mo → mr = 0) → (∀ k, k ≤ mo → S k = nI (sr_f sv ac tk k)) → va_P (dC, dI) vwCl (sr_wM y b1 b2 b3 b4 b5 b6 b7 t1 t2 t3 t4 t5 t6 t7 mo ac kn T F I J U V S) H → va_D A (sr_wM y b1 b2 b3 b4 b5 b6 b7 t1 t2 t3 t4 t5 t6 t7 mo ac kn T F I J U V S) → va_S A H0 H locs → lv_has ls 3 [(0, .ref y), (1, .int mr)] → W p l e R s m args below meth c H locs 0 0 Q (F0 m 95 ls [])) :
    ∀ (n i : Nat) (mr : Int32) (S : Nat → Int32) (H : Heap) (locs : List Loc) (ls : Array Slot), i ≤ mo → mo + 1 ≤ i + n → (mr = 0 ∨ mr = 1) → (sr_St sv ac tk mo → mr = 0) → (∀ k, k ≤ i → S k = nI (sr_f sv ac tk k)) → (∀ k, i < k → k ≤ mo → S k = nI (sv k)) → va_P (dC, dI) vwCl (sr_wM y b1 b2 b3 b4 b5 b6 b7 t1 t2 t3 t4 t5 t6 t7 mo ac kn T F I J U V S) H → va_D A (sr_wM y b1 b2 b3 b4 b5 b6 b7 t1 t2 t3 t4 t5 t6 t7 mo ac kn T F I J U V S) → va_S A H0 H locs → lv_has ls 3 [(0, .ref y), (1, .int mr), (2, .int (nI i))] → W p l e R s m args below meth c H locs 0 0 Q (F0 m 50 ls []) := by
  obtain ⟨hx, hb, hml, hown, hts⟩ := C0
  have hin1 : ∀ w ∈ u_ws RX1 TX1 10, w ∈ wsX1_know := by decide +kernel
  obtain ⟨hmo, ⟨hac1, hac2⟩, hcf, hcl, hpath⟩ := id g
  have hK : va_K (dC, dI) vwCl [(t1, .int), (t2, .int), (t3, .byte), (t4, .byte), (t5, .byte), (t6, .byte), (t7, .int)] s := hK
  intro n
  induction n with
  | zero =>
    intro i mr S H locs ls h1 h2
    exact absurd h2 (by omega)
  | succ n ih =>
    intro i mr S H locs ls h1 h2 hm1 hm2 hv hv2 hP hD hS hl
    have hP : va_P (dC, dI) vwCl [(y, .inr (1, [.ref b1, .ref b2, .ref b3, .ref b4, .ref b5, .ref b6, .int (nI mo), .int (nI ac), .ref b7, .int kn])), (b1, .inl (t1, 2000, .inl T)), (b2, .inl (t2, 2000, .inl F)), (b3, .inl (t3, 6000, .inl I)), (b4, .inl (t4, 6000, .inl J)), (b5, .inl (t5, 3, .inl U)), (b6, .inl (t6, 3, .inl V)), (b7, .inl (t7, 2001, .inl S))] H := hP
    have hD : va_D A [(y, .inr (1, [.ref b1, .ref b2, .ref b3, .ref b4, .ref b5, .ref b6, .int (nI mo), .int (nI ac), .ref b7, .int kn])), (b1, .inl (t1, 2000, .inl T)), (b2, .inl (t2, 2000, .inl F)), (b3, .inl (t3, 6000, .inl I)), (b4, .inl (t4, 6000, .inl J)), (b5, .inl (t5, 3, .inl U)), (b6, .inl (t6, 3, .inl V)), (b7, .inl (t7, 2001, .inl S))] := hD
    refine lv_iload_n hx hb dX1_know_50 rfl (lv_at hl 2 rfl) ?_
    refine lv_aload_n hx hb dX1_know_51 rfl (lv_at hl 0 rfl) ?_
    refine va_get (D := (dC, dI)) (ci := 1) (v := .int (nI mo)) (C := RX1) (T := TX1) (N := 10) hx hb hts hin1 hown hK hP 0 rfl rfl 6 (by decide) (hts (.fieldLink RX1 46 "SpeedRowsModel" "moves" "I") (by decide +kernel)) (fun _ h9 => h9) rfl dX1_know_52 ?_
    refine lv_icmp_ge (tgt := 95) hx hb dX1_know_55 (by decide) (fun c1 => ?_) (fun c1 => ?_)
    · have e1 : mo ≤ i := (nI_leI (by omega) (by omega)).mp c1
      exact hk mr S H locs ls hm1 hm2 (fun k q => hv k (by omega)) hP hD hS (lv_sub hl [0, 1] rfl)
    · have e1 : i < mo := Nat.lt_of_not_le (fun q => c1 (nI_le q (by omega)))
      have hb1 : sr_f sv ac tk i ≤ 99999 := Nat.le_trans (sr_f_le _ _ _ _) (hsv i h1)
      have hb2 := hsv (i + 1) e1
      have hb3 : sr_r ac (tk i) (sr_f sv ac tk i) < 2 ^ 31 := sr_r_lt hb1 hac2 (hpath i e1).1.2
      refine lv_aload_n hx hb dX1_know_58 rfl (lv_at hl 0 rfl) ?_
      refine lv_iload_n hx hb dX1_know_59 rfl (lv_at hl 2 rfl) ?_
      refine lv_iconst (v := nI 1) hx hb dX1_know_60 (by decide) ?_
      refine lv_iadd hx hb dX1_know_61 ?_
      refine sr_ti (y := nI (i + 1)) (nI_add _ _) ?_
      refine lv_aload_n hx hb dX1_know_62 rfl (lv_at hl 0 rfl) ?_
      refine lv_aload_n hx hb dX1_know_63 rfl (lv_at hl 0 rfl) ?_
      refine va_get (D := (dC, dI)) (ci := 1) (v := .ref b7) (C := RX1) (T := TX1) (N := 10) hx hb hts hin1 hown hK hP 0 rfl rfl 8 (by decide) (hts (.fieldLink RX1 33 "SpeedRowsModel" "speeds" "[I") (by decide +kernel)) (fun _ h9 => h9) rfl dX1_know_64 ?_
      refine lv_iload_n hx hb dX1_know_67 rfl (lv_at hl 2 rfl) ?_
      refine sr_iald (v := nI (sr_f sv ac tk i)) hx hb hK hP 7 6 rfl rfl (by omega) (by decide) (hv i (Nat.le_refl i)) dX1_know_68 ?_
      refine lv_iload_n hx hb dX1_know_69 rfl (lv_at hl 2 rfl) ?_
      have hPc := hP.sub (ws' := [(y, .inr (1, [.ref b1, .ref b2, .ref b3, .ref b4, .ref b5, .ref b6, .int (nI mo), .int (nI ac), .ref b7, .int kn])), (b1, .inl (t1, 2000, .inl T)), (b2, .inl (t2, 2000, .inl F)), (b3, .inl (t3, 6000, .inl I)), (b4, .inl (t4, 6000, .inl J)), (b5, .inl (t5, 3, .inl U)), (b6, .inl (t6, 3, .inl V)), (b7, .inl (t7, 2001, .inl S))]) [0, 1, 2, 3, 4, 5, 6, 7] rfl
      have hDc := hD.sub (ws' := [(y, .inr (1, [.ref b1, .ref b2, .ref b3, .ref b4, .ref b5, .ref b6, .int (nI mo), .int (nI ac), .ref b7, .int kn])), (b1, .inl (t1, 2000, .inl T)), (b2, .inl (t2, 2000, .inl F)), (b3, .inl (t3, 6000, .inl I)), (b4, .inl (t4, 6000, .inl J)), (b5, .inl (t5, 3, .inl U)), (b6, .inl (t6, 3, .inl V)), (b7, .inl (t7, 2001, .inl S))]) [0, 1, 2, 3, 4, 5, 6, 7] (by decide) rfl
      have hKc := hK.sub (tys' := [(t1, .int), (t2, .int), (t3, .byte), (t4, .byte), (t5, .byte), (t6, .byte), (t7, .int)]) [0, 1, 2, 3, 4, 5, 6] rfl
      have hFc := va_free (wc := [(y, .inr (1, [.ref b1, .ref b2, .ref b3, .ref b4, .ref b5, .ref b6, .int (nI mo), .int (nI ac), .ref b7, .int kn])), (b1, .inl (t1, 2000, .inl T)), (b2, .inl (t2, 2000, .inl F)), (b3, .inl (t3, 6000, .inl I)), (b4, .inl (t4, 6000, .inl J)), (b5, .inl (t5, 3, .inl U)), (b6, .inl (t6, 3, .inl V)), (b7, .inl (t7, 2001, .inl S))]) hD hS hA [0, 1, 2, 3, 4, 5, 6, 7] rfl
      refine va_calli (va_runV (As := [.int (nI (sr_f sv ac tk i)), .int (nI i)]) (rest := [.int (nI (i + 1)), .ref y]) ⟨hx, hb, hml, hown, hts⟩ (c_X1_reach l dC dI y b1 b2 b3 b4 b5 b6 b7 t1 t2 t3 t4 t5 t6 t7 H.size mo ac kn T F I J U V S (sr_f sv ac tk i) i (tk i) hb1 (by omega) (hM.1 i e1).1 (hpath i e1).1.2 hac2) (cwV 2 hts gX1_know_X1_reach rfl rfl rfl (by decide +kernel) ⟨Nat.le_trans (show _ ≤ 2 from Nat.le_of_ble_eq_true rfl) hRf, Nat.le_trans (show _ ≤ 49 from Nat.le_of_ble_eq_true rfl) hRl⟩) ⟨sr_blind, va_recv hKc hPc (ci := 1) (q0 := 0) rfl rfl, sr_mk hPc hKc hDc⟩ rfl rfl hl.1 rfl (lv_room (Nat.le_of_ble_eq_true rfl)) dX1_know_70 ⟨Nat.zero_le _, Nat.zero_le _⟩) hS (fun q _ h => hFc q h) hFc (fun r1 u t H1 locs ht hvm hw hB hz1 hk1 hS => ?_)
      obtain ⟨hP1, hK1, hD1⟩ := hB
      rw [ht] at hP1
      obtain ⟨rfl, rfl⟩ := hw
      obtain ⟨hP, hD⟩ := va_join (wr := []) (w1 := [(y, .inr (1, [.ref b1, .ref b2, .ref b3, .ref b4, .ref b5, .ref b6, .int (nI mo), .int (nI ac), .ref b7, .int kn])), (b1, .inl (t1, 2000, .inl T)), (b2, .inl (t2, 2000, .inl F)), (b3, .inl (t3, 6000, .inl I)), (b4, .inl (t4, 6000, .inl J)), (b5, .inl (t5, 3, .inl U)), (b6, .inl (t6, 3, .inl V)), (b7, .inl (t7, 2001, .inl S))]) hP hD [0, 1, 2, 3, 4, 5, 6, 7] [] rfl rfl (by decide) (by decide) hk1 hFc hP1 hD1
      generalize H1 = H at hP hS ⊢
      have hP : va_P (dC, dI) vwCl [(y, .inr (1, [.ref b1, .ref b2, .ref b3, .ref b4, .ref b5, .ref b6, .int (nI mo), .int (nI ac), .ref b7, .int kn])), (b1, .inl (t1, 2000, .inl T)), (b2, .inl (t2, 2000, .inl F)), (b3, .inl (t3, 6000, .inl I)), (b4, .inl (t4, 6000, .inl J)), (b5, .inl (t5, 3, .inl U)), (b6, .inl (t6, 3, .inl V)), (b7, .inl (t7, 2001, .inl S))] H := hP
      have hD : va_D A [(y, .inr (1, [.ref b1, .ref b2, .ref b3, .ref b4, .ref b5, .ref b6, .int (nI mo), .int (nI ac), .ref b7, .int kn])), (b1, .inl (t1, 2000, .inl T)), (b2, .inl (t2, 2000, .inl F)), (b3, .inl (t3, 6000, .inl I)), (b4, .inl (t4, 6000, .inl J)), (b5, .inl (t5, 3, .inl U)), (b6, .inl (t6, 3, .inl V)), (b7, .inl (t7, 2001, .inl S))] := hD
      have hPc := hP.sub (ws' := [(y, .inr (1, [.ref b1, .ref b2, .ref b3, .ref b4, .ref b5, .ref b6, .int (nI mo), .int (nI ac), .ref b7, .int kn])), (b1, .inl (t1, 2000, .inl T)), (b2, .inl (t2, 2000, .inl F)), (b3, .inl (t3, 6000, .inl I)), (b4, .inl (t4, 6000, .inl J)), (b5, .inl (t5, 3, .inl U)), (b6, .inl (t6, 3, .inl V)), (b7, .inl (t7, 2001, .inl S))]) [0, 1, 2, 3, 4, 5, 6, 7] rfl
      have hDc := hD.sub (ws' := [(y, .inr (1, [.ref b1, .ref b2, .ref b3, .ref b4, .ref b5, .ref b6, .int (nI mo), .int (nI ac), .ref b7, .int kn])), (b1, .inl (t1, 2000, .inl T)), (b2, .inl (t2, 2000, .inl F)), (b3, .inl (t3, 6000, .inl I)), (b4, .inl (t4, 6000, .inl J)), (b5, .inl (t5, 3, .inl U)), (b6, .inl (t6, 3, .inl V)), (b7, .inl (t7, 2001, .inl S))]) [0, 1, 2, 3, 4, 5, 6, 7] (by decide) rfl
      have hKc := hK.sub (tys' := [(t1, .int), (t2, .int), (t3, .byte), (t4, .byte), (t5, .byte), (t6, .byte), (t7, .int)]) [0, 1, 2, 3, 4, 5, 6] rfl
      have hFc := va_free (wc := [(y, .inr (1, [.ref b1, .ref b2, .ref b3, .ref b4, .ref b5, .ref b6, .int (nI mo), .int (nI ac), .ref b7, .int kn])), (b1, .inl (t1, 2000, .inl T)), (b2, .inl (t2, 2000, .inl F)), (b3, .inl (t3, 6000, .inl I)), (b4, .inl (t4, 6000, .inl J)), (b5, .inl (t5, 3, .inl U)), (b6, .inl (t6, 3, .inl V)), (b7, .inl (t7, 2001, .inl S))]) hD hS hA [0, 1, 2, 3, 4, 5, 6, 7] rfl
      refine va_calli (va_runV (As := [.int (nI (i + 1)), .int (nI (sr_r ac (tk i) (sr_f sv ac tk i)))]) (rest := []) ⟨hx, hb, hml, hown, hts⟩ (c_X1_lowered l dC dI y b1 b2 b3 b4 b5 b6 b7 t1 t2 t3 t4 t5 t6 t7 H.size mo ac kn T F I J U V S (i + 1) (sv (i + 1)) (sr_r ac (tk i) (sr_f sv ac tk i)) (by omega) (by omega) hb3 (hv2 (i + 1) (Nat.lt_succ_self i) e1)) (cwV 2 hts gX1_know_X1_lowered rfl rfl rfl (by decide +kernel) ⟨Nat.le_trans (show _ ≤ 2 from Nat.le_of_ble_eq_true rfl) hRf, Nat.le_trans (show _ ≤ 49 from Nat.le_of_ble_eq_true rfl) hRl⟩) ⟨sr_blind, va_recv hKc hPc (ci := 1) (q0 := 0) rfl rfl, sr_mk hPc hKc hDc⟩ rfl rfl hl.1 rfl (lv_room (Nat.le_of_ble_eq_true rfl)) dX1_know_73 ⟨Nat.zero_le _, Nat.zero_le _⟩) hS (fun q _ h => hFc q h) hFc (fun r2 u t H1 locs ht hvm hw hB hz1 hk1 hS => ?_)
      obtain ⟨hP1, hK1, hD1⟩ := hB
      rw [ht] at hP1
      obtain ⟨S2, rfl, q1, q2, q3, q4⟩ := hw
      obtain ⟨hP, hD⟩ := va_join (wr := []) (w1 := [(y, .inr (1, [.ref b1, .ref b2, .ref b3, .ref b4, .ref b5, .ref b6, .int (nI mo), .int (nI ac), .ref b7, .int kn])), (b1, .inl (t1, 2000, .inl T)), (b2, .inl (t2, 2000, .inl F)), (b3, .inl (t3, 6000, .inl I)), (b4, .inl (t4, 6000, .inl J)), (b5, .inl (t5, 3, .inl U)), (b6, .inl (t6, 3, .inl V)), (b7, .inl (t7, 2001, .inl S2))]) hP hD [0, 1, 2, 3, 4, 5, 6, 7] [] rfl rfl (by decide) (by decide) hk1 hFc hP1 hD1
      generalize H1 = H at hP hS ⊢
      have hP : va_P (dC, dI) vwCl [(y, .inr (1, [.ref b1, .ref b2, .ref b3, .ref b4, .ref b5, .ref b6, .int (nI mo), .int (nI ac), .ref b7, .int kn])), (b1, .inl (t1, 2000, .inl T)), (b2, .inl (t2, 2000, .inl F)), (b3, .inl (t3, 6000, .inl I)), (b4, .inl (t4, 6000, .inl J)), (b5, .inl (t5, 3, .inl U)), (b6, .inl (t6, 3, .inl V)), (b7, .inl (t7, 2001, .inl S2))] H := hP
      have hD : va_D A [(y, .inr (1, [.ref b1, .ref b2, .ref b3, .ref b4, .ref b5, .ref b6, .int (nI mo), .int (nI ac), .ref b7, .int kn])), (b1, .inl (t1, 2000, .inl T)), (b2, .inl (t2, 2000, .inl F)), (b3, .inl (t3, 6000, .inl I)), (b4, .inl (t4, 6000, .inl J)), (b5, .inl (t5, 3, .inl U)), (b6, .inl (t6, 3, .inl V)), (b7, .inl (t7, 2001, .inl S2))] := hD
      have w1 : ∀ k, k ≤ i + 1 → S2 k = nI (sr_f sv ac tk k) := fun k q => by
        rcases Nat.lt_or_ge k (i + 1) with h | h
        · rw [q1 k (by omega)]
          exact hv k (by omega)
        · obtain rfl : k = i + 1 := by omega
          rw [q2, sr_f]
      have w2 : ∀ k, i + 1 < k → k ≤ mo → S2 k = nI (sv k) := fun k q q5 => by
        rw [q1 k (by omega)]
        exact hv2 k (by omega) q5
      have w3 : sr_St sv ac tk mo → r2 = 0 := fun q => q4 (by rw [sr_f_fix q i (by omega)]; exact (q i e1).1)
      refine lv_if_ne (tgt := 83) hx hb dX1_know_76 (by decide) (fun c2 => ?_) (fun c2 => ?_)
      · refine lv_iconst (v := 1) hx hb dX1_know_83 (by decide) ?_
        refine lv_goto (tgt := 88) hx hb dX1_know_84 (by decide) ?_
        refine lv_istore_n (lv' := [(1, .int 1), (0, .ref y), (2, .int (nI i))]) hx hb dX1_know_88 rfl hl (by decide) rfl (fun ls hl => ?_)
        refine lv_iinc (v := nI (i + 1)) (lv' := [(2, .int (nI (i + 1))), (1, .int 1), (0, .ref y)]) hx hb dX1_know_89 hl (k := 2) rfl (nI_1 _) (by decide) rfl (fun ls hl => ?_)
        refine lv_goto (tgt := 50) hx hb dX1_know_92 (by decide) ?_
        exact ih (i + 1) 1 S2 H locs ls (by omega) (by omega) (Or.inr rfl) (fun q => absurd (w3 q) c2) w1 w2 hP hD hS (lv_sub hl [2, 1, 0] rfl)
      · refine lv_iload_n hx hb dX1_know_79 rfl (lv_at hl 1 rfl) ?_
        refine lv_if_eq (tgt := 87) hx hb dX1_know_80 (by decide) (fun c3 => ?_) (fun c3 => ?_)
        · refine lv_iconst (v := 0) hx hb dX1_know_87 (by decide) ?_
          refine lv_istore_n (lv' := [(1, .int 0), (0, .ref y), (2, .int (nI i))]) hx hb dX1_know_88 rfl hl (by decide) rfl (fun ls hl => ?_)
          refine lv_iinc (v := nI (i + 1)) (lv' := [(2, .int (nI (i + 1))), (1, .int 0), (0, .ref y)]) hx hb dX1_know_89 hl (k := 2) rfl (nI_1 _) (by decide) rfl (fun ls hl => ?_)
          refine lv_goto (tgt := 50) hx hb dX1_know_92 (by decide) ?_
          exact ih (i + 1) 0 S2 H locs ls (by omega) (by omega) (Or.inl rfl) (fun _ => rfl) w1 w2 hP hD hS (lv_sub hl [2, 1, 0] rfl)
        · refine lv_iconst (v := 1) hx hb dX1_know_83 (by decide) ?_
          refine lv_goto (tgt := 88) hx hb dX1_know_84 (by decide) ?_
          refine lv_istore_n (lv' := [(1, .int 1), (0, .ref y), (2, .int (nI i))]) hx hb dX1_know_88 rfl hl (by decide) rfl (fun ls hl => ?_)
          refine lv_iinc (v := nI (i + 1)) (lv' := [(2, .int (nI (i + 1))), (1, .int 1), (0, .ref y)]) hx hb dX1_know_89 hl (k := 2) rfl (nI_1 _) (by decide) rfl (fun ls hl => ?_)
          refine lv_goto (tgt := 50) hx hb dX1_know_92 (by decide) ?_
          exact ih (i + 1) 1 S2 H locs ls (by omega) (by omega) (Or.inr rfl) (fun q => absurd (hm2 q) c3) w1 w2 hP hD hS (lv_sub hl [2, 1, 0] rfl)
set_option maxHeartbeats 4000000 in
set_option maxRecDepth 100000 in
theorem lp_X1_k2 {p : Program} {l : Launch} {e : Env} {R : Room} {s : State} {m : MethodId} {args : Array Value} {below : List Frame} {meth : Method} {c : Code} {Q : State → Prop} {A : Nat → Prop} {H0 : Heap} (C0 : CallFix p m c cX1_know 3 s args wsX1_know RX1) (hRf : 2 ≤ R.frames) (hRl : 49 ≤ R.locals) {dC : Nat → ClassId} {dI : Nat → Nat → Nat} {y b1 b2 b3 b4 b5 b6 b7 : Nat} {t1 t2 t3 t4 t5 t6 t7 : ClassId} {mo ac cf cl : Nat} {kn : Int32} {T F I J U V : Nat → Int32} {tk fd fs la : Nat → Nat} (g : sr_G mo ac cf cl tk fd fs la) (hM : sr_MI mo cf cl tk fd fs la T F I J U V) (hK : va_K (dC, dI) vwCl (sr_tM t1 t2 t3 t4 t5 t6 t7) s) (hA : ∀ q, H0.size ≤ q → A q) {sv : Nat → Nat} (hsv : ∀ k, k ≤ mo → sv k ≤ 99999)
    (hk : ∀ (mr : Int32) (S : Nat → Int32) (H : Heap) (locs : List Loc) (ls : Array Slot), (mr = 0 ∨ mr = 1) → (sr_St sv ac tk mo → mr = 0) → (∀ k, k ≤ mo → S k = nI (sr_s sv ac tk mo k)) → va_P (dC, dI) vwCl (sr_wM y b1 b2 b3 b4 b5 b6 b7 t1 t2 t3 t4 t5 t6 t7 mo ac kn T F I J U V S) H → va_D A (sr_wM y b1 b2 b3 b4 b5 b6 b7 t1 t2 t3 t4 t5 t6 t7 mo ac kn T F I J U V S) → va_S A H0 H locs → lv_has ls 3 [(0, .ref y), (1, .int mr)] → W p l e R s m args below meth c H locs 0 0 Q (F0 m 143 ls [])) :
    ∀ (n : Nat) (mr : Int32) (S : Nat → Int32) (H : Heap) (locs : List Loc) (ls : Array Slot), n ≤ mo → (mr = 0 ∨ mr = 1) → (sr_St sv ac tk mo → mr = 0) → (∀ k, k < n → S k = nI (sr_f sv ac tk k)) → (∀ k, n ≤ k → k ≤ mo → S k = nI (sr_s sv ac tk mo k)) → va_P (dC, dI) vwCl (sr_wM y b1 b2 b3 b4 b5 b6 b7 t1 t2 t3 t4 t5 t6 t7 mo ac kn T F I J U V S) H → va_D A (sr_wM y b1 b2 b3 b4 b5 b6 b7 t1 t2 t3 t4 t5 t6 t7 mo ac kn T F I J U V S) → va_S A H0 H locs → lv_has ls 3 [(0, .ref y), (1, .int mr), (2, .int (nI n))] → W p l e R s m args below meth c H locs 0 0 Q (F0 m 100 ls []) := by
  obtain ⟨hx, hb, hml, hown, hts⟩ := C0
  have hin1 : ∀ w ∈ u_ws RX1 TX1 10, w ∈ wsX1_know := by decide +kernel
  obtain ⟨hmo, ⟨hac1, hac2⟩, hcf, hcl, hpath⟩ := id g
  have hK : va_K (dC, dI) vwCl [(t1, .int), (t2, .int), (t3, .byte), (t4, .byte), (t5, .byte), (t6, .byte), (t7, .int)] s := hK
  intro n
  induction n with
  | zero =>
    intro mr S H locs ls h1 hm1 hm2 hv hv2 hP hD hS hl
    refine lv_iload_n hx hb dX1_know_100 rfl (lv_at hl 2 rfl) ?_
    refine lv_if_le (tgt := 143) hx hb dX1_know_101 (by decide) (fun c1 => ?_) (fun c1 => ?_)
    · exact hk mr S H locs ls hm1 hm2 (fun k q => hv2 k (Nat.zero_le k) q) hP hD hS (lv_sub hl [0, 1] rfl)
    · exact absurd (by decide) c1
  | succ b ih =>
    intro mr S H locs ls h1 hm1 hm2 hv hv2 hP hD hS hl
    have hP : va_P (dC, dI) vwCl [(y, .inr (1, [.ref b1, .ref b2, .ref b3, .ref b4, .ref b5, .ref b6, .int (nI mo), .int (nI ac), .ref b7, .int kn])), (b1, .inl (t1, 2000, .inl T)), (b2, .inl (t2, 2000, .inl F)), (b3, .inl (t3, 6000, .inl I)), (b4, .inl (t4, 6000, .inl J)), (b5, .inl (t5, 3, .inl U)), (b6, .inl (t6, 3, .inl V)), (b7, .inl (t7, 2001, .inl S))] H := hP
    have hD : va_D A [(y, .inr (1, [.ref b1, .ref b2, .ref b3, .ref b4, .ref b5, .ref b6, .int (nI mo), .int (nI ac), .ref b7, .int kn])), (b1, .inl (t1, 2000, .inl T)), (b2, .inl (t2, 2000, .inl F)), (b3, .inl (t3, 6000, .inl I)), (b4, .inl (t4, 6000, .inl J)), (b5, .inl (t5, 3, .inl U)), (b6, .inl (t6, 3, .inl V)), (b7, .inl (t7, 2001, .inl S))] := hD
    refine lv_iload_n hx hb dX1_know_100 rfl (lv_at hl 2 rfl) ?_
    refine lv_if_le (tgt := 143) hx hb dX1_know_101 (by decide) (fun c1 => ?_) (fun c1 => ?_)
    · exact absurd c1 (nI_nle (by omega) (by omega))
    · have e1 : b < mo := h1
      have hb1 : sr_f sv ac tk b ≤ 99999 := Nat.le_trans (sr_f_le _ _ _ _) (hsv b (by omega))
      have hb2 : sr_s sv ac tk mo (b + 1) ≤ 99999 := Nat.le_trans (sr_s_le _ _ _ h1) (hsv (b + 1) h1)
      have hb3 : sr_r ac (tk b) (sr_s sv ac tk mo (b + 1)) < 2 ^ 31 := sr_r_lt hb2 hac2 (hpath b e1).1.2
      refine lv_aload_n hx hb dX1_know_104 rfl (lv_at hl 0 rfl) ?_
      refine lv_iload_n hx hb dX1_know_105 rfl (lv_at hl 2 rfl) ?_
      refine lv_iconst (v := 1) hx hb dX1_know_106 (by decide) ?_
      refine lv_isub hx hb dX1_know_107 ?_
      refine sr_ti (y := nI b) (nI_pred b) ?_
      refine lv_aload_n hx hb dX1_know_108 rfl (lv_at hl 0 rfl) ?_
      refine lv_aload_n hx hb dX1_know_109 rfl (lv_at hl 0 rfl) ?_
      refine va_get (D := (dC, dI)) (ci := 1) (v := .ref b7) (C := RX1) (T := TX1) (N := 10) hx hb hts hin1 hown hK hP 0 rfl rfl 8 (by decide) (hts (.fieldLink RX1 33 "SpeedRowsModel" "speeds" "[I") (by decide +kernel)) (fun _ h9 => h9) rfl dX1_know_110 ?_
      refine lv_iload_n hx hb dX1_know_113 rfl (lv_at hl 2 rfl) ?_
      refine sr_iald (v := nI (sr_s sv ac tk mo (b + 1))) hx hb hK hP 7 6 rfl rfl (by omega) (by decide) (hv2 (b + 1) (Nat.le_refl _) h1) dX1_know_114 ?_
      refine lv_iload_n hx hb dX1_know_115 rfl (lv_at hl 2 rfl) ?_
      refine lv_iconst (v := 1) hx hb dX1_know_116 (by decide) ?_
      refine lv_isub hx hb dX1_know_117 ?_
      refine sr_ti (y := nI b) (nI_pred b) ?_
      have hPc := hP.sub (ws' := [(y, .inr (1, [.ref b1, .ref b2, .ref b3, .ref b4, .ref b5, .ref b6, .int (nI mo), .int (nI ac), .ref b7, .int kn])), (b1, .inl (t1, 2000, .inl T)), (b2, .inl (t2, 2000, .inl F)), (b3, .inl (t3, 6000, .inl I)), (b4, .inl (t4, 6000, .inl J)), (b5, .inl (t5, 3, .inl U)), (b6, .inl (t6, 3, .inl V)), (b7, .inl (t7, 2001, .inl S))]) [0, 1, 2, 3, 4, 5, 6, 7] rfl
      have hDc := hD.sub (ws' := [(y, .inr (1, [.ref b1, .ref b2, .ref b3, .ref b4, .ref b5, .ref b6, .int (nI mo), .int (nI ac), .ref b7, .int kn])), (b1, .inl (t1, 2000, .inl T)), (b2, .inl (t2, 2000, .inl F)), (b3, .inl (t3, 6000, .inl I)), (b4, .inl (t4, 6000, .inl J)), (b5, .inl (t5, 3, .inl U)), (b6, .inl (t6, 3, .inl V)), (b7, .inl (t7, 2001, .inl S))]) [0, 1, 2, 3, 4, 5, 6, 7] (by decide) rfl
      have hKc := hK.sub (tys' := [(t1, .int), (t2, .int), (t3, .byte), (t4, .byte), (t5, .byte), (t6, .byte), (t7, .int)]) [0, 1, 2, 3, 4, 5, 6] rfl
      have hFc := va_free (wc := [(y, .inr (1, [.ref b1, .ref b2, .ref b3, .ref b4, .ref b5, .ref b6, .int (nI mo), .int (nI ac), .ref b7, .int kn])), (b1, .inl (t1, 2000, .inl T)), (b2, .inl (t2, 2000, .inl F)), (b3, .inl (t3, 6000, .inl I)), (b4, .inl (t4, 6000, .inl J)), (b5, .inl (t5, 3, .inl U)), (b6, .inl (t6, 3, .inl V)), (b7, .inl (t7, 2001, .inl S))]) hD hS hA [0, 1, 2, 3, 4, 5, 6, 7] rfl
      refine va_calli (va_runV (As := [.int (nI (sr_s sv ac tk mo (b + 1))), .int (nI b)]) (rest := [.int (nI b), .ref y]) ⟨hx, hb, hml, hown, hts⟩ (c_X1_reach l dC dI y b1 b2 b3 b4 b5 b6 b7 t1 t2 t3 t4 t5 t6 t7 H.size mo ac kn T F I J U V S (sr_s sv ac tk mo (b + 1)) b (tk b) hb2 (by omega) (hM.1 b e1).1 (hpath b e1).1.2 hac2) (cwV 2 hts gX1_know_X1_reach rfl rfl rfl (by decide +kernel) ⟨Nat.le_trans (show _ ≤ 2 from Nat.le_of_ble_eq_true rfl) hRf, Nat.le_trans (show _ ≤ 49 from Nat.le_of_ble_eq_true rfl) hRl⟩) ⟨sr_blind, va_recv hKc hPc (ci := 1) (q0 := 0) rfl rfl, sr_mk hPc hKc hDc⟩ rfl rfl hl.1 rfl (lv_room (Nat.le_of_ble_eq_true rfl)) dX1_know_118 ⟨Nat.zero_le _, Nat.zero_le _⟩) hS (fun q _ h => hFc q h) hFc (fun r1 u t H1 locs ht hvm hw hB hz1 hk1 hS => ?_)
      obtain ⟨hP1, hK1, hD1⟩ := hB
      rw [ht] at hP1
      obtain ⟨rfl, rfl⟩ := hw
      obtain ⟨hP, hD⟩ := va_join (wr := []) (w1 := [(y, .inr (1, [.ref b1, .ref b2, .ref b3, .ref b4, .ref b5, .ref b6, .int (nI mo), .int (nI ac), .ref b7, .int kn])), (b1, .inl (t1, 2000, .inl T)), (b2, .inl (t2, 2000, .inl F)), (b3, .inl (t3, 6000, .inl I)), (b4, .inl (t4, 6000, .inl J)), (b5, .inl (t5, 3, .inl U)), (b6, .inl (t6, 3, .inl V)), (b7, .inl (t7, 2001, .inl S))]) hP hD [0, 1, 2, 3, 4, 5, 6, 7] [] rfl rfl (by decide) (by decide) hk1 hFc hP1 hD1
      generalize H1 = H at hP hS ⊢
      have hP : va_P (dC, dI) vwCl [(y, .inr (1, [.ref b1, .ref b2, .ref b3, .ref b4, .ref b5, .ref b6, .int (nI mo), .int (nI ac), .ref b7, .int kn])), (b1, .inl (t1, 2000, .inl T)), (b2, .inl (t2, 2000, .inl F)), (b3, .inl (t3, 6000, .inl I)), (b4, .inl (t4, 6000, .inl J)), (b5, .inl (t5, 3, .inl U)), (b6, .inl (t6, 3, .inl V)), (b7, .inl (t7, 2001, .inl S))] H := hP
      have hD : va_D A [(y, .inr (1, [.ref b1, .ref b2, .ref b3, .ref b4, .ref b5, .ref b6, .int (nI mo), .int (nI ac), .ref b7, .int kn])), (b1, .inl (t1, 2000, .inl T)), (b2, .inl (t2, 2000, .inl F)), (b3, .inl (t3, 6000, .inl I)), (b4, .inl (t4, 6000, .inl J)), (b5, .inl (t5, 3, .inl U)), (b6, .inl (t6, 3, .inl V)), (b7, .inl (t7, 2001, .inl S))] := hD
      have hPc := hP.sub (ws' := [(y, .inr (1, [.ref b1, .ref b2, .ref b3, .ref b4, .ref b5, .ref b6, .int (nI mo), .int (nI ac), .ref b7, .int kn])), (b1, .inl (t1, 2000, .inl T)), (b2, .inl (t2, 2000, .inl F)), (b3, .inl (t3, 6000, .inl I)), (b4, .inl (t4, 6000, .inl J)), (b5, .inl (t5, 3, .inl U)), (b6, .inl (t6, 3, .inl V)), (b7, .inl (t7, 2001, .inl S))]) [0, 1, 2, 3, 4, 5, 6, 7] rfl
      have hDc := hD.sub (ws' := [(y, .inr (1, [.ref b1, .ref b2, .ref b3, .ref b4, .ref b5, .ref b6, .int (nI mo), .int (nI ac), .ref b7, .int kn])), (b1, .inl (t1, 2000, .inl T)), (b2, .inl (t2, 2000, .inl F)), (b3, .inl (t3, 6000, .inl I)), (b4, .inl (t4, 6000, .inl J)), (b5, .inl (t5, 3, .inl U)), (b6, .inl (t6, 3, .inl V)), (b7, .inl (t7, 2001, .inl S))]) [0, 1, 2, 3, 4, 5, 6, 7] (by decide) rfl
      have hKc := hK.sub (tys' := [(t1, .int), (t2, .int), (t3, .byte), (t4, .byte), (t5, .byte), (t6, .byte), (t7, .int)]) [0, 1, 2, 3, 4, 5, 6] rfl
      have hFc := va_free (wc := [(y, .inr (1, [.ref b1, .ref b2, .ref b3, .ref b4, .ref b5, .ref b6, .int (nI mo), .int (nI ac), .ref b7, .int kn])), (b1, .inl (t1, 2000, .inl T)), (b2, .inl (t2, 2000, .inl F)), (b3, .inl (t3, 6000, .inl I)), (b4, .inl (t4, 6000, .inl J)), (b5, .inl (t5, 3, .inl U)), (b6, .inl (t6, 3, .inl V)), (b7, .inl (t7, 2001, .inl S))]) hD hS hA [0, 1, 2, 3, 4, 5, 6, 7] rfl
      refine va_calli (va_runV (As := [.int (nI b), .int (nI (sr_r ac (tk b) (sr_s sv ac tk mo (b + 1))))]) (rest := []) ⟨hx, hb, hml, hown, hts⟩ (c_X1_lowered l dC dI y b1 b2 b3 b4 b5 b6 b7 t1 t2 t3 t4 t5 t6 t7 H.size mo ac kn T F I J U V S b (sr_f sv ac tk b) (sr_r ac (tk b) (sr_s sv ac tk mo (b + 1))) (by omega) (by omega) hb3 (hv b (Nat.lt_succ_self b))) (cwV 2 hts gX1_know_X1_lowered rfl rfl rfl (by decide +kernel) ⟨Nat.le_trans (show _ ≤ 2 from Nat.le_of_ble_eq_true rfl) hRf, Nat.le_trans (show _ ≤ 49 from Nat.le_of_ble_eq_true rfl) hRl⟩) ⟨sr_blind, va_recv hKc hPc (ci := 1) (q0 := 0) rfl rfl, sr_mk hPc hKc hDc⟩ rfl rfl hl.1 rfl (lv_room (Nat.le_of_ble_eq_true rfl)) dX1_know_121 ⟨Nat.zero_le _, Nat.zero_le _⟩) hS (fun q _ h => hFc q h) hFc (fun r2 u t H1 locs ht hvm hw hB hz1 hk1 hS => ?_)
      obtain ⟨hP1, hK1, hD1⟩ := hB
      rw [ht] at hP1
      obtain ⟨S2, rfl, q1, q2, q3, q4⟩ := hw
      obtain ⟨hP, hD⟩ := va_join (wr := []) (w1 := [(y, .inr (1, [.ref b1, .ref b2, .ref b3, .ref b4, .ref b5, .ref b6, .int (nI mo), .int (nI ac), .ref b7, .int kn])), (b1, .inl (t1, 2000, .inl T)), (b2, .inl (t2, 2000, .inl F)), (b3, .inl (t3, 6000, .inl I)), (b4, .inl (t4, 6000, .inl J)), (b5, .inl (t5, 3, .inl U)), (b6, .inl (t6, 3, .inl V)), (b7, .inl (t7, 2001, .inl S2))]) hP hD [0, 1, 2, 3, 4, 5, 6, 7] [] rfl rfl (by decide) (by decide) hk1 hFc hP1 hD1
      generalize H1 = H at hP hS ⊢
      have hP : va_P (dC, dI) vwCl [(y, .inr (1, [.ref b1, .ref b2, .ref b3, .ref b4, .ref b5, .ref b6, .int (nI mo), .int (nI ac), .ref b7, .int kn])), (b1, .inl (t1, 2000, .inl T)), (b2, .inl (t2, 2000, .inl F)), (b3, .inl (t3, 6000, .inl I)), (b4, .inl (t4, 6000, .inl J)), (b5, .inl (t5, 3, .inl U)), (b6, .inl (t6, 3, .inl V)), (b7, .inl (t7, 2001, .inl S2))] H := hP
      have hD : va_D A [(y, .inr (1, [.ref b1, .ref b2, .ref b3, .ref b4, .ref b5, .ref b6, .int (nI mo), .int (nI ac), .ref b7, .int kn])), (b1, .inl (t1, 2000, .inl T)), (b2, .inl (t2, 2000, .inl F)), (b3, .inl (t3, 6000, .inl I)), (b4, .inl (t4, 6000, .inl J)), (b5, .inl (t5, 3, .inl U)), (b6, .inl (t6, 3, .inl V)), (b7, .inl (t7, 2001, .inl S2))] := hD
      have w1 : ∀ k, k < b → S2 k = nI (sr_f sv ac tk k) := fun k q => by
        rw [q1 k (by omega)]
        exact hv k (by omega)
      have w2 : ∀ k, b ≤ k → k ≤ mo → S2 k = nI (sr_s sv ac tk mo k) := fun k q q5 => by
        rcases Nat.lt_or_ge b k with h | h
        · rw [q1 k (by omega)]
          exact hv2 k h q5
        · obtain rfl : k = b := by omega
          rw [q2, sr_s_k _ _ _ e1]
      have w3 : sr_St sv ac tk mo → r2 = 0 := fun q => q4 (by rw [sr_f_fix q b (by omega), sr_s_fix' q h1]; exact (q b e1).2)
      refine lv_if_ne (tgt := 131) hx hb dX1_know_124 (by decide) (fun c2 => ?_) (fun c2 => ?_)
      · refine lv_iconst (v := 1) hx hb dX1_know_131 (by decide) ?_
        refine lv_goto (tgt := 136) hx hb dX1_know_132 (by decide) ?_
        refine lv_istore_n (lv' := [(1, .int 1), (0, .ref y), (2, .int (nI (b + 1)))]) hx hb dX1_know_136 rfl hl (by decide) rfl (fun ls hl => ?_)
        refine lv_iinc (v := nI b) (lv' := [(2, .int (nI b)), (1, .int 1), (0, .ref y)]) hx hb dX1_know_137 hl (k := 2) rfl (pk_m1 b) (by decide) rfl (fun ls hl => ?_)
        refine lv_goto (tgt := 100) hx hb dX1_know_140 (by decide) ?_
        exact ih 1 S2 H locs ls (by omega) (Or.inr rfl) (fun q => absurd (w3 q) c2) w1 w2 hP hD hS (lv_sub hl [2, 1, 0] rfl)
      · refine lv_iload_n hx hb dX1_know_127 rfl (lv_at hl 1 rfl) ?_
        refine lv_if_eq (tgt := 135) hx hb dX1_know_128 (by decide) (fun c3 => ?_) (fun c3 => ?_)
        · refine lv_iconst (v := 0) hx hb dX1_know_135 (by decide) ?_
          refine lv_istore_n (lv' := [(1, .int 0), (0, .ref y), (2, .int (nI (b + 1)))]) hx hb dX1_know_136 rfl hl (by decide) rfl (fun ls hl => ?_)
          refine lv_iinc (v := nI b) (lv' := [(2, .int (nI b)), (1, .int 0), (0, .ref y)]) hx hb dX1_know_137 hl (k := 2) rfl (pk_m1 b) (by decide) rfl (fun ls hl => ?_)
          refine lv_goto (tgt := 100) hx hb dX1_know_140 (by decide) ?_
          exact ih 0 S2 H locs ls (by omega) (Or.inl rfl) (fun _ => rfl) w1 w2 hP hD hS (lv_sub hl [2, 1, 0] rfl)
        · refine lv_iconst (v := 1) hx hb dX1_know_131 (by decide) ?_
          refine lv_goto (tgt := 136) hx hb dX1_know_132 (by decide) ?_
          refine lv_istore_n (lv' := [(1, .int 1), (0, .ref y), (2, .int (nI (b + 1)))]) hx hb dX1_know_136 rfl hl (by decide) rfl (fun ls hl => ?_)
          refine lv_iinc (v := nI b) (lv' := [(2, .int (nI b)), (1, .int 1), (0, .ref y)]) hx hb dX1_know_137 hl (k := 2) rfl (pk_m1 b) (by decide) rfl (fun ls hl => ?_)
          refine lv_goto (tgt := 100) hx hb dX1_know_140 (by decide) ?_
          exact ih 1 S2 H locs ls (by omega) (Or.inr rfl) (fun q => absurd (hm2 q) c3) w1 w2 hP hD hS (lv_sub hl [2, 1, 0] rfl)
set_option maxHeartbeats 4000000 in
set_option maxRecDepth 100000 in
theorem lp_X1_kb {p : Program} {l : Launch} {e : Env} {R : Room} {s : State} {m : MethodId} {args : Array Value} {below : List Frame} {meth : Method} {c : Code} {Q : State → Prop} {A : Nat → Prop} {H0 : Heap} (C0 : CallFix p m c cX1_know 3 s args wsX1_know RX1) (hRf : 2 ≤ R.frames) (hRl : 49 ≤ R.locals) {dC : Nat → ClassId} {dI : Nat → Nat → Nat} {y b1 b2 b3 b4 b5 b6 b7 : Nat} {t1 t2 t3 t4 t5 t6 t7 : ClassId} {mo ac cf cl : Nat} {kn : Int32} {T F I J U V : Nat → Int32} {tk fd fs la : Nat → Nat} (g : sr_G mo ac cf cl tk fd fs la) (hM : sr_MI mo cf cl tk fd fs la T F I J U V) (hK : va_K (dC, dI) vwCl (sr_tM t1 t2 t3 t4 t5 t6 t7) s) (hA : ∀ q, H0.size ≤ q → A q) {sv : Nat → Nat} (hsv : ∀ k, k ≤ mo → sv k ≤ 99999)
    (hk : ∀ (mr : Int32) (S : Nat → Int32) (H : Heap) (locs : List Loc) (ls : Array Slot), (mr = 0 ∨ mr = 1) → (sr_St sv ac tk mo → mr = 0) → (∀ k, k ≤ mo → S k = nI (sr_s sv ac tk mo k)) → va_P (dC, dI) vwCl (sr_wM y b1 b2 b3 b4 b5 b6 b7 t1 t2 t3 t4 t5 t6 t7 mo ac kn T F I J U V S) H → va_D A (sr_wM y b1 b2 b3 b4 b5 b6 b7 t1 t2 t3 t4 t5 t6 t7 mo ac kn T F I J U V S) → va_S A H0 H locs → lv_has ls 3 [(0, .ref y), (1, .int mr)] → W p l e R s m args below meth c H locs 0 0 Q (F0 m 42 ls [])) :
    ∀ (S : Nat → Int32) (H : Heap) (locs : List Loc) (ls : Array Slot), (∀ k, k ≤ mo → S k = nI (sv k)) → va_P (dC, dI) vwCl (sr_wM y b1 b2 b3 b4 b5 b6 b7 t1 t2 t3 t4 t5 t6 t7 mo ac kn T F I J U V S) H → va_D A (sr_wM y b1 b2 b3 b4 b5 b6 b7 t1 t2 t3 t4 t5 t6 t7 mo ac kn T F I J U V S) → va_S A H0 H locs → lv_has ls 3 [(0, .ref y), (1, .int 1)] → W p l e R s m args below meth c H locs 0 0 Q (F0 m 42 ls []) := by
  have C1 := C0
  obtain ⟨hx, hb, hml, hown, hts⟩ := C0
  have hin1 : ∀ w ∈ u_ws RX1 TX1 10, w ∈ wsX1_know := by decide +kernel
  obtain ⟨hmo, ⟨hac1, hac2⟩, hcf, hcl, hpath⟩ := id g
  have hK : va_K (dC, dI) vwCl [(t1, .int), (t2, .int), (t3, .byte), (t4, .byte), (t5, .byte), (t6, .byte), (t7, .int)] s := hK
  intro S H locs ls hv hP hD hS hl
  have hP : va_P (dC, dI) vwCl [(y, .inr (1, [.ref b1, .ref b2, .ref b3, .ref b4, .ref b5, .ref b6, .int (nI mo), .int (nI ac), .ref b7, .int kn])), (b1, .inl (t1, 2000, .inl T)), (b2, .inl (t2, 2000, .inl F)), (b3, .inl (t3, 6000, .inl I)), (b4, .inl (t4, 6000, .inl J)), (b5, .inl (t5, 3, .inl U)), (b6, .inl (t6, 3, .inl V)), (b7, .inl (t7, 2001, .inl S))] H := hP
  have hD : va_D A [(y, .inr (1, [.ref b1, .ref b2, .ref b3, .ref b4, .ref b5, .ref b6, .int (nI mo), .int (nI ac), .ref b7, .int kn])), (b1, .inl (t1, 2000, .inl T)), (b2, .inl (t2, 2000, .inl F)), (b3, .inl (t3, 6000, .inl I)), (b4, .inl (t4, 6000, .inl J)), (b5, .inl (t5, 3, .inl U)), (b6, .inl (t6, 3, .inl V)), (b7, .inl (t7, 2001, .inl S))] := hD
  refine lv_iload_n hx hb dX1_know_42 rfl (lv_at hl 1 rfl) ?_
  refine lv_if_eq (tgt := 146) hx hb dX1_know_43 (by decide) (fun c1 => ?_) (fun c1 => ?_)
  · exact absurd c1 (by decide)
  · refine lv_iconst (v := 0) hx hb dX1_know_46 (by decide) ?_
    refine lv_istore_n (lv' := [(1, .int 0), (0, .ref y)]) hx hb dX1_know_47 rfl hl (by decide) rfl (fun ls hl => ?_)
    refine lv_iconst (v := nI 0) hx hb dX1_know_48 (by decide) ?_
    refine lv_istore_n (lv' := [(2, .int (nI 0)), (1, .int 0), (0, .ref y)]) hx hb dX1_know_49 rfl hl (by decide) rfl (fun ls hl => ?_)
    refine lp_X1_k1 C1 hRf hRl g hM hK hA hsv (fun mr S H locs ls hm1 hm2 hv hP hD hS hl => ?_) (mo + 1) 0 0 S H locs ls (Nat.zero_le _) (by omega) (Or.inl rfl) (fun _ => rfl) (fun k q => by rw [show k = 0 by omega, hv 0 (by omega), sr_f]) (fun k q q2 => hv k q2) hP hD hS (lv_sub hl [2, 1, 0] rfl)
    have hP : va_P (dC, dI) vwCl [(y, .inr (1, [.ref b1, .ref b2, .ref b3, .ref b4, .ref b5, .ref b6, .int (nI mo), .int (nI ac), .ref b7, .int kn])), (b1, .inl (t1, 2000, .inl T)), (b2, .inl (t2, 2000, .inl F)), (b3, .inl (t3, 6000, .inl I)), (b4, .inl (t4, 6000, .inl J)), (b5, .inl (t5, 3, .inl U)), (b6, .inl (t6, 3, .inl V)), (b7, .inl (t7, 2001, .inl S))] H := hP
    have hD : va_D A [(y, .inr (1, [.ref b1, .ref b2, .ref b3, .ref b4, .ref b5, .ref b6, .int (nI mo), .int (nI ac), .ref b7, .int kn])), (b1, .inl (t1, 2000, .inl T)), (b2, .inl (t2, 2000, .inl F)), (b3, .inl (t3, 6000, .inl I)), (b4, .inl (t4, 6000, .inl J)), (b5, .inl (t5, 3, .inl U)), (b6, .inl (t6, 3, .inl V)), (b7, .inl (t7, 2001, .inl S))] := hD
    refine lv_aload_n hx hb dX1_know_95 rfl (lv_at hl 0 rfl) ?_
    refine va_get (D := (dC, dI)) (ci := 1) (v := .int (nI mo)) (C := RX1) (T := TX1) (N := 10) hx hb hts hin1 hown hK hP 0 rfl rfl 6 (by decide) (hts (.fieldLink RX1 46 "SpeedRowsModel" "moves" "I") (by decide +kernel)) (fun _ h9 => h9) rfl dX1_know_96 ?_
    refine lv_istore_n (lv' := [(2, .int (nI mo)), (0, .ref y), (1, .int mr)]) hx hb dX1_know_99 rfl hl (by decide) rfl (fun ls hl => ?_)
    refine lp_X1_k2 C1 hRf hRl g hM hK hA hsv (fun mr S H locs ls hm1 hm2 hv hP hD hS hl => ?_) mo mr S H locs ls (Nat.le_refl _) hm1 hm2 (fun k q => hv k (by omega)) (fun k q q2 => by rw [show k = mo by omega, hv mo (Nat.le_refl _), sr_s_n]) hP hD hS (lv_sub hl [1, 2, 0] rfl)
    refine lv_goto (tgt := 42) hx hb dX1_know_143 (by decide) ?_
    exact hk mr S H locs ls hm1 hm2 hv hP hD hS hl
set_option maxHeartbeats 4000000 in
set_option maxRecDepth 100000 in
theorem c_X1_know (l : Launch) (dC : Nat → ClassId) (dI : Nat → Nat → Nat) (y b1 b2 b3 b4 b5 b6 b7 : Nat) (t1 t2 t3 t4 t5 t6 t7 : ClassId) (sz : Nat) (mo ac : Nat) (kn : Int32) (T F I J U V S : Nat → Int32) (cf cl : Nat) (tk fd fs la : Nat → Nat) (g : sr_G mo ac cf cl tk fd fs la) (hM : sr_MI mo cf cl tk fd fs la T F I J U V) (hQ : sr_XS mo ac tk fd fs la kn S) : Met l yX1_know wsX1_know ({ frames := 2, cells := 0, slots := 0, locals := 49 }) (sr_pre dC dI (sr_tM t1 t2 t3 t4 t5 t6 t7) (sr_wM y b1 b2 b3 b4 b5 b6 b7 t1 t2 t3 t4 t5 t6 t7 mo ac kn T F I J U V S) sz [.ref y]) (va_Qv (fun (u : va_W) => ∃ S' : Nat → Int32, u = sr_wM y b1 b2 b3 b4 b5 b6 b7 t1 t2 t3 t4 t5 t6 t7 mo ac 1 T F I J U V S' ∧ ∀ k, k ≤ mo → S' k = nI (sr_sp mo ac tk fd fs la k)) (sr_at dC dI (sr_tM t1 t2 t3 t4 t5 t6 t7) (va_A (sr_wM y b1 b2 b3 b4 b5 b6 b7 t1 t2 t3 t4 t5 t6 t7 mo ac kn T F I J U V S) sz)) (va_A (sr_wM y b1 b2 b3 b4 b5 b6 b7 t1 t2 t3 t4 t5 t6 t7 mo ac kn T F I J U V S) sz)) 0 0 (va_A (sr_wM y b1 b2 b3 b4 b5 b6 b7 t1 t2 t3 t4 t5 t6 t7 mo ac kn T F I J U V S) sz) := by
  refine Met.ofW (cc := cX1_know) (maxL := 3) (ret := none) (by decide) rfl ?_
  intro p e s m args below meth c s₁ B hml hv
  obtain ⟨rfl, hsz, hP, hK, hD0⟩ := hv
  have hx := B.exec
  have hb := B.bytes
  have hr := B.returns
  have hts := atoms_spec (ws := wsX1_know) B.pre
  have hown : s.vm.findClass RX1 = some m.cls := findClass_of_methodNamed B.named
  have hlocks := B.notSynchronized
  subst hsz
  have hD := hD0.self (sz := s.heap.size)
  generalize hAe : va_A (sr_wM y b1 b2 b3 b4 b5 b6 b7 t1 t2 t3 t4 t5 t6 t7 mo ac kn T F I J U V S) s.heap.size = A at hD ⊢
  have hA : ∀ q : Nat, s.heap.size ≤ q → A q := fun q h => by rw [← hAe]; exact Or.inr h
  have hS : va_S A s.heap s.heap [] := va_S.rf
  have hP : va_P (dC, dI) vwCl [(y, .inr (1, [.ref b1, .ref b2, .ref b3, .ref b4, .ref b5, .ref b6, .int (nI mo), .int (nI ac), .ref b7, .int kn])), (b1, .inl (t1, 2000, .inl T)), (b2, .inl (t2, 2000, .inl F)), (b3, .inl (t3, 6000, .inl I)), (b4, .inl (t4, 6000, .inl J)), (b5, .inl (t5, 3, .inl U)), (b6, .inl (t6, 3, .inl V)), (b7, .inl (t7, 2001, .inl S))] s.heap := hP
  have hD : va_D A [(y, .inr (1, [.ref b1, .ref b2, .ref b3, .ref b4, .ref b5, .ref b6, .int (nI mo), .int (nI ac), .ref b7, .int kn])), (b1, .inl (t1, 2000, .inl T)), (b2, .inl (t2, 2000, .inl F)), (b3, .inl (t3, 6000, .inl I)), (b4, .inl (t4, 6000, .inl J)), (b5, .inl (t5, 3, .inl U)), (b6, .inl (t6, 3, .inl V)), (b7, .inl (t7, 2001, .inl S))] := hD
  have hK : va_K (dC, dI) vwCl [(t1, .int), (t2, .int), (t3, .byte), (t4, .byte), (t5, .byte), (t6, .byte), (t7, .int)] s := hK
  have hin1 : ∀ w ∈ u_ws RX1 TX1 10, w ∈ wsX1_know := by decide +kernel
  have hl := lv_entry ([.ref y]) (n := 3) (Nat.le_of_ble_eq_true rfl)
  rw [lg_entry_eq]
  generalize (lg_sl ([.ref y]) ++ List.replicate (3 - (lg_sl ([.ref y])).length) Slot.unset).toArray = ls at hl ⊢
  have hl : lv_has ls 3 [(0, .ref y)] := hl
  have hmo : mo ≤ 2000 := g.1
  refine lv_aload_n hx hb dX1_know_0 rfl (lv_at hl 0 rfl) ?_
  refine va_get (D := (dC, dI)) (ci := 1) (v := .int kn) (C := RX1) (T := TX1) (N := 10) hx hb hts hin1 hown hK hP 0 rfl rfl 9 (by decide) (hts (.fieldLink RX1 49 "SpeedRowsModel" "isKnown" "Z") (by decide +kernel)) (fun _ h9 => h9) rfl dX1_know_1 ?_
  refine lv_if_eq (tgt := 8) hx hb dX1_know_4 (by decide) (fun c1 => ?_) (fun c1 => ?_)
  · subst c1
    refine lv_aload_n hx hb dX1_know_8 rfl (lv_at hl 0 rfl) ?_
    refine lv_iconst (v := 1) hx hb dX1_know_9 (by decide) ?_
    refine va_put (D := (dC, dI)) (ci := 1) (v := .int 1) (ty := .boolean) (C := RX1) (T := TX1) (N := 10) hx hb hts hin1 tyX1 tyX1_ok nmX1 hown hK hP hD hS 0 rfl rfl 9 (by decide) (hts (.fieldLink RX1 49 "SpeedRowsModel" "isKnown" "Z") (by decide +kernel)) (fun _ h9 => h9) rfl (by decide +kernel) rfl rfl (Nat.le_of_ble_eq_true rfl) dX1_know_10 (fun H locs hP hD hS => ?_)
    have hP : va_P (dC, dI) vwCl [(y, .inr (1, [.ref b1, .ref b2, .ref b3, .ref b4, .ref b5, .ref b6, .int (nI mo), .int (nI ac), .ref b7, .int 1])), (b1, .inl (t1, 2000, .inl T)), (b2, .inl (t2, 2000, .inl F)), (b3, .inl (t3, 6000, .inl I)), (b4, .inl (t4, 6000, .inl J)), (b5, .inl (t5, 3, .inl U)), (b6, .inl (t6, 3, .inl V)), (b7, .inl (t7, 2001, .inl S))] H := hP
    have hD : va_D A [(y, .inr (1, [.ref b1, .ref b2, .ref b3, .ref b4, .ref b5, .ref b6, .int (nI mo), .int (nI ac), .ref b7, .int 1])), (b1, .inl (t1, 2000, .inl T)), (b2, .inl (t2, 2000, .inl F)), (b3, .inl (t3, 6000, .inl I)), (b4, .inl (t4, 6000, .inl J)), (b5, .inl (t5, 3, .inl U)), (b6, .inl (t6, 3, .inl V)), (b7, .inl (t7, 2001, .inl S))] := hD
    refine lv_iconst (v := nI 0) hx hb dX1_know_13 (by decide) ?_
    refine lv_istore_n (lv' := [(1, .int (nI 0)), (0, .ref y)]) hx hb dX1_know_14 rfl hl (by decide) rfl (fun ls hl => ?_)
    refine lp_X1_k0 ⟨hx, hb, hml, hown, hts⟩ (Nat.le_of_ble_eq_true rfl) (Nat.le_of_ble_eq_true rfl) g hM hK hA (fun S H locs ls hv hP hD hS hl => ?_) (mo + 2) 0 S H locs ls (Nat.zero_le _) (by omega) (fun k q => absurd q (Nat.not_lt_zero k)) hP hD hS (lv_sub hl [1, 0] rfl)
    have hP : va_P (dC, dI) vwCl [(y, .inr (1, [.ref b1, .ref b2, .ref b3, .ref b4, .ref b5, .ref b6, .int (nI mo), .int (nI ac), .ref b7, .int 1])), (b1, .inl (t1, 2000, .inl T)), (b2, .inl (t2, 2000, .inl F)), (b3, .inl (t3, 6000, .inl I)), (b4, .inl (t4, 6000, .inl J)), (b5, .inl (t5, 3, .inl U)), (b6, .inl (t6, 3, .inl V)), (b7, .inl (t7, 2001, .inl S))] H := hP
    have hD : va_D A [(y, .inr (1, [.ref b1, .ref b2, .ref b3, .ref b4, .ref b5, .ref b6, .int (nI mo), .int (nI ac), .ref b7, .int 1])), (b1, .inl (t1, 2000, .inl T)), (b2, .inl (t2, 2000, .inl F)), (b3, .inl (t3, 6000, .inl I)), (b4, .inl (t4, 6000, .inl J)), (b5, .inl (t5, 3, .inl U)), (b6, .inl (t6, 3, .inl V)), (b7, .inl (t7, 2001, .inl S))] := hD
    refine lv_iconst (v := 1) hx hb dX1_know_40 (by decide) ?_
    refine lv_istore_n (lv' := [(1, .int 1), (0, .ref y)]) hx hb dX1_know_41 rfl hl (by decide) rfl (fun ls hl => ?_)
    refine lp_X1_kb ⟨hx, hb, hml, hown, hts⟩ (Nat.le_of_ble_eq_true rfl) (Nat.le_of_ble_eq_true rfl) g hM hK hA (sv := sr_lim mo fd fs la) (fun k q => sr_lim_le g k) (fun mr S H locs ls hm1 hm2 hv hP hD hS hl => ?_) S H locs ls hv hP hD hS (lv_sub hl [1, 0] rfl)
    rcases hm1 with rfl | rfl
    · have hP : va_P (dC, dI) vwCl [(y, .inr (1, [.ref b1, .ref b2, .ref b3, .ref b4, .ref b5, .ref b6, .int (nI mo), .int (nI ac), .ref b7, .int 1])), (b1, .inl (t1, 2000, .inl T)), (b2, .inl (t2, 2000, .inl F)), (b3, .inl (t3, 6000, .inl I)), (b4, .inl (t4, 6000, .inl J)), (b5, .inl (t5, 3, .inl U)), (b6, .inl (t6, 3, .inl V)), (b7, .inl (t7, 2001, .inl S))] H := hP
      have hD : va_D A [(y, .inr (1, [.ref b1, .ref b2, .ref b3, .ref b4, .ref b5, .ref b6, .int (nI mo), .int (nI ac), .ref b7, .int 1])), (b1, .inl (t1, 2000, .inl T)), (b2, .inl (t2, 2000, .inl F)), (b3, .inl (t3, 6000, .inl I)), (b4, .inl (t4, 6000, .inl J)), (b5, .inl (t5, 3, .inl U)), (b6, .inl (t6, 3, .inl V)), (b7, .inl (t7, 2001, .inl S))] := hD
      refine lv_iload_n hx hb dX1_know_42 rfl (lv_at hl 1 rfl) ?_
      refine lv_if_eq (tgt := 146) hx hb dX1_know_43 (by decide) (fun c2 => ?_) (fun c2 => ?_)
      · exact W.vret hx hb hr (fun t ht hW => ⟨⟨_, rfl, ⟨S, rfl, hv⟩, by rw [ht]; exact hP, va_K.moved hW.alike hK, hD⟩, hS.F ht⟩) hS.2.2 dX1_know_146
      · exact absurd rfl c2
    · refine lp_X1_kb ⟨hx, hb, hml, hown, hts⟩ (Nat.le_of_ble_eq_true rfl) (Nat.le_of_ble_eq_true rfl) g hM hK hA (sv := sr_sp mo ac tk fd fs la) (fun k q => sr_sp_le g q) (fun mr S H locs ls hm1 hm3 hv2 hP hD hS hl => ?_) S H locs ls hv hP hD hS hl
      obtain rfl : mr = 0 := hm3 (sr_s_stable _ _ _ _)
      have hP : va_P (dC, dI) vwCl [(y, .inr (1, [.ref b1, .ref b2, .ref b3, .ref b4, .ref b5, .ref b6, .int (nI mo), .int (nI ac), .ref b7, .int 1])), (b1, .inl (t1, 2000, .inl T)), (b2, .inl (t2, 2000, .inl F)), (b3, .inl (t3, 6000, .inl I)), (b4, .inl (t4, 6000, .inl J)), (b5, .inl (t5, 3, .inl U)), (b6, .inl (t6, 3, .inl V)), (b7, .inl (t7, 2001, .inl S))] H := hP
      have hD : va_D A [(y, .inr (1, [.ref b1, .ref b2, .ref b3, .ref b4, .ref b5, .ref b6, .int (nI mo), .int (nI ac), .ref b7, .int 1])), (b1, .inl (t1, 2000, .inl T)), (b2, .inl (t2, 2000, .inl F)), (b3, .inl (t3, 6000, .inl I)), (b4, .inl (t4, 6000, .inl J)), (b5, .inl (t5, 3, .inl U)), (b6, .inl (t6, 3, .inl V)), (b7, .inl (t7, 2001, .inl S))] := hD
      refine lv_iload_n hx hb dX1_know_42 rfl (lv_at hl 1 rfl) ?_
      refine lv_if_eq (tgt := 146) hx hb dX1_know_43 (by decide) (fun c2 => ?_) (fun c2 => ?_)
      · exact W.vret hx hb hr (fun t ht hW => ⟨⟨_, rfl, ⟨S, rfl, fun k q => by rw [hv2 k q]; unfold sr_sp; rw [sr_s_twice _ _ _ q]⟩, by rw [ht]; exact hP, va_K.moved hW.alike hK, hD⟩, hS.F ht⟩) hS.2.2 dX1_know_146
      · exact absurd rfl c2
  · rcases hQ with q | ⟨q, hq⟩
    · exact absurd q c1
    · subst q
      exact W.vret hx hb hr (fun t ht hW => ⟨⟨_, rfl, ⟨S, rfl, hq⟩, by rw [ht]; exact hP, va_K.moved hW.alike hK, hD⟩, hS.F ht⟩) hS.2.2 dX1_know_7
end
section
/-! THE REFERENCE: back, acceleration, speed, sum, below. -/
set_option maxHeartbeats 4000000 in
set_option maxRecDepth 100000 in
theorem c_X1_back (l : Launch) (dC : Nat → ClassId) (dI : Nat → Nat → Nat) (y b1 b2 b3 b4 b5 b6 b7 : Nat) (t1 t2 t3 t4 t5 t6 t7 : ClassId) (sz : Nat) (mo ac : Nat) (kn : Int32) (T F I J U V S : Nat → Int32) (n : Int32) (hmo : mo ≤ 2000) : Met l yX1_back wsX1_back ({ frames := 0, cells := 0, slots := 0, locals := 0 }) (sr_pre dC dI (sr_tM t1 t2 t3 t4 t5 t6 t7) (sr_wM y b1 b2 b3 b4 b5 b6 b7 t1 t2 t3 t4 t5 t6 t7 mo ac kn T F I J U V S) sz [.ref y, .int n]) (va_Qi (fun (r : Int32) (u : va_W) => ((0 ≤ n ∧ n ≤ nI mo) ∧ r = nI (mo - n.toNatClampNeg) ∧ u = sr_wM y b1 b2 b3 b4 b5 b6 b7 t1 t2 t3 t4 t5 t6 t7 (mo - n.toNatClampNeg) ac 0 T F I J U V S) ∨ (¬ (0 ≤ n ∧ n ≤ nI mo) ∧ r = -1 ∧ u = sr_wM y b1 b2 b3 b4 b5 b6 b7 t1 t2 t3 t4 t5 t6 t7 mo ac kn T F I J U V S)) (sr_at dC dI (sr_tM t1 t2 t3 t4 t5 t6 t7) (va_A (sr_wM y b1 b2 b3 b4 b5 b6 b7 t1 t2 t3 t4 t5 t6 t7 mo ac kn T F I J U V S) sz)) (va_A (sr_wM y b1 b2 b3 b4 b5 b6 b7 t1 t2 t3 t4 t5 t6 t7 mo ac kn T F I J U V S) sz)) 0 0 (va_A (sr_wM y b1 b2 b3 b4 b5 b6 b7 t1 t2 t3 t4 t5 t6 t7 mo ac kn T F I J U V S) sz) := by
  refine Met.ofW (cc := cX1_back) (maxL := 2) (ret := (some .int)) (by decide) rfl ?_
  intro p e s m args below meth c s₁ B hml hv
  obtain ⟨rfl, hsz, hP, hK, hD0⟩ := hv
  have hx := B.exec
  have hb := B.bytes
  have hr := B.returns
  have hts := atoms_spec (ws := wsX1_back) B.pre
  have hown : s.vm.findClass RX1 = some m.cls := findClass_of_methodNamed B.named
  have hlocks := B.notSynchronized
  subst hsz
  have hD := hD0.self (sz := s.heap.size)
  generalize hAe : va_A (sr_wM y b1 b2 b3 b4 b5 b6 b7 t1 t2 t3 t4 t5 t6 t7 mo ac kn T F I J U V S) s.heap.size = A at hD ⊢
  have hA : ∀ q : Nat, s.heap.size ≤ q → A q := fun q h => by rw [← hAe]; exact Or.inr h
  have hS : va_S A s.heap s.heap [] := va_S.rf
  have hP : va_P (dC, dI) vwCl [(y, .inr (1, [.ref b1, .ref b2, .ref b3, .ref b4, .ref b5, .ref b6, .int (nI mo), .int (nI ac), .ref b7, .int kn])), (b1, .inl (t1, 2000, .inl T)), (b2, .inl (t2, 2000, .inl F)), (b3, .inl (t3, 6000, .inl I)), (b4, .inl (t4, 6000, .inl J)), (b5, .inl (t5, 3, .inl U)), (b6, .inl (t6, 3, .inl V)), (b7, .inl (t7, 2001, .inl S))] s.heap := hP
  have hD : va_D A [(y, .inr (1, [.ref b1, .ref b2, .ref b3, .ref b4, .ref b5, .ref b6, .int (nI mo), .int (nI ac), .ref b7, .int kn])), (b1, .inl (t1, 2000, .inl T)), (b2, .inl (t2, 2000, .inl F)), (b3, .inl (t3, 6000, .inl I)), (b4, .inl (t4, 6000, .inl J)), (b5, .inl (t5, 3, .inl U)), (b6, .inl (t6, 3, .inl V)), (b7, .inl (t7, 2001, .inl S))] := hD
  have hK : va_K (dC, dI) vwCl [(t1, .int), (t2, .int), (t3, .byte), (t4, .byte), (t5, .byte), (t6, .byte), (t7, .int)] s := hK
  have hin1 : ∀ w ∈ u_ws RX1 TX1 10, w ∈ wsX1_back := by decide +kernel
  have hl := lv_entry ([.ref y, .int n]) (n := 2) (Nat.le_of_ble_eq_true rfl)
  rw [lg_entry_eq]
  generalize (lg_sl ([.ref y, .int n]) ++ List.replicate (2 - (lg_sl ([.ref y, .int n])).length) Slot.unset).toArray = ls at hl ⊢
  have hl : lv_has ls 2 [(0, .ref y), (1, .int n)] := hl
  refine lv_iload_n hx hb dX1_back_0 rfl (lv_at hl 1 rfl) ?_
  refine lv_if_lt (tgt := 12) hx hb dX1_back_1 (by decide) (fun c1 => ?_) (fun c1 => ?_)
  · refine lv_iconst (v := (-1)) hx hb dX1_back_12 (by decide) ?_
    exact W.iret (v := (-1)) hx hb hr (fun t ht hW => ⟨⟨(-1), _, rfl, Or.inr ⟨fun q => absurd q.1 (Int32.not_le.mpr c1), rfl, rfl⟩, by rw [ht]; exact hP, va_K.moved hW.alike hK, hD⟩, hS.F ht⟩) hS.2.2 dX1_back_13
  · refine lv_iload_n hx hb dX1_back_4 rfl (lv_at hl 1 rfl) ?_
    refine lv_aload_n hx hb dX1_back_5 rfl (lv_at hl 0 rfl) ?_
    refine va_get (D := (dC, dI)) (ci := 1) (v := .int (nI mo)) (C := RX1) (T := TX1) (N := 10) hx hb hts hin1 hown hK hP 0 rfl rfl 6 (by decide) (hts (.fieldLink RX1 46 "SpeedRowsModel" "moves" "I") (by decide +kernel)) (fun _ h9 => h9) rfl dX1_back_6 ?_
    refine lv_icmp_le (tgt := 14) hx hb dX1_back_9 (by decide) (fun c2 => ?_) (fun c2 => ?_)
    · have hc : 0 ≤ n ∧ n ≤ nI mo := ⟨Int32.not_lt.mp c1, c2⟩
      obtain ⟨j, hj, rfl⟩ : ∃ j, j ≤ mo ∧ n = nI j := nI_of2 (nI_toInt (by omega)) c1 c2
      refine lv_aload_n hx hb dX1_back_14 rfl (lv_at hl 0 rfl) ?_
      refine lv_dup hx hb dX1_back_15 rfl ?_
      refine va_get (D := (dC, dI)) (ci := 1) (v := .int (nI mo)) (C := RX1) (T := TX1) (N := 10) hx hb hts hin1 hown hK hP 0 rfl rfl 6 (by decide) (hts (.fieldLink RX1 46 "SpeedRowsModel" "moves" "I") (by decide +kernel)) (fun _ h9 => h9) rfl dX1_back_16 ?_
      refine lv_iload_n hx hb dX1_back_19 rfl (lv_at hl 1 rfl) ?_
      refine lv_isub hx hb dX1_back_20 ?_
      refine sr_ti (y := nI (mo - j)) (pk_sub (by omega)) ?_
      refine va_put (D := (dC, dI)) (ci := 1) (v := .int (nI (mo - j))) (ty := .int) (C := RX1) (T := TX1) (N := 10) hx hb hts hin1 tyX1 tyX1_ok nmX1 hown hK hP hD hS 0 rfl rfl 6 (by decide) (hts (.fieldLink RX1 46 "SpeedRowsModel" "moves" "I") (by decide +kernel)) (fun _ h9 => h9) rfl (by decide +kernel) rfl rfl (Nat.le_of_ble_eq_true rfl) dX1_back_21 (fun H locs hP hD hS => ?_)
      have hP : va_P (dC, dI) vwCl [(y, .inr (1, [.ref b1, .ref b2, .ref b3, .ref b4, .ref b5, .ref b6, .int (nI (mo - j)), .int (nI ac), .ref b7, .int kn])), (b1, .inl (t1, 2000, .inl T)), (b2, .inl (t2, 2000, .inl F)), (b3, .inl (t3, 6000, .inl I)), (b4, .inl (t4, 6000, .inl J)), (b5, .inl (t5, 3, .inl U)), (b6, .inl (t6, 3, .inl V)), (b7, .inl (t7, 2001, .inl S))] H := hP
      have hD : va_D A [(y, .inr (1, [.ref b1, .ref b2, .ref b3, .ref b4, .ref b5, .ref b6, .int (nI (mo - j)), .int (nI ac), .ref b7, .int kn])), (b1, .inl (t1, 2000, .inl T)), (b2, .inl (t2, 2000, .inl F)), (b3, .inl (t3, 6000, .inl I)), (b4, .inl (t4, 6000, .inl J)), (b5, .inl (t5, 3, .inl U)), (b6, .inl (t6, 3, .inl V)), (b7, .inl (t7, 2001, .inl S))] := hD
      refine lv_aload_n hx hb dX1_back_24 rfl (lv_at hl 0 rfl) ?_
      refine lv_iconst (v := 0) hx hb dX1_back_25 (by decide) ?_
      refine va_put (D := (dC, dI)) (ci := 1) (v := .int 0) (ty := .boolean) (C := RX1) (T := TX1) (N := 10) hx hb hts hin1 tyX1 tyX1_ok nmX1 hown hK hP hD hS 0 rfl rfl 9 (by decide) (hts (.fieldLink RX1 49 "SpeedRowsModel" "isKnown" "Z") (by decide +kernel)) (fun _ h9 => h9) rfl (by decide +kernel) rfl rfl (Nat.le_of_ble_eq_true rfl) dX1_back_26 (fun H locs hP hD hS => ?_)
      have hP : va_P (dC, dI) vwCl [(y, .inr (1, [.ref b1, .ref b2, .ref b3, .ref b4, .ref b5, .ref b6, .int (nI (mo - j)), .int (nI ac), .ref b7, .int 0])), (b1, .inl (t1, 2000, .inl T)), (b2, .inl (t2, 2000, .inl F)), (b3, .inl (t3, 6000, .inl I)), (b4, .inl (t4, 6000, .inl J)), (b5, .inl (t5, 3, .inl U)), (b6, .inl (t6, 3, .inl V)), (b7, .inl (t7, 2001, .inl S))] H := hP
      have hD : va_D A [(y, .inr (1, [.ref b1, .ref b2, .ref b3, .ref b4, .ref b5, .ref b6, .int (nI (mo - j)), .int (nI ac), .ref b7, .int 0])), (b1, .inl (t1, 2000, .inl T)), (b2, .inl (t2, 2000, .inl F)), (b3, .inl (t3, 6000, .inl I)), (b4, .inl (t4, 6000, .inl J)), (b5, .inl (t5, 3, .inl U)), (b6, .inl (t6, 3, .inl V)), (b7, .inl (t7, 2001, .inl S))] := hD
      refine lv_aload_n hx hb dX1_back_29 rfl (lv_at hl 0 rfl) ?_
      refine va_get (D := (dC, dI)) (ci := 1) (v := .int (nI (mo - j))) (C := RX1) (T := TX1) (N := 10) hx hb hts hin1 hown hK hP 0 rfl rfl 6 (by decide) (hts (.fieldLink RX1 46 "SpeedRowsModel" "moves" "I") (by decide +kernel)) (fun _ h9 => h9) rfl dX1_back_30 ?_
      exact W.iret (v := nI (mo - j)) hx hb hr (fun t ht hW => ⟨⟨nI (mo - j), _, rfl, Or.inl ⟨hc, by rw [nI_clamp (by omega)], by rw [nI_clamp (by omega)]⟩, by rw [ht]; exact hP, va_K.moved hW.alike hK, hD⟩, hS.F ht⟩) hS.2.2 dX1_back_33
    · refine lv_iconst (v := (-1)) hx hb dX1_back_12 (by decide) ?_
      exact W.iret (v := (-1)) hx hb hr (fun t ht hW => ⟨⟨(-1), _, rfl, Or.inr ⟨fun q => c2 q.2, rfl, rfl⟩, by rw [ht]; exact hP, va_K.moved hW.alike hK, hD⟩, hS.F ht⟩) hS.2.2 dX1_back_13
set_option maxHeartbeats 4000000 in
set_option maxRecDepth 100000 in
theorem c_X1_acceleration (l : Launch) (dC : Nat → ClassId) (dI : Nat → Nat → Nat) (y b1 b2 b3 b4 b5 b6 b7 : Nat) (t1 t2 t3 t4 t5 t6 t7 : ClassId) (sz : Nat) (mo ac : Nat) (kn : Int32) (T F I J U V S : Nat → Int32) (a : Int32) : Met l yX1_acceleration wsX1_acceleration ({ frames := 0, cells := 0, slots := 0, locals := 0 }) (sr_pre dC dI (sr_tM t1 t2 t3 t4 t5 t6 t7) (sr_wM y b1 b2 b3 b4 b5 b6 b7 t1 t2 t3 t4 t5 t6 t7 mo ac kn T F I J U V S) sz [.ref y, .int a]) (va_Qi (fun (r : Int32) (u : va_W) => ((1 ≤ a ∧ a ≤ 10000) ∧ r = 1 ∧ u = sr_wM y b1 b2 b3 b4 b5 b6 b7 t1 t2 t3 t4 t5 t6 t7 mo a.toNatClampNeg 0 T F I J U V S) ∨ (¬ (1 ≤ a ∧ a ≤ 10000) ∧ r = 0 ∧ u = sr_wM y b1 b2 b3 b4 b5 b6 b7 t1 t2 t3 t4 t5 t6 t7 mo ac kn T F I J U V S)) (sr_at dC dI (sr_tM t1 t2 t3 t4 t5 t6 t7) (va_A (sr_wM y b1 b2 b3 b4 b5 b6 b7 t1 t2 t3 t4 t5 t6 t7 mo ac kn T F I J U V S) sz)) (va_A (sr_wM y b1 b2 b3 b4 b5 b6 b7 t1 t2 t3 t4 t5 t6 t7 mo ac kn T F I J U V S) sz)) 0 0 (va_A (sr_wM y b1 b2 b3 b4 b5 b6 b7 t1 t2 t3 t4 t5 t6 t7 mo ac kn T F I J U V S) sz) := by
  refine Met.ofW (cc := cX1_acceleration) (maxL := 2) (ret := (some .boolean)) (by decide) rfl ?_
  intro p e s m args below meth c s₁ B hml hv
  obtain ⟨rfl, hsz, hP, hK, hD0⟩ := hv
  have hx := B.exec
  have hb := B.bytes
  have hr := B.returns
  have hts := atoms_spec (ws := wsX1_acceleration) B.pre
  have hown : s.vm.findClass RX1 = some m.cls := findClass_of_methodNamed B.named
  have hlocks := B.notSynchronized
  subst hsz
  have hD := hD0.self (sz := s.heap.size)
  generalize hAe : va_A (sr_wM y b1 b2 b3 b4 b5 b6 b7 t1 t2 t3 t4 t5 t6 t7 mo ac kn T F I J U V S) s.heap.size = A at hD ⊢
  have hA : ∀ q : Nat, s.heap.size ≤ q → A q := fun q h => by rw [← hAe]; exact Or.inr h
  have hS : va_S A s.heap s.heap [] := va_S.rf
  have hP : va_P (dC, dI) vwCl [(y, .inr (1, [.ref b1, .ref b2, .ref b3, .ref b4, .ref b5, .ref b6, .int (nI mo), .int (nI ac), .ref b7, .int kn])), (b1, .inl (t1, 2000, .inl T)), (b2, .inl (t2, 2000, .inl F)), (b3, .inl (t3, 6000, .inl I)), (b4, .inl (t4, 6000, .inl J)), (b5, .inl (t5, 3, .inl U)), (b6, .inl (t6, 3, .inl V)), (b7, .inl (t7, 2001, .inl S))] s.heap := hP
  have hD : va_D A [(y, .inr (1, [.ref b1, .ref b2, .ref b3, .ref b4, .ref b5, .ref b6, .int (nI mo), .int (nI ac), .ref b7, .int kn])), (b1, .inl (t1, 2000, .inl T)), (b2, .inl (t2, 2000, .inl F)), (b3, .inl (t3, 6000, .inl I)), (b4, .inl (t4, 6000, .inl J)), (b5, .inl (t5, 3, .inl U)), (b6, .inl (t6, 3, .inl V)), (b7, .inl (t7, 2001, .inl S))] := hD
  have hK : va_K (dC, dI) vwCl [(t1, .int), (t2, .int), (t3, .byte), (t4, .byte), (t5, .byte), (t6, .byte), (t7, .int)] s := hK
  have hin1 : ∀ w ∈ u_ws RX1 TX1 10, w ∈ wsX1_acceleration := by decide +kernel
  have hl := lv_entry ([.ref y, .int a]) (n := 2) (Nat.le_of_ble_eq_true rfl)
  rw [lg_entry_eq]
  generalize (lg_sl ([.ref y, .int a]) ++ List.replicate (2 - (lg_sl ([.ref y, .int a])).length) Slot.unset).toArray = ls at hl ⊢
  have hl : lv_has ls 2 [(0, .ref y), (1, .int a)] := hl
  refine lv_iload_n hx hb dX1_acceleration_0 rfl (lv_at hl 1 rfl) ?_
  refine lv_iconst (v := 1) hx hb dX1_acceleration_1 (by decide) ?_
  refine lv_icmp_lt (tgt := 12) hx hb dX1_acceleration_2 (by decide) (fun c1 => ?_) (fun c1 => ?_)
  · refine lv_iconst (v := 0) hx hb dX1_acceleration_12 (by decide) ?_
    exact W.zret (v := 0) hx hb hr rfl (fun t ht hW => ⟨⟨0, _, rfl, Or.inr ⟨fun q => absurd q.1 (Int32.not_le.mpr c1), rfl, rfl⟩, by rw [ht]; exact hP, va_K.moved hW.alike hK, hD⟩, hS.F ht⟩) hS.2.2 dX1_acceleration_13
  · refine lv_iload_n hx hb dX1_acceleration_5 rfl (lv_at hl 1 rfl) ?_
    refine lv_sipush (v := 10000) hx hb dX1_acceleration_6 (by decide) ?_
    refine lv_icmp_le (tgt := 14) hx hb dX1_acceleration_9 (by decide) (fun c2 => ?_) (fun c2 => ?_)
    · have hc : 1 ≤ a ∧ a ≤ 10000 := ⟨Int32.not_lt.mp c1, c2⟩
      obtain ⟨j, hj, rfl⟩ : ∃ j, j ≤ 10000 ∧ a = nI j := nI_of2 (M := 10000) (by decide) (fun q => absurd (Int32.lt_of_lt_of_le q (by decide : (0 : Int32) ≤ 1)) (Int32.not_lt.mpr hc.1)) hc.2
      refine lv_aload_n hx hb dX1_acceleration_14 rfl (lv_at hl 0 rfl) ?_
      refine lv_iload_n hx hb dX1_acceleration_15 rfl (lv_at hl 1 rfl) ?_
      refine va_put (D := (dC, dI)) (ci := 1) (v := .int (nI j)) (ty := .int) (C := RX1) (T := TX1) (N := 10) hx hb hts hin1 tyX1 tyX1_ok nmX1 hown hK hP hD hS 0 rfl rfl 7 (by decide) (hts (.fieldLink RX1 29 "SpeedRowsModel" "most" "I") (by decide +kernel)) (fun _ h9 => h9) rfl (by decide +kernel) rfl rfl (Nat.le_of_ble_eq_true rfl) dX1_acceleration_16 (fun H locs hP hD hS => ?_)
      have hP : va_P (dC, dI) vwCl [(y, .inr (1, [.ref b1, .ref b2, .ref b3, .ref b4, .ref b5, .ref b6, .int (nI mo), .int (nI j), .ref b7, .int kn])), (b1, .inl (t1, 2000, .inl T)), (b2, .inl (t2, 2000, .inl F)), (b3, .inl (t3, 6000, .inl I)), (b4, .inl (t4, 6000, .inl J)), (b5, .inl (t5, 3, .inl U)), (b6, .inl (t6, 3, .inl V)), (b7, .inl (t7, 2001, .inl S))] H := hP
      have hD : va_D A [(y, .inr (1, [.ref b1, .ref b2, .ref b3, .ref b4, .ref b5, .ref b6, .int (nI mo), .int (nI j), .ref b7, .int kn])), (b1, .inl (t1, 2000, .inl T)), (b2, .inl (t2, 2000, .inl F)), (b3, .inl (t3, 6000, .inl I)), (b4, .inl (t4, 6000, .inl J)), (b5, .inl (t5, 3, .inl U)), (b6, .inl (t6, 3, .inl V)), (b7, .inl (t7, 2001, .inl S))] := hD
      refine lv_aload_n hx hb dX1_acceleration_19 rfl (lv_at hl 0 rfl) ?_
      refine lv_iconst (v := 0) hx hb dX1_acceleration_20 (by decide) ?_
      refine va_put (D := (dC, dI)) (ci := 1) (v := .int 0) (ty := .boolean) (C := RX1) (T := TX1) (N := 10) hx hb hts hin1 tyX1 tyX1_ok nmX1 hown hK hP hD hS 0 rfl rfl 9 (by decide) (hts (.fieldLink RX1 49 "SpeedRowsModel" "isKnown" "Z") (by decide +kernel)) (fun _ h9 => h9) rfl (by decide +kernel) rfl rfl (Nat.le_of_ble_eq_true rfl) dX1_acceleration_21 (fun H locs hP hD hS => ?_)
      have hP : va_P (dC, dI) vwCl [(y, .inr (1, [.ref b1, .ref b2, .ref b3, .ref b4, .ref b5, .ref b6, .int (nI mo), .int (nI j), .ref b7, .int 0])), (b1, .inl (t1, 2000, .inl T)), (b2, .inl (t2, 2000, .inl F)), (b3, .inl (t3, 6000, .inl I)), (b4, .inl (t4, 6000, .inl J)), (b5, .inl (t5, 3, .inl U)), (b6, .inl (t6, 3, .inl V)), (b7, .inl (t7, 2001, .inl S))] H := hP
      have hD : va_D A [(y, .inr (1, [.ref b1, .ref b2, .ref b3, .ref b4, .ref b5, .ref b6, .int (nI mo), .int (nI j), .ref b7, .int 0])), (b1, .inl (t1, 2000, .inl T)), (b2, .inl (t2, 2000, .inl F)), (b3, .inl (t3, 6000, .inl I)), (b4, .inl (t4, 6000, .inl J)), (b5, .inl (t5, 3, .inl U)), (b6, .inl (t6, 3, .inl V)), (b7, .inl (t7, 2001, .inl S))] := hD
      refine lv_iconst (v := 1) hx hb dX1_acceleration_24 (by decide) ?_
      exact W.zret (v := 1) hx hb hr rfl (fun t ht hW => ⟨⟨1, _, rfl, Or.inl ⟨hc, rfl, by rw [nI_clamp (by omega)]⟩, by rw [ht]; exact hP, va_K.moved hW.alike hK, hD⟩, hS.F ht⟩) hS.2.2 dX1_acceleration_25
    · refine lv_iconst (v := 0) hx hb dX1_acceleration_12 (by decide) ?_
      exact W.zret (v := 0) hx hb hr rfl (fun t ht hW => ⟨⟨0, _, rfl, Or.inr ⟨fun q => c2 q.2, rfl, rfl⟩, by rw [ht]; exact hP, va_K.moved hW.alike hK, hD⟩, hS.F ht⟩) hS.2.2 dX1_acceleration_13
set_option maxHeartbeats 4000000 in
set_option maxRecDepth 100000 in
theorem c_X1_speed (l : Launch) (dC : Nat → ClassId) (dI : Nat → Nat → Nat) (y b1 b2 b3 b4 b5 b6 b7 : Nat) (t1 t2 t3 t4 t5 t6 t7 : ClassId) (sz : Nat) (mo ac : Nat) (kn : Int32) (T F I J U V S : Nat → Int32) (k : Int32) (cf cl : Nat) (tk fd fs la : Nat → Nat) (g : sr_G mo ac cf cl tk fd fs la) (hM : sr_MI mo cf cl tk fd fs la T F I J U V) (hQ : sr_XS mo ac tk fd fs la kn S) : Met l yX1_speed wsX1_speed ({ frames := 3, cells := 0, slots := 0, locals := 71 }) (sr_pre dC dI (sr_tM t1 t2 t3 t4 t5 t6 t7) (sr_wM y b1 b2 b3 b4 b5 b6 b7 t1 t2 t3 t4 t5 t6 t7 mo ac kn T F I J U V S) sz [.ref y, .int k]) (va_Qi (fun (r : Int32) (u : va_W) => ∃ S' : Nat → Int32, u = sr_wM y b1 b2 b3 b4 b5 b6 b7 t1 t2 t3 t4 t5 t6 t7 mo ac 1 T F I J U V S' ∧ sr_XS mo ac tk fd fs la 1 S' ∧ r = sr_an mo (sr_sp mo ac tk fd fs la) k) (sr_at dC dI (sr_tM t1 t2 t3 t4 t5 t6 t7) (va_A (sr_wM y b1 b2 b3 b4 b5 b6 b7 t1 t2 t3 t4 t5 t6 t7 mo ac kn T F I J U V S) sz)) (va_A (sr_wM y b1 b2 b3 b4 b5 b6 b7 t1 t2 t3 t4 t5 t6 t7 mo ac kn T F I J U V S) sz)) 0 0 (va_A (sr_wM y b1 b2 b3 b4 b5 b6 b7 t1 t2 t3 t4 t5 t6 t7 mo ac kn T F I J U V S) sz) := by
  refine Met.ofW (cc := cX1_speed) (maxL := 2) (ret := (some .int)) (by decide) rfl ?_
  intro p e s m args below meth c s₁ B hml hv
  obtain ⟨rfl, hsz, hP, hK, hD0⟩ := hv
  have hx := B.exec
  have hb := B.bytes
  have hr := B.returns
  have hts := atoms_spec (ws := wsX1_speed) B.pre
  have hown : s.vm.findClass RX1 = some m.cls := findClass_of_methodNamed B.named
  have hlocks := B.notSynchronized
  subst hsz
  have hD := hD0.self (sz := s.heap.size)
  generalize hAe : va_A (sr_wM y b1 b2 b3 b4 b5 b6 b7 t1 t2 t3 t4 t5 t6 t7 mo ac kn T F I J U V S) s.heap.size = A at hD ⊢
  have hA : ∀ q : Nat, s.heap.size ≤ q → A q := fun q h => by rw [← hAe]; exact Or.inr h
  have hS : va_S A s.heap s.heap [] := va_S.rf
  have hP : va_P (dC, dI) vwCl [(y, .inr (1, [.ref b1, .ref b2, .ref b3, .ref b4, .ref b5, .ref b6, .int (nI mo), .int (nI ac), .ref b7, .int kn])), (b1, .inl (t1, 2000, .inl T)), (b2, .inl (t2, 2000, .inl F)), (b3, .inl (t3, 6000, .inl I)), (b4, .inl (t4, 6000, .inl J)), (b5, .inl (t5, 3, .inl U)), (b6, .inl (t6, 3, .inl V)), (b7, .inl (t7, 2001, .inl S))] s.heap := hP
  have hD : va_D A [(y, .inr (1, [.ref b1, .ref b2, .ref b3, .ref b4, .ref b5, .ref b6, .int (nI mo), .int (nI ac), .ref b7, .int kn])), (b1, .inl (t1, 2000, .inl T)), (b2, .inl (t2, 2000, .inl F)), (b3, .inl (t3, 6000, .inl I)), (b4, .inl (t4, 6000, .inl J)), (b5, .inl (t5, 3, .inl U)), (b6, .inl (t6, 3, .inl V)), (b7, .inl (t7, 2001, .inl S))] := hD
  have hK : va_K (dC, dI) vwCl [(t1, .int), (t2, .int), (t3, .byte), (t4, .byte), (t5, .byte), (t6, .byte), (t7, .int)] s := hK
  have hin1 : ∀ w ∈ u_ws RX1 TX1 10, w ∈ wsX1_speed := by decide +kernel
  have hl := lv_entry ([.ref y, .int k]) (n := 2) (Nat.le_of_ble_eq_true rfl)
  rw [lg_entry_eq]
  generalize (lg_sl ([.ref y, .int k]) ++ List.replicate (2 - (lg_sl ([.ref y, .int k])).length) Slot.unset).toArray = ls at hl ⊢
  have hl : lv_has ls 2 [(0, .ref y), (1, .int k)] := hl
  have hmo : mo ≤ 2000 := g.1
  refine lv_aload_n hx hb dX1_speed_0 rfl (lv_at hl 0 rfl) ?_
  have hPc := hP.sub (ws' := [(y, .inr (1, [.ref b1, .ref b2, .ref b3, .ref b4, .ref b5, .ref b6, .int (nI mo), .int (nI ac), .ref b7, .int kn])), (b1, .inl (t1, 2000, .inl T)), (b2, .inl (t2, 2000, .inl F)), (b3, .inl (t3, 6000, .inl I)), (b4, .inl (t4, 6000, .inl J)), (b5, .inl (t5, 3, .inl U)), (b6, .inl (t6, 3, .inl V)), (b7, .inl (t7, 2001, .inl S))]) [0, 1, 2, 3, 4, 5, 6, 7] rfl
  have hDc := hD.sub (ws' := [(y, .inr (1, [.ref b1, .ref b2, .ref b3, .ref b4, .ref b5, .ref b6, .int (nI mo), .int (nI ac), .ref b7, .int kn])), (b1, .inl (t1, 2000, .inl T)), (b2, .inl (t2, 2000, .inl F)), (b3, .inl (t3, 6000, .inl I)), (b4, .inl (t4, 6000, .inl J)), (b5, .inl (t5, 3, .inl U)), (b6, .inl (t6, 3, .inl V)), (b7, .inl (t7, 2001, .inl S))]) [0, 1, 2, 3, 4, 5, 6, 7] (by decide) rfl
  have hKc := hK.sub (tys' := [(t1, .int), (t2, .int), (t3, .byte), (t4, .byte), (t5, .byte), (t6, .byte), (t7, .int)]) [0, 1, 2, 3, 4, 5, 6] rfl
  have hFc := va_free (wc := [(y, .inr (1, [.ref b1, .ref b2, .ref b3, .ref b4, .ref b5, .ref b6, .int (nI mo), .int (nI ac), .ref b7, .int kn])), (b1, .inl (t1, 2000, .inl T)), (b2, .inl (t2, 2000, .inl F)), (b3, .inl (t3, 6000, .inl I)), (b4, .inl (t4, 6000, .inl J)), (b5, .inl (t5, 3, .inl U)), (b6, .inl (t6, 3, .inl V)), (b7, .inl (t7, 2001, .inl S))]) hD hS hA [0, 1, 2, 3, 4, 5, 6, 7] rfl
  refine va_callv (va_runV (As := []) (rest := []) ⟨hx, hb, hml, hown, hts⟩ (c_X1_know l dC dI y b1 b2 b3 b4 b5 b6 b7 t1 t2 t3 t4 t5 t6 t7 s.heap.size mo ac kn T F I J U V S cf cl tk fd fs la g hM hQ) (cwV 0 hts gX1_speed_X1_know rfl rfl rfl (by decide +kernel) ⟨Nat.le_of_ble_eq_true rfl, Nat.le_of_ble_eq_true rfl⟩) ⟨sr_blind, va_recv hKc hPc (ci := 1) (q0 := 0) rfl rfl, sr_mk hPc hKc hDc⟩ rfl rfl hl.1 rfl (lv_room (Nat.le_of_ble_eq_true rfl)) dX1_speed_1 ⟨Nat.zero_le _, Nat.zero_le _⟩) hS (fun q _ h => hFc q h) hFc (fun u t H1 locs ht hvm hw hB hz1 hk1 hS => ?_)
  obtain ⟨hP1, hK1, hD1⟩ := hB
  rw [ht] at hP1
  obtain ⟨S2, rfl, hS2⟩ := hw
  obtain ⟨hP, hD⟩ := va_join (wr := []) (w1 := [(y, .inr (1, [.ref b1, .ref b2, .ref b3, .ref b4, .ref b5, .ref b6, .int (nI mo), .int (nI ac), .ref b7, .int 1])), (b1, .inl (t1, 2000, .inl T)), (b2, .inl (t2, 2000, .inl F)), (b3, .inl (t3, 6000, .inl I)), (b4, .inl (t4, 6000, .inl J)), (b5, .inl (t5, 3, .inl U)), (b6, .inl (t6, 3, .inl V)), (b7, .inl (t7, 2001, .inl S2))]) hP hD [0, 1, 2, 3, 4, 5, 6, 7] [] rfl rfl (by decide) (by decide) hk1 hFc hP1 hD1
  generalize H1 = H at hP hS ⊢
  have hP : va_P (dC, dI) vwCl [(y, .inr (1, [.ref b1, .ref b2, .ref b3, .ref b4, .ref b5, .ref b6, .int (nI mo), .int (nI ac), .ref b7, .int 1])), (b1, .inl (t1, 2000, .inl T)), (b2, .inl (t2, 2000, .inl F)), (b3, .inl (t3, 6000, .inl I)), (b4, .inl (t4, 6000, .inl J)), (b5, .inl (t5, 3, .inl U)), (b6, .inl (t6, 3, .inl V)), (b7, .inl (t7, 2001, .inl S2))] H := hP
  have hD : va_D A [(y, .inr (1, [.ref b1, .ref b2, .ref b3, .ref b4, .ref b5, .ref b6, .int (nI mo), .int (nI ac), .ref b7, .int 1])), (b1, .inl (t1, 2000, .inl T)), (b2, .inl (t2, 2000, .inl F)), (b3, .inl (t3, 6000, .inl I)), (b4, .inl (t4, 6000, .inl J)), (b5, .inl (t5, 3, .inl U)), (b6, .inl (t6, 3, .inl V)), (b7, .inl (t7, 2001, .inl S2))] := hD
  refine lv_iload_n hx hb dX1_speed_4 rfl (lv_at hl 1 rfl) ?_
  refine lv_if_lt (tgt := 16) hx hb dX1_speed_5 (by decide) (fun c1 => ?_) (fun c1 => ?_)
  · refine lv_iconst (v := (-1)) hx hb dX1_speed_16 (by decide) ?_
    refine lv_goto (tgt := 26) hx hb dX1_speed_17 (by decide) ?_
    exact W.iret (v := (-1)) hx hb hr (fun t ht hW => ⟨⟨(-1), _, rfl, ⟨S2, rfl, Or.inr ⟨rfl, hS2⟩, by rw [sr_an, if_neg (fun q => absurd q.1 (Int32.not_le.mpr c1))]⟩, by rw [ht]; exact hP, va_K.moved hW.alike hK, hD⟩, hS.F ht⟩) hS.2.2 dX1_speed_26
  · refine lv_iload_n hx hb dX1_speed_8 rfl (lv_at hl 1 rfl) ?_
    refine lv_aload_n hx hb dX1_speed_9 rfl (lv_at hl 0 rfl) ?_
    refine va_get (D := (dC, dI)) (ci := 1) (v := .int (nI mo)) (C := RX1) (T := TX1) (N := 10) hx hb hts hin1 hown hK hP 0 rfl rfl 6 (by decide) (hts (.fieldLink RX1 46 "SpeedRowsModel" "moves" "I") (by decide +kernel)) (fun _ h9 => h9) rfl dX1_speed_10 ?_
    refine lv_icmp_le (tgt := 20) hx hb dX1_speed_13 (by decide) (fun c2 => ?_) (fun c2 => ?_)
    · have hc : 0 ≤ k ∧ k ≤ nI mo := ⟨Int32.not_lt.mp c1, c2⟩
      obtain ⟨j, hj, rfl⟩ : ∃ j, j ≤ mo ∧ k = nI j := nI_of2 (nI_toInt (by omega)) c1 c2
      refine lv_aload_n hx hb dX1_speed_20 rfl (lv_at hl 0 rfl) ?_
      refine va_get (D := (dC, dI)) (ci := 1) (v := .ref b7) (C := RX1) (T := TX1) (N := 10) hx hb hts hin1 hown hK hP 0 rfl rfl 8 (by decide) (hts (.fieldLink RX1 33 "SpeedRowsModel" "speeds" "[I") (by decide +kernel)) (fun _ h9 => h9) rfl dX1_speed_21 ?_
      refine lv_iload_n hx hb dX1_speed_24 rfl (lv_at hl 1 rfl) ?_
      refine sr_iald (v := nI (sr_sp mo ac tk fd fs la j)) hx hb hK hP 7 6 rfl rfl (by omega) (by decide) (hS2 j hj) dX1_speed_25 ?_
      exact W.iret (v := nI (sr_sp mo ac tk fd fs la j)) hx hb hr (fun t ht hW => ⟨⟨nI (sr_sp mo ac tk fd fs la j), _, rfl, ⟨S2, rfl, Or.inr ⟨rfl, hS2⟩, by rw [sr_an, if_pos hc, nI_clamp (by omega)]⟩, by rw [ht]; exact hP, va_K.moved hW.alike hK, hD⟩, hS.F ht⟩) hS.2.2 dX1_speed_26
    · refine lv_iconst (v := (-1)) hx hb dX1_speed_16 (by decide) ?_
      refine lv_goto (tgt := 26) hx hb dX1_speed_17 (by decide) ?_
      exact W.iret (v := (-1)) hx hb hr (fun t ht hW => ⟨⟨(-1), _, rfl, ⟨S2, rfl, Or.inr ⟨rfl, hS2⟩, by rw [sr_an, if_neg (fun q => c2 q.2)]⟩, by rw [ht]; exact hP, va_K.moved hW.alike hK, hD⟩, hS.F ht⟩) hS.2.2 dX1_speed_26
set_option maxHeartbeats 4000000 in
set_option maxRecDepth 100000 in
theorem lp_X1_sum {p : Program} {l : Launch} {e : Env} {R : Room} {s : State} {m : MethodId} {args : Array Value} {below : List Frame} {meth : Method} {c : Code} {Q : State → Prop} (C0 : CallFix p m c cX1_sum 4 s args wsX1_sum RX1) {dC : Nat → ClassId} {dI : Nat → Nat → Nat} {y b1 b2 b3 b4 b5 b6 b7 : Nat} {t1 t2 t3 t4 t5 t6 t7 : ClassId} {mo ac : Nat} {kn : Int32} {T F I J U V S : Nat → Int32} {sp : Nat → Nat} (hmo : mo ≤ 2000) (hsp : ∀ k, k ≤ mo → sp k ≤ 99999) (hS2 : ∀ k, k ≤ mo → S k = nI (sp k)) (hK : va_K (dC, dI) vwCl (sr_tM t1 t2 t3 t4 t5 t6 t7) s) {H : Heap} {locs : List Loc} (hP : va_P (dC, dI) vwCl (sr_wM y b1 b2 b3 b4 b5 b6 b7 t1 t2 t3 t4 t5 t6 t7 mo ac kn T F I J U V S) H)
    (hk : ∀ (ls : Array Slot), lv_has ls 4 [(1, .long (lN (sr_sum sp (mo + 1))))] → W p l e R s m args below meth c H locs 0 0 Q (F0 m 32 ls [])) :
    ∀ (n i : Nat) (ls : Array Slot), i ≤ mo + 1 → mo + 2 ≤ i + n → lv_has ls 4 [(0, .ref y), (1, .long (lN (sr_sum sp i))), (3, .int (nI i))] → W p l e R s m args below meth c H locs 0 0 Q (F0 m 8 ls []) := by
  obtain ⟨hx, hb, hml, hown, hts⟩ := C0
  have hin1 : ∀ w ∈ u_ws RX1 TX1 10, w ∈ wsX1_sum := by decide +kernel
  have hK : va_K (dC, dI) vwCl [(t1, .int), (t2, .int), (t3, .byte), (t4, .byte), (t5, .byte), (t6, .byte), (t7, .int)] s := hK
  have hP : va_P (dC, dI) vwCl [(y, .inr (1, [.ref b1, .ref b2, .ref b3, .ref b4, .ref b5, .ref b6, .int (nI mo), .int (nI ac), .ref b7, .int kn])), (b1, .inl (t1, 2000, .inl T)), (b2, .inl (t2, 2000, .inl F)), (b3, .inl (t3, 6000, .inl I)), (b4, .inl (t4, 6000, .inl J)), (b5, .inl (t5, 3, .inl U)), (b6, .inl (t6, 3, .inl V)), (b7, .inl (t7, 2001, .inl S))] H := hP
  intro n
  induction n with
  | zero =>
    intro i ls h1 h2
    exact absurd h2 (by omega)
  | succ n ih =>
    intro i ls h1 h2 hl
    refine lv_iload_n hx hb dX1_sum_8 rfl (lv_at hl 2 rfl) ?_
    refine lv_aload_n hx hb dX1_sum_9 rfl (lv_at hl 0 rfl) ?_
    refine va_get (D := (dC, dI)) (ci := 1) (v := .int (nI mo)) (C := RX1) (T := TX1) (N := 10) hx hb hts hin1 hown hK hP 0 rfl rfl 6 (by decide) (hts (.fieldLink RX1 46 "SpeedRowsModel" "moves" "I") (by decide +kernel)) (fun _ h9 => h9) rfl dX1_sum_10 ?_
    refine lv_icmp_gt (tgt := 32) hx hb dX1_sum_13 (by decide) (fun c1 => ?_) (fun c1 => ?_)
    · have e1 : mo < i := (nI_ltI (by omega) (by omega)).mp c1
      obtain rfl : i = mo + 1 := by omega
      exact hk ls (lv_sub hl [1] rfl)
    · have e1 : i ≤ mo := by
        rcases Nat.lt_or_ge mo i with q | q
        · exact absurd ((nI_ltI (by omega) (by omega)).mpr q) c1
        · exact q
      have e2 := hsp i e1
      refine lv_lload_n hx hb dX1_sum_16 rfl (lv_at hl 1 rfl) ?_
      refine lv_aload_n hx hb dX1_sum_17 rfl (lv_at hl 0 rfl) ?_
      refine va_get (D := (dC, dI)) (ci := 1) (v := .ref b7) (C := RX1) (T := TX1) (N := 10) hx hb hts hin1 hown hK hP 0 rfl rfl 8 (by decide) (hts (.fieldLink RX1 33 "SpeedRowsModel" "speeds" "[I") (by decide +kernel)) (fun _ h9 => h9) rfl dX1_sum_18 ?_
      refine lv_iload_n hx hb dX1_sum_21 rfl (lv_at hl 2 rfl) ?_
      refine sr_iald (v := nI (sp i)) hx hb hK hP 7 6 rfl rfl (by omega) (by decide) (hS2 i e1) dX1_sum_22 ?_
      refine lv_i2l (v := lN (sp i)) hx hb dX1_sum_23 (nI_l (by omega)) ?_
      refine lv_ladd hx hb dX1_sum_24 ?_
      refine sr_tl (y := lN ((sr_sum sp i) + (sp i))) (lN_add _ _) ?_
      refine lv_lstore_n (lv' := [(1, .long (lN ((sr_sum sp i) + (sp i)))), (0, .ref y), (3, .int (nI i))]) hx hb dX1_sum_25 rfl hl (by decide) rfl (fun ls hl => ?_)
      refine lv_iinc (v := nI (i + 1)) (lv' := [(3, .int (nI (i + 1))), (1, .long (lN ((sr_sum sp i) + (sp i)))), (0, .ref y)]) hx hb dX1_sum_26 hl (k := 2) rfl (nI_1 _) (by decide) rfl (fun ls hl => ?_)
      refine lv_goto (tgt := 8) hx hb dX1_sum_29 (by decide) ?_
      exact ih (i + 1) ls (by omega) (by omega) (lv_sub hl [2, 1, 0] rfl)
set_option maxHeartbeats 4000000 in
set_option maxRecDepth 100000 in
theorem c_X1_sum (l : Launch) (dC : Nat → ClassId) (dI : Nat → Nat → Nat) (y b1 b2 b3 b4 b5 b6 b7 : Nat) (t1 t2 t3 t4 t5 t6 t7 : ClassId) (sz : Nat) (mo ac : Nat) (kn : Int32) (T F I J U V S : Nat → Int32) (cf cl : Nat) (tk fd fs la : Nat → Nat) (g : sr_G mo ac cf cl tk fd fs la) (hM : sr_MI mo cf cl tk fd fs la T F I J U V) (hQ : sr_XS mo ac tk fd fs la kn S) : Met l yX1_sum wsX1_sum ({ frames := 3, cells := 0, slots := 0, locals := 71 }) (sr_pre dC dI (sr_tM t1 t2 t3 t4 t5 t6 t7) (sr_wM y b1 b2 b3 b4 b5 b6 b7 t1 t2 t3 t4 t5 t6 t7 mo ac kn T F I J U V S) sz [.ref y]) (va_Ql (fun (r : Int64) (u : va_W) => ∃ S' : Nat → Int32, u = sr_wM y b1 b2 b3 b4 b5 b6 b7 t1 t2 t3 t4 t5 t6 t7 mo ac 1 T F I J U V S' ∧ sr_XS mo ac tk fd fs la 1 S' ∧ r = lN (sr_sum (sr_sp mo ac tk fd fs la) (mo + 1))) (sr_at dC dI (sr_tM t1 t2 t3 t4 t5 t6 t7) (va_A (sr_wM y b1 b2 b3 b4 b5 b6 b7 t1 t2 t3 t4 t5 t6 t7 mo ac kn T F I J U V S) sz)) (va_A (sr_wM y b1 b2 b3 b4 b5 b6 b7 t1 t2 t3 t4 t5 t6 t7 mo ac kn T F I J U V S) sz)) 0 0 (va_A (sr_wM y b1 b2 b3 b4 b5 b6 b7 t1 t2 t3 t4 t5 t6 t7 mo ac kn T F I J U V S) sz) := by
  refine Met.ofW (cc := cX1_sum) (maxL := 4) (ret := (some .long)) (by decide) rfl ?_
  intro p e s m args below meth c s₁ B hml hv
  obtain ⟨rfl, hsz, hP, hK, hD0⟩ := hv
  have hx := B.exec
  have hb := B.bytes
  have hr := B.returns
  have hts := atoms_spec (ws := wsX1_sum) B.pre
  have hown : s.vm.findClass RX1 = some m.cls := findClass_of_methodNamed B.named
  have hlocks := B.notSynchronized
  subst hsz
  have hD := hD0.self (sz := s.heap.size)
  generalize hAe : va_A (sr_wM y b1 b2 b3 b4 b5 b6 b7 t1 t2 t3 t4 t5 t6 t7 mo ac kn T F I J U V S) s.heap.size = A at hD ⊢
  have hA : ∀ q : Nat, s.heap.size ≤ q → A q := fun q h => by rw [← hAe]; exact Or.inr h
  have hS : va_S A s.heap s.heap [] := va_S.rf
  have hP : va_P (dC, dI) vwCl [(y, .inr (1, [.ref b1, .ref b2, .ref b3, .ref b4, .ref b5, .ref b6, .int (nI mo), .int (nI ac), .ref b7, .int kn])), (b1, .inl (t1, 2000, .inl T)), (b2, .inl (t2, 2000, .inl F)), (b3, .inl (t3, 6000, .inl I)), (b4, .inl (t4, 6000, .inl J)), (b5, .inl (t5, 3, .inl U)), (b6, .inl (t6, 3, .inl V)), (b7, .inl (t7, 2001, .inl S))] s.heap := hP
  have hD : va_D A [(y, .inr (1, [.ref b1, .ref b2, .ref b3, .ref b4, .ref b5, .ref b6, .int (nI mo), .int (nI ac), .ref b7, .int kn])), (b1, .inl (t1, 2000, .inl T)), (b2, .inl (t2, 2000, .inl F)), (b3, .inl (t3, 6000, .inl I)), (b4, .inl (t4, 6000, .inl J)), (b5, .inl (t5, 3, .inl U)), (b6, .inl (t6, 3, .inl V)), (b7, .inl (t7, 2001, .inl S))] := hD
  have hK : va_K (dC, dI) vwCl [(t1, .int), (t2, .int), (t3, .byte), (t4, .byte), (t5, .byte), (t6, .byte), (t7, .int)] s := hK
  have hin1 : ∀ w ∈ u_ws RX1 TX1 10, w ∈ wsX1_sum := by decide +kernel
  have hl := lv_entry ([.ref y]) (n := 4) (Nat.le_of_ble_eq_true rfl)
  rw [lg_entry_eq]
  generalize (lg_sl ([.ref y]) ++ List.replicate (4 - (lg_sl ([.ref y])).length) Slot.unset).toArray = ls at hl ⊢
  have hl : lv_has ls 4 [(0, .ref y)] := hl
  have hmo : mo ≤ 2000 := g.1
  refine lv_aload_n hx hb dX1_sum_0 rfl (lv_at hl 0 rfl) ?_
  have hPc := hP.sub (ws' := [(y, .inr (1, [.ref b1, .ref b2, .ref b3, .ref b4, .ref b5, .ref b6, .int (nI mo), .int (nI ac), .ref b7, .int kn])), (b1, .inl (t1, 2000, .inl T)), (b2, .inl (t2, 2000, .inl F)), (b3, .inl (t3, 6000, .inl I)), (b4, .inl (t4, 6000, .inl J)), (b5, .inl (t5, 3, .inl U)), (b6, .inl (t6, 3, .inl V)), (b7, .inl (t7, 2001, .inl S))]) [0, 1, 2, 3, 4, 5, 6, 7] rfl
  have hDc := hD.sub (ws' := [(y, .inr (1, [.ref b1, .ref b2, .ref b3, .ref b4, .ref b5, .ref b6, .int (nI mo), .int (nI ac), .ref b7, .int kn])), (b1, .inl (t1, 2000, .inl T)), (b2, .inl (t2, 2000, .inl F)), (b3, .inl (t3, 6000, .inl I)), (b4, .inl (t4, 6000, .inl J)), (b5, .inl (t5, 3, .inl U)), (b6, .inl (t6, 3, .inl V)), (b7, .inl (t7, 2001, .inl S))]) [0, 1, 2, 3, 4, 5, 6, 7] (by decide) rfl
  have hKc := hK.sub (tys' := [(t1, .int), (t2, .int), (t3, .byte), (t4, .byte), (t5, .byte), (t6, .byte), (t7, .int)]) [0, 1, 2, 3, 4, 5, 6] rfl
  have hFc := va_free (wc := [(y, .inr (1, [.ref b1, .ref b2, .ref b3, .ref b4, .ref b5, .ref b6, .int (nI mo), .int (nI ac), .ref b7, .int kn])), (b1, .inl (t1, 2000, .inl T)), (b2, .inl (t2, 2000, .inl F)), (b3, .inl (t3, 6000, .inl I)), (b4, .inl (t4, 6000, .inl J)), (b5, .inl (t5, 3, .inl U)), (b6, .inl (t6, 3, .inl V)), (b7, .inl (t7, 2001, .inl S))]) hD hS hA [0, 1, 2, 3, 4, 5, 6, 7] rfl
  refine va_callv (va_runV (As := []) (rest := []) ⟨hx, hb, hml, hown, hts⟩ (c_X1_know l dC dI y b1 b2 b3 b4 b5 b6 b7 t1 t2 t3 t4 t5 t6 t7 s.heap.size mo ac kn T F I J U V S cf cl tk fd fs la g hM hQ) (cwV 0 hts gX1_sum_X1_know rfl rfl rfl (by decide +kernel) ⟨Nat.le_of_ble_eq_true rfl, Nat.le_of_ble_eq_true rfl⟩) ⟨sr_blind, va_recv hKc hPc (ci := 1) (q0 := 0) rfl rfl, sr_mk hPc hKc hDc⟩ rfl rfl hl.1 rfl (lv_room (Nat.le_of_ble_eq_true rfl)) dX1_sum_1 ⟨Nat.zero_le _, Nat.zero_le _⟩) hS (fun q _ h => hFc q h) hFc (fun u t H1 locs ht hvm hw hB hz1 hk1 hS => ?_)
  obtain ⟨hP1, hK1, hD1⟩ := hB
  rw [ht] at hP1
  obtain ⟨S2, rfl, hS2⟩ := hw
  obtain ⟨hP, hD⟩ := va_join (wr := []) (w1 := [(y, .inr (1, [.ref b1, .ref b2, .ref b3, .ref b4, .ref b5, .ref b6, .int (nI mo), .int (nI ac), .ref b7, .int 1])), (b1, .inl (t1, 2000, .inl T)), (b2, .inl (t2, 2000, .inl F)), (b3, .inl (t3, 6000, .inl I)), (b4, .inl (t4, 6000, .inl J)), (b5, .inl (t5, 3, .inl U)), (b6, .inl (t6, 3, .inl V)), (b7, .inl (t7, 2001, .inl S2))]) hP hD [0, 1, 2, 3, 4, 5, 6, 7] [] rfl rfl (by decide) (by decide) hk1 hFc hP1 hD1
  generalize H1 = H at hP hS ⊢
  have hP : va_P (dC, dI) vwCl [(y, .inr (1, [.ref b1, .ref b2, .ref b3, .ref b4, .ref b5, .ref b6, .int (nI mo), .int (nI ac), .ref b7, .int 1])), (b1, .inl (t1, 2000, .inl T)), (b2, .inl (t2, 2000, .inl F)), (b3, .inl (t3, 6000, .inl I)), (b4, .inl (t4, 6000, .inl J)), (b5, .inl (t5, 3, .inl U)), (b6, .inl (t6, 3, .inl V)), (b7, .inl (t7, 2001, .inl S2))] H := hP
  have hD : va_D A [(y, .inr (1, [.ref b1, .ref b2, .ref b3, .ref b4, .ref b5, .ref b6, .int (nI mo), .int (nI ac), .ref b7, .int 1])), (b1, .inl (t1, 2000, .inl T)), (b2, .inl (t2, 2000, .inl F)), (b3, .inl (t3, 6000, .inl I)), (b4, .inl (t4, 6000, .inl J)), (b5, .inl (t5, 3, .inl U)), (b6, .inl (t6, 3, .inl V)), (b7, .inl (t7, 2001, .inl S2))] := hD
  refine lv_lconst (v := lN 0) hx hb dX1_sum_4 (by decide) ?_
  refine lv_lstore_n (lv' := [(1, .long (lN 0)), (0, .ref y)]) hx hb dX1_sum_5 rfl hl (by decide) rfl (fun ls hl => ?_)
  refine lv_iconst (v := nI 0) hx hb dX1_sum_6 (by decide) ?_
  refine lv_istore_n (lv' := [(3, .int (nI 0)), (1, .long (lN 0)), (0, .ref y)]) hx hb dX1_sum_7 rfl hl (by decide) rfl (fun ls hl => ?_)
  refine lp_X1_sum ⟨hx, hb, hml, hown, hts⟩ (sp := sr_sp mo ac tk fd fs la) hmo (fun k q => sr_sp_le g q) hS2 hK hP (fun ls hl => ?_) (mo + 2) 0 ls (by omega) (by omega) (lv_sub hl [2, 1, 0] rfl)
  refine lv_lload_n hx hb dX1_sum_32 rfl (lv_at hl 0 rfl) ?_
  exact W.lret (v := lN (sr_sum (sr_sp mo ac tk fd fs la) (mo + 1))) hx hb hr (fun t ht hW => ⟨⟨lN (sr_sum (sr_sp mo ac tk fd fs la) (mo + 1)), _, rfl, ⟨S2, rfl, Or.inr ⟨rfl, hS2⟩, rfl⟩, by rw [ht]; exact hP, va_K.moved hW.alike hK, hD⟩, hS.F ht⟩) hS.2.2 dX1_sum_33
set_option maxHeartbeats 4000000 in
set_option maxRecDepth 100000 in
theorem lp_X1_below {p : Program} {l : Launch} {e : Env} {R : Room} {s : State} {m : MethodId} {args : Array Value} {below : List Frame} {meth : Method} {c : Code} {Q : State → Prop} (C0 : CallFix p m c cX1_below 3 s args wsX1_below RX1) {dC : Nat → ClassId} {dI : Nat → Nat → Nat} {y b1 b2 b3 b4 b5 b6 b7 : Nat} {t1 t2 t3 t4 t5 t6 t7 : ClassId} {mo ac : Nat} {kn : Int32} {T F I J U V S : Nat → Int32} {sp : Nat → Nat} (hmo : mo ≤ 2000) (hsp : ∀ k, k ≤ mo → sp k ≤ 99999) (hS2 : ∀ k, k ≤ mo → S k = nI (sp k)) (hK : va_K (dC, dI) vwCl (sr_tM t1 t2 t3 t4 t5 t6 t7) s) {A : Nat → Prop} {H0 : Heap} {cf cl : Nat} {tk fd fs la : Nat → Nat} (hRf : 2 ≤ R.frames) (hRl : 41 ≤ R.locals) (g : sr_G mo ac cf cl tk fd fs la) (hM : sr_MI mo cf cl tk fd fs la T F I J U V) (hA : ∀ q, H0.size ≤ q → A q)
    (hk : ∀ (H : Heap) (locs : List Loc) (ls : Array Slot), va_P (dC, dI) vwCl (sr_wM y b1 b2 b3 b4 b5 b6 b7 t1 t2 t3 t4 t5 t6 t7 mo ac kn T F I J U V S) H → va_D A (sr_wM y b1 b2 b3 b4 b5 b6 b7 t1 t2 t3 t4 t5 t6 t7 mo ac kn T F I J U V S) → va_S A H0 H locs → lv_has ls 3 [(1, .int (nI (sr_cnt sp (sr_lim mo fd fs la) (mo + 1))))] → W p l e R s m args below meth c H locs 0 0 Q (F0 m 39 ls [])) :
    ∀ (n i : Nat) (H : Heap) (locs : List Loc) (ls : Array Slot), i ≤ mo + 1 → mo + 2 ≤ i + n → va_P (dC, dI) vwCl (sr_wM y b1 b2 b3 b4 b5 b6 b7 t1 t2 t3 t4 t5 t6 t7 mo ac kn T F I J U V S) H → va_D A (sr_wM y b1 b2 b3 b4 b5 b6 b7 t1 t2 t3 t4 t5 t6 t7 mo ac kn T F I J U V S) → va_S A H0 H locs → lv_has ls 3 [(0, .ref y), (1, .int (nI (sr_cnt sp (sr_lim mo fd fs la) i))), (2, .int (nI i))] → W p l e R s m args below meth c H locs 0 0 Q (F0 m 8 ls []) := by
  obtain ⟨hx, hb, hml, hown, hts⟩ := C0
  have hin1 : ∀ w ∈ u_ws RX1 TX1 10, w ∈ wsX1_below := by decide +kernel
  have hK : va_K (dC, dI) vwCl [(t1, .int), (t2, .int), (t3, .byte), (t4, .byte), (t5, .byte), (t6, .byte), (t7, .int)] s := hK
  intro n
  induction n with
  | zero =>
    intro i H locs ls h1 h2
    exact absurd h2 (by omega)
  | succ n ih =>
    intro i H locs ls h1 h2 hP hD hS hl
    have hP : va_P (dC, dI) vwCl [(y, .inr (1, [.ref b1, .ref b2, .ref b3, .ref b4, .ref b5, .ref b6, .int (nI mo), .int (nI ac), .ref b7, .int kn])), (b1, .inl (t1, 2000, .inl T)), (b2, .inl (t2, 2000, .inl F)), (b3, .inl (t3, 6000, .inl I)), (b4, .inl (t4, 6000, .inl J)), (b5, .inl (t5, 3, .inl U)), (b6, .inl (t6, 3, .inl V)), (b7, .inl (t7, 2001, .inl S))] H := hP
    have hD : va_D A [(y, .inr (1, [.ref b1, .ref b2, .ref b3, .ref b4, .ref b5, .ref b6, .int (nI mo), .int (nI ac), .ref b7, .int kn])), (b1, .inl (t1, 2000, .inl T)), (b2, .inl (t2, 2000, .inl F)), (b3, .inl (t3, 6000, .inl I)), (b4, .inl (t4, 6000, .inl J)), (b5, .inl (t5, 3, .inl U)), (b6, .inl (t6, 3, .inl V)), (b7, .inl (t7, 2001, .inl S))] := hD
    refine lv_iload_n hx hb dX1_below_8 rfl (lv_at hl 2 rfl) ?_
    refine lv_aload_n hx hb dX1_below_9 rfl (lv_at hl 0 rfl) ?_
    refine va_get (D := (dC, dI)) (ci := 1) (v := .int (nI mo)) (C := RX1) (T := TX1) (N := 10) hx hb hts hin1 hown hK hP 0 rfl rfl 6 (by decide) (hts (.fieldLink RX1 46 "SpeedRowsModel" "moves" "I") (by decide +kernel)) (fun _ h9 => h9) rfl dX1_below_10 ?_
    refine lv_icmp_gt (tgt := 39) hx hb dX1_below_13 (by decide) (fun c1 => ?_) (fun c1 => ?_)
    · have e1 : mo < i := (nI_ltI (by omega) (by omega)).mp c1
      obtain rfl : i = mo + 1 := by omega
      exact hk H locs ls hP hD hS (lv_sub hl [1] rfl)
    · have e1 : i ≤ mo := by
        rcases Nat.lt_or_ge mo i with q | q
        · exact absurd ((nI_ltI (by omega) (by omega)).mpr q) c1
        · exact q
      have e2 := hsp i e1
      have e3 := sr_lim_le g i
      refine lv_aload_n hx hb dX1_below_16 rfl (lv_at hl 0 rfl) ?_
      refine va_get (D := (dC, dI)) (ci := 1) (v := .ref b7) (C := RX1) (T := TX1) (N := 10) hx hb hts hin1 hown hK hP 0 rfl rfl 8 (by decide) (hts (.fieldLink RX1 33 "SpeedRowsModel" "speeds" "[I") (by decide +kernel)) (fun _ h9 => h9) rfl dX1_below_17 ?_
      refine lv_iload_n hx hb dX1_below_20 rfl (lv_at hl 2 rfl) ?_
      refine sr_iald (v := nI (sp i)) hx hb hK hP 7 6 rfl rfl (by omega) (by decide) (hS2 i e1) dX1_below_21 ?_
      refine lv_aload_n hx hb dX1_below_22 rfl (lv_at hl 0 rfl) ?_
      refine lv_iload_n hx hb dX1_below_23 rfl (lv_at hl 2 rfl) ?_
      have hPc := hP.sub (ws' := [(y, .inr (1, [.ref b1, .ref b2, .ref b3, .ref b4, .ref b5, .ref b6, .int (nI mo), .int (nI ac), .ref b7, .int kn])), (b1, .inl (t1, 2000, .inl T)), (b2, .inl (t2, 2000, .inl F)), (b3, .inl (t3, 6000, .inl I)), (b4, .inl (t4, 6000, .inl J)), (b5, .inl (t5, 3, .inl U)), (b6, .inl (t6, 3, .inl V)), (b7, .inl (t7, 2001, .inl S))]) [0, 1, 2, 3, 4, 5, 6, 7] rfl
      have hDc := hD.sub (ws' := [(y, .inr (1, [.ref b1, .ref b2, .ref b3, .ref b4, .ref b5, .ref b6, .int (nI mo), .int (nI ac), .ref b7, .int kn])), (b1, .inl (t1, 2000, .inl T)), (b2, .inl (t2, 2000, .inl F)), (b3, .inl (t3, 6000, .inl I)), (b4, .inl (t4, 6000, .inl J)), (b5, .inl (t5, 3, .inl U)), (b6, .inl (t6, 3, .inl V)), (b7, .inl (t7, 2001, .inl S))]) [0, 1, 2, 3, 4, 5, 6, 7] (by decide) rfl
      have hKc := hK.sub (tys' := [(t1, .int), (t2, .int), (t3, .byte), (t4, .byte), (t5, .byte), (t6, .byte), (t7, .int)]) [0, 1, 2, 3, 4, 5, 6] rfl
      have hFc := va_free (wc := [(y, .inr (1, [.ref b1, .ref b2, .ref b3, .ref b4, .ref b5, .ref b6, .int (nI mo), .int (nI ac), .ref b7, .int kn])), (b1, .inl (t1, 2000, .inl T)), (b2, .inl (t2, 2000, .inl F)), (b3, .inl (t3, 6000, .inl I)), (b4, .inl (t4, 6000, .inl J)), (b5, .inl (t5, 3, .inl U)), (b6, .inl (t6, 3, .inl V)), (b7, .inl (t7, 2001, .inl S))]) hD hS hA [0, 1, 2, 3, 4, 5, 6, 7] rfl
      refine va_calli (va_runV (As := [.int (nI i)]) (rest := [.int (nI (sp i))]) ⟨hx, hb, hml, hown, hts⟩ (c_X1_limit l dC dI y b1 b2 b3 b4 b5 b6 b7 t1 t2 t3 t4 t5 t6 t7 H.size mo ac kn T F I J U V S (nI i) cf cl tk fd fs la g hM) (cwV 1 hts gX1_below_X1_limit rfl rfl rfl (by decide +kernel) ⟨Nat.le_trans (show _ ≤ 2 from Nat.le_of_ble_eq_true rfl) hRf, Nat.le_trans (show _ ≤ 41 from Nat.le_of_ble_eq_true rfl) hRl⟩) ⟨sr_blind, va_recv hKc hPc (ci := 1) (q0 := 0) rfl rfl, sr_mk hPc hKc hDc⟩ rfl rfl hl.1 rfl (lv_room (Nat.le_of_ble_eq_true rfl)) dX1_below_24 ⟨Nat.zero_le _, Nat.zero_le _⟩) hS (fun q _ h => hFc q h) hFc (fun r1 u t H1 locs ht hvm hw hB hz1 hk1 hS => ?_)
      obtain ⟨hP1, hK1, hD1⟩ := hB
      rw [ht] at hP1
      obtain ⟨rfl, er⟩ := hw
      obtain ⟨hP, hD⟩ := va_join (wr := []) (w1 := [(y, .inr (1, [.ref b1, .ref b2, .ref b3, .ref b4, .ref b5, .ref b6, .int (nI mo), .int (nI ac), .ref b7, .int kn])), (b1, .inl (t1, 2000, .inl T)), (b2, .inl (t2, 2000, .inl F)), (b3, .inl (t3, 6000, .inl I)), (b4, .inl (t4, 6000, .inl J)), (b5, .inl (t5, 3, .inl U)), (b6, .inl (t6, 3, .inl V)), (b7, .inl (t7, 2001, .inl S))]) hP hD [0, 1, 2, 3, 4, 5, 6, 7] [] rfl rfl (by decide) (by decide) hk1 hFc hP1 hD1
      generalize H1 = H at hP hS ⊢
      have hP : va_P (dC, dI) vwCl [(y, .inr (1, [.ref b1, .ref b2, .ref b3, .ref b4, .ref b5, .ref b6, .int (nI mo), .int (nI ac), .ref b7, .int kn])), (b1, .inl (t1, 2000, .inl T)), (b2, .inl (t2, 2000, .inl F)), (b3, .inl (t3, 6000, .inl I)), (b4, .inl (t4, 6000, .inl J)), (b5, .inl (t5, 3, .inl U)), (b6, .inl (t6, 3, .inl V)), (b7, .inl (t7, 2001, .inl S))] H := hP
      have hD : va_D A [(y, .inr (1, [.ref b1, .ref b2, .ref b3, .ref b4, .ref b5, .ref b6, .int (nI mo), .int (nI ac), .ref b7, .int kn])), (b1, .inl (t1, 2000, .inl T)), (b2, .inl (t2, 2000, .inl F)), (b3, .inl (t3, 6000, .inl I)), (b4, .inl (t4, 6000, .inl J)), (b5, .inl (t5, 3, .inl U)), (b6, .inl (t6, 3, .inl V)), (b7, .inl (t7, 2001, .inl S))] := hD
      refine sr_ti (y := nI (sr_lim mo fd fs la i)) (by rw [er, sr_an, if_pos ⟨nI_pos' (by omega), nI_le e1 (by omega)⟩, nI_clamp (by omega)]) ?_
      refine lv_icmp_ge (tgt := 33) hx hb dX1_below_27 (by decide) (fun c2 => ?_) (fun c2 => ?_)
      · have e4 : ¬ sp i < sr_lim mo fd fs la i := fun q => absurd c2 (nI_ge q (by omega))
        have e5 : sr_cnt sp (sr_lim mo fd fs la) (i + 1) = sr_cnt sp (sr_lim mo fd fs la) i := by rw [sr_cnt, if_neg e4]; rfl
        refine lv_iinc (v := nI (i + 1)) (lv' := [(2, .int (nI (i + 1))), (0, .ref y), (1, .int (nI (sr_cnt sp (sr_lim mo fd fs la) i)))]) hx hb dX1_below_33 hl (k := 2) rfl (nI_1 _) (by decide) rfl (fun ls hl => ?_)
        refine lv_goto (tgt := 8) hx hb dX1_below_36 (by decide) ?_
        exact ih (i + 1) H locs ls (by omega) (by omega) hP hD hS (by rw [e5]; exact lv_sub hl [1, 2, 0] rfl)
      · have e4 : sp i < sr_lim mo fd fs la i := Nat.lt_of_not_le (fun q => c2 (nI_le q (by omega)))
        have e5 : sr_cnt sp (sr_lim mo fd fs la) (i + 1) = sr_cnt sp (sr_lim mo fd fs la) i + 1 := by rw [sr_cnt, if_pos e4]
        refine lv_iinc (v := nI ((sr_cnt sp (sr_lim mo fd fs la) i) + 1)) (lv' := [(1, .int (nI ((sr_cnt sp (sr_lim mo fd fs la) i) + 1))), (0, .ref y), (2, .int (nI i))]) hx hb dX1_below_30 hl (k := 1) rfl (nI_1 _) (by decide) rfl (fun ls hl => ?_)
        refine lv_iinc (v := nI (i + 1)) (lv' := [(2, .int (nI (i + 1))), (1, .int (nI ((sr_cnt sp (sr_lim mo fd fs la) i) + 1))), (0, .ref y)]) hx hb dX1_below_33 hl (k := 2) rfl (nI_1 _) (by decide) rfl (fun ls hl => ?_)
        refine lv_goto (tgt := 8) hx hb dX1_below_36 (by decide) ?_
        exact ih (i + 1) H locs ls (by omega) (by omega) hP hD hS (by rw [e5]; exact lv_sub hl [2, 1, 0] rfl)
set_option maxHeartbeats 4000000 in
set_option maxRecDepth 100000 in
theorem c_X1_below (l : Launch) (dC : Nat → ClassId) (dI : Nat → Nat → Nat) (y b1 b2 b3 b4 b5 b6 b7 : Nat) (t1 t2 t3 t4 t5 t6 t7 : ClassId) (sz : Nat) (mo ac : Nat) (kn : Int32) (T F I J U V S : Nat → Int32) (cf cl : Nat) (tk fd fs la : Nat → Nat) (g : sr_G mo ac cf cl tk fd fs la) (hM : sr_MI mo cf cl tk fd fs la T F I J U V) (hQ : sr_XS mo ac tk fd fs la kn S) : Met l yX1_below wsX1_below ({ frames := 3, cells := 0, slots := 0, locals := 71 }) (sr_pre dC dI (sr_tM t1 t2 t3 t4 t5 t6 t7) (sr_wM y b1 b2 b3 b4 b5 b6 b7 t1 t2 t3 t4 t5 t6 t7 mo ac kn T F I J U V S) sz [.ref y]) (va_Qi (fun (r : Int32) (u : va_W) => ∃ S' : Nat → Int32, u = sr_wM y b1 b2 b3 b4 b5 b6 b7 t1 t2 t3 t4 t5 t6 t7 mo ac 1 T F I J U V S' ∧ sr_XS mo ac tk fd fs la 1 S' ∧ r = nI (sr_cnt (sr_sp mo ac tk fd fs la) (sr_lim mo fd fs la) (mo + 1))) (sr_at dC dI (sr_tM t1 t2 t3 t4 t5 t6 t7) (va_A (sr_wM y b1 b2 b3 b4 b5 b6 b7 t1 t2 t3 t4 t5 t6 t7 mo ac kn T F I J U V S) sz)) (va_A (sr_wM y b1 b2 b3 b4 b5 b6 b7 t1 t2 t3 t4 t5 t6 t7 mo ac kn T F I J U V S) sz)) 0 0 (va_A (sr_wM y b1 b2 b3 b4 b5 b6 b7 t1 t2 t3 t4 t5 t6 t7 mo ac kn T F I J U V S) sz) := by
  refine Met.ofW (cc := cX1_below) (maxL := 3) (ret := (some .int)) (by decide) rfl ?_
  intro p e s m args below meth c s₁ B hml hv
  obtain ⟨rfl, hsz, hP, hK, hD0⟩ := hv
  have hx := B.exec
  have hb := B.bytes
  have hr := B.returns
  have hts := atoms_spec (ws := wsX1_below) B.pre
  have hown : s.vm.findClass RX1 = some m.cls := findClass_of_methodNamed B.named
  have hlocks := B.notSynchronized
  subst hsz
  have hD := hD0.self (sz := s.heap.size)
  generalize hAe : va_A (sr_wM y b1 b2 b3 b4 b5 b6 b7 t1 t2 t3 t4 t5 t6 t7 mo ac kn T F I J U V S) s.heap.size = A at hD ⊢
  have hA : ∀ q : Nat, s.heap.size ≤ q → A q := fun q h => by rw [← hAe]; exact Or.inr h
  have hS : va_S A s.heap s.heap [] := va_S.rf
  have hP : va_P (dC, dI) vwCl [(y, .inr (1, [.ref b1, .ref b2, .ref b3, .ref b4, .ref b5, .ref b6, .int (nI mo), .int (nI ac), .ref b7, .int kn])), (b1, .inl (t1, 2000, .inl T)), (b2, .inl (t2, 2000, .inl F)), (b3, .inl (t3, 6000, .inl I)), (b4, .inl (t4, 6000, .inl J)), (b5, .inl (t5, 3, .inl U)), (b6, .inl (t6, 3, .inl V)), (b7, .inl (t7, 2001, .inl S))] s.heap := hP
  have hD : va_D A [(y, .inr (1, [.ref b1, .ref b2, .ref b3, .ref b4, .ref b5, .ref b6, .int (nI mo), .int (nI ac), .ref b7, .int kn])), (b1, .inl (t1, 2000, .inl T)), (b2, .inl (t2, 2000, .inl F)), (b3, .inl (t3, 6000, .inl I)), (b4, .inl (t4, 6000, .inl J)), (b5, .inl (t5, 3, .inl U)), (b6, .inl (t6, 3, .inl V)), (b7, .inl (t7, 2001, .inl S))] := hD
  have hK : va_K (dC, dI) vwCl [(t1, .int), (t2, .int), (t3, .byte), (t4, .byte), (t5, .byte), (t6, .byte), (t7, .int)] s := hK
  have hin1 : ∀ w ∈ u_ws RX1 TX1 10, w ∈ wsX1_below := by decide +kernel
  have hl := lv_entry ([.ref y]) (n := 3) (Nat.le_of_ble_eq_true rfl)
  rw [lg_entry_eq]
  generalize (lg_sl ([.ref y]) ++ List.replicate (3 - (lg_sl ([.ref y])).length) Slot.unset).toArray = ls at hl ⊢
  have hl : lv_has ls 3 [(0, .ref y)] := hl
  have hmo : mo ≤ 2000 := g.1
  refine lv_aload_n hx hb dX1_below_0 rfl (lv_at hl 0 rfl) ?_
  have hPc := hP.sub (ws' := [(y, .inr (1, [.ref b1, .ref b2, .ref b3, .ref b4, .ref b5, .ref b6, .int (nI mo), .int (nI ac), .ref b7, .int kn])), (b1, .inl (t1, 2000, .inl T)), (b2, .inl (t2, 2000, .inl F)), (b3, .inl (t3, 6000, .inl I)), (b4, .inl (t4, 6000, .inl J)), (b5, .inl (t5, 3, .inl U)), (b6, .inl (t6, 3, .inl V)), (b7, .inl (t7, 2001, .inl S))]) [0, 1, 2, 3, 4, 5, 6, 7] rfl
  have hDc := hD.sub (ws' := [(y, .inr (1, [.ref b1, .ref b2, .ref b3, .ref b4, .ref b5, .ref b6, .int (nI mo), .int (nI ac), .ref b7, .int kn])), (b1, .inl (t1, 2000, .inl T)), (b2, .inl (t2, 2000, .inl F)), (b3, .inl (t3, 6000, .inl I)), (b4, .inl (t4, 6000, .inl J)), (b5, .inl (t5, 3, .inl U)), (b6, .inl (t6, 3, .inl V)), (b7, .inl (t7, 2001, .inl S))]) [0, 1, 2, 3, 4, 5, 6, 7] (by decide) rfl
  have hKc := hK.sub (tys' := [(t1, .int), (t2, .int), (t3, .byte), (t4, .byte), (t5, .byte), (t6, .byte), (t7, .int)]) [0, 1, 2, 3, 4, 5, 6] rfl
  have hFc := va_free (wc := [(y, .inr (1, [.ref b1, .ref b2, .ref b3, .ref b4, .ref b5, .ref b6, .int (nI mo), .int (nI ac), .ref b7, .int kn])), (b1, .inl (t1, 2000, .inl T)), (b2, .inl (t2, 2000, .inl F)), (b3, .inl (t3, 6000, .inl I)), (b4, .inl (t4, 6000, .inl J)), (b5, .inl (t5, 3, .inl U)), (b6, .inl (t6, 3, .inl V)), (b7, .inl (t7, 2001, .inl S))]) hD hS hA [0, 1, 2, 3, 4, 5, 6, 7] rfl
  refine va_callv (va_runV (As := []) (rest := []) ⟨hx, hb, hml, hown, hts⟩ (c_X1_know l dC dI y b1 b2 b3 b4 b5 b6 b7 t1 t2 t3 t4 t5 t6 t7 s.heap.size mo ac kn T F I J U V S cf cl tk fd fs la g hM hQ) (cwV 0 hts gX1_below_X1_know rfl rfl rfl (by decide +kernel) ⟨Nat.le_of_ble_eq_true rfl, Nat.le_of_ble_eq_true rfl⟩) ⟨sr_blind, va_recv hKc hPc (ci := 1) (q0 := 0) rfl rfl, sr_mk hPc hKc hDc⟩ rfl rfl hl.1 rfl (lv_room (Nat.le_of_ble_eq_true rfl)) dX1_below_1 ⟨Nat.zero_le _, Nat.zero_le _⟩) hS (fun q _ h => hFc q h) hFc (fun u t H1 locs ht hvm hw hB hz1 hk1 hS => ?_)
  obtain ⟨hP1, hK1, hD1⟩ := hB
  rw [ht] at hP1
  obtain ⟨S2, rfl, hS2⟩ := hw
  obtain ⟨hP, hD⟩ := va_join (wr := []) (w1 := [(y, .inr (1, [.ref b1, .ref b2, .ref b3, .ref b4, .ref b5, .ref b6, .int (nI mo), .int (nI ac), .ref b7, .int 1])), (b1, .inl (t1, 2000, .inl T)), (b2, .inl (t2, 2000, .inl F)), (b3, .inl (t3, 6000, .inl I)), (b4, .inl (t4, 6000, .inl J)), (b5, .inl (t5, 3, .inl U)), (b6, .inl (t6, 3, .inl V)), (b7, .inl (t7, 2001, .inl S2))]) hP hD [0, 1, 2, 3, 4, 5, 6, 7] [] rfl rfl (by decide) (by decide) hk1 hFc hP1 hD1
  generalize H1 = H at hP hS ⊢
  have hP : va_P (dC, dI) vwCl [(y, .inr (1, [.ref b1, .ref b2, .ref b3, .ref b4, .ref b5, .ref b6, .int (nI mo), .int (nI ac), .ref b7, .int 1])), (b1, .inl (t1, 2000, .inl T)), (b2, .inl (t2, 2000, .inl F)), (b3, .inl (t3, 6000, .inl I)), (b4, .inl (t4, 6000, .inl J)), (b5, .inl (t5, 3, .inl U)), (b6, .inl (t6, 3, .inl V)), (b7, .inl (t7, 2001, .inl S2))] H := hP
  have hD : va_D A [(y, .inr (1, [.ref b1, .ref b2, .ref b3, .ref b4, .ref b5, .ref b6, .int (nI mo), .int (nI ac), .ref b7, .int 1])), (b1, .inl (t1, 2000, .inl T)), (b2, .inl (t2, 2000, .inl F)), (b3, .inl (t3, 6000, .inl I)), (b4, .inl (t4, 6000, .inl J)), (b5, .inl (t5, 3, .inl U)), (b6, .inl (t6, 3, .inl V)), (b7, .inl (t7, 2001, .inl S2))] := hD
  refine lv_iconst (v := nI 0) hx hb dX1_below_4 (by decide) ?_
  refine lv_istore_n (lv' := [(1, .int (nI 0)), (0, .ref y)]) hx hb dX1_below_5 rfl hl (by decide) rfl (fun ls hl => ?_)
  refine lv_iconst (v := nI 0) hx hb dX1_below_6 (by decide) ?_
  refine lv_istore_n (lv' := [(2, .int (nI 0)), (1, .int (nI 0)), (0, .ref y)]) hx hb dX1_below_7 rfl hl (by decide) rfl (fun ls hl => ?_)
  refine lp_X1_below ⟨hx, hb, hml, hown, hts⟩ (sp := sr_sp mo ac tk fd fs la) hmo (fun k q => sr_sp_le g q) hS2 hK (Nat.le_of_ble_eq_true rfl) (Nat.le_of_ble_eq_true rfl) g hM hA (fun H locs ls hP hD hS hl => ?_) (mo + 2) 0 H locs ls (by omega) (by omega) hP hD hS (lv_sub hl [2, 1, 0] rfl)
  have hP : va_P (dC, dI) vwCl [(y, .inr (1, [.ref b1, .ref b2, .ref b3, .ref b4, .ref b5, .ref b6, .int (nI mo), .int (nI ac), .ref b7, .int 1])), (b1, .inl (t1, 2000, .inl T)), (b2, .inl (t2, 2000, .inl F)), (b3, .inl (t3, 6000, .inl I)), (b4, .inl (t4, 6000, .inl J)), (b5, .inl (t5, 3, .inl U)), (b6, .inl (t6, 3, .inl V)), (b7, .inl (t7, 2001, .inl S2))] H := hP
  have hD : va_D A [(y, .inr (1, [.ref b1, .ref b2, .ref b3, .ref b4, .ref b5, .ref b6, .int (nI mo), .int (nI ac), .ref b7, .int 1])), (b1, .inl (t1, 2000, .inl T)), (b2, .inl (t2, 2000, .inl F)), (b3, .inl (t3, 6000, .inl I)), (b4, .inl (t4, 6000, .inl J)), (b5, .inl (t5, 3, .inl U)), (b6, .inl (t6, 3, .inl V)), (b7, .inl (t7, 2001, .inl S2))] := hD
  refine lv_iload_n hx hb dX1_below_39 rfl (lv_at hl 0 rfl) ?_
  exact W.iret (v := nI (sr_cnt (sr_sp mo ac tk fd fs la) (sr_lim mo fd fs la) (mo + 1))) hx hb hr (fun t ht hW => ⟨⟨nI (sr_cnt (sr_sp mo ac tk fd fs la) (sr_lim mo fd fs la) (mo + 1)), _, rfl, ⟨S2, rfl, Or.inr ⟨rfl, hS2⟩, rfl⟩, by rw [ht]; exact hP, va_K.moved hW.alike hK, hD⟩, hS.F ht⟩) hS.2.2 dX1_below_40
end
section
/-! THE REFERENCE: move and the constructor. -/
theorem sr_MI_push {mo cf cl : Nat} {tk fd fs la : Nat → Nat} {T F I J U V : Nat → Int32} (hM : sr_MI mo cf cl tk fd fs la T F I J U V) (n1 f1 : Nat) : sr_MI (mo + 1) cf cl (sr_up tk mo n1) (sr_up fd mo f1) (sr_up fs mo cf) (sr_up la mo cl) (upd T mo (nI n1)) (upd F mo (nI f1)) (upd (upd (upd I (3 * mo + 0) (sr_dg cf 0)) (3 * mo + 1) (sr_dg cf 1)) (3 * mo + 2) (sr_dg cf 2)) (upd (upd (upd J (3 * mo + 0) (sr_dg cl 0)) (3 * mo + 1) (sr_dg cl 1)) (3 * mo + 2) (sr_dg cl 2)) U V := by
  refine ⟨fun i hi => ?_, hM.2⟩
  rcases Nat.lt_or_ge i mo with h | h
  · have e : i ≠ mo := by omega
    rw [pk_un e, pk_un e, sr_up_n e, sr_up_n e, sr_up_n e, sr_up_n e]
    refine ⟨(hM.1 i h).1, (hM.1 i h).2.1, fun a ha => ?_⟩
    have e0 : 3 * i + a ≠ 3 * mo + 0 := by omega
    have e1 : 3 * i + a ≠ 3 * mo + 1 := by omega
    have e2 : 3 * i + a ≠ 3 * mo + 2 := by omega
    rw [pk_un e2, pk_un e1, pk_un e0, pk_un e2, pk_un e1, pk_un e0]
    exact (hM.1 i h).2.2 a ha
  · obtain rfl : i = mo := by omega
    rw [pk_us, pk_us, sr_up_s, sr_up_s, sr_up_s, sr_up_s]
    refine ⟨rfl, rfl, fun a ha => ?_⟩
    have e01 : 3 * i + 0 ≠ 3 * i + 1 := by omega
    have e02 : 3 * i + 0 ≠ 3 * i + 2 := by omega
    have e12 : 3 * i + 1 ≠ 3 * i + 2 := by omega
    rcases (show a = 0 ∨ a = 1 ∨ a = 2 by omega) with rfl | rfl | rfl
    · rw [pk_un e02, pk_un e01, pk_us, pk_un e02, pk_un e01, pk_us]
      exact ⟨rfl, rfl⟩
    · rw [pk_un e12, pk_us, pk_un e12, pk_us]
      exact ⟨rfl, rfl⟩
    · rw [pk_us, pk_us]
      exact ⟨rfl, rfl⟩
set_option maxHeartbeats 4000000 in
set_option maxRecDepth 100000 in
theorem c_X1_move (l : Launch) (dC : Nat → ClassId) (dI : Nat → Nat → Nat) (y b1 b2 b3 b4 b5 b6 b7 : Nat) (t1 t2 t3 t4 t5 t6 t7 : ClassId) (sz : Nat) (mo ac : Nat) (kn : Int32) (T F I J U V S : Nat → Int32) (n f : Int32) (cf cl : Nat) (tk fd fs la : Nat → Nat) (g : sr_G mo ac cf cl tk fd fs la) (hM : sr_MI mo cf cl tk fd fs la T F I J U V) : Met l yX1_move wsX1_move ({ frames := 0, cells := 0, slots := 0, locals := 0 }) (sr_pre dC dI (sr_tM t1 t2 t3 t4 t5 t6 t7) (sr_wM y b1 b2 b3 b4 b5 b6 b7 t1 t2 t3 t4 t5 t6 t7 mo ac kn T F I J U V S) sz [.ref y, .int n, .int f]) (va_Qi (fun (r : Int32) (u : va_W) => (((1 ≤ n ∧ n ≤ 100000) ∧ (1 ≤ f ∧ f ≤ 99999) ∧ mo < 2000) ∧ r = nI (mo + 1) ∧ ∃ T' F' I' J' : Nat → Int32, u = sr_wM y b1 b2 b3 b4 b5 b6 b7 t1 t2 t3 t4 t5 t6 t7 (mo + 1) ac 0 T' F' I' J' U V S ∧ sr_MI (mo + 1) cf cl (sr_up tk mo n.toNatClampNeg) (sr_up fd mo f.toNatClampNeg) (sr_up fs mo cf) (sr_up la mo cl) T' F' I' J' U V) ∨ (¬ ((1 ≤ n ∧ n ≤ 100000) ∧ (1 ≤ f ∧ f ≤ 99999) ∧ mo < 2000) ∧ r = -1 ∧ u = sr_wM y b1 b2 b3 b4 b5 b6 b7 t1 t2 t3 t4 t5 t6 t7 mo ac kn T F I J U V S)) (sr_at dC dI (sr_tM t1 t2 t3 t4 t5 t6 t7) (va_A (sr_wM y b1 b2 b3 b4 b5 b6 b7 t1 t2 t3 t4 t5 t6 t7 mo ac kn T F I J U V S) sz)) (va_A (sr_wM y b1 b2 b3 b4 b5 b6 b7 t1 t2 t3 t4 t5 t6 t7 mo ac kn T F I J U V S) sz)) 0 0 (va_A (sr_wM y b1 b2 b3 b4 b5 b6 b7 t1 t2 t3 t4 t5 t6 t7 mo ac kn T F I J U V S) sz) := by
  refine Met.ofW (cc := cX1_move) (maxL := 4) (ret := (some .int)) (by decide) rfl ?_
  intro p e s m args below meth c s₁ B hml hv
  obtain ⟨rfl, hsz, hP, hK, hD0⟩ := hv
  have hx := B.exec
  have hb := B.bytes
  have hr := B.returns
  have hts := atoms_spec (ws := wsX1_move) B.pre
  have hown : s.vm.findClass RX1 = some m.cls := findClass_of_methodNamed B.named
  have hlocks := B.notSynchronized
  subst hsz
  have hD := hD0.self (sz := s.heap.size)
  generalize hAe : va_A (sr_wM y b1 b2 b3 b4 b5 b6 b7 t1 t2 t3 t4 t5 t6 t7 mo ac kn T F I J U V S) s.heap.size = A at hD ⊢
  have hA : ∀ q : Nat, s.heap.size ≤ q → A q := fun q h => by rw [← hAe]; exact Or.inr h
  have hS : va_S A s.heap s.heap [] := va_S.rf
  have hP : va_P (dC, dI) vwCl [(y, .inr (1, [.ref b1, .ref b2, .ref b3, .ref b4, .ref b5, .ref b6, .int (nI mo), .int (nI ac), .ref b7, .int kn])), (b1, .inl (t1, 2000, .inl T)), (b2, .inl (t2, 2000, .inl F)), (b3, .inl (t3, 6000, .inl I)), (b4, .inl (t4, 6000, .inl J)), (b5, .inl (t5, 3, .inl U)), (b6, .inl (t6, 3, .inl V)), (b7, .inl (t7, 2001, .inl S))] s.heap := hP
  have hD : va_D A [(y, .inr (1, [.ref b1, .ref b2, .ref b3, .ref b4, .ref b5, .ref b6, .int (nI mo), .int (nI ac), .ref b7, .int kn])), (b1, .inl (t1, 2000, .inl T)), (b2, .inl (t2, 2000, .inl F)), (b3, .inl (t3, 6000, .inl I)), (b4, .inl (t4, 6000, .inl J)), (b5, .inl (t5, 3, .inl U)), (b6, .inl (t6, 3, .inl V)), (b7, .inl (t7, 2001, .inl S))] := hD
  have hK : va_K (dC, dI) vwCl [(t1, .int), (t2, .int), (t3, .byte), (t4, .byte), (t5, .byte), (t6, .byte), (t7, .int)] s := hK
  have hin1 : ∀ w ∈ u_ws RX1 TX1 10, w ∈ wsX1_move := by decide +kernel
  have hl := lv_entry ([.ref y, .int n, .int f]) (n := 4) (Nat.le_of_ble_eq_true rfl)
  rw [lg_entry_eq]
  generalize (lg_sl ([.ref y, .int n, .int f]) ++ List.replicate (4 - (lg_sl ([.ref y, .int n, .int f])).length) Slot.unset).toArray = ls at hl ⊢
  have hl : lv_has ls 4 [(0, .ref y), (1, .int n), (2, .int f)] := hl
  obtain ⟨hmo, ⟨hac1, hac2⟩, hcf, hcl, hpath⟩ := id g
  refine lv_iload_n hx hb dX1_move_0 rfl (lv_at hl 1 rfl) ?_
  refine lv_iconst (v := 1) hx hb dX1_move_1 (by decide) ?_
  refine lv_icmp_lt (tgt := 32) hx hb dX1_move_2 (by decide) (fun k0 => ?_) (fun k0 => ?_)
  · refine lv_iconst (v := (-1)) hx hb dX1_move_32 (by decide) ?_
    exact W.iret (v := (-1)) hx hb hr (fun t ht hW => ⟨⟨(-1), _, rfl, Or.inr ⟨fun q => absurd q.1.1 (Int32.not_le.mpr k0), rfl, rfl⟩, by rw [ht]; exact hP, va_K.moved hW.alike hK, hD⟩, hS.F ht⟩) hS.2.2 dX1_move_33
  · refine lv_iload_n hx hb dX1_move_5 rfl (lv_at hl 1 rfl) ?_
    refine lv_ldc (v := 100000) hx hb hown (hts (.constant RX1 44 (100000)) (by decide +kernel)) dX1_move_6 ?_
    refine lv_icmp_gt (tgt := 32) hx hb dX1_move_8 (by decide) (fun k1 => ?_) (fun k1 => ?_)
    · refine lv_iconst (v := (-1)) hx hb dX1_move_32 (by decide) ?_
      exact W.iret (v := (-1)) hx hb hr (fun t ht hW => ⟨⟨(-1), _, rfl, Or.inr ⟨fun q => absurd q.1.2 (Int32.not_le.mpr k1), rfl, rfl⟩, by rw [ht]; exact hP, va_K.moved hW.alike hK, hD⟩, hS.F ht⟩) hS.2.2 dX1_move_33
    · refine lv_iload_n hx hb dX1_move_11 rfl (lv_at hl 2 rfl) ?_
      refine lv_iconst (v := 1) hx hb dX1_move_12 (by decide) ?_
      refine lv_icmp_lt (tgt := 32) hx hb dX1_move_13 (by decide) (fun k2 => ?_) (fun k2 => ?_)
      · refine lv_iconst (v := (-1)) hx hb dX1_move_32 (by decide) ?_
        exact W.iret (v := (-1)) hx hb hr (fun t ht hW => ⟨⟨(-1), _, rfl, Or.inr ⟨fun q => absurd q.2.1.1 (Int32.not_le.mpr k2), rfl, rfl⟩, by rw [ht]; exact hP, va_K.moved hW.alike hK, hD⟩, hS.F ht⟩) hS.2.2 dX1_move_33
      · refine lv_iload_n hx hb dX1_move_16 rfl (lv_at hl 2 rfl) ?_
        refine lv_ldc (v := 99999) hx hb hown (hts (.constant RX1 45 (99999)) (by decide +kernel)) dX1_move_17 ?_
        refine lv_icmp_gt (tgt := 32) hx hb dX1_move_19 (by decide) (fun k3 => ?_) (fun k3 => ?_)
        · refine lv_iconst (v := (-1)) hx hb dX1_move_32 (by decide) ?_
          exact W.iret (v := (-1)) hx hb hr (fun t ht hW => ⟨⟨(-1), _, rfl, Or.inr ⟨fun q => absurd q.2.1.2 (Int32.not_le.mpr k3), rfl, rfl⟩, by rw [ht]; exact hP, va_K.moved hW.alike hK, hD⟩, hS.F ht⟩) hS.2.2 dX1_move_33
        · refine lv_aload_n hx hb dX1_move_22 rfl (lv_at hl 0 rfl) ?_
          refine va_get (D := (dC, dI)) (ci := 1) (v := .int (nI mo)) (C := RX1) (T := TX1) (N := 10) hx hb hts hin1 hown hK hP 0 rfl rfl 6 (by decide) (hts (.fieldLink RX1 46 "SpeedRowsModel" "moves" "I") (by decide +kernel)) (fun _ h9 => h9) rfl dX1_move_23 ?_
          refine lv_sipush (v := nI 2000) hx hb dX1_move_26 (by decide) ?_
          refine lv_icmp_ne (tgt := 34) hx hb dX1_move_29 (by decide) (fun k4 => ?_) (fun k4 => ?_)
          · have hm : mo < 2000 := by
              rcases Nat.lt_or_ge mo 2000 with q | q
              · exact q
              · exact absurd (by rw [show mo = 2000 by omega]) k4
            have hn : 1 ≤ n ∧ n ≤ 100000 := ⟨Int32.not_lt.mp k0, Int32.not_lt.mp k1⟩
            have hf : 1 ≤ f ∧ f ≤ 99999 := ⟨Int32.not_lt.mp k2, Int32.not_lt.mp k3⟩
            obtain ⟨n1, hn1, rfl⟩ : ∃ j, j ≤ 100000 ∧ n = nI j := nI_of2 (M := 100000) (by decide) (fun q => absurd (Int32.lt_of_lt_of_le q (by decide : (0 : Int32) ≤ 1)) (Int32.not_lt.mpr hn.1)) hn.2
            obtain ⟨f1, hf1, rfl⟩ : ∃ j, j ≤ 99999 ∧ f = nI j := nI_of2 (M := 99999) (by decide) (fun q => absurd (Int32.lt_of_lt_of_le q (by decide : (0 : Int32) ≤ 1)) (Int32.not_lt.mpr hf.1)) hf.2
            refine lv_aload_n hx hb dX1_move_34 rfl (lv_at hl 0 rfl) ?_
            refine va_get (D := (dC, dI)) (ci := 1) (v := .ref b1) (C := RX1) (T := TX1) (N := 10) hx hb hts hin1 hown hK hP 0 rfl rfl 0 (by decide) (hts (.fieldLink RX1 9 "SpeedRowsModel" "ticks" "[I") (by decide +kernel)) (fun _ h9 => h9) rfl dX1_move_35 ?_
            refine lv_aload_n hx hb dX1_move_38 rfl (lv_at hl 0 rfl) ?_
            refine va_get (D := (dC, dI)) (ci := 1) (v := .int (nI mo)) (C := RX1) (T := TX1) (N := 10) hx hb hts hin1 hown hK hP 0 rfl rfl 6 (by decide) (hts (.fieldLink RX1 46 "SpeedRowsModel" "moves" "I") (by decide +kernel)) (fun _ h9 => h9) rfl dX1_move_39 ?_
            refine lv_iload_n hx hb dX1_move_42 rfl (lv_at hl 1 rfl) ?_
            refine sr_iast hx hb hK hP hD hS 1 0 rfl rfl (by omega) (by decide) dX1_move_43 (fun H locs hP hD hS => ?_)
            have hP : va_P (dC, dI) vwCl [(y, .inr (1, [.ref b1, .ref b2, .ref b3, .ref b4, .ref b5, .ref b6, .int (nI mo), .int (nI ac), .ref b7, .int kn])), (b1, .inl (t1, 2000, .inl (upd T mo (nI n1)))), (b2, .inl (t2, 2000, .inl F)), (b3, .inl (t3, 6000, .inl I)), (b4, .inl (t4, 6000, .inl J)), (b5, .inl (t5, 3, .inl U)), (b6, .inl (t6, 3, .inl V)), (b7, .inl (t7, 2001, .inl S))] H := hP
            have hD : va_D A [(y, .inr (1, [.ref b1, .ref b2, .ref b3, .ref b4, .ref b5, .ref b6, .int (nI mo), .int (nI ac), .ref b7, .int kn])), (b1, .inl (t1, 2000, .inl (upd T mo (nI n1)))), (b2, .inl (t2, 2000, .inl F)), (b3, .inl (t3, 6000, .inl I)), (b4, .inl (t4, 6000, .inl J)), (b5, .inl (t5, 3, .inl U)), (b6, .inl (t6, 3, .inl V)), (b7, .inl (t7, 2001, .inl S))] := hD
            refine lv_aload_n hx hb dX1_move_44 rfl (lv_at hl 0 rfl) ?_
            refine va_get (D := (dC, dI)) (ci := 1) (v := .ref b2) (C := RX1) (T := TX1) (N := 10) hx hb hts hin1 hown hK hP 0 rfl rfl 1 (by decide) (hts (.fieldLink RX1 13 "SpeedRowsModel" "feeds" "[I") (by decide +kernel)) (fun _ h9 => h9) rfl dX1_move_45 ?_
            refine lv_aload_n hx hb dX1_move_48 rfl (lv_at hl 0 rfl) ?_
            refine va_get (D := (dC, dI)) (ci := 1) (v := .int (nI mo)) (C := RX1) (T := TX1) (N := 10) hx hb hts hin1 hown hK hP 0 rfl rfl 6 (by decide) (hts (.fieldLink RX1 46 "SpeedRowsModel" "moves" "I") (by decide +kernel)) (fun _ h9 => h9) rfl dX1_move_49 ?_
            refine lv_iload_n hx hb dX1_move_52 rfl (lv_at hl 2 rfl) ?_
            refine sr_iast hx hb hK hP hD hS 2 1 rfl rfl (by omega) (by decide) dX1_move_53 (fun H locs hP hD hS => ?_)
            have hP : va_P (dC, dI) vwCl [(y, .inr (1, [.ref b1, .ref b2, .ref b3, .ref b4, .ref b5, .ref b6, .int (nI mo), .int (nI ac), .ref b7, .int kn])), (b1, .inl (t1, 2000, .inl (upd T mo (nI n1)))), (b2, .inl (t2, 2000, .inl (upd F mo (nI f1)))), (b3, .inl (t3, 6000, .inl I)), (b4, .inl (t4, 6000, .inl J)), (b5, .inl (t5, 3, .inl U)), (b6, .inl (t6, 3, .inl V)), (b7, .inl (t7, 2001, .inl S))] H := hP
            have hD : va_D A [(y, .inr (1, [.ref b1, .ref b2, .ref b3, .ref b4, .ref b5, .ref b6, .int (nI mo), .int (nI ac), .ref b7, .int kn])), (b1, .inl (t1, 2000, .inl (upd T mo (nI n1)))), (b2, .inl (t2, 2000, .inl (upd F mo (nI f1)))), (b3, .inl (t3, 6000, .inl I)), (b4, .inl (t4, 6000, .inl J)), (b5, .inl (t5, 3, .inl U)), (b6, .inl (t6, 3, .inl V)), (b7, .inl (t7, 2001, .inl S))] := hD
            refine lv_iconst (v := nI 0) hx hb dX1_move_54 (by decide) ?_
            refine lv_istore_n (lv' := [(3, .int (nI 0)), (0, .ref y), (1, .int (nI n1)), (2, .int (nI f1))]) hx hb dX1_move_55 rfl hl (by decide) rfl (fun ls hl => ?_)
            refine lv_iload_n hx hb dX1_move_56 rfl (lv_at hl 0 rfl) ?_
            refine lv_iconst (v := nI 3) hx hb dX1_move_57 (by decide) ?_
            refine lv_icmp_ge (tgt := 105) hx hb dX1_move_58 (by decide) (fun m0 => ?_) (fun m0 => ?_)
            · exact absurd m0 (by decide)
            · refine lv_aload_n hx hb dX1_move_61 rfl (lv_at hl 1 rfl) ?_
              refine va_get (D := (dC, dI)) (ci := 1) (v := .ref b3) (C := RX1) (T := TX1) (N := 10) hx hb hts hin1 hown hK hP 0 rfl rfl 2 (by decide) (hts (.fieldLink RX1 16 "SpeedRowsModel" "firsts" "[B") (by decide +kernel)) (fun _ h9 => h9) rfl dX1_move_62 ?_
              refine lv_iconst (v := nI 3) hx hb dX1_move_65 (by decide) ?_
              refine lv_aload_n hx hb dX1_move_66 rfl (lv_at hl 1 rfl) ?_
              refine va_get (D := (dC, dI)) (ci := 1) (v := .int (nI mo)) (C := RX1) (T := TX1) (N := 10) hx hb hts hin1 hown hK hP 0 rfl rfl 6 (by decide) (hts (.fieldLink RX1 46 "SpeedRowsModel" "moves" "I") (by decide +kernel)) (fun _ h9 => h9) rfl dX1_move_67 ?_
              refine lv_imul hx hb dX1_move_70 ?_
              refine sr_ti (y := nI (3 * mo)) (pk_mul _ _) ?_
              refine lv_iload_n hx hb dX1_move_71 rfl (lv_at hl 0 rfl) ?_
              refine lv_iadd hx hb dX1_move_72 ?_
              refine sr_ti (y := nI ((3 * mo) + 0)) (nI_add _ _) ?_
              refine lv_aload_n hx hb dX1_move_73 rfl (lv_at hl 1 rfl) ?_
              refine va_get (D := (dC, dI)) (ci := 1) (v := .ref b5) (C := RX1) (T := TX1) (N := 10) hx hb hts hin1 hown hK hP 0 rfl rfl 4 (by decide) (hts (.fieldLink RX1 23 "SpeedRowsModel" "first" "[B") (by decide +kernel)) (fun _ h9 => h9) rfl dX1_move_74 ?_
              refine lv_iload_n hx hb dX1_move_77 rfl (lv_at hl 0 rfl) ?_
              refine sr_bald (v := sr_dg cf 0) hx hb hK hP 5 4 rfl rfl (by decide) (by decide) ((hM.2 0 (by decide)).1) dX1_move_78 ?_
              refine sr_bast (v := sr_dg cf 0) hx hb hK hP hD hS 3 2 rfl rfl (by omega) (by decide) (sr_dg_nar cf hcf.1 0 (by decide)) dX1_move_79 (fun H locs hP hD hS => ?_)
              have hP : va_P (dC, dI) vwCl [(y, .inr (1, [.ref b1, .ref b2, .ref b3, .ref b4, .ref b5, .ref b6, .int (nI mo), .int (nI ac), .ref b7, .int kn])), (b1, .inl (t1, 2000, .inl (upd T mo (nI n1)))), (b2, .inl (t2, 2000, .inl (upd F mo (nI f1)))), (b3, .inl (t3, 6000, .inl (upd I ((3 * mo) + 0) (sr_dg cf 0)))), (b4, .inl (t4, 6000, .inl J)), (b5, .inl (t5, 3, .inl U)), (b6, .inl (t6, 3, .inl V)), (b7, .inl (t7, 2001, .inl S))] H := hP
              have hD : va_D A [(y, .inr (1, [.ref b1, .ref b2, .ref b3, .ref b4, .ref b5, .ref b6, .int (nI mo), .int (nI ac), .ref b7, .int kn])), (b1, .inl (t1, 2000, .inl (upd T mo (nI n1)))), (b2, .inl (t2, 2000, .inl (upd F mo (nI f1)))), (b3, .inl (t3, 6000, .inl (upd I ((3 * mo) + 0) (sr_dg cf 0)))), (b4, .inl (t4, 6000, .inl J)), (b5, .inl (t5, 3, .inl U)), (b6, .inl (t6, 3, .inl V)), (b7, .inl (t7, 2001, .inl S))] := hD
              refine lv_aload_n hx hb dX1_move_80 rfl (lv_at hl 1 rfl) ?_
              refine va_get (D := (dC, dI)) (ci := 1) (v := .ref b4) (C := RX1) (T := TX1) (N := 10) hx hb hts hin1 hown hK hP 0 rfl rfl 3 (by decide) (hts (.fieldLink RX1 20 "SpeedRowsModel" "lasts" "[B") (by decide +kernel)) (fun _ h9 => h9) rfl dX1_move_81 ?_
              refine lv_iconst (v := nI 3) hx hb dX1_move_84 (by decide) ?_
              refine lv_aload_n hx hb dX1_move_85 rfl (lv_at hl 1 rfl) ?_
              refine va_get (D := (dC, dI)) (ci := 1) (v := .int (nI mo)) (C := RX1) (T := TX1) (N := 10) hx hb hts hin1 hown hK hP 0 rfl rfl 6 (by decide) (hts (.fieldLink RX1 46 "SpeedRowsModel" "moves" "I") (by decide +kernel)) (fun _ h9 => h9) rfl dX1_move_86 ?_
              refine lv_imul hx hb dX1_move_89 ?_
              refine sr_ti (y := nI (3 * mo)) (pk_mul _ _) ?_
              refine lv_iload_n hx hb dX1_move_90 rfl (lv_at hl 0 rfl) ?_
              refine lv_iadd hx hb dX1_move_91 ?_
              refine sr_ti (y := nI ((3 * mo) + 0)) (nI_add _ _) ?_
              refine lv_aload_n hx hb dX1_move_92 rfl (lv_at hl 1 rfl) ?_
              refine va_get (D := (dC, dI)) (ci := 1) (v := .ref b6) (C := RX1) (T := TX1) (N := 10) hx hb hts hin1 hown hK hP 0 rfl rfl 5 (by decide) (hts (.fieldLink RX1 26 "SpeedRowsModel" "last" "[B") (by decide +kernel)) (fun _ h9 => h9) rfl dX1_move_93 ?_
              refine lv_iload_n hx hb dX1_move_96 rfl (lv_at hl 0 rfl) ?_
              refine sr_bald (v := sr_dg cl 0) hx hb hK hP 6 5 rfl rfl (by decide) (by decide) ((hM.2 0 (by decide)).2) dX1_move_97 ?_
              refine sr_bast (v := sr_dg cl 0) hx hb hK hP hD hS 4 3 rfl rfl (by omega) (by decide) (sr_dg_nar cl hcl.1 0 (by decide)) dX1_move_98 (fun H locs hP hD hS => ?_)
              have hP : va_P (dC, dI) vwCl [(y, .inr (1, [.ref b1, .ref b2, .ref b3, .ref b4, .ref b5, .ref b6, .int (nI mo), .int (nI ac), .ref b7, .int kn])), (b1, .inl (t1, 2000, .inl (upd T mo (nI n1)))), (b2, .inl (t2, 2000, .inl (upd F mo (nI f1)))), (b3, .inl (t3, 6000, .inl (upd I ((3 * mo) + 0) (sr_dg cf 0)))), (b4, .inl (t4, 6000, .inl (upd J ((3 * mo) + 0) (sr_dg cl 0)))), (b5, .inl (t5, 3, .inl U)), (b6, .inl (t6, 3, .inl V)), (b7, .inl (t7, 2001, .inl S))] H := hP
              have hD : va_D A [(y, .inr (1, [.ref b1, .ref b2, .ref b3, .ref b4, .ref b5, .ref b6, .int (nI mo), .int (nI ac), .ref b7, .int kn])), (b1, .inl (t1, 2000, .inl (upd T mo (nI n1)))), (b2, .inl (t2, 2000, .inl (upd F mo (nI f1)))), (b3, .inl (t3, 6000, .inl (upd I ((3 * mo) + 0) (sr_dg cf 0)))), (b4, .inl (t4, 6000, .inl (upd J ((3 * mo) + 0) (sr_dg cl 0)))), (b5, .inl (t5, 3, .inl U)), (b6, .inl (t6, 3, .inl V)), (b7, .inl (t7, 2001, .inl S))] := hD
              refine lv_iinc (v := nI 1) (lv' := [(3, .int (nI 1)), (0, .ref y), (1, .int (nI n1)), (2, .int (nI f1))]) hx hb dX1_move_99 hl (k := 0) rfl (by decide) (by decide) rfl (fun ls hl => ?_)
              refine lv_goto (tgt := 56) hx hb dX1_move_102 (by decide) ?_
              refine lv_iload_n hx hb dX1_move_56 rfl (lv_at hl 0 rfl) ?_
              refine lv_iconst (v := nI 3) hx hb dX1_move_57 (by decide) ?_
              refine lv_icmp_ge (tgt := 105) hx hb dX1_move_58 (by decide) (fun m1 => ?_) (fun m1 => ?_)
              · exact absurd m1 (by decide)
              · refine lv_aload_n hx hb dX1_move_61 rfl (lv_at hl 1 rfl) ?_
                refine va_get (D := (dC, dI)) (ci := 1) (v := .ref b3) (C := RX1) (T := TX1) (N := 10) hx hb hts hin1 hown hK hP 0 rfl rfl 2 (by decide) (hts (.fieldLink RX1 16 "SpeedRowsModel" "firsts" "[B") (by decide +kernel)) (fun _ h9 => h9) rfl dX1_move_62 ?_
                refine lv_iconst (v := nI 3) hx hb dX1_move_65 (by decide) ?_
                refine lv_aload_n hx hb dX1_move_66 rfl (lv_at hl 1 rfl) ?_
                refine va_get (D := (dC, dI)) (ci := 1) (v := .int (nI mo)) (C := RX1) (T := TX1) (N := 10) hx hb hts hin1 hown hK hP 0 rfl rfl 6 (by decide) (hts (.fieldLink RX1 46 "SpeedRowsModel" "moves" "I") (by decide +kernel)) (fun _ h9 => h9) rfl dX1_move_67 ?_
                refine lv_imul hx hb dX1_move_70 ?_
                refine sr_ti (y := nI (3 * mo)) (pk_mul _ _) ?_
                refine lv_iload_n hx hb dX1_move_71 rfl (lv_at hl 0 rfl) ?_
                refine lv_iadd hx hb dX1_move_72 ?_
                refine sr_ti (y := nI ((3 * mo) + 1)) (nI_add _ _) ?_
                refine lv_aload_n hx hb dX1_move_73 rfl (lv_at hl 1 rfl) ?_
                refine va_get (D := (dC, dI)) (ci := 1) (v := .ref b5) (C := RX1) (T := TX1) (N := 10) hx hb hts hin1 hown hK hP 0 rfl rfl 4 (by decide) (hts (.fieldLink RX1 23 "SpeedRowsModel" "first" "[B") (by decide +kernel)) (fun _ h9 => h9) rfl dX1_move_74 ?_
                refine lv_iload_n hx hb dX1_move_77 rfl (lv_at hl 0 rfl) ?_
                refine sr_bald (v := sr_dg cf 1) hx hb hK hP 5 4 rfl rfl (by decide) (by decide) ((hM.2 1 (by decide)).1) dX1_move_78 ?_
                refine sr_bast (v := sr_dg cf 1) hx hb hK hP hD hS 3 2 rfl rfl (by omega) (by decide) (sr_dg_nar cf hcf.1 1 (by decide)) dX1_move_79 (fun H locs hP hD hS => ?_)
                have hP : va_P (dC, dI) vwCl [(y, .inr (1, [.ref b1, .ref b2, .ref b3, .ref b4, .ref b5, .ref b6, .int (nI mo), .int (nI ac), .ref b7, .int kn])), (b1, .inl (t1, 2000, .inl (upd T mo (nI n1)))), (b2, .inl (t2, 2000, .inl (upd F mo (nI f1)))), (b3, .inl (t3, 6000, .inl (upd (upd I ((3 * mo) + 0) (sr_dg cf 0)) ((3 * mo) + 1) (sr_dg cf 1)))), (b4, .inl (t4, 6000, .inl (upd J ((3 * mo) + 0) (sr_dg cl 0)))), (b5, .inl (t5, 3, .inl U)), (b6, .inl (t6, 3, .inl V)), (b7, .inl (t7, 2001, .inl S))] H := hP
                have hD : va_D A [(y, .inr (1, [.ref b1, .ref b2, .ref b3, .ref b4, .ref b5, .ref b6, .int (nI mo), .int (nI ac), .ref b7, .int kn])), (b1, .inl (t1, 2000, .inl (upd T mo (nI n1)))), (b2, .inl (t2, 2000, .inl (upd F mo (nI f1)))), (b3, .inl (t3, 6000, .inl (upd (upd I ((3 * mo) + 0) (sr_dg cf 0)) ((3 * mo) + 1) (sr_dg cf 1)))), (b4, .inl (t4, 6000, .inl (upd J ((3 * mo) + 0) (sr_dg cl 0)))), (b5, .inl (t5, 3, .inl U)), (b6, .inl (t6, 3, .inl V)), (b7, .inl (t7, 2001, .inl S))] := hD
                refine lv_aload_n hx hb dX1_move_80 rfl (lv_at hl 1 rfl) ?_
                refine va_get (D := (dC, dI)) (ci := 1) (v := .ref b4) (C := RX1) (T := TX1) (N := 10) hx hb hts hin1 hown hK hP 0 rfl rfl 3 (by decide) (hts (.fieldLink RX1 20 "SpeedRowsModel" "lasts" "[B") (by decide +kernel)) (fun _ h9 => h9) rfl dX1_move_81 ?_
                refine lv_iconst (v := nI 3) hx hb dX1_move_84 (by decide) ?_
                refine lv_aload_n hx hb dX1_move_85 rfl (lv_at hl 1 rfl) ?_
                refine va_get (D := (dC, dI)) (ci := 1) (v := .int (nI mo)) (C := RX1) (T := TX1) (N := 10) hx hb hts hin1 hown hK hP 0 rfl rfl 6 (by decide) (hts (.fieldLink RX1 46 "SpeedRowsModel" "moves" "I") (by decide +kernel)) (fun _ h9 => h9) rfl dX1_move_86 ?_
                refine lv_imul hx hb dX1_move_89 ?_
                refine sr_ti (y := nI (3 * mo)) (pk_mul _ _) ?_
                refine lv_iload_n hx hb dX1_move_90 rfl (lv_at hl 0 rfl) ?_
                refine lv_iadd hx hb dX1_move_91 ?_
                refine sr_ti (y := nI ((3 * mo) + 1)) (nI_add _ _) ?_
                refine lv_aload_n hx hb dX1_move_92 rfl (lv_at hl 1 rfl) ?_
                refine va_get (D := (dC, dI)) (ci := 1) (v := .ref b6) (C := RX1) (T := TX1) (N := 10) hx hb hts hin1 hown hK hP 0 rfl rfl 5 (by decide) (hts (.fieldLink RX1 26 "SpeedRowsModel" "last" "[B") (by decide +kernel)) (fun _ h9 => h9) rfl dX1_move_93 ?_
                refine lv_iload_n hx hb dX1_move_96 rfl (lv_at hl 0 rfl) ?_
                refine sr_bald (v := sr_dg cl 1) hx hb hK hP 6 5 rfl rfl (by decide) (by decide) ((hM.2 1 (by decide)).2) dX1_move_97 ?_
                refine sr_bast (v := sr_dg cl 1) hx hb hK hP hD hS 4 3 rfl rfl (by omega) (by decide) (sr_dg_nar cl hcl.1 1 (by decide)) dX1_move_98 (fun H locs hP hD hS => ?_)
                have hP : va_P (dC, dI) vwCl [(y, .inr (1, [.ref b1, .ref b2, .ref b3, .ref b4, .ref b5, .ref b6, .int (nI mo), .int (nI ac), .ref b7, .int kn])), (b1, .inl (t1, 2000, .inl (upd T mo (nI n1)))), (b2, .inl (t2, 2000, .inl (upd F mo (nI f1)))), (b3, .inl (t3, 6000, .inl (upd (upd I ((3 * mo) + 0) (sr_dg cf 0)) ((3 * mo) + 1) (sr_dg cf 1)))), (b4, .inl (t4, 6000, .inl (upd (upd J ((3 * mo) + 0) (sr_dg cl 0)) ((3 * mo) + 1) (sr_dg cl 1)))), (b5, .inl (t5, 3, .inl U)), (b6, .inl (t6, 3, .inl V)), (b7, .inl (t7, 2001, .inl S))] H := hP
                have hD : va_D A [(y, .inr (1, [.ref b1, .ref b2, .ref b3, .ref b4, .ref b5, .ref b6, .int (nI mo), .int (nI ac), .ref b7, .int kn])), (b1, .inl (t1, 2000, .inl (upd T mo (nI n1)))), (b2, .inl (t2, 2000, .inl (upd F mo (nI f1)))), (b3, .inl (t3, 6000, .inl (upd (upd I ((3 * mo) + 0) (sr_dg cf 0)) ((3 * mo) + 1) (sr_dg cf 1)))), (b4, .inl (t4, 6000, .inl (upd (upd J ((3 * mo) + 0) (sr_dg cl 0)) ((3 * mo) + 1) (sr_dg cl 1)))), (b5, .inl (t5, 3, .inl U)), (b6, .inl (t6, 3, .inl V)), (b7, .inl (t7, 2001, .inl S))] := hD
                refine lv_iinc (v := nI 2) (lv' := [(3, .int (nI 2)), (0, .ref y), (1, .int (nI n1)), (2, .int (nI f1))]) hx hb dX1_move_99 hl (k := 0) rfl (by decide) (by decide) rfl (fun ls hl => ?_)
                refine lv_goto (tgt := 56) hx hb dX1_move_102 (by decide) ?_
                refine lv_iload_n hx hb dX1_move_56 rfl (lv_at hl 0 rfl) ?_
                refine lv_iconst (v := nI 3) hx hb dX1_move_57 (by decide) ?_
                refine lv_icmp_ge (tgt := 105) hx hb dX1_move_58 (by decide) (fun m2 => ?_) (fun m2 => ?_)
                · exact absurd m2 (by decide)
                · refine lv_aload_n hx hb dX1_move_61 rfl (lv_at hl 1 rfl) ?_
                  refine va_get (D := (dC, dI)) (ci := 1) (v := .ref b3) (C := RX1) (T := TX1) (N := 10) hx hb hts hin1 hown hK hP 0 rfl rfl 2 (by decide) (hts (.fieldLink RX1 16 "SpeedRowsModel" "firsts" "[B") (by decide +kernel)) (fun _ h9 => h9) rfl dX1_move_62 ?_
                  refine lv_iconst (v := nI 3) hx hb dX1_move_65 (by decide) ?_
                  refine lv_aload_n hx hb dX1_move_66 rfl (lv_at hl 1 rfl) ?_
                  refine va_get (D := (dC, dI)) (ci := 1) (v := .int (nI mo)) (C := RX1) (T := TX1) (N := 10) hx hb hts hin1 hown hK hP 0 rfl rfl 6 (by decide) (hts (.fieldLink RX1 46 "SpeedRowsModel" "moves" "I") (by decide +kernel)) (fun _ h9 => h9) rfl dX1_move_67 ?_
                  refine lv_imul hx hb dX1_move_70 ?_
                  refine sr_ti (y := nI (3 * mo)) (pk_mul _ _) ?_
                  refine lv_iload_n hx hb dX1_move_71 rfl (lv_at hl 0 rfl) ?_
                  refine lv_iadd hx hb dX1_move_72 ?_
                  refine sr_ti (y := nI ((3 * mo) + 2)) (nI_add _ _) ?_
                  refine lv_aload_n hx hb dX1_move_73 rfl (lv_at hl 1 rfl) ?_
                  refine va_get (D := (dC, dI)) (ci := 1) (v := .ref b5) (C := RX1) (T := TX1) (N := 10) hx hb hts hin1 hown hK hP 0 rfl rfl 4 (by decide) (hts (.fieldLink RX1 23 "SpeedRowsModel" "first" "[B") (by decide +kernel)) (fun _ h9 => h9) rfl dX1_move_74 ?_
                  refine lv_iload_n hx hb dX1_move_77 rfl (lv_at hl 0 rfl) ?_
                  refine sr_bald (v := sr_dg cf 2) hx hb hK hP 5 4 rfl rfl (by decide) (by decide) ((hM.2 2 (by decide)).1) dX1_move_78 ?_
                  refine sr_bast (v := sr_dg cf 2) hx hb hK hP hD hS 3 2 rfl rfl (by omega) (by decide) (sr_dg_nar cf hcf.1 2 (by decide)) dX1_move_79 (fun H locs hP hD hS => ?_)
                  have hP : va_P (dC, dI) vwCl [(y, .inr (1, [.ref b1, .ref b2, .ref b3, .ref b4, .ref b5, .ref b6, .int (nI mo), .int (nI ac), .ref b7, .int kn])), (b1, .inl (t1, 2000, .inl (upd T mo (nI n1)))), (b2, .inl (t2, 2000, .inl (upd F mo (nI f1)))), (b3, .inl (t3, 6000, .inl (upd (upd (upd I ((3 * mo) + 0) (sr_dg cf 0)) ((3 * mo) + 1) (sr_dg cf 1)) ((3 * mo) + 2) (sr_dg cf 2)))), (b4, .inl (t4, 6000, .inl (upd (upd J ((3 * mo) + 0) (sr_dg cl 0)) ((3 * mo) + 1) (sr_dg cl 1)))), (b5, .inl (t5, 3, .inl U)), (b6, .inl (t6, 3, .inl V)), (b7, .inl (t7, 2001, .inl S))] H := hP
                  have hD : va_D A [(y, .inr (1, [.ref b1, .ref b2, .ref b3, .ref b4, .ref b5, .ref b6, .int (nI mo), .int (nI ac), .ref b7, .int kn])), (b1, .inl (t1, 2000, .inl (upd T mo (nI n1)))), (b2, .inl (t2, 2000, .inl (upd F mo (nI f1)))), (b3, .inl (t3, 6000, .inl (upd (upd (upd I ((3 * mo) + 0) (sr_dg cf 0)) ((3 * mo) + 1) (sr_dg cf 1)) ((3 * mo) + 2) (sr_dg cf 2)))), (b4, .inl (t4, 6000, .inl (upd (upd J ((3 * mo) + 0) (sr_dg cl 0)) ((3 * mo) + 1) (sr_dg cl 1)))), (b5, .inl (t5, 3, .inl U)), (b6, .inl (t6, 3, .inl V)), (b7, .inl (t7, 2001, .inl S))] := hD
                  refine lv_aload_n hx hb dX1_move_80 rfl (lv_at hl 1 rfl) ?_
                  refine va_get (D := (dC, dI)) (ci := 1) (v := .ref b4) (C := RX1) (T := TX1) (N := 10) hx hb hts hin1 hown hK hP 0 rfl rfl 3 (by decide) (hts (.fieldLink RX1 20 "SpeedRowsModel" "lasts" "[B") (by decide +kernel)) (fun _ h9 => h9) rfl dX1_move_81 ?_
                  refine lv_iconst (v := nI 3) hx hb dX1_move_84 (by decide) ?_
                  refine lv_aload_n hx hb dX1_move_85 rfl (lv_at hl 1 rfl) ?_
                  refine va_get (D := (dC, dI)) (ci := 1) (v := .int (nI mo)) (C := RX1) (T := TX1) (N := 10) hx hb hts hin1 hown hK hP 0 rfl rfl 6 (by decide) (hts (.fieldLink RX1 46 "SpeedRowsModel" "moves" "I") (by decide +kernel)) (fun _ h9 => h9) rfl dX1_move_86 ?_
                  refine lv_imul hx hb dX1_move_89 ?_
                  refine sr_ti (y := nI (3 * mo)) (pk_mul _ _) ?_
                  refine lv_iload_n hx hb dX1_move_90 rfl (lv_at hl 0 rfl) ?_
                  refine lv_iadd hx hb dX1_move_91 ?_
                  refine sr_ti (y := nI ((3 * mo) + 2)) (nI_add _ _) ?_
                  refine lv_aload_n hx hb dX1_move_92 rfl (lv_at hl 1 rfl) ?_
                  refine va_get (D := (dC, dI)) (ci := 1) (v := .ref b6) (C := RX1) (T := TX1) (N := 10) hx hb hts hin1 hown hK hP 0 rfl rfl 5 (by decide) (hts (.fieldLink RX1 26 "SpeedRowsModel" "last" "[B") (by decide +kernel)) (fun _ h9 => h9) rfl dX1_move_93 ?_
                  refine lv_iload_n hx hb dX1_move_96 rfl (lv_at hl 0 rfl) ?_
                  refine sr_bald (v := sr_dg cl 2) hx hb hK hP 6 5 rfl rfl (by decide) (by decide) ((hM.2 2 (by decide)).2) dX1_move_97 ?_
                  refine sr_bast (v := sr_dg cl 2) hx hb hK hP hD hS 4 3 rfl rfl (by omega) (by decide) (sr_dg_nar cl hcl.1 2 (by decide)) dX1_move_98 (fun H locs hP hD hS => ?_)
                  have hP : va_P (dC, dI) vwCl [(y, .inr (1, [.ref b1, .ref b2, .ref b3, .ref b4, .ref b5, .ref b6, .int (nI mo), .int (nI ac), .ref b7, .int kn])), (b1, .inl (t1, 2000, .inl (upd T mo (nI n1)))), (b2, .inl (t2, 2000, .inl (upd F mo (nI f1)))), (b3, .inl (t3, 6000, .inl (upd (upd (upd I ((3 * mo) + 0) (sr_dg cf 0)) ((3 * mo) + 1) (sr_dg cf 1)) ((3 * mo) + 2) (sr_dg cf 2)))), (b4, .inl (t4, 6000, .inl (upd (upd (upd J ((3 * mo) + 0) (sr_dg cl 0)) ((3 * mo) + 1) (sr_dg cl 1)) ((3 * mo) + 2) (sr_dg cl 2)))), (b5, .inl (t5, 3, .inl U)), (b6, .inl (t6, 3, .inl V)), (b7, .inl (t7, 2001, .inl S))] H := hP
                  have hD : va_D A [(y, .inr (1, [.ref b1, .ref b2, .ref b3, .ref b4, .ref b5, .ref b6, .int (nI mo), .int (nI ac), .ref b7, .int kn])), (b1, .inl (t1, 2000, .inl (upd T mo (nI n1)))), (b2, .inl (t2, 2000, .inl (upd F mo (nI f1)))), (b3, .inl (t3, 6000, .inl (upd (upd (upd I ((3 * mo) + 0) (sr_dg cf 0)) ((3 * mo) + 1) (sr_dg cf 1)) ((3 * mo) + 2) (sr_dg cf 2)))), (b4, .inl (t4, 6000, .inl (upd (upd (upd J ((3 * mo) + 0) (sr_dg cl 0)) ((3 * mo) + 1) (sr_dg cl 1)) ((3 * mo) + 2) (sr_dg cl 2)))), (b5, .inl (t5, 3, .inl U)), (b6, .inl (t6, 3, .inl V)), (b7, .inl (t7, 2001, .inl S))] := hD
                  refine lv_iinc (v := nI 3) (lv' := [(3, .int (nI 3)), (0, .ref y), (1, .int (nI n1)), (2, .int (nI f1))]) hx hb dX1_move_99 hl (k := 0) rfl (by decide) (by decide) rfl (fun ls hl => ?_)
                  refine lv_goto (tgt := 56) hx hb dX1_move_102 (by decide) ?_
                  refine lv_iload_n hx hb dX1_move_56 rfl (lv_at hl 0 rfl) ?_
                  refine lv_iconst (v := nI 3) hx hb dX1_move_57 (by decide) ?_
                  refine lv_icmp_ge (tgt := 105) hx hb dX1_move_58 (by decide) (fun m3 => ?_) (fun m3 => ?_)
                  · refine lv_aload_n hx hb dX1_move_105 rfl (lv_at hl 1 rfl) ?_
                    refine lv_dup hx hb dX1_move_106 rfl ?_
                    refine va_get (D := (dC, dI)) (ci := 1) (v := .int (nI mo)) (C := RX1) (T := TX1) (N := 10) hx hb hts hin1 hown hK hP 0 rfl rfl 6 (by decide) (hts (.fieldLink RX1 46 "SpeedRowsModel" "moves" "I") (by decide +kernel)) (fun _ h9 => h9) rfl dX1_move_107 ?_
                    refine lv_iconst (v := nI 1) hx hb dX1_move_110 (by decide) ?_
                    refine lv_iadd hx hb dX1_move_111 ?_
                    refine sr_ti (y := nI (mo + 1)) (nI_add _ _) ?_
                    refine va_put (D := (dC, dI)) (ci := 1) (v := .int (nI (mo + 1))) (ty := .int) (C := RX1) (T := TX1) (N := 10) hx hb hts hin1 tyX1 tyX1_ok nmX1 hown hK hP hD hS 0 rfl rfl 6 (by decide) (hts (.fieldLink RX1 46 "SpeedRowsModel" "moves" "I") (by decide +kernel)) (fun _ h9 => h9) rfl (by decide +kernel) rfl rfl (Nat.le_of_ble_eq_true rfl) dX1_move_112 (fun H locs hP hD hS => ?_)
                    have hP : va_P (dC, dI) vwCl [(y, .inr (1, [.ref b1, .ref b2, .ref b3, .ref b4, .ref b5, .ref b6, .int (nI (mo + 1)), .int (nI ac), .ref b7, .int kn])), (b1, .inl (t1, 2000, .inl (upd T mo (nI n1)))), (b2, .inl (t2, 2000, .inl (upd F mo (nI f1)))), (b3, .inl (t3, 6000, .inl (upd (upd (upd I ((3 * mo) + 0) (sr_dg cf 0)) ((3 * mo) + 1) (sr_dg cf 1)) ((3 * mo) + 2) (sr_dg cf 2)))), (b4, .inl (t4, 6000, .inl (upd (upd (upd J ((3 * mo) + 0) (sr_dg cl 0)) ((3 * mo) + 1) (sr_dg cl 1)) ((3 * mo) + 2) (sr_dg cl 2)))), (b5, .inl (t5, 3, .inl U)), (b6, .inl (t6, 3, .inl V)), (b7, .inl (t7, 2001, .inl S))] H := hP
                    have hD : va_D A [(y, .inr (1, [.ref b1, .ref b2, .ref b3, .ref b4, .ref b5, .ref b6, .int (nI (mo + 1)), .int (nI ac), .ref b7, .int kn])), (b1, .inl (t1, 2000, .inl (upd T mo (nI n1)))), (b2, .inl (t2, 2000, .inl (upd F mo (nI f1)))), (b3, .inl (t3, 6000, .inl (upd (upd (upd I ((3 * mo) + 0) (sr_dg cf 0)) ((3 * mo) + 1) (sr_dg cf 1)) ((3 * mo) + 2) (sr_dg cf 2)))), (b4, .inl (t4, 6000, .inl (upd (upd (upd J ((3 * mo) + 0) (sr_dg cl 0)) ((3 * mo) + 1) (sr_dg cl 1)) ((3 * mo) + 2) (sr_dg cl 2)))), (b5, .inl (t5, 3, .inl U)), (b6, .inl (t6, 3, .inl V)), (b7, .inl (t7, 2001, .inl S))] := hD
                    refine lv_aload_n hx hb dX1_move_115 rfl (lv_at hl 1 rfl) ?_
                    refine lv_iconst (v := 0) hx hb dX1_move_116 (by decide) ?_
                    refine va_put (D := (dC, dI)) (ci := 1) (v := .int 0) (ty := .boolean) (C := RX1) (T := TX1) (N := 10) hx hb hts hin1 tyX1 tyX1_ok nmX1 hown hK hP hD hS 0 rfl rfl 9 (by decide) (hts (.fieldLink RX1 49 "SpeedRowsModel" "isKnown" "Z") (by decide +kernel)) (fun _ h9 => h9) rfl (by decide +kernel) rfl rfl (Nat.le_of_ble_eq_true rfl) dX1_move_117 (fun H locs hP hD hS => ?_)
                    have hP : va_P (dC, dI) vwCl [(y, .inr (1, [.ref b1, .ref b2, .ref b3, .ref b4, .ref b5, .ref b6, .int (nI (mo + 1)), .int (nI ac), .ref b7, .int 0])), (b1, .inl (t1, 2000, .inl (upd T mo (nI n1)))), (b2, .inl (t2, 2000, .inl (upd F mo (nI f1)))), (b3, .inl (t3, 6000, .inl (upd (upd (upd I ((3 * mo) + 0) (sr_dg cf 0)) ((3 * mo) + 1) (sr_dg cf 1)) ((3 * mo) + 2) (sr_dg cf 2)))), (b4, .inl (t4, 6000, .inl (upd (upd (upd J ((3 * mo) + 0) (sr_dg cl 0)) ((3 * mo) + 1) (sr_dg cl 1)) ((3 * mo) + 2) (sr_dg cl 2)))), (b5, .inl (t5, 3, .inl U)), (b6, .inl (t6, 3, .inl V)), (b7, .inl (t7, 2001, .inl S))] H := hP
                    have hD : va_D A [(y, .inr (1, [.ref b1, .ref b2, .ref b3, .ref b4, .ref b5, .ref b6, .int (nI (mo + 1)), .int (nI ac), .ref b7, .int 0])), (b1, .inl (t1, 2000, .inl (upd T mo (nI n1)))), (b2, .inl (t2, 2000, .inl (upd F mo (nI f1)))), (b3, .inl (t3, 6000, .inl (upd (upd (upd I ((3 * mo) + 0) (sr_dg cf 0)) ((3 * mo) + 1) (sr_dg cf 1)) ((3 * mo) + 2) (sr_dg cf 2)))), (b4, .inl (t4, 6000, .inl (upd (upd (upd J ((3 * mo) + 0) (sr_dg cl 0)) ((3 * mo) + 1) (sr_dg cl 1)) ((3 * mo) + 2) (sr_dg cl 2)))), (b5, .inl (t5, 3, .inl U)), (b6, .inl (t6, 3, .inl V)), (b7, .inl (t7, 2001, .inl S))] := hD
                    refine lv_aload_n hx hb dX1_move_120 rfl (lv_at hl 1 rfl) ?_
                    refine va_get (D := (dC, dI)) (ci := 1) (v := .int (nI (mo + 1))) (C := RX1) (T := TX1) (N := 10) hx hb hts hin1 hown hK hP 0 rfl rfl 6 (by decide) (hts (.fieldLink RX1 46 "SpeedRowsModel" "moves" "I") (by decide +kernel)) (fun _ h9 => h9) rfl dX1_move_121 ?_
                    exact W.iret (v := nI (mo + 1)) hx hb hr (fun t ht hW => ⟨⟨nI (mo + 1), _, rfl, Or.inl ⟨⟨hn, hf, hm⟩, rfl, _, _, _, _, rfl, by rw [nI_clamp (by omega), nI_clamp (by omega)]; exact sr_MI_push hM n1 f1⟩, by rw [ht]; exact hP, va_K.moved hW.alike hK, hD⟩, hS.F ht⟩) hS.2.2 dX1_move_124
                  · exact absurd (by decide) m3
          · refine lv_iconst (v := (-1)) hx hb dX1_move_32 (by decide) ?_
            exact W.iret (v := (-1)) hx hb hr (fun t ht hW => ⟨⟨(-1), _, rfl, Or.inr ⟨fun q => absurd ((nI_eq (by omega) (by omega)).mp k4) (by omega), rfl, rfl⟩, by rw [ht]; exact hP, va_K.moved hW.alike hK, hD⟩, hS.F ht⟩) hS.2.2 dX1_move_33
set_option maxHeartbeats 400000 in
set_option maxRecDepth 100000 in
theorem c_X1_init (l : Launch) (dC : Nat → ClassId) (dI : Nat → Nat → Nat) (y sz : Nat) : Met l yX1_init wsX1_init ({ frames := 1, cells := 7, slots := 18007, locals := 12 }) (sr_pre dC dI [] [(y, .inr (1, [.null, .null, .null, .null, .null, .null, .int 0, .int 0, .null, .int 0]))] sz [.ref y]) (va_Qv (fun (u : va_W × List (ClassId × FieldType)) => ∃ (b1 b2 b3 b4 b5 b6 b7 : Nat) (t1 t2 t3 t4 t5 t6 t7 : ClassId), u = (sr_wM y b1 b2 b3 b4 b5 b6 b7 t1 t2 t3 t4 t5 t6 t7 0 100 0 (fun _ => 0) (fun _ => 0) (fun _ => 0) (fun _ => 0) (upd (fun _ => 0) 0 1) (upd (fun _ => 0) 0 1) (fun _ => 0), sr_tM t1 t2 t3 t4 t5 t6 t7)) (fun u t => va_P (dC, dI) vwCl u.1 t.heap ∧ va_K (dC, dI) vwCl u.2 t ∧ va_D (va_A [(y, .inr (1, [.null, .null, .null, .null, .null, .null, .int 0, .int 0, .null, .int 0]))] sz) u.1) (va_A [(y, .inr (1, [.null, .null, .null, .null, .null, .null, .int 0, .int 0, .null, .int 0]))] sz)) 7 18007 (va_A [(y, .inr (1, [.null, .null, .null, .null, .null, .null, .int 0, .int 0, .null, .int 0]))] sz) := by
  refine Met.ofW (cc := cX1_init) (maxL := 1) (ret := none) (by decide) rfl ?_
  intro p e s m args below meth c s₁ B hml hv
  obtain ⟨rfl, hsz, hP, hK, hD0⟩ := hv
  have hx := B.exec
  have hb := B.bytes
  have hr := B.returns
  have hts := atoms_spec (ws := wsX1_init) B.pre
  have hown : s.vm.findClass RX1 = some m.cls := findClass_of_methodNamed B.named
  have hlocks := B.notSynchronized
  have hin : meth.name = "<init>" := (name_of_methodNamed B.named B.method).1
  subst hsz
  have hD := hD0.self (sz := s.heap.size)
  generalize hAe : va_A [(y, .inr (1, [.null, .null, .null, .null, .null, .null, .int 0, .int 0, .null, .int 0]))] s.heap.size = A at hD ⊢
  have hA : ∀ q : Nat, s.heap.size ≤ q → A q := fun q h => by rw [← hAe]; exact Or.inr h
  have hS : va_S A s.heap s.heap [] := va_S.rf
  have hP : va_P (dC, dI) vwCl [(y, .inr (1, [.null, .null, .null, .null, .null, .null, .int 0, .int 0, .null, .int 0]))] s.heap := hP
  have hD : va_D A [(y, .inr (1, [.null, .null, .null, .null, .null, .null, .int 0, .int 0, .null, .int 0]))] := hD
  have hK : va_K (dC, dI) vwCl [] s := hK
  have hin1 : ∀ w ∈ u_ws RX1 TX1 10, w ∈ wsX1_init := by decide +kernel
  have hl := lv_entry ([.ref y]) (n := 1) (Nat.le_of_ble_eq_true rfl)
  rw [lg_entry_eq]
  generalize (lg_sl ([.ref y]) ++ List.replicate (1 - (lg_sl ([.ref y])).length) Slot.unset).toArray = ls at hl ⊢
  have hl : lv_has ls 1 [(0, .ref y)] := hl
  refine lv_aload_n hx hb dX1_init_0 rfl (lv_at hl 0 rfl) ?_
  refine W.objInit hx hb hown (hts (.methodLink RX1 1 objectInit) (by decide +kernel)) (hts (.instanceMethod objectInit) (by decide +kernel)) (hts _ (List.mem_cons_of_mem _ (List.mem_append_left _ (List.mem_of_getElem? (i := 2) rfl)))) rfl (by rw [hml]; exact hl.1) rfl dX1_init_1 (Nat.le_of_ble_eq_true rfl) (Nat.le_of_ble_eq_true rfl) ?_
  refine W.eq (g2 := F0 m 4 ls []) rfl ?_
  refine lv_aload_n hx hb dX1_init_4 rfl (lv_at hl 0 rfl) ?_
  refine lv_sipush (v := nI 2000) hx hb dX1_init_5 (by decide) ?_
  refine va_newa (atype := .int) (ty := .int) (N' := 2000) (a0 := (2000, .inl (fun _ => 0))) hx hb (hts (.arrayClass .int) (by decide +kernel)) rfl hK hP hD hS hA (sr_ca_i 2000) (nI_pos (by omega)) (nI_clamp (by omega)) (by show 2000 * 4 ≤ 536870912; omega) (by show _ ≤ 7; omega) (by show _ ≤ 18007; omega) dX1_init_8 (fun b1 t1 H hK hP hD hS => ?_)
  have hK : va_K (dC, dI) vwCl [(t1, .int)] s := hK
  have hP : va_P (dC, dI) vwCl [(y, .inr (1, [.null, .null, .null, .null, .null, .null, .int 0, .int 0, .null, .int 0])), (b1, .inl (t1, 2000, .inl (fun _ => 0)))] H := hP
  have hD : va_D A [(y, .inr (1, [.null, .null, .null, .null, .null, .null, .int 0, .int 0, .null, .int 0])), (b1, .inl (t1, 2000, .inl (fun _ => 0)))] := hD
  refine va_putF (D := (dC, dI)) (ci := 1) (v := .ref b1) (ty := (.array .int)) (C := RX1) (T := TX1) (N := 10) hx hb hts hin1 tyX1 tyX1_ok nmX1 hown hK hP hD hS 0 rfl rfl 0 (by decide) (hts (.fieldLink RX1 9 "SpeedRowsModel" "ticks" "[I") (by decide +kernel)) (fun _ h9 => h9) rfl hin rfl (by decide +kernel) rfl rfl (Nat.le_of_ble_eq_true rfl) dX1_init_10 (fun H locs hP hD hS => ?_)
  have hP : va_P (dC, dI) vwCl [(y, .inr (1, [.ref b1, .null, .null, .null, .null, .null, .int 0, .int 0, .null, .int 0])), (b1, .inl (t1, 2000, .inl (fun _ => 0)))] H := hP
  have hD : va_D A [(y, .inr (1, [.ref b1, .null, .null, .null, .null, .null, .int 0, .int 0, .null, .int 0])), (b1, .inl (t1, 2000, .inl (fun _ => 0)))] := hD
  refine lv_aload_n hx hb dX1_init_13 rfl (lv_at hl 0 rfl) ?_
  refine lv_sipush (v := nI 2000) hx hb dX1_init_14 (by decide) ?_
  refine va_newa (atype := .int) (ty := .int) (N' := 2000) (a0 := (2000, .inl (fun _ => 0))) hx hb (hts (.arrayClass .int) (by decide +kernel)) rfl hK hP hD hS hA (sr_ca_i 2000) (nI_pos (by omega)) (nI_clamp (by omega)) (by show 2000 * 4 ≤ 536870912; omega) (by show _ ≤ 7; omega) (by show _ ≤ 18007; omega) dX1_init_17 (fun b2 t2 H hK hP hD hS => ?_)
  have hK : va_K (dC, dI) vwCl [(t1, .int), (t2, .int)] s := hK
  have hP : va_P (dC, dI) vwCl [(y, .inr (1, [.ref b1, .null, .null, .null, .null, .null, .int 0, .int 0, .null, .int 0])), (b1, .inl (t1, 2000, .inl (fun _ => 0))), (b2, .inl (t2, 2000, .inl (fun _ => 0)))] H := hP
  have hD : va_D A [(y, .inr (1, [.ref b1, .null, .null, .null, .null, .null, .int 0, .int 0, .null, .int 0])), (b1, .inl (t1, 2000, .inl (fun _ => 0))), (b2, .inl (t2, 2000, .inl (fun _ => 0)))] := hD
  refine va_putF (D := (dC, dI)) (ci := 1) (v := .ref b2) (ty := (.array .int)) (C := RX1) (T := TX1) (N := 10) hx hb hts hin1 tyX1 tyX1_ok nmX1 hown hK hP hD hS 0 rfl rfl 1 (by decide) (hts (.fieldLink RX1 13 "SpeedRowsModel" "feeds" "[I") (by decide +kernel)) (fun _ h9 => h9) rfl hin rfl (by decide +kernel) rfl rfl (Nat.le_of_ble_eq_true rfl) dX1_init_19 (fun H locs hP hD hS => ?_)
  have hP : va_P (dC, dI) vwCl [(y, .inr (1, [.ref b1, .ref b2, .null, .null, .null, .null, .int 0, .int 0, .null, .int 0])), (b1, .inl (t1, 2000, .inl (fun _ => 0))), (b2, .inl (t2, 2000, .inl (fun _ => 0)))] H := hP
  have hD : va_D A [(y, .inr (1, [.ref b1, .ref b2, .null, .null, .null, .null, .int 0, .int 0, .null, .int 0])), (b1, .inl (t1, 2000, .inl (fun _ => 0))), (b2, .inl (t2, 2000, .inl (fun _ => 0)))] := hD
  refine lv_aload_n hx hb dX1_init_22 rfl (lv_at hl 0 rfl) ?_
  refine lv_sipush (v := nI 6000) hx hb dX1_init_23 (by decide) ?_
  refine va_newa (atype := .byte) (ty := .byte) (N' := 6000) (a0 := (6000, .inl (fun _ => 0))) hx hb (hts (.arrayClass .byte) (by decide +kernel)) rfl hK hP hD hS hA (sr_ca_b 6000) (nI_pos (by omega)) (nI_clamp (by omega)) (by show 6000 * 1 ≤ 536870912; omega) (by show _ ≤ 7; omega) (by show _ ≤ 18007; omega) dX1_init_26 (fun b3 t3 H hK hP hD hS => ?_)
  have hK : va_K (dC, dI) vwCl [(t1, .int), (t2, .int), (t3, .byte)] s := hK
  have hP : va_P (dC, dI) vwCl [(y, .inr (1, [.ref b1, .ref b2, .null, .null, .null, .null, .int 0, .int 0, .null, .int 0])), (b1, .inl (t1, 2000, .inl (fun _ => 0))), (b2, .inl (t2, 2000, .inl (fun _ => 0))), (b3, .inl (t3, 6000, .inl (fun _ => 0)))] H := hP
  have hD : va_D A [(y, .inr (1, [.ref b1, .ref b2, .null, .null, .null, .null, .int 0, .int 0, .null, .int 0])), (b1, .inl (t1, 2000, .inl (fun _ => 0))), (b2, .inl (t2, 2000, .inl (fun _ => 0))), (b3, .inl (t3, 6000, .inl (fun _ => 0)))] := hD
  refine va_putF (D := (dC, dI)) (ci := 1) (v := .ref b3) (ty := (.array .byte)) (C := RX1) (T := TX1) (N := 10) hx hb hts hin1 tyX1 tyX1_ok nmX1 hown hK hP hD hS 0 rfl rfl 2 (by decide) (hts (.fieldLink RX1 16 "SpeedRowsModel" "firsts" "[B") (by decide +kernel)) (fun _ h9 => h9) rfl hin rfl (by decide +kernel) rfl rfl (Nat.le_of_ble_eq_true rfl) dX1_init_28 (fun H locs hP hD hS => ?_)
  have hP : va_P (dC, dI) vwCl [(y, .inr (1, [.ref b1, .ref b2, .ref b3, .null, .null, .null, .int 0, .int 0, .null, .int 0])), (b1, .inl (t1, 2000, .inl (fun _ => 0))), (b2, .inl (t2, 2000, .inl (fun _ => 0))), (b3, .inl (t3, 6000, .inl (fun _ => 0)))] H := hP
  have hD : va_D A [(y, .inr (1, [.ref b1, .ref b2, .ref b3, .null, .null, .null, .int 0, .int 0, .null, .int 0])), (b1, .inl (t1, 2000, .inl (fun _ => 0))), (b2, .inl (t2, 2000, .inl (fun _ => 0))), (b3, .inl (t3, 6000, .inl (fun _ => 0)))] := hD
  refine lv_aload_n hx hb dX1_init_31 rfl (lv_at hl 0 rfl) ?_
  refine lv_sipush (v := nI 6000) hx hb dX1_init_32 (by decide) ?_
  refine va_newa (atype := .byte) (ty := .byte) (N' := 6000) (a0 := (6000, .inl (fun _ => 0))) hx hb (hts (.arrayClass .byte) (by decide +kernel)) rfl hK hP hD hS hA (sr_ca_b 6000) (nI_pos (by omega)) (nI_clamp (by omega)) (by show 6000 * 1 ≤ 536870912; omega) (by show _ ≤ 7; omega) (by show _ ≤ 18007; omega) dX1_init_35 (fun b4 t4 H hK hP hD hS => ?_)
  have hK : va_K (dC, dI) vwCl [(t1, .int), (t2, .int), (t3, .byte), (t4, .byte)] s := hK
  have hP : va_P (dC, dI) vwCl [(y, .inr (1, [.ref b1, .ref b2, .ref b3, .null, .null, .null, .int 0, .int 0, .null, .int 0])), (b1, .inl (t1, 2000, .inl (fun _ => 0))), (b2, .inl (t2, 2000, .inl (fun _ => 0))), (b3, .inl (t3, 6000, .inl (fun _ => 0))), (b4, .inl (t4, 6000, .inl (fun _ => 0)))] H := hP
  have hD : va_D A [(y, .inr (1, [.ref b1, .ref b2, .ref b3, .null, .null, .null, .int 0, .int 0, .null, .int 0])), (b1, .inl (t1, 2000, .inl (fun _ => 0))), (b2, .inl (t2, 2000, .inl (fun _ => 0))), (b3, .inl (t3, 6000, .inl (fun _ => 0))), (b4, .inl (t4, 6000, .inl (fun _ => 0)))] := hD
  refine va_putF (D := (dC, dI)) (ci := 1) (v := .ref b4) (ty := (.array .byte)) (C := RX1) (T := TX1) (N := 10) hx hb hts hin1 tyX1 tyX1_ok nmX1 hown hK hP hD hS 0 rfl rfl 3 (by decide) (hts (.fieldLink RX1 20 "SpeedRowsModel" "lasts" "[B") (by decide +kernel)) (fun _ h9 => h9) rfl hin rfl (by decide +kernel) rfl rfl (Nat.le_of_ble_eq_true rfl) dX1_init_37 (fun H locs hP hD hS => ?_)
  have hP : va_P (dC, dI) vwCl [(y, .inr (1, [.ref b1, .ref b2, .ref b3, .ref b4, .null, .null, .int 0, .int 0, .null, .int 0])), (b1, .inl (t1, 2000, .inl (fun _ => 0))), (b2, .inl (t2, 2000, .inl (fun _ => 0))), (b3, .inl (t3, 6000, .inl (fun _ => 0))), (b4, .inl (t4, 6000, .inl (fun _ => 0)))] H := hP
  have hD : va_D A [(y, .inr (1, [.ref b1, .ref b2, .ref b3, .ref b4, .null, .null, .int 0, .int 0, .null, .int 0])), (b1, .inl (t1, 2000, .inl (fun _ => 0))), (b2, .inl (t2, 2000, .inl (fun _ => 0))), (b3, .inl (t3, 6000, .inl (fun _ => 0))), (b4, .inl (t4, 6000, .inl (fun _ => 0)))] := hD
  refine lv_aload_n hx hb dX1_init_40 rfl (lv_at hl 0 rfl) ?_
  refine lv_iconst (v := nI 3) hx hb dX1_init_41 (by decide) ?_
  refine va_newa (atype := .byte) (ty := .byte) (N' := 3) (a0 := (3, .inl (fun _ => 0))) hx hb (hts (.arrayClass .byte) (by decide +kernel)) rfl hK hP hD hS hA (sr_ca_b 3) (nI_pos (by omega)) (nI_clamp (by omega)) (by show 3 * 1 ≤ 536870912; omega) (by show _ ≤ 7; omega) (by show _ ≤ 18007; omega) dX1_init_42 (fun b5 t5 H hK hP hD hS => ?_)
  have hK : va_K (dC, dI) vwCl [(t1, .int), (t2, .int), (t3, .byte), (t4, .byte), (t5, .byte)] s := hK
  have hP : va_P (dC, dI) vwCl [(y, .inr (1, [.ref b1, .ref b2, .ref b3, .ref b4, .null, .null, .int 0, .int 0, .null, .int 0])), (b1, .inl (t1, 2000, .inl (fun _ => 0))), (b2, .inl (t2, 2000, .inl (fun _ => 0))), (b3, .inl (t3, 6000, .inl (fun _ => 0))), (b4, .inl (t4, 6000, .inl (fun _ => 0))), (b5, .inl (t5, 3, .inl (fun _ => 0)))] H := hP
  have hD : va_D A [(y, .inr (1, [.ref b1, .ref b2, .ref b3, .ref b4, .null, .null, .int 0, .int 0, .null, .int 0])), (b1, .inl (t1, 2000, .inl (fun _ => 0))), (b2, .inl (t2, 2000, .inl (fun _ => 0))), (b3, .inl (t3, 6000, .inl (fun _ => 0))), (b4, .inl (t4, 6000, .inl (fun _ => 0))), (b5, .inl (t5, 3, .inl (fun _ => 0)))] := hD
  refine va_putF (D := (dC, dI)) (ci := 1) (v := .ref b5) (ty := (.array .byte)) (C := RX1) (T := TX1) (N := 10) hx hb hts hin1 tyX1 tyX1_ok nmX1 hown hK hP hD hS 0 rfl rfl 4 (by decide) (hts (.fieldLink RX1 23 "SpeedRowsModel" "first" "[B") (by decide +kernel)) (fun _ h9 => h9) rfl hin rfl (by decide +kernel) rfl rfl (Nat.le_of_ble_eq_true rfl) dX1_init_44 (fun H locs hP hD hS => ?_)
  have hP : va_P (dC, dI) vwCl [(y, .inr (1, [.ref b1, .ref b2, .ref b3, .ref b4, .ref b5, .null, .int 0, .int 0, .null, .int 0])), (b1, .inl (t1, 2000, .inl (fun _ => 0))), (b2, .inl (t2, 2000, .inl (fun _ => 0))), (b3, .inl (t3, 6000, .inl (fun _ => 0))), (b4, .inl (t4, 6000, .inl (fun _ => 0))), (b5, .inl (t5, 3, .inl (fun _ => 0)))] H := hP
  have hD : va_D A [(y, .inr (1, [.ref b1, .ref b2, .ref b3, .ref b4, .ref b5, .null, .int 0, .int 0, .null, .int 0])), (b1, .inl (t1, 2000, .inl (fun _ => 0))), (b2, .inl (t2, 2000, .inl (fun _ => 0))), (b3, .inl (t3, 6000, .inl (fun _ => 0))), (b4, .inl (t4, 6000, .inl (fun _ => 0))), (b5, .inl (t5, 3, .inl (fun _ => 0)))] := hD
  refine lv_aload_n hx hb dX1_init_47 rfl (lv_at hl 0 rfl) ?_
  refine lv_iconst (v := nI 3) hx hb dX1_init_48 (by decide) ?_
  refine va_newa (atype := .byte) (ty := .byte) (N' := 3) (a0 := (3, .inl (fun _ => 0))) hx hb (hts (.arrayClass .byte) (by decide +kernel)) rfl hK hP hD hS hA (sr_ca_b 3) (nI_pos (by omega)) (nI_clamp (by omega)) (by show 3 * 1 ≤ 536870912; omega) (by show _ ≤ 7; omega) (by show _ ≤ 18007; omega) dX1_init_49 (fun b6 t6 H hK hP hD hS => ?_)
  have hK : va_K (dC, dI) vwCl [(t1, .int), (t2, .int), (t3, .byte), (t4, .byte), (t5, .byte), (t6, .byte)] s := hK
  have hP : va_P (dC, dI) vwCl [(y, .inr (1, [.ref b1, .ref b2, .ref b3, .ref b4, .ref b5, .null, .int 0, .int 0, .null, .int 0])), (b1, .inl (t1, 2000, .inl (fun _ => 0))), (b2, .inl (t2, 2000, .inl (fun _ => 0))), (b3, .inl (t3, 6000, .inl (fun _ => 0))), (b4, .inl (t4, 6000, .inl (fun _ => 0))), (b5, .inl (t5, 3, .inl (fun _ => 0))), (b6, .inl (t6, 3, .inl (fun _ => 0)))] H := hP
  have hD : va_D A [(y, .inr (1, [.ref b1, .ref b2, .ref b3, .ref b4, .ref b5, .null, .int 0, .int 0, .null, .int 0])), (b1, .inl (t1, 2000, .inl (fun _ => 0))), (b2, .inl (t2, 2000, .inl (fun _ => 0))), (b3, .inl (t3, 6000, .inl (fun _ => 0))), (b4, .inl (t4, 6000, .inl (fun _ => 0))), (b5, .inl (t5, 3, .inl (fun _ => 0))), (b6, .inl (t6, 3, .inl (fun _ => 0)))] := hD
  refine va_putF (D := (dC, dI)) (ci := 1) (v := .ref b6) (ty := (.array .byte)) (C := RX1) (T := TX1) (N := 10) hx hb hts hin1 tyX1 tyX1_ok nmX1 hown hK hP hD hS 0 rfl rfl 5 (by decide) (hts (.fieldLink RX1 26 "SpeedRowsModel" "last" "[B") (by decide +kernel)) (fun _ h9 => h9) rfl hin rfl (by decide +kernel) rfl rfl (Nat.le_of_ble_eq_true rfl) dX1_init_51 (fun H locs hP hD hS => ?_)
  have hP : va_P (dC, dI) vwCl [(y, .inr (1, [.ref b1, .ref b2, .ref b3, .ref b4, .ref b5, .ref b6, .int 0, .int 0, .null, .int 0])), (b1, .inl (t1, 2000, .inl (fun _ => 0))), (b2, .inl (t2, 2000, .inl (fun _ => 0))), (b3, .inl (t3, 6000, .inl (fun _ => 0))), (b4, .inl (t4, 6000, .inl (fun _ => 0))), (b5, .inl (t5, 3, .inl (fun _ => 0))), (b6, .inl (t6, 3, .inl (fun _ => 0)))] H := hP
  have hD : va_D A [(y, .inr (1, [.ref b1, .ref b2, .ref b3, .ref b4, .ref b5, .ref b6, .int 0, .int 0, .null, .int 0])), (b1, .inl (t1, 2000, .inl (fun _ => 0))), (b2, .inl (t2, 2000, .inl (fun _ => 0))), (b3, .inl (t3, 6000, .inl (fun _ => 0))), (b4, .inl (t4, 6000, .inl (fun _ => 0))), (b5, .inl (t5, 3, .inl (fun _ => 0))), (b6, .inl (t6, 3, .inl (fun _ => 0)))] := hD
  refine lv_aload_n hx hb dX1_init_54 rfl (lv_at hl 0 rfl) ?_
  refine lv_bipush (v := nI 100) hx hb dX1_init_55 (by decide) ?_
  refine va_put (D := (dC, dI)) (ci := 1) (v := .int (nI 100)) (ty := .int) (C := RX1) (T := TX1) (N := 10) hx hb hts hin1 tyX1 tyX1_ok nmX1 hown hK hP hD hS 0 rfl rfl 7 (by decide) (hts (.fieldLink RX1 29 "SpeedRowsModel" "most" "I") (by decide +kernel)) (fun _ h9 => h9) rfl (by decide +kernel) rfl rfl (Nat.le_of_ble_eq_true rfl) dX1_init_57 (fun H locs hP hD hS => ?_)
  have hP : va_P (dC, dI) vwCl [(y, .inr (1, [.ref b1, .ref b2, .ref b3, .ref b4, .ref b5, .ref b6, .int 0, .int (nI 100), .null, .int 0])), (b1, .inl (t1, 2000, .inl (fun _ => 0))), (b2, .inl (t2, 2000, .inl (fun _ => 0))), (b3, .inl (t3, 6000, .inl (fun _ => 0))), (b4, .inl (t4, 6000, .inl (fun _ => 0))), (b5, .inl (t5, 3, .inl (fun _ => 0))), (b6, .inl (t6, 3, .inl (fun _ => 0)))] H := hP
  have hD : va_D A [(y, .inr (1, [.ref b1, .ref b2, .ref b3, .ref b4, .ref b5, .ref b6, .int 0, .int (nI 100), .null, .int 0])), (b1, .inl (t1, 2000, .inl (fun _ => 0))), (b2, .inl (t2, 2000, .inl (fun _ => 0))), (b3, .inl (t3, 6000, .inl (fun _ => 0))), (b4, .inl (t4, 6000, .inl (fun _ => 0))), (b5, .inl (t5, 3, .inl (fun _ => 0))), (b6, .inl (t6, 3, .inl (fun _ => 0)))] := hD
  refine lv_aload_n hx hb dX1_init_60 rfl (lv_at hl 0 rfl) ?_
  refine lv_sipush (v := nI 2001) hx hb dX1_init_61 (by decide) ?_
  refine va_newa (atype := .int) (ty := .int) (N' := 2001) (a0 := (2001, .inl (fun _ => 0))) hx hb (hts (.arrayClass .int) (by decide +kernel)) rfl hK hP hD hS hA (sr_ca_i 2001) (nI_pos (by omega)) (nI_clamp (by omega)) (by show 2001 * 4 ≤ 536870912; omega) (by show _ ≤ 7; omega) (by show _ ≤ 18007; omega) dX1_init_64 (fun b7 t7 H hK hP hD hS => ?_)
  have hK : va_K (dC, dI) vwCl [(t1, .int), (t2, .int), (t3, .byte), (t4, .byte), (t5, .byte), (t6, .byte), (t7, .int)] s := hK
  have hP : va_P (dC, dI) vwCl [(y, .inr (1, [.ref b1, .ref b2, .ref b3, .ref b4, .ref b5, .ref b6, .int 0, .int (nI 100), .null, .int 0])), (b1, .inl (t1, 2000, .inl (fun _ => 0))), (b2, .inl (t2, 2000, .inl (fun _ => 0))), (b3, .inl (t3, 6000, .inl (fun _ => 0))), (b4, .inl (t4, 6000, .inl (fun _ => 0))), (b5, .inl (t5, 3, .inl (fun _ => 0))), (b6, .inl (t6, 3, .inl (fun _ => 0))), (b7, .inl (t7, 2001, .inl (fun _ => 0)))] H := hP
  have hD : va_D A [(y, .inr (1, [.ref b1, .ref b2, .ref b3, .ref b4, .ref b5, .ref b6, .int 0, .int (nI 100), .null, .int 0])), (b1, .inl (t1, 2000, .inl (fun _ => 0))), (b2, .inl (t2, 2000, .inl (fun _ => 0))), (b3, .inl (t3, 6000, .inl (fun _ => 0))), (b4, .inl (t4, 6000, .inl (fun _ => 0))), (b5, .inl (t5, 3, .inl (fun _ => 0))), (b6, .inl (t6, 3, .inl (fun _ => 0))), (b7, .inl (t7, 2001, .inl (fun _ => 0)))] := hD
  refine va_putF (D := (dC, dI)) (ci := 1) (v := .ref b7) (ty := (.array .int)) (C := RX1) (T := TX1) (N := 10) hx hb hts hin1 tyX1 tyX1_ok nmX1 hown hK hP hD hS 0 rfl rfl 8 (by decide) (hts (.fieldLink RX1 33 "SpeedRowsModel" "speeds" "[I") (by decide +kernel)) (fun _ h9 => h9) rfl hin rfl (by decide +kernel) rfl rfl (Nat.le_of_ble_eq_true rfl) dX1_init_66 (fun H locs hP hD hS => ?_)
  have hP : va_P (dC, dI) vwCl [(y, .inr (1, [.ref b1, .ref b2, .ref b3, .ref b4, .ref b5, .ref b6, .int 0, .int (nI 100), .ref b7, .int 0])), (b1, .inl (t1, 2000, .inl (fun _ => 0))), (b2, .inl (t2, 2000, .inl (fun _ => 0))), (b3, .inl (t3, 6000, .inl (fun _ => 0))), (b4, .inl (t4, 6000, .inl (fun _ => 0))), (b5, .inl (t5, 3, .inl (fun _ => 0))), (b6, .inl (t6, 3, .inl (fun _ => 0))), (b7, .inl (t7, 2001, .inl (fun _ => 0)))] H := hP
  have hD : va_D A [(y, .inr (1, [.ref b1, .ref b2, .ref b3, .ref b4, .ref b5, .ref b6, .int 0, .int (nI 100), .ref b7, .int 0])), (b1, .inl (t1, 2000, .inl (fun _ => 0))), (b2, .inl (t2, 2000, .inl (fun _ => 0))), (b3, .inl (t3, 6000, .inl (fun _ => 0))), (b4, .inl (t4, 6000, .inl (fun _ => 0))), (b5, .inl (t5, 3, .inl (fun _ => 0))), (b6, .inl (t6, 3, .inl (fun _ => 0))), (b7, .inl (t7, 2001, .inl (fun _ => 0)))] := hD
  refine W.widen (k := 7) (n := 18007) (by omega) (by omega) ?_
  refine lv_aload_n hx hb dX1_init_69 rfl (lv_at hl 0 rfl) ?_
  refine va_get (D := (dC, dI)) (ci := 1) (v := .ref b5) (C := RX1) (T := TX1) (N := 10) hx hb hts hin1 hown hK hP 0 rfl rfl 4 (by decide) (hts (.fieldLink RX1 23 "SpeedRowsModel" "first" "[B") (by decide +kernel)) (fun _ h9 => h9) rfl dX1_init_70 ?_
  refine lv_iconst (v := nI 0) hx hb dX1_init_73 (by decide) ?_
  refine lv_iconst (v := 1) hx hb dX1_init_74 (by decide) ?_
  refine sr_bast (v := 1) hx hb hK hP hD hS 5 4 rfl rfl (by decide) (by decide) (by decide) dX1_init_75 (fun H locs hP hD hS => ?_)
  have hP : va_P (dC, dI) vwCl [(y, .inr (1, [.ref b1, .ref b2, .ref b3, .ref b4, .ref b5, .ref b6, .int 0, .int (nI 100), .ref b7, .int 0])), (b1, .inl (t1, 2000, .inl (fun _ => 0))), (b2, .inl (t2, 2000, .inl (fun _ => 0))), (b3, .inl (t3, 6000, .inl (fun _ => 0))), (b4, .inl (t4, 6000, .inl (fun _ => 0))), (b5, .inl (t5, 3, .inl (upd (fun _ => 0) 0 1))), (b6, .inl (t6, 3, .inl (fun _ => 0))), (b7, .inl (t7, 2001, .inl (fun _ => 0)))] H := hP
  have hD : va_D A [(y, .inr (1, [.ref b1, .ref b2, .ref b3, .ref b4, .ref b5, .ref b6, .int 0, .int (nI 100), .ref b7, .int 0])), (b1, .inl (t1, 2000, .inl (fun _ => 0))), (b2, .inl (t2, 2000, .inl (fun _ => 0))), (b3, .inl (t3, 6000, .inl (fun _ => 0))), (b4, .inl (t4, 6000, .inl (fun _ => 0))), (b5, .inl (t5, 3, .inl (upd (fun _ => 0) 0 1))), (b6, .inl (t6, 3, .inl (fun _ => 0))), (b7, .inl (t7, 2001, .inl (fun _ => 0)))] := hD
  refine lv_aload_n hx hb dX1_init_76 rfl (lv_at hl 0 rfl) ?_
  refine va_get (D := (dC, dI)) (ci := 1) (v := .ref b6) (C := RX1) (T := TX1) (N := 10) hx hb hts hin1 hown hK hP 0 rfl rfl 5 (by decide) (hts (.fieldLink RX1 26 "SpeedRowsModel" "last" "[B") (by decide +kernel)) (fun _ h9 => h9) rfl dX1_init_77 ?_
  refine lv_iconst (v := nI 0) hx hb dX1_init_80 (by decide) ?_
  refine lv_iconst (v := 1) hx hb dX1_init_81 (by decide) ?_
  refine sr_bast (v := 1) hx hb hK hP hD hS 6 5 rfl rfl (by decide) (by decide) (by decide) dX1_init_82 (fun H locs hP hD hS => ?_)
  have hP : va_P (dC, dI) vwCl [(y, .inr (1, [.ref b1, .ref b2, .ref b3, .ref b4, .ref b5, .ref b6, .int 0, .int (nI 100), .ref b7, .int 0])), (b1, .inl (t1, 2000, .inl (fun _ => 0))), (b2, .inl (t2, 2000, .inl (fun _ => 0))), (b3, .inl (t3, 6000, .inl (fun _ => 0))), (b4, .inl (t4, 6000, .inl (fun _ => 0))), (b5, .inl (t5, 3, .inl (upd (fun _ => 0) 0 1))), (b6, .inl (t6, 3, .inl (upd (fun _ => 0) 0 1))), (b7, .inl (t7, 2001, .inl (fun _ => 0)))] H := hP
  have hD : va_D A [(y, .inr (1, [.ref b1, .ref b2, .ref b3, .ref b4, .ref b5, .ref b6, .int 0, .int (nI 100), .ref b7, .int 0])), (b1, .inl (t1, 2000, .inl (fun _ => 0))), (b2, .inl (t2, 2000, .inl (fun _ => 0))), (b3, .inl (t3, 6000, .inl (fun _ => 0))), (b4, .inl (t4, 6000, .inl (fun _ => 0))), (b5, .inl (t5, 3, .inl (upd (fun _ => 0) 0 1))), (b6, .inl (t6, 3, .inl (upd (fun _ => 0) 0 1))), (b7, .inl (t7, 2001, .inl (fun _ => 0)))] := hD
  exact W.vret hx hb hr (fun t ht hW => ⟨⟨(_, _), rfl, ⟨b1, b2, b3, b4, b5, b6, b7, t1, t2, t3, t4, t5, t6, t7, rfl⟩, by rw [ht]; exact hP, va_K.moved hW.alike hK, hD⟩, hS.F ht⟩) hS.2.2 dX1_init_83
end
section
/-! THE CLAIM OUT OF ONE WALK OF THE LAW'S BODY. Your part is whole_start (and what it stands on); all else here is the same for every law, but numbers. -/
def R_law : String := "SpeedRowsLaw"
def lw_P (b : Addr) (xs : List Int32) (args : Array Value) (s : State) : Prop := args = #[.ref b] ∧ s.IntsAt b xs ∧ xs.length ≤ 2048 ∧ (Jvm.Cond.and given_1 narrow_1).before args s = true
def lw_Q (_ : Array Value) (s : State) (o : Outcome) (t : State) : Prop := o = .returned (some (.int 1)) ∧ Framed s o t [] 14 28028
def lw_Z (below : List Frame) (a : Array Value) (s : State) : State → Prop := fun t => ∃ o, t.status = .running ∧ Ended t below o ∧ lw_Q a s o t
/-- the law's own end, with 1 on the stack, nothing written that was there before, its room as the claim has it -/
theorem lw_ret {p : Program} {l : Launch} {e : Env} {s : State} {m : MethodId} {below : List Frame} {meth : Method} {c : Code} {b : Nat} (hx : p.tables.exec = Jvm.exec) (hb : c.code = code) (hr : meth.sig.returnType = ret) (hlocks : meth.locks = false) {pc : Nat} {H : Heap} {ls : Array Slot} (hdg : decode code pc = .ok (.ireturn, 1)) : W p l e room_1 s m #[Value.ref b] below meth c H [] 14 28028 (lw_Z below #[Value.ref b] s) (F0 m pc ls [.int 1]) := by
  intro T hT X
  obtain ⟨fs, hret, hrun, hended, hW, hframe⟩ := X.leave (v := some (.int 1)) (hlocks := hlocks) (fun h => by rw [hr] at h; cases h)
  have hmeth' : T.vm.method? m = some meth := X.method'
  refine ⟨T.setFrames fs, ?_, .returned (some (.int 1)), hrun, hended, rfl, ⟨_, rfl⟩, hW, hframe⟩
  jvm_step X.here [X.here.top, hx, hb, hdg, hmeth', hr, ret, narrow_b1]
  (try refine ⟨rfl, ?_⟩); (try refine ⟨rfl, ?_⟩)
  first | (intro acts; rw [hret _ acts rfl rfl rfl]) | rw [hret _ _ rfl rfl rfl]
  exact Steps.refl _
/-- what holds at the law's entry: the machine, the code, the tables' words (any of lw_tbl by 'hts w (by decide +kernel)'), the script of L ints xs at the cell b, what the Statement gives of the start (any of its parts by flat_of_before) -/
def lw_At (p : Program) (s : State) (m : MethodId) (meth : Method) (c : Code) (b L : Nat) (xs : Nat → Int32) : Prop :=
  p.tables.exec = Jvm.exec ∧ c.code = code ∧ meth.sig.returnType = ret ∧ c.maxLocals = 4 ∧ s.vm.findClass R_law = some m.cls ∧ (∀ w ∈ lw_tbl, w.before #[Value.ref b] s = true) ∧ va_X b L xs s s.heap ∧ b < s.heap.size ∧ meth.locks = false ∧ (Jvm.Cond.and given_1 narrow_1).before #[Value.ref b] s = true
end
section
/-! THE LAW: one step for each kind of call. -/
def lw_I (dC : Nat → ClassId) (dI : Nat → Nat → Nat) (x a1 a2 a3 a4 a5 : Nat) (z1 z2 z3 z4 z5 : ClassId) (y b1 b2 b3 b4 b5 b6 b7 : Nat) (t1 t2 t3 t4 t5 t6 t7 : ClassId) (A : Nat → Prop) (H0 H : Heap) (locs : List Loc) : Prop := ∃ (mo cf cl ac : Nat) (tk fd fs la : Nat → Nat) (st : Int32) (T F G Lm S : Nat → Int32) (kn : Int32) (T2 F2 I J U V S2 : Nat → Int32), (sr_G mo ac cf cl tk fd fs la ∧ sr_XI mo tk fd fs la T F G Lm ∧ sr_XS mo ac tk fd fs la st S ∧ sr_MI mo cf cl tk fd fs la T2 F2 I J U V ∧ sr_XS mo ac tk fd fs la kn S2) ∧ va_P (dC, dI) vwCl (sr_wX x a1 a2 a3 a4 a5 z1 z2 z3 z4 z5 mo cf cl ac st T F G Lm S ++ sr_wM y b1 b2 b3 b4 b5 b6 b7 t1 t2 t3 t4 t5 t6 t7 mo ac kn T2 F2 I J U V S2) H ∧ va_D A (sr_wX x a1 a2 a3 a4 a5 z1 z2 z3 z4 z5 mo cf cl ac st T F G Lm S ++ sr_wM y b1 b2 b3 b4 b5 b6 b7 t1 t2 t3 t4 t5 t6 t7 mo ac kn T2 F2 I J U V S2) ∧ va_S A H0 H locs
theorem sr_rng {a M : Int32} {k : Nat} (hM : M.toInt = k) (hk : k < 2 ^ 31) (h1 : 1 ≤ a) (h2 : a ≤ M) : 1 ≤ a.toNatClampNeg ∧ a.toNatClampNeg ≤ k := by
  obtain ⟨j, hj, rfl⟩ : ∃ j, j ≤ k ∧ a = nI j := nI_of2 hM (fun q => absurd (Int32.lt_of_lt_of_le q (by decide : (0 : Int32) ≤ 1)) (Int32.not_lt.mpr h1)) h2
  rw [nI_clamp (by omega)]
  refine ⟨?_, hj⟩
  rcases Nat.eq_zero_or_pos j with q | q
  · subst q
    exact absurd h1 (by decide)
  · exact q
theorem sr_rng0 {a : Int32} {mo : Nat} (hmo : mo ≤ 2000) (h : 0 ≤ a ∧ a ≤ nI mo) : a.toNatClampNeg ≤ mo := by
  obtain ⟨j, hj, rfl⟩ : ∃ j, j ≤ mo ∧ a = nI j := nI_of2 (nI_toInt (by omega)) (Int32.not_lt.mpr h.1) h.2
  rw [nI_clamp (by omega)]
  exact hj
theorem sr_G_push {mo ac cf cl n f : Nat} {tk fd fs la : Nat → Nat} (g : sr_G mo ac cf cl tk fd fs la) (hm : mo < 2000) (hn : 1 ≤ n ∧ n ≤ 100000) (hf : 1 ≤ f ∧ f ≤ 99999) : sr_G (mo + 1) ac cf cl (sr_up tk mo n) (sr_up fd mo f) (sr_up fs mo cf) (sr_up la mo cl) := by
  obtain ⟨hmo, hac, hcf, hcl, hpath⟩ := g
  refine ⟨hm, hac, hcf, hcl, fun i hi => ?_⟩
  rcases Nat.lt_or_ge i mo with h | h
  · have e : i ≠ mo := by omega
    rw [sr_up_n e, sr_up_n e, sr_up_n e, sr_up_n e]
    exact hpath i h
  · obtain rfl : i = mo := by omega
    rw [sr_up_s, sr_up_s, sr_up_s, sr_up_s]
    exact ⟨hn, hf, hcf, hcl⟩
theorem sr_G_le {mo k ac cf cl : Nat} {tk fd fs la : Nat → Nat} (g : sr_G mo ac cf cl tk fd fs la) (h : k ≤ mo) : sr_G k ac cf cl tk fd fs la := ⟨Nat.le_trans h g.1, g.2.1, g.2.2.1, g.2.2.2.1, fun i hi => g.2.2.2.2 i (Nat.lt_of_lt_of_le hi h)⟩
theorem sr_XI_le {mo k : Nat} {tk fd fs la : Nat → Nat} {T F G L : Nat → Int32} (hI : sr_XI mo tk fd fs la T F G L) (h : k ≤ mo) : sr_XI k tk fd fs la T F G L := fun i hi => hI i (Nat.lt_of_lt_of_le hi h)
theorem sr_MI_le {mo k cf cl : Nat} {tk fd fs la : Nat → Nat} {T F I J U V : Nat → Int32} (hM : sr_MI mo cf cl tk fd fs la T F I J U V) (h : k ≤ mo) : sr_MI k cf cl tk fd fs la T F I J U V := ⟨fun i hi => hM.1 i (Nat.lt_of_lt_of_le hi h), hM.2⟩
theorem sr_head {i L : Nat} (hi : i < 2 ^ 30) (hL : L < 2 ^ 30) : nI L - nI 4 < nI i ↔ L < i + 4 := by
  rw [Int32.lt_iff_toInt_lt, pk_sub_toInt hL (by decide), nI_toInt (by omega)]
  omega
set_option maxHeartbeats 4000000 in
set_option maxRecDepth 100000 in
/-- case 0: first -/
theorem lw_c0 {p : Program} {l : Launch} {e : Env} {s : State} {m : MethodId} {below : List Frame} {meth : Method} {c : Code} {Q : State → Prop} {b L : Nat} {xs : Nat → Int32} (hL : L ≤ 2048) (C0 : lw_At p s m meth c b L xs) {dC : Nat → ClassId} {dI : Nat → Nat → Nat} {x a1 a2 a3 a4 a5 : Nat} {z1 z2 z3 z4 z5 : ClassId} {y b1 b2 b3 b4 b5 b6 b7 : Nat} {t1 t2 t3 t4 t5 t6 t7 : ClassId} (hK : va_K (dC, dI) vwCl (sr_tX z1 z2 z3 z4 z5 ++ sr_tM t1 t2 t3 t4 t5 t6 t7) s) {i : Nat} (hi : i + 4 ≤ L)
    (hk : ∀ (H : Heap) (locs : List Loc) (ls : Array Slot), lw_I dC dI x a1 a2 a3 a4 a5 z1 z2 z3 z4 z5 y b1 b2 b3 b4 b5 b6 b7 t1 t2 t3 t4 t5 t6 t7 (fun q : Nat => s.heap.size ≤ q) s.heap H locs → lv_has ls 4 [(0, .ref b), (1, .ref x), (2, .ref y), (3, .int (nI i))] → W p l e room_1 s m #[Value.ref b] below meth c H locs 14 28028 Q (F0 m 322 ls [])) (H : Heap) (locs : List Loc) (ls : Array Slot) (hJ : lw_I dC dI x a1 a2 a3 a4 a5 z1 z2 z3 z4 z5 y b1 b2 b3 b4 b5 b6 b7 t1 t2 t3 t4 t5 t6 t7 (fun q : Nat => s.heap.size ≤ q) s.heap H locs) (hl : lv_has ls 4 [(0, .ref b), (1, .ref x), (2, .ref y), (3, .int (nI i))]) : W p l e room_1 s m #[Value.ref b] below meth c H locs 14 28028 Q (F0 m 84 ls []) := by
  obtain ⟨hx, hb, hr, hml, hown, hts, hX, hbl, hlocks, hgv⟩ := C0
  have hown : s.vm.findClass RL = some m.cls := hown
  have hts := fun w h => hts w (wsL_law_in w h)
  have hA : ∀ q : Nat, s.heap.size ≤ q → (fun q : Nat => s.heap.size ≤ q) q := fun _ h => h
  have hbA : ¬ (fun q : Nat => s.heap.size ≤ q) b := Nat.not_le.mpr hbl
  obtain ⟨mo, cf, cl, ac, tk, fd, fs, la, st, T, F, G, Lm, S, kn, T2, F2, I, J, U, V, S2, ⟨g, hI, hQ, hM, hQ2⟩, hP, hD, hS⟩ := hJ
  have hK : va_K (dC, dI) vwCl [(z1, .int), (z2, .int), (z3, .int), (z4, .int), (z5, .int), (t1, .int), (t2, .int), (t3, .byte), (t4, .byte), (t5, .byte), (t6, .byte), (t7, .int)] s := hK
  have hP : va_P (dC, dI) vwCl [(x, .inr (0, [.ref a1, .ref a2, .ref a3, .ref a4, .ref a5, .int (nI mo), .int (nI cf), .int (nI cl), .int (nI ac), .int st])), (a1, .inl (z1, 2000, .inl T)), (a2, .inl (z2, 2000, .inl F)), (a3, .inl (z3, 2000, .inl G)), (a4, .inl (z4, 2000, .inl Lm)), (a5, .inl (z5, 2001, .inl S)), (y, .inr (1, [.ref b1, .ref b2, .ref b3, .ref b4, .ref b5, .ref b6, .int (nI mo), .int (nI ac), .ref b7, .int kn])), (b1, .inl (t1, 2000, .inl T2)), (b2, .inl (t2, 2000, .inl F2)), (b3, .inl (t3, 6000, .inl I)), (b4, .inl (t4, 6000, .inl J)), (b5, .inl (t5, 3, .inl U)), (b6, .inl (t6, 3, .inl V)), (b7, .inl (t7, 2001, .inl S2))] H := hP
  have hD : va_D (fun q : Nat => s.heap.size ≤ q) [(x, .inr (0, [.ref a1, .ref a2, .ref a3, .ref a4, .ref a5, .int (nI mo), .int (nI cf), .int (nI cl), .int (nI ac), .int st])), (a1, .inl (z1, 2000, .inl T)), (a2, .inl (z2, 2000, .inl F)), (a3, .inl (z3, 2000, .inl G)), (a4, .inl (z4, 2000, .inl Lm)), (a5, .inl (z5, 2001, .inl S)), (y, .inr (1, [.ref b1, .ref b2, .ref b3, .ref b4, .ref b5, .ref b6, .int (nI mo), .int (nI ac), .ref b7, .int kn])), (b1, .inl (t1, 2000, .inl T2)), (b2, .inl (t2, 2000, .inl F2)), (b3, .inl (t3, 6000, .inl I)), (b4, .inl (t4, 6000, .inl J)), (b5, .inl (t5, 3, .inl U)), (b6, .inl (t6, 3, .inl V)), (b7, .inl (t7, 2001, .inl S2))] := hD
  have hmo : mo ≤ 2000 := g.1
  by_cases hV : sr_isS (xs (i + 1)) (xs (i + 2)) (xs (i + 3))
  · refine lv_aload_n hx hb dL_law_84 rfl (lv_at hl 1 rfl) ?_
    refine lv_aload_n hx hb dL_law_85 rfl (lv_at hl 0 rfl) ?_
    refine lv_iload_n hx hb dL_law_86 rfl (lv_at hl 3 rfl) ?_
    refine lv_iconst (v := nI 1) hx hb dL_law_87 (by decide) ?_
    refine lv_iadd hx hb dL_law_88 ?_
    refine sr_ti (y := nI (i + 1)) (nI_add _ _) ?_
    refine sr_sld hx hb hX hbl hbA hS (by omega) (by omega) dL_law_89 ?_
    refine lv_aload_n hx hb dL_law_90 rfl (lv_at hl 0 rfl) ?_
    refine lv_iload_n hx hb dL_law_91 rfl (lv_at hl 3 rfl) ?_
    refine lv_iconst (v := nI 2) hx hb dL_law_92 (by decide) ?_
    refine lv_iadd hx hb dL_law_93 ?_
    refine sr_ti (y := nI (i + 2)) (nI_add _ _) ?_
    refine sr_sld hx hb hX hbl hbA hS (by omega) (by omega) dL_law_94 ?_
    refine lv_aload_n hx hb dL_law_95 rfl (lv_at hl 0 rfl) ?_
    refine lv_iload_n hx hb dL_law_96 rfl (lv_at hl 3 rfl) ?_
    refine lv_iconst (v := nI 3) hx hb dL_law_97 (by decide) ?_
    refine lv_iadd hx hb dL_law_98 ?_
    refine sr_ti (y := nI (i + 3)) (nI_add _ _) ?_
    refine sr_sld hx hb hX hbl hbA hS (by omega) (by omega) dL_law_99 ?_
    have hPc := hP.sub (ws' := [(x, .inr (0, [.ref a1, .ref a2, .ref a3, .ref a4, .ref a5, .int (nI mo), .int (nI cf), .int (nI cl), .int (nI ac), .int st])), (a1, .inl (z1, 2000, .inl T)), (a2, .inl (z2, 2000, .inl F)), (a3, .inl (z3, 2000, .inl G)), (a4, .inl (z4, 2000, .inl Lm)), (a5, .inl (z5, 2001, .inl S))]) [0, 1, 2, 3, 4, 5] rfl
    have hDc := hD.sub (ws' := [(x, .inr (0, [.ref a1, .ref a2, .ref a3, .ref a4, .ref a5, .int (nI mo), .int (nI cf), .int (nI cl), .int (nI ac), .int st])), (a1, .inl (z1, 2000, .inl T)), (a2, .inl (z2, 2000, .inl F)), (a3, .inl (z3, 2000, .inl G)), (a4, .inl (z4, 2000, .inl Lm)), (a5, .inl (z5, 2001, .inl S))]) [0, 1, 2, 3, 4, 5] (by decide) rfl
    have hKc := hK.sub (tys' := [(z1, .int), (z2, .int), (z3, .int), (z4, .int), (z5, .int)]) [0, 1, 2, 3, 4] rfl
    have hFc := va_free (wc := [(x, .inr (0, [.ref a1, .ref a2, .ref a3, .ref a4, .ref a5, .int (nI mo), .int (nI cf), .int (nI cl), .int (nI ac), .int st])), (a1, .inl (z1, 2000, .inl T)), (a2, .inl (z2, 2000, .inl F)), (a3, .inl (z3, 2000, .inl G)), (a4, .inl (z4, 2000, .inl Lm)), (a5, .inl (z5, 2001, .inl S))]) hD hS hA [0, 1, 2, 3, 4, 5] rfl
    refine va_calli (va_runV (As := [.int (xs (i + 1)), .int (xs (i + 2)), .int (xs (i + 3))]) (rest := []) ⟨hx, hb, hml, hown, hts⟩ (c_X0_first l dC dI x a1 a2 a3 a4 a5 z1 z2 z3 z4 z5 H.size mo cf cl ac st T F G Lm S (xs (i + 1)) (xs (i + 2)) (xs (i + 3))) (cwV 3 hts gL_law_X0_first rfl rfl rfl (by decide +kernel) ⟨Nat.le_of_ble_eq_true rfl, Nat.le_of_ble_eq_true rfl⟩) ⟨sr_blind, va_recv hKc hPc (ci := 0) (q0 := 0) rfl rfl, sr_mk hPc hKc hDc⟩ rfl rfl hl.1 rfl (lv_room (Nat.le_of_ble_eq_true rfl)) dL_law_100 ⟨by show _ ≤ 14; omega, by show _ ≤ 28028; omega⟩) hS (fun q _ h => hFc q h) hFc (fun r1 u t H1 locs ht hvm hw hB hz1 hk1 hS => ?_)
    obtain ⟨hP1, hK1, hD1⟩ := hB
    rw [ht] at hP1
    obtain ⟨-, rfl, q, hq, e1, e2, e3, rfl⟩ := hw.resolve_right (fun q => q.1 hV)
    obtain ⟨hP, hD⟩ := va_join (wr := [(y, .inr (1, [.ref b1, .ref b2, .ref b3, .ref b4, .ref b5, .ref b6, .int (nI mo), .int (nI ac), .ref b7, .int kn])), (b1, .inl (t1, 2000, .inl T2)), (b2, .inl (t2, 2000, .inl F2)), (b3, .inl (t3, 6000, .inl I)), (b4, .inl (t4, 6000, .inl J)), (b5, .inl (t5, 3, .inl U)), (b6, .inl (t6, 3, .inl V)), (b7, .inl (t7, 2001, .inl S2))]) (w1 := [(x, .inr (0, [.ref a1, .ref a2, .ref a3, .ref a4, .ref a5, .int (nI mo), .int (nI q), .int (nI cl), .int (nI ac), .int st])), (a1, .inl (z1, 2000, .inl T)), (a2, .inl (z2, 2000, .inl F)), (a3, .inl (z3, 2000, .inl G)), (a4, .inl (z4, 2000, .inl Lm)), (a5, .inl (z5, 2001, .inl S))]) hP hD [0, 1, 2, 3, 4, 5] [6, 7, 8, 9, 10, 11, 12, 13] rfl rfl (by decide) (by decide) hk1 hFc hP1 hD1
    generalize H1 = H at hP hS ⊢
    have hP : va_P (dC, dI) vwCl [(y, .inr (1, [.ref b1, .ref b2, .ref b3, .ref b4, .ref b5, .ref b6, .int (nI mo), .int (nI ac), .ref b7, .int kn])), (b1, .inl (t1, 2000, .inl T2)), (b2, .inl (t2, 2000, .inl F2)), (b3, .inl (t3, 6000, .inl I)), (b4, .inl (t4, 6000, .inl J)), (b5, .inl (t5, 3, .inl U)), (b6, .inl (t6, 3, .inl V)), (b7, .inl (t7, 2001, .inl S2)), (x, .inr (0, [.ref a1, .ref a2, .ref a3, .ref a4, .ref a5, .int (nI mo), .int (nI q), .int (nI cl), .int (nI ac), .int st])), (a1, .inl (z1, 2000, .inl T)), (a2, .inl (z2, 2000, .inl F)), (a3, .inl (z3, 2000, .inl G)), (a4, .inl (z4, 2000, .inl Lm)), (a5, .inl (z5, 2001, .inl S))] H := hP
    have hD : va_D (fun q : Nat => s.heap.size ≤ q) [(y, .inr (1, [.ref b1, .ref b2, .ref b3, .ref b4, .ref b5, .ref b6, .int (nI mo), .int (nI ac), .ref b7, .int kn])), (b1, .inl (t1, 2000, .inl T2)), (b2, .inl (t2, 2000, .inl F2)), (b3, .inl (t3, 6000, .inl I)), (b4, .inl (t4, 6000, .inl J)), (b5, .inl (t5, 3, .inl U)), (b6, .inl (t6, 3, .inl V)), (b7, .inl (t7, 2001, .inl S2)), (x, .inr (0, [.ref a1, .ref a2, .ref a3, .ref a4, .ref a5, .int (nI mo), .int (nI q), .int (nI cl), .int (nI ac), .int st])), (a1, .inl (z1, 2000, .inl T)), (a2, .inl (z2, 2000, .inl F)), (a3, .inl (z3, 2000, .inl G)), (a4, .inl (z4, 2000, .inl Lm)), (a5, .inl (z5, 2001, .inl S))] := hD
    refine lv_aload_n hx hb dL_law_103 rfl (lv_at hl 2 rfl) ?_
    refine lv_aload_n hx hb dL_law_104 rfl (lv_at hl 0 rfl) ?_
    refine lv_iload_n hx hb dL_law_105 rfl (lv_at hl 3 rfl) ?_
    refine lv_iconst (v := nI 1) hx hb dL_law_106 (by decide) ?_
    refine lv_iadd hx hb dL_law_107 ?_
    refine sr_ti (y := nI (i + 1)) (nI_add _ _) ?_
    refine sr_sld hx hb hX hbl hbA hS (by omega) (by omega) dL_law_108 ?_
    refine lv_aload_n hx hb dL_law_109 rfl (lv_at hl 0 rfl) ?_
    refine lv_iload_n hx hb dL_law_110 rfl (lv_at hl 3 rfl) ?_
    refine lv_iconst (v := nI 2) hx hb dL_law_111 (by decide) ?_
    refine lv_iadd hx hb dL_law_112 ?_
    refine sr_ti (y := nI (i + 2)) (nI_add _ _) ?_
    refine sr_sld hx hb hX hbl hbA hS (by omega) (by omega) dL_law_113 ?_
    refine lv_aload_n hx hb dL_law_114 rfl (lv_at hl 0 rfl) ?_
    refine lv_iload_n hx hb dL_law_115 rfl (lv_at hl 3 rfl) ?_
    refine lv_iconst (v := nI 3) hx hb dL_law_116 (by decide) ?_
    refine lv_iadd hx hb dL_law_117 ?_
    refine sr_ti (y := nI (i + 3)) (nI_add _ _) ?_
    refine sr_sld hx hb hX hbl hbA hS (by omega) (by omega) dL_law_118 ?_
    have hPc := hP.sub (ws' := [(y, .inr (1, [.ref b1, .ref b2, .ref b3, .ref b4, .ref b5, .ref b6, .int (nI mo), .int (nI ac), .ref b7, .int kn])), (b1, .inl (t1, 2000, .inl T2)), (b2, .inl (t2, 2000, .inl F2)), (b3, .inl (t3, 6000, .inl I)), (b4, .inl (t4, 6000, .inl J)), (b5, .inl (t5, 3, .inl U)), (b6, .inl (t6, 3, .inl V)), (b7, .inl (t7, 2001, .inl S2))]) [0, 1, 2, 3, 4, 5, 6, 7] rfl
    have hDc := hD.sub (ws' := [(y, .inr (1, [.ref b1, .ref b2, .ref b3, .ref b4, .ref b5, .ref b6, .int (nI mo), .int (nI ac), .ref b7, .int kn])), (b1, .inl (t1, 2000, .inl T2)), (b2, .inl (t2, 2000, .inl F2)), (b3, .inl (t3, 6000, .inl I)), (b4, .inl (t4, 6000, .inl J)), (b5, .inl (t5, 3, .inl U)), (b6, .inl (t6, 3, .inl V)), (b7, .inl (t7, 2001, .inl S2))]) [0, 1, 2, 3, 4, 5, 6, 7] (by decide) rfl
    have hKc := hK.sub (tys' := [(t1, .int), (t2, .int), (t3, .byte), (t4, .byte), (t5, .byte), (t6, .byte), (t7, .int)]) [5, 6, 7, 8, 9, 10, 11] rfl
    have hFc := va_free (wc := [(y, .inr (1, [.ref b1, .ref b2, .ref b3, .ref b4, .ref b5, .ref b6, .int (nI mo), .int (nI ac), .ref b7, .int kn])), (b1, .inl (t1, 2000, .inl T2)), (b2, .inl (t2, 2000, .inl F2)), (b3, .inl (t3, 6000, .inl I)), (b4, .inl (t4, 6000, .inl J)), (b5, .inl (t5, 3, .inl U)), (b6, .inl (t6, 3, .inl V)), (b7, .inl (t7, 2001, .inl S2))]) hD hS hA [0, 1, 2, 3, 4, 5, 6, 7] rfl
    refine va_calli (va_runV (As := [.int (xs (i + 1)), .int (xs (i + 2)), .int (xs (i + 3))]) (rest := [.int 1]) ⟨hx, hb, hml, hown, hts⟩ (c_X1_first l dC dI y b1 b2 b3 b4 b5 b6 b7 t1 t2 t3 t4 t5 t6 t7 H.size mo ac kn T2 F2 I J U V S2 (xs (i + 1)) (xs (i + 2)) (xs (i + 3))) (cwV 3 hts gL_law_X1_first rfl rfl rfl (by decide +kernel) ⟨Nat.le_of_ble_eq_true rfl, Nat.le_of_ble_eq_true rfl⟩) ⟨sr_blind, va_recv hKc hPc (ci := 1) (q0 := 0) rfl rfl, sr_mk hPc hKc hDc⟩ rfl rfl hl.1 rfl (lv_room (Nat.le_of_ble_eq_true rfl)) dL_law_119 ⟨by show _ ≤ 14; omega, by show _ ≤ 28028; omega⟩) hS (fun q _ h => hFc q h) hFc (fun r2 u t H1 locs ht hvm hw hB hz1 hk1 hS => ?_)
    obtain ⟨hP1, hK1, hD1⟩ := hB
    rw [ht] at hP1
    obtain ⟨U5, rfl, hw⟩ := hw
    obtain ⟨-, rfl, f0, f1, f2⟩ := hw.resolve_right (fun q => q.1 hV)
    obtain ⟨hP, hD⟩ := va_join (wr := [(x, .inr (0, [.ref a1, .ref a2, .ref a3, .ref a4, .ref a5, .int (nI mo), .int (nI q), .int (nI cl), .int (nI ac), .int st])), (a1, .inl (z1, 2000, .inl T)), (a2, .inl (z2, 2000, .inl F)), (a3, .inl (z3, 2000, .inl G)), (a4, .inl (z4, 2000, .inl Lm)), (a5, .inl (z5, 2001, .inl S))]) (w1 := [(y, .inr (1, [.ref b1, .ref b2, .ref b3, .ref b4, .ref b5, .ref b6, .int (nI mo), .int (nI ac), .ref b7, .int kn])), (b1, .inl (t1, 2000, .inl T2)), (b2, .inl (t2, 2000, .inl F2)), (b3, .inl (t3, 6000, .inl I)), (b4, .inl (t4, 6000, .inl J)), (b5, .inl (t5, 3, .inl U5)), (b6, .inl (t6, 3, .inl V)), (b7, .inl (t7, 2001, .inl S2))]) hP hD [0, 1, 2, 3, 4, 5, 6, 7] [8, 9, 10, 11, 12, 13] rfl rfl (by decide) (by decide) hk1 hFc hP1 hD1
    generalize H1 = H at hP hS ⊢
    have hP : va_P (dC, dI) vwCl [(x, .inr (0, [.ref a1, .ref a2, .ref a3, .ref a4, .ref a5, .int (nI mo), .int (nI q), .int (nI cl), .int (nI ac), .int st])), (a1, .inl (z1, 2000, .inl T)), (a2, .inl (z2, 2000, .inl F)), (a3, .inl (z3, 2000, .inl G)), (a4, .inl (z4, 2000, .inl Lm)), (a5, .inl (z5, 2001, .inl S)), (y, .inr (1, [.ref b1, .ref b2, .ref b3, .ref b4, .ref b5, .ref b6, .int (nI mo), .int (nI ac), .ref b7, .int kn])), (b1, .inl (t1, 2000, .inl T2)), (b2, .inl (t2, 2000, .inl F2)), (b3, .inl (t3, 6000, .inl I)), (b4, .inl (t4, 6000, .inl J)), (b5, .inl (t5, 3, .inl U5)), (b6, .inl (t6, 3, .inl V)), (b7, .inl (t7, 2001, .inl S2))] H := hP
    have hD : va_D (fun q : Nat => s.heap.size ≤ q) [(x, .inr (0, [.ref a1, .ref a2, .ref a3, .ref a4, .ref a5, .int (nI mo), .int (nI q), .int (nI cl), .int (nI ac), .int st])), (a1, .inl (z1, 2000, .inl T)), (a2, .inl (z2, 2000, .inl F)), (a3, .inl (z3, 2000, .inl G)), (a4, .inl (z4, 2000, .inl Lm)), (a5, .inl (z5, 2001, .inl S)), (y, .inr (1, [.ref b1, .ref b2, .ref b3, .ref b4, .ref b5, .ref b6, .int (nI mo), .int (nI ac), .ref b7, .int kn])), (b1, .inl (t1, 2000, .inl T2)), (b2, .inl (t2, 2000, .inl F2)), (b3, .inl (t3, 6000, .inl I)), (b4, .inl (t4, 6000, .inl J)), (b5, .inl (t5, 3, .inl U5)), (b6, .inl (t6, 3, .inl V)), (b7, .inl (t7, 2001, .inl S2))] := hD
    refine lv_icmp_eq (tgt := 322) hx hb dL_law_122 (by decide) (fun c1 => ?_) (fun c1 => ?_)
    · have hu : ∀ a, a < 3 → U5 a = sr_dg q a := fun a ha => by
        rcases (show a = 0 ∨ a = 1 ∨ a = 2 by omega) with rfl | rfl | rfl
        · rw [f0, e1]
        · rw [f1, e2]
        · rw [f2, e3]
      exact hk H locs ls ⟨mo, q, cl, ac, tk, fd, fs, la, st, T, F, G, Lm, S, kn, T2, F2, I, J, U5, V, S2, ⟨⟨g.1, g.2.1, hq, g.2.2.2.1, g.2.2.2.2⟩, hI, hQ, ⟨hM.1, fun a ha => ⟨hu a ha, (hM.2 a ha).2⟩⟩, hQ2⟩, hP, hD, hS⟩ hl
    · exact absurd rfl c1
  · refine lv_aload_n hx hb dL_law_84 rfl (lv_at hl 1 rfl) ?_
    refine lv_aload_n hx hb dL_law_85 rfl (lv_at hl 0 rfl) ?_
    refine lv_iload_n hx hb dL_law_86 rfl (lv_at hl 3 rfl) ?_
    refine lv_iconst (v := nI 1) hx hb dL_law_87 (by decide) ?_
    refine lv_iadd hx hb dL_law_88 ?_
    refine sr_ti (y := nI (i + 1)) (nI_add _ _) ?_
    refine sr_sld hx hb hX hbl hbA hS (by omega) (by omega) dL_law_89 ?_
    refine lv_aload_n hx hb dL_law_90 rfl (lv_at hl 0 rfl) ?_
    refine lv_iload_n hx hb dL_law_91 rfl (lv_at hl 3 rfl) ?_
    refine lv_iconst (v := nI 2) hx hb dL_law_92 (by decide) ?_
    refine lv_iadd hx hb dL_law_93 ?_
    refine sr_ti (y := nI (i + 2)) (nI_add _ _) ?_
    refine sr_sld hx hb hX hbl hbA hS (by omega) (by omega) dL_law_94 ?_
    refine lv_aload_n hx hb dL_law_95 rfl (lv_at hl 0 rfl) ?_
    refine lv_iload_n hx hb dL_law_96 rfl (lv_at hl 3 rfl) ?_
    refine lv_iconst (v := nI 3) hx hb dL_law_97 (by decide) ?_
    refine lv_iadd hx hb dL_law_98 ?_
    refine sr_ti (y := nI (i + 3)) (nI_add _ _) ?_
    refine sr_sld hx hb hX hbl hbA hS (by omega) (by omega) dL_law_99 ?_
    have hPc := hP.sub (ws' := [(x, .inr (0, [.ref a1, .ref a2, .ref a3, .ref a4, .ref a5, .int (nI mo), .int (nI cf), .int (nI cl), .int (nI ac), .int st])), (a1, .inl (z1, 2000, .inl T)), (a2, .inl (z2, 2000, .inl F)), (a3, .inl (z3, 2000, .inl G)), (a4, .inl (z4, 2000, .inl Lm)), (a5, .inl (z5, 2001, .inl S))]) [0, 1, 2, 3, 4, 5] rfl
    have hDc := hD.sub (ws' := [(x, .inr (0, [.ref a1, .ref a2, .ref a3, .ref a4, .ref a5, .int (nI mo), .int (nI cf), .int (nI cl), .int (nI ac), .int st])), (a1, .inl (z1, 2000, .inl T)), (a2, .inl (z2, 2000, .inl F)), (a3, .inl (z3, 2000, .inl G)), (a4, .inl (z4, 2000, .inl Lm)), (a5, .inl (z5, 2001, .inl S))]) [0, 1, 2, 3, 4, 5] (by decide) rfl
    have hKc := hK.sub (tys' := [(z1, .int), (z2, .int), (z3, .int), (z4, .int), (z5, .int)]) [0, 1, 2, 3, 4] rfl
    have hFc := va_free (wc := [(x, .inr (0, [.ref a1, .ref a2, .ref a3, .ref a4, .ref a5, .int (nI mo), .int (nI cf), .int (nI cl), .int (nI ac), .int st])), (a1, .inl (z1, 2000, .inl T)), (a2, .inl (z2, 2000, .inl F)), (a3, .inl (z3, 2000, .inl G)), (a4, .inl (z4, 2000, .inl Lm)), (a5, .inl (z5, 2001, .inl S))]) hD hS hA [0, 1, 2, 3, 4, 5] rfl
    refine va_calli (va_runV (As := [.int (xs (i + 1)), .int (xs (i + 2)), .int (xs (i + 3))]) (rest := []) ⟨hx, hb, hml, hown, hts⟩ (c_X0_first l dC dI x a1 a2 a3 a4 a5 z1 z2 z3 z4 z5 H.size mo cf cl ac st T F G Lm S (xs (i + 1)) (xs (i + 2)) (xs (i + 3))) (cwV 3 hts gL_law_X0_first rfl rfl rfl (by decide +kernel) ⟨Nat.le_of_ble_eq_true rfl, Nat.le_of_ble_eq_true rfl⟩) ⟨sr_blind, va_recv hKc hPc (ci := 0) (q0 := 0) rfl rfl, sr_mk hPc hKc hDc⟩ rfl rfl hl.1 rfl (lv_room (Nat.le_of_ble_eq_true rfl)) dL_law_100 ⟨by show _ ≤ 14; omega, by show _ ≤ 28028; omega⟩) hS (fun q _ h => hFc q h) hFc (fun r1 u t H1 locs ht hvm hw hB hz1 hk1 hS => ?_)
    obtain ⟨hP1, hK1, hD1⟩ := hB
    rw [ht] at hP1
    obtain ⟨-, rfl, rfl⟩ := hw.resolve_left (fun q => hV q.1)
    obtain ⟨hP, hD⟩ := va_join (wr := [(y, .inr (1, [.ref b1, .ref b2, .ref b3, .ref b4, .ref b5, .ref b6, .int (nI mo), .int (nI ac), .ref b7, .int kn])), (b1, .inl (t1, 2000, .inl T2)), (b2, .inl (t2, 2000, .inl F2)), (b3, .inl (t3, 6000, .inl I)), (b4, .inl (t4, 6000, .inl J)), (b5, .inl (t5, 3, .inl U)), (b6, .inl (t6, 3, .inl V)), (b7, .inl (t7, 2001, .inl S2))]) (w1 := [(x, .inr (0, [.ref a1, .ref a2, .ref a3, .ref a4, .ref a5, .int (nI mo), .int (nI cf), .int (nI cl), .int (nI ac), .int st])), (a1, .inl (z1, 2000, .inl T)), (a2, .inl (z2, 2000, .inl F)), (a3, .inl (z3, 2000, .inl G)), (a4, .inl (z4, 2000, .inl Lm)), (a5, .inl (z5, 2001, .inl S))]) hP hD [0, 1, 2, 3, 4, 5] [6, 7, 8, 9, 10, 11, 12, 13] rfl rfl (by decide) (by decide) hk1 hFc hP1 hD1
    generalize H1 = H at hP hS ⊢
    have hP : va_P (dC, dI) vwCl [(y, .inr (1, [.ref b1, .ref b2, .ref b3, .ref b4, .ref b5, .ref b6, .int (nI mo), .int (nI ac), .ref b7, .int kn])), (b1, .inl (t1, 2000, .inl T2)), (b2, .inl (t2, 2000, .inl F2)), (b3, .inl (t3, 6000, .inl I)), (b4, .inl (t4, 6000, .inl J)), (b5, .inl (t5, 3, .inl U)), (b6, .inl (t6, 3, .inl V)), (b7, .inl (t7, 2001, .inl S2)), (x, .inr (0, [.ref a1, .ref a2, .ref a3, .ref a4, .ref a5, .int (nI mo), .int (nI cf), .int (nI cl), .int (nI ac), .int st])), (a1, .inl (z1, 2000, .inl T)), (a2, .inl (z2, 2000, .inl F)), (a3, .inl (z3, 2000, .inl G)), (a4, .inl (z4, 2000, .inl Lm)), (a5, .inl (z5, 2001, .inl S))] H := hP
    have hD : va_D (fun q : Nat => s.heap.size ≤ q) [(y, .inr (1, [.ref b1, .ref b2, .ref b3, .ref b4, .ref b5, .ref b6, .int (nI mo), .int (nI ac), .ref b7, .int kn])), (b1, .inl (t1, 2000, .inl T2)), (b2, .inl (t2, 2000, .inl F2)), (b3, .inl (t3, 6000, .inl I)), (b4, .inl (t4, 6000, .inl J)), (b5, .inl (t5, 3, .inl U)), (b6, .inl (t6, 3, .inl V)), (b7, .inl (t7, 2001, .inl S2)), (x, .inr (0, [.ref a1, .ref a2, .ref a3, .ref a4, .ref a5, .int (nI mo), .int (nI cf), .int (nI cl), .int (nI ac), .int st])), (a1, .inl (z1, 2000, .inl T)), (a2, .inl (z2, 2000, .inl F)), (a3, .inl (z3, 2000, .inl G)), (a4, .inl (z4, 2000, .inl Lm)), (a5, .inl (z5, 2001, .inl S))] := hD
    refine lv_aload_n hx hb dL_law_103 rfl (lv_at hl 2 rfl) ?_
    refine lv_aload_n hx hb dL_law_104 rfl (lv_at hl 0 rfl) ?_
    refine lv_iload_n hx hb dL_law_105 rfl (lv_at hl 3 rfl) ?_
    refine lv_iconst (v := nI 1) hx hb dL_law_106 (by decide) ?_
    refine lv_iadd hx hb dL_law_107 ?_
    refine sr_ti (y := nI (i + 1)) (nI_add _ _) ?_
    refine sr_sld hx hb hX hbl hbA hS (by omega) (by omega) dL_law_108 ?_
    refine lv_aload_n hx hb dL_law_109 rfl (lv_at hl 0 rfl) ?_
    refine lv_iload_n hx hb dL_law_110 rfl (lv_at hl 3 rfl) ?_
    refine lv_iconst (v := nI 2) hx hb dL_law_111 (by decide) ?_
    refine lv_iadd hx hb dL_law_112 ?_
    refine sr_ti (y := nI (i + 2)) (nI_add _ _) ?_
    refine sr_sld hx hb hX hbl hbA hS (by omega) (by omega) dL_law_113 ?_
    refine lv_aload_n hx hb dL_law_114 rfl (lv_at hl 0 rfl) ?_
    refine lv_iload_n hx hb dL_law_115 rfl (lv_at hl 3 rfl) ?_
    refine lv_iconst (v := nI 3) hx hb dL_law_116 (by decide) ?_
    refine lv_iadd hx hb dL_law_117 ?_
    refine sr_ti (y := nI (i + 3)) (nI_add _ _) ?_
    refine sr_sld hx hb hX hbl hbA hS (by omega) (by omega) dL_law_118 ?_
    have hPc := hP.sub (ws' := [(y, .inr (1, [.ref b1, .ref b2, .ref b3, .ref b4, .ref b5, .ref b6, .int (nI mo), .int (nI ac), .ref b7, .int kn])), (b1, .inl (t1, 2000, .inl T2)), (b2, .inl (t2, 2000, .inl F2)), (b3, .inl (t3, 6000, .inl I)), (b4, .inl (t4, 6000, .inl J)), (b5, .inl (t5, 3, .inl U)), (b6, .inl (t6, 3, .inl V)), (b7, .inl (t7, 2001, .inl S2))]) [0, 1, 2, 3, 4, 5, 6, 7] rfl
    have hDc := hD.sub (ws' := [(y, .inr (1, [.ref b1, .ref b2, .ref b3, .ref b4, .ref b5, .ref b6, .int (nI mo), .int (nI ac), .ref b7, .int kn])), (b1, .inl (t1, 2000, .inl T2)), (b2, .inl (t2, 2000, .inl F2)), (b3, .inl (t3, 6000, .inl I)), (b4, .inl (t4, 6000, .inl J)), (b5, .inl (t5, 3, .inl U)), (b6, .inl (t6, 3, .inl V)), (b7, .inl (t7, 2001, .inl S2))]) [0, 1, 2, 3, 4, 5, 6, 7] (by decide) rfl
    have hKc := hK.sub (tys' := [(t1, .int), (t2, .int), (t3, .byte), (t4, .byte), (t5, .byte), (t6, .byte), (t7, .int)]) [5, 6, 7, 8, 9, 10, 11] rfl
    have hFc := va_free (wc := [(y, .inr (1, [.ref b1, .ref b2, .ref b3, .ref b4, .ref b5, .ref b6, .int (nI mo), .int (nI ac), .ref b7, .int kn])), (b1, .inl (t1, 2000, .inl T2)), (b2, .inl (t2, 2000, .inl F2)), (b3, .inl (t3, 6000, .inl I)), (b4, .inl (t4, 6000, .inl J)), (b5, .inl (t5, 3, .inl U)), (b6, .inl (t6, 3, .inl V)), (b7, .inl (t7, 2001, .inl S2))]) hD hS hA [0, 1, 2, 3, 4, 5, 6, 7] rfl
    refine va_calli (va_runV (As := [.int (xs (i + 1)), .int (xs (i + 2)), .int (xs (i + 3))]) (rest := [.int 0]) ⟨hx, hb, hml, hown, hts⟩ (c_X1_first l dC dI y b1 b2 b3 b4 b5 b6 b7 t1 t2 t3 t4 t5 t6 t7 H.size mo ac kn T2 F2 I J U V S2 (xs (i + 1)) (xs (i + 2)) (xs (i + 3))) (cwV 3 hts gL_law_X1_first rfl rfl rfl (by decide +kernel) ⟨Nat.le_of_ble_eq_true rfl, Nat.le_of_ble_eq_true rfl⟩) ⟨sr_blind, va_recv hKc hPc (ci := 1) (q0 := 0) rfl rfl, sr_mk hPc hKc hDc⟩ rfl rfl hl.1 rfl (lv_room (Nat.le_of_ble_eq_true rfl)) dL_law_119 ⟨by show _ ≤ 14; omega, by show _ ≤ 28028; omega⟩) hS (fun q _ h => hFc q h) hFc (fun r2 u t H1 locs ht hvm hw hB hz1 hk1 hS => ?_)
    obtain ⟨hP1, hK1, hD1⟩ := hB
    rw [ht] at hP1
    obtain ⟨U5, rfl, hw⟩ := hw
    obtain ⟨-, rfl, hU⟩ := hw.resolve_left (fun q => hV q.1)
    obtain ⟨hP, hD⟩ := va_join (wr := [(x, .inr (0, [.ref a1, .ref a2, .ref a3, .ref a4, .ref a5, .int (nI mo), .int (nI cf), .int (nI cl), .int (nI ac), .int st])), (a1, .inl (z1, 2000, .inl T)), (a2, .inl (z2, 2000, .inl F)), (a3, .inl (z3, 2000, .inl G)), (a4, .inl (z4, 2000, .inl Lm)), (a5, .inl (z5, 2001, .inl S))]) (w1 := [(y, .inr (1, [.ref b1, .ref b2, .ref b3, .ref b4, .ref b5, .ref b6, .int (nI mo), .int (nI ac), .ref b7, .int kn])), (b1, .inl (t1, 2000, .inl T2)), (b2, .inl (t2, 2000, .inl F2)), (b3, .inl (t3, 6000, .inl I)), (b4, .inl (t4, 6000, .inl J)), (b5, .inl (t5, 3, .inl U5)), (b6, .inl (t6, 3, .inl V)), (b7, .inl (t7, 2001, .inl S2))]) hP hD [0, 1, 2, 3, 4, 5, 6, 7] [8, 9, 10, 11, 12, 13] rfl rfl (by decide) (by decide) hk1 hFc hP1 hD1
    generalize H1 = H at hP hS ⊢
    have hP : va_P (dC, dI) vwCl [(x, .inr (0, [.ref a1, .ref a2, .ref a3, .ref a4, .ref a5, .int (nI mo), .int (nI cf), .int (nI cl), .int (nI ac), .int st])), (a1, .inl (z1, 2000, .inl T)), (a2, .inl (z2, 2000, .inl F)), (a3, .inl (z3, 2000, .inl G)), (a4, .inl (z4, 2000, .inl Lm)), (a5, .inl (z5, 2001, .inl S)), (y, .inr (1, [.ref b1, .ref b2, .ref b3, .ref b4, .ref b5, .ref b6, .int (nI mo), .int (nI ac), .ref b7, .int kn])), (b1, .inl (t1, 2000, .inl T2)), (b2, .inl (t2, 2000, .inl F2)), (b3, .inl (t3, 6000, .inl I)), (b4, .inl (t4, 6000, .inl J)), (b5, .inl (t5, 3, .inl U5)), (b6, .inl (t6, 3, .inl V)), (b7, .inl (t7, 2001, .inl S2))] H := hP
    have hD : va_D (fun q : Nat => s.heap.size ≤ q) [(x, .inr (0, [.ref a1, .ref a2, .ref a3, .ref a4, .ref a5, .int (nI mo), .int (nI cf), .int (nI cl), .int (nI ac), .int st])), (a1, .inl (z1, 2000, .inl T)), (a2, .inl (z2, 2000, .inl F)), (a3, .inl (z3, 2000, .inl G)), (a4, .inl (z4, 2000, .inl Lm)), (a5, .inl (z5, 2001, .inl S)), (y, .inr (1, [.ref b1, .ref b2, .ref b3, .ref b4, .ref b5, .ref b6, .int (nI mo), .int (nI ac), .ref b7, .int kn])), (b1, .inl (t1, 2000, .inl T2)), (b2, .inl (t2, 2000, .inl F2)), (b3, .inl (t3, 6000, .inl I)), (b4, .inl (t4, 6000, .inl J)), (b5, .inl (t5, 3, .inl U5)), (b6, .inl (t6, 3, .inl V)), (b7, .inl (t7, 2001, .inl S2))] := hD
    refine lv_icmp_eq (tgt := 322) hx hb dL_law_122 (by decide) (fun c1 => ?_) (fun c1 => ?_)
    · exact hk H locs ls ⟨mo, cf, cl, ac, tk, fd, fs, la, st, T, F, G, Lm, S, kn, T2, F2, I, J, U5, V, S2, ⟨g, hI, hQ, by rw [hU]; exact hM, hQ2⟩, hP, hD, hS⟩ hl
    · exact absurd rfl c1
set_option maxHeartbeats 4000000 in
set_option maxRecDepth 100000 in
/-- case 1: last -/
theorem lw_c1 {p : Program} {l : Launch} {e : Env} {s : State} {m : MethodId} {below : List Frame} {meth : Method} {c : Code} {Q : State → Prop} {b L : Nat} {xs : Nat → Int32} (hL : L ≤ 2048) (C0 : lw_At p s m meth c b L xs) {dC : Nat → ClassId} {dI : Nat → Nat → Nat} {x a1 a2 a3 a4 a5 : Nat} {z1 z2 z3 z4 z5 : ClassId} {y b1 b2 b3 b4 b5 b6 b7 : Nat} {t1 t2 t3 t4 t5 t6 t7 : ClassId} (hK : va_K (dC, dI) vwCl (sr_tX z1 z2 z3 z4 z5 ++ sr_tM t1 t2 t3 t4 t5 t6 t7) s) {i : Nat} (hi : i + 4 ≤ L)
    (hk : ∀ (H : Heap) (locs : List Loc) (ls : Array Slot), lw_I dC dI x a1 a2 a3 a4 a5 z1 z2 z3 z4 z5 y b1 b2 b3 b4 b5 b6 b7 t1 t2 t3 t4 t5 t6 t7 (fun q : Nat => s.heap.size ≤ q) s.heap H locs → lv_has ls 4 [(0, .ref b), (1, .ref x), (2, .ref y), (3, .int (nI i))] → W p l e room_1 s m #[Value.ref b] below meth c H locs 14 28028 Q (F0 m 322 ls [])) (H : Heap) (locs : List Loc) (ls : Array Slot) (hJ : lw_I dC dI x a1 a2 a3 a4 a5 z1 z2 z3 z4 z5 y b1 b2 b3 b4 b5 b6 b7 t1 t2 t3 t4 t5 t6 t7 (fun q : Nat => s.heap.size ≤ q) s.heap H locs) (hl : lv_has ls 4 [(0, .ref b), (1, .ref x), (2, .ref y), (3, .int (nI i))]) : W p l e room_1 s m #[Value.ref b] below meth c H locs 14 28028 Q (F0 m 127 ls []) := by
  obtain ⟨hx, hb, hr, hml, hown, hts, hX, hbl, hlocks, hgv⟩ := C0
  have hown : s.vm.findClass RL = some m.cls := hown
  have hts := fun w h => hts w (wsL_law_in w h)
  have hA : ∀ q : Nat, s.heap.size ≤ q → (fun q : Nat => s.heap.size ≤ q) q := fun _ h => h
  have hbA : ¬ (fun q : Nat => s.heap.size ≤ q) b := Nat.not_le.mpr hbl
  obtain ⟨mo, cf, cl, ac, tk, fd, fs, la, st, T, F, G, Lm, S, kn, T2, F2, I, J, U, V, S2, ⟨g, hI, hQ, hM, hQ2⟩, hP, hD, hS⟩ := hJ
  have hK : va_K (dC, dI) vwCl [(z1, .int), (z2, .int), (z3, .int), (z4, .int), (z5, .int), (t1, .int), (t2, .int), (t3, .byte), (t4, .byte), (t5, .byte), (t6, .byte), (t7, .int)] s := hK
  have hP : va_P (dC, dI) vwCl [(x, .inr (0, [.ref a1, .ref a2, .ref a3, .ref a4, .ref a5, .int (nI mo), .int (nI cf), .int (nI cl), .int (nI ac), .int st])), (a1, .inl (z1, 2000, .inl T)), (a2, .inl (z2, 2000, .inl F)), (a3, .inl (z3, 2000, .inl G)), (a4, .inl (z4, 2000, .inl Lm)), (a5, .inl (z5, 2001, .inl S)), (y, .inr (1, [.ref b1, .ref b2, .ref b3, .ref b4, .ref b5, .ref b6, .int (nI mo), .int (nI ac), .ref b7, .int kn])), (b1, .inl (t1, 2000, .inl T2)), (b2, .inl (t2, 2000, .inl F2)), (b3, .inl (t3, 6000, .inl I)), (b4, .inl (t4, 6000, .inl J)), (b5, .inl (t5, 3, .inl U)), (b6, .inl (t6, 3, .inl V)), (b7, .inl (t7, 2001, .inl S2))] H := hP
  have hD : va_D (fun q : Nat => s.heap.size ≤ q) [(x, .inr (0, [.ref a1, .ref a2, .ref a3, .ref a4, .ref a5, .int (nI mo), .int (nI cf), .int (nI cl), .int (nI ac), .int st])), (a1, .inl (z1, 2000, .inl T)), (a2, .inl (z2, 2000, .inl F)), (a3, .inl (z3, 2000, .inl G)), (a4, .inl (z4, 2000, .inl Lm)), (a5, .inl (z5, 2001, .inl S)), (y, .inr (1, [.ref b1, .ref b2, .ref b3, .ref b4, .ref b5, .ref b6, .int (nI mo), .int (nI ac), .ref b7, .int kn])), (b1, .inl (t1, 2000, .inl T2)), (b2, .inl (t2, 2000, .inl F2)), (b3, .inl (t3, 6000, .inl I)), (b4, .inl (t4, 6000, .inl J)), (b5, .inl (t5, 3, .inl U)), (b6, .inl (t6, 3, .inl V)), (b7, .inl (t7, 2001, .inl S2))] := hD
  have hmo : mo ≤ 2000 := g.1
  by_cases hV : sr_isS (xs (i + 1)) (xs (i + 2)) (xs (i + 3))
  · refine lv_aload_n hx hb dL_law_127 rfl (lv_at hl 1 rfl) ?_
    refine lv_aload_n hx hb dL_law_128 rfl (lv_at hl 0 rfl) ?_
    refine lv_iload_n hx hb dL_law_129 rfl (lv_at hl 3 rfl) ?_
    refine lv_iconst (v := nI 1) hx hb dL_law_130 (by decide) ?_
    refine lv_iadd hx hb dL_law_131 ?_
    refine sr_ti (y := nI (i + 1)) (nI_add _ _) ?_
    refine sr_sld hx hb hX hbl hbA hS (by omega) (by omega) dL_law_132 ?_
    refine lv_aload_n hx hb dL_law_133 rfl (lv_at hl 0 rfl) ?_
    refine lv_iload_n hx hb dL_law_134 rfl (lv_at hl 3 rfl) ?_
    refine lv_iconst (v := nI 2) hx hb dL_law_135 (by decide) ?_
    refine lv_iadd hx hb dL_law_136 ?_
    refine sr_ti (y := nI (i + 2)) (nI_add _ _) ?_
    refine sr_sld hx hb hX hbl hbA hS (by omega) (by omega) dL_law_137 ?_
    refine lv_aload_n hx hb dL_law_138 rfl (lv_at hl 0 rfl) ?_
    refine lv_iload_n hx hb dL_law_139 rfl (lv_at hl 3 rfl) ?_
    refine lv_iconst (v := nI 3) hx hb dL_law_140 (by decide) ?_
    refine lv_iadd hx hb dL_law_141 ?_
    refine sr_ti (y := nI (i + 3)) (nI_add _ _) ?_
    refine sr_sld hx hb hX hbl hbA hS (by omega) (by omega) dL_law_142 ?_
    have hPc := hP.sub (ws' := [(x, .inr (0, [.ref a1, .ref a2, .ref a3, .ref a4, .ref a5, .int (nI mo), .int (nI cf), .int (nI cl), .int (nI ac), .int st])), (a1, .inl (z1, 2000, .inl T)), (a2, .inl (z2, 2000, .inl F)), (a3, .inl (z3, 2000, .inl G)), (a4, .inl (z4, 2000, .inl Lm)), (a5, .inl (z5, 2001, .inl S))]) [0, 1, 2, 3, 4, 5] rfl
    have hDc := hD.sub (ws' := [(x, .inr (0, [.ref a1, .ref a2, .ref a3, .ref a4, .ref a5, .int (nI mo), .int (nI cf), .int (nI cl), .int (nI ac), .int st])), (a1, .inl (z1, 2000, .inl T)), (a2, .inl (z2, 2000, .inl F)), (a3, .inl (z3, 2000, .inl G)), (a4, .inl (z4, 2000, .inl Lm)), (a5, .inl (z5, 2001, .inl S))]) [0, 1, 2, 3, 4, 5] (by decide) rfl
    have hKc := hK.sub (tys' := [(z1, .int), (z2, .int), (z3, .int), (z4, .int), (z5, .int)]) [0, 1, 2, 3, 4] rfl
    have hFc := va_free (wc := [(x, .inr (0, [.ref a1, .ref a2, .ref a3, .ref a4, .ref a5, .int (nI mo), .int (nI cf), .int (nI cl), .int (nI ac), .int st])), (a1, .inl (z1, 2000, .inl T)), (a2, .inl (z2, 2000, .inl F)), (a3, .inl (z3, 2000, .inl G)), (a4, .inl (z4, 2000, .inl Lm)), (a5, .inl (z5, 2001, .inl S))]) hD hS hA [0, 1, 2, 3, 4, 5] rfl
    refine va_calli (va_runV (As := [.int (xs (i + 1)), .int (xs (i + 2)), .int (xs (i + 3))]) (rest := []) ⟨hx, hb, hml, hown, hts⟩ (c_X0_last l dC dI x a1 a2 a3 a4 a5 z1 z2 z3 z4 z5 H.size mo cf cl ac st T F G Lm S (xs (i + 1)) (xs (i + 2)) (xs (i + 3))) (cwV 3 hts gL_law_X0_last rfl rfl rfl (by decide +kernel) ⟨Nat.le_of_ble_eq_true rfl, Nat.le_of_ble_eq_true rfl⟩) ⟨sr_blind, va_recv hKc hPc (ci := 0) (q0 := 0) rfl rfl, sr_mk hPc hKc hDc⟩ rfl rfl hl.1 rfl (lv_room (Nat.le_of_ble_eq_true rfl)) dL_law_143 ⟨by show _ ≤ 14; omega, by show _ ≤ 28028; omega⟩) hS (fun q _ h => hFc q h) hFc (fun r1 u t H1 locs ht hvm hw hB hz1 hk1 hS => ?_)
    obtain ⟨hP1, hK1, hD1⟩ := hB
    rw [ht] at hP1
    obtain ⟨-, rfl, q, hq, e1, e2, e3, rfl⟩ := hw.resolve_right (fun q => q.1 hV)
    obtain ⟨hP, hD⟩ := va_join (wr := [(y, .inr (1, [.ref b1, .ref b2, .ref b3, .ref b4, .ref b5, .ref b6, .int (nI mo), .int (nI ac), .ref b7, .int kn])), (b1, .inl (t1, 2000, .inl T2)), (b2, .inl (t2, 2000, .inl F2)), (b3, .inl (t3, 6000, .inl I)), (b4, .inl (t4, 6000, .inl J)), (b5, .inl (t5, 3, .inl U)), (b6, .inl (t6, 3, .inl V)), (b7, .inl (t7, 2001, .inl S2))]) (w1 := [(x, .inr (0, [.ref a1, .ref a2, .ref a3, .ref a4, .ref a5, .int (nI mo), .int (nI cf), .int (nI q), .int (nI ac), .int st])), (a1, .inl (z1, 2000, .inl T)), (a2, .inl (z2, 2000, .inl F)), (a3, .inl (z3, 2000, .inl G)), (a4, .inl (z4, 2000, .inl Lm)), (a5, .inl (z5, 2001, .inl S))]) hP hD [0, 1, 2, 3, 4, 5] [6, 7, 8, 9, 10, 11, 12, 13] rfl rfl (by decide) (by decide) hk1 hFc hP1 hD1
    generalize H1 = H at hP hS ⊢
    have hP : va_P (dC, dI) vwCl [(y, .inr (1, [.ref b1, .ref b2, .ref b3, .ref b4, .ref b5, .ref b6, .int (nI mo), .int (nI ac), .ref b7, .int kn])), (b1, .inl (t1, 2000, .inl T2)), (b2, .inl (t2, 2000, .inl F2)), (b3, .inl (t3, 6000, .inl I)), (b4, .inl (t4, 6000, .inl J)), (b5, .inl (t5, 3, .inl U)), (b6, .inl (t6, 3, .inl V)), (b7, .inl (t7, 2001, .inl S2)), (x, .inr (0, [.ref a1, .ref a2, .ref a3, .ref a4, .ref a5, .int (nI mo), .int (nI cf), .int (nI q), .int (nI ac), .int st])), (a1, .inl (z1, 2000, .inl T)), (a2, .inl (z2, 2000, .inl F)), (a3, .inl (z3, 2000, .inl G)), (a4, .inl (z4, 2000, .inl Lm)), (a5, .inl (z5, 2001, .inl S))] H := hP
    have hD : va_D (fun q : Nat => s.heap.size ≤ q) [(y, .inr (1, [.ref b1, .ref b2, .ref b3, .ref b4, .ref b5, .ref b6, .int (nI mo), .int (nI ac), .ref b7, .int kn])), (b1, .inl (t1, 2000, .inl T2)), (b2, .inl (t2, 2000, .inl F2)), (b3, .inl (t3, 6000, .inl I)), (b4, .inl (t4, 6000, .inl J)), (b5, .inl (t5, 3, .inl U)), (b6, .inl (t6, 3, .inl V)), (b7, .inl (t7, 2001, .inl S2)), (x, .inr (0, [.ref a1, .ref a2, .ref a3, .ref a4, .ref a5, .int (nI mo), .int (nI cf), .int (nI q), .int (nI ac), .int st])), (a1, .inl (z1, 2000, .inl T)), (a2, .inl (z2, 2000, .inl F)), (a3, .inl (z3, 2000, .inl G)), (a4, .inl (z4, 2000, .inl Lm)), (a5, .inl (z5, 2001, .inl S))] := hD
    refine lv_aload_n hx hb dL_law_146 rfl (lv_at hl 2 rfl) ?_
    refine lv_aload_n hx hb dL_law_147 rfl (lv_at hl 0 rfl) ?_
    refine lv_iload_n hx hb dL_law_148 rfl (lv_at hl 3 rfl) ?_
    refine lv_iconst (v := nI 1) hx hb dL_law_149 (by decide) ?_
    refine lv_iadd hx hb dL_law_150 ?_
    refine sr_ti (y := nI (i + 1)) (nI_add _ _) ?_
    refine sr_sld hx hb hX hbl hbA hS (by omega) (by omega) dL_law_151 ?_
    refine lv_aload_n hx hb dL_law_152 rfl (lv_at hl 0 rfl) ?_
    refine lv_iload_n hx hb dL_law_153 rfl (lv_at hl 3 rfl) ?_
    refine lv_iconst (v := nI 2) hx hb dL_law_154 (by decide) ?_
    refine lv_iadd hx hb dL_law_155 ?_
    refine sr_ti (y := nI (i + 2)) (nI_add _ _) ?_
    refine sr_sld hx hb hX hbl hbA hS (by omega) (by omega) dL_law_156 ?_
    refine lv_aload_n hx hb dL_law_157 rfl (lv_at hl 0 rfl) ?_
    refine lv_iload_n hx hb dL_law_158 rfl (lv_at hl 3 rfl) ?_
    refine lv_iconst (v := nI 3) hx hb dL_law_159 (by decide) ?_
    refine lv_iadd hx hb dL_law_160 ?_
    refine sr_ti (y := nI (i + 3)) (nI_add _ _) ?_
    refine sr_sld hx hb hX hbl hbA hS (by omega) (by omega) dL_law_161 ?_
    have hPc := hP.sub (ws' := [(y, .inr (1, [.ref b1, .ref b2, .ref b3, .ref b4, .ref b5, .ref b6, .int (nI mo), .int (nI ac), .ref b7, .int kn])), (b1, .inl (t1, 2000, .inl T2)), (b2, .inl (t2, 2000, .inl F2)), (b3, .inl (t3, 6000, .inl I)), (b4, .inl (t4, 6000, .inl J)), (b5, .inl (t5, 3, .inl U)), (b6, .inl (t6, 3, .inl V)), (b7, .inl (t7, 2001, .inl S2))]) [0, 1, 2, 3, 4, 5, 6, 7] rfl
    have hDc := hD.sub (ws' := [(y, .inr (1, [.ref b1, .ref b2, .ref b3, .ref b4, .ref b5, .ref b6, .int (nI mo), .int (nI ac), .ref b7, .int kn])), (b1, .inl (t1, 2000, .inl T2)), (b2, .inl (t2, 2000, .inl F2)), (b3, .inl (t3, 6000, .inl I)), (b4, .inl (t4, 6000, .inl J)), (b5, .inl (t5, 3, .inl U)), (b6, .inl (t6, 3, .inl V)), (b7, .inl (t7, 2001, .inl S2))]) [0, 1, 2, 3, 4, 5, 6, 7] (by decide) rfl
    have hKc := hK.sub (tys' := [(t1, .int), (t2, .int), (t3, .byte), (t4, .byte), (t5, .byte), (t6, .byte), (t7, .int)]) [5, 6, 7, 8, 9, 10, 11] rfl
    have hFc := va_free (wc := [(y, .inr (1, [.ref b1, .ref b2, .ref b3, .ref b4, .ref b5, .ref b6, .int (nI mo), .int (nI ac), .ref b7, .int kn])), (b1, .inl (t1, 2000, .inl T2)), (b2, .inl (t2, 2000, .inl F2)), (b3, .inl (t3, 6000, .inl I)), (b4, .inl (t4, 6000, .inl J)), (b5, .inl (t5, 3, .inl U)), (b6, .inl (t6, 3, .inl V)), (b7, .inl (t7, 2001, .inl S2))]) hD hS hA [0, 1, 2, 3, 4, 5, 6, 7] rfl
    refine va_calli (va_runV (As := [.int (xs (i + 1)), .int (xs (i + 2)), .int (xs (i + 3))]) (rest := [.int 1]) ⟨hx, hb, hml, hown, hts⟩ (c_X1_last l dC dI y b1 b2 b3 b4 b5 b6 b7 t1 t2 t3 t4 t5 t6 t7 H.size mo ac kn T2 F2 I J U V S2 (xs (i + 1)) (xs (i + 2)) (xs (i + 3))) (cwV 3 hts gL_law_X1_last rfl rfl rfl (by decide +kernel) ⟨Nat.le_of_ble_eq_true rfl, Nat.le_of_ble_eq_true rfl⟩) ⟨sr_blind, va_recv hKc hPc (ci := 1) (q0 := 0) rfl rfl, sr_mk hPc hKc hDc⟩ rfl rfl hl.1 rfl (lv_room (Nat.le_of_ble_eq_true rfl)) dL_law_162 ⟨by show _ ≤ 14; omega, by show _ ≤ 28028; omega⟩) hS (fun q _ h => hFc q h) hFc (fun r2 u t H1 locs ht hvm hw hB hz1 hk1 hS => ?_)
    obtain ⟨hP1, hK1, hD1⟩ := hB
    rw [ht] at hP1
    obtain ⟨U5, rfl, hw⟩ := hw
    obtain ⟨-, rfl, f0, f1, f2⟩ := hw.resolve_right (fun q => q.1 hV)
    obtain ⟨hP, hD⟩ := va_join (wr := [(x, .inr (0, [.ref a1, .ref a2, .ref a3, .ref a4, .ref a5, .int (nI mo), .int (nI cf), .int (nI q), .int (nI ac), .int st])), (a1, .inl (z1, 2000, .inl T)), (a2, .inl (z2, 2000, .inl F)), (a3, .inl (z3, 2000, .inl G)), (a4, .inl (z4, 2000, .inl Lm)), (a5, .inl (z5, 2001, .inl S))]) (w1 := [(y, .inr (1, [.ref b1, .ref b2, .ref b3, .ref b4, .ref b5, .ref b6, .int (nI mo), .int (nI ac), .ref b7, .int kn])), (b1, .inl (t1, 2000, .inl T2)), (b2, .inl (t2, 2000, .inl F2)), (b3, .inl (t3, 6000, .inl I)), (b4, .inl (t4, 6000, .inl J)), (b5, .inl (t5, 3, .inl U)), (b6, .inl (t6, 3, .inl U5)), (b7, .inl (t7, 2001, .inl S2))]) hP hD [0, 1, 2, 3, 4, 5, 6, 7] [8, 9, 10, 11, 12, 13] rfl rfl (by decide) (by decide) hk1 hFc hP1 hD1
    generalize H1 = H at hP hS ⊢
    have hP : va_P (dC, dI) vwCl [(x, .inr (0, [.ref a1, .ref a2, .ref a3, .ref a4, .ref a5, .int (nI mo), .int (nI cf), .int (nI q), .int (nI ac), .int st])), (a1, .inl (z1, 2000, .inl T)), (a2, .inl (z2, 2000, .inl F)), (a3, .inl (z3, 2000, .inl G)), (a4, .inl (z4, 2000, .inl Lm)), (a5, .inl (z5, 2001, .inl S)), (y, .inr (1, [.ref b1, .ref b2, .ref b3, .ref b4, .ref b5, .ref b6, .int (nI mo), .int (nI ac), .ref b7, .int kn])), (b1, .inl (t1, 2000, .inl T2)), (b2, .inl (t2, 2000, .inl F2)), (b3, .inl (t3, 6000, .inl I)), (b4, .inl (t4, 6000, .inl J)), (b5, .inl (t5, 3, .inl U)), (b6, .inl (t6, 3, .inl U5)), (b7, .inl (t7, 2001, .inl S2))] H := hP
    have hD : va_D (fun q : Nat => s.heap.size ≤ q) [(x, .inr (0, [.ref a1, .ref a2, .ref a3, .ref a4, .ref a5, .int (nI mo), .int (nI cf), .int (nI q), .int (nI ac), .int st])), (a1, .inl (z1, 2000, .inl T)), (a2, .inl (z2, 2000, .inl F)), (a3, .inl (z3, 2000, .inl G)), (a4, .inl (z4, 2000, .inl Lm)), (a5, .inl (z5, 2001, .inl S)), (y, .inr (1, [.ref b1, .ref b2, .ref b3, .ref b4, .ref b5, .ref b6, .int (nI mo), .int (nI ac), .ref b7, .int kn])), (b1, .inl (t1, 2000, .inl T2)), (b2, .inl (t2, 2000, .inl F2)), (b3, .inl (t3, 6000, .inl I)), (b4, .inl (t4, 6000, .inl J)), (b5, .inl (t5, 3, .inl U)), (b6, .inl (t6, 3, .inl U5)), (b7, .inl (t7, 2001, .inl S2))] := hD
    refine lv_icmp_eq (tgt := 322) hx hb dL_law_165 (by decide) (fun c1 => ?_) (fun c1 => ?_)
    · have hu : ∀ a, a < 3 → U5 a = sr_dg q a := fun a ha => by
        rcases (show a = 0 ∨ a = 1 ∨ a = 2 by omega) with rfl | rfl | rfl
        · rw [f0, e1]
        · rw [f1, e2]
        · rw [f2, e3]
      exact hk H locs ls ⟨mo, cf, q, ac, tk, fd, fs, la, st, T, F, G, Lm, S, kn, T2, F2, I, J, U, U5, S2, ⟨⟨g.1, g.2.1, g.2.2.1, hq, g.2.2.2.2⟩, hI, hQ, ⟨hM.1, fun a ha => ⟨(hM.2 a ha).1, hu a ha⟩⟩, hQ2⟩, hP, hD, hS⟩ hl
    · exact absurd rfl c1
  · refine lv_aload_n hx hb dL_law_127 rfl (lv_at hl 1 rfl) ?_
    refine lv_aload_n hx hb dL_law_128 rfl (lv_at hl 0 rfl) ?_
    refine lv_iload_n hx hb dL_law_129 rfl (lv_at hl 3 rfl) ?_
    refine lv_iconst (v := nI 1) hx hb dL_law_130 (by decide) ?_
    refine lv_iadd hx hb dL_law_131 ?_
    refine sr_ti (y := nI (i + 1)) (nI_add _ _) ?_
    refine sr_sld hx hb hX hbl hbA hS (by omega) (by omega) dL_law_132 ?_
    refine lv_aload_n hx hb dL_law_133 rfl (lv_at hl 0 rfl) ?_
    refine lv_iload_n hx hb dL_law_134 rfl (lv_at hl 3 rfl) ?_
    refine lv_iconst (v := nI 2) hx hb dL_law_135 (by decide) ?_
    refine lv_iadd hx hb dL_law_136 ?_
    refine sr_ti (y := nI (i + 2)) (nI_add _ _) ?_
    refine sr_sld hx hb hX hbl hbA hS (by omega) (by omega) dL_law_137 ?_
    refine lv_aload_n hx hb dL_law_138 rfl (lv_at hl 0 rfl) ?_
    refine lv_iload_n hx hb dL_law_139 rfl (lv_at hl 3 rfl) ?_
    refine lv_iconst (v := nI 3) hx hb dL_law_140 (by decide) ?_
    refine lv_iadd hx hb dL_law_141 ?_
    refine sr_ti (y := nI (i + 3)) (nI_add _ _) ?_
    refine sr_sld hx hb hX hbl hbA hS (by omega) (by omega) dL_law_142 ?_
    have hPc := hP.sub (ws' := [(x, .inr (0, [.ref a1, .ref a2, .ref a3, .ref a4, .ref a5, .int (nI mo), .int (nI cf), .int (nI cl), .int (nI ac), .int st])), (a1, .inl (z1, 2000, .inl T)), (a2, .inl (z2, 2000, .inl F)), (a3, .inl (z3, 2000, .inl G)), (a4, .inl (z4, 2000, .inl Lm)), (a5, .inl (z5, 2001, .inl S))]) [0, 1, 2, 3, 4, 5] rfl
    have hDc := hD.sub (ws' := [(x, .inr (0, [.ref a1, .ref a2, .ref a3, .ref a4, .ref a5, .int (nI mo), .int (nI cf), .int (nI cl), .int (nI ac), .int st])), (a1, .inl (z1, 2000, .inl T)), (a2, .inl (z2, 2000, .inl F)), (a3, .inl (z3, 2000, .inl G)), (a4, .inl (z4, 2000, .inl Lm)), (a5, .inl (z5, 2001, .inl S))]) [0, 1, 2, 3, 4, 5] (by decide) rfl
    have hKc := hK.sub (tys' := [(z1, .int), (z2, .int), (z3, .int), (z4, .int), (z5, .int)]) [0, 1, 2, 3, 4] rfl
    have hFc := va_free (wc := [(x, .inr (0, [.ref a1, .ref a2, .ref a3, .ref a4, .ref a5, .int (nI mo), .int (nI cf), .int (nI cl), .int (nI ac), .int st])), (a1, .inl (z1, 2000, .inl T)), (a2, .inl (z2, 2000, .inl F)), (a3, .inl (z3, 2000, .inl G)), (a4, .inl (z4, 2000, .inl Lm)), (a5, .inl (z5, 2001, .inl S))]) hD hS hA [0, 1, 2, 3, 4, 5] rfl
    refine va_calli (va_runV (As := [.int (xs (i + 1)), .int (xs (i + 2)), .int (xs (i + 3))]) (rest := []) ⟨hx, hb, hml, hown, hts⟩ (c_X0_last l dC dI x a1 a2 a3 a4 a5 z1 z2 z3 z4 z5 H.size mo cf cl ac st T F G Lm S (xs (i + 1)) (xs (i + 2)) (xs (i + 3))) (cwV 3 hts gL_law_X0_last rfl rfl rfl (by decide +kernel) ⟨Nat.le_of_ble_eq_true rfl, Nat.le_of_ble_eq_true rfl⟩) ⟨sr_blind, va_recv hKc hPc (ci := 0) (q0 := 0) rfl rfl, sr_mk hPc hKc hDc⟩ rfl rfl hl.1 rfl (lv_room (Nat.le_of_ble_eq_true rfl)) dL_law_143 ⟨by show _ ≤ 14; omega, by show _ ≤ 28028; omega⟩) hS (fun q _ h => hFc q h) hFc (fun r1 u t H1 locs ht hvm hw hB hz1 hk1 hS => ?_)
    obtain ⟨hP1, hK1, hD1⟩ := hB
    rw [ht] at hP1
    obtain ⟨-, rfl, rfl⟩ := hw.resolve_left (fun q => hV q.1)
    obtain ⟨hP, hD⟩ := va_join (wr := [(y, .inr (1, [.ref b1, .ref b2, .ref b3, .ref b4, .ref b5, .ref b6, .int (nI mo), .int (nI ac), .ref b7, .int kn])), (b1, .inl (t1, 2000, .inl T2)), (b2, .inl (t2, 2000, .inl F2)), (b3, .inl (t3, 6000, .inl I)), (b4, .inl (t4, 6000, .inl J)), (b5, .inl (t5, 3, .inl U)), (b6, .inl (t6, 3, .inl V)), (b7, .inl (t7, 2001, .inl S2))]) (w1 := [(x, .inr (0, [.ref a1, .ref a2, .ref a3, .ref a4, .ref a5, .int (nI mo), .int (nI cf), .int (nI cl), .int (nI ac), .int st])), (a1, .inl (z1, 2000, .inl T)), (a2, .inl (z2, 2000, .inl F)), (a3, .inl (z3, 2000, .inl G)), (a4, .inl (z4, 2000, .inl Lm)), (a5, .inl (z5, 2001, .inl S))]) hP hD [0, 1, 2, 3, 4, 5] [6, 7, 8, 9, 10, 11, 12, 13] rfl rfl (by decide) (by decide) hk1 hFc hP1 hD1
    generalize H1 = H at hP hS ⊢
    have hP : va_P (dC, dI) vwCl [(y, .inr (1, [.ref b1, .ref b2, .ref b3, .ref b4, .ref b5, .ref b6, .int (nI mo), .int (nI ac), .ref b7, .int kn])), (b1, .inl (t1, 2000, .inl T2)), (b2, .inl (t2, 2000, .inl F2)), (b3, .inl (t3, 6000, .inl I)), (b4, .inl (t4, 6000, .inl J)), (b5, .inl (t5, 3, .inl U)), (b6, .inl (t6, 3, .inl V)), (b7, .inl (t7, 2001, .inl S2)), (x, .inr (0, [.ref a1, .ref a2, .ref a3, .ref a4, .ref a5, .int (nI mo), .int (nI cf), .int (nI cl), .int (nI ac), .int st])), (a1, .inl (z1, 2000, .inl T)), (a2, .inl (z2, 2000, .inl F)), (a3, .inl (z3, 2000, .inl G)), (a4, .inl (z4, 2000, .inl Lm)), (a5, .inl (z5, 2001, .inl S))] H := hP
    have hD : va_D (fun q : Nat => s.heap.size ≤ q) [(y, .inr (1, [.ref b1, .ref b2, .ref b3, .ref b4, .ref b5, .ref b6, .int (nI mo), .int (nI ac), .ref b7, .int kn])), (b1, .inl (t1, 2000, .inl T2)), (b2, .inl (t2, 2000, .inl F2)), (b3, .inl (t3, 6000, .inl I)), (b4, .inl (t4, 6000, .inl J)), (b5, .inl (t5, 3, .inl U)), (b6, .inl (t6, 3, .inl V)), (b7, .inl (t7, 2001, .inl S2)), (x, .inr (0, [.ref a1, .ref a2, .ref a3, .ref a4, .ref a5, .int (nI mo), .int (nI cf), .int (nI cl), .int (nI ac), .int st])), (a1, .inl (z1, 2000, .inl T)), (a2, .inl (z2, 2000, .inl F)), (a3, .inl (z3, 2000, .inl G)), (a4, .inl (z4, 2000, .inl Lm)), (a5, .inl (z5, 2001, .inl S))] := hD
    refine lv_aload_n hx hb dL_law_146 rfl (lv_at hl 2 rfl) ?_
    refine lv_aload_n hx hb dL_law_147 rfl (lv_at hl 0 rfl) ?_
    refine lv_iload_n hx hb dL_law_148 rfl (lv_at hl 3 rfl) ?_
    refine lv_iconst (v := nI 1) hx hb dL_law_149 (by decide) ?_
    refine lv_iadd hx hb dL_law_150 ?_
    refine sr_ti (y := nI (i + 1)) (nI_add _ _) ?_
    refine sr_sld hx hb hX hbl hbA hS (by omega) (by omega) dL_law_151 ?_
    refine lv_aload_n hx hb dL_law_152 rfl (lv_at hl 0 rfl) ?_
    refine lv_iload_n hx hb dL_law_153 rfl (lv_at hl 3 rfl) ?_
    refine lv_iconst (v := nI 2) hx hb dL_law_154 (by decide) ?_
    refine lv_iadd hx hb dL_law_155 ?_
    refine sr_ti (y := nI (i + 2)) (nI_add _ _) ?_
    refine sr_sld hx hb hX hbl hbA hS (by omega) (by omega) dL_law_156 ?_
    refine lv_aload_n hx hb dL_law_157 rfl (lv_at hl 0 rfl) ?_
    refine lv_iload_n hx hb dL_law_158 rfl (lv_at hl 3 rfl) ?_
    refine lv_iconst (v := nI 3) hx hb dL_law_159 (by decide) ?_
    refine lv_iadd hx hb dL_law_160 ?_
    refine sr_ti (y := nI (i + 3)) (nI_add _ _) ?_
    refine sr_sld hx hb hX hbl hbA hS (by omega) (by omega) dL_law_161 ?_
    have hPc := hP.sub (ws' := [(y, .inr (1, [.ref b1, .ref b2, .ref b3, .ref b4, .ref b5, .ref b6, .int (nI mo), .int (nI ac), .ref b7, .int kn])), (b1, .inl (t1, 2000, .inl T2)), (b2, .inl (t2, 2000, .inl F2)), (b3, .inl (t3, 6000, .inl I)), (b4, .inl (t4, 6000, .inl J)), (b5, .inl (t5, 3, .inl U)), (b6, .inl (t6, 3, .inl V)), (b7, .inl (t7, 2001, .inl S2))]) [0, 1, 2, 3, 4, 5, 6, 7] rfl
    have hDc := hD.sub (ws' := [(y, .inr (1, [.ref b1, .ref b2, .ref b3, .ref b4, .ref b5, .ref b6, .int (nI mo), .int (nI ac), .ref b7, .int kn])), (b1, .inl (t1, 2000, .inl T2)), (b2, .inl (t2, 2000, .inl F2)), (b3, .inl (t3, 6000, .inl I)), (b4, .inl (t4, 6000, .inl J)), (b5, .inl (t5, 3, .inl U)), (b6, .inl (t6, 3, .inl V)), (b7, .inl (t7, 2001, .inl S2))]) [0, 1, 2, 3, 4, 5, 6, 7] (by decide) rfl
    have hKc := hK.sub (tys' := [(t1, .int), (t2, .int), (t3, .byte), (t4, .byte), (t5, .byte), (t6, .byte), (t7, .int)]) [5, 6, 7, 8, 9, 10, 11] rfl
    have hFc := va_free (wc := [(y, .inr (1, [.ref b1, .ref b2, .ref b3, .ref b4, .ref b5, .ref b6, .int (nI mo), .int (nI ac), .ref b7, .int kn])), (b1, .inl (t1, 2000, .inl T2)), (b2, .inl (t2, 2000, .inl F2)), (b3, .inl (t3, 6000, .inl I)), (b4, .inl (t4, 6000, .inl J)), (b5, .inl (t5, 3, .inl U)), (b6, .inl (t6, 3, .inl V)), (b7, .inl (t7, 2001, .inl S2))]) hD hS hA [0, 1, 2, 3, 4, 5, 6, 7] rfl
    refine va_calli (va_runV (As := [.int (xs (i + 1)), .int (xs (i + 2)), .int (xs (i + 3))]) (rest := [.int 0]) ⟨hx, hb, hml, hown, hts⟩ (c_X1_last l dC dI y b1 b2 b3 b4 b5 b6 b7 t1 t2 t3 t4 t5 t6 t7 H.size mo ac kn T2 F2 I J U V S2 (xs (i + 1)) (xs (i + 2)) (xs (i + 3))) (cwV 3 hts gL_law_X1_last rfl rfl rfl (by decide +kernel) ⟨Nat.le_of_ble_eq_true rfl, Nat.le_of_ble_eq_true rfl⟩) ⟨sr_blind, va_recv hKc hPc (ci := 1) (q0 := 0) rfl rfl, sr_mk hPc hKc hDc⟩ rfl rfl hl.1 rfl (lv_room (Nat.le_of_ble_eq_true rfl)) dL_law_162 ⟨by show _ ≤ 14; omega, by show _ ≤ 28028; omega⟩) hS (fun q _ h => hFc q h) hFc (fun r2 u t H1 locs ht hvm hw hB hz1 hk1 hS => ?_)
    obtain ⟨hP1, hK1, hD1⟩ := hB
    rw [ht] at hP1
    obtain ⟨U5, rfl, hw⟩ := hw
    obtain ⟨-, rfl, hU⟩ := hw.resolve_left (fun q => hV q.1)
    obtain ⟨hP, hD⟩ := va_join (wr := [(x, .inr (0, [.ref a1, .ref a2, .ref a3, .ref a4, .ref a5, .int (nI mo), .int (nI cf), .int (nI cl), .int (nI ac), .int st])), (a1, .inl (z1, 2000, .inl T)), (a2, .inl (z2, 2000, .inl F)), (a3, .inl (z3, 2000, .inl G)), (a4, .inl (z4, 2000, .inl Lm)), (a5, .inl (z5, 2001, .inl S))]) (w1 := [(y, .inr (1, [.ref b1, .ref b2, .ref b3, .ref b4, .ref b5, .ref b6, .int (nI mo), .int (nI ac), .ref b7, .int kn])), (b1, .inl (t1, 2000, .inl T2)), (b2, .inl (t2, 2000, .inl F2)), (b3, .inl (t3, 6000, .inl I)), (b4, .inl (t4, 6000, .inl J)), (b5, .inl (t5, 3, .inl U)), (b6, .inl (t6, 3, .inl U5)), (b7, .inl (t7, 2001, .inl S2))]) hP hD [0, 1, 2, 3, 4, 5, 6, 7] [8, 9, 10, 11, 12, 13] rfl rfl (by decide) (by decide) hk1 hFc hP1 hD1
    generalize H1 = H at hP hS ⊢
    have hP : va_P (dC, dI) vwCl [(x, .inr (0, [.ref a1, .ref a2, .ref a3, .ref a4, .ref a5, .int (nI mo), .int (nI cf), .int (nI cl), .int (nI ac), .int st])), (a1, .inl (z1, 2000, .inl T)), (a2, .inl (z2, 2000, .inl F)), (a3, .inl (z3, 2000, .inl G)), (a4, .inl (z4, 2000, .inl Lm)), (a5, .inl (z5, 2001, .inl S)), (y, .inr (1, [.ref b1, .ref b2, .ref b3, .ref b4, .ref b5, .ref b6, .int (nI mo), .int (nI ac), .ref b7, .int kn])), (b1, .inl (t1, 2000, .inl T2)), (b2, .inl (t2, 2000, .inl F2)), (b3, .inl (t3, 6000, .inl I)), (b4, .inl (t4, 6000, .inl J)), (b5, .inl (t5, 3, .inl U)), (b6, .inl (t6, 3, .inl U5)), (b7, .inl (t7, 2001, .inl S2))] H := hP
    have hD : va_D (fun q : Nat => s.heap.size ≤ q) [(x, .inr (0, [.ref a1, .ref a2, .ref a3, .ref a4, .ref a5, .int (nI mo), .int (nI cf), .int (nI cl), .int (nI ac), .int st])), (a1, .inl (z1, 2000, .inl T)), (a2, .inl (z2, 2000, .inl F)), (a3, .inl (z3, 2000, .inl G)), (a4, .inl (z4, 2000, .inl Lm)), (a5, .inl (z5, 2001, .inl S)), (y, .inr (1, [.ref b1, .ref b2, .ref b3, .ref b4, .ref b5, .ref b6, .int (nI mo), .int (nI ac), .ref b7, .int kn])), (b1, .inl (t1, 2000, .inl T2)), (b2, .inl (t2, 2000, .inl F2)), (b3, .inl (t3, 6000, .inl I)), (b4, .inl (t4, 6000, .inl J)), (b5, .inl (t5, 3, .inl U)), (b6, .inl (t6, 3, .inl U5)), (b7, .inl (t7, 2001, .inl S2))] := hD
    refine lv_icmp_eq (tgt := 322) hx hb dL_law_165 (by decide) (fun c1 => ?_) (fun c1 => ?_)
    · exact hk H locs ls ⟨mo, cf, cl, ac, tk, fd, fs, la, st, T, F, G, Lm, S, kn, T2, F2, I, J, U, U5, S2, ⟨g, hI, hQ, by rw [hU]; exact hM, hQ2⟩, hP, hD, hS⟩ hl
    · exact absurd rfl c1
set_option maxHeartbeats 4000000 in
set_option maxRecDepth 100000 in
/-- case 2: move -/
theorem lw_c2 {p : Program} {l : Launch} {e : Env} {s : State} {m : MethodId} {below : List Frame} {meth : Method} {c : Code} {Q : State → Prop} {b L : Nat} {xs : Nat → Int32} (hL : L ≤ 2048) (C0 : lw_At p s m meth c b L xs) {dC : Nat → ClassId} {dI : Nat → Nat → Nat} {x a1 a2 a3 a4 a5 : Nat} {z1 z2 z3 z4 z5 : ClassId} {y b1 b2 b3 b4 b5 b6 b7 : Nat} {t1 t2 t3 t4 t5 t6 t7 : ClassId} (hK : va_K (dC, dI) vwCl (sr_tX z1 z2 z3 z4 z5 ++ sr_tM t1 t2 t3 t4 t5 t6 t7) s) {i : Nat} (hi : i + 4 ≤ L)
    (hk : ∀ (H : Heap) (locs : List Loc) (ls : Array Slot), lw_I dC dI x a1 a2 a3 a4 a5 z1 z2 z3 z4 z5 y b1 b2 b3 b4 b5 b6 b7 t1 t2 t3 t4 t5 t6 t7 (fun q : Nat => s.heap.size ≤ q) s.heap H locs → lv_has ls 4 [(0, .ref b), (1, .ref x), (2, .ref y), (3, .int (nI i))] → W p l e room_1 s m #[Value.ref b] below meth c H locs 14 28028 Q (F0 m 322 ls [])) (H : Heap) (locs : List Loc) (ls : Array Slot) (hJ : lw_I dC dI x a1 a2 a3 a4 a5 z1 z2 z3 z4 z5 y b1 b2 b3 b4 b5 b6 b7 t1 t2 t3 t4 t5 t6 t7 (fun q : Nat => s.heap.size ≤ q) s.heap H locs) (hl : lv_has ls 4 [(0, .ref b), (1, .ref x), (2, .ref y), (3, .int (nI i))]) : W p l e room_1 s m #[Value.ref b] below meth c H locs 14 28028 Q (F0 m 170 ls []) := by
  obtain ⟨hx, hb, hr, hml, hown, hts, hX, hbl, hlocks, hgv⟩ := C0
  have hown : s.vm.findClass RL = some m.cls := hown
  have hts := fun w h => hts w (wsL_law_in w h)
  have hA : ∀ q : Nat, s.heap.size ≤ q → (fun q : Nat => s.heap.size ≤ q) q := fun _ h => h
  have hbA : ¬ (fun q : Nat => s.heap.size ≤ q) b := Nat.not_le.mpr hbl
  obtain ⟨mo, cf, cl, ac, tk, fd, fs, la, st, T, F, G, Lm, S, kn, T2, F2, I, J, U, V, S2, ⟨g, hI, hQ, hM, hQ2⟩, hP, hD, hS⟩ := hJ
  have hK : va_K (dC, dI) vwCl [(z1, .int), (z2, .int), (z3, .int), (z4, .int), (z5, .int), (t1, .int), (t2, .int), (t3, .byte), (t4, .byte), (t5, .byte), (t6, .byte), (t7, .int)] s := hK
  have hP : va_P (dC, dI) vwCl [(x, .inr (0, [.ref a1, .ref a2, .ref a3, .ref a4, .ref a5, .int (nI mo), .int (nI cf), .int (nI cl), .int (nI ac), .int st])), (a1, .inl (z1, 2000, .inl T)), (a2, .inl (z2, 2000, .inl F)), (a3, .inl (z3, 2000, .inl G)), (a4, .inl (z4, 2000, .inl Lm)), (a5, .inl (z5, 2001, .inl S)), (y, .inr (1, [.ref b1, .ref b2, .ref b3, .ref b4, .ref b5, .ref b6, .int (nI mo), .int (nI ac), .ref b7, .int kn])), (b1, .inl (t1, 2000, .inl T2)), (b2, .inl (t2, 2000, .inl F2)), (b3, .inl (t3, 6000, .inl I)), (b4, .inl (t4, 6000, .inl J)), (b5, .inl (t5, 3, .inl U)), (b6, .inl (t6, 3, .inl V)), (b7, .inl (t7, 2001, .inl S2))] H := hP
  have hD : va_D (fun q : Nat => s.heap.size ≤ q) [(x, .inr (0, [.ref a1, .ref a2, .ref a3, .ref a4, .ref a5, .int (nI mo), .int (nI cf), .int (nI cl), .int (nI ac), .int st])), (a1, .inl (z1, 2000, .inl T)), (a2, .inl (z2, 2000, .inl F)), (a3, .inl (z3, 2000, .inl G)), (a4, .inl (z4, 2000, .inl Lm)), (a5, .inl (z5, 2001, .inl S)), (y, .inr (1, [.ref b1, .ref b2, .ref b3, .ref b4, .ref b5, .ref b6, .int (nI mo), .int (nI ac), .ref b7, .int kn])), (b1, .inl (t1, 2000, .inl T2)), (b2, .inl (t2, 2000, .inl F2)), (b3, .inl (t3, 6000, .inl I)), (b4, .inl (t4, 6000, .inl J)), (b5, .inl (t5, 3, .inl U)), (b6, .inl (t6, 3, .inl V)), (b7, .inl (t7, 2001, .inl S2))] := hD
  have hmo : mo ≤ 2000 := g.1
  by_cases hV : ((1 : Int32) ≤ xs (i + 1) ∧ xs (i + 1) ≤ 100000) ∧ ((1 : Int32) ≤ xs (i + 2) ∧ xs (i + 2) ≤ 99999) ∧ mo < 2000
  · refine lv_aload_n hx hb dL_law_170 rfl (lv_at hl 1 rfl) ?_
    refine lv_aload_n hx hb dL_law_171 rfl (lv_at hl 0 rfl) ?_
    refine lv_iload_n hx hb dL_law_172 rfl (lv_at hl 3 rfl) ?_
    refine lv_iconst (v := nI 1) hx hb dL_law_173 (by decide) ?_
    refine lv_iadd hx hb dL_law_174 ?_
    refine sr_ti (y := nI (i + 1)) (nI_add _ _) ?_
    refine sr_sld hx hb hX hbl hbA hS (by omega) (by omega) dL_law_175 ?_
    refine lv_aload_n hx hb dL_law_176 rfl (lv_at hl 0 rfl) ?_
    refine lv_iload_n hx hb dL_law_177 rfl (lv_at hl 3 rfl) ?_
    refine lv_iconst (v := nI 2) hx hb dL_law_178 (by decide) ?_
    refine lv_iadd hx hb dL_law_179 ?_
    refine sr_ti (y := nI (i + 2)) (nI_add _ _) ?_
    refine sr_sld hx hb hX hbl hbA hS (by omega) (by omega) dL_law_180 ?_
    have hPc := hP.sub (ws' := [(x, .inr (0, [.ref a1, .ref a2, .ref a3, .ref a4, .ref a5, .int (nI mo), .int (nI cf), .int (nI cl), .int (nI ac), .int st])), (a1, .inl (z1, 2000, .inl T)), (a2, .inl (z2, 2000, .inl F)), (a3, .inl (z3, 2000, .inl G)), (a4, .inl (z4, 2000, .inl Lm)), (a5, .inl (z5, 2001, .inl S))]) [0, 1, 2, 3, 4, 5] rfl
    have hDc := hD.sub (ws' := [(x, .inr (0, [.ref a1, .ref a2, .ref a3, .ref a4, .ref a5, .int (nI mo), .int (nI cf), .int (nI cl), .int (nI ac), .int st])), (a1, .inl (z1, 2000, .inl T)), (a2, .inl (z2, 2000, .inl F)), (a3, .inl (z3, 2000, .inl G)), (a4, .inl (z4, 2000, .inl Lm)), (a5, .inl (z5, 2001, .inl S))]) [0, 1, 2, 3, 4, 5] (by decide) rfl
    have hKc := hK.sub (tys' := [(z1, .int), (z2, .int), (z3, .int), (z4, .int), (z5, .int)]) [0, 1, 2, 3, 4] rfl
    have hFc := va_free (wc := [(x, .inr (0, [.ref a1, .ref a2, .ref a3, .ref a4, .ref a5, .int (nI mo), .int (nI cf), .int (nI cl), .int (nI ac), .int st])), (a1, .inl (z1, 2000, .inl T)), (a2, .inl (z2, 2000, .inl F)), (a3, .inl (z3, 2000, .inl G)), (a4, .inl (z4, 2000, .inl Lm)), (a5, .inl (z5, 2001, .inl S))]) hD hS hA [0, 1, 2, 3, 4, 5] rfl
    refine va_calli (va_runV (As := [.int (xs (i + 1)), .int (xs (i + 2))]) (rest := []) ⟨hx, hb, hml, hown, hts⟩ (c_X0_move l dC dI x a1 a2 a3 a4 a5 z1 z2 z3 z4 z5 H.size mo cf cl ac st T F G Lm S (xs (i + 1)) (xs (i + 2)) tk fd fs la g hI) (cwV 2 hts gL_law_X0_move rfl rfl rfl (by decide +kernel) ⟨Nat.le_of_ble_eq_true rfl, Nat.le_of_ble_eq_true rfl⟩) ⟨sr_blind, va_recv hKc hPc (ci := 0) (q0 := 0) rfl rfl, sr_mk hPc hKc hDc⟩ rfl rfl hl.1 rfl (lv_room (Nat.le_of_ble_eq_true rfl)) dL_law_181 ⟨by show _ ≤ 14; omega, by show _ ≤ 28028; omega⟩) hS (fun q _ h => hFc q h) hFc (fun r1 u t H1 locs ht hvm hw hB hz1 hk1 hS => ?_)
    obtain ⟨hP1, hK1, hD1⟩ := hB
    rw [ht] at hP1
    obtain ⟨-, rfl, T5, F5, G5, L5, rfl, hI5⟩ := hw.resolve_right (fun q => q.1 hV)
    obtain ⟨hP, hD⟩ := va_join (wr := [(y, .inr (1, [.ref b1, .ref b2, .ref b3, .ref b4, .ref b5, .ref b6, .int (nI mo), .int (nI ac), .ref b7, .int kn])), (b1, .inl (t1, 2000, .inl T2)), (b2, .inl (t2, 2000, .inl F2)), (b3, .inl (t3, 6000, .inl I)), (b4, .inl (t4, 6000, .inl J)), (b5, .inl (t5, 3, .inl U)), (b6, .inl (t6, 3, .inl V)), (b7, .inl (t7, 2001, .inl S2))]) (w1 := [(x, .inr (0, [.ref a1, .ref a2, .ref a3, .ref a4, .ref a5, .int (nI (mo + 1)), .int (nI cf), .int (nI cl), .int (nI ac), .int 0])), (a1, .inl (z1, 2000, .inl T5)), (a2, .inl (z2, 2000, .inl F5)), (a3, .inl (z3, 2000, .inl G5)), (a4, .inl (z4, 2000, .inl L5)), (a5, .inl (z5, 2001, .inl S))]) hP hD [0, 1, 2, 3, 4, 5] [6, 7, 8, 9, 10, 11, 12, 13] rfl rfl (by decide) (by decide) hk1 hFc hP1 hD1
    generalize H1 = H at hP hS ⊢
    have hP : va_P (dC, dI) vwCl [(y, .inr (1, [.ref b1, .ref b2, .ref b3, .ref b4, .ref b5, .ref b6, .int (nI mo), .int (nI ac), .ref b7, .int kn])), (b1, .inl (t1, 2000, .inl T2)), (b2, .inl (t2, 2000, .inl F2)), (b3, .inl (t3, 6000, .inl I)), (b4, .inl (t4, 6000, .inl J)), (b5, .inl (t5, 3, .inl U)), (b6, .inl (t6, 3, .inl V)), (b7, .inl (t7, 2001, .inl S2)), (x, .inr (0, [.ref a1, .ref a2, .ref a3, .ref a4, .ref a5, .int (nI (mo + 1)), .int (nI cf), .int (nI cl), .int (nI ac), .int 0])), (a1, .inl (z1, 2000, .inl T5)), (a2, .inl (z2, 2000, .inl F5)), (a3, .inl (z3, 2000, .inl G5)), (a4, .inl (z4, 2000, .inl L5)), (a5, .inl (z5, 2001, .inl S))] H := hP
    have hD : va_D (fun q : Nat => s.heap.size ≤ q) [(y, .inr (1, [.ref b1, .ref b2, .ref b3, .ref b4, .ref b5, .ref b6, .int (nI mo), .int (nI ac), .ref b7, .int kn])), (b1, .inl (t1, 2000, .inl T2)), (b2, .inl (t2, 2000, .inl F2)), (b3, .inl (t3, 6000, .inl I)), (b4, .inl (t4, 6000, .inl J)), (b5, .inl (t5, 3, .inl U)), (b6, .inl (t6, 3, .inl V)), (b7, .inl (t7, 2001, .inl S2)), (x, .inr (0, [.ref a1, .ref a2, .ref a3, .ref a4, .ref a5, .int (nI (mo + 1)), .int (nI cf), .int (nI cl), .int (nI ac), .int 0])), (a1, .inl (z1, 2000, .inl T5)), (a2, .inl (z2, 2000, .inl F5)), (a3, .inl (z3, 2000, .inl G5)), (a4, .inl (z4, 2000, .inl L5)), (a5, .inl (z5, 2001, .inl S))] := hD
    refine lv_aload_n hx hb dL_law_184 rfl (lv_at hl 2 rfl) ?_
    refine lv_aload_n hx hb dL_law_185 rfl (lv_at hl 0 rfl) ?_
    refine lv_iload_n hx hb dL_law_186 rfl (lv_at hl 3 rfl) ?_
    refine lv_iconst (v := nI 1) hx hb dL_law_187 (by decide) ?_
    refine lv_iadd hx hb dL_law_188 ?_
    refine sr_ti (y := nI (i + 1)) (nI_add _ _) ?_
    refine sr_sld hx hb hX hbl hbA hS (by omega) (by omega) dL_law_189 ?_
    refine lv_aload_n hx hb dL_law_190 rfl (lv_at hl 0 rfl) ?_
    refine lv_iload_n hx hb dL_law_191 rfl (lv_at hl 3 rfl) ?_
    refine lv_iconst (v := nI 2) hx hb dL_law_192 (by decide) ?_
    refine lv_iadd hx hb dL_law_193 ?_
    refine sr_ti (y := nI (i + 2)) (nI_add _ _) ?_
    refine sr_sld hx hb hX hbl hbA hS (by omega) (by omega) dL_law_194 ?_
    have hPc := hP.sub (ws' := [(y, .inr (1, [.ref b1, .ref b2, .ref b3, .ref b4, .ref b5, .ref b6, .int (nI mo), .int (nI ac), .ref b7, .int kn])), (b1, .inl (t1, 2000, .inl T2)), (b2, .inl (t2, 2000, .inl F2)), (b3, .inl (t3, 6000, .inl I)), (b4, .inl (t4, 6000, .inl J)), (b5, .inl (t5, 3, .inl U)), (b6, .inl (t6, 3, .inl V)), (b7, .inl (t7, 2001, .inl S2))]) [0, 1, 2, 3, 4, 5, 6, 7] rfl
    have hDc := hD.sub (ws' := [(y, .inr (1, [.ref b1, .ref b2, .ref b3, .ref b4, .ref b5, .ref b6, .int (nI mo), .int (nI ac), .ref b7, .int kn])), (b1, .inl (t1, 2000, .inl T2)), (b2, .inl (t2, 2000, .inl F2)), (b3, .inl (t3, 6000, .inl I)), (b4, .inl (t4, 6000, .inl J)), (b5, .inl (t5, 3, .inl U)), (b6, .inl (t6, 3, .inl V)), (b7, .inl (t7, 2001, .inl S2))]) [0, 1, 2, 3, 4, 5, 6, 7] (by decide) rfl
    have hKc := hK.sub (tys' := [(t1, .int), (t2, .int), (t3, .byte), (t4, .byte), (t5, .byte), (t6, .byte), (t7, .int)]) [5, 6, 7, 8, 9, 10, 11] rfl
    have hFc := va_free (wc := [(y, .inr (1, [.ref b1, .ref b2, .ref b3, .ref b4, .ref b5, .ref b6, .int (nI mo), .int (nI ac), .ref b7, .int kn])), (b1, .inl (t1, 2000, .inl T2)), (b2, .inl (t2, 2000, .inl F2)), (b3, .inl (t3, 6000, .inl I)), (b4, .inl (t4, 6000, .inl J)), (b5, .inl (t5, 3, .inl U)), (b6, .inl (t6, 3, .inl V)), (b7, .inl (t7, 2001, .inl S2))]) hD hS hA [0, 1, 2, 3, 4, 5, 6, 7] rfl
    refine va_calli (va_runV (As := [.int (xs (i + 1)), .int (xs (i + 2))]) (rest := [.int (nI (mo + 1))]) ⟨hx, hb, hml, hown, hts⟩ (c_X1_move l dC dI y b1 b2 b3 b4 b5 b6 b7 t1 t2 t3 t4 t5 t6 t7 H.size mo ac kn T2 F2 I J U V S2 (xs (i + 1)) (xs (i + 2)) cf cl tk fd fs la g hM) (cwV 2 hts gL_law_X1_move rfl rfl rfl (by decide +kernel) ⟨Nat.le_of_ble_eq_true rfl, Nat.le_of_ble_eq_true rfl⟩) ⟨sr_blind, va_recv hKc hPc (ci := 1) (q0 := 0) rfl rfl, sr_mk hPc hKc hDc⟩ rfl rfl hl.1 rfl (lv_room (Nat.le_of_ble_eq_true rfl)) dL_law_195 ⟨by show _ ≤ 14; omega, by show _ ≤ 28028; omega⟩) hS (fun q _ h => hFc q h) hFc (fun r2 u t H1 locs ht hvm hw hB hz1 hk1 hS => ?_)
    obtain ⟨hP1, hK1, hD1⟩ := hB
    rw [ht] at hP1
    obtain ⟨-, rfl, T6, F6, I6, J6, rfl, hM6⟩ := hw.resolve_right (fun q => q.1 hV)
    obtain ⟨hP, hD⟩ := va_join (wr := [(x, .inr (0, [.ref a1, .ref a2, .ref a3, .ref a4, .ref a5, .int (nI (mo + 1)), .int (nI cf), .int (nI cl), .int (nI ac), .int 0])), (a1, .inl (z1, 2000, .inl T5)), (a2, .inl (z2, 2000, .inl F5)), (a3, .inl (z3, 2000, .inl G5)), (a4, .inl (z4, 2000, .inl L5)), (a5, .inl (z5, 2001, .inl S))]) (w1 := [(y, .inr (1, [.ref b1, .ref b2, .ref b3, .ref b4, .ref b5, .ref b6, .int (nI (mo + 1)), .int (nI ac), .ref b7, .int 0])), (b1, .inl (t1, 2000, .inl T6)), (b2, .inl (t2, 2000, .inl F6)), (b3, .inl (t3, 6000, .inl I6)), (b4, .inl (t4, 6000, .inl J6)), (b5, .inl (t5, 3, .inl U)), (b6, .inl (t6, 3, .inl V)), (b7, .inl (t7, 2001, .inl S2))]) hP hD [0, 1, 2, 3, 4, 5, 6, 7] [8, 9, 10, 11, 12, 13] rfl rfl (by decide) (by decide) hk1 hFc hP1 hD1
    generalize H1 = H at hP hS ⊢
    have hP : va_P (dC, dI) vwCl [(x, .inr (0, [.ref a1, .ref a2, .ref a3, .ref a4, .ref a5, .int (nI (mo + 1)), .int (nI cf), .int (nI cl), .int (nI ac), .int 0])), (a1, .inl (z1, 2000, .inl T5)), (a2, .inl (z2, 2000, .inl F5)), (a3, .inl (z3, 2000, .inl G5)), (a4, .inl (z4, 2000, .inl L5)), (a5, .inl (z5, 2001, .inl S)), (y, .inr (1, [.ref b1, .ref b2, .ref b3, .ref b4, .ref b5, .ref b6, .int (nI (mo + 1)), .int (nI ac), .ref b7, .int 0])), (b1, .inl (t1, 2000, .inl T6)), (b2, .inl (t2, 2000, .inl F6)), (b3, .inl (t3, 6000, .inl I6)), (b4, .inl (t4, 6000, .inl J6)), (b5, .inl (t5, 3, .inl U)), (b6, .inl (t6, 3, .inl V)), (b7, .inl (t7, 2001, .inl S2))] H := hP
    have hD : va_D (fun q : Nat => s.heap.size ≤ q) [(x, .inr (0, [.ref a1, .ref a2, .ref a3, .ref a4, .ref a5, .int (nI (mo + 1)), .int (nI cf), .int (nI cl), .int (nI ac), .int 0])), (a1, .inl (z1, 2000, .inl T5)), (a2, .inl (z2, 2000, .inl F5)), (a3, .inl (z3, 2000, .inl G5)), (a4, .inl (z4, 2000, .inl L5)), (a5, .inl (z5, 2001, .inl S)), (y, .inr (1, [.ref b1, .ref b2, .ref b3, .ref b4, .ref b5, .ref b6, .int (nI (mo + 1)), .int (nI ac), .ref b7, .int 0])), (b1, .inl (t1, 2000, .inl T6)), (b2, .inl (t2, 2000, .inl F6)), (b3, .inl (t3, 6000, .inl I6)), (b4, .inl (t4, 6000, .inl J6)), (b5, .inl (t5, 3, .inl U)), (b6, .inl (t6, 3, .inl V)), (b7, .inl (t7, 2001, .inl S2))] := hD
    refine lv_icmp_eq (tgt := 322) hx hb dL_law_198 (by decide) (fun c1 => ?_) (fun c1 => ?_)
    · exact hk H locs ls ⟨mo + 1, cf, cl, ac, sr_up tk mo (xs (i + 1)).toNatClampNeg, sr_up fd mo (xs (i + 2)).toNatClampNeg, sr_up fs mo cf, sr_up la mo cl, 0, T5, F5, G5, L5, S, 0, T6, F6, I6, J6, U, V, S2, ⟨sr_G_push g hV.2.2 (sr_rng (M := 100000) (by decide) (by decide) hV.1.1 hV.1.2) (sr_rng (M := 99999) (by decide) (by decide) hV.2.1.1 hV.2.1.2), hI5, Or.inl rfl, hM6, Or.inl rfl⟩, hP, hD, hS⟩ hl
    · exact absurd rfl c1
  · refine lv_aload_n hx hb dL_law_170 rfl (lv_at hl 1 rfl) ?_
    refine lv_aload_n hx hb dL_law_171 rfl (lv_at hl 0 rfl) ?_
    refine lv_iload_n hx hb dL_law_172 rfl (lv_at hl 3 rfl) ?_
    refine lv_iconst (v := nI 1) hx hb dL_law_173 (by decide) ?_
    refine lv_iadd hx hb dL_law_174 ?_
    refine sr_ti (y := nI (i + 1)) (nI_add _ _) ?_
    refine sr_sld hx hb hX hbl hbA hS (by omega) (by omega) dL_law_175 ?_
    refine lv_aload_n hx hb dL_law_176 rfl (lv_at hl 0 rfl) ?_
    refine lv_iload_n hx hb dL_law_177 rfl (lv_at hl 3 rfl) ?_
    refine lv_iconst (v := nI 2) hx hb dL_law_178 (by decide) ?_
    refine lv_iadd hx hb dL_law_179 ?_
    refine sr_ti (y := nI (i + 2)) (nI_add _ _) ?_
    refine sr_sld hx hb hX hbl hbA hS (by omega) (by omega) dL_law_180 ?_
    have hPc := hP.sub (ws' := [(x, .inr (0, [.ref a1, .ref a2, .ref a3, .ref a4, .ref a5, .int (nI mo), .int (nI cf), .int (nI cl), .int (nI ac), .int st])), (a1, .inl (z1, 2000, .inl T)), (a2, .inl (z2, 2000, .inl F)), (a3, .inl (z3, 2000, .inl G)), (a4, .inl (z4, 2000, .inl Lm)), (a5, .inl (z5, 2001, .inl S))]) [0, 1, 2, 3, 4, 5] rfl
    have hDc := hD.sub (ws' := [(x, .inr (0, [.ref a1, .ref a2, .ref a3, .ref a4, .ref a5, .int (nI mo), .int (nI cf), .int (nI cl), .int (nI ac), .int st])), (a1, .inl (z1, 2000, .inl T)), (a2, .inl (z2, 2000, .inl F)), (a3, .inl (z3, 2000, .inl G)), (a4, .inl (z4, 2000, .inl Lm)), (a5, .inl (z5, 2001, .inl S))]) [0, 1, 2, 3, 4, 5] (by decide) rfl
    have hKc := hK.sub (tys' := [(z1, .int), (z2, .int), (z3, .int), (z4, .int), (z5, .int)]) [0, 1, 2, 3, 4] rfl
    have hFc := va_free (wc := [(x, .inr (0, [.ref a1, .ref a2, .ref a3, .ref a4, .ref a5, .int (nI mo), .int (nI cf), .int (nI cl), .int (nI ac), .int st])), (a1, .inl (z1, 2000, .inl T)), (a2, .inl (z2, 2000, .inl F)), (a3, .inl (z3, 2000, .inl G)), (a4, .inl (z4, 2000, .inl Lm)), (a5, .inl (z5, 2001, .inl S))]) hD hS hA [0, 1, 2, 3, 4, 5] rfl
    refine va_calli (va_runV (As := [.int (xs (i + 1)), .int (xs (i + 2))]) (rest := []) ⟨hx, hb, hml, hown, hts⟩ (c_X0_move l dC dI x a1 a2 a3 a4 a5 z1 z2 z3 z4 z5 H.size mo cf cl ac st T F G Lm S (xs (i + 1)) (xs (i + 2)) tk fd fs la g hI) (cwV 2 hts gL_law_X0_move rfl rfl rfl (by decide +kernel) ⟨Nat.le_of_ble_eq_true rfl, Nat.le_of_ble_eq_true rfl⟩) ⟨sr_blind, va_recv hKc hPc (ci := 0) (q0 := 0) rfl rfl, sr_mk hPc hKc hDc⟩ rfl rfl hl.1 rfl (lv_room (Nat.le_of_ble_eq_true rfl)) dL_law_181 ⟨by show _ ≤ 14; omega, by show _ ≤ 28028; omega⟩) hS (fun q _ h => hFc q h) hFc (fun r1 u t H1 locs ht hvm hw hB hz1 hk1 hS => ?_)
    obtain ⟨hP1, hK1, hD1⟩ := hB
    rw [ht] at hP1
    obtain ⟨-, rfl, rfl⟩ := hw.resolve_left (fun q => hV q.1)
    obtain ⟨hP, hD⟩ := va_join (wr := [(y, .inr (1, [.ref b1, .ref b2, .ref b3, .ref b4, .ref b5, .ref b6, .int (nI mo), .int (nI ac), .ref b7, .int kn])), (b1, .inl (t1, 2000, .inl T2)), (b2, .inl (t2, 2000, .inl F2)), (b3, .inl (t3, 6000, .inl I)), (b4, .inl (t4, 6000, .inl J)), (b5, .inl (t5, 3, .inl U)), (b6, .inl (t6, 3, .inl V)), (b7, .inl (t7, 2001, .inl S2))]) (w1 := [(x, .inr (0, [.ref a1, .ref a2, .ref a3, .ref a4, .ref a5, .int (nI mo), .int (nI cf), .int (nI cl), .int (nI ac), .int st])), (a1, .inl (z1, 2000, .inl T)), (a2, .inl (z2, 2000, .inl F)), (a3, .inl (z3, 2000, .inl G)), (a4, .inl (z4, 2000, .inl Lm)), (a5, .inl (z5, 2001, .inl S))]) hP hD [0, 1, 2, 3, 4, 5] [6, 7, 8, 9, 10, 11, 12, 13] rfl rfl (by decide) (by decide) hk1 hFc hP1 hD1
    generalize H1 = H at hP hS ⊢
    have hP : va_P (dC, dI) vwCl [(y, .inr (1, [.ref b1, .ref b2, .ref b3, .ref b4, .ref b5, .ref b6, .int (nI mo), .int (nI ac), .ref b7, .int kn])), (b1, .inl (t1, 2000, .inl T2)), (b2, .inl (t2, 2000, .inl F2)), (b3, .inl (t3, 6000, .inl I)), (b4, .inl (t4, 6000, .inl J)), (b5, .inl (t5, 3, .inl U)), (b6, .inl (t6, 3, .inl V)), (b7, .inl (t7, 2001, .inl S2)), (x, .inr (0, [.ref a1, .ref a2, .ref a3, .ref a4, .ref a5, .int (nI mo), .int (nI cf), .int (nI cl), .int (nI ac), .int st])), (a1, .inl (z1, 2000, .inl T)), (a2, .inl (z2, 2000, .inl F)), (a3, .inl (z3, 2000, .inl G)), (a4, .inl (z4, 2000, .inl Lm)), (a5, .inl (z5, 2001, .inl S))] H := hP
    have hD : va_D (fun q : Nat => s.heap.size ≤ q) [(y, .inr (1, [.ref b1, .ref b2, .ref b3, .ref b4, .ref b5, .ref b6, .int (nI mo), .int (nI ac), .ref b7, .int kn])), (b1, .inl (t1, 2000, .inl T2)), (b2, .inl (t2, 2000, .inl F2)), (b3, .inl (t3, 6000, .inl I)), (b4, .inl (t4, 6000, .inl J)), (b5, .inl (t5, 3, .inl U)), (b6, .inl (t6, 3, .inl V)), (b7, .inl (t7, 2001, .inl S2)), (x, .inr (0, [.ref a1, .ref a2, .ref a3, .ref a4, .ref a5, .int (nI mo), .int (nI cf), .int (nI cl), .int (nI ac), .int st])), (a1, .inl (z1, 2000, .inl T)), (a2, .inl (z2, 2000, .inl F)), (a3, .inl (z3, 2000, .inl G)), (a4, .inl (z4, 2000, .inl Lm)), (a5, .inl (z5, 2001, .inl S))] := hD
    refine lv_aload_n hx hb dL_law_184 rfl (lv_at hl 2 rfl) ?_
    refine lv_aload_n hx hb dL_law_185 rfl (lv_at hl 0 rfl) ?_
    refine lv_iload_n hx hb dL_law_186 rfl (lv_at hl 3 rfl) ?_
    refine lv_iconst (v := nI 1) hx hb dL_law_187 (by decide) ?_
    refine lv_iadd hx hb dL_law_188 ?_
    refine sr_ti (y := nI (i + 1)) (nI_add _ _) ?_
    refine sr_sld hx hb hX hbl hbA hS (by omega) (by omega) dL_law_189 ?_
    refine lv_aload_n hx hb dL_law_190 rfl (lv_at hl 0 rfl) ?_
    refine lv_iload_n hx hb dL_law_191 rfl (lv_at hl 3 rfl) ?_
    refine lv_iconst (v := nI 2) hx hb dL_law_192 (by decide) ?_
    refine lv_iadd hx hb dL_law_193 ?_
    refine sr_ti (y := nI (i + 2)) (nI_add _ _) ?_
    refine sr_sld hx hb hX hbl hbA hS (by omega) (by omega) dL_law_194 ?_
    have hPc := hP.sub (ws' := [(y, .inr (1, [.ref b1, .ref b2, .ref b3, .ref b4, .ref b5, .ref b6, .int (nI mo), .int (nI ac), .ref b7, .int kn])), (b1, .inl (t1, 2000, .inl T2)), (b2, .inl (t2, 2000, .inl F2)), (b3, .inl (t3, 6000, .inl I)), (b4, .inl (t4, 6000, .inl J)), (b5, .inl (t5, 3, .inl U)), (b6, .inl (t6, 3, .inl V)), (b7, .inl (t7, 2001, .inl S2))]) [0, 1, 2, 3, 4, 5, 6, 7] rfl
    have hDc := hD.sub (ws' := [(y, .inr (1, [.ref b1, .ref b2, .ref b3, .ref b4, .ref b5, .ref b6, .int (nI mo), .int (nI ac), .ref b7, .int kn])), (b1, .inl (t1, 2000, .inl T2)), (b2, .inl (t2, 2000, .inl F2)), (b3, .inl (t3, 6000, .inl I)), (b4, .inl (t4, 6000, .inl J)), (b5, .inl (t5, 3, .inl U)), (b6, .inl (t6, 3, .inl V)), (b7, .inl (t7, 2001, .inl S2))]) [0, 1, 2, 3, 4, 5, 6, 7] (by decide) rfl
    have hKc := hK.sub (tys' := [(t1, .int), (t2, .int), (t3, .byte), (t4, .byte), (t5, .byte), (t6, .byte), (t7, .int)]) [5, 6, 7, 8, 9, 10, 11] rfl
    have hFc := va_free (wc := [(y, .inr (1, [.ref b1, .ref b2, .ref b3, .ref b4, .ref b5, .ref b6, .int (nI mo), .int (nI ac), .ref b7, .int kn])), (b1, .inl (t1, 2000, .inl T2)), (b2, .inl (t2, 2000, .inl F2)), (b3, .inl (t3, 6000, .inl I)), (b4, .inl (t4, 6000, .inl J)), (b5, .inl (t5, 3, .inl U)), (b6, .inl (t6, 3, .inl V)), (b7, .inl (t7, 2001, .inl S2))]) hD hS hA [0, 1, 2, 3, 4, 5, 6, 7] rfl
    refine va_calli (va_runV (As := [.int (xs (i + 1)), .int (xs (i + 2))]) (rest := [.int ((-1))]) ⟨hx, hb, hml, hown, hts⟩ (c_X1_move l dC dI y b1 b2 b3 b4 b5 b6 b7 t1 t2 t3 t4 t5 t6 t7 H.size mo ac kn T2 F2 I J U V S2 (xs (i + 1)) (xs (i + 2)) cf cl tk fd fs la g hM) (cwV 2 hts gL_law_X1_move rfl rfl rfl (by decide +kernel) ⟨Nat.le_of_ble_eq_true rfl, Nat.le_of_ble_eq_true rfl⟩) ⟨sr_blind, va_recv hKc hPc (ci := 1) (q0 := 0) rfl rfl, sr_mk hPc hKc hDc⟩ rfl rfl hl.1 rfl (lv_room (Nat.le_of_ble_eq_true rfl)) dL_law_195 ⟨by show _ ≤ 14; omega, by show _ ≤ 28028; omega⟩) hS (fun q _ h => hFc q h) hFc (fun r2 u t H1 locs ht hvm hw hB hz1 hk1 hS => ?_)
    obtain ⟨hP1, hK1, hD1⟩ := hB
    rw [ht] at hP1
    obtain ⟨-, rfl, rfl⟩ := hw.resolve_left (fun q => hV q.1)
    obtain ⟨hP, hD⟩ := va_join (wr := [(x, .inr (0, [.ref a1, .ref a2, .ref a3, .ref a4, .ref a5, .int (nI mo), .int (nI cf), .int (nI cl), .int (nI ac), .int st])), (a1, .inl (z1, 2000, .inl T)), (a2, .inl (z2, 2000, .inl F)), (a3, .inl (z3, 2000, .inl G)), (a4, .inl (z4, 2000, .inl Lm)), (a5, .inl (z5, 2001, .inl S))]) (w1 := [(y, .inr (1, [.ref b1, .ref b2, .ref b3, .ref b4, .ref b5, .ref b6, .int (nI mo), .int (nI ac), .ref b7, .int kn])), (b1, .inl (t1, 2000, .inl T2)), (b2, .inl (t2, 2000, .inl F2)), (b3, .inl (t3, 6000, .inl I)), (b4, .inl (t4, 6000, .inl J)), (b5, .inl (t5, 3, .inl U)), (b6, .inl (t6, 3, .inl V)), (b7, .inl (t7, 2001, .inl S2))]) hP hD [0, 1, 2, 3, 4, 5, 6, 7] [8, 9, 10, 11, 12, 13] rfl rfl (by decide) (by decide) hk1 hFc hP1 hD1
    generalize H1 = H at hP hS ⊢
    have hP : va_P (dC, dI) vwCl [(x, .inr (0, [.ref a1, .ref a2, .ref a3, .ref a4, .ref a5, .int (nI mo), .int (nI cf), .int (nI cl), .int (nI ac), .int st])), (a1, .inl (z1, 2000, .inl T)), (a2, .inl (z2, 2000, .inl F)), (a3, .inl (z3, 2000, .inl G)), (a4, .inl (z4, 2000, .inl Lm)), (a5, .inl (z5, 2001, .inl S)), (y, .inr (1, [.ref b1, .ref b2, .ref b3, .ref b4, .ref b5, .ref b6, .int (nI mo), .int (nI ac), .ref b7, .int kn])), (b1, .inl (t1, 2000, .inl T2)), (b2, .inl (t2, 2000, .inl F2)), (b3, .inl (t3, 6000, .inl I)), (b4, .inl (t4, 6000, .inl J)), (b5, .inl (t5, 3, .inl U)), (b6, .inl (t6, 3, .inl V)), (b7, .inl (t7, 2001, .inl S2))] H := hP
    have hD : va_D (fun q : Nat => s.heap.size ≤ q) [(x, .inr (0, [.ref a1, .ref a2, .ref a3, .ref a4, .ref a5, .int (nI mo), .int (nI cf), .int (nI cl), .int (nI ac), .int st])), (a1, .inl (z1, 2000, .inl T)), (a2, .inl (z2, 2000, .inl F)), (a3, .inl (z3, 2000, .inl G)), (a4, .inl (z4, 2000, .inl Lm)), (a5, .inl (z5, 2001, .inl S)), (y, .inr (1, [.ref b1, .ref b2, .ref b3, .ref b4, .ref b5, .ref b6, .int (nI mo), .int (nI ac), .ref b7, .int kn])), (b1, .inl (t1, 2000, .inl T2)), (b2, .inl (t2, 2000, .inl F2)), (b3, .inl (t3, 6000, .inl I)), (b4, .inl (t4, 6000, .inl J)), (b5, .inl (t5, 3, .inl U)), (b6, .inl (t6, 3, .inl V)), (b7, .inl (t7, 2001, .inl S2))] := hD
    refine lv_icmp_eq (tgt := 322) hx hb dL_law_198 (by decide) (fun c1 => ?_) (fun c1 => ?_)
    · exact hk H locs ls ⟨mo, cf, cl, ac, tk, fd, fs, la, st, T, F, G, Lm, S, kn, T2, F2, I, J, U, V, S2, ⟨g, hI, hQ, hM, hQ2⟩, hP, hD, hS⟩ hl
    · exact absurd rfl c1
set_option maxHeartbeats 4000000 in
set_option maxRecDepth 100000 in
/-- case 3: back -/
theorem lw_c3 {p : Program} {l : Launch} {e : Env} {s : State} {m : MethodId} {below : List Frame} {meth : Method} {c : Code} {Q : State → Prop} {b L : Nat} {xs : Nat → Int32} (hL : L ≤ 2048) (C0 : lw_At p s m meth c b L xs) {dC : Nat → ClassId} {dI : Nat → Nat → Nat} {x a1 a2 a3 a4 a5 : Nat} {z1 z2 z3 z4 z5 : ClassId} {y b1 b2 b3 b4 b5 b6 b7 : Nat} {t1 t2 t3 t4 t5 t6 t7 : ClassId} (hK : va_K (dC, dI) vwCl (sr_tX z1 z2 z3 z4 z5 ++ sr_tM t1 t2 t3 t4 t5 t6 t7) s) {i : Nat} (hi : i + 4 ≤ L)
    (hk : ∀ (H : Heap) (locs : List Loc) (ls : Array Slot), lw_I dC dI x a1 a2 a3 a4 a5 z1 z2 z3 z4 z5 y b1 b2 b3 b4 b5 b6 b7 t1 t2 t3 t4 t5 t6 t7 (fun q : Nat => s.heap.size ≤ q) s.heap H locs → lv_has ls 4 [(0, .ref b), (1, .ref x), (2, .ref y), (3, .int (nI i))] → W p l e room_1 s m #[Value.ref b] below meth c H locs 14 28028 Q (F0 m 322 ls [])) (H : Heap) (locs : List Loc) (ls : Array Slot) (hJ : lw_I dC dI x a1 a2 a3 a4 a5 z1 z2 z3 z4 z5 y b1 b2 b3 b4 b5 b6 b7 t1 t2 t3 t4 t5 t6 t7 (fun q : Nat => s.heap.size ≤ q) s.heap H locs) (hl : lv_has ls 4 [(0, .ref b), (1, .ref x), (2, .ref y), (3, .int (nI i))]) : W p l e room_1 s m #[Value.ref b] below meth c H locs 14 28028 Q (F0 m 203 ls []) := by
  obtain ⟨hx, hb, hr, hml, hown, hts, hX, hbl, hlocks, hgv⟩ := C0
  have hown : s.vm.findClass RL = some m.cls := hown
  have hts := fun w h => hts w (wsL_law_in w h)
  have hA : ∀ q : Nat, s.heap.size ≤ q → (fun q : Nat => s.heap.size ≤ q) q := fun _ h => h
  have hbA : ¬ (fun q : Nat => s.heap.size ≤ q) b := Nat.not_le.mpr hbl
  obtain ⟨mo, cf, cl, ac, tk, fd, fs, la, st, T, F, G, Lm, S, kn, T2, F2, I, J, U, V, S2, ⟨g, hI, hQ, hM, hQ2⟩, hP, hD, hS⟩ := hJ
  have hK : va_K (dC, dI) vwCl [(z1, .int), (z2, .int), (z3, .int), (z4, .int), (z5, .int), (t1, .int), (t2, .int), (t3, .byte), (t4, .byte), (t5, .byte), (t6, .byte), (t7, .int)] s := hK
  have hP : va_P (dC, dI) vwCl [(x, .inr (0, [.ref a1, .ref a2, .ref a3, .ref a4, .ref a5, .int (nI mo), .int (nI cf), .int (nI cl), .int (nI ac), .int st])), (a1, .inl (z1, 2000, .inl T)), (a2, .inl (z2, 2000, .inl F)), (a3, .inl (z3, 2000, .inl G)), (a4, .inl (z4, 2000, .inl Lm)), (a5, .inl (z5, 2001, .inl S)), (y, .inr (1, [.ref b1, .ref b2, .ref b3, .ref b4, .ref b5, .ref b6, .int (nI mo), .int (nI ac), .ref b7, .int kn])), (b1, .inl (t1, 2000, .inl T2)), (b2, .inl (t2, 2000, .inl F2)), (b3, .inl (t3, 6000, .inl I)), (b4, .inl (t4, 6000, .inl J)), (b5, .inl (t5, 3, .inl U)), (b6, .inl (t6, 3, .inl V)), (b7, .inl (t7, 2001, .inl S2))] H := hP
  have hD : va_D (fun q : Nat => s.heap.size ≤ q) [(x, .inr (0, [.ref a1, .ref a2, .ref a3, .ref a4, .ref a5, .int (nI mo), .int (nI cf), .int (nI cl), .int (nI ac), .int st])), (a1, .inl (z1, 2000, .inl T)), (a2, .inl (z2, 2000, .inl F)), (a3, .inl (z3, 2000, .inl G)), (a4, .inl (z4, 2000, .inl Lm)), (a5, .inl (z5, 2001, .inl S)), (y, .inr (1, [.ref b1, .ref b2, .ref b3, .ref b4, .ref b5, .ref b6, .int (nI mo), .int (nI ac), .ref b7, .int kn])), (b1, .inl (t1, 2000, .inl T2)), (b2, .inl (t2, 2000, .inl F2)), (b3, .inl (t3, 6000, .inl I)), (b4, .inl (t4, 6000, .inl J)), (b5, .inl (t5, 3, .inl U)), (b6, .inl (t6, 3, .inl V)), (b7, .inl (t7, 2001, .inl S2))] := hD
  have hmo : mo ≤ 2000 := g.1
  by_cases hV : (0 : Int32) ≤ xs (i + 1) ∧ xs (i + 1) ≤ nI mo
  · refine lv_aload_n hx hb dL_law_203 rfl (lv_at hl 1 rfl) ?_
    refine lv_aload_n hx hb dL_law_204 rfl (lv_at hl 0 rfl) ?_
    refine lv_iload_n hx hb dL_law_205 rfl (lv_at hl 3 rfl) ?_
    refine lv_iconst (v := nI 1) hx hb dL_law_206 (by decide) ?_
    refine lv_iadd hx hb dL_law_207 ?_
    refine sr_ti (y := nI (i + 1)) (nI_add _ _) ?_
    refine sr_sld hx hb hX hbl hbA hS (by omega) (by omega) dL_law_208 ?_
    have hPc := hP.sub (ws' := [(x, .inr (0, [.ref a1, .ref a2, .ref a3, .ref a4, .ref a5, .int (nI mo), .int (nI cf), .int (nI cl), .int (nI ac), .int st])), (a1, .inl (z1, 2000, .inl T)), (a2, .inl (z2, 2000, .inl F)), (a3, .inl (z3, 2000, .inl G)), (a4, .inl (z4, 2000, .inl Lm)), (a5, .inl (z5, 2001, .inl S))]) [0, 1, 2, 3, 4, 5] rfl
    have hDc := hD.sub (ws' := [(x, .inr (0, [.ref a1, .ref a2, .ref a3, .ref a4, .ref a5, .int (nI mo), .int (nI cf), .int (nI cl), .int (nI ac), .int st])), (a1, .inl (z1, 2000, .inl T)), (a2, .inl (z2, 2000, .inl F)), (a3, .inl (z3, 2000, .inl G)), (a4, .inl (z4, 2000, .inl Lm)), (a5, .inl (z5, 2001, .inl S))]) [0, 1, 2, 3, 4, 5] (by decide) rfl
    have hKc := hK.sub (tys' := [(z1, .int), (z2, .int), (z3, .int), (z4, .int), (z5, .int)]) [0, 1, 2, 3, 4] rfl
    have hFc := va_free (wc := [(x, .inr (0, [.ref a1, .ref a2, .ref a3, .ref a4, .ref a5, .int (nI mo), .int (nI cf), .int (nI cl), .int (nI ac), .int st])), (a1, .inl (z1, 2000, .inl T)), (a2, .inl (z2, 2000, .inl F)), (a3, .inl (z3, 2000, .inl G)), (a4, .inl (z4, 2000, .inl Lm)), (a5, .inl (z5, 2001, .inl S))]) hD hS hA [0, 1, 2, 3, 4, 5] rfl
    refine va_calli (va_runV (As := [.int (xs (i + 1))]) (rest := []) ⟨hx, hb, hml, hown, hts⟩ (c_X0_back l dC dI x a1 a2 a3 a4 a5 z1 z2 z3 z4 z5 H.size mo cf cl ac st T F G Lm S (xs (i + 1)) hmo) (cwV 1 hts gL_law_X0_back rfl rfl rfl (by decide +kernel) ⟨Nat.le_of_ble_eq_true rfl, Nat.le_of_ble_eq_true rfl⟩) ⟨sr_blind, va_recv hKc hPc (ci := 0) (q0 := 0) rfl rfl, sr_mk hPc hKc hDc⟩ rfl rfl hl.1 rfl (lv_room (Nat.le_of_ble_eq_true rfl)) dL_law_209 ⟨by show _ ≤ 14; omega, by show _ ≤ 28028; omega⟩) hS (fun q _ h => hFc q h) hFc (fun r1 u t H1 locs ht hvm hw hB hz1 hk1 hS => ?_)
    obtain ⟨hP1, hK1, hD1⟩ := hB
    rw [ht] at hP1
    obtain ⟨-, rfl, rfl⟩ := hw.resolve_right (fun q => q.1 hV)
    obtain ⟨hP, hD⟩ := va_join (wr := [(y, .inr (1, [.ref b1, .ref b2, .ref b3, .ref b4, .ref b5, .ref b6, .int (nI mo), .int (nI ac), .ref b7, .int kn])), (b1, .inl (t1, 2000, .inl T2)), (b2, .inl (t2, 2000, .inl F2)), (b3, .inl (t3, 6000, .inl I)), (b4, .inl (t4, 6000, .inl J)), (b5, .inl (t5, 3, .inl U)), (b6, .inl (t6, 3, .inl V)), (b7, .inl (t7, 2001, .inl S2))]) (w1 := [(x, .inr (0, [.ref a1, .ref a2, .ref a3, .ref a4, .ref a5, .int (nI (mo - (xs (i + 1)).toNatClampNeg)), .int (nI cf), .int (nI cl), .int (nI ac), .int 0])), (a1, .inl (z1, 2000, .inl T)), (a2, .inl (z2, 2000, .inl F)), (a3, .inl (z3, 2000, .inl G)), (a4, .inl (z4, 2000, .inl Lm)), (a5, .inl (z5, 2001, .inl S))]) hP hD [0, 1, 2, 3, 4, 5] [6, 7, 8, 9, 10, 11, 12, 13] rfl rfl (by decide) (by decide) hk1 hFc hP1 hD1
    generalize H1 = H at hP hS ⊢
    have hP : va_P (dC, dI) vwCl [(y, .inr (1, [.ref b1, .ref b2, .ref b3, .ref b4, .ref b5, .ref b6, .int (nI mo), .int (nI ac), .ref b7, .int kn])), (b1, .inl (t1, 2000, .inl T2)), (b2, .inl (t2, 2000, .inl F2)), (b3, .inl (t3, 6000, .inl I)), (b4, .inl (t4, 6000, .inl J)), (b5, .inl (t5, 3, .inl U)), (b6, .inl (t6, 3, .inl V)), (b7, .inl (t7, 2001, .inl S2)), (x, .inr (0, [.ref a1, .ref a2, .ref a3, .ref a4, .ref a5, .int (nI (mo - (xs (i + 1)).toNatClampNeg)), .int (nI cf), .int (nI cl), .int (nI ac), .int 0])), (a1, .inl (z1, 2000, .inl T)), (a2, .inl (z2, 2000, .inl F)), (a3, .inl (z3, 2000, .inl G)), (a4, .inl (z4, 2000, .inl Lm)), (a5, .inl (z5, 2001, .inl S))] H := hP
    have hD : va_D (fun q : Nat => s.heap.size ≤ q) [(y, .inr (1, [.ref b1, .ref b2, .ref b3, .ref b4, .ref b5, .ref b6, .int (nI mo), .int (nI ac), .ref b7, .int kn])), (b1, .inl (t1, 2000, .inl T2)), (b2, .inl (t2, 2000, .inl F2)), (b3, .inl (t3, 6000, .inl I)), (b4, .inl (t4, 6000, .inl J)), (b5, .inl (t5, 3, .inl U)), (b6, .inl (t6, 3, .inl V)), (b7, .inl (t7, 2001, .inl S2)), (x, .inr (0, [.ref a1, .ref a2, .ref a3, .ref a4, .ref a5, .int (nI (mo - (xs (i + 1)).toNatClampNeg)), .int (nI cf), .int (nI cl), .int (nI ac), .int 0])), (a1, .inl (z1, 2000, .inl T)), (a2, .inl (z2, 2000, .inl F)), (a3, .inl (z3, 2000, .inl G)), (a4, .inl (z4, 2000, .inl Lm)), (a5, .inl (z5, 2001, .inl S))] := hD
    refine lv_aload_n hx hb dL_law_212 rfl (lv_at hl 2 rfl) ?_
    refine lv_aload_n hx hb dL_law_213 rfl (lv_at hl 0 rfl) ?_
    refine lv_iload_n hx hb dL_law_214 rfl (lv_at hl 3 rfl) ?_
    refine lv_iconst (v := nI 1) hx hb dL_law_215 (by decide) ?_
    refine lv_iadd hx hb dL_law_216 ?_
    refine sr_ti (y := nI (i + 1)) (nI_add _ _) ?_
    refine sr_sld hx hb hX hbl hbA hS (by omega) (by omega) dL_law_217 ?_
    have hPc := hP.sub (ws' := [(y, .inr (1, [.ref b1, .ref b2, .ref b3, .ref b4, .ref b5, .ref b6, .int (nI mo), .int (nI ac), .ref b7, .int kn])), (b1, .inl (t1, 2000, .inl T2)), (b2, .inl (t2, 2000, .inl F2)), (b3, .inl (t3, 6000, .inl I)), (b4, .inl (t4, 6000, .inl J)), (b5, .inl (t5, 3, .inl U)), (b6, .inl (t6, 3, .inl V)), (b7, .inl (t7, 2001, .inl S2))]) [0, 1, 2, 3, 4, 5, 6, 7] rfl
    have hDc := hD.sub (ws' := [(y, .inr (1, [.ref b1, .ref b2, .ref b3, .ref b4, .ref b5, .ref b6, .int (nI mo), .int (nI ac), .ref b7, .int kn])), (b1, .inl (t1, 2000, .inl T2)), (b2, .inl (t2, 2000, .inl F2)), (b3, .inl (t3, 6000, .inl I)), (b4, .inl (t4, 6000, .inl J)), (b5, .inl (t5, 3, .inl U)), (b6, .inl (t6, 3, .inl V)), (b7, .inl (t7, 2001, .inl S2))]) [0, 1, 2, 3, 4, 5, 6, 7] (by decide) rfl
    have hKc := hK.sub (tys' := [(t1, .int), (t2, .int), (t3, .byte), (t4, .byte), (t5, .byte), (t6, .byte), (t7, .int)]) [5, 6, 7, 8, 9, 10, 11] rfl
    have hFc := va_free (wc := [(y, .inr (1, [.ref b1, .ref b2, .ref b3, .ref b4, .ref b5, .ref b6, .int (nI mo), .int (nI ac), .ref b7, .int kn])), (b1, .inl (t1, 2000, .inl T2)), (b2, .inl (t2, 2000, .inl F2)), (b3, .inl (t3, 6000, .inl I)), (b4, .inl (t4, 6000, .inl J)), (b5, .inl (t5, 3, .inl U)), (b6, .inl (t6, 3, .inl V)), (b7, .inl (t7, 2001, .inl S2))]) hD hS hA [0, 1, 2, 3, 4, 5, 6, 7] rfl
    refine va_calli (va_runV (As := [.int (xs (i + 1))]) (rest := [.int (nI (mo - (xs (i + 1)).toNatClampNeg))]) ⟨hx, hb, hml, hown, hts⟩ (c_X1_back l dC dI y b1 b2 b3 b4 b5 b6 b7 t1 t2 t3 t4 t5 t6 t7 H.size mo ac kn T2 F2 I J U V S2 (xs (i + 1)) hmo) (cwV 1 hts gL_law_X1_back rfl rfl rfl (by decide +kernel) ⟨Nat.le_of_ble_eq_true rfl, Nat.le_of_ble_eq_true rfl⟩) ⟨sr_blind, va_recv hKc hPc (ci := 1) (q0 := 0) rfl rfl, sr_mk hPc hKc hDc⟩ rfl rfl hl.1 rfl (lv_room (Nat.le_of_ble_eq_true rfl)) dL_law_218 ⟨by show _ ≤ 14; omega, by show _ ≤ 28028; omega⟩) hS (fun q _ h => hFc q h) hFc (fun r2 u t H1 locs ht hvm hw hB hz1 hk1 hS => ?_)
    obtain ⟨hP1, hK1, hD1⟩ := hB
    rw [ht] at hP1
    obtain ⟨-, rfl, rfl⟩ := hw.resolve_right (fun q => q.1 hV)
    obtain ⟨hP, hD⟩ := va_join (wr := [(x, .inr (0, [.ref a1, .ref a2, .ref a3, .ref a4, .ref a5, .int (nI (mo - (xs (i + 1)).toNatClampNeg)), .int (nI cf), .int (nI cl), .int (nI ac), .int 0])), (a1, .inl (z1, 2000, .inl T)), (a2, .inl (z2, 2000, .inl F)), (a3, .inl (z3, 2000, .inl G)), (a4, .inl (z4, 2000, .inl Lm)), (a5, .inl (z5, 2001, .inl S))]) (w1 := [(y, .inr (1, [.ref b1, .ref b2, .ref b3, .ref b4, .ref b5, .ref b6, .int (nI (mo - (xs (i + 1)).toNatClampNeg)), .int (nI ac), .ref b7, .int 0])), (b1, .inl (t1, 2000, .inl T2)), (b2, .inl (t2, 2000, .inl F2)), (b3, .inl (t3, 6000, .inl I)), (b4, .inl (t4, 6000, .inl J)), (b5, .inl (t5, 3, .inl U)), (b6, .inl (t6, 3, .inl V)), (b7, .inl (t7, 2001, .inl S2))]) hP hD [0, 1, 2, 3, 4, 5, 6, 7] [8, 9, 10, 11, 12, 13] rfl rfl (by decide) (by decide) hk1 hFc hP1 hD1
    generalize H1 = H at hP hS ⊢
    have hP : va_P (dC, dI) vwCl [(x, .inr (0, [.ref a1, .ref a2, .ref a3, .ref a4, .ref a5, .int (nI (mo - (xs (i + 1)).toNatClampNeg)), .int (nI cf), .int (nI cl), .int (nI ac), .int 0])), (a1, .inl (z1, 2000, .inl T)), (a2, .inl (z2, 2000, .inl F)), (a3, .inl (z3, 2000, .inl G)), (a4, .inl (z4, 2000, .inl Lm)), (a5, .inl (z5, 2001, .inl S)), (y, .inr (1, [.ref b1, .ref b2, .ref b3, .ref b4, .ref b5, .ref b6, .int (nI (mo - (xs (i + 1)).toNatClampNeg)), .int (nI ac), .ref b7, .int 0])), (b1, .inl (t1, 2000, .inl T2)), (b2, .inl (t2, 2000, .inl F2)), (b3, .inl (t3, 6000, .inl I)), (b4, .inl (t4, 6000, .inl J)), (b5, .inl (t5, 3, .inl U)), (b6, .inl (t6, 3, .inl V)), (b7, .inl (t7, 2001, .inl S2))] H := hP
    have hD : va_D (fun q : Nat => s.heap.size ≤ q) [(x, .inr (0, [.ref a1, .ref a2, .ref a3, .ref a4, .ref a5, .int (nI (mo - (xs (i + 1)).toNatClampNeg)), .int (nI cf), .int (nI cl), .int (nI ac), .int 0])), (a1, .inl (z1, 2000, .inl T)), (a2, .inl (z2, 2000, .inl F)), (a3, .inl (z3, 2000, .inl G)), (a4, .inl (z4, 2000, .inl Lm)), (a5, .inl (z5, 2001, .inl S)), (y, .inr (1, [.ref b1, .ref b2, .ref b3, .ref b4, .ref b5, .ref b6, .int (nI (mo - (xs (i + 1)).toNatClampNeg)), .int (nI ac), .ref b7, .int 0])), (b1, .inl (t1, 2000, .inl T2)), (b2, .inl (t2, 2000, .inl F2)), (b3, .inl (t3, 6000, .inl I)), (b4, .inl (t4, 6000, .inl J)), (b5, .inl (t5, 3, .inl U)), (b6, .inl (t6, 3, .inl V)), (b7, .inl (t7, 2001, .inl S2))] := hD
    refine lv_icmp_eq (tgt := 322) hx hb dL_law_221 (by decide) (fun c1 => ?_) (fun c1 => ?_)
    · exact hk H locs ls ⟨mo - (xs (i + 1)).toNatClampNeg, cf, cl, ac, tk, fd, fs, la, 0, T, F, G, Lm, S, 0, T2, F2, I, J, U, V, S2, ⟨sr_G_le g (Nat.sub_le _ _), sr_XI_le hI (Nat.sub_le _ _), Or.inl rfl, sr_MI_le hM (Nat.sub_le _ _), Or.inl rfl⟩, hP, hD, hS⟩ hl
    · exact absurd rfl c1
  · refine lv_aload_n hx hb dL_law_203 rfl (lv_at hl 1 rfl) ?_
    refine lv_aload_n hx hb dL_law_204 rfl (lv_at hl 0 rfl) ?_
    refine lv_iload_n hx hb dL_law_205 rfl (lv_at hl 3 rfl) ?_
    refine lv_iconst (v := nI 1) hx hb dL_law_206 (by decide) ?_
    refine lv_iadd hx hb dL_law_207 ?_
    refine sr_ti (y := nI (i + 1)) (nI_add _ _) ?_
    refine sr_sld hx hb hX hbl hbA hS (by omega) (by omega) dL_law_208 ?_
    have hPc := hP.sub (ws' := [(x, .inr (0, [.ref a1, .ref a2, .ref a3, .ref a4, .ref a5, .int (nI mo), .int (nI cf), .int (nI cl), .int (nI ac), .int st])), (a1, .inl (z1, 2000, .inl T)), (a2, .inl (z2, 2000, .inl F)), (a3, .inl (z3, 2000, .inl G)), (a4, .inl (z4, 2000, .inl Lm)), (a5, .inl (z5, 2001, .inl S))]) [0, 1, 2, 3, 4, 5] rfl
    have hDc := hD.sub (ws' := [(x, .inr (0, [.ref a1, .ref a2, .ref a3, .ref a4, .ref a5, .int (nI mo), .int (nI cf), .int (nI cl), .int (nI ac), .int st])), (a1, .inl (z1, 2000, .inl T)), (a2, .inl (z2, 2000, .inl F)), (a3, .inl (z3, 2000, .inl G)), (a4, .inl (z4, 2000, .inl Lm)), (a5, .inl (z5, 2001, .inl S))]) [0, 1, 2, 3, 4, 5] (by decide) rfl
    have hKc := hK.sub (tys' := [(z1, .int), (z2, .int), (z3, .int), (z4, .int), (z5, .int)]) [0, 1, 2, 3, 4] rfl
    have hFc := va_free (wc := [(x, .inr (0, [.ref a1, .ref a2, .ref a3, .ref a4, .ref a5, .int (nI mo), .int (nI cf), .int (nI cl), .int (nI ac), .int st])), (a1, .inl (z1, 2000, .inl T)), (a2, .inl (z2, 2000, .inl F)), (a3, .inl (z3, 2000, .inl G)), (a4, .inl (z4, 2000, .inl Lm)), (a5, .inl (z5, 2001, .inl S))]) hD hS hA [0, 1, 2, 3, 4, 5] rfl
    refine va_calli (va_runV (As := [.int (xs (i + 1))]) (rest := []) ⟨hx, hb, hml, hown, hts⟩ (c_X0_back l dC dI x a1 a2 a3 a4 a5 z1 z2 z3 z4 z5 H.size mo cf cl ac st T F G Lm S (xs (i + 1)) hmo) (cwV 1 hts gL_law_X0_back rfl rfl rfl (by decide +kernel) ⟨Nat.le_of_ble_eq_true rfl, Nat.le_of_ble_eq_true rfl⟩) ⟨sr_blind, va_recv hKc hPc (ci := 0) (q0 := 0) rfl rfl, sr_mk hPc hKc hDc⟩ rfl rfl hl.1 rfl (lv_room (Nat.le_of_ble_eq_true rfl)) dL_law_209 ⟨by show _ ≤ 14; omega, by show _ ≤ 28028; omega⟩) hS (fun q _ h => hFc q h) hFc (fun r1 u t H1 locs ht hvm hw hB hz1 hk1 hS => ?_)
    obtain ⟨hP1, hK1, hD1⟩ := hB
    rw [ht] at hP1
    obtain ⟨-, rfl, rfl⟩ := hw.resolve_left (fun q => hV q.1)
    obtain ⟨hP, hD⟩ := va_join (wr := [(y, .inr (1, [.ref b1, .ref b2, .ref b3, .ref b4, .ref b5, .ref b6, .int (nI mo), .int (nI ac), .ref b7, .int kn])), (b1, .inl (t1, 2000, .inl T2)), (b2, .inl (t2, 2000, .inl F2)), (b3, .inl (t3, 6000, .inl I)), (b4, .inl (t4, 6000, .inl J)), (b5, .inl (t5, 3, .inl U)), (b6, .inl (t6, 3, .inl V)), (b7, .inl (t7, 2001, .inl S2))]) (w1 := [(x, .inr (0, [.ref a1, .ref a2, .ref a3, .ref a4, .ref a5, .int (nI mo), .int (nI cf), .int (nI cl), .int (nI ac), .int st])), (a1, .inl (z1, 2000, .inl T)), (a2, .inl (z2, 2000, .inl F)), (a3, .inl (z3, 2000, .inl G)), (a4, .inl (z4, 2000, .inl Lm)), (a5, .inl (z5, 2001, .inl S))]) hP hD [0, 1, 2, 3, 4, 5] [6, 7, 8, 9, 10, 11, 12, 13] rfl rfl (by decide) (by decide) hk1 hFc hP1 hD1
    generalize H1 = H at hP hS ⊢
    have hP : va_P (dC, dI) vwCl [(y, .inr (1, [.ref b1, .ref b2, .ref b3, .ref b4, .ref b5, .ref b6, .int (nI mo), .int (nI ac), .ref b7, .int kn])), (b1, .inl (t1, 2000, .inl T2)), (b2, .inl (t2, 2000, .inl F2)), (b3, .inl (t3, 6000, .inl I)), (b4, .inl (t4, 6000, .inl J)), (b5, .inl (t5, 3, .inl U)), (b6, .inl (t6, 3, .inl V)), (b7, .inl (t7, 2001, .inl S2)), (x, .inr (0, [.ref a1, .ref a2, .ref a3, .ref a4, .ref a5, .int (nI mo), .int (nI cf), .int (nI cl), .int (nI ac), .int st])), (a1, .inl (z1, 2000, .inl T)), (a2, .inl (z2, 2000, .inl F)), (a3, .inl (z3, 2000, .inl G)), (a4, .inl (z4, 2000, .inl Lm)), (a5, .inl (z5, 2001, .inl S))] H := hP
    have hD : va_D (fun q : Nat => s.heap.size ≤ q) [(y, .inr (1, [.ref b1, .ref b2, .ref b3, .ref b4, .ref b5, .ref b6, .int (nI mo), .int (nI ac), .ref b7, .int kn])), (b1, .inl (t1, 2000, .inl T2)), (b2, .inl (t2, 2000, .inl F2)), (b3, .inl (t3, 6000, .inl I)), (b4, .inl (t4, 6000, .inl J)), (b5, .inl (t5, 3, .inl U)), (b6, .inl (t6, 3, .inl V)), (b7, .inl (t7, 2001, .inl S2)), (x, .inr (0, [.ref a1, .ref a2, .ref a3, .ref a4, .ref a5, .int (nI mo), .int (nI cf), .int (nI cl), .int (nI ac), .int st])), (a1, .inl (z1, 2000, .inl T)), (a2, .inl (z2, 2000, .inl F)), (a3, .inl (z3, 2000, .inl G)), (a4, .inl (z4, 2000, .inl Lm)), (a5, .inl (z5, 2001, .inl S))] := hD
    refine lv_aload_n hx hb dL_law_212 rfl (lv_at hl 2 rfl) ?_
    refine lv_aload_n hx hb dL_law_213 rfl (lv_at hl 0 rfl) ?_
    refine lv_iload_n hx hb dL_law_214 rfl (lv_at hl 3 rfl) ?_
    refine lv_iconst (v := nI 1) hx hb dL_law_215 (by decide) ?_
    refine lv_iadd hx hb dL_law_216 ?_
    refine sr_ti (y := nI (i + 1)) (nI_add _ _) ?_
    refine sr_sld hx hb hX hbl hbA hS (by omega) (by omega) dL_law_217 ?_
    have hPc := hP.sub (ws' := [(y, .inr (1, [.ref b1, .ref b2, .ref b3, .ref b4, .ref b5, .ref b6, .int (nI mo), .int (nI ac), .ref b7, .int kn])), (b1, .inl (t1, 2000, .inl T2)), (b2, .inl (t2, 2000, .inl F2)), (b3, .inl (t3, 6000, .inl I)), (b4, .inl (t4, 6000, .inl J)), (b5, .inl (t5, 3, .inl U)), (b6, .inl (t6, 3, .inl V)), (b7, .inl (t7, 2001, .inl S2))]) [0, 1, 2, 3, 4, 5, 6, 7] rfl
    have hDc := hD.sub (ws' := [(y, .inr (1, [.ref b1, .ref b2, .ref b3, .ref b4, .ref b5, .ref b6, .int (nI mo), .int (nI ac), .ref b7, .int kn])), (b1, .inl (t1, 2000, .inl T2)), (b2, .inl (t2, 2000, .inl F2)), (b3, .inl (t3, 6000, .inl I)), (b4, .inl (t4, 6000, .inl J)), (b5, .inl (t5, 3, .inl U)), (b6, .inl (t6, 3, .inl V)), (b7, .inl (t7, 2001, .inl S2))]) [0, 1, 2, 3, 4, 5, 6, 7] (by decide) rfl
    have hKc := hK.sub (tys' := [(t1, .int), (t2, .int), (t3, .byte), (t4, .byte), (t5, .byte), (t6, .byte), (t7, .int)]) [5, 6, 7, 8, 9, 10, 11] rfl
    have hFc := va_free (wc := [(y, .inr (1, [.ref b1, .ref b2, .ref b3, .ref b4, .ref b5, .ref b6, .int (nI mo), .int (nI ac), .ref b7, .int kn])), (b1, .inl (t1, 2000, .inl T2)), (b2, .inl (t2, 2000, .inl F2)), (b3, .inl (t3, 6000, .inl I)), (b4, .inl (t4, 6000, .inl J)), (b5, .inl (t5, 3, .inl U)), (b6, .inl (t6, 3, .inl V)), (b7, .inl (t7, 2001, .inl S2))]) hD hS hA [0, 1, 2, 3, 4, 5, 6, 7] rfl
    refine va_calli (va_runV (As := [.int (xs (i + 1))]) (rest := [.int ((-1))]) ⟨hx, hb, hml, hown, hts⟩ (c_X1_back l dC dI y b1 b2 b3 b4 b5 b6 b7 t1 t2 t3 t4 t5 t6 t7 H.size mo ac kn T2 F2 I J U V S2 (xs (i + 1)) hmo) (cwV 1 hts gL_law_X1_back rfl rfl rfl (by decide +kernel) ⟨Nat.le_of_ble_eq_true rfl, Nat.le_of_ble_eq_true rfl⟩) ⟨sr_blind, va_recv hKc hPc (ci := 1) (q0 := 0) rfl rfl, sr_mk hPc hKc hDc⟩ rfl rfl hl.1 rfl (lv_room (Nat.le_of_ble_eq_true rfl)) dL_law_218 ⟨by show _ ≤ 14; omega, by show _ ≤ 28028; omega⟩) hS (fun q _ h => hFc q h) hFc (fun r2 u t H1 locs ht hvm hw hB hz1 hk1 hS => ?_)
    obtain ⟨hP1, hK1, hD1⟩ := hB
    rw [ht] at hP1
    obtain ⟨-, rfl, rfl⟩ := hw.resolve_left (fun q => hV q.1)
    obtain ⟨hP, hD⟩ := va_join (wr := [(x, .inr (0, [.ref a1, .ref a2, .ref a3, .ref a4, .ref a5, .int (nI mo), .int (nI cf), .int (nI cl), .int (nI ac), .int st])), (a1, .inl (z1, 2000, .inl T)), (a2, .inl (z2, 2000, .inl F)), (a3, .inl (z3, 2000, .inl G)), (a4, .inl (z4, 2000, .inl Lm)), (a5, .inl (z5, 2001, .inl S))]) (w1 := [(y, .inr (1, [.ref b1, .ref b2, .ref b3, .ref b4, .ref b5, .ref b6, .int (nI mo), .int (nI ac), .ref b7, .int kn])), (b1, .inl (t1, 2000, .inl T2)), (b2, .inl (t2, 2000, .inl F2)), (b3, .inl (t3, 6000, .inl I)), (b4, .inl (t4, 6000, .inl J)), (b5, .inl (t5, 3, .inl U)), (b6, .inl (t6, 3, .inl V)), (b7, .inl (t7, 2001, .inl S2))]) hP hD [0, 1, 2, 3, 4, 5, 6, 7] [8, 9, 10, 11, 12, 13] rfl rfl (by decide) (by decide) hk1 hFc hP1 hD1
    generalize H1 = H at hP hS ⊢
    have hP : va_P (dC, dI) vwCl [(x, .inr (0, [.ref a1, .ref a2, .ref a3, .ref a4, .ref a5, .int (nI mo), .int (nI cf), .int (nI cl), .int (nI ac), .int st])), (a1, .inl (z1, 2000, .inl T)), (a2, .inl (z2, 2000, .inl F)), (a3, .inl (z3, 2000, .inl G)), (a4, .inl (z4, 2000, .inl Lm)), (a5, .inl (z5, 2001, .inl S)), (y, .inr (1, [.ref b1, .ref b2, .ref b3, .ref b4, .ref b5, .ref b6, .int (nI mo), .int (nI ac), .ref b7, .int kn])), (b1, .inl (t1, 2000, .inl T2)), (b2, .inl (t2, 2000, .inl F2)), (b3, .inl (t3, 6000, .inl I)), (b4, .inl (t4, 6000, .inl J)), (b5, .inl (t5, 3, .inl U)), (b6, .inl (t6, 3, .inl V)), (b7, .inl (t7, 2001, .inl S2))] H := hP
    have hD : va_D (fun q : Nat => s.heap.size ≤ q) [(x, .inr (0, [.ref a1, .ref a2, .ref a3, .ref a4, .ref a5, .int (nI mo), .int (nI cf), .int (nI cl), .int (nI ac), .int st])), (a1, .inl (z1, 2000, .inl T)), (a2, .inl (z2, 2000, .inl F)), (a3, .inl (z3, 2000, .inl G)), (a4, .inl (z4, 2000, .inl Lm)), (a5, .inl (z5, 2001, .inl S)), (y, .inr (1, [.ref b1, .ref b2, .ref b3, .ref b4, .ref b5, .ref b6, .int (nI mo), .int (nI ac), .ref b7, .int kn])), (b1, .inl (t1, 2000, .inl T2)), (b2, .inl (t2, 2000, .inl F2)), (b3, .inl (t3, 6000, .inl I)), (b4, .inl (t4, 6000, .inl J)), (b5, .inl (t5, 3, .inl U)), (b6, .inl (t6, 3, .inl V)), (b7, .inl (t7, 2001, .inl S2))] := hD
    refine lv_icmp_eq (tgt := 322) hx hb dL_law_221 (by decide) (fun c1 => ?_) (fun c1 => ?_)
    · exact hk H locs ls ⟨mo, cf, cl, ac, tk, fd, fs, la, st, T, F, G, Lm, S, kn, T2, F2, I, J, U, V, S2, ⟨g, hI, hQ, hM, hQ2⟩, hP, hD, hS⟩ hl
    · exact absurd rfl c1
set_option maxHeartbeats 4000000 in
set_option maxRecDepth 100000 in
/-- case 4: acceleration -/
theorem lw_c4 {p : Program} {l : Launch} {e : Env} {s : State} {m : MethodId} {below : List Frame} {meth : Method} {c : Code} {Q : State → Prop} {b L : Nat} {xs : Nat → Int32} (hL : L ≤ 2048) (C0 : lw_At p s m meth c b L xs) {dC : Nat → ClassId} {dI : Nat → Nat → Nat} {x a1 a2 a3 a4 a5 : Nat} {z1 z2 z3 z4 z5 : ClassId} {y b1 b2 b3 b4 b5 b6 b7 : Nat} {t1 t2 t3 t4 t5 t6 t7 : ClassId} (hK : va_K (dC, dI) vwCl (sr_tX z1 z2 z3 z4 z5 ++ sr_tM t1 t2 t3 t4 t5 t6 t7) s) {i : Nat} (hi : i + 4 ≤ L)
    (hk : ∀ (H : Heap) (locs : List Loc) (ls : Array Slot), lw_I dC dI x a1 a2 a3 a4 a5 z1 z2 z3 z4 z5 y b1 b2 b3 b4 b5 b6 b7 t1 t2 t3 t4 t5 t6 t7 (fun q : Nat => s.heap.size ≤ q) s.heap H locs → lv_has ls 4 [(0, .ref b), (1, .ref x), (2, .ref y), (3, .int (nI i))] → W p l e room_1 s m #[Value.ref b] below meth c H locs 14 28028 Q (F0 m 322 ls [])) (H : Heap) (locs : List Loc) (ls : Array Slot) (hJ : lw_I dC dI x a1 a2 a3 a4 a5 z1 z2 z3 z4 z5 y b1 b2 b3 b4 b5 b6 b7 t1 t2 t3 t4 t5 t6 t7 (fun q : Nat => s.heap.size ≤ q) s.heap H locs) (hl : lv_has ls 4 [(0, .ref b), (1, .ref x), (2, .ref y), (3, .int (nI i))]) : W p l e room_1 s m #[Value.ref b] below meth c H locs 14 28028 Q (F0 m 226 ls []) := by
  obtain ⟨hx, hb, hr, hml, hown, hts, hX, hbl, hlocks, hgv⟩ := C0
  have hown : s.vm.findClass RL = some m.cls := hown
  have hts := fun w h => hts w (wsL_law_in w h)
  have hA : ∀ q : Nat, s.heap.size ≤ q → (fun q : Nat => s.heap.size ≤ q) q := fun _ h => h
  have hbA : ¬ (fun q : Nat => s.heap.size ≤ q) b := Nat.not_le.mpr hbl
  obtain ⟨mo, cf, cl, ac, tk, fd, fs, la, st, T, F, G, Lm, S, kn, T2, F2, I, J, U, V, S2, ⟨g, hI, hQ, hM, hQ2⟩, hP, hD, hS⟩ := hJ
  have hK : va_K (dC, dI) vwCl [(z1, .int), (z2, .int), (z3, .int), (z4, .int), (z5, .int), (t1, .int), (t2, .int), (t3, .byte), (t4, .byte), (t5, .byte), (t6, .byte), (t7, .int)] s := hK
  have hP : va_P (dC, dI) vwCl [(x, .inr (0, [.ref a1, .ref a2, .ref a3, .ref a4, .ref a5, .int (nI mo), .int (nI cf), .int (nI cl), .int (nI ac), .int st])), (a1, .inl (z1, 2000, .inl T)), (a2, .inl (z2, 2000, .inl F)), (a3, .inl (z3, 2000, .inl G)), (a4, .inl (z4, 2000, .inl Lm)), (a5, .inl (z5, 2001, .inl S)), (y, .inr (1, [.ref b1, .ref b2, .ref b3, .ref b4, .ref b5, .ref b6, .int (nI mo), .int (nI ac), .ref b7, .int kn])), (b1, .inl (t1, 2000, .inl T2)), (b2, .inl (t2, 2000, .inl F2)), (b3, .inl (t3, 6000, .inl I)), (b4, .inl (t4, 6000, .inl J)), (b5, .inl (t5, 3, .inl U)), (b6, .inl (t6, 3, .inl V)), (b7, .inl (t7, 2001, .inl S2))] H := hP
  have hD : va_D (fun q : Nat => s.heap.size ≤ q) [(x, .inr (0, [.ref a1, .ref a2, .ref a3, .ref a4, .ref a5, .int (nI mo), .int (nI cf), .int (nI cl), .int (nI ac), .int st])), (a1, .inl (z1, 2000, .inl T)), (a2, .inl (z2, 2000, .inl F)), (a3, .inl (z3, 2000, .inl G)), (a4, .inl (z4, 2000, .inl Lm)), (a5, .inl (z5, 2001, .inl S)), (y, .inr (1, [.ref b1, .ref b2, .ref b3, .ref b4, .ref b5, .ref b6, .int (nI mo), .int (nI ac), .ref b7, .int kn])), (b1, .inl (t1, 2000, .inl T2)), (b2, .inl (t2, 2000, .inl F2)), (b3, .inl (t3, 6000, .inl I)), (b4, .inl (t4, 6000, .inl J)), (b5, .inl (t5, 3, .inl U)), (b6, .inl (t6, 3, .inl V)), (b7, .inl (t7, 2001, .inl S2))] := hD
  have hmo : mo ≤ 2000 := g.1
  by_cases hV : (1 : Int32) ≤ xs (i + 1) ∧ xs (i + 1) ≤ 10000
  · refine lv_aload_n hx hb dL_law_226 rfl (lv_at hl 1 rfl) ?_
    refine lv_aload_n hx hb dL_law_227 rfl (lv_at hl 0 rfl) ?_
    refine lv_iload_n hx hb dL_law_228 rfl (lv_at hl 3 rfl) ?_
    refine lv_iconst (v := nI 1) hx hb dL_law_229 (by decide) ?_
    refine lv_iadd hx hb dL_law_230 ?_
    refine sr_ti (y := nI (i + 1)) (nI_add _ _) ?_
    refine sr_sld hx hb hX hbl hbA hS (by omega) (by omega) dL_law_231 ?_
    have hPc := hP.sub (ws' := [(x, .inr (0, [.ref a1, .ref a2, .ref a3, .ref a4, .ref a5, .int (nI mo), .int (nI cf), .int (nI cl), .int (nI ac), .int st])), (a1, .inl (z1, 2000, .inl T)), (a2, .inl (z2, 2000, .inl F)), (a3, .inl (z3, 2000, .inl G)), (a4, .inl (z4, 2000, .inl Lm)), (a5, .inl (z5, 2001, .inl S))]) [0, 1, 2, 3, 4, 5] rfl
    have hDc := hD.sub (ws' := [(x, .inr (0, [.ref a1, .ref a2, .ref a3, .ref a4, .ref a5, .int (nI mo), .int (nI cf), .int (nI cl), .int (nI ac), .int st])), (a1, .inl (z1, 2000, .inl T)), (a2, .inl (z2, 2000, .inl F)), (a3, .inl (z3, 2000, .inl G)), (a4, .inl (z4, 2000, .inl Lm)), (a5, .inl (z5, 2001, .inl S))]) [0, 1, 2, 3, 4, 5] (by decide) rfl
    have hKc := hK.sub (tys' := [(z1, .int), (z2, .int), (z3, .int), (z4, .int), (z5, .int)]) [0, 1, 2, 3, 4] rfl
    have hFc := va_free (wc := [(x, .inr (0, [.ref a1, .ref a2, .ref a3, .ref a4, .ref a5, .int (nI mo), .int (nI cf), .int (nI cl), .int (nI ac), .int st])), (a1, .inl (z1, 2000, .inl T)), (a2, .inl (z2, 2000, .inl F)), (a3, .inl (z3, 2000, .inl G)), (a4, .inl (z4, 2000, .inl Lm)), (a5, .inl (z5, 2001, .inl S))]) hD hS hA [0, 1, 2, 3, 4, 5] rfl
    refine va_calli (va_runV (As := [.int (xs (i + 1))]) (rest := []) ⟨hx, hb, hml, hown, hts⟩ (c_X0_acceleration l dC dI x a1 a2 a3 a4 a5 z1 z2 z3 z4 z5 H.size mo cf cl ac st T F G Lm S (xs (i + 1))) (cwV 1 hts gL_law_X0_acceleration rfl rfl rfl (by decide +kernel) ⟨Nat.le_of_ble_eq_true rfl, Nat.le_of_ble_eq_true rfl⟩) ⟨sr_blind, va_recv hKc hPc (ci := 0) (q0 := 0) rfl rfl, sr_mk hPc hKc hDc⟩ rfl rfl hl.1 rfl (lv_room (Nat.le_of_ble_eq_true rfl)) dL_law_232 ⟨by show _ ≤ 14; omega, by show _ ≤ 28028; omega⟩) hS (fun q _ h => hFc q h) hFc (fun r1 u t H1 locs ht hvm hw hB hz1 hk1 hS => ?_)
    obtain ⟨hP1, hK1, hD1⟩ := hB
    rw [ht] at hP1
    obtain ⟨-, rfl, rfl⟩ := hw.resolve_right (fun q => q.1 hV)
    obtain ⟨hP, hD⟩ := va_join (wr := [(y, .inr (1, [.ref b1, .ref b2, .ref b3, .ref b4, .ref b5, .ref b6, .int (nI mo), .int (nI ac), .ref b7, .int kn])), (b1, .inl (t1, 2000, .inl T2)), (b2, .inl (t2, 2000, .inl F2)), (b3, .inl (t3, 6000, .inl I)), (b4, .inl (t4, 6000, .inl J)), (b5, .inl (t5, 3, .inl U)), (b6, .inl (t6, 3, .inl V)), (b7, .inl (t7, 2001, .inl S2))]) (w1 := [(x, .inr (0, [.ref a1, .ref a2, .ref a3, .ref a4, .ref a5, .int (nI mo), .int (nI cf), .int (nI cl), .int (nI ((xs (i + 1)).toNatClampNeg)), .int 0])), (a1, .inl (z1, 2000, .inl T)), (a2, .inl (z2, 2000, .inl F)), (a3, .inl (z3, 2000, .inl G)), (a4, .inl (z4, 2000, .inl Lm)), (a5, .inl (z5, 2001, .inl S))]) hP hD [0, 1, 2, 3, 4, 5] [6, 7, 8, 9, 10, 11, 12, 13] rfl rfl (by decide) (by decide) hk1 hFc hP1 hD1
    generalize H1 = H at hP hS ⊢
    have hP : va_P (dC, dI) vwCl [(y, .inr (1, [.ref b1, .ref b2, .ref b3, .ref b4, .ref b5, .ref b6, .int (nI mo), .int (nI ac), .ref b7, .int kn])), (b1, .inl (t1, 2000, .inl T2)), (b2, .inl (t2, 2000, .inl F2)), (b3, .inl (t3, 6000, .inl I)), (b4, .inl (t4, 6000, .inl J)), (b5, .inl (t5, 3, .inl U)), (b6, .inl (t6, 3, .inl V)), (b7, .inl (t7, 2001, .inl S2)), (x, .inr (0, [.ref a1, .ref a2, .ref a3, .ref a4, .ref a5, .int (nI mo), .int (nI cf), .int (nI cl), .int (nI ((xs (i + 1)).toNatClampNeg)), .int 0])), (a1, .inl (z1, 2000, .inl T)), (a2, .inl (z2, 2000, .inl F)), (a3, .inl (z3, 2000, .inl G)), (a4, .inl (z4, 2000, .inl Lm)), (a5, .inl (z5, 2001, .inl S))] H := hP
    have hD : va_D (fun q : Nat => s.heap.size ≤ q) [(y, .inr (1, [.ref b1, .ref b2, .ref b3, .ref b4, .ref b5, .ref b6, .int (nI mo), .int (nI ac), .ref b7, .int kn])), (b1, .inl (t1, 2000, .inl T2)), (b2, .inl (t2, 2000, .inl F2)), (b3, .inl (t3, 6000, .inl I)), (b4, .inl (t4, 6000, .inl J)), (b5, .inl (t5, 3, .inl U)), (b6, .inl (t6, 3, .inl V)), (b7, .inl (t7, 2001, .inl S2)), (x, .inr (0, [.ref a1, .ref a2, .ref a3, .ref a4, .ref a5, .int (nI mo), .int (nI cf), .int (nI cl), .int (nI ((xs (i + 1)).toNatClampNeg)), .int 0])), (a1, .inl (z1, 2000, .inl T)), (a2, .inl (z2, 2000, .inl F)), (a3, .inl (z3, 2000, .inl G)), (a4, .inl (z4, 2000, .inl Lm)), (a5, .inl (z5, 2001, .inl S))] := hD
    refine lv_aload_n hx hb dL_law_235 rfl (lv_at hl 2 rfl) ?_
    refine lv_aload_n hx hb dL_law_236 rfl (lv_at hl 0 rfl) ?_
    refine lv_iload_n hx hb dL_law_237 rfl (lv_at hl 3 rfl) ?_
    refine lv_iconst (v := nI 1) hx hb dL_law_238 (by decide) ?_
    refine lv_iadd hx hb dL_law_239 ?_
    refine sr_ti (y := nI (i + 1)) (nI_add _ _) ?_
    refine sr_sld hx hb hX hbl hbA hS (by omega) (by omega) dL_law_240 ?_
    have hPc := hP.sub (ws' := [(y, .inr (1, [.ref b1, .ref b2, .ref b3, .ref b4, .ref b5, .ref b6, .int (nI mo), .int (nI ac), .ref b7, .int kn])), (b1, .inl (t1, 2000, .inl T2)), (b2, .inl (t2, 2000, .inl F2)), (b3, .inl (t3, 6000, .inl I)), (b4, .inl (t4, 6000, .inl J)), (b5, .inl (t5, 3, .inl U)), (b6, .inl (t6, 3, .inl V)), (b7, .inl (t7, 2001, .inl S2))]) [0, 1, 2, 3, 4, 5, 6, 7] rfl
    have hDc := hD.sub (ws' := [(y, .inr (1, [.ref b1, .ref b2, .ref b3, .ref b4, .ref b5, .ref b6, .int (nI mo), .int (nI ac), .ref b7, .int kn])), (b1, .inl (t1, 2000, .inl T2)), (b2, .inl (t2, 2000, .inl F2)), (b3, .inl (t3, 6000, .inl I)), (b4, .inl (t4, 6000, .inl J)), (b5, .inl (t5, 3, .inl U)), (b6, .inl (t6, 3, .inl V)), (b7, .inl (t7, 2001, .inl S2))]) [0, 1, 2, 3, 4, 5, 6, 7] (by decide) rfl
    have hKc := hK.sub (tys' := [(t1, .int), (t2, .int), (t3, .byte), (t4, .byte), (t5, .byte), (t6, .byte), (t7, .int)]) [5, 6, 7, 8, 9, 10, 11] rfl
    have hFc := va_free (wc := [(y, .inr (1, [.ref b1, .ref b2, .ref b3, .ref b4, .ref b5, .ref b6, .int (nI mo), .int (nI ac), .ref b7, .int kn])), (b1, .inl (t1, 2000, .inl T2)), (b2, .inl (t2, 2000, .inl F2)), (b3, .inl (t3, 6000, .inl I)), (b4, .inl (t4, 6000, .inl J)), (b5, .inl (t5, 3, .inl U)), (b6, .inl (t6, 3, .inl V)), (b7, .inl (t7, 2001, .inl S2))]) hD hS hA [0, 1, 2, 3, 4, 5, 6, 7] rfl
    refine va_calli (va_runV (As := [.int (xs (i + 1))]) (rest := [.int 1]) ⟨hx, hb, hml, hown, hts⟩ (c_X1_acceleration l dC dI y b1 b2 b3 b4 b5 b6 b7 t1 t2 t3 t4 t5 t6 t7 H.size mo ac kn T2 F2 I J U V S2 (xs (i + 1))) (cwV 1 hts gL_law_X1_acceleration rfl rfl rfl (by decide +kernel) ⟨Nat.le_of_ble_eq_true rfl, Nat.le_of_ble_eq_true rfl⟩) ⟨sr_blind, va_recv hKc hPc (ci := 1) (q0 := 0) rfl rfl, sr_mk hPc hKc hDc⟩ rfl rfl hl.1 rfl (lv_room (Nat.le_of_ble_eq_true rfl)) dL_law_241 ⟨by show _ ≤ 14; omega, by show _ ≤ 28028; omega⟩) hS (fun q _ h => hFc q h) hFc (fun r2 u t H1 locs ht hvm hw hB hz1 hk1 hS => ?_)
    obtain ⟨hP1, hK1, hD1⟩ := hB
    rw [ht] at hP1
    obtain ⟨-, rfl, rfl⟩ := hw.resolve_right (fun q => q.1 hV)
    obtain ⟨hP, hD⟩ := va_join (wr := [(x, .inr (0, [.ref a1, .ref a2, .ref a3, .ref a4, .ref a5, .int (nI mo), .int (nI cf), .int (nI cl), .int (nI ((xs (i + 1)).toNatClampNeg)), .int 0])), (a1, .inl (z1, 2000, .inl T)), (a2, .inl (z2, 2000, .inl F)), (a3, .inl (z3, 2000, .inl G)), (a4, .inl (z4, 2000, .inl Lm)), (a5, .inl (z5, 2001, .inl S))]) (w1 := [(y, .inr (1, [.ref b1, .ref b2, .ref b3, .ref b4, .ref b5, .ref b6, .int (nI mo), .int (nI ((xs (i + 1)).toNatClampNeg)), .ref b7, .int 0])), (b1, .inl (t1, 2000, .inl T2)), (b2, .inl (t2, 2000, .inl F2)), (b3, .inl (t3, 6000, .inl I)), (b4, .inl (t4, 6000, .inl J)), (b5, .inl (t5, 3, .inl U)), (b6, .inl (t6, 3, .inl V)), (b7, .inl (t7, 2001, .inl S2))]) hP hD [0, 1, 2, 3, 4, 5, 6, 7] [8, 9, 10, 11, 12, 13] rfl rfl (by decide) (by decide) hk1 hFc hP1 hD1
    generalize H1 = H at hP hS ⊢
    have hP : va_P (dC, dI) vwCl [(x, .inr (0, [.ref a1, .ref a2, .ref a3, .ref a4, .ref a5, .int (nI mo), .int (nI cf), .int (nI cl), .int (nI ((xs (i + 1)).toNatClampNeg)), .int 0])), (a1, .inl (z1, 2000, .inl T)), (a2, .inl (z2, 2000, .inl F)), (a3, .inl (z3, 2000, .inl G)), (a4, .inl (z4, 2000, .inl Lm)), (a5, .inl (z5, 2001, .inl S)), (y, .inr (1, [.ref b1, .ref b2, .ref b3, .ref b4, .ref b5, .ref b6, .int (nI mo), .int (nI ((xs (i + 1)).toNatClampNeg)), .ref b7, .int 0])), (b1, .inl (t1, 2000, .inl T2)), (b2, .inl (t2, 2000, .inl F2)), (b3, .inl (t3, 6000, .inl I)), (b4, .inl (t4, 6000, .inl J)), (b5, .inl (t5, 3, .inl U)), (b6, .inl (t6, 3, .inl V)), (b7, .inl (t7, 2001, .inl S2))] H := hP
    have hD : va_D (fun q : Nat => s.heap.size ≤ q) [(x, .inr (0, [.ref a1, .ref a2, .ref a3, .ref a4, .ref a5, .int (nI mo), .int (nI cf), .int (nI cl), .int (nI ((xs (i + 1)).toNatClampNeg)), .int 0])), (a1, .inl (z1, 2000, .inl T)), (a2, .inl (z2, 2000, .inl F)), (a3, .inl (z3, 2000, .inl G)), (a4, .inl (z4, 2000, .inl Lm)), (a5, .inl (z5, 2001, .inl S)), (y, .inr (1, [.ref b1, .ref b2, .ref b3, .ref b4, .ref b5, .ref b6, .int (nI mo), .int (nI ((xs (i + 1)).toNatClampNeg)), .ref b7, .int 0])), (b1, .inl (t1, 2000, .inl T2)), (b2, .inl (t2, 2000, .inl F2)), (b3, .inl (t3, 6000, .inl I)), (b4, .inl (t4, 6000, .inl J)), (b5, .inl (t5, 3, .inl U)), (b6, .inl (t6, 3, .inl V)), (b7, .inl (t7, 2001, .inl S2))] := hD
    refine lv_icmp_eq (tgt := 322) hx hb dL_law_244 (by decide) (fun c1 => ?_) (fun c1 => ?_)
    · exact hk H locs ls ⟨mo, cf, cl, (xs (i + 1)).toNatClampNeg, tk, fd, fs, la, 0, T, F, G, Lm, S, 0, T2, F2, I, J, U, V, S2, ⟨⟨g.1, sr_rng (M := 10000) (by decide) (by decide) hV.1 hV.2, g.2.2⟩, hI, Or.inl rfl, hM, Or.inl rfl⟩, hP, hD, hS⟩ hl
    · exact absurd rfl c1
  · refine lv_aload_n hx hb dL_law_226 rfl (lv_at hl 1 rfl) ?_
    refine lv_aload_n hx hb dL_law_227 rfl (lv_at hl 0 rfl) ?_
    refine lv_iload_n hx hb dL_law_228 rfl (lv_at hl 3 rfl) ?_
    refine lv_iconst (v := nI 1) hx hb dL_law_229 (by decide) ?_
    refine lv_iadd hx hb dL_law_230 ?_
    refine sr_ti (y := nI (i + 1)) (nI_add _ _) ?_
    refine sr_sld hx hb hX hbl hbA hS (by omega) (by omega) dL_law_231 ?_
    have hPc := hP.sub (ws' := [(x, .inr (0, [.ref a1, .ref a2, .ref a3, .ref a4, .ref a5, .int (nI mo), .int (nI cf), .int (nI cl), .int (nI ac), .int st])), (a1, .inl (z1, 2000, .inl T)), (a2, .inl (z2, 2000, .inl F)), (a3, .inl (z3, 2000, .inl G)), (a4, .inl (z4, 2000, .inl Lm)), (a5, .inl (z5, 2001, .inl S))]) [0, 1, 2, 3, 4, 5] rfl
    have hDc := hD.sub (ws' := [(x, .inr (0, [.ref a1, .ref a2, .ref a3, .ref a4, .ref a5, .int (nI mo), .int (nI cf), .int (nI cl), .int (nI ac), .int st])), (a1, .inl (z1, 2000, .inl T)), (a2, .inl (z2, 2000, .inl F)), (a3, .inl (z3, 2000, .inl G)), (a4, .inl (z4, 2000, .inl Lm)), (a5, .inl (z5, 2001, .inl S))]) [0, 1, 2, 3, 4, 5] (by decide) rfl
    have hKc := hK.sub (tys' := [(z1, .int), (z2, .int), (z3, .int), (z4, .int), (z5, .int)]) [0, 1, 2, 3, 4] rfl
    have hFc := va_free (wc := [(x, .inr (0, [.ref a1, .ref a2, .ref a3, .ref a4, .ref a5, .int (nI mo), .int (nI cf), .int (nI cl), .int (nI ac), .int st])), (a1, .inl (z1, 2000, .inl T)), (a2, .inl (z2, 2000, .inl F)), (a3, .inl (z3, 2000, .inl G)), (a4, .inl (z4, 2000, .inl Lm)), (a5, .inl (z5, 2001, .inl S))]) hD hS hA [0, 1, 2, 3, 4, 5] rfl
    refine va_calli (va_runV (As := [.int (xs (i + 1))]) (rest := []) ⟨hx, hb, hml, hown, hts⟩ (c_X0_acceleration l dC dI x a1 a2 a3 a4 a5 z1 z2 z3 z4 z5 H.size mo cf cl ac st T F G Lm S (xs (i + 1))) (cwV 1 hts gL_law_X0_acceleration rfl rfl rfl (by decide +kernel) ⟨Nat.le_of_ble_eq_true rfl, Nat.le_of_ble_eq_true rfl⟩) ⟨sr_blind, va_recv hKc hPc (ci := 0) (q0 := 0) rfl rfl, sr_mk hPc hKc hDc⟩ rfl rfl hl.1 rfl (lv_room (Nat.le_of_ble_eq_true rfl)) dL_law_232 ⟨by show _ ≤ 14; omega, by show _ ≤ 28028; omega⟩) hS (fun q _ h => hFc q h) hFc (fun r1 u t H1 locs ht hvm hw hB hz1 hk1 hS => ?_)
    obtain ⟨hP1, hK1, hD1⟩ := hB
    rw [ht] at hP1
    obtain ⟨-, rfl, rfl⟩ := hw.resolve_left (fun q => hV q.1)
    obtain ⟨hP, hD⟩ := va_join (wr := [(y, .inr (1, [.ref b1, .ref b2, .ref b3, .ref b4, .ref b5, .ref b6, .int (nI mo), .int (nI ac), .ref b7, .int kn])), (b1, .inl (t1, 2000, .inl T2)), (b2, .inl (t2, 2000, .inl F2)), (b3, .inl (t3, 6000, .inl I)), (b4, .inl (t4, 6000, .inl J)), (b5, .inl (t5, 3, .inl U)), (b6, .inl (t6, 3, .inl V)), (b7, .inl (t7, 2001, .inl S2))]) (w1 := [(x, .inr (0, [.ref a1, .ref a2, .ref a3, .ref a4, .ref a5, .int (nI mo), .int (nI cf), .int (nI cl), .int (nI ac), .int st])), (a1, .inl (z1, 2000, .inl T)), (a2, .inl (z2, 2000, .inl F)), (a3, .inl (z3, 2000, .inl G)), (a4, .inl (z4, 2000, .inl Lm)), (a5, .inl (z5, 2001, .inl S))]) hP hD [0, 1, 2, 3, 4, 5] [6, 7, 8, 9, 10, 11, 12, 13] rfl rfl (by decide) (by decide) hk1 hFc hP1 hD1
    generalize H1 = H at hP hS ⊢
    have hP : va_P (dC, dI) vwCl [(y, .inr (1, [.ref b1, .ref b2, .ref b3, .ref b4, .ref b5, .ref b6, .int (nI mo), .int (nI ac), .ref b7, .int kn])), (b1, .inl (t1, 2000, .inl T2)), (b2, .inl (t2, 2000, .inl F2)), (b3, .inl (t3, 6000, .inl I)), (b4, .inl (t4, 6000, .inl J)), (b5, .inl (t5, 3, .inl U)), (b6, .inl (t6, 3, .inl V)), (b7, .inl (t7, 2001, .inl S2)), (x, .inr (0, [.ref a1, .ref a2, .ref a3, .ref a4, .ref a5, .int (nI mo), .int (nI cf), .int (nI cl), .int (nI ac), .int st])), (a1, .inl (z1, 2000, .inl T)), (a2, .inl (z2, 2000, .inl F)), (a3, .inl (z3, 2000, .inl G)), (a4, .inl (z4, 2000, .inl Lm)), (a5, .inl (z5, 2001, .inl S))] H := hP
    have hD : va_D (fun q : Nat => s.heap.size ≤ q) [(y, .inr (1, [.ref b1, .ref b2, .ref b3, .ref b4, .ref b5, .ref b6, .int (nI mo), .int (nI ac), .ref b7, .int kn])), (b1, .inl (t1, 2000, .inl T2)), (b2, .inl (t2, 2000, .inl F2)), (b3, .inl (t3, 6000, .inl I)), (b4, .inl (t4, 6000, .inl J)), (b5, .inl (t5, 3, .inl U)), (b6, .inl (t6, 3, .inl V)), (b7, .inl (t7, 2001, .inl S2)), (x, .inr (0, [.ref a1, .ref a2, .ref a3, .ref a4, .ref a5, .int (nI mo), .int (nI cf), .int (nI cl), .int (nI ac), .int st])), (a1, .inl (z1, 2000, .inl T)), (a2, .inl (z2, 2000, .inl F)), (a3, .inl (z3, 2000, .inl G)), (a4, .inl (z4, 2000, .inl Lm)), (a5, .inl (z5, 2001, .inl S))] := hD
    refine lv_aload_n hx hb dL_law_235 rfl (lv_at hl 2 rfl) ?_
    refine lv_aload_n hx hb dL_law_236 rfl (lv_at hl 0 rfl) ?_
    refine lv_iload_n hx hb dL_law_237 rfl (lv_at hl 3 rfl) ?_
    refine lv_iconst (v := nI 1) hx hb dL_law_238 (by decide) ?_
    refine lv_iadd hx hb dL_law_239 ?_
    refine sr_ti (y := nI (i + 1)) (nI_add _ _) ?_
    refine sr_sld hx hb hX hbl hbA hS (by omega) (by omega) dL_law_240 ?_
    have hPc := hP.sub (ws' := [(y, .inr (1, [.ref b1, .ref b2, .ref b3, .ref b4, .ref b5, .ref b6, .int (nI mo), .int (nI ac), .ref b7, .int kn])), (b1, .inl (t1, 2000, .inl T2)), (b2, .inl (t2, 2000, .inl F2)), (b3, .inl (t3, 6000, .inl I)), (b4, .inl (t4, 6000, .inl J)), (b5, .inl (t5, 3, .inl U)), (b6, .inl (t6, 3, .inl V)), (b7, .inl (t7, 2001, .inl S2))]) [0, 1, 2, 3, 4, 5, 6, 7] rfl
    have hDc := hD.sub (ws' := [(y, .inr (1, [.ref b1, .ref b2, .ref b3, .ref b4, .ref b5, .ref b6, .int (nI mo), .int (nI ac), .ref b7, .int kn])), (b1, .inl (t1, 2000, .inl T2)), (b2, .inl (t2, 2000, .inl F2)), (b3, .inl (t3, 6000, .inl I)), (b4, .inl (t4, 6000, .inl J)), (b5, .inl (t5, 3, .inl U)), (b6, .inl (t6, 3, .inl V)), (b7, .inl (t7, 2001, .inl S2))]) [0, 1, 2, 3, 4, 5, 6, 7] (by decide) rfl
    have hKc := hK.sub (tys' := [(t1, .int), (t2, .int), (t3, .byte), (t4, .byte), (t5, .byte), (t6, .byte), (t7, .int)]) [5, 6, 7, 8, 9, 10, 11] rfl
    have hFc := va_free (wc := [(y, .inr (1, [.ref b1, .ref b2, .ref b3, .ref b4, .ref b5, .ref b6, .int (nI mo), .int (nI ac), .ref b7, .int kn])), (b1, .inl (t1, 2000, .inl T2)), (b2, .inl (t2, 2000, .inl F2)), (b3, .inl (t3, 6000, .inl I)), (b4, .inl (t4, 6000, .inl J)), (b5, .inl (t5, 3, .inl U)), (b6, .inl (t6, 3, .inl V)), (b7, .inl (t7, 2001, .inl S2))]) hD hS hA [0, 1, 2, 3, 4, 5, 6, 7] rfl
    refine va_calli (va_runV (As := [.int (xs (i + 1))]) (rest := [.int 0]) ⟨hx, hb, hml, hown, hts⟩ (c_X1_acceleration l dC dI y b1 b2 b3 b4 b5 b6 b7 t1 t2 t3 t4 t5 t6 t7 H.size mo ac kn T2 F2 I J U V S2 (xs (i + 1))) (cwV 1 hts gL_law_X1_acceleration rfl rfl rfl (by decide +kernel) ⟨Nat.le_of_ble_eq_true rfl, Nat.le_of_ble_eq_true rfl⟩) ⟨sr_blind, va_recv hKc hPc (ci := 1) (q0 := 0) rfl rfl, sr_mk hPc hKc hDc⟩ rfl rfl hl.1 rfl (lv_room (Nat.le_of_ble_eq_true rfl)) dL_law_241 ⟨by show _ ≤ 14; omega, by show _ ≤ 28028; omega⟩) hS (fun q _ h => hFc q h) hFc (fun r2 u t H1 locs ht hvm hw hB hz1 hk1 hS => ?_)
    obtain ⟨hP1, hK1, hD1⟩ := hB
    rw [ht] at hP1
    obtain ⟨-, rfl, rfl⟩ := hw.resolve_left (fun q => hV q.1)
    obtain ⟨hP, hD⟩ := va_join (wr := [(x, .inr (0, [.ref a1, .ref a2, .ref a3, .ref a4, .ref a5, .int (nI mo), .int (nI cf), .int (nI cl), .int (nI ac), .int st])), (a1, .inl (z1, 2000, .inl T)), (a2, .inl (z2, 2000, .inl F)), (a3, .inl (z3, 2000, .inl G)), (a4, .inl (z4, 2000, .inl Lm)), (a5, .inl (z5, 2001, .inl S))]) (w1 := [(y, .inr (1, [.ref b1, .ref b2, .ref b3, .ref b4, .ref b5, .ref b6, .int (nI mo), .int (nI ac), .ref b7, .int kn])), (b1, .inl (t1, 2000, .inl T2)), (b2, .inl (t2, 2000, .inl F2)), (b3, .inl (t3, 6000, .inl I)), (b4, .inl (t4, 6000, .inl J)), (b5, .inl (t5, 3, .inl U)), (b6, .inl (t6, 3, .inl V)), (b7, .inl (t7, 2001, .inl S2))]) hP hD [0, 1, 2, 3, 4, 5, 6, 7] [8, 9, 10, 11, 12, 13] rfl rfl (by decide) (by decide) hk1 hFc hP1 hD1
    generalize H1 = H at hP hS ⊢
    have hP : va_P (dC, dI) vwCl [(x, .inr (0, [.ref a1, .ref a2, .ref a3, .ref a4, .ref a5, .int (nI mo), .int (nI cf), .int (nI cl), .int (nI ac), .int st])), (a1, .inl (z1, 2000, .inl T)), (a2, .inl (z2, 2000, .inl F)), (a3, .inl (z3, 2000, .inl G)), (a4, .inl (z4, 2000, .inl Lm)), (a5, .inl (z5, 2001, .inl S)), (y, .inr (1, [.ref b1, .ref b2, .ref b3, .ref b4, .ref b5, .ref b6, .int (nI mo), .int (nI ac), .ref b7, .int kn])), (b1, .inl (t1, 2000, .inl T2)), (b2, .inl (t2, 2000, .inl F2)), (b3, .inl (t3, 6000, .inl I)), (b4, .inl (t4, 6000, .inl J)), (b5, .inl (t5, 3, .inl U)), (b6, .inl (t6, 3, .inl V)), (b7, .inl (t7, 2001, .inl S2))] H := hP
    have hD : va_D (fun q : Nat => s.heap.size ≤ q) [(x, .inr (0, [.ref a1, .ref a2, .ref a3, .ref a4, .ref a5, .int (nI mo), .int (nI cf), .int (nI cl), .int (nI ac), .int st])), (a1, .inl (z1, 2000, .inl T)), (a2, .inl (z2, 2000, .inl F)), (a3, .inl (z3, 2000, .inl G)), (a4, .inl (z4, 2000, .inl Lm)), (a5, .inl (z5, 2001, .inl S)), (y, .inr (1, [.ref b1, .ref b2, .ref b3, .ref b4, .ref b5, .ref b6, .int (nI mo), .int (nI ac), .ref b7, .int kn])), (b1, .inl (t1, 2000, .inl T2)), (b2, .inl (t2, 2000, .inl F2)), (b3, .inl (t3, 6000, .inl I)), (b4, .inl (t4, 6000, .inl J)), (b5, .inl (t5, 3, .inl U)), (b6, .inl (t6, 3, .inl V)), (b7, .inl (t7, 2001, .inl S2))] := hD
    refine lv_icmp_eq (tgt := 322) hx hb dL_law_244 (by decide) (fun c1 => ?_) (fun c1 => ?_)
    · exact hk H locs ls ⟨mo, cf, cl, ac, tk, fd, fs, la, st, T, F, G, Lm, S, kn, T2, F2, I, J, U, V, S2, ⟨g, hI, hQ, hM, hQ2⟩, hP, hD, hS⟩ hl
    · exact absurd rfl c1
set_option maxHeartbeats 4000000 in
set_option maxRecDepth 100000 in
/-- case 5: limit -/
theorem lw_c5 {p : Program} {l : Launch} {e : Env} {s : State} {m : MethodId} {below : List Frame} {meth : Method} {c : Code} {Q : State → Prop} {b L : Nat} {xs : Nat → Int32} (hL : L ≤ 2048) (C0 : lw_At p s m meth c b L xs) {dC : Nat → ClassId} {dI : Nat → Nat → Nat} {x a1 a2 a3 a4 a5 : Nat} {z1 z2 z3 z4 z5 : ClassId} {y b1 b2 b3 b4 b5 b6 b7 : Nat} {t1 t2 t3 t4 t5 t6 t7 : ClassId} (hK : va_K (dC, dI) vwCl (sr_tX z1 z2 z3 z4 z5 ++ sr_tM t1 t2 t3 t4 t5 t6 t7) s) {i : Nat} (hi : i + 4 ≤ L)
    (hk : ∀ (H : Heap) (locs : List Loc) (ls : Array Slot), lw_I dC dI x a1 a2 a3 a4 a5 z1 z2 z3 z4 z5 y b1 b2 b3 b4 b5 b6 b7 t1 t2 t3 t4 t5 t6 t7 (fun q : Nat => s.heap.size ≤ q) s.heap H locs → lv_has ls 4 [(0, .ref b), (1, .ref x), (2, .ref y), (3, .int (nI i))] → W p l e room_1 s m #[Value.ref b] below meth c H locs 14 28028 Q (F0 m 322 ls [])) (H : Heap) (locs : List Loc) (ls : Array Slot) (hJ : lw_I dC dI x a1 a2 a3 a4 a5 z1 z2 z3 z4 z5 y b1 b2 b3 b4 b5 b6 b7 t1 t2 t3 t4 t5 t6 t7 (fun q : Nat => s.heap.size ≤ q) s.heap H locs) (hl : lv_has ls 4 [(0, .ref b), (1, .ref x), (2, .ref y), (3, .int (nI i))]) : W p l e room_1 s m #[Value.ref b] below meth c H locs 14 28028 Q (F0 m 249 ls []) := by
  obtain ⟨hx, hb, hr, hml, hown, hts, hX, hbl, hlocks, hgv⟩ := C0
  have hown : s.vm.findClass RL = some m.cls := hown
  have hts := fun w h => hts w (wsL_law_in w h)
  have hA : ∀ q : Nat, s.heap.size ≤ q → (fun q : Nat => s.heap.size ≤ q) q := fun _ h => h
  have hbA : ¬ (fun q : Nat => s.heap.size ≤ q) b := Nat.not_le.mpr hbl
  obtain ⟨mo, cf, cl, ac, tk, fd, fs, la, st, T, F, G, Lm, S, kn, T2, F2, I, J, U, V, S2, ⟨g, hI, hQ, hM, hQ2⟩, hP, hD, hS⟩ := hJ
  have hK : va_K (dC, dI) vwCl [(z1, .int), (z2, .int), (z3, .int), (z4, .int), (z5, .int), (t1, .int), (t2, .int), (t3, .byte), (t4, .byte), (t5, .byte), (t6, .byte), (t7, .int)] s := hK
  have hP : va_P (dC, dI) vwCl [(x, .inr (0, [.ref a1, .ref a2, .ref a3, .ref a4, .ref a5, .int (nI mo), .int (nI cf), .int (nI cl), .int (nI ac), .int st])), (a1, .inl (z1, 2000, .inl T)), (a2, .inl (z2, 2000, .inl F)), (a3, .inl (z3, 2000, .inl G)), (a4, .inl (z4, 2000, .inl Lm)), (a5, .inl (z5, 2001, .inl S)), (y, .inr (1, [.ref b1, .ref b2, .ref b3, .ref b4, .ref b5, .ref b6, .int (nI mo), .int (nI ac), .ref b7, .int kn])), (b1, .inl (t1, 2000, .inl T2)), (b2, .inl (t2, 2000, .inl F2)), (b3, .inl (t3, 6000, .inl I)), (b4, .inl (t4, 6000, .inl J)), (b5, .inl (t5, 3, .inl U)), (b6, .inl (t6, 3, .inl V)), (b7, .inl (t7, 2001, .inl S2))] H := hP
  have hD : va_D (fun q : Nat => s.heap.size ≤ q) [(x, .inr (0, [.ref a1, .ref a2, .ref a3, .ref a4, .ref a5, .int (nI mo), .int (nI cf), .int (nI cl), .int (nI ac), .int st])), (a1, .inl (z1, 2000, .inl T)), (a2, .inl (z2, 2000, .inl F)), (a3, .inl (z3, 2000, .inl G)), (a4, .inl (z4, 2000, .inl Lm)), (a5, .inl (z5, 2001, .inl S)), (y, .inr (1, [.ref b1, .ref b2, .ref b3, .ref b4, .ref b5, .ref b6, .int (nI mo), .int (nI ac), .ref b7, .int kn])), (b1, .inl (t1, 2000, .inl T2)), (b2, .inl (t2, 2000, .inl F2)), (b3, .inl (t3, 6000, .inl I)), (b4, .inl (t4, 6000, .inl J)), (b5, .inl (t5, 3, .inl U)), (b6, .inl (t6, 3, .inl V)), (b7, .inl (t7, 2001, .inl S2))] := hD
  have hmo : mo ≤ 2000 := g.1
  refine lv_aload_n hx hb dL_law_249 rfl (lv_at hl 1 rfl) ?_
  refine lv_aload_n hx hb dL_law_250 rfl (lv_at hl 0 rfl) ?_
  refine lv_iload_n hx hb dL_law_251 rfl (lv_at hl 3 rfl) ?_
  refine lv_iconst (v := nI 1) hx hb dL_law_252 (by decide) ?_
  refine lv_iadd hx hb dL_law_253 ?_
  refine sr_ti (y := nI (i + 1)) (nI_add _ _) ?_
  refine sr_sld hx hb hX hbl hbA hS (by omega) (by omega) dL_law_254 ?_
  have hPc := hP.sub (ws' := [(x, .inr (0, [.ref a1, .ref a2, .ref a3, .ref a4, .ref a5, .int (nI mo), .int (nI cf), .int (nI cl), .int (nI ac), .int st])), (a1, .inl (z1, 2000, .inl T)), (a2, .inl (z2, 2000, .inl F)), (a3, .inl (z3, 2000, .inl G)), (a4, .inl (z4, 2000, .inl Lm)), (a5, .inl (z5, 2001, .inl S))]) [0, 1, 2, 3, 4, 5] rfl
  have hDc := hD.sub (ws' := [(x, .inr (0, [.ref a1, .ref a2, .ref a3, .ref a4, .ref a5, .int (nI mo), .int (nI cf), .int (nI cl), .int (nI ac), .int st])), (a1, .inl (z1, 2000, .inl T)), (a2, .inl (z2, 2000, .inl F)), (a3, .inl (z3, 2000, .inl G)), (a4, .inl (z4, 2000, .inl Lm)), (a5, .inl (z5, 2001, .inl S))]) [0, 1, 2, 3, 4, 5] (by decide) rfl
  have hKc := hK.sub (tys' := [(z1, .int), (z2, .int), (z3, .int), (z4, .int), (z5, .int)]) [0, 1, 2, 3, 4] rfl
  have hFc := va_free (wc := [(x, .inr (0, [.ref a1, .ref a2, .ref a3, .ref a4, .ref a5, .int (nI mo), .int (nI cf), .int (nI cl), .int (nI ac), .int st])), (a1, .inl (z1, 2000, .inl T)), (a2, .inl (z2, 2000, .inl F)), (a3, .inl (z3, 2000, .inl G)), (a4, .inl (z4, 2000, .inl Lm)), (a5, .inl (z5, 2001, .inl S))]) hD hS hA [0, 1, 2, 3, 4, 5] rfl
  refine va_calli (va_runV (As := [.int (xs (i + 1))]) (rest := []) ⟨hx, hb, hml, hown, hts⟩ (c_X0_limit l dC dI x a1 a2 a3 a4 a5 z1 z2 z3 z4 z5 H.size mo cf cl ac st T F G Lm S (xs (i + 1)) tk fd fs la hI hmo) (cwV 1 hts gL_law_X0_limit rfl rfl rfl (by decide +kernel) ⟨Nat.le_of_ble_eq_true rfl, Nat.le_of_ble_eq_true rfl⟩) ⟨sr_blind, va_recv hKc hPc (ci := 0) (q0 := 0) rfl rfl, sr_mk hPc hKc hDc⟩ rfl rfl hl.1 rfl (lv_room (Nat.le_of_ble_eq_true rfl)) dL_law_255 ⟨by show _ ≤ 14; omega, by show _ ≤ 28028; omega⟩) hS (fun q _ h => hFc q h) hFc (fun r1 u t H1 locs ht hvm hw hB hz1 hk1 hS => ?_)
  obtain ⟨hP1, hK1, hD1⟩ := hB
  rw [ht] at hP1
  obtain ⟨rfl, rfl⟩ := hw
  obtain ⟨hP, hD⟩ := va_join (wr := [(y, .inr (1, [.ref b1, .ref b2, .ref b3, .ref b4, .ref b5, .ref b6, .int (nI mo), .int (nI ac), .ref b7, .int kn])), (b1, .inl (t1, 2000, .inl T2)), (b2, .inl (t2, 2000, .inl F2)), (b3, .inl (t3, 6000, .inl I)), (b4, .inl (t4, 6000, .inl J)), (b5, .inl (t5, 3, .inl U)), (b6, .inl (t6, 3, .inl V)), (b7, .inl (t7, 2001, .inl S2))]) (w1 := [(x, .inr (0, [.ref a1, .ref a2, .ref a3, .ref a4, .ref a5, .int (nI mo), .int (nI cf), .int (nI cl), .int (nI ac), .int st])), (a1, .inl (z1, 2000, .inl T)), (a2, .inl (z2, 2000, .inl F)), (a3, .inl (z3, 2000, .inl G)), (a4, .inl (z4, 2000, .inl Lm)), (a5, .inl (z5, 2001, .inl S))]) hP hD [0, 1, 2, 3, 4, 5] [6, 7, 8, 9, 10, 11, 12, 13] rfl rfl (by decide) (by decide) hk1 hFc hP1 hD1
  generalize H1 = H at hP hS ⊢
  have hP : va_P (dC, dI) vwCl [(y, .inr (1, [.ref b1, .ref b2, .ref b3, .ref b4, .ref b5, .ref b6, .int (nI mo), .int (nI ac), .ref b7, .int kn])), (b1, .inl (t1, 2000, .inl T2)), (b2, .inl (t2, 2000, .inl F2)), (b3, .inl (t3, 6000, .inl I)), (b4, .inl (t4, 6000, .inl J)), (b5, .inl (t5, 3, .inl U)), (b6, .inl (t6, 3, .inl V)), (b7, .inl (t7, 2001, .inl S2)), (x, .inr (0, [.ref a1, .ref a2, .ref a3, .ref a4, .ref a5, .int (nI mo), .int (nI cf), .int (nI cl), .int (nI ac), .int st])), (a1, .inl (z1, 2000, .inl T)), (a2, .inl (z2, 2000, .inl F)), (a3, .inl (z3, 2000, .inl G)), (a4, .inl (z4, 2000, .inl Lm)), (a5, .inl (z5, 2001, .inl S))] H := hP
  have hD : va_D (fun q : Nat => s.heap.size ≤ q) [(y, .inr (1, [.ref b1, .ref b2, .ref b3, .ref b4, .ref b5, .ref b6, .int (nI mo), .int (nI ac), .ref b7, .int kn])), (b1, .inl (t1, 2000, .inl T2)), (b2, .inl (t2, 2000, .inl F2)), (b3, .inl (t3, 6000, .inl I)), (b4, .inl (t4, 6000, .inl J)), (b5, .inl (t5, 3, .inl U)), (b6, .inl (t6, 3, .inl V)), (b7, .inl (t7, 2001, .inl S2)), (x, .inr (0, [.ref a1, .ref a2, .ref a3, .ref a4, .ref a5, .int (nI mo), .int (nI cf), .int (nI cl), .int (nI ac), .int st])), (a1, .inl (z1, 2000, .inl T)), (a2, .inl (z2, 2000, .inl F)), (a3, .inl (z3, 2000, .inl G)), (a4, .inl (z4, 2000, .inl Lm)), (a5, .inl (z5, 2001, .inl S))] := hD
  refine lv_aload_n hx hb dL_law_258 rfl (lv_at hl 2 rfl) ?_
  refine lv_aload_n hx hb dL_law_259 rfl (lv_at hl 0 rfl) ?_
  refine lv_iload_n hx hb dL_law_260 rfl (lv_at hl 3 rfl) ?_
  refine lv_iconst (v := nI 1) hx hb dL_law_261 (by decide) ?_
  refine lv_iadd hx hb dL_law_262 ?_
  refine sr_ti (y := nI (i + 1)) (nI_add _ _) ?_
  refine sr_sld hx hb hX hbl hbA hS (by omega) (by omega) dL_law_263 ?_
  have hPc := hP.sub (ws' := [(y, .inr (1, [.ref b1, .ref b2, .ref b3, .ref b4, .ref b5, .ref b6, .int (nI mo), .int (nI ac), .ref b7, .int kn])), (b1, .inl (t1, 2000, .inl T2)), (b2, .inl (t2, 2000, .inl F2)), (b3, .inl (t3, 6000, .inl I)), (b4, .inl (t4, 6000, .inl J)), (b5, .inl (t5, 3, .inl U)), (b6, .inl (t6, 3, .inl V)), (b7, .inl (t7, 2001, .inl S2))]) [0, 1, 2, 3, 4, 5, 6, 7] rfl
  have hDc := hD.sub (ws' := [(y, .inr (1, [.ref b1, .ref b2, .ref b3, .ref b4, .ref b5, .ref b6, .int (nI mo), .int (nI ac), .ref b7, .int kn])), (b1, .inl (t1, 2000, .inl T2)), (b2, .inl (t2, 2000, .inl F2)), (b3, .inl (t3, 6000, .inl I)), (b4, .inl (t4, 6000, .inl J)), (b5, .inl (t5, 3, .inl U)), (b6, .inl (t6, 3, .inl V)), (b7, .inl (t7, 2001, .inl S2))]) [0, 1, 2, 3, 4, 5, 6, 7] (by decide) rfl
  have hKc := hK.sub (tys' := [(t1, .int), (t2, .int), (t3, .byte), (t4, .byte), (t5, .byte), (t6, .byte), (t7, .int)]) [5, 6, 7, 8, 9, 10, 11] rfl
  have hFc := va_free (wc := [(y, .inr (1, [.ref b1, .ref b2, .ref b3, .ref b4, .ref b5, .ref b6, .int (nI mo), .int (nI ac), .ref b7, .int kn])), (b1, .inl (t1, 2000, .inl T2)), (b2, .inl (t2, 2000, .inl F2)), (b3, .inl (t3, 6000, .inl I)), (b4, .inl (t4, 6000, .inl J)), (b5, .inl (t5, 3, .inl U)), (b6, .inl (t6, 3, .inl V)), (b7, .inl (t7, 2001, .inl S2))]) hD hS hA [0, 1, 2, 3, 4, 5, 6, 7] rfl
  refine va_calli (va_runV (As := [.int (xs (i + 1))]) (rest := [.int (sr_an mo (sr_lim mo fd fs la) (xs (i + 1)))]) ⟨hx, hb, hml, hown, hts⟩ (c_X1_limit l dC dI y b1 b2 b3 b4 b5 b6 b7 t1 t2 t3 t4 t5 t6 t7 H.size mo ac kn T2 F2 I J U V S2 (xs (i + 1)) cf cl tk fd fs la g hM) (cwV 1 hts gL_law_X1_limit rfl rfl rfl (by decide +kernel) ⟨Nat.le_of_ble_eq_true rfl, Nat.le_of_ble_eq_true rfl⟩) ⟨sr_blind, va_recv hKc hPc (ci := 1) (q0 := 0) rfl rfl, sr_mk hPc hKc hDc⟩ rfl rfl hl.1 rfl (lv_room (Nat.le_of_ble_eq_true rfl)) dL_law_264 ⟨by show _ ≤ 14; omega, by show _ ≤ 28028; omega⟩) hS (fun q _ h => hFc q h) hFc (fun r2 u t H1 locs ht hvm hw hB hz1 hk1 hS => ?_)
  obtain ⟨hP1, hK1, hD1⟩ := hB
  rw [ht] at hP1
  obtain ⟨rfl, rfl⟩ := hw
  obtain ⟨hP, hD⟩ := va_join (wr := [(x, .inr (0, [.ref a1, .ref a2, .ref a3, .ref a4, .ref a5, .int (nI mo), .int (nI cf), .int (nI cl), .int (nI ac), .int st])), (a1, .inl (z1, 2000, .inl T)), (a2, .inl (z2, 2000, .inl F)), (a3, .inl (z3, 2000, .inl G)), (a4, .inl (z4, 2000, .inl Lm)), (a5, .inl (z5, 2001, .inl S))]) (w1 := [(y, .inr (1, [.ref b1, .ref b2, .ref b3, .ref b4, .ref b5, .ref b6, .int (nI mo), .int (nI ac), .ref b7, .int kn])), (b1, .inl (t1, 2000, .inl T2)), (b2, .inl (t2, 2000, .inl F2)), (b3, .inl (t3, 6000, .inl I)), (b4, .inl (t4, 6000, .inl J)), (b5, .inl (t5, 3, .inl U)), (b6, .inl (t6, 3, .inl V)), (b7, .inl (t7, 2001, .inl S2))]) hP hD [0, 1, 2, 3, 4, 5, 6, 7] [8, 9, 10, 11, 12, 13] rfl rfl (by decide) (by decide) hk1 hFc hP1 hD1
  generalize H1 = H at hP hS ⊢
  have hP : va_P (dC, dI) vwCl [(x, .inr (0, [.ref a1, .ref a2, .ref a3, .ref a4, .ref a5, .int (nI mo), .int (nI cf), .int (nI cl), .int (nI ac), .int st])), (a1, .inl (z1, 2000, .inl T)), (a2, .inl (z2, 2000, .inl F)), (a3, .inl (z3, 2000, .inl G)), (a4, .inl (z4, 2000, .inl Lm)), (a5, .inl (z5, 2001, .inl S)), (y, .inr (1, [.ref b1, .ref b2, .ref b3, .ref b4, .ref b5, .ref b6, .int (nI mo), .int (nI ac), .ref b7, .int kn])), (b1, .inl (t1, 2000, .inl T2)), (b2, .inl (t2, 2000, .inl F2)), (b3, .inl (t3, 6000, .inl I)), (b4, .inl (t4, 6000, .inl J)), (b5, .inl (t5, 3, .inl U)), (b6, .inl (t6, 3, .inl V)), (b7, .inl (t7, 2001, .inl S2))] H := hP
  have hD : va_D (fun q : Nat => s.heap.size ≤ q) [(x, .inr (0, [.ref a1, .ref a2, .ref a3, .ref a4, .ref a5, .int (nI mo), .int (nI cf), .int (nI cl), .int (nI ac), .int st])), (a1, .inl (z1, 2000, .inl T)), (a2, .inl (z2, 2000, .inl F)), (a3, .inl (z3, 2000, .inl G)), (a4, .inl (z4, 2000, .inl Lm)), (a5, .inl (z5, 2001, .inl S)), (y, .inr (1, [.ref b1, .ref b2, .ref b3, .ref b4, .ref b5, .ref b6, .int (nI mo), .int (nI ac), .ref b7, .int kn])), (b1, .inl (t1, 2000, .inl T2)), (b2, .inl (t2, 2000, .inl F2)), (b3, .inl (t3, 6000, .inl I)), (b4, .inl (t4, 6000, .inl J)), (b5, .inl (t5, 3, .inl U)), (b6, .inl (t6, 3, .inl V)), (b7, .inl (t7, 2001, .inl S2))] := hD
  refine lv_icmp_eq (tgt := 322) hx hb dL_law_267 (by decide) (fun c1 => ?_) (fun c1 => ?_)
  · exact hk H locs ls ⟨mo, cf, cl, ac, tk, fd, fs, la, st, T, F, G, Lm, S, kn, T2, F2, I, J, U, V, S2, ⟨g, hI, hQ, hM, hQ2⟩, hP, hD, hS⟩ hl
  · exact absurd rfl c1
set_option maxHeartbeats 4000000 in
set_option maxRecDepth 100000 in
/-- case 6: speed -/
theorem lw_c6 {p : Program} {l : Launch} {e : Env} {s : State} {m : MethodId} {below : List Frame} {meth : Method} {c : Code} {Q : State → Prop} {b L : Nat} {xs : Nat → Int32} (hL : L ≤ 2048) (C0 : lw_At p s m meth c b L xs) {dC : Nat → ClassId} {dI : Nat → Nat → Nat} {x a1 a2 a3 a4 a5 : Nat} {z1 z2 z3 z4 z5 : ClassId} {y b1 b2 b3 b4 b5 b6 b7 : Nat} {t1 t2 t3 t4 t5 t6 t7 : ClassId} (hK : va_K (dC, dI) vwCl (sr_tX z1 z2 z3 z4 z5 ++ sr_tM t1 t2 t3 t4 t5 t6 t7) s) {i : Nat} (hi : i + 4 ≤ L)
    (hk : ∀ (H : Heap) (locs : List Loc) (ls : Array Slot), lw_I dC dI x a1 a2 a3 a4 a5 z1 z2 z3 z4 z5 y b1 b2 b3 b4 b5 b6 b7 t1 t2 t3 t4 t5 t6 t7 (fun q : Nat => s.heap.size ≤ q) s.heap H locs → lv_has ls 4 [(0, .ref b), (1, .ref x), (2, .ref y), (3, .int (nI i))] → W p l e room_1 s m #[Value.ref b] below meth c H locs 14 28028 Q (F0 m 322 ls [])) (H : Heap) (locs : List Loc) (ls : Array Slot) (hJ : lw_I dC dI x a1 a2 a3 a4 a5 z1 z2 z3 z4 z5 y b1 b2 b3 b4 b5 b6 b7 t1 t2 t3 t4 t5 t6 t7 (fun q : Nat => s.heap.size ≤ q) s.heap H locs) (hl : lv_has ls 4 [(0, .ref b), (1, .ref x), (2, .ref y), (3, .int (nI i))]) : W p l e room_1 s m #[Value.ref b] below meth c H locs 14 28028 Q (F0 m 272 ls []) := by
  obtain ⟨hx, hb, hr, hml, hown, hts, hX, hbl, hlocks, hgv⟩ := C0
  have hown : s.vm.findClass RL = some m.cls := hown
  have hts := fun w h => hts w (wsL_law_in w h)
  have hA : ∀ q : Nat, s.heap.size ≤ q → (fun q : Nat => s.heap.size ≤ q) q := fun _ h => h
  have hbA : ¬ (fun q : Nat => s.heap.size ≤ q) b := Nat.not_le.mpr hbl
  obtain ⟨mo, cf, cl, ac, tk, fd, fs, la, st, T, F, G, Lm, S, kn, T2, F2, I, J, U, V, S2, ⟨g, hI, hQ, hM, hQ2⟩, hP, hD, hS⟩ := hJ
  have hK : va_K (dC, dI) vwCl [(z1, .int), (z2, .int), (z3, .int), (z4, .int), (z5, .int), (t1, .int), (t2, .int), (t3, .byte), (t4, .byte), (t5, .byte), (t6, .byte), (t7, .int)] s := hK
  have hP : va_P (dC, dI) vwCl [(x, .inr (0, [.ref a1, .ref a2, .ref a3, .ref a4, .ref a5, .int (nI mo), .int (nI cf), .int (nI cl), .int (nI ac), .int st])), (a1, .inl (z1, 2000, .inl T)), (a2, .inl (z2, 2000, .inl F)), (a3, .inl (z3, 2000, .inl G)), (a4, .inl (z4, 2000, .inl Lm)), (a5, .inl (z5, 2001, .inl S)), (y, .inr (1, [.ref b1, .ref b2, .ref b3, .ref b4, .ref b5, .ref b6, .int (nI mo), .int (nI ac), .ref b7, .int kn])), (b1, .inl (t1, 2000, .inl T2)), (b2, .inl (t2, 2000, .inl F2)), (b3, .inl (t3, 6000, .inl I)), (b4, .inl (t4, 6000, .inl J)), (b5, .inl (t5, 3, .inl U)), (b6, .inl (t6, 3, .inl V)), (b7, .inl (t7, 2001, .inl S2))] H := hP
  have hD : va_D (fun q : Nat => s.heap.size ≤ q) [(x, .inr (0, [.ref a1, .ref a2, .ref a3, .ref a4, .ref a5, .int (nI mo), .int (nI cf), .int (nI cl), .int (nI ac), .int st])), (a1, .inl (z1, 2000, .inl T)), (a2, .inl (z2, 2000, .inl F)), (a3, .inl (z3, 2000, .inl G)), (a4, .inl (z4, 2000, .inl Lm)), (a5, .inl (z5, 2001, .inl S)), (y, .inr (1, [.ref b1, .ref b2, .ref b3, .ref b4, .ref b5, .ref b6, .int (nI mo), .int (nI ac), .ref b7, .int kn])), (b1, .inl (t1, 2000, .inl T2)), (b2, .inl (t2, 2000, .inl F2)), (b3, .inl (t3, 6000, .inl I)), (b4, .inl (t4, 6000, .inl J)), (b5, .inl (t5, 3, .inl U)), (b6, .inl (t6, 3, .inl V)), (b7, .inl (t7, 2001, .inl S2))] := hD
  have hmo : mo ≤ 2000 := g.1
  refine lv_aload_n hx hb dL_law_272 rfl (lv_at hl 1 rfl) ?_
  refine lv_aload_n hx hb dL_law_273 rfl (lv_at hl 0 rfl) ?_
  refine lv_iload_n hx hb dL_law_274 rfl (lv_at hl 3 rfl) ?_
  refine lv_iconst (v := nI 1) hx hb dL_law_275 (by decide) ?_
  refine lv_iadd hx hb dL_law_276 ?_
  refine sr_ti (y := nI (i + 1)) (nI_add _ _) ?_
  refine sr_sld hx hb hX hbl hbA hS (by omega) (by omega) dL_law_277 ?_
  have hPc := hP.sub (ws' := [(x, .inr (0, [.ref a1, .ref a2, .ref a3, .ref a4, .ref a5, .int (nI mo), .int (nI cf), .int (nI cl), .int (nI ac), .int st])), (a1, .inl (z1, 2000, .inl T)), (a2, .inl (z2, 2000, .inl F)), (a3, .inl (z3, 2000, .inl G)), (a4, .inl (z4, 2000, .inl Lm)), (a5, .inl (z5, 2001, .inl S))]) [0, 1, 2, 3, 4, 5] rfl
  have hDc := hD.sub (ws' := [(x, .inr (0, [.ref a1, .ref a2, .ref a3, .ref a4, .ref a5, .int (nI mo), .int (nI cf), .int (nI cl), .int (nI ac), .int st])), (a1, .inl (z1, 2000, .inl T)), (a2, .inl (z2, 2000, .inl F)), (a3, .inl (z3, 2000, .inl G)), (a4, .inl (z4, 2000, .inl Lm)), (a5, .inl (z5, 2001, .inl S))]) [0, 1, 2, 3, 4, 5] (by decide) rfl
  have hKc := hK.sub (tys' := [(z1, .int), (z2, .int), (z3, .int), (z4, .int), (z5, .int)]) [0, 1, 2, 3, 4] rfl
  have hFc := va_free (wc := [(x, .inr (0, [.ref a1, .ref a2, .ref a3, .ref a4, .ref a5, .int (nI mo), .int (nI cf), .int (nI cl), .int (nI ac), .int st])), (a1, .inl (z1, 2000, .inl T)), (a2, .inl (z2, 2000, .inl F)), (a3, .inl (z3, 2000, .inl G)), (a4, .inl (z4, 2000, .inl Lm)), (a5, .inl (z5, 2001, .inl S))]) hD hS hA [0, 1, 2, 3, 4, 5] rfl
  refine va_calli (va_runV (As := [.int (xs (i + 1))]) (rest := []) ⟨hx, hb, hml, hown, hts⟩ (c_X0_speed l dC dI x a1 a2 a3 a4 a5 z1 z2 z3 z4 z5 H.size mo cf cl ac st T F G Lm S (xs (i + 1)) tk fd fs la g hI hQ) (cwV 1 hts gL_law_X0_speed rfl rfl rfl (by decide +kernel) ⟨Nat.le_of_ble_eq_true rfl, Nat.le_of_ble_eq_true rfl⟩) ⟨sr_blind, va_recv hKc hPc (ci := 0) (q0 := 0) rfl rfl, sr_mk hPc hKc hDc⟩ rfl rfl hl.1 rfl (lv_room (Nat.le_of_ble_eq_true rfl)) dL_law_278 ⟨by show _ ≤ 14; omega, by show _ ≤ 28028; omega⟩) hS (fun q _ h => hFc q h) hFc (fun r1 u t H1 locs ht hvm hw hB hz1 hk1 hS => ?_)
  obtain ⟨hP1, hK1, hD1⟩ := hB
  rw [ht] at hP1
  obtain ⟨S5, st5, rfl, hQ5, rfl⟩ := hw
  obtain ⟨hP, hD⟩ := va_join (wr := [(y, .inr (1, [.ref b1, .ref b2, .ref b3, .ref b4, .ref b5, .ref b6, .int (nI mo), .int (nI ac), .ref b7, .int kn])), (b1, .inl (t1, 2000, .inl T2)), (b2, .inl (t2, 2000, .inl F2)), (b3, .inl (t3, 6000, .inl I)), (b4, .inl (t4, 6000, .inl J)), (b5, .inl (t5, 3, .inl U)), (b6, .inl (t6, 3, .inl V)), (b7, .inl (t7, 2001, .inl S2))]) (w1 := [(x, .inr (0, [.ref a1, .ref a2, .ref a3, .ref a4, .ref a5, .int (nI mo), .int (nI cf), .int (nI cl), .int (nI ac), .int st5])), (a1, .inl (z1, 2000, .inl T)), (a2, .inl (z2, 2000, .inl F)), (a3, .inl (z3, 2000, .inl G)), (a4, .inl (z4, 2000, .inl Lm)), (a5, .inl (z5, 2001, .inl S5))]) hP hD [0, 1, 2, 3, 4, 5] [6, 7, 8, 9, 10, 11, 12, 13] rfl rfl (by decide) (by decide) hk1 hFc hP1 hD1
  generalize H1 = H at hP hS ⊢
  have hP : va_P (dC, dI) vwCl [(y, .inr (1, [.ref b1, .ref b2, .ref b3, .ref b4, .ref b5, .ref b6, .int (nI mo), .int (nI ac), .ref b7, .int kn])), (b1, .inl (t1, 2000, .inl T2)), (b2, .inl (t2, 2000, .inl F2)), (b3, .inl (t3, 6000, .inl I)), (b4, .inl (t4, 6000, .inl J)), (b5, .inl (t5, 3, .inl U)), (b6, .inl (t6, 3, .inl V)), (b7, .inl (t7, 2001, .inl S2)), (x, .inr (0, [.ref a1, .ref a2, .ref a3, .ref a4, .ref a5, .int (nI mo), .int (nI cf), .int (nI cl), .int (nI ac), .int st5])), (a1, .inl (z1, 2000, .inl T)), (a2, .inl (z2, 2000, .inl F)), (a3, .inl (z3, 2000, .inl G)), (a4, .inl (z4, 2000, .inl Lm)), (a5, .inl (z5, 2001, .inl S5))] H := hP
  have hD : va_D (fun q : Nat => s.heap.size ≤ q) [(y, .inr (1, [.ref b1, .ref b2, .ref b3, .ref b4, .ref b5, .ref b6, .int (nI mo), .int (nI ac), .ref b7, .int kn])), (b1, .inl (t1, 2000, .inl T2)), (b2, .inl (t2, 2000, .inl F2)), (b3, .inl (t3, 6000, .inl I)), (b4, .inl (t4, 6000, .inl J)), (b5, .inl (t5, 3, .inl U)), (b6, .inl (t6, 3, .inl V)), (b7, .inl (t7, 2001, .inl S2)), (x, .inr (0, [.ref a1, .ref a2, .ref a3, .ref a4, .ref a5, .int (nI mo), .int (nI cf), .int (nI cl), .int (nI ac), .int st5])), (a1, .inl (z1, 2000, .inl T)), (a2, .inl (z2, 2000, .inl F)), (a3, .inl (z3, 2000, .inl G)), (a4, .inl (z4, 2000, .inl Lm)), (a5, .inl (z5, 2001, .inl S5))] := hD
  refine lv_aload_n hx hb dL_law_281 rfl (lv_at hl 2 rfl) ?_
  refine lv_aload_n hx hb dL_law_282 rfl (lv_at hl 0 rfl) ?_
  refine lv_iload_n hx hb dL_law_283 rfl (lv_at hl 3 rfl) ?_
  refine lv_iconst (v := nI 1) hx hb dL_law_284 (by decide) ?_
  refine lv_iadd hx hb dL_law_285 ?_
  refine sr_ti (y := nI (i + 1)) (nI_add _ _) ?_
  refine sr_sld hx hb hX hbl hbA hS (by omega) (by omega) dL_law_286 ?_
  have hPc := hP.sub (ws' := [(y, .inr (1, [.ref b1, .ref b2, .ref b3, .ref b4, .ref b5, .ref b6, .int (nI mo), .int (nI ac), .ref b7, .int kn])), (b1, .inl (t1, 2000, .inl T2)), (b2, .inl (t2, 2000, .inl F2)), (b3, .inl (t3, 6000, .inl I)), (b4, .inl (t4, 6000, .inl J)), (b5, .inl (t5, 3, .inl U)), (b6, .inl (t6, 3, .inl V)), (b7, .inl (t7, 2001, .inl S2))]) [0, 1, 2, 3, 4, 5, 6, 7] rfl
  have hDc := hD.sub (ws' := [(y, .inr (1, [.ref b1, .ref b2, .ref b3, .ref b4, .ref b5, .ref b6, .int (nI mo), .int (nI ac), .ref b7, .int kn])), (b1, .inl (t1, 2000, .inl T2)), (b2, .inl (t2, 2000, .inl F2)), (b3, .inl (t3, 6000, .inl I)), (b4, .inl (t4, 6000, .inl J)), (b5, .inl (t5, 3, .inl U)), (b6, .inl (t6, 3, .inl V)), (b7, .inl (t7, 2001, .inl S2))]) [0, 1, 2, 3, 4, 5, 6, 7] (by decide) rfl
  have hKc := hK.sub (tys' := [(t1, .int), (t2, .int), (t3, .byte), (t4, .byte), (t5, .byte), (t6, .byte), (t7, .int)]) [5, 6, 7, 8, 9, 10, 11] rfl
  have hFc := va_free (wc := [(y, .inr (1, [.ref b1, .ref b2, .ref b3, .ref b4, .ref b5, .ref b6, .int (nI mo), .int (nI ac), .ref b7, .int kn])), (b1, .inl (t1, 2000, .inl T2)), (b2, .inl (t2, 2000, .inl F2)), (b3, .inl (t3, 6000, .inl I)), (b4, .inl (t4, 6000, .inl J)), (b5, .inl (t5, 3, .inl U)), (b6, .inl (t6, 3, .inl V)), (b7, .inl (t7, 2001, .inl S2))]) hD hS hA [0, 1, 2, 3, 4, 5, 6, 7] rfl
  refine va_calli (va_runV (As := [.int (xs (i + 1))]) (rest := [.int (sr_an mo (sr_sp mo ac tk fd fs la) (xs (i + 1)))]) ⟨hx, hb, hml, hown, hts⟩ (c_X1_speed l dC dI y b1 b2 b3 b4 b5 b6 b7 t1 t2 t3 t4 t5 t6 t7 H.size mo ac kn T2 F2 I J U V S2 (xs (i + 1)) cf cl tk fd fs la g hM hQ2) (cwV 1 hts gL_law_X1_speed rfl rfl rfl (by decide +kernel) ⟨Nat.le_of_ble_eq_true rfl, Nat.le_of_ble_eq_true rfl⟩) ⟨sr_blind, va_recv hKc hPc (ci := 1) (q0 := 0) rfl rfl, sr_mk hPc hKc hDc⟩ rfl rfl hl.1 rfl (lv_room (Nat.le_of_ble_eq_true rfl)) dL_law_287 ⟨by show _ ≤ 14; omega, by show _ ≤ 28028; omega⟩) hS (fun q _ h => hFc q h) hFc (fun r2 u t H1 locs ht hvm hw hB hz1 hk1 hS => ?_)
  obtain ⟨hP1, hK1, hD1⟩ := hB
  rw [ht] at hP1
  obtain ⟨S6, rfl, hQ6, rfl⟩ := hw
  obtain ⟨hP, hD⟩ := va_join (wr := [(x, .inr (0, [.ref a1, .ref a2, .ref a3, .ref a4, .ref a5, .int (nI mo), .int (nI cf), .int (nI cl), .int (nI ac), .int st5])), (a1, .inl (z1, 2000, .inl T)), (a2, .inl (z2, 2000, .inl F)), (a3, .inl (z3, 2000, .inl G)), (a4, .inl (z4, 2000, .inl Lm)), (a5, .inl (z5, 2001, .inl S5))]) (w1 := [(y, .inr (1, [.ref b1, .ref b2, .ref b3, .ref b4, .ref b5, .ref b6, .int (nI mo), .int (nI ac), .ref b7, .int 1])), (b1, .inl (t1, 2000, .inl T2)), (b2, .inl (t2, 2000, .inl F2)), (b3, .inl (t3, 6000, .inl I)), (b4, .inl (t4, 6000, .inl J)), (b5, .inl (t5, 3, .inl U)), (b6, .inl (t6, 3, .inl V)), (b7, .inl (t7, 2001, .inl S6))]) hP hD [0, 1, 2, 3, 4, 5, 6, 7] [8, 9, 10, 11, 12, 13] rfl rfl (by decide) (by decide) hk1 hFc hP1 hD1
  generalize H1 = H at hP hS ⊢
  have hP : va_P (dC, dI) vwCl [(x, .inr (0, [.ref a1, .ref a2, .ref a3, .ref a4, .ref a5, .int (nI mo), .int (nI cf), .int (nI cl), .int (nI ac), .int st5])), (a1, .inl (z1, 2000, .inl T)), (a2, .inl (z2, 2000, .inl F)), (a3, .inl (z3, 2000, .inl G)), (a4, .inl (z4, 2000, .inl Lm)), (a5, .inl (z5, 2001, .inl S5)), (y, .inr (1, [.ref b1, .ref b2, .ref b3, .ref b4, .ref b5, .ref b6, .int (nI mo), .int (nI ac), .ref b7, .int 1])), (b1, .inl (t1, 2000, .inl T2)), (b2, .inl (t2, 2000, .inl F2)), (b3, .inl (t3, 6000, .inl I)), (b4, .inl (t4, 6000, .inl J)), (b5, .inl (t5, 3, .inl U)), (b6, .inl (t6, 3, .inl V)), (b7, .inl (t7, 2001, .inl S6))] H := hP
  have hD : va_D (fun q : Nat => s.heap.size ≤ q) [(x, .inr (0, [.ref a1, .ref a2, .ref a3, .ref a4, .ref a5, .int (nI mo), .int (nI cf), .int (nI cl), .int (nI ac), .int st5])), (a1, .inl (z1, 2000, .inl T)), (a2, .inl (z2, 2000, .inl F)), (a3, .inl (z3, 2000, .inl G)), (a4, .inl (z4, 2000, .inl Lm)), (a5, .inl (z5, 2001, .inl S5)), (y, .inr (1, [.ref b1, .ref b2, .ref b3, .ref b4, .ref b5, .ref b6, .int (nI mo), .int (nI ac), .ref b7, .int 1])), (b1, .inl (t1, 2000, .inl T2)), (b2, .inl (t2, 2000, .inl F2)), (b3, .inl (t3, 6000, .inl I)), (b4, .inl (t4, 6000, .inl J)), (b5, .inl (t5, 3, .inl U)), (b6, .inl (t6, 3, .inl V)), (b7, .inl (t7, 2001, .inl S6))] := hD
  refine lv_icmp_eq (tgt := 322) hx hb dL_law_290 (by decide) (fun c1 => ?_) (fun c1 => ?_)
  · exact hk H locs ls ⟨mo, cf, cl, ac, tk, fd, fs, la, st5, T, F, G, Lm, S5, 1, T2, F2, I, J, U, V, S6, ⟨g, hI, hQ5, hM, hQ6⟩, hP, hD, hS⟩ hl
  · exact absurd rfl c1
set_option maxHeartbeats 4000000 in
set_option maxRecDepth 100000 in
/-- case 7: sum -/
theorem lw_c7 {p : Program} {l : Launch} {e : Env} {s : State} {m : MethodId} {below : List Frame} {meth : Method} {c : Code} {Q : State → Prop} {b L : Nat} {xs : Nat → Int32} (hL : L ≤ 2048) (C0 : lw_At p s m meth c b L xs) {dC : Nat → ClassId} {dI : Nat → Nat → Nat} {x a1 a2 a3 a4 a5 : Nat} {z1 z2 z3 z4 z5 : ClassId} {y b1 b2 b3 b4 b5 b6 b7 : Nat} {t1 t2 t3 t4 t5 t6 t7 : ClassId} (hK : va_K (dC, dI) vwCl (sr_tX z1 z2 z3 z4 z5 ++ sr_tM t1 t2 t3 t4 t5 t6 t7) s) {i : Nat} (hi : i + 4 ≤ L)
    (hk : ∀ (H : Heap) (locs : List Loc) (ls : Array Slot), lw_I dC dI x a1 a2 a3 a4 a5 z1 z2 z3 z4 z5 y b1 b2 b3 b4 b5 b6 b7 t1 t2 t3 t4 t5 t6 t7 (fun q : Nat => s.heap.size ≤ q) s.heap H locs → lv_has ls 4 [(0, .ref b), (1, .ref x), (2, .ref y), (3, .int (nI i))] → W p l e room_1 s m #[Value.ref b] below meth c H locs 14 28028 Q (F0 m 322 ls [])) (H : Heap) (locs : List Loc) (ls : Array Slot) (hJ : lw_I dC dI x a1 a2 a3 a4 a5 z1 z2 z3 z4 z5 y b1 b2 b3 b4 b5 b6 b7 t1 t2 t3 t4 t5 t6 t7 (fun q : Nat => s.heap.size ≤ q) s.heap H locs) (hl : lv_has ls 4 [(0, .ref b), (1, .ref x), (2, .ref y), (3, .int (nI i))]) : W p l e room_1 s m #[Value.ref b] below meth c H locs 14 28028 Q (F0 m 295 ls []) := by
  obtain ⟨hx, hb, hr, hml, hown, hts, hX, hbl, hlocks, hgv⟩ := C0
  have hown : s.vm.findClass RL = some m.cls := hown
  have hts := fun w h => hts w (wsL_law_in w h)
  have hA : ∀ q : Nat, s.heap.size ≤ q → (fun q : Nat => s.heap.size ≤ q) q := fun _ h => h
  have hbA : ¬ (fun q : Nat => s.heap.size ≤ q) b := Nat.not_le.mpr hbl
  obtain ⟨mo, cf, cl, ac, tk, fd, fs, la, st, T, F, G, Lm, S, kn, T2, F2, I, J, U, V, S2, ⟨g, hI, hQ, hM, hQ2⟩, hP, hD, hS⟩ := hJ
  have hK : va_K (dC, dI) vwCl [(z1, .int), (z2, .int), (z3, .int), (z4, .int), (z5, .int), (t1, .int), (t2, .int), (t3, .byte), (t4, .byte), (t5, .byte), (t6, .byte), (t7, .int)] s := hK
  have hP : va_P (dC, dI) vwCl [(x, .inr (0, [.ref a1, .ref a2, .ref a3, .ref a4, .ref a5, .int (nI mo), .int (nI cf), .int (nI cl), .int (nI ac), .int st])), (a1, .inl (z1, 2000, .inl T)), (a2, .inl (z2, 2000, .inl F)), (a3, .inl (z3, 2000, .inl G)), (a4, .inl (z4, 2000, .inl Lm)), (a5, .inl (z5, 2001, .inl S)), (y, .inr (1, [.ref b1, .ref b2, .ref b3, .ref b4, .ref b5, .ref b6, .int (nI mo), .int (nI ac), .ref b7, .int kn])), (b1, .inl (t1, 2000, .inl T2)), (b2, .inl (t2, 2000, .inl F2)), (b3, .inl (t3, 6000, .inl I)), (b4, .inl (t4, 6000, .inl J)), (b5, .inl (t5, 3, .inl U)), (b6, .inl (t6, 3, .inl V)), (b7, .inl (t7, 2001, .inl S2))] H := hP
  have hD : va_D (fun q : Nat => s.heap.size ≤ q) [(x, .inr (0, [.ref a1, .ref a2, .ref a3, .ref a4, .ref a5, .int (nI mo), .int (nI cf), .int (nI cl), .int (nI ac), .int st])), (a1, .inl (z1, 2000, .inl T)), (a2, .inl (z2, 2000, .inl F)), (a3, .inl (z3, 2000, .inl G)), (a4, .inl (z4, 2000, .inl Lm)), (a5, .inl (z5, 2001, .inl S)), (y, .inr (1, [.ref b1, .ref b2, .ref b3, .ref b4, .ref b5, .ref b6, .int (nI mo), .int (nI ac), .ref b7, .int kn])), (b1, .inl (t1, 2000, .inl T2)), (b2, .inl (t2, 2000, .inl F2)), (b3, .inl (t3, 6000, .inl I)), (b4, .inl (t4, 6000, .inl J)), (b5, .inl (t5, 3, .inl U)), (b6, .inl (t6, 3, .inl V)), (b7, .inl (t7, 2001, .inl S2))] := hD
  have hmo : mo ≤ 2000 := g.1
  refine lv_aload_n hx hb dL_law_295 rfl (lv_at hl 1 rfl) ?_
  have hPc := hP.sub (ws' := [(x, .inr (0, [.ref a1, .ref a2, .ref a3, .ref a4, .ref a5, .int (nI mo), .int (nI cf), .int (nI cl), .int (nI ac), .int st])), (a1, .inl (z1, 2000, .inl T)), (a2, .inl (z2, 2000, .inl F)), (a3, .inl (z3, 2000, .inl G)), (a4, .inl (z4, 2000, .inl Lm)), (a5, .inl (z5, 2001, .inl S))]) [0, 1, 2, 3, 4, 5] rfl
  have hDc := hD.sub (ws' := [(x, .inr (0, [.ref a1, .ref a2, .ref a3, .ref a4, .ref a5, .int (nI mo), .int (nI cf), .int (nI cl), .int (nI ac), .int st])), (a1, .inl (z1, 2000, .inl T)), (a2, .inl (z2, 2000, .inl F)), (a3, .inl (z3, 2000, .inl G)), (a4, .inl (z4, 2000, .inl Lm)), (a5, .inl (z5, 2001, .inl S))]) [0, 1, 2, 3, 4, 5] (by decide) rfl
  have hKc := hK.sub (tys' := [(z1, .int), (z2, .int), (z3, .int), (z4, .int), (z5, .int)]) [0, 1, 2, 3, 4] rfl
  have hFc := va_free (wc := [(x, .inr (0, [.ref a1, .ref a2, .ref a3, .ref a4, .ref a5, .int (nI mo), .int (nI cf), .int (nI cl), .int (nI ac), .int st])), (a1, .inl (z1, 2000, .inl T)), (a2, .inl (z2, 2000, .inl F)), (a3, .inl (z3, 2000, .inl G)), (a4, .inl (z4, 2000, .inl Lm)), (a5, .inl (z5, 2001, .inl S))]) hD hS hA [0, 1, 2, 3, 4, 5] rfl
  refine va_calll (va_runV (As := []) (rest := []) ⟨hx, hb, hml, hown, hts⟩ (c_X0_sum l dC dI x a1 a2 a3 a4 a5 z1 z2 z3 z4 z5 H.size mo cf cl ac st T F G Lm S  tk fd fs la g hI hQ) (cwV 0 hts gL_law_X0_sum rfl rfl rfl (by decide +kernel) ⟨Nat.le_of_ble_eq_true rfl, Nat.le_of_ble_eq_true rfl⟩) ⟨sr_blind, va_recv hKc hPc (ci := 0) (q0 := 0) rfl rfl, sr_mk hPc hKc hDc⟩ rfl rfl hl.1 rfl (lv_room (Nat.le_of_ble_eq_true rfl)) dL_law_296 ⟨by show _ ≤ 14; omega, by show _ ≤ 28028; omega⟩) hS (fun q _ h => hFc q h) hFc (fun r1 u t H1 locs ht hvm hw hB hz1 hk1 hS => ?_)
  obtain ⟨hP1, hK1, hD1⟩ := hB
  rw [ht] at hP1
  obtain ⟨S5, rfl, hQ5, rfl⟩ := hw
  obtain ⟨hP, hD⟩ := va_join (wr := [(y, .inr (1, [.ref b1, .ref b2, .ref b3, .ref b4, .ref b5, .ref b6, .int (nI mo), .int (nI ac), .ref b7, .int kn])), (b1, .inl (t1, 2000, .inl T2)), (b2, .inl (t2, 2000, .inl F2)), (b3, .inl (t3, 6000, .inl I)), (b4, .inl (t4, 6000, .inl J)), (b5, .inl (t5, 3, .inl U)), (b6, .inl (t6, 3, .inl V)), (b7, .inl (t7, 2001, .inl S2))]) (w1 := [(x, .inr (0, [.ref a1, .ref a2, .ref a3, .ref a4, .ref a5, .int (nI mo), .int (nI cf), .int (nI cl), .int (nI ac), .int 1])), (a1, .inl (z1, 2000, .inl T)), (a2, .inl (z2, 2000, .inl F)), (a3, .inl (z3, 2000, .inl G)), (a4, .inl (z4, 2000, .inl Lm)), (a5, .inl (z5, 2001, .inl S5))]) hP hD [0, 1, 2, 3, 4, 5] [6, 7, 8, 9, 10, 11, 12, 13] rfl rfl (by decide) (by decide) hk1 hFc hP1 hD1
  generalize H1 = H at hP hS ⊢
  have hP : va_P (dC, dI) vwCl [(y, .inr (1, [.ref b1, .ref b2, .ref b3, .ref b4, .ref b5, .ref b6, .int (nI mo), .int (nI ac), .ref b7, .int kn])), (b1, .inl (t1, 2000, .inl T2)), (b2, .inl (t2, 2000, .inl F2)), (b3, .inl (t3, 6000, .inl I)), (b4, .inl (t4, 6000, .inl J)), (b5, .inl (t5, 3, .inl U)), (b6, .inl (t6, 3, .inl V)), (b7, .inl (t7, 2001, .inl S2)), (x, .inr (0, [.ref a1, .ref a2, .ref a3, .ref a4, .ref a5, .int (nI mo), .int (nI cf), .int (nI cl), .int (nI ac), .int 1])), (a1, .inl (z1, 2000, .inl T)), (a2, .inl (z2, 2000, .inl F)), (a3, .inl (z3, 2000, .inl G)), (a4, .inl (z4, 2000, .inl Lm)), (a5, .inl (z5, 2001, .inl S5))] H := hP
  have hD : va_D (fun q : Nat => s.heap.size ≤ q) [(y, .inr (1, [.ref b1, .ref b2, .ref b3, .ref b4, .ref b5, .ref b6, .int (nI mo), .int (nI ac), .ref b7, .int kn])), (b1, .inl (t1, 2000, .inl T2)), (b2, .inl (t2, 2000, .inl F2)), (b3, .inl (t3, 6000, .inl I)), (b4, .inl (t4, 6000, .inl J)), (b5, .inl (t5, 3, .inl U)), (b6, .inl (t6, 3, .inl V)), (b7, .inl (t7, 2001, .inl S2)), (x, .inr (0, [.ref a1, .ref a2, .ref a3, .ref a4, .ref a5, .int (nI mo), .int (nI cf), .int (nI cl), .int (nI ac), .int 1])), (a1, .inl (z1, 2000, .inl T)), (a2, .inl (z2, 2000, .inl F)), (a3, .inl (z3, 2000, .inl G)), (a4, .inl (z4, 2000, .inl Lm)), (a5, .inl (z5, 2001, .inl S5))] := hD
  refine lv_aload_n hx hb dL_law_299 rfl (lv_at hl 2 rfl) ?_
  have hPc := hP.sub (ws' := [(y, .inr (1, [.ref b1, .ref b2, .ref b3, .ref b4, .ref b5, .ref b6, .int (nI mo), .int (nI ac), .ref b7, .int kn])), (b1, .inl (t1, 2000, .inl T2)), (b2, .inl (t2, 2000, .inl F2)), (b3, .inl (t3, 6000, .inl I)), (b4, .inl (t4, 6000, .inl J)), (b5, .inl (t5, 3, .inl U)), (b6, .inl (t6, 3, .inl V)), (b7, .inl (t7, 2001, .inl S2))]) [0, 1, 2, 3, 4, 5, 6, 7] rfl
  have hDc := hD.sub (ws' := [(y, .inr (1, [.ref b1, .ref b2, .ref b3, .ref b4, .ref b5, .ref b6, .int (nI mo), .int (nI ac), .ref b7, .int kn])), (b1, .inl (t1, 2000, .inl T2)), (b2, .inl (t2, 2000, .inl F2)), (b3, .inl (t3, 6000, .inl I)), (b4, .inl (t4, 6000, .inl J)), (b5, .inl (t5, 3, .inl U)), (b6, .inl (t6, 3, .inl V)), (b7, .inl (t7, 2001, .inl S2))]) [0, 1, 2, 3, 4, 5, 6, 7] (by decide) rfl
  have hKc := hK.sub (tys' := [(t1, .int), (t2, .int), (t3, .byte), (t4, .byte), (t5, .byte), (t6, .byte), (t7, .int)]) [5, 6, 7, 8, 9, 10, 11] rfl
  have hFc := va_free (wc := [(y, .inr (1, [.ref b1, .ref b2, .ref b3, .ref b4, .ref b5, .ref b6, .int (nI mo), .int (nI ac), .ref b7, .int kn])), (b1, .inl (t1, 2000, .inl T2)), (b2, .inl (t2, 2000, .inl F2)), (b3, .inl (t3, 6000, .inl I)), (b4, .inl (t4, 6000, .inl J)), (b5, .inl (t5, 3, .inl U)), (b6, .inl (t6, 3, .inl V)), (b7, .inl (t7, 2001, .inl S2))]) hD hS hA [0, 1, 2, 3, 4, 5, 6, 7] rfl
  refine va_calll (va_runV (As := []) (rest := [.long (lN (sr_sum (sr_sp mo ac tk fd fs la) (mo + 1)))]) ⟨hx, hb, hml, hown, hts⟩ (c_X1_sum l dC dI y b1 b2 b3 b4 b5 b6 b7 t1 t2 t3 t4 t5 t6 t7 H.size mo ac kn T2 F2 I J U V S2  cf cl tk fd fs la g hM hQ2) (cwV 0 hts gL_law_X1_sum rfl rfl rfl (by decide +kernel) ⟨Nat.le_of_ble_eq_true rfl, Nat.le_of_ble_eq_true rfl⟩) ⟨sr_blind, va_recv hKc hPc (ci := 1) (q0 := 0) rfl rfl, sr_mk hPc hKc hDc⟩ rfl rfl hl.1 rfl (lv_room (Nat.le_of_ble_eq_true rfl)) dL_law_300 ⟨by show _ ≤ 14; omega, by show _ ≤ 28028; omega⟩) hS (fun q _ h => hFc q h) hFc (fun r2 u t H1 locs ht hvm hw hB hz1 hk1 hS => ?_)
  obtain ⟨hP1, hK1, hD1⟩ := hB
  rw [ht] at hP1
  obtain ⟨S6, rfl, hQ6, rfl⟩ := hw
  obtain ⟨hP, hD⟩ := va_join (wr := [(x, .inr (0, [.ref a1, .ref a2, .ref a3, .ref a4, .ref a5, .int (nI mo), .int (nI cf), .int (nI cl), .int (nI ac), .int 1])), (a1, .inl (z1, 2000, .inl T)), (a2, .inl (z2, 2000, .inl F)), (a3, .inl (z3, 2000, .inl G)), (a4, .inl (z4, 2000, .inl Lm)), (a5, .inl (z5, 2001, .inl S5))]) (w1 := [(y, .inr (1, [.ref b1, .ref b2, .ref b3, .ref b4, .ref b5, .ref b6, .int (nI mo), .int (nI ac), .ref b7, .int 1])), (b1, .inl (t1, 2000, .inl T2)), (b2, .inl (t2, 2000, .inl F2)), (b3, .inl (t3, 6000, .inl I)), (b4, .inl (t4, 6000, .inl J)), (b5, .inl (t5, 3, .inl U)), (b6, .inl (t6, 3, .inl V)), (b7, .inl (t7, 2001, .inl S6))]) hP hD [0, 1, 2, 3, 4, 5, 6, 7] [8, 9, 10, 11, 12, 13] rfl rfl (by decide) (by decide) hk1 hFc hP1 hD1
  generalize H1 = H at hP hS ⊢
  have hP : va_P (dC, dI) vwCl [(x, .inr (0, [.ref a1, .ref a2, .ref a3, .ref a4, .ref a5, .int (nI mo), .int (nI cf), .int (nI cl), .int (nI ac), .int 1])), (a1, .inl (z1, 2000, .inl T)), (a2, .inl (z2, 2000, .inl F)), (a3, .inl (z3, 2000, .inl G)), (a4, .inl (z4, 2000, .inl Lm)), (a5, .inl (z5, 2001, .inl S5)), (y, .inr (1, [.ref b1, .ref b2, .ref b3, .ref b4, .ref b5, .ref b6, .int (nI mo), .int (nI ac), .ref b7, .int 1])), (b1, .inl (t1, 2000, .inl T2)), (b2, .inl (t2, 2000, .inl F2)), (b3, .inl (t3, 6000, .inl I)), (b4, .inl (t4, 6000, .inl J)), (b5, .inl (t5, 3, .inl U)), (b6, .inl (t6, 3, .inl V)), (b7, .inl (t7, 2001, .inl S6))] H := hP
  have hD : va_D (fun q : Nat => s.heap.size ≤ q) [(x, .inr (0, [.ref a1, .ref a2, .ref a3, .ref a4, .ref a5, .int (nI mo), .int (nI cf), .int (nI cl), .int (nI ac), .int 1])), (a1, .inl (z1, 2000, .inl T)), (a2, .inl (z2, 2000, .inl F)), (a3, .inl (z3, 2000, .inl G)), (a4, .inl (z4, 2000, .inl Lm)), (a5, .inl (z5, 2001, .inl S5)), (y, .inr (1, [.ref b1, .ref b2, .ref b3, .ref b4, .ref b5, .ref b6, .int (nI mo), .int (nI ac), .ref b7, .int 1])), (b1, .inl (t1, 2000, .inl T2)), (b2, .inl (t2, 2000, .inl F2)), (b3, .inl (t3, 6000, .inl I)), (b4, .inl (t4, 6000, .inl J)), (b5, .inl (t5, 3, .inl U)), (b6, .inl (t6, 3, .inl V)), (b7, .inl (t7, 2001, .inl S6))] := hD
  refine W.lcmp hx hb dL_law_303 ?_
  refine lv_if_eq (tgt := 322) hx hb dL_law_304 (by decide) (fun c1 => ?_) (fun c1 => ?_)
  · exact hk H locs ls ⟨mo, cf, cl, ac, tk, fd, fs, la, 1, T, F, G, Lm, S5, 1, T2, F2, I, J, U, V, S6, ⟨g, hI, hQ5, hM, hQ6⟩, hP, hD, hS⟩ hl
  · exact absurd ((lg_cmp_eq _ _).mpr rfl) c1
set_option maxHeartbeats 4000000 in
set_option maxRecDepth 100000 in
/-- case 8: below -/
theorem lw_c8 {p : Program} {l : Launch} {e : Env} {s : State} {m : MethodId} {below : List Frame} {meth : Method} {c : Code} {Q : State → Prop} {b L : Nat} {xs : Nat → Int32} (hL : L ≤ 2048) (C0 : lw_At p s m meth c b L xs) {dC : Nat → ClassId} {dI : Nat → Nat → Nat} {x a1 a2 a3 a4 a5 : Nat} {z1 z2 z3 z4 z5 : ClassId} {y b1 b2 b3 b4 b5 b6 b7 : Nat} {t1 t2 t3 t4 t5 t6 t7 : ClassId} (hK : va_K (dC, dI) vwCl (sr_tX z1 z2 z3 z4 z5 ++ sr_tM t1 t2 t3 t4 t5 t6 t7) s) {i : Nat} (hi : i + 4 ≤ L)
    (hk : ∀ (H : Heap) (locs : List Loc) (ls : Array Slot), lw_I dC dI x a1 a2 a3 a4 a5 z1 z2 z3 z4 z5 y b1 b2 b3 b4 b5 b6 b7 t1 t2 t3 t4 t5 t6 t7 (fun q : Nat => s.heap.size ≤ q) s.heap H locs → lv_has ls 4 [(0, .ref b), (1, .ref x), (2, .ref y), (3, .int (nI i))] → W p l e room_1 s m #[Value.ref b] below meth c H locs 14 28028 Q (F0 m 322 ls [])) (H : Heap) (locs : List Loc) (ls : Array Slot) (hJ : lw_I dC dI x a1 a2 a3 a4 a5 z1 z2 z3 z4 z5 y b1 b2 b3 b4 b5 b6 b7 t1 t2 t3 t4 t5 t6 t7 (fun q : Nat => s.heap.size ≤ q) s.heap H locs) (hl : lv_has ls 4 [(0, .ref b), (1, .ref x), (2, .ref y), (3, .int (nI i))]) : W p l e room_1 s m #[Value.ref b] below meth c H locs 14 28028 Q (F0 m 309 ls []) := by
  obtain ⟨hx, hb, hr, hml, hown, hts, hX, hbl, hlocks, hgv⟩ := C0
  have hown : s.vm.findClass RL = some m.cls := hown
  have hts := fun w h => hts w (wsL_law_in w h)
  have hA : ∀ q : Nat, s.heap.size ≤ q → (fun q : Nat => s.heap.size ≤ q) q := fun _ h => h
  have hbA : ¬ (fun q : Nat => s.heap.size ≤ q) b := Nat.not_le.mpr hbl
  obtain ⟨mo, cf, cl, ac, tk, fd, fs, la, st, T, F, G, Lm, S, kn, T2, F2, I, J, U, V, S2, ⟨g, hI, hQ, hM, hQ2⟩, hP, hD, hS⟩ := hJ
  have hK : va_K (dC, dI) vwCl [(z1, .int), (z2, .int), (z3, .int), (z4, .int), (z5, .int), (t1, .int), (t2, .int), (t3, .byte), (t4, .byte), (t5, .byte), (t6, .byte), (t7, .int)] s := hK
  have hP : va_P (dC, dI) vwCl [(x, .inr (0, [.ref a1, .ref a2, .ref a3, .ref a4, .ref a5, .int (nI mo), .int (nI cf), .int (nI cl), .int (nI ac), .int st])), (a1, .inl (z1, 2000, .inl T)), (a2, .inl (z2, 2000, .inl F)), (a3, .inl (z3, 2000, .inl G)), (a4, .inl (z4, 2000, .inl Lm)), (a5, .inl (z5, 2001, .inl S)), (y, .inr (1, [.ref b1, .ref b2, .ref b3, .ref b4, .ref b5, .ref b6, .int (nI mo), .int (nI ac), .ref b7, .int kn])), (b1, .inl (t1, 2000, .inl T2)), (b2, .inl (t2, 2000, .inl F2)), (b3, .inl (t3, 6000, .inl I)), (b4, .inl (t4, 6000, .inl J)), (b5, .inl (t5, 3, .inl U)), (b6, .inl (t6, 3, .inl V)), (b7, .inl (t7, 2001, .inl S2))] H := hP
  have hD : va_D (fun q : Nat => s.heap.size ≤ q) [(x, .inr (0, [.ref a1, .ref a2, .ref a3, .ref a4, .ref a5, .int (nI mo), .int (nI cf), .int (nI cl), .int (nI ac), .int st])), (a1, .inl (z1, 2000, .inl T)), (a2, .inl (z2, 2000, .inl F)), (a3, .inl (z3, 2000, .inl G)), (a4, .inl (z4, 2000, .inl Lm)), (a5, .inl (z5, 2001, .inl S)), (y, .inr (1, [.ref b1, .ref b2, .ref b3, .ref b4, .ref b5, .ref b6, .int (nI mo), .int (nI ac), .ref b7, .int kn])), (b1, .inl (t1, 2000, .inl T2)), (b2, .inl (t2, 2000, .inl F2)), (b3, .inl (t3, 6000, .inl I)), (b4, .inl (t4, 6000, .inl J)), (b5, .inl (t5, 3, .inl U)), (b6, .inl (t6, 3, .inl V)), (b7, .inl (t7, 2001, .inl S2))] := hD
  have hmo : mo ≤ 2000 := g.1
  refine lv_aload_n hx hb dL_law_309 rfl (lv_at hl 1 rfl) ?_
  have hPc := hP.sub (ws' := [(x, .inr (0, [.ref a1, .ref a2, .ref a3, .ref a4, .ref a5, .int (nI mo), .int (nI cf), .int (nI cl), .int (nI ac), .int st])), (a1, .inl (z1, 2000, .inl T)), (a2, .inl (z2, 2000, .inl F)), (a3, .inl (z3, 2000, .inl G)), (a4, .inl (z4, 2000, .inl Lm)), (a5, .inl (z5, 2001, .inl S))]) [0, 1, 2, 3, 4, 5] rfl
  have hDc := hD.sub (ws' := [(x, .inr (0, [.ref a1, .ref a2, .ref a3, .ref a4, .ref a5, .int (nI mo), .int (nI cf), .int (nI cl), .int (nI ac), .int st])), (a1, .inl (z1, 2000, .inl T)), (a2, .inl (z2, 2000, .inl F)), (a3, .inl (z3, 2000, .inl G)), (a4, .inl (z4, 2000, .inl Lm)), (a5, .inl (z5, 2001, .inl S))]) [0, 1, 2, 3, 4, 5] (by decide) rfl
  have hKc := hK.sub (tys' := [(z1, .int), (z2, .int), (z3, .int), (z4, .int), (z5, .int)]) [0, 1, 2, 3, 4] rfl
  have hFc := va_free (wc := [(x, .inr (0, [.ref a1, .ref a2, .ref a3, .ref a4, .ref a5, .int (nI mo), .int (nI cf), .int (nI cl), .int (nI ac), .int st])), (a1, .inl (z1, 2000, .inl T)), (a2, .inl (z2, 2000, .inl F)), (a3, .inl (z3, 2000, .inl G)), (a4, .inl (z4, 2000, .inl Lm)), (a5, .inl (z5, 2001, .inl S))]) hD hS hA [0, 1, 2, 3, 4, 5] rfl
  refine va_calli (va_runV (As := []) (rest := []) ⟨hx, hb, hml, hown, hts⟩ (c_X0_below l dC dI x a1 a2 a3 a4 a5 z1 z2 z3 z4 z5 H.size mo cf cl ac st T F G Lm S  tk fd fs la g hI hQ) (cwV 0 hts gL_law_X0_below rfl rfl rfl (by decide +kernel) ⟨Nat.le_of_ble_eq_true rfl, Nat.le_of_ble_eq_true rfl⟩) ⟨sr_blind, va_recv hKc hPc (ci := 0) (q0 := 0) rfl rfl, sr_mk hPc hKc hDc⟩ rfl rfl hl.1 rfl (lv_room (Nat.le_of_ble_eq_true rfl)) dL_law_310 ⟨by show _ ≤ 14; omega, by show _ ≤ 28028; omega⟩) hS (fun q _ h => hFc q h) hFc (fun r1 u t H1 locs ht hvm hw hB hz1 hk1 hS => ?_)
  obtain ⟨hP1, hK1, hD1⟩ := hB
  rw [ht] at hP1
  obtain ⟨S5, rfl, hQ5, rfl⟩ := hw
  obtain ⟨hP, hD⟩ := va_join (wr := [(y, .inr (1, [.ref b1, .ref b2, .ref b3, .ref b4, .ref b5, .ref b6, .int (nI mo), .int (nI ac), .ref b7, .int kn])), (b1, .inl (t1, 2000, .inl T2)), (b2, .inl (t2, 2000, .inl F2)), (b3, .inl (t3, 6000, .inl I)), (b4, .inl (t4, 6000, .inl J)), (b5, .inl (t5, 3, .inl U)), (b6, .inl (t6, 3, .inl V)), (b7, .inl (t7, 2001, .inl S2))]) (w1 := [(x, .inr (0, [.ref a1, .ref a2, .ref a3, .ref a4, .ref a5, .int (nI mo), .int (nI cf), .int (nI cl), .int (nI ac), .int 1])), (a1, .inl (z1, 2000, .inl T)), (a2, .inl (z2, 2000, .inl F)), (a3, .inl (z3, 2000, .inl G)), (a4, .inl (z4, 2000, .inl Lm)), (a5, .inl (z5, 2001, .inl S5))]) hP hD [0, 1, 2, 3, 4, 5] [6, 7, 8, 9, 10, 11, 12, 13] rfl rfl (by decide) (by decide) hk1 hFc hP1 hD1
  generalize H1 = H at hP hS ⊢
  have hP : va_P (dC, dI) vwCl [(y, .inr (1, [.ref b1, .ref b2, .ref b3, .ref b4, .ref b5, .ref b6, .int (nI mo), .int (nI ac), .ref b7, .int kn])), (b1, .inl (t1, 2000, .inl T2)), (b2, .inl (t2, 2000, .inl F2)), (b3, .inl (t3, 6000, .inl I)), (b4, .inl (t4, 6000, .inl J)), (b5, .inl (t5, 3, .inl U)), (b6, .inl (t6, 3, .inl V)), (b7, .inl (t7, 2001, .inl S2)), (x, .inr (0, [.ref a1, .ref a2, .ref a3, .ref a4, .ref a5, .int (nI mo), .int (nI cf), .int (nI cl), .int (nI ac), .int 1])), (a1, .inl (z1, 2000, .inl T)), (a2, .inl (z2, 2000, .inl F)), (a3, .inl (z3, 2000, .inl G)), (a4, .inl (z4, 2000, .inl Lm)), (a5, .inl (z5, 2001, .inl S5))] H := hP
  have hD : va_D (fun q : Nat => s.heap.size ≤ q) [(y, .inr (1, [.ref b1, .ref b2, .ref b3, .ref b4, .ref b5, .ref b6, .int (nI mo), .int (nI ac), .ref b7, .int kn])), (b1, .inl (t1, 2000, .inl T2)), (b2, .inl (t2, 2000, .inl F2)), (b3, .inl (t3, 6000, .inl I)), (b4, .inl (t4, 6000, .inl J)), (b5, .inl (t5, 3, .inl U)), (b6, .inl (t6, 3, .inl V)), (b7, .inl (t7, 2001, .inl S2)), (x, .inr (0, [.ref a1, .ref a2, .ref a3, .ref a4, .ref a5, .int (nI mo), .int (nI cf), .int (nI cl), .int (nI ac), .int 1])), (a1, .inl (z1, 2000, .inl T)), (a2, .inl (z2, 2000, .inl F)), (a3, .inl (z3, 2000, .inl G)), (a4, .inl (z4, 2000, .inl Lm)), (a5, .inl (z5, 2001, .inl S5))] := hD
  refine lv_aload_n hx hb dL_law_313 rfl (lv_at hl 2 rfl) ?_
  have hPc := hP.sub (ws' := [(y, .inr (1, [.ref b1, .ref b2, .ref b3, .ref b4, .ref b5, .ref b6, .int (nI mo), .int (nI ac), .ref b7, .int kn])), (b1, .inl (t1, 2000, .inl T2)), (b2, .inl (t2, 2000, .inl F2)), (b3, .inl (t3, 6000, .inl I)), (b4, .inl (t4, 6000, .inl J)), (b5, .inl (t5, 3, .inl U)), (b6, .inl (t6, 3, .inl V)), (b7, .inl (t7, 2001, .inl S2))]) [0, 1, 2, 3, 4, 5, 6, 7] rfl
  have hDc := hD.sub (ws' := [(y, .inr (1, [.ref b1, .ref b2, .ref b3, .ref b4, .ref b5, .ref b6, .int (nI mo), .int (nI ac), .ref b7, .int kn])), (b1, .inl (t1, 2000, .inl T2)), (b2, .inl (t2, 2000, .inl F2)), (b3, .inl (t3, 6000, .inl I)), (b4, .inl (t4, 6000, .inl J)), (b5, .inl (t5, 3, .inl U)), (b6, .inl (t6, 3, .inl V)), (b7, .inl (t7, 2001, .inl S2))]) [0, 1, 2, 3, 4, 5, 6, 7] (by decide) rfl
  have hKc := hK.sub (tys' := [(t1, .int), (t2, .int), (t3, .byte), (t4, .byte), (t5, .byte), (t6, .byte), (t7, .int)]) [5, 6, 7, 8, 9, 10, 11] rfl
  have hFc := va_free (wc := [(y, .inr (1, [.ref b1, .ref b2, .ref b3, .ref b4, .ref b5, .ref b6, .int (nI mo), .int (nI ac), .ref b7, .int kn])), (b1, .inl (t1, 2000, .inl T2)), (b2, .inl (t2, 2000, .inl F2)), (b3, .inl (t3, 6000, .inl I)), (b4, .inl (t4, 6000, .inl J)), (b5, .inl (t5, 3, .inl U)), (b6, .inl (t6, 3, .inl V)), (b7, .inl (t7, 2001, .inl S2))]) hD hS hA [0, 1, 2, 3, 4, 5, 6, 7] rfl
  refine va_calli (va_runV (As := []) (rest := [.int (nI (sr_cnt (sr_sp mo ac tk fd fs la) (sr_lim mo fd fs la) (mo + 1)))]) ⟨hx, hb, hml, hown, hts⟩ (c_X1_below l dC dI y b1 b2 b3 b4 b5 b6 b7 t1 t2 t3 t4 t5 t6 t7 H.size mo ac kn T2 F2 I J U V S2  cf cl tk fd fs la g hM hQ2) (cwV 0 hts gL_law_X1_below rfl rfl rfl (by decide +kernel) ⟨Nat.le_of_ble_eq_true rfl, Nat.le_of_ble_eq_true rfl⟩) ⟨sr_blind, va_recv hKc hPc (ci := 1) (q0 := 0) rfl rfl, sr_mk hPc hKc hDc⟩ rfl rfl hl.1 rfl (lv_room (Nat.le_of_ble_eq_true rfl)) dL_law_314 ⟨by show _ ≤ 14; omega, by show _ ≤ 28028; omega⟩) hS (fun q _ h => hFc q h) hFc (fun r2 u t H1 locs ht hvm hw hB hz1 hk1 hS => ?_)
  obtain ⟨hP1, hK1, hD1⟩ := hB
  rw [ht] at hP1
  obtain ⟨S6, rfl, hQ6, rfl⟩ := hw
  obtain ⟨hP, hD⟩ := va_join (wr := [(x, .inr (0, [.ref a1, .ref a2, .ref a3, .ref a4, .ref a5, .int (nI mo), .int (nI cf), .int (nI cl), .int (nI ac), .int 1])), (a1, .inl (z1, 2000, .inl T)), (a2, .inl (z2, 2000, .inl F)), (a3, .inl (z3, 2000, .inl G)), (a4, .inl (z4, 2000, .inl Lm)), (a5, .inl (z5, 2001, .inl S5))]) (w1 := [(y, .inr (1, [.ref b1, .ref b2, .ref b3, .ref b4, .ref b5, .ref b6, .int (nI mo), .int (nI ac), .ref b7, .int 1])), (b1, .inl (t1, 2000, .inl T2)), (b2, .inl (t2, 2000, .inl F2)), (b3, .inl (t3, 6000, .inl I)), (b4, .inl (t4, 6000, .inl J)), (b5, .inl (t5, 3, .inl U)), (b6, .inl (t6, 3, .inl V)), (b7, .inl (t7, 2001, .inl S6))]) hP hD [0, 1, 2, 3, 4, 5, 6, 7] [8, 9, 10, 11, 12, 13] rfl rfl (by decide) (by decide) hk1 hFc hP1 hD1
  generalize H1 = H at hP hS ⊢
  have hP : va_P (dC, dI) vwCl [(x, .inr (0, [.ref a1, .ref a2, .ref a3, .ref a4, .ref a5, .int (nI mo), .int (nI cf), .int (nI cl), .int (nI ac), .int 1])), (a1, .inl (z1, 2000, .inl T)), (a2, .inl (z2, 2000, .inl F)), (a3, .inl (z3, 2000, .inl G)), (a4, .inl (z4, 2000, .inl Lm)), (a5, .inl (z5, 2001, .inl S5)), (y, .inr (1, [.ref b1, .ref b2, .ref b3, .ref b4, .ref b5, .ref b6, .int (nI mo), .int (nI ac), .ref b7, .int 1])), (b1, .inl (t1, 2000, .inl T2)), (b2, .inl (t2, 2000, .inl F2)), (b3, .inl (t3, 6000, .inl I)), (b4, .inl (t4, 6000, .inl J)), (b5, .inl (t5, 3, .inl U)), (b6, .inl (t6, 3, .inl V)), (b7, .inl (t7, 2001, .inl S6))] H := hP
  have hD : va_D (fun q : Nat => s.heap.size ≤ q) [(x, .inr (0, [.ref a1, .ref a2, .ref a3, .ref a4, .ref a5, .int (nI mo), .int (nI cf), .int (nI cl), .int (nI ac), .int 1])), (a1, .inl (z1, 2000, .inl T)), (a2, .inl (z2, 2000, .inl F)), (a3, .inl (z3, 2000, .inl G)), (a4, .inl (z4, 2000, .inl Lm)), (a5, .inl (z5, 2001, .inl S5)), (y, .inr (1, [.ref b1, .ref b2, .ref b3, .ref b4, .ref b5, .ref b6, .int (nI mo), .int (nI ac), .ref b7, .int 1])), (b1, .inl (t1, 2000, .inl T2)), (b2, .inl (t2, 2000, .inl F2)), (b3, .inl (t3, 6000, .inl I)), (b4, .inl (t4, 6000, .inl J)), (b5, .inl (t5, 3, .inl U)), (b6, .inl (t6, 3, .inl V)), (b7, .inl (t7, 2001, .inl S6))] := hD
  refine lv_icmp_eq (tgt := 322) hx hb dL_law_317 (by decide) (fun c1 => ?_) (fun c1 => ?_)
  · exact hk H locs ls ⟨mo, cf, cl, ac, tk, fd, fs, la, 1, T, F, G, Lm, S5, 1, T2, F2, I, J, U, V, S6, ⟨g, hI, hQ5, hM, hQ6⟩, hP, hD, hS⟩ hl
  · exact absurd rfl c1
end
section
/-! THE LAW: its loop, its entry, the claim. -/
set_option maxHeartbeats 4000000 in
set_option maxRecDepth 100000 in
/-- THE LAW'S LOOP -/
theorem law_loop {p : Program} {l : Launch} {e : Env} {s : State} {m : MethodId} {below : List Frame} {meth : Method} {c : Code} {b L : Nat} {xs : Nat → Int32} (hL : L ≤ 2048) (C0 : lw_At p s m meth c b L xs) {dC : Nat → ClassId} {dI : Nat → Nat → Nat} {x a1 a2 a3 a4 a5 : Nat} {z1 z2 z3 z4 z5 : ClassId} {y b1 b2 b3 b4 b5 b6 b7 : Nat} {t1 t2 t3 t4 t5 t6 t7 : ClassId} (hK : va_K (dC, dI) vwCl (sr_tX z1 z2 z3 z4 z5 ++ sr_tM t1 t2 t3 t4 t5 t6 t7) s) :
    ∀ (n i : Nat) (H : Heap) (locs : List Loc) (ls : Array Slot), i ≤ L → L < i + n → lw_I dC dI x a1 a2 a3 a4 a5 z1 z2 z3 z4 z5 y b1 b2 b3 b4 b5 b6 b7 t1 t2 t3 t4 t5 t6 t7 (fun q : Nat => s.heap.size ≤ q) s.heap H locs → lv_has ls 4 [(0, .ref b), (1, .ref x), (2, .ref y), (3, .int (nI i))] → W p l e room_1 s m #[Value.ref b] below meth c H locs 14 28028 (lw_Z below #[Value.ref b] s) (F0 m 18 ls []) := by
  have C1 := C0
  obtain ⟨hx, hb, hr, hml, hown, hts, hX, hbl, hlocks, hgv⟩ := C0
  have hown : s.vm.findClass RL = some m.cls := hown
  have hts := fun w h => hts w (wsL_law_in w h)
  have hA : ∀ q : Nat, s.heap.size ≤ q → (fun q : Nat => s.heap.size ≤ q) q := fun _ h => h
  have hbA : ¬ (fun q : Nat => s.heap.size ≤ q) b := Nat.not_le.mpr hbl
  intro n
  induction n with
  | zero =>
    intro i H locs ls h1 h2
    exact absurd h2 (by omega)
  | succ n ih =>
    intro i H locs ls h1 h2 hJ hl
    have hs0 : va_S (fun q : Nat => s.heap.size ≤ q) s.heap H locs := by obtain ⟨_, _, _, _, _, _, _, _, _, _, _, _, _, _, _, _, _, _, _, _, _, _, _, _, _, hS⟩ := hJ; exact hS
    have hS := hs0
    refine lv_iload_n hx hb dL_law_18 rfl (lv_at hl 3 rfl) ?_
    refine lv_aload_n hx hb dL_law_19 rfl (lv_at hl 0 rfl) ?_
    refine va_slen hx hb hX hbl hbA hS dL_law_20 ?_
    refine sr_ti (y := nI L) (rfl) ?_
    refine lv_iconst (v := nI 4) hx hb dL_law_21 (by decide) ?_
    refine lv_isub hx hb dL_law_22 ?_
    refine lv_icmp_gt (tgt := 328) hx hb dL_law_23 (by decide) (fun c1 => ?_) (fun c1 => ?_)
    · refine lv_iconst (v := 1) hx hb dL_law_328 (by decide) ?_
      refine va_forget (fun q hq => hS.2.2 q hq) ?_
      refine W.widen (k := 14) (n := 28028) (Nat.le_refl 14) (Nat.le_refl 28028) ?_
      exact lw_ret hx hb hr hlocks dL_law_329
    · have hi4 : i + 4 ≤ L := Nat.le_of_not_lt (fun q => c1 ((sr_head (by omega) (by omega)).mpr q))
      refine lv_aload_n hx hb dL_law_26 rfl (lv_at hl 0 rfl) ?_
      refine lv_iload_n hx hb dL_law_27 rfl (lv_at hl 3 rfl) ?_
      refine sr_sld hx hb hX hbl hbA hS (by omega) (by omega) dL_law_28 ?_
      refine lv_bipush (v := 15) hx hb dL_law_29 (by decide) ?_
      refine lv_iand hx hb dL_law_31 ?_
      obtain ⟨j, hj, ej⟩ := pk_andE (xs i) (m := 15) 4 (by decide)
      refine sr_ti (y := nI j) (ej) ?_
      have back : ∀ (H : Heap) (locs : List Loc) (ls : Array Slot), lw_I dC dI x a1 a2 a3 a4 a5 z1 z2 z3 z4 z5 y b1 b2 b3 b4 b5 b6 b7 t1 t2 t3 t4 t5 t6 t7 (fun q : Nat => s.heap.size ≤ q) s.heap H locs → lv_has ls 4 [(0, .ref b), (1, .ref x), (2, .ref y), (3, .int (nI i))] → W p l e room_1 s m #[Value.ref b] below meth c H locs 14 28028 (lw_Z below #[Value.ref b] s) (F0 m 322 ls []) := by
        intro H locs ls hJ hl
        refine lv_iinc (v := nI (i + 4)) (lv' := [(3, .int (nI (i + 4))), (0, .ref b), (1, .ref x), (2, .ref y)]) hx hb dL_law_322 hl (k := 3) rfl (nI_add _ 4) (by decide) rfl (fun ls hl => ?_)
        refine lv_goto (tgt := 18) hx hb dL_law_325 (by decide) ?_
        exact ih (i + 4) H locs ls hi4 (by omega) hJ (lv_sub hl [1, 2, 3, 0] rfl)
      rcases (show j = 0 ∨ j = 1 ∨ j = 2 ∨ j = 3 ∨ j = 4 ∨ j = 5 ∨ j = 6 ∨ j = 7 ∨ j = 8 ∨ 8 < j by omega) with rfl | rfl | rfl | rfl | rfl | rfl | rfl | rfl | rfl | h9
      · refine lv_tableIn (off := 52) (tgt := 84) hx hb dL_law_32 (by decide) (by decide) (by decide +kernel) (by decide) ?_
        exact lw_c0 hL C1 hK hi4 back H locs ls hJ hl
      · refine lv_tableIn (off := 95) (tgt := 127) hx hb dL_law_32 (by decide) (by decide) (by decide +kernel) (by decide) ?_
        exact lw_c1 hL C1 hK hi4 back H locs ls hJ hl
      · refine lv_tableIn (off := 138) (tgt := 170) hx hb dL_law_32 (by decide) (by decide) (by decide +kernel) (by decide) ?_
        exact lw_c2 hL C1 hK hi4 back H locs ls hJ hl
      · refine lv_tableIn (off := 171) (tgt := 203) hx hb dL_law_32 (by decide) (by decide) (by decide +kernel) (by decide) ?_
        exact lw_c3 hL C1 hK hi4 back H locs ls hJ hl
      · refine lv_tableIn (off := 194) (tgt := 226) hx hb dL_law_32 (by decide) (by decide) (by decide +kernel) (by decide) ?_
        exact lw_c4 hL C1 hK hi4 back H locs ls hJ hl
      · refine lv_tableIn (off := 217) (tgt := 249) hx hb dL_law_32 (by decide) (by decide) (by decide +kernel) (by decide) ?_
        exact lw_c5 hL C1 hK hi4 back H locs ls hJ hl
      · refine lv_tableIn (off := 240) (tgt := 272) hx hb dL_law_32 (by decide) (by decide) (by decide +kernel) (by decide) ?_
        exact lw_c6 hL C1 hK hi4 back H locs ls hJ hl
      · refine lv_tableIn (off := 263) (tgt := 295) hx hb dL_law_32 (by decide) (by decide) (by decide +kernel) (by decide) ?_
        exact lw_c7 hL C1 hK hi4 back H locs ls hJ hl
      · refine lv_tableIn (off := 277) (tgt := 309) hx hb dL_law_32 (by decide) (by decide) (by decide +kernel) (by decide) ?_
        exact lw_c8 hL C1 hK hi4 back H locs ls hJ hl
      · refine lv_tableOut (tgt := 322) hx hb dL_law_32 (Or.inr (by rw [nI_toInt (by omega)]; omega)) (by decide) ?_
        exact back H locs ls hJ hl
set_option maxHeartbeats 4000000 in
set_option maxRecDepth 100000 in
theorem whole_start {p : Program} {e : Env} {s : State} {m : MethodId} {below : List Frame} {meth : Method} {c : Code} (l : Launch) {b L : Nat} {xs : Nat → Int32} (hL : L ≤ 2048) (C0 : lw_At p s m meth c b L xs) : W p l e room_1 s m #[Value.ref b] below meth c s.heap [] 0 0 (lw_Z below #[Value.ref b] s) (entryFrame m ([Value.ref b] : List Value).toArray 4) := by
  have C1 := C0
  obtain ⟨hx, hb, hr, hml, hown, hts, hX, hbl, hlocks, hgv⟩ := C0
  have hown : s.vm.findClass RL = some m.cls := hown
  have hts := fun w h => hts w (wsL_law_in w h)
  have hA : ∀ q : Nat, s.heap.size ≤ q → (fun q : Nat => s.heap.size ≤ q) q := fun _ h => h
  have hbA : ¬ (fun q : Nat => s.heap.size ≤ q) b := Nat.not_le.mpr hbl
  obtain ⟨k0, iS0, hKn0⟩ := u_known (C := RX0) (T := TX0) (N := 10) (n := 10) hts inlX0 (hts (.instantiable RX0 10) (by decide +kernel))
  obtain ⟨k1, iS1, hKn1⟩ := u_known (C := RX1) (T := TX1) (N := 10) (n := 10) hts inlX1 (hts (.instantiable RX1 10) (by decide +kernel))
  obtain ⟨dC, dI, hKc⟩ : ∃ (dC : Nat → ClassId) (dI : Nat → Nat → Nat), ∀ (k : Nat) (q : vw_C), vwCl[k]? = some q → u_Kn s q.1 q.2.1 q.2.2 (dC k) (dI k) := by
    refine ⟨fun k => if k = 0 then k0 else k1, fun k => if k = 0 then iS0 else iS1, ?_⟩
    intro k q hq
    match k, hq with
    | 0, hq => cases hq; exact hKn0
    | 1, hq => cases hq; exact hKn1
    | k + 2, hq => simp [vwCl] at hq
  have hS : va_S (fun q : Nat => s.heap.size ≤ q) s.heap s.heap [] := va_S.rf
  have hK : va_K (dC, dI) vwCl [] s := ⟨hKc, fun k q h => by simp at h⟩
  have hP : va_P (dC, dI) vwCl [] s.heap := fun k q h => by simp at h
  have hD : va_D (fun q : Nat => s.heap.size ≤ q) [] := ⟨fun i j p q h => by simp at h, fun k q h => by simp at h⟩
  have hl := lv_entry ([.ref b]) (n := 4) (Nat.le_of_ble_eq_true rfl)
  rw [lg_entry_eq]
  generalize (lg_sl ([.ref b]) ++ List.replicate (4 - (lg_sl ([.ref b])).length) Slot.unset).toArray = ls at hl ⊢
  have hl : lv_has ls 4 [(0, .ref b)] := hl
  refine va_new (ci := 0) (fs := [.null, .null, .null, .null, .null, .int 0, .int 0, .int 0, .int 0, .int 0]) (C := RX0) (T := TX0) (N := 10) hx hb hts inlX0 tyX0 tyX0_ok hown (hts (.classLink RL 7 RX0) (by decide +kernel)) (hts (.instantiable RX0 10) (by decide +kernel)) (hts (.initialized RX0) (by decide +kernel)) hK hP hD hS hA rfl (fun j hj => by rcases (show j = 0 ∨ j = 1 ∨ j = 2 ∨ j = 3 ∨ j = 4 ∨ j = 5 ∨ j = 6 ∨ j = 7 ∨ j = 8 ∨ j = 9 by omega) with rfl | rfl | rfl | rfl | rfl | rfl | rfl | rfl | rfl | rfl <;> rfl) (by show _ ≤ 14; omega) (by show _ ≤ 28028; omega) dL_law_0 (fun x H hP hD hS => ?_)
  have hP : va_P (dC, dI) vwCl [(x, .inr (0, [.null, .null, .null, .null, .null, .int 0, .int 0, .int 0, .int 0, .int 0]))] H := hP
  have hD : va_D (fun q : Nat => s.heap.size ≤ q) [(x, .inr (0, [.null, .null, .null, .null, .null, .int 0, .int 0, .int 0, .int 0, .int 0]))] := hD
  refine lv_dup hx hb dL_law_3 rfl ?_
  have hPc := hP.sub (ws' := [(x, .inr (0, [.null, .null, .null, .null, .null, .int 0, .int 0, .int 0, .int 0, .int 0]))]) [0] rfl
  have hDc := hD.sub (ws' := [(x, .inr (0, [.null, .null, .null, .null, .null, .int 0, .int 0, .int 0, .int 0, .int 0]))]) [0] (by decide) rfl
  have hKc := hK.sub (tys' := []) [] rfl
  have hFc := va_free (wc := [(x, .inr (0, [.null, .null, .null, .null, .null, .int 0, .int 0, .int 0, .int 0, .int 0]))]) hD hS hA [0] rfl
  refine va_callv (va_runI (As := []) (rest := [.ref x]) ⟨hx, hb, hml, hown, hts⟩ (c_X0_init l dC dI x H.size) (cwI 0 hts gL_law_X0_init rfl rfl rfl (hts (.initialized RX0) (by decide +kernel)) (hts (.methodLink RL 9 yX0_init) (by decide +kernel)) (hts (.instanceMethod yX0_init) (by decide +kernel)) rfl (by decide +kernel) ⟨Nat.le_of_ble_eq_true rfl, Nat.le_of_ble_eq_true rfl⟩) ⟨sr_blind, sr_mk hPc hKc hDc⟩ rfl rfl hl.1 rfl (lv_room (Nat.le_of_ble_eq_true rfl)) dL_law_4 ⟨by show _ ≤ 14; omega, by show _ ≤ 28028; omega⟩) hS (fun q _ h => hFc q h) hFc (fun u t H1 locs ht hvm hw hB hz1 hk1 hS => ?_)
  obtain ⟨a1, a2, a3, a4, a5, z1, z2, z3, z4, z5, rfl⟩ := hw
  obtain ⟨hP1, hK1, hD1⟩ := hB
  rw [ht] at hP1
  have hK1 := va_K.moved hvm.symm hK1
  obtain ⟨hP, hD⟩ := va_join (wr := []) (w1 := [(x, .inr (0, [.ref a1, .ref a2, .ref a3, .ref a4, .ref a5, .int (nI 0), .int (nI 22), .int (nI 22), .int (nI 100), .int 0])), (a1, .inl (z1, 2000, .inl (fun _ => 0))), (a2, .inl (z2, 2000, .inl (fun _ => 0))), (a3, .inl (z3, 2000, .inl (fun _ => 0))), (a4, .inl (z4, 2000, .inl (fun _ => 0))), (a5, .inl (z5, 2001, .inl (fun _ => 0)))]) hP hD [0] [] rfl rfl (by decide) (by decide) hk1 hFc hP1 hD1
  have hK := (hK.sub (tys' := []) [] rfl).app hK1
  generalize H1 = H at hP hS ⊢
  have hP : va_P (dC, dI) vwCl [(x, .inr (0, [.ref a1, .ref a2, .ref a3, .ref a4, .ref a5, .int (nI 0), .int (nI 22), .int (nI 22), .int (nI 100), .int 0])), (a1, .inl (z1, 2000, .inl (fun _ => 0))), (a2, .inl (z2, 2000, .inl (fun _ => 0))), (a3, .inl (z3, 2000, .inl (fun _ => 0))), (a4, .inl (z4, 2000, .inl (fun _ => 0))), (a5, .inl (z5, 2001, .inl (fun _ => 0)))] H := hP
  have hD : va_D (fun q : Nat => s.heap.size ≤ q) [(x, .inr (0, [.ref a1, .ref a2, .ref a3, .ref a4, .ref a5, .int (nI 0), .int (nI 22), .int (nI 22), .int (nI 100), .int 0])), (a1, .inl (z1, 2000, .inl (fun _ => 0))), (a2, .inl (z2, 2000, .inl (fun _ => 0))), (a3, .inl (z3, 2000, .inl (fun _ => 0))), (a4, .inl (z4, 2000, .inl (fun _ => 0))), (a5, .inl (z5, 2001, .inl (fun _ => 0)))] := hD
  have hK : va_K (dC, dI) vwCl [(z1, .int), (z2, .int), (z3, .int), (z4, .int), (z5, .int)] s := hK
  refine W.widen (k := 6) (n := 10011) (by omega) (by omega) ?_
  refine lv_astore_n (lv' := [(1, .ref x), (0, .ref b)]) hx hb dL_law_7 rfl hl (by decide) rfl (fun ls hl => ?_)
  refine va_new (ci := 1) (fs := [.null, .null, .null, .null, .null, .null, .int 0, .int 0, .null, .int 0]) (C := RX1) (T := TX1) (N := 10) hx hb hts inlX1 tyX1 tyX1_ok hown (hts (.classLink RL 10 RX1) (by decide +kernel)) (hts (.instantiable RX1 10) (by decide +kernel)) (hts (.initialized RX1) (by decide +kernel)) hK hP hD hS hA rfl (fun j hj => by rcases (show j = 0 ∨ j = 1 ∨ j = 2 ∨ j = 3 ∨ j = 4 ∨ j = 5 ∨ j = 6 ∨ j = 7 ∨ j = 8 ∨ j = 9 by omega) with rfl | rfl | rfl | rfl | rfl | rfl | rfl | rfl | rfl | rfl <;> rfl) (by show _ ≤ 14; omega) (by show _ ≤ 28028; omega) dL_law_8 (fun y H hP hD hS => ?_)
  have hP : va_P (dC, dI) vwCl [(x, .inr (0, [.ref a1, .ref a2, .ref a3, .ref a4, .ref a5, .int (nI 0), .int (nI 22), .int (nI 22), .int (nI 100), .int 0])), (a1, .inl (z1, 2000, .inl (fun _ => 0))), (a2, .inl (z2, 2000, .inl (fun _ => 0))), (a3, .inl (z3, 2000, .inl (fun _ => 0))), (a4, .inl (z4, 2000, .inl (fun _ => 0))), (a5, .inl (z5, 2001, .inl (fun _ => 0))), (y, .inr (1, [.null, .null, .null, .null, .null, .null, .int 0, .int 0, .null, .int 0]))] H := hP
  have hD : va_D (fun q : Nat => s.heap.size ≤ q) [(x, .inr (0, [.ref a1, .ref a2, .ref a3, .ref a4, .ref a5, .int (nI 0), .int (nI 22), .int (nI 22), .int (nI 100), .int 0])), (a1, .inl (z1, 2000, .inl (fun _ => 0))), (a2, .inl (z2, 2000, .inl (fun _ => 0))), (a3, .inl (z3, 2000, .inl (fun _ => 0))), (a4, .inl (z4, 2000, .inl (fun _ => 0))), (a5, .inl (z5, 2001, .inl (fun _ => 0))), (y, .inr (1, [.null, .null, .null, .null, .null, .null, .int 0, .int 0, .null, .int 0]))] := hD
  refine lv_dup hx hb dL_law_11 rfl ?_
  have hPc := hP.sub (ws' := [(y, .inr (1, [.null, .null, .null, .null, .null, .null, .int 0, .int 0, .null, .int 0]))]) [6] rfl
  have hDc := hD.sub (ws' := [(y, .inr (1, [.null, .null, .null, .null, .null, .null, .int 0, .int 0, .null, .int 0]))]) [6] (by decide) rfl
  have hKc := hK.sub (tys' := []) [] rfl
  have hFc := va_free (wc := [(y, .inr (1, [.null, .null, .null, .null, .null, .null, .int 0, .int 0, .null, .int 0]))]) hD hS hA [6] rfl
  refine va_callv (va_runI (As := []) (rest := [.ref y]) ⟨hx, hb, hml, hown, hts⟩ (c_X1_init l dC dI y H.size) (cwI 0 hts gL_law_X1_init rfl rfl rfl (hts (.initialized RX1) (by decide +kernel)) (hts (.methodLink RL 12 yX1_init) (by decide +kernel)) (hts (.instanceMethod yX1_init) (by decide +kernel)) rfl (by decide +kernel) ⟨Nat.le_of_ble_eq_true rfl, Nat.le_of_ble_eq_true rfl⟩) ⟨sr_blind, sr_mk hPc hKc hDc⟩ rfl rfl hl.1 rfl (lv_room (Nat.le_of_ble_eq_true rfl)) dL_law_12 ⟨by show _ ≤ 14; omega, by show _ ≤ 28028; omega⟩) hS (fun q _ h => hFc q h) hFc (fun u t H1 locs ht hvm hw hB hz1 hk1 hS => ?_)
  obtain ⟨b1, b2, b3, b4, b5, b6, b7, t1, t2, t3, t4, t5, t6, t7, rfl⟩ := hw
  obtain ⟨hP1, hK1, hD1⟩ := hB
  rw [ht] at hP1
  have hK1 := va_K.moved hvm.symm hK1
  obtain ⟨hP, hD⟩ := va_join (wr := [(x, .inr (0, [.ref a1, .ref a2, .ref a3, .ref a4, .ref a5, .int (nI 0), .int (nI 22), .int (nI 22), .int (nI 100), .int 0])), (a1, .inl (z1, 2000, .inl (fun _ => 0))), (a2, .inl (z2, 2000, .inl (fun _ => 0))), (a3, .inl (z3, 2000, .inl (fun _ => 0))), (a4, .inl (z4, 2000, .inl (fun _ => 0))), (a5, .inl (z5, 2001, .inl (fun _ => 0)))]) (w1 := [(y, .inr (1, [.ref b1, .ref b2, .ref b3, .ref b4, .ref b5, .ref b6, .int (nI 0), .int (nI 100), .ref b7, .int 0])), (b1, .inl (t1, 2000, .inl (fun _ => 0))), (b2, .inl (t2, 2000, .inl (fun _ => 0))), (b3, .inl (t3, 6000, .inl (fun _ => 0))), (b4, .inl (t4, 6000, .inl (fun _ => 0))), (b5, .inl (t5, 3, .inl (upd (fun _ => 0) 0 1))), (b6, .inl (t6, 3, .inl (upd (fun _ => 0) 0 1))), (b7, .inl (t7, 2001, .inl (fun _ => 0)))]) hP hD [6] [0, 1, 2, 3, 4, 5] rfl rfl (by decide) (by decide) hk1 hFc hP1 hD1
  have hK := (hK.sub (tys' := [(z1, .int), (z2, .int), (z3, .int), (z4, .int), (z5, .int)]) [0, 1, 2, 3, 4] rfl).app hK1
  generalize H1 = H at hP hS ⊢
  have hP : va_P (dC, dI) vwCl [(x, .inr (0, [.ref a1, .ref a2, .ref a3, .ref a4, .ref a5, .int (nI 0), .int (nI 22), .int (nI 22), .int (nI 100), .int 0])), (a1, .inl (z1, 2000, .inl (fun _ => 0))), (a2, .inl (z2, 2000, .inl (fun _ => 0))), (a3, .inl (z3, 2000, .inl (fun _ => 0))), (a4, .inl (z4, 2000, .inl (fun _ => 0))), (a5, .inl (z5, 2001, .inl (fun _ => 0))), (y, .inr (1, [.ref b1, .ref b2, .ref b3, .ref b4, .ref b5, .ref b6, .int (nI 0), .int (nI 100), .ref b7, .int 0])), (b1, .inl (t1, 2000, .inl (fun _ => 0))), (b2, .inl (t2, 2000, .inl (fun _ => 0))), (b3, .inl (t3, 6000, .inl (fun _ => 0))), (b4, .inl (t4, 6000, .inl (fun _ => 0))), (b5, .inl (t5, 3, .inl (upd (fun _ => 0) 0 1))), (b6, .inl (t6, 3, .inl (upd (fun _ => 0) 0 1))), (b7, .inl (t7, 2001, .inl (fun _ => 0)))] H := hP
  have hD : va_D (fun q : Nat => s.heap.size ≤ q) [(x, .inr (0, [.ref a1, .ref a2, .ref a3, .ref a4, .ref a5, .int (nI 0), .int (nI 22), .int (nI 22), .int (nI 100), .int 0])), (a1, .inl (z1, 2000, .inl (fun _ => 0))), (a2, .inl (z2, 2000, .inl (fun _ => 0))), (a3, .inl (z3, 2000, .inl (fun _ => 0))), (a4, .inl (z4, 2000, .inl (fun _ => 0))), (a5, .inl (z5, 2001, .inl (fun _ => 0))), (y, .inr (1, [.ref b1, .ref b2, .ref b3, .ref b4, .ref b5, .ref b6, .int (nI 0), .int (nI 100), .ref b7, .int 0])), (b1, .inl (t1, 2000, .inl (fun _ => 0))), (b2, .inl (t2, 2000, .inl (fun _ => 0))), (b3, .inl (t3, 6000, .inl (fun _ => 0))), (b4, .inl (t4, 6000, .inl (fun _ => 0))), (b5, .inl (t5, 3, .inl (upd (fun _ => 0) 0 1))), (b6, .inl (t6, 3, .inl (upd (fun _ => 0) 0 1))), (b7, .inl (t7, 2001, .inl (fun _ => 0)))] := hD
  have hK : va_K (dC, dI) vwCl [(z1, .int), (z2, .int), (z3, .int), (z4, .int), (z5, .int), (t1, .int), (t2, .int), (t3, .byte), (t4, .byte), (t5, .byte), (t6, .byte), (t7, .int)] s := hK
  refine W.widen (k := 14) (n := 28028) (by omega) (by omega) ?_
  refine lv_astore_n (lv' := [(2, .ref y), (1, .ref x), (0, .ref b)]) hx hb dL_law_15 rfl hl (by decide) rfl (fun ls hl => ?_)
  refine lv_iconst (v := nI 0) hx hb dL_law_16 (by decide) ?_
  refine lv_istore_n (lv' := [(3, .int (nI 0)), (2, .ref y), (1, .ref x), (0, .ref b)]) hx hb dL_law_17 rfl hl (by decide) rfl (fun ls hl => ?_)
  have ok22 : sr_ok 22 := ⟨by decide, by decide⟩
  have hg : sr_G 0 100 22 22 (fun _ => 0) (fun _ => 0) (fun _ => 0) (fun _ => 0) := ⟨by omega, ⟨by omega, by omega⟩, ok22, ok22, fun i hi => absurd hi (Nat.not_lt_zero i)⟩
  have h22 : ∀ a, a < 3 → upd (fun _ => 0) 0 1 a = sr_dg 22 a := by decide
  exact law_loop hL C1 hK (L + 1) 0 H locs ls (Nat.zero_le L) (by omega) ⟨0, 22, 22, 100, fun _ => 0, fun _ => 0, fun _ => 0, fun _ => 0, 0, fun _ => 0, fun _ => 0, fun _ => 0, fun _ => 0, fun _ => 0, 0, fun _ => 0, fun _ => 0, fun _ => 0, fun _ => 0, upd (fun _ => 0) 0 1, upd (fun _ => 0) 0 1, fun _ => 0, ⟨hg, fun i hi => absurd hi (Nat.not_lt_zero i), Or.inl rfl, ⟨fun i hi => absurd hi (Nat.not_lt_zero i), fun a ha => ⟨h22 a ha, h22 a ha⟩⟩, Or.inl rfl⟩, hP, hD, hS⟩ (lv_sub hl [3, 2, 1, 0] rfl)
end
section
set_option maxHeartbeats 4000000 in
theorem lw_walk (l : Launch) (b : Addr) (xs : List Int32) : MetFree l x (headSpec (Jvm.Cond.code x code maxLocals ret :: tables_1) room_1) (lw_P b xs) (fun _ _ _ _ _ => True) lw_Q := by
  refine MetFree.of_bodyS (code := code) (maxLocals := maxLocals) (ret := ret) (by decide) ?_ ?_
  · intro args s m h hn
    obtain ⟨meth, c, h1, h2, h3, h4, h5, h6, -, -⟩ := Cond.code_spec hn (atoms_spec (ws := Jvm.Cond.code x code maxLocals ret :: tables_1) h _ List.mem_cons_self)
    exact ⟨meth, c, h1, h2, h3, h4, h5, h6⟩
  · intro p e s m args below meth c s₁ B hml0 hP _
    obtain ⟨rfl, hx, hbd, hgv⟩ := hP
    obtain ⟨scr, harrAt, hlist, hof, hsmall⟩ := hx
    obtain ⟨hcb, hkn, -, -⟩ := State.arrayAt?_spec harrAt
    have hown : s.vm.findClass R_law = some m.cls := findClass_of_methodNamed B.named
    have hts0 : ∀ c ∈ (Jvm.Cond.code x code maxLocals ret :: tables_1), c.before #[Value.ref b] s = true := atoms_spec (ws := Jvm.Cond.code x code maxLocals ret :: tables_1) B.pre
    have hts : ∀ w ∈ lw_tbl, w.before #[Value.ref b] s = true := k2_hts_sels lw_privs (fun w hw => hts0 w (List.mem_cons_of_mem _ hw)) lw_privs_ok
    have hml : c.maxLocals = 4 := B.maxLocals_eq (hts0 _ List.mem_cons_self)
    have X₀ : Stand p l e room_1 s m #[Value.ref b] below meth c s₁ [] 0 0 := Stand.of_body B
    have hh0 : s₁.heap = s.heap := by rw [B.state]; rfl
    have hsz : scr.slots.size = xs.length := by rw [← Array.length_toList, hlist, List.length_map]
    have hval : ∀ j : Nat, j < xs.length → scr.slots[j]? = some (.int (xs.getD j 0)) := fun j hj => by
      rw [← Array.getElem?_toList, hlist]
      simp [hj]
    have hbl : b < s.heap.size := (Array.getElem?_eq_some_iff.mp hcb).1
    have hX : va_X b xs.length (fun j => xs.getD j 0) s s.heap := ⟨scr, hcb, hof, hkn, hsz, hval⟩
    have K : W p l e room_1 s m #[Value.ref b] below meth c s₁.heap [] 0 0 (lw_Z below #[Value.ref b] s) (entryFrame m ([Value.ref b] : List Value).toArray 4) := by
      rw [hh0]
      exact whole_start l hbd ⟨B.exec, B.bytes, B.returns, hml, hown, hts, hX, hbl, B.notSynchronized, hgv⟩
    obtain ⟨t, a1, o, b1, b2, b3⟩ := K s₁ rfl X₀
    exact ⟨t, o, a1, b1, b2, b3⟩
theorem lw_pre_spec {args : Array Value} {s : State} (h : (Jvm.Cond.and given_1 narrow_1).before args s = true) (hr : rest_1_c.before args s = true) : ∃ (b : Addr) (xs : List Int32), lw_P b xs args s := by
  have hs := flat_of_before _ h
  have hq := flat_of_before _ hr
  have hc : (Cond.count 1).before args s = true := hs _ (by decide +kernel)
  have harr : (Cond.arrayOf (.arg 0) .int).before args s = true := hs _ (by decide +kernel)
  have hle : (Cond.le (.length (.arg 0)) (.int 2048)).before args s = true := hs _ (by decide +kernel)
  have hlen : (Cond.isInt (.length (.arg 0))).before args s = true := hq _ (by decide +kernel)
  have hall : (Cond.all (.arg 0) (.isInt (.elem (.arg 0) (.index 0)))).before args s = true := hq _ (by decide +kernel)
  obtain ⟨b, xs, hb, hx⟩ := State.ints_of_pre rfl harr hlen hall
  have hsm : xs.length < 2 ^ 31 := hx.choose_spec.2.2.2
  have hev : (Term.length (.arg 0)).eval args s none [] s = some (.int xs.length.toInt32) := hx.length_eval hb
  have hv := Cond.le_ints hev (show (Term.int 2048).eval args s none [] s = some (.int 2048) from rfl)
  have hd : xs.length.toInt32 ≤ 2048 := by
    simpa [Cond.before, Cond.holds, hv] using hle
  have hN : xs.length ≤ 2048 := (Int32.ofNat_le_ofNat hsm (by decide)).mp (show Int32.ofNat xs.length ≤ Int32.ofNat 2048 from hd)
  exact ⟨b, xs, Cond.one_arg hc (show args[0]? = some (.ref b) from hb), hx, hN, h⟩
theorem lw_comes (l : Launch) : Comes l x (Jvm.Cond.code x code maxLocals ret :: tables_1) room_1 (fun tb e args s => Calls_1 tb e args s ∧ rest_1 tb e args s ∧ Pre_1 tb e args s)
    (fun _ _ args s o t => lw_Q args s o t) := by
  intro p e ha hc hk s m args below hf hfit hheap happ hpre
  obtain ⟨b, xs, hP⟩ := lw_pre_spec hpre.2.2 hpre.2.1
  obtain ⟨k, o, h1, h2, h3, hQ⟩ := lw_walk l b xs p e ha hc hk s m args below hf ((Spec.applies_iff_loose hf).mp happ).1 hP trivial
  exact ⟨k, o, h1, h2, h3, hQ⟩
theorem lw_frame {s t : State} {o : Outcome} {args : Array Value} (h : Framed s o t [] 14 28028) :
    Framed s o t (fieldLocs frame_1_writes args s ++ arrayLocs frame_1_arrays args s ++ staticLocs frame_1_statics s) 14 28028 := h
theorem lw_limb (L : Cond) (hL : ∀ (args : Array Value) (s t : State), L.after args s (.returned (some (.int 1))) t = true) :
    ArmFor flags0 classFile x code maxLocals ret World_1 tables_1 room_1 Calls_1 rest_1 Pre_1
      (fun tb e a s o t => postC L tb e a s o t ∧ Framed s o t (fieldLocs frame_1_writes a s ++ arrayLocs frame_1_arrays a s ++ staticLocs frame_1_statics s) 14 28028) := by
  intro l _ _ _ p e ha hc hk s m args below hf hfit hheap happ hpre
  obtain ⟨k, o, h1, h2, h3, rfl, hF⟩ := lw_comes l p e ha hc hk s m args below hf hfit hheap happ hpre
  exact ⟨k, _, h1, h2, h3, hL args s _, lw_frame hF⟩
theorem i_vc : Claimed_1_1 ∧ Claimed_1_2 := ⟨lw_limb limb_1_1 (fun args s t => by simp [limb_1_1, Cond.after, Cond.holds, Cond.value]), lw_limb limb_1_2 (fun args s t => Cond.after_iff.mpr (by
  first | (rw [show limb_1_2 = Cond.eq .result (.int 1) from rfl, Cond.eq_ints (x := 1) (y := 1) rfl rfl]; simp; done) | (simp [limb_1_2, Cond.value, Term.eval]; done)))⟩
end
