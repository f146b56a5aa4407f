theorem goodIn_r {big : List Cond} (ws : List Cond) (ps : List Nat) (hp : ws = ps.filterMap (fun i => big[i]?)) (h : ws.all goodWord = true) : GoodIn big ws := by
  intro w hw
  have h1 := List.all_eq_true.mp h w hw
  rw [hp] at hw
  obtain ⟨i, -, hi⟩ := List.mem_filterMap.mp hw
  have hm : w ∈ big := by first | exact List.mem_of_getElem? hi | exact List.getElem?_mem hi
  exact ⟨hm, good_of_word h1⟩
theorem goodIn_app {big a b : List Cond} (ha : GoodIn big a) (hb : GoodIn big b) : GoodIn big (a ++ b) := fun w h => (List.mem_append.mp h).elim (ha w) (hb w)
theorem goodIn_ca {big a b : List Cond} {c : Cond} (ha : GoodIn big (c :: a)) (hb : GoodIn big b) : GoodIn big (c :: (a ++ b)) := fun w h => (List.mem_cons.mp h).elim (fun e => ha w (List.mem_cons.mpr (Or.inl e))) (fun h => (List.mem_append.mp h).elim (fun h => ha w (List.mem_cons.mpr (Or.inr h))) (hb w))
theorem goodIn_sub {big ws : List Cond} (hm : ∀ w ∈ ws, w ∈ big) (h : ws.all goodWord = true) : GoodIn big ws := fun w hw => ⟨hm w hw, good_of_word (List.all_eq_true.mp h w hw)⟩

def RX0 : String := "RestBoard$Frame"
def TX0 : u_T := fun k => match k with
  | 0 => ("RestBoard$Frame", "method", "I", false)
  | 1 => ("RestBoard$Frame", "home", "I", false)
  | 2 => ("RestBoard$Frame", "at", "I", false)
  | 3 => ("RestBoard$Frame", "place", "I", false)
  | 4 => ("RestBoard$Frame", "result", "I", false)
  | 5 => ("RestBoard$Frame", "over", "Z", false)
  | 6 => ("RestBoard$Frame", "blocks", "I", false)
  | 7 => ("RestBoard$Frame", "ends", "[I", true)
  | 8 => ("RestBoard$Frame", "loops", "[I", true)
  | 9 => ("RestBoard$Frame", "locals", "[I", true)
  | 10 => ("RestBoard$Frame", "args", "[I", true)
  | 11 => ("RestBoard$Frame", "held", "[I", true)
  | _ => ("RestBoard$Frame", "told", "LRestBoard$Node;", false)
def tyX0 : Nat → FieldType := fun k => match k with
  | 0 => .int
  | 1 => .int
  | 2 => .int
  | 3 => .int
  | 4 => .int
  | 5 => .boolean
  | 6 => .int
  | 7 => .array .int
  | 8 => .array .int
  | 9 => .array .int
  | 10 => .array .int
  | 11 => .array .int
  | _ => .object "RestBoard$Node"
abbrev wsX00 : List Cond := u_ws RX0 TX0 13
theorem nmX0 : ∀ a, a < 13 → ∀ b, b < 13 → a ≠ b → (TX0 a).2.1 ≠ (TX0 b).2.1 := by decide +kernel
theorem tyX0_ok : ∀ k, k < 13 → parseFieldDescriptor (TX0 k).2.2.1 = some (tyX0 k) := by decide +kernel
abbrev cX0_init : ByteArray := prog_2_method_1_code
def yX0_init : MethodName := ⟨RX0, "<init>", "(LRestBoard$Node;)V"⟩
abbrev cX0_begin : ByteArray := prog_2_method_2_code
def yX0_begin : MethodName := ⟨RX0, "begin", "(ILRestBoard$Node;III)V"⟩
abbrev cX0_atBlockEnd : ByteArray := prog_2_method_3_code
def yX0_atBlockEnd : MethodName := ⟨RX0, "atBlockEnd", "()Z"⟩
abbrev cX0_next : ByteArray := prog_2_method_4_code
def yX0_next : MethodName := ⟨RX0, "next", "()I"⟩
abbrev cX0_sees : ByteArray := prog_2_method_5_code
def yX0_sees : MethodName := ⟨RX0, "sees", "(I)Z"⟩
abbrev cX0_open : ByteArray := prog_2_method_6_code
def yX0_open : MethodName := ⟨RX0, "open", "(II)V"⟩
abbrev cX0_leaveLoop : ByteArray := prog_2_method_7_code
def yX0_leaveLoop : MethodName := ⟨RX0, "leaveLoop", "()V"⟩
def RX1 : String := "RestBoard$History"
def TX1 : u_T := fun k => match k with
  | 0 => ("RestBoard$History", "now", "LRestBoard$State;", true)
  | 1 => ("RestBoard$History", "states", "[LRestBoard$State;", true)
  | 2 => ("RestBoard$History", "acts", "[I", true)
  | 3 => ("RestBoard$History", "kept", "I", false)
  | _ => ("RestBoard$History", "next", "I", false)
def tyX1 : Nat → FieldType := fun k => match k with
  | 0 => .object "RestBoard$State"
  | 1 => .array (.object "RestBoard$State")
  | 2 => .array .int
  | 3 => .int
  | _ => .int
abbrev wsX10 : List Cond := u_ws RX1 TX1 5
theorem nmX1 : ∀ a, a < 5 → ∀ b, b < 5 → a ≠ b → (TX1 a).2.1 ≠ (TX1 b).2.1 := by decide +kernel
theorem tyX1_ok : ∀ k, k < 5 → parseFieldDescriptor (TX1 k).2.2.1 = some (tyX1 k) := by decide +kernel
abbrev cX1_init : ByteArray := prog_3_method_1_code
def yX1_init : MethodName := ⟨RX1, "<init>", "(LRestBoard$State;)V"⟩
abbrev cX1_kept : ByteArray := prog_3_method_2_code
def yX1_kept : MethodName := ⟨RX1, "kept", "()I"⟩
abbrev cX1_keep : ByteArray := prog_3_method_3_code
def yX1_keep : MethodName := ⟨RX1, "keep", "(I)V"⟩
abbrev cX1_takeBack : ByteArray := prog_3_method_4_code
def yX1_takeBack : MethodName := ⟨RX1, "takeBack", "()I"⟩
def RX2 : String := "RestBoard$Log"
def TX2 : u_T := fun k => match k with
  | 0 => ("RestBoard$Log", "who", "[I", true)
  | 1 => ("RestBoard$Log", "what", "[I", true)
  | 2 => ("RestBoard$Log", "kept", "I", false)
  | _ => ("RestBoard$Log", "next", "I", false)
def tyX2 : Nat → FieldType := fun k => match k with
  | 0 => .array .int
  | 1 => .array .int
  | 2 => .int
  | _ => .int
abbrev wsX20 : List Cond := u_ws RX2 TX2 4
theorem nmX2 : ∀ a, a < 4 → ∀ b, b < 4 → a ≠ b → (TX2 a).2.1 ≠ (TX2 b).2.1 := by decide +kernel
theorem tyX2_ok : ∀ k, k < 4 → parseFieldDescriptor (TX2 k).2.2.1 = some (tyX2 k) := by decide +kernel
abbrev cX2_init : ByteArray := prog_4_method_1_code
def yX2_init : MethodName := ⟨RX2, "<init>", "(I)V"⟩
abbrev cX2_write : ByteArray := prog_4_method_2_code
def yX2_write : MethodName := ⟨RX2, "write", "(II)V"⟩
abbrev cX2_told : ByteArray := prog_4_method_3_code
def yX2_told : MethodName := ⟨RX2, "told", "(II)I"⟩
abbrev cX2_take : ByteArray := prog_4_method_4_code
def yX2_take : MethodName := ⟨RX2, "take", "(LRestBoard$Log;)V"⟩
def RX3 : String := "RestBoard$Machine"
def TX3 : u_T := fun k => match k with
  | 0 => ("RestBoard$Machine", "tree", "LRestBoard$Tree;", true)
  | 1 => ("RestBoard$Machine", "now", "LRestBoard$State;", true)
  | 2 => ("RestBoard$Machine", "frames", "[LRestBoard$Frame;", true)
  | 3 => ("RestBoard$Machine", "running", "I", false)
  | 4 => ("RestBoard$Machine", "steps", "I", false)
  | 5 => ("RestBoard$Machine", "forgotten", "I", false)
  | 6 => ("RestBoard$Machine", "failed", "Z", false)
  | 7 => ("RestBoard$Machine", "latest", "[I", true)
  | 8 => ("RestBoard$Machine", "keptLatest", "[I", true)
  | _ => ("RestBoard$Machine", "keptSteps", "I", false)
def tyX3 : Nat → FieldType := fun k => match k with
  | 0 => .object "RestBoard$Tree"
  | 1 => .object "RestBoard$State"
  | 2 => .array (.object "RestBoard$Frame")
  | 3 => .int
  | 4 => .int
  | 5 => .int
  | 6 => .boolean
  | 7 => .array .int
  | 8 => .array .int
  | _ => .int
abbrev wsX30 : List Cond := u_ws RX3 TX3 10
theorem nmX3 : ∀ a, a < 10 → ∀ b, b < 10 → a ≠ b → (TX3 a).2.1 ≠ (TX3 b).2.1 := by decide +kernel
theorem tyX3_ok : ∀ k, k < 10 → parseFieldDescriptor (TX3 k).2.2.1 = some (tyX3 k) := by decide +kernel
abbrev cX3_init : ByteArray := prog_5_method_1_code
def yX3_init : MethodName := ⟨RX3, "<init>", "(LRestBoard$Tree;LRestBoard$State;)V"⟩
abbrev cX3_steps : ByteArray := prog_5_method_2_code
def yX3_steps : MethodName := ⟨RX3, "steps", "()I"⟩
abbrev cX3_forgotten : ByteArray := prog_5_method_3_code
def yX3_forgotten : MethodName := ⟨RX3, "forgotten", "()I"⟩
abbrev cX3_forgetSteps : ByteArray := prog_5_method_4_code
def yX3_forgetSteps : MethodName := ⟨RX3, "forgetSteps", "()V"⟩
abbrev cX3_keepTold : ByteArray := prog_5_method_5_code
def yX3_keepTold : MethodName := ⟨RX3, "keepTold", "()V"⟩
abbrev cX3_restoreTold : ByteArray := prog_5_method_6_code
def yX3_restoreTold : MethodName := ⟨RX3, "restoreTold", "()V"⟩
abbrev cX3_told : ByteArray := prog_5_method_7_code
def yX3_told : MethodName := ⟨RX3, "told", "(I)I"⟩
abbrev cX3_peek : ByteArray := prog_5_method_8_code
def yX3_peek : MethodName := ⟨RX3, "peek", "(I)I"⟩
abbrev cX3_put : ByteArray := prog_5_method_9_code
def yX3_put : MethodName := ⟨RX3, "put", "(II)V"⟩
abbrev cX3_run : ByteArray := prog_5_method_10_code
def yX3_run : MethodName := ⟨RX3, "run", "(IIII)I"⟩
abbrev cX3_enter : ByteArray := prog_5_method_11_code
def yX3_enter : MethodName := ⟨RX3, "enter", "(IIII)I"⟩
abbrev cX3_release : ByteArray := prog_5_method_12_code
def yX3_release : MethodName := ⟨RX3, "release", "(LRestBoard$Frame;)V"⟩
abbrev cX3_fail : ByteArray := prog_5_method_13_code
def yX3_fail : MethodName := ⟨RX3, "fail", "(IILRestBoard$Frame;I)V"⟩
abbrev cX3_mayStep : ByteArray := prog_5_method_14_code
def yX3_mayStep : MethodName := ⟨RX3, "mayStep", "(LRestBoard$Frame;I)Z"⟩
abbrev cX3_closeBlock : ByteArray := prog_5_method_15_code
def yX3_closeBlock : MethodName := ⟨RX3, "closeBlock", "(LRestBoard$Frame;)V"⟩
abbrev cX3_perform : ByteArray := prog_5_method_16_code
def yX3_perform : MethodName := ⟨RX3, "perform", "(LRestBoard$Frame;)V"⟩
abbrev cX3_withTerm : ByteArray := prog_5_method_17_code
def yX3_withTerm : MethodName := ⟨RX3, "withTerm", "(LRestBoard$Frame;II)V"⟩
abbrev cX3_branch : ByteArray := prog_5_method_18_code
def yX3_branch : MethodName := ⟨RX3, "branch", "(LRestBoard$Frame;)V"⟩
abbrev cX3_loop : ByteArray := prog_5_method_19_code
def yX3_loop : MethodName := ⟨RX3, "loop", "(LRestBoard$Frame;)V"⟩
abbrev cX3_named : ByteArray := prog_5_method_20_code
def yX3_named : MethodName := ⟨RX3, "named", "(LRestBoard$Frame;III)I"⟩
abbrev cX3_storeLocal : ByteArray := prog_5_method_21_code
def yX3_storeLocal : MethodName := ⟨RX3, "storeLocal", "(LRestBoard$Frame;)V"⟩
abbrev cX3_storeNamed : ByteArray := prog_5_method_22_code
def yX3_storeNamed : MethodName := ⟨RX3, "storeNamed", "(LRestBoard$Frame;I)V"⟩
abbrev cX3_storePacked : ByteArray := prog_5_method_23_code
def yX3_storePacked : MethodName := ⟨RX3, "storePacked", "(LRestBoard$Frame;I)V"⟩
abbrev cX3_readPacked : ByteArray := prog_5_method_24_code
def yX3_readPacked : MethodName := ⟨RX3, "readPacked", "(LRestBoard$Frame;II)I"⟩
abbrev cX3_hasValue : ByteArray := prog_5_method_25_code
def yX3_hasValue : MethodName := ⟨RX3, "hasValue", "(LRestBoard$Frame;III)Z"⟩
abbrev cX3_acquire : ByteArray := prog_5_method_26_code
def yX3_acquire : MethodName := ⟨RX3, "acquire", "(LRestBoard$Frame;I)V"⟩
abbrev cX3_letGo : ByteArray := prog_5_method_27_code
def yX3_letGo : MethodName := ⟨RX3, "letGo", "(LRestBoard$Frame;II)V"⟩
abbrev cX3_reckon : ByteArray := prog_5_method_28_code
def yX3_reckon : MethodName := ⟨RX3, "reckon", "(LRestBoard$Frame;I)I"⟩
abbrev cX3_isOn : ByteArray := prog_5_method_29_code
def yX3_isOn : MethodName := ⟨RX3, "isOn", "(I)Z"⟩
abbrev cX3_valueNamed : ByteArray := prog_5_method_30_code
def yX3_valueNamed : MethodName := ⟨RX3, "valueNamed", "(LRestBoard$Frame;I)I"⟩
abbrev cX3_runNamed : ByteArray := prog_5_method_31_code
def yX3_runNamed : MethodName := ⟨RX3, "runNamed", "(LRestBoard$Frame;II)I"⟩
abbrev cX3_combined : ByteArray := prog_5_method_32_code
def yX3_combined : MethodName := ⟨RX3, "combined", "(LRestBoard$Frame;II)I"⟩
abbrev cX3_joined : ByteArray := prog_5_method_33_code
def yX3_joined : MethodName := ⟨RX3, "joined", "(III)I"⟩
def RX4 : String := "RestBoard$Node"
def TX4 : u_T := fun k => match k with
  | 0 => ("RestBoard$Node", "kind", "I", false)
  | 1 => ("RestBoard$Node", "name", "I", false)
  | 2 => ("RestBoard$Node", "parent", "I", false)
  | 3 => ("RestBoard$Node", "above", "I", false)
  | 4 => ("RestBoard$Node", "level", "I", false)
  | 5 => ("RestBoard$Node", "rank", "I", false)
  | 6 => ("RestBoard$Node", "args", "I", false)
  | 7 => ("RestBoard$Node", "length", "I", false)
  | 8 => ("RestBoard$Node", "bank", "I", false)
  | 9 => ("RestBoard$Node", "offset", "I", false)
  | 10 => ("RestBoard$Node", "width", "I", false)
  | 11 => ("RestBoard$Node", "rule", "I", false)
  | 12 => ("RestBoard$Node", "values", "[I", true)
  | _ => ("RestBoard$Node", "bytes", "[I", true)
def tyX4 : Nat → FieldType := fun k => match k with
  | 0 => .int
  | 1 => .int
  | 2 => .int
  | 3 => .int
  | 4 => .int
  | 5 => .int
  | 6 => .int
  | 7 => .int
  | 8 => .int
  | 9 => .int
  | 10 => .int
  | 11 => .int
  | 12 => .array .int
  | _ => .array .int
abbrev wsX40 : List Cond := u_ws RX4 TX4 14
theorem nmX4 : ∀ a, a < 14 → ∀ b, b < 14 → a ≠ b → (TX4 a).2.1 ≠ (TX4 b).2.1 := by decide +kernel
theorem tyX4_ok : ∀ k, k < 14 → parseFieldDescriptor (TX4 k).2.2.1 = some (tyX4 k) := by decide +kernel
abbrev cX4_init : ByteArray := prog_6_method_1_code
def yX4_init : MethodName := ⟨RX4, "<init>", "()V"⟩
abbrev cX4_begin : ByteArray := prog_6_method_2_code
def yX4_begin : MethodName := ⟨RX4, "begin", "(IIII)V"⟩
def RX5 : String := "RestBoard$Powers"
def TX5 : u_T := fun k => match k with
  | 0 => ("RestBoard$Powers", "tree", "LRestBoard$Tree;", true)
  | 1 => ("RestBoard$Powers", "now", "LRestBoard$State;", true)
  | 2 => ("RestBoard$Powers", "fresh", "[I", true)
  | _ => ("RestBoard$Powers", "remembered", "[I", true)
def tyX5 : Nat → FieldType := fun k => match k with
  | 0 => .object "RestBoard$Tree"
  | 1 => .object "RestBoard$State"
  | 2 => .array .int
  | _ => .array .int
abbrev wsX50 : List Cond := u_ws RX5 TX5 4
theorem nmX5 : ∀ a, a < 4 → ∀ b, b < 4 → a ≠ b → (TX5 a).2.1 ≠ (TX5 b).2.1 := by decide +kernel
theorem tyX5_ok : ∀ k, k < 4 → parseFieldDescriptor (TX5 k).2.2.1 = some (tyX5 k) := by decide +kernel
abbrev cX5_init : ByteArray := prog_7_method_1_code
def yX5_init : MethodName := ⟨RX5, "<init>", "(LRestBoard$Tree;LRestBoard$State;)V"⟩
abbrev cX5_can : ByteArray := prog_7_method_2_code
def yX5_can : MethodName := ⟨RX5, "can", "(II)Z"⟩
abbrev cX5_canArm : ByteArray := prog_7_method_3_code
def yX5_canArm : MethodName := ⟨RX5, "canArm", "(I)Z"⟩
abbrev cX5_allResources : ByteArray := prog_7_method_4_code
def yX5_allResources : MethodName := ⟨RX5, "allResources", "(III)Z"⟩
abbrev cX5_leastBelow : ByteArray := prog_7_method_5_code
def yX5_leastBelow : MethodName := ⟨RX5, "leastBelow", "(I)I"⟩
abbrev cX5_remember : ByteArray := prog_7_method_6_code
def yX5_remember : MethodName := ⟨RX5, "remember", "(I)V"⟩
abbrev cX5_takeBack : ByteArray := prog_7_method_7_code
def yX5_takeBack : MethodName := ⟨RX5, "takeBack", "(II)V"⟩
abbrev cX5_become : ByteArray := prog_7_method_8_code
def yX5_become : MethodName := ⟨RX5, "become", "(II)I"⟩
abbrev cX5_putBack : ByteArray := prog_7_method_9_code
def yX5_putBack : MethodName := ⟨RX5, "putBack", "(I)V"⟩
abbrev cX5_gather : ByteArray := prog_7_method_10_code
def yX5_gather : MethodName := ⟨RX5, "gather", "(III)V"⟩
abbrev cX5_change : ByteArray := prog_7_method_11_code
def yX5_change : MethodName := ⟨RX5, "change", "(II[II)I"⟩
abbrev cX5_tie : ByteArray := prog_7_method_12_code
def yX5_tie : MethodName := ⟨RX5, "tie", "(I)V"⟩
abbrev cX5_untie : ByteArray := prog_7_method_13_code
def yX5_untie : MethodName := ⟨RX5, "untie", "(I)I"⟩
abbrev cX5_include : ByteArray := prog_7_method_14_code
def yX5_include : MethodName := ⟨RX5, "include", "([III)I"⟩
abbrev cX5_exclude : ByteArray := prog_7_method_15_code
def yX5_exclude : MethodName := ⟨RX5, "exclude", "([III)I"⟩
abbrev cX5_turn : ByteArray := prog_7_method_16_code
def yX5_turn : MethodName := ⟨RX5, "turn", "(II)I"⟩
abbrev cX5_lowest : ByteArray := prog_7_method_17_code
def yX5_lowest : MethodName := ⟨RX5, "lowest", "(I)I"⟩
abbrev cX5_highest : ByteArray := prog_7_method_18_code
def yX5_highest : MethodName := ⟨RX5, "highest", "(I)I"⟩
abbrev cX5_needs : ByteArray := prog_7_method_19_code
def yX5_needs : MethodName := ⟨RX5, "needs", "(I)J"⟩
abbrev cX5_bits : ByteArray := prog_7_method_20_code
def yX5_bits : MethodName := ⟨RX5, "bits", "([III)J"⟩
abbrev cX5_resourcesOn : ByteArray := prog_7_method_21_code
def yX5_resourcesOn : MethodName := ⟨RX5, "resourcesOn", "()I"⟩
abbrev cX5_armedDevices : ByteArray := prog_7_method_22_code
def yX5_armedDevices : MethodName := ⟨RX5, "armedDevices", "()I"⟩
def RX6 : String := "RestBoard$Registers"
def TX6 : u_T := fun k => match k with
  | 0 => ("RestBoard$Registers", "bytes", "[I", true)
  | 1 => ("RestBoard$Registers", "select", "I", false)
  | 2 => ("RestBoard$Registers", "reads", "I", false)
  | _ => ("RestBoard$Registers", "writes", "I", false)
def tyX6 : Nat → FieldType := fun k => match k with
  | 0 => .array .int
  | 1 => .int
  | 2 => .int
  | _ => .int
abbrev wsX60 : List Cond := u_ws RX6 TX6 4
theorem nmX6 : ∀ a, a < 4 → ∀ b, b < 4 → a ≠ b → (TX6 a).2.1 ≠ (TX6 b).2.1 := by decide +kernel
theorem tyX6_ok : ∀ k, k < 4 → parseFieldDescriptor (TX6 k).2.2.1 = some (tyX6 k) := by decide +kernel
abbrev cX6_init : ByteArray := prog_8_method_1_code
def yX6_init : MethodName := ⟨RX6, "<init>", "()V"⟩
abbrev cX6_peek : ByteArray := prog_8_method_2_code
def yX6_peek : MethodName := ⟨RX6, "peek", "(LRestBoard$Node;)I"⟩
abbrev cX6_fetch : ByteArray := prog_8_method_3_code
def yX6_fetch : MethodName := ⟨RX6, "fetch", "(LRestBoard$Node;)I"⟩
abbrev cX6_put : ByteArray := prog_8_method_4_code
def yX6_put : MethodName := ⟨RX6, "put", "(LRestBoard$Node;I)V"⟩
abbrev cX6_take : ByteArray := prog_8_method_5_code
def yX6_take : MethodName := ⟨RX6, "take", "(LRestBoard$Registers;)V"⟩
abbrev cX6_choose : ByteArray := prog_8_method_6_code
def yX6_choose : MethodName := ⟨RX6, "choose", "(I)V"⟩
abbrev cX6_others : ByteArray := prog_8_method_7_code
def yX6_others : MethodName := ⟨RX6, "others", "(III)I"⟩
abbrev cX6_lastByte : ByteArray := prog_8_method_8_code
def yX6_lastByte : MethodName := ⟨RX6, "lastByte", "(LRestBoard$Node;)I"⟩
abbrev cX6_bitsIn : ByteArray := prog_8_method_9_code
def yX6_bitsIn : MethodName := ⟨RX6, "bitsIn", "(LRestBoard$Node;I)I"⟩
def RX7 : String := "RestBoard$Rests"
def TX7 : u_T := fun k => match k with
  | 0 => ("RestBoard$Rests", "tree", "LRestBoard$Tree;", true)
  | 1 => ("RestBoard$Rests", "now", "LRestBoard$State;", true)
  | 2 => ("RestBoard$Rests", "machine", "LRestBoard$Machine;", true)
  | 3 => ("RestBoard$Rests", "powers", "LRestBoard$Powers;", true)
  | _ => ("RestBoard$Rests", "turns", "[I", true)
def tyX7 : Nat → FieldType := fun k => match k with
  | 0 => .object "RestBoard$Tree"
  | 1 => .object "RestBoard$State"
  | 2 => .object "RestBoard$Machine"
  | 3 => .object "RestBoard$Powers"
  | _ => .array .int
abbrev wsX70 : List Cond := u_ws RX7 TX7 5
theorem nmX7 : ∀ a, a < 5 → ∀ b, b < 5 → a ≠ b → (TX7 a).2.1 ≠ (TX7 b).2.1 := by decide +kernel
theorem tyX7_ok : ∀ k, k < 5 → parseFieldDescriptor (TX7 k).2.2.1 = some (tyX7 k) := by decide +kernel
abbrev cX7_init : ByteArray := prog_9_method_1_code
def yX7_init : MethodName := ⟨RX7, "<init>", "(LRestBoard$Tree;LRestBoard$State;LRestBoard$Machine;LRestBoard$Powers;)V"⟩
abbrev cX7_obstacle : ByteArray := prog_9_method_2_code
def yX7_obstacle : MethodName := ⟨RX7, "obstacle", "(I)I"⟩
abbrev cX7_obstacleBy : ByteArray := prog_9_method_3_code
def yX7_obstacleBy : MethodName := ⟨RX7, "obstacleBy", "(II)I"⟩
abbrev cX7_numberOf : ByteArray := prog_9_method_4_code
def yX7_numberOf : MethodName := ⟨RX7, "numberOf", "(I)I"⟩
abbrev cX7_inTurn : ByteArray := prog_9_method_5_code
def yX7_inTurn : MethodName := ⟨RX7, "inTurn", "(I)I"⟩
abbrev cX7_sortDevices : ByteArray := prog_9_method_6_code
def yX7_sortDevices : MethodName := ⟨RX7, "sortDevices", "()I"⟩
abbrev cX7_mostAbove : ByteArray := prog_9_method_7_code
def yX7_mostAbove : MethodName := ⟨RX7, "mostAbove", "()I"⟩
abbrev cX7_enter : ByteArray := prog_9_method_8_code
def yX7_enter : MethodName := ⟨RX7, "enter", "(I)I"⟩
abbrev cX7_settle : ByteArray := prog_9_method_9_code
def yX7_settle : MethodName := ⟨RX7, "settle", "(II)I"⟩
abbrev cX7_powerFor : ByteArray := prog_9_method_10_code
def yX7_powerFor : MethodName := ⟨RX7, "powerFor", "(II)I"⟩
abbrev cX7_leastOf : ByteArray := prog_9_method_11_code
def yX7_leastOf : MethodName := ⟨RX7, "leastOf", "(I)I"⟩
abbrev cX7_someStaysOn : ByteArray := prog_9_method_12_code
def yX7_someStaysOn : MethodName := ⟨RX7, "someStaysOn", "(I)Z"⟩
abbrev cX7_changed : ByteArray := prog_9_method_13_code
def yX7_changed : MethodName := ⟨RX7, "changed", "()I"⟩
abbrev cX7_lift : ByteArray := prog_9_method_14_code
def yX7_lift : MethodName := ⟨RX7, "lift", "(I)I"⟩
abbrev cX7_tiedTo : ByteArray := prog_9_method_15_code
def yX7_tiedTo : MethodName := ⟨RX7, "tiedTo", "(I)I"⟩
abbrev cX7_wake : ByteArray := prog_9_method_16_code
def yX7_wake : MethodName := ⟨RX7, "wake", "(I)V"⟩
def RX8 : String := "RestBoard$State"
def TX8 : u_T := fun k => match k with
  | 0 => ("RestBoard$State", "size", "I", false)
  | 1 => ("RestBoard$State", "resting", "I", false)
  | 2 => ("RestBoard$State", "raised", "I", false)
  | 3 => ("RestBoard$State", "values", "[I", true)
  | 4 => ("RestBoard$State", "packed", "[I", true)
  | 5 => ("RestBoard$State", "counts", "[I", true)
  | 6 => ("RestBoard$State", "forgotten", "[I", true)
  | 7 => ("RestBoard$State", "powers", "[I", true)
  | 8 => ("RestBoard$State", "lines", "[I", true)
  | 9 => ("RestBoard$State", "depths", "[I", true)
  | 10 => ("RestBoard$State", "wanting", "[I", true)
  | 11 => ("RestBoard$State", "tied", "[I", true)
  | 12 => ("RestBoard$State", "oldPowers", "[I", true)
  | 13 => ("RestBoard$State", "oldWanting", "[I", true)
  | 14 => ("RestBoard$State", "registers", "LRestBoard$Registers;", true)
  | 15 => ("RestBoard$State", "notes", "LRestBoard$Log;", true)
  | _ => ("RestBoard$State", "switches", "LRestBoard$Log;", true)
def tyX8 : Nat → FieldType := fun k => match k with
  | 0 => .int
  | 1 => .int
  | 2 => .int
  | 3 => .array .int
  | 4 => .array .int
  | 5 => .array .int
  | 6 => .array .int
  | 7 => .array .int
  | 8 => .array .int
  | 9 => .array .int
  | 10 => .array .int
  | 11 => .array .int
  | 12 => .array .int
  | 13 => .array .int
  | 14 => .object "RestBoard$Registers"
  | 15 => .object "RestBoard$Log"
  | _ => .object "RestBoard$Log"
abbrev wsX80 : List Cond := u_ws RX8 TX8 17
theorem nmX8 : ∀ a, a < 17 → ∀ b, b < 17 → a ≠ b → (TX8 a).2.1 ≠ (TX8 b).2.1 := by decide +kernel
theorem tyX8_ok : ∀ k, k < 17 → parseFieldDescriptor (TX8 k).2.2.1 = some (tyX8 k) := by decide +kernel
abbrev cX8_init : ByteArray := prog_10_method_1_code
def yX8_init : MethodName := ⟨RX8, "<init>", "()V"⟩
abbrev cX8_welcome : ByteArray := prog_10_method_2_code
def yX8_welcome : MethodName := ⟨RX8, "welcome", "(ILRestBoard$Node;)V"⟩
abbrev cX8_take : ByteArray := prog_10_method_3_code
def yX8_take : MethodName := ⟨RX8, "take", "(LRestBoard$State;)V"⟩
abbrev cX8_rememberPowers : ByteArray := prog_10_method_4_code
def yX8_rememberPowers : MethodName := ⟨RX8, "rememberPowers", "()V"⟩
def RX9 : String := "RestBoard$Table"
def TX9 : u_T := fun k => match k with
  | 0 => ("RestBoard$Table", "tree", "LRestBoard$Tree;", true)
  | 1 => ("RestBoard$Table", "tape", "[I", true)
  | 2 => ("RestBoard$Table", "length", "I", false)
  | 3 => ("RestBoard$Table", "at", "I", false)
  | 4 => ("RestBoard$Table", "end", "I", false)
  | 5 => ("RestBoard$Table", "faultPlace", "I", false)
  | 6 => ("RestBoard$Table", "size", "I", false)
  | 7 => ("RestBoard$Table", "deviceEnds", "[I", true)
  | 8 => ("RestBoard$Table", "devices", "[I", true)
  | 9 => ("RestBoard$Table", "devicesOpen", "I", false)
  | 10 => ("RestBoard$Table", "blockEnds", "[I", true)
  | 11 => ("RestBoard$Table", "blockKinds", "[I", true)
  | 12 => ("RestBoard$Table", "blocksOpen", "I", false)
  | 13 => ("RestBoard$Table", "loopsOpen", "I", false)
  | _ => ("RestBoard$Table", "args", "I", false)
def tyX9 : Nat → FieldType := fun k => match k with
  | 0 => .object "RestBoard$Tree"
  | 1 => .array .int
  | 2 => .int
  | 3 => .int
  | 4 => .int
  | 5 => .int
  | 6 => .int
  | 7 => .array .int
  | 8 => .array .int
  | 9 => .int
  | 10 => .array .int
  | 11 => .array .int
  | 12 => .int
  | 13 => .int
  | _ => .int
abbrev wsX90 : List Cond := u_ws RX9 TX9 15
theorem nmX9 : ∀ a, a < 15 → ∀ b, b < 15 → a ≠ b → (TX9 a).2.1 ≠ (TX9 b).2.1 := by decide +kernel
theorem tyX9_ok : ∀ k, k < 15 → parseFieldDescriptor (TX9 k).2.2.1 = some (tyX9 k) := by decide +kernel
abbrev cX9_init : ByteArray := prog_11_method_1_code
def yX9_init : MethodName := ⟨RX9, "<init>", "(LRestBoard$Tree;)V"⟩
abbrev cX9_length : ByteArray := prog_11_method_2_code
def yX9_length : MethodName := ⟨RX9, "length", "()I"⟩
abbrev cX9_faultAt : ByteArray := prog_11_method_3_code
def yX9_faultAt : MethodName := ⟨RX9, "faultAt", "()I"⟩
abbrev cX9_append : ByteArray := prog_11_method_4_code
def yX9_append : MethodName := ⟨RX9, "append", "(IIIII)I"⟩
abbrev cX9_cut : ByteArray := prog_11_method_5_code
def yX9_cut : MethodName := ⟨RX9, "cut", "(I)I"⟩
abbrev cX9_appendFour : ByteArray := prog_11_method_6_code
def yX9_appendFour : MethodName := ⟨RX9, "appendFour", "(I)V"⟩
abbrev cX9_read : ByteArray := prog_11_method_7_code
def yX9_read : MethodName := ⟨RX9, "read", "(II)I"⟩
abbrev cX9_number : ByteArray := prog_11_method_8_code
def yX9_number : MethodName := ⟨RX9, "number", "(II)I"⟩
abbrev cX9_begins : ByteArray := prog_11_method_9_code
def yX9_begins : MethodName := ⟨RX9, "begins", "()Z"⟩
abbrev cX9_kindOf : ByteArray := prog_11_method_10_code
def yX9_kindOf : MethodName := ⟨RX9, "kindOf", "(I)I"⟩
abbrev cX9_content : ByteArray := prog_11_method_11_code
def yX9_content : MethodName := ⟨RX9, "content", "(LRestBoard$Node;)V"⟩
abbrev cX9_openDevice : ByteArray := prog_11_method_12_code
def yX9_openDevice : MethodName := ⟨RX9, "openDevice", "(I)V"⟩
abbrev cX9_values : ByteArray := prog_11_method_13_code
def yX9_values : MethodName := ⟨RX9, "values", "(LRestBoard$Node;I)V"⟩
abbrev cX9_method : ByteArray := prog_11_method_14_code
def yX9_method : MethodName := ⟨RX9, "method", "(LRestBoard$Node;)V"⟩
abbrev cX9_openBlock : ByteArray := prog_11_method_15_code
def yX9_openBlock : MethodName := ⟨RX9, "openBlock", "(I)V"⟩
abbrev cX9_closeBlock : ByteArray := prog_11_method_16_code
def yX9_closeBlock : MethodName := ⟨RX9, "closeBlock", "()I"⟩
abbrev cX9_statement : ByteArray := prog_11_method_17_code
def yX9_statement : MethodName := ⟨RX9, "statement", "(Z)V"⟩
abbrev cX9_term : ByteArray := prog_11_method_18_code
def yX9_term : MethodName := ⟨RX9, "term", "(I)V"⟩
abbrev cX9_partsOf : ByteArray := prog_11_method_19_code
def yX9_partsOf : MethodName := ⟨RX9, "partsOf", "(I)I"⟩
def RX10 : String := "RestBoard$Tree"
def TX10 : u_T := fun k => match k with
  | 0 => ("RestBoard$Tree", "nodes", "[LRestBoard$Node;", true)
  | _ => ("RestBoard$Tree", "now", "LRestBoard$State;", true)
def tyX10 : Nat → FieldType := fun k => match k with
  | 0 => .array (.object "RestBoard$Node")
  | _ => .object "RestBoard$State"
abbrev wsX100 : List Cond := u_ws RX10 TX10 2
theorem nmX10 : ∀ a, a < 2 → ∀ b, b < 2 → a ≠ b → (TX10 a).2.1 ≠ (TX10 b).2.1 := by decide +kernel
theorem tyX10_ok : ∀ k, k < 2 → parseFieldDescriptor (TX10 k).2.2.1 = some (tyX10 k) := by decide +kernel
abbrev cX10_init : ByteArray := prog_12_method_1_code
def yX10_init : MethodName := ⟨RX10, "<init>", "(LRestBoard$State;)V"⟩
abbrev cX10_has : ByteArray := prog_12_method_2_code
def yX10_has : MethodName := ⟨RX10, "has", "(I)Z"⟩
abbrev cX10_is : ByteArray := prog_12_method_3_code
def yX10_is : MethodName := ⟨RX10, "is", "(II)Z"⟩
abbrev cX10_holdsValue : ByteArray := prog_12_method_4_code
def yX10_holdsValue : MethodName := ⟨RX10, "holdsValue", "(I)Z"⟩
abbrev cX10_child : ByteArray := prog_12_method_5_code
def yX10_child : MethodName := ⟨RX10, "child", "(III)I"⟩
abbrev cX10_find : ByteArray := prog_12_method_6_code
def yX10_find : MethodName := ⟨RX10, "find", "(II)I"⟩
abbrev cX10_own : ByteArray := prog_12_method_7_code
def yX10_own : MethodName := ⟨RX10, "own", "(III)I"⟩
abbrev cX10_ownMethod : ByteArray := prog_12_method_8_code
def yX10_ownMethod : MethodName := ⟨RX10, "ownMethod", "(II)I"⟩
abbrev cX10_devices : ByteArray := prog_12_method_9_code
def yX10_devices : MethodName := ⟨RX10, "devices", "()I"⟩
abbrev cX10_grow : ByteArray := prog_12_method_10_code
def yX10_grow : MethodName := ⟨RX10, "grow", "(I)V"⟩
def RX11 : String := "RestBoard"
def TX11 : u_T := fun k => match k with
  | 0 => ("RestBoard", "now", "LRestBoard$State;", true)
  | 1 => ("RestBoard", "paper", "LRestBoard$State;", true)
  | 2 => ("RestBoard", "tree", "LRestBoard$Tree;", true)
  | 3 => ("RestBoard", "table", "LRestBoard$Table;", true)
  | 4 => ("RestBoard", "machine", "LRestBoard$Machine;", true)
  | 5 => ("RestBoard", "powers", "LRestBoard$Powers;", true)
  | 6 => ("RestBoard", "rests", "LRestBoard$Rests;", true)
  | 7 => ("RestBoard", "history", "LRestBoard$History;", true)
  | 8 => ("RestBoard", "refusals", "[I", true)
  | 9 => ("RestBoard", "refusedBy", "I", false)
  | _ => ("RestBoard", "latestFault", "I", false)
def tyX11 : Nat → FieldType := fun k => match k with
  | 0 => .object "RestBoard$State"
  | 1 => .object "RestBoard$State"
  | 2 => .object "RestBoard$Tree"
  | 3 => .object "RestBoard$Table"
  | 4 => .object "RestBoard$Machine"
  | 5 => .object "RestBoard$Powers"
  | 6 => .object "RestBoard$Rests"
  | 7 => .object "RestBoard$History"
  | 8 => .array .int
  | 9 => .int
  | _ => .int
abbrev wsX110 : List Cond := u_ws RX11 TX11 11
theorem nmX11 : ∀ a, a < 11 → ∀ b, b < 11 → a ≠ b → (TX11 a).2.1 ≠ (TX11 b).2.1 := by decide +kernel
theorem tyX11_ok : ∀ k, k < 11 → parseFieldDescriptor (TX11 k).2.2.1 = some (tyX11 k) := by decide +kernel
abbrev cX11_init : ByteArray := prog_1_method_1_code
def yX11_init : MethodName := ⟨RX11, "<init>", "()V"⟩
abbrev cX11_feed : ByteArray := prog_1_method_2_code
def yX11_feed : MethodName := ⟨RX11, "feed", "(IIIII)I"⟩
abbrev cX11_end : ByteArray := prog_1_method_3_code
def yX11_end : MethodName := ⟨RX11, "end", "(I)I"⟩
abbrev cX11_load : ByteArray := prog_1_method_4_code
def yX11_load : MethodName := ⟨RX11, "load", "(I)I"⟩
abbrev cX11_fault : ByteArray := prog_1_method_5_code
def yX11_fault : MethodName := ⟨RX11, "fault", "()I"⟩
abbrev cX11_call : ByteArray := prog_1_method_6_code
def yX11_call : MethodName := ⟨RX11, "call", "(IIII)I"⟩
abbrev cX11_store : ByteArray := prog_1_method_7_code
def yX11_store : MethodName := ⟨RX11, "store", "(II)I"⟩
abbrev cX11_power : ByteArray := prog_1_method_8_code
def yX11_power : MethodName := ⟨RX11, "power", "(II)I"⟩
abbrev cX11_arm : ByteArray := prog_1_method_9_code
def yX11_arm : MethodName := ⟨RX11, "arm", "(I)I"⟩
abbrev cX11_disarm : ByteArray := prog_1_method_10_code
def yX11_disarm : MethodName := ⟨RX11, "disarm", "(I)I"⟩
abbrev cX11_rest : ByteArray := prog_1_method_11_code
def yX11_rest : MethodName := ⟨RX11, "rest", "(I)I"⟩
abbrev cX11_raise : ByteArray := prog_1_method_12_code
def yX11_raise : MethodName := ⟨RX11, "raise", "(I)I"⟩
abbrev cX11_clear : ByteArray := prog_1_method_13_code
def yX11_clear : MethodName := ⟨RX11, "clear", "(I)I"⟩
abbrev cX11_undo : ByteArray := prog_1_method_14_code
def yX11_undo : MethodName := ⟨RX11, "undo", "()I"⟩
abbrev cX11_node : ByteArray := prog_1_method_15_code
def yX11_node : MethodName := ⟨RX11, "node", "(II)I"⟩
abbrev cX11_code : ByteArray := prog_1_method_16_code
def yX11_code : MethodName := ⟨RX11, "code", "(II)I"⟩
abbrev cX11_lookUp : ByteArray := prog_1_method_17_code
def yX11_lookUp : MethodName := ⟨RX11, "lookUp", "(II)I"⟩
abbrev cX11_register : ByteArray := prog_1_method_18_code
def yX11_register : MethodName := ⟨RX11, "register", "(II)I"⟩
abbrev cX11_wants : ByteArray := prog_1_method_19_code
def yX11_wants : MethodName := ⟨RX11, "wants", "(I)J"⟩
abbrev cX11_wanted : ByteArray := prog_1_method_20_code
def yX11_wanted : MethodName := ⟨RX11, "wanted", "(I)J"⟩
abbrev cX11_deepest : ByteArray := prog_1_method_21_code
def yX11_deepest : MethodName := ⟨RX11, "deepest", "()I"⟩
abbrev cX11_why : ByteArray := prog_1_method_22_code
def yX11_why : MethodName := ⟨RX11, "why", "(I)I"⟩
abbrev cX11_order : ByteArray := prog_1_method_23_code
def yX11_order : MethodName := ⟨RX11, "order", "(I)I"⟩
abbrev cX11_would : ByteArray := prog_1_method_24_code
def yX11_would : MethodName := ⟨RX11, "would", "(I)I"⟩
abbrev cX11_tries : ByteArray := prog_1_method_25_code
def yX11_tries : MethodName := ⟨RX11, "tries", "(IIIII)I"⟩
abbrev cX11_error : ByteArray := prog_1_method_26_code
def yX11_error : MethodName := ⟨RX11, "error", "(I)I"⟩
abbrev cX11_note : ByteArray := prog_1_method_27_code
def yX11_note : MethodName := ⟨RX11, "note", "(II)I"⟩
abbrev cX11_switched : ByteArray := prog_1_method_28_code
def yX11_switched : MethodName := ⟨RX11, "switched", "(II)I"⟩
abbrev cX11_count : ByteArray := prog_1_method_29_code
def yX11_count : MethodName := ⟨RX11, "count", "(I)I"⟩
abbrev cX11_status : ByteArray := prog_1_method_30_code
def yX11_status : MethodName := ⟨RX11, "status", "()I"⟩
abbrev cX11_refuse : ByteArray := prog_1_method_31_code
def yX11_refuse : MethodName := ⟨RX11, "refuse", "(I)I"⟩
abbrev cX11_accept : ByteArray := prog_1_method_32_code
def yX11_accept : MethodName := ⟨RX11, "accept", "(I)I"⟩
abbrev cX11_isValue : ByteArray := prog_1_method_33_code
def yX11_isValue : MethodName := ⟨RX11, "isValue", "(I)Z"⟩
abbrev cX11_isLine : ByteArray := prog_1_method_34_code
def yX11_isLine : MethodName := ⟨RX11, "isLine", "(I)Z"⟩
abbrev cX11_isRaised : ByteArray := prog_1_method_35_code
def yX11_isRaised : MethodName := ⟨RX11, "isRaised", "(I)Z"⟩
abbrev cX11_refusalToRun : ByteArray := prog_1_method_36_code
def yX11_refusalToRun : MethodName := ⟨RX11, "refusalToRun", "(IIII)I"⟩
abbrev cX11_refusalToChange : ByteArray := prog_1_method_37_code
def yX11_refusalToChange : MethodName := ⟨RX11, "refusalToChange", "(I)I"⟩
abbrev cX11_refusalToPower : ByteArray := prog_1_method_38_code
def yX11_refusalToPower : MethodName := ⟨RX11, "refusalToPower", "(II)I"⟩
abbrev cX11_refusalToRest : ByteArray := prog_1_method_39_code
def yX11_refusalToRest : MethodName := ⟨RX11, "refusalToRest", "(I)I"⟩
abbrev cX11_goOnPaper : ByteArray := prog_1_method_40_code
def yX11_goOnPaper : MethodName := ⟨RX11, "goOnPaper", "()V"⟩
abbrev cX11_comeBack : ByteArray := prog_1_method_41_code
def yX11_comeBack : MethodName := ⟨RX11, "comeBack", "()V"⟩
abbrev cX11_ofTheRun : ByteArray := prog_1_method_42_code
def yX11_ofTheRun : MethodName := ⟨RX11, "ofTheRun", "(II)I"⟩
abbrev cX11_ofItsKind : ByteArray := prog_1_method_43_code
def yX11_ofItsKind : MethodName := ⟨RX11, "ofItsKind", "(ILRestBoard$Node;I)I"⟩
abbrev cX11_ofDevice : ByteArray := prog_1_method_44_code
def yX11_ofDevice : MethodName := ⟨RX11, "ofDevice", "(II)I"⟩
abbrev cX11_ofPackage : ByteArray := prog_1_method_45_code
def yX11_ofPackage : MethodName := ⟨RX11, "ofPackage", "(III)I"⟩
abbrev cX11_ofField : ByteArray := prog_1_method_46_code
def yX11_ofField : MethodName := ⟨RX11, "ofField", "(ILRestBoard$Node;I)I"⟩
def RX12 : String := "RestBoardModel"
def TX12 : u_T := fun k => match k with
  | 0 => ("RestBoardModel", "thrown", "I", false)
  | 1 => ("RestBoardModel", "status", "I", false)
  | 2 => ("RestBoardModel", "refusals", "[I", true)
  | 3 => ("RestBoardModel", "row", "[I", true)
  | 4 => ("RestBoardModel", "undos", "[I", true)
  | 5 => ("RestBoardModel", "sorts", "[I", true)
  | 6 => ("RestBoardModel", "nUndo", "I", false)
  | 7 => ("RestBoardModel", "ahead", "[I", true)
  | 8 => ("RestBoardModel", "tape", "[I", true)
  | 9 => ("RestBoardModel", "taped", "I", false)
  | 10 => ("RestBoardModel", "spot", "I", false)
  | 11 => ("RestBoardModel", "limit", "I", false)
  | 12 => ("RestBoardModel", "fault", "I", false)
  | 13 => ("RestBoardModel", "bad", "Z", false)
  | 14 => ("RestBoardModel", "openDevice", "[I", true)
  | 15 => ("RestBoardModel", "openLimit", "[I", true)
  | 16 => ("RestBoardModel", "open", "I", false)
  | 17 => ("RestBoardModel", "blockSort", "[I", true)
  | 18 => ("RestBoardModel", "blockLimit", "[I", true)
  | 19 => ("RestBoardModel", "nBlocks", "I", false)
  | 20 => ("RestBoardModel", "loops", "I", false)
  | 21 => ("RestBoardModel", "termDepth", "[I", true)
  | 22 => ("RestBoardModel", "nTerms", "I", false)
  | 23 => ("RestBoardModel", "noted", "I", false)
  | 24 => ("RestBoardModel", "switched", "I", false)
  | 25 => ("RestBoardModel", "off", "I", false)
  | 26 => ("RestBoardModel", "todo", "[I", true)
  | 27 => ("RestBoardModel", "todoAt", "[I", true)
  | 28 => ("RestBoardModel", "todoEnd", "[I", true)
  | 29 => ("RestBoardModel", "nTodo", "I", false)
  | 30 => ("RestBoardModel", "values", "[I", true)
  | 31 => ("RestBoardModel", "nValues", "I", false)
  | 32 => ("RestBoardModel", "runNode", "[I", true)
  | 33 => ("RestBoardModel", "runPlace", "[I", true)
  | 34 => ("RestBoardModel", "runTodo", "[I", true)
  | 35 => ("RestBoardModel", "runValues", "[I", true)
  | 36 => ("RestBoardModel", "locals", "[I", true)
  | 37 => ("RestBoardModel", "args", "[I", true)
  | 38 => ("RestBoardModel", "locks", "[I", true)
  | 39 => ("RestBoardModel", "nRuns", "I", false)
  | 40 => ("RestBoardModel", "steps", "I", false)
  | 41 => ("RestBoardModel", "error", "I", false)
  | 42 => ("RestBoardModel", "reason", "I", false)
  | 43 => ("RestBoardModel", "result", "I", false)
  | 44 => ("RestBoardModel", "nTrace", "I", false)
  | 45 => ("RestBoardModel", "traceNode", "[I", true)
  | 46 => ("RestBoardModel", "tracePlace", "[I", true)
  | 47 => ("RestBoardModel", "places", "[I", true)
  | 48 => ("RestBoardModel", "latestError", "I", false)
  | 49 => ("RestBoardModel", "latestReason", "I", false)
  | 50 => ("RestBoardModel", "latestMany", "I", false)
  | 51 => ("RestBoardModel", "latestTrace", "[I", true)
  | 52 => ("RestBoardModel", "latestSteps", "I", false)
  | 53 => ("RestBoardModel", "isPaper", "Z", false)
  | 54 => ("RestBoardModel", "turns", "[Z", true)
  | 55 => ("RestBoardModel", "fresh", "[I", true)
  | 56 => ("RestBoardModel", "old", "[I", true)
  | 57 => ("RestBoardModel", "line1", "[I", true)
  | _ => ("RestBoardModel", "nLine", "I", false)
def tyX12 : Nat → FieldType := fun k => match k with
  | 0 => .int
  | 1 => .int
  | 2 => .array .int
  | 3 => .array .int
  | 4 => .array .int
  | 5 => .array .int
  | 6 => .int
  | 7 => .array .int
  | 8 => .array .int
  | 9 => .int
  | 10 => .int
  | 11 => .int
  | 12 => .int
  | 13 => .boolean
  | 14 => .array .int
  | 15 => .array .int
  | 16 => .int
  | 17 => .array .int
  | 18 => .array .int
  | 19 => .int
  | 20 => .int
  | 21 => .array .int
  | 22 => .int
  | 23 => .int
  | 24 => .int
  | 25 => .int
  | 26 => .array .int
  | 27 => .array .int
  | 28 => .array .int
  | 29 => .int
  | 30 => .array .int
  | 31 => .int
  | 32 => .array .int
  | 33 => .array .int
  | 34 => .array .int
  | 35 => .array .int
  | 36 => .array .int
  | 37 => .array .int
  | 38 => .array .int
  | 39 => .int
  | 40 => .int
  | 41 => .int
  | 42 => .int
  | 43 => .int
  | 44 => .int
  | 45 => .array .int
  | 46 => .array .int
  | 47 => .array .int
  | 48 => .int
  | 49 => .int
  | 50 => .int
  | 51 => .array .int
  | 52 => .int
  | 53 => .boolean
  | 54 => .array .boolean
  | 55 => .array .int
  | 56 => .array .int
  | 57 => .array .int
  | _ => .int
abbrev wsX120 : List Cond := u_ws RX12 TX12 59
theorem nmX12 : ∀ a, a < 59 → ∀ b, b < 59 → a ≠ b → (TX12 a).2.1 ≠ (TX12 b).2.1 := by decide +kernel
theorem tyX12_ok : ∀ k, k < 59 → parseFieldDescriptor (TX12 k).2.2.1 = some (tyX12 k) := by decide +kernel
abbrev cX12_init : ByteArray := prog_14_method_1_code
def yX12_init : MethodName := ⟨RX12, "<init>", "()V"⟩
abbrev cX12_in : ByteArray := prog_14_method_3_code
def yX12_in : MethodName := ⟨RX12, "in", "(JJJ)Z"⟩
abbrev cX12_tell : ByteArray := prog_14_method_4_code
def yX12_tell : MethodName := ⟨RX12, "tell", "(I)I"⟩
abbrev cX12_refuse : ByteArray := prog_14_method_5_code
def yX12_refuse : MethodName := ⟨RX12, "refuse", "(I)I"⟩
abbrev cX12_copy : ByteArray := prog_14_method_6_code
def yX12_copy : MethodName := ⟨RX12, "copy", "([II[II)V"⟩
abbrev cX12_remember : ByteArray := prog_14_method_7_code
def yX12_remember : MethodName := ⟨RX12, "remember", "(I)V"⟩
abbrev cX12_undo : ByteArray := prog_14_method_8_code
def yX12_undo : MethodName := ⟨RX12, "undo", "()I"⟩
abbrev cX12_at : ByteArray := prog_14_method_9_code
def yX12_at : MethodName := ⟨RX12, "at", "(I)I"⟩
abbrev cX12_kind : ByteArray := prog_14_method_10_code
def yX12_kind : MethodName := ⟨RX12, "kind", "(I)I"⟩
abbrev cX12_isNode : ByteArray := prog_14_method_11_code
def yX12_isNode : MethodName := ⟨RX12, "isNode", "(I)Z"⟩
abbrev cX12_isOf : ByteArray := prog_14_method_12_code
def yX12_isOf : MethodName := ⟨RX12, "isOf", "(II)Z"⟩
abbrev cX12_own : ByteArray := prog_14_method_13_code
def yX12_own : MethodName := ⟨RX12, "own", "(II)I"⟩
abbrev cX12_ownOf : ByteArray := prog_14_method_14_code
def yX12_ownOf : MethodName := ⟨RX12, "ownOf", "(III)I"⟩
abbrev cX12_seek : ByteArray := prog_14_method_15_code
def yX12_seek : MethodName := ⟨RX12, "seek", "(II)I"⟩
abbrev cX12_lookUp : ByteArray := prog_14_method_16_code
def yX12_lookUp : MethodName := ⟨RX12, "lookUp", "(II)I"⟩
abbrev cX12_isName : ByteArray := prog_14_method_17_code
def yX12_isName : MethodName := ⟨RX12, "isName", "(I)Z"⟩
abbrev cX12_four : ByteArray := prog_14_method_18_code
def yX12_four : MethodName := ⟨RX12, "four", "(I)V"⟩
abbrev cX12_feed : ByteArray := prog_14_method_19_code
def yX12_feed : MethodName := ⟨RX12, "feed", "(IIIII)I"⟩
abbrev cX12_end : ByteArray := prog_14_method_20_code
def yX12_end : MethodName := ⟨RX12, "end", "(I)I"⟩
abbrev cX12_fail : ByteArray := prog_14_method_21_code
def yX12_fail : MethodName := ⟨RX12, "fail", "(I)V"⟩
abbrev cX12_next : ByteArray := prog_14_method_22_code
def yX12_next : MethodName := ⟨RX12, "next", "(II)I"⟩
abbrev cX12_nextLong : ByteArray := prog_14_method_23_code
def yX12_nextLong : MethodName := ⟨RX12, "nextLong", "(I)I"⟩
abbrev cX12_nextName : ByteArray := prog_14_method_24_code
def yX12_nextName : MethodName := ⟨RX12, "nextName", "()I"⟩
abbrev cX12_add : ByteArray := prog_14_method_25_code
def yX12_add : MethodName := ⟨RX12, "add", "(III)I"⟩
abbrev cX12_kindOf : ByteArray := prog_14_method_26_code
def yX12_kindOf : MethodName := ⟨RX12, "kindOf", "(I)I"⟩
abbrev cX12_readDefinition : ByteArray := prog_14_method_27_code
def yX12_readDefinition : MethodName := ⟨RX12, "readDefinition", "()V"⟩
abbrev cX12_nextValue : ByteArray := prog_14_method_28_code
def yX12_nextValue : MethodName := ⟨RX12, "nextValue", "()I"⟩
abbrev cX12_readRest : ByteArray := prog_14_method_29_code
def yX12_readRest : MethodName := ⟨RX12, "readRest", "(I)V"⟩
abbrev cX12_openInner : ByteArray := prog_14_method_30_code
def yX12_openInner : MethodName := ⟨RX12, "openInner", "(I)V"⟩
abbrev cX12_leaveOver : ByteArray := prog_14_method_31_code
def yX12_leaveOver : MethodName := ⟨RX12, "leaveOver", "()V"⟩
abbrev cX12_readTable : ByteArray := prog_14_method_32_code
def yX12_readTable : MethodName := ⟨RX12, "readTable", "(I)V"⟩
abbrev cX12_load : ByteArray := prog_14_method_33_code
def yX12_load : MethodName := ⟨RX12, "load", "(I)I"⟩
abbrev cX12_swapWithAhead : ByteArray := prog_14_method_34_code
def yX12_swapWithAhead : MethodName := ⟨RX12, "swapWithAhead", "()V"⟩
abbrev cX12_fault : ByteArray := prog_14_method_35_code
def yX12_fault : MethodName := ⟨RX12, "fault", "()I"⟩
abbrev cX12_readCode : ByteArray := prog_14_method_36_code
def yX12_readCode : MethodName := ⟨RX12, "readCode", "(I)V"⟩
abbrev cX12_openBlock : ByteArray := prog_14_method_37_code
def yX12_openBlock : MethodName := ⟨RX12, "openBlock", "(I)V"⟩
abbrev cX12_readStatement : ByteArray := prog_14_method_38_code
def yX12_readStatement : MethodName := ⟨RX12, "readStatement", "(IZ)V"⟩
abbrev cX12_readTerms : ByteArray := prog_14_method_39_code
def yX12_readTerms : MethodName := ⟨RX12, "readTerms", "(II)V"⟩
abbrev cX12_await1 : ByteArray := prog_14_method_40_code
def yX12_await1 : MethodName := ⟨RX12, "await1", "(II)V"⟩
abbrev cX12_readTerm : ByteArray := prog_14_method_41_code
def yX12_readTerm : MethodName := ⟨RX12, "readTerm", "(II)V"⟩
abbrev cX12_bitAt : ByteArray := prog_14_method_42_code
def yX12_bitAt : MethodName := ⟨RX12, "bitAt", "(II)I"⟩
abbrev cX12_peek : ByteArray := prog_14_method_43_code
def yX12_peek : MethodName := ⟨RX12, "peek", "(I)I"⟩
abbrev cX12_select : ByteArray := prog_14_method_44_code
def yX12_select : MethodName := ⟨RX12, "select", "(I)V"⟩
abbrev cX12_firstByte : ByteArray := prog_14_method_45_code
def yX12_firstByte : MethodName := ⟨RX12, "firstByte", "(I)I"⟩
abbrev cX12_lastByte : ByteArray := prog_14_method_46_code
def yX12_lastByte : MethodName := ⟨RX12, "lastByte", "(I)I"⟩
abbrev cX12_readField : ByteArray := prog_14_method_47_code
def yX12_readField : MethodName := ⟨RX12, "readField", "(I)I"⟩
abbrev cX12_writeField : ByteArray := prog_14_method_48_code
def yX12_writeField : MethodName := ⟨RX12, "writeField", "(II)V"⟩
abbrev cX12_push : ByteArray := prog_14_method_49_code
def yX12_push : MethodName := ⟨RX12, "push", "(IIIII)V"⟩
abbrev cX12_notes : ByteArray := prog_14_method_50_code
def yX12_notes : MethodName := ⟨RX12, "notes", "(II)V"⟩
abbrev cX12_switches : ByteArray := prog_14_method_51_code
def yX12_switches : MethodName := ⟨RX12, "switches", "(II)V"⟩
abbrev cX12_codeAt : ByteArray := prog_14_method_52_code
def yX12_codeAt : MethodName := ⟨RX12, "codeAt", "(I)I"⟩
abbrev cX12_home : ByteArray := prog_14_method_53_code
def yX12_home : MethodName := ⟨RX12, "home", "()I"⟩
abbrev cX12_toDo : ByteArray := prog_14_method_54_code
def yX12_toDo : MethodName := ⟨RX12, "toDo", "(III)V"⟩
abbrev cX12_give : ByteArray := prog_14_method_55_code
def yX12_give : MethodName := ⟨RX12, "give", "(I)V"⟩
abbrev cX12_take : ByteArray := prog_14_method_56_code
def yX12_take : MethodName := ⟨RX12, "take", "()I"⟩
abbrev cX12_termEnd : ByteArray := prog_14_method_57_code
def yX12_termEnd : MethodName := ⟨RX12, "termEnd", "(I)I"⟩
abbrev cX12_statementEnd : ByteArray := prog_14_method_58_code
def yX12_statementEnd : MethodName := ⟨RX12, "statementEnd", "(II)I"⟩
abbrev cX12_releaseAll : ByteArray := prog_14_method_59_code
def yX12_releaseAll : MethodName := ⟨RX12, "releaseAll", "()V"⟩
abbrev cX12_fails : ByteArray := prog_14_method_60_code
def yX12_fails : MethodName := ⟨RX12, "fails", "(II)V"⟩
abbrev cX12_returns : ByteArray := prog_14_method_61_code
def yX12_returns : MethodName := ⟨RX12, "returns", "(I)V"⟩
abbrev cX12_enter : ByteArray := prog_14_method_62_code
def yX12_enter : MethodName := ⟨RX12, "enter", "(I)V"⟩
abbrev cX12_steps : ByteArray := prog_14_method_63_code
def yX12_steps : MethodName := ⟨RX12, "steps", "(I)Z"⟩
abbrev cX12_run : ByteArray := prog_14_method_64_code
def yX12_run : MethodName := ⟨RX12, "run", "(IIII)Z"⟩
abbrev cX12_goOn : ByteArray := prog_14_method_65_code
def yX12_goOn : MethodName := ⟨RX12, "goOn", "(III)V"⟩
abbrev cX12_test : ByteArray := prog_14_method_66_code
def yX12_test : MethodName := ⟨RX12, "test", "(I)V"⟩
abbrev cX12_beginTerm : ByteArray := prog_14_method_67_code
def yX12_beginTerm : MethodName := ⟨RX12, "beginTerm", "(I)V"⟩
abbrev cX12_toDoTerms : ByteArray := prog_14_method_68_code
def yX12_toDoTerms : MethodName := ⟨RX12, "toDoTerms", "(II)V"⟩
abbrev cX12_giveValue : ByteArray := prog_14_method_69_code
def yX12_giveValue : MethodName := ⟨RX12, "giveValue", "(I)V"⟩
abbrev cX12_giveOn : ByteArray := prog_14_method_70_code
def yX12_giveOn : MethodName := ⟨RX12, "giveOn", "(I)V"⟩
abbrev cX12_apply : ByteArray := prog_14_method_71_code
def yX12_apply : MethodName := ⟨RX12, "apply", "(I)V"⟩
abbrev cX12_callIt : ByteArray := prog_14_method_72_code
def yX12_callIt : MethodName := ⟨RX12, "callIt", "(II)V"⟩
abbrev cX12_operate : ByteArray := prog_14_method_73_code
def yX12_operate : MethodName := ⟨RX12, "operate", "(III)V"⟩
abbrev cX12_beginStatement : ByteArray := prog_14_method_74_code
def yX12_beginStatement : MethodName := ⟨RX12, "beginStatement", "(II)V"⟩
abbrev cX12_leaveLoop : ByteArray := prog_14_method_75_code
def yX12_leaveLoop : MethodName := ⟨RX12, "leaveLoop", "()V"⟩
abbrev cX12_locks : ByteArray := prog_14_method_76_code
def yX12_locks : MethodName := ⟨RX12, "locks", "(IZ)V"⟩
abbrev cX12_does : ByteArray := prog_14_method_77_code
def yX12_does : MethodName := ⟨RX12, "does", "(II)V"⟩
abbrev cX12_stores : ByteArray := prog_14_method_78_code
def yX12_stores : MethodName := ⟨RX12, "stores", "(II)V"⟩
abbrev cX12_putIn : ByteArray := prog_14_method_79_code
def yX12_putIn : MethodName := ⟨RX12, "putIn", "(III)V"⟩
abbrev cX12_runs : ByteArray := prog_14_method_80_code
def yX12_runs : MethodName := ⟨RX12, "runs", "(IIII)Z"⟩
abbrev cX12_runsOwn : ByteArray := prog_14_method_81_code
def yX12_runsOwn : MethodName := ⟨RX12, "runsOwn", "(III)Z"⟩
abbrev cX12_isValue : ByteArray := prog_14_method_82_code
def yX12_isValue : MethodName := ⟨RX12, "isValue", "(I)Z"⟩
abbrev cX12_call : ByteArray := prog_14_method_83_code
def yX12_call : MethodName := ⟨RX12, "call", "(IIII)I"⟩
abbrev cX12_store : ByteArray := prog_14_method_84_code
def yX12_store : MethodName := ⟨RX12, "store", "(II)I"⟩
abbrev cX12_noTurns : ByteArray := prog_14_method_85_code
def yX12_noTurns : MethodName := ⟨RX12, "noTurns", "()V"⟩
abbrev cX12_counts : ByteArray := prog_14_method_86_code
def yX12_counts : MethodName := ⟨RX12, "counts", "([IIZ)V"⟩
abbrev cX12_resourceBy : ByteArray := prog_14_method_87_code
def yX12_resourceBy : MethodName := ⟨RX12, "resourceBy", "(II)I"⟩
abbrev cX12_packageOf : ByteArray := prog_14_method_88_code
def yX12_packageOf : MethodName := ⟨RX12, "packageOf", "(II)I"⟩
abbrev cX12_canHave : ByteArray := prog_14_method_89_code
def yX12_canHave : MethodName := ⟨RX12, "canHave", "(II)Z"⟩
abbrev cX12_copyList : ByteArray := prog_14_method_90_code
def yX12_copyList : MethodName := ⟨RX12, "copyList", "([II[II)V"⟩
abbrev cX12_has : ByteArray := prog_14_method_91_code
def yX12_has : MethodName := ⟨RX12, "has", "(II[I)V"⟩
abbrev cX12_powers : ByteArray := prog_14_method_92_code
def yX12_powers : MethodName := ⟨RX12, "powers", "(II)V"⟩
abbrev cX12_isDevice : ByteArray := prog_14_method_93_code
def yX12_isDevice : MethodName := ⟨RX12, "isDevice", "(I)Z"⟩
abbrev cX12_fitsBelow : ByteArray := prog_14_method_94_code
def yX12_fitsBelow : MethodName := ⟨RX12, "fitsBelow", "(II)Z"⟩
abbrev cX12_power : ByteArray := prog_14_method_95_code
def yX12_power : MethodName := ⟨RX12, "power", "(II)I"⟩
abbrev cX12_canArm : ByteArray := prog_14_method_96_code
def yX12_canArm : MethodName := ⟨RX12, "canArm", "(II)Z"⟩
abbrev cX12_arm : ByteArray := prog_14_method_97_code
def yX12_arm : MethodName := ⟨RX12, "arm", "(I)I"⟩
abbrev cX12_disarm : ByteArray := prog_14_method_98_code
def yX12_disarm : MethodName := ⟨RX12, "disarm", "(I)I"⟩
abbrev cX12_restNumber : ByteArray := prog_14_method_99_code
def yX12_restNumber : MethodName := ⟨RX12, "restNumber", "(I)I"⟩
abbrev cX12_isArmed : ByteArray := prog_14_method_100_code
def yX12_isArmed : MethodName := ⟨RX12, "isArmed", "(I)Z"⟩
abbrev cX12_isLevel : ByteArray := prog_14_method_101_code
def yX12_isLevel : MethodName := ⟨RX12, "isLevel", "(II)Z"⟩
abbrev cX12_whyNot : ByteArray := prog_14_method_102_code
def yX12_whyNot : MethodName := ⟨RX12, "whyNot", "(I)I"⟩
abbrev cX12_above : ByteArray := prog_14_method_103_code
def yX12_above : MethodName := ⟨RX12, "above", "(I)I"⟩
abbrev cX12_layOrder : ByteArray := prog_14_method_104_code
def yX12_layOrder : MethodName := ⟨RX12, "layOrder", "()V"⟩
abbrev cX12_restPower : ByteArray := prog_14_method_105_code
def yX12_restPower : MethodName := ⟨RX12, "restPower", "(II)I"⟩
abbrev cX12_goBack : ByteArray := prog_14_method_106_code
def yX12_goBack : MethodName := ⟨RX12, "goBack", "(I)V"⟩
abbrev cX12_isDeepEnough : ByteArray := prog_14_method_107_code
def yX12_isDeepEnough : MethodName := ⟨RX12, "isDeepEnough", "(I)Z"⟩
abbrev cX12_restsOne : ByteArray := prog_14_method_108_code
def yX12_restsOne : MethodName := ⟨RX12, "restsOne", "(III)I"⟩
abbrev cX12_restsAll : ByteArray := prog_14_method_109_code
def yX12_restsAll : MethodName := ⟨RX12, "restsAll", "(I)I"⟩
abbrev cX12_whyRest : ByteArray := prog_14_method_110_code
def yX12_whyRest : MethodName := ⟨RX12, "whyRest", "(I)I"⟩
abbrev cX12_rest : ByteArray := prog_14_method_111_code
def yX12_rest : MethodName := ⟨RX12, "rest", "(I)I"⟩
abbrev cX12_would : ByteArray := prog_14_method_112_code
def yX12_would : MethodName := ⟨RX12, "would", "(I)I"⟩
abbrev cX12_isTied : ByteArray := prog_14_method_113_code
def yX12_isTied : MethodName := ⟨RX12, "isTied", "(II)Z"⟩
abbrev cX12_wakes : ByteArray := prog_14_method_114_code
def yX12_wakes : MethodName := ⟨RX12, "wakes", "()V"⟩
abbrev cX12_raise : ByteArray := prog_14_method_115_code
def yX12_raise : MethodName := ⟨RX12, "raise", "(I)I"⟩
abbrev cX12_clear : ByteArray := prog_14_method_116_code
def yX12_clear : MethodName := ⟨RX12, "clear", "(I)I"⟩
abbrev cX12_node : ByteArray := prog_14_method_117_code
def yX12_node : MethodName := ⟨RX12, "node", "(II)I"⟩
abbrev cX12_deviceOf : ByteArray := prog_14_method_118_code
def yX12_deviceOf : MethodName := ⟨RX12, "deviceOf", "(II)I"⟩
abbrev cX12_code : ByteArray := prog_14_method_119_code
def yX12_code : MethodName := ⟨RX12, "code", "(II)I"⟩
abbrev cX12_register : ByteArray := prog_14_method_120_code
def yX12_register : MethodName := ⟨RX12, "register", "(II)I"⟩
abbrev cX12_bitsOf : ByteArray := prog_14_method_121_code
def yX12_bitsOf : MethodName := ⟨RX12, "bitsOf", "(I)J"⟩
abbrev cX12_wantsOf : ByteArray := prog_14_method_122_code
def yX12_wantsOf : MethodName := ⟨RX12, "wantsOf", "(I)J"⟩
abbrev cX12_wants : ByteArray := prog_14_method_123_code
def yX12_wants : MethodName := ⟨RX12, "wants", "(I)J"⟩
abbrev cX12_wanted : ByteArray := prog_14_method_124_code
def yX12_wanted : MethodName := ⟨RX12, "wanted", "(I)J"⟩
abbrev cX12_deepest : ByteArray := prog_14_method_125_code
def yX12_deepest : MethodName := ⟨RX12, "deepest", "()I"⟩
abbrev cX12_why : ByteArray := prog_14_method_126_code
def yX12_why : MethodName := ⟨RX12, "why", "(I)I"⟩
abbrev cX12_order : ByteArray := prog_14_method_127_code
def yX12_order : MethodName := ⟨RX12, "order", "(I)I"⟩
abbrev cX12_forgotten : ByteArray := prog_14_method_128_code
def yX12_forgotten : MethodName := ⟨RX12, "forgotten", "()I"⟩
abbrev cX12_tries : ByteArray := prog_14_method_129_code
def yX12_tries : MethodName := ⟨RX12, "tries", "(IIIII)I"⟩
abbrev cX12_error : ByteArray := prog_14_method_130_code
def yX12_error : MethodName := ⟨RX12, "error", "(I)I"⟩
abbrev cX12_note : ByteArray := prog_14_method_131_code
def yX12_note : MethodName := ⟨RX12, "note", "(II)I"⟩
abbrev cX12_switched : ByteArray := prog_14_method_132_code
def yX12_switched : MethodName := ⟨RX12, "switched", "(II)I"⟩
abbrev cX12_manyOf : ByteArray := prog_14_method_133_code
def yX12_manyOf : MethodName := ⟨RX12, "manyOf", "(I)I"⟩
abbrev cX12_armedOnes : ByteArray := prog_14_method_134_code
def yX12_armedOnes : MethodName := ⟨RX12, "armedOnes", "()I"⟩
abbrev cX12_count : ByteArray := prog_14_method_135_code
def yX12_count : MethodName := ⟨RX12, "count", "(I)I"⟩
abbrev cX12_status : ByteArray := prog_14_method_136_code
def yX12_status : MethodName := ⟨RX12, "status", "()I"⟩
def RJ6 : String := "java/lang/Integer"
def TJ6 : u_T := fun k => match k with
  | _ => ("", "", "", false)
def tyJ6 : Nat → FieldType := fun k => match k with
  | _ => .int
abbrev wsJ60 : List Cond := u_ws RJ6 TJ6 0
theorem nmJ6 : ∀ a, a < 0 → ∀ b, b < 0 → a ≠ b → (TJ6 a).2.1 ≠ (TJ6 b).2.1 := by decide +kernel
theorem tyJ6_ok : ∀ k, k < 0 → parseFieldDescriptor (TJ6 k).2.2.1 = some (tyJ6 k) := by decide +kernel
abbrev cJ6_bitCount_0f7a4 : ByteArray := prog_15_method_49_code
def yJ6_bitCount_0f7a4 : MethodName := ⟨RJ6, "bitCount", "(I)I"⟩
def RJ9 : String := "java/lang/Math"
def TJ9 : u_T := fun k => match k with
  | _ => ("", "", "", false)
def tyJ9 : Nat → FieldType := fun k => match k with
  | _ => .int
abbrev wsJ90 : List Cond := u_ws RJ9 TJ9 0
theorem nmJ9 : ∀ a, a < 0 → ∀ b, b < 0 → a ≠ b → (TJ9 a).2.1 ≠ (TJ9 b).2.1 := by decide +kernel
theorem tyJ9_ok : ∀ k, k < 0 → parseFieldDescriptor (TJ9 k).2.2.1 = some (tyJ9 k) := by decide +kernel
abbrev cJ9_max_7cf53 : ByteArray := prog_16_method_65_code
def yJ9_max_7cf53 : MethodName := ⟨RJ9, "max", "(II)I"⟩
abbrev cJ9_min_7cf53 : ByteArray := prog_16_method_69_code
def yJ9_min_7cf53 : MethodName := ⟨RJ9, "min", "(II)I"⟩
def RJ10 : String := "java/lang/System"
def TJ10 : u_T := fun k => match k with
  | _ => ("", "", "", false)
def tyJ10 : Nat → FieldType := fun k => match k with
  | _ => .int
abbrev wsJ100 : List Cond := u_ws RJ10 TJ10 0
theorem nmJ10 : ∀ a, a < 0 → ∀ b, b < 0 → a ≠ b → (TJ10 a).2.1 ≠ (TJ10 b).2.1 := by decide +kernel
theorem tyJ10_ok : ∀ k, k < 0 → parseFieldDescriptor (TJ10 k).2.2.1 = some (tyJ10 k) := by decide +kernel
def RJ7 : String := "java/util/Arrays"
def TJ7 : u_T := fun k => match k with
  | _ => ("", "", "", false)
def tyJ7 : Nat → FieldType := fun k => match k with
  | _ => .int
abbrev wsJ70 : List Cond := u_ws RJ7 TJ7 0
theorem nmJ7 : ∀ a, a < 0 → ∀ b, b < 0 → a ≠ b → (TJ7 a).2.1 ≠ (TJ7 b).2.1 := by decide +kernel
theorem tyJ7_ok : ∀ k, k < 0 → parseFieldDescriptor (TJ7 k).2.2.1 = some (tyJ7 k) := by decide +kernel
abbrev cJ7_rangeCheck_23922 : ByteArray := prog_18_method_30_code
def yJ7_rangeCheck_23922 : MethodName := ⟨RJ7, "rangeCheck", "(III)V"⟩
abbrev cJ7_fill_53178 : ByteArray := prog_18_method_103_code
def yJ7_fill_53178 : MethodName := ⟨RJ7, "fill", "([II)V"⟩
abbrev cJ7_fill_fda19 : ByteArray := prog_18_method_104_code
def yJ7_fill_fda19 : MethodName := ⟨RJ7, "fill", "([IIII)V"⟩
def RL : String := "RestBoardLaw"
abbrev cL_law : ByteArray := code
def yL_law : MethodName := ⟨RL, "law", "([I)Z"⟩
def wsX10_has : List Cond := .code yX10_has cX10_has 2 (some .boolean) :: ([.fieldLink RX10 17 "RestBoard$Tree" "now" "LRestBoard$State;", .fieldLink RX10 26 "RestBoard$State" "size" "I"] ++ wsX100 ++ wsX80)
def wsX10_is : List Cond := .code yX10_is cX10_is 3 (some .boolean) :: ([.fieldLink RX10 11 "RestBoard$Tree" "nodes" "[LRestBoard$Node;", .fieldLink RX10 36 "RestBoard$Node" "kind" "I", .methodLink RX10 32 yX10_has, .instanceMethod yX10_has, .selects RX10 yX10_has yX10_has, .initialized RX10, .code yX10_has cX10_has 2 (some .boolean), .fieldLink RX10 17 "RestBoard$Tree" "now" "LRestBoard$State;", .fieldLink RX10 26 "RestBoard$State" "size" "I"] ++ wsX100 ++ wsX40 ++ wsX80)
set_option maxRecDepth 20000 in
theorem wsL_law_in : ∀ w ∈ wsL_law, w ∈ lw_tbl := fun w h => (goodIn_p wsL_law [188, 191, 196, 202, 226, 244, 343, 350, 437, 455, 507, 514, 602, 621, 643, 1407, 701, 705, 709, 1639, 1643, 713, 717, 1647, 721, 725, 729, 733, 737, 741, 745, 748, 752, 757, 768, 761, 765, 775, 779, 783, 787, 791, 795, 799, 803, 807, 812, 817, 823, 827, 831, 1651, 1610, 1614, 1617, 1621, 1624, 1595, 1598, 1655, 1659, 1663, 1667, 1670, 1674, 1635, 1678, 1682, 1686, 1690, 1694, 1698, 1702, 1706, 1710, 1714, 1718, 1722, 1726, 1730, 1602, 835, 1734, 839, 843, 846, 851, 855, 859, 865, 1018, 986, 885, 990, 994, 869, 942, 930, 881, 933, 999, 946, 877, 918, 893, 1002, 1006, 922, 926, 873, 889, 899, 903, 906, 910, 938, 914, 950, 954, 958, 963, 967, 970, 973, 978, 982, 1010, 1014, 1738, 1741, 1746, 1750, 1754, 1758, 1762, 1766, 1770, 1774, 1778, 1782, 1786, 1791, 1631, 1795, 1799, 1803, 1807, 1811, 1815, 1819, 1823, 1827, 1831, 1835, 1839, 1843, 1848, 1852, 1856, 1860, 1864, 1868, 1872, 1876, 1880, 1884, 1888, 1892, 1896, 1022, 1027, 1900, 1033, 1037, 1041, 1045, 1050, 1054, 1058, 1064, 1068, 1073, 1077, 1082, 1086, 1090, 1094, 1098, 1102, 1109, 1113, 1118, 1904, 1909, 1913, 1917, 1921, 1925, 1627, 1929, 1932, 1936, 1940, 1944, 1948, 1952, 1956, 1122, 1126, 1129, 1133, 1960, 1964, 1137, 1141, 1144, 1147, 1970, 1151, 1155, 1159, 1163, 1168, 1173, 1178, 1182, 1186, 1191, 1197, 1201, 1208, 1212, 1216, 1974, 1978, 1982, 1986, 1990, 1994, 1998, 2002, 2006, 2010, 2014, 2018, 2022, 1220, 1225, 1229, 1233, 1237, 2030, 2034, 2038, 1242, 2042, 1246, 1250, 1254, 1591, 1258, 1263, 1267, 1271, 1275, 2046, 2051, 1279, 2059, 1283, 1606, 1288, 2063, 1292, 1296, 1299, 2067, 2071, 2075, 1304, 2080, 1308, 2084, 1312, 2088, 1316, 1320, 2092, 1324, 1328, 1333, 1338, 1342, 2026, 1346, 1350, 1354, 1358, 2096, 2100, 1362, 1366, 2104, 1370, 1374, 2108, 1378, 2112, 1382, 1386, 1390, 1394, 1398, 2116, 2120, 2124, 1402, 2129] (by decide +kernel) (by decide +kernel) w h).1
theorem inlX0 : ∀ w ∈ wsX00, w ∈ wsL_law := fun _ h => List.mem_append_left _ (List.mem_append_right _ h)
theorem inX0 : ∀ w ∈ wsX00, w ∈ lw_tbl := fun w h => wsL_law_in w (inlX0 w h)
theorem inlX1 : ∀ w ∈ wsX10, w ∈ wsL_law := fun _ h => List.mem_append_left _ (List.mem_append_left _ (List.mem_append_left _ (List.mem_append_left _ (List.mem_append_left _ (List.mem_append_right _ h)))))
theorem inX1 : ∀ w ∈ wsX10, w ∈ lw_tbl := fun w h => wsL_law_in w (inlX1 w h)
theorem inlX2 : ∀ w ∈ wsX20, w ∈ wsL_law := fun _ h => List.mem_append_left _ (List.mem_append_left _ (List.mem_append_left _ (List.mem_append_right _ h)))
theorem inX2 : ∀ w ∈ wsX20, w ∈ lw_tbl := fun w h => wsL_law_in w (inlX2 w h)
theorem inlX3 : ∀ w ∈ wsX30, w ∈ wsL_law := fun _ h => List.mem_append_left _ (List.mem_append_left _ (List.mem_append_left _ (List.mem_append_left _ (List.mem_append_left _ (List.mem_append_left _ (List.mem_append_left _ (List.mem_append_left _ (List.mem_append_right _ h))))))))
theorem inX3 : ∀ w ∈ wsX30, w ∈ lw_tbl := fun w h => wsL_law_in w (inlX3 w h)
theorem inlX4 : ∀ w ∈ wsX40, w ∈ wsL_law := fun _ h => List.mem_append_left _ (List.mem_append_left _ (List.mem_append_right _ h))
theorem inX4 : ∀ w ∈ wsX40, w ∈ lw_tbl := fun w h => wsL_law_in w (inlX4 w h)
theorem inlX5 : ∀ w ∈ wsX50, w ∈ wsL_law := fun _ h => List.mem_append_left _ (List.mem_append_left _ (List.mem_append_left _ (List.mem_append_left _ (List.mem_append_left _ (List.mem_append_left _ (List.mem_append_left _ (List.mem_append_right _ h)))))))
theorem inX5 : ∀ w ∈ wsX50, w ∈ lw_tbl := fun w h => wsL_law_in w (inlX5 w h)
theorem inlX6 : ∀ w ∈ wsX60, w ∈ wsL_law := fun _ h => List.mem_append_left _ (List.mem_append_left _ (List.mem_append_left _ (List.mem_append_left _ (List.mem_append_right _ h))))
theorem inX6 : ∀ w ∈ wsX60, w ∈ lw_tbl := fun w h => wsL_law_in w (inlX6 w h)
theorem inlX7 : ∀ w ∈ wsX70, w ∈ wsL_law := fun _ h => List.mem_append_left _ (List.mem_append_left _ (List.mem_append_left _ (List.mem_append_left _ (List.mem_append_left _ (List.mem_append_left _ (List.mem_append_right _ h))))))
theorem inX7 : ∀ w ∈ wsX70, w ∈ lw_tbl := fun w h => wsL_law_in w (inlX7 w h)
theorem inlX8 : ∀ w ∈ wsX80, w ∈ wsL_law := fun _ h => List.mem_append_left _ (List.mem_append_left _ (List.mem_append_left _ (List.mem_append_left _ (List.mem_append_left _ (List.mem_append_left _ (List.mem_append_left _ (List.mem_append_left _ (List.mem_append_left _ (List.mem_append_left _ (List.mem_append_left _ (List.mem_append_right _ h)))))))))))
theorem inX8 : ∀ w ∈ wsX80, w ∈ lw_tbl := fun w h => wsL_law_in w (inlX8 w h)
theorem inlX9 : ∀ w ∈ wsX90, w ∈ wsL_law := fun _ h => List.mem_append_left _ (List.mem_append_left _ (List.mem_append_left _ (List.mem_append_left _ (List.mem_append_left _ (List.mem_append_left _ (List.mem_append_left _ (List.mem_append_left _ (List.mem_append_left _ (List.mem_append_right _ h)))))))))
theorem inX9 : ∀ w ∈ wsX90, w ∈ lw_tbl := fun w h => wsL_law_in w (inlX9 w h)
theorem inlX10 : ∀ w ∈ wsX100, w ∈ wsL_law := fun _ h => List.mem_append_left _ (List.mem_append_left _ (List.mem_append_left _ (List.mem_append_left _ (List.mem_append_left _ (List.mem_append_left _ (List.mem_append_left _ (List.mem_append_left _ (List.mem_append_left _ (List.mem_append_left _ (List.mem_append_right _ h))))))))))
theorem inX10 : ∀ w ∈ wsX100, w ∈ lw_tbl := fun w h => wsL_law_in w (inlX10 w h)
theorem inlX11 : ∀ w ∈ wsX110, w ∈ wsL_law := fun _ h => List.mem_append_left _ (List.mem_append_left _ (List.mem_append_left _ (List.mem_append_left _ (List.mem_append_left _ (List.mem_append_left _ (List.mem_append_left _ (List.mem_append_left _ (List.mem_append_left _ (List.mem_append_left _ (List.mem_append_left _ (List.mem_append_left _ (List.mem_append_left _ (List.mem_append_right _ h)))))))))))))
theorem inX11 : ∀ w ∈ wsX110, w ∈ lw_tbl := fun w h => wsL_law_in w (inlX11 w h)
theorem inlX12 : ∀ w ∈ wsX120, w ∈ wsL_law := fun _ h => List.mem_append_left _ (List.mem_append_left _ (List.mem_append_left _ (List.mem_append_left _ (List.mem_append_left _ (List.mem_append_left _ (List.mem_append_left _ (List.mem_append_left _ (List.mem_append_left _ (List.mem_append_left _ (List.mem_append_left _ (List.mem_append_left _ (List.mem_append_right _ h))))))))))))
theorem inX12 : ∀ w ∈ wsX120, w ∈ lw_tbl := fun w h => wsL_law_in w (inlX12 w h)
theorem inJ6 : ∀ w ∈ wsJ60, w ∈ lw_tbl := by decide +kernel
theorem inJ9 : ∀ w ∈ wsJ90, w ∈ lw_tbl := by decide +kernel
theorem inJ10 : ∀ w ∈ wsJ100, w ∈ lw_tbl := by decide +kernel
theorem inJ7 : ∀ w ∈ wsJ70, w ∈ lw_tbl := by decide +kernel
theorem dX10_has_0 : decode cX10_has 0 = .ok (.iload_n 1, 1) := by decide +kernel
theorem dX10_has_1 : decode cX10_has 1 = .ok (.ifCond .lt 18, 3) := by decide +kernel
theorem dX10_has_4 : decode cX10_has 4 = .ok (.iload_n 1, 1) := by decide +kernel
theorem dX10_has_5 : decode cX10_has 5 = .ok (.aload_n 0, 1) := by decide +kernel
theorem dX10_has_6 : decode cX10_has 6 = .ok (.getfield 17, 3) := by decide +kernel
theorem dX10_has_9 : decode cX10_has 9 = .ok (.getfield 26, 3) := by decide +kernel
theorem dX10_has_12 : decode cX10_has 12 = .ok (.if_icmp .ge 7, 3) := by decide +kernel
theorem dX10_has_15 : decode cX10_has 15 = .ok (.iconst 1, 1) := by decide +kernel
theorem dX10_has_16 : decode cX10_has 16 = .ok (.goto 4, 3) := by decide +kernel
theorem dX10_has_19 : decode cX10_has 19 = .ok (.iconst 0, 1) := by decide +kernel
theorem dX10_has_20 : decode cX10_has 20 = .ok (.ireturn, 1) := by decide +kernel
set_option maxRecDepth 20000 in
theorem ggX10_is_X10_has : GoodIn wsX10_is wsX10_has := goodIn_r _ [7, 8, 9, 10, 11, 26, 27, 28, 29, 30, 31, 32, 33, 34, 35, 36, 37, 38, 39, 40, 41, 42] (by decide +kernel) (by decide +kernel)
set_option maxRecDepth 20000 in
theorem gX10_is_X10_has : GoodIn wsX10_is (wsV RX10 32 RX10 yX10_has wsX10_has) := goodIn_app (goodIn_of _ (by decide +kernel)) ggX10_is_X10_has
theorem dX10_is_0 : decode cX10_is 0 = .ok (.aload_n 0, 1) := by decide +kernel
theorem dX10_is_1 : decode cX10_is 1 = .ok (.iload_n 1, 1) := by decide +kernel
theorem dX10_is_2 : decode cX10_is 2 = .ok (.invokevirtual 32, 3) := by decide +kernel
theorem dX10_is_5 : decode cX10_is 5 = .ok (.ifCond .eq 20, 3) := by decide +kernel
theorem dX10_is_8 : decode cX10_is 8 = .ok (.aload_n 0, 1) := by decide +kernel
theorem dX10_is_9 : decode cX10_is 9 = .ok (.getfield 11, 3) := by decide +kernel
theorem dX10_is_12 : decode cX10_is 12 = .ok (.iload_n 1, 1) := by decide +kernel
theorem dX10_is_13 : decode cX10_is 13 = .ok (.aaload, 1) := by decide +kernel
theorem dX10_is_14 : decode cX10_is 14 = .ok (.getfield 36, 3) := by decide +kernel
theorem dX10_is_17 : decode cX10_is 17 = .ok (.iload_n 2, 1) := by decide +kernel
theorem dX10_is_18 : decode cX10_is 18 = .ok (.if_icmp .ne 7, 3) := by decide +kernel
theorem dX10_is_21 : decode cX10_is 21 = .ok (.iconst 1, 1) := by decide +kernel
theorem dX10_is_22 : decode cX10_is 22 = .ok (.goto 4, 3) := by decide +kernel
theorem dX10_is_25 : decode cX10_is 25 = .ok (.iconst 0, 1) := by decide +kernel
theorem dX10_is_26 : decode cX10_is 26 = .ok (.ireturn, 1) := by decide +kernel
abbrev vwCl : List vw_C := [(RX0, TX0, 13), (RX1, TX1, 5), (RX2, TX2, 4), (RX3, TX3, 10), (RX4, TX4, 14), (RX5, TX5, 4), (RX6, TX6, 4), (RX7, TX7, 5), (RX8, TX8, 17), (RX9, TX9, 15), (RX10, TX10, 2), (RX11, TX11, 11), (RX12, TX12, 59)]
