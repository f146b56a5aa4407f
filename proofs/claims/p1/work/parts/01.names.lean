theorem goodIn_r {big : List Cond} (ws : List Cond) (ps : List Nat) (hp : ws = ps.filterMap (fun i => big[i]?)) (h : ws.all goodWord = true) : GoodIn big ws := by
  intro w hw
  have h1 := List.all_eq_true.mp h w hw
  rw [hp] at hw
  obtain ⟨i, -, hi⟩ := List.mem_filterMap.mp hw
  have hm : w ∈ big := by first | exact List.mem_of_getElem? hi | exact List.getElem?_mem hi
  exact ⟨hm, good_of_word h1⟩
theorem goodIn_app {big a b : List Cond} (ha : GoodIn big a) (hb : GoodIn big b) : GoodIn big (a ++ b) := fun w h => (List.mem_append.mp h).elim (ha w) (hb w)
theorem goodIn_ca {big a b : List Cond} {c : Cond} (ha : GoodIn big (c :: a)) (hb : GoodIn big b) : GoodIn big (c :: (a ++ b)) := fun w h => (List.mem_cons.mp h).elim (fun e => ha w (List.mem_cons.mpr (Or.inl e))) (fun h => (List.mem_append.mp h).elim (fun h => ha w (List.mem_cons.mpr (Or.inr h))) (hb w))
theorem goodIn_sub {big ws : List Cond} (hm : ∀ w ∈ ws, w ∈ big) (h : ws.all goodWord = true) : GoodIn big ws := fun w hw => ⟨hm w hw, good_of_word (List.all_eq_true.mp h w hw)⟩

def RX0 : String := "RestBoard$Frame"
def TX0 : u_T := fun k => match k with
  | 0 => ("RestBoard$Frame", "method", "I", false)
  | 1 => ("RestBoard$Frame", "home", "I", false)
  | 2 => ("RestBoard$Frame", "at", "I", false)
  | 3 => ("RestBoard$Frame", "place", "I", false)
  | 4 => ("RestBoard$Frame", "result", "I", false)
  | 5 => ("RestBoard$Frame", "over", "Z", false)
  | 6 => ("RestBoard$Frame", "blocks", "I", false)
  | 7 => ("RestBoard$Frame", "ends", "[I", true)
  | 8 => ("RestBoard$Frame", "loops", "[I", true)
  | 9 => ("RestBoard$Frame", "locals", "[I", true)
  | 10 => ("RestBoard$Frame", "args", "[I", true)
  | 11 => ("RestBoard$Frame", "held", "[I", true)
  | _ => ("RestBoard$Frame", "told", "LRestBoard$Node;", false)
def tyX0 : Nat → FieldType := fun k => match k with
  | 0 => .int
  | 1 => .int
  | 2 => .int
  | 3 => .int
  | 4 => .int
  | 5 => .boolean
  | 6 => .int
  | 7 => .array .int
  | 8 => .array .int
  | 9 => .array .int
  | 10 => .array .int
  | 11 => .array .int
  | _ => .object "RestBoard$Node"
abbrev wsX00 : List Cond := u_ws RX0 TX0 13
theorem nmX0 : ∀ a, a < 13 → ∀ b, b < 13 → a ≠ b → (TX0 a).2.1 ≠ (TX0 b).2.1 := by decide +kernel
theorem tyX0_ok : ∀ k, k < 13 → parseFieldDescriptor (TX0 k).2.2.1 = some (tyX0 k) := by decide +kernel
abbrev cX0_init : ByteArray := prog_2_method_1_code
def yX0_init : MethodName := ⟨RX0, "<init>", "(LRestBoard$Node;)V"⟩
abbrev cX0_begin : ByteArray := prog_2_method_2_code
def yX0_begin : MethodName := ⟨RX0, "begin", "(ILRestBoard$Node;III)V"⟩
abbrev cX0_atBlockEnd : ByteArray := prog_2_method_3_code
def yX0_atBlockEnd : MethodName := ⟨RX0, "atBlockEnd", "()Z"⟩
abbrev cX0_next : ByteArray := prog_2_method_4_code
def yX0_next : MethodName := ⟨RX0, "next", "()I"⟩
abbrev cX0_sees : ByteArray := prog_2_method_5_code
def yX0_sees : MethodName := ⟨RX0, "sees", "(I)Z"⟩
abbrev cX0_open : ByteArray := prog_2_method_6_code
def yX0_open : MethodName := ⟨RX0, "open", "(II)V"⟩
abbrev cX0_leaveLoop : ByteArray := prog_2_method_7_code
def yX0_leaveLoop : MethodName := ⟨RX0, "leaveLoop", "()V"⟩
def RX1 : String := "RestBoard$History"
def TX1 : u_T := fun k => match k with
  | 0 => ("RestBoard$History", "now", "LRestBoard$State;", true)
  | 1 => ("RestBoard$History", "states", "[LRestBoard$State;", true)
  | 2 => ("RestBoard$History", "acts", "[I", true)
  | 3 => ("RestBoard$History", "kept", "I", false)
  | _ => ("RestBoard$History", "next", "I", false)
def tyX1 : Nat → FieldType := fun k => match k with
  | 0 => .object "RestBoard$State"
  | 1 => .array (.object "RestBoard$State")
  | 2 => .array .int
  | 3 => .int
  | _ => .int
abbrev wsX10 : List Cond := u_ws RX1 TX1 5
theorem nmX1 : ∀ a, a < 5 → ∀ b, b < 5 → a ≠ b → (TX1 a).2.1 ≠ (TX1 b).2.1 := by decide +kernel
theorem tyX1_ok : ∀ k, k < 5 → parseFieldDescriptor (TX1 k).2.2.1 = some (tyX1 k) := by decide +kernel
abbrev cX1_init : ByteArray := prog_3_method_1_code
def yX1_init : MethodName := ⟨RX1, "<init>", "(LRestBoard$State;)V"⟩
abbrev cX1_kept : ByteArray := prog_3_method_2_code
def yX1_kept : MethodName := ⟨RX1, "kept", "()I"⟩
abbrev cX1_keep : ByteArray := prog_3_method_3_code
def yX1_keep : MethodName := ⟨RX1, "keep", "(I)V"⟩
abbrev cX1_takeBack : ByteArray := prog_3_method_4_code
def yX1_takeBack : MethodName := ⟨RX1, "takeBack", "()I"⟩
def RX2 : String := "RestBoard$Log"
def TX2 : u_T := fun k => match k with
  | 0 => ("RestBoard$Log", "who", "[I", true)
  | 1 => ("RestBoard$Log", "what", "[I", true)
  | 2 => ("RestBoard$Log", "kept", "I", false)
  | _ => ("RestBoard$Log", "next", "I", false)
def tyX2 : Nat → FieldType := fun k => match k with
  | 0 => .array .int
  | 1 => .array .int
  | 2 => .int
  | _ => .int
abbrev wsX20 : List Cond := u_ws RX2 TX2 4
theorem nmX2 : ∀ a, a < 4 → ∀ b, b < 4 → a ≠ b → (TX2 a).2.1 ≠ (TX2 b).2.1 := by decide +kernel
theorem tyX2_ok : ∀ k, k < 4 → parseFieldDescriptor (TX2 k).2.2.1 = some (tyX2 k) := by decide +kernel
abbrev cX2_init : ByteArray := prog_4_method_1_code
def yX2_init : MethodName := ⟨RX2, "<init>", "(I)V"⟩
abbrev cX2_write : ByteArray := prog_4_method_2_code
def yX2_write : MethodName := ⟨RX2, "write", "(II)V"⟩
abbrev cX2_told : ByteArray := prog_4_method_3_code
def yX2_told : MethodName := ⟨RX2, "told", "(II)I"⟩
abbrev cX2_take : ByteArray := prog_4_method_4_code
def yX2_take : MethodName := ⟨RX2, "take", "(LRestBoard$Log;)V"⟩
def RX3 : String := "RestBoard$Machine"
def TX3 : u_T := fun k => match k with
  | 0 => ("RestBoard$Machine", "tree", "LRestBoard$Tree;", true)
  | 1 => ("RestBoard$Machine", "now", "LRestBoard$State;", true)
  | 2 => ("RestBoard$Machine", "frames", "[LRestBoard$Frame;", true)
  | 3 => ("RestBoard$Machine", "running", "I", false)
  | 4 => ("RestBoard$Machine", "steps", "I", false)
  | 5 => ("RestBoard$Machine", "forgotten", "I", false)
  | 6 => ("RestBoard$Machine", "failed", "Z", false)
  | 7 => ("RestBoard$Machine", "latest", "[I", true)
  | 8 => ("RestBoard$Machine", "keptLatest", "[I", true)
  | _ => ("RestBoard$Machine", "keptSteps", "I", false)
def tyX3 : Nat → FieldType := fun k => match k with
  | 0 => .object "RestBoard$Tree"
  | 1 => .object "RestBoard$State"
  | 2 => .array (.object "RestBoard$Frame")
  | 3 => .int
  | 4 => .int
  | 5 => .int
  | 6 => .boolean
  | 7 => .array .int
  | 8 => .array .int
  | _ => .int
abbrev wsX30 : List Cond := u_ws RX3 TX3 10
theorem nmX3 : ∀ a, a < 10 → ∀ b, b < 10 → a ≠ b → (TX3 a).2.1 ≠ (TX3 b).2.1 := by decide +kernel
theorem tyX3_ok : ∀ k, k < 10 → parseFieldDescriptor (TX3 k).2.2.1 = some (tyX3 k) := by decide +kernel
abbrev cX3_init : ByteArray := prog_5_method_1_code
def yX3_init : MethodName := ⟨RX3, "<init>", "(LRestBoard$Tree;LRestBoard$State;)V"⟩
abbrev cX3_steps : ByteArray := prog_5_method_2_code
def yX3_steps : MethodName := ⟨RX3, "steps", "()I"⟩
abbrev cX3_forgotten : ByteArray := prog_5_method_3_code
def yX3_forgotten : MethodName := ⟨RX3, "forgotten", "()I"⟩
abbrev cX3_forgetSteps : ByteArray := prog_5_method_4_code
def yX3_forgetSteps : MethodName := ⟨RX3, "forgetSteps", "()V"⟩
abbrev cX3_keepTold : ByteArray := prog_5_method_5_code
def yX3_keepTold : MethodName := ⟨RX3, "keepTold", "()V"⟩
abbrev cX3_restoreTold : ByteArray := prog_5_method_6_code
def yX3_restoreTold : MethodName := ⟨RX3, "restoreTold", "()V"⟩
abbrev cX3_told : ByteArray := prog_5_method_7_code
def yX3_told : MethodName := ⟨RX3, "told", "(I)I"⟩
abbrev cX3_peek : ByteArray := prog_5_method_8_code
def yX3_peek : MethodName := ⟨RX3, "peek", "(I)I"⟩
abbrev cX3_put : ByteArray := prog_5_method_9_code
def yX3_put : MethodName := ⟨RX3, "put", "(II)V"⟩
abbrev cX3_run : ByteArray := prog_5_method_10_code
def yX3_run : MethodName := ⟨RX3, "run", "(IIII)I"⟩
abbrev cX3_enter : ByteArray := prog_5_method_11_code
def yX3_enter : MethodName := ⟨RX3, "enter", "(IIII)I"⟩
abbrev cX3_release : ByteArray := prog_5_method_12_code
def yX3_release : MethodName := ⟨RX3, "release", "(LRestBoard$Frame;)V"⟩
abbrev cX3_fail : ByteArray := prog_5_method_13_code
def yX3_fail : MethodName := ⟨RX3, "fail", "(IILRestBoard$Frame;I)V"⟩
abbrev cX3_mayStep : ByteArray := prog_5_method_14_code
def yX3_mayStep : MethodName := ⟨RX3, "mayStep", "(LRestBoard$Frame;I)Z"⟩
abbrev cX3_closeBlock : ByteArray := prog_5_method_15_code
def yX3_closeBlock : MethodName := ⟨RX3, "closeBlock", "(LRestBoard$Frame;)V"⟩
abbrev cX3_perform : ByteArray := prog_5_method_16_code
def yX3_perform : MethodName := ⟨RX3, "perform", "(LRestBoard$Frame;)V"⟩
abbrev cX3_withTerm : ByteArray := prog_5_method_17_code
def yX3_withTerm : MethodName := ⟨RX3, "withTerm", "(LRestBoard$Frame;II)V"⟩
abbrev cX3_branch : ByteArray := prog_5_method_18_code
def yX3_branch : MethodName := ⟨RX3, "branch", "(LRestBoard$Frame;)V"⟩
abbrev cX3_loop : ByteArray := prog_5_method_19_code
def yX3_loop : MethodName := ⟨RX3, "loop", "(LRestBoard$Frame;)V"⟩
abbrev cX3_named : ByteArray := prog_5_method_20_code
def yX3_named : MethodName := ⟨RX3, "named", "(LRestBoard$Frame;III)I"⟩
abbrev cX3_storeLocal : ByteArray := prog_5_method_21_code
def yX3_storeLocal : MethodName := ⟨RX3, "storeLocal", "(LRestBoard$Frame;)V"⟩
abbrev cX3_storeNamed : ByteArray := prog_5_method_22_code
def yX3_storeNamed : MethodName := ⟨RX3, "storeNamed", "(LRestBoard$Frame;I)V"⟩
abbrev cX3_storePacked : ByteArray := prog_5_method_23_code
def yX3_storePacked : MethodName := ⟨RX3, "storePacked", "(LRestBoard$Frame;I)V"⟩
abbrev cX3_readPacked : ByteArray := prog_5_method_24_code
def yX3_readPacked : MethodName := ⟨RX3, "readPacked", "(LRestBoard$Frame;II)I"⟩
abbrev cX3_hasValue : ByteArray := prog_5_method_25_code
def yX3_hasValue : MethodName := ⟨RX3, "hasValue", "(LRestBoard$Frame;III)Z"⟩
abbrev cX3_acquire : ByteArray := prog_5_method_26_code
def yX3_acquire : MethodName := ⟨RX3, "acquire", "(LRestBoard$Frame;I)V"⟩
abbrev cX3_letGo : ByteArray := prog_5_method_27_code
def yX3_letGo : MethodName := ⟨RX3, "letGo", "(LRestBoard$Frame;II)V"⟩
abbrev cX3_reckon : ByteArray := prog_5_method_28_code
def yX3_reckon : MethodName := ⟨RX3, "reckon", "(LRestBoard$Frame;I)I"⟩
abbrev cX3_isOn : ByteArray := prog_5_method_29_code
def yX3_isOn : MethodName := ⟨RX3, "isOn", "(I)Z"⟩
abbrev cX3_valueNamed : ByteArray := prog_5_method_30_code
def yX3_valueNamed : MethodName := ⟨RX3, "valueNamed", "(LRestBoard$Frame;I)I"⟩
abbrev cX3_runNamed : ByteArray := prog_5_method_31_code
def yX3_runNamed : MethodName := ⟨RX3, "runNamed", "(LRestBoard$Frame;II)I"⟩
abbrev cX3_combined : ByteArray := prog_5_method_32_code
def yX3_combined : MethodName := ⟨RX3, "combined", "(LRestBoard$Frame;II)I"⟩
abbrev cX3_joined : ByteArray := prog_5_method_33_code
def yX3_joined : MethodName := ⟨RX3, "joined", "(III)I"⟩
def RX4 : String := "RestBoard$Node"
def TX4 : u_T := fun k => match k with
  | 0 => ("RestBoard$Node", "kind", "I", false)
  | 1 => ("RestBoard$Node", "name", "I", false)
  | 2 => ("RestBoard$Node", "parent", "I", false)
  | 3 => ("RestBoard$Node", "above", "I", false)
  | 4 => ("RestBoard$Node", "level", "I", false)
  | 5 => ("RestBoard$Node", "rank", "I", false)
  | 6 => ("RestBoard$Node", "args", "I", false)
  | 7 => ("RestBoard$Node", "length", "I", false)
  | 8 => ("RestBoard$Node", "bank", "I", false)
  | 9 => ("RestBoard$Node", "offset", "I", false)
  | 10 => ("RestBoard$Node", "width", "I", false)
  | 11 => ("RestBoard$Node", "rule", "I", false)
  | 12 => ("RestBoard$Node", "values", "[I", true)
  | _ => ("RestBoard$Node", "bytes", "[I", true)
def tyX4 : Nat → FieldType := fun k => match k with
  | 0 => .int
  | 1 => .int
  | 2 => .int
  | 3 => .int
  | 4 => .int
  | 5 => .int
  | 6 => .int
  | 7 => .int
  | 8 => .int
  | 9 => .int
  | 10 => .int
  | 11 => .int
  | 12 => .array .int
  | _ => .array .int
abbrev wsX40 : List Cond := u_ws RX4 TX4 14
theorem nmX4 : ∀ a, a < 14 → ∀ b, b < 14 → a ≠ b → (TX4 a).2.1 ≠ (TX4 b).2.1 := by decide +kernel
theorem tyX4_ok : ∀ k, k < 14 → parseFieldDescriptor (TX4 k).2.2.1 = some (tyX4 k) := by decide +kernel
abbrev cX4_init : ByteArray := prog_6_method_1_code
def yX4_init : MethodName := ⟨RX4, "<init>", "()V"⟩
abbrev cX4_begin : ByteArray := prog_6_method_2_code
def yX4_begin : MethodName := ⟨RX4, "begin", "(IIII)V"⟩
def RX5 : String := "RestBoard$Powers"
def TX5 : u_T := fun k => match k with
  | 0 => ("RestBoard$Powers", "tree", "LRestBoard$Tree;", true)
  | 1 => ("RestBoard$Powers", "now", "LRestBoard$State;", true)
  | 2 => ("RestBoard$Powers", "fresh", "[I", true)
  | _ => ("RestBoard$Powers", "remembered", "[I", true)
def tyX5 : Nat → FieldType := fun k => match k with
  | 0 => .object "RestBoard$Tree"
  | 1 => .object "RestBoard$State"
  | 2 => .array .int
  | _ => .array .int
abbrev wsX50 : List Cond := u_ws RX5 TX5 4
theorem nmX5 : ∀ a, a < 4 → ∀ b, b < 4 → a ≠ b → (TX5 a).2.1 ≠ (TX5 b).2.1 := by decide +kernel
theorem tyX5_ok : ∀ k, k < 4 → parseFieldDescriptor (TX5 k).2.2.1 = some (tyX5 k) := by decide +kernel
abbrev cX5_init : ByteArray := prog_7_method_1_code
def yX5_init : MethodName := ⟨RX5, "<init>", "(LRestBoard$Tree;LRestBoard$State;)V"⟩
abbrev cX5_can : ByteArray := prog_7_method_2_code
def yX5_can : MethodName := ⟨RX5, "can", "(II)Z"⟩
abbrev cX5_canArm : ByteArray := prog_7_method_3_code
def yX5_canArm : MethodName := ⟨RX5, "canArm", "(I)Z"⟩
abbrev cX5_allResources : ByteArray := prog_7_method_4_code
def yX5_allResources : MethodName := ⟨RX5, "allResources", "(III)Z"⟩
abbrev cX5_leastBelow : ByteArray := prog_7_method_5_code
def yX5_leastBelow : MethodName := ⟨RX5, "leastBelow", "(I)I"⟩
abbrev cX5_remember : ByteArray := prog_7_method_6_code
def yX5_remember : MethodName := ⟨RX5, "remember", "(I)V"⟩
abbrev cX5_takeBack : ByteArray := prog_7_method_7_code
def yX5_takeBack : MethodName := ⟨RX5, "takeBack", "(II)V"⟩
abbrev cX5_become : ByteArray := prog_7_method_8_code
def yX5_become : MethodName := ⟨RX5, "become", "(II)I"⟩
abbrev cX5_putBack : ByteArray := prog_7_method_9_code
def yX5_putBack : MethodName := ⟨RX5, "putBack", "(I)V"⟩
abbrev cX5_gather : ByteArray := prog_7_method_10_code
def yX5_gather : MethodName := ⟨RX5, "gather", "(III)V"⟩
abbrev cX5_change : ByteArray := prog_7_method_11_code
def yX5_change : MethodName := ⟨RX5, "change", "(II[II)I"⟩
abbrev cX5_tie : ByteArray := prog_7_method_12_code
def yX5_tie : MethodName := ⟨RX5, "tie", "(I)V"⟩
abbrev cX5_untie : ByteArray := prog_7_method_13_code
def yX5_untie : MethodName := ⟨RX5, "untie", "(I)I"⟩
abbrev cX5_include : ByteArray := prog_7_method_14_code
def yX5_include : MethodName := ⟨RX5, "include", "([III)I"⟩
abbrev cX5_exclude : ByteArray := prog_7_method_15_code
def yX5_exclude : MethodName := ⟨RX5, "exclude", "([III)I"⟩
abbrev cX5_turn : ByteArray := prog_7_method_16_code
def yX5_turn : MethodName := ⟨RX5, "turn", "(II)I"⟩
abbrev cX5_lowest : ByteArray := prog_7_method_17_code
def yX5_lowest : MethodName := ⟨RX5, "lowest", "(I)I"⟩
abbrev cX5_highest : ByteArray := prog_7_method_18_code
def yX5_highest : MethodName := ⟨RX5, "highest", "(I)I"⟩
abbrev cX5_needs : ByteArray := prog_7_method_19_code
def yX5_needs : MethodName := ⟨RX5, "needs", "(I)J"⟩
abbrev cX5_bits : ByteArray := prog_7_method_20_code
def yX5_bits : MethodName := ⟨RX5, "bits", "([III)J"⟩
abbrev cX5_resourcesOn : ByteArray := prog_7_method_21_code
def yX5_resourcesOn : MethodName := ⟨RX5, "resourcesOn", "()I"⟩
abbrev cX5_armedDevices : ByteArray := prog_7_method_22_code
def yX5_armedDevices : MethodName := ⟨RX5, "armedDevices", "()I"⟩
def RX6 : String := "RestBoard$Registers"
def TX6 : u_T := fun k => match k with
  | 0 => ("RestBoard$Registers", "bytes", "[I", true)
  | 1 => ("RestBoard$Registers", "select", "I", false)
  | 2 => ("RestBoard$Registers", "reads", "I", false)
  | _ => ("RestBoard$Registers", "writes", "I", false)
def tyX6 : Nat → FieldType := fun k => match k with
  | 0 => .array .int
  | 1 => .int
  | 2 => .int
  | _ => .int
abbrev wsX60 : List Cond := u_ws RX6 TX6 4
theorem nmX6 : ∀ a, a < 4 → ∀ b, b < 4 → a ≠ b → (TX6 a).2.1 ≠ (TX6 b).2.1 := by decide +kernel
theorem tyX6_ok : ∀ k, k < 4 → parseFieldDescriptor (TX6 k).2.2.1 = some (tyX6 k) := by decide +kernel
abbrev cX6_init : ByteArray := prog_8_method_1_code
def yX6_init : MethodName := ⟨RX6, "<init>", "()V"⟩
abbrev cX6_peek : ByteArray := prog_8_method_2_code
def yX6_peek : MethodName := ⟨RX6, "peek", "(LRestBoard$Node;)I"⟩
abbrev cX6_fetch : ByteArray := prog_8_method_3_code
def yX6_fetch : MethodName := ⟨RX6, "fetch", "(LRestBoard$Node;)I"⟩
abbrev cX6_put : ByteArray := prog_8_method_4_code
def yX6_put : MethodName := ⟨RX6, "put", "(LRestBoard$Node;I)V"⟩
abbrev cX6_take : ByteArray := prog_8_method_5_code
def yX6_take : MethodName := ⟨RX6, "take", "(LRestBoard$Registers;)V"⟩
abbrev cX6_choose : ByteArray := prog_8_method_6_code
def yX6_choose : MethodName := ⟨RX6, "choose", "(I)V"⟩
abbrev cX6_others : ByteArray := prog_8_method_7_code
def yX6_others : MethodName := ⟨RX6, "others", "(III)I"⟩
abbrev cX6_lastByte : ByteArray := prog_8_method_8_code
def yX6_lastByte : MethodName := ⟨RX6, "lastByte", "(LRestBoard$Node;)I"⟩
abbrev cX6_bitsIn : ByteArray := prog_8_method_9_code
def yX6_bitsIn : MethodName := ⟨RX6, "bitsIn", "(LRestBoard$Node;I)I"⟩
def RX7 : String := "RestBoard$Rests"
def TX7 : u_T := fun k => match k with
  | 0 => ("RestBoard$Rests", "tree", "LRestBoard$Tree;", true)
  | 1 => ("RestBoard$Rests", "now", "LRestBoard$State;", true)
  | 2 => ("RestBoard$Rests", "machine", "LRestBoard$Machine;", true)
  | 3 => ("RestBoard$Rests", "powers", "LRestBoard$Powers;", true)
  | _ => ("RestBoard$Rests", "turns", "[I", true)
def tyX7 : Nat → FieldType := fun k => match k with
  | 0 => .object "RestBoard$Tree"
  | 1 => .object "RestBoard$State"
  | 2 => .object "RestBoard$Machine"
  | 3 => .object "RestBoard$Powers"
  | _ => .array .int
abbrev wsX70 : List Cond := u_ws RX7 TX7 5
theorem nmX7 : ∀ a, a < 5 → ∀ b, b < 5 → a ≠ b → (TX7 a).2.1 ≠ (TX7 b).2.1 := by decide +kernel
theorem tyX7_ok : ∀ k, k < 5 → parseFieldDescriptor (TX7 k).2.2.1 = some (tyX7 k) := by decide +kernel
abbrev cX7_init : ByteArray := prog_9_method_1_code
def yX7_init : MethodName := ⟨RX7, "<init>", "(LRestBoard$Tree;LRestBoard$State;LRestBoard$Machine;LRestBoard$Powers;)V"⟩
abbrev cX7_obstacle : ByteArray := prog_9_method_2_code
def yX7_obstacle : MethodName := ⟨RX7, "obstacle", "(I)I"⟩
abbrev cX7_obstacleBy : ByteArray := prog_9_method_3_code
def yX7_obstacleBy : MethodName := ⟨RX7, "obstacleBy", "(II)I"⟩
abbrev cX7_numberOf : ByteArray := prog_9_method_4_code
def yX7_numberOf : MethodName := ⟨RX7, "numberOf", "(I)I"⟩
abbrev cX7_inTurn : ByteArray := prog_9_method_5_code
def yX7_inTurn : MethodName := ⟨RX7, "inTurn", "(I)I"⟩
abbrev cX7_sortDevices : ByteArray := prog_9_method_6_code
def yX7_sortDevices : MethodName := ⟨RX7, "sortDevices", "()I"⟩
abbrev cX7_mostAbove : ByteArray := prog_9_method_7_code
def yX7_mostAbove : MethodName := ⟨RX7, "mostAbove", "()I"⟩
abbrev cX7_enter : ByteArray := prog_9_method_8_code
def yX7_enter : MethodName := ⟨RX7, "enter", "(I)I"⟩
abbrev cX7_settle : ByteArray := prog_9_method_9_code
def yX7_settle : MethodName := ⟨RX7, "settle", "(II)I"⟩
abbrev cX7_powerFor : ByteArray := prog_9_method_10_code
def yX7_powerFor : MethodName := ⟨RX7, "powerFor", "(II)I"⟩
abbrev cX7_leastOf : ByteArray := prog_9_method_11_code
def yX7_leastOf : MethodName := ⟨RX7, "leastOf", "(I)I"⟩
abbrev cX7_someStaysOn : ByteArray := prog_9_method_12_code
def yX7_someStaysOn : MethodName := ⟨RX7, "someStaysOn", "(I)Z"⟩
abbrev cX7_changed : ByteArray := prog_9_method_13_code
def yX7_changed : MethodName := ⟨RX7, "changed", "()I"⟩
abbrev cX7_lift : ByteArray := prog_9_method_14_code
def yX7_lift : MethodName := ⟨RX7, "lift", "(I)I"⟩
abbrev cX7_tiedTo : ByteArray := prog_9_method_15_code
def yX7_tiedTo : MethodName := ⟨RX7, "tiedTo", "(I)I"⟩
abbrev cX7_wake : ByteArray := prog_9_method_16_code
def yX7_wake : MethodName := ⟨RX7, "wake", "(I)V"⟩
def RX8 : String := "RestBoard$State"
def TX8 : u_T := fun k => match k with
  | 0 => ("RestBoard$State", "size", "I", false)
  | 1 => ("RestBoard$State", "resting", "I", false)
  | 2 => ("RestBoard$State", "raised", "I", false)
  | 3 => ("RestBoard$State", "values", "[I", true)
  | 4 => ("RestBoard$State", "packed", "[I", true)
  | 5 => ("RestBoard$State", "counts", "[I", true)
  | 6 => ("RestBoard$State", "forgotten", "[I", true)
  | 7 => ("RestBoard$State", "powers", "[I", true)
  | 8 => ("RestBoard$State", "lines", "[I", true)
  | 9 => ("RestBoard$State", "depths", "[I", true)
  | 10 => ("RestBoard$State", "wanting", "[I", true)
  | 11 => ("RestBoard$State", "tied", "[I", true)
  | 12 => ("RestBoard$State", "oldPowers", "[I", true)
  | 13 => ("RestBoard$State", "oldWanting", "[I", true)
  | 14 => ("RestBoard$State", "registers", "LRestBoard$Registers;", true)
  | 15 => ("RestBoard$State", "notes", "LRestBoard$Log;", true)
  | _ => ("RestBoard$State", "switches", "LRestBoard$Log;", true)
def tyX8 : Nat → FieldType := fun k => match k with
  | 0 => .int
  | 1 => .int
  | 2 => .int
  | 3 => .array .int
  | 4 => .array .int
  | 5 => .array .int
  | 6 => .array .int
  | 7 => .array .int
  | 8 => .array .int
  | 9 => .array .int
  | 10 => .array .int
  | 11 => .array .int
  | 12 => .array .int
  | 13 => .array .int
  | 14 => .object "RestBoard$Registers"
  | 15 => .object "RestBoard$Log"
  | _ => .object "RestBoard$Log"
abbrev wsX80 : List Cond := u_ws RX8 TX8 17
theorem nmX8 : ∀ a, a < 17 → ∀ b, b < 17 → a ≠ b → (TX8 a).2.1 ≠ (TX8 b).2.1 := by decide +kernel
theorem tyX8_ok : ∀ k, k < 17 → parseFieldDescriptor (TX8 k).2.2.1 = some (tyX8 k) := by decide +kernel
abbrev cX8_init : ByteArray := prog_10_method_1_code
def yX8_init : MethodName := ⟨RX8, "<init>", "()V"⟩
abbrev cX8_welcome : ByteArray := prog_10_method_2_code
def yX8_welcome : MethodName := ⟨RX8, "welcome", "(ILRestBoard$Node;)V"⟩
abbrev cX8_take : ByteArray := prog_10_method_3_code
def yX8_take : MethodName := ⟨RX8, "take", "(LRestBoard$State;)V"⟩
abbrev cX8_rememberPowers : ByteArray := prog_10_method_4_code
def yX8_rememberPowers : MethodName := ⟨RX8, "rememberPowers", "()V"⟩
def RX9 : String := "RestBoard$Table"
def TX9 : u_T := fun k => match k with
  | 0 => ("RestBoard$Table", "tree", "LRestBoard$Tree;", true)
  | 1 => ("RestBoard$Table", "tape", "[I", true)
  | 2 => ("RestBoard$Table", "length", "I", false)
  | 3 => ("RestBoard$Table", "at", "I", false)
  | 4 => ("RestBoard$Table", "end", "I", false)
  | 5 => ("RestBoard$Table", "faultPlace", "I", false)
  | 6 => ("RestBoard$Table", "size", "I", false)
  | 7 => ("RestBoard$Table", "deviceEnds", "[I", true)
  | 8 => ("RestBoard$Table", "devices", "[I", true)
  | 9 => ("RestBoard$Table", "devicesOpen", "I", false)
  | 10 => ("RestBoard$Table", "blockEnds", "[I", true)
  | 11 => ("RestBoard$Table", "blockKinds", "[I", true)
  | 12 => ("RestBoard$Table", "blocksOpen", "I", false)
  | 13 => ("RestBoard$Table", "loopsOpen", "I", false)
  | _ => ("RestBoard$Table", "args", "I", false)
def tyX9 : Nat → FieldType := fun k => match k with
  | 0 => .object "RestBoard$Tree"
  | 1 => .array .int
  | 2 => .int
  | 3 => .int
  | 4 => .int
  | 5 => .int
  | 6 => .int
  | 7 => .array .int
  | 8 => .array .int
  | 9 => .int
  | 10 => .array .int
  | 11 => .array .int
  | 12 => .int
  | 13 => .int
  | _ => .int
abbrev wsX90 : List Cond := u_ws RX9 TX9 15
theorem nmX9 : ∀ a, a < 15 → ∀ b, b < 15 → a ≠ b → (TX9 a).2.1 ≠ (TX9 b).2.1 := by decide +kernel
theorem tyX9_ok : ∀ k, k < 15 → parseFieldDescriptor (TX9 k).2.2.1 = some (tyX9 k) := by decide +kernel
abbrev cX9_init : ByteArray := prog_11_method_1_code
def yX9_init : MethodName := ⟨RX9, "<init>", "(LRestBoard$Tree;)V"⟩
abbrev cX9_length : ByteArray := prog_11_method_2_code
def yX9_length : MethodName := ⟨RX9, "length", "()I"⟩
abbrev cX9_faultAt : ByteArray := prog_11_method_3_code
def yX9_faultAt : MethodName := ⟨RX9, "faultAt", "()I"⟩
abbrev cX9_append : ByteArray := prog_11_method_4_code
def yX9_append : MethodName := ⟨RX9, "append", "(IIIII)I"⟩
abbrev cX9_cut : ByteArray := prog_11_method_5_code
def yX9_cut : MethodName := ⟨RX9, "cut", "(I)I"⟩
abbrev cX9_appendFour : ByteArray := prog_11_method_6_code
def yX9_appendFour : MethodName := ⟨RX9, "appendFour", "(I)V"⟩
abbrev cX9_read : ByteArray := prog_11_method_7_code
def yX9_read : MethodName := ⟨RX9, "read", "(II)I"⟩
abbrev cX9_number : ByteArray := prog_11_method_8_code
def yX9_number : MethodName := ⟨RX9, "number", "(II)I"⟩
abbrev cX9_begins : ByteArray := prog_11_method_9_code
def yX9_begins : MethodName := ⟨RX9, "begins", "()Z"⟩
abbrev cX9_kindOf : ByteArray := prog_11_method_10_code
def yX9_kindOf : MethodName := ⟨RX9, "kindOf", "(I)I"⟩
abbrev cX9_content : ByteArray := prog_11_method_11_code
def yX9_content : MethodName := ⟨RX9, "content", "(LRestBoard$Node;)V"⟩
abbrev cX9_openDevice : ByteArray := prog_11_method_12_code
def yX9_openDevice : MethodName := ⟨RX9, "openDevice", "(I)V"⟩
abbrev cX9_values : ByteArray := prog_11_method_13_code
def yX9_values : MethodName := ⟨RX9, "values", "(LRestBoard$Node;I)V"⟩
abbrev cX9_method : ByteArray := prog_11_method_14_code
def yX9_method : MethodName := ⟨RX9, "method", "(LRestBoard$Node;)V"⟩
abbrev cX9_openBlock : ByteArray := prog_11_method_15_code
def yX9_openBlock : MethodName := ⟨RX9, "openBlock", "(I)V"⟩
abbrev cX9_closeBlock : ByteArray := prog_11_method_16_code
def yX9_closeBlock : MethodName := ⟨RX9, "closeBlock", "()I"⟩
abbrev cX9_statement : ByteArray := prog_11_method_17_code
def yX9_statement : MethodName := ⟨RX9, "statement", "(Z)V"⟩
abbrev cX9_term : ByteArray := prog_11_method_18_code
def yX9_term : MethodName := ⟨RX9, "term", "(I)V"⟩
abbrev cX9_partsOf : ByteArray := prog_11_method_19_code
def yX9_partsOf : MethodName := ⟨RX9, "partsOf", "(I)I"⟩
def RX10 : String := "RestBoard$Tree"
def TX10 : u_T := fun k => match k with
  | 0 => ("RestBoard$Tree", "nodes", "[LRestBoard$Node;", true)
  | _ => ("RestBoard$Tree", "now", "LRestBoard$State;", true)
def tyX10 : Nat → FieldType := fun k => match k with
  | 0 => .array (.object "RestBoard$Node")
  | _ => .object "RestBoard$State"
abbrev wsX100 : List Cond := u_ws RX10 TX10 2
theorem nmX10 : ∀ a, a < 2 → ∀ b, b < 2 → a ≠ b → (TX10 a).2.1 ≠ (TX10 b).2.1 := by decide +kernel
theorem tyX10_ok : ∀ k, k < 2 → parseFieldDescriptor (TX10 k).2.2.1 = some (tyX10 k) := by decide +kernel
abbrev cX10_init : ByteArray := prog_12_method_1_code
def yX10_init : MethodName := ⟨RX10, "<init>", "(LRestBoard$State;)V"⟩
abbrev cX10_has : ByteArray := prog_12_method_2_code
def yX10_has : MethodName := ⟨RX10, "has", "(I)Z"⟩
abbrev cX10_is : ByteArray := prog_12_method_3_code
def yX10_is : MethodName := ⟨RX10, "is", "(II)Z"⟩
abbrev cX10_holdsValue : ByteArray := prog_12_method_4_code
def yX10_holdsValue : MethodName := ⟨RX10, "holdsValue", "(I)Z"⟩
abbrev cX10_child : ByteArray := prog_12_method_5_code
def yX10_child : MethodName := ⟨RX10, "child", "(III)I"⟩
abbrev cX10_find : ByteArray := prog_12_method_6_code
def yX10_find : MethodName := ⟨RX10, "find", "(II)I"⟩
abbrev cX10_own : ByteArray := prog_12_method_7_code
def yX10_own : MethodName := ⟨RX10, "own", "(III)I"⟩
abbrev cX10_ownMethod : ByteArray := prog_12_method_8_code
def yX10_ownMethod : MethodName := ⟨RX10, "ownMethod", "(II)I"⟩
abbrev cX10_devices : ByteArray := prog_12_method_9_code
def yX10_devices : MethodName := ⟨RX10, "devices", "()I"⟩
abbrev cX10_grow : ByteArray := prog_12_method_10_code
def yX10_grow : MethodName := ⟨RX10, "grow", "(I)V"⟩
def RX11 : String := "RestBoard"
def TX11 : u_T := fun k => match k with
  | 0 => ("RestBoard", "now", "LRestBoard$State;", true)
  | 1 => ("RestBoard", "paper", "LRestBoard$State;", true)
  | 2 => ("RestBoard", "tree", "LRestBoard$Tree;", true)
  | 3 => ("RestBoard", "table", "LRestBoard$Table;", true)
  | 4 => ("RestBoard", "machine", "LRestBoard$Machine;", true)
  | 5 => ("RestBoard", "powers", "LRestBoard$Powers;", true)
  | 6 => ("RestBoard", "rests", "LRestBoard$Rests;", true)
  | 7 => ("RestBoard", "history", "LRestBoard$History;", true)
  | 8 => ("RestBoard", "refusals", "[I", true)
  | 9 => ("RestBoard", "refusedBy", "I", false)
  | _ => ("RestBoard", "latestFault", "I", false)
def tyX11 : Nat → FieldType := fun k => match k with
  | 0 => .object "RestBoard$State"
  | 1 => .object "RestBoard$State"
  | 2 => .object "RestBoard$Tree"
  | 3 => .object "RestBoard$Table"
  | 4 => .object "RestBoard$Machine"
  | 5 => .object "RestBoard$Powers"
  | 6 => .object "RestBoard$Rests"
  | 7 => .object "RestBoard$History"
  | 8 => .array .int
  | 9 => .int
  | _ => .int
abbrev wsX110 : List Cond := u_ws RX11 TX11 11
theorem nmX11 : ∀ a, a < 11 → ∀ b, b < 11 → a ≠ b → (TX11 a).2.1 ≠ (TX11 b).2.1 := by decide +kernel
theorem tyX11_ok : ∀ k, k < 11 → parseFieldDescriptor (TX11 k).2.2.1 = some (tyX11 k) := by decide +kernel
abbrev cX11_init : ByteArray := prog_1_method_1_code
def yX11_init : MethodName := ⟨RX11, "<init>", "()V"⟩
abbrev cX11_feed : ByteArray := prog_1_method_2_code
def yX11_feed : MethodName := ⟨RX11, "feed", "(IIIII)I"⟩
abbrev cX11_end : ByteArray := prog_1_method_3_code
def yX11_end : MethodName := ⟨RX11, "end", "(I)I"⟩
abbrev cX11_load : ByteArray := prog_1_method_4_code
def yX11_load : MethodName := ⟨RX11, "load", "(I)I"⟩
abbrev cX11_fault : ByteArray := prog_1_method_5_code
def yX11_fault : MethodName := ⟨RX11, "fault", "()I"⟩
abbrev cX11_call : ByteArray := prog_1_method_6_code
def yX11_call : MethodName := ⟨RX11, "call", "(IIII)I"⟩
abbrev cX11_store : ByteArray := prog_1_method_7_code
def yX11_store : MethodName := ⟨RX11, "store", "(II)I"⟩
abbrev cX11_power : ByteArray := prog_1_method_8_code
def yX11_power : MethodName := ⟨RX11, "power", "(II)I"⟩
abbrev cX11_arm : ByteArray := prog_1_method_9_code
def yX11_arm : MethodName := ⟨RX11, "arm", "(I)I"⟩
abbrev cX11_disarm : ByteArray := prog_1_method_10_code
def yX11_disarm : MethodName := ⟨RX11, "disarm", "(I)I"⟩
abbrev cX11_rest : ByteArray := prog_1_method_11_code
def yX11_rest : MethodName := ⟨RX11, "rest", "(I)I"⟩
abbrev cX11_raise : ByteArray := prog_1_method_12_code
def yX11_raise : MethodName := ⟨RX11, "raise", "(I)I"⟩
abbrev cX11_clear : ByteArray := prog_1_method_13_code
def yX11_clear : MethodName := ⟨RX11, "clear", "(I)I"⟩
abbrev cX11_undo : ByteArray := prog_1_method_14_code
def yX11_undo : MethodName := ⟨RX11, "undo", "()I"⟩
abbrev cX11_node : ByteArray := prog_1_method_15_code
def yX11_node : MethodName := ⟨RX11, "node", "(II)I"⟩
abbrev cX11_code : ByteArray := prog_1_method_16_code
def yX11_code : MethodName := ⟨RX11, "code", "(II)I"⟩
abbrev cX11_lookUp : ByteArray := prog_1_method_17_code
def yX11_lookUp : MethodName := ⟨RX11, "lookUp", "(II)I"⟩
abbrev cX11_register : ByteArray := prog_1_method_18_code
def yX11_register : MethodName := ⟨RX11, "register", "(II)I"⟩
abbrev cX11_wants : ByteArray := prog_1_method_19_code
def yX11_wants : MethodName := ⟨RX11, "wants", "(I)J"⟩
abbrev cX11_wanted : ByteArray := prog_1_method_20_code
def yX11_wanted : MethodName := ⟨RX11, "wanted", "(I)J"⟩
abbrev cX11_deepest : ByteArray := prog_1_method_21_code
def yX11_deepest : MethodName := ⟨RX11, "deepest", "()I"⟩
abbrev cX11_why : ByteArray := prog_1_method_22_code
def yX11_why : MethodName := ⟨RX11, "why", "(I)I"⟩
abbrev cX11_order : ByteArray := prog_1_method_23_code
def yX11_order : MethodName := ⟨RX11, "order", "(I)I"⟩
abbrev cX11_would : ByteArray := prog_1_method_24_code
def yX11_would : MethodName := ⟨RX11, "would", "(I)I"⟩
abbrev cX11_tries : ByteArray := prog_1_method_25_code
def yX11_tries : MethodName := ⟨RX11, "tries", "(IIIII)I"⟩
abbrev cX11_error : ByteArray := prog_1_method_26_code
def yX11_error : MethodName := ⟨RX11, "error", "(I)I"⟩
abbrev cX11_note : ByteArray := prog_1_method_27_code
def yX11_note : MethodName := ⟨RX11, "note", "(II)I"⟩
abbrev cX11_switched : ByteArray := prog_1_method_28_code
def yX11_switched : MethodName := ⟨RX11, "switched", "(II)I"⟩
abbrev cX11_count : ByteArray := prog_1_method_29_code
def yX11_count : MethodName := ⟨RX11, "count", "(I)I"⟩
abbrev cX11_status : ByteArray := prog_1_method_30_code
def yX11_status : MethodName := ⟨RX11, "status", "()I"⟩
abbrev cX11_refuse : ByteArray := prog_1_method_31_code
def yX11_refuse : MethodName := ⟨RX11, "refuse", "(I)I"⟩
abbrev cX11_accept : ByteArray := prog_1_method_32_code
def yX11_accept : MethodName := ⟨RX11, "accept", "(I)I"⟩
abbrev cX11_isValue : ByteArray := prog_1_method_33_code
def yX11_isValue : MethodName := ⟨RX11, "isValue", "(I)Z"⟩
abbrev cX11_isLine : ByteArray := prog_1_method_34_code
def yX11_isLine : MethodName := ⟨RX11, "isLine", "(I)Z"⟩
abbrev cX11_isRaised : ByteArray := prog_1_method_35_code
def yX11_isRaised : MethodName := ⟨RX11, "isRaised", "(I)Z"⟩
abbrev cX11_refusalToRun : ByteArray := prog_1_method_36_code
def yX11_refusalToRun : MethodName := ⟨RX11, "refusalToRun", "(IIII)I"⟩
abbrev cX11_refusalToChange : ByteArray := prog_1_method_37_code
def yX11_refusalToChange : MethodName := ⟨RX11, "refusalToChange", "(I)I"⟩
abbrev cX11_refusalToPower : ByteArray := prog_1_method_38_code
def yX11_refusalToPower : MethodName := ⟨RX11, "refusalToPower", "(II)I"⟩
abbrev cX11_refusalToRest : ByteArray := prog_1_method_39_code
def yX11_refusalToRest : MethodName := ⟨RX11, "refusalToRest", "(I)I"⟩
abbrev cX11_goOnPaper : ByteArray := prog_1_method_40_code
def yX11_goOnPaper : MethodName := ⟨RX11, "goOnPaper", "()V"⟩
abbrev cX11_comeBack : ByteArray := prog_1_method_41_code
def yX11_comeBack : MethodName := ⟨RX11, "comeBack", "()V"⟩
abbrev cX11_ofTheRun : ByteArray := prog_1_method_42_code
def yX11_ofTheRun : MethodName := ⟨RX11, "ofTheRun", "(II)I"⟩
abbrev cX11_ofItsKind : ByteArray := prog_1_method_43_code
def yX11_ofItsKind : MethodName := ⟨RX11, "ofItsKind", "(ILRestBoard$Node;I)I"⟩
abbrev cX11_ofDevice : ByteArray := prog_1_method_44_code
def yX11_ofDevice : MethodName := ⟨RX11, "ofDevice", "(II)I"⟩
abbrev cX11_ofPackage : ByteArray := prog_1_method_45_code
def yX11_ofPackage : MethodName := ⟨RX11, "ofPackage", "(III)I"⟩
abbrev cX11_ofField : ByteArray := prog_1_method_46_code
def yX11_ofField : MethodName := ⟨RX11, "ofField", "(ILRestBoard$Node;I)I"⟩
def RX12 : String := "RestBoardModel"
def TX12 : u_T := fun k => match k with
  | 0 => ("RestBoardModel", "thrown", "I", false)
  | 1 => ("RestBoardModel", "status", "I", false)
  | 2 => ("RestBoardModel", "refusals", "[I", true)
  | 3 => ("RestBoardModel", "row", "[I", true)
  | 4 => ("RestBoardModel", "undos", "[I", true)
  | 5 => ("RestBoardModel", "sorts", "[I", true)
  | 6 => ("RestBoardModel", "nUndo", "I", false)
  | 7 => ("RestBoardModel", "ahead", "[I", true)
  | 8 => ("RestBoardModel", "tape", "[I", true)
  | 9 => ("RestBoardModel", "taped", "I", false)
  | 10 => ("RestBoardModel", "spot", "I", false)
  | 11 => ("RestBoardModel", "limit", "I", false)
  | 12 => ("RestBoardModel", "fault", "I", false)
  | 13 => ("RestBoardModel", "bad", "Z", false)
  | 14 => ("RestBoardModel", "openDevice", "[I", true)
  | 15 => ("RestBoardModel", "openLimit", "[I", true)
  | 16 => ("RestBoardModel", "open", "I", false)
  | 17 => ("RestBoardModel", "blockSort", "[I", true)
  | 18 => ("RestBoardModel", "blockLimit", "[I", true)
  | 19 => ("RestBoardModel", "nBlocks", "I", false)
  | 20 => ("RestBoardModel", "loops", "I", false)
  | 21 => ("RestBoardModel", "termDepth", "[I", true)
  | 22 => ("RestBoardModel", "nTerms", "I", false)
  | 23 => ("RestBoardModel", "noted", "I", false)
  | 24 => ("RestBoardModel", "switched", "I", false)
  | 25 => ("RestBoardModel", "off", "I", false)
  | 26 => ("RestBoardModel", "todo", "[I", true)
  | 27 => ("RestBoardModel", "todoAt", "[I", true)
  | 28 => ("RestBoardModel", "todoEnd", "[I", true)
  | 29 => ("RestBoardModel", "nTodo", "I", false)
  | 30 => ("RestBoardModel", "values", "[I", true)
  | 31 => ("RestBoardModel", "nValues", "I", false)
  | 32 => ("RestBoardModel", "runNode", "[I", true)
  | 33 => ("RestBoardModel", "runPlace", "[I", true)
  | 34 => ("RestBoardModel", "runTodo", "[I", true)
  | 35 => ("RestBoardModel", "runValues", "[I", true)
  | 36 => ("RestBoardModel", "locals", "[I", true)
  | 37 => ("RestBoardModel", "args", "[I", true)
  | 38 => ("RestBoardModel", "locks", "[I", true)
  | 39 => ("RestBoardModel", "nRuns", "I", false)
  | 40 => ("RestBoardModel", "steps", "I", false)
  | 41 => ("RestBoardModel", "error", "I", false)
  | 42 => ("RestBoardModel", "reason", "I", false)
  | 43 => ("RestBoardModel", "result", "I", false)
  | 44 => ("RestBoardModel", "nTrace", "I", false)
  | 45 => ("RestBoardModel", "traceNode", "[I", true)
  | 46 => ("RestBoardModel", "tracePlace", "[I", true)
  | 47 => ("RestBoardModel", "places", "[I", true)
  | 48 => ("RestBoardModel", "latestError", "I", false)
  | 49 => ("RestBoardModel", "latestReason", "I", false)
  | 50 => ("RestBoardModel", "latestMany", "I", false)
  | 51 => ("RestBoardModel", "latestTrace", "[I", true)
  | 52 => ("RestBoardModel", "latestSteps", "I", false)
  | 53 => ("RestBoardModel", "isPaper", "Z", false)
  | 54 => ("RestBoardModel", "turns", "[Z", true)
  | 55 => ("RestBoardModel", "fresh", "[I", true)
  | 56 => ("RestBoardModel", "old", "[I", true)
  | 57 => ("RestBoardModel", "line1", "[I", true)
  | _ => ("RestBoardModel", "nLine", "I", false)
def tyX12 : Nat → FieldType := fun k => match k with
  | 0 => .int
  | 1 => .int
  | 2 => .array .int
  | 3 => .array .int
  | 4 => .array .int
  | 5 => .array .int
  | 6 => .int
  | 7 => .array .int
  | 8 => .array .int
  | 9 => .int
  | 10 => .int
  | 11 => .int
  | 12 => .int
  | 13 => .boolean
  | 14 => .array .int
  | 15 => .array .int
  | 16 => .int
  | 17 => .array .int
  | 18 => .array .int
  | 19 => .int
  | 20 => .int
  | 21 => .array .int
  | 22 => .int
  | 23 => .int
  | 24 => .int
  | 25 => .int
  | 26 => .array .int
  | 27 => .array .int
  | 28 => .array .int
  | 29 => .int
  | 30 => .array .int
  | 31 => .int
  | 32 => .array .int
  | 33 => .array .int
  | 34 => .array .int
  | 35 => .array .int
  | 36 => .array .int
  | 37 => .array .int
  | 38 => .array .int
  | 39 => .int
  | 40 => .int
  | 41 => .int
  | 42 => .int
  | 43 => .int
  | 44 => .int
  | 45 => .array .int
  | 46 => .array .int
  | 47 => .array .int
  | 48 => .int
  | 49 => .int
  | 50 => .int
  | 51 => .array .int
  | 52 => .int
  | 53 => .boolean
  | 54 => .array .boolean
  | 55 => .array .int
  | 56 => .array .int
  | 57 => .array .int
  | _ => .int
abbrev wsX120 : List Cond := u_ws RX12 TX12 59
theorem nmX12 : ∀ a, a < 59 → ∀ b, b < 59 → a ≠ b → (TX12 a).2.1 ≠ (TX12 b).2.1 := by decide +kernel
theorem tyX12_ok : ∀ k, k < 59 → parseFieldDescriptor (TX12 k).2.2.1 = some (tyX12 k) := by decide +kernel
abbrev cX12_init : ByteArray := prog_14_method_1_code
def yX12_init : MethodName := ⟨RX12, "<init>", "()V"⟩
abbrev cX12_in : ByteArray := prog_14_method_3_code
def yX12_in : MethodName := ⟨RX12, "in", "(JJJ)Z"⟩
abbrev cX12_tell : ByteArray := prog_14_method_4_code
def yX12_tell : MethodName := ⟨RX12, "tell", "(I)I"⟩
abbrev cX12_refuse : ByteArray := prog_14_method_5_code
def yX12_refuse : MethodName := ⟨RX12, "refuse", "(I)I"⟩
abbrev cX12_copy : ByteArray := prog_14_method_6_code
def yX12_copy : MethodName := ⟨RX12, "copy", "([II[II)V"⟩
abbrev cX12_remember : ByteArray := prog_14_method_7_code
def yX12_remember : MethodName := ⟨RX12, "remember", "(I)V"⟩
abbrev cX12_undo : ByteArray := prog_14_method_8_code
def yX12_undo : MethodName := ⟨RX12, "undo", "()I"⟩
abbrev cX12_at : ByteArray := prog_14_method_9_code
def yX12_at : MethodName := ⟨RX12, "at", "(I)I"⟩
abbrev cX12_kind : ByteArray := prog_14_method_10_code
def yX12_kind : MethodName := ⟨RX12, "kind", "(I)I"⟩
abbrev cX12_isNode : ByteArray := prog_14_method_11_code
def yX12_isNode : MethodName := ⟨RX12, "isNode", "(I)Z"⟩
abbrev cX12_isOf : ByteArray := prog_14_method_12_code
def yX12_isOf : MethodName := ⟨RX12, "isOf", "(II)Z"⟩
abbrev cX12_own : ByteArray := prog_14_method_13_code
def yX12_own : MethodName := ⟨RX12, "own", "(II)I"⟩
abbrev cX12_ownOf : ByteArray := prog_14_method_14_code
def yX12_ownOf : MethodName := ⟨RX12, "ownOf", "(III)I"⟩
abbrev cX12_seek : ByteArray := prog_14_method_15_code
def yX12_seek : MethodName := ⟨RX12, "seek", "(II)I"⟩
abbrev cX12_lookUp : ByteArray := prog_14_method_16_code
def yX12_lookUp : MethodName := ⟨RX12, "lookUp", "(II)I"⟩
abbrev cX12_isName : ByteArray := prog_14_method_17_code
def yX12_isName : MethodName := ⟨RX12, "isName", "(I)Z"⟩
abbrev cX12_four : ByteArray := prog_14_method_18_code
def yX12_four : MethodName := ⟨RX12, "four", "(I)V"⟩
abbrev cX12_feed : ByteArray := prog_14_method_19_code
def yX12_feed : MethodName := ⟨RX12, "feed", "(IIIII)I"⟩
abbrev cX12_end : ByteArray := prog_14_method_20_code
def yX12_end : MethodName := ⟨RX12, "end", "(I)I"⟩
abbrev cX12_fail : ByteArray := prog_14_method_21_code
def yX12_fail : MethodName := ⟨RX12, "fail", "(I)V"⟩
abbrev cX12_next : ByteArray := prog_14_method_22_code
def yX12_next : MethodName := ⟨RX12, "next", "(II)I"⟩
abbrev cX12_nextLong : ByteArray := prog_14_method_23_code
def yX12_nextLong : MethodName := ⟨RX12, "nextLong", "(I)I"⟩
abbrev cX12_nextName : ByteArray := prog_14_method_24_code
def yX12_nextName : MethodName := ⟨RX12, "nextName", "()I"⟩
abbrev cX12_add : ByteArray := prog_14_method_25_code
def yX12_add : MethodName := ⟨RX12, "add", "(III)I"⟩
abbrev cX12_kindOf : ByteArray := prog_14_method_26_code
def yX12_kindOf : MethodName := ⟨RX12, "kindOf", "(I)I"⟩
abbrev cX12_readDefinition : ByteArray := prog_14_method_27_code
def yX12_readDefinition : MethodName := ⟨RX12, "readDefinition", "()V"⟩
abbrev cX12_nextValue : ByteArray := prog_14_method_28_code
def yX12_nextValue : MethodName := ⟨RX12, "nextValue", "()I"⟩
abbrev cX12_readRest : ByteArray := prog_14_method_29_code
def yX12_readRest : MethodName := ⟨RX12, "readRest", "(I)V"⟩
abbrev cX12_openInner : ByteArray := prog_14_method_30_code
def yX12_openInner : MethodName := ⟨RX12, "openInner", "(I)V"⟩
abbrev cX12_leaveOver : ByteArray := prog_14_method_31_code
def yX12_leaveOver : MethodName := ⟨RX12, "leaveOver", "()V"⟩
abbrev cX12_readTable : ByteArray := prog_14_method_32_code
def yX12_readTable : MethodName := ⟨RX12, "readTable", "(I)V"⟩
abbrev cX12_load : ByteArray := prog_14_method_33_code
def yX12_load : MethodName := ⟨RX12, "load", "(I)I"⟩
abbrev cX12_swapWithAhead : ByteArray := prog_14_method_34_code
def yX12_swapWithAhead : MethodName := ⟨RX12, "swapWithAhead", "()V"⟩
abbrev cX12_fault : ByteArray := prog_14_method_35_code
def yX12_fault : MethodName := ⟨RX12, "fault", "()I"⟩
abbrev cX12_readCode : ByteArray := prog_14_method_36_code
def yX12_readCode : MethodName := ⟨RX12, "readCode", "(I)V"⟩
abbrev cX12_openBlock : ByteArray := prog_14_method_37_code
def yX12_openBlock : MethodName := ⟨RX12, "openBlock", "(I)V"⟩
abbrev cX12_readStatement : ByteArray := prog_14_method_38_code
def yX12_readStatement : MethodName := ⟨RX12, "readStatement", "(IZ)V"⟩
abbrev cX12_readTerms : ByteArray := prog_14_method_39_code
def yX12_readTerms : MethodName := ⟨RX12, "readTerms", "(II)V"⟩
abbrev cX12_await1 : ByteArray := prog_14_method_40_code
def yX12_await1 : MethodName := ⟨RX12, "await1", "(II)V"⟩
abbrev cX12_readTerm : ByteArray := prog_14_method_41_code
def yX12_readTerm : MethodName := ⟨RX12, "readTerm", "(II)V"⟩
abbrev cX12_bitAt : ByteArray := prog_14_method_42_code
def yX12_bitAt : MethodName := ⟨RX12, "bitAt", "(II)I"⟩
abbrev cX12_peek : ByteArray := prog_14_method_43_code
def yX12_peek : MethodName := ⟨RX12, "peek", "(I)I"⟩
abbrev cX12_select : ByteArray := prog_14_method_44_code
def yX12_select : MethodName := ⟨RX12, "select", "(I)V"⟩
abbrev cX12_firstByte : ByteArray := prog_14_method_45_code
def yX12_firstByte : MethodName := ⟨RX12, "firstByte", "(I)I"⟩
abbrev cX12_lastByte : ByteArray := prog_14_method_46_code
def yX12_lastByte : MethodName := ⟨RX12, "lastByte", "(I)I"⟩
abbrev cX12_readField : ByteArray := prog_14_method_47_code
def yX12_readField : MethodName := ⟨RX12, "readField", "(I)I"⟩
abbrev cX12_writeField : ByteArray := prog_14_method_48_code
def yX12_writeField : MethodName := ⟨RX12, "writeField", "(II)V"⟩
abbrev cX12_push : ByteArray := prog_14_method_49_code
def yX12_push : MethodName := ⟨RX12, "push", "(IIIII)V"⟩
abbrev cX12_notes : ByteArray := prog_14_method_50_code
def yX12_notes : MethodName := ⟨RX12, "notes", "(II)V"⟩
abbrev cX12_switches : ByteArray := prog_14_method_51_code
def yX12_switches : MethodName := ⟨RX12, "switches", "(II)V"⟩
abbrev cX12_codeAt : ByteArray := prog_14_method_52_code
def yX12_codeAt : MethodName := ⟨RX12, "codeAt", "(I)I"⟩
abbrev cX12_home : ByteArray := prog_14_method_53_code
def yX12_home : MethodName := ⟨RX12, "home", "()I"⟩
abbrev cX12_toDo : ByteArray := prog_14_method_54_code
def yX12_toDo : MethodName := ⟨RX12, "toDo", "(III)V"⟩
abbrev cX12_give : ByteArray := prog_14_method_55_code
def yX12_give : MethodName := ⟨RX12, "give", "(I)V"⟩
abbrev cX12_take : ByteArray := prog_14_method_56_code
def yX12_take : MethodName := ⟨RX12, "take", "()I"⟩
abbrev cX12_termEnd : ByteArray := prog_14_method_57_code
def yX12_termEnd : MethodName := ⟨RX12, "termEnd", "(I)I"⟩
abbrev cX12_statementEnd : ByteArray := prog_14_method_58_code
def yX12_statementEnd : MethodName := ⟨RX12, "statementEnd", "(II)I"⟩
abbrev cX12_releaseAll : ByteArray := prog_14_method_59_code
def yX12_releaseAll : MethodName := ⟨RX12, "releaseAll", "()V"⟩
abbrev cX12_fails : ByteArray := prog_14_method_60_code
def yX12_fails : MethodName := ⟨RX12, "fails", "(II)V"⟩
abbrev cX12_returns : ByteArray := prog_14_method_61_code
def yX12_returns : MethodName := ⟨RX12, "returns", "(I)V"⟩
abbrev cX12_enter : ByteArray := prog_14_method_62_code
def yX12_enter : MethodName := ⟨RX12, "enter", "(I)V"⟩
abbrev cX12_steps : ByteArray := prog_14_method_63_code
def yX12_steps : MethodName := ⟨RX12, "steps", "(I)Z"⟩
abbrev cX12_run : ByteArray := prog_14_method_64_code
def yX12_run : MethodName := ⟨RX12, "run", "(IIII)Z"⟩
abbrev cX12_goOn : ByteArray := prog_14_method_65_code
def yX12_goOn : MethodName := ⟨RX12, "goOn", "(III)V"⟩
abbrev cX12_test : ByteArray := prog_14_method_66_code
def yX12_test : MethodName := ⟨RX12, "test", "(I)V"⟩
abbrev cX12_beginTerm : ByteArray := prog_14_method_67_code
def yX12_beginTerm : MethodName := ⟨RX12, "beginTerm", "(I)V"⟩
abbrev cX12_toDoTerms : ByteArray := prog_14_method_68_code
def yX12_toDoTerms : MethodName := ⟨RX12, "toDoTerms", "(II)V"⟩
abbrev cX12_giveValue : ByteArray := prog_14_method_69_code
def yX12_giveValue : MethodName := ⟨RX12, "giveValue", "(I)V"⟩
abbrev cX12_giveOn : ByteArray := prog_14_method_70_code
def yX12_giveOn : MethodName := ⟨RX12, "giveOn", "(I)V"⟩
abbrev cX12_apply : ByteArray := prog_14_method_71_code
def yX12_apply : MethodName := ⟨RX12, "apply", "(I)V"⟩
abbrev cX12_callIt : ByteArray := prog_14_method_72_code
def yX12_callIt : MethodName := ⟨RX12, "callIt", "(II)V"⟩
abbrev cX12_operate : ByteArray := prog_14_method_73_code
def yX12_operate : MethodName := ⟨RX12, "operate", "(III)V"⟩
abbrev cX12_beginStatement : ByteArray := prog_14_method_74_code
def yX12_beginStatement : MethodName := ⟨RX12, "beginStatement", "(II)V"⟩
abbrev cX12_leaveLoop : ByteArray := prog_14_method_75_code
def yX12_leaveLoop : MethodName := ⟨RX12, "leaveLoop", "()V"⟩
abbrev cX12_locks : ByteArray := prog_14_method_76_code
def yX12_locks : MethodName := ⟨RX12, "locks", "(IZ)V"⟩
abbrev cX12_does : ByteArray := prog_14_method_77_code
def yX12_does : MethodName := ⟨RX12, "does", "(II)V"⟩
abbrev cX12_stores : ByteArray := prog_14_method_78_code
def yX12_stores : MethodName := ⟨RX12, "stores", "(II)V"⟩
abbrev cX12_putIn : ByteArray := prog_14_method_79_code
def yX12_putIn : MethodName := ⟨RX12, "putIn", "(III)V"⟩
abbrev cX12_runs : ByteArray := prog_14_method_80_code
def yX12_runs : MethodName := ⟨RX12, "runs", "(IIII)Z"⟩
abbrev cX12_runsOwn : ByteArray := prog_14_method_81_code
def yX12_runsOwn : MethodName := ⟨RX12, "runsOwn", "(III)Z"⟩
abbrev cX12_isValue : ByteArray := prog_14_method_82_code
def yX12_isValue : MethodName := ⟨RX12, "isValue", "(I)Z"⟩
abbrev cX12_call : ByteArray := prog_14_method_83_code
def yX12_call : MethodName := ⟨RX12, "call", "(IIII)I"⟩
abbrev cX12_store : ByteArray := prog_14_method_84_code
def yX12_store : MethodName := ⟨RX12, "store", "(II)I"⟩
abbrev cX12_noTurns : ByteArray := prog_14_method_85_code
def yX12_noTurns : MethodName := ⟨RX12, "noTurns", "()V"⟩
abbrev cX12_counts : ByteArray := prog_14_method_86_code
def yX12_counts : MethodName := ⟨RX12, "counts", "([IIZ)V"⟩
abbrev cX12_resourceBy : ByteArray := prog_14_method_87_code
def yX12_resourceBy : MethodName := ⟨RX12, "resourceBy", "(II)I"⟩
abbrev cX12_packageOf : ByteArray := prog_14_method_88_code
def yX12_packageOf : MethodName := ⟨RX12, "packageOf", "(II)I"⟩
abbrev cX12_canHave : ByteArray := prog_14_method_89_code
def yX12_canHave : MethodName := ⟨RX12, "canHave", "(II)Z"⟩
abbrev cX12_copyList : ByteArray := prog_14_method_90_code
def yX12_copyList : MethodName := ⟨RX12, "copyList", "([II[II)V"⟩
abbrev cX12_has : ByteArray := prog_14_method_91_code
def yX12_has : MethodName := ⟨RX12, "has", "(II[I)V"⟩
abbrev cX12_powers : ByteArray := prog_14_method_92_code
def yX12_powers : MethodName := ⟨RX12, "powers", "(II)V"⟩
abbrev cX12_isDevice : ByteArray := prog_14_method_93_code
def yX12_isDevice : MethodName := ⟨RX12, "isDevice", "(I)Z"⟩
abbrev cX12_fitsBelow : ByteArray := prog_14_method_94_code
def yX12_fitsBelow : MethodName := ⟨RX12, "fitsBelow", "(II)Z"⟩
abbrev cX12_power : ByteArray := prog_14_method_95_code
def yX12_power : MethodName := ⟨RX12, "power", "(II)I"⟩
abbrev cX12_canArm : ByteArray := prog_14_method_96_code
def yX12_canArm : MethodName := ⟨RX12, "canArm", "(II)Z"⟩
abbrev cX12_arm : ByteArray := prog_14_method_97_code
def yX12_arm : MethodName := ⟨RX12, "arm", "(I)I"⟩
abbrev cX12_disarm : ByteArray := prog_14_method_98_code
def yX12_disarm : MethodName := ⟨RX12, "disarm", "(I)I"⟩
abbrev cX12_restNumber : ByteArray := prog_14_method_99_code
def yX12_restNumber : MethodName := ⟨RX12, "restNumber", "(I)I"⟩
abbrev cX12_isArmed : ByteArray := prog_14_method_100_code
def yX12_isArmed : MethodName := ⟨RX12, "isArmed", "(I)Z"⟩
abbrev cX12_isLevel : ByteArray := prog_14_method_101_code
def yX12_isLevel : MethodName := ⟨RX12, "isLevel", "(II)Z"⟩
abbrev cX12_whyNot : ByteArray := prog_14_method_102_code
def yX12_whyNot : MethodName := ⟨RX12, "whyNot", "(I)I"⟩
abbrev cX12_above : ByteArray := prog_14_method_103_code
def yX12_above : MethodName := ⟨RX12, "above", "(I)I"⟩
abbrev cX12_layOrder : ByteArray := prog_14_method_104_code
def yX12_layOrder : MethodName := ⟨RX12, "layOrder", "()V"⟩
abbrev cX12_restPower : ByteArray := prog_14_method_105_code
def yX12_restPower : MethodName := ⟨RX12, "restPower", "(II)I"⟩
abbrev cX12_goBack : ByteArray := prog_14_method_106_code
def yX12_goBack : MethodName := ⟨RX12, "goBack", "(I)V"⟩
abbrev cX12_isDeepEnough : ByteArray := prog_14_method_107_code
def yX12_isDeepEnough : MethodName := ⟨RX12, "isDeepEnough", "(I)Z"⟩
abbrev cX12_restsOne : ByteArray := prog_14_method_108_code
def yX12_restsOne : MethodName := ⟨RX12, "restsOne", "(III)I"⟩
abbrev cX12_restsAll : ByteArray := prog_14_method_109_code
def yX12_restsAll : MethodName := ⟨RX12, "restsAll", "(I)I"⟩
abbrev cX12_whyRest : ByteArray := prog_14_method_110_code
def yX12_whyRest : MethodName := ⟨RX12, "whyRest", "(I)I"⟩
abbrev cX12_rest : ByteArray := prog_14_method_111_code
def yX12_rest : MethodName := ⟨RX12, "rest", "(I)I"⟩
abbrev cX12_would : ByteArray := prog_14_method_112_code
def yX12_would : MethodName := ⟨RX12, "would", "(I)I"⟩
abbrev cX12_isTied : ByteArray := prog_14_method_113_code
def yX12_isTied : MethodName := ⟨RX12, "isTied", "(II)Z"⟩
abbrev cX12_wakes : ByteArray := prog_14_method_114_code
def yX12_wakes : MethodName := ⟨RX12, "wakes", "()V"⟩
abbrev cX12_raise : ByteArray := prog_14_method_115_code
def yX12_raise : MethodName := ⟨RX12, "raise", "(I)I"⟩
abbrev cX12_clear : ByteArray := prog_14_method_116_code
def yX12_clear : MethodName := ⟨RX12, "clear", "(I)I"⟩
abbrev cX12_node : ByteArray := prog_14_method_117_code
def yX12_node : MethodName := ⟨RX12, "node", "(II)I"⟩
abbrev cX12_deviceOf : ByteArray := prog_14_method_118_code
def yX12_deviceOf : MethodName := ⟨RX12, "deviceOf", "(II)I"⟩
abbrev cX12_code : ByteArray := prog_14_method_119_code
def yX12_code : MethodName := ⟨RX12, "code", "(II)I"⟩
abbrev cX12_register : ByteArray := prog_14_method_120_code
def yX12_register : MethodName := ⟨RX12, "register", "(II)I"⟩
abbrev cX12_bitsOf : ByteArray := prog_14_method_121_code
def yX12_bitsOf : MethodName := ⟨RX12, "bitsOf", "(I)J"⟩
abbrev cX12_wantsOf : ByteArray := prog_14_method_122_code
def yX12_wantsOf : MethodName := ⟨RX12, "wantsOf", "(I)J"⟩
abbrev cX12_wants : ByteArray := prog_14_method_123_code
def yX12_wants : MethodName := ⟨RX12, "wants", "(I)J"⟩
abbrev cX12_wanted : ByteArray := prog_14_method_124_code
def yX12_wanted : MethodName := ⟨RX12, "wanted", "(I)J"⟩
abbrev cX12_deepest : ByteArray := prog_14_method_125_code
def yX12_deepest : MethodName := ⟨RX12, "deepest", "()I"⟩
abbrev cX12_why : ByteArray := prog_14_method_126_code
def yX12_why : MethodName := ⟨RX12, "why", "(I)I"⟩
abbrev cX12_order : ByteArray := prog_14_method_127_code
def yX12_order : MethodName := ⟨RX12, "order", "(I)I"⟩
abbrev cX12_forgotten : ByteArray := prog_14_method_128_code
def yX12_forgotten : MethodName := ⟨RX12, "forgotten", "()I"⟩
abbrev cX12_tries : ByteArray := prog_14_method_129_code
def yX12_tries : MethodName := ⟨RX12, "tries", "(IIIII)I"⟩
abbrev cX12_error : ByteArray := prog_14_method_130_code
def yX12_error : MethodName := ⟨RX12, "error", "(I)I"⟩
abbrev cX12_note : ByteArray := prog_14_method_131_code
def yX12_note : MethodName := ⟨RX12, "note", "(II)I"⟩
abbrev cX12_switched : ByteArray := prog_14_method_132_code
def yX12_switched : MethodName := ⟨RX12, "switched", "(II)I"⟩
abbrev cX12_manyOf : ByteArray := prog_14_method_133_code
def yX12_manyOf : MethodName := ⟨RX12, "manyOf", "(I)I"⟩
abbrev cX12_armedOnes : ByteArray := prog_14_method_134_code
def yX12_armedOnes : MethodName := ⟨RX12, "armedOnes", "()I"⟩
abbrev cX12_count : ByteArray := prog_14_method_135_code
def yX12_count : MethodName := ⟨RX12, "count", "(I)I"⟩
abbrev cX12_status : ByteArray := prog_14_method_136_code
def yX12_status : MethodName := ⟨RX12, "status", "()I"⟩
def RJ6 : String := "java/lang/Integer"
def TJ6 : u_T := fun k => match k with
  | _ => ("", "", "", false)
def tyJ6 : Nat → FieldType := fun k => match k with
  | _ => .int
abbrev wsJ60 : List Cond := u_ws RJ6 TJ6 0
theorem nmJ6 : ∀ a, a < 0 → ∀ b, b < 0 → a ≠ b → (TJ6 a).2.1 ≠ (TJ6 b).2.1 := by decide +kernel
theorem tyJ6_ok : ∀ k, k < 0 → parseFieldDescriptor (TJ6 k).2.2.1 = some (tyJ6 k) := by decide +kernel
abbrev cJ6_bitCount_0f7a4 : ByteArray := prog_15_method_49_code
def yJ6_bitCount_0f7a4 : MethodName := ⟨RJ6, "bitCount", "(I)I"⟩
def RJ9 : String := "java/lang/Math"
def TJ9 : u_T := fun k => match k with
  | _ => ("", "", "", false)
def tyJ9 : Nat → FieldType := fun k => match k with
  | _ => .int
abbrev wsJ90 : List Cond := u_ws RJ9 TJ9 0
theorem nmJ9 : ∀ a, a < 0 → ∀ b, b < 0 → a ≠ b → (TJ9 a).2.1 ≠ (TJ9 b).2.1 := by decide +kernel
theorem tyJ9_ok : ∀ k, k < 0 → parseFieldDescriptor (TJ9 k).2.2.1 = some (tyJ9 k) := by decide +kernel
abbrev cJ9_max_7cf53 : ByteArray := prog_16_method_65_code
def yJ9_max_7cf53 : MethodName := ⟨RJ9, "max", "(II)I"⟩
abbrev cJ9_min_7cf53 : ByteArray := prog_16_method_69_code
def yJ9_min_7cf53 : MethodName := ⟨RJ9, "min", "(II)I"⟩
def RJ10 : String := "java/lang/System"
def TJ10 : u_T := fun k => match k with
  | _ => ("", "", "", false)
def tyJ10 : Nat → FieldType := fun k => match k with
  | _ => .int
abbrev wsJ100 : List Cond := u_ws RJ10 TJ10 0
theorem nmJ10 : ∀ a, a < 0 → ∀ b, b < 0 → a ≠ b → (TJ10 a).2.1 ≠ (TJ10 b).2.1 := by decide +kernel
theorem tyJ10_ok : ∀ k, k < 0 → parseFieldDescriptor (TJ10 k).2.2.1 = some (tyJ10 k) := by decide +kernel
def RJ7 : String := "java/util/Arrays"
def TJ7 : u_T := fun k => match k with
  | _ => ("", "", "", false)
def tyJ7 : Nat → FieldType := fun k => match k with
  | _ => .int
abbrev wsJ70 : List Cond := u_ws RJ7 TJ7 0
theorem nmJ7 : ∀ a, a < 0 → ∀ b, b < 0 → a ≠ b → (TJ7 a).2.1 ≠ (TJ7 b).2.1 := by decide +kernel
theorem tyJ7_ok : ∀ k, k < 0 → parseFieldDescriptor (TJ7 k).2.2.1 = some (tyJ7 k) := by decide +kernel
abbrev cJ7_rangeCheck_23922 : ByteArray := prog_18_method_30_code
def yJ7_rangeCheck_23922 : MethodName := ⟨RJ7, "rangeCheck", "(III)V"⟩
abbrev cJ7_fill_53178 : ByteArray := prog_18_method_103_code
def yJ7_fill_53178 : MethodName := ⟨RJ7, "fill", "([II)V"⟩
abbrev cJ7_fill_fda19 : ByteArray := prog_18_method_104_code
def yJ7_fill_fda19 : MethodName := ⟨RJ7, "fill", "([IIII)V"⟩
def RL : String := "RestBoardLaw"
abbrev cL_law : ByteArray := code
def yL_law : MethodName := ⟨RL, "law", "([I)Z"⟩
def wsX1_kept : List Cond := .code yX1_kept cX1_kept 1 (some .int) :: ([.fieldLink RX1 24 "RestBoard$History" "kept" "I"] ++ wsX10)
def wsX2_told : List Cond := .code yX2_told cX2_told 4 (some .int) :: ([.fieldLink RX2 22 "RestBoard$Log" "kept" "I", .fieldLink RX2 18 "RestBoard$Log" "next" "I", .fieldLink RX2 9 "RestBoard$Log" "who" "[I", .fieldLink RX2 15 "RestBoard$Log" "what" "[I"] ++ wsX20)
def wsX3_steps : List Cond := .code yX3_steps cX3_steps 1 (some .int) :: ([.fieldLink RX3 41 "RestBoard$Machine" "steps" "I"] ++ wsX30)
def wsX3_told : List Cond := .code yX3_told cX3_told 2 (some .int) :: ([.fieldLink RX3 17 "RestBoard$Machine" "latest" "[I"] ++ wsX30)
def wsX10_child : List Cond := .code yX10_child cX10_child 5 (some .int) :: ([.fieldLink RX10 11 "RestBoard$Tree" "nodes" "[LRestBoard$Node;", .fieldLink RX10 43 "RestBoard$Node" "name" "I", .fieldLink RX10 46 "RestBoard$Node" "parent" "I"] ++ wsX100 ++ wsX40)
def wsX10_find : List Cond := .code yX10_find cX10_find 6 (some .int) :: ([.fieldLink RX10 17 "RestBoard$Tree" "now" "LRestBoard$State;", .fieldLink RX10 26 "RestBoard$State" "size" "I", .fieldLink RX10 11 "RestBoard$Tree" "nodes" "[LRestBoard$Node;", .fieldLink RX10 46 "RestBoard$Node" "parent" "I", .methodLink RX10 49 yX10_child, .instanceMethod yX10_child, .selects RX10 yX10_child yX10_child, .initialized RX10, .code yX10_child cX10_child 5 (some .int), .fieldLink RX10 43 "RestBoard$Node" "name" "I"] ++ wsX100 ++ wsX80 ++ wsX40)
def wsX10_has : List Cond := .code yX10_has cX10_has 2 (some .boolean) :: ([.fieldLink RX10 17 "RestBoard$Tree" "now" "LRestBoard$State;", .fieldLink RX10 26 "RestBoard$State" "size" "I"] ++ wsX100 ++ wsX80)
def wsX10_is : List Cond := .code yX10_is cX10_is 3 (some .boolean) :: ([.fieldLink RX10 11 "RestBoard$Tree" "nodes" "[LRestBoard$Node;", .fieldLink RX10 36 "RestBoard$Node" "kind" "I", .methodLink RX10 32 yX10_has, .instanceMethod yX10_has, .selects RX10 yX10_has yX10_has, .initialized RX10, .code yX10_has cX10_has 2 (some .boolean), .fieldLink RX10 17 "RestBoard$Tree" "now" "LRestBoard$State;", .fieldLink RX10 26 "RestBoard$State" "size" "I"] ++ wsX100 ++ wsX40 ++ wsX80)
def wsX10_holdsValue : List Cond := .code yX10_holdsValue cX10_holdsValue 2 (some .boolean) :: ([.methodLink RX10 39 yX10_is, .instanceMethod yX10_is, .selects RX10 yX10_is yX10_is, .initialized RX10, .code yX10_is cX10_is 3 (some .boolean), .fieldLink RX10 11 "RestBoard$Tree" "nodes" "[LRestBoard$Node;", .fieldLink RX10 36 "RestBoard$Node" "kind" "I", .methodLink RX10 32 yX10_has, .instanceMethod yX10_has, .selects RX10 yX10_has yX10_has, .code yX10_has cX10_has 2 (some .boolean), .fieldLink RX10 17 "RestBoard$Tree" "now" "LRestBoard$State;", .fieldLink RX10 26 "RestBoard$State" "size" "I"] ++ wsX100 ++ wsX40 ++ wsX80)
def wsX10_own : List Cond := .code yX10_own cX10_own 5 (some .int) :: ([.fieldLink RX10 17 "RestBoard$Tree" "now" "LRestBoard$State;", .fieldLink RX10 26 "RestBoard$State" "size" "I", .fieldLink RX10 11 "RestBoard$Tree" "nodes" "[LRestBoard$Node;", .fieldLink RX10 36 "RestBoard$Node" "kind" "I", .methodLink RX10 49 yX10_child, .instanceMethod yX10_child, .selects RX10 yX10_child yX10_child, .initialized RX10, .code yX10_child cX10_child 5 (some .int), .fieldLink RX10 43 "RestBoard$Node" "name" "I", .fieldLink RX10 46 "RestBoard$Node" "parent" "I"] ++ wsX100 ++ wsX80 ++ wsX40)
def wsX11_isLine : List Cond := .code yX11_isLine cX11_isLine 1 (some .boolean) :: ([])
def wsX5_bits : List Cond := .code yX5_bits cX5_bits 6 (some .long) :: ([])
def wsX5_needs : List Cond := .code yX5_needs cX5_needs 2 (some .long) :: ([.fieldLink RX5 22 "RestBoard$Powers" "now" "LRestBoard$State;", .fieldLink RX5 80 "RestBoard$State" "wanting" "[I", .fieldLink RX5 116 "RestBoard$State" "tied" "[I", .methodLink RX5 159 yX5_bits, .static yX5_bits, .initialized RX5, .code yX5_bits cX5_bits 6 (some .long)] ++ wsX50 ++ wsX80)
def wsX5_resourcesOn : List Cond := .code yX5_resourcesOn cX5_resourcesOn 3 (some .int) :: ([.fieldLink RX5 22 "RestBoard$Powers" "now" "LRestBoard$State;", .fieldLink RX5 63 "RestBoard$State" "size" "I", .fieldLink RX5 18 "RestBoard$Powers" "tree" "LRestBoard$Tree;", .fieldLink RX5 36 "RestBoard$Tree" "nodes" "[LRestBoard$Node;", .fieldLink RX5 66 "RestBoard$Node" "kind" "I", .fieldLink RX5 128 "RestBoard$State" "counts" "[I"] ++ wsX50 ++ wsX80 ++ wsX100 ++ wsX40)
def wsX5_armedDevices : List Cond := .code yX5_armedDevices cX5_armedDevices 3 (some .int) :: ([.fieldLink RX5 22 "RestBoard$Powers" "now" "LRestBoard$State;", .fieldLink RX5 63 "RestBoard$State" "size" "I", .fieldLink RX5 119 "RestBoard$State" "lines" "[I"] ++ wsX50 ++ wsX80)
def wsX7_numberOf : List Cond := .code yX7_numberOf cX7_numberOf 2 (some .int) :: ([.fieldLink RX7 15 "RestBoard$Rests" "tree" "LRestBoard$Tree;", .methodLink RX7 73 yX10_own, .instanceMethod yX10_own, .selects RX10 yX10_own yX10_own, .initialized RX10, .code yX10_own cX10_own 5 (some .int), .fieldLink RX10 17 "RestBoard$Tree" "now" "LRestBoard$State;", .fieldLink RX10 26 "RestBoard$State" "size" "I", .fieldLink RX10 11 "RestBoard$Tree" "nodes" "[LRestBoard$Node;", .fieldLink RX10 36 "RestBoard$Node" "kind" "I", .methodLink RX10 49 yX10_child, .instanceMethod yX10_child, .selects RX10 yX10_child yX10_child, .code yX10_child cX10_child 5 (some .int), .fieldLink RX10 43 "RestBoard$Node" "name" "I", .fieldLink RX10 46 "RestBoard$Node" "parent" "I"] ++ wsX70 ++ wsX100 ++ wsX80 ++ wsX40)
def wsX7_obstacle_r1 : List Cond := [Cond.fieldLink RX7 19 "RestBoard$Rests" "now" "LRestBoard$State;", Cond.fieldLink RX7 35 "RestBoard$State" "size" "I", Cond.fieldLink RX7 41 "RestBoard$State" "lines" "[I", Cond.methodLink RX7 48 Lib.Math.min.name, Cond.static Lib.Math.min.name, Cond.initialized "java/lang/Math", Cond.code Lib.Math.min.name Lib.Math.min.code 2 (some .int), Cond.methodLink RX7 31 yX7_numberOf, Cond.instanceMethod yX7_numberOf, Cond.selects RX7 yX7_numberOf yX7_numberOf, Cond.initialized RX7, Cond.code yX7_numberOf cX7_numberOf 2 (some .int), Cond.fieldLink RX7 15 "RestBoard$Rests" "tree" "LRestBoard$Tree;", Cond.methodLink RX7 73 yX10_own, Cond.instanceMethod yX10_own, Cond.selects RX10 yX10_own yX10_own, Cond.initialized RX10, Cond.code yX10_own cX10_own 5 (some .int), Cond.fieldLink RX10 17 "RestBoard$Tree" "now" "LRestBoard$State;", Cond.fieldLink RX10 26 "RestBoard$State" "size" "I", Cond.fieldLink RX10 11 "RestBoard$Tree" "nodes" "[LRestBoard$Node;", Cond.fieldLink RX10 36 "RestBoard$Node" "kind" "I", Cond.methodLink RX10 49 yX10_child, Cond.instanceMethod yX10_child]
def wsX7_obstacle_r2 : List Cond := [Cond.selects RX10 yX10_child yX10_child, Cond.code yX10_child cX10_child 5 (some .int), Cond.fieldLink RX10 43 "RestBoard$Node" "name" "I", Cond.fieldLink RX10 46 "RestBoard$Node" "parent" "I", Cond.methodLink RX7 44 yX7_obstacleBy, Cond.instanceMethod yX7_obstacleBy, Cond.selects RX7 yX7_obstacleBy yX7_obstacleBy, Cond.code yX7_obstacleBy cX7_obstacleBy 4 (some .int), Cond.fieldLink RX7 53 "RestBoard$State" "depths" "[I", Cond.fieldLink RX7 56 "RestBoard$State" "tied" "[I", Cond.fieldLink RX7 59 "RestBoard$Tree" "nodes" "[LRestBoard$Node;", Cond.fieldLink RX7 65 "RestBoard$Node" "level" "I", Cond.fieldLink RX7 70 "RestBoard$State" "raised" "I"]
def wsX7_obstacle : List Cond := .code yX7_obstacle cX7_obstacle 4 (some .int) :: ((wsX7_obstacle_r1 ++ wsX7_obstacle_r2) ++ wsX70 ++ wsX80 ++ wsX100 ++ wsX40)
def wsX7_mostAbove : List Cond := .code yX7_mostAbove cX7_mostAbove 3 (some .int) :: ([.fieldLink RX7 19 "RestBoard$Rests" "now" "LRestBoard$State;", .fieldLink RX7 35 "RestBoard$State" "size" "I", .fieldLink RX7 15 "RestBoard$Rests" "tree" "LRestBoard$Tree;", .fieldLink RX7 59 "RestBoard$Tree" "nodes" "[LRestBoard$Node;", .fieldLink RX7 87 "RestBoard$Node" "above" "I", .methodLink RX7 90 Lib.Math.max.name, .static Lib.Math.max.name, .initialized "java/lang/Math", .code Lib.Math.max.name Lib.Math.max.code 2 (some .int)] ++ wsX70 ++ wsX80 ++ wsX100 ++ wsX40)
def wsX7_sortDevices : List Cond := .code yX7_sortDevices cX7_sortDevices 4 (some .int) :: ([.fieldLink RX7 19 "RestBoard$Rests" "now" "LRestBoard$State;", .fieldLink RX7 35 "RestBoard$State" "size" "I", .fieldLink RX7 15 "RestBoard$Rests" "tree" "LRestBoard$Tree;", .fieldLink RX7 59 "RestBoard$Tree" "nodes" "[LRestBoard$Node;", .fieldLink RX7 84 "RestBoard$Node" "kind" "I", .fieldLink RX7 87 "RestBoard$Node" "above" "I", .fieldLink RX7 9 "RestBoard$Rests" "turns" "[I", .methodLink RX7 81 yX7_mostAbove, .instanceMethod yX7_mostAbove, .selects RX7 yX7_mostAbove yX7_mostAbove, .initialized RX7, .code yX7_mostAbove cX7_mostAbove 3 (some .int), .methodLink RX7 90 Lib.Math.max.name, .static Lib.Math.max.name, .initialized "java/lang/Math", .code Lib.Math.max.name Lib.Math.max.code 2 (some .int)] ++ wsX70 ++ wsX80 ++ wsX100 ++ wsX40)
def wsX7_inTurn : List Cond := .code yX7_inTurn cX7_inTurn 3 (some .int) :: ([.fieldLink RX7 9 "RestBoard$Rests" "turns" "[I", .methodLink RX7 77 yX7_sortDevices, .instanceMethod yX7_sortDevices, .selects RX7 yX7_sortDevices yX7_sortDevices, .initialized RX7, .code yX7_sortDevices cX7_sortDevices 4 (some .int), .fieldLink RX7 19 "RestBoard$Rests" "now" "LRestBoard$State;", .fieldLink RX7 35 "RestBoard$State" "size" "I", .fieldLink RX7 15 "RestBoard$Rests" "tree" "LRestBoard$Tree;", .fieldLink RX7 59 "RestBoard$Tree" "nodes" "[LRestBoard$Node;", .fieldLink RX7 84 "RestBoard$Node" "kind" "I", .fieldLink RX7 87 "RestBoard$Node" "above" "I", .methodLink RX7 81 yX7_mostAbove, .instanceMethod yX7_mostAbove, .selects RX7 yX7_mostAbove yX7_mostAbove, .code yX7_mostAbove cX7_mostAbove 3 (some .int), .methodLink RX7 90 Lib.Math.max.name, .static Lib.Math.max.name, .initialized "java/lang/Math", .code Lib.Math.max.name Lib.Math.max.code 2 (some .int)] ++ wsX70 ++ wsX80 ++ wsX100 ++ wsX40)
def wsX7_tiedTo : List Cond := .code yX7_tiedTo cX7_tiedTo 4 (some .int) :: ([.fieldLink RX7 19 "RestBoard$Rests" "now" "LRestBoard$State;", .fieldLink RX7 35 "RestBoard$State" "size" "I", .fieldLink RX7 41 "RestBoard$State" "lines" "[I"] ++ wsX70 ++ wsX80)
def wsX9_length : List Cond := .code yX9_length cX9_length 1 (some .int) :: ([.fieldLink RX9 35 "RestBoard$Table" "length" "I"] ++ wsX90)
def wsX10_devices : List Cond := .code yX10_devices cX10_devices 3 (some .int) :: ([.fieldLink RX10 17 "RestBoard$Tree" "now" "LRestBoard$State;", .fieldLink RX10 26 "RestBoard$State" "size" "I", .fieldLink RX10 11 "RestBoard$Tree" "nodes" "[LRestBoard$Node;", .fieldLink RX10 36 "RestBoard$Node" "kind" "I"] ++ wsX100 ++ wsX80 ++ wsX40)
def wsX11_fault : List Cond := .code yX11_fault cX11_fault 1 (some .int) :: ([.fieldLink RX11 73 "RestBoard" "latestFault" "I"] ++ wsX110)
def wsX11_isValue : List Cond := .code yX11_isValue cX11_isValue 1 (some .boolean) :: ([.constant RX11 296 (65536)])
def wsX11_refusalToRun : List Cond := .code yX11_refusalToRun cX11_refusalToRun 5 (some .int) :: ([.fieldLink RX11 24 "RestBoard" "tree" "LRestBoard$Tree;", .fieldLink RX11 10 "RestBoard" "now" "LRestBoard$State;", .fieldLink RX11 92 "RestBoard$State" "resting" "I", .methodLink RX11 123 yX11_isValue, .static yX11_isValue, .initialized RX11, .code yX11_isValue cX11_isValue 1 (some .boolean), .constant RX11 296 (65536), .methodLink RX11 85 yX10_is, .instanceMethod yX10_is, .selects RX10 yX10_is yX10_is, .initialized RX10, .code yX10_is cX10_is 3 (some .boolean), .fieldLink RX10 11 "RestBoard$Tree" "nodes" "[LRestBoard$Node;", .fieldLink RX10 36 "RestBoard$Node" "kind" "I", .methodLink RX10 32 yX10_has, .instanceMethod yX10_has, .selects RX10 yX10_has yX10_has, .code yX10_has cX10_has 2 (some .boolean), .fieldLink RX10 17 "RestBoard$Tree" "now" "LRestBoard$State;", .fieldLink RX10 26 "RestBoard$State" "size" "I"] ++ wsX110 ++ wsX80 ++ wsX100 ++ wsX40)
def wsX11_refusalToChange : List Cond := .code yX11_refusalToChange cX11_refusalToChange 2 (some .int) :: ([.fieldLink RX11 24 "RestBoard" "tree" "LRestBoard$Tree;", .fieldLink RX11 10 "RestBoard" "now" "LRestBoard$State;", .fieldLink RX11 92 "RestBoard$State" "resting" "I", .methodLink RX11 85 yX10_is, .instanceMethod yX10_is, .selects RX10 yX10_is yX10_is, .initialized RX10, .code yX10_is cX10_is 3 (some .boolean), .fieldLink RX10 11 "RestBoard$Tree" "nodes" "[LRestBoard$Node;", .fieldLink RX10 36 "RestBoard$Node" "kind" "I", .methodLink RX10 32 yX10_has, .instanceMethod yX10_has, .selects RX10 yX10_has yX10_has, .code yX10_has cX10_has 2 (some .boolean), .fieldLink RX10 17 "RestBoard$Tree" "now" "LRestBoard$State;", .fieldLink RX10 26 "RestBoard$State" "size" "I"] ++ wsX110 ++ wsX80 ++ wsX100 ++ wsX40)
def wsX11_refusalToPower_r1 : List Cond := [Cond.fieldLink RX11 10 "RestBoard" "now" "LRestBoard$State;", Cond.fieldLink RX11 143 "RestBoard$State" "powers" "[I", Cond.fieldLink RX11 24 "RestBoard" "tree" "LRestBoard$Tree;", Cond.fieldLink RX11 198 "RestBoard$Tree" "nodes" "[LRestBoard$Node;", Cond.fieldLink RX11 210 "RestBoard$Node" "parent" "I", Cond.fieldLink RX11 49 "RestBoard" "powers" "LRestBoard$Powers;", Cond.methodLink RX11 157 yX11_refusalToChange, Cond.instanceMethod yX11_refusalToChange, Cond.selects RX11 yX11_refusalToChange yX11_refusalToChange, Cond.initialized RX11, Cond.code yX11_refusalToChange cX11_refusalToChange 2 (some .int), Cond.fieldLink RX11 92 "RestBoard$State" "resting" "I", Cond.methodLink RX11 85 yX10_is, Cond.instanceMethod yX10_is, Cond.selects RX10 yX10_is yX10_is, Cond.initialized RX10, Cond.code yX10_is cX10_is 3 (some .boolean), Cond.fieldLink RX10 11 "RestBoard$Tree" "nodes" "[LRestBoard$Node;", Cond.fieldLink RX10 36 "RestBoard$Node" "kind" "I", Cond.methodLink RX10 32 yX10_has, Cond.instanceMethod yX10_has, Cond.selects RX10 yX10_has yX10_has, Cond.code yX10_has cX10_has 2 (some .boolean), Cond.fieldLink RX10 17 "RestBoard$Tree" "now" "LRestBoard$State;"]
def wsX11_refusalToPower_r2 : List Cond := [Cond.fieldLink RX10 26 "RestBoard$State" "size" "I", Cond.methodLink RX11 297 yX5_leastBelow, Cond.instanceMethod yX5_leastBelow, Cond.selects RX5 yX5_leastBelow yX5_leastBelow, Cond.initialized RX5, Cond.code yX5_leastBelow cX5_leastBelow 4 (some .int), Cond.fieldLink RX5 22 "RestBoard$Powers" "now" "LRestBoard$State;", Cond.fieldLink RX5 63 "RestBoard$State" "size" "I", Cond.fieldLink RX5 18 "RestBoard$Powers" "tree" "LRestBoard$Tree;", Cond.fieldLink RX5 36 "RestBoard$Tree" "nodes" "[LRestBoard$Node;", Cond.fieldLink RX5 66 "RestBoard$Node" "kind" "I", Cond.fieldLink RX5 69 "RestBoard$Node" "parent" "I", Cond.fieldLink RX5 72 "RestBoard$State" "powers" "[I", Cond.methodLink RX5 75 Lib.Math.min.name, Cond.static Lib.Math.min.name, Cond.initialized "java/lang/Math", Cond.code Lib.Math.min.name Lib.Math.min.code 2 (some .int), Cond.methodLink RX11 300 yX5_can, Cond.instanceMethod yX5_can, Cond.selects RX5 yX5_can yX5_can, Cond.code yX5_can cX5_can 4 (some .boolean), Cond.methodLink RX5 26 yX10_own, Cond.instanceMethod yX10_own, Cond.selects RX10 yX10_own yX10_own]
def wsX11_refusalToPower_r3 : List Cond := [Cond.code yX10_own cX10_own 5 (some .int), Cond.methodLink RX10 49 yX10_child, Cond.instanceMethod yX10_child, Cond.selects RX10 yX10_child yX10_child, Cond.code yX10_child cX10_child 5 (some .int), Cond.fieldLink RX10 43 "RestBoard$Node" "name" "I", Cond.fieldLink RX10 46 "RestBoard$Node" "parent" "I", Cond.methodLink RX5 32 yX5_allResources, Cond.instanceMethod yX5_allResources, Cond.selects RX5 yX5_allResources yX5_allResources, Cond.code yX5_allResources cX5_allResources 5 (some .boolean), Cond.fieldLink RX5 40 "RestBoard$Node" "length" "I", Cond.fieldLink RX5 46 "RestBoard$State" "packed" "[I", Cond.methodLink RX5 55 yX10_find, Cond.instanceMethod yX10_find, Cond.selects RX10 yX10_find yX10_find, Cond.code yX10_find cX10_find 6 (some .int), Cond.methodLink RX5 59 yX10_is]
def wsX11_refusalToPower : List Cond := .code yX11_refusalToPower cX11_refusalToPower 5 (some .int) :: ((wsX11_refusalToPower_r1 ++ (wsX11_refusalToPower_r2 ++ wsX11_refusalToPower_r3)) ++ wsX110 ++ wsX80 ++ wsX100 ++ wsX40 ++ wsX50)
def wsX11_refusalToRest_r1 : List Cond := [Cond.fieldLink RX11 10 "RestBoard" "now" "LRestBoard$State;", Cond.fieldLink RX11 92 "RestBoard$State" "resting" "I", Cond.fieldLink RX11 58 "RestBoard" "rests" "LRestBoard$Rests;", Cond.methodLink RX11 239 yX7_obstacle, Cond.instanceMethod yX7_obstacle, Cond.selects RX7 yX7_obstacle yX7_obstacle, Cond.initialized RX7, Cond.code yX7_obstacle cX7_obstacle 4 (some .int), Cond.fieldLink RX7 19 "RestBoard$Rests" "now" "LRestBoard$State;", Cond.fieldLink RX7 35 "RestBoard$State" "size" "I", Cond.fieldLink RX7 41 "RestBoard$State" "lines" "[I", Cond.methodLink RX7 48 Lib.Math.min.name, Cond.static Lib.Math.min.name, Cond.initialized "java/lang/Math", Cond.code Lib.Math.min.name Lib.Math.min.code 2 (some .int), Cond.methodLink RX7 31 yX7_numberOf, Cond.instanceMethod yX7_numberOf, Cond.selects RX7 yX7_numberOf yX7_numberOf, Cond.code yX7_numberOf cX7_numberOf 2 (some .int), Cond.fieldLink RX7 15 "RestBoard$Rests" "tree" "LRestBoard$Tree;", Cond.methodLink RX7 73 yX10_own, Cond.instanceMethod yX10_own, Cond.selects RX10 yX10_own yX10_own, Cond.initialized RX10]
def wsX11_refusalToRest_r2 : List Cond := [Cond.code yX10_own cX10_own 5 (some .int), Cond.fieldLink RX10 17 "RestBoard$Tree" "now" "LRestBoard$State;", Cond.fieldLink RX10 26 "RestBoard$State" "size" "I", Cond.fieldLink RX10 11 "RestBoard$Tree" "nodes" "[LRestBoard$Node;", Cond.fieldLink RX10 36 "RestBoard$Node" "kind" "I", Cond.methodLink RX10 49 yX10_child, Cond.instanceMethod yX10_child, Cond.selects RX10 yX10_child yX10_child, Cond.code yX10_child cX10_child 5 (some .int), Cond.fieldLink RX10 43 "RestBoard$Node" "name" "I", Cond.fieldLink RX10 46 "RestBoard$Node" "parent" "I", Cond.methodLink RX7 44 yX7_obstacleBy, Cond.instanceMethod yX7_obstacleBy, Cond.selects RX7 yX7_obstacleBy yX7_obstacleBy, Cond.code yX7_obstacleBy cX7_obstacleBy 4 (some .int), Cond.fieldLink RX7 53 "RestBoard$State" "depths" "[I", Cond.fieldLink RX7 56 "RestBoard$State" "tied" "[I", Cond.fieldLink RX7 59 "RestBoard$Tree" "nodes" "[LRestBoard$Node;", Cond.fieldLink RX7 65 "RestBoard$Node" "level" "I", Cond.fieldLink RX7 70 "RestBoard$State" "raised" "I"]
def wsX11_refusalToRest : List Cond := .code yX11_refusalToRest cX11_refusalToRest 2 (some .int) :: ((wsX11_refusalToRest_r1 ++ wsX11_refusalToRest_r2) ++ wsX110 ++ wsX80 ++ wsX70 ++ wsX100 ++ wsX40)
def wsX11_isRaised : List Cond := .code yX11_isRaised cX11_isRaised 2 (some .boolean) :: ([.fieldLink RX11 10 "RestBoard" "now" "LRestBoard$State;", .fieldLink RX11 187 "RestBoard$State" "raised" "I"] ++ wsX110 ++ wsX80)
def wsX11_ofDevice : List Cond := .code yX11_ofDevice cX11_ofDevice 3 (some .int) :: ([.fieldLink RX11 10 "RestBoard" "now" "LRestBoard$State;", .fieldLink RX11 143 "RestBoard$State" "powers" "[I", .fieldLink RX11 160 "RestBoard$State" "lines" "[I", .fieldLink RX11 339 "RestBoard$State" "depths" "[I"] ++ wsX110 ++ wsX80)
def wsX11_ofItsKind_r1 : List Cond := [Cond.fieldLink RX11 202 "RestBoard$Node" "kind" "I", Cond.fieldLink RX11 318 "RestBoard$Node" "level" "I", Cond.fieldLink RX11 321 "RestBoard$Node" "rank" "I", Cond.fieldLink RX11 10 "RestBoard" "now" "LRestBoard$State;", Cond.fieldLink RX11 324 "RestBoard$State" "counts" "[I", Cond.fieldLink RX11 327 "RestBoard$Node" "args" "I", Cond.fieldLink RX11 217 "RestBoard$Node" "length" "I", Cond.fieldLink RX11 42 "RestBoard" "machine" "LRestBoard$Machine;", Cond.fieldLink RX11 337 "RestBoard$State" "forgotten" "[I", Cond.methodLink RX11 315 yX11_ofDevice, Cond.instanceMethod yX11_ofDevice, Cond.selects RX11 yX11_ofDevice yX11_ofDevice, Cond.initialized RX11, Cond.code yX11_ofDevice cX11_ofDevice 3 (some .int), Cond.fieldLink RX11 143 "RestBoard$State" "powers" "[I", Cond.fieldLink RX11 160 "RestBoard$State" "lines" "[I", Cond.fieldLink RX11 339 "RestBoard$State" "depths" "[I", Cond.methodLink RX11 130 yX3_peek, Cond.instanceMethod yX3_peek, Cond.selects RX3 yX3_peek yX3_peek, Cond.initialized RX3, Cond.code yX3_peek cX3_peek 2 (some .int), Cond.fieldLink RX3 24 "RestBoard$Machine" "tree" "LRestBoard$Tree;", Cond.fieldLink RX3 32 "RestBoard$Tree" "nodes" "[LRestBoard$Node;"]
def wsX11_ofItsKind_r2 : List Cond := [Cond.fieldLink RX3 57 "RestBoard$Node" "kind" "I", Cond.fieldLink RX3 28 "RestBoard$Machine" "now" "LRestBoard$State;", Cond.fieldLink RX3 62 "RestBoard$State" "registers" "LRestBoard$Registers;", Cond.fieldLink RX3 74 "RestBoard$State" "values" "[I", Cond.methodLink RX3 68 yX6_peek, Cond.instanceMethod yX6_peek, Cond.selects RX6 yX6_peek yX6_peek, Cond.initialized RX6, Cond.code yX6_peek cX6_peek 5 (some .int), Cond.fieldLink RX6 15 "RestBoard$Node" "width" "I", Cond.fieldLink RX6 21 "RestBoard$Node" "offset" "I", Cond.fieldLink RX6 9 "RestBoard$Registers" "bytes" "[I", Cond.fieldLink RX6 24 "RestBoard$Node" "bank" "I", Cond.methodLink RX11 330 yX11_ofPackage, Cond.instanceMethod yX11_ofPackage, Cond.selects RX11 yX11_ofPackage yX11_ofPackage, Cond.code yX11_ofPackage cX11_ofPackage 4 (some .int), Cond.fieldLink RX11 342 "RestBoard$State" "packed" "[I", Cond.methodLink RX11 334 yX11_ofField, Cond.instanceMethod yX11_ofField, Cond.selects RX11 yX11_ofField yX11_ofField, Cond.code yX11_ofField cX11_ofField 4 (some .int), Cond.fieldLink RX11 345 "RestBoard$Node" "bank" "I", Cond.fieldLink RX11 348 "RestBoard$Node" "offset" "I"]
def wsX11_ofItsKind_r3 : List Cond := [Cond.fieldLink RX11 351 "RestBoard$Node" "width" "I", Cond.fieldLink RX11 354 "RestBoard$Node" "rule" "I"]
def wsX11_ofItsKind : List Cond := .code yX11_ofItsKind cX11_ofItsKind 4 (some .int) :: ((wsX11_ofItsKind_r1 ++ (wsX11_ofItsKind_r2 ++ wsX11_ofItsKind_r3)) ++ wsX40 ++ wsX110 ++ wsX80 ++ wsX30 ++ wsX100 ++ wsX60)
def wsX11_node_r1 : List Cond := [Cond.fieldLink RX11 24 "RestBoard" "tree" "LRestBoard$Tree;", Cond.fieldLink RX11 198 "RestBoard$Tree" "nodes" "[LRestBoard$Node;", Cond.fieldLink RX11 202 "RestBoard$Node" "kind" "I", Cond.fieldLink RX11 207 "RestBoard$Node" "name" "I", Cond.fieldLink RX11 210 "RestBoard$Node" "parent" "I", Cond.methodLink RX11 195 yX10_has, Cond.instanceMethod yX10_has, Cond.selects RX10 yX10_has yX10_has, Cond.initialized RX10, Cond.code yX10_has cX10_has 2 (some .boolean), Cond.fieldLink RX10 17 "RestBoard$Tree" "now" "LRestBoard$State;", Cond.fieldLink RX10 26 "RestBoard$State" "size" "I", Cond.methodLink RX11 213 yX11_ofItsKind, Cond.instanceMethod yX11_ofItsKind, Cond.selects RX11 yX11_ofItsKind yX11_ofItsKind, Cond.initialized RX11, Cond.code yX11_ofItsKind cX11_ofItsKind 4 (some .int), Cond.fieldLink RX11 318 "RestBoard$Node" "level" "I", Cond.fieldLink RX11 321 "RestBoard$Node" "rank" "I", Cond.fieldLink RX11 10 "RestBoard" "now" "LRestBoard$State;", Cond.fieldLink RX11 324 "RestBoard$State" "counts" "[I", Cond.fieldLink RX11 327 "RestBoard$Node" "args" "I", Cond.fieldLink RX11 217 "RestBoard$Node" "length" "I", Cond.fieldLink RX11 42 "RestBoard" "machine" "LRestBoard$Machine;"]
def wsX11_node_r2 : List Cond := [Cond.fieldLink RX11 337 "RestBoard$State" "forgotten" "[I", Cond.methodLink RX11 315 yX11_ofDevice, Cond.instanceMethod yX11_ofDevice, Cond.selects RX11 yX11_ofDevice yX11_ofDevice, Cond.code yX11_ofDevice cX11_ofDevice 3 (some .int), Cond.fieldLink RX11 143 "RestBoard$State" "powers" "[I", Cond.fieldLink RX11 160 "RestBoard$State" "lines" "[I", Cond.fieldLink RX11 339 "RestBoard$State" "depths" "[I", Cond.methodLink RX11 130 yX3_peek, Cond.instanceMethod yX3_peek, Cond.selects RX3 yX3_peek yX3_peek, Cond.initialized RX3, Cond.code yX3_peek cX3_peek 2 (some .int), Cond.fieldLink RX3 24 "RestBoard$Machine" "tree" "LRestBoard$Tree;", Cond.fieldLink RX3 32 "RestBoard$Tree" "nodes" "[LRestBoard$Node;", Cond.fieldLink RX3 57 "RestBoard$Node" "kind" "I", Cond.fieldLink RX3 28 "RestBoard$Machine" "now" "LRestBoard$State;", Cond.fieldLink RX3 62 "RestBoard$State" "registers" "LRestBoard$Registers;", Cond.fieldLink RX3 74 "RestBoard$State" "values" "[I", Cond.methodLink RX3 68 yX6_peek, Cond.instanceMethod yX6_peek, Cond.selects RX6 yX6_peek yX6_peek, Cond.initialized RX6, Cond.code yX6_peek cX6_peek 5 (some .int)]
def wsX11_node_r3 : List Cond := [Cond.fieldLink RX6 15 "RestBoard$Node" "width" "I", Cond.fieldLink RX6 21 "RestBoard$Node" "offset" "I", Cond.fieldLink RX6 9 "RestBoard$Registers" "bytes" "[I", Cond.fieldLink RX6 24 "RestBoard$Node" "bank" "I", Cond.methodLink RX11 330 yX11_ofPackage, Cond.instanceMethod yX11_ofPackage, Cond.selects RX11 yX11_ofPackage yX11_ofPackage, Cond.code yX11_ofPackage cX11_ofPackage 4 (some .int), Cond.fieldLink RX11 342 "RestBoard$State" "packed" "[I", Cond.methodLink RX11 334 yX11_ofField, Cond.instanceMethod yX11_ofField, Cond.selects RX11 yX11_ofField yX11_ofField, Cond.code yX11_ofField cX11_ofField 4 (some .int), Cond.fieldLink RX11 345 "RestBoard$Node" "bank" "I", Cond.fieldLink RX11 348 "RestBoard$Node" "offset" "I", Cond.fieldLink RX11 351 "RestBoard$Node" "width" "I", Cond.fieldLink RX11 354 "RestBoard$Node" "rule" "I"]
def wsX11_node : List Cond := .code yX11_node cX11_node 4 (some .int) :: ((wsX11_node_r1 ++ (wsX11_node_r2 ++ wsX11_node_r3)) ++ wsX110 ++ wsX100 ++ wsX40 ++ wsX80 ++ wsX30 ++ wsX60)
def wsX11_code : List Cond := .code yX11_code cX11_code 4 (some .int) :: ([.fieldLink RX11 24 "RestBoard" "tree" "LRestBoard$Tree;", .fieldLink RX11 198 "RestBoard$Tree" "nodes" "[LRestBoard$Node;", .fieldLink RX11 217 "RestBoard$Node" "length" "I", .fieldLink RX11 220 "RestBoard$Node" "bytes" "[I", .methodLink RX11 85 yX10_is, .instanceMethod yX10_is, .selects RX10 yX10_is yX10_is, .initialized RX10, .code yX10_is cX10_is 3 (some .boolean), .fieldLink RX10 11 "RestBoard$Tree" "nodes" "[LRestBoard$Node;", .fieldLink RX10 36 "RestBoard$Node" "kind" "I", .methodLink RX10 32 yX10_has, .instanceMethod yX10_has, .selects RX10 yX10_has yX10_has, .code yX10_has cX10_has 2 (some .boolean), .fieldLink RX10 17 "RestBoard$Tree" "now" "LRestBoard$State;", .fieldLink RX10 26 "RestBoard$State" "size" "I"] ++ wsX110 ++ wsX100 ++ wsX40 ++ wsX80)
def wsX11_lookUp : List Cond := .code yX11_lookUp cX11_lookUp 3 (some .int) :: ([.fieldLink RX11 24 "RestBoard" "tree" "LRestBoard$Tree;", .methodLink RX11 85 yX10_is, .instanceMethod yX10_is, .selects RX10 yX10_is yX10_is, .initialized RX10, .code yX10_is cX10_is 3 (some .boolean), .fieldLink RX10 11 "RestBoard$Tree" "nodes" "[LRestBoard$Node;", .fieldLink RX10 36 "RestBoard$Node" "kind" "I", .methodLink RX10 32 yX10_has, .instanceMethod yX10_has, .selects RX10 yX10_has yX10_has, .code yX10_has cX10_has 2 (some .boolean), .fieldLink RX10 17 "RestBoard$Tree" "now" "LRestBoard$State;", .fieldLink RX10 26 "RestBoard$State" "size" "I", .methodLink RX11 223 yX10_find, .instanceMethod yX10_find, .selects RX10 yX10_find yX10_find, .code yX10_find cX10_find 6 (some .int), .fieldLink RX10 46 "RestBoard$Node" "parent" "I", .methodLink RX10 49 yX10_child, .instanceMethod yX10_child, .selects RX10 yX10_child yX10_child, .code yX10_child cX10_child 5 (some .int), .fieldLink RX10 43 "RestBoard$Node" "name" "I"] ++ wsX110 ++ wsX100 ++ wsX40 ++ wsX80)
def wsX11_register : List Cond := .code yX11_register cX11_register 3 (some .int) :: ([.fieldLink RX11 10 "RestBoard" "now" "LRestBoard$State;", .fieldLink RX11 226 "RestBoard$State" "registers" "LRestBoard$Registers;", .fieldLink RX11 230 "RestBoard$Registers" "bytes" "[I"] ++ wsX110 ++ wsX80 ++ wsX60)
def wsX11_wants_r1 : List Cond := [Cond.fieldLink RX11 24 "RestBoard" "tree" "LRestBoard$Tree;", Cond.fieldLink RX11 49 "RestBoard" "powers" "LRestBoard$Powers;", Cond.constantLong RX11 237 (-1), Cond.methodLink RX11 85 yX10_is, Cond.instanceMethod yX10_is, Cond.selects RX10 yX10_is yX10_is, Cond.initialized RX10, Cond.code yX10_is cX10_is 3 (some .boolean), Cond.fieldLink RX10 11 "RestBoard$Tree" "nodes" "[LRestBoard$Node;", Cond.fieldLink RX10 36 "RestBoard$Node" "kind" "I", Cond.methodLink RX10 32 yX10_has, Cond.instanceMethod yX10_has, Cond.selects RX10 yX10_has yX10_has, Cond.code yX10_has cX10_has 2 (some .boolean), Cond.fieldLink RX10 17 "RestBoard$Tree" "now" "LRestBoard$State;", Cond.fieldLink RX10 26 "RestBoard$State" "size" "I", Cond.methodLink RX11 233 yX5_needs, Cond.instanceMethod yX5_needs, Cond.selects RX5 yX5_needs yX5_needs, Cond.initialized RX5, Cond.code yX5_needs cX5_needs 2 (some .long), Cond.fieldLink RX5 22 "RestBoard$Powers" "now" "LRestBoard$State;", Cond.fieldLink RX5 80 "RestBoard$State" "wanting" "[I", Cond.fieldLink RX5 116 "RestBoard$State" "tied" "[I"]
def wsX11_wants_r2 : List Cond := [Cond.methodLink RX5 159 yX5_bits, Cond.static yX5_bits, Cond.code yX5_bits cX5_bits 6 (some .long)]
def wsX11_wants : List Cond := .code yX11_wants cX11_wants 2 (some .long) :: ((wsX11_wants_r1 ++ wsX11_wants_r2) ++ wsX110 ++ wsX100 ++ wsX40 ++ wsX80 ++ wsX50)
def wsX11_wanted_r1 : List Cond := [Cond.fieldLink RX11 24 "RestBoard" "tree" "LRestBoard$Tree;", Cond.constantLong RX11 237 (-1), Cond.fieldLink RX11 10 "RestBoard" "now" "LRestBoard$State;", Cond.fieldLink RX11 95 "RestBoard$State" "size" "I", Cond.fieldLink RX11 49 "RestBoard" "powers" "LRestBoard$Powers;", Cond.methodLink RX11 85 yX10_is, Cond.instanceMethod yX10_is, Cond.selects RX10 yX10_is yX10_is, Cond.initialized RX10, Cond.code yX10_is cX10_is 3 (some .boolean), Cond.fieldLink RX10 11 "RestBoard$Tree" "nodes" "[LRestBoard$Node;", Cond.fieldLink RX10 36 "RestBoard$Node" "kind" "I", Cond.methodLink RX10 32 yX10_has, Cond.instanceMethod yX10_has, Cond.selects RX10 yX10_has yX10_has, Cond.code yX10_has cX10_has 2 (some .boolean), Cond.fieldLink RX10 17 "RestBoard$Tree" "now" "LRestBoard$State;", Cond.fieldLink RX10 26 "RestBoard$State" "size" "I", Cond.methodLink RX11 233 yX5_needs, Cond.instanceMethod yX5_needs, Cond.selects RX5 yX5_needs yX5_needs, Cond.initialized RX5, Cond.code yX5_needs cX5_needs 2 (some .long), Cond.fieldLink RX5 22 "RestBoard$Powers" "now" "LRestBoard$State;"]
def wsX11_wanted_r2 : List Cond := [Cond.fieldLink RX5 80 "RestBoard$State" "wanting" "[I", Cond.fieldLink RX5 116 "RestBoard$State" "tied" "[I", Cond.methodLink RX5 159 yX5_bits, Cond.static yX5_bits, Cond.code yX5_bits cX5_bits 6 (some .long)]
def wsX11_wanted : List Cond := .code yX11_wanted cX11_wanted 5 (some .long) :: ((wsX11_wanted_r1 ++ wsX11_wanted_r2) ++ wsX110 ++ wsX80 ++ wsX100 ++ wsX40 ++ wsX50)
def wsX11_deepest_r1 : List Cond := [Cond.fieldLink RX11 58 "RestBoard" "rests" "LRestBoard$Rests;", Cond.methodLink RX11 239 yX7_obstacle, Cond.instanceMethod yX7_obstacle, Cond.selects RX7 yX7_obstacle yX7_obstacle, Cond.initialized RX7, Cond.code yX7_obstacle cX7_obstacle 4 (some .int), Cond.fieldLink RX7 19 "RestBoard$Rests" "now" "LRestBoard$State;", Cond.fieldLink RX7 35 "RestBoard$State" "size" "I", Cond.fieldLink RX7 41 "RestBoard$State" "lines" "[I", Cond.methodLink RX7 48 Lib.Math.min.name, Cond.static Lib.Math.min.name, Cond.initialized "java/lang/Math", Cond.code Lib.Math.min.name Lib.Math.min.code 2 (some .int), Cond.methodLink RX7 31 yX7_numberOf, Cond.instanceMethod yX7_numberOf, Cond.selects RX7 yX7_numberOf yX7_numberOf, Cond.code yX7_numberOf cX7_numberOf 2 (some .int), Cond.fieldLink RX7 15 "RestBoard$Rests" "tree" "LRestBoard$Tree;", Cond.methodLink RX7 73 yX10_own, Cond.instanceMethod yX10_own, Cond.selects RX10 yX10_own yX10_own, Cond.initialized RX10, Cond.code yX10_own cX10_own 5 (some .int), Cond.fieldLink RX10 17 "RestBoard$Tree" "now" "LRestBoard$State;"]
def wsX11_deepest_r2 : List Cond := [Cond.fieldLink RX10 26 "RestBoard$State" "size" "I", Cond.fieldLink RX10 11 "RestBoard$Tree" "nodes" "[LRestBoard$Node;", Cond.fieldLink RX10 36 "RestBoard$Node" "kind" "I", Cond.methodLink RX10 49 yX10_child, Cond.instanceMethod yX10_child, Cond.selects RX10 yX10_child yX10_child, Cond.code yX10_child cX10_child 5 (some .int), Cond.fieldLink RX10 43 "RestBoard$Node" "name" "I", Cond.fieldLink RX10 46 "RestBoard$Node" "parent" "I", Cond.methodLink RX7 44 yX7_obstacleBy, Cond.instanceMethod yX7_obstacleBy, Cond.selects RX7 yX7_obstacleBy yX7_obstacleBy, Cond.code yX7_obstacleBy cX7_obstacleBy 4 (some .int), Cond.fieldLink RX7 53 "RestBoard$State" "depths" "[I", Cond.fieldLink RX7 56 "RestBoard$State" "tied" "[I", Cond.fieldLink RX7 59 "RestBoard$Tree" "nodes" "[LRestBoard$Node;", Cond.fieldLink RX7 65 "RestBoard$Node" "level" "I", Cond.fieldLink RX7 70 "RestBoard$State" "raised" "I"]
def wsX11_deepest : List Cond := .code yX11_deepest cX11_deepest 2 (some .int) :: ((wsX11_deepest_r1 ++ wsX11_deepest_r2) ++ wsX110 ++ wsX70 ++ wsX80 ++ wsX100 ++ wsX40)
def wsX11_why_r1 : List Cond := [Cond.fieldLink RX11 58 "RestBoard" "rests" "LRestBoard$Rests;", Cond.methodLink RX11 239 yX7_obstacle, Cond.instanceMethod yX7_obstacle, Cond.selects RX7 yX7_obstacle yX7_obstacle, Cond.initialized RX7, Cond.code yX7_obstacle cX7_obstacle 4 (some .int), Cond.fieldLink RX7 19 "RestBoard$Rests" "now" "LRestBoard$State;", Cond.fieldLink RX7 35 "RestBoard$State" "size" "I", Cond.fieldLink RX7 41 "RestBoard$State" "lines" "[I", Cond.methodLink RX7 48 Lib.Math.min.name, Cond.static Lib.Math.min.name, Cond.initialized "java/lang/Math", Cond.code Lib.Math.min.name Lib.Math.min.code 2 (some .int), Cond.methodLink RX7 31 yX7_numberOf, Cond.instanceMethod yX7_numberOf, Cond.selects RX7 yX7_numberOf yX7_numberOf, Cond.code yX7_numberOf cX7_numberOf 2 (some .int), Cond.fieldLink RX7 15 "RestBoard$Rests" "tree" "LRestBoard$Tree;", Cond.methodLink RX7 73 yX10_own, Cond.instanceMethod yX10_own, Cond.selects RX10 yX10_own yX10_own, Cond.initialized RX10, Cond.code yX10_own cX10_own 5 (some .int), Cond.fieldLink RX10 17 "RestBoard$Tree" "now" "LRestBoard$State;"]
def wsX11_why_r2 : List Cond := [Cond.fieldLink RX10 26 "RestBoard$State" "size" "I", Cond.fieldLink RX10 11 "RestBoard$Tree" "nodes" "[LRestBoard$Node;", Cond.fieldLink RX10 36 "RestBoard$Node" "kind" "I", Cond.methodLink RX10 49 yX10_child, Cond.instanceMethod yX10_child, Cond.selects RX10 yX10_child yX10_child, Cond.code yX10_child cX10_child 5 (some .int), Cond.fieldLink RX10 43 "RestBoard$Node" "name" "I", Cond.fieldLink RX10 46 "RestBoard$Node" "parent" "I", Cond.methodLink RX7 44 yX7_obstacleBy, Cond.instanceMethod yX7_obstacleBy, Cond.selects RX7 yX7_obstacleBy yX7_obstacleBy, Cond.code yX7_obstacleBy cX7_obstacleBy 4 (some .int), Cond.fieldLink RX7 53 "RestBoard$State" "depths" "[I", Cond.fieldLink RX7 56 "RestBoard$State" "tied" "[I", Cond.fieldLink RX7 59 "RestBoard$Tree" "nodes" "[LRestBoard$Node;", Cond.fieldLink RX7 65 "RestBoard$Node" "level" "I", Cond.fieldLink RX7 70 "RestBoard$State" "raised" "I"]
def wsX11_why : List Cond := .code yX11_why cX11_why 2 (some .int) :: ((wsX11_why_r1 ++ wsX11_why_r2) ++ wsX110 ++ wsX70 ++ wsX80 ++ wsX100 ++ wsX40)
def wsX11_order_r1 : List Cond := [Cond.fieldLink RX11 58 "RestBoard" "rests" "LRestBoard$Rests;", Cond.methodLink RX11 242 yX7_inTurn, Cond.instanceMethod yX7_inTurn, Cond.selects RX7 yX7_inTurn yX7_inTurn, Cond.initialized RX7, Cond.code yX7_inTurn cX7_inTurn 3 (some .int), Cond.fieldLink RX7 9 "RestBoard$Rests" "turns" "[I", Cond.methodLink RX7 77 yX7_sortDevices, Cond.instanceMethod yX7_sortDevices, Cond.selects RX7 yX7_sortDevices yX7_sortDevices, Cond.code yX7_sortDevices cX7_sortDevices 4 (some .int), Cond.fieldLink RX7 19 "RestBoard$Rests" "now" "LRestBoard$State;", Cond.fieldLink RX7 35 "RestBoard$State" "size" "I", Cond.fieldLink RX7 15 "RestBoard$Rests" "tree" "LRestBoard$Tree;", Cond.fieldLink RX7 59 "RestBoard$Tree" "nodes" "[LRestBoard$Node;", Cond.fieldLink RX7 84 "RestBoard$Node" "kind" "I", Cond.fieldLink RX7 87 "RestBoard$Node" "above" "I", Cond.methodLink RX7 81 yX7_mostAbove, Cond.instanceMethod yX7_mostAbove, Cond.selects RX7 yX7_mostAbove yX7_mostAbove, Cond.code yX7_mostAbove cX7_mostAbove 3 (some .int), Cond.methodLink RX7 90 Lib.Math.max.name, Cond.static Lib.Math.max.name, Cond.initialized "java/lang/Math"]
def wsX11_order_r2 : List Cond := [Cond.code Lib.Math.max.name Lib.Math.max.code 2 (some .int)]
def wsX11_order : List Cond := .code yX11_order cX11_order 2 (some .int) :: ((wsX11_order_r1 ++ wsX11_order_r2) ++ wsX110 ++ wsX70 ++ wsX80 ++ wsX100 ++ wsX40)
def wsX11_would_r1 : List Cond := [Cond.fieldLink RX11 58 "RestBoard" "rests" "LRestBoard$Rests;", Cond.methodLink RX11 172 yX11_refusalToRest, Cond.instanceMethod yX11_refusalToRest, Cond.selects RX11 yX11_refusalToRest yX11_refusalToRest, Cond.initialized RX11, Cond.code yX11_refusalToRest cX11_refusalToRest 2 (some .int), Cond.fieldLink RX11 10 "RestBoard" "now" "LRestBoard$State;", Cond.fieldLink RX11 92 "RestBoard$State" "resting" "I", Cond.methodLink RX11 239 yX7_obstacle, Cond.instanceMethod yX7_obstacle, Cond.selects RX7 yX7_obstacle yX7_obstacle, Cond.initialized RX7, Cond.code yX7_obstacle cX7_obstacle 4 (some .int), Cond.fieldLink RX7 19 "RestBoard$Rests" "now" "LRestBoard$State;", Cond.fieldLink RX7 35 "RestBoard$State" "size" "I", Cond.fieldLink RX7 41 "RestBoard$State" "lines" "[I", Cond.methodLink RX7 48 Lib.Math.min.name, Cond.static Lib.Math.min.name, Cond.initialized "java/lang/Math", Cond.code Lib.Math.min.name Lib.Math.min.code 2 (some .int), Cond.methodLink RX7 31 yX7_numberOf, Cond.instanceMethod yX7_numberOf, Cond.selects RX7 yX7_numberOf yX7_numberOf, Cond.code yX7_numberOf cX7_numberOf 2 (some .int)]
def wsX11_would_r2 : List Cond := [Cond.fieldLink RX7 15 "RestBoard$Rests" "tree" "LRestBoard$Tree;", Cond.methodLink RX7 73 yX10_own, Cond.instanceMethod yX10_own, Cond.selects RX10 yX10_own yX10_own, Cond.initialized RX10, Cond.code yX10_own cX10_own 5 (some .int), Cond.fieldLink RX10 17 "RestBoard$Tree" "now" "LRestBoard$State;", Cond.fieldLink RX10 26 "RestBoard$State" "size" "I", Cond.fieldLink RX10 11 "RestBoard$Tree" "nodes" "[LRestBoard$Node;", Cond.fieldLink RX10 36 "RestBoard$Node" "kind" "I", Cond.methodLink RX10 49 yX10_child, Cond.instanceMethod yX10_child, Cond.selects RX10 yX10_child yX10_child, Cond.code yX10_child cX10_child 5 (some .int), Cond.fieldLink RX10 43 "RestBoard$Node" "name" "I", Cond.fieldLink RX10 46 "RestBoard$Node" "parent" "I", Cond.methodLink RX7 44 yX7_obstacleBy, Cond.instanceMethod yX7_obstacleBy, Cond.selects RX7 yX7_obstacleBy yX7_obstacleBy, Cond.code yX7_obstacleBy cX7_obstacleBy 4 (some .int), Cond.fieldLink RX7 53 "RestBoard$State" "depths" "[I", Cond.fieldLink RX7 56 "RestBoard$State" "tied" "[I", Cond.fieldLink RX7 59 "RestBoard$Tree" "nodes" "[LRestBoard$Node;", Cond.fieldLink RX7 65 "RestBoard$Node" "level" "I"]
def wsX11_would_r3 : List Cond := [Cond.fieldLink RX7 70 "RestBoard$State" "raised" "I", Cond.methodLink RX11 245 yX11_goOnPaper, Cond.instanceMethod yX11_goOnPaper, Cond.selects RX11 yX11_goOnPaper yX11_goOnPaper, Cond.code yX11_goOnPaper cX11_goOnPaper 1 none, Cond.fieldLink RX11 16 "RestBoard" "paper" "LRestBoard$State;", Cond.fieldLink RX11 42 "RestBoard" "machine" "LRestBoard$Machine;", Cond.methodLink RX11 303 yX8_take, Cond.instanceMethod yX8_take, Cond.selects RX8 yX8_take yX8_take, Cond.initialized RX8, Cond.code yX8_take cX8_take 2 none, Cond.fieldLink RX8 9 "RestBoard$State" "size" "I", Cond.fieldLink RX8 83 "RestBoard$State" "resting" "I", Cond.fieldLink RX8 86 "RestBoard$State" "raised" "I", Cond.fieldLink RX8 15 "RestBoard$State" "values" "[I", Cond.methodLink RX8 77 arraycopyName, Cond.native arraycopyName, Cond.static arraycopyName, Cond.initialized "java/lang/System", Cond.fieldLink RX8 19 "RestBoard$State" "packed" "[I", Cond.fieldLink RX8 22 "RestBoard$State" "counts" "[I", Cond.fieldLink RX8 25 "RestBoard$State" "forgotten" "[I", Cond.fieldLink RX8 28 "RestBoard$State" "powers" "[I"]
def wsX11_would_r4 : List Cond := [Cond.fieldLink RX8 31 "RestBoard$State" "lines" "[I", Cond.fieldLink RX8 34 "RestBoard$State" "depths" "[I", Cond.fieldLink RX8 37 "RestBoard$State" "wanting" "[I", Cond.fieldLink RX8 40 "RestBoard$State" "tied" "[I", Cond.fieldLink RX8 43 "RestBoard$State" "oldPowers" "[I", Cond.fieldLink RX8 46 "RestBoard$State" "oldWanting" "[I", Cond.fieldLink RX8 52 "RestBoard$State" "registers" "LRestBoard$Registers;", Cond.fieldLink RX8 61 "RestBoard$State" "notes" "LRestBoard$Log;", Cond.fieldLink RX8 65 "RestBoard$State" "switches" "LRestBoard$Log;", Cond.methodLink RX8 89 yX6_take, Cond.instanceMethod yX6_take, Cond.selects RX6 yX6_take yX6_take, Cond.initialized RX6, Cond.code yX6_take cX6_take 2 none, Cond.fieldLink RX6 9 "RestBoard$Registers" "bytes" "[I", Cond.methodLink RX6 55 arraycopyName, Cond.fieldLink RX6 61 "RestBoard$Registers" "select" "I", Cond.fieldLink RX6 31 "RestBoard$Registers" "reads" "I", Cond.fieldLink RX6 52 "RestBoard$Registers" "writes" "I", Cond.methodLink RX8 93 yX2_take, Cond.instanceMethod yX2_take, Cond.selects RX2 yX2_take yX2_take, Cond.initialized RX2, Cond.code yX2_take cX2_take 2 none]
def wsX11_would_r5 : List Cond := [Cond.fieldLink RX2 9 "RestBoard$Log" "who" "[I", Cond.methodLink RX2 25 arraycopyName, Cond.fieldLink RX2 15 "RestBoard$Log" "what" "[I", Cond.fieldLink RX2 22 "RestBoard$Log" "kept" "I", Cond.fieldLink RX2 18 "RestBoard$Log" "next" "I", Cond.methodLink RX11 306 yX3_keepTold, Cond.instanceMethod yX3_keepTold, Cond.selects RX3 yX3_keepTold yX3_keepTold, Cond.initialized RX3, Cond.code yX3_keepTold cX3_keepTold 1 none, Cond.fieldLink RX3 17 "RestBoard$Machine" "latest" "[I", Cond.fieldLink RX3 21 "RestBoard$Machine" "keptLatest" "[I", Cond.methodLink RX3 48 arraycopyName, Cond.fieldLink RX3 41 "RestBoard$Machine" "steps" "I", Cond.fieldLink RX3 54 "RestBoard$Machine" "keptSteps" "I", Cond.methodLink RX11 175 yX7_enter, Cond.instanceMethod yX7_enter, Cond.selects RX7 yX7_enter yX7_enter, Cond.code yX7_enter cX7_enter 5 (some .int), Cond.fieldLink RX7 23 "RestBoard$Rests" "machine" "LRestBoard$Machine;", Cond.fieldLink RX7 9 "RestBoard$Rests" "turns" "[I", Cond.fieldLink RX7 108 "RestBoard$State" "resting" "I", Cond.fieldLink RX7 27 "RestBoard$Rests" "powers" "LRestBoard$Powers;", Cond.methodLink RX7 93 yX3_forgetSteps]
def wsX11_would_r6 : List Cond := [Cond.instanceMethod yX3_forgetSteps, Cond.selects RX3 yX3_forgetSteps yX3_forgetSteps, Cond.code yX3_forgetSteps cX3_forgetSteps 1 none, Cond.methodLink RX7 98 yX8_rememberPowers, Cond.instanceMethod yX8_rememberPowers, Cond.selects RX8 yX8_rememberPowers yX8_rememberPowers, Cond.code yX8_rememberPowers cX8_rememberPowers 1 none, Cond.methodLink RX7 77 yX7_sortDevices, Cond.instanceMethod yX7_sortDevices, Cond.selects RX7 yX7_sortDevices yX7_sortDevices, Cond.code yX7_sortDevices cX7_sortDevices 4 (some .int), Cond.fieldLink RX7 84 "RestBoard$Node" "kind" "I", Cond.fieldLink RX7 87 "RestBoard$Node" "above" "I", Cond.methodLink RX7 81 yX7_mostAbove, Cond.instanceMethod yX7_mostAbove, Cond.selects RX7 yX7_mostAbove yX7_mostAbove, Cond.code yX7_mostAbove cX7_mostAbove 3 (some .int), Cond.methodLink RX7 90 Lib.Math.max.name, Cond.static Lib.Math.max.name, Cond.code Lib.Math.max.name Lib.Math.max.code 2 (some .int), Cond.methodLink RX7 101 yX7_settle, Cond.instanceMethod yX7_settle, Cond.selects RX7 yX7_settle yX7_settle, Cond.code yX7_settle cX7_settle 5 (some .int)]
def wsX11_would_r7 : List Cond := [Cond.fieldLink RX7 130 "RestBoard$State" "powers" "[I", Cond.methodLink RX7 120 yX10_ownMethod, Cond.instanceMethod yX10_ownMethod, Cond.selects RX10 yX10_ownMethod yX10_ownMethod, Cond.code yX10_ownMethod cX10_ownMethod 4 (some .int), Cond.fieldLink RX10 56 "RestBoard$Node" "args" "I", Cond.methodLink RX10 53 yX10_own, Cond.methodLink RX7 123 yX3_run, Cond.instanceMethod yX3_run, Cond.selects RX3 yX3_run yX3_run, Cond.code yX3_run cX3_run 6 (some .int), Cond.fieldLink RX3 81 "RestBoard$Machine" "running" "I", Cond.fieldLink RX3 45 "RestBoard$Machine" "forgotten" "I", Cond.fieldLink RX3 84 "RestBoard$Machine" "failed" "Z", Cond.methodLink RX3 88 yX3_enter, Cond.instanceMethod yX3_enter, Cond.selects RX3 yX3_enter yX3_enter, Cond.code yX3_enter cX3_enter 7 (some .int), Cond.fieldLink RX3 13 "RestBoard$Machine" "frames" "[LRestBoard$Frame;", Cond.fieldLink RX3 24 "RestBoard$Machine" "tree" "LRestBoard$Tree;", Cond.fieldLink RX3 32 "RestBoard$Tree" "nodes" "[LRestBoard$Node;", Cond.constant RX3 96 (100000), Cond.fieldLink RX3 97 "RestBoard$Frame" "over" "Z", Cond.fieldLink RX3 114 "RestBoard$Frame" "result" "I"]
def wsX11_would_r8 : List Cond := [Cond.methodLink RX3 92 yX0_begin, Cond.instanceMethod yX0_begin, Cond.selects RX0 yX0_begin yX0_begin, Cond.initialized RX0, Cond.code yX0_begin cX0_begin 6 none, Cond.fieldLink RX0 31 "RestBoard$Frame" "method" "I", Cond.fieldLink RX0 27 "RestBoard$Frame" "told" "LRestBoard$Node;", Cond.fieldLink RX0 35 "RestBoard$Node" "parent" "I", Cond.fieldLink RX0 40 "RestBoard$Frame" "home" "I", Cond.fieldLink RX0 43 "RestBoard$Frame" "at" "I", Cond.fieldLink RX0 46 "RestBoard$Frame" "place" "I", Cond.fieldLink RX0 49 "RestBoard$Frame" "result" "I", Cond.fieldLink RX0 52 "RestBoard$Frame" "over" "Z", Cond.fieldLink RX0 56 "RestBoard$Frame" "blocks" "I", Cond.fieldLink RX0 9 "RestBoard$Frame" "ends" "[I", Cond.fieldLink RX0 59 "RestBoard$Node" "length" "I", Cond.fieldLink RX0 15 "RestBoard$Frame" "loops" "[I", Cond.fieldLink RX0 18 "RestBoard$Frame" "locals" "[I", Cond.fieldLink RX0 24 "RestBoard$Frame" "held" "[I", Cond.fieldLink RX0 21 "RestBoard$Frame" "args" "[I", Cond.methodLink RX0 62 yJ7_fill_53178, Cond.static yJ7_fill_53178, Cond.initialized RJ7, Cond.code yJ7_fill_53178 cJ7_fill_53178 4 none]
def wsX11_would_r9 : List Cond := [Cond.methodLink RX3 100 yX0_atBlockEnd, Cond.instanceMethod yX0_atBlockEnd, Cond.selects RX0 yX0_atBlockEnd yX0_atBlockEnd, Cond.code yX0_atBlockEnd cX0_atBlockEnd 1 (some .boolean), Cond.methodLink RX3 104 yX3_closeBlock, Cond.instanceMethod yX3_closeBlock, Cond.selects RX3 yX3_closeBlock yX3_closeBlock, Cond.methodLink RX3 108 yX3_perform, Cond.instanceMethod yX3_perform, Cond.selects RX3 yX3_perform yX3_perform, Cond.methodLink RX3 111 yX3_release, Cond.instanceMethod yX3_release, Cond.selects RX3 yX3_release yX3_release, Cond.code yX3_release cX3_release 3 none, Cond.fieldLink RX3 28 "RestBoard$Machine" "now" "LRestBoard$State;", Cond.fieldLink RX3 117 "RestBoard$State" "size" "I", Cond.fieldLink RX3 120 "RestBoard$State" "forgotten" "[I", Cond.fieldLink RX3 122 "RestBoard$Frame" "held" "[I", Cond.code yX3_branch cX3_branch 4 none, Cond.fieldLink RX3 141 "RestBoard$Frame" "at" "I", Cond.methodLink RX3 144 yX3_reckon, Cond.instanceMethod yX3_reckon, Cond.selects RX3 yX3_reckon yX3_reckon, Cond.methodLink RX3 148 yX0_next]
def wsX11_would_r10 : List Cond := [Cond.instanceMethod yX0_next, Cond.selects RX0 yX0_next yX0_next, Cond.code yX0_next cX0_next 1 (some .int), Cond.fieldLink RX0 68 "RestBoard$Node" "bytes" "[I", Cond.methodLink RX3 202 yX0_open, Cond.instanceMethod yX0_open, Cond.selects RX0 yX0_open yX0_open, Cond.code yX0_open cX0_open 3 none, Cond.methodLink RX3 205 yX0_sees, Cond.instanceMethod yX0_sees, Cond.selects RX0 yX0_sees yX0_sees, Cond.code yX0_sees cX0_sees 2 (some .boolean), Cond.methodLink RX0 71 yX0_atBlockEnd, Cond.code yX3_closeBlock cX3_closeBlock 4 none, Cond.fieldLink RX3 135 "RestBoard$Frame" "loops" "[I", Cond.fieldLink RX3 138 "RestBoard$Frame" "blocks" "I", Cond.methodLink RX3 152 yX0_leaveLoop, Cond.instanceMethod yX0_leaveLoop, Cond.selects RX0 yX0_leaveLoop yX0_leaveLoop, Cond.code yX0_leaveLoop cX0_leaveLoop 2 none, Cond.code yX3_combined cX3_combined 7 (some .int), Cond.constant RX3 266 (65535), Cond.methodLink RX3 131 yX3_fail, Cond.instanceMethod yX3_fail]
def wsX11_would_r11 : List Cond := [Cond.selects RX3 yX3_fail yX3_fail, Cond.code yX3_fail cX3_fail 7 none, Cond.fieldLink RX3 125 "RestBoard$Frame" "place" "I", Cond.fieldLink RX3 128 "RestBoard$Frame" "method" "I", Cond.methodLink RX3 262 yX3_joined, Cond.static yX3_joined, Cond.code yX3_joined cX3_joined 3 (some .int), Cond.code yX3_loop cX3_loop 5 none, Cond.code yX3_perform cX3_perform 5 none, Cond.methodLink RX3 155 yX3_mayStep, Cond.instanceMethod yX3_mayStep, Cond.selects RX3 yX3_mayStep yX3_mayStep, Cond.code yX3_mayStep cX3_mayStep 3 (some .boolean), Cond.methodLink RX3 159 yX3_storeLocal, Cond.instanceMethod yX3_storeLocal, Cond.selects RX3 yX3_storeLocal yX3_storeLocal, Cond.methodLink RX3 162 yX3_storeNamed, Cond.instanceMethod yX3_storeNamed, Cond.selects RX3 yX3_storeNamed yX3_storeNamed, Cond.methodLink RX3 166 yX3_storePacked, Cond.instanceMethod yX3_storePacked, Cond.selects RX3 yX3_storePacked yX3_storePacked, Cond.methodLink RX3 169 yX3_branch, Cond.instanceMethod yX3_branch]
def wsX11_would_r12 : List Cond := [Cond.selects RX3 yX3_branch yX3_branch, Cond.methodLink RX3 172 yX3_loop, Cond.instanceMethod yX3_loop, Cond.selects RX3 yX3_loop yX3_loop, Cond.methodLink RX3 175 yX3_named, Cond.instanceMethod yX3_named, Cond.selects RX3 yX3_named yX3_named, Cond.code yX3_named cX3_named 6 (some .int), Cond.fieldLink RX3 193 "RestBoard$Frame" "home" "I", Cond.methodLink RX3 209 yX10_find, Cond.instanceMethod yX10_find, Cond.selects RX10 yX10_find yX10_find, Cond.code yX10_find cX10_find 6 (some .int), Cond.methodLink RX3 213 yX10_is, Cond.instanceMethod yX10_is, Cond.selects RX10 yX10_is yX10_is, Cond.code yX10_is cX10_is 3 (some .boolean), Cond.methodLink RX10 32 yX10_has, Cond.instanceMethod yX10_has, Cond.selects RX10 yX10_has yX10_has, Cond.code yX10_has cX10_has 2 (some .boolean), Cond.methodLink RX3 179 yX3_acquire, Cond.static yX3_acquire, Cond.code yX3_acquire cX3_acquire 2 none]
def wsX11_would_r13 : List Cond := [Cond.methodLink RX3 182 yX3_letGo, Cond.instanceMethod yX3_letGo, Cond.selects RX3 yX3_letGo yX3_letGo, Cond.code yX3_letGo cX3_letGo 4 none, Cond.methodLink RX3 186 yX3_withTerm, Cond.instanceMethod yX3_withTerm, Cond.selects RX3 yX3_withTerm yX3_withTerm, Cond.code yX3_readPacked cX3_readPacked 7 (some .int), Cond.fieldLink RX3 229 "RestBoard$State" "packed" "[I", Cond.methodLink RX3 225 yX3_hasValue, Cond.instanceMethod yX3_hasValue, Cond.selects RX3 yX3_hasValue yX3_hasValue, Cond.code yX3_hasValue cX3_hasValue 5 (some .boolean), Cond.fieldLink RX3 232 "RestBoard$Node" "length" "I", Cond.code yX3_reckon cX3_reckon 5 (some .int), Cond.fieldLink RX3 217 "RestBoard$Frame" "locals" "[I", Cond.fieldLink RX3 235 "RestBoard$Frame" "args" "[I", Cond.methodLink RX3 238 yX3_valueNamed, Cond.instanceMethod yX3_valueNamed, Cond.selects RX3 yX3_valueNamed yX3_valueNamed, Cond.code yX3_valueNamed cX3_valueNamed 4 (some .int), Cond.fieldLink RX3 74 "RestBoard$State" "values" "[I", Cond.fieldLink RX3 62 "RestBoard$State" "registers" "LRestBoard$Registers;", Cond.methodLink RX3 257 yX6_fetch]
def wsX11_would_r14 : List Cond := [Cond.instanceMethod yX6_fetch, Cond.selects RX6 yX6_fetch yX6_fetch, Cond.code yX6_fetch cX6_fetch 2 (some .int), Cond.fieldLink RX6 24 "RestBoard$Node" "bank" "I", Cond.fieldLink RX6 21 "RestBoard$Node" "offset" "I", Cond.methodLink RX6 27 yX6_choose, Cond.instanceMethod yX6_choose, Cond.selects RX6 yX6_choose yX6_choose, Cond.code yX6_choose cX6_choose 2 none, Cond.methodLink RX6 34 yX6_lastByte, Cond.static yX6_lastByte, Cond.code yX6_lastByte cX6_lastByte 1 (some .int), Cond.fieldLink RX6 15 "RestBoard$Node" "width" "I", Cond.methodLink RX6 38 yX6_peek, Cond.instanceMethod yX6_peek, Cond.selects RX6 yX6_peek yX6_peek, Cond.code yX6_peek cX6_peek 5 (some .int), Cond.methodLink RX3 241 yX3_runNamed, Cond.instanceMethod yX3_runNamed, Cond.selects RX3 yX3_runNamed yX3_runNamed, Cond.methodLink RX3 245 yX3_readPacked, Cond.instanceMethod yX3_readPacked, Cond.selects RX3 yX3_readPacked yX3_readPacked, Cond.methodLink RX3 248 yX3_combined]
def wsX11_would_r15 : List Cond := [Cond.instanceMethod yX3_combined, Cond.selects RX3 yX3_combined yX3_combined, Cond.methodLink RX3 251 yX3_isOn, Cond.instanceMethod yX3_isOn, Cond.selects RX3 yX3_isOn yX3_isOn, Cond.code yX3_isOn cX3_isOn 2 (some .boolean), Cond.fieldLink RX3 254 "RestBoard$State" "counts" "[I", Cond.code yX3_runNamed cX3_runNamed 10 (some .int), Cond.fieldLink RX3 260 "RestBoard$Node" "args" "I", Cond.code yX3_storeLocal cX3_storeLocal 3 none, Cond.code yX3_storeNamed cX3_storeNamed 6 none, Cond.methodLink RX3 220 yX10_holdsValue, Cond.instanceMethod yX10_holdsValue, Cond.selects RX10 yX10_holdsValue yX10_holdsValue, Cond.code yX10_holdsValue cX10_holdsValue 2 (some .boolean), Cond.methodLink RX10 39 yX10_is, Cond.methodLink RX3 223 yX3_put, Cond.instanceMethod yX3_put, Cond.selects RX3 yX3_put yX3_put, Cond.code yX3_put cX3_put 3 none, Cond.fieldLink RX3 57 "RestBoard$Node" "kind" "I", Cond.methodLink RX3 77 yX6_put, Cond.instanceMethod yX6_put, Cond.selects RX6 yX6_put yX6_put]
def wsX11_would_r16 : List Cond := [Cond.code yX6_put cX6_put 9 none, Cond.fieldLink RX6 45 "RestBoard$Node" "rule" "I", Cond.methodLink RX6 41 yX6_bitsIn, Cond.static yX6_bitsIn, Cond.code yX6_bitsIn cX6_bitsIn 4 (some .int), Cond.methodLink RX6 64 Lib.Math.max.name, Cond.methodLink RX6 70 Lib.Math.min.name, Cond.methodLink RX6 48 yX6_others, Cond.instanceMethod yX6_others, Cond.selects RX6 yX6_others yX6_others, Cond.code yX6_others cX6_others 4 (some .int), Cond.code yX3_storePacked cX3_storePacked 7 none, Cond.code yX3_withTerm cX3_withTerm 5 none, Cond.fieldLink RX3 189 "RestBoard$State" "notes" "LRestBoard$Log;", Cond.methodLink RX3 196 yX2_write, Cond.instanceMethod yX2_write, Cond.selects RX2 yX2_write yX2_write, Cond.code yX2_write cX2_write 3 none, Cond.methodLink RX7 127 yX7_powerFor, Cond.instanceMethod yX7_powerFor, Cond.selects RX7 yX7_powerFor yX7_powerFor, Cond.code yX7_powerFor cX7_powerFor 8 (some .int), Cond.methodLink RX7 135 yX7_leastOf, Cond.instanceMethod yX7_leastOf]
def wsX11_would_r17 : List Cond := [Cond.selects RX7 yX7_leastOf yX7_leastOf, Cond.code yX7_leastOf cX7_leastOf 3 (some .int), Cond.fieldLink RX7 145 "RestBoard$State" "values" "[I", Cond.methodLink RX7 138 yX5_leastBelow, Cond.instanceMethod yX5_leastBelow, Cond.selects RX5 yX5_leastBelow yX5_leastBelow, Cond.initialized RX5, Cond.code yX5_leastBelow cX5_leastBelow 4 (some .int), Cond.fieldLink RX5 22 "RestBoard$Powers" "now" "LRestBoard$State;", Cond.fieldLink RX5 63 "RestBoard$State" "size" "I", Cond.fieldLink RX5 18 "RestBoard$Powers" "tree" "LRestBoard$Tree;", Cond.fieldLink RX5 36 "RestBoard$Tree" "nodes" "[LRestBoard$Node;", Cond.fieldLink RX5 66 "RestBoard$Node" "kind" "I", Cond.fieldLink RX5 69 "RestBoard$Node" "parent" "I", Cond.fieldLink RX5 72 "RestBoard$State" "powers" "[I", Cond.methodLink RX5 75 Lib.Math.min.name, Cond.methodLink RX7 141 yX5_can, Cond.instanceMethod yX5_can, Cond.selects RX5 yX5_can yX5_can, Cond.code yX5_can cX5_can 4 (some .boolean), Cond.methodLink RX5 26 yX10_own, Cond.methodLink RX5 32 yX5_allResources, Cond.instanceMethod yX5_allResources, Cond.selects RX5 yX5_allResources yX5_allResources]
def wsX11_would_r18 : List Cond := [Cond.code yX5_allResources cX5_allResources 5 (some .boolean), Cond.fieldLink RX5 40 "RestBoard$Node" "length" "I", Cond.fieldLink RX5 46 "RestBoard$State" "packed" "[I", Cond.methodLink RX5 55 yX10_find, Cond.methodLink RX5 59 yX10_is, Cond.methodLink RX7 132 yX5_become, Cond.instanceMethod yX5_become, Cond.selects RX5 yX5_become yX5_become, Cond.code yX5_become cX5_become 4 (some .int), Cond.fieldLink RX5 9 "RestBoard$Powers" "fresh" "[I", Cond.methodLink RX5 93 yX5_gather, Cond.instanceMethod yX5_gather, Cond.selects RX5 yX5_gather yX5_gather, Cond.code yX5_gather cX5_gather 6 none, Cond.methodLink RX5 103 yJ7_fill_53178, Cond.methodLink RX5 89 yX5_change, Cond.instanceMethod yX5_change, Cond.selects RX5 yX5_change yX5_change, Cond.code yX5_change cX5_change 7 (some .int), Cond.fieldLink RX5 80 "RestBoard$State" "wanting" "[I", Cond.methodLink RX5 83 arraycopyName, Cond.methodLink RX5 109 yX5_include, Cond.instanceMethod yX5_include, Cond.selects RX5 yX5_include yX5_include]
def wsX11_would_r19 : List Cond := [Cond.code yX5_include cX5_include 7 (some .int), Cond.fieldLink RX5 128 "RestBoard$State" "counts" "[I", Cond.methodLink RX5 131 yX5_turn, Cond.instanceMethod yX5_turn, Cond.selects RX5 yX5_turn yX5_turn, Cond.code yX5_turn cX5_turn 6 (some .int), Cond.fieldLink RX5 141 "RestBoard$State" "switches" "LRestBoard$Log;", Cond.methodLink RX5 134 yX5_lowest, Cond.instanceMethod yX5_lowest, Cond.selects RX5 yX5_lowest yX5_lowest, Cond.code yX5_lowest cX5_lowest 4 (some .int), Cond.fieldLink RX5 156 "RestBoard$Node" "rank" "I", Cond.methodLink RX5 138 yX5_highest, Cond.instanceMethod yX5_highest, Cond.selects RX5 yX5_highest yX5_highest, Cond.code yX5_highest cX5_highest 4 (some .int), Cond.methodLink RX5 145 yX2_write, Cond.methodLink RX5 151 yJ6_bitCount_0f7a4, Cond.static yJ6_bitCount_0f7a4, Cond.initialized RJ6, Cond.code yJ6_bitCount_0f7a4 cJ6_bitCount_0f7a4 1 (some .int), Cond.constant RJ6 265 (1431655765), Cond.constant RJ6 266 (858993459), Cond.constant RJ6 267 (252645135)]
def wsX11_would_r20 : List Cond := [Cond.methodLink RX5 113 yX5_exclude, Cond.instanceMethod yX5_exclude, Cond.selects RX5 yX5_exclude yX5_exclude, Cond.code yX5_exclude cX5_exclude 7 (some .int), Cond.methodLink RX7 104 yX7_someStaysOn, Cond.instanceMethod yX7_someStaysOn, Cond.selects RX7 yX7_someStaysOn yX7_someStaysOn, Cond.code yX7_someStaysOn cX7_someStaysOn 3 (some .boolean), Cond.fieldLink RX7 148 "RestBoard$State" "counts" "[I", Cond.methodLink RX7 111 yX7_changed, Cond.instanceMethod yX7_changed, Cond.selects RX7 yX7_changed yX7_changed, Cond.code yX7_changed cX7_changed 3 (some .int), Cond.fieldLink RX7 151 "RestBoard$State" "oldPowers" "[I", Cond.methodLink RX7 114 yX5_putBack, Cond.instanceMethod yX5_putBack, Cond.selects RX5 yX5_putBack yX5_putBack, Cond.code yX5_putBack cX5_putBack 2 none, Cond.fieldLink RX5 97 "RestBoard$State" "oldPowers" "[I", Cond.fieldLink RX5 100 "RestBoard$State" "oldWanting" "[I", Cond.methodLink RX11 248 yX11_comeBack, Cond.instanceMethod yX11_comeBack, Cond.selects RX11 yX11_comeBack yX11_comeBack, Cond.code yX11_comeBack cX11_comeBack 1 none]
def wsX11_would_r21 : List Cond := [Cond.methodLink RX11 309 yX3_restoreTold, Cond.instanceMethod yX3_restoreTold, Cond.selects RX3 yX3_restoreTold yX3_restoreTold, Cond.code yX3_restoreTold cX3_restoreTold 1 none]
def wsX11_would : List Cond := .code yX11_would cX11_would 4 (some .int) :: ((wsX11_would_r1 ++ (wsX11_would_r2 ++ (wsX11_would_r3 ++ (wsX11_would_r4 ++ (wsX11_would_r5 ++ (wsX11_would_r6 ++ (wsX11_would_r7 ++ (wsX11_would_r8 ++ (wsX11_would_r9 ++ (wsX11_would_r10 ++ (wsX11_would_r11 ++ (wsX11_would_r12 ++ (wsX11_would_r13 ++ (wsX11_would_r14 ++ (wsX11_would_r15 ++ (wsX11_would_r16 ++ (wsX11_would_r17 ++ (wsX11_would_r18 ++ (wsX11_would_r19 ++ (wsX11_would_r20 ++ wsX11_would_r21)))))))))))))))))))) ++ wsX110 ++ wsX80 ++ wsX70 ++ wsX100 ++ wsX40 ++ wsX60 ++ wsX20 ++ wsX30 ++ wsX00 ++ wsX50)
def wsX11_tries_r1 : List Cond := [Cond.fieldLink RX11 42 "RestBoard" "machine" "LRestBoard$Machine;", Cond.methodLink RX11 116 yX11_refusalToRun, Cond.instanceMethod yX11_refusalToRun, Cond.selects RX11 yX11_refusalToRun yX11_refusalToRun, Cond.initialized RX11, Cond.code yX11_refusalToRun cX11_refusalToRun 5 (some .int), Cond.fieldLink RX11 24 "RestBoard" "tree" "LRestBoard$Tree;", Cond.fieldLink RX11 10 "RestBoard" "now" "LRestBoard$State;", Cond.fieldLink RX11 92 "RestBoard$State" "resting" "I", Cond.methodLink RX11 123 yX11_isValue, Cond.static yX11_isValue, Cond.code yX11_isValue cX11_isValue 1 (some .boolean), Cond.constant RX11 296 (65536), Cond.methodLink RX11 85 yX10_is, Cond.instanceMethod yX10_is, Cond.selects RX10 yX10_is yX10_is, Cond.initialized RX10, Cond.code yX10_is cX10_is 3 (some .boolean), Cond.fieldLink RX10 11 "RestBoard$Tree" "nodes" "[LRestBoard$Node;", Cond.fieldLink RX10 36 "RestBoard$Node" "kind" "I", Cond.methodLink RX10 32 yX10_has, Cond.instanceMethod yX10_has, Cond.selects RX10 yX10_has yX10_has, Cond.code yX10_has cX10_has 2 (some .boolean)]
def wsX11_tries_r2 : List Cond := [Cond.fieldLink RX10 17 "RestBoard$Tree" "now" "LRestBoard$State;", Cond.fieldLink RX10 26 "RestBoard$State" "size" "I", Cond.methodLink RX11 245 yX11_goOnPaper, Cond.instanceMethod yX11_goOnPaper, Cond.selects RX11 yX11_goOnPaper yX11_goOnPaper, Cond.code yX11_goOnPaper cX11_goOnPaper 1 none, Cond.fieldLink RX11 16 "RestBoard" "paper" "LRestBoard$State;", Cond.methodLink RX11 303 yX8_take, Cond.instanceMethod yX8_take, Cond.selects RX8 yX8_take yX8_take, Cond.initialized RX8, Cond.code yX8_take cX8_take 2 none, Cond.fieldLink RX8 9 "RestBoard$State" "size" "I", Cond.fieldLink RX8 83 "RestBoard$State" "resting" "I", Cond.fieldLink RX8 86 "RestBoard$State" "raised" "I", Cond.fieldLink RX8 15 "RestBoard$State" "values" "[I", Cond.methodLink RX8 77 arraycopyName, Cond.native arraycopyName, Cond.static arraycopyName, Cond.initialized "java/lang/System", Cond.fieldLink RX8 19 "RestBoard$State" "packed" "[I", Cond.fieldLink RX8 22 "RestBoard$State" "counts" "[I", Cond.fieldLink RX8 25 "RestBoard$State" "forgotten" "[I", Cond.fieldLink RX8 28 "RestBoard$State" "powers" "[I"]
def wsX11_tries_r3 : List Cond := [Cond.fieldLink RX8 31 "RestBoard$State" "lines" "[I", Cond.fieldLink RX8 34 "RestBoard$State" "depths" "[I", Cond.fieldLink RX8 37 "RestBoard$State" "wanting" "[I", Cond.fieldLink RX8 40 "RestBoard$State" "tied" "[I", Cond.fieldLink RX8 43 "RestBoard$State" "oldPowers" "[I", Cond.fieldLink RX8 46 "RestBoard$State" "oldWanting" "[I", Cond.fieldLink RX8 52 "RestBoard$State" "registers" "LRestBoard$Registers;", Cond.fieldLink RX8 61 "RestBoard$State" "notes" "LRestBoard$Log;", Cond.fieldLink RX8 65 "RestBoard$State" "switches" "LRestBoard$Log;", Cond.methodLink RX8 89 yX6_take, Cond.instanceMethod yX6_take, Cond.selects RX6 yX6_take yX6_take, Cond.initialized RX6, Cond.code yX6_take cX6_take 2 none, Cond.fieldLink RX6 9 "RestBoard$Registers" "bytes" "[I", Cond.methodLink RX6 55 arraycopyName, Cond.fieldLink RX6 61 "RestBoard$Registers" "select" "I", Cond.fieldLink RX6 31 "RestBoard$Registers" "reads" "I", Cond.fieldLink RX6 52 "RestBoard$Registers" "writes" "I", Cond.methodLink RX8 93 yX2_take, Cond.instanceMethod yX2_take, Cond.selects RX2 yX2_take yX2_take, Cond.initialized RX2, Cond.code yX2_take cX2_take 2 none]
def wsX11_tries_r4 : List Cond := [Cond.fieldLink RX2 9 "RestBoard$Log" "who" "[I", Cond.methodLink RX2 25 arraycopyName, Cond.fieldLink RX2 15 "RestBoard$Log" "what" "[I", Cond.fieldLink RX2 22 "RestBoard$Log" "kept" "I", Cond.fieldLink RX2 18 "RestBoard$Log" "next" "I", Cond.methodLink RX11 306 yX3_keepTold, Cond.instanceMethod yX3_keepTold, Cond.selects RX3 yX3_keepTold yX3_keepTold, Cond.initialized RX3, Cond.code yX3_keepTold cX3_keepTold 1 none, Cond.fieldLink RX3 17 "RestBoard$Machine" "latest" "[I", Cond.fieldLink RX3 21 "RestBoard$Machine" "keptLatest" "[I", Cond.methodLink RX3 48 arraycopyName, Cond.fieldLink RX3 41 "RestBoard$Machine" "steps" "I", Cond.fieldLink RX3 54 "RestBoard$Machine" "keptSteps" "I", Cond.methodLink RX11 120 yX3_run, Cond.instanceMethod yX3_run, Cond.selects RX3 yX3_run yX3_run, Cond.code yX3_run cX3_run 6 (some .int), Cond.fieldLink RX3 81 "RestBoard$Machine" "running" "I", Cond.fieldLink RX3 45 "RestBoard$Machine" "forgotten" "I", Cond.fieldLink RX3 84 "RestBoard$Machine" "failed" "Z", Cond.methodLink RX3 88 yX3_enter, Cond.instanceMethod yX3_enter]
def wsX11_tries_r5 : List Cond := [Cond.selects RX3 yX3_enter yX3_enter, Cond.code yX3_enter cX3_enter 7 (some .int), Cond.fieldLink RX3 13 "RestBoard$Machine" "frames" "[LRestBoard$Frame;", Cond.fieldLink RX3 24 "RestBoard$Machine" "tree" "LRestBoard$Tree;", Cond.fieldLink RX3 32 "RestBoard$Tree" "nodes" "[LRestBoard$Node;", Cond.constant RX3 96 (100000), Cond.fieldLink RX3 97 "RestBoard$Frame" "over" "Z", Cond.fieldLink RX3 114 "RestBoard$Frame" "result" "I", Cond.methodLink RX3 92 yX0_begin, Cond.instanceMethod yX0_begin, Cond.selects RX0 yX0_begin yX0_begin, Cond.initialized RX0, Cond.code yX0_begin cX0_begin 6 none, Cond.fieldLink RX0 31 "RestBoard$Frame" "method" "I", Cond.fieldLink RX0 27 "RestBoard$Frame" "told" "LRestBoard$Node;", Cond.fieldLink RX0 35 "RestBoard$Node" "parent" "I", Cond.fieldLink RX0 40 "RestBoard$Frame" "home" "I", Cond.fieldLink RX0 43 "RestBoard$Frame" "at" "I", Cond.fieldLink RX0 46 "RestBoard$Frame" "place" "I", Cond.fieldLink RX0 49 "RestBoard$Frame" "result" "I", Cond.fieldLink RX0 52 "RestBoard$Frame" "over" "Z", Cond.fieldLink RX0 56 "RestBoard$Frame" "blocks" "I", Cond.fieldLink RX0 9 "RestBoard$Frame" "ends" "[I", Cond.fieldLink RX0 59 "RestBoard$Node" "length" "I"]
def wsX11_tries_r6 : List Cond := [Cond.fieldLink RX0 15 "RestBoard$Frame" "loops" "[I", Cond.fieldLink RX0 18 "RestBoard$Frame" "locals" "[I", Cond.fieldLink RX0 24 "RestBoard$Frame" "held" "[I", Cond.fieldLink RX0 21 "RestBoard$Frame" "args" "[I", Cond.methodLink RX0 62 yJ7_fill_53178, Cond.static yJ7_fill_53178, Cond.initialized RJ7, Cond.code yJ7_fill_53178 cJ7_fill_53178 4 none, Cond.methodLink RX3 100 yX0_atBlockEnd, Cond.instanceMethod yX0_atBlockEnd, Cond.selects RX0 yX0_atBlockEnd yX0_atBlockEnd, Cond.code yX0_atBlockEnd cX0_atBlockEnd 1 (some .boolean), Cond.methodLink RX3 104 yX3_closeBlock, Cond.instanceMethod yX3_closeBlock, Cond.selects RX3 yX3_closeBlock yX3_closeBlock, Cond.methodLink RX3 108 yX3_perform, Cond.instanceMethod yX3_perform, Cond.selects RX3 yX3_perform yX3_perform, Cond.methodLink RX3 111 yX3_release, Cond.instanceMethod yX3_release, Cond.selects RX3 yX3_release yX3_release, Cond.code yX3_release cX3_release 3 none, Cond.fieldLink RX3 28 "RestBoard$Machine" "now" "LRestBoard$State;", Cond.fieldLink RX3 117 "RestBoard$State" "size" "I"]
def wsX11_tries_r7 : List Cond := [Cond.fieldLink RX3 120 "RestBoard$State" "forgotten" "[I", Cond.fieldLink RX3 122 "RestBoard$Frame" "held" "[I", Cond.code yX3_branch cX3_branch 4 none, Cond.fieldLink RX3 141 "RestBoard$Frame" "at" "I", Cond.methodLink RX3 144 yX3_reckon, Cond.instanceMethod yX3_reckon, Cond.selects RX3 yX3_reckon yX3_reckon, Cond.methodLink RX3 148 yX0_next, Cond.instanceMethod yX0_next, Cond.selects RX0 yX0_next yX0_next, Cond.code yX0_next cX0_next 1 (some .int), Cond.fieldLink RX0 68 "RestBoard$Node" "bytes" "[I", Cond.methodLink RX3 202 yX0_open, Cond.instanceMethod yX0_open, Cond.selects RX0 yX0_open yX0_open, Cond.code yX0_open cX0_open 3 none, Cond.methodLink RX3 205 yX0_sees, Cond.instanceMethod yX0_sees, Cond.selects RX0 yX0_sees yX0_sees, Cond.code yX0_sees cX0_sees 2 (some .boolean), Cond.methodLink RX0 71 yX0_atBlockEnd, Cond.code yX3_closeBlock cX3_closeBlock 4 none, Cond.fieldLink RX3 135 "RestBoard$Frame" "loops" "[I", Cond.fieldLink RX3 138 "RestBoard$Frame" "blocks" "I"]
def wsX11_tries_r8 : List Cond := [Cond.methodLink RX3 152 yX0_leaveLoop, Cond.instanceMethod yX0_leaveLoop, Cond.selects RX0 yX0_leaveLoop yX0_leaveLoop, Cond.code yX0_leaveLoop cX0_leaveLoop 2 none, Cond.code yX3_combined cX3_combined 7 (some .int), Cond.constant RX3 266 (65535), Cond.methodLink RX3 131 yX3_fail, Cond.instanceMethod yX3_fail, Cond.selects RX3 yX3_fail yX3_fail, Cond.code yX3_fail cX3_fail 7 none, Cond.fieldLink RX3 125 "RestBoard$Frame" "place" "I", Cond.fieldLink RX3 128 "RestBoard$Frame" "method" "I", Cond.methodLink RX3 262 yX3_joined, Cond.static yX3_joined, Cond.code yX3_joined cX3_joined 3 (some .int), Cond.code yX3_loop cX3_loop 5 none, Cond.code yX3_perform cX3_perform 5 none, Cond.methodLink RX3 155 yX3_mayStep, Cond.instanceMethod yX3_mayStep, Cond.selects RX3 yX3_mayStep yX3_mayStep, Cond.code yX3_mayStep cX3_mayStep 3 (some .boolean), Cond.methodLink RX3 159 yX3_storeLocal, Cond.instanceMethod yX3_storeLocal, Cond.selects RX3 yX3_storeLocal yX3_storeLocal]
def wsX11_tries_r9 : List Cond := [Cond.methodLink RX3 162 yX3_storeNamed, Cond.instanceMethod yX3_storeNamed, Cond.selects RX3 yX3_storeNamed yX3_storeNamed, Cond.methodLink RX3 166 yX3_storePacked, Cond.instanceMethod yX3_storePacked, Cond.selects RX3 yX3_storePacked yX3_storePacked, Cond.methodLink RX3 169 yX3_branch, Cond.instanceMethod yX3_branch, Cond.selects RX3 yX3_branch yX3_branch, Cond.methodLink RX3 172 yX3_loop, Cond.instanceMethod yX3_loop, Cond.selects RX3 yX3_loop yX3_loop, Cond.methodLink RX3 175 yX3_named, Cond.instanceMethod yX3_named, Cond.selects RX3 yX3_named yX3_named, Cond.code yX3_named cX3_named 6 (some .int), Cond.fieldLink RX3 193 "RestBoard$Frame" "home" "I", Cond.methodLink RX3 209 yX10_find, Cond.instanceMethod yX10_find, Cond.selects RX10 yX10_find yX10_find, Cond.code yX10_find cX10_find 6 (some .int), Cond.fieldLink RX10 46 "RestBoard$Node" "parent" "I", Cond.methodLink RX10 49 yX10_child, Cond.instanceMethod yX10_child]
def wsX11_tries_r10 : List Cond := [Cond.selects RX10 yX10_child yX10_child, Cond.code yX10_child cX10_child 5 (some .int), Cond.fieldLink RX10 43 "RestBoard$Node" "name" "I", Cond.methodLink RX3 213 yX10_is, Cond.methodLink RX3 179 yX3_acquire, Cond.static yX3_acquire, Cond.code yX3_acquire cX3_acquire 2 none, Cond.methodLink RX3 182 yX3_letGo, Cond.instanceMethod yX3_letGo, Cond.selects RX3 yX3_letGo yX3_letGo, Cond.code yX3_letGo cX3_letGo 4 none, Cond.methodLink RX3 186 yX3_withTerm, Cond.instanceMethod yX3_withTerm, Cond.selects RX3 yX3_withTerm yX3_withTerm, Cond.code yX3_readPacked cX3_readPacked 7 (some .int), Cond.fieldLink RX3 229 "RestBoard$State" "packed" "[I", Cond.methodLink RX3 225 yX3_hasValue, Cond.instanceMethod yX3_hasValue, Cond.selects RX3 yX3_hasValue yX3_hasValue, Cond.code yX3_hasValue cX3_hasValue 5 (some .boolean), Cond.fieldLink RX3 232 "RestBoard$Node" "length" "I", Cond.code yX3_reckon cX3_reckon 5 (some .int), Cond.fieldLink RX3 217 "RestBoard$Frame" "locals" "[I", Cond.fieldLink RX3 235 "RestBoard$Frame" "args" "[I"]
def wsX11_tries_r11 : List Cond := [Cond.methodLink RX3 238 yX3_valueNamed, Cond.instanceMethod yX3_valueNamed, Cond.selects RX3 yX3_valueNamed yX3_valueNamed, Cond.code yX3_valueNamed cX3_valueNamed 4 (some .int), Cond.fieldLink RX3 74 "RestBoard$State" "values" "[I", Cond.fieldLink RX3 62 "RestBoard$State" "registers" "LRestBoard$Registers;", Cond.methodLink RX3 257 yX6_fetch, Cond.instanceMethod yX6_fetch, Cond.selects RX6 yX6_fetch yX6_fetch, Cond.code yX6_fetch cX6_fetch 2 (some .int), Cond.fieldLink RX6 24 "RestBoard$Node" "bank" "I", Cond.fieldLink RX6 21 "RestBoard$Node" "offset" "I", Cond.methodLink RX6 27 yX6_choose, Cond.instanceMethod yX6_choose, Cond.selects RX6 yX6_choose yX6_choose, Cond.code yX6_choose cX6_choose 2 none, Cond.methodLink RX6 34 yX6_lastByte, Cond.static yX6_lastByte, Cond.code yX6_lastByte cX6_lastByte 1 (some .int), Cond.fieldLink RX6 15 "RestBoard$Node" "width" "I", Cond.methodLink RX6 38 yX6_peek, Cond.instanceMethod yX6_peek, Cond.selects RX6 yX6_peek yX6_peek, Cond.code yX6_peek cX6_peek 5 (some .int)]
def wsX11_tries_r12 : List Cond := [Cond.methodLink RX3 241 yX3_runNamed, Cond.instanceMethod yX3_runNamed, Cond.selects RX3 yX3_runNamed yX3_runNamed, Cond.methodLink RX3 245 yX3_readPacked, Cond.instanceMethod yX3_readPacked, Cond.selects RX3 yX3_readPacked yX3_readPacked, Cond.methodLink RX3 248 yX3_combined, Cond.instanceMethod yX3_combined, Cond.selects RX3 yX3_combined yX3_combined, Cond.methodLink RX3 251 yX3_isOn, Cond.instanceMethod yX3_isOn, Cond.selects RX3 yX3_isOn yX3_isOn, Cond.code yX3_isOn cX3_isOn 2 (some .boolean), Cond.fieldLink RX3 254 "RestBoard$State" "counts" "[I", Cond.code yX3_runNamed cX3_runNamed 10 (some .int), Cond.fieldLink RX3 260 "RestBoard$Node" "args" "I", Cond.code yX3_storeLocal cX3_storeLocal 3 none, Cond.code yX3_storeNamed cX3_storeNamed 6 none, Cond.methodLink RX3 220 yX10_holdsValue, Cond.instanceMethod yX10_holdsValue, Cond.selects RX10 yX10_holdsValue yX10_holdsValue, Cond.code yX10_holdsValue cX10_holdsValue 2 (some .boolean), Cond.methodLink RX10 39 yX10_is, Cond.methodLink RX3 223 yX3_put]
def wsX11_tries_r13 : List Cond := [Cond.instanceMethod yX3_put, Cond.selects RX3 yX3_put yX3_put, Cond.code yX3_put cX3_put 3 none, Cond.fieldLink RX3 57 "RestBoard$Node" "kind" "I", Cond.methodLink RX3 77 yX6_put, Cond.instanceMethod yX6_put, Cond.selects RX6 yX6_put yX6_put, Cond.code yX6_put cX6_put 9 none, Cond.fieldLink RX6 45 "RestBoard$Node" "rule" "I", Cond.methodLink RX6 41 yX6_bitsIn, Cond.static yX6_bitsIn, Cond.code yX6_bitsIn cX6_bitsIn 4 (some .int), Cond.methodLink RX6 64 Lib.Math.max.name, Cond.static Lib.Math.max.name, Cond.initialized "java/lang/Math", Cond.code Lib.Math.max.name Lib.Math.max.code 2 (some .int), Cond.methodLink RX6 70 Lib.Math.min.name, Cond.static Lib.Math.min.name, Cond.code Lib.Math.min.name Lib.Math.min.code 2 (some .int), Cond.methodLink RX6 48 yX6_others, Cond.instanceMethod yX6_others, Cond.selects RX6 yX6_others yX6_others, Cond.code yX6_others cX6_others 4 (some .int), Cond.code yX3_storePacked cX3_storePacked 7 none]
def wsX11_tries_r14 : List Cond := [Cond.code yX3_withTerm cX3_withTerm 5 none, Cond.fieldLink RX3 189 "RestBoard$State" "notes" "LRestBoard$Log;", Cond.methodLink RX3 196 yX2_write, Cond.instanceMethod yX2_write, Cond.selects RX2 yX2_write yX2_write, Cond.code yX2_write cX2_write 3 none, Cond.methodLink RX11 251 yX11_ofTheRun, Cond.instanceMethod yX11_ofTheRun, Cond.selects RX11 yX11_ofTheRun yX11_ofTheRun, Cond.code yX11_ofTheRun cX11_ofTheRun 3 (some .int), Cond.fieldLink RX11 226 "RestBoard$State" "registers" "LRestBoard$Registers;", Cond.fieldLink RX11 277 "RestBoard$Registers" "reads" "I", Cond.fieldLink RX11 280 "RestBoard$Registers" "writes" "I", Cond.methodLink RX11 288 yX3_steps, Cond.instanceMethod yX3_steps, Cond.selects RX3 yX3_steps yX3_steps, Cond.code yX3_steps cX3_steps 1 (some .int), Cond.methodLink RX11 312 yX3_forgotten, Cond.instanceMethod yX3_forgotten, Cond.selects RX3 yX3_forgotten yX3_forgotten, Cond.code yX3_forgotten cX3_forgotten 1 (some .int), Cond.methodLink RX11 248 yX11_comeBack, Cond.instanceMethod yX11_comeBack, Cond.selects RX11 yX11_comeBack yX11_comeBack]
def wsX11_tries_r15 : List Cond := [Cond.code yX11_comeBack cX11_comeBack 1 none, Cond.methodLink RX11 309 yX3_restoreTold, Cond.instanceMethod yX3_restoreTold, Cond.selects RX3 yX3_restoreTold yX3_restoreTold, Cond.code yX3_restoreTold cX3_restoreTold 1 none]
def wsX11_tries : List Cond := .code yX11_tries cX11_tries 9 (some .int) :: ((wsX11_tries_r1 ++ (wsX11_tries_r2 ++ (wsX11_tries_r3 ++ (wsX11_tries_r4 ++ (wsX11_tries_r5 ++ (wsX11_tries_r6 ++ (wsX11_tries_r7 ++ (wsX11_tries_r8 ++ (wsX11_tries_r9 ++ (wsX11_tries_r10 ++ (wsX11_tries_r11 ++ (wsX11_tries_r12 ++ (wsX11_tries_r13 ++ (wsX11_tries_r14 ++ wsX11_tries_r15)))))))))))))) ++ wsX110 ++ wsX80 ++ wsX100 ++ wsX40 ++ wsX60 ++ wsX20 ++ wsX30 ++ wsX00)
def wsX11_error : List Cond := .code yX11_error cX11_error 2 (some .int) :: ([.fieldLink RX11 42 "RestBoard" "machine" "LRestBoard$Machine;", .methodLink RX11 254 yX3_told, .instanceMethod yX3_told, .selects RX3 yX3_told yX3_told, .initialized RX3, .code yX3_told cX3_told 2 (some .int), .fieldLink RX3 17 "RestBoard$Machine" "latest" "[I"] ++ wsX110 ++ wsX30)
def wsX11_note : List Cond := .code yX11_note cX11_note 3 (some .int) :: ([.fieldLink RX11 10 "RestBoard" "now" "LRestBoard$State;", .fieldLink RX11 257 "RestBoard$State" "notes" "LRestBoard$Log;", .methodLink RX11 261 yX2_told, .instanceMethod yX2_told, .selects RX2 yX2_told yX2_told, .initialized RX2, .code yX2_told cX2_told 4 (some .int), .fieldLink RX2 22 "RestBoard$Log" "kept" "I", .fieldLink RX2 18 "RestBoard$Log" "next" "I", .fieldLink RX2 9 "RestBoard$Log" "who" "[I", .fieldLink RX2 15 "RestBoard$Log" "what" "[I"] ++ wsX110 ++ wsX80 ++ wsX20)
def wsX11_switched : List Cond := .code yX11_switched cX11_switched 3 (some .int) :: ([.fieldLink RX11 10 "RestBoard" "now" "LRestBoard$State;", .fieldLink RX11 265 "RestBoard$State" "switches" "LRestBoard$Log;", .methodLink RX11 261 yX2_told, .instanceMethod yX2_told, .selects RX2 yX2_told yX2_told, .initialized RX2, .code yX2_told cX2_told 4 (some .int), .fieldLink RX2 22 "RestBoard$Log" "kept" "I", .fieldLink RX2 18 "RestBoard$Log" "next" "I", .fieldLink RX2 9 "RestBoard$Log" "who" "[I", .fieldLink RX2 15 "RestBoard$Log" "what" "[I"] ++ wsX110 ++ wsX80 ++ wsX20)
def wsX11_count_r1 : List Cond := [Cond.fieldLink RX11 10 "RestBoard" "now" "LRestBoard$State;", Cond.fieldLink RX11 95 "RestBoard$State" "size" "I", Cond.fieldLink RX11 24 "RestBoard" "tree" "LRestBoard$Tree;", Cond.fieldLink RX11 92 "RestBoard$State" "resting" "I", Cond.fieldLink RX11 49 "RestBoard" "powers" "LRestBoard$Powers;", Cond.fieldLink RX11 187 "RestBoard$State" "raised" "I", Cond.fieldLink RX11 226 "RestBoard$State" "registers" "LRestBoard$Registers;", Cond.fieldLink RX11 277 "RestBoard$Registers" "reads" "I", Cond.fieldLink RX11 280 "RestBoard$Registers" "writes" "I", Cond.fieldLink RX11 283 "RestBoard$Registers" "select" "I", Cond.fieldLink RX11 257 "RestBoard$State" "notes" "LRestBoard$Log;", Cond.fieldLink RX11 286 "RestBoard$Log" "kept" "I", Cond.fieldLink RX11 265 "RestBoard$State" "switches" "LRestBoard$Log;", Cond.fieldLink RX11 42 "RestBoard" "machine" "LRestBoard$Machine;", Cond.fieldLink RX11 65 "RestBoard" "history" "LRestBoard$History;", Cond.fieldLink RX11 33 "RestBoard" "table" "LRestBoard$Table;", Cond.fieldLink RX11 69 "RestBoard" "refusals" "[I", Cond.methodLink RX11 268 yX10_devices, Cond.instanceMethod yX10_devices, Cond.selects RX10 yX10_devices yX10_devices, Cond.initialized RX10, Cond.code yX10_devices cX10_devices 3 (some .int), Cond.fieldLink RX10 17 "RestBoard$Tree" "now" "LRestBoard$State;", Cond.fieldLink RX10 26 "RestBoard$State" "size" "I"]
def wsX11_count_r2 : List Cond := [Cond.fieldLink RX10 11 "RestBoard$Tree" "nodes" "[LRestBoard$Node;", Cond.fieldLink RX10 36 "RestBoard$Node" "kind" "I", Cond.methodLink RX11 271 yX5_resourcesOn, Cond.instanceMethod yX5_resourcesOn, Cond.selects RX5 yX5_resourcesOn yX5_resourcesOn, Cond.initialized RX5, Cond.code yX5_resourcesOn cX5_resourcesOn 3 (some .int), Cond.fieldLink RX5 22 "RestBoard$Powers" "now" "LRestBoard$State;", Cond.fieldLink RX5 63 "RestBoard$State" "size" "I", Cond.fieldLink RX5 18 "RestBoard$Powers" "tree" "LRestBoard$Tree;", Cond.fieldLink RX5 36 "RestBoard$Tree" "nodes" "[LRestBoard$Node;", Cond.fieldLink RX5 66 "RestBoard$Node" "kind" "I", Cond.fieldLink RX5 128 "RestBoard$State" "counts" "[I", Cond.methodLink RX11 274 yX5_armedDevices, Cond.instanceMethod yX5_armedDevices, Cond.selects RX5 yX5_armedDevices yX5_armedDevices, Cond.code yX5_armedDevices cX5_armedDevices 3 (some .int), Cond.fieldLink RX5 119 "RestBoard$State" "lines" "[I", Cond.methodLink RX11 288 yX3_steps, Cond.instanceMethod yX3_steps, Cond.selects RX3 yX3_steps yX3_steps, Cond.initialized RX3, Cond.code yX3_steps cX3_steps 1 (some .int), Cond.fieldLink RX3 41 "RestBoard$Machine" "steps" "I"]
def wsX11_count_r3 : List Cond := [Cond.methodLink RX11 190 yX1_kept, Cond.instanceMethod yX1_kept, Cond.selects RX1 yX1_kept yX1_kept, Cond.initialized RX1, Cond.code yX1_kept cX1_kept 1 (some .int), Cond.fieldLink RX1 24 "RestBoard$History" "kept" "I", Cond.methodLink RX11 291 yX9_length, Cond.instanceMethod yX9_length, Cond.selects RX9 yX9_length yX9_length, Cond.initialized RX9, Cond.code yX9_length cX9_length 1 (some .int), Cond.fieldLink RX9 35 "RestBoard$Table" "length" "I"]
def wsX11_count : List Cond := .code yX11_count cX11_count 2 (some .int) :: ((wsX11_count_r1 ++ (wsX11_count_r2 ++ wsX11_count_r3)) ++ wsX110 ++ wsX80 ++ wsX60 ++ wsX20 ++ wsX100 ++ wsX40 ++ wsX50 ++ wsX30 ++ wsX10 ++ wsX90)
def wsX11_status : List Cond := .code yX11_status cX11_status 1 (some .int) :: ([.fieldLink RX11 293 "RestBoard" "refusedBy" "I"] ++ wsX110)
theorem dX1_kept_0 : decode cX1_kept 0 = .ok (.aload_n 0, 1) := by decide +kernel
theorem dX1_kept_1 : decode cX1_kept 1 = .ok (.getfield 24, 3) := by decide +kernel
theorem dX1_kept_4 : decode cX1_kept 4 = .ok (.ireturn, 1) := by decide +kernel
theorem dX2_told_0 : decode cX2_told 0 = .ok (.iload_n 1, 1) := by decide +kernel
theorem dX2_told_1 : decode cX2_told 1 = .ok (.ifCond .lt 20, 3) := by decide +kernel
theorem dX2_told_4 : decode cX2_told 4 = .ok (.iload_n 1, 1) := by decide +kernel
theorem dX2_told_5 : decode cX2_told 5 = .ok (.aload_n 0, 1) := by decide +kernel
theorem dX2_told_6 : decode cX2_told 6 = .ok (.getfield 22, 3) := by decide +kernel
theorem dX2_told_9 : decode cX2_told 9 = .ok (.if_icmp .ge 12, 3) := by decide +kernel
theorem dX2_told_21 : decode cX2_told 21 = .ok (.iconst (-1), 1) := by decide +kernel
theorem dX2_told_22 : decode cX2_told 22 = .ok (.ireturn, 1) := by decide +kernel
theorem dX3_steps_0 : decode cX3_steps 0 = .ok (.aload_n 0, 1) := by decide +kernel
theorem dX3_steps_1 : decode cX3_steps 1 = .ok (.getfield 41, 3) := by decide +kernel
theorem dX3_steps_4 : decode cX3_steps 4 = .ok (.ireturn, 1) := by decide +kernel
theorem dX3_told_0 : decode cX3_told 0 = .ok (.iload_n 1, 1) := by decide +kernel
theorem dX3_told_1 : decode cX3_told 1 = .ok (.ifCond .lt 15, 3) := by decide +kernel
theorem dX3_told_4 : decode cX3_told 4 = .ok (.iload_n 1, 1) := by decide +kernel
theorem dX3_told_5 : decode cX3_told 5 = .ok (.iconst 3, 1) := by decide +kernel
theorem dX3_told_6 : decode cX3_told 6 = .ok (.if_icmp .ge 10, 3) := by decide +kernel
theorem dX3_told_9 : decode cX3_told 9 = .ok (.aload_n 0, 1) := by decide +kernel
theorem dX3_told_10 : decode cX3_told 10 = .ok (.getfield 17, 3) := by decide +kernel
theorem dX3_told_13 : decode cX3_told 13 = .ok (.iload_n 1, 1) := by decide +kernel
theorem dX3_told_14 : decode cX3_told 14 = .ok (.iaload, 1) := by decide +kernel
theorem dX3_told_15 : decode cX3_told 15 = .ok (.ireturn, 1) := by decide +kernel
theorem dX3_told_16 : decode cX3_told 16 = .ok (.iload_n 1, 1) := by decide +kernel
theorem dX3_told_17 : decode cX3_told 17 = .ok (.bipush 10, 2) := by decide +kernel
theorem dX3_told_19 : decode cX3_told 19 = .ok (.if_icmp .lt 32, 3) := by decide +kernel
theorem dX3_told_22 : decode cX3_told 22 = .ok (.iload_n 1, 1) := by decide +kernel
theorem dX3_told_23 : decode cX3_told 23 = .ok (.bipush 10, 2) := by decide +kernel
theorem dX3_told_25 : decode cX3_told 25 = .ok (.iconst 2, 1) := by decide +kernel
theorem dX3_told_26 : decode cX3_told 26 = .ok (.aload_n 0, 1) := by decide +kernel
theorem dX3_told_27 : decode cX3_told 27 = .ok (.getfield 17, 3) := by decide +kernel
theorem dX3_told_30 : decode cX3_told 30 = .ok (.iconst 2, 1) := by decide +kernel
theorem dX3_told_31 : decode cX3_told 31 = .ok (.iaload, 1) := by decide +kernel
theorem dX3_told_32 : decode cX3_told 32 = .ok (.imul, 1) := by decide +kernel
theorem dX3_told_33 : decode cX3_told 33 = .ok (.iadd, 1) := by decide +kernel
theorem dX3_told_34 : decode cX3_told 34 = .ok (.if_icmp .ge 17, 3) := by decide +kernel
theorem dX3_told_51 : decode cX3_told 51 = .ok (.iconst (-1), 1) := by decide +kernel
theorem dX3_told_52 : decode cX3_told 52 = .ok (.ireturn, 1) := by decide +kernel
set_option maxRecDepth 20000 in
theorem ggX5_needs_X5_bits : GoodIn wsX5_needs wsX5_bits := goodIn_r _ [7] (by decide +kernel) (by decide +kernel)
set_option maxRecDepth 20000 in
theorem gX5_needs_X5_bits : GoodIn wsX5_needs (va_wsS RX5 159 yX5_bits wsX5_bits) := goodIn_app (goodIn_of _ (by decide +kernel)) ggX5_needs_X5_bits
theorem dX5_needs_0 : decode cX5_needs 0 = .ok (.aload_n 0, 1) := by decide +kernel
theorem dX5_needs_1 : decode cX5_needs 1 = .ok (.getfield 22, 3) := by decide +kernel
theorem dX5_needs_4 : decode cX5_needs 4 = .ok (.getfield 80, 3) := by decide +kernel
theorem dX5_needs_7 : decode cX5_needs 7 = .ok (.iload_n 1, 1) := by decide +kernel
theorem dX5_needs_8 : decode cX5_needs 8 = .ok (.bipush 6, 2) := by decide +kernel
theorem dX5_needs_10 : decode cX5_needs 10 = .ok (.imul, 1) := by decide +kernel
theorem dX5_needs_11 : decode cX5_needs 11 = .ok (.bipush 6, 2) := by decide +kernel
theorem dX5_needs_13 : decode cX5_needs 13 = .ok (.invokestatic 159, 3) := by decide +kernel
theorem dX5_needs_16 : decode cX5_needs 16 = .ok (.aload_n 0, 1) := by decide +kernel
theorem dX5_needs_17 : decode cX5_needs 17 = .ok (.getfield 22, 3) := by decide +kernel
theorem dX5_needs_20 : decode cX5_needs 20 = .ok (.getfield 116, 3) := by decide +kernel
theorem dX5_needs_23 : decode cX5_needs 23 = .ok (.iload_n 1, 1) := by decide +kernel
theorem dX5_needs_24 : decode cX5_needs 24 = .ok (.iconst 4, 1) := by decide +kernel
theorem dX5_needs_25 : decode cX5_needs 25 = .ok (.imul, 1) := by decide +kernel
theorem dX5_needs_26 : decode cX5_needs 26 = .ok (.iconst 4, 1) := by decide +kernel
theorem dX5_needs_27 : decode cX5_needs 27 = .ok (.invokestatic 159, 3) := by decide +kernel
theorem dX5_needs_30 : decode cX5_needs 30 = .ok (.lor, 1) := by decide +kernel
theorem dX5_needs_31 : decode cX5_needs 31 = .ok (.lreturn, 1) := by decide +kernel
theorem dX5_bits_0 : decode cX5_bits 0 = .ok (.lconst 0, 1) := by decide +kernel
theorem dX5_bits_1 : decode cX5_bits 1 = .ok (.lstore_n 3, 1) := by decide +kernel
theorem dX5_bits_2 : decode cX5_bits 2 = .ok (.iload_n 1, 1) := by decide +kernel
theorem dX5_bits_3 : decode cX5_bits 3 = .ok (.istore 5, 2) := by decide +kernel
theorem dX5_bits_5 : decode cX5_bits 5 = .ok (.iload 5, 2) := by decide +kernel
theorem dX5_bits_7 : decode cX5_bits 7 = .ok (.iload_n 1, 1) := by decide +kernel
theorem dX5_bits_8 : decode cX5_bits 8 = .ok (.iload_n 2, 1) := by decide +kernel
theorem dX5_bits_9 : decode cX5_bits 9 = .ok (.iadd, 1) := by decide +kernel
theorem dX5_bits_10 : decode cX5_bits 10 = .ok (.if_icmp .ge 30, 3) := by decide +kernel
theorem dX5_bits_13 : decode cX5_bits 13 = .ok (.lload_n 3, 1) := by decide +kernel
theorem dX5_bits_14 : decode cX5_bits 14 = .ok (.aload_n 0, 1) := by decide +kernel
theorem dX5_bits_15 : decode cX5_bits 15 = .ok (.iload 5, 2) := by decide +kernel
theorem dX5_bits_17 : decode cX5_bits 17 = .ok (.iaload, 1) := by decide +kernel
theorem dX5_bits_18 : decode cX5_bits 18 = .ok (.iconst (-1), 1) := by decide +kernel
theorem dX5_bits_19 : decode cX5_bits 19 = .ok (.if_icmp .ne 7, 3) := by decide +kernel
theorem dX5_bits_22 : decode cX5_bits 22 = .ok (.lconst 0, 1) := by decide +kernel
theorem dX5_bits_23 : decode cX5_bits 23 = .ok (.goto 9, 3) := by decide +kernel
theorem dX5_bits_32 : decode cX5_bits 32 = .ok (.lor, 1) := by decide +kernel
theorem dX5_bits_33 : decode cX5_bits 33 = .ok (.lstore_n 3, 1) := by decide +kernel
theorem dX5_bits_34 : decode cX5_bits 34 = .ok (.iinc 5 1, 3) := by decide +kernel
theorem dX5_bits_37 : decode cX5_bits 37 = .ok (.goto (-32), 3) := by decide +kernel
theorem dX5_bits_40 : decode cX5_bits 40 = .ok (.lload_n 3, 1) := by decide +kernel
theorem dX5_bits_41 : decode cX5_bits 41 = .ok (.lreturn, 1) := by decide +kernel
theorem dX5_resourcesOn_0 : decode cX5_resourcesOn 0 = .ok (.iconst 0, 1) := by decide +kernel
theorem dX5_resourcesOn_1 : decode cX5_resourcesOn 1 = .ok (.istore_n 1, 1) := by decide +kernel
theorem dX5_resourcesOn_2 : decode cX5_resourcesOn 2 = .ok (.iconst 0, 1) := by decide +kernel
theorem dX5_resourcesOn_3 : decode cX5_resourcesOn 3 = .ok (.istore_n 2, 1) := by decide +kernel
theorem dX5_resourcesOn_4 : decode cX5_resourcesOn 4 = .ok (.iload_n 2, 1) := by decide +kernel
theorem dX5_resourcesOn_5 : decode cX5_resourcesOn 5 = .ok (.aload_n 0, 1) := by decide +kernel
theorem dX5_resourcesOn_6 : decode cX5_resourcesOn 6 = .ok (.getfield 22, 3) := by decide +kernel
theorem dX5_resourcesOn_9 : decode cX5_resourcesOn 9 = .ok (.getfield 63, 3) := by decide +kernel
theorem dX5_resourcesOn_12 : decode cX5_resourcesOn 12 = .ok (.if_icmp .ge 45, 3) := by decide +kernel
theorem dX5_resourcesOn_15 : decode cX5_resourcesOn 15 = .ok (.iload_n 1, 1) := by decide +kernel
theorem dX5_resourcesOn_16 : decode cX5_resourcesOn 16 = .ok (.aload_n 0, 1) := by decide +kernel
theorem dX5_resourcesOn_17 : decode cX5_resourcesOn 17 = .ok (.getfield 18, 3) := by decide +kernel
theorem dX5_resourcesOn_20 : decode cX5_resourcesOn 20 = .ok (.getfield 36, 3) := by decide +kernel
theorem dX5_resourcesOn_23 : decode cX5_resourcesOn 23 = .ok (.iload_n 2, 1) := by decide +kernel
theorem dX5_resourcesOn_24 : decode cX5_resourcesOn 24 = .ok (.aaload, 1) := by decide +kernel
theorem dX5_resourcesOn_25 : decode cX5_resourcesOn 25 = .ok (.getfield 66, 3) := by decide +kernel
theorem dX5_resourcesOn_28 : decode cX5_resourcesOn 28 = .ok (.iconst 2, 1) := by decide +kernel
theorem dX5_resourcesOn_29 : decode cX5_resourcesOn 29 = .ok (.if_icmp .ne 19, 3) := by decide +kernel
theorem dX5_resourcesOn_48 : decode cX5_resourcesOn 48 = .ok (.iconst 0, 1) := by decide +kernel
theorem dX5_resourcesOn_49 : decode cX5_resourcesOn 49 = .ok (.iadd, 1) := by decide +kernel
theorem dX5_resourcesOn_50 : decode cX5_resourcesOn 50 = .ok (.istore_n 1, 1) := by decide +kernel
theorem dX5_resourcesOn_51 : decode cX5_resourcesOn 51 = .ok (.iinc 2 1, 3) := by decide +kernel
theorem dX5_resourcesOn_54 : decode cX5_resourcesOn 54 = .ok (.goto (-50), 3) := by decide +kernel
theorem dX5_resourcesOn_57 : decode cX5_resourcesOn 57 = .ok (.iload_n 1, 1) := by decide +kernel
theorem dX5_resourcesOn_58 : decode cX5_resourcesOn 58 = .ok (.ireturn, 1) := by decide +kernel
theorem dX5_armedDevices_0 : decode cX5_armedDevices 0 = .ok (.iconst 0, 1) := by decide +kernel
theorem dX5_armedDevices_1 : decode cX5_armedDevices 1 = .ok (.istore_n 1, 1) := by decide +kernel
theorem dX5_armedDevices_2 : decode cX5_armedDevices 2 = .ok (.iconst 0, 1) := by decide +kernel
theorem dX5_armedDevices_3 : decode cX5_armedDevices 3 = .ok (.istore_n 2, 1) := by decide +kernel
theorem dX5_armedDevices_4 : decode cX5_armedDevices 4 = .ok (.iload_n 2, 1) := by decide +kernel
theorem dX5_armedDevices_5 : decode cX5_armedDevices 5 = .ok (.aload_n 0, 1) := by decide +kernel
theorem dX5_armedDevices_6 : decode cX5_armedDevices 6 = .ok (.getfield 22, 3) := by decide +kernel
theorem dX5_armedDevices_9 : decode cX5_armedDevices 9 = .ok (.getfield 63, 3) := by decide +kernel
theorem dX5_armedDevices_12 : decode cX5_armedDevices 12 = .ok (.if_icmp .ge 30, 3) := by decide +kernel
theorem dX5_armedDevices_15 : decode cX5_armedDevices 15 = .ok (.iload_n 1, 1) := by decide +kernel
theorem dX5_armedDevices_16 : decode cX5_armedDevices 16 = .ok (.aload_n 0, 1) := by decide +kernel
theorem dX5_armedDevices_17 : decode cX5_armedDevices 17 = .ok (.getfield 22, 3) := by decide +kernel
theorem dX5_armedDevices_20 : decode cX5_armedDevices 20 = .ok (.getfield 119, 3) := by decide +kernel
theorem dX5_armedDevices_23 : decode cX5_armedDevices 23 = .ok (.iload_n 2, 1) := by decide +kernel
theorem dX5_armedDevices_24 : decode cX5_armedDevices 24 = .ok (.iaload, 1) := by decide +kernel
theorem dX5_armedDevices_25 : decode cX5_armedDevices 25 = .ok (.iconst (-1), 1) := by decide +kernel
theorem dX5_armedDevices_26 : decode cX5_armedDevices 26 = .ok (.if_icmp .ne 7, 3) := by decide +kernel
theorem dX5_armedDevices_29 : decode cX5_armedDevices 29 = .ok (.iconst 0, 1) := by decide +kernel
theorem dX5_armedDevices_30 : decode cX5_armedDevices 30 = .ok (.goto 4, 3) := by decide +kernel
theorem dX5_armedDevices_34 : decode cX5_armedDevices 34 = .ok (.iadd, 1) := by decide +kernel
theorem dX5_armedDevices_35 : decode cX5_armedDevices 35 = .ok (.istore_n 1, 1) := by decide +kernel
theorem dX5_armedDevices_36 : decode cX5_armedDevices 36 = .ok (.iinc 2 1, 3) := by decide +kernel
theorem dX5_armedDevices_39 : decode cX5_armedDevices 39 = .ok (.goto (-35), 3) := by decide +kernel
theorem dX5_armedDevices_42 : decode cX5_armedDevices 42 = .ok (.iload_n 1, 1) := by decide +kernel
theorem dX5_armedDevices_43 : decode cX5_armedDevices 43 = .ok (.ireturn, 1) := by decide +kernel
set_option maxRecDepth 20000 in
theorem ggX7_obstacle_X7_numberOf : GoodIn wsX7_obstacle wsX7_numberOf := goodIn_r _ [12, 13, 14, 15, 16, 17, 18, 19, 20, 21, 22, 23, 24, 25, 26, 27, 28, 38, 39, 40, 41, 42, 60, 61, 43, 44, 45, 46, 47, 48, 49, 50, 51, 52, 53, 54, 55, 56, 57, 58, 59, 62, 63, 64, 65, 66, 67, 68, 69, 70, 71, 72, 73, 74, 75] (by decide +kernel) (by decide +kernel)
set_option maxRecDepth 20000 in
theorem gX7_obstacle_X7_numberOf : GoodIn wsX7_obstacle (wsV RX7 31 RX7 yX7_numberOf wsX7_numberOf) := goodIn_app (goodIn_of _ (by decide +kernel)) ggX7_obstacle_X7_numberOf
theorem dX7_obstacle_0 : decode cX7_obstacle 0 = .ok (.aload_n 0, 1) := by decide +kernel
theorem dX7_obstacle_1 : decode cX7_obstacle 1 = .ok (.iload_n 1, 1) := by decide +kernel
theorem dX7_obstacle_2 : decode cX7_obstacle 2 = .ok (.invokevirtual 31, 3) := by decide +kernel
theorem dX7_obstacle_5 : decode cX7_obstacle 5 = .ok (.iconst (-1), 1) := by decide +kernel
theorem dX7_obstacle_6 : decode cX7_obstacle 6 = .ok (.if_icmp .ne 5, 3) := by decide +kernel
theorem dX7_obstacle_9 : decode cX7_obstacle 9 = .ok (.iconst 1, 1) := by decide +kernel
theorem dX7_obstacle_10 : decode cX7_obstacle 10 = .ok (.ireturn, 1) := by decide +kernel
set_option maxRecDepth 20000 in
theorem ggX7_numberOf_X10_own : GoodIn wsX7_numberOf wsX10_own := goodIn_r _ [6, 7, 8, 9, 10, 11, 12, 13, 5, 14, 15, 16, 22, 23, 24, 25, 26, 27, 28, 29, 30, 31, 32, 33, 34, 35, 36, 37, 38, 39, 40, 41, 42, 43, 44, 45, 46, 47, 48, 49, 50, 51, 52, 53, 54] (by decide +kernel) (by decide +kernel)
set_option maxRecDepth 20000 in
theorem gX7_numberOf_X10_own : GoodIn wsX7_numberOf (wsV RX7 73 RX10 yX10_own wsX10_own) := goodIn_app (goodIn_of _ (by decide +kernel)) ggX7_numberOf_X10_own
theorem dX7_numberOf_0 : decode cX7_numberOf 0 = .ok (.aload_n 0, 1) := by decide +kernel
theorem dX7_numberOf_1 : decode cX7_numberOf 1 = .ok (.getfield 15, 3) := by decide +kernel
theorem dX7_numberOf_4 : decode cX7_numberOf 4 = .ok (.iconst 0, 1) := by decide +kernel
theorem dX7_numberOf_5 : decode cX7_numberOf 5 = .ok (.bipush 105, 2) := by decide +kernel
theorem dX7_numberOf_7 : decode cX7_numberOf 7 = .ok (.iload_n 1, 1) := by decide +kernel
theorem dX7_numberOf_8 : decode cX7_numberOf 8 = .ok (.iadd, 1) := by decide +kernel
theorem dX7_numberOf_9 : decode cX7_numberOf 9 = .ok (.iconst 1, 1) := by decide +kernel
theorem dX7_numberOf_10 : decode cX7_numberOf 10 = .ok (.isub, 1) := by decide +kernel
theorem dX7_numberOf_11 : decode cX7_numberOf 11 = .ok (.iconst 4, 1) := by decide +kernel
theorem dX7_numberOf_12 : decode cX7_numberOf 12 = .ok (.invokevirtual 73, 3) := by decide +kernel
theorem dX7_numberOf_15 : decode cX7_numberOf 15 = .ok (.ireturn, 1) := by decide +kernel
set_option maxRecDepth 20000 in
theorem ggX7_inTurn_X7_sortDevices : GoodIn wsX7_inTurn wsX7_sortDevices := goodIn_r _ [6, 7, 8, 9, 10, 11, 12, 1, 13, 14, 15, 5, 16, 17, 18, 19, 20, 21, 22, 23, 24, 25, 26, 27, 28, 29, 30, 31, 32, 33, 34, 35, 36, 37, 38, 39, 40, 41, 42, 43, 44, 45, 46, 47, 48, 49, 50, 51, 52, 53, 54, 55, 56, 57, 58] (by decide +kernel) (by decide +kernel)
set_option maxRecDepth 20000 in
theorem gX7_inTurn_X7_sortDevices : GoodIn wsX7_inTurn (wsV RX7 77 RX7 yX7_sortDevices wsX7_sortDevices) := goodIn_app (goodIn_of _ (by decide +kernel)) ggX7_inTurn_X7_sortDevices
theorem dX7_inTurn_0 : decode cX7_inTurn 0 = .ok (.aload_n 0, 1) := by decide +kernel
theorem dX7_inTurn_1 : decode cX7_inTurn 1 = .ok (.invokevirtual 77, 3) := by decide +kernel
theorem dX7_inTurn_4 : decode cX7_inTurn 4 = .ok (.istore_n 2, 1) := by decide +kernel
theorem dX7_inTurn_5 : decode cX7_inTurn 5 = .ok (.iload_n 1, 1) := by decide +kernel
theorem dX7_inTurn_6 : decode cX7_inTurn 6 = .ok (.ifCond .lt 17, 3) := by decide +kernel
theorem dX7_inTurn_9 : decode cX7_inTurn 9 = .ok (.iload_n 1, 1) := by decide +kernel
theorem dX7_inTurn_10 : decode cX7_inTurn 10 = .ok (.iload_n 2, 1) := by decide +kernel
theorem dX7_inTurn_11 : decode cX7_inTurn 11 = .ok (.if_icmp .ge 12, 3) := by decide +kernel
theorem dX7_inTurn_23 : decode cX7_inTurn 23 = .ok (.iconst (-1), 1) := by decide +kernel
theorem dX7_inTurn_24 : decode cX7_inTurn 24 = .ok (.ireturn, 1) := by decide +kernel
set_option maxRecDepth 20000 in
theorem ggX7_sortDevices_X7_mostAbove : GoodIn wsX7_sortDevices wsX7_mostAbove := goodIn_r _ [12, 1, 2, 3, 4, 6, 13, 14, 15, 16, 17, 18, 19, 20, 21, 22, 23, 24, 25, 26, 27, 28, 29, 30, 31, 32, 33, 34, 35, 36, 37, 38, 39, 40, 41, 42, 43, 44, 45, 46, 47, 48, 49, 50, 51, 52, 53, 54] (by decide +kernel) (by decide +kernel)
set_option maxRecDepth 20000 in
theorem gX7_sortDevices_X7_mostAbove : GoodIn wsX7_sortDevices (wsV RX7 81 RX7 yX7_mostAbove wsX7_mostAbove) := goodIn_app (goodIn_of _ (by decide +kernel)) ggX7_sortDevices_X7_mostAbove
theorem dX7_sortDevices_0 : decode cX7_sortDevices 0 = .ok (.iconst 0, 1) := by decide +kernel
theorem dX7_sortDevices_1 : decode cX7_sortDevices 1 = .ok (.istore_n 1, 1) := by decide +kernel
theorem dX7_sortDevices_2 : decode cX7_sortDevices 2 = .ok (.aload_n 0, 1) := by decide +kernel
theorem dX7_sortDevices_3 : decode cX7_sortDevices 3 = .ok (.invokevirtual 81, 3) := by decide +kernel
theorem dX7_sortDevices_6 : decode cX7_sortDevices 6 = .ok (.istore_n 2, 1) := by decide +kernel
theorem dX7_sortDevices_7 : decode cX7_sortDevices 7 = .ok (.iload_n 2, 1) := by decide +kernel
theorem dX7_sortDevices_8 : decode cX7_sortDevices 8 = .ok (.ifCond .le 71, 3) := by decide +kernel
theorem dX7_sortDevices_79 : decode cX7_sortDevices 79 = .ok (.iload_n 1, 1) := by decide +kernel
theorem dX7_sortDevices_80 : decode cX7_sortDevices 80 = .ok (.ireturn, 1) := by decide +kernel
theorem dX7_mostAbove_0 : decode cX7_mostAbove 0 = .ok (.iconst 0, 1) := by decide +kernel
theorem dX7_mostAbove_1 : decode cX7_mostAbove 1 = .ok (.istore_n 1, 1) := by decide +kernel
theorem dX7_mostAbove_2 : decode cX7_mostAbove 2 = .ok (.iconst 0, 1) := by decide +kernel
theorem dX7_mostAbove_3 : decode cX7_mostAbove 3 = .ok (.istore_n 2, 1) := by decide +kernel
theorem dX7_mostAbove_4 : decode cX7_mostAbove 4 = .ok (.iload_n 2, 1) := by decide +kernel
theorem dX7_mostAbove_5 : decode cX7_mostAbove 5 = .ok (.aload_n 0, 1) := by decide +kernel
theorem dX7_mostAbove_6 : decode cX7_mostAbove 6 = .ok (.getfield 19, 3) := by decide +kernel
theorem dX7_mostAbove_9 : decode cX7_mostAbove 9 = .ok (.getfield 35, 3) := by decide +kernel
theorem dX7_mostAbove_12 : decode cX7_mostAbove 12 = .ok (.if_icmp .ge 26, 3) := by decide +kernel
theorem dX7_mostAbove_15 : decode cX7_mostAbove 15 = .ok (.iload_n 1, 1) := by decide +kernel
theorem dX7_mostAbove_16 : decode cX7_mostAbove 16 = .ok (.aload_n 0, 1) := by decide +kernel
theorem dX7_mostAbove_17 : decode cX7_mostAbove 17 = .ok (.getfield 15, 3) := by decide +kernel
theorem dX7_mostAbove_20 : decode cX7_mostAbove 20 = .ok (.getfield 59, 3) := by decide +kernel
theorem dX7_mostAbove_23 : decode cX7_mostAbove 23 = .ok (.iload_n 2, 1) := by decide +kernel
theorem dX7_mostAbove_24 : decode cX7_mostAbove 24 = .ok (.aaload, 1) := by decide +kernel
theorem dX7_mostAbove_25 : decode cX7_mostAbove 25 = .ok (.getfield 87, 3) := by decide +kernel
theorem dX7_mostAbove_28 : decode cX7_mostAbove 28 = .ok (.invokestatic 90, 3) := by decide +kernel
theorem dX7_mostAbove_31 : decode cX7_mostAbove 31 = .ok (.istore_n 1, 1) := by decide +kernel
theorem dX7_mostAbove_32 : decode cX7_mostAbove 32 = .ok (.iinc 2 1, 3) := by decide +kernel
theorem dX7_mostAbove_35 : decode cX7_mostAbove 35 = .ok (.goto (-31), 3) := by decide +kernel
theorem dX7_mostAbove_38 : decode cX7_mostAbove 38 = .ok (.iload_n 1, 1) := by decide +kernel
theorem dX7_mostAbove_39 : decode cX7_mostAbove 39 = .ok (.ireturn, 1) := by decide +kernel
theorem dX7_tiedTo_0 : decode cX7_tiedTo 0 = .ok (.iconst 0, 1) := by decide +kernel
theorem dX7_tiedTo_1 : decode cX7_tiedTo 1 = .ok (.istore_n 2, 1) := by decide +kernel
theorem dX7_tiedTo_2 : decode cX7_tiedTo 2 = .ok (.iconst 0, 1) := by decide +kernel
theorem dX7_tiedTo_3 : decode cX7_tiedTo 3 = .ok (.istore_n 3, 1) := by decide +kernel
theorem dX7_tiedTo_4 : decode cX7_tiedTo 4 = .ok (.iload_n 3, 1) := by decide +kernel
theorem dX7_tiedTo_5 : decode cX7_tiedTo 5 = .ok (.aload_n 0, 1) := by decide +kernel
theorem dX7_tiedTo_6 : decode cX7_tiedTo 6 = .ok (.getfield 19, 3) := by decide +kernel
theorem dX7_tiedTo_9 : decode cX7_tiedTo 9 = .ok (.getfield 35, 3) := by decide +kernel
theorem dX7_tiedTo_12 : decode cX7_tiedTo 12 = .ok (.if_icmp .ge 30, 3) := by decide +kernel
theorem dX7_tiedTo_15 : decode cX7_tiedTo 15 = .ok (.iload_n 2, 1) := by decide +kernel
theorem dX7_tiedTo_16 : decode cX7_tiedTo 16 = .ok (.aload_n 0, 1) := by decide +kernel
theorem dX7_tiedTo_17 : decode cX7_tiedTo 17 = .ok (.getfield 19, 3) := by decide +kernel
theorem dX7_tiedTo_20 : decode cX7_tiedTo 20 = .ok (.getfield 41, 3) := by decide +kernel
theorem dX7_tiedTo_23 : decode cX7_tiedTo 23 = .ok (.iload_n 3, 1) := by decide +kernel
theorem dX7_tiedTo_24 : decode cX7_tiedTo 24 = .ok (.iaload, 1) := by decide +kernel
theorem dX7_tiedTo_25 : decode cX7_tiedTo 25 = .ok (.iload_n 1, 1) := by decide +kernel
theorem dX7_tiedTo_26 : decode cX7_tiedTo 26 = .ok (.if_icmp .ne 7, 3) := by decide +kernel
theorem dX7_tiedTo_29 : decode cX7_tiedTo 29 = .ok (.iconst 1, 1) := by decide +kernel
theorem dX7_tiedTo_30 : decode cX7_tiedTo 30 = .ok (.goto 4, 3) := by decide +kernel
theorem dX7_tiedTo_33 : decode cX7_tiedTo 33 = .ok (.iconst 0, 1) := by decide +kernel
theorem dX7_tiedTo_34 : decode cX7_tiedTo 34 = .ok (.iadd, 1) := by decide +kernel
theorem dX7_tiedTo_35 : decode cX7_tiedTo 35 = .ok (.istore_n 2, 1) := by decide +kernel
theorem dX7_tiedTo_36 : decode cX7_tiedTo 36 = .ok (.iinc 3 1, 3) := by decide +kernel
theorem dX7_tiedTo_39 : decode cX7_tiedTo 39 = .ok (.goto (-35), 3) := by decide +kernel
theorem dX7_tiedTo_42 : decode cX7_tiedTo 42 = .ok (.iload_n 2, 1) := by decide +kernel
theorem dX7_tiedTo_43 : decode cX7_tiedTo 43 = .ok (.ireturn, 1) := by decide +kernel
theorem dX9_length_0 : decode cX9_length 0 = .ok (.aload_n 0, 1) := by decide +kernel
theorem dX9_length_1 : decode cX9_length 1 = .ok (.getfield 35, 3) := by decide +kernel
theorem dX9_length_4 : decode cX9_length 4 = .ok (.ireturn, 1) := by decide +kernel
theorem dX10_has_0 : decode cX10_has 0 = .ok (.iload_n 1, 1) := by decide +kernel
theorem dX10_has_1 : decode cX10_has 1 = .ok (.ifCond .lt 18, 3) := by decide +kernel
theorem dX10_has_4 : decode cX10_has 4 = .ok (.iload_n 1, 1) := by decide +kernel
theorem dX10_has_5 : decode cX10_has 5 = .ok (.aload_n 0, 1) := by decide +kernel
theorem dX10_has_6 : decode cX10_has 6 = .ok (.getfield 17, 3) := by decide +kernel
theorem dX10_has_9 : decode cX10_has 9 = .ok (.getfield 26, 3) := by decide +kernel
theorem dX10_has_12 : decode cX10_has 12 = .ok (.if_icmp .ge 7, 3) := by decide +kernel
theorem dX10_has_15 : decode cX10_has 15 = .ok (.iconst 1, 1) := by decide +kernel
theorem dX10_has_16 : decode cX10_has 16 = .ok (.goto 4, 3) := by decide +kernel
theorem dX10_has_19 : decode cX10_has 19 = .ok (.iconst 0, 1) := by decide +kernel
theorem dX10_has_20 : decode cX10_has 20 = .ok (.ireturn, 1) := by decide +kernel
set_option maxRecDepth 20000 in
theorem ggX10_is_X10_has : GoodIn wsX10_is wsX10_has := goodIn_r _ [7, 8, 9, 10, 11, 26, 27, 28, 29, 30, 31, 32, 33, 34, 35, 36, 37, 38, 39, 40, 41, 42] (by decide +kernel) (by decide +kernel)
set_option maxRecDepth 20000 in
theorem gX10_is_X10_has : GoodIn wsX10_is (wsV RX10 32 RX10 yX10_has wsX10_has) := goodIn_app (goodIn_of _ (by decide +kernel)) ggX10_is_X10_has
theorem dX10_is_0 : decode cX10_is 0 = .ok (.aload_n 0, 1) := by decide +kernel
theorem dX10_is_1 : decode cX10_is 1 = .ok (.iload_n 1, 1) := by decide +kernel
theorem dX10_is_2 : decode cX10_is 2 = .ok (.invokevirtual 32, 3) := by decide +kernel
theorem dX10_is_5 : decode cX10_is 5 = .ok (.ifCond .eq 20, 3) := by decide +kernel
theorem dX10_is_8 : decode cX10_is 8 = .ok (.aload_n 0, 1) := by decide +kernel
theorem dX10_is_9 : decode cX10_is 9 = .ok (.getfield 11, 3) := by decide +kernel
theorem dX10_is_12 : decode cX10_is 12 = .ok (.iload_n 1, 1) := by decide +kernel
theorem dX10_is_13 : decode cX10_is 13 = .ok (.aaload, 1) := by decide +kernel
theorem dX10_is_14 : decode cX10_is 14 = .ok (.getfield 36, 3) := by decide +kernel
theorem dX10_is_17 : decode cX10_is 17 = .ok (.iload_n 2, 1) := by decide +kernel
theorem dX10_is_18 : decode cX10_is 18 = .ok (.if_icmp .ne 7, 3) := by decide +kernel
theorem dX10_is_21 : decode cX10_is 21 = .ok (.iconst 1, 1) := by decide +kernel
theorem dX10_is_22 : decode cX10_is 22 = .ok (.goto 4, 3) := by decide +kernel
theorem dX10_is_25 : decode cX10_is 25 = .ok (.iconst 0, 1) := by decide +kernel
theorem dX10_is_26 : decode cX10_is 26 = .ok (.ireturn, 1) := by decide +kernel
set_option maxRecDepth 20000 in
theorem ggX10_holdsValue_X10_is : GoodIn wsX10_holdsValue wsX10_is := goodIn_r _ [5, 6, 7, 8, 9, 10, 4, 11, 12, 13, 14, 15, 16, 17, 18, 19, 20, 21, 22, 23, 24, 25, 26, 27, 28, 29, 30, 31, 32, 33, 34, 35, 36, 37, 38, 39, 40, 41, 42, 43, 44, 45, 46] (by decide +kernel) (by decide +kernel)
set_option maxRecDepth 20000 in
theorem gX10_holdsValue_X10_is : GoodIn wsX10_holdsValue (wsV RX10 39 RX10 yX10_is wsX10_is) := goodIn_app (goodIn_of _ (by decide +kernel)) ggX10_holdsValue_X10_is
theorem dX10_holdsValue_0 : decode cX10_holdsValue 0 = .ok (.aload_n 0, 1) := by decide +kernel
theorem dX10_holdsValue_1 : decode cX10_holdsValue 1 = .ok (.iload_n 1, 1) := by decide +kernel
theorem dX10_holdsValue_2 : decode cX10_holdsValue 2 = .ok (.iconst 4, 1) := by decide +kernel
theorem dX10_holdsValue_3 : decode cX10_holdsValue 3 = .ok (.invokevirtual 39, 3) := by decide +kernel
theorem dX10_holdsValue_6 : decode cX10_holdsValue 6 = .ok (.ifCond .ne 13, 3) := by decide +kernel
theorem dX10_holdsValue_9 : decode cX10_holdsValue 9 = .ok (.aload_n 0, 1) := by decide +kernel
theorem dX10_holdsValue_10 : decode cX10_holdsValue 10 = .ok (.iload_n 1, 1) := by decide +kernel
theorem dX10_holdsValue_11 : decode cX10_holdsValue 11 = .ok (.bipush 6, 2) := by decide +kernel
theorem dX10_holdsValue_13 : decode cX10_holdsValue 13 = .ok (.invokevirtual 39, 3) := by decide +kernel
theorem dX10_holdsValue_16 : decode cX10_holdsValue 16 = .ok (.ifCond .eq 7, 3) := by decide +kernel
theorem dX10_holdsValue_23 : decode cX10_holdsValue 23 = .ok (.iconst 0, 1) := by decide +kernel
theorem dX10_holdsValue_24 : decode cX10_holdsValue 24 = .ok (.ireturn, 1) := by decide +kernel
theorem dX10_child_0 : decode cX10_child 0 = .ok (.iconst 1, 1) := by decide +kernel
theorem dX10_child_1 : decode cX10_child 1 = .ok (.istore 4, 2) := by decide +kernel
theorem dX10_child_3 : decode cX10_child 3 = .ok (.iload 4, 2) := by decide +kernel
theorem dX10_child_5 : decode cX10_child 5 = .ok (.iload_n 3, 1) := by decide +kernel
theorem dX10_child_6 : decode cX10_child 6 = .ok (.if_icmp .ge 40, 3) := by decide +kernel
theorem dX10_child_46 : decode cX10_child 46 = .ok (.iconst (-1), 1) := by decide +kernel
theorem dX10_child_47 : decode cX10_child 47 = .ok (.ireturn, 1) := by decide +kernel
set_option maxRecDepth 20000 in
theorem ggX10_find_X10_child : GoodIn wsX10_find wsX10_child := goodIn_r _ [9, 3, 10, 4, 11, 12, 30, 31, 32, 33, 34, 35, 36, 37, 38, 39, 40, 41, 42, 43] (by decide +kernel) (by decide +kernel)
set_option maxRecDepth 20000 in
theorem gX10_find_X10_child : GoodIn wsX10_find (wsV RX10 49 RX10 yX10_child wsX10_child) := goodIn_app (goodIn_of _ (by decide +kernel)) ggX10_find_X10_child
theorem dX10_find_0 : decode cX10_find 0 = .ok (.iload_n 1, 1) := by decide +kernel
theorem dX10_find_1 : decode cX10_find 1 = .ok (.istore_n 3, 1) := by decide +kernel
theorem dX10_find_2 : decode cX10_find 2 = .ok (.iconst 0, 1) := by decide +kernel
theorem dX10_find_3 : decode cX10_find 3 = .ok (.istore 4, 2) := by decide +kernel
theorem dX10_find_5 : decode cX10_find 5 = .ok (.iload 4, 2) := by decide +kernel
theorem dX10_find_7 : decode cX10_find 7 = .ok (.bipush 32, 2) := by decide +kernel
theorem dX10_find_9 : decode cX10_find 9 = .ok (.if_icmp .ge 48, 3) := by decide +kernel
theorem dX10_find_12 : decode cX10_find 12 = .ok (.iload_n 3, 1) := by decide +kernel
theorem dX10_find_13 : decode cX10_find 13 = .ok (.iconst (-1), 1) := by decide +kernel
theorem dX10_find_14 : decode cX10_find 14 = .ok (.if_icmp .eq 43, 3) := by decide +kernel
theorem dX10_find_17 : decode cX10_find 17 = .ok (.aload_n 0, 1) := by decide +kernel
theorem dX10_find_18 : decode cX10_find 18 = .ok (.iload_n 3, 1) := by decide +kernel
theorem dX10_find_19 : decode cX10_find 19 = .ok (.iload_n 2, 1) := by decide +kernel
theorem dX10_find_20 : decode cX10_find 20 = .ok (.aload_n 0, 1) := by decide +kernel
theorem dX10_find_21 : decode cX10_find 21 = .ok (.getfield 17, 3) := by decide +kernel
theorem dX10_find_24 : decode cX10_find 24 = .ok (.getfield 26, 3) := by decide +kernel
theorem dX10_find_27 : decode cX10_find 27 = .ok (.invokevirtual 49, 3) := by decide +kernel
theorem dX10_find_30 : decode cX10_find 30 = .ok (.istore 5, 2) := by decide +kernel
theorem dX10_find_32 : decode cX10_find 32 = .ok (.iload 5, 2) := by decide +kernel
theorem dX10_find_34 : decode cX10_find 34 = .ok (.iconst (-1), 1) := by decide +kernel
theorem dX10_find_35 : decode cX10_find 35 = .ok (.if_icmp .eq 6, 3) := by decide +kernel
theorem dX10_find_41 : decode cX10_find 41 = .ok (.aload_n 0, 1) := by decide +kernel
theorem dX10_find_42 : decode cX10_find 42 = .ok (.getfield 11, 3) := by decide +kernel
theorem dX10_find_45 : decode cX10_find 45 = .ok (.iload_n 3, 1) := by decide +kernel
theorem dX10_find_46 : decode cX10_find 46 = .ok (.aaload, 1) := by decide +kernel
theorem dX10_find_47 : decode cX10_find 47 = .ok (.getfield 46, 3) := by decide +kernel
theorem dX10_find_50 : decode cX10_find 50 = .ok (.istore_n 3, 1) := by decide +kernel
theorem dX10_find_51 : decode cX10_find 51 = .ok (.iinc 4 1, 3) := by decide +kernel
theorem dX10_find_54 : decode cX10_find 54 = .ok (.goto (-49), 3) := by decide +kernel
theorem dX10_find_57 : decode cX10_find 57 = .ok (.iconst (-1), 1) := by decide +kernel
theorem dX10_find_58 : decode cX10_find 58 = .ok (.ireturn, 1) := by decide +kernel
set_option maxRecDepth 20000 in
theorem ggX10_own_X10_child : GoodIn wsX10_own wsX10_child := goodIn_r _ [9, 3, 10, 11, 12, 13, 31, 32, 33, 34, 35, 36, 37, 38, 39, 40, 41, 42, 43, 44] (by decide +kernel) (by decide +kernel)
set_option maxRecDepth 20000 in
theorem gX10_own_X10_child : GoodIn wsX10_own (wsV RX10 49 RX10 yX10_child wsX10_child) := goodIn_app (goodIn_of _ (by decide +kernel)) ggX10_own_X10_child
theorem dX10_own_0 : decode cX10_own 0 = .ok (.aload_n 0, 1) := by decide +kernel
theorem dX10_own_1 : decode cX10_own 1 = .ok (.iload_n 1, 1) := by decide +kernel
theorem dX10_own_2 : decode cX10_own 2 = .ok (.iload_n 2, 1) := by decide +kernel
theorem dX10_own_3 : decode cX10_own 3 = .ok (.aload_n 0, 1) := by decide +kernel
theorem dX10_own_4 : decode cX10_own 4 = .ok (.getfield 17, 3) := by decide +kernel
theorem dX10_own_7 : decode cX10_own 7 = .ok (.getfield 26, 3) := by decide +kernel
theorem dX10_own_10 : decode cX10_own 10 = .ok (.invokevirtual 49, 3) := by decide +kernel
theorem dX10_own_13 : decode cX10_own 13 = .ok (.istore 4, 2) := by decide +kernel
theorem dX10_own_15 : decode cX10_own 15 = .ok (.iload 4, 2) := by decide +kernel
theorem dX10_own_17 : decode cX10_own 17 = .ok (.iconst (-1), 1) := by decide +kernel
theorem dX10_own_18 : decode cX10_own 18 = .ok (.if_icmp .eq 22, 3) := by decide +kernel
theorem dX10_own_40 : decode cX10_own 40 = .ok (.iconst (-1), 1) := by decide +kernel
theorem dX10_own_41 : decode cX10_own 41 = .ok (.ireturn, 1) := by decide +kernel
theorem dX10_devices_0 : decode cX10_devices 0 = .ok (.iconst 0, 1) := by decide +kernel
theorem dX10_devices_1 : decode cX10_devices 1 = .ok (.istore_n 1, 1) := by decide +kernel
theorem dX10_devices_2 : decode cX10_devices 2 = .ok (.iconst 0, 1) := by decide +kernel
theorem dX10_devices_3 : decode cX10_devices 3 = .ok (.istore_n 2, 1) := by decide +kernel
theorem dX10_devices_4 : decode cX10_devices 4 = .ok (.iload_n 2, 1) := by decide +kernel
theorem dX10_devices_5 : decode cX10_devices 5 = .ok (.aload_n 0, 1) := by decide +kernel
theorem dX10_devices_6 : decode cX10_devices 6 = .ok (.getfield 17, 3) := by decide +kernel
theorem dX10_devices_9 : decode cX10_devices 9 = .ok (.getfield 26, 3) := by decide +kernel
theorem dX10_devices_12 : decode cX10_devices 12 = .ok (.if_icmp .ge 30, 3) := by decide +kernel
theorem dX10_devices_15 : decode cX10_devices 15 = .ok (.iload_n 1, 1) := by decide +kernel
theorem dX10_devices_16 : decode cX10_devices 16 = .ok (.aload_n 0, 1) := by decide +kernel
theorem dX10_devices_17 : decode cX10_devices 17 = .ok (.getfield 11, 3) := by decide +kernel
theorem dX10_devices_20 : decode cX10_devices 20 = .ok (.iload_n 2, 1) := by decide +kernel
theorem dX10_devices_21 : decode cX10_devices 21 = .ok (.aaload, 1) := by decide +kernel
theorem dX10_devices_22 : decode cX10_devices 22 = .ok (.getfield 36, 3) := by decide +kernel
theorem dX10_devices_25 : decode cX10_devices 25 = .ok (.iconst 1, 1) := by decide +kernel
theorem dX10_devices_26 : decode cX10_devices 26 = .ok (.if_icmp .ne 7, 3) := by decide +kernel
theorem dX10_devices_29 : decode cX10_devices 29 = .ok (.iconst 1, 1) := by decide +kernel
theorem dX10_devices_30 : decode cX10_devices 30 = .ok (.goto 4, 3) := by decide +kernel
theorem dX10_devices_34 : decode cX10_devices 34 = .ok (.iadd, 1) := by decide +kernel
theorem dX10_devices_35 : decode cX10_devices 35 = .ok (.istore_n 1, 1) := by decide +kernel
theorem dX10_devices_36 : decode cX10_devices 36 = .ok (.iinc 2 1, 3) := by decide +kernel
theorem dX10_devices_39 : decode cX10_devices 39 = .ok (.goto (-35), 3) := by decide +kernel
theorem dX10_devices_42 : decode cX10_devices 42 = .ok (.iload_n 1, 1) := by decide +kernel
theorem dX10_devices_43 : decode cX10_devices 43 = .ok (.ireturn, 1) := by decide +kernel
theorem dX11_fault_0 : decode cX11_fault 0 = .ok (.aload_n 0, 1) := by decide +kernel
theorem dX11_fault_1 : decode cX11_fault 1 = .ok (.getfield 73, 3) := by decide +kernel
theorem dX11_fault_4 : decode cX11_fault 4 = .ok (.ireturn, 1) := by decide +kernel
set_option maxRecDepth 20000 in
theorem ggX11_node_X10_has : GoodIn wsX11_node wsX10_has := goodIn_r _ [10, 11, 12, 77, 78, 93, 94, 95, 96, 97, 98, 99, 100, 101, 102, 103, 104, 105, 106, 107, 108, 109] (by decide +kernel) (by decide +kernel)
set_option maxRecDepth 20000 in
theorem gX11_node_X10_has : GoodIn wsX11_node (wsV RX11 195 RX10 yX10_has wsX10_has) := goodIn_app (goodIn_of _ (by decide +kernel)) ggX11_node_X10_has
set_option maxRecDepth 20000 in
theorem ggX11_node_X11_ofItsKind : GoodIn wsX11_node wsX11_ofItsKind := goodIn_r _ [17, 3, 18, 19, 20, 21, 22, 23, 24, 25, 26, 27, 28, 16, 29, 30, 31, 32, 33, 34, 35, 36, 37, 38, 39, 40, 41, 42, 43, 44, 45, 46, 47, 48, 49, 50, 51, 52, 53, 54, 55, 56, 57, 58, 59, 60, 61, 62, 63, 64, 65, 79, 80, 81, 82, 83, 84, 85, 86, 87, 88, 89, 90, 91, 92, 66, 67, 68, 69, 70, 71, 72, 73, 74, 75, 76, 93, 94, 95, 96, 97, 98, 99, 100, 101, 102, 103, 104, 105, 106, 107, 108, 109, 110, 111, 112, 113, 114, 115, 116, 117, 118, 119, 77, 78, 120, 121, 122, 123] (by decide +kernel) (by decide +kernel)
set_option maxRecDepth 20000 in
theorem gX11_node_X11_ofItsKind : GoodIn wsX11_node (wsV RX11 213 RX11 yX11_ofItsKind wsX11_ofItsKind) := goodIn_app (goodIn_of _ (by decide +kernel)) ggX11_node_X11_ofItsKind
theorem dX11_node_0 : decode cX11_node 0 = .ok (.aload_n 0, 1) := by decide +kernel
theorem dX11_node_1 : decode cX11_node 1 = .ok (.getfield 24, 3) := by decide +kernel
theorem dX11_node_4 : decode cX11_node 4 = .ok (.iload_n 1, 1) := by decide +kernel
theorem dX11_node_5 : decode cX11_node 5 = .ok (.invokevirtual 195, 3) := by decide +kernel
theorem dX11_node_8 : decode cX11_node 8 = .ok (.ifCond .ne 5, 3) := by decide +kernel
theorem dX11_node_11 : decode cX11_node 11 = .ok (.iconst (-1), 1) := by decide +kernel
theorem dX11_node_12 : decode cX11_node 12 = .ok (.ireturn, 1) := by decide +kernel
theorem dX11_node_13 : decode cX11_node 13 = .ok (.aload_n 0, 1) := by decide +kernel
theorem dX11_node_14 : decode cX11_node 14 = .ok (.getfield 24, 3) := by decide +kernel
theorem dX11_node_17 : decode cX11_node 17 = .ok (.getfield 198, 3) := by decide +kernel
theorem dX11_node_20 : decode cX11_node 20 = .ok (.iload_n 1, 1) := by decide +kernel
theorem dX11_node_21 : decode cX11_node 21 = .ok (.aaload, 1) := by decide +kernel
theorem dX11_node_22 : decode cX11_node 22 = .ok (.astore_n 3, 1) := by decide +kernel
theorem dX11_node_23 : decode cX11_node 23 = .ok (.iload_n 2, 1) := by decide +kernel
theorem dX11_node_24 : decode cX11_node 24 = .ok (.tableswitch 43 0 2 #[28, 33, 38], 28) := by decide +kernel
theorem dX11_node_52 : decode cX11_node 52 = .ok (.aload_n 3, 1) := by decide +kernel
theorem dX11_node_53 : decode cX11_node 53 = .ok (.getfield 202, 3) := by decide +kernel
theorem dX11_node_56 : decode cX11_node 56 = .ok (.ireturn, 1) := by decide +kernel
theorem dX11_node_57 : decode cX11_node 57 = .ok (.aload_n 3, 1) := by decide +kernel
theorem dX11_node_58 : decode cX11_node 58 = .ok (.getfield 207, 3) := by decide +kernel
theorem dX11_node_61 : decode cX11_node 61 = .ok (.ireturn, 1) := by decide +kernel
theorem dX11_node_62 : decode cX11_node 62 = .ok (.aload_n 3, 1) := by decide +kernel
theorem dX11_node_63 : decode cX11_node 63 = .ok (.getfield 210, 3) := by decide +kernel
theorem dX11_node_66 : decode cX11_node 66 = .ok (.ireturn, 1) := by decide +kernel
theorem dX11_node_67 : decode cX11_node 67 = .ok (.aload_n 0, 1) := by decide +kernel
theorem dX11_node_68 : decode cX11_node 68 = .ok (.iload_n 1, 1) := by decide +kernel
theorem dX11_node_69 : decode cX11_node 69 = .ok (.aload_n 3, 1) := by decide +kernel
theorem dX11_node_70 : decode cX11_node 70 = .ok (.iload_n 2, 1) := by decide +kernel
theorem dX11_node_71 : decode cX11_node 71 = .ok (.invokevirtual 213, 3) := by decide +kernel
theorem dX11_node_74 : decode cX11_node 74 = .ok (.ireturn, 1) := by decide +kernel
set_option maxRecDepth 20000 in
theorem ggX11_code_X10_is : GoodIn wsX11_code wsX10_is := goodIn_r _ [9, 10, 11, 12, 13, 14, 8, 15, 16, 17, 29, 30, 31, 32, 33, 34, 35, 36, 37, 38, 39, 40, 41, 42, 43, 44, 45, 46, 47, 48, 49, 50, 51, 52, 53, 54, 55, 56, 57, 58, 59, 60, 61] (by decide +kernel) (by decide +kernel)
set_option maxRecDepth 20000 in
theorem gX11_code_X10_is : GoodIn wsX11_code (wsV RX11 85 RX10 yX10_is wsX10_is) := goodIn_app (goodIn_of _ (by decide +kernel)) ggX11_code_X10_is
theorem dX11_code_0 : decode cX11_code 0 = .ok (.aload_n 0, 1) := by decide +kernel
theorem dX11_code_1 : decode cX11_code 1 = .ok (.getfield 24, 3) := by decide +kernel
theorem dX11_code_4 : decode cX11_code 4 = .ok (.iload_n 1, 1) := by decide +kernel
theorem dX11_code_5 : decode cX11_code 5 = .ok (.iconst 3, 1) := by decide +kernel
theorem dX11_code_6 : decode cX11_code 6 = .ok (.invokevirtual 85, 3) := by decide +kernel
theorem dX11_code_9 : decode cX11_code 9 = .ok (.ifCond .ne 5, 3) := by decide +kernel
theorem dX11_code_12 : decode cX11_code 12 = .ok (.iconst (-1), 1) := by decide +kernel
theorem dX11_code_13 : decode cX11_code 13 = .ok (.ireturn, 1) := by decide +kernel
set_option maxRecDepth 20000 in
theorem ggX11_lookUp_X10_is : GoodIn wsX11_lookUp wsX10_is := goodIn_r _ [6, 7, 8, 9, 10, 11, 5, 12, 13, 14, 36, 37, 38, 39, 40, 41, 42, 43, 44, 45, 46, 47, 48, 49, 50, 51, 52, 53, 54, 55, 56, 57, 58, 59, 60, 61, 62, 63, 64, 65, 66, 67, 68] (by decide +kernel) (by decide +kernel)
set_option maxRecDepth 20000 in
theorem gX11_lookUp_X10_is : GoodIn wsX11_lookUp (wsV RX11 85 RX10 yX10_is wsX10_is) := goodIn_app (goodIn_of _ (by decide +kernel)) ggX11_lookUp_X10_is
set_option maxRecDepth 20000 in
theorem ggX11_lookUp_X10_find : GoodIn wsX11_lookUp wsX10_find := goodIn_r _ [18, 13, 14, 7, 19, 20, 21, 22, 5, 23, 24, 36, 37, 52, 53, 54, 55, 56, 57, 58, 59, 60, 61, 62, 63, 64, 65, 66, 67, 68, 38, 39, 40, 41, 42, 43, 44, 45, 46, 47, 48, 49, 50, 51] (by decide +kernel) (by decide +kernel)
set_option maxRecDepth 20000 in
theorem gX11_lookUp_X10_find : GoodIn wsX11_lookUp (wsV RX11 223 RX10 yX10_find wsX10_find) := goodIn_app (goodIn_of _ (by decide +kernel)) ggX11_lookUp_X10_find
theorem dX11_lookUp_0 : decode cX11_lookUp 0 = .ok (.aload_n 0, 1) := by decide +kernel
theorem dX11_lookUp_1 : decode cX11_lookUp 1 = .ok (.getfield 24, 3) := by decide +kernel
theorem dX11_lookUp_4 : decode cX11_lookUp 4 = .ok (.iload_n 1, 1) := by decide +kernel
theorem dX11_lookUp_5 : decode cX11_lookUp 5 = .ok (.iconst 1, 1) := by decide +kernel
theorem dX11_lookUp_6 : decode cX11_lookUp 6 = .ok (.invokevirtual 85, 3) := by decide +kernel
theorem dX11_lookUp_9 : decode cX11_lookUp 9 = .ok (.ifCond .eq 15, 3) := by decide +kernel
theorem dX11_lookUp_12 : decode cX11_lookUp 12 = .ok (.aload_n 0, 1) := by decide +kernel
theorem dX11_lookUp_13 : decode cX11_lookUp 13 = .ok (.getfield 24, 3) := by decide +kernel
theorem dX11_lookUp_16 : decode cX11_lookUp 16 = .ok (.iload_n 1, 1) := by decide +kernel
theorem dX11_lookUp_17 : decode cX11_lookUp 17 = .ok (.iload_n 2, 1) := by decide +kernel
theorem dX11_lookUp_18 : decode cX11_lookUp 18 = .ok (.invokevirtual 223, 3) := by decide +kernel
theorem dX11_lookUp_21 : decode cX11_lookUp 21 = .ok (.goto 4, 3) := by decide +kernel
theorem dX11_lookUp_24 : decode cX11_lookUp 24 = .ok (.iconst (-1), 1) := by decide +kernel
theorem dX11_lookUp_25 : decode cX11_lookUp 25 = .ok (.ireturn, 1) := by decide +kernel
theorem dX11_register_0 : decode cX11_register 0 = .ok (.iload_n 1, 1) := by decide +kernel
theorem dX11_register_1 : decode cX11_register 1 = .ok (.ifCond .lt 18, 3) := by decide +kernel
theorem dX11_register_4 : decode cX11_register 4 = .ok (.iload_n 1, 1) := by decide +kernel
theorem dX11_register_5 : decode cX11_register 5 = .ok (.iconst 4, 1) := by decide +kernel
theorem dX11_register_6 : decode cX11_register 6 = .ok (.if_icmp .gt 13, 3) := by decide +kernel
theorem dX11_register_9 : decode cX11_register 9 = .ok (.iload_n 2, 1) := by decide +kernel
theorem dX11_register_10 : decode cX11_register 10 = .ok (.ifCond .lt 9, 3) := by decide +kernel
theorem dX11_register_13 : decode cX11_register 13 = .ok (.iload_n 2, 1) := by decide +kernel
theorem dX11_register_14 : decode cX11_register 14 = .ok (.bipush 8, 2) := by decide +kernel
theorem dX11_register_16 : decode cX11_register 16 = .ok (.if_icmp .lt 5, 3) := by decide +kernel
theorem dX11_register_19 : decode cX11_register 19 = .ok (.iconst (-1), 1) := by decide +kernel
theorem dX11_register_20 : decode cX11_register 20 = .ok (.ireturn, 1) := by decide +kernel
theorem dX11_register_21 : decode cX11_register 21 = .ok (.aload_n 0, 1) := by decide +kernel
theorem dX11_register_22 : decode cX11_register 22 = .ok (.getfield 10, 3) := by decide +kernel
theorem dX11_register_25 : decode cX11_register 25 = .ok (.getfield 226, 3) := by decide +kernel
theorem dX11_register_28 : decode cX11_register 28 = .ok (.getfield 230, 3) := by decide +kernel
theorem dX11_register_31 : decode cX11_register 31 = .ok (.iload_n 1, 1) := by decide +kernel
theorem dX11_register_32 : decode cX11_register 32 = .ok (.bipush 8, 2) := by decide +kernel
theorem dX11_register_34 : decode cX11_register 34 = .ok (.imul, 1) := by decide +kernel
theorem dX11_register_35 : decode cX11_register 35 = .ok (.iload_n 2, 1) := by decide +kernel
theorem dX11_register_36 : decode cX11_register 36 = .ok (.iadd, 1) := by decide +kernel
theorem dX11_register_37 : decode cX11_register 37 = .ok (.iaload, 1) := by decide +kernel
theorem dX11_register_38 : decode cX11_register 38 = .ok (.ireturn, 1) := by decide +kernel
set_option maxRecDepth 20000 in
theorem ggX11_wants_X10_is : GoodIn wsX11_wants wsX10_is := goodIn_r _ [8, 9, 10, 11, 12, 13, 7, 14, 15, 16, 39, 40, 41, 42, 43, 44, 45, 46, 47, 48, 49, 50, 51, 52, 53, 54, 55, 56, 57, 58, 59, 60, 61, 62, 63, 64, 65, 66, 67, 68, 69, 70, 71] (by decide +kernel) (by decide +kernel)
set_option maxRecDepth 20000 in
theorem gX11_wants_X10_is : GoodIn wsX11_wants (wsV RX11 85 RX10 yX10_is wsX10_is) := goodIn_app (goodIn_of _ (by decide +kernel)) ggX11_wants_X10_is
set_option maxRecDepth 20000 in
theorem ggX11_wants_X5_needs : GoodIn wsX11_wants wsX5_needs := goodIn_r _ [21, 22, 23, 24, 25, 26, 20, 27, 72, 73, 74, 75, 55, 56, 57, 58, 59, 60, 61, 62, 63, 64, 65, 66, 67, 68, 69, 70, 71] (by decide +kernel) (by decide +kernel)
set_option maxRecDepth 20000 in
theorem gX11_wants_X5_needs : GoodIn wsX11_wants (wsV RX11 233 RX5 yX5_needs wsX5_needs) := goodIn_app (goodIn_of _ (by decide +kernel)) ggX11_wants_X5_needs
theorem dX11_wants_0 : decode cX11_wants 0 = .ok (.aload_n 0, 1) := by decide +kernel
theorem dX11_wants_1 : decode cX11_wants 1 = .ok (.getfield 24, 3) := by decide +kernel
theorem dX11_wants_4 : decode cX11_wants 4 = .ok (.iload_n 1, 1) := by decide +kernel
theorem dX11_wants_5 : decode cX11_wants 5 = .ok (.iconst 1, 1) := by decide +kernel
theorem dX11_wants_6 : decode cX11_wants 6 = .ok (.invokevirtual 85, 3) := by decide +kernel
theorem dX11_wants_9 : decode cX11_wants 9 = .ok (.ifCond .eq 14, 3) := by decide +kernel
theorem dX11_wants_12 : decode cX11_wants 12 = .ok (.aload_n 0, 1) := by decide +kernel
theorem dX11_wants_13 : decode cX11_wants 13 = .ok (.getfield 49, 3) := by decide +kernel
theorem dX11_wants_16 : decode cX11_wants 16 = .ok (.iload_n 1, 1) := by decide +kernel
theorem dX11_wants_17 : decode cX11_wants 17 = .ok (.invokevirtual 233, 3) := by decide +kernel
theorem dX11_wants_20 : decode cX11_wants 20 = .ok (.goto 6, 3) := by decide +kernel
theorem dX11_wants_23 : decode cX11_wants 23 = .ok (.ldc2_w 237, 3) := by decide +kernel
theorem dX11_wants_26 : decode cX11_wants 26 = .ok (.lreturn, 1) := by decide +kernel
set_option maxRecDepth 20000 in
theorem ggX11_wanted_X10_is : GoodIn wsX11_wanted wsX10_is := goodIn_r _ [10, 11, 12, 13, 14, 15, 9, 16, 17, 18, 58, 59, 60, 61, 62, 63, 64, 65, 66, 67, 68, 69, 70, 71, 72, 73, 41, 42, 43, 44, 45, 46, 47, 48, 49, 50, 51, 52, 53, 54, 55, 56, 57] (by decide +kernel) (by decide +kernel)
set_option maxRecDepth 20000 in
theorem gX11_wanted_X10_is : GoodIn wsX11_wanted (wsV RX11 85 RX10 yX10_is wsX10_is) := goodIn_app (goodIn_of _ (by decide +kernel)) ggX11_wanted_X10_is
theorem dX11_wanted_0 : decode cX11_wanted 0 = .ok (.aload_n 0, 1) := by decide +kernel
theorem dX11_wanted_1 : decode cX11_wanted 1 = .ok (.getfield 24, 3) := by decide +kernel
theorem dX11_wanted_4 : decode cX11_wanted 4 = .ok (.iload_n 1, 1) := by decide +kernel
theorem dX11_wanted_5 : decode cX11_wanted 5 = .ok (.iconst 2, 1) := by decide +kernel
theorem dX11_wanted_6 : decode cX11_wanted 6 = .ok (.invokevirtual 85, 3) := by decide +kernel
theorem dX11_wanted_9 : decode cX11_wanted 9 = .ok (.ifCond .ne 7, 3) := by decide +kernel
theorem dX11_wanted_12 : decode cX11_wanted 12 = .ok (.ldc2_w 237, 3) := by decide +kernel
theorem dX11_wanted_15 : decode cX11_wanted 15 = .ok (.lreturn, 1) := by decide +kernel
set_option maxRecDepth 20000 in
theorem ggX11_deepest_X7_obstacle : GoodIn wsX11_deepest wsX7_obstacle := goodIn_r _ [6, 7, 8, 9, 10, 11, 12, 13, 14, 15, 16, 5, 17, 18, 19, 20, 21, 22, 23, 24, 25, 26, 27, 28, 29, 30, 31, 32, 33, 34, 35, 36, 37, 38, 39, 40, 41, 42, 54, 55, 56, 57, 58, 59, 60, 61, 62, 63, 64, 65, 66, 67, 68, 69, 70, 71, 72, 73, 74, 75, 76, 77, 78, 79, 80, 81, 82, 83, 84, 85, 86, 87, 88, 89, 90, 91] (by decide +kernel) (by decide +kernel)
set_option maxRecDepth 20000 in
theorem gX11_deepest_X7_obstacle : GoodIn wsX11_deepest (wsV RX11 239 RX7 yX7_obstacle wsX7_obstacle) := goodIn_app (goodIn_of _ (by decide +kernel)) ggX11_deepest_X7_obstacle
theorem dX11_deepest_0 : decode cX11_deepest 0 = .ok (.iconst 4, 1) := by decide +kernel
theorem dX11_deepest_1 : decode cX11_deepest 1 = .ok (.istore_n 1, 1) := by decide +kernel
theorem dX11_deepest_2 : decode cX11_deepest 2 = .ok (.iload_n 1, 1) := by decide +kernel
theorem dX11_deepest_3 : decode cX11_deepest 3 = .ok (.ifCond .le 22, 3) := by decide +kernel
theorem dX11_deepest_6 : decode cX11_deepest 6 = .ok (.aload_n 0, 1) := by decide +kernel
theorem dX11_deepest_7 : decode cX11_deepest 7 = .ok (.getfield 58, 3) := by decide +kernel
theorem dX11_deepest_10 : decode cX11_deepest 10 = .ok (.iload_n 1, 1) := by decide +kernel
theorem dX11_deepest_11 : decode cX11_deepest 11 = .ok (.invokevirtual 239, 3) := by decide +kernel
theorem dX11_deepest_14 : decode cX11_deepest 14 = .ok (.ifCond .ne 5, 3) := by decide +kernel
theorem dX11_deepest_19 : decode cX11_deepest 19 = .ok (.iinc 1 (-1), 3) := by decide +kernel
theorem dX11_deepest_22 : decode cX11_deepest 22 = .ok (.goto (-20), 3) := by decide +kernel
theorem dX11_deepest_25 : decode cX11_deepest 25 = .ok (.iconst 0, 1) := by decide +kernel
theorem dX11_deepest_26 : decode cX11_deepest 26 = .ok (.ireturn, 1) := by decide +kernel
set_option maxRecDepth 20000 in
theorem ggX11_why_X7_obstacle : GoodIn wsX11_why wsX7_obstacle := goodIn_r _ [6, 7, 8, 9, 10, 11, 12, 13, 14, 15, 16, 5, 17, 18, 19, 20, 21, 22, 23, 24, 25, 26, 27, 28, 29, 30, 31, 32, 33, 34, 35, 36, 37, 38, 39, 40, 41, 42, 54, 55, 56, 57, 58, 59, 60, 61, 62, 63, 64, 65, 66, 67, 68, 69, 70, 71, 72, 73, 74, 75, 76, 77, 78, 79, 80, 81, 82, 83, 84, 85, 86, 87, 88, 89, 90, 91] (by decide +kernel) (by decide +kernel)
set_option maxRecDepth 20000 in
theorem gX11_why_X7_obstacle : GoodIn wsX11_why (wsV RX11 239 RX7 yX7_obstacle wsX7_obstacle) := goodIn_app (goodIn_of _ (by decide +kernel)) ggX11_why_X7_obstacle
theorem dX11_why_0 : decode cX11_why 0 = .ok (.iload_n 1, 1) := by decide +kernel
theorem dX11_why_1 : decode cX11_why 1 = .ok (.iconst 1, 1) := by decide +kernel
theorem dX11_why_2 : decode cX11_why 2 = .ok (.if_icmp .lt 8, 3) := by decide +kernel
theorem dX11_why_5 : decode cX11_why 5 = .ok (.iload_n 1, 1) := by decide +kernel
theorem dX11_why_6 : decode cX11_why 6 = .ok (.iconst 4, 1) := by decide +kernel
theorem dX11_why_7 : decode cX11_why 7 = .ok (.if_icmp .le 7, 3) := by decide +kernel
theorem dX11_why_10 : decode cX11_why 10 = .ok (.iconst (-1), 1) := by decide +kernel
theorem dX11_why_11 : decode cX11_why 11 = .ok (.goto 11, 3) := by decide +kernel
theorem dX11_why_14 : decode cX11_why 14 = .ok (.aload_n 0, 1) := by decide +kernel
theorem dX11_why_15 : decode cX11_why 15 = .ok (.getfield 58, 3) := by decide +kernel
theorem dX11_why_18 : decode cX11_why 18 = .ok (.iload_n 1, 1) := by decide +kernel
theorem dX11_why_19 : decode cX11_why 19 = .ok (.invokevirtual 239, 3) := by decide +kernel
theorem dX11_why_22 : decode cX11_why 22 = .ok (.ireturn, 1) := by decide +kernel
set_option maxRecDepth 20000 in
theorem ggX11_order_X7_inTurn : GoodIn wsX11_order wsX7_inTurn := goodIn_r _ [6, 7, 8, 9, 10, 5, 11, 12, 13, 14, 15, 16, 17, 18, 19, 20, 21, 22, 23, 24, 25, 37, 38, 39, 40, 41, 42, 43, 44, 45, 46, 47, 48, 49, 50, 51, 52, 53, 54, 55, 56, 57, 58, 59, 60, 61, 62, 63, 64, 65, 66, 67, 68, 69, 70, 71, 72, 73, 74] (by decide +kernel) (by decide +kernel)
set_option maxRecDepth 20000 in
theorem gX11_order_X7_inTurn : GoodIn wsX11_order (wsV RX11 242 RX7 yX7_inTurn wsX7_inTurn) := goodIn_app (goodIn_of _ (by decide +kernel)) ggX11_order_X7_inTurn
theorem dX11_order_0 : decode cX11_order 0 = .ok (.aload_n 0, 1) := by decide +kernel
theorem dX11_order_1 : decode cX11_order 1 = .ok (.getfield 58, 3) := by decide +kernel
theorem dX11_order_4 : decode cX11_order 4 = .ok (.iload_n 1, 1) := by decide +kernel
theorem dX11_order_5 : decode cX11_order 5 = .ok (.invokevirtual 242, 3) := by decide +kernel
theorem dX11_order_8 : decode cX11_order 8 = .ok (.ireturn, 1) := by decide +kernel
set_option maxRecDepth 20000 in
theorem ggX11_would_X11_refusalToRest : GoodIn wsX11_would wsX11_refusalToRest := goodIn_r _ [6, 7, 8, 1, 9, 10, 11, 12, 13, 14, 15, 16, 17, 18, 19, 20, 21, 22, 23, 24, 25, 26, 27, 28, 29, 30, 31, 32, 33, 34, 35, 36, 37, 38, 39, 40, 41, 42, 43, 44, 45, 46, 47, 48, 49, 485, 486, 487, 488, 489, 490, 491, 492, 493, 494, 495, 496, 497, 498, 499, 500, 501, 502, 503, 504, 505, 506, 507, 508, 509, 510, 511, 512, 513, 514, 515, 516, 517, 518, 519, 520, 521, 522, 523, 524, 525, 526, 527, 528, 529, 530, 531, 532, 533] (by decide +kernel) (by decide +kernel)
set_option maxRecDepth 20000 in
theorem gX11_would_X11_refusalToRest : GoodIn wsX11_would (wsV RX11 172 RX11 yX11_refusalToRest wsX11_refusalToRest) := goodIn_app (goodIn_of _ (by decide +kernel)) ggX11_would_X11_refusalToRest
theorem dX11_would_0 : decode cX11_would 0 = .ok (.aload_n 0, 1) := by decide +kernel
theorem dX11_would_1 : decode cX11_would 1 = .ok (.iload_n 1, 1) := by decide +kernel
theorem dX11_would_2 : decode cX11_would 2 = .ok (.invokevirtual 172, 3) := by decide +kernel
theorem dX11_would_5 : decode cX11_would 5 = .ok (.istore_n 2, 1) := by decide +kernel
theorem dX11_would_6 : decode cX11_would 6 = .ok (.iload_n 2, 1) := by decide +kernel
theorem dX11_would_7 : decode cX11_would 7 = .ok (.ifCond .eq 5, 3) := by decide +kernel
theorem dX11_would_10 : decode cX11_would 10 = .ok (.iload_n 2, 1) := by decide +kernel
theorem dX11_would_11 : decode cX11_would 11 = .ok (.ireturn, 1) := by decide +kernel
set_option maxRecDepth 20000 in
theorem ggX11_tries_X11_refusalToRun : GoodIn wsX11_tries wsX11_refusalToRun := goodIn_r _ [6, 7, 8, 9, 10, 11, 5, 12, 13, 14, 15, 16, 17, 18, 19, 20, 21, 22, 23, 24, 25, 26, 342, 343, 344, 345, 346, 347, 348, 349, 350, 351, 352, 353, 354, 355, 356, 357, 358, 359, 360, 361, 362, 363, 364, 365, 366, 367, 368, 369, 370, 371, 372, 373, 374, 375, 376, 377, 378, 379, 380, 381, 382, 383, 384, 385] (by decide +kernel) (by decide +kernel)
set_option maxRecDepth 20000 in
theorem gX11_tries_X11_refusalToRun : GoodIn wsX11_tries (wsV RX11 116 RX11 yX11_refusalToRun wsX11_refusalToRun) := goodIn_app (goodIn_of _ (by decide +kernel)) ggX11_tries_X11_refusalToRun
theorem dX11_tries_0 : decode cX11_tries 0 = .ok (.iload 5, 2) := by decide +kernel
theorem dX11_tries_2 : decode cX11_tries 2 = .ok (.ifCond .lt 9, 3) := by decide +kernel
theorem dX11_tries_5 : decode cX11_tries 5 = .ok (.iload 5, 2) := by decide +kernel
theorem dX11_tries_7 : decode cX11_tries 7 = .ok (.iconst 4, 1) := by decide +kernel
theorem dX11_tries_8 : decode cX11_tries 8 = .ok (.if_icmp .le 5, 3) := by decide +kernel
theorem dX11_tries_11 : decode cX11_tries 11 = .ok (.iconst (-1), 1) := by decide +kernel
theorem dX11_tries_12 : decode cX11_tries 12 = .ok (.ireturn, 1) := by decide +kernel
theorem dX11_tries_13 : decode cX11_tries 13 = .ok (.aload_n 0, 1) := by decide +kernel
theorem dX11_tries_14 : decode cX11_tries 14 = .ok (.iload_n 1, 1) := by decide +kernel
theorem dX11_tries_15 : decode cX11_tries 15 = .ok (.iload_n 2, 1) := by decide +kernel
theorem dX11_tries_16 : decode cX11_tries 16 = .ok (.iload_n 3, 1) := by decide +kernel
theorem dX11_tries_17 : decode cX11_tries 17 = .ok (.iload 4, 2) := by decide +kernel
theorem dX11_tries_19 : decode cX11_tries 19 = .ok (.invokevirtual 116, 3) := by decide +kernel
theorem dX11_tries_22 : decode cX11_tries 22 = .ok (.istore 6, 2) := by decide +kernel
theorem dX11_tries_24 : decode cX11_tries 24 = .ok (.iload 6, 2) := by decide +kernel
theorem dX11_tries_26 : decode cX11_tries 26 = .ok (.ifCond .eq 15, 3) := by decide +kernel
theorem dX11_tries_29 : decode cX11_tries 29 = .ok (.iload 5, 2) := by decide +kernel
theorem dX11_tries_31 : decode cX11_tries 31 = .ok (.ifCond .ne 8, 3) := by decide +kernel
theorem dX11_tries_34 : decode cX11_tries 34 = .ok (.iload 6, 2) := by decide +kernel
theorem dX11_tries_36 : decode cX11_tries 36 = .ok (.goto 4, 3) := by decide +kernel
theorem dX11_tries_39 : decode cX11_tries 39 = .ok (.iconst 0, 1) := by decide +kernel
theorem dX11_tries_40 : decode cX11_tries 40 = .ok (.ireturn, 1) := by decide +kernel
set_option maxRecDepth 20000 in
theorem ggX11_error_X3_told : GoodIn wsX11_error wsX3_told := goodIn_r _ [6, 7, 19, 20, 21, 22, 23, 24, 25, 26, 27, 28] (by decide +kernel) (by decide +kernel)
set_option maxRecDepth 20000 in
theorem gX11_error_X3_told : GoodIn wsX11_error (wsV RX11 254 RX3 yX3_told wsX3_told) := goodIn_app (goodIn_of _ (by decide +kernel)) ggX11_error_X3_told
theorem dX11_error_0 : decode cX11_error 0 = .ok (.aload_n 0, 1) := by decide +kernel
theorem dX11_error_1 : decode cX11_error 1 = .ok (.getfield 42, 3) := by decide +kernel
theorem dX11_error_4 : decode cX11_error 4 = .ok (.iload_n 1, 1) := by decide +kernel
theorem dX11_error_5 : decode cX11_error 5 = .ok (.invokevirtual 254, 3) := by decide +kernel
theorem dX11_error_8 : decode cX11_error 8 = .ok (.ireturn, 1) := by decide +kernel
set_option maxRecDepth 20000 in
theorem ggX11_note_X2_told : GoodIn wsX11_note wsX2_told := goodIn_r _ [7, 8, 9, 10, 11, 40, 41, 42, 43] (by decide +kernel) (by decide +kernel)
set_option maxRecDepth 20000 in
theorem gX11_note_X2_told : GoodIn wsX11_note (wsV RX11 261 RX2 yX2_told wsX2_told) := goodIn_app (goodIn_of _ (by decide +kernel)) ggX11_note_X2_told
theorem dX11_note_0 : decode cX11_note 0 = .ok (.aload_n 0, 1) := by decide +kernel
theorem dX11_note_1 : decode cX11_note 1 = .ok (.getfield 10, 3) := by decide +kernel
theorem dX11_note_4 : decode cX11_note 4 = .ok (.getfield 257, 3) := by decide +kernel
theorem dX11_note_7 : decode cX11_note 7 = .ok (.iload_n 1, 1) := by decide +kernel
theorem dX11_note_8 : decode cX11_note 8 = .ok (.iload_n 2, 1) := by decide +kernel
theorem dX11_note_9 : decode cX11_note 9 = .ok (.invokevirtual 261, 3) := by decide +kernel
theorem dX11_note_12 : decode cX11_note 12 = .ok (.ireturn, 1) := by decide +kernel
set_option maxRecDepth 20000 in
theorem ggX11_switched_X2_told : GoodIn wsX11_switched wsX2_told := goodIn_r _ [7, 8, 9, 10, 11, 40, 41, 42, 43] (by decide +kernel) (by decide +kernel)
set_option maxRecDepth 20000 in
theorem gX11_switched_X2_told : GoodIn wsX11_switched (wsV RX11 261 RX2 yX2_told wsX2_told) := goodIn_app (goodIn_of _ (by decide +kernel)) ggX11_switched_X2_told
theorem dX11_switched_0 : decode cX11_switched 0 = .ok (.aload_n 0, 1) := by decide +kernel
theorem dX11_switched_1 : decode cX11_switched 1 = .ok (.getfield 10, 3) := by decide +kernel
theorem dX11_switched_4 : decode cX11_switched 4 = .ok (.getfield 265, 3) := by decide +kernel
theorem dX11_switched_7 : decode cX11_switched 7 = .ok (.iload_n 1, 1) := by decide +kernel
theorem dX11_switched_8 : decode cX11_switched 8 = .ok (.iload_n 2, 1) := by decide +kernel
theorem dX11_switched_9 : decode cX11_switched 9 = .ok (.invokevirtual 261, 3) := by decide +kernel
theorem dX11_switched_12 : decode cX11_switched 12 = .ok (.ireturn, 1) := by decide +kernel
set_option maxRecDepth 20000 in
theorem ggX11_count_X10_devices : GoodIn wsX11_count wsX10_devices := goodIn_r _ [22, 23, 24, 25, 26, 97, 98, 72, 73, 74, 75, 76, 77, 78, 79, 80, 81, 82, 83, 84, 85, 86, 87, 88, 99, 100, 101, 102, 103, 104, 105, 106, 107, 108, 109, 110, 111, 112] (by decide +kernel) (by decide +kernel)
set_option maxRecDepth 20000 in
theorem gX11_count_X10_devices : GoodIn wsX11_count (wsV RX11 268 RX10 yX10_devices wsX10_devices) := goodIn_app (goodIn_of _ (by decide +kernel)) ggX11_count_X10_devices
set_option maxRecDepth 20000 in
theorem ggX11_count_X5_resourcesOn : GoodIn wsX11_count wsX5_resourcesOn := goodIn_r _ [31, 32, 33, 34, 35, 36, 37, 113, 114, 115, 116, 72, 73, 74, 75, 76, 77, 78, 79, 80, 81, 82, 83, 84, 85, 86, 87, 88, 97, 98, 99, 100, 101, 102, 103, 104, 105, 106, 107, 108, 109, 110, 111, 112] (by decide +kernel) (by decide +kernel)
set_option maxRecDepth 20000 in
theorem gX11_count_X5_resourcesOn : GoodIn wsX11_count (wsV RX11 271 RX5 yX5_resourcesOn wsX5_resourcesOn) := goodIn_app (goodIn_of _ (by decide +kernel)) ggX11_count_X5_resourcesOn
set_option maxRecDepth 20000 in
theorem ggX11_count_X5_armedDevices : GoodIn wsX11_count wsX5_armedDevices := goodIn_r _ [41, 32, 33, 42, 113, 114, 115, 116, 72, 73, 74, 75, 76, 77, 78, 79, 80, 81, 82, 83, 84, 85, 86, 87, 88] (by decide +kernel) (by decide +kernel)
set_option maxRecDepth 20000 in
theorem gX11_count_X5_armedDevices : GoodIn wsX11_count (wsV RX11 274 RX5 yX5_armedDevices wsX5_armedDevices) := goodIn_app (goodIn_of _ (by decide +kernel)) ggX11_count_X5_armedDevices
set_option maxRecDepth 20000 in
theorem ggX11_count_X3_steps : GoodIn wsX11_count wsX3_steps := goodIn_r _ [47, 48, 117, 118, 119, 120, 121, 122, 123, 124, 125, 126] (by decide +kernel) (by decide +kernel)
set_option maxRecDepth 20000 in
theorem gX11_count_X3_steps : GoodIn wsX11_count (wsV RX11 288 RX3 yX3_steps wsX3_steps) := goodIn_app (goodIn_of _ (by decide +kernel)) ggX11_count_X3_steps
set_option maxRecDepth 20000 in
theorem ggX11_count_X1_kept : GoodIn wsX11_count wsX1_kept := goodIn_r _ [53, 54, 127, 128, 129, 130, 131] (by decide +kernel) (by decide +kernel)
set_option maxRecDepth 20000 in
theorem gX11_count_X1_kept : GoodIn wsX11_count (wsV RX11 190 RX1 yX1_kept wsX1_kept) := goodIn_app (goodIn_of _ (by decide +kernel)) ggX11_count_X1_kept
set_option maxRecDepth 20000 in
theorem ggX11_count_X9_length : GoodIn wsX11_count wsX9_length := goodIn_r _ [59, 60, 132, 133, 134, 135, 136, 137, 138, 139, 140, 141, 142, 143, 144, 145, 146] (by decide +kernel) (by decide +kernel)
set_option maxRecDepth 20000 in
theorem gX11_count_X9_length : GoodIn wsX11_count (wsV RX11 291 RX9 yX9_length wsX9_length) := goodIn_app (goodIn_of _ (by decide +kernel)) ggX11_count_X9_length
theorem dX11_count_0 : decode cX11_count 0 = .ok (.iload_n 1, 1) := by decide +kernel
theorem dX11_count_1 : decode cX11_count 1 = .ok (.tableswitch 198 0 13 #[71, 79, 87, 95, 103, 111, 119, 130, 141, 152, 163, 174, 182, 190], 71) := by decide +kernel
theorem dX11_count_72 : decode cX11_count 72 = .ok (.aload_n 0, 1) := by decide +kernel
theorem dX11_count_73 : decode cX11_count 73 = .ok (.getfield 10, 3) := by decide +kernel
theorem dX11_count_76 : decode cX11_count 76 = .ok (.getfield 95, 3) := by decide +kernel
theorem dX11_count_79 : decode cX11_count 79 = .ok (.ireturn, 1) := by decide +kernel
theorem dX11_count_80 : decode cX11_count 80 = .ok (.aload_n 0, 1) := by decide +kernel
theorem dX11_count_81 : decode cX11_count 81 = .ok (.getfield 24, 3) := by decide +kernel
theorem dX11_count_84 : decode cX11_count 84 = .ok (.invokevirtual 268, 3) := by decide +kernel
theorem dX11_count_87 : decode cX11_count 87 = .ok (.ireturn, 1) := by decide +kernel
theorem dX11_count_88 : decode cX11_count 88 = .ok (.aload_n 0, 1) := by decide +kernel
theorem dX11_count_89 : decode cX11_count 89 = .ok (.getfield 10, 3) := by decide +kernel
theorem dX11_count_92 : decode cX11_count 92 = .ok (.getfield 92, 3) := by decide +kernel
theorem dX11_count_95 : decode cX11_count 95 = .ok (.ireturn, 1) := by decide +kernel
theorem dX11_count_96 : decode cX11_count 96 = .ok (.aload_n 0, 1) := by decide +kernel
theorem dX11_count_97 : decode cX11_count 97 = .ok (.getfield 49, 3) := by decide +kernel
theorem dX11_count_100 : decode cX11_count 100 = .ok (.invokevirtual 271, 3) := by decide +kernel
theorem dX11_count_103 : decode cX11_count 103 = .ok (.ireturn, 1) := by decide +kernel
theorem dX11_count_104 : decode cX11_count 104 = .ok (.aload_n 0, 1) := by decide +kernel
theorem dX11_count_105 : decode cX11_count 105 = .ok (.getfield 49, 3) := by decide +kernel
theorem dX11_count_108 : decode cX11_count 108 = .ok (.invokevirtual 274, 3) := by decide +kernel
theorem dX11_count_111 : decode cX11_count 111 = .ok (.ireturn, 1) := by decide +kernel
theorem dX11_count_112 : decode cX11_count 112 = .ok (.aload_n 0, 1) := by decide +kernel
theorem dX11_count_113 : decode cX11_count 113 = .ok (.getfield 10, 3) := by decide +kernel
theorem dX11_count_116 : decode cX11_count 116 = .ok (.getfield 187, 3) := by decide +kernel
theorem dX11_count_119 : decode cX11_count 119 = .ok (.ireturn, 1) := by decide +kernel
theorem dX11_count_120 : decode cX11_count 120 = .ok (.aload_n 0, 1) := by decide +kernel
theorem dX11_count_121 : decode cX11_count 121 = .ok (.getfield 10, 3) := by decide +kernel
theorem dX11_count_124 : decode cX11_count 124 = .ok (.getfield 226, 3) := by decide +kernel
theorem dX11_count_127 : decode cX11_count 127 = .ok (.getfield 277, 3) := by decide +kernel
theorem dX11_count_130 : decode cX11_count 130 = .ok (.ireturn, 1) := by decide +kernel
theorem dX11_count_131 : decode cX11_count 131 = .ok (.aload_n 0, 1) := by decide +kernel
theorem dX11_count_132 : decode cX11_count 132 = .ok (.getfield 10, 3) := by decide +kernel
theorem dX11_count_135 : decode cX11_count 135 = .ok (.getfield 226, 3) := by decide +kernel
theorem dX11_count_138 : decode cX11_count 138 = .ok (.getfield 280, 3) := by decide +kernel
theorem dX11_count_141 : decode cX11_count 141 = .ok (.ireturn, 1) := by decide +kernel
theorem dX11_count_142 : decode cX11_count 142 = .ok (.aload_n 0, 1) := by decide +kernel
theorem dX11_count_143 : decode cX11_count 143 = .ok (.getfield 10, 3) := by decide +kernel
theorem dX11_count_146 : decode cX11_count 146 = .ok (.getfield 226, 3) := by decide +kernel
theorem dX11_count_149 : decode cX11_count 149 = .ok (.getfield 283, 3) := by decide +kernel
theorem dX11_count_152 : decode cX11_count 152 = .ok (.ireturn, 1) := by decide +kernel
theorem dX11_count_153 : decode cX11_count 153 = .ok (.aload_n 0, 1) := by decide +kernel
theorem dX11_count_154 : decode cX11_count 154 = .ok (.getfield 10, 3) := by decide +kernel
theorem dX11_count_157 : decode cX11_count 157 = .ok (.getfield 257, 3) := by decide +kernel
theorem dX11_count_160 : decode cX11_count 160 = .ok (.getfield 286, 3) := by decide +kernel
theorem dX11_count_163 : decode cX11_count 163 = .ok (.ireturn, 1) := by decide +kernel
theorem dX11_count_164 : decode cX11_count 164 = .ok (.aload_n 0, 1) := by decide +kernel
theorem dX11_count_165 : decode cX11_count 165 = .ok (.getfield 10, 3) := by decide +kernel
theorem dX11_count_168 : decode cX11_count 168 = .ok (.getfield 265, 3) := by decide +kernel
theorem dX11_count_171 : decode cX11_count 171 = .ok (.getfield 286, 3) := by decide +kernel
theorem dX11_count_174 : decode cX11_count 174 = .ok (.ireturn, 1) := by decide +kernel
theorem dX11_count_175 : decode cX11_count 175 = .ok (.aload_n 0, 1) := by decide +kernel
theorem dX11_count_176 : decode cX11_count 176 = .ok (.getfield 42, 3) := by decide +kernel
theorem dX11_count_179 : decode cX11_count 179 = .ok (.invokevirtual 288, 3) := by decide +kernel
theorem dX11_count_182 : decode cX11_count 182 = .ok (.ireturn, 1) := by decide +kernel
theorem dX11_count_183 : decode cX11_count 183 = .ok (.aload_n 0, 1) := by decide +kernel
theorem dX11_count_184 : decode cX11_count 184 = .ok (.getfield 65, 3) := by decide +kernel
theorem dX11_count_187 : decode cX11_count 187 = .ok (.invokevirtual 190, 3) := by decide +kernel
theorem dX11_count_190 : decode cX11_count 190 = .ok (.ireturn, 1) := by decide +kernel
theorem dX11_count_191 : decode cX11_count 191 = .ok (.aload_n 0, 1) := by decide +kernel
theorem dX11_count_192 : decode cX11_count 192 = .ok (.getfield 33, 3) := by decide +kernel
theorem dX11_count_195 : decode cX11_count 195 = .ok (.invokevirtual 291, 3) := by decide +kernel
theorem dX11_count_198 : decode cX11_count 198 = .ok (.ireturn, 1) := by decide +kernel
theorem dX11_count_199 : decode cX11_count 199 = .ok (.iload_n 1, 1) := by decide +kernel
theorem dX11_count_200 : decode cX11_count 200 = .ok (.bipush 14, 2) := by decide +kernel
theorem dX11_count_202 : decode cX11_count 202 = .ok (.if_icmp .lt 21, 3) := by decide +kernel
theorem dX11_count_205 : decode cX11_count 205 = .ok (.iload_n 1, 1) := by decide +kernel
theorem dX11_count_206 : decode cX11_count 206 = .ok (.bipush 21, 2) := by decide +kernel
theorem dX11_count_208 : decode cX11_count 208 = .ok (.if_icmp .ge 15, 3) := by decide +kernel
theorem dX11_count_211 : decode cX11_count 211 = .ok (.aload_n 0, 1) := by decide +kernel
theorem dX11_count_212 : decode cX11_count 212 = .ok (.getfield 69, 3) := by decide +kernel
theorem dX11_count_215 : decode cX11_count 215 = .ok (.iload_n 1, 1) := by decide +kernel
theorem dX11_count_216 : decode cX11_count 216 = .ok (.bipush 14, 2) := by decide +kernel
theorem dX11_count_218 : decode cX11_count 218 = .ok (.isub, 1) := by decide +kernel
theorem dX11_count_219 : decode cX11_count 219 = .ok (.iaload, 1) := by decide +kernel
theorem dX11_count_220 : decode cX11_count 220 = .ok (.goto 4, 3) := by decide +kernel
theorem dX11_count_223 : decode cX11_count 223 = .ok (.iconst (-1), 1) := by decide +kernel
theorem dX11_count_224 : decode cX11_count 224 = .ok (.ireturn, 1) := by decide +kernel
theorem dX11_status_0 : decode cX11_status 0 = .ok (.aload_n 0, 1) := by decide +kernel
theorem dX11_status_1 : decode cX11_status 1 = .ok (.getfield 293, 3) := by decide +kernel
theorem dX11_status_4 : decode cX11_status 4 = .ok (.ireturn, 1) := by decide +kernel
theorem dX11_isValue_0 : decode cX11_isValue 0 = .ok (.iload_n 0, 1) := by decide +kernel
theorem dX11_isValue_1 : decode cX11_isValue 1 = .ok (.ifCond .lt 14, 3) := by decide +kernel
theorem dX11_isValue_4 : decode cX11_isValue 4 = .ok (.iload_n 0, 1) := by decide +kernel
theorem dX11_isValue_5 : decode cX11_isValue 5 = .ok (.ldc_w 296, 3) := by decide +kernel
theorem dX11_isValue_8 : decode cX11_isValue 8 = .ok (.if_icmp .ge 7, 3) := by decide +kernel
theorem dX11_isValue_11 : decode cX11_isValue 11 = .ok (.iconst 1, 1) := by decide +kernel
theorem dX11_isValue_12 : decode cX11_isValue 12 = .ok (.goto 4, 3) := by decide +kernel
theorem dX11_isValue_15 : decode cX11_isValue 15 = .ok (.iconst 0, 1) := by decide +kernel
theorem dX11_isValue_16 : decode cX11_isValue 16 = .ok (.ireturn, 1) := by decide +kernel
theorem dX11_isLine_0 : decode cX11_isLine 0 = .ok (.iload_n 0, 1) := by decide +kernel
theorem dX11_isLine_1 : decode cX11_isLine 1 = .ok (.ifCond .lt 13, 3) := by decide +kernel
theorem dX11_isLine_4 : decode cX11_isLine 4 = .ok (.iload_n 0, 1) := by decide +kernel
theorem dX11_isLine_5 : decode cX11_isLine 5 = .ok (.bipush 8, 2) := by decide +kernel
theorem dX11_isLine_7 : decode cX11_isLine 7 = .ok (.if_icmp .ge 7, 3) := by decide +kernel
theorem dX11_isLine_10 : decode cX11_isLine 10 = .ok (.iconst 1, 1) := by decide +kernel
theorem dX11_isLine_11 : decode cX11_isLine 11 = .ok (.goto 4, 3) := by decide +kernel
theorem dX11_isLine_14 : decode cX11_isLine 14 = .ok (.iconst 0, 1) := by decide +kernel
theorem dX11_isLine_15 : decode cX11_isLine 15 = .ok (.ireturn, 1) := by decide +kernel
theorem dX11_isRaised_0 : decode cX11_isRaised 0 = .ok (.aload_n 0, 1) := by decide +kernel
theorem dX11_isRaised_1 : decode cX11_isRaised 1 = .ok (.getfield 10, 3) := by decide +kernel
theorem dX11_isRaised_4 : decode cX11_isRaised 4 = .ok (.getfield 187, 3) := by decide +kernel
theorem dX11_isRaised_7 : decode cX11_isRaised 7 = .ok (.iload_n 1, 1) := by decide +kernel
theorem dX11_isRaised_8 : decode cX11_isRaised 8 = .ok (.ishr, 1) := by decide +kernel
theorem dX11_isRaised_9 : decode cX11_isRaised 9 = .ok (.iconst 1, 1) := by decide +kernel
theorem dX11_isRaised_10 : decode cX11_isRaised 10 = .ok (.iand, 1) := by decide +kernel
theorem dX11_isRaised_11 : decode cX11_isRaised 11 = .ok (.ifCond .eq 7, 3) := by decide +kernel
theorem dX11_isRaised_18 : decode cX11_isRaised 18 = .ok (.iconst 0, 1) := by decide +kernel
theorem dX11_isRaised_19 : decode cX11_isRaised 19 = .ok (.ireturn, 1) := by decide +kernel
set_option maxRecDepth 20000 in
theorem ggX11_refusalToRun_X11_isValue : GoodIn wsX11_refusalToRun wsX11_isValue := goodIn_r _ [7, 8] (by decide +kernel) (by decide +kernel)
set_option maxRecDepth 20000 in
theorem gX11_refusalToRun_X11_isValue : GoodIn wsX11_refusalToRun (va_wsS RX11 123 yX11_isValue wsX11_isValue) := goodIn_app (goodIn_of _ (by decide +kernel)) ggX11_refusalToRun_X11_isValue
set_option maxRecDepth 20000 in
theorem ggX11_refusalToRun_X10_is : GoodIn wsX11_refusalToRun wsX10_is := goodIn_r _ [13, 14, 15, 16, 17, 18, 12, 19, 20, 21, 50, 51, 52, 53, 54, 55, 56, 57, 58, 59, 60, 61, 62, 63, 64, 65, 33, 34, 35, 36, 37, 38, 39, 40, 41, 42, 43, 44, 45, 46, 47, 48, 49] (by decide +kernel) (by decide +kernel)
set_option maxRecDepth 20000 in
theorem gX11_refusalToRun_X10_is : GoodIn wsX11_refusalToRun (wsV RX11 85 RX10 yX10_is wsX10_is) := goodIn_app (goodIn_of _ (by decide +kernel)) ggX11_refusalToRun_X10_is
theorem dX11_refusalToRun_0 : decode cX11_refusalToRun 0 = .ok (.iload_n 2, 1) := by decide +kernel
theorem dX11_refusalToRun_1 : decode cX11_refusalToRun 1 = .ok (.invokestatic 123, 3) := by decide +kernel
theorem dX11_refusalToRun_4 : decode cX11_refusalToRun 4 = .ok (.ifCond .eq 18, 3) := by decide +kernel
theorem dX11_refusalToRun_7 : decode cX11_refusalToRun 7 = .ok (.iload_n 3, 1) := by decide +kernel
theorem dX11_refusalToRun_8 : decode cX11_refusalToRun 8 = .ok (.invokestatic 123, 3) := by decide +kernel
theorem dX11_refusalToRun_11 : decode cX11_refusalToRun 11 = .ok (.ifCond .eq 11, 3) := by decide +kernel
theorem dX11_refusalToRun_14 : decode cX11_refusalToRun 14 = .ok (.iload 4, 2) := by decide +kernel
theorem dX11_refusalToRun_16 : decode cX11_refusalToRun 16 = .ok (.invokestatic 123, 3) := by decide +kernel
theorem dX11_refusalToRun_19 : decode cX11_refusalToRun 19 = .ok (.ifCond .ne 5, 3) := by decide +kernel
theorem dX11_refusalToRun_22 : decode cX11_refusalToRun 22 = .ok (.iconst (-1), 1) := by decide +kernel
theorem dX11_refusalToRun_23 : decode cX11_refusalToRun 23 = .ok (.ireturn, 1) := by decide +kernel
theorem dX11_refusalToRun_24 : decode cX11_refusalToRun 24 = .ok (.aload_n 0, 1) := by decide +kernel
theorem dX11_refusalToRun_25 : decode cX11_refusalToRun 25 = .ok (.getfield 24, 3) := by decide +kernel
theorem dX11_refusalToRun_28 : decode cX11_refusalToRun 28 = .ok (.iload_n 1, 1) := by decide +kernel
theorem dX11_refusalToRun_29 : decode cX11_refusalToRun 29 = .ok (.iconst 3, 1) := by decide +kernel
theorem dX11_refusalToRun_30 : decode cX11_refusalToRun 30 = .ok (.invokevirtual 85, 3) := by decide +kernel
theorem dX11_refusalToRun_33 : decode cX11_refusalToRun 33 = .ok (.ifCond .ne 6, 3) := by decide +kernel
theorem dX11_refusalToRun_36 : decode cX11_refusalToRun 36 = .ok (.bipush (-2), 2) := by decide +kernel
theorem dX11_refusalToRun_38 : decode cX11_refusalToRun 38 = .ok (.ireturn, 1) := by decide +kernel
set_option maxRecDepth 20000 in
theorem ggX11_refusalToChange_X10_is : GoodIn wsX11_refusalToChange wsX10_is := goodIn_r _ [8, 9, 10, 11, 12, 13, 7, 14, 15, 16, 45, 46, 47, 48, 49, 50, 51, 52, 53, 54, 55, 56, 57, 58, 59, 60, 28, 29, 30, 31, 32, 33, 34, 35, 36, 37, 38, 39, 40, 41, 42, 43, 44] (by decide +kernel) (by decide +kernel)
set_option maxRecDepth 20000 in
theorem gX11_refusalToChange_X10_is : GoodIn wsX11_refusalToChange (wsV RX11 85 RX10 yX10_is wsX10_is) := goodIn_app (goodIn_of _ (by decide +kernel)) ggX11_refusalToChange_X10_is
theorem dX11_refusalToChange_0 : decode cX11_refusalToChange 0 = .ok (.iload_n 1, 1) := by decide +kernel
theorem dX11_refusalToChange_1 : decode cX11_refusalToChange 1 = .ok (.ifCond .eq 15, 3) := by decide +kernel
theorem dX11_refusalToChange_4 : decode cX11_refusalToChange 4 = .ok (.aload_n 0, 1) := by decide +kernel
theorem dX11_refusalToChange_5 : decode cX11_refusalToChange 5 = .ok (.getfield 24, 3) := by decide +kernel
theorem dX11_refusalToChange_8 : decode cX11_refusalToChange 8 = .ok (.iload_n 1, 1) := by decide +kernel
theorem dX11_refusalToChange_9 : decode cX11_refusalToChange 9 = .ok (.iconst 1, 1) := by decide +kernel
theorem dX11_refusalToChange_10 : decode cX11_refusalToChange 10 = .ok (.invokevirtual 85, 3) := by decide +kernel
theorem dX11_refusalToChange_13 : decode cX11_refusalToChange 13 = .ok (.ifCond .ne 6, 3) := by decide +kernel
theorem dX11_refusalToChange_16 : decode cX11_refusalToChange 16 = .ok (.bipush (-2), 2) := by decide +kernel
theorem dX11_refusalToChange_18 : decode cX11_refusalToChange 18 = .ok (.ireturn, 1) := by decide +kernel
set_option maxRecDepth 20000 in
theorem ggX11_refusalToPower_X11_refusalToChange : GoodIn wsX11_refusalToPower wsX11_refusalToChange := goodIn_r _ [11, 3, 1, 12, 13, 14, 15, 16, 17, 18, 19, 20, 21, 22, 23, 24, 25, 67, 68, 69, 70, 71, 72, 73, 74, 75, 76, 77, 78, 79, 80, 81, 82, 83, 84, 85, 86, 87, 88, 89, 90, 91, 92, 93, 94, 95, 96, 97, 98, 99, 100, 101, 102, 103, 104, 105, 106, 107, 108, 109, 110] (by decide +kernel) (by decide +kernel)
set_option maxRecDepth 20000 in
theorem gX11_refusalToPower_X11_refusalToChange : GoodIn wsX11_refusalToPower (wsV RX11 157 RX11 yX11_refusalToChange wsX11_refusalToChange) := goodIn_app (goodIn_of _ (by decide +kernel)) ggX11_refusalToPower_X11_refusalToChange
theorem dX11_refusalToPower_0 : decode cX11_refusalToPower 0 = .ok (.iload_n 2, 1) := by decide +kernel
theorem dX11_refusalToPower_1 : decode cX11_refusalToPower 1 = .ok (.ifCond .lt 8, 3) := by decide +kernel
theorem dX11_refusalToPower_4 : decode cX11_refusalToPower 4 = .ok (.iload_n 2, 1) := by decide +kernel
theorem dX11_refusalToPower_5 : decode cX11_refusalToPower 5 = .ok (.iconst 3, 1) := by decide +kernel
theorem dX11_refusalToPower_6 : decode cX11_refusalToPower 6 = .ok (.if_icmp .le 5, 3) := by decide +kernel
theorem dX11_refusalToPower_9 : decode cX11_refusalToPower 9 = .ok (.iconst (-1), 1) := by decide +kernel
theorem dX11_refusalToPower_10 : decode cX11_refusalToPower 10 = .ok (.ireturn, 1) := by decide +kernel
theorem dX11_refusalToPower_11 : decode cX11_refusalToPower 11 = .ok (.aload_n 0, 1) := by decide +kernel
theorem dX11_refusalToPower_12 : decode cX11_refusalToPower 12 = .ok (.iload_n 1, 1) := by decide +kernel
theorem dX11_refusalToPower_13 : decode cX11_refusalToPower 13 = .ok (.invokevirtual 157, 3) := by decide +kernel
theorem dX11_refusalToPower_16 : decode cX11_refusalToPower 16 = .ok (.istore_n 3, 1) := by decide +kernel
theorem dX11_refusalToPower_17 : decode cX11_refusalToPower 17 = .ok (.iload_n 3, 1) := by decide +kernel
theorem dX11_refusalToPower_18 : decode cX11_refusalToPower 18 = .ok (.ifCond .eq 5, 3) := by decide +kernel
theorem dX11_refusalToPower_21 : decode cX11_refusalToPower 21 = .ok (.iload_n 3, 1) := by decide +kernel
theorem dX11_refusalToPower_22 : decode cX11_refusalToPower 22 = .ok (.ireturn, 1) := by decide +kernel
set_option maxRecDepth 20000 in
theorem ggX11_refusalToRest_X7_obstacle : GoodIn wsX11_refusalToRest wsX7_obstacle := goodIn_r _ [8, 9, 10, 11, 12, 13, 14, 15, 16, 17, 18, 7, 19, 20, 21, 22, 23, 24, 25, 26, 27, 28, 29, 30, 31, 32, 33, 34, 35, 36, 37, 38, 39, 40, 41, 42, 43, 44, 73, 74, 75, 76, 77, 56, 57, 58, 59, 60, 61, 62, 63, 64, 65, 66, 67, 68, 69, 70, 71, 72, 78, 79, 80, 81, 82, 83, 84, 85, 86, 87, 88, 89, 90, 91, 92, 93] (by decide +kernel) (by decide +kernel)
set_option maxRecDepth 20000 in
theorem gX11_refusalToRest_X7_obstacle : GoodIn wsX11_refusalToRest (wsV RX11 239 RX7 yX7_obstacle wsX7_obstacle) := goodIn_app (goodIn_of _ (by decide +kernel)) ggX11_refusalToRest_X7_obstacle
theorem dX11_refusalToRest_0 : decode cX11_refusalToRest 0 = .ok (.iload_n 1, 1) := by decide +kernel
theorem dX11_refusalToRest_1 : decode cX11_refusalToRest 1 = .ok (.iconst 1, 1) := by decide +kernel
theorem dX11_refusalToRest_2 : decode cX11_refusalToRest 2 = .ok (.if_icmp .lt 8, 3) := by decide +kernel
theorem dX11_refusalToRest_5 : decode cX11_refusalToRest 5 = .ok (.iload_n 1, 1) := by decide +kernel
theorem dX11_refusalToRest_6 : decode cX11_refusalToRest 6 = .ok (.iconst 4, 1) := by decide +kernel
theorem dX11_refusalToRest_7 : decode cX11_refusalToRest 7 = .ok (.if_icmp .le 5, 3) := by decide +kernel
theorem dX11_refusalToRest_10 : decode cX11_refusalToRest 10 = .ok (.iconst (-1), 1) := by decide +kernel
theorem dX11_refusalToRest_11 : decode cX11_refusalToRest 11 = .ok (.ireturn, 1) := by decide +kernel
theorem dX11_refusalToRest_12 : decode cX11_refusalToRest 12 = .ok (.aload_n 0, 1) := by decide +kernel
theorem dX11_refusalToRest_13 : decode cX11_refusalToRest 13 = .ok (.getfield 10, 3) := by decide +kernel
theorem dX11_refusalToRest_16 : decode cX11_refusalToRest 16 = .ok (.getfield 92, 3) := by decide +kernel
theorem dX11_refusalToRest_19 : decode cX11_refusalToRest 19 = .ok (.ifCond .eq 6, 3) := by decide +kernel
theorem dX11_refusalToRest_25 : decode cX11_refusalToRest 25 = .ok (.aload_n 0, 1) := by decide +kernel
theorem dX11_refusalToRest_26 : decode cX11_refusalToRest 26 = .ok (.getfield 58, 3) := by decide +kernel
theorem dX11_refusalToRest_29 : decode cX11_refusalToRest 29 = .ok (.iload_n 1, 1) := by decide +kernel
theorem dX11_refusalToRest_30 : decode cX11_refusalToRest 30 = .ok (.invokevirtual 239, 3) := by decide +kernel
theorem dX11_refusalToRest_33 : decode cX11_refusalToRest 33 = .ok (.ifCond .eq 8, 3) := by decide +kernel
theorem dX11_refusalToRest_36 : decode cX11_refusalToRest 36 = .ok (.bipush (-4), 2) := by decide +kernel
theorem dX11_refusalToRest_38 : decode cX11_refusalToRest 38 = .ok (.goto 4, 3) := by decide +kernel
theorem dX11_refusalToRest_42 : decode cX11_refusalToRest 42 = .ok (.ireturn, 1) := by decide +kernel
set_option maxRecDepth 20000 in
theorem ggX11_ofItsKind_X11_ofDevice : GoodIn wsX11_ofItsKind wsX11_ofDevice := goodIn_r _ [14, 4, 15, 16, 17, 65, 66, 67, 68, 69, 70, 71, 72, 73, 74, 75, 76, 77, 78, 79, 80, 81, 82, 83, 84, 85, 86, 87, 88, 89, 90, 91, 92] (by decide +kernel) (by decide +kernel)
set_option maxRecDepth 20000 in
theorem gX11_ofItsKind_X11_ofDevice : GoodIn wsX11_ofItsKind (wsV RX11 315 RX11 yX11_ofDevice wsX11_ofDevice) := goodIn_app (goodIn_of _ (by decide +kernel)) ggX11_ofItsKind_X11_ofDevice
theorem dX11_ofItsKind_0 : decode cX11_ofItsKind 0 = .ok (.aload_n 2, 1) := by decide +kernel
theorem dX11_ofItsKind_1 : decode cX11_ofItsKind 1 = .ok (.getfield 202, 3) := by decide +kernel
theorem dX11_ofItsKind_4 : decode cX11_ofItsKind 4 = .ok (.tableswitch 180 1 7 #[44, 51, 94, 122, 141, 152, 160], 44) := by decide +kernel
theorem dX11_ofItsKind_48 : decode cX11_ofItsKind 48 = .ok (.aload_n 0, 1) := by decide +kernel
theorem dX11_ofItsKind_49 : decode cX11_ofItsKind 49 = .ok (.iload_n 1, 1) := by decide +kernel
theorem dX11_ofItsKind_50 : decode cX11_ofItsKind 50 = .ok (.iload_n 3, 1) := by decide +kernel
theorem dX11_ofItsKind_51 : decode cX11_ofItsKind 51 = .ok (.invokevirtual 315, 3) := by decide +kernel
theorem dX11_ofItsKind_54 : decode cX11_ofItsKind 54 = .ok (.ireturn, 1) := by decide +kernel
theorem dX11_ofDevice_0 : decode cX11_ofDevice 0 = .ok (.iload_n 2, 1) := by decide +kernel
theorem dX11_ofDevice_1 : decode cX11_ofDevice 1 = .ok (.tableswitch 97 30 33 #[31, 41, 60, 70], 31) := by decide +kernel
theorem dX11_ofDevice_32 : decode cX11_ofDevice 32 = .ok (.aload_n 0, 1) := by decide +kernel
theorem dX11_ofDevice_33 : decode cX11_ofDevice 33 = .ok (.getfield 10, 3) := by decide +kernel
theorem dX11_ofDevice_36 : decode cX11_ofDevice 36 = .ok (.getfield 143, 3) := by decide +kernel
theorem dX11_ofDevice_39 : decode cX11_ofDevice 39 = .ok (.iload_n 1, 1) := by decide +kernel
theorem dX11_ofDevice_40 : decode cX11_ofDevice 40 = .ok (.iaload, 1) := by decide +kernel
theorem dX11_ofDevice_41 : decode cX11_ofDevice 41 = .ok (.ireturn, 1) := by decide +kernel
theorem dX11_ofDevice_42 : decode cX11_ofDevice 42 = .ok (.aload_n 0, 1) := by decide +kernel
theorem dX11_ofDevice_43 : decode cX11_ofDevice 43 = .ok (.getfield 10, 3) := by decide +kernel
theorem dX11_ofDevice_46 : decode cX11_ofDevice 46 = .ok (.getfield 160, 3) := by decide +kernel
theorem dX11_ofDevice_49 : decode cX11_ofDevice 49 = .ok (.iload_n 1, 1) := by decide +kernel
theorem dX11_ofDevice_50 : decode cX11_ofDevice 50 = .ok (.iaload, 1) := by decide +kernel
theorem dX11_ofDevice_51 : decode cX11_ofDevice 51 = .ok (.iconst (-1), 1) := by decide +kernel
theorem dX11_ofDevice_52 : decode cX11_ofDevice 52 = .ok (.if_icmp .ne 7, 3) := by decide +kernel
theorem dX11_ofDevice_55 : decode cX11_ofDevice 55 = .ok (.iconst 0, 1) := by decide +kernel
theorem dX11_ofDevice_56 : decode cX11_ofDevice 56 = .ok (.goto 4, 3) := by decide +kernel
theorem dX11_ofDevice_60 : decode cX11_ofDevice 60 = .ok (.ireturn, 1) := by decide +kernel
theorem dX11_ofDevice_61 : decode cX11_ofDevice 61 = .ok (.aload_n 0, 1) := by decide +kernel
theorem dX11_ofDevice_62 : decode cX11_ofDevice 62 = .ok (.getfield 10, 3) := by decide +kernel
theorem dX11_ofDevice_65 : decode cX11_ofDevice 65 = .ok (.getfield 160, 3) := by decide +kernel
theorem dX11_ofDevice_68 : decode cX11_ofDevice 68 = .ok (.iload_n 1, 1) := by decide +kernel
theorem dX11_ofDevice_69 : decode cX11_ofDevice 69 = .ok (.iaload, 1) := by decide +kernel
theorem dX11_ofDevice_70 : decode cX11_ofDevice 70 = .ok (.ireturn, 1) := by decide +kernel
theorem dX11_ofDevice_71 : decode cX11_ofDevice 71 = .ok (.aload_n 0, 1) := by decide +kernel
theorem dX11_ofDevice_72 : decode cX11_ofDevice 72 = .ok (.getfield 10, 3) := by decide +kernel
theorem dX11_ofDevice_75 : decode cX11_ofDevice 75 = .ok (.getfield 160, 3) := by decide +kernel
theorem dX11_ofDevice_78 : decode cX11_ofDevice 78 = .ok (.iload_n 1, 1) := by decide +kernel
theorem dX11_ofDevice_79 : decode cX11_ofDevice 79 = .ok (.iaload, 1) := by decide +kernel
theorem dX11_ofDevice_80 : decode cX11_ofDevice 80 = .ok (.iconst (-1), 1) := by decide +kernel
theorem dX11_ofDevice_81 : decode cX11_ofDevice 81 = .ok (.if_icmp .ne 7, 3) := by decide +kernel
theorem dX11_ofDevice_84 : decode cX11_ofDevice 84 = .ok (.iconst (-1), 1) := by decide +kernel
theorem dX11_ofDevice_85 : decode cX11_ofDevice 85 = .ok (.goto 12, 3) := by decide +kernel
theorem dX11_ofDevice_97 : decode cX11_ofDevice 97 = .ok (.ireturn, 1) := by decide +kernel
theorem dX11_ofDevice_98 : decode cX11_ofDevice 98 = .ok (.iconst (-1), 1) := by decide +kernel
theorem dX11_ofDevice_99 : decode cX11_ofDevice 99 = .ok (.ireturn, 1) := by decide +kernel
abbrev vwCl : List vw_C := [(RX0, TX0, 13), (RX1, TX1, 5), (RX2, TX2, 4), (RX3, TX3, 10), (RX4, TX4, 14), (RX5, TX5, 4), (RX6, TX6, 4), (RX7, TX7, 5), (RX8, TX8, 17), (RX9, TX9, 15), (RX10, TX10, 2), (RX11, TX11, 11), (RX12, TX12, 59)]
