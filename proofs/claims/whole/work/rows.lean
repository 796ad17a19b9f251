section
/-! ===== BEGIN words of one list among another's, by their places ===== -/
theorem goodIn_r {big : List Cond} (ws : List Cond) (ps : List Nat) (hp : ws = ps.filterMap (fun i => big[i]?)) (h : ws.all goodWord = true) : GoodIn big ws := by
  intro w hw
  have h1 := List.all_eq_true.mp h w hw
  rw [hp] at hw
  obtain ⟨i, -, hi⟩ := List.mem_filterMap.mp hw
  have hm : w ∈ big := by first | exact List.mem_of_getElem? hi | exact List.getElem?_mem hi
  exact ⟨hm, good_of_word h1⟩
theorem goodIn_app {big a b : List Cond} (ha : GoodIn big a) (hb : GoodIn big b) : GoodIn big (a ++ b) := fun w h => (List.mem_append.mp h).elim (ha w) (hb w)
theorem goodIn_ca {big a b : List Cond} {c : Cond} (ha : GoodIn big (c :: a)) (hb : GoodIn big b) : GoodIn big (c :: (a ++ b)) := fun w h => (List.mem_cons.mp h).elim (fun e => ha w (List.mem_cons.mpr (Or.inl e))) (fun h => (List.mem_append.mp h).elim (fun h => ha w (List.mem_cons.mpr (Or.inr h))) (hb w))
theorem goodIn_sub {big ws : List Cond} (hm : ∀ w ∈ ws, w ∈ big) (h : ws.all goodWord = true) : GoodIn big ws := fun w hw => ⟨hm w hw, good_of_word (List.all_eq_true.mp h w hw)⟩
/-! ===== END ===== -/
/-! ===== BEGIN printed: names, fields, word lists, decode rows ===== -/
def RX0 : String := "HandsHall$Hands"
def TX0 : u_T := fun k => match k with
  | 0 => ("HandsHall$Hands", "count", "I", false)
  | 1 => ("HandsHall$Hands", "out", "[Z", true)
  | 2 => ("HandsHall$Hands", "version", "[I", true)
  | _ => ("HandsHall$Hands", "said", "[[I", true)
def tyX0 : Nat → FieldType := fun k => match k with
  | 0 => .int
  | 1 => .array .boolean
  | 2 => .array .int
  | _ => .array (.array .int)
abbrev wsX00 : List Cond := u_ws RX0 TX0 4
theorem nmX0 : ∀ a, a < 4 → ∀ b, b < 4 → a ≠ b → (TX0 a).2.1 ≠ (TX0 b).2.1 := by decide +kernel
theorem tyX0_ok : ∀ k, k < 4 → parseFieldDescriptor (TX0 k).2.2.1 = some (tyX0 k) := by decide +kernel
abbrev cX0_init : ByteArray := prog_2_method_1_code
def yX0_init : MethodName := ⟨RX0, "<init>", "()V"⟩
abbrev cX0_has : ByteArray := prog_2_method_2_code
def yX0_has : MethodName := ⟨RX0, "has", "(I)Z"⟩
abbrev cX0_add : ByteArray := prog_2_method_3_code
def yX0_add : MethodName := ⟨RX0, "add", "()I"⟩
abbrev cX0_counts : ByteArray := prog_2_method_4_code
def yX0_counts : MethodName := ⟨RX0, "counts", "(II)Z"⟩
abbrev cX0_anySaid : ByteArray := prog_2_method_5_code
def yX0_anySaid : MethodName := ⟨RX0, "anySaid", "(I)Z"⟩
abbrev cX0_countTo : ByteArray := prog_2_method_6_code
def yX0_countTo : MethodName := ⟨RX0, "countTo", "(I)I"⟩
abbrev cX0_countWith : ByteArray := prog_2_method_7_code
def yX0_countWith : MethodName := ⟨RX0, "countWith", "(II)I"⟩
def RX1 : String := "HandsHall$Items"
def TX1 : u_T := fun k => match k with
  | 0 => ("HandsHall$Items", "count", "I", false)
  | 1 => ("HandsHall$Items", "step", "[I", true)
  | 2 => ("HandsHall$Items", "thing", "[I", true)
  | 3 => ("HandsHall$Items", "labels", "[I", true)
  | 4 => ("HandsHall$Items", "known", "[I", true)
  | 5 => ("HandsHall$Items", "settled", "[I", true)
  | _ => ("HandsHall$Items", "parts", "[I", true)
def tyX1 : Nat → FieldType := fun k => match k with
  | 0 => .int
  | 1 => .array .int
  | 2 => .array .int
  | 3 => .array .int
  | 4 => .array .int
  | 5 => .array .int
  | _ => .array .int
abbrev wsX10 : List Cond := u_ws RX1 TX1 7
theorem nmX1 : ∀ a, a < 7 → ∀ b, b < 7 → a ≠ b → (TX1 a).2.1 ≠ (TX1 b).2.1 := by decide +kernel
theorem tyX1_ok : ∀ k, k < 7 → parseFieldDescriptor (TX1 k).2.2.1 = some (tyX1 k) := by decide +kernel
abbrev cX1_init : ByteArray := prog_3_method_1_code
def yX1_init : MethodName := ⟨RX1, "<init>", "()V"⟩
abbrev cX1_has : ByteArray := prog_3_method_2_code
def yX1_has : MethodName := ⟨RX1, "has", "(I)Z"⟩
abbrev cX1_hasLabel : ByteArray := prog_3_method_3_code
def yX1_hasLabel : MethodName := ⟨RX1, "hasLabel", "(II)Z"⟩
abbrev cX1_find : ByteArray := prog_3_method_4_code
def yX1_find : MethodName := ⟨RX1, "find", "(II)I"⟩
abbrev cX1_add : ByteArray := prog_3_method_5_code
def yX1_add : MethodName := ⟨RX1, "add", "(III)I"⟩
abbrev cX1_isFree : ByteArray := prog_3_method_6_code
def yX1_isFree : MethodName := ⟨RX1, "isFree", "(I)Z"⟩
abbrev cX1_given : ByteArray := prog_3_method_7_code
def yX1_given : MethodName := ⟨RX1, "given", "(I)I"⟩
def RX2 : String := "HandsHall$Joining"
def TX2 : u_T := fun k => match k with
  | 0 => ("HandsHall$Joining", "shares", "[[I", true)
  | 1 => ("HandsHall$Joining", "numbers", "[[I", true)
  | 2 => ("HandsHall$Joining", "items", "LHandsHall$Items;", true)
  | 3 => ("HandsHall$Joining", "hands", "LHandsHall$Hands;", true)
  | 4 => ("HandsHall$Joining", "rules", "LHandsHall$Rules;", true)
  | 5 => ("HandsHall$Joining", "sums", "[J", true)
  | 6 => ("HandsHall$Joining", "fresh", "[J", true)
  | 7 => ("HandsHall$Joining", "weighed", "[J", true)
  | _ => ("HandsHall$Joining", "keptEnds", "[I", true)
def tyX2 : Nat → FieldType := fun k => match k with
  | 0 => .array (.array .int)
  | 1 => .array (.array .int)
  | 2 => .object "HandsHall$Items"
  | 3 => .object "HandsHall$Hands"
  | 4 => .object "HandsHall$Rules"
  | 5 => .array .long
  | 6 => .array .long
  | 7 => .array .long
  | _ => .array .int
abbrev wsX20 : List Cond := u_ws RX2 TX2 9
theorem nmX2 : ∀ a, a < 9 → ∀ b, b < 9 → a ≠ b → (TX2 a).2.1 ≠ (TX2 b).2.1 := by decide +kernel
theorem tyX2_ok : ∀ k, k < 9 → parseFieldDescriptor (TX2 k).2.2.1 = some (tyX2 k) := by decide +kernel
abbrev cX2_init : ByteArray := prog_4_method_1_code
def yX2_init : MethodName := ⟨RX2, "<init>", "(LHandsHall$Items;LHandsHall$Hands;LHandsHall$Rules;)V"⟩
abbrev cX2_spot : ByteArray := prog_4_method_2_code
def yX2_spot : MethodName := ⟨RX2, "spot", "(III)I"⟩
abbrev cX2_run : ByteArray := prog_4_method_3_code
def yX2_run : MethodName := ⟨RX2, "run", "()I"⟩
abbrev cX2_startAlike : ByteArray := prog_4_method_4_code
def yX2_startAlike : MethodName := ⟨RX2, "startAlike", "(I)V"⟩
abbrev cX2_startGiven : ByteArray := prog_4_method_5_code
def yX2_startGiven : MethodName := ⟨RX2, "startGiven", "(I)V"⟩
abbrev cX2_startByAnswers : ByteArray := prog_4_method_6_code
def yX2_startByAnswers : MethodName := ⟨RX2, "startByAnswers", "(I)V"⟩
abbrev cX2_startShares : ByteArray := prog_4_method_7_code
def yX2_startShares : MethodName := ⟨RX2, "startShares", "(I)V"⟩
abbrev cX2_sumSaid : ByteArray := prog_4_method_8_code
def yX2_sumSaid : MethodName := ⟨RX2, "sumSaid", "(I)V"⟩
abbrev cX2_fillTables : ByteArray := prog_4_method_9_code
def yX2_fillTables : MethodName := ⟨RX2, "fillTables", "(I)V"⟩
abbrev cX2_fillLine : ByteArray := prog_4_method_10_code
def yX2_fillLine : MethodName := ⟨RX2, "fillLine", "(III)V"⟩
abbrev cX2_renewAll : ByteArray := prog_4_method_11_code
def yX2_renewAll : MethodName := ⟨RX2, "renewAll", "()I"⟩
abbrev cX2_weighAnswers : ByteArray := prog_4_method_12_code
def yX2_weighAnswers : MethodName := ⟨RX2, "weighAnswers", "(I)V"⟩
abbrev cX2_weigh : ByteArray := prog_4_method_13_code
def yX2_weigh : MethodName := ⟨RX2, "weigh", "(III)V"⟩
abbrev cX2_takeFresh : ByteArray := prog_4_method_14_code
def yX2_takeFresh : MethodName := ⟨RX2, "takeFresh", "(I)I"⟩
abbrev cX2_greatest : ByteArray := prog_4_method_15_code
def yX2_greatest : MethodName := ⟨RX2, "greatest", "(I)I"⟩
abbrev cX2_helpOf : ByteArray := prog_4_method_16_code
def yX2_helpOf : MethodName := ⟨RX2, "helpOf", "(II)I"⟩
abbrev cX2_keepEnds : ByteArray := prog_4_method_17_code
def yX2_keepEnds : MethodName := ⟨RX2, "keepEnds", "()V"⟩
abbrev cX2_endsUnlikeKept : ByteArray := prog_4_method_18_code
def yX2_endsUnlikeKept : MethodName := ⟨RX2, "endsUnlikeKept", "()I"⟩
def RX3 : String := "HandsHall$Odds"
def TX3 : u_T := fun k => match k with
  | 0 => ("HandsHall$Odds", "draws", "I", false)
  | 1 => ("HandsHall$Odds", "upper", "J", false)
  | 2 => ("HandsHall$Odds", "lower", "J", false)
  | _ => ("HandsHall$Odds", "ways", "[J", true)
def tyX3 : Nat → FieldType := fun k => match k with
  | 0 => .int
  | 1 => .long
  | 2 => .long
  | _ => .array .long
abbrev wsX30 : List Cond := u_ws RX3 TX3 4
theorem nmX3 : ∀ a, a < 4 → ∀ b, b < 4 → a ≠ b → (TX3 a).2.1 ≠ (TX3 b).2.1 := by decide +kernel
theorem tyX3_ok : ∀ k, k < 4 → parseFieldDescriptor (TX3 k).2.2.1 = some (tyX3 k) := by decide +kernel
abbrev cX3_init : ByteArray := prog_5_method_1_code
def yX3_init : MethodName := ⟨RX3, "<init>", "()V"⟩
abbrev cX3_part : ByteArray := prog_5_method_2_code
def yX3_part : MethodName := ⟨RX3, "part", "(I)J"⟩
abbrev cX3_begin : ByteArray := prog_5_method_3_code
def yX3_begin : MethodName := ⟨RX3, "begin", "()V"⟩
abbrev cX3_draw : ByteArray := prog_5_method_4_code
def yX3_draw : MethodName := ⟨RX3, "draw", "(I)V"⟩
abbrev cX3_hitAtLeast : ByteArray := prog_5_method_5_code
def yX3_hitAtLeast : MethodName := ⟨RX3, "hitAtLeast", "(I)V"⟩
abbrev cX3_dealtAtLeast : ByteArray := prog_5_method_6_code
def yX3_dealtAtLeast : MethodName := ⟨RX3, "dealtAtLeast", "(IIII)V"⟩
abbrev cX3_reduce : ByteArray := prog_5_method_7_code
def yX3_reduce : MethodName := ⟨RX3, "reduce", "(JJ)V"⟩
abbrev cX3_choose : ByteArray := prog_5_method_8_code
def yX3_choose : MethodName := ⟨RX3, "choose", "(II)J"⟩
abbrev cX3_power : ByteArray := prog_5_method_9_code
def yX3_power : MethodName := ⟨RX3, "power", "(II)J"⟩
abbrev cX3_greaterPart : ByteArray := prog_5_method_10_code
def yX3_greaterPart : MethodName := ⟨RX3, "greaterPart", "(II)J"⟩
def RX4 : String := "HandsHall$Pay"
def TX4 : u_T := fun k => match k with
  | 0 => ("HandsHall$Pay", "right", "[I", true)
  | _ => ("HandsHall$Pay", "wrong", "[I", true)
def tyX4 : Nat → FieldType := fun k => match k with
  | 0 => .array .int
  | _ => .array .int
abbrev wsX40 : List Cond := u_ws RX4 TX4 2
theorem nmX4 : ∀ a, a < 2 → ∀ b, b < 2 → a ≠ b → (TX4 a).2.1 ≠ (TX4 b).2.1 := by decide +kernel
theorem tyX4_ok : ∀ k, k < 2 → parseFieldDescriptor (TX4 k).2.2.1 = some (tyX4 k) := by decide +kernel
abbrev cX4_init : ByteArray := prog_6_method_1_code
def yX4_init : MethodName := ⟨RX4, "<init>", "()V"⟩
abbrev cX4_allows : ByteArray := prog_6_method_2_code
def yX4_allows : MethodName := ⟨RX4, "allows", "(I)Z"⟩
abbrev cX4_brings : ByteArray := prog_6_method_3_code
def yX4_brings : MethodName := ⟨RX4, "brings", "(II)I"⟩
abbrev cX4_bestSaying : ByteArray := prog_6_method_4_code
def yX4_bestSaying : MethodName := ⟨RX4, "bestSaying", "(I)I"⟩
abbrev cX4_firstUntrue : ByteArray := prog_6_method_5_code
def yX4_firstUntrue : MethodName := ⟨RX4, "firstUntrue", "()I"⟩
def RX5 : String := "HandsHall$Rules"
def TX5 : u_T := fun k => match k with
  | _ => ("HandsHall$Rules", "value", "[I", true)
def tyX5 : Nat → FieldType := fun k => match k with
  | _ => .array .int
abbrev wsX50 : List Cond := u_ws RX5 TX5 1
theorem nmX5 : ∀ a, a < 1 → ∀ b, b < 1 → a ≠ b → (TX5 a).2.1 ≠ (TX5 b).2.1 := by decide +kernel
theorem tyX5_ok : ∀ k, k < 1 → parseFieldDescriptor (TX5 k).2.2.1 = some (tyX5 k) := by decide +kernel
abbrev cX5_init : ByteArray := prog_7_method_1_code
def yX5_init : MethodName := ⟨RX5, "<init>", "()V"⟩
abbrev cX5_allows : ByteArray := prog_7_method_2_code
def yX5_allows : MethodName := ⟨RX5, "allows", "(II)Z"⟩
def RX6 : String := "HandsHall$Steps"
def TX6 : u_T := fun k => match k with
  | 0 => ("HandsHall$Steps", "count", "I", false)
  | 1 => ("HandsHall$Steps", "name", "[I", true)
  | 2 => ("HandsHall$Steps", "labels", "[I", true)
  | 3 => ("HandsHall$Steps", "needs", "[I", true)
  | _ => ("HandsHall$Steps", "number", "[I", true)
def tyX6 : Nat → FieldType := fun k => match k with
  | 0 => .int
  | 1 => .array .int
  | 2 => .array .int
  | 3 => .array .int
  | _ => .array .int
abbrev wsX60 : List Cond := u_ws RX6 TX6 5
theorem nmX6 : ∀ a, a < 5 → ∀ b, b < 5 → a ≠ b → (TX6 a).2.1 ≠ (TX6 b).2.1 := by decide +kernel
theorem tyX6_ok : ∀ k, k < 5 → parseFieldDescriptor (TX6 k).2.2.1 = some (tyX6 k) := by decide +kernel
abbrev cX6_init : ByteArray := prog_8_method_1_code
def yX6_init : MethodName := ⟨RX6, "<init>", "()V"⟩
abbrev cX6_has : ByteArray := prog_8_method_2_code
def yX6_has : MethodName := ⟨RX6, "has", "(I)Z"⟩
abbrev cX6_named : ByteArray := prog_8_method_3_code
def yX6_named : MethodName := ⟨RX6, "named", "(II)I"⟩
abbrev cX6_add : ByteArray := prog_8_method_4_code
def yX6_add : MethodName := ⟨RX6, "add", "(I)V"⟩
abbrev cX6_copy : ByteArray := prog_8_method_5_code
def yX6_copy : MethodName := ⟨RX6, "copy", "(LHandsHall$Steps;)V"⟩
def RX7 : String := "HandsHall$Text"
def TX7 : u_T := fun k => match k with
  | 0 => ("HandsHall$Text", "count", "I", false)
  | 1 => ("HandsHall$Text", "draft", "LHandsHall$Steps;", true)
  | 2 => ("HandsHall$Text", "signs", "[I", true)
  | 3 => ("HandsHall$Text", "stage", "I", false)
  | 4 => ("HandsHall$Text", "current", "I", false)
  | 5 => ("HandsHall$Text", "latestNeed", "I", false)
  | _ => ("HandsHall$Text", "digits", "I", false)
def tyX7 : Nat → FieldType := fun k => match k with
  | 0 => .int
  | 1 => .object "HandsHall$Steps"
  | 2 => .array .int
  | 3 => .int
  | 4 => .int
  | 5 => .int
  | _ => .int
abbrev wsX70 : List Cond := u_ws RX7 TX7 7
theorem nmX7 : ∀ a, a < 7 → ∀ b, b < 7 → a ≠ b → (TX7 a).2.1 ≠ (TX7 b).2.1 := by decide +kernel
theorem tyX7_ok : ∀ k, k < 7 → parseFieldDescriptor (TX7 k).2.2.1 = some (tyX7 k) := by decide +kernel
abbrev cX7_init : ByteArray := prog_9_method_1_code
def yX7_init : MethodName := ⟨RX7, "<init>", "()V"⟩
abbrev cX7_add : ByteArray := prog_9_method_2_code
def yX7_add : MethodName := ⟨RX7, "add", "(I)Z"⟩
abbrev cX7_read : ByteArray := prog_9_method_3_code
def yX7_read : MethodName := ⟨RX7, "read", "()I"⟩
abbrev cX7_takes : ByteArray := prog_9_method_4_code
def yX7_takes : MethodName := ⟨RX7, "takes", "(I)Z"⟩
abbrev cX7_goesOn : ByteArray := prog_9_method_5_code
def yX7_goesOn : MethodName := ⟨RX7, "goesOn", "(ZI)Z"⟩
abbrev cX7_takesName : ByteArray := prog_9_method_6_code
def yX7_takesName : MethodName := ⟨RX7, "takesName", "(I)Z"⟩
abbrev cX7_takesLabels : ByteArray := prog_9_method_7_code
def yX7_takesLabels : MethodName := ⟨RX7, "takesLabels", "(I)Z"⟩
abbrev cX7_takesNeed : ByteArray := prog_9_method_8_code
def yX7_takesNeed : MethodName := ⟨RX7, "takesNeed", "(I)Z"⟩
abbrev cX7_takesDigit : ByteArray := prog_9_method_9_code
def yX7_takesDigit : MethodName := ⟨RX7, "takesDigit", "(I)Z"⟩
def RX8 : String := "HandsHall"
def TX8 : u_T := fun k => match k with
  | 0 => ("HandsHall", "text", "LHandsHall$Text;", true)
  | 1 => ("HandsHall", "steps", "LHandsHall$Steps;", true)
  | 2 => ("HandsHall", "items", "LHandsHall$Items;", true)
  | 3 => ("HandsHall", "hands", "LHandsHall$Hands;", true)
  | 4 => ("HandsHall", "rules", "LHandsHall$Rules;", true)
  | 5 => ("HandsHall", "latest", "LHandsHall$Joining;", true)
  | 6 => ("HandsHall", "trial", "LHandsHall$Joining;", true)
  | 7 => ("HandsHall", "odds", "LHandsHall$Odds;", true)
  | 8 => ("HandsHall", "pay", "LHandsHall$Pay;", true)
  | 9 => ("HandsHall", "handsJoined", "I", false)
  | 10 => ("HandsHall", "bestItem", "I", false)
  | 11 => ("HandsHall", "bestHand", "I", false)
  | _ => ("HandsHall", "bestHelp", "I", false)
def tyX8 : Nat → FieldType := fun k => match k with
  | 0 => .object "HandsHall$Text"
  | 1 => .object "HandsHall$Steps"
  | 2 => .object "HandsHall$Items"
  | 3 => .object "HandsHall$Hands"
  | 4 => .object "HandsHall$Rules"
  | 5 => .object "HandsHall$Joining"
  | 6 => .object "HandsHall$Joining"
  | 7 => .object "HandsHall$Odds"
  | 8 => .object "HandsHall$Pay"
  | 9 => .int
  | 10 => .int
  | 11 => .int
  | _ => .int
abbrev wsX80 : List Cond := u_ws RX8 TX8 13
theorem nmX8 : ∀ a, a < 13 → ∀ b, b < 13 → a ≠ b → (TX8 a).2.1 ≠ (TX8 b).2.1 := by decide +kernel
theorem tyX8_ok : ∀ k, k < 13 → parseFieldDescriptor (TX8 k).2.2.1 = some (tyX8 k) := by decide +kernel
abbrev cX8_init : ByteArray := prog_1_method_1_code
def yX8_init : MethodName := ⟨RX8, "<init>", "()V"⟩
abbrev cX8_say : ByteArray := prog_1_method_2_code
def yX8_say : MethodName := ⟨RX8, "say", "(I)I"⟩
abbrev cX8_wipe : ByteArray := prog_1_method_3_code
def yX8_wipe : MethodName := ⟨RX8, "wipe", "()I"⟩
abbrev cX8_fault : ByteArray := prog_1_method_4_code
def yX8_fault : MethodName := ⟨RX8, "fault", "()I"⟩
abbrev cX8_task : ByteArray := prog_1_method_5_code
def yX8_task : MethodName := ⟨RX8, "task", "()I"⟩
abbrev cX8_step : ByteArray := prog_1_method_6_code
def yX8_step : MethodName := ⟨RX8, "step", "(II)I"⟩
abbrev cX8_item : ByteArray := prog_1_method_7_code
def yX8_item : MethodName := ⟨RX8, "item", "(II)I"⟩
abbrev cX8_known : ByteArray := prog_1_method_8_code
def yX8_known : MethodName := ⟨RX8, "known", "(II)I"⟩
abbrev cX8_settle : ByteArray := prog_1_method_9_code
def yX8_settle : MethodName := ⟨RX8, "settle", "(II)I"⟩
abbrev cX8_show : ByteArray := prog_1_method_10_code
def yX8_show : MethodName := ⟨RX8, "show", "(II)I"⟩
abbrev cX8_ofItem : ByteArray := prog_1_method_11_code
def yX8_ofItem : MethodName := ⟨RX8, "ofItem", "(II)I"⟩
abbrev cX8_hand : ByteArray := prog_1_method_12_code
def yX8_hand : MethodName := ⟨RX8, "hand", "()I"⟩
abbrev cX8_out : ByteArray := prog_1_method_13_code
def yX8_out : MethodName := ⟨RX8, "out", "(IZ)I"⟩
abbrev cX8_answer : ByteArray := prog_1_method_14_code
def yX8_answer : MethodName := ⟨RX8, "answer", "(III)I"⟩
abbrev cX8_back : ByteArray := prog_1_method_15_code
def yX8_back : MethodName := ⟨RX8, "back", "(II)I"⟩
abbrev cX8_said : ByteArray := prog_1_method_16_code
def yX8_said : MethodName := ⟨RX8, "said", "(II)I"⟩
abbrev cX8_set : ByteArray := prog_1_method_17_code
def yX8_set : MethodName := ⟨RX8, "set", "(II)I"⟩
abbrev cX8_join : ByteArray := prog_1_method_18_code
def yX8_join : MethodName := ⟨RX8, "join", "()I"⟩
abbrev cX8_share : ByteArray := prog_1_method_19_code
def yX8_share : MethodName := ⟨RX8, "share", "(II)I"⟩
abbrev cX8_table : ByteArray := prog_1_method_20_code
def yX8_table : MethodName := ⟨RX8, "table", "(IIII)I"⟩
abbrev cX8_next : ByteArray := prog_1_method_21_code
def yX8_next : MethodName := ⟨RX8, "next", "(I)I"⟩
abbrev cX8_right : ByteArray := prog_1_method_22_code
def yX8_right : MethodName := ⟨RX8, "right", "(II)I"⟩
abbrev cX8_guessing : ByteArray := prog_1_method_23_code
def yX8_guessing : MethodName := ⟨RX8, "guessing", "(II)J"⟩
abbrev cX8_copying : ByteArray := prog_1_method_24_code
def yX8_copying : MethodName := ⟨RX8, "copying", "(III)J"⟩
abbrev cX8_misread : ByteArray := prog_1_method_25_code
def yX8_misread : MethodName := ⟨RX8, "misread", "(I)I"⟩
abbrev cX8_deal : ByteArray := prog_1_method_26_code
def yX8_deal : MethodName := ⟨RX8, "deal", "(I)I"⟩
abbrev cX8_better : ByteArray := prog_1_method_27_code
def yX8_better : MethodName := ⟨RX8, "better", "(I)J"⟩
abbrev cX8_lean : ByteArray := prog_1_method_28_code
def yX8_lean : MethodName := ⟨RX8, "lean", "(I)I"⟩
abbrev cX8_coins : ByteArray := prog_1_method_29_code
def yX8_coins : MethodName := ⟨RX8, "coins", "(I)I"⟩
abbrev cX8_pays : ByteArray := prog_1_method_30_code
def yX8_pays : MethodName := ⟨RX8, "pays", "(III)I"⟩
abbrev cX8_belief : ByteArray := prog_1_method_31_code
def yX8_belief : MethodName := ⟨RX8, "belief", "(I)I"⟩
abbrev cX8_plan : ByteArray := prog_1_method_32_code
def yX8_plan : MethodName := ⟨RX8, "plan", "(II)I"⟩
abbrev cX8_told : ByteArray := prog_1_method_33_code
def yX8_told : MethodName := ⟨RX8, "told", "(I)I"⟩
abbrev cX8_sureOf : ByteArray := prog_1_method_34_code
def yX8_sureOf : MethodName := ⟨RX8, "sureOf", "(I)I"⟩
abbrev cX8_isOpen : ByteArray := prog_1_method_35_code
def yX8_isOpen : MethodName := ⟨RX8, "isOpen", "(I)Z"⟩
abbrev cX8_openItems : ByteArray := prog_1_method_36_code
def yX8_openItems : MethodName := ⟨RX8, "openItems", "()I"⟩
abbrev cX8_seekHelp : ByteArray := prog_1_method_37_code
def yX8_seekHelp : MethodName := ⟨RX8, "seekHelp", "()V"⟩
abbrev cX8_seekHandFor : ByteArray := prog_1_method_38_code
def yX8_seekHandFor : MethodName := ⟨RX8, "seekHandFor", "(I)V"⟩
abbrev cX8_isToKnown : ByteArray := prog_1_method_39_code
def yX8_isToKnown : MethodName := ⟨RX8, "isToKnown", "(II)Z"⟩
abbrev cX8_isRight : ByteArray := prog_1_method_40_code
def yX8_isRight : MethodName := ⟨RX8, "isRight", "(II)Z"⟩
abbrev cX8_answersOf : ByteArray := prog_1_method_41_code
def yX8_answersOf : MethodName := ⟨RX8, "answersOf", "(I)I"⟩
abbrev cX8_answersToKnown : ByteArray := prog_1_method_42_code
def yX8_answersToKnown : MethodName := ⟨RX8, "answersToKnown", "(I)I"⟩
abbrev cX8_rightOf : ByteArray := prog_1_method_43_code
def yX8_rightOf : MethodName := ⟨RX8, "rightOf", "(I)I"⟩
abbrev cX8_allAnswers : ByteArray := prog_1_method_44_code
def yX8_allAnswers : MethodName := ⟨RX8, "allAnswers", "()I"⟩
abbrev cX8_isMisread : ByteArray := prog_1_method_45_code
def yX8_isMisread : MethodName := ⟨RX8, "isMisread", "(II)Z"⟩
def RX9 : String := "HandsHallModel"
def TX9 : u_T := fun k => match k with
  | 0 => ("HandsHallModel", "signs", "I", false)
  | 1 => ("HandsHallModel", "sign", "[I", true)
  | 2 => ("HandsHallModel", "steps", "I", false)
  | 3 => ("HandsHallModel", "stepName", "[I", true)
  | 4 => ("HandsHallModel", "stepLabels", "[I", true)
  | 5 => ("HandsHallModel", "stepNeeds", "[I", true)
  | 6 => ("HandsHallModel", "stepNumber", "[I", true)
  | 7 => ("HandsHallModel", "items", "I", false)
  | 8 => ("HandsHallModel", "itemStep", "[I", true)
  | 9 => ("HandsHallModel", "itemThing", "[I", true)
  | 10 => ("HandsHallModel", "itemKnown", "[I", true)
  | 11 => ("HandsHallModel", "itemSettled", "[I", true)
  | 12 => ("HandsHallModel", "itemParts", "[I", true)
  | 13 => ("HandsHallModel", "hands", "I", false)
  | 14 => ("HandsHallModel", "isOut", "[Z", true)
  | 15 => ("HandsHallModel", "version", "[I", true)
  | 16 => ("HandsHallModel", "answers", "[I", true)
  | 17 => ("HandsHallModel", "rule", "[I", true)
  | 18 => ("HandsHallModel", "payRight", "[I", true)
  | 19 => ("HandsHallModel", "payWrong", "[I", true)
  | 20 => ("HandsHallModel", "isJoined", "Z", false)
  | 21 => ("HandsHallModel", "joinedItems", "I", false)
  | 22 => ("HandsHallModel", "joinedHands", "I", false)
  | 23 => ("HandsHallModel", "share", "[I", true)
  | 24 => ("HandsHallModel", "table", "[I", true)
  | 25 => ("HandsHallModel", "keptShare", "[I", true)
  | 26 => ("HandsHallModel", "keptTable", "[I", true)
  | 27 => ("HandsHallModel", "readSteps", "I", false)
  | 28 => ("HandsHallModel", "readName", "[I", true)
  | 29 => ("HandsHallModel", "readLabels", "[I", true)
  | 30 => ("HandsHallModel", "readNeeds", "[I", true)
  | 31 => ("HandsHallModel", "readNumber", "[I", true)
  | 32 => ("HandsHallModel", "own", "[I", true)
  | 33 => ("HandsHallModel", "ways", "[J", true)
  | 34 => ("HandsHallModel", "allWays", "J", false)
  | 35 => ("HandsHallModel", "drawn", "I", false)
  | _ => ("HandsHallModel", "endIn", "[I", true)
def tyX9 : Nat → FieldType := fun k => match k with
  | 0 => .int
  | 1 => .array .int
  | 2 => .int
  | 3 => .array .int
  | 4 => .array .int
  | 5 => .array .int
  | 6 => .array .int
  | 7 => .int
  | 8 => .array .int
  | 9 => .array .int
  | 10 => .array .int
  | 11 => .array .int
  | 12 => .array .int
  | 13 => .int
  | 14 => .array .boolean
  | 15 => .array .int
  | 16 => .array .int
  | 17 => .array .int
  | 18 => .array .int
  | 19 => .array .int
  | 20 => .boolean
  | 21 => .int
  | 22 => .int
  | 23 => .array .int
  | 24 => .array .int
  | 25 => .array .int
  | 26 => .array .int
  | 27 => .int
  | 28 => .array .int
  | 29 => .array .int
  | 30 => .array .int
  | 31 => .array .int
  | 32 => .array .int
  | 33 => .array .long
  | 34 => .long
  | 35 => .int
  | _ => .array .int
abbrev wsX90 : List Cond := u_ws RX9 TX9 37
theorem nmX9 : ∀ a, a < 37 → ∀ b, b < 37 → a ≠ b → (TX9 a).2.1 ≠ (TX9 b).2.1 := by decide +kernel
theorem tyX9_ok : ∀ k, k < 37 → parseFieldDescriptor (TX9 k).2.2.1 = some (tyX9 k) := by decide +kernel
abbrev cX9_init : ByteArray := prog_11_method_1_code
def yX9_init : MethodName := ⟨RX9, "<init>", "()V"⟩
abbrev cX9_in : ByteArray := prog_11_method_2_code
def yX9_in : MethodName := ⟨RX9, "in", "(III)Z"⟩
abbrev cX9_say : ByteArray := prog_11_method_3_code
def yX9_say : MethodName := ⟨RX9, "say", "(I)I"⟩
abbrev cX9_wipe : ByteArray := prog_11_method_4_code
def yX9_wipe : MethodName := ⟨RX9, "wipe", "()I"⟩
abbrev cX9_named : ByteArray := prog_11_method_5_code
def yX9_named : MethodName := ⟨RX9, "named", "(II)I"⟩
abbrev cX9_faultOf : ByteArray := prog_11_method_6_code
def yX9_faultOf : MethodName := ⟨RX9, "faultOf", "()I"⟩
abbrev cX9_fault : ByteArray := prog_11_method_7_code
def yX9_fault : MethodName := ⟨RX9, "fault", "()I"⟩
abbrev cX9_task : ByteArray := prog_11_method_8_code
def yX9_task : MethodName := ⟨RX9, "task", "()I"⟩
abbrev cX9_step : ByteArray := prog_11_method_9_code
def yX9_step : MethodName := ⟨RX9, "step", "(II)I"⟩
abbrev cX9_itemOf : ByteArray := prog_11_method_10_code
def yX9_itemOf : MethodName := ⟨RX9, "itemOf", "(II)I"⟩
abbrev cX9_item : ByteArray := prog_11_method_11_code
def yX9_item : MethodName := ⟨RX9, "item", "(II)I"⟩
abbrev cX9_isItem : ByteArray := prog_11_method_12_code
def yX9_isItem : MethodName := ⟨RX9, "isItem", "(I)Z"⟩
abbrev cX9_isHand : ByteArray := prog_11_method_13_code
def yX9_isHand : MethodName := ⟨RX9, "isHand", "(I)Z"⟩
abbrev cX9_labelsOf : ByteArray := prog_11_method_14_code
def yX9_labelsOf : MethodName := ⟨RX9, "labelsOf", "(I)I"⟩
abbrev cX9_isLabel : ByteArray := prog_11_method_15_code
def yX9_isLabel : MethodName := ⟨RX9, "isLabel", "(II)Z"⟩
abbrev cX9_fixed : ByteArray := prog_11_method_16_code
def yX9_fixed : MethodName := ⟨RX9, "fixed", "(I)I"⟩
abbrev cX9_known : ByteArray := prog_11_method_17_code
def yX9_known : MethodName := ⟨RX9, "known", "(II)I"⟩
abbrev cX9_settle : ByteArray := prog_11_method_18_code
def yX9_settle : MethodName := ⟨RX9, "settle", "(II)I"⟩
abbrev cX9_show : ByteArray := prog_11_method_19_code
def yX9_show : MethodName := ⟨RX9, "show", "(II)I"⟩
abbrev cX9_shareOf : ByteArray := prog_11_method_20_code
def yX9_shareOf : MethodName := ⟨RX9, "shareOf", "(II)I"⟩
abbrev cX9_endOf : ByteArray := prog_11_method_21_code
def yX9_endOf : MethodName := ⟨RX9, "endOf", "(I)I"⟩
abbrev cX9_sureOf : ByteArray := prog_11_method_22_code
def yX9_sureOf : MethodName := ⟨RX9, "sureOf", "(I)I"⟩
abbrev cX9_isOpen : ByteArray := prog_11_method_23_code
def yX9_isOpen : MethodName := ⟨RX9, "isOpen", "(I)Z"⟩
abbrev cX9_counts : ByteArray := prog_11_method_24_code
def yX9_counts : MethodName := ⟨RX9, "counts", "(II)Z"⟩
abbrev cX9_countOf : ByteArray := prog_11_method_25_code
def yX9_countOf : MethodName := ⟨RX9, "countOf", "(I)I"⟩
abbrev cX9_ofItem : ByteArray := prog_11_method_26_code
def yX9_ofItem : MethodName := ⟨RX9, "ofItem", "(II)I"⟩
abbrev cX9_hand : ByteArray := prog_11_method_27_code
def yX9_hand : MethodName := ⟨RX9, "hand", "()I"⟩
abbrev cX9_out : ByteArray := prog_11_method_28_code
def yX9_out : MethodName := ⟨RX9, "out", "(IZ)I"⟩
abbrev cX9_answer : ByteArray := prog_11_method_29_code
def yX9_answer : MethodName := ⟨RX9, "answer", "(III)I"⟩
abbrev cX9_back : ByteArray := prog_11_method_30_code
def yX9_back : MethodName := ⟨RX9, "back", "(II)I"⟩
abbrev cX9_said : ByteArray := prog_11_method_31_code
def yX9_said : MethodName := ⟨RX9, "said", "(II)I"⟩
abbrev cX9_set : ByteArray := prog_11_method_32_code
def yX9_set : MethodName := ⟨RX9, "set", "(II)I"⟩
abbrev cX9_at : ByteArray := prog_11_method_33_code
def yX9_at : MethodName := ⟨RX9, "at", "(IIII)I"⟩
abbrev cX9_beginShares : ByteArray := prog_11_method_34_code
def yX9_beginShares : MethodName := ⟨RX9, "beginShares", "()V"⟩
abbrev cX9_saidBy : ByteArray := prog_11_method_35_code
def yX9_saidBy : MethodName := ⟨RX9, "saidBy", "(IIII)J"⟩
abbrev cX9_layTables : ByteArray := prog_11_method_36_code
def yX9_layTables : MethodName := ⟨RX9, "layTables", "()V"⟩
abbrev cX9_turnShares : ByteArray := prog_11_method_37_code
def yX9_turnShares : MethodName := ⟨RX9, "turnShares", "()I"⟩
abbrev cX9_joinAll : ByteArray := prog_11_method_38_code
def yX9_joinAll : MethodName := ⟨RX9, "joinAll", "()I"⟩
abbrev cX9_join : ByteArray := prog_11_method_39_code
def yX9_join : MethodName := ⟨RX9, "join", "()I"⟩
abbrev cX9_share : ByteArray := prog_11_method_40_code
def yX9_share : MethodName := ⟨RX9, "share", "(II)I"⟩
abbrev cX9_table : ByteArray := prog_11_method_41_code
def yX9_table : MethodName := ⟨RX9, "table", "(IIII)I"⟩
abbrev cX9_helpOf : ByteArray := prog_11_method_42_code
def yX9_helpOf : MethodName := ⟨RX9, "helpOf", "(II)I"⟩
abbrev cX9_next : ByteArray := prog_11_method_43_code
def yX9_next : MethodName := ⟨RX9, "next", "(I)I"⟩
abbrev cX9_isRight : ByteArray := prog_11_method_44_code
def yX9_isRight : MethodName := ⟨RX9, "isRight", "(II)Z"⟩
abbrev cX9_knownBy : ByteArray := prog_11_method_45_code
def yX9_knownBy : MethodName := ⟨RX9, "knownBy", "(I)I"⟩
abbrev cX9_rightBy : ByteArray := prog_11_method_46_code
def yX9_rightBy : MethodName := ⟨RX9, "rightBy", "(I)I"⟩
abbrev cX9_answersBy : ByteArray := prog_11_method_47_code
def yX9_answersBy : MethodName := ⟨RX9, "answersBy", "(I)I"⟩
abbrev cX9_right : ByteArray := prog_11_method_48_code
def yX9_right : MethodName := ⟨RX9, "right", "(II)I"⟩
abbrev cX9_common : ByteArray := prog_11_method_49_code
def yX9_common : MethodName := ⟨RX9, "common", "(JJ)J"⟩
abbrev cX9_term : ByteArray := prog_11_method_50_code
def yX9_term : MethodName := ⟨RX9, "term", "(JJI)J"⟩
abbrev cX9_beginWays : ByteArray := prog_11_method_51_code
def yX9_beginWays : MethodName := ⟨RX9, "beginWays", "()V"⟩
abbrev cX9_drawFrom : ByteArray := prog_11_method_52_code
def yX9_drawFrom : MethodName := ⟨RX9, "drawFrom", "(I)V"⟩
abbrev cX9_oddsFrom : ByteArray := prog_11_method_53_code
def yX9_oddsFrom : MethodName := ⟨RX9, "oddsFrom", "(II)J"⟩
abbrev cX9_guessing : ByteArray := prog_11_method_54_code
def yX9_guessing : MethodName := ⟨RX9, "guessing", "(II)J"⟩
abbrev cX9_copying : ByteArray := prog_11_method_55_code
def yX9_copying : MethodName := ⟨RX9, "copying", "(III)J"⟩
abbrev cX9_misread : ByteArray := prog_11_method_56_code
def yX9_misread : MethodName := ⟨RX9, "misread", "(I)I"⟩
abbrev cX9_deal : ByteArray := prog_11_method_57_code
def yX9_deal : MethodName := ⟨RX9, "deal", "(I)I"⟩
abbrev cX9_choose : ByteArray := prog_11_method_58_code
def yX9_choose : MethodName := ⟨RX9, "choose", "(II)J"⟩
abbrev cX9_better : ByteArray := prog_11_method_59_code
def yX9_better : MethodName := ⟨RX9, "better", "(I)J"⟩
abbrev cX9_laidEnd : ByteArray := prog_11_method_60_code
def yX9_laidEnd : MethodName := ⟨RX9, "laidEnd", "(I)I"⟩
abbrev cX9_lean : ByteArray := prog_11_method_61_code
def yX9_lean : MethodName := ⟨RX9, "lean", "(I)I"⟩
abbrev cX9_coins : ByteArray := prog_11_method_62_code
def yX9_coins : MethodName := ⟨RX9, "coins", "(I)I"⟩
abbrev cX9_isPay : ByteArray := prog_11_method_63_code
def yX9_isPay : MethodName := ⟨RX9, "isPay", "(I)Z"⟩
abbrev cX9_pays : ByteArray := prog_11_method_64_code
def yX9_pays : MethodName := ⟨RX9, "pays", "(III)I"⟩
abbrev cX9_brings : ByteArray := prog_11_method_65_code
def yX9_brings : MethodName := ⟨RX9, "brings", "(II)I"⟩
abbrev cX9_belief : ByteArray := prog_11_method_66_code
def yX9_belief : MethodName := ⟨RX9, "belief", "(I)I"⟩
abbrev cX9_plan : ByteArray := prog_11_method_67_code
def yX9_plan : MethodName := ⟨RX9, "plan", "(II)I"⟩
abbrev cX9_told : ByteArray := prog_11_method_68_code
def yX9_told : MethodName := ⟨RX9, "told", "(I)I"⟩
def RJ9 : String := "java/lang/Math"
def TJ9 : u_T := fun k => match k with
  | _ => ("", "", "", false)
def tyJ9 : Nat → FieldType := fun k => match k with
  | _ => .int
abbrev wsJ90 : List Cond := u_ws RJ9 TJ9 0
theorem nmJ9 : ∀ a, a < 0 → ∀ b, b < 0 → a ≠ b → (TJ9 a).2.1 ≠ (TJ9 b).2.1 := by decide +kernel
theorem tyJ9_ok : ∀ k, k < 0 → parseFieldDescriptor (TJ9 k).2.2.1 = some (tyJ9 k) := by decide +kernel
abbrev cJ9_abs_0f7a4 : ByteArray := prog_12_method_59_code
def yJ9_abs_0f7a4 : MethodName := ⟨RJ9, "abs", "(I)I"⟩
abbrev cJ9_max_7cf53 : ByteArray := prog_12_method_65_code
def yJ9_max_7cf53 : MethodName := ⟨RJ9, "max", "(II)I"⟩
abbrev cJ9_max_f86c9 : ByteArray := prog_12_method_66_code
def yJ9_max_f86c9 : MethodName := ⟨RJ9, "max", "(JJ)J"⟩
def RJ10 : String := "java/lang/System"
def TJ10 : u_T := fun k => match k with
  | _ => ("", "", "", false)
def tyJ10 : Nat → FieldType := fun k => match k with
  | _ => .int
abbrev wsJ100 : List Cond := u_ws RJ10 TJ10 0
theorem nmJ10 : ∀ a, a < 0 → ∀ b, b < 0 → a ≠ b → (TJ10 a).2.1 ≠ (TJ10 b).2.1 := by decide +kernel
theorem tyJ10_ok : ∀ k, k < 0 → parseFieldDescriptor (TJ10 k).2.2.1 = some (tyJ10 k) := by decide +kernel
def RL : String := "HandsHallLaw"
abbrev cL_law : ByteArray := code
def yL_law : MethodName := ⟨RL, "law", "([I)Z"⟩
def wsX0_init : List Cond := .code yX0_init cX0_init 1 none :: ([.methodLink RX0 3 objectInit, .instanceMethod objectInit, .code objectInit ⟨#[0xb1]⟩ 1 none, .arrayClass .boolean, .fieldLink RX0 9 "HandsHall$Hands" "out" "[Z", .arrayClass .int, .fieldLink RX0 15 "HandsHall$Hands" "version" "[I", .classLink RX0 19 "[[I", .fieldLink RX0 21 "HandsHall$Hands" "said" "[[I"] ++ wsX00)
def wsX0_has : List Cond := .code yX0_has cX0_has 2 (some .boolean) :: ([.fieldLink RX0 24 "HandsHall$Hands" "count" "I"] ++ wsX00)
def wsX0_add : List Cond := .code yX0_add cX0_add 3 (some .int) :: ([.fieldLink RX0 24 "HandsHall$Hands" "count" "I", .fieldLink RX0 9 "HandsHall$Hands" "out" "[Z", .fieldLink RX0 15 "HandsHall$Hands" "version" "[I", .fieldLink RX0 21 "HandsHall$Hands" "said" "[[I"] ++ wsX00)
def wsX0_counts : List Cond := .code yX0_counts cX0_counts 3 (some .boolean) :: ([.fieldLink RX0 9 "HandsHall$Hands" "out" "[Z", .fieldLink RX0 21 "HandsHall$Hands" "said" "[[I"] ++ wsX00)
def wsX0_anySaid : List Cond := .code yX0_anySaid cX0_anySaid 3 (some .boolean) :: ([.fieldLink RX0 24 "HandsHall$Hands" "count" "I", .fieldLink RX0 21 "HandsHall$Hands" "said" "[[I"] ++ wsX00)
def wsX0_countTo : List Cond := .code yX0_countTo cX0_countTo 4 (some .int) :: ([.fieldLink RX0 24 "HandsHall$Hands" "count" "I", .methodLink RX0 28 yX0_counts, .instanceMethod yX0_counts, .selects RX0 yX0_counts yX0_counts, .initialized RX0, .code yX0_counts cX0_counts 3 (some .boolean), .fieldLink RX0 9 "HandsHall$Hands" "out" "[Z", .fieldLink RX0 21 "HandsHall$Hands" "said" "[[I"] ++ wsX00)
def wsX0_countWith : List Cond := .code yX0_countWith cX0_countWith 5 (some .int) :: ([.fieldLink RX0 24 "HandsHall$Hands" "count" "I", .fieldLink RX0 21 "HandsHall$Hands" "said" "[[I", .methodLink RX0 28 yX0_counts, .instanceMethod yX0_counts, .selects RX0 yX0_counts yX0_counts, .initialized RX0, .code yX0_counts cX0_counts 3 (some .boolean), .fieldLink RX0 9 "HandsHall$Hands" "out" "[Z"] ++ wsX00)
def wsX1_init : List Cond := .code yX1_init cX1_init 1 none :: ([.methodLink RX1 3 objectInit, .instanceMethod objectInit, .code objectInit ⟨#[0xb1]⟩ 1 none, .arrayClass .int, .fieldLink RX1 9 "HandsHall$Items" "step" "[I", .fieldLink RX1 15 "HandsHall$Items" "thing" "[I", .fieldLink RX1 18 "HandsHall$Items" "labels" "[I", .fieldLink RX1 21 "HandsHall$Items" "known" "[I", .fieldLink RX1 24 "HandsHall$Items" "settled" "[I", .fieldLink RX1 27 "HandsHall$Items" "parts" "[I"] ++ wsX10)
def wsX1_has : List Cond := .code yX1_has cX1_has 2 (some .boolean) :: ([.fieldLink RX1 30 "HandsHall$Items" "count" "I"] ++ wsX10)
def wsX1_hasLabel : List Cond := .code yX1_hasLabel cX1_hasLabel 3 (some .boolean) :: ([.fieldLink RX1 18 "HandsHall$Items" "labels" "[I", .methodLink RX1 34 yX1_has, .instanceMethod yX1_has, .selects RX1 yX1_has yX1_has, .initialized RX1, .code yX1_has cX1_has 2 (some .boolean), .fieldLink RX1 30 "HandsHall$Items" "count" "I"] ++ wsX10)
def wsX1_find : List Cond := .code yX1_find cX1_find 4 (some .int) :: ([.fieldLink RX1 30 "HandsHall$Items" "count" "I", .fieldLink RX1 9 "HandsHall$Items" "step" "[I", .fieldLink RX1 15 "HandsHall$Items" "thing" "[I"] ++ wsX10)
def wsX1_add : List Cond := .code yX1_add cX1_add 5 (some .int) :: ([.fieldLink RX1 30 "HandsHall$Items" "count" "I", .fieldLink RX1 9 "HandsHall$Items" "step" "[I", .fieldLink RX1 15 "HandsHall$Items" "thing" "[I", .fieldLink RX1 18 "HandsHall$Items" "labels" "[I", .fieldLink RX1 21 "HandsHall$Items" "known" "[I", .fieldLink RX1 24 "HandsHall$Items" "settled" "[I", .fieldLink RX1 27 "HandsHall$Items" "parts" "[I"] ++ wsX10)
def wsX1_isFree : List Cond := .code yX1_isFree cX1_isFree 2 (some .boolean) :: ([.fieldLink RX1 21 "HandsHall$Items" "known" "[I", .fieldLink RX1 24 "HandsHall$Items" "settled" "[I"] ++ wsX10)
def wsX1_given : List Cond := .code yX1_given cX1_given 2 (some .int) :: ([.fieldLink RX1 21 "HandsHall$Items" "known" "[I", .fieldLink RX1 24 "HandsHall$Items" "settled" "[I"] ++ wsX10)
def wsX2_init : List Cond := .code yX2_init cX2_init 4 none :: ([.methodLink RX2 5 objectInit, .instanceMethod objectInit, .code objectInit ⟨#[0xb1]⟩ 1 none, .fieldLink RX2 11 "HandsHall$Joining" "items" "LHandsHall$Items;", .fieldLink RX2 15 "HandsHall$Joining" "hands" "LHandsHall$Hands;", .fieldLink RX2 19 "HandsHall$Joining" "rules" "LHandsHall$Rules;", .classLink RX2 23 "[[I", .arrayClass .int, .fieldLink RX2 25 "HandsHall$Joining" "shares" "[[I", .fieldLink RX2 28 "HandsHall$Joining" "numbers" "[[I", .arrayClass .long, .fieldLink RX2 31 "HandsHall$Joining" "sums" "[J", .fieldLink RX2 35 "HandsHall$Joining" "fresh" "[J", .fieldLink RX2 38 "HandsHall$Joining" "weighed" "[J", .fieldLink RX2 41 "HandsHall$Joining" "keptEnds" "[I"] ++ wsX20)
def wsX2_spot : List Cond := .code yX2_spot cX2_spot 3 (some .int) :: ([])
def wsX2_startAlike : List Cond := .code yX2_startAlike cX2_startAlike 4 none :: ([.fieldLink RX2 11 "HandsHall$Joining" "items" "LHandsHall$Items;", .fieldLink RX2 73 "HandsHall$Items" "labels" "[I", .fieldLink RX2 25 "HandsHall$Joining" "shares" "[[I", .constant RX2 76 (1000000)] ++ wsX20 ++ wsX10)
def wsX2_startByAnswers_r1 : List Cond := [Cond.fieldLink RX2 15 "HandsHall$Joining" "hands" "LHandsHall$Hands;", Cond.fieldLink RX2 11 "HandsHall$Joining" "items" "LHandsHall$Items;", Cond.fieldLink RX2 73 "HandsHall$Items" "labels" "[I", Cond.fieldLink RX2 25 "HandsHall$Joining" "shares" "[[I", Cond.constant RX2 76 (1000000), Cond.methodLink RX2 81 yX0_countTo, Cond.instanceMethod yX0_countTo, Cond.selects RX0 yX0_countTo yX0_countTo, Cond.initialized RX0, Cond.code yX0_countTo cX0_countTo 4 (some .int), Cond.fieldLink RX0 24 "HandsHall$Hands" "count" "I", Cond.methodLink RX0 28 yX0_counts, Cond.instanceMethod yX0_counts, Cond.selects RX0 yX0_counts yX0_counts, Cond.code yX0_counts cX0_counts 3 (some .boolean), Cond.fieldLink RX0 9 "HandsHall$Hands" "out" "[Z", Cond.fieldLink RX0 21 "HandsHall$Hands" "said" "[[I", Cond.methodLink RX2 84 yX2_startAlike, Cond.instanceMethod yX2_startAlike, Cond.selects RX2 yX2_startAlike yX2_startAlike, Cond.initialized RX2, Cond.code yX2_startAlike cX2_startAlike 4 none, Cond.methodLink RX2 87 yX0_countWith, Cond.instanceMethod yX0_countWith]
def wsX2_startByAnswers_r2 : List Cond := [Cond.selects RX0 yX0_countWith yX0_countWith, Cond.code yX0_countWith cX0_countWith 5 (some .int)]
def wsX2_startByAnswers : List Cond := .code yX2_startByAnswers cX2_startByAnswers 4 none :: ((wsX2_startByAnswers_r1 ++ wsX2_startByAnswers_r2) ++ wsX20 ++ wsX10 ++ wsX00)
def wsX2_startGiven : List Cond := .code yX2_startGiven cX2_startGiven 4 none :: ([.fieldLink RX2 11 "HandsHall$Joining" "items" "LHandsHall$Items;", .fieldLink RX2 73 "HandsHall$Items" "labels" "[I", .fieldLink RX2 25 "HandsHall$Joining" "shares" "[[I", .constant RX2 76 (1000000), .methodLink RX2 77 yX1_given, .instanceMethod yX1_given, .selects RX1 yX1_given yX1_given, .initialized RX1, .code yX1_given cX1_given 2 (some .int), .fieldLink RX1 21 "HandsHall$Items" "known" "[I", .fieldLink RX1 24 "HandsHall$Items" "settled" "[I"] ++ wsX20 ++ wsX10)
def wsX2_startShares_r1 : List Cond := [Cond.fieldLink RX2 11 "HandsHall$Joining" "items" "LHandsHall$Items;", Cond.methodLink RX2 91 yX1_isFree, Cond.instanceMethod yX1_isFree, Cond.selects RX1 yX1_isFree yX1_isFree, Cond.initialized RX1, Cond.code yX1_isFree cX1_isFree 2 (some .boolean), Cond.fieldLink RX1 21 "HandsHall$Items" "known" "[I", Cond.fieldLink RX1 24 "HandsHall$Items" "settled" "[I", Cond.methodLink RX2 95 yX2_startByAnswers, Cond.instanceMethod yX2_startByAnswers, Cond.selects RX2 yX2_startByAnswers yX2_startByAnswers, Cond.initialized RX2, Cond.code yX2_startByAnswers cX2_startByAnswers 4 none, Cond.fieldLink RX2 15 "HandsHall$Joining" "hands" "LHandsHall$Hands;", Cond.fieldLink RX2 73 "HandsHall$Items" "labels" "[I", Cond.fieldLink RX2 25 "HandsHall$Joining" "shares" "[[I", Cond.constant RX2 76 (1000000), Cond.methodLink RX2 81 yX0_countTo, Cond.instanceMethod yX0_countTo, Cond.selects RX0 yX0_countTo yX0_countTo, Cond.initialized RX0, Cond.code yX0_countTo cX0_countTo 4 (some .int), Cond.fieldLink RX0 24 "HandsHall$Hands" "count" "I", Cond.methodLink RX0 28 yX0_counts]
def wsX2_startShares_r2 : List Cond := [Cond.instanceMethod yX0_counts, Cond.selects RX0 yX0_counts yX0_counts, Cond.code yX0_counts cX0_counts 3 (some .boolean), Cond.fieldLink RX0 9 "HandsHall$Hands" "out" "[Z", Cond.fieldLink RX0 21 "HandsHall$Hands" "said" "[[I", Cond.methodLink RX2 84 yX2_startAlike, Cond.instanceMethod yX2_startAlike, Cond.selects RX2 yX2_startAlike yX2_startAlike, Cond.code yX2_startAlike cX2_startAlike 4 none, Cond.methodLink RX2 87 yX0_countWith, Cond.instanceMethod yX0_countWith, Cond.selects RX0 yX0_countWith yX0_countWith, Cond.code yX0_countWith cX0_countWith 5 (some .int), Cond.methodLink RX2 98 yX2_startGiven, Cond.instanceMethod yX2_startGiven, Cond.selects RX2 yX2_startGiven yX2_startGiven, Cond.code yX2_startGiven cX2_startGiven 4 none, Cond.methodLink RX2 77 yX1_given, Cond.instanceMethod yX1_given, Cond.selects RX1 yX1_given yX1_given, Cond.code yX1_given cX1_given 2 (some .int)]
def wsX2_startShares : List Cond := .code yX2_startShares cX2_startShares 2 none :: ((wsX2_startShares_r1 ++ wsX2_startShares_r2) ++ wsX20 ++ wsX10 ++ wsX00)
def wsX2_sumSaid : List Cond := .code yX2_sumSaid cX2_sumSaid 6 none :: ([.fieldLink RX2 31 "HandsHall$Joining" "sums" "[J", .fieldLink RX2 19 "HandsHall$Joining" "rules" "LHandsHall$Rules;", .fieldLink RX2 45 "HandsHall$Rules" "value" "[I", .constantLong RX2 101 (10000), .fieldLink RX2 11 "HandsHall$Joining" "items" "LHandsHall$Items;", .fieldLink RX2 50 "HandsHall$Items" "count" "I", .fieldLink RX2 15 "HandsHall$Joining" "hands" "LHandsHall$Hands;", .fieldLink RX2 73 "HandsHall$Items" "labels" "[I", .fieldLink RX2 107 "HandsHall$Hands" "said" "[[I", .fieldLink RX2 25 "HandsHall$Joining" "shares" "[[I", .methodLink RX2 103 yX0_counts, .instanceMethod yX0_counts, .selects RX0 yX0_counts yX0_counts, .initialized RX0, .code yX0_counts cX0_counts 3 (some .boolean), .fieldLink RX0 9 "HandsHall$Hands" "out" "[Z", .fieldLink RX0 21 "HandsHall$Hands" "said" "[[I", .methodLink RX2 110 yX2_spot, .static yX2_spot, .initialized RX2, .code yX2_spot cX2_spot 3 (some .int)] ++ wsX20 ++ wsX50 ++ wsX10 ++ wsX00)
def wsX2_fillLine : List Cond := .code yX2_fillLine cX2_fillLine 7 none :: ([.fieldLink RX2 31 "HandsHall$Joining" "sums" "[J", .fieldLink RX2 28 "HandsHall$Joining" "numbers" "[[I", .constantLong RX2 118 (1000), .methodLink RX2 110 yX2_spot, .static yX2_spot, .initialized RX2, .code yX2_spot cX2_spot 3 (some .int)] ++ wsX20)
def wsX2_fillTables : List Cond := .code yX2_fillTables cX2_fillTables 4 none :: ([.methodLink RX2 114 yX2_fillLine, .instanceMethod yX2_fillLine, .selects RX2 yX2_fillLine yX2_fillLine, .initialized RX2, .code yX2_fillLine cX2_fillLine 7 none, .fieldLink RX2 31 "HandsHall$Joining" "sums" "[J", .fieldLink RX2 28 "HandsHall$Joining" "numbers" "[[I", .constantLong RX2 118 (1000), .methodLink RX2 110 yX2_spot, .static yX2_spot, .code yX2_spot cX2_spot 3 (some .int)] ++ wsX20)
def wsX2_weigh : List Cond := .code yX2_weigh cX2_weigh 7 none :: ([.fieldLink RX2 38 "HandsHall$Joining" "weighed" "[J", .fieldLink RX2 35 "HandsHall$Joining" "fresh" "[J", .fieldLink RX2 28 "HandsHall$Joining" "numbers" "[[I", .constantLong RX2 134 (1000000), .methodLink RX2 110 yX2_spot, .static yX2_spot, .initialized RX2, .code yX2_spot cX2_spot 3 (some .int)] ++ wsX20)
def wsX2_weighAnswers_r1 : List Cond := [Cond.fieldLink RX2 11 "HandsHall$Joining" "items" "LHandsHall$Items;", Cond.fieldLink RX2 73 "HandsHall$Items" "labels" "[I", Cond.fieldLink RX2 35 "HandsHall$Joining" "fresh" "[J", Cond.constant RX2 76 (1000000), Cond.fieldLink RX2 15 "HandsHall$Joining" "hands" "LHandsHall$Hands;", Cond.fieldLink RX2 60 "HandsHall$Hands" "count" "I", Cond.fieldLink RX2 107 "HandsHall$Hands" "said" "[[I", Cond.methodLink RX2 103 yX0_counts, Cond.instanceMethod yX0_counts, Cond.selects RX0 yX0_counts yX0_counts, Cond.initialized RX0, Cond.code yX0_counts cX0_counts 3 (some .boolean), Cond.fieldLink RX0 9 "HandsHall$Hands" "out" "[Z", Cond.fieldLink RX0 21 "HandsHall$Hands" "said" "[[I", Cond.methodLink RX2 131 yX2_weigh, Cond.instanceMethod yX2_weigh, Cond.selects RX2 yX2_weigh yX2_weigh, Cond.initialized RX2, Cond.code yX2_weigh cX2_weigh 7 none, Cond.fieldLink RX2 38 "HandsHall$Joining" "weighed" "[J", Cond.fieldLink RX2 28 "HandsHall$Joining" "numbers" "[[I", Cond.constantLong RX2 134 (1000000), Cond.methodLink RX2 110 yX2_spot, Cond.static yX2_spot]
def wsX2_weighAnswers_r2 : List Cond := [Cond.code yX2_spot cX2_spot 3 (some .int)]
def wsX2_weighAnswers : List Cond := .code yX2_weighAnswers cX2_weighAnswers 4 none :: ((wsX2_weighAnswers_r1 ++ wsX2_weighAnswers_r2) ++ wsX20 ++ wsX10 ++ wsX00)
def wsX2_takeFresh : List Cond := .code yX2_takeFresh cX2_takeFresh 5 (some .int) :: ([.fieldLink RX2 11 "HandsHall$Joining" "items" "LHandsHall$Items;", .fieldLink RX2 73 "HandsHall$Items" "labels" "[I", .fieldLink RX2 35 "HandsHall$Joining" "fresh" "[J", .fieldLink RX2 25 "HandsHall$Joining" "shares" "[[I", .methodLink RX2 136 Lib.Math.abs.name, .static Lib.Math.abs.name, .initialized "java/lang/Math", .code Lib.Math.abs.name Lib.Math.abs.code 1 (some .int), .methodLink RX2 126 Lib.Math.max.name, .static Lib.Math.max.name, .code Lib.Math.max.name Lib.Math.max.code 2 (some .int)] ++ wsX20 ++ wsX10)
def wsX2_renewAll_r1 : List Cond := [Cond.fieldLink RX2 11 "HandsHall$Joining" "items" "LHandsHall$Items;", Cond.fieldLink RX2 50 "HandsHall$Items" "count" "I", Cond.fieldLink RX2 15 "HandsHall$Joining" "hands" "LHandsHall$Hands;", Cond.methodLink RX2 126 Lib.Math.max.name, Cond.static Lib.Math.max.name, Cond.initialized "java/lang/Math", Cond.code Lib.Math.max.name Lib.Math.max.code 2 (some .int), Cond.methodLink RX2 91 yX1_isFree, Cond.instanceMethod yX1_isFree, Cond.selects RX1 yX1_isFree yX1_isFree, Cond.initialized RX1, Cond.code yX1_isFree cX1_isFree 2 (some .boolean), Cond.fieldLink RX1 21 "HandsHall$Items" "known" "[I", Cond.fieldLink RX1 24 "HandsHall$Items" "settled" "[I", Cond.methodLink RX2 81 yX0_countTo, Cond.instanceMethod yX0_countTo, Cond.selects RX0 yX0_countTo yX0_countTo, Cond.initialized RX0, Cond.code yX0_countTo cX0_countTo 4 (some .int), Cond.fieldLink RX0 24 "HandsHall$Hands" "count" "I", Cond.methodLink RX0 28 yX0_counts, Cond.instanceMethod yX0_counts, Cond.selects RX0 yX0_counts yX0_counts, Cond.code yX0_counts cX0_counts 3 (some .boolean)]
def wsX2_renewAll_r2 : List Cond := [Cond.fieldLink RX0 9 "HandsHall$Hands" "out" "[Z", Cond.fieldLink RX0 21 "HandsHall$Hands" "said" "[[I", Cond.methodLink RX2 120 yX2_weighAnswers, Cond.instanceMethod yX2_weighAnswers, Cond.selects RX2 yX2_weighAnswers yX2_weighAnswers, Cond.initialized RX2, Cond.code yX2_weighAnswers cX2_weighAnswers 4 none, Cond.fieldLink RX2 73 "HandsHall$Items" "labels" "[I", Cond.fieldLink RX2 35 "HandsHall$Joining" "fresh" "[J", Cond.constant RX2 76 (1000000), Cond.fieldLink RX2 60 "HandsHall$Hands" "count" "I", Cond.fieldLink RX2 107 "HandsHall$Hands" "said" "[[I", Cond.methodLink RX2 103 yX0_counts, Cond.methodLink RX2 131 yX2_weigh, Cond.instanceMethod yX2_weigh, Cond.selects RX2 yX2_weigh yX2_weigh, Cond.code yX2_weigh cX2_weigh 7 none, Cond.fieldLink RX2 38 "HandsHall$Joining" "weighed" "[J", Cond.fieldLink RX2 28 "HandsHall$Joining" "numbers" "[[I", Cond.constantLong RX2 134 (1000000), Cond.methodLink RX2 110 yX2_spot, Cond.static yX2_spot, Cond.code yX2_spot cX2_spot 3 (some .int), Cond.methodLink RX2 123 yX2_takeFresh]
def wsX2_renewAll_r3 : List Cond := [Cond.instanceMethod yX2_takeFresh, Cond.selects RX2 yX2_takeFresh yX2_takeFresh, Cond.code yX2_takeFresh cX2_takeFresh 5 (some .int), Cond.fieldLink RX2 25 "HandsHall$Joining" "shares" "[[I", Cond.methodLink RX2 136 Lib.Math.abs.name, Cond.static Lib.Math.abs.name, Cond.code Lib.Math.abs.name Lib.Math.abs.code 1 (some .int)]
def wsX2_renewAll : List Cond := .code yX2_renewAll cX2_renewAll 3 (some .int) :: ((wsX2_renewAll_r1 ++ (wsX2_renewAll_r2 ++ wsX2_renewAll_r3)) ++ wsX20 ++ wsX10 ++ wsX00)
def wsX2_run_r1 : List Cond := [Cond.fieldLink RX2 19 "HandsHall$Joining" "rules" "LHandsHall$Rules;", Cond.fieldLink RX2 45 "HandsHall$Rules" "value" "[I", Cond.fieldLink RX2 11 "HandsHall$Joining" "items" "LHandsHall$Items;", Cond.fieldLink RX2 50 "HandsHall$Items" "count" "I", Cond.fieldLink RX2 15 "HandsHall$Joining" "hands" "LHandsHall$Hands;", Cond.fieldLink RX2 60 "HandsHall$Hands" "count" "I", Cond.methodLink RX2 56 yX2_startShares, Cond.instanceMethod yX2_startShares, Cond.selects RX2 yX2_startShares yX2_startShares, Cond.initialized RX2, Cond.code yX2_startShares cX2_startShares 2 none, Cond.methodLink RX2 91 yX1_isFree, Cond.instanceMethod yX1_isFree, Cond.selects RX1 yX1_isFree yX1_isFree, Cond.initialized RX1, Cond.code yX1_isFree cX1_isFree 2 (some .boolean), Cond.fieldLink RX1 21 "HandsHall$Items" "known" "[I", Cond.fieldLink RX1 24 "HandsHall$Items" "settled" "[I", Cond.methodLink RX2 95 yX2_startByAnswers, Cond.instanceMethod yX2_startByAnswers, Cond.selects RX2 yX2_startByAnswers yX2_startByAnswers, Cond.code yX2_startByAnswers cX2_startByAnswers 4 none, Cond.fieldLink RX2 73 "HandsHall$Items" "labels" "[I", Cond.fieldLink RX2 25 "HandsHall$Joining" "shares" "[[I"]
def wsX2_run_r2 : List Cond := [Cond.constant RX2 76 (1000000), Cond.methodLink RX2 81 yX0_countTo, Cond.instanceMethod yX0_countTo, Cond.selects RX0 yX0_countTo yX0_countTo, Cond.initialized RX0, Cond.code yX0_countTo cX0_countTo 4 (some .int), Cond.fieldLink RX0 24 "HandsHall$Hands" "count" "I", Cond.methodLink RX0 28 yX0_counts, Cond.instanceMethod yX0_counts, Cond.selects RX0 yX0_counts yX0_counts, Cond.code yX0_counts cX0_counts 3 (some .boolean), Cond.fieldLink RX0 9 "HandsHall$Hands" "out" "[Z", Cond.fieldLink RX0 21 "HandsHall$Hands" "said" "[[I", Cond.methodLink RX2 84 yX2_startAlike, Cond.instanceMethod yX2_startAlike, Cond.selects RX2 yX2_startAlike yX2_startAlike, Cond.code yX2_startAlike cX2_startAlike 4 none, Cond.methodLink RX2 87 yX0_countWith, Cond.instanceMethod yX0_countWith, Cond.selects RX0 yX0_countWith yX0_countWith, Cond.code yX0_countWith cX0_countWith 5 (some .int), Cond.methodLink RX2 98 yX2_startGiven, Cond.instanceMethod yX2_startGiven, Cond.selects RX2 yX2_startGiven yX2_startGiven]
def wsX2_run_r3 : List Cond := [Cond.code yX2_startGiven cX2_startGiven 4 none, Cond.methodLink RX2 77 yX1_given, Cond.instanceMethod yX1_given, Cond.selects RX1 yX1_given yX1_given, Cond.code yX1_given cX1_given 2 (some .int), Cond.methodLink RX2 63 yX2_sumSaid, Cond.instanceMethod yX2_sumSaid, Cond.selects RX2 yX2_sumSaid yX2_sumSaid, Cond.code yX2_sumSaid cX2_sumSaid 6 none, Cond.fieldLink RX2 31 "HandsHall$Joining" "sums" "[J", Cond.constantLong RX2 101 (10000), Cond.fieldLink RX2 107 "HandsHall$Hands" "said" "[[I", Cond.methodLink RX2 103 yX0_counts, Cond.methodLink RX2 110 yX2_spot, Cond.static yX2_spot, Cond.code yX2_spot cX2_spot 3 (some .int), Cond.methodLink RX2 66 yX2_fillTables, Cond.instanceMethod yX2_fillTables, Cond.selects RX2 yX2_fillTables yX2_fillTables, Cond.code yX2_fillTables cX2_fillTables 4 none, Cond.methodLink RX2 114 yX2_fillLine, Cond.instanceMethod yX2_fillLine, Cond.selects RX2 yX2_fillLine yX2_fillLine, Cond.code yX2_fillLine cX2_fillLine 7 none]
def wsX2_run_r4 : List Cond := [Cond.fieldLink RX2 28 "HandsHall$Joining" "numbers" "[[I", Cond.constantLong RX2 118 (1000), Cond.methodLink RX2 69 yX2_renewAll, Cond.instanceMethod yX2_renewAll, Cond.selects RX2 yX2_renewAll yX2_renewAll, Cond.code yX2_renewAll cX2_renewAll 3 (some .int), Cond.methodLink RX2 126 Lib.Math.max.name, Cond.static Lib.Math.max.name, Cond.initialized "java/lang/Math", Cond.code Lib.Math.max.name Lib.Math.max.code 2 (some .int), Cond.methodLink RX2 120 yX2_weighAnswers, Cond.instanceMethod yX2_weighAnswers, Cond.selects RX2 yX2_weighAnswers yX2_weighAnswers, Cond.code yX2_weighAnswers cX2_weighAnswers 4 none, Cond.fieldLink RX2 35 "HandsHall$Joining" "fresh" "[J", Cond.methodLink RX2 131 yX2_weigh, Cond.instanceMethod yX2_weigh, Cond.selects RX2 yX2_weigh yX2_weigh, Cond.code yX2_weigh cX2_weigh 7 none, Cond.fieldLink RX2 38 "HandsHall$Joining" "weighed" "[J", Cond.constantLong RX2 134 (1000000), Cond.methodLink RX2 123 yX2_takeFresh, Cond.instanceMethod yX2_takeFresh, Cond.selects RX2 yX2_takeFresh yX2_takeFresh]
def wsX2_run_r5 : List Cond := [Cond.code yX2_takeFresh cX2_takeFresh 5 (some .int), Cond.methodLink RX2 136 Lib.Math.abs.name, Cond.static Lib.Math.abs.name, Cond.code Lib.Math.abs.name Lib.Math.abs.code 1 (some .int)]
def wsX2_run : List Cond := .code yX2_run cX2_run 4 (some .int) :: ((wsX2_run_r1 ++ (wsX2_run_r2 ++ (wsX2_run_r3 ++ (wsX2_run_r4 ++ wsX2_run_r5)))) ++ wsX20 ++ wsX50 ++ wsX10 ++ wsX00)
def wsX2_greatest : List Cond := .code yX2_greatest cX2_greatest 4 (some .int) :: ([.fieldLink RX2 11 "HandsHall$Joining" "items" "LHandsHall$Items;", .fieldLink RX2 73 "HandsHall$Items" "labels" "[I", .fieldLink RX2 25 "HandsHall$Joining" "shares" "[[I"] ++ wsX20 ++ wsX10)
def wsX2_helpOf : List Cond := .code yX2_helpOf cX2_helpOf 10 (some .int) :: ([.fieldLink RX2 11 "HandsHall$Joining" "items" "LHandsHall$Items;", .fieldLink RX2 73 "HandsHall$Items" "labels" "[I", .fieldLink RX2 25 "HandsHall$Joining" "shares" "[[I", .fieldLink RX2 28 "HandsHall$Joining" "numbers" "[[I", .methodLink RX2 139 Lib.MathLoose.max_long.x, .static Lib.MathLoose.max_long.x, .initialized "java/lang/Math", .code Lib.MathLoose.max_long.x Lib.MathLoose.max_long.code 4 (some .long), .constantLong RX2 118 (1000), .methodLink RX2 110 yX2_spot, .static yX2_spot, .initialized RX2, .code yX2_spot cX2_spot 3 (some .int), .methodLink RX2 142 yX2_greatest, .instanceMethod yX2_greatest, .selects RX2 yX2_greatest yX2_greatest, .code yX2_greatest cX2_greatest 4 (some .int)] ++ wsX20 ++ wsX10)
def wsX2_keepEnds : List Cond := .code yX2_keepEnds cX2_keepEnds 2 none :: ([.fieldLink RX2 11 "HandsHall$Joining" "items" "LHandsHall$Items;", .fieldLink RX2 50 "HandsHall$Items" "count" "I", .fieldLink RX2 41 "HandsHall$Joining" "keptEnds" "[I", .methodLink RX2 142 yX2_greatest, .instanceMethod yX2_greatest, .selects RX2 yX2_greatest yX2_greatest, .initialized RX2, .code yX2_greatest cX2_greatest 4 (some .int), .fieldLink RX2 73 "HandsHall$Items" "labels" "[I", .fieldLink RX2 25 "HandsHall$Joining" "shares" "[[I"] ++ wsX20 ++ wsX10)
def wsX2_endsUnlikeKept : List Cond := .code yX2_endsUnlikeKept cX2_endsUnlikeKept 3 (some .int) :: ([.fieldLink RX2 11 "HandsHall$Joining" "items" "LHandsHall$Items;", .fieldLink RX2 50 "HandsHall$Items" "count" "I", .fieldLink RX2 41 "HandsHall$Joining" "keptEnds" "[I", .methodLink RX2 142 yX2_greatest, .instanceMethod yX2_greatest, .selects RX2 yX2_greatest yX2_greatest, .initialized RX2, .code yX2_greatest cX2_greatest 4 (some .int), .fieldLink RX2 73 "HandsHall$Items" "labels" "[I", .fieldLink RX2 25 "HandsHall$Joining" "shares" "[[I"] ++ wsX20 ++ wsX10)
def wsX3_init : List Cond := .code yX3_init cX3_init 1 none :: ([.methodLink RX3 3 objectInit, .instanceMethod objectInit, .code objectInit ⟨#[0xb1]⟩ 1 none, .fieldLink RX3 9 "HandsHall$Odds" "lower" "J", .arrayClass .long, .fieldLink RX3 15 "HandsHall$Odds" "ways" "[J"] ++ wsX30)
def wsX3_part : List Cond := .code yX3_part cX3_part 2 (some .long) :: ([.fieldLink RX3 19 "HandsHall$Odds" "upper" "J", .fieldLink RX3 9 "HandsHall$Odds" "lower" "J"] ++ wsX30)
def wsX3_begin : List Cond := .code yX3_begin cX3_begin 1 none :: ([.fieldLink RX3 22 "HandsHall$Odds" "draws" "I", .fieldLink RX3 15 "HandsHall$Odds" "ways" "[J"] ++ wsX30)
def wsX3_draw : List Cond := .code yX3_draw cX3_draw 3 none :: ([.fieldLink RX3 22 "HandsHall$Odds" "draws" "I", .fieldLink RX3 15 "HandsHall$Odds" "ways" "[J"] ++ wsX30)
def wsX3_reduce : List Cond := .code yX3_reduce cX3_reduce 12 none :: ([.fieldLink RX3 19 "HandsHall$Odds" "upper" "J", .fieldLink RX3 9 "HandsHall$Odds" "lower" "J"] ++ wsX30)
def wsX3_hitAtLeast : List Cond := .code yX3_hitAtLeast cX3_hitAtLeast 7 none :: ([.fieldLink RX3 22 "HandsHall$Odds" "draws" "I", .fieldLink RX3 15 "HandsHall$Odds" "ways" "[J", .methodLink RX3 26 yX3_reduce, .instanceMethod yX3_reduce, .selects RX3 yX3_reduce yX3_reduce, .initialized RX3, .code yX3_reduce cX3_reduce 12 none, .fieldLink RX3 19 "HandsHall$Odds" "upper" "J", .fieldLink RX3 9 "HandsHall$Odds" "lower" "J"] ++ wsX30)
def wsX3_choose : List Cond := .code yX3_choose cX3_choose 5 (some .long) :: ([])
def wsX3_dealtAtLeast : List Cond := .code yX3_dealtAtLeast cX3_dealtAtLeast 8 none :: ([.methodLink RX3 30 yX3_choose, .static yX3_choose, .initialized RX3, .code yX3_choose cX3_choose 5 (some .long), .methodLink RX3 26 yX3_reduce, .instanceMethod yX3_reduce, .selects RX3 yX3_reduce yX3_reduce, .code yX3_reduce cX3_reduce 12 none, .fieldLink RX3 19 "HandsHall$Odds" "upper" "J", .fieldLink RX3 9 "HandsHall$Odds" "lower" "J"] ++ wsX30)
def wsX3_power : List Cond := .code yX3_power cX3_power 5 (some .long) :: ([])
def wsX3_greaterPart : List Cond := .code yX3_greaterPart cX3_greaterPart 5 (some .long) :: ([.methodLink RX3 30 yX3_choose, .static yX3_choose, .initialized RX3, .code yX3_choose cX3_choose 5 (some .long), .methodLink RX3 34 yX3_power, .static yX3_power, .code yX3_power cX3_power 5 (some .long)])
def wsX4_init : List Cond := .code yX4_init cX4_init 1 none :: ([.methodLink RX4 3 objectInit, .instanceMethod objectInit, .code objectInit ⟨#[0xb1]⟩ 1 none, .arrayClass .int, .fieldLink RX4 11 "HandsHall$Pay" "right" "[I", .fieldLink RX4 15 "HandsHall$Pay" "wrong" "[I"] ++ wsX40)
def wsX4_allows : List Cond := .code yX4_allows cX4_allows 1 (some .boolean) :: ([])
def wsX4_brings : List Cond := .code yX4_brings cX4_brings 3 (some .int) :: ([.fieldLink RX4 11 "HandsHall$Pay" "right" "[I", .fieldLink RX4 15 "HandsHall$Pay" "wrong" "[I"] ++ wsX40)
def wsX4_bestSaying : List Cond := .code yX4_bestSaying cX4_bestSaying 4 (some .int) :: ([.methodLink RX4 18 yX4_brings, .instanceMethod yX4_brings, .selects RX4 yX4_brings yX4_brings, .initialized RX4, .code yX4_brings cX4_brings 3 (some .int), .fieldLink RX4 11 "HandsHall$Pay" "right" "[I", .fieldLink RX4 15 "HandsHall$Pay" "wrong" "[I"] ++ wsX40)
def wsX4_firstUntrue : List Cond := .code yX4_firstUntrue cX4_firstUntrue 2 (some .int) :: ([.methodLink RX4 22 yX4_bestSaying, .instanceMethod yX4_bestSaying, .selects RX4 yX4_bestSaying yX4_bestSaying, .initialized RX4, .code yX4_bestSaying cX4_bestSaying 4 (some .int), .methodLink RX4 18 yX4_brings, .instanceMethod yX4_brings, .selects RX4 yX4_brings yX4_brings, .code yX4_brings cX4_brings 3 (some .int), .fieldLink RX4 11 "HandsHall$Pay" "right" "[I", .fieldLink RX4 15 "HandsHall$Pay" "wrong" "[I"] ++ wsX40)
def wsX5_init : List Cond := .code yX5_init cX5_init 1 none :: ([.methodLink RX5 1 objectInit, .instanceMethod objectInit, .code objectInit ⟨#[0xb1]⟩ 1 none, .fieldLink RX5 7 "HandsHall$Rules" "FIRST" "[I", .arrayClass .int, .fieldLink RX5 13 "HandsHall$Rules" "value" "[I", .methodLink RX5 16 arraycopyName, .native arraycopyName, .static arraycopyName, .initialized "java/lang/System"] ++ wsX50)
def wsX5_allows : List Cond := .code yX5_allows cX5_allows 2 (some .boolean) :: ([.fieldLink RX5 7 "HandsHall$Rules" "FIRST" "[I", .fieldLink RX5 22 "HandsHall$Rules" "LOWEST" "[I", .fieldLink RX5 25 "HandsHall$Rules" "HIGHEST" "[I"])
def wsX6_init : List Cond := .code yX6_init cX6_init 1 none :: ([.methodLink RX6 3 objectInit, .instanceMethod objectInit, .code objectInit ⟨#[0xb1]⟩ 1 none, .arrayClass .int, .fieldLink RX6 9 "HandsHall$Steps" "name" "[I", .fieldLink RX6 15 "HandsHall$Steps" "labels" "[I", .fieldLink RX6 18 "HandsHall$Steps" "needs" "[I", .fieldLink RX6 21 "HandsHall$Steps" "number" "[I"] ++ wsX60)
def wsX6_has : List Cond := .code yX6_has cX6_has 2 (some .boolean) :: ([.fieldLink RX6 24 "HandsHall$Steps" "count" "I"] ++ wsX60)
def wsX6_named : List Cond := .code yX6_named cX6_named 4 (some .int) :: ([.fieldLink RX6 9 "HandsHall$Steps" "name" "[I"] ++ wsX60)
def wsX6_add : List Cond := .code yX6_add cX6_add 2 none :: ([.fieldLink RX6 9 "HandsHall$Steps" "name" "[I", .fieldLink RX6 24 "HandsHall$Steps" "count" "I", .fieldLink RX6 15 "HandsHall$Steps" "labels" "[I", .fieldLink RX6 18 "HandsHall$Steps" "needs" "[I", .fieldLink RX6 21 "HandsHall$Steps" "number" "[I"] ++ wsX60)
def wsX6_copy : List Cond := .code yX6_copy cX6_copy 2 none :: ([.fieldLink RX6 24 "HandsHall$Steps" "count" "I", .fieldLink RX6 9 "HandsHall$Steps" "name" "[I", .methodLink RX6 28 arraycopyName, .native arraycopyName, .static arraycopyName, .initialized "java/lang/System", .fieldLink RX6 15 "HandsHall$Steps" "labels" "[I", .fieldLink RX6 18 "HandsHall$Steps" "needs" "[I", .fieldLink RX6 21 "HandsHall$Steps" "number" "[I"] ++ wsX60)
def wsX7_init : List Cond := .code yX7_init cX7_init 1 none :: ([.methodLink RX7 3 objectInit, .instanceMethod objectInit, .code objectInit ⟨#[0xb1]⟩ 1 none, .classLink RX7 9 RX6, .instantiable RX6 5, .initialized RX6, .fieldLink RX7 12 "HandsHall$Text" "draft" "LHandsHall$Steps;", .arrayClass .int, .fieldLink RX7 18 "HandsHall$Text" "signs" "[I", .methodLink RX7 11 yX6_init, .instanceMethod yX6_init, .code yX6_init cX6_init 1 none, .methodLink RX6 3 objectInit, .fieldLink RX6 9 "HandsHall$Steps" "name" "[I", .fieldLink RX6 15 "HandsHall$Steps" "labels" "[I", .fieldLink RX6 18 "HandsHall$Steps" "needs" "[I", .fieldLink RX6 21 "HandsHall$Steps" "number" "[I"] ++ wsX60 ++ wsX70)
def wsX7_add : List Cond := .code yX7_add cX7_add 2 (some .boolean) :: ([.fieldLink RX7 22 "HandsHall$Text" "count" "I", .fieldLink RX7 18 "HandsHall$Text" "signs" "[I"] ++ wsX70)
def wsX7_goesOn : List Cond := .code yX7_goesOn cX7_goesOn 3 (some .boolean) :: ([.fieldLink RX7 27 "HandsHall$Text" "stage" "I"] ++ wsX70)
def wsX7_takesName_r1 : List Cond := [Cond.fieldLink RX7 12 "HandsHall$Text" "draft" "LHandsHall$Steps;", Cond.fieldLink RX7 26 "HandsHall$Steps" "count" "I", Cond.fieldLink RX7 44 "HandsHall$Text" "current" "I", Cond.fieldLink RX7 61 "HandsHall$Text" "latestNeed" "I", Cond.fieldLink RX7 64 "HandsHall$Text" "digits" "I", Cond.methodLink RX7 53 yX6_named, Cond.instanceMethod yX6_named, Cond.selects RX6 yX6_named yX6_named, Cond.initialized RX6, Cond.code yX6_named cX6_named 4 (some .int), Cond.fieldLink RX6 9 "HandsHall$Steps" "name" "[I", Cond.methodLink RX7 57 yX6_add, Cond.instanceMethod yX6_add, Cond.selects RX6 yX6_add yX6_add, Cond.code yX6_add cX6_add 2 none, Cond.fieldLink RX6 24 "HandsHall$Steps" "count" "I", Cond.fieldLink RX6 15 "HandsHall$Steps" "labels" "[I", Cond.fieldLink RX6 18 "HandsHall$Steps" "needs" "[I", Cond.fieldLink RX6 21 "HandsHall$Steps" "number" "[I", Cond.methodLink RX7 37 yX7_goesOn, Cond.instanceMethod yX7_goesOn, Cond.selects RX7 yX7_goesOn yX7_goesOn, Cond.initialized RX7, Cond.code yX7_goesOn cX7_goesOn 3 (some .boolean)]
def wsX7_takesName_r2 : List Cond := [Cond.fieldLink RX7 27 "HandsHall$Text" "stage" "I"]
def wsX7_takesName : List Cond := .code yX7_takesName cX7_takesName 2 (some .boolean) :: ((wsX7_takesName_r1 ++ wsX7_takesName_r2) ++ wsX70 ++ wsX60)
def wsX7_takesLabels : List Cond := .code yX7_takesLabels cX7_takesLabels 2 (some .boolean) :: ([.fieldLink RX7 12 "HandsHall$Text" "draft" "LHandsHall$Steps;", .fieldLink RX7 67 "HandsHall$Steps" "labels" "[I", .fieldLink RX7 44 "HandsHall$Text" "current" "I", .methodLink RX7 37 yX7_goesOn, .instanceMethod yX7_goesOn, .selects RX7 yX7_goesOn yX7_goesOn, .initialized RX7, .code yX7_goesOn cX7_goesOn 3 (some .boolean), .fieldLink RX7 27 "HandsHall$Text" "stage" "I"] ++ wsX70 ++ wsX60)
def wsX7_takesNeed : List Cond := .code yX7_takesNeed cX7_takesNeed 3 (some .boolean) :: ([.fieldLink RX7 12 "HandsHall$Text" "draft" "LHandsHall$Steps;", .fieldLink RX7 44 "HandsHall$Text" "current" "I", .fieldLink RX7 61 "HandsHall$Text" "latestNeed" "I", .fieldLink RX7 70 "HandsHall$Steps" "needs" "[I", .methodLink RX7 53 yX6_named, .instanceMethod yX6_named, .selects RX6 yX6_named yX6_named, .initialized RX6, .code yX6_named cX6_named 4 (some .int), .fieldLink RX6 9 "HandsHall$Steps" "name" "[I", .methodLink RX7 37 yX7_goesOn, .instanceMethod yX7_goesOn, .selects RX7 yX7_goesOn yX7_goesOn, .initialized RX7, .code yX7_goesOn cX7_goesOn 3 (some .boolean), .fieldLink RX7 27 "HandsHall$Text" "stage" "I"] ++ wsX70 ++ wsX60)
def wsX7_takesDigit : List Cond := .code yX7_takesDigit cX7_takesDigit 2 (some .boolean) :: ([.fieldLink RX7 64 "HandsHall$Text" "digits" "I", .fieldLink RX7 12 "HandsHall$Text" "draft" "LHandsHall$Steps;", .fieldLink RX7 73 "HandsHall$Steps" "number" "[I", .fieldLink RX7 44 "HandsHall$Text" "current" "I", .methodLink RX7 37 yX7_goesOn, .instanceMethod yX7_goesOn, .selects RX7 yX7_goesOn yX7_goesOn, .initialized RX7, .code yX7_goesOn cX7_goesOn 3 (some .boolean), .fieldLink RX7 27 "HandsHall$Text" "stage" "I"] ++ wsX70 ++ wsX60)
def wsX7_takes_r1 : List Cond := [Cond.fieldLink RX7 27 "HandsHall$Text" "stage" "I", Cond.fieldLink RX7 44 "HandsHall$Text" "current" "I", Cond.fieldLink RX7 12 "HandsHall$Text" "draft" "LHandsHall$Steps;", Cond.fieldLink RX7 26 "HandsHall$Steps" "count" "I", Cond.methodLink RX7 34 yX7_takesName, Cond.instanceMethod yX7_takesName, Cond.selects RX7 yX7_takesName yX7_takesName, Cond.initialized RX7, Cond.code yX7_takesName cX7_takesName 2 (some .boolean), Cond.fieldLink RX7 61 "HandsHall$Text" "latestNeed" "I", Cond.fieldLink RX7 64 "HandsHall$Text" "digits" "I", Cond.methodLink RX7 53 yX6_named, Cond.instanceMethod yX6_named, Cond.selects RX6 yX6_named yX6_named, Cond.initialized RX6, Cond.code yX6_named cX6_named 4 (some .int), Cond.fieldLink RX6 9 "HandsHall$Steps" "name" "[I", Cond.methodLink RX7 57 yX6_add, Cond.instanceMethod yX6_add, Cond.selects RX6 yX6_add yX6_add, Cond.code yX6_add cX6_add 2 none, Cond.fieldLink RX6 24 "HandsHall$Steps" "count" "I", Cond.fieldLink RX6 15 "HandsHall$Steps" "labels" "[I", Cond.fieldLink RX6 18 "HandsHall$Steps" "needs" "[I"]
def wsX7_takes_r2 : List Cond := [Cond.fieldLink RX6 21 "HandsHall$Steps" "number" "[I", Cond.methodLink RX7 37 yX7_goesOn, Cond.instanceMethod yX7_goesOn, Cond.selects RX7 yX7_goesOn yX7_goesOn, Cond.code yX7_goesOn cX7_goesOn 3 (some .boolean), Cond.methodLink RX7 41 yX7_takesLabels, Cond.instanceMethod yX7_takesLabels, Cond.selects RX7 yX7_takesLabels yX7_takesLabels, Cond.code yX7_takesLabels cX7_takesLabels 2 (some .boolean), Cond.fieldLink RX7 67 "HandsHall$Steps" "labels" "[I", Cond.methodLink RX7 47 yX7_takesNeed, Cond.instanceMethod yX7_takesNeed, Cond.selects RX7 yX7_takesNeed yX7_takesNeed, Cond.code yX7_takesNeed cX7_takesNeed 3 (some .boolean), Cond.fieldLink RX7 70 "HandsHall$Steps" "needs" "[I", Cond.methodLink RX7 50 yX7_takesDigit, Cond.instanceMethod yX7_takesDigit, Cond.selects RX7 yX7_takesDigit yX7_takesDigit, Cond.code yX7_takesDigit cX7_takesDigit 2 (some .boolean), Cond.fieldLink RX7 73 "HandsHall$Steps" "number" "[I"]
def wsX7_takes : List Cond := .code yX7_takes cX7_takes 2 (some .boolean) :: ((wsX7_takes_r1 ++ wsX7_takes_r2) ++ wsX70 ++ wsX60)
def wsX7_read_r1 : List Cond := [Cond.fieldLink RX7 12 "HandsHall$Text" "draft" "LHandsHall$Steps;", Cond.fieldLink RX7 26 "HandsHall$Steps" "count" "I", Cond.fieldLink RX7 27 "HandsHall$Text" "stage" "I", Cond.fieldLink RX7 22 "HandsHall$Text" "count" "I", Cond.fieldLink RX7 18 "HandsHall$Text" "signs" "[I", Cond.methodLink RX7 30 yX7_takes, Cond.instanceMethod yX7_takes, Cond.selects RX7 yX7_takes yX7_takes, Cond.initialized RX7, Cond.code yX7_takes cX7_takes 2 (some .boolean), Cond.fieldLink RX7 44 "HandsHall$Text" "current" "I", Cond.methodLink RX7 34 yX7_takesName, Cond.instanceMethod yX7_takesName, Cond.selects RX7 yX7_takesName yX7_takesName, Cond.code yX7_takesName cX7_takesName 2 (some .boolean), Cond.fieldLink RX7 61 "HandsHall$Text" "latestNeed" "I", Cond.fieldLink RX7 64 "HandsHall$Text" "digits" "I", Cond.methodLink RX7 53 yX6_named, Cond.instanceMethod yX6_named, Cond.selects RX6 yX6_named yX6_named, Cond.initialized RX6, Cond.code yX6_named cX6_named 4 (some .int), Cond.fieldLink RX6 9 "HandsHall$Steps" "name" "[I", Cond.methodLink RX7 57 yX6_add]
def wsX7_read_r2 : List Cond := [Cond.instanceMethod yX6_add, Cond.selects RX6 yX6_add yX6_add, Cond.code yX6_add cX6_add 2 none, Cond.fieldLink RX6 24 "HandsHall$Steps" "count" "I", Cond.fieldLink RX6 15 "HandsHall$Steps" "labels" "[I", Cond.fieldLink RX6 18 "HandsHall$Steps" "needs" "[I", Cond.fieldLink RX6 21 "HandsHall$Steps" "number" "[I", Cond.methodLink RX7 37 yX7_goesOn, Cond.instanceMethod yX7_goesOn, Cond.selects RX7 yX7_goesOn yX7_goesOn, Cond.code yX7_goesOn cX7_goesOn 3 (some .boolean), Cond.methodLink RX7 41 yX7_takesLabels, Cond.instanceMethod yX7_takesLabels, Cond.selects RX7 yX7_takesLabels yX7_takesLabels, Cond.code yX7_takesLabels cX7_takesLabels 2 (some .boolean), Cond.fieldLink RX7 67 "HandsHall$Steps" "labels" "[I", Cond.methodLink RX7 47 yX7_takesNeed, Cond.instanceMethod yX7_takesNeed, Cond.selects RX7 yX7_takesNeed yX7_takesNeed, Cond.code yX7_takesNeed cX7_takesNeed 3 (some .boolean), Cond.fieldLink RX7 70 "HandsHall$Steps" "needs" "[I", Cond.methodLink RX7 50 yX7_takesDigit, Cond.instanceMethod yX7_takesDigit, Cond.selects RX7 yX7_takesDigit yX7_takesDigit]
def wsX7_read_r3 : List Cond := [Cond.code yX7_takesDigit cX7_takesDigit 2 (some .boolean), Cond.fieldLink RX7 73 "HandsHall$Steps" "number" "[I"]
def wsX7_read : List Cond := .code yX7_read cX7_read 2 (some .int) :: ((wsX7_read_r1 ++ (wsX7_read_r2 ++ wsX7_read_r3)) ++ wsX70 ++ wsX60)
def wsX8_init_r1 : List Cond := [Cond.methodLink RX8 1 objectInit, Cond.instanceMethod objectInit, Cond.code objectInit ⟨#[0xb1]⟩ 1 none, Cond.classLink RX8 7 RX7, Cond.instantiable RX7 7, Cond.initialized RX7, Cond.fieldLink RX8 10 "HandsHall" "text" "LHandsHall$Text;", Cond.classLink RX8 16 RX6, Cond.instantiable RX6 5, Cond.initialized RX6, Cond.fieldLink RX8 19 "HandsHall" "steps" "LHandsHall$Steps;", Cond.classLink RX8 23 RX1, Cond.instantiable RX1 7, Cond.initialized RX1, Cond.fieldLink RX8 26 "HandsHall" "items" "LHandsHall$Items;", Cond.classLink RX8 30 RX0, Cond.instantiable RX0 4, Cond.initialized RX0, Cond.fieldLink RX8 33 "HandsHall" "hands" "LHandsHall$Hands;", Cond.classLink RX8 37 RX5, Cond.instantiable RX5 1, Cond.initialized RX5, Cond.fieldLink RX8 40 "HandsHall" "rules" "LHandsHall$Rules;", Cond.classLink RX8 44 RX2]
def wsX8_init_r2 : List Cond := [Cond.instantiable RX2 9, Cond.initialized RX2, Cond.fieldLink RX8 49 "HandsHall" "latest" "LHandsHall$Joining;", Cond.fieldLink RX8 53 "HandsHall" "trial" "LHandsHall$Joining;", Cond.classLink RX8 56 RX3, Cond.instantiable RX3 4, Cond.initialized RX3, Cond.fieldLink RX8 59 "HandsHall" "odds" "LHandsHall$Odds;", Cond.classLink RX8 63 RX4, Cond.instantiable RX4 2, Cond.initialized RX4, Cond.fieldLink RX8 66 "HandsHall" "pay" "LHandsHall$Pay;", Cond.fieldLink RX8 70 "HandsHall" "handsJoined" "I", Cond.fieldLink RX8 74 "HandsHall" "bestItem" "I", Cond.fieldLink RX8 77 "HandsHall" "bestHand" "I", Cond.fieldLink RX8 80 "HandsHall" "bestHelp" "I", Cond.methodLink RX8 9 yX7_init, Cond.instanceMethod yX7_init, Cond.code yX7_init cX7_init 1 none, Cond.methodLink RX7 3 objectInit, Cond.classLink RX7 9 RX6, Cond.fieldLink RX7 12 "HandsHall$Text" "draft" "LHandsHall$Steps;", Cond.arrayClass .int, Cond.fieldLink RX7 18 "HandsHall$Text" "signs" "[I"]
def wsX8_init_r3 : List Cond := [Cond.methodLink RX7 11 yX6_init, Cond.instanceMethod yX6_init, Cond.code yX6_init cX6_init 1 none, Cond.methodLink RX6 3 objectInit, Cond.fieldLink RX6 9 "HandsHall$Steps" "name" "[I", Cond.fieldLink RX6 15 "HandsHall$Steps" "labels" "[I", Cond.fieldLink RX6 18 "HandsHall$Steps" "needs" "[I", Cond.fieldLink RX6 21 "HandsHall$Steps" "number" "[I", Cond.methodLink RX8 18 yX6_init, Cond.methodLink RX8 25 yX1_init, Cond.instanceMethod yX1_init, Cond.code yX1_init cX1_init 1 none, Cond.methodLink RX1 3 objectInit, Cond.fieldLink RX1 9 "HandsHall$Items" "step" "[I", Cond.fieldLink RX1 15 "HandsHall$Items" "thing" "[I", Cond.fieldLink RX1 18 "HandsHall$Items" "labels" "[I", Cond.fieldLink RX1 21 "HandsHall$Items" "known" "[I", Cond.fieldLink RX1 24 "HandsHall$Items" "settled" "[I", Cond.fieldLink RX1 27 "HandsHall$Items" "parts" "[I", Cond.methodLink RX8 32 yX0_init, Cond.instanceMethod yX0_init, Cond.code yX0_init cX0_init 1 none, Cond.methodLink RX0 3 objectInit, Cond.arrayClass .boolean]
def wsX8_init_r4 : List Cond := [Cond.fieldLink RX0 9 "HandsHall$Hands" "out" "[Z", Cond.fieldLink RX0 15 "HandsHall$Hands" "version" "[I", Cond.classLink RX0 19 "[[I", Cond.fieldLink RX0 21 "HandsHall$Hands" "said" "[[I", Cond.methodLink RX8 39 yX5_init, Cond.instanceMethod yX5_init, Cond.code yX5_init cX5_init 1 none, Cond.methodLink RX5 1 objectInit, Cond.fieldLink RX5 7 "HandsHall$Rules" "FIRST" "[I", Cond.fieldLink RX5 13 "HandsHall$Rules" "value" "[I", Cond.methodLink RX5 16 arraycopyName, Cond.native arraycopyName, Cond.static arraycopyName, Cond.initialized "java/lang/System", Cond.methodLink RX8 46 yX2_init, Cond.instanceMethod yX2_init, Cond.code yX2_init cX2_init 4 none, Cond.methodLink RX2 5 objectInit, Cond.fieldLink RX2 11 "HandsHall$Joining" "items" "LHandsHall$Items;", Cond.fieldLink RX2 15 "HandsHall$Joining" "hands" "LHandsHall$Hands;", Cond.fieldLink RX2 19 "HandsHall$Joining" "rules" "LHandsHall$Rules;", Cond.classLink RX2 23 "[[I", Cond.fieldLink RX2 25 "HandsHall$Joining" "shares" "[[I", Cond.fieldLink RX2 28 "HandsHall$Joining" "numbers" "[[I"]
def wsX8_init_r5 : List Cond := [Cond.arrayClass .long, Cond.fieldLink RX2 31 "HandsHall$Joining" "sums" "[J", Cond.fieldLink RX2 35 "HandsHall$Joining" "fresh" "[J", Cond.fieldLink RX2 38 "HandsHall$Joining" "weighed" "[J", Cond.fieldLink RX2 41 "HandsHall$Joining" "keptEnds" "[I", Cond.methodLink RX8 58 yX3_init, Cond.instanceMethod yX3_init, Cond.code yX3_init cX3_init 1 none, Cond.methodLink RX3 3 objectInit, Cond.fieldLink RX3 9 "HandsHall$Odds" "lower" "J", Cond.fieldLink RX3 15 "HandsHall$Odds" "ways" "[J", Cond.methodLink RX8 65 yX4_init, Cond.instanceMethod yX4_init, Cond.code yX4_init cX4_init 1 none, Cond.methodLink RX4 3 objectInit, Cond.fieldLink RX4 11 "HandsHall$Pay" "right" "[I", Cond.fieldLink RX4 15 "HandsHall$Pay" "wrong" "[I"]
def wsX8_init : List Cond := .code yX8_init cX8_init 1 none :: ((wsX8_init_r1 ++ (wsX8_init_r2 ++ (wsX8_init_r3 ++ (wsX8_init_r4 ++ wsX8_init_r5)))) ++ wsX70 ++ wsX80 ++ wsX60 ++ wsX10 ++ wsX00 ++ wsX50 ++ wsX20 ++ wsX30 ++ wsX40)
def wsX8_say : List Cond := .code yX8_say cX8_say 2 (some .int) :: ([.fieldLink RX8 10 "HandsHall" "text" "LHandsHall$Text;", .fieldLink RX8 87 "HandsHall$Text" "count" "I", .methodLink RX8 83 yX7_add, .instanceMethod yX7_add, .selects RX7 yX7_add yX7_add, .initialized RX7, .code yX7_add cX7_add 2 (some .boolean), .fieldLink RX7 22 "HandsHall$Text" "count" "I", .fieldLink RX7 18 "HandsHall$Text" "signs" "[I"] ++ wsX80 ++ wsX70)
def wsX8_wipe : List Cond := .code yX8_wipe cX8_wipe 2 (some .int) :: ([.fieldLink RX8 10 "HandsHall" "text" "LHandsHall$Text;", .fieldLink RX8 87 "HandsHall$Text" "count" "I"] ++ wsX80 ++ wsX70)
def wsX8_fault_r1 : List Cond := [Cond.fieldLink RX8 10 "HandsHall" "text" "LHandsHall$Text;", Cond.methodLink RX8 90 yX7_read, Cond.instanceMethod yX7_read, Cond.selects RX7 yX7_read yX7_read, Cond.initialized RX7, Cond.code yX7_read cX7_read 2 (some .int), Cond.fieldLink RX7 12 "HandsHall$Text" "draft" "LHandsHall$Steps;", Cond.fieldLink RX7 26 "HandsHall$Steps" "count" "I", Cond.fieldLink RX7 27 "HandsHall$Text" "stage" "I", Cond.fieldLink RX7 22 "HandsHall$Text" "count" "I", Cond.fieldLink RX7 18 "HandsHall$Text" "signs" "[I", Cond.methodLink RX7 30 yX7_takes, Cond.instanceMethod yX7_takes, Cond.selects RX7 yX7_takes yX7_takes, Cond.code yX7_takes cX7_takes 2 (some .boolean), Cond.fieldLink RX7 44 "HandsHall$Text" "current" "I", Cond.methodLink RX7 34 yX7_takesName, Cond.instanceMethod yX7_takesName, Cond.selects RX7 yX7_takesName yX7_takesName, Cond.code yX7_takesName cX7_takesName 2 (some .boolean), Cond.fieldLink RX7 61 "HandsHall$Text" "latestNeed" "I", Cond.fieldLink RX7 64 "HandsHall$Text" "digits" "I", Cond.methodLink RX7 53 yX6_named, Cond.instanceMethod yX6_named]
def wsX8_fault_r2 : List Cond := [Cond.selects RX6 yX6_named yX6_named, Cond.initialized RX6, Cond.code yX6_named cX6_named 4 (some .int), Cond.fieldLink RX6 9 "HandsHall$Steps" "name" "[I", Cond.methodLink RX7 57 yX6_add, Cond.instanceMethod yX6_add, Cond.selects RX6 yX6_add yX6_add, Cond.code yX6_add cX6_add 2 none, Cond.fieldLink RX6 24 "HandsHall$Steps" "count" "I", Cond.fieldLink RX6 15 "HandsHall$Steps" "labels" "[I", Cond.fieldLink RX6 18 "HandsHall$Steps" "needs" "[I", Cond.fieldLink RX6 21 "HandsHall$Steps" "number" "[I", Cond.methodLink RX7 37 yX7_goesOn, Cond.instanceMethod yX7_goesOn, Cond.selects RX7 yX7_goesOn yX7_goesOn, Cond.code yX7_goesOn cX7_goesOn 3 (some .boolean), Cond.methodLink RX7 41 yX7_takesLabels, Cond.instanceMethod yX7_takesLabels, Cond.selects RX7 yX7_takesLabels yX7_takesLabels, Cond.code yX7_takesLabels cX7_takesLabels 2 (some .boolean), Cond.fieldLink RX7 67 "HandsHall$Steps" "labels" "[I", Cond.methodLink RX7 47 yX7_takesNeed, Cond.instanceMethod yX7_takesNeed, Cond.selects RX7 yX7_takesNeed yX7_takesNeed]
def wsX8_fault_r3 : List Cond := [Cond.code yX7_takesNeed cX7_takesNeed 3 (some .boolean), Cond.fieldLink RX7 70 "HandsHall$Steps" "needs" "[I", Cond.methodLink RX7 50 yX7_takesDigit, Cond.instanceMethod yX7_takesDigit, Cond.selects RX7 yX7_takesDigit yX7_takesDigit, Cond.code yX7_takesDigit cX7_takesDigit 2 (some .boolean), Cond.fieldLink RX7 73 "HandsHall$Steps" "number" "[I"]
def wsX8_fault : List Cond := .code yX8_fault cX8_fault 1 (some .int) :: ((wsX8_fault_r1 ++ (wsX8_fault_r2 ++ wsX8_fault_r3)) ++ wsX80 ++ wsX70 ++ wsX60)
def wsX8_task_r1 : List Cond := [Cond.fieldLink RX8 10 "HandsHall" "text" "LHandsHall$Text;", Cond.fieldLink RX8 19 "HandsHall" "steps" "LHandsHall$Steps;", Cond.fieldLink RX8 94 "HandsHall$Text" "draft" "LHandsHall$Steps;", Cond.fieldLink RX8 87 "HandsHall$Text" "count" "I", Cond.fieldLink RX8 26 "HandsHall" "items" "LHandsHall$Items;", Cond.fieldLink RX8 101 "HandsHall$Items" "count" "I", Cond.fieldLink RX8 33 "HandsHall" "hands" "LHandsHall$Hands;", Cond.fieldLink RX8 102 "HandsHall$Hands" "count" "I", Cond.fieldLink RX8 70 "HandsHall" "handsJoined" "I", Cond.fieldLink RX8 103 "HandsHall$Steps" "count" "I", Cond.methodLink RX8 90 yX7_read, Cond.instanceMethod yX7_read, Cond.selects RX7 yX7_read yX7_read, Cond.initialized RX7, Cond.code yX7_read cX7_read 2 (some .int), Cond.fieldLink RX7 12 "HandsHall$Text" "draft" "LHandsHall$Steps;", Cond.fieldLink RX7 26 "HandsHall$Steps" "count" "I", Cond.fieldLink RX7 27 "HandsHall$Text" "stage" "I", Cond.fieldLink RX7 22 "HandsHall$Text" "count" "I", Cond.fieldLink RX7 18 "HandsHall$Text" "signs" "[I", Cond.methodLink RX7 30 yX7_takes, Cond.instanceMethod yX7_takes, Cond.selects RX7 yX7_takes yX7_takes, Cond.code yX7_takes cX7_takes 2 (some .boolean)]
def wsX8_task_r2 : List Cond := [Cond.fieldLink RX7 44 "HandsHall$Text" "current" "I", Cond.methodLink RX7 34 yX7_takesName, Cond.instanceMethod yX7_takesName, Cond.selects RX7 yX7_takesName yX7_takesName, Cond.code yX7_takesName cX7_takesName 2 (some .boolean), Cond.fieldLink RX7 61 "HandsHall$Text" "latestNeed" "I", Cond.fieldLink RX7 64 "HandsHall$Text" "digits" "I", Cond.methodLink RX7 53 yX6_named, Cond.instanceMethod yX6_named, Cond.selects RX6 yX6_named yX6_named, Cond.initialized RX6, Cond.code yX6_named cX6_named 4 (some .int), Cond.fieldLink RX6 9 "HandsHall$Steps" "name" "[I", Cond.methodLink RX7 57 yX6_add, Cond.instanceMethod yX6_add, Cond.selects RX6 yX6_add yX6_add, Cond.code yX6_add cX6_add 2 none, Cond.fieldLink RX6 24 "HandsHall$Steps" "count" "I", Cond.fieldLink RX6 15 "HandsHall$Steps" "labels" "[I", Cond.fieldLink RX6 18 "HandsHall$Steps" "needs" "[I", Cond.fieldLink RX6 21 "HandsHall$Steps" "number" "[I", Cond.methodLink RX7 37 yX7_goesOn, Cond.instanceMethod yX7_goesOn, Cond.selects RX7 yX7_goesOn yX7_goesOn]
def wsX8_task_r3 : List Cond := [Cond.code yX7_goesOn cX7_goesOn 3 (some .boolean), Cond.methodLink RX7 41 yX7_takesLabels, Cond.instanceMethod yX7_takesLabels, Cond.selects RX7 yX7_takesLabels yX7_takesLabels, Cond.code yX7_takesLabels cX7_takesLabels 2 (some .boolean), Cond.fieldLink RX7 67 "HandsHall$Steps" "labels" "[I", Cond.methodLink RX7 47 yX7_takesNeed, Cond.instanceMethod yX7_takesNeed, Cond.selects RX7 yX7_takesNeed yX7_takesNeed, Cond.code yX7_takesNeed cX7_takesNeed 3 (some .boolean), Cond.fieldLink RX7 70 "HandsHall$Steps" "needs" "[I", Cond.methodLink RX7 50 yX7_takesDigit, Cond.instanceMethod yX7_takesDigit, Cond.selects RX7 yX7_takesDigit yX7_takesDigit, Cond.code yX7_takesDigit cX7_takesDigit 2 (some .boolean), Cond.fieldLink RX7 73 "HandsHall$Steps" "number" "[I", Cond.methodLink RX8 97 yX6_copy, Cond.instanceMethod yX6_copy, Cond.selects RX6 yX6_copy yX6_copy, Cond.code yX6_copy cX6_copy 2 none, Cond.methodLink RX6 28 arraycopyName, Cond.native arraycopyName, Cond.static arraycopyName, Cond.initialized "java/lang/System"]
def wsX8_task : List Cond := .code yX8_task cX8_task 1 (some .int) :: ((wsX8_task_r1 ++ (wsX8_task_r2 ++ wsX8_task_r3)) ++ wsX80 ++ wsX70 ++ wsX10 ++ wsX00 ++ wsX60)
def wsX8_step : List Cond := .code yX8_step cX8_step 3 (some .int) :: ([.fieldLink RX8 19 "HandsHall" "steps" "LHandsHall$Steps;", .fieldLink RX8 107 "HandsHall$Steps" "name" "[I", .fieldLink RX8 111 "HandsHall$Steps" "labels" "[I", .fieldLink RX8 114 "HandsHall$Steps" "needs" "[I", .fieldLink RX8 117 "HandsHall$Steps" "number" "[I", .methodLink RX8 104 yX6_has, .instanceMethod yX6_has, .selects RX6 yX6_has yX6_has, .initialized RX6, .code yX6_has cX6_has 2 (some .boolean), .fieldLink RX6 24 "HandsHall$Steps" "count" "I"] ++ wsX80 ++ wsX60)
def wsX8_item_r1 : List Cond := [Cond.fieldLink RX8 19 "HandsHall" "steps" "LHandsHall$Steps;", Cond.fieldLink RX8 26 "HandsHall" "items" "LHandsHall$Items;", Cond.fieldLink RX8 101 "HandsHall$Items" "count" "I", Cond.fieldLink RX8 111 "HandsHall$Steps" "labels" "[I", Cond.fieldLink RX8 49 "HandsHall" "latest" "LHandsHall$Joining;", Cond.methodLink RX8 104 yX6_has, Cond.instanceMethod yX6_has, Cond.selects RX6 yX6_has yX6_has, Cond.initialized RX6, Cond.code yX6_has cX6_has 2 (some .boolean), Cond.fieldLink RX6 24 "HandsHall$Steps" "count" "I", Cond.methodLink RX8 120 yX1_find, Cond.instanceMethod yX1_find, Cond.selects RX1 yX1_find yX1_find, Cond.initialized RX1, Cond.code yX1_find cX1_find 4 (some .int), Cond.fieldLink RX1 30 "HandsHall$Items" "count" "I", Cond.fieldLink RX1 9 "HandsHall$Items" "step" "[I", Cond.fieldLink RX1 15 "HandsHall$Items" "thing" "[I", Cond.methodLink RX8 124 yX1_add, Cond.instanceMethod yX1_add, Cond.selects RX1 yX1_add yX1_add, Cond.code yX1_add cX1_add 5 (some .int), Cond.fieldLink RX1 18 "HandsHall$Items" "labels" "[I"]
def wsX8_item_r2 : List Cond := [Cond.fieldLink RX1 21 "HandsHall$Items" "known" "[I", Cond.fieldLink RX1 24 "HandsHall$Items" "settled" "[I", Cond.fieldLink RX1 27 "HandsHall$Items" "parts" "[I", Cond.methodLink RX8 127 yX2_startAlike, Cond.instanceMethod yX2_startAlike, Cond.selects RX2 yX2_startAlike yX2_startAlike, Cond.initialized RX2, Cond.code yX2_startAlike cX2_startAlike 4 none, Cond.fieldLink RX2 11 "HandsHall$Joining" "items" "LHandsHall$Items;", Cond.fieldLink RX2 73 "HandsHall$Items" "labels" "[I", Cond.fieldLink RX2 25 "HandsHall$Joining" "shares" "[[I", Cond.constant RX2 76 (1000000)]
def wsX8_item : List Cond := .code yX8_item cX8_item 4 (some .int) :: ((wsX8_item_r1 ++ wsX8_item_r2) ++ wsX80 ++ wsX10 ++ wsX60 ++ wsX20)
def wsX8_known_r1 : List Cond := [Cond.fieldLink RX8 26 "HandsHall" "items" "LHandsHall$Items;", Cond.fieldLink RX8 33 "HandsHall" "hands" "LHandsHall$Hands;", Cond.fieldLink RX8 141 "HandsHall$Items" "known" "[I", Cond.fieldLink RX8 49 "HandsHall" "latest" "LHandsHall$Joining;", Cond.methodLink RX8 131 yX1_hasLabel, Cond.instanceMethod yX1_hasLabel, Cond.selects RX1 yX1_hasLabel yX1_hasLabel, Cond.initialized RX1, Cond.code yX1_hasLabel cX1_hasLabel 3 (some .boolean), Cond.fieldLink RX1 18 "HandsHall$Items" "labels" "[I", Cond.methodLink RX1 34 yX1_has, Cond.instanceMethod yX1_has, Cond.selects RX1 yX1_has yX1_has, Cond.code yX1_has cX1_has 2 (some .boolean), Cond.fieldLink RX1 30 "HandsHall$Items" "count" "I", Cond.methodLink RX8 135 yX0_anySaid, Cond.instanceMethod yX0_anySaid, Cond.selects RX0 yX0_anySaid yX0_anySaid, Cond.initialized RX0, Cond.code yX0_anySaid cX0_anySaid 3 (some .boolean), Cond.fieldLink RX0 24 "HandsHall$Hands" "count" "I", Cond.fieldLink RX0 21 "HandsHall$Hands" "said" "[[I", Cond.methodLink RX8 138 yX1_isFree, Cond.instanceMethod yX1_isFree]
def wsX8_known_r2 : List Cond := [Cond.selects RX1 yX1_isFree yX1_isFree, Cond.code yX1_isFree cX1_isFree 2 (some .boolean), Cond.fieldLink RX1 21 "HandsHall$Items" "known" "[I", Cond.fieldLink RX1 24 "HandsHall$Items" "settled" "[I", Cond.methodLink RX8 144 yX2_startGiven, Cond.instanceMethod yX2_startGiven, Cond.selects RX2 yX2_startGiven yX2_startGiven, Cond.initialized RX2, Cond.code yX2_startGiven cX2_startGiven 4 none, Cond.fieldLink RX2 11 "HandsHall$Joining" "items" "LHandsHall$Items;", Cond.fieldLink RX2 73 "HandsHall$Items" "labels" "[I", Cond.fieldLink RX2 25 "HandsHall$Joining" "shares" "[[I", Cond.constant RX2 76 (1000000), Cond.methodLink RX2 77 yX1_given, Cond.instanceMethod yX1_given, Cond.selects RX1 yX1_given yX1_given, Cond.code yX1_given cX1_given 2 (some .int)]
def wsX8_known : List Cond := .code yX8_known cX8_known 3 (some .int) :: ((wsX8_known_r1 ++ wsX8_known_r2) ++ wsX80 ++ wsX10 ++ wsX00 ++ wsX20)
def wsX8_settle_r1 : List Cond := [Cond.fieldLink RX8 26 "HandsHall" "items" "LHandsHall$Items;", Cond.fieldLink RX8 141 "HandsHall$Items" "known" "[I", Cond.fieldLink RX8 147 "HandsHall$Items" "settled" "[I", Cond.fieldLink RX8 49 "HandsHall" "latest" "LHandsHall$Joining;", Cond.methodLink RX8 131 yX1_hasLabel, Cond.instanceMethod yX1_hasLabel, Cond.selects RX1 yX1_hasLabel yX1_hasLabel, Cond.initialized RX1, Cond.code yX1_hasLabel cX1_hasLabel 3 (some .boolean), Cond.fieldLink RX1 18 "HandsHall$Items" "labels" "[I", Cond.methodLink RX1 34 yX1_has, Cond.instanceMethod yX1_has, Cond.selects RX1 yX1_has yX1_has, Cond.code yX1_has cX1_has 2 (some .boolean), Cond.fieldLink RX1 30 "HandsHall$Items" "count" "I", Cond.methodLink RX8 144 yX2_startGiven, Cond.instanceMethod yX2_startGiven, Cond.selects RX2 yX2_startGiven yX2_startGiven, Cond.initialized RX2, Cond.code yX2_startGiven cX2_startGiven 4 none, Cond.fieldLink RX2 11 "HandsHall$Joining" "items" "LHandsHall$Items;", Cond.fieldLink RX2 73 "HandsHall$Items" "labels" "[I", Cond.fieldLink RX2 25 "HandsHall$Joining" "shares" "[[I", Cond.constant RX2 76 (1000000)]
def wsX8_settle_r2 : List Cond := [Cond.methodLink RX2 77 yX1_given, Cond.instanceMethod yX1_given, Cond.selects RX1 yX1_given yX1_given, Cond.code yX1_given cX1_given 2 (some .int), Cond.fieldLink RX1 21 "HandsHall$Items" "known" "[I", Cond.fieldLink RX1 24 "HandsHall$Items" "settled" "[I"]
def wsX8_settle : List Cond := .code yX8_settle cX8_settle 4 (some .int) :: ((wsX8_settle_r1 ++ wsX8_settle_r2) ++ wsX80 ++ wsX10 ++ wsX20)
def wsX8_show : List Cond := .code yX8_show cX8_show 4 (some .int) :: ([.fieldLink RX8 26 "HandsHall" "items" "LHandsHall$Items;", .fieldLink RX8 151 "HandsHall$Items" "parts" "[I", .methodLink RX8 150 yX1_has, .instanceMethod yX1_has, .selects RX1 yX1_has yX1_has, .initialized RX1, .code yX1_has cX1_has 2 (some .boolean), .fieldLink RX1 30 "HandsHall$Items" "count" "I"] ++ wsX80 ++ wsX10)
def wsX8_sureOf : List Cond := .code yX8_sureOf cX8_sureOf 2 (some .int) :: ([.fieldLink RX8 49 "HandsHall" "latest" "LHandsHall$Joining;", .fieldLink RX8 194 "HandsHall$Joining" "shares" "[[I", .methodLink RX8 168 yX2_greatest, .instanceMethod yX2_greatest, .selects RX2 yX2_greatest yX2_greatest, .initialized RX2, .code yX2_greatest cX2_greatest 4 (some .int), .fieldLink RX2 11 "HandsHall$Joining" "items" "LHandsHall$Items;", .fieldLink RX2 73 "HandsHall$Items" "labels" "[I", .fieldLink RX2 25 "HandsHall$Joining" "shares" "[[I"] ++ wsX80 ++ wsX20 ++ wsX10)
def wsX8_isOpen_r1 : List Cond := [Cond.fieldLink RX8 26 "HandsHall" "items" "LHandsHall$Items;", Cond.fieldLink RX8 154 "HandsHall$Items" "step" "[I", Cond.fieldLink RX8 19 "HandsHall" "steps" "LHandsHall$Steps;", Cond.fieldLink RX8 103 "HandsHall$Steps" "count" "I", Cond.fieldLink RX8 114 "HandsHall$Steps" "needs" "[I", Cond.fieldLink RX8 157 "HandsHall$Items" "thing" "[I", Cond.fieldLink RX8 117 "HandsHall$Steps" "number" "[I", Cond.methodLink RX8 120 yX1_find, Cond.instanceMethod yX1_find, Cond.selects RX1 yX1_find yX1_find, Cond.initialized RX1, Cond.code yX1_find cX1_find 4 (some .int), Cond.fieldLink RX1 30 "HandsHall$Items" "count" "I", Cond.fieldLink RX1 9 "HandsHall$Items" "step" "[I", Cond.fieldLink RX1 15 "HandsHall$Items" "thing" "[I", Cond.methodLink RX8 171 yX8_sureOf, Cond.instanceMethod yX8_sureOf, Cond.selects RX8 yX8_sureOf yX8_sureOf, Cond.initialized RX8, Cond.code yX8_sureOf cX8_sureOf 2 (some .int), Cond.fieldLink RX8 49 "HandsHall" "latest" "LHandsHall$Joining;", Cond.fieldLink RX8 194 "HandsHall$Joining" "shares" "[[I", Cond.methodLink RX8 168 yX2_greatest, Cond.instanceMethod yX2_greatest]
def wsX8_isOpen_r2 : List Cond := [Cond.selects RX2 yX2_greatest yX2_greatest, Cond.initialized RX2, Cond.code yX2_greatest cX2_greatest 4 (some .int), Cond.fieldLink RX2 11 "HandsHall$Joining" "items" "LHandsHall$Items;", Cond.fieldLink RX2 73 "HandsHall$Items" "labels" "[I", Cond.fieldLink RX2 25 "HandsHall$Joining" "shares" "[[I"]
def wsX8_isOpen : List Cond := .code yX8_isOpen cX8_isOpen 5 (some .boolean) :: ((wsX8_isOpen_r1 ++ wsX8_isOpen_r2) ++ wsX80 ++ wsX10 ++ wsX60 ++ wsX20)
def wsX8_ofItem_r1 : List Cond := [Cond.fieldLink RX8 26 "HandsHall" "items" "LHandsHall$Items;", Cond.fieldLink RX8 154 "HandsHall$Items" "step" "[I", Cond.fieldLink RX8 157 "HandsHall$Items" "thing" "[I", Cond.fieldLink RX8 160 "HandsHall$Items" "labels" "[I", Cond.fieldLink RX8 141 "HandsHall$Items" "known" "[I", Cond.fieldLink RX8 147 "HandsHall$Items" "settled" "[I", Cond.fieldLink RX8 33 "HandsHall" "hands" "LHandsHall$Hands;", Cond.fieldLink RX8 49 "HandsHall" "latest" "LHandsHall$Joining;", Cond.fieldLink RX8 151 "HandsHall$Items" "parts" "[I", Cond.methodLink RX8 150 yX1_has, Cond.instanceMethod yX1_has, Cond.selects RX1 yX1_has yX1_has, Cond.initialized RX1, Cond.code yX1_has cX1_has 2 (some .boolean), Cond.fieldLink RX1 30 "HandsHall$Items" "count" "I", Cond.methodLink RX8 161 yX8_isOpen, Cond.instanceMethod yX8_isOpen, Cond.selects RX8 yX8_isOpen yX8_isOpen, Cond.initialized RX8, Cond.code yX8_isOpen cX8_isOpen 5 (some .boolean), Cond.fieldLink RX8 19 "HandsHall" "steps" "LHandsHall$Steps;", Cond.fieldLink RX8 103 "HandsHall$Steps" "count" "I", Cond.fieldLink RX8 114 "HandsHall$Steps" "needs" "[I", Cond.fieldLink RX8 117 "HandsHall$Steps" "number" "[I"]
def wsX8_ofItem_r2 : List Cond := [Cond.methodLink RX8 120 yX1_find, Cond.instanceMethod yX1_find, Cond.selects RX1 yX1_find yX1_find, Cond.code yX1_find cX1_find 4 (some .int), Cond.fieldLink RX1 9 "HandsHall$Items" "step" "[I", Cond.fieldLink RX1 15 "HandsHall$Items" "thing" "[I", Cond.methodLink RX8 171 yX8_sureOf, Cond.instanceMethod yX8_sureOf, Cond.selects RX8 yX8_sureOf yX8_sureOf, Cond.code yX8_sureOf cX8_sureOf 2 (some .int), Cond.fieldLink RX8 194 "HandsHall$Joining" "shares" "[[I", Cond.methodLink RX8 168 yX2_greatest, Cond.instanceMethod yX2_greatest, Cond.selects RX2 yX2_greatest yX2_greatest, Cond.initialized RX2, Cond.code yX2_greatest cX2_greatest 4 (some .int), Cond.fieldLink RX2 11 "HandsHall$Joining" "items" "LHandsHall$Items;", Cond.fieldLink RX2 73 "HandsHall$Items" "labels" "[I", Cond.fieldLink RX2 25 "HandsHall$Joining" "shares" "[[I", Cond.methodLink RX8 164 yX0_countTo, Cond.instanceMethod yX0_countTo, Cond.selects RX0 yX0_countTo yX0_countTo, Cond.initialized RX0, Cond.code yX0_countTo cX0_countTo 4 (some .int)]
def wsX8_ofItem_r3 : List Cond := [Cond.fieldLink RX0 24 "HandsHall$Hands" "count" "I", Cond.methodLink RX0 28 yX0_counts, Cond.instanceMethod yX0_counts, Cond.selects RX0 yX0_counts yX0_counts, Cond.code yX0_counts cX0_counts 3 (some .boolean), Cond.fieldLink RX0 9 "HandsHall$Hands" "out" "[Z", Cond.fieldLink RX0 21 "HandsHall$Hands" "said" "[[I"]
def wsX8_ofItem : List Cond := .code yX8_ofItem cX8_ofItem 3 (some .int) :: ((wsX8_ofItem_r1 ++ (wsX8_ofItem_r2 ++ wsX8_ofItem_r3)) ++ wsX80 ++ wsX10 ++ wsX60 ++ wsX20 ++ wsX00)
def wsX8_hand : List Cond := .code yX8_hand cX8_hand 1 (some .int) :: ([.fieldLink RX8 33 "HandsHall" "hands" "LHandsHall$Hands;", .fieldLink RX8 102 "HandsHall$Hands" "count" "I", .methodLink RX8 174 yX0_add, .instanceMethod yX0_add, .selects RX0 yX0_add yX0_add, .initialized RX0, .code yX0_add cX0_add 3 (some .int), .fieldLink RX0 24 "HandsHall$Hands" "count" "I", .fieldLink RX0 9 "HandsHall$Hands" "out" "[Z", .fieldLink RX0 15 "HandsHall$Hands" "version" "[I", .fieldLink RX0 21 "HandsHall$Hands" "said" "[[I"] ++ wsX80 ++ wsX00)
def wsX8_out : List Cond := .code yX8_out cX8_out 4 (some .int) :: ([.fieldLink RX8 33 "HandsHall" "hands" "LHandsHall$Hands;", .fieldLink RX8 177 "HandsHall$Hands" "out" "[Z", .methodLink RX8 176 yX0_has, .instanceMethod yX0_has, .selects RX0 yX0_has yX0_has, .initialized RX0, .code yX0_has cX0_has 2 (some .boolean), .fieldLink RX0 24 "HandsHall$Hands" "count" "I"] ++ wsX80 ++ wsX00)
def wsX8_answer_r1 : List Cond := [Cond.fieldLink RX8 33 "HandsHall" "hands" "LHandsHall$Hands;", Cond.fieldLink RX8 26 "HandsHall" "items" "LHandsHall$Items;", Cond.fieldLink RX8 177 "HandsHall$Hands" "out" "[Z", Cond.fieldLink RX8 181 "HandsHall$Hands" "said" "[[I", Cond.methodLink RX8 176 yX0_has, Cond.instanceMethod yX0_has, Cond.selects RX0 yX0_has yX0_has, Cond.initialized RX0, Cond.code yX0_has cX0_has 2 (some .boolean), Cond.fieldLink RX0 24 "HandsHall$Hands" "count" "I", Cond.methodLink RX8 131 yX1_hasLabel, Cond.instanceMethod yX1_hasLabel, Cond.selects RX1 yX1_hasLabel yX1_hasLabel, Cond.initialized RX1, Cond.code yX1_hasLabel cX1_hasLabel 3 (some .boolean), Cond.fieldLink RX1 18 "HandsHall$Items" "labels" "[I", Cond.methodLink RX1 34 yX1_has, Cond.instanceMethod yX1_has, Cond.selects RX1 yX1_has yX1_has, Cond.code yX1_has cX1_has 2 (some .boolean), Cond.fieldLink RX1 30 "HandsHall$Items" "count" "I", Cond.methodLink RX8 161 yX8_isOpen, Cond.instanceMethod yX8_isOpen, Cond.selects RX8 yX8_isOpen yX8_isOpen]
def wsX8_answer_r2 : List Cond := [Cond.initialized RX8, Cond.code yX8_isOpen cX8_isOpen 5 (some .boolean), Cond.fieldLink RX8 154 "HandsHall$Items" "step" "[I", Cond.fieldLink RX8 19 "HandsHall" "steps" "LHandsHall$Steps;", Cond.fieldLink RX8 103 "HandsHall$Steps" "count" "I", Cond.fieldLink RX8 114 "HandsHall$Steps" "needs" "[I", Cond.fieldLink RX8 157 "HandsHall$Items" "thing" "[I", Cond.fieldLink RX8 117 "HandsHall$Steps" "number" "[I", Cond.methodLink RX8 120 yX1_find, Cond.instanceMethod yX1_find, Cond.selects RX1 yX1_find yX1_find, Cond.code yX1_find cX1_find 4 (some .int), Cond.fieldLink RX1 9 "HandsHall$Items" "step" "[I", Cond.fieldLink RX1 15 "HandsHall$Items" "thing" "[I", Cond.methodLink RX8 171 yX8_sureOf, Cond.instanceMethod yX8_sureOf, Cond.selects RX8 yX8_sureOf yX8_sureOf, Cond.code yX8_sureOf cX8_sureOf 2 (some .int), Cond.fieldLink RX8 49 "HandsHall" "latest" "LHandsHall$Joining;", Cond.fieldLink RX8 194 "HandsHall$Joining" "shares" "[[I", Cond.methodLink RX8 168 yX2_greatest, Cond.instanceMethod yX2_greatest, Cond.selects RX2 yX2_greatest yX2_greatest, Cond.initialized RX2]
def wsX8_answer_r3 : List Cond := [Cond.code yX2_greatest cX2_greatest 4 (some .int), Cond.fieldLink RX2 11 "HandsHall$Joining" "items" "LHandsHall$Items;", Cond.fieldLink RX2 73 "HandsHall$Items" "labels" "[I", Cond.fieldLink RX2 25 "HandsHall$Joining" "shares" "[[I"]
def wsX8_answer : List Cond := .code yX8_answer cX8_answer 4 (some .int) :: ((wsX8_answer_r1 ++ (wsX8_answer_r2 ++ wsX8_answer_r3)) ++ wsX80 ++ wsX00 ++ wsX10 ++ wsX60 ++ wsX20)
def wsX8_back : List Cond := .code yX8_back cX8_back 4 (some .int) :: ([.fieldLink RX8 33 "HandsHall" "hands" "LHandsHall$Hands;", .fieldLink RX8 26 "HandsHall" "items" "LHandsHall$Items;", .fieldLink RX8 181 "HandsHall$Hands" "said" "[[I", .methodLink RX8 176 yX0_has, .instanceMethod yX0_has, .selects RX0 yX0_has yX0_has, .initialized RX0, .code yX0_has cX0_has 2 (some .boolean), .fieldLink RX0 24 "HandsHall$Hands" "count" "I", .methodLink RX8 150 yX1_has, .instanceMethod yX1_has, .selects RX1 yX1_has yX1_has, .initialized RX1, .code yX1_has cX1_has 2 (some .boolean), .fieldLink RX1 30 "HandsHall$Items" "count" "I"] ++ wsX80 ++ wsX00 ++ wsX10)
def wsX8_said : List Cond := .code yX8_said cX8_said 3 (some .int) :: ([.fieldLink RX8 33 "HandsHall" "hands" "LHandsHall$Hands;", .fieldLink RX8 26 "HandsHall" "items" "LHandsHall$Items;", .fieldLink RX8 181 "HandsHall$Hands" "said" "[[I", .methodLink RX8 176 yX0_has, .instanceMethod yX0_has, .selects RX0 yX0_has yX0_has, .initialized RX0, .code yX0_has cX0_has 2 (some .boolean), .fieldLink RX0 24 "HandsHall$Hands" "count" "I", .methodLink RX8 150 yX1_has, .instanceMethod yX1_has, .selects RX1 yX1_has yX1_has, .initialized RX1, .code yX1_has cX1_has 2 (some .boolean), .fieldLink RX1 30 "HandsHall$Items" "count" "I"] ++ wsX80 ++ wsX00 ++ wsX10)
def wsX8_set : List Cond := .code yX8_set cX8_set 4 (some .int) :: ([.fieldLink RX8 40 "HandsHall" "rules" "LHandsHall$Rules;", .fieldLink RX8 188 "HandsHall$Rules" "value" "[I", .methodLink RX8 185 yX5_allows, .static yX5_allows, .initialized RX5, .code yX5_allows cX5_allows 2 (some .boolean), .fieldLink RX5 7 "HandsHall$Rules" "FIRST" "[I", .fieldLink RX5 22 "HandsHall$Rules" "LOWEST" "[I", .fieldLink RX5 25 "HandsHall$Rules" "HIGHEST" "[I"] ++ wsX80 ++ wsX50)
def wsX8_join_r1 : List Cond := [Cond.fieldLink RX8 33 "HandsHall" "hands" "LHandsHall$Hands;", Cond.fieldLink RX8 102 "HandsHall$Hands" "count" "I", Cond.fieldLink RX8 70 "HandsHall" "handsJoined" "I", Cond.fieldLink RX8 49 "HandsHall" "latest" "LHandsHall$Joining;", Cond.methodLink RX8 191 yX2_run, Cond.instanceMethod yX2_run, Cond.selects RX2 yX2_run yX2_run, Cond.initialized RX2, Cond.code yX2_run cX2_run 4 (some .int), Cond.fieldLink RX2 19 "HandsHall$Joining" "rules" "LHandsHall$Rules;", Cond.fieldLink RX2 45 "HandsHall$Rules" "value" "[I", Cond.fieldLink RX2 11 "HandsHall$Joining" "items" "LHandsHall$Items;", Cond.fieldLink RX2 50 "HandsHall$Items" "count" "I", Cond.fieldLink RX2 15 "HandsHall$Joining" "hands" "LHandsHall$Hands;", Cond.fieldLink RX2 60 "HandsHall$Hands" "count" "I", Cond.methodLink RX2 56 yX2_startShares, Cond.instanceMethod yX2_startShares, Cond.selects RX2 yX2_startShares yX2_startShares, Cond.code yX2_startShares cX2_startShares 2 none, Cond.methodLink RX2 91 yX1_isFree, Cond.instanceMethod yX1_isFree, Cond.selects RX1 yX1_isFree yX1_isFree, Cond.initialized RX1, Cond.code yX1_isFree cX1_isFree 2 (some .boolean)]
def wsX8_join_r2 : List Cond := [Cond.fieldLink RX1 21 "HandsHall$Items" "known" "[I", Cond.fieldLink RX1 24 "HandsHall$Items" "settled" "[I", Cond.methodLink RX2 95 yX2_startByAnswers, Cond.instanceMethod yX2_startByAnswers, Cond.selects RX2 yX2_startByAnswers yX2_startByAnswers, Cond.code yX2_startByAnswers cX2_startByAnswers 4 none, Cond.fieldLink RX2 73 "HandsHall$Items" "labels" "[I", Cond.fieldLink RX2 25 "HandsHall$Joining" "shares" "[[I", Cond.constant RX2 76 (1000000), Cond.methodLink RX2 81 yX0_countTo, Cond.instanceMethod yX0_countTo, Cond.selects RX0 yX0_countTo yX0_countTo, Cond.initialized RX0, Cond.code yX0_countTo cX0_countTo 4 (some .int), Cond.fieldLink RX0 24 "HandsHall$Hands" "count" "I", Cond.methodLink RX0 28 yX0_counts, Cond.instanceMethod yX0_counts, Cond.selects RX0 yX0_counts yX0_counts, Cond.code yX0_counts cX0_counts 3 (some .boolean), Cond.fieldLink RX0 9 "HandsHall$Hands" "out" "[Z", Cond.fieldLink RX0 21 "HandsHall$Hands" "said" "[[I", Cond.methodLink RX2 84 yX2_startAlike, Cond.instanceMethod yX2_startAlike, Cond.selects RX2 yX2_startAlike yX2_startAlike]
def wsX8_join_r3 : List Cond := [Cond.code yX2_startAlike cX2_startAlike 4 none, Cond.methodLink RX2 87 yX0_countWith, Cond.instanceMethod yX0_countWith, Cond.selects RX0 yX0_countWith yX0_countWith, Cond.code yX0_countWith cX0_countWith 5 (some .int), Cond.methodLink RX2 98 yX2_startGiven, Cond.instanceMethod yX2_startGiven, Cond.selects RX2 yX2_startGiven yX2_startGiven, Cond.code yX2_startGiven cX2_startGiven 4 none, Cond.methodLink RX2 77 yX1_given, Cond.instanceMethod yX1_given, Cond.selects RX1 yX1_given yX1_given, Cond.code yX1_given cX1_given 2 (some .int), Cond.methodLink RX2 63 yX2_sumSaid, Cond.instanceMethod yX2_sumSaid, Cond.selects RX2 yX2_sumSaid yX2_sumSaid, Cond.code yX2_sumSaid cX2_sumSaid 6 none, Cond.fieldLink RX2 31 "HandsHall$Joining" "sums" "[J", Cond.constantLong RX2 101 (10000), Cond.fieldLink RX2 107 "HandsHall$Hands" "said" "[[I", Cond.methodLink RX2 103 yX0_counts, Cond.methodLink RX2 110 yX2_spot, Cond.static yX2_spot, Cond.code yX2_spot cX2_spot 3 (some .int)]
def wsX8_join_r4 : List Cond := [Cond.methodLink RX2 66 yX2_fillTables, Cond.instanceMethod yX2_fillTables, Cond.selects RX2 yX2_fillTables yX2_fillTables, Cond.code yX2_fillTables cX2_fillTables 4 none, Cond.methodLink RX2 114 yX2_fillLine, Cond.instanceMethod yX2_fillLine, Cond.selects RX2 yX2_fillLine yX2_fillLine, Cond.code yX2_fillLine cX2_fillLine 7 none, Cond.fieldLink RX2 28 "HandsHall$Joining" "numbers" "[[I", Cond.constantLong RX2 118 (1000), Cond.methodLink RX2 69 yX2_renewAll, Cond.instanceMethod yX2_renewAll, Cond.selects RX2 yX2_renewAll yX2_renewAll, Cond.code yX2_renewAll cX2_renewAll 3 (some .int), Cond.methodLink RX2 126 Lib.Math.max.name, Cond.static Lib.Math.max.name, Cond.initialized "java/lang/Math", Cond.code Lib.Math.max.name Lib.Math.max.code 2 (some .int), Cond.methodLink RX2 120 yX2_weighAnswers, Cond.instanceMethod yX2_weighAnswers, Cond.selects RX2 yX2_weighAnswers yX2_weighAnswers, Cond.code yX2_weighAnswers cX2_weighAnswers 4 none, Cond.fieldLink RX2 35 "HandsHall$Joining" "fresh" "[J", Cond.methodLink RX2 131 yX2_weigh]
def wsX8_join_r5 : List Cond := [Cond.instanceMethod yX2_weigh, Cond.selects RX2 yX2_weigh yX2_weigh, Cond.code yX2_weigh cX2_weigh 7 none, Cond.fieldLink RX2 38 "HandsHall$Joining" "weighed" "[J", Cond.constantLong RX2 134 (1000000), Cond.methodLink RX2 123 yX2_takeFresh, Cond.instanceMethod yX2_takeFresh, Cond.selects RX2 yX2_takeFresh yX2_takeFresh, Cond.code yX2_takeFresh cX2_takeFresh 5 (some .int), Cond.methodLink RX2 136 Lib.Math.abs.name, Cond.static Lib.Math.abs.name, Cond.code Lib.Math.abs.name Lib.Math.abs.code 1 (some .int)]
def wsX8_join : List Cond := .code yX8_join cX8_join 1 (some .int) :: ((wsX8_join_r1 ++ (wsX8_join_r2 ++ (wsX8_join_r3 ++ (wsX8_join_r4 ++ wsX8_join_r5)))) ++ wsX80 ++ wsX00 ++ wsX20 ++ wsX50 ++ wsX10)
def wsX8_share : List Cond := .code yX8_share cX8_share 3 (some .int) :: ([.fieldLink RX8 26 "HandsHall" "items" "LHandsHall$Items;", .fieldLink RX8 49 "HandsHall" "latest" "LHandsHall$Joining;", .fieldLink RX8 194 "HandsHall$Joining" "shares" "[[I", .methodLink RX8 131 yX1_hasLabel, .instanceMethod yX1_hasLabel, .selects RX1 yX1_hasLabel yX1_hasLabel, .initialized RX1, .code yX1_hasLabel cX1_hasLabel 3 (some .boolean), .fieldLink RX1 18 "HandsHall$Items" "labels" "[I", .methodLink RX1 34 yX1_has, .instanceMethod yX1_has, .selects RX1 yX1_has yX1_has, .code yX1_has cX1_has 2 (some .boolean), .fieldLink RX1 30 "HandsHall$Items" "count" "I"] ++ wsX80 ++ wsX20 ++ wsX10)
def wsX8_table : List Cond := .code yX8_table cX8_table 5 (some .int) :: ([.fieldLink RX8 33 "HandsHall" "hands" "LHandsHall$Hands;", .fieldLink RX8 70 "HandsHall" "handsJoined" "I", .fieldLink RX8 49 "HandsHall" "latest" "LHandsHall$Joining;", .fieldLink RX8 197 "HandsHall$Joining" "numbers" "[[I", .methodLink RX8 176 yX0_has, .instanceMethod yX0_has, .selects RX0 yX0_has yX0_has, .initialized RX0, .code yX0_has cX0_has 2 (some .boolean), .fieldLink RX0 24 "HandsHall$Hands" "count" "I", .methodLink RX8 200 yX2_spot, .static yX2_spot, .initialized RX2, .code yX2_spot cX2_spot 3 (some .int)] ++ wsX80 ++ wsX20 ++ wsX00)
def wsX8_seekHandFor_r1 : List Cond := [Cond.fieldLink RX8 33 "HandsHall" "hands" "LHandsHall$Hands;", Cond.fieldLink RX8 102 "HandsHall$Hands" "count" "I", Cond.fieldLink RX8 177 "HandsHall$Hands" "out" "[Z", Cond.fieldLink RX8 181 "HandsHall$Hands" "said" "[[I", Cond.fieldLink RX8 49 "HandsHall" "latest" "LHandsHall$Joining;", Cond.fieldLink RX8 80 "HandsHall" "bestHelp" "I", Cond.fieldLink RX8 74 "HandsHall" "bestItem" "I", Cond.fieldLink RX8 77 "HandsHall" "bestHand" "I", Cond.methodLink RX8 300 yX2_helpOf, Cond.instanceMethod yX2_helpOf, Cond.selects RX2 yX2_helpOf yX2_helpOf, Cond.initialized RX2, Cond.code yX2_helpOf cX2_helpOf 10 (some .int), Cond.fieldLink RX2 11 "HandsHall$Joining" "items" "LHandsHall$Items;", Cond.fieldLink RX2 73 "HandsHall$Items" "labels" "[I", Cond.fieldLink RX2 25 "HandsHall$Joining" "shares" "[[I", Cond.fieldLink RX2 28 "HandsHall$Joining" "numbers" "[[I", Cond.methodLink RX2 139 Lib.MathLoose.max_long.x, Cond.static Lib.MathLoose.max_long.x, Cond.initialized "java/lang/Math", Cond.code Lib.MathLoose.max_long.x Lib.MathLoose.max_long.code 4 (some .long), Cond.constantLong RX2 118 (1000), Cond.methodLink RX2 110 yX2_spot, Cond.static yX2_spot]
def wsX8_seekHandFor_r2 : List Cond := [Cond.code yX2_spot cX2_spot 3 (some .int), Cond.methodLink RX2 142 yX2_greatest, Cond.instanceMethod yX2_greatest, Cond.selects RX2 yX2_greatest yX2_greatest, Cond.code yX2_greatest cX2_greatest 4 (some .int)]
def wsX8_seekHandFor : List Cond := .code yX8_seekHandFor cX8_seekHandFor 4 none :: ((wsX8_seekHandFor_r1 ++ wsX8_seekHandFor_r2) ++ wsX80 ++ wsX00 ++ wsX20 ++ wsX10)
def wsX8_seekHelp_r1 : List Cond := [Cond.fieldLink RX8 74 "HandsHall" "bestItem" "I", Cond.fieldLink RX8 77 "HandsHall" "bestHand" "I", Cond.fieldLink RX8 80 "HandsHall" "bestHelp" "I", Cond.fieldLink RX8 26 "HandsHall" "items" "LHandsHall$Items;", Cond.fieldLink RX8 101 "HandsHall$Items" "count" "I", Cond.methodLink RX8 138 yX1_isFree, Cond.instanceMethod yX1_isFree, Cond.selects RX1 yX1_isFree yX1_isFree, Cond.initialized RX1, Cond.code yX1_isFree cX1_isFree 2 (some .boolean), Cond.fieldLink RX1 21 "HandsHall$Items" "known" "[I", Cond.fieldLink RX1 24 "HandsHall$Items" "settled" "[I", Cond.methodLink RX8 161 yX8_isOpen, Cond.instanceMethod yX8_isOpen, Cond.selects RX8 yX8_isOpen yX8_isOpen, Cond.initialized RX8, Cond.code yX8_isOpen cX8_isOpen 5 (some .boolean), Cond.fieldLink RX8 154 "HandsHall$Items" "step" "[I", Cond.fieldLink RX8 19 "HandsHall" "steps" "LHandsHall$Steps;", Cond.fieldLink RX8 103 "HandsHall$Steps" "count" "I", Cond.fieldLink RX8 114 "HandsHall$Steps" "needs" "[I", Cond.fieldLink RX8 157 "HandsHall$Items" "thing" "[I", Cond.fieldLink RX8 117 "HandsHall$Steps" "number" "[I", Cond.methodLink RX8 120 yX1_find]
def wsX8_seekHelp_r2 : List Cond := [Cond.instanceMethod yX1_find, Cond.selects RX1 yX1_find yX1_find, Cond.code yX1_find cX1_find 4 (some .int), Cond.fieldLink RX1 30 "HandsHall$Items" "count" "I", Cond.fieldLink RX1 9 "HandsHall$Items" "step" "[I", Cond.fieldLink RX1 15 "HandsHall$Items" "thing" "[I", Cond.methodLink RX8 171 yX8_sureOf, Cond.instanceMethod yX8_sureOf, Cond.selects RX8 yX8_sureOf yX8_sureOf, Cond.code yX8_sureOf cX8_sureOf 2 (some .int), Cond.fieldLink RX8 49 "HandsHall" "latest" "LHandsHall$Joining;", Cond.fieldLink RX8 194 "HandsHall$Joining" "shares" "[[I", Cond.methodLink RX8 168 yX2_greatest, Cond.instanceMethod yX2_greatest, Cond.selects RX2 yX2_greatest yX2_greatest, Cond.initialized RX2, Cond.code yX2_greatest cX2_greatest 4 (some .int), Cond.fieldLink RX2 11 "HandsHall$Joining" "items" "LHandsHall$Items;", Cond.fieldLink RX2 73 "HandsHall$Items" "labels" "[I", Cond.fieldLink RX2 25 "HandsHall$Joining" "shares" "[[I", Cond.methodLink RX8 297 yX8_seekHandFor, Cond.instanceMethod yX8_seekHandFor, Cond.selects RX8 yX8_seekHandFor yX8_seekHandFor, Cond.code yX8_seekHandFor cX8_seekHandFor 4 none]
def wsX8_seekHelp_r3 : List Cond := [Cond.fieldLink RX8 33 "HandsHall" "hands" "LHandsHall$Hands;", Cond.fieldLink RX8 102 "HandsHall$Hands" "count" "I", Cond.fieldLink RX8 177 "HandsHall$Hands" "out" "[Z", Cond.fieldLink RX8 181 "HandsHall$Hands" "said" "[[I", Cond.methodLink RX8 300 yX2_helpOf, Cond.instanceMethod yX2_helpOf, Cond.selects RX2 yX2_helpOf yX2_helpOf, Cond.code yX2_helpOf cX2_helpOf 10 (some .int), Cond.fieldLink RX2 28 "HandsHall$Joining" "numbers" "[[I", Cond.methodLink RX2 139 Lib.MathLoose.max_long.x, Cond.static Lib.MathLoose.max_long.x, Cond.initialized "java/lang/Math", Cond.code Lib.MathLoose.max_long.x Lib.MathLoose.max_long.code 4 (some .long), Cond.constantLong RX2 118 (1000), Cond.methodLink RX2 110 yX2_spot, Cond.static yX2_spot, Cond.code yX2_spot cX2_spot 3 (some .int), Cond.methodLink RX2 142 yX2_greatest]
def wsX8_seekHelp : List Cond := .code yX8_seekHelp cX8_seekHelp 2 none :: ((wsX8_seekHelp_r1 ++ (wsX8_seekHelp_r2 ++ wsX8_seekHelp_r3)) ++ wsX80 ++ wsX10 ++ wsX60 ++ wsX20 ++ wsX00)
def wsX8_next_r1 : List Cond := [Cond.fieldLink RX8 70 "HandsHall" "handsJoined" "I", Cond.fieldLink RX8 33 "HandsHall" "hands" "LHandsHall$Hands;", Cond.fieldLink RX8 102 "HandsHall$Hands" "count" "I", Cond.fieldLink RX8 74 "HandsHall" "bestItem" "I", Cond.fieldLink RX8 77 "HandsHall" "bestHand" "I", Cond.fieldLink RX8 80 "HandsHall" "bestHelp" "I", Cond.methodLink RX8 203 yX8_seekHelp, Cond.instanceMethod yX8_seekHelp, Cond.selects RX8 yX8_seekHelp yX8_seekHelp, Cond.initialized RX8, Cond.code yX8_seekHelp cX8_seekHelp 2 none, Cond.fieldLink RX8 26 "HandsHall" "items" "LHandsHall$Items;", Cond.fieldLink RX8 101 "HandsHall$Items" "count" "I", Cond.methodLink RX8 138 yX1_isFree, Cond.instanceMethod yX1_isFree, Cond.selects RX1 yX1_isFree yX1_isFree, Cond.initialized RX1, Cond.code yX1_isFree cX1_isFree 2 (some .boolean), Cond.fieldLink RX1 21 "HandsHall$Items" "known" "[I", Cond.fieldLink RX1 24 "HandsHall$Items" "settled" "[I", Cond.methodLink RX8 161 yX8_isOpen, Cond.instanceMethod yX8_isOpen, Cond.selects RX8 yX8_isOpen yX8_isOpen, Cond.code yX8_isOpen cX8_isOpen 5 (some .boolean)]
def wsX8_next_r2 : List Cond := [Cond.fieldLink RX8 154 "HandsHall$Items" "step" "[I", Cond.fieldLink RX8 19 "HandsHall" "steps" "LHandsHall$Steps;", Cond.fieldLink RX8 103 "HandsHall$Steps" "count" "I", Cond.fieldLink RX8 114 "HandsHall$Steps" "needs" "[I", Cond.fieldLink RX8 157 "HandsHall$Items" "thing" "[I", Cond.fieldLink RX8 117 "HandsHall$Steps" "number" "[I", Cond.methodLink RX8 120 yX1_find, Cond.instanceMethod yX1_find, Cond.selects RX1 yX1_find yX1_find, Cond.code yX1_find cX1_find 4 (some .int), Cond.fieldLink RX1 30 "HandsHall$Items" "count" "I", Cond.fieldLink RX1 9 "HandsHall$Items" "step" "[I", Cond.fieldLink RX1 15 "HandsHall$Items" "thing" "[I", Cond.methodLink RX8 171 yX8_sureOf, Cond.instanceMethod yX8_sureOf, Cond.selects RX8 yX8_sureOf yX8_sureOf, Cond.code yX8_sureOf cX8_sureOf 2 (some .int), Cond.fieldLink RX8 49 "HandsHall" "latest" "LHandsHall$Joining;", Cond.fieldLink RX8 194 "HandsHall$Joining" "shares" "[[I", Cond.methodLink RX8 168 yX2_greatest, Cond.instanceMethod yX2_greatest, Cond.selects RX2 yX2_greatest yX2_greatest, Cond.initialized RX2, Cond.code yX2_greatest cX2_greatest 4 (some .int)]
def wsX8_next_r3 : List Cond := [Cond.fieldLink RX2 11 "HandsHall$Joining" "items" "LHandsHall$Items;", Cond.fieldLink RX2 73 "HandsHall$Items" "labels" "[I", Cond.fieldLink RX2 25 "HandsHall$Joining" "shares" "[[I", Cond.methodLink RX8 297 yX8_seekHandFor, Cond.instanceMethod yX8_seekHandFor, Cond.selects RX8 yX8_seekHandFor yX8_seekHandFor, Cond.code yX8_seekHandFor cX8_seekHandFor 4 none, Cond.fieldLink RX8 177 "HandsHall$Hands" "out" "[Z", Cond.fieldLink RX8 181 "HandsHall$Hands" "said" "[[I", Cond.methodLink RX8 300 yX2_helpOf, Cond.instanceMethod yX2_helpOf, Cond.selects RX2 yX2_helpOf yX2_helpOf, Cond.code yX2_helpOf cX2_helpOf 10 (some .int), Cond.fieldLink RX2 28 "HandsHall$Joining" "numbers" "[[I", Cond.methodLink RX2 139 Lib.MathLoose.max_long.x, Cond.static Lib.MathLoose.max_long.x, Cond.initialized "java/lang/Math", Cond.code Lib.MathLoose.max_long.x Lib.MathLoose.max_long.code 4 (some .long), Cond.constantLong RX2 118 (1000), Cond.methodLink RX2 110 yX2_spot, Cond.static yX2_spot, Cond.code yX2_spot cX2_spot 3 (some .int), Cond.methodLink RX2 142 yX2_greatest]
def wsX8_next : List Cond := .code yX8_next cX8_next 2 (some .int) :: ((wsX8_next_r1 ++ (wsX8_next_r2 ++ wsX8_next_r3)) ++ wsX80 ++ wsX00 ++ wsX10 ++ wsX60 ++ wsX20)
def wsX8_answersOf : List Cond := .code yX8_answersOf cX8_answersOf 4 (some .int) :: ([.fieldLink RX8 26 "HandsHall" "items" "LHandsHall$Items;", .fieldLink RX8 101 "HandsHall$Items" "count" "I", .fieldLink RX8 33 "HandsHall" "hands" "LHandsHall$Hands;", .methodLink RX8 241 yX0_counts, .instanceMethod yX0_counts, .selects RX0 yX0_counts yX0_counts, .initialized RX0, .code yX0_counts cX0_counts 3 (some .boolean), .fieldLink RX0 9 "HandsHall$Hands" "out" "[Z", .fieldLink RX0 21 "HandsHall$Hands" "said" "[[I"] ++ wsX80 ++ wsX10 ++ wsX00)
def wsX8_isToKnown : List Cond := .code yX8_isToKnown cX8_isToKnown 3 (some .boolean) :: ([.fieldLink RX8 33 "HandsHall" "hands" "LHandsHall$Hands;", .fieldLink RX8 26 "HandsHall" "items" "LHandsHall$Items;", .fieldLink RX8 141 "HandsHall$Items" "known" "[I", .methodLink RX8 241 yX0_counts, .instanceMethod yX0_counts, .selects RX0 yX0_counts yX0_counts, .initialized RX0, .code yX0_counts cX0_counts 3 (some .boolean), .fieldLink RX0 9 "HandsHall$Hands" "out" "[Z", .fieldLink RX0 21 "HandsHall$Hands" "said" "[[I"] ++ wsX80 ++ wsX10 ++ wsX00)
def wsX8_answersToKnown : List Cond := .code yX8_answersToKnown cX8_answersToKnown 4 (some .int) :: ([.fieldLink RX8 26 "HandsHall" "items" "LHandsHall$Items;", .fieldLink RX8 101 "HandsHall$Items" "count" "I", .methodLink RX8 225 yX8_isToKnown, .instanceMethod yX8_isToKnown, .selects RX8 yX8_isToKnown yX8_isToKnown, .initialized RX8, .code yX8_isToKnown cX8_isToKnown 3 (some .boolean), .fieldLink RX8 33 "HandsHall" "hands" "LHandsHall$Hands;", .fieldLink RX8 141 "HandsHall$Items" "known" "[I", .methodLink RX8 241 yX0_counts, .instanceMethod yX0_counts, .selects RX0 yX0_counts yX0_counts, .initialized RX0, .code yX0_counts cX0_counts 3 (some .boolean), .fieldLink RX0 9 "HandsHall$Hands" "out" "[Z", .fieldLink RX0 21 "HandsHall$Hands" "said" "[[I"] ++ wsX80 ++ wsX10 ++ wsX00)
def wsX8_isRight : List Cond := .code yX8_isRight cX8_isRight 3 (some .boolean) :: ([.fieldLink RX8 33 "HandsHall" "hands" "LHandsHall$Hands;", .fieldLink RX8 181 "HandsHall$Hands" "said" "[[I", .fieldLink RX8 26 "HandsHall" "items" "LHandsHall$Items;", .fieldLink RX8 141 "HandsHall$Items" "known" "[I", .methodLink RX8 225 yX8_isToKnown, .instanceMethod yX8_isToKnown, .selects RX8 yX8_isToKnown yX8_isToKnown, .initialized RX8, .code yX8_isToKnown cX8_isToKnown 3 (some .boolean), .methodLink RX8 241 yX0_counts, .instanceMethod yX0_counts, .selects RX0 yX0_counts yX0_counts, .initialized RX0, .code yX0_counts cX0_counts 3 (some .boolean), .fieldLink RX0 9 "HandsHall$Hands" "out" "[Z", .fieldLink RX0 21 "HandsHall$Hands" "said" "[[I"] ++ wsX80 ++ wsX00 ++ wsX10)
def wsX8_rightOf : List Cond := .code yX8_rightOf cX8_rightOf 4 (some .int) :: ([.fieldLink RX8 26 "HandsHall" "items" "LHandsHall$Items;", .fieldLink RX8 101 "HandsHall$Items" "count" "I", .methodLink RX8 254 yX8_isRight, .instanceMethod yX8_isRight, .selects RX8 yX8_isRight yX8_isRight, .initialized RX8, .code yX8_isRight cX8_isRight 3 (some .boolean), .fieldLink RX8 33 "HandsHall" "hands" "LHandsHall$Hands;", .fieldLink RX8 181 "HandsHall$Hands" "said" "[[I", .fieldLink RX8 141 "HandsHall$Items" "known" "[I", .methodLink RX8 225 yX8_isToKnown, .instanceMethod yX8_isToKnown, .selects RX8 yX8_isToKnown yX8_isToKnown, .code yX8_isToKnown cX8_isToKnown 3 (some .boolean), .methodLink RX8 241 yX0_counts, .instanceMethod yX0_counts, .selects RX0 yX0_counts yX0_counts, .initialized RX0, .code yX0_counts cX0_counts 3 (some .boolean), .fieldLink RX0 9 "HandsHall$Hands" "out" "[Z", .fieldLink RX0 21 "HandsHall$Hands" "said" "[[I"] ++ wsX80 ++ wsX10 ++ wsX00)
def wsX8_right_r1 : List Cond := [Cond.fieldLink RX8 33 "HandsHall" "hands" "LHandsHall$Hands;", Cond.fieldLink RX8 215 "HandsHall$Hands" "version" "[I", Cond.methodLink RX8 176 yX0_has, Cond.instanceMethod yX0_has, Cond.selects RX0 yX0_has yX0_has, Cond.initialized RX0, Cond.code yX0_has cX0_has 2 (some .boolean), Cond.fieldLink RX0 24 "HandsHall$Hands" "count" "I", Cond.methodLink RX8 206 yX8_answersOf, Cond.instanceMethod yX8_answersOf, Cond.selects RX8 yX8_answersOf yX8_answersOf, Cond.initialized RX8, Cond.code yX8_answersOf cX8_answersOf 4 (some .int), Cond.fieldLink RX8 26 "HandsHall" "items" "LHandsHall$Items;", Cond.fieldLink RX8 101 "HandsHall$Items" "count" "I", Cond.methodLink RX8 241 yX0_counts, Cond.instanceMethod yX0_counts, Cond.selects RX0 yX0_counts yX0_counts, Cond.code yX0_counts cX0_counts 3 (some .boolean), Cond.fieldLink RX0 9 "HandsHall$Hands" "out" "[Z", Cond.fieldLink RX0 21 "HandsHall$Hands" "said" "[[I", Cond.methodLink RX8 209 yX8_answersToKnown, Cond.instanceMethod yX8_answersToKnown, Cond.selects RX8 yX8_answersToKnown yX8_answersToKnown]
def wsX8_right_r2 : List Cond := [Cond.code yX8_answersToKnown cX8_answersToKnown 4 (some .int), Cond.methodLink RX8 225 yX8_isToKnown, Cond.instanceMethod yX8_isToKnown, Cond.selects RX8 yX8_isToKnown yX8_isToKnown, Cond.code yX8_isToKnown cX8_isToKnown 3 (some .boolean), Cond.fieldLink RX8 141 "HandsHall$Items" "known" "[I", Cond.methodLink RX8 212 yX8_rightOf, Cond.instanceMethod yX8_rightOf, Cond.selects RX8 yX8_rightOf yX8_rightOf, Cond.code yX8_rightOf cX8_rightOf 4 (some .int), Cond.methodLink RX8 254 yX8_isRight, Cond.instanceMethod yX8_isRight, Cond.selects RX8 yX8_isRight yX8_isRight, Cond.code yX8_isRight cX8_isRight 3 (some .boolean), Cond.fieldLink RX8 181 "HandsHall$Hands" "said" "[[I"]
def wsX8_right : List Cond := .code yX8_right cX8_right 3 (some .int) :: ((wsX8_right_r1 ++ wsX8_right_r2) ++ wsX80 ++ wsX00 ++ wsX10)
def wsX8_guessing_r1 : List Cond := [Cond.fieldLink RX8 33 "HandsHall" "hands" "LHandsHall$Hands;", Cond.constantLong RX8 218 (-1000000000000000001), Cond.constantLong RX8 220 (-1000000000000000002), Cond.fieldLink RX8 59 "HandsHall" "odds" "LHandsHall$Odds;", Cond.fieldLink RX8 26 "HandsHall" "items" "LHandsHall$Items;", Cond.fieldLink RX8 101 "HandsHall$Items" "count" "I", Cond.fieldLink RX8 160 "HandsHall$Items" "labels" "[I", Cond.methodLink RX8 176 yX0_has, Cond.instanceMethod yX0_has, Cond.selects RX0 yX0_has yX0_has, Cond.initialized RX0, Cond.code yX0_has cX0_has 2 (some .boolean), Cond.fieldLink RX0 24 "HandsHall$Hands" "count" "I", Cond.methodLink RX8 222 yX3_begin, Cond.instanceMethod yX3_begin, Cond.selects RX3 yX3_begin yX3_begin, Cond.initialized RX3, Cond.code yX3_begin cX3_begin 1 none, Cond.fieldLink RX3 22 "HandsHall$Odds" "draws" "I", Cond.fieldLink RX3 15 "HandsHall$Odds" "ways" "[J", Cond.methodLink RX8 225 yX8_isToKnown, Cond.instanceMethod yX8_isToKnown, Cond.selects RX8 yX8_isToKnown yX8_isToKnown, Cond.initialized RX8]
def wsX8_guessing_r2 : List Cond := [Cond.code yX8_isToKnown cX8_isToKnown 3 (some .boolean), Cond.fieldLink RX8 141 "HandsHall$Items" "known" "[I", Cond.methodLink RX8 241 yX0_counts, Cond.instanceMethod yX0_counts, Cond.selects RX0 yX0_counts yX0_counts, Cond.code yX0_counts cX0_counts 3 (some .boolean), Cond.fieldLink RX0 9 "HandsHall$Hands" "out" "[Z", Cond.fieldLink RX0 21 "HandsHall$Hands" "said" "[[I", Cond.methodLink RX8 228 yX3_draw, Cond.instanceMethod yX3_draw, Cond.selects RX3 yX3_draw yX3_draw, Cond.code yX3_draw cX3_draw 3 none, Cond.methodLink RX8 212 yX8_rightOf, Cond.instanceMethod yX8_rightOf, Cond.selects RX8 yX8_rightOf yX8_rightOf, Cond.code yX8_rightOf cX8_rightOf 4 (some .int), Cond.methodLink RX8 254 yX8_isRight, Cond.instanceMethod yX8_isRight, Cond.selects RX8 yX8_isRight yX8_isRight, Cond.code yX8_isRight cX8_isRight 3 (some .boolean), Cond.fieldLink RX8 181 "HandsHall$Hands" "said" "[[I", Cond.methodLink RX8 231 yX3_hitAtLeast, Cond.instanceMethod yX3_hitAtLeast, Cond.selects RX3 yX3_hitAtLeast yX3_hitAtLeast]
def wsX8_guessing_r3 : List Cond := [Cond.code yX3_hitAtLeast cX3_hitAtLeast 7 none, Cond.methodLink RX3 26 yX3_reduce, Cond.instanceMethod yX3_reduce, Cond.selects RX3 yX3_reduce yX3_reduce, Cond.code yX3_reduce cX3_reduce 12 none, Cond.fieldLink RX3 19 "HandsHall$Odds" "upper" "J", Cond.fieldLink RX3 9 "HandsHall$Odds" "lower" "J", Cond.methodLink RX8 234 yX3_part, Cond.instanceMethod yX3_part, Cond.selects RX3 yX3_part yX3_part, Cond.code yX3_part cX3_part 2 (some .long)]
def wsX8_guessing : List Cond := .code yX8_guessing cX8_guessing 4 (some .long) :: ((wsX8_guessing_r1 ++ (wsX8_guessing_r2 ++ wsX8_guessing_r3)) ++ wsX80 ++ wsX10 ++ wsX00 ++ wsX30)
def wsX8_copying_r1 : List Cond := [Cond.fieldLink RX8 33 "HandsHall" "hands" "LHandsHall$Hands;", Cond.constantLong RX8 218 (-1000000000000000001), Cond.constantLong RX8 220 (-1000000000000000002), Cond.fieldLink RX8 59 "HandsHall" "odds" "LHandsHall$Odds;", Cond.fieldLink RX8 26 "HandsHall" "items" "LHandsHall$Items;", Cond.fieldLink RX8 101 "HandsHall$Items" "count" "I", Cond.fieldLink RX8 238 "HandsHall$Odds" "draws" "I", Cond.fieldLink RX8 160 "HandsHall$Items" "labels" "[I", Cond.fieldLink RX8 181 "HandsHall$Hands" "said" "[[I", Cond.methodLink RX8 176 yX0_has, Cond.instanceMethod yX0_has, Cond.selects RX0 yX0_has yX0_has, Cond.initialized RX0, Cond.code yX0_has cX0_has 2 (some .boolean), Cond.fieldLink RX0 24 "HandsHall$Hands" "count" "I", Cond.methodLink RX8 222 yX3_begin, Cond.instanceMethod yX3_begin, Cond.selects RX3 yX3_begin yX3_begin, Cond.initialized RX3, Cond.code yX3_begin cX3_begin 1 none, Cond.fieldLink RX3 22 "HandsHall$Odds" "draws" "I", Cond.fieldLink RX3 15 "HandsHall$Odds" "ways" "[J", Cond.methodLink RX8 241 yX0_counts, Cond.instanceMethod yX0_counts]
def wsX8_copying_r2 : List Cond := [Cond.selects RX0 yX0_counts yX0_counts, Cond.code yX0_counts cX0_counts 3 (some .boolean), Cond.fieldLink RX0 9 "HandsHall$Hands" "out" "[Z", Cond.fieldLink RX0 21 "HandsHall$Hands" "said" "[[I", Cond.methodLink RX8 228 yX3_draw, Cond.instanceMethod yX3_draw, Cond.selects RX3 yX3_draw yX3_draw, Cond.code yX3_draw cX3_draw 3 none, Cond.methodLink RX8 231 yX3_hitAtLeast, Cond.instanceMethod yX3_hitAtLeast, Cond.selects RX3 yX3_hitAtLeast yX3_hitAtLeast, Cond.code yX3_hitAtLeast cX3_hitAtLeast 7 none, Cond.methodLink RX3 26 yX3_reduce, Cond.instanceMethod yX3_reduce, Cond.selects RX3 yX3_reduce yX3_reduce, Cond.code yX3_reduce cX3_reduce 12 none, Cond.fieldLink RX3 19 "HandsHall$Odds" "upper" "J", Cond.fieldLink RX3 9 "HandsHall$Odds" "lower" "J", Cond.methodLink RX8 234 yX3_part, Cond.instanceMethod yX3_part, Cond.selects RX3 yX3_part yX3_part, Cond.code yX3_part cX3_part 2 (some .long)]
def wsX8_copying : List Cond := .code yX8_copying cX8_copying 6 (some .long) :: ((wsX8_copying_r1 ++ wsX8_copying_r2) ++ wsX80 ++ wsX10 ++ wsX30 ++ wsX00)
def wsX8_isMisread : List Cond := .code yX8_isMisread cX8_isMisread 4 (some .boolean) :: ([.fieldLink RX8 26 "HandsHall" "items" "LHandsHall$Items;", .fieldLink RX8 160 "HandsHall$Items" "labels" "[I", .fieldLink RX8 141 "HandsHall$Items" "known" "[I", .fieldLink RX8 33 "HandsHall" "hands" "LHandsHall$Hands;", .methodLink RX8 303 yX0_countWith, .instanceMethod yX0_countWith, .selects RX0 yX0_countWith yX0_countWith, .initialized RX0, .code yX0_countWith cX0_countWith 5 (some .int), .fieldLink RX0 24 "HandsHall$Hands" "count" "I", .fieldLink RX0 21 "HandsHall$Hands" "said" "[[I", .methodLink RX0 28 yX0_counts, .instanceMethod yX0_counts, .selects RX0 yX0_counts yX0_counts, .code yX0_counts cX0_counts 3 (some .boolean), .fieldLink RX0 9 "HandsHall$Hands" "out" "[Z"] ++ wsX80 ++ wsX10 ++ wsX00)
def wsX8_misread : List Cond := .code yX8_misread cX8_misread 4 (some .int) :: ([.fieldLink RX8 26 "HandsHall" "items" "LHandsHall$Items;", .fieldLink RX8 101 "HandsHall$Items" "count" "I", .fieldLink RX8 141 "HandsHall$Items" "known" "[I", .fieldLink RX8 151 "HandsHall$Items" "parts" "[I", .methodLink RX8 244 yX8_isMisread, .instanceMethod yX8_isMisread, .selects RX8 yX8_isMisread yX8_isMisread, .initialized RX8, .code yX8_isMisread cX8_isMisread 4 (some .boolean), .fieldLink RX8 160 "HandsHall$Items" "labels" "[I", .fieldLink RX8 33 "HandsHall" "hands" "LHandsHall$Hands;", .methodLink RX8 303 yX0_countWith, .instanceMethod yX0_countWith, .selects RX0 yX0_countWith yX0_countWith, .initialized RX0, .code yX0_countWith cX0_countWith 5 (some .int), .fieldLink RX0 24 "HandsHall$Hands" "count" "I", .fieldLink RX0 21 "HandsHall$Hands" "said" "[[I", .methodLink RX0 28 yX0_counts, .instanceMethod yX0_counts, .selects RX0 yX0_counts yX0_counts, .code yX0_counts cX0_counts 3 (some .boolean), .fieldLink RX0 9 "HandsHall$Hands" "out" "[Z"] ++ wsX80 ++ wsX10 ++ wsX00)
def wsX8_deal : List Cond := .code yX8_deal cX8_deal 6 (some .int) :: ([.constant RX8 247 (1000000), .fieldLink RX8 33 "HandsHall" "hands" "LHandsHall$Hands;", .fieldLink RX8 102 "HandsHall$Hands" "count" "I", .constantLong RX8 248 (16807), .constantLong RX8 250 (2147483647), .fieldLink RX8 215 "HandsHall$Hands" "version" "[I", .constantLong RX8 252 (2)] ++ wsX80 ++ wsX00)
def wsX8_better_r1 : List Cond := [Cond.constantLong RX8 220 (-1000000000000000002), Cond.fieldLink RX8 33 "HandsHall" "hands" "LHandsHall$Hands;", Cond.fieldLink RX8 102 "HandsHall$Hands" "count" "I", Cond.fieldLink RX8 26 "HandsHall" "items" "LHandsHall$Items;", Cond.fieldLink RX8 101 "HandsHall$Items" "count" "I", Cond.fieldLink RX8 215 "HandsHall$Hands" "version" "[I", Cond.fieldLink RX8 59 "HandsHall" "odds" "LHandsHall$Odds;", Cond.methodLink RX8 225 yX8_isToKnown, Cond.instanceMethod yX8_isToKnown, Cond.selects RX8 yX8_isToKnown yX8_isToKnown, Cond.initialized RX8, Cond.code yX8_isToKnown cX8_isToKnown 3 (some .boolean), Cond.fieldLink RX8 141 "HandsHall$Items" "known" "[I", Cond.methodLink RX8 241 yX0_counts, Cond.instanceMethod yX0_counts, Cond.selects RX0 yX0_counts yX0_counts, Cond.initialized RX0, Cond.code yX0_counts cX0_counts 3 (some .boolean), Cond.fieldLink RX0 9 "HandsHall$Hands" "out" "[Z", Cond.fieldLink RX0 21 "HandsHall$Hands" "said" "[[I", Cond.methodLink RX8 254 yX8_isRight, Cond.instanceMethod yX8_isRight, Cond.selects RX8 yX8_isRight yX8_isRight, Cond.code yX8_isRight cX8_isRight 3 (some .boolean)]
def wsX8_better_r2 : List Cond := [Cond.fieldLink RX8 181 "HandsHall$Hands" "said" "[[I", Cond.methodLink RX8 257 yX3_dealtAtLeast, Cond.instanceMethod yX3_dealtAtLeast, Cond.selects RX3 yX3_dealtAtLeast yX3_dealtAtLeast, Cond.initialized RX3, Cond.code yX3_dealtAtLeast cX3_dealtAtLeast 8 none, Cond.methodLink RX3 30 yX3_choose, Cond.static yX3_choose, Cond.code yX3_choose cX3_choose 5 (some .long), Cond.methodLink RX3 26 yX3_reduce, Cond.instanceMethod yX3_reduce, Cond.selects RX3 yX3_reduce yX3_reduce, Cond.code yX3_reduce cX3_reduce 12 none, Cond.fieldLink RX3 19 "HandsHall$Odds" "upper" "J", Cond.fieldLink RX3 9 "HandsHall$Odds" "lower" "J", Cond.methodLink RX8 234 yX3_part, Cond.instanceMethod yX3_part, Cond.selects RX3 yX3_part yX3_part, Cond.code yX3_part cX3_part 2 (some .long)]
def wsX8_better : List Cond := .code yX8_better cX8_better 9 (some .long) :: ((wsX8_better_r1 ++ wsX8_better_r2) ++ wsX80 ++ wsX00 ++ wsX10 ++ wsX30)
def wsX8_lean_r1 : List Cond := [Cond.fieldLink RX8 33 "HandsHall" "hands" "LHandsHall$Hands;", Cond.fieldLink RX8 177 "HandsHall$Hands" "out" "[Z", Cond.fieldLink RX8 53 "HandsHall" "trial" "LHandsHall$Joining;", Cond.methodLink RX8 176 yX0_has, Cond.instanceMethod yX0_has, Cond.selects RX0 yX0_has yX0_has, Cond.initialized RX0, Cond.code yX0_has cX0_has 2 (some .boolean), Cond.fieldLink RX0 24 "HandsHall$Hands" "count" "I", Cond.methodLink RX8 191 yX2_run, Cond.instanceMethod yX2_run, Cond.selects RX2 yX2_run yX2_run, Cond.initialized RX2, Cond.code yX2_run cX2_run 4 (some .int), Cond.fieldLink RX2 19 "HandsHall$Joining" "rules" "LHandsHall$Rules;", Cond.fieldLink RX2 45 "HandsHall$Rules" "value" "[I", Cond.fieldLink RX2 11 "HandsHall$Joining" "items" "LHandsHall$Items;", Cond.fieldLink RX2 50 "HandsHall$Items" "count" "I", Cond.fieldLink RX2 15 "HandsHall$Joining" "hands" "LHandsHall$Hands;", Cond.fieldLink RX2 60 "HandsHall$Hands" "count" "I", Cond.methodLink RX2 56 yX2_startShares, Cond.instanceMethod yX2_startShares, Cond.selects RX2 yX2_startShares yX2_startShares, Cond.code yX2_startShares cX2_startShares 2 none]
def wsX8_lean_r2 : List Cond := [Cond.methodLink RX2 91 yX1_isFree, Cond.instanceMethod yX1_isFree, Cond.selects RX1 yX1_isFree yX1_isFree, Cond.initialized RX1, Cond.code yX1_isFree cX1_isFree 2 (some .boolean), Cond.fieldLink RX1 21 "HandsHall$Items" "known" "[I", Cond.fieldLink RX1 24 "HandsHall$Items" "settled" "[I", Cond.methodLink RX2 95 yX2_startByAnswers, Cond.instanceMethod yX2_startByAnswers, Cond.selects RX2 yX2_startByAnswers yX2_startByAnswers, Cond.code yX2_startByAnswers cX2_startByAnswers 4 none, Cond.fieldLink RX2 73 "HandsHall$Items" "labels" "[I", Cond.fieldLink RX2 25 "HandsHall$Joining" "shares" "[[I", Cond.constant RX2 76 (1000000), Cond.methodLink RX2 81 yX0_countTo, Cond.instanceMethod yX0_countTo, Cond.selects RX0 yX0_countTo yX0_countTo, Cond.code yX0_countTo cX0_countTo 4 (some .int), Cond.methodLink RX0 28 yX0_counts, Cond.instanceMethod yX0_counts, Cond.selects RX0 yX0_counts yX0_counts, Cond.code yX0_counts cX0_counts 3 (some .boolean), Cond.fieldLink RX0 9 "HandsHall$Hands" "out" "[Z", Cond.fieldLink RX0 21 "HandsHall$Hands" "said" "[[I"]
def wsX8_lean_r3 : List Cond := [Cond.methodLink RX2 84 yX2_startAlike, Cond.instanceMethod yX2_startAlike, Cond.selects RX2 yX2_startAlike yX2_startAlike, Cond.code yX2_startAlike cX2_startAlike 4 none, Cond.methodLink RX2 87 yX0_countWith, Cond.instanceMethod yX0_countWith, Cond.selects RX0 yX0_countWith yX0_countWith, Cond.code yX0_countWith cX0_countWith 5 (some .int), Cond.methodLink RX2 98 yX2_startGiven, Cond.instanceMethod yX2_startGiven, Cond.selects RX2 yX2_startGiven yX2_startGiven, Cond.code yX2_startGiven cX2_startGiven 4 none, Cond.methodLink RX2 77 yX1_given, Cond.instanceMethod yX1_given, Cond.selects RX1 yX1_given yX1_given, Cond.code yX1_given cX1_given 2 (some .int), Cond.methodLink RX2 63 yX2_sumSaid, Cond.instanceMethod yX2_sumSaid, Cond.selects RX2 yX2_sumSaid yX2_sumSaid, Cond.code yX2_sumSaid cX2_sumSaid 6 none, Cond.fieldLink RX2 31 "HandsHall$Joining" "sums" "[J", Cond.constantLong RX2 101 (10000), Cond.fieldLink RX2 107 "HandsHall$Hands" "said" "[[I", Cond.methodLink RX2 103 yX0_counts]
def wsX8_lean_r4 : List Cond := [Cond.methodLink RX2 110 yX2_spot, Cond.static yX2_spot, Cond.code yX2_spot cX2_spot 3 (some .int), Cond.methodLink RX2 66 yX2_fillTables, Cond.instanceMethod yX2_fillTables, Cond.selects RX2 yX2_fillTables yX2_fillTables, Cond.code yX2_fillTables cX2_fillTables 4 none, Cond.methodLink RX2 114 yX2_fillLine, Cond.instanceMethod yX2_fillLine, Cond.selects RX2 yX2_fillLine yX2_fillLine, Cond.code yX2_fillLine cX2_fillLine 7 none, Cond.fieldLink RX2 28 "HandsHall$Joining" "numbers" "[[I", Cond.constantLong RX2 118 (1000), Cond.methodLink RX2 69 yX2_renewAll, Cond.instanceMethod yX2_renewAll, Cond.selects RX2 yX2_renewAll yX2_renewAll, Cond.code yX2_renewAll cX2_renewAll 3 (some .int), Cond.methodLink RX2 126 Lib.Math.max.name, Cond.static Lib.Math.max.name, Cond.initialized "java/lang/Math", Cond.code Lib.Math.max.name Lib.Math.max.code 2 (some .int), Cond.methodLink RX2 120 yX2_weighAnswers, Cond.instanceMethod yX2_weighAnswers, Cond.selects RX2 yX2_weighAnswers yX2_weighAnswers]
def wsX8_lean_r5 : List Cond := [Cond.code yX2_weighAnswers cX2_weighAnswers 4 none, Cond.fieldLink RX2 35 "HandsHall$Joining" "fresh" "[J", Cond.methodLink RX2 131 yX2_weigh, Cond.instanceMethod yX2_weigh, Cond.selects RX2 yX2_weigh yX2_weigh, Cond.code yX2_weigh cX2_weigh 7 none, Cond.fieldLink RX2 38 "HandsHall$Joining" "weighed" "[J", Cond.constantLong RX2 134 (1000000), Cond.methodLink RX2 123 yX2_takeFresh, Cond.instanceMethod yX2_takeFresh, Cond.selects RX2 yX2_takeFresh yX2_takeFresh, Cond.code yX2_takeFresh cX2_takeFresh 5 (some .int), Cond.methodLink RX2 136 Lib.Math.abs.name, Cond.static Lib.Math.abs.name, Cond.code Lib.Math.abs.name Lib.Math.abs.code 1 (some .int), Cond.methodLink RX8 261 yX2_keepEnds, Cond.instanceMethod yX2_keepEnds, Cond.selects RX2 yX2_keepEnds yX2_keepEnds, Cond.code yX2_keepEnds cX2_keepEnds 2 none, Cond.fieldLink RX2 41 "HandsHall$Joining" "keptEnds" "[I", Cond.methodLink RX2 142 yX2_greatest, Cond.instanceMethod yX2_greatest, Cond.selects RX2 yX2_greatest yX2_greatest, Cond.code yX2_greatest cX2_greatest 4 (some .int)]
def wsX8_lean_r6 : List Cond := [Cond.methodLink RX8 264 yX2_endsUnlikeKept, Cond.instanceMethod yX2_endsUnlikeKept, Cond.selects RX2 yX2_endsUnlikeKept yX2_endsUnlikeKept, Cond.code yX2_endsUnlikeKept cX2_endsUnlikeKept 3 (some .int)]
def wsX8_lean : List Cond := .code yX8_lean cX8_lean 3 (some .int) :: ((wsX8_lean_r1 ++ (wsX8_lean_r2 ++ (wsX8_lean_r3 ++ (wsX8_lean_r4 ++ (wsX8_lean_r5 ++ wsX8_lean_r6))))) ++ wsX80 ++ wsX00 ++ wsX20 ++ wsX50 ++ wsX10)
def wsX8_coins_r1 : List Cond := [Cond.fieldLink RX8 33 "HandsHall" "hands" "LHandsHall$Hands;", Cond.fieldLink RX8 40 "HandsHall" "rules" "LHandsHall$Rules;", Cond.fieldLink RX8 188 "HandsHall$Rules" "value" "[I", Cond.methodLink RX8 176 yX0_has, Cond.instanceMethod yX0_has, Cond.selects RX0 yX0_has yX0_has, Cond.initialized RX0, Cond.code yX0_has cX0_has 2 (some .boolean), Cond.fieldLink RX0 24 "HandsHall$Hands" "count" "I", Cond.methodLink RX8 212 yX8_rightOf, Cond.instanceMethod yX8_rightOf, Cond.selects RX8 yX8_rightOf yX8_rightOf, Cond.initialized RX8, Cond.code yX8_rightOf cX8_rightOf 4 (some .int), Cond.fieldLink RX8 26 "HandsHall" "items" "LHandsHall$Items;", Cond.fieldLink RX8 101 "HandsHall$Items" "count" "I", Cond.methodLink RX8 254 yX8_isRight, Cond.instanceMethod yX8_isRight, Cond.selects RX8 yX8_isRight yX8_isRight, Cond.code yX8_isRight cX8_isRight 3 (some .boolean), Cond.fieldLink RX8 181 "HandsHall$Hands" "said" "[[I", Cond.fieldLink RX8 141 "HandsHall$Items" "known" "[I", Cond.methodLink RX8 225 yX8_isToKnown, Cond.instanceMethod yX8_isToKnown]
def wsX8_coins_r2 : List Cond := [Cond.selects RX8 yX8_isToKnown yX8_isToKnown, Cond.code yX8_isToKnown cX8_isToKnown 3 (some .boolean), Cond.methodLink RX8 241 yX0_counts, Cond.instanceMethod yX0_counts, Cond.selects RX0 yX0_counts yX0_counts, Cond.code yX0_counts cX0_counts 3 (some .boolean), Cond.fieldLink RX0 9 "HandsHall$Hands" "out" "[Z", Cond.fieldLink RX0 21 "HandsHall$Hands" "said" "[[I", Cond.methodLink RX8 206 yX8_answersOf, Cond.instanceMethod yX8_answersOf, Cond.selects RX8 yX8_answersOf yX8_answersOf, Cond.code yX8_answersOf cX8_answersOf 4 (some .int), Cond.methodLink RX8 209 yX8_answersToKnown, Cond.instanceMethod yX8_answersToKnown, Cond.selects RX8 yX8_answersToKnown yX8_answersToKnown, Cond.code yX8_answersToKnown cX8_answersToKnown 4 (some .int)]
def wsX8_coins : List Cond := .code yX8_coins cX8_coins 4 (some .int) :: ((wsX8_coins_r1 ++ wsX8_coins_r2) ++ wsX80 ++ wsX50 ++ wsX00 ++ wsX10)
def wsX8_pays : List Cond := .code yX8_pays cX8_pays 4 (some .int) :: ([.fieldLink RX8 66 "HandsHall" "pay" "LHandsHall$Pay;", .fieldLink RX8 269 "HandsHall$Pay" "right" "[I", .fieldLink RX8 272 "HandsHall$Pay" "wrong" "[I", .methodLink RX8 267 yX4_allows, .static yX4_allows, .initialized RX4, .code yX4_allows cX4_allows 1 (some .boolean)] ++ wsX80 ++ wsX40)
def wsX8_belief : List Cond := .code yX8_belief cX8_belief 4 (some .int) :: ([.fieldLink RX8 66 "HandsHall" "pay" "LHandsHall$Pay;", .methodLink RX8 275 yX4_firstUntrue, .instanceMethod yX4_firstUntrue, .selects RX4 yX4_firstUntrue yX4_firstUntrue, .initialized RX4, .code yX4_firstUntrue cX4_firstUntrue 2 (some .int), .methodLink RX4 22 yX4_bestSaying, .instanceMethod yX4_bestSaying, .selects RX4 yX4_bestSaying yX4_bestSaying, .code yX4_bestSaying cX4_bestSaying 4 (some .int), .methodLink RX4 18 yX4_brings, .instanceMethod yX4_brings, .selects RX4 yX4_brings yX4_brings, .code yX4_brings cX4_brings 3 (some .int), .fieldLink RX4 11 "HandsHall$Pay" "right" "[I", .fieldLink RX4 15 "HandsHall$Pay" "wrong" "[I", .methodLink RX8 278 yX4_bestSaying, .methodLink RX8 281 yX4_brings] ++ wsX80 ++ wsX40)
def wsX8_plan : List Cond := .code yX8_plan cX8_plan 4 (some .int) :: ([.methodLink RX8 284 yX3_greaterPart, .static yX3_greaterPart, .initialized RX3, .code yX3_greaterPart cX3_greaterPart 5 (some .long), .methodLink RX3 30 yX3_choose, .static yX3_choose, .code yX3_choose cX3_choose 5 (some .long), .methodLink RX3 34 yX3_power, .static yX3_power, .code yX3_power cX3_power 5 (some .long), .methodLink RX8 288 yX3_power])
def wsX8_allAnswers : List Cond := .code yX8_allAnswers cX8_allAnswers 3 (some .int) :: ([.fieldLink RX8 33 "HandsHall" "hands" "LHandsHall$Hands;", .fieldLink RX8 102 "HandsHall$Hands" "count" "I", .methodLink RX8 206 yX8_answersOf, .instanceMethod yX8_answersOf, .selects RX8 yX8_answersOf yX8_answersOf, .initialized RX8, .code yX8_answersOf cX8_answersOf 4 (some .int), .fieldLink RX8 26 "HandsHall" "items" "LHandsHall$Items;", .fieldLink RX8 101 "HandsHall$Items" "count" "I", .methodLink RX8 241 yX0_counts, .instanceMethod yX0_counts, .selects RX0 yX0_counts yX0_counts, .initialized RX0, .code yX0_counts cX0_counts 3 (some .boolean), .fieldLink RX0 9 "HandsHall$Hands" "out" "[Z", .fieldLink RX0 21 "HandsHall$Hands" "said" "[[I"] ++ wsX80 ++ wsX00 ++ wsX10)
def wsX8_openItems_r1 : List Cond := [Cond.fieldLink RX8 26 "HandsHall" "items" "LHandsHall$Items;", Cond.fieldLink RX8 101 "HandsHall$Items" "count" "I", Cond.methodLink RX8 161 yX8_isOpen, Cond.instanceMethod yX8_isOpen, Cond.selects RX8 yX8_isOpen yX8_isOpen, Cond.initialized RX8, Cond.code yX8_isOpen cX8_isOpen 5 (some .boolean), Cond.fieldLink RX8 154 "HandsHall$Items" "step" "[I", Cond.fieldLink RX8 19 "HandsHall" "steps" "LHandsHall$Steps;", Cond.fieldLink RX8 103 "HandsHall$Steps" "count" "I", Cond.fieldLink RX8 114 "HandsHall$Steps" "needs" "[I", Cond.fieldLink RX8 157 "HandsHall$Items" "thing" "[I", Cond.fieldLink RX8 117 "HandsHall$Steps" "number" "[I", Cond.methodLink RX8 120 yX1_find, Cond.instanceMethod yX1_find, Cond.selects RX1 yX1_find yX1_find, Cond.initialized RX1, Cond.code yX1_find cX1_find 4 (some .int), Cond.fieldLink RX1 30 "HandsHall$Items" "count" "I", Cond.fieldLink RX1 9 "HandsHall$Items" "step" "[I", Cond.fieldLink RX1 15 "HandsHall$Items" "thing" "[I", Cond.methodLink RX8 171 yX8_sureOf, Cond.instanceMethod yX8_sureOf, Cond.selects RX8 yX8_sureOf yX8_sureOf]
def wsX8_openItems_r2 : List Cond := [Cond.code yX8_sureOf cX8_sureOf 2 (some .int), Cond.fieldLink RX8 49 "HandsHall" "latest" "LHandsHall$Joining;", Cond.fieldLink RX8 194 "HandsHall$Joining" "shares" "[[I", Cond.methodLink RX8 168 yX2_greatest, Cond.instanceMethod yX2_greatest, Cond.selects RX2 yX2_greatest yX2_greatest, Cond.initialized RX2, Cond.code yX2_greatest cX2_greatest 4 (some .int), Cond.fieldLink RX2 11 "HandsHall$Joining" "items" "LHandsHall$Items;", Cond.fieldLink RX2 73 "HandsHall$Items" "labels" "[I", Cond.fieldLink RX2 25 "HandsHall$Joining" "shares" "[[I"]
def wsX8_openItems : List Cond := .code yX8_openItems cX8_openItems 3 (some .int) :: ((wsX8_openItems_r1 ++ wsX8_openItems_r2) ++ wsX80 ++ wsX10 ++ wsX60 ++ wsX20)
def wsX8_told_r1 : List Cond := [Cond.fieldLink RX8 10 "HandsHall" "text" "LHandsHall$Text;", Cond.fieldLink RX8 87 "HandsHall$Text" "count" "I", Cond.fieldLink RX8 19 "HandsHall" "steps" "LHandsHall$Steps;", Cond.fieldLink RX8 103 "HandsHall$Steps" "count" "I", Cond.fieldLink RX8 26 "HandsHall" "items" "LHandsHall$Items;", Cond.fieldLink RX8 101 "HandsHall$Items" "count" "I", Cond.fieldLink RX8 33 "HandsHall" "hands" "LHandsHall$Hands;", Cond.fieldLink RX8 102 "HandsHall$Hands" "count" "I", Cond.methodLink RX8 291 yX8_allAnswers, Cond.instanceMethod yX8_allAnswers, Cond.selects RX8 yX8_allAnswers yX8_allAnswers, Cond.initialized RX8, Cond.code yX8_allAnswers cX8_allAnswers 3 (some .int), Cond.methodLink RX8 206 yX8_answersOf, Cond.instanceMethod yX8_answersOf, Cond.selects RX8 yX8_answersOf yX8_answersOf, Cond.code yX8_answersOf cX8_answersOf 4 (some .int), Cond.methodLink RX8 241 yX0_counts, Cond.instanceMethod yX0_counts, Cond.selects RX0 yX0_counts yX0_counts, Cond.initialized RX0, Cond.code yX0_counts cX0_counts 3 (some .boolean), Cond.fieldLink RX0 9 "HandsHall$Hands" "out" "[Z", Cond.fieldLink RX0 21 "HandsHall$Hands" "said" "[[I"]
def wsX8_told_r2 : List Cond := [Cond.methodLink RX8 294 yX8_openItems, Cond.instanceMethod yX8_openItems, Cond.selects RX8 yX8_openItems yX8_openItems, Cond.code yX8_openItems cX8_openItems 3 (some .int), Cond.methodLink RX8 161 yX8_isOpen, Cond.instanceMethod yX8_isOpen, Cond.selects RX8 yX8_isOpen yX8_isOpen, Cond.code yX8_isOpen cX8_isOpen 5 (some .boolean), Cond.fieldLink RX8 154 "HandsHall$Items" "step" "[I", Cond.fieldLink RX8 114 "HandsHall$Steps" "needs" "[I", Cond.fieldLink RX8 157 "HandsHall$Items" "thing" "[I", Cond.fieldLink RX8 117 "HandsHall$Steps" "number" "[I", Cond.methodLink RX8 120 yX1_find, Cond.instanceMethod yX1_find, Cond.selects RX1 yX1_find yX1_find, Cond.initialized RX1, Cond.code yX1_find cX1_find 4 (some .int), Cond.fieldLink RX1 30 "HandsHall$Items" "count" "I", Cond.fieldLink RX1 9 "HandsHall$Items" "step" "[I", Cond.fieldLink RX1 15 "HandsHall$Items" "thing" "[I", Cond.methodLink RX8 171 yX8_sureOf, Cond.instanceMethod yX8_sureOf, Cond.selects RX8 yX8_sureOf yX8_sureOf, Cond.code yX8_sureOf cX8_sureOf 2 (some .int)]
def wsX8_told_r3 : List Cond := [Cond.fieldLink RX8 49 "HandsHall" "latest" "LHandsHall$Joining;", Cond.fieldLink RX8 194 "HandsHall$Joining" "shares" "[[I", Cond.methodLink RX8 168 yX2_greatest, Cond.instanceMethod yX2_greatest, Cond.selects RX2 yX2_greatest yX2_greatest, Cond.initialized RX2, Cond.code yX2_greatest cX2_greatest 4 (some .int), Cond.fieldLink RX2 11 "HandsHall$Joining" "items" "LHandsHall$Items;", Cond.fieldLink RX2 73 "HandsHall$Items" "labels" "[I", Cond.fieldLink RX2 25 "HandsHall$Joining" "shares" "[[I"]
def wsX8_told : List Cond := .code yX8_told cX8_told 2 (some .int) :: ((wsX8_told_r1 ++ (wsX8_told_r2 ++ wsX8_told_r3)) ++ wsX80 ++ wsX70 ++ wsX60 ++ wsX10 ++ wsX00 ++ wsX20)
def wsX9_init_r1 : List Cond := [Cond.methodLink RX9 1 objectInit, Cond.instanceMethod objectInit, Cond.code objectInit ⟨#[0xb1]⟩ 1 none, Cond.arrayClass .int, Cond.fieldLink RX9 7 "HandsHallModel" "sign" "[I", Cond.fieldLink RX9 13 "HandsHallModel" "stepName" "[I", Cond.fieldLink RX9 16 "HandsHallModel" "stepLabels" "[I", Cond.fieldLink RX9 19 "HandsHallModel" "stepNeeds" "[I", Cond.fieldLink RX9 22 "HandsHallModel" "stepNumber" "[I", Cond.fieldLink RX9 25 "HandsHallModel" "itemStep" "[I", Cond.fieldLink RX9 28 "HandsHallModel" "itemThing" "[I", Cond.fieldLink RX9 31 "HandsHallModel" "itemKnown" "[I", Cond.fieldLink RX9 34 "HandsHallModel" "itemSettled" "[I", Cond.fieldLink RX9 37 "HandsHallModel" "itemParts" "[I", Cond.arrayClass .boolean, Cond.fieldLink RX9 40 "HandsHallModel" "isOut" "[Z", Cond.fieldLink RX9 44 "HandsHallModel" "version" "[I", Cond.fieldLink RX9 47 "HandsHallModel" "answers" "[I", Cond.fieldLink RX9 50 "HandsHallModel" "rule" "[I", Cond.fieldLink RX9 53 "HandsHallModel" "payRight" "[I", Cond.fieldLink RX9 56 "HandsHallModel" "payWrong" "[I", Cond.fieldLink RX9 59 "HandsHallModel" "share" "[I", Cond.fieldLink RX9 62 "HandsHallModel" "table" "[I", Cond.fieldLink RX9 65 "HandsHallModel" "keptShare" "[I"]
def wsX9_init_r2 : List Cond := [Cond.fieldLink RX9 68 "HandsHallModel" "keptTable" "[I", Cond.fieldLink RX9 71 "HandsHallModel" "readName" "[I", Cond.fieldLink RX9 74 "HandsHallModel" "readLabels" "[I", Cond.fieldLink RX9 77 "HandsHallModel" "readNeeds" "[I", Cond.fieldLink RX9 80 "HandsHallModel" "readNumber" "[I", Cond.fieldLink RX9 83 "HandsHallModel" "own" "[I", Cond.arrayClass .long, Cond.fieldLink RX9 86 "HandsHallModel" "ways" "[J", Cond.fieldLink RX9 90 "HandsHallModel" "endIn" "[I"]
def wsX9_init : List Cond := .code yX9_init cX9_init 1 none :: ((wsX9_init_r1 ++ wsX9_init_r2) ++ wsX90)
def wsX9_in : List Cond := .code yX9_in cX9_in 3 (some .boolean) :: ([])
def wsX9_say : List Cond := .code yX9_say cX9_say 2 (some .int) :: ([.fieldLink RX9 97 "HandsHallModel" "signs" "I", .fieldLink RX9 7 "HandsHallModel" "sign" "[I", .methodLink RX9 93 yX9_in, .static yX9_in, .initialized RX9, .code yX9_in cX9_in 3 (some .boolean)] ++ wsX90)
def wsX9_wipe : List Cond := .code yX9_wipe cX9_wipe 2 (some .int) :: ([.fieldLink RX9 97 "HandsHallModel" "signs" "I"] ++ wsX90)
def wsX9_named : List Cond := .code yX9_named cX9_named 4 (some .int) :: ([.fieldLink RX9 71 "HandsHallModel" "readName" "[I"] ++ wsX90)
def wsX9_faultOf : List Cond := .code yX9_faultOf cX9_faultOf 7 (some .int) :: ([.fieldLink RX9 101 "HandsHallModel" "readSteps" "I", .fieldLink RX9 97 "HandsHallModel" "signs" "I", .fieldLink RX9 7 "HandsHallModel" "sign" "[I", .fieldLink RX9 71 "HandsHallModel" "readName" "[I", .fieldLink RX9 77 "HandsHallModel" "readNeeds" "[I", .fieldLink RX9 74 "HandsHallModel" "readLabels" "[I", .fieldLink RX9 80 "HandsHallModel" "readNumber" "[I", .methodLink RX9 93 yX9_in, .static yX9_in, .initialized RX9, .code yX9_in cX9_in 3 (some .boolean), .methodLink RX9 104 yX9_named, .instanceMethod yX9_named, .selects RX9 yX9_named yX9_named, .code yX9_named cX9_named 4 (some .int)] ++ wsX90)
def wsX9_fault : List Cond := .code yX9_fault cX9_fault 1 (some .int) :: ([.methodLink RX9 108 yX9_faultOf, .instanceMethod yX9_faultOf, .selects RX9 yX9_faultOf yX9_faultOf, .initialized RX9, .code yX9_faultOf cX9_faultOf 7 (some .int), .fieldLink RX9 101 "HandsHallModel" "readSteps" "I", .fieldLink RX9 97 "HandsHallModel" "signs" "I", .fieldLink RX9 7 "HandsHallModel" "sign" "[I", .fieldLink RX9 71 "HandsHallModel" "readName" "[I", .fieldLink RX9 77 "HandsHallModel" "readNeeds" "[I", .fieldLink RX9 74 "HandsHallModel" "readLabels" "[I", .fieldLink RX9 80 "HandsHallModel" "readNumber" "[I", .methodLink RX9 93 yX9_in, .static yX9_in, .code yX9_in cX9_in 3 (some .boolean), .methodLink RX9 104 yX9_named, .instanceMethod yX9_named, .selects RX9 yX9_named yX9_named, .code yX9_named cX9_named 4 (some .int)] ++ wsX90)
def wsX9_task_r1 : List Cond := [Cond.fieldLink RX9 101 "HandsHallModel" "readSteps" "I", Cond.fieldLink RX9 112 "HandsHallModel" "steps" "I", Cond.fieldLink RX9 13 "HandsHallModel" "stepName" "[I", Cond.fieldLink RX9 71 "HandsHallModel" "readName" "[I", Cond.fieldLink RX9 16 "HandsHallModel" "stepLabels" "[I", Cond.fieldLink RX9 74 "HandsHallModel" "readLabels" "[I", Cond.fieldLink RX9 19 "HandsHallModel" "stepNeeds" "[I", Cond.fieldLink RX9 77 "HandsHallModel" "readNeeds" "[I", Cond.fieldLink RX9 22 "HandsHallModel" "stepNumber" "[I", Cond.fieldLink RX9 80 "HandsHallModel" "readNumber" "[I", Cond.fieldLink RX9 115 "HandsHallModel" "items" "I", Cond.fieldLink RX9 118 "HandsHallModel" "hands" "I", Cond.fieldLink RX9 97 "HandsHallModel" "signs" "I", Cond.fieldLink RX9 121 "HandsHallModel" "isJoined" "Z", Cond.fieldLink RX9 125 "HandsHallModel" "joinedItems" "I", Cond.fieldLink RX9 128 "HandsHallModel" "joinedHands" "I", Cond.methodLink RX9 108 yX9_faultOf, Cond.instanceMethod yX9_faultOf, Cond.selects RX9 yX9_faultOf yX9_faultOf, Cond.initialized RX9, Cond.code yX9_faultOf cX9_faultOf 7 (some .int), Cond.fieldLink RX9 7 "HandsHallModel" "sign" "[I", Cond.methodLink RX9 93 yX9_in, Cond.static yX9_in]
def wsX9_task_r2 : List Cond := [Cond.code yX9_in cX9_in 3 (some .boolean), Cond.methodLink RX9 104 yX9_named, Cond.instanceMethod yX9_named, Cond.selects RX9 yX9_named yX9_named, Cond.code yX9_named cX9_named 4 (some .int)]
def wsX9_task : List Cond := .code yX9_task cX9_task 2 (some .int) :: ((wsX9_task_r1 ++ wsX9_task_r2) ++ wsX90)
def wsX9_step : List Cond := .code yX9_step cX9_step 3 (some .int) :: ([.fieldLink RX9 112 "HandsHallModel" "steps" "I", .fieldLink RX9 13 "HandsHallModel" "stepName" "[I", .fieldLink RX9 16 "HandsHallModel" "stepLabels" "[I", .fieldLink RX9 19 "HandsHallModel" "stepNeeds" "[I", .fieldLink RX9 22 "HandsHallModel" "stepNumber" "[I", .methodLink RX9 93 yX9_in, .static yX9_in, .initialized RX9, .code yX9_in cX9_in 3 (some .boolean)] ++ wsX90)
def wsX9_itemOf : List Cond := .code yX9_itemOf cX9_itemOf 4 (some .int) :: ([.fieldLink RX9 115 "HandsHallModel" "items" "I", .fieldLink RX9 25 "HandsHallModel" "itemStep" "[I", .fieldLink RX9 28 "HandsHallModel" "itemThing" "[I"] ++ wsX90)
def wsX9_item : List Cond := .code yX9_item cX9_item 4 (some .int) :: ([.fieldLink RX9 112 "HandsHallModel" "steps" "I", .fieldLink RX9 115 "HandsHallModel" "items" "I", .fieldLink RX9 25 "HandsHallModel" "itemStep" "[I", .fieldLink RX9 28 "HandsHallModel" "itemThing" "[I", .fieldLink RX9 31 "HandsHallModel" "itemKnown" "[I", .fieldLink RX9 34 "HandsHallModel" "itemSettled" "[I", .fieldLink RX9 37 "HandsHallModel" "itemParts" "[I", .fieldLink RX9 47 "HandsHallModel" "answers" "[I", .methodLink RX9 93 yX9_in, .static yX9_in, .initialized RX9, .code yX9_in cX9_in 3 (some .boolean), .methodLink RX9 131 yX9_itemOf, .instanceMethod yX9_itemOf, .selects RX9 yX9_itemOf yX9_itemOf, .code yX9_itemOf cX9_itemOf 4 (some .int)] ++ wsX90)
def wsX9_isItem : List Cond := .code yX9_isItem cX9_isItem 2 (some .boolean) :: ([.fieldLink RX9 115 "HandsHallModel" "items" "I", .methodLink RX9 93 yX9_in, .static yX9_in, .initialized RX9, .code yX9_in cX9_in 3 (some .boolean)] ++ wsX90)
def wsX9_isHand : List Cond := .code yX9_isHand cX9_isHand 2 (some .boolean) :: ([.fieldLink RX9 118 "HandsHallModel" "hands" "I", .methodLink RX9 93 yX9_in, .static yX9_in, .initialized RX9, .code yX9_in cX9_in 3 (some .boolean)] ++ wsX90)
def wsX9_labelsOf : List Cond := .code yX9_labelsOf cX9_labelsOf 2 (some .int) :: ([.fieldLink RX9 16 "HandsHallModel" "stepLabels" "[I", .fieldLink RX9 25 "HandsHallModel" "itemStep" "[I"] ++ wsX90)
def wsX9_isLabel : List Cond := .code yX9_isLabel cX9_isLabel 3 (some .boolean) :: ([.methodLink RX9 134 yX9_isItem, .instanceMethod yX9_isItem, .selects RX9 yX9_isItem yX9_isItem, .initialized RX9, .code yX9_isItem cX9_isItem 2 (some .boolean), .fieldLink RX9 115 "HandsHallModel" "items" "I", .methodLink RX9 93 yX9_in, .static yX9_in, .code yX9_in cX9_in 3 (some .boolean), .methodLink RX9 138 yX9_labelsOf, .instanceMethod yX9_labelsOf, .selects RX9 yX9_labelsOf yX9_labelsOf, .code yX9_labelsOf cX9_labelsOf 2 (some .int), .fieldLink RX9 16 "HandsHallModel" "stepLabels" "[I", .fieldLink RX9 25 "HandsHallModel" "itemStep" "[I"] ++ wsX90)
def wsX9_fixed : List Cond := .code yX9_fixed cX9_fixed 2 (some .int) :: ([.fieldLink RX9 31 "HandsHallModel" "itemKnown" "[I", .fieldLink RX9 34 "HandsHallModel" "itemSettled" "[I"] ++ wsX90)
def wsX9_known_r1 : List Cond := [Cond.fieldLink RX9 118 "HandsHallModel" "hands" "I", Cond.fieldLink RX9 47 "HandsHallModel" "answers" "[I", Cond.fieldLink RX9 31 "HandsHallModel" "itemKnown" "[I", Cond.methodLink RX9 142 yX9_isLabel, Cond.instanceMethod yX9_isLabel, Cond.selects RX9 yX9_isLabel yX9_isLabel, Cond.initialized RX9, Cond.code yX9_isLabel cX9_isLabel 3 (some .boolean), Cond.methodLink RX9 134 yX9_isItem, Cond.instanceMethod yX9_isItem, Cond.selects RX9 yX9_isItem yX9_isItem, Cond.code yX9_isItem cX9_isItem 2 (some .boolean), Cond.fieldLink RX9 115 "HandsHallModel" "items" "I", Cond.methodLink RX9 93 yX9_in, Cond.static yX9_in, Cond.code yX9_in cX9_in 3 (some .boolean), Cond.methodLink RX9 138 yX9_labelsOf, Cond.instanceMethod yX9_labelsOf, Cond.selects RX9 yX9_labelsOf yX9_labelsOf, Cond.code yX9_labelsOf cX9_labelsOf 2 (some .int), Cond.fieldLink RX9 16 "HandsHallModel" "stepLabels" "[I", Cond.fieldLink RX9 25 "HandsHallModel" "itemStep" "[I", Cond.methodLink RX9 146 yX9_fixed, Cond.instanceMethod yX9_fixed]
def wsX9_known_r2 : List Cond := [Cond.selects RX9 yX9_fixed yX9_fixed, Cond.code yX9_fixed cX9_fixed 2 (some .int), Cond.fieldLink RX9 34 "HandsHallModel" "itemSettled" "[I"]
def wsX9_known : List Cond := .code yX9_known cX9_known 5 (some .int) :: ((wsX9_known_r1 ++ wsX9_known_r2) ++ wsX90)
def wsX9_settle : List Cond := .code yX9_settle cX9_settle 4 (some .int) :: ([.fieldLink RX9 31 "HandsHallModel" "itemKnown" "[I", .fieldLink RX9 34 "HandsHallModel" "itemSettled" "[I", .methodLink RX9 142 yX9_isLabel, .instanceMethod yX9_isLabel, .selects RX9 yX9_isLabel yX9_isLabel, .initialized RX9, .code yX9_isLabel cX9_isLabel 3 (some .boolean), .methodLink RX9 134 yX9_isItem, .instanceMethod yX9_isItem, .selects RX9 yX9_isItem yX9_isItem, .code yX9_isItem cX9_isItem 2 (some .boolean), .fieldLink RX9 115 "HandsHallModel" "items" "I", .methodLink RX9 93 yX9_in, .static yX9_in, .code yX9_in cX9_in 3 (some .boolean), .methodLink RX9 138 yX9_labelsOf, .instanceMethod yX9_labelsOf, .selects RX9 yX9_labelsOf yX9_labelsOf, .code yX9_labelsOf cX9_labelsOf 2 (some .int), .fieldLink RX9 16 "HandsHallModel" "stepLabels" "[I", .fieldLink RX9 25 "HandsHallModel" "itemStep" "[I"] ++ wsX90)
def wsX9_show : List Cond := .code yX9_show cX9_show 4 (some .int) :: ([.fieldLink RX9 37 "HandsHallModel" "itemParts" "[I", .methodLink RX9 134 yX9_isItem, .instanceMethod yX9_isItem, .selects RX9 yX9_isItem yX9_isItem, .initialized RX9, .code yX9_isItem cX9_isItem 2 (some .boolean), .fieldLink RX9 115 "HandsHallModel" "items" "I", .methodLink RX9 93 yX9_in, .static yX9_in, .code yX9_in cX9_in 3 (some .boolean)] ++ wsX90)
def wsX9_shareOf : List Cond := .code yX9_shareOf cX9_shareOf 4 (some .int) :: ([.constant RX9 149 (1000000), .fieldLink RX9 121 "HandsHallModel" "isJoined" "Z", .fieldLink RX9 125 "HandsHallModel" "joinedItems" "I", .fieldLink RX9 59 "HandsHallModel" "share" "[I", .methodLink RX9 146 yX9_fixed, .instanceMethod yX9_fixed, .selects RX9 yX9_fixed yX9_fixed, .initialized RX9, .code yX9_fixed cX9_fixed 2 (some .int), .fieldLink RX9 31 "HandsHallModel" "itemKnown" "[I", .fieldLink RX9 34 "HandsHallModel" "itemSettled" "[I", .methodLink RX9 138 yX9_labelsOf, .instanceMethod yX9_labelsOf, .selects RX9 yX9_labelsOf yX9_labelsOf, .code yX9_labelsOf cX9_labelsOf 2 (some .int), .fieldLink RX9 16 "HandsHallModel" "stepLabels" "[I", .fieldLink RX9 25 "HandsHallModel" "itemStep" "[I"] ++ wsX90)
def wsX9_endOf : List Cond := .code yX9_endOf cX9_endOf 4 (some .int) :: ([.methodLink RX9 138 yX9_labelsOf, .instanceMethod yX9_labelsOf, .selects RX9 yX9_labelsOf yX9_labelsOf, .initialized RX9, .code yX9_labelsOf cX9_labelsOf 2 (some .int), .fieldLink RX9 16 "HandsHallModel" "stepLabels" "[I", .fieldLink RX9 25 "HandsHallModel" "itemStep" "[I", .methodLink RX9 150 yX9_shareOf, .instanceMethod yX9_shareOf, .selects RX9 yX9_shareOf yX9_shareOf, .code yX9_shareOf cX9_shareOf 4 (some .int), .constant RX9 149 (1000000), .fieldLink RX9 121 "HandsHallModel" "isJoined" "Z", .fieldLink RX9 125 "HandsHallModel" "joinedItems" "I", .fieldLink RX9 59 "HandsHallModel" "share" "[I", .methodLink RX9 146 yX9_fixed, .instanceMethod yX9_fixed, .selects RX9 yX9_fixed yX9_fixed, .code yX9_fixed cX9_fixed 2 (some .int), .fieldLink RX9 31 "HandsHallModel" "itemKnown" "[I", .fieldLink RX9 34 "HandsHallModel" "itemSettled" "[I"] ++ wsX90)
def wsX9_sureOf_r1 : List Cond := [Cond.methodLink RX9 153 yX9_endOf, Cond.instanceMethod yX9_endOf, Cond.selects RX9 yX9_endOf yX9_endOf, Cond.initialized RX9, Cond.code yX9_endOf cX9_endOf 4 (some .int), Cond.methodLink RX9 138 yX9_labelsOf, Cond.instanceMethod yX9_labelsOf, Cond.selects RX9 yX9_labelsOf yX9_labelsOf, Cond.code yX9_labelsOf cX9_labelsOf 2 (some .int), Cond.fieldLink RX9 16 "HandsHallModel" "stepLabels" "[I", Cond.fieldLink RX9 25 "HandsHallModel" "itemStep" "[I", Cond.methodLink RX9 150 yX9_shareOf, Cond.instanceMethod yX9_shareOf, Cond.selects RX9 yX9_shareOf yX9_shareOf, Cond.code yX9_shareOf cX9_shareOf 4 (some .int), Cond.constant RX9 149 (1000000), Cond.fieldLink RX9 121 "HandsHallModel" "isJoined" "Z", Cond.fieldLink RX9 125 "HandsHallModel" "joinedItems" "I", Cond.fieldLink RX9 59 "HandsHallModel" "share" "[I", Cond.methodLink RX9 146 yX9_fixed, Cond.instanceMethod yX9_fixed, Cond.selects RX9 yX9_fixed yX9_fixed, Cond.code yX9_fixed cX9_fixed 2 (some .int), Cond.fieldLink RX9 31 "HandsHallModel" "itemKnown" "[I"]
def wsX9_sureOf_r2 : List Cond := [Cond.fieldLink RX9 34 "HandsHallModel" "itemSettled" "[I"]
def wsX9_sureOf : List Cond := .code yX9_sureOf cX9_sureOf 2 (some .int) :: ((wsX9_sureOf_r1 ++ wsX9_sureOf_r2) ++ wsX90)
def wsX9_isOpen_r1 : List Cond := [Cond.fieldLink RX9 112 "HandsHallModel" "steps" "I", Cond.fieldLink RX9 19 "HandsHallModel" "stepNeeds" "[I", Cond.fieldLink RX9 25 "HandsHallModel" "itemStep" "[I", Cond.fieldLink RX9 28 "HandsHallModel" "itemThing" "[I", Cond.fieldLink RX9 22 "HandsHallModel" "stepNumber" "[I", Cond.methodLink RX9 131 yX9_itemOf, Cond.instanceMethod yX9_itemOf, Cond.selects RX9 yX9_itemOf yX9_itemOf, Cond.initialized RX9, Cond.code yX9_itemOf cX9_itemOf 4 (some .int), Cond.fieldLink RX9 115 "HandsHallModel" "items" "I", Cond.methodLink RX9 156 yX9_sureOf, Cond.instanceMethod yX9_sureOf, Cond.selects RX9 yX9_sureOf yX9_sureOf, Cond.code yX9_sureOf cX9_sureOf 2 (some .int), Cond.methodLink RX9 153 yX9_endOf, Cond.instanceMethod yX9_endOf, Cond.selects RX9 yX9_endOf yX9_endOf, Cond.code yX9_endOf cX9_endOf 4 (some .int), Cond.methodLink RX9 138 yX9_labelsOf, Cond.instanceMethod yX9_labelsOf, Cond.selects RX9 yX9_labelsOf yX9_labelsOf, Cond.code yX9_labelsOf cX9_labelsOf 2 (some .int), Cond.fieldLink RX9 16 "HandsHallModel" "stepLabels" "[I"]
def wsX9_isOpen_r2 : List Cond := [Cond.methodLink RX9 150 yX9_shareOf, Cond.instanceMethod yX9_shareOf, Cond.selects RX9 yX9_shareOf yX9_shareOf, Cond.code yX9_shareOf cX9_shareOf 4 (some .int), Cond.constant RX9 149 (1000000), Cond.fieldLink RX9 121 "HandsHallModel" "isJoined" "Z", Cond.fieldLink RX9 125 "HandsHallModel" "joinedItems" "I", Cond.fieldLink RX9 59 "HandsHallModel" "share" "[I", Cond.methodLink RX9 146 yX9_fixed, Cond.instanceMethod yX9_fixed, Cond.selects RX9 yX9_fixed yX9_fixed, Cond.code yX9_fixed cX9_fixed 2 (some .int), Cond.fieldLink RX9 31 "HandsHallModel" "itemKnown" "[I", Cond.fieldLink RX9 34 "HandsHallModel" "itemSettled" "[I"]
def wsX9_isOpen : List Cond := .code yX9_isOpen cX9_isOpen 5 (some .boolean) :: ((wsX9_isOpen_r1 ++ wsX9_isOpen_r2) ++ wsX90)
def wsX9_counts : List Cond := .code yX9_counts cX9_counts 3 (some .boolean) :: ([.fieldLink RX9 40 "HandsHallModel" "isOut" "[Z", .fieldLink RX9 47 "HandsHallModel" "answers" "[I"] ++ wsX90)
def wsX9_countOf : List Cond := .code yX9_countOf cX9_countOf 4 (some .int) :: ([.fieldLink RX9 118 "HandsHallModel" "hands" "I", .methodLink RX9 159 yX9_counts, .instanceMethod yX9_counts, .selects RX9 yX9_counts yX9_counts, .initialized RX9, .code yX9_counts cX9_counts 3 (some .boolean), .fieldLink RX9 40 "HandsHallModel" "isOut" "[Z", .fieldLink RX9 47 "HandsHallModel" "answers" "[I"] ++ wsX90)
def wsX9_ofItem_r1 : List Cond := [Cond.fieldLink RX9 25 "HandsHallModel" "itemStep" "[I", Cond.fieldLink RX9 28 "HandsHallModel" "itemThing" "[I", Cond.fieldLink RX9 31 "HandsHallModel" "itemKnown" "[I", Cond.fieldLink RX9 34 "HandsHallModel" "itemSettled" "[I", Cond.fieldLink RX9 37 "HandsHallModel" "itemParts" "[I", Cond.methodLink RX9 134 yX9_isItem, Cond.instanceMethod yX9_isItem, Cond.selects RX9 yX9_isItem yX9_isItem, Cond.initialized RX9, Cond.code yX9_isItem cX9_isItem 2 (some .boolean), Cond.fieldLink RX9 115 "HandsHallModel" "items" "I", Cond.methodLink RX9 93 yX9_in, Cond.static yX9_in, Cond.code yX9_in cX9_in 3 (some .boolean), Cond.methodLink RX9 138 yX9_labelsOf, Cond.instanceMethod yX9_labelsOf, Cond.selects RX9 yX9_labelsOf yX9_labelsOf, Cond.code yX9_labelsOf cX9_labelsOf 2 (some .int), Cond.fieldLink RX9 16 "HandsHallModel" "stepLabels" "[I", Cond.methodLink RX9 162 yX9_isOpen, Cond.instanceMethod yX9_isOpen, Cond.selects RX9 yX9_isOpen yX9_isOpen, Cond.code yX9_isOpen cX9_isOpen 5 (some .boolean), Cond.fieldLink RX9 112 "HandsHallModel" "steps" "I"]
def wsX9_ofItem_r2 : List Cond := [Cond.fieldLink RX9 19 "HandsHallModel" "stepNeeds" "[I", Cond.fieldLink RX9 22 "HandsHallModel" "stepNumber" "[I", Cond.methodLink RX9 131 yX9_itemOf, Cond.instanceMethod yX9_itemOf, Cond.selects RX9 yX9_itemOf yX9_itemOf, Cond.code yX9_itemOf cX9_itemOf 4 (some .int), Cond.methodLink RX9 156 yX9_sureOf, Cond.instanceMethod yX9_sureOf, Cond.selects RX9 yX9_sureOf yX9_sureOf, Cond.code yX9_sureOf cX9_sureOf 2 (some .int), Cond.methodLink RX9 153 yX9_endOf, Cond.instanceMethod yX9_endOf, Cond.selects RX9 yX9_endOf yX9_endOf, Cond.code yX9_endOf cX9_endOf 4 (some .int), Cond.methodLink RX9 150 yX9_shareOf, Cond.instanceMethod yX9_shareOf, Cond.selects RX9 yX9_shareOf yX9_shareOf, Cond.code yX9_shareOf cX9_shareOf 4 (some .int), Cond.constant RX9 149 (1000000), Cond.fieldLink RX9 121 "HandsHallModel" "isJoined" "Z", Cond.fieldLink RX9 125 "HandsHallModel" "joinedItems" "I", Cond.fieldLink RX9 59 "HandsHallModel" "share" "[I", Cond.methodLink RX9 146 yX9_fixed, Cond.instanceMethod yX9_fixed]
def wsX9_ofItem_r3 : List Cond := [Cond.selects RX9 yX9_fixed yX9_fixed, Cond.code yX9_fixed cX9_fixed 2 (some .int), Cond.methodLink RX9 165 yX9_countOf, Cond.instanceMethod yX9_countOf, Cond.selects RX9 yX9_countOf yX9_countOf, Cond.code yX9_countOf cX9_countOf 4 (some .int), Cond.fieldLink RX9 118 "HandsHallModel" "hands" "I", Cond.methodLink RX9 159 yX9_counts, Cond.instanceMethod yX9_counts, Cond.selects RX9 yX9_counts yX9_counts, Cond.code yX9_counts cX9_counts 3 (some .boolean), Cond.fieldLink RX9 40 "HandsHallModel" "isOut" "[Z", Cond.fieldLink RX9 47 "HandsHallModel" "answers" "[I"]
def wsX9_ofItem : List Cond := .code yX9_ofItem cX9_ofItem 3 (some .int) :: ((wsX9_ofItem_r1 ++ (wsX9_ofItem_r2 ++ wsX9_ofItem_r3)) ++ wsX90)
def wsX9_hand : List Cond := .code yX9_hand cX9_hand 2 (some .int) :: ([.fieldLink RX9 118 "HandsHallModel" "hands" "I", .fieldLink RX9 40 "HandsHallModel" "isOut" "[Z", .fieldLink RX9 44 "HandsHallModel" "version" "[I", .fieldLink RX9 47 "HandsHallModel" "answers" "[I"] ++ wsX90)
def wsX9_out : List Cond := .code yX9_out cX9_out 4 (some .int) :: ([.fieldLink RX9 40 "HandsHallModel" "isOut" "[Z", .methodLink RX9 168 yX9_isHand, .instanceMethod yX9_isHand, .selects RX9 yX9_isHand yX9_isHand, .initialized RX9, .code yX9_isHand cX9_isHand 2 (some .boolean), .fieldLink RX9 118 "HandsHallModel" "hands" "I", .methodLink RX9 93 yX9_in, .static yX9_in, .code yX9_in cX9_in 3 (some .boolean)] ++ wsX90)
def wsX9_answer_r1 : List Cond := [Cond.fieldLink RX9 40 "HandsHallModel" "isOut" "[Z", Cond.fieldLink RX9 47 "HandsHallModel" "answers" "[I", Cond.methodLink RX9 168 yX9_isHand, Cond.instanceMethod yX9_isHand, Cond.selects RX9 yX9_isHand yX9_isHand, Cond.initialized RX9, Cond.code yX9_isHand cX9_isHand 2 (some .boolean), Cond.fieldLink RX9 118 "HandsHallModel" "hands" "I", Cond.methodLink RX9 93 yX9_in, Cond.static yX9_in, Cond.code yX9_in cX9_in 3 (some .boolean), Cond.methodLink RX9 142 yX9_isLabel, Cond.instanceMethod yX9_isLabel, Cond.selects RX9 yX9_isLabel yX9_isLabel, Cond.code yX9_isLabel cX9_isLabel 3 (some .boolean), Cond.methodLink RX9 134 yX9_isItem, Cond.instanceMethod yX9_isItem, Cond.selects RX9 yX9_isItem yX9_isItem, Cond.code yX9_isItem cX9_isItem 2 (some .boolean), Cond.fieldLink RX9 115 "HandsHallModel" "items" "I", Cond.methodLink RX9 138 yX9_labelsOf, Cond.instanceMethod yX9_labelsOf, Cond.selects RX9 yX9_labelsOf yX9_labelsOf, Cond.code yX9_labelsOf cX9_labelsOf 2 (some .int)]
def wsX9_answer_r2 : List Cond := [Cond.fieldLink RX9 16 "HandsHallModel" "stepLabels" "[I", Cond.fieldLink RX9 25 "HandsHallModel" "itemStep" "[I", Cond.methodLink RX9 162 yX9_isOpen, Cond.instanceMethod yX9_isOpen, Cond.selects RX9 yX9_isOpen yX9_isOpen, Cond.code yX9_isOpen cX9_isOpen 5 (some .boolean), Cond.fieldLink RX9 112 "HandsHallModel" "steps" "I", Cond.fieldLink RX9 19 "HandsHallModel" "stepNeeds" "[I", Cond.fieldLink RX9 28 "HandsHallModel" "itemThing" "[I", Cond.fieldLink RX9 22 "HandsHallModel" "stepNumber" "[I", Cond.methodLink RX9 131 yX9_itemOf, Cond.instanceMethod yX9_itemOf, Cond.selects RX9 yX9_itemOf yX9_itemOf, Cond.code yX9_itemOf cX9_itemOf 4 (some .int), Cond.methodLink RX9 156 yX9_sureOf, Cond.instanceMethod yX9_sureOf, Cond.selects RX9 yX9_sureOf yX9_sureOf, Cond.code yX9_sureOf cX9_sureOf 2 (some .int), Cond.methodLink RX9 153 yX9_endOf, Cond.instanceMethod yX9_endOf, Cond.selects RX9 yX9_endOf yX9_endOf, Cond.code yX9_endOf cX9_endOf 4 (some .int), Cond.methodLink RX9 150 yX9_shareOf, Cond.instanceMethod yX9_shareOf]
def wsX9_answer_r3 : List Cond := [Cond.selects RX9 yX9_shareOf yX9_shareOf, Cond.code yX9_shareOf cX9_shareOf 4 (some .int), Cond.constant RX9 149 (1000000), Cond.fieldLink RX9 121 "HandsHallModel" "isJoined" "Z", Cond.fieldLink RX9 125 "HandsHallModel" "joinedItems" "I", Cond.fieldLink RX9 59 "HandsHallModel" "share" "[I", Cond.methodLink RX9 146 yX9_fixed, Cond.instanceMethod yX9_fixed, Cond.selects RX9 yX9_fixed yX9_fixed, Cond.code yX9_fixed cX9_fixed 2 (some .int), Cond.fieldLink RX9 31 "HandsHallModel" "itemKnown" "[I", Cond.fieldLink RX9 34 "HandsHallModel" "itemSettled" "[I"]
def wsX9_answer : List Cond := .code yX9_answer cX9_answer 4 (some .int) :: ((wsX9_answer_r1 ++ (wsX9_answer_r2 ++ wsX9_answer_r3)) ++ wsX90)
def wsX9_back : List Cond := .code yX9_back cX9_back 4 (some .int) :: ([.fieldLink RX9 47 "HandsHallModel" "answers" "[I", .methodLink RX9 168 yX9_isHand, .instanceMethod yX9_isHand, .selects RX9 yX9_isHand yX9_isHand, .initialized RX9, .code yX9_isHand cX9_isHand 2 (some .boolean), .fieldLink RX9 118 "HandsHallModel" "hands" "I", .methodLink RX9 93 yX9_in, .static yX9_in, .code yX9_in cX9_in 3 (some .boolean), .methodLink RX9 134 yX9_isItem, .instanceMethod yX9_isItem, .selects RX9 yX9_isItem yX9_isItem, .code yX9_isItem cX9_isItem 2 (some .boolean), .fieldLink RX9 115 "HandsHallModel" "items" "I"] ++ wsX90)
def wsX9_said : List Cond := .code yX9_said cX9_said 3 (some .int) :: ([.fieldLink RX9 47 "HandsHallModel" "answers" "[I", .methodLink RX9 168 yX9_isHand, .instanceMethod yX9_isHand, .selects RX9 yX9_isHand yX9_isHand, .initialized RX9, .code yX9_isHand cX9_isHand 2 (some .boolean), .fieldLink RX9 118 "HandsHallModel" "hands" "I", .methodLink RX9 93 yX9_in, .static yX9_in, .code yX9_in cX9_in 3 (some .boolean), .methodLink RX9 134 yX9_isItem, .instanceMethod yX9_isItem, .selects RX9 yX9_isItem yX9_isItem, .code yX9_isItem cX9_isItem 2 (some .boolean), .fieldLink RX9 115 "HandsHallModel" "items" "I"] ++ wsX90)
def wsX9_set : List Cond := .code yX9_set cX9_set 6 (some .int) :: ([.constant RX9 171 (100000), .fieldLink RX9 50 "HandsHallModel" "rule" "[I", .methodLink RX9 93 yX9_in, .static yX9_in, .initialized RX9, .code yX9_in cX9_in 3 (some .boolean)] ++ wsX90)
def wsX9_at : List Cond := .code yX9_at cX9_at 4 (some .int) :: ([])
def wsX9_beginShares_r1 : List Cond := [Cond.fieldLink RX9 115 "HandsHallModel" "items" "I", Cond.fieldLink RX9 118 "HandsHallModel" "hands" "I", Cond.fieldLink RX9 47 "HandsHallModel" "answers" "[I", Cond.fieldLink RX9 59 "HandsHallModel" "share" "[I", Cond.constant RX9 149 (1000000), Cond.methodLink RX9 165 yX9_countOf, Cond.instanceMethod yX9_countOf, Cond.selects RX9 yX9_countOf yX9_countOf, Cond.initialized RX9, Cond.code yX9_countOf cX9_countOf 4 (some .int), Cond.methodLink RX9 159 yX9_counts, Cond.instanceMethod yX9_counts, Cond.selects RX9 yX9_counts yX9_counts, Cond.code yX9_counts cX9_counts 3 (some .boolean), Cond.fieldLink RX9 40 "HandsHallModel" "isOut" "[Z", Cond.methodLink RX9 138 yX9_labelsOf, Cond.instanceMethod yX9_labelsOf, Cond.selects RX9 yX9_labelsOf yX9_labelsOf, Cond.code yX9_labelsOf cX9_labelsOf 2 (some .int), Cond.fieldLink RX9 16 "HandsHallModel" "stepLabels" "[I", Cond.fieldLink RX9 25 "HandsHallModel" "itemStep" "[I", Cond.methodLink RX9 146 yX9_fixed, Cond.instanceMethod yX9_fixed, Cond.selects RX9 yX9_fixed yX9_fixed]
def wsX9_beginShares_r2 : List Cond := [Cond.code yX9_fixed cX9_fixed 2 (some .int), Cond.fieldLink RX9 31 "HandsHallModel" "itemKnown" "[I", Cond.fieldLink RX9 34 "HandsHallModel" "itemSettled" "[I"]
def wsX9_beginShares : List Cond := .code yX9_beginShares cX9_beginShares 6 none :: ((wsX9_beginShares_r1 ++ wsX9_beginShares_r2) ++ wsX90)
def wsX9_saidBy : List Cond := .code yX9_saidBy cX9_saidBy 9 (some .long) :: ([.constantLong RX9 172 (10000), .fieldLink RX9 50 "HandsHallModel" "rule" "[I", .fieldLink RX9 115 "HandsHallModel" "items" "I", .fieldLink RX9 47 "HandsHallModel" "answers" "[I", .fieldLink RX9 59 "HandsHallModel" "share" "[I", .methodLink RX9 138 yX9_labelsOf, .instanceMethod yX9_labelsOf, .selects RX9 yX9_labelsOf yX9_labelsOf, .initialized RX9, .code yX9_labelsOf cX9_labelsOf 2 (some .int), .fieldLink RX9 16 "HandsHallModel" "stepLabels" "[I", .fieldLink RX9 25 "HandsHallModel" "itemStep" "[I", .methodLink RX9 159 yX9_counts, .instanceMethod yX9_counts, .selects RX9 yX9_counts yX9_counts, .code yX9_counts cX9_counts 3 (some .boolean), .fieldLink RX9 40 "HandsHallModel" "isOut" "[Z"] ++ wsX90)
def wsX9_layTables_r1 : List Cond := [Cond.fieldLink RX9 118 "HandsHallModel" "hands" "I", Cond.fieldLink RX9 62 "HandsHallModel" "table" "[I", Cond.constantLong RX9 182 (1000), Cond.methodLink RX9 174 yX9_saidBy, Cond.instanceMethod yX9_saidBy, Cond.selects RX9 yX9_saidBy yX9_saidBy, Cond.initialized RX9, Cond.code yX9_saidBy cX9_saidBy 9 (some .long), Cond.constantLong RX9 172 (10000), Cond.fieldLink RX9 50 "HandsHallModel" "rule" "[I", Cond.fieldLink RX9 115 "HandsHallModel" "items" "I", Cond.fieldLink RX9 47 "HandsHallModel" "answers" "[I", Cond.fieldLink RX9 59 "HandsHallModel" "share" "[I", Cond.methodLink RX9 138 yX9_labelsOf, Cond.instanceMethod yX9_labelsOf, Cond.selects RX9 yX9_labelsOf yX9_labelsOf, Cond.code yX9_labelsOf cX9_labelsOf 2 (some .int), Cond.fieldLink RX9 16 "HandsHallModel" "stepLabels" "[I", Cond.fieldLink RX9 25 "HandsHallModel" "itemStep" "[I", Cond.methodLink RX9 159 yX9_counts, Cond.instanceMethod yX9_counts, Cond.selects RX9 yX9_counts yX9_counts, Cond.code yX9_counts cX9_counts 3 (some .boolean), Cond.fieldLink RX9 40 "HandsHallModel" "isOut" "[Z"]
def wsX9_layTables_r2 : List Cond := [Cond.methodLink RX9 178 yX9_at, Cond.static yX9_at, Cond.code yX9_at cX9_at 4 (some .int)]
def wsX9_layTables : List Cond := .code yX9_layTables cX9_layTables 7 none :: ((wsX9_layTables_r1 ++ wsX9_layTables_r2) ++ wsX90)
def wsX9_turnShares_r1 : List Cond := [Cond.fieldLink RX9 115 "HandsHallModel" "items" "I", Cond.fieldLink RX9 83 "HandsHallModel" "own" "[I", Cond.constant RX9 149 (1000000), Cond.fieldLink RX9 118 "HandsHallModel" "hands" "I", Cond.fieldLink RX9 47 "HandsHallModel" "answers" "[I", Cond.fieldLink RX9 62 "HandsHallModel" "table" "[I", Cond.constantLong RX9 184 (1000000), Cond.fieldLink RX9 59 "HandsHallModel" "share" "[I", Cond.methodLink RX9 138 yX9_labelsOf, Cond.instanceMethod yX9_labelsOf, Cond.selects RX9 yX9_labelsOf yX9_labelsOf, Cond.initialized RX9, Cond.code yX9_labelsOf cX9_labelsOf 2 (some .int), Cond.fieldLink RX9 16 "HandsHallModel" "stepLabels" "[I", Cond.fieldLink RX9 25 "HandsHallModel" "itemStep" "[I", Cond.methodLink RX9 146 yX9_fixed, Cond.instanceMethod yX9_fixed, Cond.selects RX9 yX9_fixed yX9_fixed, Cond.code yX9_fixed cX9_fixed 2 (some .int), Cond.fieldLink RX9 31 "HandsHallModel" "itemKnown" "[I", Cond.fieldLink RX9 34 "HandsHallModel" "itemSettled" "[I", Cond.methodLink RX9 165 yX9_countOf, Cond.instanceMethod yX9_countOf, Cond.selects RX9 yX9_countOf yX9_countOf]
def wsX9_turnShares_r2 : List Cond := [Cond.code yX9_countOf cX9_countOf 4 (some .int), Cond.methodLink RX9 159 yX9_counts, Cond.instanceMethod yX9_counts, Cond.selects RX9 yX9_counts yX9_counts, Cond.code yX9_counts cX9_counts 3 (some .boolean), Cond.fieldLink RX9 40 "HandsHallModel" "isOut" "[Z", Cond.methodLink RX9 178 yX9_at, Cond.static yX9_at, Cond.code yX9_at cX9_at 4 (some .int)]
def wsX9_turnShares : List Cond := .code yX9_turnShares cX9_turnShares 9 (some .int) :: ((wsX9_turnShares_r1 ++ wsX9_turnShares_r2) ++ wsX90)
def wsX9_joinAll_r1 : List Cond := [Cond.fieldLink RX9 50 "HandsHallModel" "rule" "[I", Cond.methodLink RX9 186 yX9_beginShares, Cond.instanceMethod yX9_beginShares, Cond.selects RX9 yX9_beginShares yX9_beginShares, Cond.initialized RX9, Cond.code yX9_beginShares cX9_beginShares 6 none, Cond.fieldLink RX9 115 "HandsHallModel" "items" "I", Cond.fieldLink RX9 118 "HandsHallModel" "hands" "I", Cond.fieldLink RX9 47 "HandsHallModel" "answers" "[I", Cond.fieldLink RX9 59 "HandsHallModel" "share" "[I", Cond.constant RX9 149 (1000000), Cond.methodLink RX9 165 yX9_countOf, Cond.instanceMethod yX9_countOf, Cond.selects RX9 yX9_countOf yX9_countOf, Cond.code yX9_countOf cX9_countOf 4 (some .int), Cond.methodLink RX9 159 yX9_counts, Cond.instanceMethod yX9_counts, Cond.selects RX9 yX9_counts yX9_counts, Cond.code yX9_counts cX9_counts 3 (some .boolean), Cond.fieldLink RX9 40 "HandsHallModel" "isOut" "[Z", Cond.methodLink RX9 138 yX9_labelsOf, Cond.instanceMethod yX9_labelsOf, Cond.selects RX9 yX9_labelsOf yX9_labelsOf, Cond.code yX9_labelsOf cX9_labelsOf 2 (some .int)]
def wsX9_joinAll_r2 : List Cond := [Cond.fieldLink RX9 16 "HandsHallModel" "stepLabels" "[I", Cond.fieldLink RX9 25 "HandsHallModel" "itemStep" "[I", Cond.methodLink RX9 146 yX9_fixed, Cond.instanceMethod yX9_fixed, Cond.selects RX9 yX9_fixed yX9_fixed, Cond.code yX9_fixed cX9_fixed 2 (some .int), Cond.fieldLink RX9 31 "HandsHallModel" "itemKnown" "[I", Cond.fieldLink RX9 34 "HandsHallModel" "itemSettled" "[I", Cond.methodLink RX9 189 yX9_layTables, Cond.instanceMethod yX9_layTables, Cond.selects RX9 yX9_layTables yX9_layTables, Cond.code yX9_layTables cX9_layTables 7 none, Cond.fieldLink RX9 62 "HandsHallModel" "table" "[I", Cond.constantLong RX9 182 (1000), Cond.methodLink RX9 174 yX9_saidBy, Cond.instanceMethod yX9_saidBy, Cond.selects RX9 yX9_saidBy yX9_saidBy, Cond.code yX9_saidBy cX9_saidBy 9 (some .long), Cond.constantLong RX9 172 (10000), Cond.methodLink RX9 178 yX9_at, Cond.static yX9_at, Cond.code yX9_at cX9_at 4 (some .int), Cond.methodLink RX9 192 yX9_turnShares, Cond.instanceMethod yX9_turnShares]
def wsX9_joinAll_r3 : List Cond := [Cond.selects RX9 yX9_turnShares yX9_turnShares, Cond.code yX9_turnShares cX9_turnShares 9 (some .int), Cond.fieldLink RX9 83 "HandsHallModel" "own" "[I", Cond.constantLong RX9 184 (1000000)]
def wsX9_joinAll : List Cond := .code yX9_joinAll cX9_joinAll 3 (some .int) :: ((wsX9_joinAll_r1 ++ (wsX9_joinAll_r2 ++ wsX9_joinAll_r3)) ++ wsX90)
def wsX9_join_r1 : List Cond := [Cond.fieldLink RX9 121 "HandsHallModel" "isJoined" "Z", Cond.fieldLink RX9 115 "HandsHallModel" "items" "I", Cond.fieldLink RX9 125 "HandsHallModel" "joinedItems" "I", Cond.fieldLink RX9 118 "HandsHallModel" "hands" "I", Cond.fieldLink RX9 128 "HandsHallModel" "joinedHands" "I", Cond.methodLink RX9 195 yX9_joinAll, Cond.instanceMethod yX9_joinAll, Cond.selects RX9 yX9_joinAll yX9_joinAll, Cond.initialized RX9, Cond.code yX9_joinAll cX9_joinAll 3 (some .int), Cond.fieldLink RX9 50 "HandsHallModel" "rule" "[I", Cond.methodLink RX9 186 yX9_beginShares, Cond.instanceMethod yX9_beginShares, Cond.selects RX9 yX9_beginShares yX9_beginShares, Cond.code yX9_beginShares cX9_beginShares 6 none, Cond.fieldLink RX9 47 "HandsHallModel" "answers" "[I", Cond.fieldLink RX9 59 "HandsHallModel" "share" "[I", Cond.constant RX9 149 (1000000), Cond.methodLink RX9 165 yX9_countOf, Cond.instanceMethod yX9_countOf, Cond.selects RX9 yX9_countOf yX9_countOf, Cond.code yX9_countOf cX9_countOf 4 (some .int), Cond.methodLink RX9 159 yX9_counts, Cond.instanceMethod yX9_counts]
def wsX9_join_r2 : List Cond := [Cond.selects RX9 yX9_counts yX9_counts, Cond.code yX9_counts cX9_counts 3 (some .boolean), Cond.fieldLink RX9 40 "HandsHallModel" "isOut" "[Z", Cond.methodLink RX9 138 yX9_labelsOf, Cond.instanceMethod yX9_labelsOf, Cond.selects RX9 yX9_labelsOf yX9_labelsOf, Cond.code yX9_labelsOf cX9_labelsOf 2 (some .int), Cond.fieldLink RX9 16 "HandsHallModel" "stepLabels" "[I", Cond.fieldLink RX9 25 "HandsHallModel" "itemStep" "[I", Cond.methodLink RX9 146 yX9_fixed, Cond.instanceMethod yX9_fixed, Cond.selects RX9 yX9_fixed yX9_fixed, Cond.code yX9_fixed cX9_fixed 2 (some .int), Cond.fieldLink RX9 31 "HandsHallModel" "itemKnown" "[I", Cond.fieldLink RX9 34 "HandsHallModel" "itemSettled" "[I", Cond.methodLink RX9 189 yX9_layTables, Cond.instanceMethod yX9_layTables, Cond.selects RX9 yX9_layTables yX9_layTables, Cond.code yX9_layTables cX9_layTables 7 none, Cond.fieldLink RX9 62 "HandsHallModel" "table" "[I", Cond.constantLong RX9 182 (1000), Cond.methodLink RX9 174 yX9_saidBy, Cond.instanceMethod yX9_saidBy, Cond.selects RX9 yX9_saidBy yX9_saidBy]
def wsX9_join_r3 : List Cond := [Cond.code yX9_saidBy cX9_saidBy 9 (some .long), Cond.constantLong RX9 172 (10000), Cond.methodLink RX9 178 yX9_at, Cond.static yX9_at, Cond.code yX9_at cX9_at 4 (some .int), Cond.methodLink RX9 192 yX9_turnShares, Cond.instanceMethod yX9_turnShares, Cond.selects RX9 yX9_turnShares yX9_turnShares, Cond.code yX9_turnShares cX9_turnShares 9 (some .int), Cond.fieldLink RX9 83 "HandsHallModel" "own" "[I", Cond.constantLong RX9 184 (1000000)]
def wsX9_join : List Cond := .code yX9_join cX9_join 2 (some .int) :: ((wsX9_join_r1 ++ (wsX9_join_r2 ++ wsX9_join_r3)) ++ wsX90)
def wsX9_share_r1 : List Cond := [Cond.methodLink RX9 142 yX9_isLabel, Cond.instanceMethod yX9_isLabel, Cond.selects RX9 yX9_isLabel yX9_isLabel, Cond.initialized RX9, Cond.code yX9_isLabel cX9_isLabel 3 (some .boolean), Cond.methodLink RX9 134 yX9_isItem, Cond.instanceMethod yX9_isItem, Cond.selects RX9 yX9_isItem yX9_isItem, Cond.code yX9_isItem cX9_isItem 2 (some .boolean), Cond.fieldLink RX9 115 "HandsHallModel" "items" "I", Cond.methodLink RX9 93 yX9_in, Cond.static yX9_in, Cond.code yX9_in cX9_in 3 (some .boolean), Cond.methodLink RX9 138 yX9_labelsOf, Cond.instanceMethod yX9_labelsOf, Cond.selects RX9 yX9_labelsOf yX9_labelsOf, Cond.code yX9_labelsOf cX9_labelsOf 2 (some .int), Cond.fieldLink RX9 16 "HandsHallModel" "stepLabels" "[I", Cond.fieldLink RX9 25 "HandsHallModel" "itemStep" "[I", Cond.methodLink RX9 150 yX9_shareOf, Cond.instanceMethod yX9_shareOf, Cond.selects RX9 yX9_shareOf yX9_shareOf, Cond.code yX9_shareOf cX9_shareOf 4 (some .int), Cond.constant RX9 149 (1000000)]
def wsX9_share_r2 : List Cond := [Cond.fieldLink RX9 121 "HandsHallModel" "isJoined" "Z", Cond.fieldLink RX9 125 "HandsHallModel" "joinedItems" "I", Cond.fieldLink RX9 59 "HandsHallModel" "share" "[I", Cond.methodLink RX9 146 yX9_fixed, Cond.instanceMethod yX9_fixed, Cond.selects RX9 yX9_fixed yX9_fixed, Cond.code yX9_fixed cX9_fixed 2 (some .int), Cond.fieldLink RX9 31 "HandsHallModel" "itemKnown" "[I", Cond.fieldLink RX9 34 "HandsHallModel" "itemSettled" "[I"]
def wsX9_share : List Cond := .code yX9_share cX9_share 3 (some .int) :: ((wsX9_share_r1 ++ wsX9_share_r2) ++ wsX90)
def wsX9_table : List Cond := .code yX9_table cX9_table 5 (some .int) :: ([.fieldLink RX9 121 "HandsHallModel" "isJoined" "Z", .fieldLink RX9 128 "HandsHallModel" "joinedHands" "I", .fieldLink RX9 62 "HandsHallModel" "table" "[I", .methodLink RX9 168 yX9_isHand, .instanceMethod yX9_isHand, .selects RX9 yX9_isHand yX9_isHand, .initialized RX9, .code yX9_isHand cX9_isHand 2 (some .boolean), .fieldLink RX9 118 "HandsHallModel" "hands" "I", .methodLink RX9 93 yX9_in, .static yX9_in, .code yX9_in cX9_in 3 (some .boolean), .methodLink RX9 178 yX9_at, .static yX9_at, .code yX9_at cX9_at 4 (some .int)] ++ wsX90)
def wsX9_helpOf_r1 : List Cond := [Cond.fieldLink RX9 62 "HandsHallModel" "table" "[I", Cond.constantLong RX9 182 (1000), Cond.methodLink RX9 138 yX9_labelsOf, Cond.instanceMethod yX9_labelsOf, Cond.selects RX9 yX9_labelsOf yX9_labelsOf, Cond.initialized RX9, Cond.code yX9_labelsOf cX9_labelsOf 2 (some .int), Cond.fieldLink RX9 16 "HandsHallModel" "stepLabels" "[I", Cond.fieldLink RX9 25 "HandsHallModel" "itemStep" "[I", Cond.methodLink RX9 150 yX9_shareOf, Cond.instanceMethod yX9_shareOf, Cond.selects RX9 yX9_shareOf yX9_shareOf, Cond.code yX9_shareOf cX9_shareOf 4 (some .int), Cond.constant RX9 149 (1000000), Cond.fieldLink RX9 121 "HandsHallModel" "isJoined" "Z", Cond.fieldLink RX9 125 "HandsHallModel" "joinedItems" "I", Cond.fieldLink RX9 59 "HandsHallModel" "share" "[I", Cond.methodLink RX9 146 yX9_fixed, Cond.instanceMethod yX9_fixed, Cond.selects RX9 yX9_fixed yX9_fixed, Cond.code yX9_fixed cX9_fixed 2 (some .int), Cond.fieldLink RX9 31 "HandsHallModel" "itemKnown" "[I", Cond.fieldLink RX9 34 "HandsHallModel" "itemSettled" "[I", Cond.methodLink RX9 178 yX9_at]
def wsX9_helpOf_r2 : List Cond := [Cond.static yX9_at, Cond.code yX9_at cX9_at 4 (some .int), Cond.methodLink RX9 153 yX9_endOf, Cond.instanceMethod yX9_endOf, Cond.selects RX9 yX9_endOf yX9_endOf, Cond.code yX9_endOf cX9_endOf 4 (some .int)]
def wsX9_helpOf : List Cond := .code yX9_helpOf cX9_helpOf 12 (some .int) :: ((wsX9_helpOf_r1 ++ wsX9_helpOf_r2) ++ wsX90)
def wsX9_next_r1 : List Cond := [Cond.fieldLink RX9 121 "HandsHallModel" "isJoined" "Z", Cond.fieldLink RX9 128 "HandsHallModel" "joinedHands" "I", Cond.fieldLink RX9 118 "HandsHallModel" "hands" "I", Cond.fieldLink RX9 115 "HandsHallModel" "items" "I", Cond.fieldLink RX9 40 "HandsHallModel" "isOut" "[Z", Cond.fieldLink RX9 47 "HandsHallModel" "answers" "[I", Cond.methodLink RX9 93 yX9_in, Cond.static yX9_in, Cond.initialized RX9, Cond.code yX9_in cX9_in 3 (some .boolean), Cond.methodLink RX9 146 yX9_fixed, Cond.instanceMethod yX9_fixed, Cond.selects RX9 yX9_fixed yX9_fixed, Cond.code yX9_fixed cX9_fixed 2 (some .int), Cond.fieldLink RX9 31 "HandsHallModel" "itemKnown" "[I", Cond.fieldLink RX9 34 "HandsHallModel" "itemSettled" "[I", Cond.methodLink RX9 162 yX9_isOpen, Cond.instanceMethod yX9_isOpen, Cond.selects RX9 yX9_isOpen yX9_isOpen, Cond.code yX9_isOpen cX9_isOpen 5 (some .boolean), Cond.fieldLink RX9 112 "HandsHallModel" "steps" "I", Cond.fieldLink RX9 19 "HandsHallModel" "stepNeeds" "[I", Cond.fieldLink RX9 25 "HandsHallModel" "itemStep" "[I", Cond.fieldLink RX9 28 "HandsHallModel" "itemThing" "[I"]
def wsX9_next_r2 : List Cond := [Cond.fieldLink RX9 22 "HandsHallModel" "stepNumber" "[I", Cond.methodLink RX9 131 yX9_itemOf, Cond.instanceMethod yX9_itemOf, Cond.selects RX9 yX9_itemOf yX9_itemOf, Cond.code yX9_itemOf cX9_itemOf 4 (some .int), Cond.methodLink RX9 156 yX9_sureOf, Cond.instanceMethod yX9_sureOf, Cond.selects RX9 yX9_sureOf yX9_sureOf, Cond.code yX9_sureOf cX9_sureOf 2 (some .int), Cond.methodLink RX9 153 yX9_endOf, Cond.instanceMethod yX9_endOf, Cond.selects RX9 yX9_endOf yX9_endOf, Cond.code yX9_endOf cX9_endOf 4 (some .int), Cond.methodLink RX9 138 yX9_labelsOf, Cond.instanceMethod yX9_labelsOf, Cond.selects RX9 yX9_labelsOf yX9_labelsOf, Cond.code yX9_labelsOf cX9_labelsOf 2 (some .int), Cond.fieldLink RX9 16 "HandsHallModel" "stepLabels" "[I", Cond.methodLink RX9 150 yX9_shareOf, Cond.instanceMethod yX9_shareOf, Cond.selects RX9 yX9_shareOf yX9_shareOf, Cond.code yX9_shareOf cX9_shareOf 4 (some .int), Cond.constant RX9 149 (1000000), Cond.fieldLink RX9 125 "HandsHallModel" "joinedItems" "I"]
def wsX9_next_r3 : List Cond := [Cond.fieldLink RX9 59 "HandsHallModel" "share" "[I", Cond.methodLink RX9 198 yX9_helpOf, Cond.instanceMethod yX9_helpOf, Cond.selects RX9 yX9_helpOf yX9_helpOf, Cond.code yX9_helpOf cX9_helpOf 12 (some .int), Cond.fieldLink RX9 62 "HandsHallModel" "table" "[I", Cond.constantLong RX9 182 (1000), Cond.methodLink RX9 178 yX9_at, Cond.static yX9_at, Cond.code yX9_at cX9_at 4 (some .int)]
def wsX9_next : List Cond := .code yX9_next cX9_next 8 (some .int) :: ((wsX9_next_r1 ++ (wsX9_next_r2 ++ wsX9_next_r3)) ++ wsX90)
def wsX9_isRight : List Cond := .code yX9_isRight cX9_isRight 3 (some .boolean) :: ([.fieldLink RX9 47 "HandsHallModel" "answers" "[I", .fieldLink RX9 31 "HandsHallModel" "itemKnown" "[I"] ++ wsX90)
def wsX9_knownBy : List Cond := .code yX9_knownBy cX9_knownBy 4 (some .int) :: ([.fieldLink RX9 115 "HandsHallModel" "items" "I", .fieldLink RX9 31 "HandsHallModel" "itemKnown" "[I", .methodLink RX9 159 yX9_counts, .instanceMethod yX9_counts, .selects RX9 yX9_counts yX9_counts, .initialized RX9, .code yX9_counts cX9_counts 3 (some .boolean), .fieldLink RX9 40 "HandsHallModel" "isOut" "[Z", .fieldLink RX9 47 "HandsHallModel" "answers" "[I"] ++ wsX90)
def wsX9_rightBy : List Cond := .code yX9_rightBy cX9_rightBy 4 (some .int) :: ([.fieldLink RX9 115 "HandsHallModel" "items" "I", .fieldLink RX9 31 "HandsHallModel" "itemKnown" "[I", .methodLink RX9 159 yX9_counts, .instanceMethod yX9_counts, .selects RX9 yX9_counts yX9_counts, .initialized RX9, .code yX9_counts cX9_counts 3 (some .boolean), .fieldLink RX9 40 "HandsHallModel" "isOut" "[Z", .fieldLink RX9 47 "HandsHallModel" "answers" "[I", .methodLink RX9 201 yX9_isRight, .instanceMethod yX9_isRight, .selects RX9 yX9_isRight yX9_isRight, .code yX9_isRight cX9_isRight 3 (some .boolean)] ++ wsX90)
def wsX9_answersBy : List Cond := .code yX9_answersBy cX9_answersBy 4 (some .int) :: ([.fieldLink RX9 115 "HandsHallModel" "items" "I", .methodLink RX9 159 yX9_counts, .instanceMethod yX9_counts, .selects RX9 yX9_counts yX9_counts, .initialized RX9, .code yX9_counts cX9_counts 3 (some .boolean), .fieldLink RX9 40 "HandsHallModel" "isOut" "[Z", .fieldLink RX9 47 "HandsHallModel" "answers" "[I"] ++ wsX90)
def wsX9_right_r1 : List Cond := [Cond.fieldLink RX9 44 "HandsHallModel" "version" "[I", Cond.methodLink RX9 168 yX9_isHand, Cond.instanceMethod yX9_isHand, Cond.selects RX9 yX9_isHand yX9_isHand, Cond.initialized RX9, Cond.code yX9_isHand cX9_isHand 2 (some .boolean), Cond.fieldLink RX9 118 "HandsHallModel" "hands" "I", Cond.methodLink RX9 93 yX9_in, Cond.static yX9_in, Cond.code yX9_in cX9_in 3 (some .boolean), Cond.methodLink RX9 204 yX9_answersBy, Cond.instanceMethod yX9_answersBy, Cond.selects RX9 yX9_answersBy yX9_answersBy, Cond.code yX9_answersBy cX9_answersBy 4 (some .int), Cond.fieldLink RX9 115 "HandsHallModel" "items" "I", Cond.methodLink RX9 159 yX9_counts, Cond.instanceMethod yX9_counts, Cond.selects RX9 yX9_counts yX9_counts, Cond.code yX9_counts cX9_counts 3 (some .boolean), Cond.fieldLink RX9 40 "HandsHallModel" "isOut" "[Z", Cond.fieldLink RX9 47 "HandsHallModel" "answers" "[I", Cond.methodLink RX9 207 yX9_knownBy, Cond.instanceMethod yX9_knownBy, Cond.selects RX9 yX9_knownBy yX9_knownBy]
def wsX9_right_r2 : List Cond := [Cond.code yX9_knownBy cX9_knownBy 4 (some .int), Cond.fieldLink RX9 31 "HandsHallModel" "itemKnown" "[I", Cond.methodLink RX9 210 yX9_rightBy, Cond.instanceMethod yX9_rightBy, Cond.selects RX9 yX9_rightBy yX9_rightBy, Cond.code yX9_rightBy cX9_rightBy 4 (some .int), Cond.methodLink RX9 201 yX9_isRight, Cond.instanceMethod yX9_isRight, Cond.selects RX9 yX9_isRight yX9_isRight, Cond.code yX9_isRight cX9_isRight 3 (some .boolean)]
def wsX9_right : List Cond := .code yX9_right cX9_right 3 (some .int) :: ((wsX9_right_r1 ++ wsX9_right_r2) ++ wsX90)
def wsX9_common : List Cond := .code yX9_common cX9_common 10 (some .long) :: ([])
def wsX9_term : List Cond := .code yX9_term cX9_term 7 (some .long) :: ([.methodLink RX9 213 yX9_common, .static yX9_common, .initialized RX9, .code yX9_common cX9_common 10 (some .long)])
def wsX9_beginWays : List Cond := .code yX9_beginWays cX9_beginWays 2 none :: ([.fieldLink RX9 86 "HandsHallModel" "ways" "[J", .fieldLink RX9 217 "HandsHallModel" "allWays" "J", .fieldLink RX9 221 "HandsHallModel" "drawn" "I"] ++ wsX90)
def wsX9_drawFrom : List Cond := .code yX9_drawFrom cX9_drawFrom 3 none :: ([.fieldLink RX9 221 "HandsHallModel" "drawn" "I", .fieldLink RX9 86 "HandsHallModel" "ways" "[J", .fieldLink RX9 217 "HandsHallModel" "allWays" "J"] ++ wsX90)
def wsX9_oddsFrom : List Cond := .code yX9_oddsFrom cX9_oddsFrom 6 (some .long) :: ([.fieldLink RX9 221 "HandsHallModel" "drawn" "I", .fieldLink RX9 86 "HandsHallModel" "ways" "[J", .fieldLink RX9 217 "HandsHallModel" "allWays" "J", .methodLink RX9 224 yX9_term, .static yX9_term, .initialized RX9, .code yX9_term cX9_term 7 (some .long), .methodLink RX9 213 yX9_common, .static yX9_common, .code yX9_common cX9_common 10 (some .long)] ++ wsX90)
def wsX9_guessing_r1 : List Cond := [Cond.constantLong RX9 228 (-1000000000000000001), Cond.constantLong RX9 230 (-1000000000000000002), Cond.fieldLink RX9 115 "HandsHallModel" "items" "I", Cond.fieldLink RX9 31 "HandsHallModel" "itemKnown" "[I", Cond.methodLink RX9 168 yX9_isHand, Cond.instanceMethod yX9_isHand, Cond.selects RX9 yX9_isHand yX9_isHand, Cond.initialized RX9, Cond.code yX9_isHand cX9_isHand 2 (some .boolean), Cond.fieldLink RX9 118 "HandsHallModel" "hands" "I", Cond.methodLink RX9 93 yX9_in, Cond.static yX9_in, Cond.code yX9_in cX9_in 3 (some .boolean), Cond.methodLink RX9 232 yX9_beginWays, Cond.instanceMethod yX9_beginWays, Cond.selects RX9 yX9_beginWays yX9_beginWays, Cond.code yX9_beginWays cX9_beginWays 2 none, Cond.fieldLink RX9 86 "HandsHallModel" "ways" "[J", Cond.fieldLink RX9 217 "HandsHallModel" "allWays" "J", Cond.fieldLink RX9 221 "HandsHallModel" "drawn" "I", Cond.methodLink RX9 159 yX9_counts, Cond.instanceMethod yX9_counts, Cond.selects RX9 yX9_counts yX9_counts, Cond.code yX9_counts cX9_counts 3 (some .boolean)]
def wsX9_guessing_r2 : List Cond := [Cond.fieldLink RX9 40 "HandsHallModel" "isOut" "[Z", Cond.fieldLink RX9 47 "HandsHallModel" "answers" "[I", Cond.methodLink RX9 138 yX9_labelsOf, Cond.instanceMethod yX9_labelsOf, Cond.selects RX9 yX9_labelsOf yX9_labelsOf, Cond.code yX9_labelsOf cX9_labelsOf 2 (some .int), Cond.fieldLink RX9 16 "HandsHallModel" "stepLabels" "[I", Cond.fieldLink RX9 25 "HandsHallModel" "itemStep" "[I", Cond.methodLink RX9 235 yX9_drawFrom, Cond.instanceMethod yX9_drawFrom, Cond.selects RX9 yX9_drawFrom yX9_drawFrom, Cond.code yX9_drawFrom cX9_drawFrom 3 none, Cond.methodLink RX9 210 yX9_rightBy, Cond.instanceMethod yX9_rightBy, Cond.selects RX9 yX9_rightBy yX9_rightBy, Cond.code yX9_rightBy cX9_rightBy 4 (some .int), Cond.methodLink RX9 201 yX9_isRight, Cond.instanceMethod yX9_isRight, Cond.selects RX9 yX9_isRight yX9_isRight, Cond.code yX9_isRight cX9_isRight 3 (some .boolean), Cond.methodLink RX9 239 yX9_oddsFrom, Cond.instanceMethod yX9_oddsFrom, Cond.selects RX9 yX9_oddsFrom yX9_oddsFrom, Cond.code yX9_oddsFrom cX9_oddsFrom 6 (some .long)]
def wsX9_guessing_r3 : List Cond := [Cond.methodLink RX9 224 yX9_term, Cond.static yX9_term, Cond.code yX9_term cX9_term 7 (some .long), Cond.methodLink RX9 213 yX9_common, Cond.static yX9_common, Cond.code yX9_common cX9_common 10 (some .long)]
def wsX9_guessing : List Cond := .code yX9_guessing cX9_guessing 4 (some .long) :: ((wsX9_guessing_r1 ++ (wsX9_guessing_r2 ++ wsX9_guessing_r3)) ++ wsX90)
def wsX9_copying_r1 : List Cond := [Cond.constantLong RX9 228 (-1000000000000000001), Cond.constantLong RX9 230 (-1000000000000000002), Cond.fieldLink RX9 115 "HandsHallModel" "items" "I", Cond.fieldLink RX9 221 "HandsHallModel" "drawn" "I", Cond.fieldLink RX9 47 "HandsHallModel" "answers" "[I", Cond.methodLink RX9 168 yX9_isHand, Cond.instanceMethod yX9_isHand, Cond.selects RX9 yX9_isHand yX9_isHand, Cond.initialized RX9, Cond.code yX9_isHand cX9_isHand 2 (some .boolean), Cond.fieldLink RX9 118 "HandsHallModel" "hands" "I", Cond.methodLink RX9 93 yX9_in, Cond.static yX9_in, Cond.code yX9_in cX9_in 3 (some .boolean), Cond.methodLink RX9 232 yX9_beginWays, Cond.instanceMethod yX9_beginWays, Cond.selects RX9 yX9_beginWays yX9_beginWays, Cond.code yX9_beginWays cX9_beginWays 2 none, Cond.fieldLink RX9 86 "HandsHallModel" "ways" "[J", Cond.fieldLink RX9 217 "HandsHallModel" "allWays" "J", Cond.methodLink RX9 159 yX9_counts, Cond.instanceMethod yX9_counts, Cond.selects RX9 yX9_counts yX9_counts, Cond.code yX9_counts cX9_counts 3 (some .boolean)]
def wsX9_copying_r2 : List Cond := [Cond.fieldLink RX9 40 "HandsHallModel" "isOut" "[Z", Cond.methodLink RX9 138 yX9_labelsOf, Cond.instanceMethod yX9_labelsOf, Cond.selects RX9 yX9_labelsOf yX9_labelsOf, Cond.code yX9_labelsOf cX9_labelsOf 2 (some .int), Cond.fieldLink RX9 16 "HandsHallModel" "stepLabels" "[I", Cond.fieldLink RX9 25 "HandsHallModel" "itemStep" "[I", Cond.methodLink RX9 235 yX9_drawFrom, Cond.instanceMethod yX9_drawFrom, Cond.selects RX9 yX9_drawFrom yX9_drawFrom, Cond.code yX9_drawFrom cX9_drawFrom 3 none, Cond.methodLink RX9 239 yX9_oddsFrom, Cond.instanceMethod yX9_oddsFrom, Cond.selects RX9 yX9_oddsFrom yX9_oddsFrom, Cond.code yX9_oddsFrom cX9_oddsFrom 6 (some .long), Cond.methodLink RX9 224 yX9_term, Cond.static yX9_term, Cond.code yX9_term cX9_term 7 (some .long), Cond.methodLink RX9 213 yX9_common, Cond.static yX9_common, Cond.code yX9_common cX9_common 10 (some .long)]
def wsX9_copying : List Cond := .code yX9_copying cX9_copying 6 (some .long) :: ((wsX9_copying_r1 ++ wsX9_copying_r2) ++ wsX90)
def wsX9_misread : List Cond := .code yX9_misread cX9_misread 7 (some .int) :: ([.fieldLink RX9 115 "HandsHallModel" "items" "I", .fieldLink RX9 31 "HandsHallModel" "itemKnown" "[I", .fieldLink RX9 118 "HandsHallModel" "hands" "I", .fieldLink RX9 47 "HandsHallModel" "answers" "[I", .fieldLink RX9 37 "HandsHallModel" "itemParts" "[I", .methodLink RX9 93 yX9_in, .static yX9_in, .initialized RX9, .code yX9_in cX9_in 3 (some .boolean), .methodLink RX9 138 yX9_labelsOf, .instanceMethod yX9_labelsOf, .selects RX9 yX9_labelsOf yX9_labelsOf, .code yX9_labelsOf cX9_labelsOf 2 (some .int), .fieldLink RX9 16 "HandsHallModel" "stepLabels" "[I", .fieldLink RX9 25 "HandsHallModel" "itemStep" "[I", .methodLink RX9 159 yX9_counts, .instanceMethod yX9_counts, .selects RX9 yX9_counts yX9_counts, .code yX9_counts cX9_counts 3 (some .boolean), .fieldLink RX9 40 "HandsHallModel" "isOut" "[Z"] ++ wsX90)
def wsX9_deal : List Cond := .code yX9_deal cX9_deal 6 (some .int) :: ([.constant RX9 149 (1000000), .fieldLink RX9 118 "HandsHallModel" "hands" "I", .constantLong RX9 243 (16807), .constantLong RX9 245 (2147483647), .fieldLink RX9 44 "HandsHallModel" "version" "[I", .constantLong RX9 247 (2), .methodLink RX9 93 yX9_in, .static yX9_in, .initialized RX9, .code yX9_in cX9_in 3 (some .boolean)] ++ wsX90)
def wsX9_choose : List Cond := .code yX9_choose cX9_choose 5 (some .long) :: ([])
def wsX9_better_r1 : List Cond := [Cond.constantLong RX9 230 (-1000000000000000002), Cond.fieldLink RX9 118 "HandsHallModel" "hands" "I", Cond.fieldLink RX9 115 "HandsHallModel" "items" "I", Cond.fieldLink RX9 31 "HandsHallModel" "itemKnown" "[I", Cond.fieldLink RX9 44 "HandsHallModel" "version" "[I", Cond.methodLink RX9 93 yX9_in, Cond.static yX9_in, Cond.initialized RX9, Cond.code yX9_in cX9_in 3 (some .boolean), Cond.methodLink RX9 159 yX9_counts, Cond.instanceMethod yX9_counts, Cond.selects RX9 yX9_counts yX9_counts, Cond.code yX9_counts cX9_counts 3 (some .boolean), Cond.fieldLink RX9 40 "HandsHallModel" "isOut" "[Z", Cond.fieldLink RX9 47 "HandsHallModel" "answers" "[I", Cond.methodLink RX9 201 yX9_isRight, Cond.instanceMethod yX9_isRight, Cond.selects RX9 yX9_isRight yX9_isRight, Cond.code yX9_isRight cX9_isRight 3 (some .boolean), Cond.methodLink RX9 249 yX9_choose, Cond.static yX9_choose, Cond.code yX9_choose cX9_choose 5 (some .long), Cond.methodLink RX9 224 yX9_term, Cond.static yX9_term]
def wsX9_better_r2 : List Cond := [Cond.code yX9_term cX9_term 7 (some .long), Cond.methodLink RX9 213 yX9_common, Cond.static yX9_common, Cond.code yX9_common cX9_common 10 (some .long)]
def wsX9_better : List Cond := .code yX9_better cX9_better 9 (some .long) :: ((wsX9_better_r1 ++ wsX9_better_r2) ++ wsX90)
def wsX9_laidEnd : List Cond := .code yX9_laidEnd cX9_laidEnd 4 (some .int) :: ([.fieldLink RX9 59 "HandsHallModel" "share" "[I", .methodLink RX9 138 yX9_labelsOf, .instanceMethod yX9_labelsOf, .selects RX9 yX9_labelsOf yX9_labelsOf, .initialized RX9, .code yX9_labelsOf cX9_labelsOf 2 (some .int), .fieldLink RX9 16 "HandsHallModel" "stepLabels" "[I", .fieldLink RX9 25 "HandsHallModel" "itemStep" "[I"] ++ wsX90)
def wsX9_lean_r1 : List Cond := [Cond.fieldLink RX9 65 "HandsHallModel" "keptShare" "[I", Cond.fieldLink RX9 59 "HandsHallModel" "share" "[I", Cond.fieldLink RX9 68 "HandsHallModel" "keptTable" "[I", Cond.fieldLink RX9 62 "HandsHallModel" "table" "[I", Cond.fieldLink RX9 40 "HandsHallModel" "isOut" "[Z", Cond.fieldLink RX9 115 "HandsHallModel" "items" "I", Cond.fieldLink RX9 90 "HandsHallModel" "endIn" "[I", Cond.methodLink RX9 168 yX9_isHand, Cond.instanceMethod yX9_isHand, Cond.selects RX9 yX9_isHand yX9_isHand, Cond.initialized RX9, Cond.code yX9_isHand cX9_isHand 2 (some .boolean), Cond.fieldLink RX9 118 "HandsHallModel" "hands" "I", Cond.methodLink RX9 93 yX9_in, Cond.static yX9_in, Cond.code yX9_in cX9_in 3 (some .boolean), Cond.methodLink RX9 195 yX9_joinAll, Cond.instanceMethod yX9_joinAll, Cond.selects RX9 yX9_joinAll yX9_joinAll, Cond.code yX9_joinAll cX9_joinAll 3 (some .int), Cond.fieldLink RX9 50 "HandsHallModel" "rule" "[I", Cond.methodLink RX9 186 yX9_beginShares, Cond.instanceMethod yX9_beginShares, Cond.selects RX9 yX9_beginShares yX9_beginShares]
def wsX9_lean_r2 : List Cond := [Cond.code yX9_beginShares cX9_beginShares 6 none, Cond.fieldLink RX9 47 "HandsHallModel" "answers" "[I", Cond.constant RX9 149 (1000000), Cond.methodLink RX9 165 yX9_countOf, Cond.instanceMethod yX9_countOf, Cond.selects RX9 yX9_countOf yX9_countOf, Cond.code yX9_countOf cX9_countOf 4 (some .int), Cond.methodLink RX9 159 yX9_counts, Cond.instanceMethod yX9_counts, Cond.selects RX9 yX9_counts yX9_counts, Cond.code yX9_counts cX9_counts 3 (some .boolean), Cond.methodLink RX9 138 yX9_labelsOf, Cond.instanceMethod yX9_labelsOf, Cond.selects RX9 yX9_labelsOf yX9_labelsOf, Cond.code yX9_labelsOf cX9_labelsOf 2 (some .int), Cond.fieldLink RX9 16 "HandsHallModel" "stepLabels" "[I", Cond.fieldLink RX9 25 "HandsHallModel" "itemStep" "[I", Cond.methodLink RX9 146 yX9_fixed, Cond.instanceMethod yX9_fixed, Cond.selects RX9 yX9_fixed yX9_fixed, Cond.code yX9_fixed cX9_fixed 2 (some .int), Cond.fieldLink RX9 31 "HandsHallModel" "itemKnown" "[I", Cond.fieldLink RX9 34 "HandsHallModel" "itemSettled" "[I", Cond.methodLink RX9 189 yX9_layTables]
def wsX9_lean_r3 : List Cond := [Cond.instanceMethod yX9_layTables, Cond.selects RX9 yX9_layTables yX9_layTables, Cond.code yX9_layTables cX9_layTables 7 none, Cond.constantLong RX9 182 (1000), Cond.methodLink RX9 174 yX9_saidBy, Cond.instanceMethod yX9_saidBy, Cond.selects RX9 yX9_saidBy yX9_saidBy, Cond.code yX9_saidBy cX9_saidBy 9 (some .long), Cond.constantLong RX9 172 (10000), Cond.methodLink RX9 178 yX9_at, Cond.static yX9_at, Cond.code yX9_at cX9_at 4 (some .int), Cond.methodLink RX9 192 yX9_turnShares, Cond.instanceMethod yX9_turnShares, Cond.selects RX9 yX9_turnShares yX9_turnShares, Cond.code yX9_turnShares cX9_turnShares 9 (some .int), Cond.fieldLink RX9 83 "HandsHallModel" "own" "[I", Cond.constantLong RX9 184 (1000000), Cond.methodLink RX9 252 yX9_laidEnd, Cond.instanceMethod yX9_laidEnd, Cond.selects RX9 yX9_laidEnd yX9_laidEnd, Cond.code yX9_laidEnd cX9_laidEnd 4 (some .int)]
def wsX9_lean : List Cond := .code yX9_lean cX9_lean 5 (some .int) :: ((wsX9_lean_r1 ++ (wsX9_lean_r2 ++ wsX9_lean_r3)) ++ wsX90)
def wsX9_coins_r1 : List Cond := [Cond.fieldLink RX9 50 "HandsHallModel" "rule" "[I", Cond.methodLink RX9 168 yX9_isHand, Cond.instanceMethod yX9_isHand, Cond.selects RX9 yX9_isHand yX9_isHand, Cond.initialized RX9, Cond.code yX9_isHand cX9_isHand 2 (some .boolean), Cond.fieldLink RX9 118 "HandsHallModel" "hands" "I", Cond.methodLink RX9 93 yX9_in, Cond.static yX9_in, Cond.code yX9_in cX9_in 3 (some .boolean), Cond.methodLink RX9 204 yX9_answersBy, Cond.instanceMethod yX9_answersBy, Cond.selects RX9 yX9_answersBy yX9_answersBy, Cond.code yX9_answersBy cX9_answersBy 4 (some .int), Cond.fieldLink RX9 115 "HandsHallModel" "items" "I", Cond.methodLink RX9 159 yX9_counts, Cond.instanceMethod yX9_counts, Cond.selects RX9 yX9_counts yX9_counts, Cond.code yX9_counts cX9_counts 3 (some .boolean), Cond.fieldLink RX9 40 "HandsHallModel" "isOut" "[Z", Cond.fieldLink RX9 47 "HandsHallModel" "answers" "[I", Cond.methodLink RX9 210 yX9_rightBy, Cond.instanceMethod yX9_rightBy, Cond.selects RX9 yX9_rightBy yX9_rightBy]
def wsX9_coins_r2 : List Cond := [Cond.code yX9_rightBy cX9_rightBy 4 (some .int), Cond.fieldLink RX9 31 "HandsHallModel" "itemKnown" "[I", Cond.methodLink RX9 201 yX9_isRight, Cond.instanceMethod yX9_isRight, Cond.selects RX9 yX9_isRight yX9_isRight, Cond.code yX9_isRight cX9_isRight 3 (some .boolean), Cond.methodLink RX9 207 yX9_knownBy, Cond.instanceMethod yX9_knownBy, Cond.selects RX9 yX9_knownBy yX9_knownBy, Cond.code yX9_knownBy cX9_knownBy 4 (some .int)]
def wsX9_coins : List Cond := .code yX9_coins cX9_coins 3 (some .int) :: ((wsX9_coins_r1 ++ wsX9_coins_r2) ++ wsX90)
def wsX9_isPay : List Cond := .code yX9_isPay cX9_isPay 1 (some .boolean) :: ([.methodLink RX9 93 yX9_in, .static yX9_in, .initialized RX9, .code yX9_in cX9_in 3 (some .boolean)])
def wsX9_pays : List Cond := .code yX9_pays cX9_pays 4 (some .int) :: ([.fieldLink RX9 53 "HandsHallModel" "payRight" "[I", .fieldLink RX9 56 "HandsHallModel" "payWrong" "[I", .methodLink RX9 93 yX9_in, .static yX9_in, .initialized RX9, .code yX9_in cX9_in 3 (some .boolean), .methodLink RX9 255 yX9_isPay, .static yX9_isPay, .code yX9_isPay cX9_isPay 1 (some .boolean)] ++ wsX90)
def wsX9_brings : List Cond := .code yX9_brings cX9_brings 3 (some .int) :: ([.fieldLink RX9 53 "HandsHallModel" "payRight" "[I", .fieldLink RX9 56 "HandsHallModel" "payWrong" "[I"] ++ wsX90)
def wsX9_belief : List Cond := .code yX9_belief cX9_belief 5 (some .int) :: ([.methodLink RX9 93 yX9_in, .static yX9_in, .initialized RX9, .code yX9_in cX9_in 3 (some .boolean), .methodLink RX9 258 yX9_brings, .instanceMethod yX9_brings, .selects RX9 yX9_brings yX9_brings, .code yX9_brings cX9_brings 3 (some .int), .fieldLink RX9 53 "HandsHallModel" "payRight" "[I", .fieldLink RX9 56 "HandsHallModel" "payWrong" "[I"] ++ wsX90)
def wsX9_plan : List Cond := .code yX9_plan cX9_plan 12 (some .int) :: ([.constantLong RX9 172 (10000), .methodLink RX9 93 yX9_in, .static yX9_in, .initialized RX9, .code yX9_in cX9_in 3 (some .boolean), .methodLink RX9 249 yX9_choose, .static yX9_choose, .code yX9_choose cX9_choose 5 (some .long)])
def wsX9_told_r1 : List Cond := [Cond.fieldLink RX9 97 "HandsHallModel" "signs" "I", Cond.fieldLink RX9 112 "HandsHallModel" "steps" "I", Cond.fieldLink RX9 115 "HandsHallModel" "items" "I", Cond.fieldLink RX9 118 "HandsHallModel" "hands" "I", Cond.methodLink RX9 204 yX9_answersBy, Cond.instanceMethod yX9_answersBy, Cond.selects RX9 yX9_answersBy yX9_answersBy, Cond.initialized RX9, Cond.code yX9_answersBy cX9_answersBy 4 (some .int), Cond.methodLink RX9 159 yX9_counts, Cond.instanceMethod yX9_counts, Cond.selects RX9 yX9_counts yX9_counts, Cond.code yX9_counts cX9_counts 3 (some .boolean), Cond.fieldLink RX9 40 "HandsHallModel" "isOut" "[Z", Cond.fieldLink RX9 47 "HandsHallModel" "answers" "[I", Cond.methodLink RX9 162 yX9_isOpen, Cond.instanceMethod yX9_isOpen, Cond.selects RX9 yX9_isOpen yX9_isOpen, Cond.code yX9_isOpen cX9_isOpen 5 (some .boolean), Cond.fieldLink RX9 19 "HandsHallModel" "stepNeeds" "[I", Cond.fieldLink RX9 25 "HandsHallModel" "itemStep" "[I", Cond.fieldLink RX9 28 "HandsHallModel" "itemThing" "[I", Cond.fieldLink RX9 22 "HandsHallModel" "stepNumber" "[I", Cond.methodLink RX9 131 yX9_itemOf]
def wsX9_told_r2 : List Cond := [Cond.instanceMethod yX9_itemOf, Cond.selects RX9 yX9_itemOf yX9_itemOf, Cond.code yX9_itemOf cX9_itemOf 4 (some .int), Cond.methodLink RX9 156 yX9_sureOf, Cond.instanceMethod yX9_sureOf, Cond.selects RX9 yX9_sureOf yX9_sureOf, Cond.code yX9_sureOf cX9_sureOf 2 (some .int), Cond.methodLink RX9 153 yX9_endOf, Cond.instanceMethod yX9_endOf, Cond.selects RX9 yX9_endOf yX9_endOf, Cond.code yX9_endOf cX9_endOf 4 (some .int), Cond.methodLink RX9 138 yX9_labelsOf, Cond.instanceMethod yX9_labelsOf, Cond.selects RX9 yX9_labelsOf yX9_labelsOf, Cond.code yX9_labelsOf cX9_labelsOf 2 (some .int), Cond.fieldLink RX9 16 "HandsHallModel" "stepLabels" "[I", Cond.methodLink RX9 150 yX9_shareOf, Cond.instanceMethod yX9_shareOf, Cond.selects RX9 yX9_shareOf yX9_shareOf, Cond.code yX9_shareOf cX9_shareOf 4 (some .int), Cond.constant RX9 149 (1000000), Cond.fieldLink RX9 121 "HandsHallModel" "isJoined" "Z", Cond.fieldLink RX9 125 "HandsHallModel" "joinedItems" "I", Cond.fieldLink RX9 59 "HandsHallModel" "share" "[I"]
def wsX9_told_r3 : List Cond := [Cond.methodLink RX9 146 yX9_fixed, Cond.instanceMethod yX9_fixed, Cond.selects RX9 yX9_fixed yX9_fixed, Cond.code yX9_fixed cX9_fixed 2 (some .int), Cond.fieldLink RX9 31 "HandsHallModel" "itemKnown" "[I", Cond.fieldLink RX9 34 "HandsHallModel" "itemSettled" "[I"]
def wsX9_told : List Cond := .code yX9_told cX9_told 4 (some .int) :: ((wsX9_told_r1 ++ (wsX9_told_r2 ++ wsX9_told_r3)) ++ wsX90)
def wsJ9_abs_0f7a4 : List Cond := .code yJ9_abs_0f7a4 cJ9_abs_0f7a4 1 (some .int) :: ([])
def wsJ9_max_7cf53 : List Cond := .code yJ9_max_7cf53 cJ9_max_7cf53 2 (some .int) :: ([])
def wsJ9_max_f86c9 : List Cond := .code yJ9_max_f86c9 cJ9_max_f86c9 4 (some .long) :: ([])
end
section
theorem dX0_init_0 : decode cX0_init 0 = .ok (.aload_n 0, 1) := by decide +kernel
theorem dX0_init_1 : decode cX0_init 1 = .ok (.invokespecial 3, 3) := by decide +kernel
theorem dX0_init_4 : decode cX0_init 4 = .ok (.aload_n 0, 1) := by decide +kernel
theorem dX0_init_5 : decode cX0_init 5 = .ok (.bipush 10, 2) := by decide +kernel
theorem dX0_init_7 : decode cX0_init 7 = .ok (.newarray .boolean, 2) := by decide +kernel
theorem dX0_init_9 : decode cX0_init 9 = .ok (.putfield 9, 3) := by decide +kernel
theorem dX0_init_12 : decode cX0_init 12 = .ok (.aload_n 0, 1) := by decide +kernel
theorem dX0_init_13 : decode cX0_init 13 = .ok (.bipush 10, 2) := by decide +kernel
theorem dX0_init_15 : decode cX0_init 15 = .ok (.newarray .int, 2) := by decide +kernel
theorem dX0_init_17 : decode cX0_init 17 = .ok (.putfield 15, 3) := by decide +kernel
theorem dX0_init_20 : decode cX0_init 20 = .ok (.aload_n 0, 1) := by decide +kernel
theorem dX0_init_21 : decode cX0_init 21 = .ok (.bipush 10, 2) := by decide +kernel
theorem dX0_init_23 : decode cX0_init 23 = .ok (.bipush 24, 2) := by decide +kernel
theorem dX0_init_25 : decode cX0_init 25 = .ok (.multianewarray 19 2, 4) := by decide +kernel
theorem dX0_init_29 : decode cX0_init 29 = .ok (.putfield 21, 3) := by decide +kernel
theorem dX0_init_32 : decode cX0_init 32 = .ok (.return_, 1) := by decide +kernel
theorem dX0_has_0 : decode cX0_has 0 = .ok (.iload_n 1, 1) := by decide +kernel
theorem dX0_has_1 : decode cX0_has 1 = .ok (.ifCond .lt 15, 3) := by decide +kernel
theorem dX0_has_4 : decode cX0_has 4 = .ok (.iload_n 1, 1) := by decide +kernel
theorem dX0_has_5 : decode cX0_has 5 = .ok (.aload_n 0, 1) := by decide +kernel
theorem dX0_has_6 : decode cX0_has 6 = .ok (.getfield 24, 3) := by decide +kernel
theorem dX0_has_9 : decode cX0_has 9 = .ok (.if_icmp .ge 7, 3) := by decide +kernel
theorem dX0_has_12 : decode cX0_has 12 = .ok (.iconst 1, 1) := by decide +kernel
theorem dX0_has_13 : decode cX0_has 13 = .ok (.goto 4, 3) := by decide +kernel
theorem dX0_has_16 : decode cX0_has 16 = .ok (.iconst 0, 1) := by decide +kernel
theorem dX0_has_17 : decode cX0_has 17 = .ok (.ireturn, 1) := by decide +kernel
theorem dX0_add_0 : decode cX0_add 0 = .ok (.aload_n 0, 1) := by decide +kernel
theorem dX0_add_1 : decode cX0_add 1 = .ok (.getfield 24, 3) := by decide +kernel
theorem dX0_add_4 : decode cX0_add 4 = .ok (.istore_n 1, 1) := by decide +kernel
theorem dX0_add_5 : decode cX0_add 5 = .ok (.aload_n 0, 1) := by decide +kernel
theorem dX0_add_6 : decode cX0_add 6 = .ok (.getfield 9, 3) := by decide +kernel
theorem dX0_add_9 : decode cX0_add 9 = .ok (.iload_n 1, 1) := by decide +kernel
theorem dX0_add_10 : decode cX0_add 10 = .ok (.iconst 0, 1) := by decide +kernel
theorem dX0_add_11 : decode cX0_add 11 = .ok (.bastore, 1) := by decide +kernel
theorem dX0_add_12 : decode cX0_add 12 = .ok (.aload_n 0, 1) := by decide +kernel
theorem dX0_add_13 : decode cX0_add 13 = .ok (.getfield 15, 3) := by decide +kernel
theorem dX0_add_16 : decode cX0_add 16 = .ok (.iload_n 1, 1) := by decide +kernel
theorem dX0_add_17 : decode cX0_add 17 = .ok (.iconst 0, 1) := by decide +kernel
theorem dX0_add_18 : decode cX0_add 18 = .ok (.iastore, 1) := by decide +kernel
theorem dX0_add_19 : decode cX0_add 19 = .ok (.iconst 0, 1) := by decide +kernel
theorem dX0_add_20 : decode cX0_add 20 = .ok (.istore_n 2, 1) := by decide +kernel
theorem dX0_add_21 : decode cX0_add 21 = .ok (.iload_n 2, 1) := by decide +kernel
theorem dX0_add_22 : decode cX0_add 22 = .ok (.bipush 24, 2) := by decide +kernel
theorem dX0_add_24 : decode cX0_add 24 = .ok (.if_icmp .ge 19, 3) := by decide +kernel
theorem dX0_add_27 : decode cX0_add 27 = .ok (.aload_n 0, 1) := by decide +kernel
theorem dX0_add_28 : decode cX0_add 28 = .ok (.getfield 21, 3) := by decide +kernel
theorem dX0_add_31 : decode cX0_add 31 = .ok (.iload_n 1, 1) := by decide +kernel
theorem dX0_add_32 : decode cX0_add 32 = .ok (.aaload, 1) := by decide +kernel
theorem dX0_add_33 : decode cX0_add 33 = .ok (.iload_n 2, 1) := by decide +kernel
theorem dX0_add_34 : decode cX0_add 34 = .ok (.bipush (-6), 2) := by decide +kernel
theorem dX0_add_36 : decode cX0_add 36 = .ok (.iastore, 1) := by decide +kernel
theorem dX0_add_37 : decode cX0_add 37 = .ok (.iinc 2 1, 3) := by decide +kernel
theorem dX0_add_40 : decode cX0_add 40 = .ok (.goto (-19), 3) := by decide +kernel
theorem dX0_add_43 : decode cX0_add 43 = .ok (.aload_n 0, 1) := by decide +kernel
theorem dX0_add_44 : decode cX0_add 44 = .ok (.dup, 1) := by decide +kernel
theorem dX0_add_45 : decode cX0_add 45 = .ok (.getfield 24, 3) := by decide +kernel
theorem dX0_add_48 : decode cX0_add 48 = .ok (.iconst 1, 1) := by decide +kernel
theorem dX0_add_49 : decode cX0_add 49 = .ok (.iadd, 1) := by decide +kernel
theorem dX0_add_50 : decode cX0_add 50 = .ok (.putfield 24, 3) := by decide +kernel
theorem dX0_add_53 : decode cX0_add 53 = .ok (.iload_n 1, 1) := by decide +kernel
theorem dX0_add_54 : decode cX0_add 54 = .ok (.ireturn, 1) := by decide +kernel
theorem dX0_counts_0 : decode cX0_counts 0 = .ok (.aload_n 0, 1) := by decide +kernel
theorem dX0_counts_1 : decode cX0_counts 1 = .ok (.getfield 9, 3) := by decide +kernel
theorem dX0_counts_4 : decode cX0_counts 4 = .ok (.iload_n 1, 1) := by decide +kernel
theorem dX0_counts_5 : decode cX0_counts 5 = .ok (.baload, 1) := by decide +kernel
theorem dX0_counts_6 : decode cX0_counts 6 = .ok (.ifCond .ne 20, 3) := by decide +kernel
theorem dX0_counts_9 : decode cX0_counts 9 = .ok (.aload_n 0, 1) := by decide +kernel
theorem dX0_counts_10 : decode cX0_counts 10 = .ok (.getfield 21, 3) := by decide +kernel
theorem dX0_counts_13 : decode cX0_counts 13 = .ok (.iload_n 1, 1) := by decide +kernel
theorem dX0_counts_14 : decode cX0_counts 14 = .ok (.aaload, 1) := by decide +kernel
theorem dX0_counts_15 : decode cX0_counts 15 = .ok (.iload_n 2, 1) := by decide +kernel
theorem dX0_counts_16 : decode cX0_counts 16 = .ok (.iaload, 1) := by decide +kernel
theorem dX0_counts_17 : decode cX0_counts 17 = .ok (.bipush (-6), 2) := by decide +kernel
theorem dX0_counts_19 : decode cX0_counts 19 = .ok (.if_icmp .eq 7, 3) := by decide +kernel
theorem dX0_counts_22 : decode cX0_counts 22 = .ok (.iconst 1, 1) := by decide +kernel
theorem dX0_counts_23 : decode cX0_counts 23 = .ok (.goto 4, 3) := by decide +kernel
theorem dX0_counts_26 : decode cX0_counts 26 = .ok (.iconst 0, 1) := by decide +kernel
theorem dX0_counts_27 : decode cX0_counts 27 = .ok (.ireturn, 1) := by decide +kernel
theorem dX0_anySaid_0 : decode cX0_anySaid 0 = .ok (.iconst 0, 1) := by decide +kernel
theorem dX0_anySaid_1 : decode cX0_anySaid 1 = .ok (.istore_n 2, 1) := by decide +kernel
theorem dX0_anySaid_2 : decode cX0_anySaid 2 = .ok (.iload_n 2, 1) := by decide +kernel
theorem dX0_anySaid_3 : decode cX0_anySaid 3 = .ok (.aload_n 0, 1) := by decide +kernel
theorem dX0_anySaid_4 : decode cX0_anySaid 4 = .ok (.getfield 24, 3) := by decide +kernel
theorem dX0_anySaid_7 : decode cX0_anySaid 7 = .ok (.if_icmp .ge 24, 3) := by decide +kernel
theorem dX0_anySaid_10 : decode cX0_anySaid 10 = .ok (.aload_n 0, 1) := by decide +kernel
theorem dX0_anySaid_11 : decode cX0_anySaid 11 = .ok (.getfield 21, 3) := by decide +kernel
theorem dX0_anySaid_14 : decode cX0_anySaid 14 = .ok (.iload_n 2, 1) := by decide +kernel
theorem dX0_anySaid_15 : decode cX0_anySaid 15 = .ok (.aaload, 1) := by decide +kernel
theorem dX0_anySaid_16 : decode cX0_anySaid 16 = .ok (.iload_n 1, 1) := by decide +kernel
theorem dX0_anySaid_17 : decode cX0_anySaid 17 = .ok (.iaload, 1) := by decide +kernel
theorem dX0_anySaid_18 : decode cX0_anySaid 18 = .ok (.bipush (-6), 2) := by decide +kernel
theorem dX0_anySaid_20 : decode cX0_anySaid 20 = .ok (.if_icmp .eq 5, 3) := by decide +kernel
theorem dX0_anySaid_23 : decode cX0_anySaid 23 = .ok (.iconst 1, 1) := by decide +kernel
theorem dX0_anySaid_24 : decode cX0_anySaid 24 = .ok (.ireturn, 1) := by decide +kernel
theorem dX0_anySaid_25 : decode cX0_anySaid 25 = .ok (.iinc 2 1, 3) := by decide +kernel
theorem dX0_anySaid_28 : decode cX0_anySaid 28 = .ok (.goto (-26), 3) := by decide +kernel
theorem dX0_anySaid_31 : decode cX0_anySaid 31 = .ok (.iconst 0, 1) := by decide +kernel
theorem dX0_anySaid_32 : decode cX0_anySaid 32 = .ok (.ireturn, 1) := by decide +kernel
theorem dX0_countTo_0 : decode cX0_countTo 0 = .ok (.iconst 0, 1) := by decide +kernel
theorem dX0_countTo_1 : decode cX0_countTo 1 = .ok (.istore_n 2, 1) := by decide +kernel
theorem dX0_countTo_2 : decode cX0_countTo 2 = .ok (.iconst 0, 1) := by decide +kernel
theorem dX0_countTo_3 : decode cX0_countTo 3 = .ok (.istore_n 3, 1) := by decide +kernel
theorem dX0_countTo_4 : decode cX0_countTo 4 = .ok (.iload_n 3, 1) := by decide +kernel
theorem dX0_countTo_5 : decode cX0_countTo 5 = .ok (.aload_n 0, 1) := by decide +kernel
theorem dX0_countTo_6 : decode cX0_countTo 6 = .ok (.getfield 24, 3) := by decide +kernel
theorem dX0_countTo_9 : decode cX0_countTo 9 = .ok (.if_icmp .ge 26, 3) := by decide +kernel
theorem dX0_countTo_12 : decode cX0_countTo 12 = .ok (.iload_n 2, 1) := by decide +kernel
theorem dX0_countTo_13 : decode cX0_countTo 13 = .ok (.aload_n 0, 1) := by decide +kernel
theorem dX0_countTo_14 : decode cX0_countTo 14 = .ok (.iload_n 3, 1) := by decide +kernel
theorem dX0_countTo_15 : decode cX0_countTo 15 = .ok (.iload_n 1, 1) := by decide +kernel
theorem dX0_countTo_16 : decode cX0_countTo 16 = .ok (.invokevirtual 28, 3) := by decide +kernel
theorem dX0_countTo_19 : decode cX0_countTo 19 = .ok (.ifCond .eq 7, 3) := by decide +kernel
theorem dX0_countTo_22 : decode cX0_countTo 22 = .ok (.iconst 1, 1) := by decide +kernel
theorem dX0_countTo_23 : decode cX0_countTo 23 = .ok (.goto 4, 3) := by decide +kernel
theorem dX0_countTo_26 : decode cX0_countTo 26 = .ok (.iconst 0, 1) := by decide +kernel
theorem dX0_countTo_27 : decode cX0_countTo 27 = .ok (.iadd, 1) := by decide +kernel
theorem dX0_countTo_28 : decode cX0_countTo 28 = .ok (.istore_n 2, 1) := by decide +kernel
theorem dX0_countTo_29 : decode cX0_countTo 29 = .ok (.iinc 3 1, 3) := by decide +kernel
theorem dX0_countTo_32 : decode cX0_countTo 32 = .ok (.goto (-28), 3) := by decide +kernel
theorem dX0_countTo_35 : decode cX0_countTo 35 = .ok (.iload_n 2, 1) := by decide +kernel
theorem dX0_countTo_36 : decode cX0_countTo 36 = .ok (.ireturn, 1) := by decide +kernel
theorem dX0_countWith_0 : decode cX0_countWith 0 = .ok (.iconst 0, 1) := by decide +kernel
theorem dX0_countWith_1 : decode cX0_countWith 1 = .ok (.istore_n 3, 1) := by decide +kernel
theorem dX0_countWith_2 : decode cX0_countWith 2 = .ok (.iconst 0, 1) := by decide +kernel
theorem dX0_countWith_3 : decode cX0_countWith 3 = .ok (.istore 4, 2) := by decide +kernel
theorem dX0_countWith_5 : decode cX0_countWith 5 = .ok (.iload 4, 2) := by decide +kernel
theorem dX0_countWith_7 : decode cX0_countWith 7 = .ok (.aload_n 0, 1) := by decide +kernel
theorem dX0_countWith_8 : decode cX0_countWith 8 = .ok (.getfield 24, 3) := by decide +kernel
theorem dX0_countWith_11 : decode cX0_countWith 11 = .ok (.if_icmp .ge 40, 3) := by decide +kernel
theorem dX0_countWith_14 : decode cX0_countWith 14 = .ok (.iload_n 3, 1) := by decide +kernel
theorem dX0_countWith_15 : decode cX0_countWith 15 = .ok (.aload_n 0, 1) := by decide +kernel
theorem dX0_countWith_16 : decode cX0_countWith 16 = .ok (.iload 4, 2) := by decide +kernel
theorem dX0_countWith_18 : decode cX0_countWith 18 = .ok (.iload_n 1, 1) := by decide +kernel
theorem dX0_countWith_19 : decode cX0_countWith 19 = .ok (.invokevirtual 28, 3) := by decide +kernel
theorem dX0_countWith_22 : decode cX0_countWith 22 = .ok (.ifCond .eq 20, 3) := by decide +kernel
theorem dX0_countWith_25 : decode cX0_countWith 25 = .ok (.aload_n 0, 1) := by decide +kernel
theorem dX0_countWith_26 : decode cX0_countWith 26 = .ok (.getfield 21, 3) := by decide +kernel
theorem dX0_countWith_29 : decode cX0_countWith 29 = .ok (.iload 4, 2) := by decide +kernel
theorem dX0_countWith_31 : decode cX0_countWith 31 = .ok (.aaload, 1) := by decide +kernel
theorem dX0_countWith_32 : decode cX0_countWith 32 = .ok (.iload_n 1, 1) := by decide +kernel
theorem dX0_countWith_33 : decode cX0_countWith 33 = .ok (.iaload, 1) := by decide +kernel
theorem dX0_countWith_34 : decode cX0_countWith 34 = .ok (.iload_n 2, 1) := by decide +kernel
theorem dX0_countWith_35 : decode cX0_countWith 35 = .ok (.if_icmp .ne 7, 3) := by decide +kernel
theorem dX0_countWith_38 : decode cX0_countWith 38 = .ok (.iconst 1, 1) := by decide +kernel
theorem dX0_countWith_39 : decode cX0_countWith 39 = .ok (.goto 4, 3) := by decide +kernel
theorem dX0_countWith_42 : decode cX0_countWith 42 = .ok (.iconst 0, 1) := by decide +kernel
theorem dX0_countWith_43 : decode cX0_countWith 43 = .ok (.iadd, 1) := by decide +kernel
theorem dX0_countWith_44 : decode cX0_countWith 44 = .ok (.istore_n 3, 1) := by decide +kernel
theorem dX0_countWith_45 : decode cX0_countWith 45 = .ok (.iinc 4 1, 3) := by decide +kernel
theorem dX0_countWith_48 : decode cX0_countWith 48 = .ok (.goto (-43), 3) := by decide +kernel
theorem dX0_countWith_51 : decode cX0_countWith 51 = .ok (.iload_n 3, 1) := by decide +kernel
theorem dX0_countWith_52 : decode cX0_countWith 52 = .ok (.ireturn, 1) := by decide +kernel
end
section
theorem dX1_init_0 : decode cX1_init 0 = .ok (.aload_n 0, 1) := by decide +kernel
theorem dX1_init_1 : decode cX1_init 1 = .ok (.invokespecial 3, 3) := by decide +kernel
theorem dX1_init_4 : decode cX1_init 4 = .ok (.aload_n 0, 1) := by decide +kernel
theorem dX1_init_5 : decode cX1_init 5 = .ok (.bipush 24, 2) := by decide +kernel
theorem dX1_init_7 : decode cX1_init 7 = .ok (.newarray .int, 2) := by decide +kernel
theorem dX1_init_9 : decode cX1_init 9 = .ok (.putfield 9, 3) := by decide +kernel
theorem dX1_init_12 : decode cX1_init 12 = .ok (.aload_n 0, 1) := by decide +kernel
theorem dX1_init_13 : decode cX1_init 13 = .ok (.bipush 24, 2) := by decide +kernel
theorem dX1_init_15 : decode cX1_init 15 = .ok (.newarray .int, 2) := by decide +kernel
theorem dX1_init_17 : decode cX1_init 17 = .ok (.putfield 15, 3) := by decide +kernel
theorem dX1_init_20 : decode cX1_init 20 = .ok (.aload_n 0, 1) := by decide +kernel
theorem dX1_init_21 : decode cX1_init 21 = .ok (.bipush 24, 2) := by decide +kernel
theorem dX1_init_23 : decode cX1_init 23 = .ok (.newarray .int, 2) := by decide +kernel
theorem dX1_init_25 : decode cX1_init 25 = .ok (.putfield 18, 3) := by decide +kernel
theorem dX1_init_28 : decode cX1_init 28 = .ok (.aload_n 0, 1) := by decide +kernel
theorem dX1_init_29 : decode cX1_init 29 = .ok (.bipush 24, 2) := by decide +kernel
theorem dX1_init_31 : decode cX1_init 31 = .ok (.newarray .int, 2) := by decide +kernel
theorem dX1_init_33 : decode cX1_init 33 = .ok (.putfield 21, 3) := by decide +kernel
theorem dX1_init_36 : decode cX1_init 36 = .ok (.aload_n 0, 1) := by decide +kernel
theorem dX1_init_37 : decode cX1_init 37 = .ok (.bipush 24, 2) := by decide +kernel
theorem dX1_init_39 : decode cX1_init 39 = .ok (.newarray .int, 2) := by decide +kernel
theorem dX1_init_41 : decode cX1_init 41 = .ok (.putfield 24, 3) := by decide +kernel
theorem dX1_init_44 : decode cX1_init 44 = .ok (.aload_n 0, 1) := by decide +kernel
theorem dX1_init_45 : decode cX1_init 45 = .ok (.bipush 24, 2) := by decide +kernel
theorem dX1_init_47 : decode cX1_init 47 = .ok (.newarray .int, 2) := by decide +kernel
theorem dX1_init_49 : decode cX1_init 49 = .ok (.putfield 27, 3) := by decide +kernel
theorem dX1_init_52 : decode cX1_init 52 = .ok (.return_, 1) := by decide +kernel
theorem dX1_has_0 : decode cX1_has 0 = .ok (.iload_n 1, 1) := by decide +kernel
theorem dX1_has_1 : decode cX1_has 1 = .ok (.ifCond .lt 15, 3) := by decide +kernel
theorem dX1_has_4 : decode cX1_has 4 = .ok (.iload_n 1, 1) := by decide +kernel
theorem dX1_has_5 : decode cX1_has 5 = .ok (.aload_n 0, 1) := by decide +kernel
theorem dX1_has_6 : decode cX1_has 6 = .ok (.getfield 30, 3) := by decide +kernel
theorem dX1_has_9 : decode cX1_has 9 = .ok (.if_icmp .ge 7, 3) := by decide +kernel
theorem dX1_has_12 : decode cX1_has 12 = .ok (.iconst 1, 1) := by decide +kernel
theorem dX1_has_13 : decode cX1_has 13 = .ok (.goto 4, 3) := by decide +kernel
theorem dX1_has_16 : decode cX1_has 16 = .ok (.iconst 0, 1) := by decide +kernel
theorem dX1_has_17 : decode cX1_has 17 = .ok (.ireturn, 1) := by decide +kernel
theorem dX1_hasLabel_0 : decode cX1_hasLabel 0 = .ok (.aload_n 0, 1) := by decide +kernel
theorem dX1_hasLabel_1 : decode cX1_hasLabel 1 = .ok (.iload_n 1, 1) := by decide +kernel
theorem dX1_hasLabel_2 : decode cX1_hasLabel 2 = .ok (.invokevirtual 34, 3) := by decide +kernel
theorem dX1_hasLabel_5 : decode cX1_hasLabel 5 = .ok (.ifCond .eq 21, 3) := by decide +kernel
theorem dX1_hasLabel_8 : decode cX1_hasLabel 8 = .ok (.iload_n 2, 1) := by decide +kernel
theorem dX1_hasLabel_9 : decode cX1_hasLabel 9 = .ok (.ifCond .lt 17, 3) := by decide +kernel
theorem dX1_hasLabel_12 : decode cX1_hasLabel 12 = .ok (.iload_n 2, 1) := by decide +kernel
theorem dX1_hasLabel_13 : decode cX1_hasLabel 13 = .ok (.aload_n 0, 1) := by decide +kernel
theorem dX1_hasLabel_14 : decode cX1_hasLabel 14 = .ok (.getfield 18, 3) := by decide +kernel
theorem dX1_hasLabel_17 : decode cX1_hasLabel 17 = .ok (.iload_n 1, 1) := by decide +kernel
theorem dX1_hasLabel_18 : decode cX1_hasLabel 18 = .ok (.iaload, 1) := by decide +kernel
theorem dX1_hasLabel_19 : decode cX1_hasLabel 19 = .ok (.if_icmp .ge 7, 3) := by decide +kernel
theorem dX1_hasLabel_22 : decode cX1_hasLabel 22 = .ok (.iconst 1, 1) := by decide +kernel
theorem dX1_hasLabel_23 : decode cX1_hasLabel 23 = .ok (.goto 4, 3) := by decide +kernel
theorem dX1_hasLabel_26 : decode cX1_hasLabel 26 = .ok (.iconst 0, 1) := by decide +kernel
theorem dX1_hasLabel_27 : decode cX1_hasLabel 27 = .ok (.ireturn, 1) := by decide +kernel
theorem dX1_find_0 : decode cX1_find 0 = .ok (.iconst 0, 1) := by decide +kernel
theorem dX1_find_1 : decode cX1_find 1 = .ok (.istore_n 3, 1) := by decide +kernel
theorem dX1_find_2 : decode cX1_find 2 = .ok (.iload_n 3, 1) := by decide +kernel
theorem dX1_find_3 : decode cX1_find 3 = .ok (.aload_n 0, 1) := by decide +kernel
theorem dX1_find_4 : decode cX1_find 4 = .ok (.getfield 30, 3) := by decide +kernel
theorem dX1_find_7 : decode cX1_find 7 = .ok (.if_icmp .ge 31, 3) := by decide +kernel
theorem dX1_find_10 : decode cX1_find 10 = .ok (.aload_n 0, 1) := by decide +kernel
theorem dX1_find_11 : decode cX1_find 11 = .ok (.getfield 9, 3) := by decide +kernel
theorem dX1_find_14 : decode cX1_find 14 = .ok (.iload_n 3, 1) := by decide +kernel
theorem dX1_find_15 : decode cX1_find 15 = .ok (.iaload, 1) := by decide +kernel
theorem dX1_find_16 : decode cX1_find 16 = .ok (.iload_n 1, 1) := by decide +kernel
theorem dX1_find_17 : decode cX1_find 17 = .ok (.if_icmp .ne 15, 3) := by decide +kernel
theorem dX1_find_20 : decode cX1_find 20 = .ok (.aload_n 0, 1) := by decide +kernel
theorem dX1_find_21 : decode cX1_find 21 = .ok (.getfield 15, 3) := by decide +kernel
theorem dX1_find_24 : decode cX1_find 24 = .ok (.iload_n 3, 1) := by decide +kernel
theorem dX1_find_25 : decode cX1_find 25 = .ok (.iaload, 1) := by decide +kernel
theorem dX1_find_26 : decode cX1_find 26 = .ok (.iload_n 2, 1) := by decide +kernel
theorem dX1_find_27 : decode cX1_find 27 = .ok (.if_icmp .ne 5, 3) := by decide +kernel
theorem dX1_find_30 : decode cX1_find 30 = .ok (.iload_n 3, 1) := by decide +kernel
theorem dX1_find_31 : decode cX1_find 31 = .ok (.ireturn, 1) := by decide +kernel
theorem dX1_find_32 : decode cX1_find 32 = .ok (.iinc 3 1, 3) := by decide +kernel
theorem dX1_find_35 : decode cX1_find 35 = .ok (.goto (-33), 3) := by decide +kernel
theorem dX1_find_38 : decode cX1_find 38 = .ok (.bipush (-6), 2) := by decide +kernel
theorem dX1_find_40 : decode cX1_find 40 = .ok (.ireturn, 1) := by decide +kernel
theorem dX1_add_0 : decode cX1_add 0 = .ok (.aload_n 0, 1) := by decide +kernel
theorem dX1_add_1 : decode cX1_add 1 = .ok (.getfield 30, 3) := by decide +kernel
theorem dX1_add_4 : decode cX1_add 4 = .ok (.istore 4, 2) := by decide +kernel
theorem dX1_add_6 : decode cX1_add 6 = .ok (.aload_n 0, 1) := by decide +kernel
theorem dX1_add_7 : decode cX1_add 7 = .ok (.getfield 9, 3) := by decide +kernel
theorem dX1_add_10 : decode cX1_add 10 = .ok (.iload 4, 2) := by decide +kernel
theorem dX1_add_12 : decode cX1_add 12 = .ok (.iload_n 1, 1) := by decide +kernel
theorem dX1_add_13 : decode cX1_add 13 = .ok (.iastore, 1) := by decide +kernel
theorem dX1_add_14 : decode cX1_add 14 = .ok (.aload_n 0, 1) := by decide +kernel
theorem dX1_add_15 : decode cX1_add 15 = .ok (.getfield 15, 3) := by decide +kernel
theorem dX1_add_18 : decode cX1_add 18 = .ok (.iload 4, 2) := by decide +kernel
theorem dX1_add_20 : decode cX1_add 20 = .ok (.iload_n 2, 1) := by decide +kernel
theorem dX1_add_21 : decode cX1_add 21 = .ok (.iastore, 1) := by decide +kernel
theorem dX1_add_22 : decode cX1_add 22 = .ok (.aload_n 0, 1) := by decide +kernel
theorem dX1_add_23 : decode cX1_add 23 = .ok (.getfield 18, 3) := by decide +kernel
theorem dX1_add_26 : decode cX1_add 26 = .ok (.iload 4, 2) := by decide +kernel
theorem dX1_add_28 : decode cX1_add 28 = .ok (.iload_n 3, 1) := by decide +kernel
theorem dX1_add_29 : decode cX1_add 29 = .ok (.iastore, 1) := by decide +kernel
theorem dX1_add_30 : decode cX1_add 30 = .ok (.aload_n 0, 1) := by decide +kernel
theorem dX1_add_31 : decode cX1_add 31 = .ok (.getfield 21, 3) := by decide +kernel
theorem dX1_add_34 : decode cX1_add 34 = .ok (.iload 4, 2) := by decide +kernel
theorem dX1_add_36 : decode cX1_add 36 = .ok (.bipush (-6), 2) := by decide +kernel
theorem dX1_add_38 : decode cX1_add 38 = .ok (.iastore, 1) := by decide +kernel
theorem dX1_add_39 : decode cX1_add 39 = .ok (.aload_n 0, 1) := by decide +kernel
theorem dX1_add_40 : decode cX1_add 40 = .ok (.getfield 24, 3) := by decide +kernel
theorem dX1_add_43 : decode cX1_add 43 = .ok (.iload 4, 2) := by decide +kernel
theorem dX1_add_45 : decode cX1_add 45 = .ok (.bipush (-6), 2) := by decide +kernel
theorem dX1_add_47 : decode cX1_add 47 = .ok (.iastore, 1) := by decide +kernel
theorem dX1_add_48 : decode cX1_add 48 = .ok (.aload_n 0, 1) := by decide +kernel
theorem dX1_add_49 : decode cX1_add 49 = .ok (.getfield 27, 3) := by decide +kernel
theorem dX1_add_52 : decode cX1_add 52 = .ok (.iload 4, 2) := by decide +kernel
theorem dX1_add_54 : decode cX1_add 54 = .ok (.iconst 0, 1) := by decide +kernel
theorem dX1_add_55 : decode cX1_add 55 = .ok (.iastore, 1) := by decide +kernel
theorem dX1_add_56 : decode cX1_add 56 = .ok (.aload_n 0, 1) := by decide +kernel
theorem dX1_add_57 : decode cX1_add 57 = .ok (.dup, 1) := by decide +kernel
theorem dX1_add_58 : decode cX1_add 58 = .ok (.getfield 30, 3) := by decide +kernel
theorem dX1_add_61 : decode cX1_add 61 = .ok (.iconst 1, 1) := by decide +kernel
theorem dX1_add_62 : decode cX1_add 62 = .ok (.iadd, 1) := by decide +kernel
theorem dX1_add_63 : decode cX1_add 63 = .ok (.putfield 30, 3) := by decide +kernel
theorem dX1_add_66 : decode cX1_add 66 = .ok (.iload 4, 2) := by decide +kernel
theorem dX1_add_68 : decode cX1_add 68 = .ok (.ireturn, 1) := by decide +kernel
theorem dX1_isFree_0 : decode cX1_isFree 0 = .ok (.aload_n 0, 1) := by decide +kernel
theorem dX1_isFree_1 : decode cX1_isFree 1 = .ok (.getfield 21, 3) := by decide +kernel
theorem dX1_isFree_4 : decode cX1_isFree 4 = .ok (.iload_n 1, 1) := by decide +kernel
theorem dX1_isFree_5 : decode cX1_isFree 5 = .ok (.iaload, 1) := by decide +kernel
theorem dX1_isFree_6 : decode cX1_isFree 6 = .ok (.bipush (-6), 2) := by decide +kernel
theorem dX1_isFree_8 : decode cX1_isFree 8 = .ok (.if_icmp .ne 18, 3) := by decide +kernel
theorem dX1_isFree_11 : decode cX1_isFree 11 = .ok (.aload_n 0, 1) := by decide +kernel
theorem dX1_isFree_12 : decode cX1_isFree 12 = .ok (.getfield 24, 3) := by decide +kernel
theorem dX1_isFree_15 : decode cX1_isFree 15 = .ok (.iload_n 1, 1) := by decide +kernel
theorem dX1_isFree_16 : decode cX1_isFree 16 = .ok (.iaload, 1) := by decide +kernel
theorem dX1_isFree_17 : decode cX1_isFree 17 = .ok (.bipush (-6), 2) := by decide +kernel
theorem dX1_isFree_19 : decode cX1_isFree 19 = .ok (.if_icmp .ne 7, 3) := by decide +kernel
theorem dX1_isFree_22 : decode cX1_isFree 22 = .ok (.iconst 1, 1) := by decide +kernel
theorem dX1_isFree_23 : decode cX1_isFree 23 = .ok (.goto 4, 3) := by decide +kernel
theorem dX1_isFree_26 : decode cX1_isFree 26 = .ok (.iconst 0, 1) := by decide +kernel
theorem dX1_isFree_27 : decode cX1_isFree 27 = .ok (.ireturn, 1) := by decide +kernel
theorem dX1_given_0 : decode cX1_given 0 = .ok (.aload_n 0, 1) := by decide +kernel
theorem dX1_given_1 : decode cX1_given 1 = .ok (.getfield 21, 3) := by decide +kernel
theorem dX1_given_4 : decode cX1_given 4 = .ok (.iload_n 1, 1) := by decide +kernel
theorem dX1_given_5 : decode cX1_given 5 = .ok (.iaload, 1) := by decide +kernel
theorem dX1_given_6 : decode cX1_given 6 = .ok (.bipush (-6), 2) := by decide +kernel
theorem dX1_given_8 : decode cX1_given 8 = .ok (.if_icmp .eq 12, 3) := by decide +kernel
theorem dX1_given_11 : decode cX1_given 11 = .ok (.aload_n 0, 1) := by decide +kernel
theorem dX1_given_12 : decode cX1_given 12 = .ok (.getfield 21, 3) := by decide +kernel
theorem dX1_given_15 : decode cX1_given 15 = .ok (.iload_n 1, 1) := by decide +kernel
theorem dX1_given_16 : decode cX1_given 16 = .ok (.iaload, 1) := by decide +kernel
theorem dX1_given_17 : decode cX1_given 17 = .ok (.goto 9, 3) := by decide +kernel
theorem dX1_given_20 : decode cX1_given 20 = .ok (.aload_n 0, 1) := by decide +kernel
theorem dX1_given_21 : decode cX1_given 21 = .ok (.getfield 24, 3) := by decide +kernel
theorem dX1_given_24 : decode cX1_given 24 = .ok (.iload_n 1, 1) := by decide +kernel
theorem dX1_given_25 : decode cX1_given 25 = .ok (.iaload, 1) := by decide +kernel
theorem dX1_given_26 : decode cX1_given 26 = .ok (.ireturn, 1) := by decide +kernel
end
section
set_option maxRecDepth 20000 in
theorem ggX0_countTo_X0_counts : GoodIn wsX0_countTo wsX0_counts := goodIn_r _ [6, 7, 8, 9, 10, 11, 12] (by decide +kernel) (by decide +kernel)
set_option maxRecDepth 20000 in
theorem gX0_countTo_X0_counts : GoodIn wsX0_countTo (wsV RX0 28 RX0 yX0_counts wsX0_counts) := goodIn_app (goodIn_of _ (by decide +kernel)) ggX0_countTo_X0_counts
set_option maxRecDepth 20000 in
theorem ggX0_countWith_X0_counts : GoodIn wsX0_countWith wsX0_counts := goodIn_r _ [7, 8, 2, 9, 10, 11, 12] (by decide +kernel) (by decide +kernel)
set_option maxRecDepth 20000 in
theorem gX0_countWith_X0_counts : GoodIn wsX0_countWith (wsV RX0 28 RX0 yX0_counts wsX0_counts) := goodIn_app (goodIn_of _ (by decide +kernel)) ggX0_countWith_X0_counts
end
section
set_option maxRecDepth 20000 in
theorem ggX1_hasLabel_X1_has : GoodIn wsX1_hasLabel wsX1_has := goodIn_r _ [6, 7, 8, 9, 10, 11, 12, 13, 14] (by decide +kernel) (by decide +kernel)
set_option maxRecDepth 20000 in
theorem gX1_hasLabel_X1_has : GoodIn wsX1_hasLabel (wsV RX1 34 RX1 yX1_has wsX1_has) := goodIn_app (goodIn_of _ (by decide +kernel)) ggX1_hasLabel_X1_has
end
section
/-! ===== hh: one pure state (int scalars, long scalars, int arrays, long arrays) for a system of objects; its world; rows over it ===== -/
abbrev hh_S : Type := (Nat → Int32) × (Nat → Int64) × (Nat → Nat → Int32) × (Nat → Nat → Int64)
abbrev hh_I (σ : hh_S) (k : Nat) : Int32 := σ.1 k
abbrev hh_L (σ : hh_S) (k : Nat) : Int64 := σ.2.1 k
def hh_rA (σ : hh_S) (k : Nat) (i : Int32) : Int32 := σ.2.2.1 k i.toNatClampNeg
def hh_rB (σ : hh_S) (k : Nat) (i : Int32) : Int64 := σ.2.2.2 k i.toNatClampNeg
def hh_uI (σ : hh_S) (k : Nat) (v : Int32) : hh_S := (fun j => if j = k then v else σ.1 j, σ.2)
def hh_uL (σ : hh_S) (k : Nat) (v : Int64) : hh_S := (σ.1, fun j => if j = k then v else σ.2.1 j, σ.2.2)
def hh_uA (σ : hh_S) (k : Nat) (f : Nat → Int32) : hh_S := (σ.1, σ.2.1, fun j => if j = k then f else σ.2.2.1 j, σ.2.2.2)
def hh_uB (σ : hh_S) (k : Nat) (f : Nat → Int64) : hh_S := (σ.1, σ.2.1, σ.2.2.1, fun j => if j = k then f else σ.2.2.2 j)
def hh_sA (σ : hh_S) (k : Nat) (i x : Int32) : hh_S := hh_uA σ k (upd (σ.2.2.1 k) i.toNatClampNeg x)
def hh_sB (σ : hh_S) (k : Nat) (i : Int32) (x : Int64) : hh_S := hh_uB σ k (vp_updL (σ.2.2.2 k) i.toNatClampNeg x)
/-- a system: ((objects, cells), class of an object, its number of fields, a field (kind: 0 int, 1 long, 2 reference; the cell referred to), an array (kind: 0 int, 1 boolean, 2 long, 3 rows; length; first row)) -/
abbrev hh_Y : Type := (Nat × Nat) × (Nat → Nat) × (Nat → Nat) × (Nat → Nat → Nat × Nat) × (Nat → Nat × Nat × Nat)
def hh_fv (Y : hh_Y) (ad : Nat → Nat) (σ : hh_S) (o j : Nat) : Value := if (Y.2.2.2.1 o j).1 = 0 then .int (σ.1 (64 * o + j)) else if (Y.2.2.2.1 o j).1 = 1 then .long (σ.2.1 (64 * o + j)) else .ref (ad (Y.2.2.2.1 o j).2)
def hh_fs (Y : hh_Y) (ad : Nat → Nat) (σ : hh_S) (o : Nat) : List Value := (List.range (Y.2.2.1 o)).map (hh_fv Y ad σ o)
def hh_av (Y : hh_Y) (cy : Nat → ClassId) (ad : Nat → Nat) (σ : hh_S) (k : Nat) : ClassId × vp_A := if (Y.2.2.2.2 k).1 = 0 then (cy 0, (Y.2.2.2.2 k).2.1, .inl (σ.2.2.1 k)) else if (Y.2.2.2.2 k).1 = 1 then (cy 1, (Y.2.2.2.2 k).2.1, .inl (σ.2.2.1 k)) else if (Y.2.2.2.2 k).1 = 2 then (cy 2, (Y.2.2.2.2 k).2.1, .inr (.inl (σ.2.2.2 k))) else (cy 3, (Y.2.2.2.2 k).2.1, .inr (.inr (.inr (.inr (fun r => if r < (Y.2.2.2.2 k).2.1 then some (ad ((Y.2.2.2.2 k).2.2 + r)) else none)))))
def hh_cv (Y : hh_Y) (cy : Nat → ClassId) (ad : Nat → Nat) (σ : hh_S) (k : Nat) : va_E := if k < Y.1.1 then .inr (Y.2.1 k, hh_fs Y ad σ k) else .inl (hh_av Y cy ad σ k)
def hh_ws (Y : hh_Y) (cy : Nat → ClassId) (ad : Nat → Nat) (σ : hh_S) : va_W := (List.range Y.1.2).map (fun k => (ad k, hh_cv Y cy ad σ k))
def hh_ty (cy : Nat → ClassId) : List (ClassId × FieldType) := [(cy 0, .int), (cy 1, .boolean), (cy 2, .long), (cy 3, .array .int)]
def hh_A (Y : hh_Y) (ad : Nat → Nat) : Nat → Prop := fun q => ∃ k, k < Y.1.2 ∧ q = ad k
def hh_J (Y : hh_Y) (ad : Nat → Nat) : Prop := ∀ i j : Nat, i < Y.1.2 → j < Y.1.2 → ad i = ad j → i = j
/-- the world, at a state; and inside a walk -/
def hh_B (D : va_G) (cl : List vw_C) (Y : hh_Y) (cy : Nat → ClassId) (ad : Nat → Nat) (σ : hh_S) (U : State) : Prop := va_P D cl (hh_ws Y cy ad σ) U.heap ∧ va_K D cl (hh_ty cy) U
def hh_H (D : va_G) (cl : List vw_C) (Y : hh_Y) (cy : Nat → ClassId) (ad : Nat → Nat) (H0 : Heap) (σ : hh_S) (H : Heap) (locs : List Loc) : Prop := va_P D cl (hh_ws Y cy ad σ) H ∧ va_S (hh_A Y ad) H0 H locs
/-- what doesn't move inside a walk -/
def hh_X (p : Program) (m : MethodId) (c : Code) (cc : ByteArray) (nL : Nat) (s : State) (args : Array Value) (Ts : List Cond) (own : String) (D : va_G) (cl : List vw_C) (Y : hh_Y) (cy : Nat → ClassId) (ad : Nat → Nat) : Prop := CallFix p m c cc nL s args Ts own ∧ va_K D cl (hh_ty cy) s ∧ hh_J Y ad
/-- cell k is an array of kind t, length n, first row b -/
def hh_ar (Y : hh_Y) (k t n b : Nat) : Prop := k < Y.1.2 ∧ ¬ k < Y.1.1 ∧ Y.2.2.2.2 k = (t, n, b)
/-- cell o is an object of class ci with nf fields, and its field j is of kind t, to cell k -/
def hh_fd (Y : hh_Y) (o j t k : Nat) : Prop := o < Y.1.1 ∧ o < Y.1.2 ∧ j < Y.2.2.1 o ∧ Y.2.2.2.1 o j = (t, k)
theorem hh_ws_at {Y : hh_Y} {cy : Nat → ClassId} {ad : Nat → Nat} {σ : hh_S} {k : Nat} (hk : k < Y.1.2) : (hh_ws Y cy ad σ)[k]? = some (ad k, hh_cv Y cy ad σ k) := by
  unfold hh_ws
  rw [List.getElem?_map, List.getElem?_range hk]
  rfl
theorem hh_ws_none {Y : hh_Y} {cy : Nat → ClassId} {ad : Nat → Nat} {σ : hh_S} {k : Nat} (hk : ¬ k < Y.1.2) : (hh_ws Y cy ad σ)[k]? = none := by
  unfold hh_ws
  rw [List.getElem?_map, List.getElem?_eq_none (by rw [List.length_range]; omega)]
  rfl
theorem hh_ws_len {Y : hh_Y} {cy : Nat → ClassId} {ad : Nat → Nat} {σ : hh_S} : (hh_ws Y cy ad σ).length = Y.1.2 := by
  unfold hh_ws
  rw [List.length_map, List.length_range]
theorem hh_ws_set {Y : hh_Y} {cy : Nat → ClassId} {ad : Nat → Nat} {σ σ' : hh_S} {k : Nat} (hk : k < Y.1.2) {e : va_E} (he : e = hh_cv Y cy ad σ' k) (hj : ∀ j : Nat, j ≠ k → hh_cv Y cy ad σ' j = hh_cv Y cy ad σ j) : (hh_ws Y cy ad σ).set k (ad k, e) = hh_ws Y cy ad σ' := by
  subst he
  apply List.ext_getElem?
  intro j
  by_cases h : j = k
  · subst h
    rw [List.getElem?_set_self (by rw [hh_ws_len]; exact hk), hh_ws_at hk]
  · rw [List.getElem?_set_ne (fun q => h q.symm)]
    by_cases hn : j < Y.1.2
    · rw [hh_ws_at hn, hh_ws_at hn, hj j h]
    · rw [hh_ws_none hn, hh_ws_none hn]
theorem hh_D {Y : hh_Y} {cy : Nat → ClassId} {ad : Nat → Nat} (J : hh_J Y ad) (σ : hh_S) : va_D (hh_A Y ad) (hh_ws Y cy ad σ) := by
  refine ⟨fun i j x y hi hj hxy => ?_, fun k q hq => ?_⟩
  · by_cases h1 : i < Y.1.2
    · by_cases h2 : j < Y.1.2
      · rw [hh_ws_at h1] at hi
        rw [hh_ws_at h2] at hj
        cases hi
        cases hj
        exact J i j h1 h2 hxy
      · rw [hh_ws_none h2] at hj
        cases hj
    · rw [hh_ws_none h1] at hi
      cases hi
  · by_cases h1 : k < Y.1.2
    · rw [hh_ws_at h1] at hq
      cases hq
      exact ⟨k, h1, rfl⟩
    · rw [hh_ws_none h1] at hq
      cases hq
theorem hh_at_arr {Y : hh_Y} {cy : Nat → ClassId} {ad : Nat → Nat} {σ : hh_S} {k t n b : Nat} (h : hh_ar Y k t n b) : (hh_ws Y cy ad σ)[k]? = some (ad k, .inl (hh_av Y cy ad σ k)) := by
  rw [hh_ws_at h.1]
  unfold hh_cv
  rw [if_neg h.2.1]
theorem hh_av0 {Y : hh_Y} {cy : Nat → ClassId} {ad : Nat → Nat} {σ : hh_S} {k n b : Nat} (h : hh_ar Y k 0 n b) : hh_av Y cy ad σ k = (cy 0, n, .inl (σ.2.2.1 k)) := by
  unfold hh_av
  rw [h.2.2]
  rfl
theorem hh_av1 {Y : hh_Y} {cy : Nat → ClassId} {ad : Nat → Nat} {σ : hh_S} {k n b : Nat} (h : hh_ar Y k 1 n b) : hh_av Y cy ad σ k = (cy 1, n, .inl (σ.2.2.1 k)) := by
  unfold hh_av
  rw [h.2.2]
  rfl
theorem hh_av2 {Y : hh_Y} {cy : Nat → ClassId} {ad : Nat → Nat} {σ : hh_S} {k n b : Nat} (h : hh_ar Y k 2 n b) : hh_av Y cy ad σ k = (cy 2, n, .inr (.inl (σ.2.2.2 k))) := by
  unfold hh_av
  rw [h.2.2]
  rfl
theorem hh_av3 {Y : hh_Y} {cy : Nat → ClassId} {ad : Nat → Nat} {σ : hh_S} {k n b : Nat} (h : hh_ar Y k 3 n b) : hh_av Y cy ad σ k = (cy 3, n, .inr (.inr (.inr (.inr (fun r => if r < n then some (ad (b + r)) else none))))) := by
  unfold hh_av
  rw [h.2.2]
  rfl
theorem hh_at_obj {Y : hh_Y} {cy : Nat → ClassId} {ad : Nat → Nat} {σ : hh_S} {o j t k : Nat} (h : hh_fd Y o j t k) : (hh_ws Y cy ad σ)[o]? = some (ad o, .inr (Y.2.1 o, hh_fs Y ad σ o)) := by
  rw [hh_ws_at h.2.1]
  unfold hh_cv
  rw [if_pos h.1]
theorem hh_fs_at {Y : hh_Y} {ad : Nat → Nat} {σ : hh_S} {o j t k : Nat} (h : hh_fd Y o j t k) : (hh_fs Y ad σ o)[j]? = some (hh_fv Y ad σ o j) := by
  unfold hh_fs
  rw [List.getElem?_map, List.getElem?_range h.2.2.1]
  rfl
theorem hh_fv0 {Y : hh_Y} {ad : Nat → Nat} {σ : hh_S} {o j k : Nat} (h : hh_fd Y o j 0 k) : hh_fv Y ad σ o j = .int (σ.1 (64 * o + j)) := by
  unfold hh_fv
  rw [h.2.2.2]
  rfl
theorem hh_fv1 {Y : hh_Y} {ad : Nat → Nat} {σ : hh_S} {o j k : Nat} (h : hh_fd Y o j 1 k) : hh_fv Y ad σ o j = .long (σ.2.1 (64 * o + j)) := by
  unfold hh_fv
  rw [h.2.2.2]
  rfl
theorem hh_fv2 {Y : hh_Y} {ad : Nat → Nat} {σ : hh_S} {o j k : Nat} (h : hh_fd Y o j 2 k) : hh_fv Y ad σ o j = .ref (ad k) := by
  unfold hh_fv
  rw [h.2.2.2]
  rfl
theorem hh_fs_uA {Y : hh_Y} {ad : Nat → Nat} {σ : hh_S} {o k : Nat} {f : Nat → Int32} : hh_fs Y ad (hh_uA σ k f) o = hh_fs Y ad σ o := rfl
theorem hh_fs_uB {Y : hh_Y} {ad : Nat → Nat} {σ : hh_S} {o k : Nat} {f : Nat → Int64} : hh_fs Y ad (hh_uB σ k f) o = hh_fs Y ad σ o := rfl
theorem hh_cv_uA {Y : hh_Y} {cy : Nat → ClassId} {ad : Nat → Nat} {σ : hh_S} {k : Nat} {f : Nat → Int32} (j : Nat) (h : j ≠ k) : hh_cv Y cy ad (hh_uA σ k f) j = hh_cv Y cy ad σ j := by
  have e : (hh_uA σ k f).2.2.1 j = σ.2.2.1 j := if_neg h
  unfold hh_cv hh_av
  rw [e]
  rfl
theorem hh_cv_uB {Y : hh_Y} {cy : Nat → ClassId} {ad : Nat → Nat} {σ : hh_S} {k : Nat} {f : Nat → Int64} (j : Nat) (h : j ≠ k) : hh_cv Y cy ad (hh_uB σ k f) j = hh_cv Y cy ad σ j := by
  have e : (hh_uB σ k f).2.2.2 j = σ.2.2.2 j := if_neg h
  unfold hh_cv hh_av
  rw [e]
  rfl
theorem hh_fs_uI {Y : hh_Y} {ad : Nat → Nat} {σ : hh_S} {o j : Nat} {v : Int32} (o2 : Nat) (h : o2 ≠ o) (hn : ∀ o : Nat, Y.2.2.1 o ≤ 64) (hj : j < 64) : hh_fs Y ad (hh_uI σ (64 * o + j) v) o2 = hh_fs Y ad σ o2 := by
  unfold hh_fs
  apply List.map_congr_left
  intro i hi
  have hi := List.mem_range.mp hi
  have := hn o2
  have e : (hh_uI σ (64 * o + j) v).1 (64 * o2 + i) = σ.1 (64 * o2 + i) := if_neg (by omega)
  unfold hh_fv
  rw [e]
  rfl
theorem hh_fs_uL {Y : hh_Y} {ad : Nat → Nat} {σ : hh_S} {o j : Nat} {v : Int64} (o2 : Nat) (h : o2 ≠ o) (hn : ∀ o : Nat, Y.2.2.1 o ≤ 64) (hj : j < 64) : hh_fs Y ad (hh_uL σ (64 * o + j) v) o2 = hh_fs Y ad σ o2 := by
  unfold hh_fs
  apply List.map_congr_left
  intro i hi
  have hi := List.mem_range.mp hi
  have := hn o2
  have e : (hh_uL σ (64 * o + j) v).2.1 (64 * o2 + i) = σ.2.1 (64 * o2 + i) := if_neg (by omega)
  unfold hh_fv
  rw [e]
  rfl
theorem hh_fs_setI {Y : hh_Y} {ad : Nat → Nat} {σ : hh_S} {o j k : Nat} {v : Int32} (h : hh_fd Y o j 0 k) : (hh_fs Y ad σ o).set j (.int v) = hh_fs Y ad (hh_uI σ (64 * o + j) v) o := by
  apply List.ext_getElem?
  intro i
  have hl : (hh_fs Y ad σ o).length = Y.2.2.1 o := by unfold hh_fs; rw [List.length_map, List.length_range]
  by_cases hi : i = j
  · subst hi
    rw [List.getElem?_set_self (by rw [hl]; exact h.2.2.1), hh_fs_at h, hh_fv0 h]
    exact congrArg (fun x => some (Value.int x)) (if_pos rfl).symm
  · rw [List.getElem?_set_ne (fun q => hi q.symm)]
    unfold hh_fs
    rw [List.getElem?_map, List.getElem?_map]
    have e : (hh_uI σ (64 * o + j) v).1 (64 * o + i) = σ.1 (64 * o + i) := if_neg (by omega)
    have e2 : hh_fv Y ad (hh_uI σ (64 * o + j) v) o i = hh_fv Y ad σ o i := by
      unfold hh_fv
      rw [e]
      rfl
    by_cases hn : i < Y.2.2.1 o
    · rw [List.getElem?_range hn]
      show some _ = some _
      rw [e2]
    · rw [List.getElem?_eq_none (by rw [List.length_range]; omega)]
      rfl
theorem hh_fs_setL {Y : hh_Y} {ad : Nat → Nat} {σ : hh_S} {o j k : Nat} {v : Int64} (h : hh_fd Y o j 1 k) : (hh_fs Y ad σ o).set j (.long v) = hh_fs Y ad (hh_uL σ (64 * o + j) v) o := by
  apply List.ext_getElem?
  intro i
  have hl : (hh_fs Y ad σ o).length = Y.2.2.1 o := by unfold hh_fs; rw [List.length_map, List.length_range]
  by_cases hi : i = j
  · subst hi
    rw [List.getElem?_set_self (by rw [hl]; exact h.2.2.1), hh_fs_at h, hh_fv1 h]
    exact congrArg (fun x => some (Value.long x)) (if_pos rfl).symm
  · rw [List.getElem?_set_ne (fun q => hi q.symm)]
    unfold hh_fs
    rw [List.getElem?_map, List.getElem?_map]
    have e : (hh_uL σ (64 * o + j) v).2.1 (64 * o + i) = σ.2.1 (64 * o + i) := if_neg (by omega)
    have e2 : hh_fv Y ad (hh_uL σ (64 * o + j) v) o i = hh_fv Y ad σ o i := by
      unfold hh_fv
      rw [e]
      rfl
    by_cases hn : i < Y.2.2.1 o
    · rw [List.getElem?_range hn]
      show some _ = some _
      rw [e2]
    · rw [List.getElem?_eq_none (by rw [List.length_range]; omega)]
      rfl
theorem hh_cv_uI {Y : hh_Y} {cy : Nat → ClassId} {ad : Nat → Nat} {σ : hh_S} {o j : Nat} {v : Int32} (hn : ∀ o : Nat, Y.2.2.1 o ≤ 64) (hj : j < 64) (i : Nat) (h : i ≠ o) : hh_cv Y cy ad (hh_uI σ (64 * o + j) v) i = hh_cv Y cy ad σ i := by
  unfold hh_cv
  rw [hh_fs_uI i h hn hj]
  rfl
theorem hh_cv_uL {Y : hh_Y} {cy : Nat → ClassId} {ad : Nat → Nat} {σ : hh_S} {o j : Nat} {v : Int64} (hn : ∀ o : Nat, Y.2.2.1 o ≤ 64) (hj : j < 64) (i : Nat) (h : i ≠ o) : hh_cv Y cy ad (hh_uL σ (64 * o + j) v) i = hh_cv Y cy ad σ i := by
  unfold hh_cv
  rw [hh_fs_uL i h hn hj]
  rfl
section HHW
variable {p : Program} {l : Launch} {e : Env} {R : Room} {s : State} {m : MethodId} {args : Array Value} {below : List Frame} {meth : Method} {c : Code} {H : Heap} {locs : List Loc} {cells slots : Nat} {Q : State → Prop}
variable {cc : ByteArray} {pc : Nat} {ls : Array Slot} {rest : List Value} {D : va_G} {cl : List vw_C} {Y : hh_Y} {cy : Nat → ClassId} {ad : Nat → Nat} {σ : hh_S} {nL : Nat} {Ts : List Cond} {own : String} {H0 : Heap}
theorem hh_ild (X : hh_X p m c cc nL s args Ts own D cl Y cy ad) (h : hh_H D cl Y cy ad H0 σ H locs) {k n b : Nat} (ha : hh_ar Y k 0 n b) {i : Int32} (hin : vp_in i n) (hdg : decode cc pc = .ok (.iaload, 1))
    (kk : W p l e R s m args below meth c H locs cells slots Q (F0 m (pc + 1) ls (.int (hh_rA σ k i) :: rest))) : W p l e R s m args below meth c H locs cells slots Q (F0 m pc ls (.int i :: .ref (ad k) :: rest)) :=
  va_iald X.1.1 X.1.2.1 X.2.1 h.1 k 0 ((hh_at_arr ha).trans (by rw [hh_av0 ha])) rfl hin hdg kk
theorem hh_zld (X : hh_X p m c cc nL s args Ts own D cl Y cy ad) (h : hh_H D cl Y cy ad H0 σ H locs) {k n b : Nat} (ha : hh_ar Y k 1 n b) {i : Int32} (hin : vp_in i n) (hdg : decode cc pc = .ok (.baload, 1))
    (kk : W p l e R s m args below meth c H locs cells slots Q (F0 m (pc + 1) ls (.int (hh_rA σ k i) :: rest))) : W p l e R s m args below meth c H locs cells slots Q (F0 m pc ls (.int i :: .ref (ad k) :: rest)) :=
  va_zald X.1.1 X.1.2.1 X.2.1 h.1 k 1 ((hh_at_arr ha).trans (by rw [hh_av1 ha])) rfl hin hdg kk
theorem hh_lld (X : hh_X p m c cc nL s args Ts own D cl Y cy ad) (h : hh_H D cl Y cy ad H0 σ H locs) {k n b : Nat} (ha : hh_ar Y k 2 n b) {i : Int32} (hin : vp_in i n) (hdg : decode cc pc = .ok (.laload, 1))
    (kk : W p l e R s m args below meth c H locs cells slots Q (F0 m (pc + 1) ls (.long (hh_rB σ k i) :: rest))) : W p l e R s m args below meth c H locs cells slots Q (F0 m pc ls (.int i :: .ref (ad k) :: rest)) :=
  va_lald X.1.1 X.1.2.1 X.2.1 h.1 k 2 ((hh_at_arr ha).trans (by rw [hh_av2 ha])) rfl hin hdg kk
theorem hh_ald (X : hh_X p m c cc nL s args Ts own D cl Y cy ad) (h : hh_H D cl Y cy ad H0 σ H locs) {k n b : Nat} (ha : hh_ar Y k 3 n b) {i : Int32} (hin : vp_in i n) (hdg : decode cc pc = .ok (.aaload, 1))
    (kk : W p l e R s m args below meth c H locs cells slots Q (F0 m (pc + 1) ls (.ref (ad (b + i.toNatClampNeg)) :: rest))) : W p l e R s m args below meth c H locs cells slots Q (F0 m pc ls (.int i :: .ref (ad k) :: rest)) := by
  have hlt : i.toNatClampNeg < n := Nat.not_le.mp fun q => hin (Or.inr q)
  have hc := h.1 k _ ((hh_at_arr ha).trans (by rw [hh_av3 ha]))
  have ht : (hh_ty cy)[3]? = some (cy 3, .array .int) := rfl
  refine W.aald (v := .ref (ad (b + i.toNatClampNeg))) (ty := .array .int) X.1.1 X.1.2.1 hc ((X.2.1.2 3 _ ht).1 n (fun j => va_rf (if j < n then some (ad (b + j)) else none))) rfl (fun q => by cases q) (by show ¬ (i < 0 ∨ (arrV _ _ _).slots.size ≤ _); rw [arrV_size]; exact hin) ?_ rfl rfl hdg kk
  show (arrV _ _ _).slots[_]? = _
  rw [arrV_read _ _ hlt]
  show some (va_rf (if i.toNatClampNeg < n then some (ad (b + i.toNatClampNeg)) else none)) = _
  rw [if_pos hlt]
  rfl
theorem hh_ist (X : hh_X p m c cc nL s args Ts own D cl Y cy ad) (h : hh_H D cl Y cy ad H0 σ H locs) {k n b : Nat} (ha : hh_ar Y k 0 n b) {i x : Int32} (hin : vp_in i n) (hdg : decode cc pc = .ok (.iastore, 1))
    (kk : ∀ (τ : hh_S) (H1 : Heap) (locs1 : List Loc), τ = hh_sA σ k i x → hh_H D cl Y cy ad H0 τ H1 locs1 → W p l e R s m args below meth c H1 locs1 cells slots Q (F0 m (pc + 1) ls rest)) : W p l e R s m args below meth c H locs cells slots Q (F0 m pc ls (.int x :: .int i :: .ref (ad k) :: rest)) := by
  refine va_iast X.1.1 X.1.2.1 X.2.1 h.1 (hh_D X.2.2 σ) h.2 k 0 (f := σ.2.2.1 k) (n := n) ((hh_at_arr ha).trans (by rw [hh_av0 ha])) rfl hin hdg (fun H1 locs1 hP _ hS => kk _ H1 locs1 rfl ⟨?_, hS⟩)
  rw [← hh_ws_set (σ := σ) (σ' := hh_sA σ k i x) ha.1 (e := .inl (cy 0, n, .inl (upd (σ.2.2.1 k) i.toNatClampNeg x))) ?_ (fun j hj => hh_cv_uA j hj)]
  · exact hP
  · unfold hh_cv
    rw [if_neg ha.2.1, hh_av0 ha]
    exact congrArg (fun z => Sum.inl (cy 0, n, Sum.inl z)) (if_pos rfl).symm
theorem hh_zst (X : hh_X p m c cc nL s args Ts own D cl Y cy ad) (h : hh_H D cl Y cy ad H0 σ H locs) {k n b : Nat} (ha : hh_ar Y k 1 n b) {i x : Int32} (hin : vp_in i n) (hdg : decode cc pc = .ok (.bastore, 1))
    (kk : ∀ (τ : hh_S) (H1 : Heap) (locs1 : List Loc), τ = hh_sA σ k i (vp_nar .boolean x) → hh_H D cl Y cy ad H0 τ H1 locs1 → W p l e R s m args below meth c H1 locs1 cells slots Q (F0 m (pc + 1) ls rest)) : W p l e R s m args below meth c H locs cells slots Q (F0 m pc ls (.int x :: .int i :: .ref (ad k) :: rest)) := by
  refine va_zast X.1.1 X.1.2.1 X.2.1 h.1 (hh_D X.2.2 σ) h.2 k 1 (f := σ.2.2.1 k) (n := n) ((hh_at_arr ha).trans (by rw [hh_av1 ha])) rfl hin hdg (fun H1 locs1 hP _ hS => kk _ H1 locs1 rfl ⟨?_, hS⟩)
  rw [← hh_ws_set (σ := σ) (σ' := hh_sA σ k i (vp_nar .boolean x)) ha.1 (e := .inl (cy 1, n, .inl (upd (σ.2.2.1 k) i.toNatClampNeg (vp_nar .boolean x)))) ?_ (fun j hj => hh_cv_uA j hj)]
  · exact hP
  · unfold hh_cv
    rw [if_neg ha.2.1, hh_av1 ha]
    exact congrArg (fun z => Sum.inl (cy 1, n, Sum.inl z)) (if_pos rfl).symm
theorem hh_lst (X : hh_X p m c cc nL s args Ts own D cl Y cy ad) (h : hh_H D cl Y cy ad H0 σ H locs) {k n b : Nat} (ha : hh_ar Y k 2 n b) {i : Int32} {x : Int64} (hin : vp_in i n) (hdg : decode cc pc = .ok (.lastore, 1))
    (kk : ∀ (τ : hh_S) (H1 : Heap) (locs1 : List Loc), τ = hh_sB σ k i x → hh_H D cl Y cy ad H0 τ H1 locs1 → W p l e R s m args below meth c H1 locs1 cells slots Q (F0 m (pc + 1) ls rest)) : W p l e R s m args below meth c H locs cells slots Q (F0 m pc ls (.long x :: .int i :: .ref (ad k) :: rest)) := by
  refine va_last X.1.1 X.1.2.1 X.2.1 h.1 (hh_D X.2.2 σ) h.2 k 2 (f := σ.2.2.2 k) (n := n) ((hh_at_arr ha).trans (by rw [hh_av2 ha])) rfl hin hdg (fun H1 locs1 hP _ hS => kk _ H1 locs1 rfl ⟨?_, hS⟩)
  rw [← hh_ws_set (σ := σ) (σ' := hh_sB σ k i x) ha.1 (e := .inl (cy 2, n, .inr (.inl (vp_updL (σ.2.2.2 k) i.toNatClampNeg x)))) ?_ (fun j hj => hh_cv_uB j hj)]
  · exact hP
  · unfold hh_cv
    rw [if_neg ha.2.1, hh_av2 ha]
    exact congrArg (fun z => Sum.inl (cy 2, n, Sum.inr (Sum.inl z))) (if_pos rfl).symm
theorem hh_geti (X : hh_X p m c cc nL s args Ts own D cl Y cy ad) (h : hh_H D cl Y cy ad H0 σ H locs) (q : Nat) {o j k N index : Nat} {C ref : String} {T : u_T} (hf : hh_fd Y o j 0 k) (hq : 64 * o + j = q) (hin : ∀ w ∈ u_ws C T N, w ∈ Ts) (hc : cl[Y.2.1 o]? = some (C, T, N)) (hj : j < N) (hlink : Cond.fieldLink own index ref (T j).2.1 (T j).2.2.1 ∈ Ts) (hr : ref = (T j).1) (hdg : decode cc pc = .ok (.getfield index, 3))
    (kk : W p l e R s m args below meth c H locs cells slots Q (F0 m (pc + 3) ls (.int (hh_I σ q) :: rest))) : W p l e R s m args below meth c H locs cells slots Q (F0 m pc ls (.ref (ad o) :: rest)) := by
  subst hq
  exact va_get X.1.1 X.1.2.1 X.1.2.2.2.2 hin X.1.2.2.2.1 X.2.1 h.1 o (hh_at_obj hf) hc j hj (X.1.2.2.2.2 _ hlink) (fun _ q => by rw [hr]; exact q) ((hh_fs_at hf).trans (by rw [hh_fv0 hf])) hdg kk
theorem hh_getl (X : hh_X p m c cc nL s args Ts own D cl Y cy ad) (h : hh_H D cl Y cy ad H0 σ H locs) (q : Nat) {o j k N index : Nat} {C ref : String} {T : u_T} (hf : hh_fd Y o j 1 k) (hq : 64 * o + j = q) (hin : ∀ w ∈ u_ws C T N, w ∈ Ts) (hc : cl[Y.2.1 o]? = some (C, T, N)) (hj : j < N) (hlink : Cond.fieldLink own index ref (T j).2.1 (T j).2.2.1 ∈ Ts) (hr : ref = (T j).1) (hdg : decode cc pc = .ok (.getfield index, 3))
    (kk : W p l e R s m args below meth c H locs cells slots Q (F0 m (pc + 3) ls (.long (hh_L σ q) :: rest))) : W p l e R s m args below meth c H locs cells slots Q (F0 m pc ls (.ref (ad o) :: rest)) := by
  subst hq
  exact va_get X.1.1 X.1.2.1 X.1.2.2.2.2 hin X.1.2.2.2.1 X.2.1 h.1 o (hh_at_obj hf) hc j hj (X.1.2.2.2.2 _ hlink) (fun _ q => by rw [hr]; exact q) ((hh_fs_at hf).trans (by rw [hh_fv1 hf])) hdg kk
theorem hh_getr (X : hh_X p m c cc nL s args Ts own D cl Y cy ad) (h : hh_H D cl Y cy ad H0 σ H locs) {o j k N index : Nat} {C ref : String} {T : u_T} (hf : hh_fd Y o j 2 k) (hin : ∀ w ∈ u_ws C T N, w ∈ Ts) (hc : cl[Y.2.1 o]? = some (C, T, N)) (hj : j < N) (hlink : Cond.fieldLink own index ref (T j).2.1 (T j).2.2.1 ∈ Ts) (hr : ref = (T j).1) (hdg : decode cc pc = .ok (.getfield index, 3))
    (kk : W p l e R s m args below meth c H locs cells slots Q (F0 m (pc + 3) ls (.ref (ad k) :: rest))) : W p l e R s m args below meth c H locs cells slots Q (F0 m pc ls (.ref (ad o) :: rest)) :=
  va_get X.1.1 X.1.2.1 X.1.2.2.2.2 hin X.1.2.2.2.1 X.2.1 h.1 o (hh_at_obj hf) hc j hj (X.1.2.2.2.2 _ hlink) (fun _ q => by rw [hr]; exact q) ((hh_fs_at hf).trans (by rw [hh_fv2 hf])) hdg kk
theorem hh_puti (X : hh_X p m c cc nL s args Ts own D cl Y cy ad) (h : hh_H D cl Y cy ad H0 σ H locs) (q : Nat) {o j k N index : Nat} {C ref : String} {T : u_T} (hY : ∀ o : Nat, Y.2.2.1 o ≤ 64) (hf : hh_fd Y o j 0 k) (hq : 64 * o + j = q) (hin : ∀ w ∈ u_ws C T N, w ∈ Ts) (hc : cl[Y.2.1 o]? = some (C, T, N)) (ty0 : Nat → FieldType) (hty : ∀ k, k < N → parseFieldDescriptor (T k).2.2.1 = some (ty0 k)) (hnm : ∀ a, a < N → ∀ b, b < N → a ≠ b → (T a).2.1 ≠ (T b).2.1) (hj : j < N) (hlink : Cond.fieldLink own index ref (T j).2.1 (T j).2.2.1 ∈ Ts) (hr : ref = (T j).1) (hfin : (T j).2.2.2 = false) {x : Int32} (hn : narrow (ty0 j) (.int x) = .int x) (hfit : fits (ty0 j) (.int x) = true) (hdg : decode cc pc = .ok (.putfield index, 3))
    (kk : ∀ (τ : hh_S) (H1 : Heap) (locs1 : List Loc), τ = hh_uI σ q x → hh_H D cl Y cy ad H0 τ H1 locs1 → W p l e R s m args below meth c H1 locs1 cells slots Q (F0 m (pc + 3) ls rest)) : W p l e R s m args below meth c H locs cells slots Q (F0 m pc ls (.int x :: .ref (ad o) :: rest)) := by
  subst hq
  have hl : (hh_fs Y ad σ o).length = Y.2.2.1 o := by unfold hh_fs; rw [List.length_map, List.length_range]
  refine va_put X.1.1 X.1.2.1 X.1.2.2.2.2 hin ty0 hty hnm X.1.2.2.2.1 X.2.1 h.1 (hh_D X.2.2 σ) h.2 o (hh_at_obj hf) hc j hj (X.1.2.2.2.2 _ hlink) (fun _ q => by rw [hr]; exact q) hfin (hty j hj) hn hfit (by rw [hl]; exact hf.2.2.1) hdg (fun H1 locs1 hP _ hS => kk _ H1 locs1 rfl ⟨?_, hS⟩)
  rw [← hh_ws_set (σ := σ) (σ' := hh_uI σ (64 * o + j) x) hf.2.1 (e := .inr (Y.2.1 o, (hh_fs Y ad σ o).set j (.int x))) ?_ (fun i hi => hh_cv_uI hY (Nat.lt_of_lt_of_le hf.2.2.1 (hY o)) i hi)]
  · exact hP
  · unfold hh_cv
    rw [if_pos hf.1, hh_fs_setI hf]
theorem hh_putl (X : hh_X p m c cc nL s args Ts own D cl Y cy ad) (h : hh_H D cl Y cy ad H0 σ H locs) (q : Nat) {o j k N index : Nat} {C ref : String} {T : u_T} (hY : ∀ o : Nat, Y.2.2.1 o ≤ 64) (hf : hh_fd Y o j 1 k) (hq : 64 * o + j = q) (hin : ∀ w ∈ u_ws C T N, w ∈ Ts) (hc : cl[Y.2.1 o]? = some (C, T, N)) (ty0 : Nat → FieldType) (hty : ∀ k, k < N → parseFieldDescriptor (T k).2.2.1 = some (ty0 k)) (hnm : ∀ a, a < N → ∀ b, b < N → a ≠ b → (T a).2.1 ≠ (T b).2.1) (hj : j < N) (hlink : Cond.fieldLink own index ref (T j).2.1 (T j).2.2.1 ∈ Ts) (hr : ref = (T j).1) (hfin : (T j).2.2.2 = false) {x : Int64} (hn : narrow (ty0 j) (.long x) = .long x) (hfit : fits (ty0 j) (.long x) = true) (hdg : decode cc pc = .ok (.putfield index, 3))
    (kk : ∀ (τ : hh_S) (H1 : Heap) (locs1 : List Loc), τ = hh_uL σ q x → hh_H D cl Y cy ad H0 τ H1 locs1 → W p l e R s m args below meth c H1 locs1 cells slots Q (F0 m (pc + 3) ls rest)) : W p l e R s m args below meth c H locs cells slots Q (F0 m pc ls (.long x :: .ref (ad o) :: rest)) := by
  subst hq
  have hl : (hh_fs Y ad σ o).length = Y.2.2.1 o := by unfold hh_fs; rw [List.length_map, List.length_range]
  refine va_put X.1.1 X.1.2.1 X.1.2.2.2.2 hin ty0 hty hnm X.1.2.2.2.1 X.2.1 h.1 (hh_D X.2.2 σ) h.2 o (hh_at_obj hf) hc j hj (X.1.2.2.2.2 _ hlink) (fun _ q => by rw [hr]; exact q) hfin (hty j hj) hn hfit (by rw [hl]; exact hf.2.2.1) hdg (fun H1 locs1 hP _ hS => kk _ H1 locs1 rfl ⟨?_, hS⟩)
  rw [← hh_ws_set (σ := σ) (σ' := hh_uL σ (64 * o + j) x) hf.2.1 (e := .inr (Y.2.1 o, (hh_fs Y ad σ o).set j (.long x))) ?_ (fun i hi => hh_cv_uL hY (Nat.lt_of_lt_of_le hf.2.2.1 (hY o)) i hi)]
  · exact hP
  · unfold hh_cv
    rw [if_pos hf.1, hh_fs_setL hf]
/-- ends -/
theorem hh_iret {Qp : Int32 → hh_S → Prop} (X : hh_X p m c cc nL s args Ts own D cl Y cy ad) (h : hh_H D cl Y cy ad s.heap σ H locs) (hr : meth.sig.returnType = some .int) (hlocks : meth.locks = false) {v : Int32} (hq : Qp v σ) (hdg : decode cc pc = .ok (.ireturn, 1)) : W p l e R s m args below meth c H locs cells slots (MQ below (va_Qi Qp (hh_B D cl Y cy ad) (hh_A Y ad)) args s cells slots (hh_A Y ad)) (F0 m pc ls [.int v]) :=
  W.iret X.1.1 X.1.2.1 hr (fun _ ht hW => ⟨⟨v, σ, rfl, hq, by rw [ht]; exact h.1, va_K.moved hW.alike X.2.1⟩, h.2.F ht⟩) h.2.2.2 hdg hlocks
theorem hh_zret {Qp : Int32 → hh_S → Prop} (X : hh_X p m c cc nL s args Ts own D cl Y cy ad) (h : hh_H D cl Y cy ad s.heap σ H locs) (hr : meth.sig.returnType = some .boolean) (hlocks : meth.locks = false) {v : Int32} (hn : narrow .boolean (.int v) = .int v) (hq : Qp v σ) (hdg : decode cc pc = .ok (.ireturn, 1)) : W p l e R s m args below meth c H locs cells slots (MQ below (va_Qi Qp (hh_B D cl Y cy ad) (hh_A Y ad)) args s cells slots (hh_A Y ad)) (F0 m pc ls [.int v]) :=
  W.zret X.1.1 X.1.2.1 hr hn (fun _ ht hW => ⟨⟨v, σ, rfl, hq, by rw [ht]; exact h.1, va_K.moved hW.alike X.2.1⟩, h.2.F ht⟩) h.2.2.2 hdg hlocks
theorem hh_lret {Qp : Int64 → hh_S → Prop} (X : hh_X p m c cc nL s args Ts own D cl Y cy ad) (h : hh_H D cl Y cy ad s.heap σ H locs) (hr : meth.sig.returnType = some .long) (hlocks : meth.locks = false) {v : Int64} (hq : Qp v σ) (hdg : decode cc pc = .ok (.lreturn, 1)) : W p l e R s m args below meth c H locs cells slots (MQ below (va_Ql Qp (hh_B D cl Y cy ad) (hh_A Y ad)) args s cells slots (hh_A Y ad)) (F0 m pc ls [.long v]) :=
  W.lret X.1.1 X.1.2.1 hr (fun _ ht hW => ⟨⟨v, σ, rfl, hq, by rw [ht]; exact h.1, va_K.moved hW.alike X.2.1⟩, h.2.F ht⟩) h.2.2.2 hdg hlocks
theorem hh_vret {Qp : hh_S → Prop} (X : hh_X p m c cc nL s args Ts own D cl Y cy ad) (h : hh_H D cl Y cy ad s.heap σ H locs) (hr : meth.sig.returnType = none) (hlocks : meth.locks = false) (hq : Qp σ) (hdg : decode cc pc = .ok (.return_, 1)) : W p l e R s m args below meth c H locs cells slots (MQ below (va_Qv Qp (hh_B D cl Y cy ad) (hh_A Y ad)) args s cells slots (hh_A Y ad)) (F0 m pc ls []) :=
  W.vret X.1.1 X.1.2.1 hr (fun _ ht hW => ⟨⟨σ, rfl, hq, by rw [ht]; exact h.1, va_K.moved hW.alike X.2.1⟩, h.2.F ht⟩) h.2.2.2 hdg hlocks
/-- calls -/
theorem hh_blind {av : List Value} : FrameBlind (va_Pc av (hh_B D cl Y cy ad σ)) := fun a U g mk q => ⟨q.1, q.2.1, va_K.moved (u := U) (U := U.calling g mk a) (Vm.Alike.refl U.vm) q.2.2⟩
theorem hh_preS (X : hh_X p m c cc nL s args Ts own D cl Y cy ad) (h : hh_H D cl Y cy ad H0 σ H locs) (As : List Value) : PreS s H (va_Pc As (hh_B D cl Y cy ad σ)) As := ⟨hh_blind, fun _ hU hW => ⟨rfl, by rw [hU]; exact h.1, va_K.moved hW.alike X.2.1⟩⟩
theorem hh_preV (X : hh_X p m c cc nL s args Ts own D cl Y cy ad) (h : hh_H D cl Y cy ad H0 σ H locs) {o j t k : Nat} (hf : hh_fd Y o j t k) {q : vw_C} (hc : cl[Y.2.1 o]? = some q) (As : List Value) : PreV s H q.1 (ad o) (va_Pc (.ref (ad o) :: As) (hh_B D cl Y cy ad σ)) As := ⟨hh_blind, va_recv X.2.1 h.1 hc (hh_at_obj hf), fun _ hU hW => ⟨rfl, by rw [hU]; exact h.1, va_K.moved hW.alike X.2.1⟩⟩
variable {y : MethodName} {bytes : ByteArray} {maxL n index : Nat} {ret : Option FieldType} {ws : List Cond} {rm : Room} {As : List Value}
theorem hh_kI {Qp : Int32 → hh_S → Prop} {st0 : List Value} {a : Array Value} (h : hh_H D cl Y cy ad H0 σ H locs) (hr : va_Run p l e R s m args below meth c H locs cells slots 0 0 (F0 m pc ls st0) rest (va_Qi Qp (hh_B D cl Y cy ad) (hh_A Y ad) a) (hh_A Y ad))
    (kk : ∀ (r : Int32) (u : hh_S) (H1 : Heap) (locs1 : List Loc), Qp r u → hh_H D cl Y cy ad H0 u H1 locs1 → W p l e R s m args below meth c H1 locs1 cells slots Q (F0 m (pc + 3) ls (.int r :: rest))) : W p l e R s m args below meth c H locs cells slots Q (F0 m pc ls st0) :=
  va_calli hr h.2 (fun _ _ q => q) (fun _ q => q) (fun r u t H1 locs1 ht _ hp hb _ _ hS => kk r u H1 locs1 hp ⟨by rw [← ht]; exact hb.1, hS⟩)
theorem hh_kL {Qp : Int64 → hh_S → Prop} {st0 : List Value} {a : Array Value} (h : hh_H D cl Y cy ad H0 σ H locs) (hr : va_Run p l e R s m args below meth c H locs cells slots 0 0 (F0 m pc ls st0) rest (va_Ql Qp (hh_B D cl Y cy ad) (hh_A Y ad) a) (hh_A Y ad))
    (kk : ∀ (r : Int64) (u : hh_S) (H1 : Heap) (locs1 : List Loc), Qp r u → hh_H D cl Y cy ad H0 u H1 locs1 → W p l e R s m args below meth c H1 locs1 cells slots Q (F0 m (pc + 3) ls (.long r :: rest))) : W p l e R s m args below meth c H locs cells slots Q (F0 m pc ls st0) :=
  va_calll hr h.2 (fun _ _ q => q) (fun _ q => q) (fun r u t H1 locs1 ht _ hp hb _ _ hS => kk r u H1 locs1 hp ⟨by rw [← ht]; exact hb.1, hS⟩)
theorem hh_kV {Qp : hh_S → Prop} {st0 : List Value} {a : Array Value} (h : hh_H D cl Y cy ad H0 σ H locs) (hr : va_Run p l e R s m args below meth c H locs cells slots 0 0 (F0 m pc ls st0) rest (va_Qv Qp (hh_B D cl Y cy ad) (hh_A Y ad) a) (hh_A Y ad))
    (kk : ∀ (u : hh_S) (H1 : Heap) (locs1 : List Loc), Qp u → hh_H D cl Y cy ad H0 u H1 locs1 → W p l e R s m args below meth c H1 locs1 cells slots Q (F0 m (pc + 3) ls rest)) : W p l e R s m args below meth c H locs cells slots Q (F0 m pc ls st0) :=
  va_callv hr h.2 (fun _ _ q => q) (fun _ q => q) (fun u t H1 locs1 ht _ hp hb _ _ hS => kk u H1 locs1 hp ⟨by rw [← ht]; exact hb.1, hS⟩)
/-- switches -/
theorem hh_tabIn (X : hh_X p m c cc nL s args Ts own D cl Y cy ad) {dflt lo hi : Int} {offs : Array Int} {len : Nat} {x : Int32} {tgt : Nat} {off : Int} (z : Int) (hdg : decode cc pc = .ok (.tableswitch dflt lo hi offs, len)) (hz : x.toInt = z) (h1 : ¬ z < lo) (h2 : ¬ hi < z) (ho : offs[(z - lo).toNat]? = some off) (ht : (pc : Int) + off = (tgt : Int))
    (kk : W p l e R s m args below meth c H locs cells slots Q (F0 m tgt ls rest)) : W p l e R s m args below meth c H locs cells slots Q (F0 m pc ls (.int x :: rest)) := by
  subst hz
  exact lv_tableIn X.1.1 X.1.2.1 hdg h1 h2 ho ht kk
theorem hh_cpy (X : hh_X p m c cc nL s args Ts own D cl Y cy ad) (h : hh_H D cl Y cy ad H0 σ H locs) {k0 k1 n0 n1 b0 b1 : Nat} (h0 : hh_ar Y k0 0 n0 b0) (h1 : hh_ar Y k1 0 n1 b1) (hsz : ls.size = nL) {index : Nat} (hlink : (Cond.methodLink own index arraycopyName).before args s = true) (hnat : (Cond.native arraycopyName).before args s = true) (hstat : (Cond.static arraycopyName).before args s = true) (hini : (Cond.initialized "java/lang/System").before args s = true) {sp dp n : Int32} (g1 : ¬ sp < 0) (g2 : ¬ dp < 0) (g3 : ¬ n < 0) (g4 : sp.toNatClampNeg + n.toNatClampNeg ≤ n0) (g5 : dp.toNatClampNeg + n.toNatClampNeg ≤ n1) (hframes : 1 ≤ R.frames) (hlocals : (rest.map fun v => v.category).sum + (nativeFrameWords "java/lang/System" "arraycopy" 5 + 11) ≤ R.locals) (hdg : decode cc pc = .ok (.invokestatic index, 3))
    (kk : ∀ (τ : hh_S) (H1 : Heap) (locs1 : List Loc), τ = hh_uA σ k1 (va_cpy (σ.2.2.1 k0) (σ.2.2.1 k1) sp.toNatClampNeg dp.toNatClampNeg n.toNatClampNeg) → hh_H D cl Y cy ad H0 τ H1 locs1 → W p l e R s m args below meth c H1 locs1 cells slots Q (F0 m (pc + 3) ls rest)) : W p l e R s m args below meth c H locs cells slots Q (F0 m pc ls (.int n :: .int dp :: .ref (ad k1) :: .int sp :: .ref (ad k0) :: rest)) := by
  refine va_copyi X.1.1 X.1.2.1 (X.1.2.2.1.trans hsz.symm) X.1.2.2.2.1 hlink hnat hstat hini X.2.1 h.1 (hh_D X.2.2 σ) h.2 k0 k1 0 0 (f := σ.2.2.1 k0) (g := σ.2.2.1 k1) (n0 := n0) (n1 := n1) (ty := .int) ((hh_at_arr h0).trans (by rw [hh_av0 h0])) ((hh_at_arr h1).trans (by rw [hh_av0 h1])) rfl rfl rfl g1 g2 g3 g4 g5 (fun _ _ => rfl) hframes hlocals hdg (fun H1 locs1 hP _ hS => kk _ H1 locs1 rfl ⟨?_, hS⟩)
  rw [← hh_ws_set (σ := σ) (σ' := hh_uA σ k1 (va_cpy (σ.2.2.1 k0) (σ.2.2.1 k1) sp.toNatClampNeg dp.toNatClampNeg n.toNatClampNeg)) h1.1 (e := .inl (cy 0, n1, .inl (va_cpy (σ.2.2.1 k0) (σ.2.2.1 k1) sp.toNatClampNeg dp.toNatClampNeg n.toNatClampNeg))) ?_ (fun j hj => hh_cv_uA j hj)]
  · exact hP
  · unfold hh_cv
    rw [if_neg h1.2.1, hh_av0 h1]
    exact congrArg (fun z => Sum.inl (cy 0, n1, Sum.inl z)) (if_pos rfl).symm
theorem hh_entry {vs : List Value} {nn : Nat} (h : (lg_sl vs).length ≤ nn) (kk : ∀ ls : Array Slot, lv_has ls nn (lv_args 0 vs) → W p l e R s m args below meth c H locs cells slots Q (F0 m 0 ls [])) : W p l e R s m args below meth c H locs cells slots Q (entryFrame m vs.toArray nn) := by
  rw [lg_entry_eq]
  exact kk _ (lv_entry vs h)
theorem hh_tabOut (X : hh_X p m c cc nL s args Ts own D cl Y cy ad) {dflt lo hi : Int} {offs : Array Int} {len : Nat} {x : Int32} {tgt : Nat} (hdg : decode cc pc = .ok (.tableswitch dflt lo hi offs, len)) (h : x.toInt < lo ∨ hi < x.toInt) (ht : (pc : Int) + dflt = (tgt : Int))
    (kk : W p l e R s m args below meth c H locs cells slots Q (F0 m tgt ls rest)) : W p l e R s m args below meth c H locs cells slots Q (F0 m pc ls (.int x :: rest)) := lv_tableOut X.1.1 X.1.2.1 hdg h ht kk
end HHW
/-- loops: the body F by its continuation, so many turns -/
def hh_lp0 (F : (hh_S → Prop) → hh_S → Prop) : Nat → hh_S → Prop
  | 0, _ => False
  | n + 1, σ => F (hh_lp0 F n) σ
def hh_lp1 {α : Type} (F : (α → hh_S → Prop) → α → hh_S → Prop) : Nat → α → hh_S → Prop
  | 0, _, _ => False
  | n + 1, a, σ => F (hh_lp1 F n) a σ
def hh_lp2 {α β : Type} (F : (α → β → hh_S → Prop) → α → β → hh_S → Prop) : Nat → α → β → hh_S → Prop
  | 0, _, _, _ => False
  | n + 1, a, b, σ => F (hh_lp2 F n) a b σ
def hh_lp3 {α β γ : Type} (F : (α → β → γ → hh_S → Prop) → α → β → γ → hh_S → Prop) : Nat → α → β → γ → hh_S → Prop
  | 0, _, _, _, _ => False
  | n + 1, a, b, c, σ => F (hh_lp3 F n) a b c σ
def hh_lp4 {α β γ δ : Type} (F : (α → β → γ → δ → hh_S → Prop) → α → β → γ → δ → hh_S → Prop) : Nat → α → β → γ → δ → hh_S → Prop
  | 0, _, _, _, _, _ => False
  | n + 1, a, b, c, d, σ => F (hh_lp4 F n) a b c d σ
def hh_lp5 {α β γ δ ε : Type} (F : (α → β → γ → δ → ε → hh_S → Prop) → α → β → γ → δ → ε → hh_S → Prop) : Nat → α → β → γ → δ → ε → hh_S → Prop
  | 0, _, _, _, _, _, _ => False
  | n + 1, a, b, c, d, e, σ => F (hh_lp5 F n) a b c d e σ
def hh_lp6 {α β γ δ ε ζ : Type} (F : (α → β → γ → δ → ε → ζ → hh_S → Prop) → α → β → γ → δ → ε → ζ → hh_S → Prop) : Nat → α → β → γ → δ → ε → ζ → hh_S → Prop
  | 0, _, _, _, _, _, _, _ => False
  | n + 1, a, b, c, d, e, f, σ => F (hh_lp6 F n) a b c d e f σ
def hh_lp7 {α β γ δ ε ζ η : Type} (F : (α → β → γ → δ → ε → ζ → η → hh_S → Prop) → α → β → γ → δ → ε → ζ → η → hh_S → Prop) : Nat → α → β → γ → δ → ε → ζ → η → hh_S → Prop
  | 0, _, _, _, _, _, _, _, _ => False
  | n + 1, a, b, c, d, e, f, g, σ => F (hh_lp7 F n) a b c d e f g σ
theorem hh_lp0_i {F : (hh_S → Prop) → hh_S → Prop} (I : hh_S → Prop) (μ : hh_S → Nat) (hs : ∀ K σ, I σ → (∀ σ', I σ' → μ σ' < μ σ → K σ') → F K σ) {σ : hh_S} (h : I σ) : ∃ n, hh_lp0 F n σ := by
  have key : ∀ n σ, I σ → μ σ < n → hh_lp0 F n σ := by
    intro n
    induction n with
    | zero => intro σ _ h; exact absurd h (Nat.not_lt_zero _)
    | succ n ih => intro σ hI hm; exact hs _ σ hI (fun σ' hI' hm' => ih σ' hI' (by omega))
  exact ⟨_, key _ σ h (Nat.lt_succ_self _)⟩
theorem hh_lp1_i {α : Type} {F : (α → hh_S → Prop) → α → hh_S → Prop} (I : α → hh_S → Prop) (μ : α → hh_S → Nat) (hs : ∀ K a σ, I a σ → (∀ a' σ', I a' σ' → μ a' σ' < μ a σ → K a' σ') → F K a σ) {a : α} {σ : hh_S} (h : I a σ) : ∃ n, hh_lp1 F n a σ := by
  have key : ∀ n a σ, I a σ → μ a σ < n → hh_lp1 F n a σ := by
    intro n
    induction n with
    | zero => intro a σ _ h; exact absurd h (Nat.not_lt_zero _)
    | succ n ih => intro a σ hI hm; exact hs _ a σ hI (fun a' σ' hI' hm' => ih a' σ' hI' (by omega))
  exact ⟨_, key _ a σ h (Nat.lt_succ_self _)⟩
theorem hh_lp2_i {α β : Type} {F : (α → β → hh_S → Prop) → α → β → hh_S → Prop} (I : α → β → hh_S → Prop) (μ : α → β → hh_S → Nat) (hs : ∀ K a b σ, I a b σ → (∀ a' b' σ', I a' b' σ' → μ a' b' σ' < μ a b σ → K a' b' σ') → F K a b σ) {a : α} {b : β} {σ : hh_S} (h : I a b σ) : ∃ n, hh_lp2 F n a b σ := by
  have key : ∀ n a b σ, I a b σ → μ a b σ < n → hh_lp2 F n a b σ := by
    intro n
    induction n with
    | zero => intro a b σ _ h; exact absurd h (Nat.not_lt_zero _)
    | succ n ih => intro a b σ hI hm; exact hs _ a b σ hI (fun a' b' σ' hI' hm' => ih a' b' σ' hI' (by omega))
  exact ⟨_, key _ a b σ h (Nat.lt_succ_self _)⟩
theorem hh_lp3_i {α β γ : Type} {F : (α → β → γ → hh_S → Prop) → α → β → γ → hh_S → Prop} (I : α → β → γ → hh_S → Prop) (μ : α → β → γ → hh_S → Nat) (hs : ∀ K a b c σ, I a b c σ → (∀ a' b' c' σ', I a' b' c' σ' → μ a' b' c' σ' < μ a b c σ → K a' b' c' σ') → F K a b c σ) {a : α} {b : β} {c : γ} {σ : hh_S} (h : I a b c σ) : ∃ n, hh_lp3 F n a b c σ := by
  have key : ∀ n a b c σ, I a b c σ → μ a b c σ < n → hh_lp3 F n a b c σ := by
    intro n
    induction n with
    | zero => intro a b c σ _ h; exact absurd h (Nat.not_lt_zero _)
    | succ n ih => intro a b c σ hI hm; exact hs _ a b c σ hI (fun a' b' c' σ' hI' hm' => ih a' b' c' σ' hI' (by omega))
  exact ⟨_, key _ a b c σ h (Nat.lt_succ_self _)⟩
theorem hh_lp4_i {α β γ δ : Type} {F : (α → β → γ → δ → hh_S → Prop) → α → β → γ → δ → hh_S → Prop} (I : α → β → γ → δ → hh_S → Prop) (μ : α → β → γ → δ → hh_S → Nat) (hs : ∀ K a b c d σ, I a b c d σ → (∀ a' b' c' d' σ', I a' b' c' d' σ' → μ a' b' c' d' σ' < μ a b c d σ → K a' b' c' d' σ') → F K a b c d σ) {a : α} {b : β} {c : γ} {d : δ} {σ : hh_S} (h : I a b c d σ) : ∃ n, hh_lp4 F n a b c d σ := by
  have key : ∀ n a b c d σ, I a b c d σ → μ a b c d σ < n → hh_lp4 F n a b c d σ := by
    intro n
    induction n with
    | zero => intro a b c d σ _ h; exact absurd h (Nat.not_lt_zero _)
    | succ n ih => intro a b c d σ hI hm; exact hs _ a b c d σ hI (fun a' b' c' d' σ' hI' hm' => ih a' b' c' d' σ' hI' (by omega))
  exact ⟨_, key _ a b c d σ h (Nat.lt_succ_self _)⟩
theorem hh_lp5_i {α β γ δ ε : Type} {F : (α → β → γ → δ → ε → hh_S → Prop) → α → β → γ → δ → ε → hh_S → Prop} (I : α → β → γ → δ → ε → hh_S → Prop) (μ : α → β → γ → δ → ε → hh_S → Nat) (hs : ∀ K a b c d e σ, I a b c d e σ → (∀ a' b' c' d' e' σ', I a' b' c' d' e' σ' → μ a' b' c' d' e' σ' < μ a b c d e σ → K a' b' c' d' e' σ') → F K a b c d e σ) {a : α} {b : β} {c : γ} {d : δ} {e : ε} {σ : hh_S} (h : I a b c d e σ) : ∃ n, hh_lp5 F n a b c d e σ := by
  have key : ∀ n a b c d e σ, I a b c d e σ → μ a b c d e σ < n → hh_lp5 F n a b c d e σ := by
    intro n
    induction n with
    | zero => intro a b c d e σ _ h; exact absurd h (Nat.not_lt_zero _)
    | succ n ih => intro a b c d e σ hI hm; exact hs _ a b c d e σ hI (fun a' b' c' d' e' σ' hI' hm' => ih a' b' c' d' e' σ' hI' (by omega))
  exact ⟨_, key _ a b c d e σ h (Nat.lt_succ_self _)⟩
end
section
abbrev hh_cl : List vw_C := [(RX0, TX0, 4), (RX1, TX1, 7), (RX2, TX2, 9), (RX3, TX3, 4), (RX4, TX4, 2), (RX5, TX5, 1), (RX6, TX6, 5), (RX7, TX7, 7), (RX8, TX8, 13), (RX9, TX9, 37)]
def hm_f : List (List (Nat × Nat)) := [[(0, 0), (2, 1), (0, 0), (2, 2), (2, 3), (2, 4), (2, 5), (0, 0), (2, 6), (2, 7), (2, 8), (2, 9), (2, 10), (0, 0), (2, 11), (2, 12), (2, 13), (2, 14), (2, 15), (2, 16), (0, 0), (0, 0), (0, 0), (2, 17), (2, 18), (2, 19), (2, 20), (0, 0), (2, 21), (2, 22), (2, 23), (2, 24), (2, 25), (2, 26), (1, 0), (0, 0), (2, 27)]]
def hm_a : List (Nat × Nat × Nat) := [(0, 60, 0), (0, 8, 0), (0, 8, 0), (0, 8, 0), (0, 8, 0), (0, 24, 0), (0, 24, 0), (0, 24, 0), (0, 24, 0), (0, 24, 0), (1, 10, 0), (0, 10, 0), (0, 240, 0), (0, 6, 0), (0, 21, 0), (0, 21, 0), (0, 96, 0), (0, 480, 0), (0, 96, 0), (0, 480, 0), (0, 8, 0), (0, 8, 0), (0, 8, 0), (0, 8, 0), (0, 4, 0), (2, 25, 0), (0, 24, 0)]
def hm_c : List Nat := [9]
def hm_Y : hh_Y := ((1, 28), (fun o => hm_c.getD o 0), (fun o => (hm_f.getD o []).length), (fun o j => (hm_f.getD o []).getD j (0, 0)), (fun k => hm_a.getD (k - 1) (0, 0, 0)))
theorem hm_n : ∀ o : Nat, hm_Y.2.2.1 o ≤ 64 := by
  intro o
  show (hm_f.getD o []).length ≤ 64
  by_cases h : o < 1
  · revert o
    decide +kernel
  · rw [List.getD_eq_getElem?_getD, List.getElem?_eq_none (by show 1 ≤ o; omega)]
    decide
theorem fm_0_0 : hh_fd hm_Y 0 0 0 0 := ⟨by decide, by decide, by decide, rfl⟩
theorem fm_0_1 : hh_fd hm_Y 0 1 2 1 := ⟨by decide, by decide, by decide, rfl⟩
theorem fm_0_2 : hh_fd hm_Y 0 2 0 0 := ⟨by decide, by decide, by decide, rfl⟩
theorem fm_0_3 : hh_fd hm_Y 0 3 2 2 := ⟨by decide, by decide, by decide, rfl⟩
theorem fm_0_4 : hh_fd hm_Y 0 4 2 3 := ⟨by decide, by decide, by decide, rfl⟩
theorem fm_0_5 : hh_fd hm_Y 0 5 2 4 := ⟨by decide, by decide, by decide, rfl⟩
theorem fm_0_6 : hh_fd hm_Y 0 6 2 5 := ⟨by decide, by decide, by decide, rfl⟩
theorem fm_0_7 : hh_fd hm_Y 0 7 0 0 := ⟨by decide, by decide, by decide, rfl⟩
theorem fm_0_8 : hh_fd hm_Y 0 8 2 6 := ⟨by decide, by decide, by decide, rfl⟩
theorem fm_0_9 : hh_fd hm_Y 0 9 2 7 := ⟨by decide, by decide, by decide, rfl⟩
theorem fm_0_10 : hh_fd hm_Y 0 10 2 8 := ⟨by decide, by decide, by decide, rfl⟩
theorem fm_0_11 : hh_fd hm_Y 0 11 2 9 := ⟨by decide, by decide, by decide, rfl⟩
theorem fm_0_12 : hh_fd hm_Y 0 12 2 10 := ⟨by decide, by decide, by decide, rfl⟩
theorem fm_0_13 : hh_fd hm_Y 0 13 0 0 := ⟨by decide, by decide, by decide, rfl⟩
theorem fm_0_14 : hh_fd hm_Y 0 14 2 11 := ⟨by decide, by decide, by decide, rfl⟩
theorem fm_0_15 : hh_fd hm_Y 0 15 2 12 := ⟨by decide, by decide, by decide, rfl⟩
theorem fm_0_16 : hh_fd hm_Y 0 16 2 13 := ⟨by decide, by decide, by decide, rfl⟩
theorem fm_0_17 : hh_fd hm_Y 0 17 2 14 := ⟨by decide, by decide, by decide, rfl⟩
theorem fm_0_18 : hh_fd hm_Y 0 18 2 15 := ⟨by decide, by decide, by decide, rfl⟩
theorem fm_0_19 : hh_fd hm_Y 0 19 2 16 := ⟨by decide, by decide, by decide, rfl⟩
theorem fm_0_20 : hh_fd hm_Y 0 20 0 0 := ⟨by decide, by decide, by decide, rfl⟩
theorem fm_0_21 : hh_fd hm_Y 0 21 0 0 := ⟨by decide, by decide, by decide, rfl⟩
theorem fm_0_22 : hh_fd hm_Y 0 22 0 0 := ⟨by decide, by decide, by decide, rfl⟩
theorem fm_0_23 : hh_fd hm_Y 0 23 2 17 := ⟨by decide, by decide, by decide, rfl⟩
theorem fm_0_24 : hh_fd hm_Y 0 24 2 18 := ⟨by decide, by decide, by decide, rfl⟩
theorem fm_0_25 : hh_fd hm_Y 0 25 2 19 := ⟨by decide, by decide, by decide, rfl⟩
theorem fm_0_26 : hh_fd hm_Y 0 26 2 20 := ⟨by decide, by decide, by decide, rfl⟩
theorem fm_0_27 : hh_fd hm_Y 0 27 0 0 := ⟨by decide, by decide, by decide, rfl⟩
theorem fm_0_28 : hh_fd hm_Y 0 28 2 21 := ⟨by decide, by decide, by decide, rfl⟩
theorem fm_0_29 : hh_fd hm_Y 0 29 2 22 := ⟨by decide, by decide, by decide, rfl⟩
theorem fm_0_30 : hh_fd hm_Y 0 30 2 23 := ⟨by decide, by decide, by decide, rfl⟩
theorem fm_0_31 : hh_fd hm_Y 0 31 2 24 := ⟨by decide, by decide, by decide, rfl⟩
theorem fm_0_32 : hh_fd hm_Y 0 32 2 25 := ⟨by decide, by decide, by decide, rfl⟩
theorem fm_0_33 : hh_fd hm_Y 0 33 2 26 := ⟨by decide, by decide, by decide, rfl⟩
theorem fm_0_34 : hh_fd hm_Y 0 34 1 0 := ⟨by decide, by decide, by decide, rfl⟩
theorem fm_0_35 : hh_fd hm_Y 0 35 0 0 := ⟨by decide, by decide, by decide, rfl⟩
theorem fm_0_36 : hh_fd hm_Y 0 36 2 27 := ⟨by decide, by decide, by decide, rfl⟩
theorem km_0 : hh_cl[hm_Y.2.1 0]? = some (RX9, TX9, 37) := rfl
theorem am_1 : hh_ar hm_Y 1 0 60 0 := ⟨by decide, by decide, rfl⟩
theorem am_2 : hh_ar hm_Y 2 0 8 0 := ⟨by decide, by decide, rfl⟩
theorem am_3 : hh_ar hm_Y 3 0 8 0 := ⟨by decide, by decide, rfl⟩
theorem am_4 : hh_ar hm_Y 4 0 8 0 := ⟨by decide, by decide, rfl⟩
theorem am_5 : hh_ar hm_Y 5 0 8 0 := ⟨by decide, by decide, rfl⟩
theorem am_6 : hh_ar hm_Y 6 0 24 0 := ⟨by decide, by decide, rfl⟩
theorem am_7 : hh_ar hm_Y 7 0 24 0 := ⟨by decide, by decide, rfl⟩
theorem am_8 : hh_ar hm_Y 8 0 24 0 := ⟨by decide, by decide, rfl⟩
theorem am_9 : hh_ar hm_Y 9 0 24 0 := ⟨by decide, by decide, rfl⟩
theorem am_10 : hh_ar hm_Y 10 0 24 0 := ⟨by decide, by decide, rfl⟩
theorem am_11 : hh_ar hm_Y 11 1 10 0 := ⟨by decide, by decide, rfl⟩
theorem am_12 : hh_ar hm_Y 12 0 10 0 := ⟨by decide, by decide, rfl⟩
theorem am_13 : hh_ar hm_Y 13 0 240 0 := ⟨by decide, by decide, rfl⟩
theorem am_14 : hh_ar hm_Y 14 0 6 0 := ⟨by decide, by decide, rfl⟩
theorem am_15 : hh_ar hm_Y 15 0 21 0 := ⟨by decide, by decide, rfl⟩
theorem am_16 : hh_ar hm_Y 16 0 21 0 := ⟨by decide, by decide, rfl⟩
theorem am_17 : hh_ar hm_Y 17 0 96 0 := ⟨by decide, by decide, rfl⟩
theorem am_18 : hh_ar hm_Y 18 0 480 0 := ⟨by decide, by decide, rfl⟩
theorem am_19 : hh_ar hm_Y 19 0 96 0 := ⟨by decide, by decide, rfl⟩
theorem am_20 : hh_ar hm_Y 20 0 480 0 := ⟨by decide, by decide, rfl⟩
theorem am_21 : hh_ar hm_Y 21 0 8 0 := ⟨by decide, by decide, rfl⟩
theorem am_22 : hh_ar hm_Y 22 0 8 0 := ⟨by decide, by decide, rfl⟩
theorem am_23 : hh_ar hm_Y 23 0 8 0 := ⟨by decide, by decide, rfl⟩
theorem am_24 : hh_ar hm_Y 24 0 8 0 := ⟨by decide, by decide, rfl⟩
theorem am_25 : hh_ar hm_Y 25 0 4 0 := ⟨by decide, by decide, rfl⟩
theorem am_26 : hh_ar hm_Y 26 2 25 0 := ⟨by decide, by decide, rfl⟩
theorem am_27 : hh_ar hm_Y 27 0 24 0 := ⟨by decide, by decide, rfl⟩
def hc_f : List (List (Nat × Nat)) := [[(2, 1), (2, 2), (2, 4), (2, 5), (2, 6), (2, 7), (2, 8), (2, 9), (2, 10), (0, 0), (0, 0), (0, 0), (0, 0)], [(0, 0), (2, 3), (2, 19), (0, 0), (0, 0), (0, 0), (0, 0)], [(0, 0), (2, 11), (2, 12), (2, 13), (2, 14)], [(0, 0), (2, 15), (2, 16), (2, 17), (2, 18)], [(0, 0), (2, 20), (2, 21), (2, 22), (2, 23), (2, 24), (2, 25)], [(0, 0), (2, 26), (2, 27), (2, 28)], [(2, 29)], [(2, 30), (2, 31), (2, 4), (2, 5), (2, 6), (2, 32), (2, 33), (2, 34), (2, 35)], [(2, 36), (2, 37), (2, 4), (2, 5), (2, 6), (2, 38), (2, 39), (2, 40), (2, 41)], [(0, 0), (1, 0), (1, 0), (2, 42)], [(2, 43), (2, 44)]]
def hc_a : List (Nat × Nat × Nat) := [(0, 8, 0), (0, 8, 0), (0, 8, 0), (0, 8, 0), (0, 8, 0), (0, 8, 0), (0, 8, 0), (0, 8, 0), (0, 60, 0), (0, 24, 0), (0, 24, 0), (0, 24, 0), (0, 24, 0), (0, 24, 0), (0, 24, 0), (1, 10, 0), (0, 10, 0), (3, 10, 45), (0, 6, 0), (3, 24, 55), (3, 10, 79), (2, 48, 0), (2, 4, 0), (2, 4, 0), (0, 24, 0), (3, 24, 89), (3, 10, 113), (2, 48, 0), (2, 4, 0), (2, 4, 0), (0, 24, 0), (2, 25, 0), (0, 21, 0), (0, 21, 0)]
def hc_c : List Nat := [8, 7, 6, 6, 1, 0, 5, 2, 2, 3, 4]
def hc_Y : hh_Y := ((11, 123), (fun o => hc_c.getD o 0), (fun o => (hc_f.getD o []).length), (fun o j => (hc_f.getD o []).getD j (0, 0)), (fun k => if k < 45 then hc_a.getD (k - 11) (0, 0, 0) else if k < 55 then (0, 24, 0) else if (k - 55) % 34 < 24 then (0, 4, 0) else (0, 48, 0)))
theorem hc_n : ∀ o : Nat, hc_Y.2.2.1 o ≤ 64 := by
  intro o
  show (hc_f.getD o []).length ≤ 64
  by_cases h : o < 11
  · revert o
    decide +kernel
  · rw [List.getD_eq_getElem?_getD, List.getElem?_eq_none (by show 11 ≤ o; omega)]
    decide
theorem fc_0_0 : hh_fd hc_Y 0 0 2 1 := ⟨by decide, by decide, by decide, rfl⟩
theorem fc_0_1 : hh_fd hc_Y 0 1 2 2 := ⟨by decide, by decide, by decide, rfl⟩
theorem fc_0_2 : hh_fd hc_Y 0 2 2 4 := ⟨by decide, by decide, by decide, rfl⟩
theorem fc_0_3 : hh_fd hc_Y 0 3 2 5 := ⟨by decide, by decide, by decide, rfl⟩
theorem fc_0_4 : hh_fd hc_Y 0 4 2 6 := ⟨by decide, by decide, by decide, rfl⟩
theorem fc_0_5 : hh_fd hc_Y 0 5 2 7 := ⟨by decide, by decide, by decide, rfl⟩
theorem fc_0_6 : hh_fd hc_Y 0 6 2 8 := ⟨by decide, by decide, by decide, rfl⟩
theorem fc_0_7 : hh_fd hc_Y 0 7 2 9 := ⟨by decide, by decide, by decide, rfl⟩
theorem fc_0_8 : hh_fd hc_Y 0 8 2 10 := ⟨by decide, by decide, by decide, rfl⟩
theorem fc_0_9 : hh_fd hc_Y 0 9 0 0 := ⟨by decide, by decide, by decide, rfl⟩
theorem fc_0_10 : hh_fd hc_Y 0 10 0 0 := ⟨by decide, by decide, by decide, rfl⟩
theorem fc_0_11 : hh_fd hc_Y 0 11 0 0 := ⟨by decide, by decide, by decide, rfl⟩
theorem fc_0_12 : hh_fd hc_Y 0 12 0 0 := ⟨by decide, by decide, by decide, rfl⟩
theorem kc_0 : hh_cl[hc_Y.2.1 0]? = some (RX8, TX8, 13) := rfl
theorem fc_1_0 : hh_fd hc_Y 1 0 0 0 := ⟨by decide, by decide, by decide, rfl⟩
theorem fc_1_1 : hh_fd hc_Y 1 1 2 3 := ⟨by decide, by decide, by decide, rfl⟩
theorem fc_1_2 : hh_fd hc_Y 1 2 2 19 := ⟨by decide, by decide, by decide, rfl⟩
theorem fc_1_3 : hh_fd hc_Y 1 3 0 0 := ⟨by decide, by decide, by decide, rfl⟩
theorem fc_1_4 : hh_fd hc_Y 1 4 0 0 := ⟨by decide, by decide, by decide, rfl⟩
theorem fc_1_5 : hh_fd hc_Y 1 5 0 0 := ⟨by decide, by decide, by decide, rfl⟩
theorem fc_1_6 : hh_fd hc_Y 1 6 0 0 := ⟨by decide, by decide, by decide, rfl⟩
theorem kc_1 : hh_cl[hc_Y.2.1 1]? = some (RX7, TX7, 7) := rfl
theorem fc_2_0 : hh_fd hc_Y 2 0 0 0 := ⟨by decide, by decide, by decide, rfl⟩
theorem fc_2_1 : hh_fd hc_Y 2 1 2 11 := ⟨by decide, by decide, by decide, rfl⟩
theorem fc_2_2 : hh_fd hc_Y 2 2 2 12 := ⟨by decide, by decide, by decide, rfl⟩
theorem fc_2_3 : hh_fd hc_Y 2 3 2 13 := ⟨by decide, by decide, by decide, rfl⟩
theorem fc_2_4 : hh_fd hc_Y 2 4 2 14 := ⟨by decide, by decide, by decide, rfl⟩
theorem kc_2 : hh_cl[hc_Y.2.1 2]? = some (RX6, TX6, 5) := rfl
theorem fc_3_0 : hh_fd hc_Y 3 0 0 0 := ⟨by decide, by decide, by decide, rfl⟩
theorem fc_3_1 : hh_fd hc_Y 3 1 2 15 := ⟨by decide, by decide, by decide, rfl⟩
theorem fc_3_2 : hh_fd hc_Y 3 2 2 16 := ⟨by decide, by decide, by decide, rfl⟩
theorem fc_3_3 : hh_fd hc_Y 3 3 2 17 := ⟨by decide, by decide, by decide, rfl⟩
theorem fc_3_4 : hh_fd hc_Y 3 4 2 18 := ⟨by decide, by decide, by decide, rfl⟩
theorem kc_3 : hh_cl[hc_Y.2.1 3]? = some (RX6, TX6, 5) := rfl
theorem fc_4_0 : hh_fd hc_Y 4 0 0 0 := ⟨by decide, by decide, by decide, rfl⟩
theorem fc_4_1 : hh_fd hc_Y 4 1 2 20 := ⟨by decide, by decide, by decide, rfl⟩
theorem fc_4_2 : hh_fd hc_Y 4 2 2 21 := ⟨by decide, by decide, by decide, rfl⟩
theorem fc_4_3 : hh_fd hc_Y 4 3 2 22 := ⟨by decide, by decide, by decide, rfl⟩
theorem fc_4_4 : hh_fd hc_Y 4 4 2 23 := ⟨by decide, by decide, by decide, rfl⟩
theorem fc_4_5 : hh_fd hc_Y 4 5 2 24 := ⟨by decide, by decide, by decide, rfl⟩
theorem fc_4_6 : hh_fd hc_Y 4 6 2 25 := ⟨by decide, by decide, by decide, rfl⟩
theorem kc_4 : hh_cl[hc_Y.2.1 4]? = some (RX1, TX1, 7) := rfl
theorem fc_5_0 : hh_fd hc_Y 5 0 0 0 := ⟨by decide, by decide, by decide, rfl⟩
theorem fc_5_1 : hh_fd hc_Y 5 1 2 26 := ⟨by decide, by decide, by decide, rfl⟩
theorem fc_5_2 : hh_fd hc_Y 5 2 2 27 := ⟨by decide, by decide, by decide, rfl⟩
theorem fc_5_3 : hh_fd hc_Y 5 3 2 28 := ⟨by decide, by decide, by decide, rfl⟩
theorem kc_5 : hh_cl[hc_Y.2.1 5]? = some (RX0, TX0, 4) := rfl
theorem fc_6_0 : hh_fd hc_Y 6 0 2 29 := ⟨by decide, by decide, by decide, rfl⟩
theorem kc_6 : hh_cl[hc_Y.2.1 6]? = some (RX5, TX5, 1) := rfl
theorem fc_7_0 : hh_fd hc_Y 7 0 2 30 := ⟨by decide, by decide, by decide, rfl⟩
theorem fc_7_1 : hh_fd hc_Y 7 1 2 31 := ⟨by decide, by decide, by decide, rfl⟩
theorem fc_7_2 : hh_fd hc_Y 7 2 2 4 := ⟨by decide, by decide, by decide, rfl⟩
theorem fc_7_3 : hh_fd hc_Y 7 3 2 5 := ⟨by decide, by decide, by decide, rfl⟩
theorem fc_7_4 : hh_fd hc_Y 7 4 2 6 := ⟨by decide, by decide, by decide, rfl⟩
theorem fc_7_5 : hh_fd hc_Y 7 5 2 32 := ⟨by decide, by decide, by decide, rfl⟩
theorem fc_7_6 : hh_fd hc_Y 7 6 2 33 := ⟨by decide, by decide, by decide, rfl⟩
theorem fc_7_7 : hh_fd hc_Y 7 7 2 34 := ⟨by decide, by decide, by decide, rfl⟩
theorem fc_7_8 : hh_fd hc_Y 7 8 2 35 := ⟨by decide, by decide, by decide, rfl⟩
theorem kc_7 : hh_cl[hc_Y.2.1 7]? = some (RX2, TX2, 9) := rfl
theorem fc_8_0 : hh_fd hc_Y 8 0 2 36 := ⟨by decide, by decide, by decide, rfl⟩
theorem fc_8_1 : hh_fd hc_Y 8 1 2 37 := ⟨by decide, by decide, by decide, rfl⟩
theorem fc_8_2 : hh_fd hc_Y 8 2 2 4 := ⟨by decide, by decide, by decide, rfl⟩
theorem fc_8_3 : hh_fd hc_Y 8 3 2 5 := ⟨by decide, by decide, by decide, rfl⟩
theorem fc_8_4 : hh_fd hc_Y 8 4 2 6 := ⟨by decide, by decide, by decide, rfl⟩
theorem fc_8_5 : hh_fd hc_Y 8 5 2 38 := ⟨by decide, by decide, by decide, rfl⟩
theorem fc_8_6 : hh_fd hc_Y 8 6 2 39 := ⟨by decide, by decide, by decide, rfl⟩
theorem fc_8_7 : hh_fd hc_Y 8 7 2 40 := ⟨by decide, by decide, by decide, rfl⟩
theorem fc_8_8 : hh_fd hc_Y 8 8 2 41 := ⟨by decide, by decide, by decide, rfl⟩
theorem kc_8 : hh_cl[hc_Y.2.1 8]? = some (RX2, TX2, 9) := rfl
theorem fc_9_0 : hh_fd hc_Y 9 0 0 0 := ⟨by decide, by decide, by decide, rfl⟩
theorem fc_9_1 : hh_fd hc_Y 9 1 1 0 := ⟨by decide, by decide, by decide, rfl⟩
theorem fc_9_2 : hh_fd hc_Y 9 2 1 0 := ⟨by decide, by decide, by decide, rfl⟩
theorem fc_9_3 : hh_fd hc_Y 9 3 2 42 := ⟨by decide, by decide, by decide, rfl⟩
theorem kc_9 : hh_cl[hc_Y.2.1 9]? = some (RX3, TX3, 4) := rfl
theorem fc_10_0 : hh_fd hc_Y 10 0 2 43 := ⟨by decide, by decide, by decide, rfl⟩
theorem fc_10_1 : hh_fd hc_Y 10 1 2 44 := ⟨by decide, by decide, by decide, rfl⟩
theorem kc_10 : hh_cl[hc_Y.2.1 10]? = some (RX4, TX4, 2) := rfl
theorem ac_11 : hh_ar hc_Y 11 0 8 0 := ⟨by decide, by decide, rfl⟩
theorem ac_12 : hh_ar hc_Y 12 0 8 0 := ⟨by decide, by decide, rfl⟩
theorem ac_13 : hh_ar hc_Y 13 0 8 0 := ⟨by decide, by decide, rfl⟩
theorem ac_14 : hh_ar hc_Y 14 0 8 0 := ⟨by decide, by decide, rfl⟩
theorem ac_15 : hh_ar hc_Y 15 0 8 0 := ⟨by decide, by decide, rfl⟩
theorem ac_16 : hh_ar hc_Y 16 0 8 0 := ⟨by decide, by decide, rfl⟩
theorem ac_17 : hh_ar hc_Y 17 0 8 0 := ⟨by decide, by decide, rfl⟩
theorem ac_18 : hh_ar hc_Y 18 0 8 0 := ⟨by decide, by decide, rfl⟩
theorem ac_19 : hh_ar hc_Y 19 0 60 0 := ⟨by decide, by decide, rfl⟩
theorem ac_20 : hh_ar hc_Y 20 0 24 0 := ⟨by decide, by decide, rfl⟩
theorem ac_21 : hh_ar hc_Y 21 0 24 0 := ⟨by decide, by decide, rfl⟩
theorem ac_22 : hh_ar hc_Y 22 0 24 0 := ⟨by decide, by decide, rfl⟩
theorem ac_23 : hh_ar hc_Y 23 0 24 0 := ⟨by decide, by decide, rfl⟩
theorem ac_24 : hh_ar hc_Y 24 0 24 0 := ⟨by decide, by decide, rfl⟩
theorem ac_25 : hh_ar hc_Y 25 0 24 0 := ⟨by decide, by decide, rfl⟩
theorem ac_26 : hh_ar hc_Y 26 1 10 0 := ⟨by decide, by decide, rfl⟩
theorem ac_27 : hh_ar hc_Y 27 0 10 0 := ⟨by decide, by decide, rfl⟩
theorem ac_28 : hh_ar hc_Y 28 3 10 45 := ⟨by decide, by decide, rfl⟩
theorem ac_29 : hh_ar hc_Y 29 0 6 0 := ⟨by decide, by decide, rfl⟩
theorem ac_30 : hh_ar hc_Y 30 3 24 55 := ⟨by decide, by decide, rfl⟩
theorem ac_31 : hh_ar hc_Y 31 3 10 79 := ⟨by decide, by decide, rfl⟩
theorem ac_32 : hh_ar hc_Y 32 2 48 0 := ⟨by decide, by decide, rfl⟩
theorem ac_33 : hh_ar hc_Y 33 2 4 0 := ⟨by decide, by decide, rfl⟩
theorem ac_34 : hh_ar hc_Y 34 2 4 0 := ⟨by decide, by decide, rfl⟩
theorem ac_35 : hh_ar hc_Y 35 0 24 0 := ⟨by decide, by decide, rfl⟩
theorem ac_36 : hh_ar hc_Y 36 3 24 89 := ⟨by decide, by decide, rfl⟩
theorem ac_37 : hh_ar hc_Y 37 3 10 113 := ⟨by decide, by decide, rfl⟩
theorem ac_38 : hh_ar hc_Y 38 2 48 0 := ⟨by decide, by decide, rfl⟩
theorem ac_39 : hh_ar hc_Y 39 2 4 0 := ⟨by decide, by decide, rfl⟩
theorem ac_40 : hh_ar hc_Y 40 2 4 0 := ⟨by decide, by decide, rfl⟩
theorem ac_41 : hh_ar hc_Y 41 0 24 0 := ⟨by decide, by decide, rfl⟩
theorem ac_42 : hh_ar hc_Y 42 2 25 0 := ⟨by decide, by decide, rfl⟩
theorem ac_43 : hh_ar hc_Y 43 0 21 0 := ⟨by decide, by decide, rfl⟩
theorem ac_44 : hh_ar hc_Y 44 0 21 0 := ⟨by decide, by decide, rfl⟩
theorem fj_0 {b : Nat} (hb : b = 0 ∨ b = 1) : hh_fd hc_Y (7 + b) 0 2 (30 + 6 * b) := by rcases hb with rfl | rfl <;> exact ⟨by decide, by decide, by decide, rfl⟩
theorem fj_1 {b : Nat} (hb : b = 0 ∨ b = 1) : hh_fd hc_Y (7 + b) 1 2 (31 + 6 * b) := by rcases hb with rfl | rfl <;> exact ⟨by decide, by decide, by decide, rfl⟩
theorem fj_2 {b : Nat} (hb : b = 0 ∨ b = 1) : hh_fd hc_Y (7 + b) 2 2 4 := by rcases hb with rfl | rfl <;> exact ⟨by decide, by decide, by decide, rfl⟩
theorem fj_3 {b : Nat} (hb : b = 0 ∨ b = 1) : hh_fd hc_Y (7 + b) 3 2 5 := by rcases hb with rfl | rfl <;> exact ⟨by decide, by decide, by decide, rfl⟩
theorem fj_4 {b : Nat} (hb : b = 0 ∨ b = 1) : hh_fd hc_Y (7 + b) 4 2 6 := by rcases hb with rfl | rfl <;> exact ⟨by decide, by decide, by decide, rfl⟩
theorem fj_5 {b : Nat} (hb : b = 0 ∨ b = 1) : hh_fd hc_Y (7 + b) 5 2 (32 + 6 * b) := by rcases hb with rfl | rfl <;> exact ⟨by decide, by decide, by decide, rfl⟩
theorem fj_6 {b : Nat} (hb : b = 0 ∨ b = 1) : hh_fd hc_Y (7 + b) 6 2 (33 + 6 * b) := by rcases hb with rfl | rfl <;> exact ⟨by decide, by decide, by decide, rfl⟩
theorem fj_7 {b : Nat} (hb : b = 0 ∨ b = 1) : hh_fd hc_Y (7 + b) 7 2 (34 + 6 * b) := by rcases hb with rfl | rfl <;> exact ⟨by decide, by decide, by decide, rfl⟩
theorem fj_8 {b : Nat} (hb : b = 0 ∨ b = 1) : hh_fd hc_Y (7 + b) 8 2 (35 + 6 * b) := by rcases hb with rfl | rfl <;> exact ⟨by decide, by decide, by decide, rfl⟩
theorem kj {b : Nat} (hb : b = 0 ∨ b = 1) : hh_cl[hc_Y.2.1 (7 + b)]? = some (RX2, TX2, 9) := by rcases hb with rfl | rfl <;> rfl
theorem aj_30 {b : Nat} (hb : b = 0 ∨ b = 1) : hh_ar hc_Y (30 + 6 * b) 3 24 (55 + 34 * b) := by rcases hb with rfl | rfl <;> exact ⟨by decide, by decide, rfl⟩
theorem aj_31 {b : Nat} (hb : b = 0 ∨ b = 1) : hh_ar hc_Y (31 + 6 * b) 3 10 (79 + 34 * b) := by rcases hb with rfl | rfl <;> exact ⟨by decide, by decide, rfl⟩
theorem aj_32 {b : Nat} (hb : b = 0 ∨ b = 1) : hh_ar hc_Y (32 + 6 * b) 2 48 0 := by rcases hb with rfl | rfl <;> exact ⟨by decide, by decide, rfl⟩
theorem aj_33 {b : Nat} (hb : b = 0 ∨ b = 1) : hh_ar hc_Y (33 + 6 * b) 2 4 0 := by rcases hb with rfl | rfl <;> exact ⟨by decide, by decide, rfl⟩
theorem aj_34 {b : Nat} (hb : b = 0 ∨ b = 1) : hh_ar hc_Y (34 + 6 * b) 2 4 0 := by rcases hb with rfl | rfl <;> exact ⟨by decide, by decide, rfl⟩
theorem aj_35 {b : Nat} (hb : b = 0 ∨ b = 1) : hh_ar hc_Y (35 + 6 * b) 0 24 0 := by rcases hb with rfl | rfl <;> exact ⟨by decide, by decide, rfl⟩
theorem hh_in_lt {i : Int32} {n : Nat} (h : vp_in i n) : i.toNatClampNeg < n := Nat.not_le.mp fun q => h (Or.inr q)
theorem hh_yc1 : hc_Y.1.1 = 11 := rfl
theorem hh_yc2 : hc_Y.1.2 = 123 := rfl
theorem hh_yca (k : Nat) : hc_Y.2.2.2.2 k = if k < 45 then hc_a.getD (k - 11) (0, 0, 0) else if k < 55 then (0, 24, 0) else if (k - 55) % 34 < 24 then (0, 4, 0) else (0, 48, 0) := rfl
theorem ar_said {i : Int32} (h : vp_in i 10) : hh_ar hc_Y (45 + i.toNatClampNeg) 0 24 0 := by
  have := hh_in_lt h
  refine ⟨by rw [hh_yc2]; omega, by rw [hh_yc1]; omega, ?_⟩
  rw [hh_yca, if_neg (by omega), if_pos (by omega)]
theorem ar_sh {i : Int32} {b : Nat} (hb : b = 0 ∨ b = 1) (h : vp_in i 24) : hh_ar hc_Y ((55 + 34 * b) + i.toNatClampNeg) 0 4 0 := by
  have := hh_in_lt h
  refine ⟨by rw [hh_yc2]; omega, by rw [hh_yc1]; omega, ?_⟩
  rw [hh_yca, if_neg (by omega), if_neg (by omega), if_pos (by omega)]
theorem ar_nu {i : Int32} {b : Nat} (hb : b = 0 ∨ b = 1) (h : vp_in i 10) : hh_ar hc_Y ((79 + 34 * b) + i.toNatClampNeg) 0 48 0 := by
  have := hh_in_lt h
  refine ⟨by rw [hh_yc2]; omega, by rw [hh_yc1]; omega, ?_⟩
  rw [hh_yca, if_neg (by omega), if_neg (by omega), if_neg (by omega)]
end
section
theorem nd_X0_has : yX0_has.cls = RX0 ∧ yX0_has.cls ≠ "java/lang/invoke/MethodHandle" ∧ yX0_has.cls ≠ "java/lang/invoke/VarHandle" ∧ (parseMethodDescriptor yX0_has.desc).map (fun d => d.parameters.length) = some 1 := by decide +kernel
theorem nd_X0_add : yX0_add.cls = RX0 ∧ yX0_add.cls ≠ "java/lang/invoke/MethodHandle" ∧ yX0_add.cls ≠ "java/lang/invoke/VarHandle" ∧ (parseMethodDescriptor yX0_add.desc).map (fun d => d.parameters.length) = some 0 := by decide +kernel
theorem nd_X0_counts : yX0_counts.cls = RX0 ∧ yX0_counts.cls ≠ "java/lang/invoke/MethodHandle" ∧ yX0_counts.cls ≠ "java/lang/invoke/VarHandle" ∧ (parseMethodDescriptor yX0_counts.desc).map (fun d => d.parameters.length) = some 2 := by decide +kernel
theorem nd_X0_anySaid : yX0_anySaid.cls = RX0 ∧ yX0_anySaid.cls ≠ "java/lang/invoke/MethodHandle" ∧ yX0_anySaid.cls ≠ "java/lang/invoke/VarHandle" ∧ (parseMethodDescriptor yX0_anySaid.desc).map (fun d => d.parameters.length) = some 1 := by decide +kernel
theorem nd_X0_countTo : yX0_countTo.cls = RX0 ∧ yX0_countTo.cls ≠ "java/lang/invoke/MethodHandle" ∧ yX0_countTo.cls ≠ "java/lang/invoke/VarHandle" ∧ (parseMethodDescriptor yX0_countTo.desc).map (fun d => d.parameters.length) = some 1 := by decide +kernel
theorem nd_X0_countWith : yX0_countWith.cls = RX0 ∧ yX0_countWith.cls ≠ "java/lang/invoke/MethodHandle" ∧ yX0_countWith.cls ≠ "java/lang/invoke/VarHandle" ∧ (parseMethodDescriptor yX0_countWith.desc).map (fun d => d.parameters.length) = some 2 := by decide +kernel
abbrev rm_X0_has : Room := { frames := 0, cells := 0, slots := 0, locals := 0 }
def wp_X0_has (x1 : Int32) (σ : hh_S) (Q : Int32 → hh_S → Prop) : Prop := ((x1 < 0 → (Q (0 : Int32) σ)) ∧ (¬ x1 < 0 → (((hh_I σ 320) ≤ x1 → (Q (0 : Int32) σ)) ∧ (¬ (hh_I σ 320) ≤ x1 → (Q (1 : Int32) σ)))))
theorem in_X0_has_X0 : ∀ w ∈ u_ws RX0 TX0 4, w ∈ wsX0_has := fun w h => List.mem_cons_of_mem _ (List.mem_append_right _ h)
set_option maxHeartbeats 4000000 in
set_option maxRecDepth 100000 in
theorem ad_X0_has {D : va_G} (l : Launch) {cy : Nat → ClassId} {ad : Nat → Nat} (J : hh_J hc_Y ad) (x1 : Int32) (σ : hh_S) (Q : Int32 → hh_S → Prop) (hq : wp_X0_has x1 σ Q) : Met l yX0_has wsX0_has rm_X0_has (va_Pc [.ref (ad 5), .int x1] (hh_B D hh_cl hc_Y cy ad σ)) (va_Qi Q (hh_B D hh_cl hc_Y cy ad) (hh_A hc_Y ad)) 0 0 (hh_A hc_Y ad) := by
  refine Met.ofW (cc := cX0_has) (maxL := 2) (ret := (some .boolean)) (by decide) rfl ?_
  intro p e s m args below meth c s₁ B hml hv
  obtain ⟨hargs, hP0, hK0⟩ := hv
  have hr := B.returns
  have hlocks := B.notSynchronized
  have X : hh_X p m c cX0_has 2 s args wsX0_has RX0 D hh_cl hc_Y cy ad := ⟨⟨B.exec, B.bytes, hml, findClass_of_methodNamed B.named, atoms_spec (ws := wsX0_has) B.pre⟩, hK0, J⟩
  have hx := X.1.1
  have hb1 := X.1.2.1
  have h : hh_H D hh_cl hc_Y cy ad s.heap σ s.heap [] := ⟨hP0, va_S.rf⟩
  subst hargs
  refine hh_entry (vs := [.ref (ad 5), .int x1]) (Nat.le_of_ble_eq_true rfl) (fun ls hl => ?_)
  have hl : lv_has ls 2 [(0, .ref (ad 5)), (1, .int x1)] := hl
  have hq : wp_X0_has x1 σ Q := hq
  unfold wp_X0_has at hq
  refine lv_iload_n hx hb1 dX0_has_0 rfl (lv_at hl 1 rfl) ?_
  refine lv_if_lt (tgt := 16) hx hb1 dX0_has_1 (by decide) (fun c1 => ?_) (fun c1 => ?_)
  · have hq := hq.1 c1
    refine lv_iconst (v := (0 : Int32)) hx hb1 dX0_has_16 (by decide) ?_
    exact hh_zret X h hr hlocks rfl hq dX0_has_17
  · have hq := hq.2 c1
    refine lv_iload_n hx hb1 dX0_has_4 rfl (lv_at hl 1 rfl) ?_
    refine lv_aload_n hx hb1 dX0_has_5 rfl (lv_at hl 0 rfl) ?_
    refine hh_geti X h (q := 320) fc_5_0 rfl in_X0_has_X0 kc_5 (by decide) (List.mem_of_getElem? (i := 1) rfl) rfl dX0_has_6 ?_
    refine lv_icmp_ge (tgt := 16) hx hb1 dX0_has_9 (by decide) (fun c2 => ?_) (fun c2 => ?_)
    · have hq := hq.1 c2
      refine lv_iconst (v := (0 : Int32)) hx hb1 dX0_has_16 (by decide) ?_
      exact hh_zret X h hr hlocks rfl hq dX0_has_17
    · have hq := hq.2 c2
      refine lv_iconst (v := (1 : Int32)) hx hb1 dX0_has_12 (by decide) ?_
      refine lv_goto (tgt := 17) hx hb1 dX0_has_13 (by decide) ?_
      exact hh_zret X h hr hlocks rfl hq dX0_has_17
abbrev rm_X0_add : Room := { frames := 0, cells := 0, slots := 0, locals := 0 }
def wq_X0_add_21 (x1 : Int32) (Q : Int32 → hh_S → Prop) (K21 : Int32 → hh_S → Prop) (x2 : Int32) (σ : hh_S) : Prop := (((24 : Int32) ≤ x2 → (∀ σ2 : hh_S, σ2 = hh_uI σ 320 ((hh_I σ 320) + (1 : Int32)) → (Q x1 σ2))) ∧ (¬ (24 : Int32) ≤ x2 → (vp_in x1 10 ∧ (vp_in x2 24 ∧ ∀ σ5 : hh_S, σ5 = hh_sA σ (45 + (x1).toNatClampNeg) x2 (-6 : Int32) → (K21 (x2 + (1 : Int32)) σ5)))))
def wp_X0_add (σ : hh_S) (Q : Int32 → hh_S → Prop) : Prop := (∀ v6 : Int32, v6 = (hh_I σ 320) → (vp_in v6 10 ∧ ∀ σ8 : hh_S, σ8 = hh_sA σ 26 v6 (vp_nar .boolean (0 : Int32)) → (vp_in v6 10 ∧ ∀ σ10 : hh_S, σ10 = hh_sA σ8 27 v6 (0 : Int32) → (∃ n : Nat, hh_lp1 (wq_X0_add_21 v6 Q) n (0 : Int32) σ10))))
theorem in_X0_add_X0 : ∀ w ∈ u_ws RX0 TX0 4, w ∈ wsX0_add := fun w h => List.mem_cons_of_mem _ (List.mem_append_right _ h)
set_option maxHeartbeats 4000000 in
set_option maxRecDepth 100000 in
theorem ad_X0_add {D : va_G} (l : Launch) {cy : Nat → ClassId} {ad : Nat → Nat} (J : hh_J hc_Y ad) (σ : hh_S) (Q : Int32 → hh_S → Prop) (hq : wp_X0_add σ Q) : Met l yX0_add wsX0_add rm_X0_add (va_Pc [.ref (ad 5)] (hh_B D hh_cl hc_Y cy ad σ)) (va_Qi Q (hh_B D hh_cl hc_Y cy ad) (hh_A hc_Y ad)) 0 0 (hh_A hc_Y ad) := by
  refine Met.ofW (cc := cX0_add) (maxL := 3) (ret := (some .int)) (by decide) rfl ?_
  intro p e s m args below meth c s₁ B hml hv
  obtain ⟨hargs, hP0, hK0⟩ := hv
  have hr := B.returns
  have hlocks := B.notSynchronized
  have X : hh_X p m c cX0_add 3 s args wsX0_add RX0 D hh_cl hc_Y cy ad := ⟨⟨B.exec, B.bytes, hml, findClass_of_methodNamed B.named, atoms_spec (ws := wsX0_add) B.pre⟩, hK0, J⟩
  have hx := X.1.1
  have hb1 := X.1.2.1
  have h : hh_H D hh_cl hc_Y cy ad s.heap σ s.heap [] := ⟨hP0, va_S.rf⟩
  have lt_21 : ∀ (x1 : Int32) (n : Nat) (x2 : Int32) (σ : hh_S) (H : Heap) (locs : List Loc) (ls : Array Slot), hh_lp1 (wq_X0_add_21 x1 Q) n x2 σ → hh_H D hh_cl hc_Y cy ad s.heap σ H locs → lv_has ls 3 [(0, .ref (ad 5)), (1, .int x1), (2, .int x2)] → W p l e (headSpec wsX0_add rm_X0_add).room s m args below meth c H locs 0 0 (MQ below (va_Qi Q (hh_B D hh_cl hc_Y cy ad) (hh_A hc_Y ad)) args s 0 0 (hh_A hc_Y ad)) (F0 m 21 ls []) := by
    intro x1 n
    induction n with
    | zero => intro x2 σ H locs ls hq h hl; exact hq.elim
    | succ n ih =>
      intro x2 σ H locs ls hq h hl
      have hq : wq_X0_add_21 x1 Q (hh_lp1 (wq_X0_add_21 x1 Q) n) x2 σ := hq
      unfold wq_X0_add_21 at hq
      refine lv_iload_n hx hb1 dX0_add_21 rfl (lv_at hl 2 rfl) ?_
      refine lv_bipush (v := (24 : Int32)) hx hb1 dX0_add_22 (by decide) ?_
      refine lv_icmp_ge (tgt := 43) hx hb1 dX0_add_24 (by decide) (fun c1 => ?_) (fun c1 => ?_)
      · have hq := hq.1 c1
        refine lv_aload_n hx hb1 dX0_add_43 rfl (lv_at hl 0 rfl) ?_
        refine lv_dup hx hb1 dX0_add_44 rfl ?_
        refine hh_geti X h (q := 320) fc_5_0 rfl in_X0_add_X0 kc_5 (by decide) (List.mem_of_getElem? (i := 1) rfl) rfl dX0_add_45 ?_
        refine lv_iconst (v := (1 : Int32)) hx hb1 dX0_add_48 (by decide) ?_
        refine lv_iadd hx hb1 dX0_add_49 ?_
        refine hh_puti X h (q := 320) hc_n fc_5_0 rfl in_X0_add_X0 kc_5 tyX0 tyX0_ok nmX0 (by decide) (List.mem_of_getElem? (i := 1) rfl) rfl rfl rfl rfl dX0_add_50 (fun σ2 H locs eσ2 h => ?_)
        have hq := hq σ2 eσ2
        refine lv_iload_n hx hb1 dX0_add_53 rfl (lv_at hl 1 rfl) ?_
        exact hh_iret X h hr hlocks hq dX0_add_54
      · have hq := hq.2 c1
        refine lv_aload_n hx hb1 dX0_add_27 rfl (lv_at hl 0 rfl) ?_
        refine hh_getr X h fc_5_3 in_X0_add_X0 kc_5 (by decide) (List.mem_of_getElem? (i := 4) rfl) rfl dX0_add_28 ?_
        refine lv_iload_n hx hb1 dX0_add_31 rfl (lv_at hl 1 rfl) ?_
        obtain ⟨h3, hq⟩ := hq
        refine hh_ald X h ac_28 h3 dX0_add_32 ?_
        refine lv_iload_n hx hb1 dX0_add_33 rfl (lv_at hl 2 rfl) ?_
        refine lv_bipush (v := (-6 : Int32)) hx hb1 dX0_add_34 (by decide) ?_
        obtain ⟨h4, hq⟩ := hq
        refine hh_ist X h (ar_said h3) h4 dX0_add_36 (fun σ5 H locs eσ5 h => ?_)
        have hq := hq σ5 eσ5
        refine lv_iinc (v := (x2 + (1 : Int32))) (lv' := [(2, .int (x2 + (1 : Int32))), (0, .ref (ad 5)), (1, .int x1)]) hx hb1 dX0_add_37 hl (k := 2) rfl rfl (by decide) rfl (fun ls hl => ?_)
        refine lv_goto (tgt := 21) hx hb1 dX0_add_40 (by decide) ?_
        exact ih (x2 + (1 : Int32)) σ5 _ _ ls hq h (lv_sub hl [1, 2, 0] rfl)
  subst hargs
  refine hh_entry (vs := [.ref (ad 5)]) (Nat.le_of_ble_eq_true rfl) (fun ls hl => ?_)
  have hl : lv_has ls 3 [(0, .ref (ad 5))] := hl
  have hq : wp_X0_add σ Q := hq
  unfold wp_X0_add at hq
  refine lv_aload_n hx hb1 dX0_add_0 rfl (lv_at hl 0 rfl) ?_
  refine hh_geti X h (q := 320) fc_5_0 rfl in_X0_add_X0 kc_5 (by decide) (List.mem_of_getElem? (i := 1) rfl) rfl dX0_add_1 ?_
  refine lv_topi (fun v6 ev6 => ?_)
  have hq := hq v6 ev6
  refine lv_istore_n (lv' := [(1, .int v6), (0, .ref (ad 5))]) hx hb1 dX0_add_4 rfl hl (by decide) rfl (fun ls hl => ?_)
  refine lv_aload_n hx hb1 dX0_add_5 rfl (lv_at hl 1 rfl) ?_
  refine hh_getr X h fc_5_1 in_X0_add_X0 kc_5 (by decide) (List.mem_of_getElem? (i := 2) rfl) rfl dX0_add_6 ?_
  refine lv_iload_n hx hb1 dX0_add_9 rfl (lv_at hl 0 rfl) ?_
  refine lv_iconst (v := (0 : Int32)) hx hb1 dX0_add_10 (by decide) ?_
  obtain ⟨h7, hq⟩ := hq
  refine hh_zst X h ac_26 h7 dX0_add_11 (fun σ8 H locs eσ8 h => ?_)
  have hq := hq σ8 eσ8
  refine lv_aload_n hx hb1 dX0_add_12 rfl (lv_at hl 1 rfl) ?_
  refine hh_getr X h fc_5_2 in_X0_add_X0 kc_5 (by decide) (List.mem_of_getElem? (i := 3) rfl) rfl dX0_add_13 ?_
  refine lv_iload_n hx hb1 dX0_add_16 rfl (lv_at hl 0 rfl) ?_
  refine lv_iconst (v := (0 : Int32)) hx hb1 dX0_add_17 (by decide) ?_
  obtain ⟨h9, hq⟩ := hq
  refine hh_ist X h ac_27 h9 dX0_add_18 (fun σ10 H locs eσ10 h => ?_)
  have hq := hq σ10 eσ10
  refine lv_iconst (v := (0 : Int32)) hx hb1 dX0_add_19 (by decide) ?_
  refine lv_istore_n (lv' := [(2, .int (0 : Int32)), (1, .int v6), (0, .ref (ad 5))]) hx hb1 dX0_add_20 rfl hl (by decide) rfl (fun ls hl => ?_)
  obtain ⟨n11, hq⟩ := hq
  exact lt_21 v6 n11 (0 : Int32) σ10 _ _ ls hq h (lv_sub hl [2, 1, 0] rfl)
abbrev rm_X0_counts : Room := { frames := 0, cells := 0, slots := 0, locals := 0 }
def wp_X0_counts (x1 : Int32) (x2 : Int32) (σ : hh_S) (Q : Int32 → hh_S → Prop) : Prop := (vp_in x1 10 ∧ ((¬ (hh_rA σ 26 x1) = 0 → (Q (0 : Int32) σ)) ∧ ((hh_rA σ 26 x1) = 0 → (vp_in x1 10 ∧ (vp_in x2 24 ∧ (((hh_rA σ (45 + (x1).toNatClampNeg) x2) = (-6 : Int32) → (Q (0 : Int32) σ)) ∧ (¬ (hh_rA σ (45 + (x1).toNatClampNeg) x2) = (-6 : Int32) → (Q (1 : Int32) σ))))))))
theorem in_X0_counts_X0 : ∀ w ∈ u_ws RX0 TX0 4, w ∈ wsX0_counts := fun w h => List.mem_cons_of_mem _ (List.mem_append_right _ h)
set_option maxHeartbeats 4000000 in
set_option maxRecDepth 100000 in
theorem ad_X0_counts {D : va_G} (l : Launch) {cy : Nat → ClassId} {ad : Nat → Nat} (J : hh_J hc_Y ad) (x1 : Int32) (x2 : Int32) (σ : hh_S) (Q : Int32 → hh_S → Prop) (hq : wp_X0_counts x1 x2 σ Q) : Met l yX0_counts wsX0_counts rm_X0_counts (va_Pc [.ref (ad 5), .int x1, .int x2] (hh_B D hh_cl hc_Y cy ad σ)) (va_Qi Q (hh_B D hh_cl hc_Y cy ad) (hh_A hc_Y ad)) 0 0 (hh_A hc_Y ad) := by
  refine Met.ofW (cc := cX0_counts) (maxL := 3) (ret := (some .boolean)) (by decide) rfl ?_
  intro p e s m args below meth c s₁ B hml hv
  obtain ⟨hargs, hP0, hK0⟩ := hv
  have hr := B.returns
  have hlocks := B.notSynchronized
  have X : hh_X p m c cX0_counts 3 s args wsX0_counts RX0 D hh_cl hc_Y cy ad := ⟨⟨B.exec, B.bytes, hml, findClass_of_methodNamed B.named, atoms_spec (ws := wsX0_counts) B.pre⟩, hK0, J⟩
  have hx := X.1.1
  have hb1 := X.1.2.1
  have h : hh_H D hh_cl hc_Y cy ad s.heap σ s.heap [] := ⟨hP0, va_S.rf⟩
  subst hargs
  refine hh_entry (vs := [.ref (ad 5), .int x1, .int x2]) (Nat.le_of_ble_eq_true rfl) (fun ls hl => ?_)
  have hl : lv_has ls 3 [(0, .ref (ad 5)), (1, .int x1), (2, .int x2)] := hl
  have hq : wp_X0_counts x1 x2 σ Q := hq
  unfold wp_X0_counts at hq
  refine lv_aload_n hx hb1 dX0_counts_0 rfl (lv_at hl 0 rfl) ?_
  refine hh_getr X h fc_5_1 in_X0_counts_X0 kc_5 (by decide) (List.mem_of_getElem? (i := 1) rfl) rfl dX0_counts_1 ?_
  refine lv_iload_n hx hb1 dX0_counts_4 rfl (lv_at hl 1 rfl) ?_
  obtain ⟨h1, hq⟩ := hq
  refine hh_zld X h ac_26 h1 dX0_counts_5 ?_
  refine lv_if_ne (tgt := 26) hx hb1 dX0_counts_6 (by decide) (fun c2 => ?_) (fun c2 => ?_)
  · have hq := hq.1 c2
    refine lv_iconst (v := (0 : Int32)) hx hb1 dX0_counts_26 (by decide) ?_
    exact hh_zret X h hr hlocks rfl hq dX0_counts_27
  · have hq := hq.2 c2
    refine lv_aload_n hx hb1 dX0_counts_9 rfl (lv_at hl 0 rfl) ?_
    refine hh_getr X h fc_5_3 in_X0_counts_X0 kc_5 (by decide) (List.mem_of_getElem? (i := 2) rfl) rfl dX0_counts_10 ?_
    refine lv_iload_n hx hb1 dX0_counts_13 rfl (lv_at hl 1 rfl) ?_
    obtain ⟨h3, hq⟩ := hq
    refine hh_ald X h ac_28 h3 dX0_counts_14 ?_
    refine lv_iload_n hx hb1 dX0_counts_15 rfl (lv_at hl 2 rfl) ?_
    obtain ⟨h4, hq⟩ := hq
    refine hh_ild X h (ar_said h3) h4 dX0_counts_16 ?_
    refine lv_bipush (v := (-6 : Int32)) hx hb1 dX0_counts_17 (by decide) ?_
    refine lv_icmp_eq (tgt := 26) hx hb1 dX0_counts_19 (by decide) (fun c5 => ?_) (fun c5 => ?_)
    · have hq := hq.1 c5
      refine lv_iconst (v := (0 : Int32)) hx hb1 dX0_counts_26 (by decide) ?_
      exact hh_zret X h hr hlocks rfl hq dX0_counts_27
    · have hq := hq.2 c5
      refine lv_iconst (v := (1 : Int32)) hx hb1 dX0_counts_22 (by decide) ?_
      refine lv_goto (tgt := 27) hx hb1 dX0_counts_23 (by decide) ?_
      exact hh_zret X h hr hlocks rfl hq dX0_counts_27
abbrev rm_X0_anySaid : Room := { frames := 0, cells := 0, slots := 0, locals := 0 }
def wq_X0_anySaid_2 (x1 : Int32) (Q : Int32 → hh_S → Prop) (K2 : Int32 → hh_S → Prop) (x2 : Int32) (σ : hh_S) : Prop := (((hh_I σ 320) ≤ x2 → (Q (0 : Int32) σ)) ∧ (¬ (hh_I σ 320) ≤ x2 → (vp_in x2 10 ∧ (vp_in x1 24 ∧ (((hh_rA σ (45 + (x2).toNatClampNeg) x1) = (-6 : Int32) → (K2 (x2 + (1 : Int32)) σ)) ∧ (¬ (hh_rA σ (45 + (x2).toNatClampNeg) x1) = (-6 : Int32) → (Q (1 : Int32) σ)))))))
def wp_X0_anySaid (x1 : Int32) (σ : hh_S) (Q : Int32 → hh_S → Prop) : Prop := (∃ n : Nat, hh_lp1 (wq_X0_anySaid_2 x1 Q) n (0 : Int32) σ)
theorem in_X0_anySaid_X0 : ∀ w ∈ u_ws RX0 TX0 4, w ∈ wsX0_anySaid := fun w h => List.mem_cons_of_mem _ (List.mem_append_right _ h)
set_option maxHeartbeats 4000000 in
set_option maxRecDepth 100000 in
theorem ad_X0_anySaid {D : va_G} (l : Launch) {cy : Nat → ClassId} {ad : Nat → Nat} (J : hh_J hc_Y ad) (x1 : Int32) (σ : hh_S) (Q : Int32 → hh_S → Prop) (hq : wp_X0_anySaid x1 σ Q) : Met l yX0_anySaid wsX0_anySaid rm_X0_anySaid (va_Pc [.ref (ad 5), .int x1] (hh_B D hh_cl hc_Y cy ad σ)) (va_Qi Q (hh_B D hh_cl hc_Y cy ad) (hh_A hc_Y ad)) 0 0 (hh_A hc_Y ad) := by
  refine Met.ofW (cc := cX0_anySaid) (maxL := 3) (ret := (some .boolean)) (by decide) rfl ?_
  intro p e s m args below meth c s₁ B hml hv
  obtain ⟨hargs, hP0, hK0⟩ := hv
  have hr := B.returns
  have hlocks := B.notSynchronized
  have X : hh_X p m c cX0_anySaid 3 s args wsX0_anySaid RX0 D hh_cl hc_Y cy ad := ⟨⟨B.exec, B.bytes, hml, findClass_of_methodNamed B.named, atoms_spec (ws := wsX0_anySaid) B.pre⟩, hK0, J⟩
  have hx := X.1.1
  have hb1 := X.1.2.1
  have h : hh_H D hh_cl hc_Y cy ad s.heap σ s.heap [] := ⟨hP0, va_S.rf⟩
  have lt_2 : ∀ (x1 : Int32) (n : Nat) (x2 : Int32) (σ : hh_S) (H : Heap) (locs : List Loc) (ls : Array Slot), hh_lp1 (wq_X0_anySaid_2 x1 Q) n x2 σ → hh_H D hh_cl hc_Y cy ad s.heap σ H locs → lv_has ls 3 [(0, .ref (ad 5)), (1, .int x1), (2, .int x2)] → W p l e (headSpec wsX0_anySaid rm_X0_anySaid).room s m args below meth c H locs 0 0 (MQ below (va_Qi Q (hh_B D hh_cl hc_Y cy ad) (hh_A hc_Y ad)) args s 0 0 (hh_A hc_Y ad)) (F0 m 2 ls []) := by
    intro x1 n
    induction n with
    | zero => intro x2 σ H locs ls hq h hl; exact hq.elim
    | succ n ih =>
      intro x2 σ H locs ls hq h hl
      have hq : wq_X0_anySaid_2 x1 Q (hh_lp1 (wq_X0_anySaid_2 x1 Q) n) x2 σ := hq
      unfold wq_X0_anySaid_2 at hq
      refine lv_iload_n hx hb1 dX0_anySaid_2 rfl (lv_at hl 2 rfl) ?_
      refine lv_aload_n hx hb1 dX0_anySaid_3 rfl (lv_at hl 0 rfl) ?_
      refine hh_geti X h (q := 320) fc_5_0 rfl in_X0_anySaid_X0 kc_5 (by decide) (List.mem_of_getElem? (i := 1) rfl) rfl dX0_anySaid_4 ?_
      refine lv_icmp_ge (tgt := 31) hx hb1 dX0_anySaid_7 (by decide) (fun c1 => ?_) (fun c1 => ?_)
      · have hq := hq.1 c1
        refine lv_iconst (v := (0 : Int32)) hx hb1 dX0_anySaid_31 (by decide) ?_
        exact hh_zret X h hr hlocks rfl hq dX0_anySaid_32
      · have hq := hq.2 c1
        refine lv_aload_n hx hb1 dX0_anySaid_10 rfl (lv_at hl 0 rfl) ?_
        refine hh_getr X h fc_5_3 in_X0_anySaid_X0 kc_5 (by decide) (List.mem_of_getElem? (i := 2) rfl) rfl dX0_anySaid_11 ?_
        refine lv_iload_n hx hb1 dX0_anySaid_14 rfl (lv_at hl 2 rfl) ?_
        obtain ⟨h2, hq⟩ := hq
        refine hh_ald X h ac_28 h2 dX0_anySaid_15 ?_
        refine lv_iload_n hx hb1 dX0_anySaid_16 rfl (lv_at hl 1 rfl) ?_
        obtain ⟨h3, hq⟩ := hq
        refine hh_ild X h (ar_said h2) h3 dX0_anySaid_17 ?_
        refine lv_bipush (v := (-6 : Int32)) hx hb1 dX0_anySaid_18 (by decide) ?_
        refine lv_icmp_eq (tgt := 25) hx hb1 dX0_anySaid_20 (by decide) (fun c4 => ?_) (fun c4 => ?_)
        · have hq := hq.1 c4
          refine lv_iinc (v := (x2 + (1 : Int32))) (lv' := [(2, .int (x2 + (1 : Int32))), (0, .ref (ad 5)), (1, .int x1)]) hx hb1 dX0_anySaid_25 hl (k := 2) rfl rfl (by decide) rfl (fun ls hl => ?_)
          refine lv_goto (tgt := 2) hx hb1 dX0_anySaid_28 (by decide) ?_
          exact ih (x2 + (1 : Int32)) σ _ _ ls hq h (lv_sub hl [1, 2, 0] rfl)
        · have hq := hq.2 c4
          refine lv_iconst (v := (1 : Int32)) hx hb1 dX0_anySaid_23 (by decide) ?_
          exact hh_zret X h hr hlocks rfl hq dX0_anySaid_24
  subst hargs
  refine hh_entry (vs := [.ref (ad 5), .int x1]) (Nat.le_of_ble_eq_true rfl) (fun ls hl => ?_)
  have hl : lv_has ls 3 [(0, .ref (ad 5)), (1, .int x1)] := hl
  have hq : wp_X0_anySaid x1 σ Q := hq
  unfold wp_X0_anySaid at hq
  refine lv_iconst (v := (0 : Int32)) hx hb1 dX0_anySaid_0 (by decide) ?_
  refine lv_istore_n (lv' := [(2, .int (0 : Int32)), (0, .ref (ad 5)), (1, .int x1)]) hx hb1 dX0_anySaid_1 rfl hl (by decide) rfl (fun ls hl => ?_)
  obtain ⟨n5, hq⟩ := hq
  exact lt_2 x1 n5 (0 : Int32) σ _ _ ls hq h (lv_sub hl [1, 2, 0] rfl)
abbrev rm_X0_countTo : Room := { frames := 1, cells := 0, slots := 0, locals := 22 }
def wq_X0_countTo_4 (x1 : Int32) (Q : Int32 → hh_S → Prop) (K4 : Int32 → Int32 → hh_S → Prop) (x2 : Int32) (x3 : Int32) (σ : hh_S) : Prop := (((hh_I σ 320) ≤ x3 → (Q x2 σ)) ∧ (¬ (hh_I σ 320) ≤ x3 → (wp_X0_counts x3 x1 σ (fun (r2 : Int32) (σ3 : hh_S) => ((r2 = 0 → (∀ v5 : Int32, v5 = (x2 + (0 : Int32)) → (K4 v5 (x3 + (1 : Int32)) σ3))) ∧ (¬ r2 = 0 → (∀ v6 : Int32, v6 = (x2 + (1 : Int32)) → (K4 v6 (x3 + (1 : Int32)) σ3))))))))
def wp_X0_countTo (x1 : Int32) (σ : hh_S) (Q : Int32 → hh_S → Prop) : Prop := (∃ n : Nat, hh_lp2 (wq_X0_countTo_4 x1 Q) n (0 : Int32) (0 : Int32) σ)
theorem in_X0_countTo_X0 : ∀ w ∈ u_ws RX0 TX0 4, w ∈ wsX0_countTo := fun w h => List.mem_cons_of_mem _ (List.mem_append_right _ h)
set_option maxHeartbeats 4000000 in
set_option maxRecDepth 100000 in
theorem ad_X0_countTo {D : va_G} (l : Launch) {cy : Nat → ClassId} {ad : Nat → Nat} (J : hh_J hc_Y ad) (x1 : Int32) (σ : hh_S) (Q : Int32 → hh_S → Prop) (hq : wp_X0_countTo x1 σ Q) : Met l yX0_countTo wsX0_countTo rm_X0_countTo (va_Pc [.ref (ad 5), .int x1] (hh_B D hh_cl hc_Y cy ad σ)) (va_Qi Q (hh_B D hh_cl hc_Y cy ad) (hh_A hc_Y ad)) 0 0 (hh_A hc_Y ad) := by
  refine Met.ofW (cc := cX0_countTo) (maxL := 4) (ret := (some .int)) (by decide) rfl ?_
  intro p e s m args below meth c s₁ B hml hv
  obtain ⟨hargs, hP0, hK0⟩ := hv
  have hr := B.returns
  have hlocks := B.notSynchronized
  have X : hh_X p m c cX0_countTo 4 s args wsX0_countTo RX0 D hh_cl hc_Y cy ad := ⟨⟨B.exec, B.bytes, hml, findClass_of_methodNamed B.named, atoms_spec (ws := wsX0_countTo) B.pre⟩, hK0, J⟩
  have hx := X.1.1
  have hb1 := X.1.2.1
  have h : hh_H D hh_cl hc_Y cy ad s.heap σ s.heap [] := ⟨hP0, va_S.rf⟩
  have lt_4 : ∀ (x1 : Int32) (n : Nat) (x2 : Int32) (x3 : Int32) (σ : hh_S) (H : Heap) (locs : List Loc) (ls : Array Slot), hh_lp2 (wq_X0_countTo_4 x1 Q) n x2 x3 σ → hh_H D hh_cl hc_Y cy ad s.heap σ H locs → lv_has ls 4 [(0, .ref (ad 5)), (1, .int x1), (2, .int x2), (3, .int x3)] → W p l e (headSpec wsX0_countTo rm_X0_countTo).room s m args below meth c H locs 0 0 (MQ below (va_Qi Q (hh_B D hh_cl hc_Y cy ad) (hh_A hc_Y ad)) args s 0 0 (hh_A hc_Y ad)) (F0 m 4 ls []) := by
    intro x1 n
    induction n with
    | zero => intro x2 x3 σ H locs ls hq h hl; exact hq.elim
    | succ n ih =>
      intro x2 x3 σ H locs ls hq h hl
      have hq : wq_X0_countTo_4 x1 Q (hh_lp2 (wq_X0_countTo_4 x1 Q) n) x2 x3 σ := hq
      unfold wq_X0_countTo_4 at hq
      refine lv_iload_n hx hb1 dX0_countTo_4 rfl (lv_at hl 3 rfl) ?_
      refine lv_aload_n hx hb1 dX0_countTo_5 rfl (lv_at hl 0 rfl) ?_
      refine hh_geti X h (q := 320) fc_5_0 rfl in_X0_countTo_X0 kc_5 (by decide) (List.mem_of_getElem? (i := 1) rfl) rfl dX0_countTo_6 ?_
      refine lv_icmp_ge (tgt := 35) hx hb1 dX0_countTo_9 (by decide) (fun c1 => ?_) (fun c1 => ?_)
      · have hq := hq.1 c1
        refine lv_iload_n hx hb1 dX0_countTo_35 rfl (lv_at hl 2 rfl) ?_
        exact hh_iret X h hr hlocks hq dX0_countTo_36
      · have hq := hq.2 c1
        refine lv_iload_n hx hb1 dX0_countTo_12 rfl (lv_at hl 2 rfl) ?_
        refine lv_aload_n hx hb1 dX0_countTo_13 rfl (lv_at hl 0 rfl) ?_
        refine lv_iload_n hx hb1 dX0_countTo_14 rfl (lv_at hl 3 rfl) ?_
        refine lv_iload_n hx hb1 dX0_countTo_15 rfl (lv_at hl 1 rfl) ?_
        refine hh_kI h (va_runV (As := [.int x3, .int x1]) (rest := [.int x2]) X.1 (ad_X0_counts (D := D) l J x3 x1 σ _ hq) (cwV 2 X.1.2.2.2.2 gX0_countTo_X0_counts rfl rfl rfl nd_X0_counts ⟨Nat.le_of_ble_eq_true rfl, Nat.le_of_ble_eq_true rfl⟩) (hh_preV X h fc_5_0 kc_5 [.int x3, .int x1]) rfl rfl hl.1 rfl (lv_room (Nat.le_of_ble_eq_true rfl)) dX0_countTo_16 ⟨Nat.le_of_ble_eq_true rfl, Nat.le_of_ble_eq_true rfl⟩) (fun r2 σ3 H locs hq h => ?_)
        refine lv_if_eq (tgt := 26) hx hb1 dX0_countTo_19 (by decide) (fun c4 => ?_) (fun c4 => ?_)
        · have hq := hq.1 c4
          refine lv_iconst (v := (0 : Int32)) hx hb1 dX0_countTo_26 (by decide) ?_
          refine lv_iadd hx hb1 dX0_countTo_27 ?_
          refine lv_topi (fun v5 ev5 => ?_)
          have hq := hq v5 ev5
          refine lv_istore_n (lv' := [(2, .int v5), (0, .ref (ad 5)), (1, .int x1), (3, .int x3)]) hx hb1 dX0_countTo_28 rfl hl (by decide) rfl (fun ls hl => ?_)
          refine lv_iinc (v := (x3 + (1 : Int32))) (lv' := [(3, .int (x3 + (1 : Int32))), (2, .int v5), (0, .ref (ad 5)), (1, .int x1)]) hx hb1 dX0_countTo_29 hl (k := 3) rfl rfl (by decide) rfl (fun ls hl => ?_)
          refine lv_goto (tgt := 4) hx hb1 dX0_countTo_32 (by decide) ?_
          exact ih v5 (x3 + (1 : Int32)) σ3 _ _ ls hq h (lv_sub hl [2, 3, 1, 0] rfl)
        · have hq := hq.2 c4
          refine lv_iconst (v := (1 : Int32)) hx hb1 dX0_countTo_22 (by decide) ?_
          refine lv_goto (tgt := 27) hx hb1 dX0_countTo_23 (by decide) ?_
          refine lv_iadd hx hb1 dX0_countTo_27 ?_
          refine lv_topi (fun v6 ev6 => ?_)
          have hq := hq v6 ev6
          refine lv_istore_n (lv' := [(2, .int v6), (0, .ref (ad 5)), (1, .int x1), (3, .int x3)]) hx hb1 dX0_countTo_28 rfl hl (by decide) rfl (fun ls hl => ?_)
          refine lv_iinc (v := (x3 + (1 : Int32))) (lv' := [(3, .int (x3 + (1 : Int32))), (2, .int v6), (0, .ref (ad 5)), (1, .int x1)]) hx hb1 dX0_countTo_29 hl (k := 3) rfl rfl (by decide) rfl (fun ls hl => ?_)
          refine lv_goto (tgt := 4) hx hb1 dX0_countTo_32 (by decide) ?_
          exact ih v6 (x3 + (1 : Int32)) σ3 _ _ ls hq h (lv_sub hl [2, 3, 1, 0] rfl)
  subst hargs
  refine hh_entry (vs := [.ref (ad 5), .int x1]) (Nat.le_of_ble_eq_true rfl) (fun ls hl => ?_)
  have hl : lv_has ls 4 [(0, .ref (ad 5)), (1, .int x1)] := hl
  have hq : wp_X0_countTo x1 σ Q := hq
  unfold wp_X0_countTo at hq
  refine lv_iconst (v := (0 : Int32)) hx hb1 dX0_countTo_0 (by decide) ?_
  refine lv_istore_n (lv' := [(2, .int (0 : Int32)), (0, .ref (ad 5)), (1, .int x1)]) hx hb1 dX0_countTo_1 rfl hl (by decide) rfl (fun ls hl => ?_)
  refine lv_iconst (v := (0 : Int32)) hx hb1 dX0_countTo_2 (by decide) ?_
  refine lv_istore_n (lv' := [(3, .int (0 : Int32)), (2, .int (0 : Int32)), (0, .ref (ad 5)), (1, .int x1)]) hx hb1 dX0_countTo_3 rfl hl (by decide) rfl (fun ls hl => ?_)
  obtain ⟨n7, hq⟩ := hq
  exact lt_4 x1 n7 (0 : Int32) (0 : Int32) σ _ _ ls hq h (lv_sub hl [2, 3, 1, 0] rfl)
abbrev rm_X0_countWith : Room := { frames := 1, cells := 0, slots := 0, locals := 22 }
def wq_X0_countWith_5 (x1 : Int32) (x2 : Int32) (Q : Int32 → hh_S → Prop) (K5 : Int32 → Int32 → hh_S → Prop) (x3 : Int32) (x4 : Int32) (σ : hh_S) : Prop := (((hh_I σ 320) ≤ x4 → (Q x3 σ)) ∧ (¬ (hh_I σ 320) ≤ x4 → (wp_X0_counts x4 x1 σ (fun (r2 : Int32) (σ3 : hh_S) => ((r2 = 0 → (∀ v5 : Int32, v5 = (x3 + (0 : Int32)) → (K5 v5 (x4 + (1 : Int32)) σ3))) ∧ (¬ r2 = 0 → (vp_in x4 10 ∧ (vp_in x1 24 ∧ ((¬ (hh_rA σ3 (45 + (x4).toNatClampNeg) x1) = x2 → (∀ v9 : Int32, v9 = (x3 + (0 : Int32)) → (K5 v9 (x4 + (1 : Int32)) σ3))) ∧ ((hh_rA σ3 (45 + (x4).toNatClampNeg) x1) = x2 → (∀ v10 : Int32, v10 = (x3 + (1 : Int32)) → (K5 v10 (x4 + (1 : Int32)) σ3))))))))))))
def wp_X0_countWith (x1 : Int32) (x2 : Int32) (σ : hh_S) (Q : Int32 → hh_S → Prop) : Prop := (∃ n : Nat, hh_lp2 (wq_X0_countWith_5 x1 x2 Q) n (0 : Int32) (0 : Int32) σ)
theorem in_X0_countWith_X0 : ∀ w ∈ u_ws RX0 TX0 4, w ∈ wsX0_countWith := fun w h => List.mem_cons_of_mem _ (List.mem_append_right _ h)
set_option maxHeartbeats 4000000 in
set_option maxRecDepth 100000 in
theorem ad_X0_countWith {D : va_G} (l : Launch) {cy : Nat → ClassId} {ad : Nat → Nat} (J : hh_J hc_Y ad) (x1 : Int32) (x2 : Int32) (σ : hh_S) (Q : Int32 → hh_S → Prop) (hq : wp_X0_countWith x1 x2 σ Q) : Met l yX0_countWith wsX0_countWith rm_X0_countWith (va_Pc [.ref (ad 5), .int x1, .int x2] (hh_B D hh_cl hc_Y cy ad σ)) (va_Qi Q (hh_B D hh_cl hc_Y cy ad) (hh_A hc_Y ad)) 0 0 (hh_A hc_Y ad) := by
  refine Met.ofW (cc := cX0_countWith) (maxL := 5) (ret := (some .int)) (by decide) rfl ?_
  intro p e s m args below meth c s₁ B hml hv
  obtain ⟨hargs, hP0, hK0⟩ := hv
  have hr := B.returns
  have hlocks := B.notSynchronized
  have X : hh_X p m c cX0_countWith 5 s args wsX0_countWith RX0 D hh_cl hc_Y cy ad := ⟨⟨B.exec, B.bytes, hml, findClass_of_methodNamed B.named, atoms_spec (ws := wsX0_countWith) B.pre⟩, hK0, J⟩
  have hx := X.1.1
  have hb1 := X.1.2.1
  have h : hh_H D hh_cl hc_Y cy ad s.heap σ s.heap [] := ⟨hP0, va_S.rf⟩
  have lt_5 : ∀ (x1 : Int32) (x2 : Int32) (n : Nat) (x3 : Int32) (x4 : Int32) (σ : hh_S) (H : Heap) (locs : List Loc) (ls : Array Slot), hh_lp2 (wq_X0_countWith_5 x1 x2 Q) n x3 x4 σ → hh_H D hh_cl hc_Y cy ad s.heap σ H locs → lv_has ls 5 [(0, .ref (ad 5)), (1, .int x1), (2, .int x2), (3, .int x3), (4, .int x4)] → W p l e (headSpec wsX0_countWith rm_X0_countWith).room s m args below meth c H locs 0 0 (MQ below (va_Qi Q (hh_B D hh_cl hc_Y cy ad) (hh_A hc_Y ad)) args s 0 0 (hh_A hc_Y ad)) (F0 m 5 ls []) := by
    intro x1 x2 n
    induction n with
    | zero => intro x3 x4 σ H locs ls hq h hl; exact hq.elim
    | succ n ih =>
      intro x3 x4 σ H locs ls hq h hl
      have hq : wq_X0_countWith_5 x1 x2 Q (hh_lp2 (wq_X0_countWith_5 x1 x2 Q) n) x3 x4 σ := hq
      unfold wq_X0_countWith_5 at hq
      refine lv_iload hx hb1 dX0_countWith_5 (lv_at hl 4 rfl) ?_
      refine lv_aload_n hx hb1 dX0_countWith_7 rfl (lv_at hl 0 rfl) ?_
      refine hh_geti X h (q := 320) fc_5_0 rfl in_X0_countWith_X0 kc_5 (by decide) (List.mem_of_getElem? (i := 1) rfl) rfl dX0_countWith_8 ?_
      refine lv_icmp_ge (tgt := 51) hx hb1 dX0_countWith_11 (by decide) (fun c1 => ?_) (fun c1 => ?_)
      · have hq := hq.1 c1
        refine lv_iload_n hx hb1 dX0_countWith_51 rfl (lv_at hl 3 rfl) ?_
        exact hh_iret X h hr hlocks hq dX0_countWith_52
      · have hq := hq.2 c1
        refine lv_iload_n hx hb1 dX0_countWith_14 rfl (lv_at hl 3 rfl) ?_
        refine lv_aload_n hx hb1 dX0_countWith_15 rfl (lv_at hl 0 rfl) ?_
        refine lv_iload hx hb1 dX0_countWith_16 (lv_at hl 4 rfl) ?_
        refine lv_iload_n hx hb1 dX0_countWith_18 rfl (lv_at hl 1 rfl) ?_
        refine hh_kI h (va_runV (As := [.int x4, .int x1]) (rest := [.int x3]) X.1 (ad_X0_counts (D := D) l J x4 x1 σ _ hq) (cwV 2 X.1.2.2.2.2 gX0_countWith_X0_counts rfl rfl rfl nd_X0_counts ⟨Nat.le_of_ble_eq_true rfl, Nat.le_of_ble_eq_true rfl⟩) (hh_preV X h fc_5_0 kc_5 [.int x4, .int x1]) rfl rfl hl.1 rfl (lv_room (Nat.le_of_ble_eq_true rfl)) dX0_countWith_19 ⟨Nat.le_of_ble_eq_true rfl, Nat.le_of_ble_eq_true rfl⟩) (fun r2 σ3 H locs hq h => ?_)
        refine lv_if_eq (tgt := 42) hx hb1 dX0_countWith_22 (by decide) (fun c4 => ?_) (fun c4 => ?_)
        · have hq := hq.1 c4
          refine lv_iconst (v := (0 : Int32)) hx hb1 dX0_countWith_42 (by decide) ?_
          refine lv_iadd hx hb1 dX0_countWith_43 ?_
          refine lv_topi (fun v5 ev5 => ?_)
          have hq := hq v5 ev5
          refine lv_istore_n (lv' := [(3, .int v5), (0, .ref (ad 5)), (1, .int x1), (2, .int x2), (4, .int x4)]) hx hb1 dX0_countWith_44 rfl hl (by decide) rfl (fun ls hl => ?_)
          refine lv_iinc (v := (x4 + (1 : Int32))) (lv' := [(4, .int (x4 + (1 : Int32))), (3, .int v5), (0, .ref (ad 5)), (1, .int x1), (2, .int x2)]) hx hb1 dX0_countWith_45 hl (k := 4) rfl rfl (by decide) rfl (fun ls hl => ?_)
          refine lv_goto (tgt := 5) hx hb1 dX0_countWith_48 (by decide) ?_
          exact ih v5 (x4 + (1 : Int32)) σ3 _ _ ls hq h (lv_sub hl [2, 3, 4, 1, 0] rfl)
        · have hq := hq.2 c4
          refine lv_aload_n hx hb1 dX0_countWith_25 rfl (lv_at hl 0 rfl) ?_
          refine hh_getr X h fc_5_3 in_X0_countWith_X0 kc_5 (by decide) (List.mem_of_getElem? (i := 2) rfl) rfl dX0_countWith_26 ?_
          refine lv_iload hx hb1 dX0_countWith_29 (lv_at hl 4 rfl) ?_
          obtain ⟨h6, hq⟩ := hq
          refine hh_ald X h ac_28 h6 dX0_countWith_31 ?_
          refine lv_iload_n hx hb1 dX0_countWith_32 rfl (lv_at hl 1 rfl) ?_
          obtain ⟨h7, hq⟩ := hq
          refine hh_ild X h (ar_said h6) h7 dX0_countWith_33 ?_
          refine lv_iload_n hx hb1 dX0_countWith_34 rfl (lv_at hl 2 rfl) ?_
          refine lv_icmp_ne (tgt := 42) hx hb1 dX0_countWith_35 (by decide) (fun c8 => ?_) (fun c8 => ?_)
          · have hq := hq.1 c8
            refine lv_iconst (v := (0 : Int32)) hx hb1 dX0_countWith_42 (by decide) ?_
            refine lv_iadd hx hb1 dX0_countWith_43 ?_
            refine lv_topi (fun v9 ev9 => ?_)
            have hq := hq v9 ev9
            refine lv_istore_n (lv' := [(3, .int v9), (0, .ref (ad 5)), (1, .int x1), (2, .int x2), (4, .int x4)]) hx hb1 dX0_countWith_44 rfl hl (by decide) rfl (fun ls hl => ?_)
            refine lv_iinc (v := (x4 + (1 : Int32))) (lv' := [(4, .int (x4 + (1 : Int32))), (3, .int v9), (0, .ref (ad 5)), (1, .int x1), (2, .int x2)]) hx hb1 dX0_countWith_45 hl (k := 4) rfl rfl (by decide) rfl (fun ls hl => ?_)
            refine lv_goto (tgt := 5) hx hb1 dX0_countWith_48 (by decide) ?_
            exact ih v9 (x4 + (1 : Int32)) σ3 _ _ ls hq h (lv_sub hl [2, 3, 4, 1, 0] rfl)
          · have hq := hq.2 c8
            refine lv_iconst (v := (1 : Int32)) hx hb1 dX0_countWith_38 (by decide) ?_
            refine lv_goto (tgt := 43) hx hb1 dX0_countWith_39 (by decide) ?_
            refine lv_iadd hx hb1 dX0_countWith_43 ?_
            refine lv_topi (fun v10 ev10 => ?_)
            have hq := hq v10 ev10
            refine lv_istore_n (lv' := [(3, .int v10), (0, .ref (ad 5)), (1, .int x1), (2, .int x2), (4, .int x4)]) hx hb1 dX0_countWith_44 rfl hl (by decide) rfl (fun ls hl => ?_)
            refine lv_iinc (v := (x4 + (1 : Int32))) (lv' := [(4, .int (x4 + (1 : Int32))), (3, .int v10), (0, .ref (ad 5)), (1, .int x1), (2, .int x2)]) hx hb1 dX0_countWith_45 hl (k := 4) rfl rfl (by decide) rfl (fun ls hl => ?_)
            refine lv_goto (tgt := 5) hx hb1 dX0_countWith_48 (by decide) ?_
            exact ih v10 (x4 + (1 : Int32)) σ3 _ _ ls hq h (lv_sub hl [2, 3, 4, 1, 0] rfl)
  subst hargs
  refine hh_entry (vs := [.ref (ad 5), .int x1, .int x2]) (Nat.le_of_ble_eq_true rfl) (fun ls hl => ?_)
  have hl : lv_has ls 5 [(0, .ref (ad 5)), (1, .int x1), (2, .int x2)] := hl
  have hq : wp_X0_countWith x1 x2 σ Q := hq
  unfold wp_X0_countWith at hq
  refine lv_iconst (v := (0 : Int32)) hx hb1 dX0_countWith_0 (by decide) ?_
  refine lv_istore_n (lv' := [(3, .int (0 : Int32)), (0, .ref (ad 5)), (1, .int x1), (2, .int x2)]) hx hb1 dX0_countWith_1 rfl hl (by decide) rfl (fun ls hl => ?_)
  refine lv_iconst (v := (0 : Int32)) hx hb1 dX0_countWith_2 (by decide) ?_
  refine lv_istore (lv' := [(4, .int (0 : Int32)), (3, .int (0 : Int32)), (0, .ref (ad 5)), (1, .int x1), (2, .int x2)]) hx hb1 dX0_countWith_3 hl (by decide) rfl (fun ls hl => ?_)
  obtain ⟨n11, hq⟩ := hq
  exact lt_5 x1 x2 n11 (0 : Int32) (0 : Int32) σ _ _ ls hq h (lv_sub hl [2, 3, 4, 1, 0] rfl)
end
section
theorem nd_X1_has : yX1_has.cls = RX1 ∧ yX1_has.cls ≠ "java/lang/invoke/MethodHandle" ∧ yX1_has.cls ≠ "java/lang/invoke/VarHandle" ∧ (parseMethodDescriptor yX1_has.desc).map (fun d => d.parameters.length) = some 1 := by decide +kernel
theorem nd_X1_hasLabel : yX1_hasLabel.cls = RX1 ∧ yX1_hasLabel.cls ≠ "java/lang/invoke/MethodHandle" ∧ yX1_hasLabel.cls ≠ "java/lang/invoke/VarHandle" ∧ (parseMethodDescriptor yX1_hasLabel.desc).map (fun d => d.parameters.length) = some 2 := by decide +kernel
theorem nd_X1_find : yX1_find.cls = RX1 ∧ yX1_find.cls ≠ "java/lang/invoke/MethodHandle" ∧ yX1_find.cls ≠ "java/lang/invoke/VarHandle" ∧ (parseMethodDescriptor yX1_find.desc).map (fun d => d.parameters.length) = some 2 := by decide +kernel
theorem nd_X1_add : yX1_add.cls = RX1 ∧ yX1_add.cls ≠ "java/lang/invoke/MethodHandle" ∧ yX1_add.cls ≠ "java/lang/invoke/VarHandle" ∧ (parseMethodDescriptor yX1_add.desc).map (fun d => d.parameters.length) = some 3 := by decide +kernel
theorem nd_X1_isFree : yX1_isFree.cls = RX1 ∧ yX1_isFree.cls ≠ "java/lang/invoke/MethodHandle" ∧ yX1_isFree.cls ≠ "java/lang/invoke/VarHandle" ∧ (parseMethodDescriptor yX1_isFree.desc).map (fun d => d.parameters.length) = some 1 := by decide +kernel
theorem nd_X1_given : yX1_given.cls = RX1 ∧ yX1_given.cls ≠ "java/lang/invoke/MethodHandle" ∧ yX1_given.cls ≠ "java/lang/invoke/VarHandle" ∧ (parseMethodDescriptor yX1_given.desc).map (fun d => d.parameters.length) = some 1 := by decide +kernel
abbrev rm_X1_has : Room := { frames := 0, cells := 0, slots := 0, locals := 0 }
def wp_X1_has (x1 : Int32) (σ : hh_S) (Q : Int32 → hh_S → Prop) : Prop := ((x1 < 0 → (Q (0 : Int32) σ)) ∧ (¬ x1 < 0 → (((hh_I σ 256) ≤ x1 → (Q (0 : Int32) σ)) ∧ (¬ (hh_I σ 256) ≤ x1 → (Q (1 : Int32) σ)))))
theorem in_X1_has_X1 : ∀ w ∈ u_ws RX1 TX1 7, w ∈ wsX1_has := fun w h => List.mem_cons_of_mem _ (List.mem_append_right _ h)
set_option maxHeartbeats 4000000 in
set_option maxRecDepth 100000 in
theorem ad_X1_has {D : va_G} (l : Launch) {cy : Nat → ClassId} {ad : Nat → Nat} (J : hh_J hc_Y ad) (x1 : Int32) (σ : hh_S) (Q : Int32 → hh_S → Prop) (hq : wp_X1_has x1 σ Q) : Met l yX1_has wsX1_has rm_X1_has (va_Pc [.ref (ad 4), .int x1] (hh_B D hh_cl hc_Y cy ad σ)) (va_Qi Q (hh_B D hh_cl hc_Y cy ad) (hh_A hc_Y ad)) 0 0 (hh_A hc_Y ad) := by
  refine Met.ofW (cc := cX1_has) (maxL := 2) (ret := (some .boolean)) (by decide) rfl ?_
  intro p e s m args below meth c s₁ B hml hv
  obtain ⟨hargs, hP0, hK0⟩ := hv
  have hr := B.returns
  have hlocks := B.notSynchronized
  have X : hh_X p m c cX1_has 2 s args wsX1_has RX1 D hh_cl hc_Y cy ad := ⟨⟨B.exec, B.bytes, hml, findClass_of_methodNamed B.named, atoms_spec (ws := wsX1_has) B.pre⟩, hK0, J⟩
  have hx := X.1.1
  have hb1 := X.1.2.1
  have h : hh_H D hh_cl hc_Y cy ad s.heap σ s.heap [] := ⟨hP0, va_S.rf⟩
  subst hargs
  refine hh_entry (vs := [.ref (ad 4), .int x1]) (Nat.le_of_ble_eq_true rfl) (fun ls hl => ?_)
  have hl : lv_has ls 2 [(0, .ref (ad 4)), (1, .int x1)] := hl
  have hq : wp_X1_has x1 σ Q := hq
  unfold wp_X1_has at hq
  refine lv_iload_n hx hb1 dX1_has_0 rfl (lv_at hl 1 rfl) ?_
  refine lv_if_lt (tgt := 16) hx hb1 dX1_has_1 (by decide) (fun c1 => ?_) (fun c1 => ?_)
  · have hq := hq.1 c1
    refine lv_iconst (v := (0 : Int32)) hx hb1 dX1_has_16 (by decide) ?_
    exact hh_zret X h hr hlocks rfl hq dX1_has_17
  · have hq := hq.2 c1
    refine lv_iload_n hx hb1 dX1_has_4 rfl (lv_at hl 1 rfl) ?_
    refine lv_aload_n hx hb1 dX1_has_5 rfl (lv_at hl 0 rfl) ?_
    refine hh_geti X h (q := 256) fc_4_0 rfl in_X1_has_X1 kc_4 (by decide) (List.mem_of_getElem? (i := 1) rfl) rfl dX1_has_6 ?_
    refine lv_icmp_ge (tgt := 16) hx hb1 dX1_has_9 (by decide) (fun c2 => ?_) (fun c2 => ?_)
    · have hq := hq.1 c2
      refine lv_iconst (v := (0 : Int32)) hx hb1 dX1_has_16 (by decide) ?_
      exact hh_zret X h hr hlocks rfl hq dX1_has_17
    · have hq := hq.2 c2
      refine lv_iconst (v := (1 : Int32)) hx hb1 dX1_has_12 (by decide) ?_
      refine lv_goto (tgt := 17) hx hb1 dX1_has_13 (by decide) ?_
      exact hh_zret X h hr hlocks rfl hq dX1_has_17
abbrev rm_X1_hasLabel : Room := { frames := 1, cells := 0, slots := 0, locals := 21 }
def wp_X1_hasLabel (x1 : Int32) (x2 : Int32) (σ : hh_S) (Q : Int32 → hh_S → Prop) : Prop := (wp_X1_has x1 σ (fun (r1 : Int32) (σ2 : hh_S) => ((r1 = 0 → (Q (0 : Int32) σ2)) ∧ (¬ r1 = 0 → ((x2 < 0 → (Q (0 : Int32) σ2)) ∧ (¬ x2 < 0 → (vp_in x1 24 ∧ (((hh_rA σ2 22 x1) ≤ x2 → (Q (0 : Int32) σ2)) ∧ (¬ (hh_rA σ2 22 x1) ≤ x2 → (Q (1 : Int32) σ2))))))))))
theorem in_X1_hasLabel_X1 : ∀ w ∈ u_ws RX1 TX1 7, w ∈ wsX1_hasLabel := fun w h => List.mem_cons_of_mem _ (List.mem_append_right _ h)
set_option maxHeartbeats 4000000 in
set_option maxRecDepth 100000 in
theorem ad_X1_hasLabel {D : va_G} (l : Launch) {cy : Nat → ClassId} {ad : Nat → Nat} (J : hh_J hc_Y ad) (x1 : Int32) (x2 : Int32) (σ : hh_S) (Q : Int32 → hh_S → Prop) (hq : wp_X1_hasLabel x1 x2 σ Q) : Met l yX1_hasLabel wsX1_hasLabel rm_X1_hasLabel (va_Pc [.ref (ad 4), .int x1, .int x2] (hh_B D hh_cl hc_Y cy ad σ)) (va_Qi Q (hh_B D hh_cl hc_Y cy ad) (hh_A hc_Y ad)) 0 0 (hh_A hc_Y ad) := by
  refine Met.ofW (cc := cX1_hasLabel) (maxL := 3) (ret := (some .boolean)) (by decide) rfl ?_
  intro p e s m args below meth c s₁ B hml hv
  obtain ⟨hargs, hP0, hK0⟩ := hv
  have hr := B.returns
  have hlocks := B.notSynchronized
  have X : hh_X p m c cX1_hasLabel 3 s args wsX1_hasLabel RX1 D hh_cl hc_Y cy ad := ⟨⟨B.exec, B.bytes, hml, findClass_of_methodNamed B.named, atoms_spec (ws := wsX1_hasLabel) B.pre⟩, hK0, J⟩
  have hx := X.1.1
  have hb1 := X.1.2.1
  have h : hh_H D hh_cl hc_Y cy ad s.heap σ s.heap [] := ⟨hP0, va_S.rf⟩
  subst hargs
  refine hh_entry (vs := [.ref (ad 4), .int x1, .int x2]) (Nat.le_of_ble_eq_true rfl) (fun ls hl => ?_)
  have hl : lv_has ls 3 [(0, .ref (ad 4)), (1, .int x1), (2, .int x2)] := hl
  have hq : wp_X1_hasLabel x1 x2 σ Q := hq
  unfold wp_X1_hasLabel at hq
  refine lv_aload_n hx hb1 dX1_hasLabel_0 rfl (lv_at hl 0 rfl) ?_
  refine lv_iload_n hx hb1 dX1_hasLabel_1 rfl (lv_at hl 1 rfl) ?_
  refine hh_kI h (va_runV (As := [.int x1]) (rest := []) X.1 (ad_X1_has (D := D) l J x1 σ _ hq) (cwV 1 X.1.2.2.2.2 gX1_hasLabel_X1_has rfl rfl rfl nd_X1_has ⟨Nat.le_of_ble_eq_true rfl, Nat.le_of_ble_eq_true rfl⟩) (hh_preV X h fc_4_0 kc_4 [.int x1]) rfl rfl hl.1 rfl (lv_room (Nat.le_of_ble_eq_true rfl)) dX1_hasLabel_2 ⟨Nat.le_of_ble_eq_true rfl, Nat.le_of_ble_eq_true rfl⟩) (fun r1 σ2 H locs hq h => ?_)
  refine lv_if_eq (tgt := 26) hx hb1 dX1_hasLabel_5 (by decide) (fun c3 => ?_) (fun c3 => ?_)
  · have hq := hq.1 c3
    refine lv_iconst (v := (0 : Int32)) hx hb1 dX1_hasLabel_26 (by decide) ?_
    exact hh_zret X h hr hlocks rfl hq dX1_hasLabel_27
  · have hq := hq.2 c3
    refine lv_iload_n hx hb1 dX1_hasLabel_8 rfl (lv_at hl 2 rfl) ?_
    refine lv_if_lt (tgt := 26) hx hb1 dX1_hasLabel_9 (by decide) (fun c4 => ?_) (fun c4 => ?_)
    · have hq := hq.1 c4
      refine lv_iconst (v := (0 : Int32)) hx hb1 dX1_hasLabel_26 (by decide) ?_
      exact hh_zret X h hr hlocks rfl hq dX1_hasLabel_27
    · have hq := hq.2 c4
      refine lv_iload_n hx hb1 dX1_hasLabel_12 rfl (lv_at hl 2 rfl) ?_
      refine lv_aload_n hx hb1 dX1_hasLabel_13 rfl (lv_at hl 0 rfl) ?_
      refine hh_getr X h fc_4_3 in_X1_hasLabel_X1 kc_4 (by decide) (List.mem_of_getElem? (i := 1) rfl) rfl dX1_hasLabel_14 ?_
      refine lv_iload_n hx hb1 dX1_hasLabel_17 rfl (lv_at hl 1 rfl) ?_
      obtain ⟨h5, hq⟩ := hq
      refine hh_ild X h ac_22 h5 dX1_hasLabel_18 ?_
      refine lv_icmp_ge (tgt := 26) hx hb1 dX1_hasLabel_19 (by decide) (fun c6 => ?_) (fun c6 => ?_)
      · have hq := hq.1 c6
        refine lv_iconst (v := (0 : Int32)) hx hb1 dX1_hasLabel_26 (by decide) ?_
        exact hh_zret X h hr hlocks rfl hq dX1_hasLabel_27
      · have hq := hq.2 c6
        refine lv_iconst (v := (1 : Int32)) hx hb1 dX1_hasLabel_22 (by decide) ?_
        refine lv_goto (tgt := 27) hx hb1 dX1_hasLabel_23 (by decide) ?_
        exact hh_zret X h hr hlocks rfl hq dX1_hasLabel_27
abbrev rm_X1_find : Room := { frames := 0, cells := 0, slots := 0, locals := 0 }
def wq_X1_find_2 (x1 : Int32) (x2 : Int32) (Q : Int32 → hh_S → Prop) (K2 : Int32 → hh_S → Prop) (x3 : Int32) (σ : hh_S) : Prop := (((hh_I σ 256) ≤ x3 → (Q (-6 : Int32) σ)) ∧ (¬ (hh_I σ 256) ≤ x3 → (vp_in x3 24 ∧ ((¬ (hh_rA σ 20 x3) = x1 → (K2 (x3 + (1 : Int32)) σ)) ∧ ((hh_rA σ 20 x3) = x1 → (vp_in x3 24 ∧ ((¬ (hh_rA σ 21 x3) = x2 → (K2 (x3 + (1 : Int32)) σ)) ∧ ((hh_rA σ 21 x3) = x2 → (Q x3 σ)))))))))
def wp_X1_find (x1 : Int32) (x2 : Int32) (σ : hh_S) (Q : Int32 → hh_S → Prop) : Prop := (∃ n : Nat, hh_lp1 (wq_X1_find_2 x1 x2 Q) n (0 : Int32) σ)
theorem in_X1_find_X1 : ∀ w ∈ u_ws RX1 TX1 7, w ∈ wsX1_find := fun w h => List.mem_cons_of_mem _ (List.mem_append_right _ h)
set_option maxHeartbeats 4000000 in
set_option maxRecDepth 100000 in
theorem ad_X1_find {D : va_G} (l : Launch) {cy : Nat → ClassId} {ad : Nat → Nat} (J : hh_J hc_Y ad) (x1 : Int32) (x2 : Int32) (σ : hh_S) (Q : Int32 → hh_S → Prop) (hq : wp_X1_find x1 x2 σ Q) : Met l yX1_find wsX1_find rm_X1_find (va_Pc [.ref (ad 4), .int x1, .int x2] (hh_B D hh_cl hc_Y cy ad σ)) (va_Qi Q (hh_B D hh_cl hc_Y cy ad) (hh_A hc_Y ad)) 0 0 (hh_A hc_Y ad) := by
  refine Met.ofW (cc := cX1_find) (maxL := 4) (ret := (some .int)) (by decide) rfl ?_
  intro p e s m args below meth c s₁ B hml hv
  obtain ⟨hargs, hP0, hK0⟩ := hv
  have hr := B.returns
  have hlocks := B.notSynchronized
  have X : hh_X p m c cX1_find 4 s args wsX1_find RX1 D hh_cl hc_Y cy ad := ⟨⟨B.exec, B.bytes, hml, findClass_of_methodNamed B.named, atoms_spec (ws := wsX1_find) B.pre⟩, hK0, J⟩
  have hx := X.1.1
  have hb1 := X.1.2.1
  have h : hh_H D hh_cl hc_Y cy ad s.heap σ s.heap [] := ⟨hP0, va_S.rf⟩
  have lt_2 : ∀ (x1 : Int32) (x2 : Int32) (n : Nat) (x3 : Int32) (σ : hh_S) (H : Heap) (locs : List Loc) (ls : Array Slot), hh_lp1 (wq_X1_find_2 x1 x2 Q) n x3 σ → hh_H D hh_cl hc_Y cy ad s.heap σ H locs → lv_has ls 4 [(0, .ref (ad 4)), (1, .int x1), (2, .int x2), (3, .int x3)] → W p l e (headSpec wsX1_find rm_X1_find).room s m args below meth c H locs 0 0 (MQ below (va_Qi Q (hh_B D hh_cl hc_Y cy ad) (hh_A hc_Y ad)) args s 0 0 (hh_A hc_Y ad)) (F0 m 2 ls []) := by
    intro x1 x2 n
    induction n with
    | zero => intro x3 σ H locs ls hq h hl; exact hq.elim
    | succ n ih =>
      intro x3 σ H locs ls hq h hl
      have hq : wq_X1_find_2 x1 x2 Q (hh_lp1 (wq_X1_find_2 x1 x2 Q) n) x3 σ := hq
      unfold wq_X1_find_2 at hq
      refine lv_iload_n hx hb1 dX1_find_2 rfl (lv_at hl 3 rfl) ?_
      refine lv_aload_n hx hb1 dX1_find_3 rfl (lv_at hl 0 rfl) ?_
      refine hh_geti X h (q := 256) fc_4_0 rfl in_X1_find_X1 kc_4 (by decide) (List.mem_of_getElem? (i := 1) rfl) rfl dX1_find_4 ?_
      refine lv_icmp_ge (tgt := 38) hx hb1 dX1_find_7 (by decide) (fun c1 => ?_) (fun c1 => ?_)
      · have hq := hq.1 c1
        refine lv_bipush (v := (-6 : Int32)) hx hb1 dX1_find_38 (by decide) ?_
        exact hh_iret X h hr hlocks hq dX1_find_40
      · have hq := hq.2 c1
        refine lv_aload_n hx hb1 dX1_find_10 rfl (lv_at hl 0 rfl) ?_
        refine hh_getr X h fc_4_1 in_X1_find_X1 kc_4 (by decide) (List.mem_of_getElem? (i := 2) rfl) rfl dX1_find_11 ?_
        refine lv_iload_n hx hb1 dX1_find_14 rfl (lv_at hl 3 rfl) ?_
        obtain ⟨h2, hq⟩ := hq
        refine hh_ild X h ac_20 h2 dX1_find_15 ?_
        refine lv_iload_n hx hb1 dX1_find_16 rfl (lv_at hl 1 rfl) ?_
        refine lv_icmp_ne (tgt := 32) hx hb1 dX1_find_17 (by decide) (fun c3 => ?_) (fun c3 => ?_)
        · have hq := hq.1 c3
          refine lv_iinc (v := (x3 + (1 : Int32))) (lv' := [(3, .int (x3 + (1 : Int32))), (0, .ref (ad 4)), (1, .int x1), (2, .int x2)]) hx hb1 dX1_find_32 hl (k := 3) rfl rfl (by decide) rfl (fun ls hl => ?_)
          refine lv_goto (tgt := 2) hx hb1 dX1_find_35 (by decide) ?_
          exact ih (x3 + (1 : Int32)) σ _ _ ls hq h (lv_sub hl [1, 2, 3, 0] rfl)
        · have hq := hq.2 c3
          refine lv_aload_n hx hb1 dX1_find_20 rfl (lv_at hl 0 rfl) ?_
          refine hh_getr X h fc_4_2 in_X1_find_X1 kc_4 (by decide) (List.mem_of_getElem? (i := 3) rfl) rfl dX1_find_21 ?_
          refine lv_iload_n hx hb1 dX1_find_24 rfl (lv_at hl 3 rfl) ?_
          obtain ⟨h4, hq⟩ := hq
          refine hh_ild X h ac_21 h4 dX1_find_25 ?_
          refine lv_iload_n hx hb1 dX1_find_26 rfl (lv_at hl 2 rfl) ?_
          refine lv_icmp_ne (tgt := 32) hx hb1 dX1_find_27 (by decide) (fun c5 => ?_) (fun c5 => ?_)
          · have hq := hq.1 c5
            refine lv_iinc (v := (x3 + (1 : Int32))) (lv' := [(3, .int (x3 + (1 : Int32))), (0, .ref (ad 4)), (1, .int x1), (2, .int x2)]) hx hb1 dX1_find_32 hl (k := 3) rfl rfl (by decide) rfl (fun ls hl => ?_)
            refine lv_goto (tgt := 2) hx hb1 dX1_find_35 (by decide) ?_
            exact ih (x3 + (1 : Int32)) σ _ _ ls hq h (lv_sub hl [1, 2, 3, 0] rfl)
          · have hq := hq.2 c5
            refine lv_iload_n hx hb1 dX1_find_30 rfl (lv_at hl 3 rfl) ?_
            exact hh_iret X h hr hlocks hq dX1_find_31
  subst hargs
  refine hh_entry (vs := [.ref (ad 4), .int x1, .int x2]) (Nat.le_of_ble_eq_true rfl) (fun ls hl => ?_)
  have hl : lv_has ls 4 [(0, .ref (ad 4)), (1, .int x1), (2, .int x2)] := hl
  have hq : wp_X1_find x1 x2 σ Q := hq
  unfold wp_X1_find at hq
  refine lv_iconst (v := (0 : Int32)) hx hb1 dX1_find_0 (by decide) ?_
  refine lv_istore_n (lv' := [(3, .int (0 : Int32)), (0, .ref (ad 4)), (1, .int x1), (2, .int x2)]) hx hb1 dX1_find_1 rfl hl (by decide) rfl (fun ls hl => ?_)
  obtain ⟨n6, hq⟩ := hq
  exact lt_2 x1 x2 n6 (0 : Int32) σ _ _ ls hq h (lv_sub hl [1, 2, 3, 0] rfl)
abbrev rm_X1_add : Room := { frames := 0, cells := 0, slots := 0, locals := 0 }
def wp_X1_add (x1 : Int32) (x2 : Int32) (x3 : Int32) (σ : hh_S) (Q : Int32 → hh_S → Prop) : Prop := (∀ v1 : Int32, v1 = (hh_I σ 256) → (vp_in v1 24 ∧ ∀ σ3 : hh_S, σ3 = hh_sA σ 20 v1 x1 → (vp_in v1 24 ∧ ∀ σ5 : hh_S, σ5 = hh_sA σ3 21 v1 x2 → (vp_in v1 24 ∧ ∀ σ7 : hh_S, σ7 = hh_sA σ5 22 v1 x3 → (vp_in v1 24 ∧ ∀ σ9 : hh_S, σ9 = hh_sA σ7 23 v1 (-6 : Int32) → (vp_in v1 24 ∧ ∀ σ11 : hh_S, σ11 = hh_sA σ9 24 v1 (-6 : Int32) → (vp_in v1 24 ∧ ∀ σ13 : hh_S, σ13 = hh_sA σ11 25 v1 (0 : Int32) → (∀ σ14 : hh_S, σ14 = hh_uI σ13 256 ((hh_I σ13 256) + (1 : Int32)) → (Q v1 σ14)))))))))
theorem in_X1_add_X1 : ∀ w ∈ u_ws RX1 TX1 7, w ∈ wsX1_add := fun w h => List.mem_cons_of_mem _ (List.mem_append_right _ h)
set_option maxHeartbeats 4000000 in
set_option maxRecDepth 100000 in
theorem ad_X1_add {D : va_G} (l : Launch) {cy : Nat → ClassId} {ad : Nat → Nat} (J : hh_J hc_Y ad) (x1 : Int32) (x2 : Int32) (x3 : Int32) (σ : hh_S) (Q : Int32 → hh_S → Prop) (hq : wp_X1_add x1 x2 x3 σ Q) : Met l yX1_add wsX1_add rm_X1_add (va_Pc [.ref (ad 4), .int x1, .int x2, .int x3] (hh_B D hh_cl hc_Y cy ad σ)) (va_Qi Q (hh_B D hh_cl hc_Y cy ad) (hh_A hc_Y ad)) 0 0 (hh_A hc_Y ad) := by
  refine Met.ofW (cc := cX1_add) (maxL := 5) (ret := (some .int)) (by decide) rfl ?_
  intro p e s m args below meth c s₁ B hml hv
  obtain ⟨hargs, hP0, hK0⟩ := hv
  have hr := B.returns
  have hlocks := B.notSynchronized
  have X : hh_X p m c cX1_add 5 s args wsX1_add RX1 D hh_cl hc_Y cy ad := ⟨⟨B.exec, B.bytes, hml, findClass_of_methodNamed B.named, atoms_spec (ws := wsX1_add) B.pre⟩, hK0, J⟩
  have hx := X.1.1
  have hb1 := X.1.2.1
  have h : hh_H D hh_cl hc_Y cy ad s.heap σ s.heap [] := ⟨hP0, va_S.rf⟩
  subst hargs
  refine hh_entry (vs := [.ref (ad 4), .int x1, .int x2, .int x3]) (Nat.le_of_ble_eq_true rfl) (fun ls hl => ?_)
  have hl : lv_has ls 5 [(0, .ref (ad 4)), (1, .int x1), (2, .int x2), (3, .int x3)] := hl
  have hq : wp_X1_add x1 x2 x3 σ Q := hq
  unfold wp_X1_add at hq
  refine lv_aload_n hx hb1 dX1_add_0 rfl (lv_at hl 0 rfl) ?_
  refine hh_geti X h (q := 256) fc_4_0 rfl in_X1_add_X1 kc_4 (by decide) (List.mem_of_getElem? (i := 1) rfl) rfl dX1_add_1 ?_
  refine lv_topi (fun v1 ev1 => ?_)
  have hq := hq v1 ev1
  refine lv_istore (lv' := [(4, .int v1), (0, .ref (ad 4)), (1, .int x1), (2, .int x2), (3, .int x3)]) hx hb1 dX1_add_4 hl (by decide) rfl (fun ls hl => ?_)
  refine lv_aload_n hx hb1 dX1_add_6 rfl (lv_at hl 1 rfl) ?_
  refine hh_getr X h fc_4_1 in_X1_add_X1 kc_4 (by decide) (List.mem_of_getElem? (i := 2) rfl) rfl dX1_add_7 ?_
  refine lv_iload hx hb1 dX1_add_10 (lv_at hl 0 rfl) ?_
  refine lv_iload_n hx hb1 dX1_add_12 rfl (lv_at hl 2 rfl) ?_
  obtain ⟨h2, hq⟩ := hq
  refine hh_ist X h ac_20 h2 dX1_add_13 (fun σ3 H locs eσ3 h => ?_)
  have hq := hq σ3 eσ3
  refine lv_aload_n hx hb1 dX1_add_14 rfl (lv_at hl 1 rfl) ?_
  refine hh_getr X h fc_4_2 in_X1_add_X1 kc_4 (by decide) (List.mem_of_getElem? (i := 3) rfl) rfl dX1_add_15 ?_
  refine lv_iload hx hb1 dX1_add_18 (lv_at hl 0 rfl) ?_
  refine lv_iload_n hx hb1 dX1_add_20 rfl (lv_at hl 3 rfl) ?_
  obtain ⟨h4, hq⟩ := hq
  refine hh_ist X h ac_21 h4 dX1_add_21 (fun σ5 H locs eσ5 h => ?_)
  have hq := hq σ5 eσ5
  refine lv_aload_n hx hb1 dX1_add_22 rfl (lv_at hl 1 rfl) ?_
  refine hh_getr X h fc_4_3 in_X1_add_X1 kc_4 (by decide) (List.mem_of_getElem? (i := 4) rfl) rfl dX1_add_23 ?_
  refine lv_iload hx hb1 dX1_add_26 (lv_at hl 0 rfl) ?_
  refine lv_iload_n hx hb1 dX1_add_28 rfl (lv_at hl 4 rfl) ?_
  obtain ⟨h6, hq⟩ := hq
  refine hh_ist X h ac_22 h6 dX1_add_29 (fun σ7 H locs eσ7 h => ?_)
  have hq := hq σ7 eσ7
  refine lv_aload_n hx hb1 dX1_add_30 rfl (lv_at hl 1 rfl) ?_
  refine hh_getr X h fc_4_4 in_X1_add_X1 kc_4 (by decide) (List.mem_of_getElem? (i := 5) rfl) rfl dX1_add_31 ?_
  refine lv_iload hx hb1 dX1_add_34 (lv_at hl 0 rfl) ?_
  refine lv_bipush (v := (-6 : Int32)) hx hb1 dX1_add_36 (by decide) ?_
  obtain ⟨h8, hq⟩ := hq
  refine hh_ist X h ac_23 h8 dX1_add_38 (fun σ9 H locs eσ9 h => ?_)
  have hq := hq σ9 eσ9
  refine lv_aload_n hx hb1 dX1_add_39 rfl (lv_at hl 1 rfl) ?_
  refine hh_getr X h fc_4_5 in_X1_add_X1 kc_4 (by decide) (List.mem_of_getElem? (i := 6) rfl) rfl dX1_add_40 ?_
  refine lv_iload hx hb1 dX1_add_43 (lv_at hl 0 rfl) ?_
  refine lv_bipush (v := (-6 : Int32)) hx hb1 dX1_add_45 (by decide) ?_
  obtain ⟨h10, hq⟩ := hq
  refine hh_ist X h ac_24 h10 dX1_add_47 (fun σ11 H locs eσ11 h => ?_)
  have hq := hq σ11 eσ11
  refine lv_aload_n hx hb1 dX1_add_48 rfl (lv_at hl 1 rfl) ?_
  refine hh_getr X h fc_4_6 in_X1_add_X1 kc_4 (by decide) (List.mem_of_getElem? (i := 7) rfl) rfl dX1_add_49 ?_
  refine lv_iload hx hb1 dX1_add_52 (lv_at hl 0 rfl) ?_
  refine lv_iconst (v := (0 : Int32)) hx hb1 dX1_add_54 (by decide) ?_
  obtain ⟨h12, hq⟩ := hq
  refine hh_ist X h ac_25 h12 dX1_add_55 (fun σ13 H locs eσ13 h => ?_)
  have hq := hq σ13 eσ13
  refine lv_aload_n hx hb1 dX1_add_56 rfl (lv_at hl 1 rfl) ?_
  refine lv_dup hx hb1 dX1_add_57 rfl ?_
  refine hh_geti X h (q := 256) fc_4_0 rfl in_X1_add_X1 kc_4 (by decide) (List.mem_of_getElem? (i := 1) rfl) rfl dX1_add_58 ?_
  refine lv_iconst (v := (1 : Int32)) hx hb1 dX1_add_61 (by decide) ?_
  refine lv_iadd hx hb1 dX1_add_62 ?_
  refine hh_puti X h (q := 256) hc_n fc_4_0 rfl in_X1_add_X1 kc_4 tyX1 tyX1_ok nmX1 (by decide) (List.mem_of_getElem? (i := 1) rfl) rfl rfl rfl rfl dX1_add_63 (fun σ14 H locs eσ14 h => ?_)
  have hq := hq σ14 eσ14
  refine lv_iload hx hb1 dX1_add_66 (lv_at hl 0 rfl) ?_
  exact hh_iret X h hr hlocks hq dX1_add_68
abbrev rm_X1_isFree : Room := { frames := 0, cells := 0, slots := 0, locals := 0 }
def wp_X1_isFree (x1 : Int32) (σ : hh_S) (Q : Int32 → hh_S → Prop) : Prop := (vp_in x1 24 ∧ ((¬ (hh_rA σ 23 x1) = (-6 : Int32) → (Q (0 : Int32) σ)) ∧ ((hh_rA σ 23 x1) = (-6 : Int32) → (vp_in x1 24 ∧ ((¬ (hh_rA σ 24 x1) = (-6 : Int32) → (Q (0 : Int32) σ)) ∧ ((hh_rA σ 24 x1) = (-6 : Int32) → (Q (1 : Int32) σ)))))))
theorem in_X1_isFree_X1 : ∀ w ∈ u_ws RX1 TX1 7, w ∈ wsX1_isFree := fun w h => List.mem_cons_of_mem _ (List.mem_append_right _ h)
set_option maxHeartbeats 4000000 in
set_option maxRecDepth 100000 in
theorem ad_X1_isFree {D : va_G} (l : Launch) {cy : Nat → ClassId} {ad : Nat → Nat} (J : hh_J hc_Y ad) (x1 : Int32) (σ : hh_S) (Q : Int32 → hh_S → Prop) (hq : wp_X1_isFree x1 σ Q) : Met l yX1_isFree wsX1_isFree rm_X1_isFree (va_Pc [.ref (ad 4), .int x1] (hh_B D hh_cl hc_Y cy ad σ)) (va_Qi Q (hh_B D hh_cl hc_Y cy ad) (hh_A hc_Y ad)) 0 0 (hh_A hc_Y ad) := by
  refine Met.ofW (cc := cX1_isFree) (maxL := 2) (ret := (some .boolean)) (by decide) rfl ?_
  intro p e s m args below meth c s₁ B hml hv
  obtain ⟨hargs, hP0, hK0⟩ := hv
  have hr := B.returns
  have hlocks := B.notSynchronized
  have X : hh_X p m c cX1_isFree 2 s args wsX1_isFree RX1 D hh_cl hc_Y cy ad := ⟨⟨B.exec, B.bytes, hml, findClass_of_methodNamed B.named, atoms_spec (ws := wsX1_isFree) B.pre⟩, hK0, J⟩
  have hx := X.1.1
  have hb1 := X.1.2.1
  have h : hh_H D hh_cl hc_Y cy ad s.heap σ s.heap [] := ⟨hP0, va_S.rf⟩
  subst hargs
  refine hh_entry (vs := [.ref (ad 4), .int x1]) (Nat.le_of_ble_eq_true rfl) (fun ls hl => ?_)
  have hl : lv_has ls 2 [(0, .ref (ad 4)), (1, .int x1)] := hl
  have hq : wp_X1_isFree x1 σ Q := hq
  unfold wp_X1_isFree at hq
  refine lv_aload_n hx hb1 dX1_isFree_0 rfl (lv_at hl 0 rfl) ?_
  refine hh_getr X h fc_4_4 in_X1_isFree_X1 kc_4 (by decide) (List.mem_of_getElem? (i := 1) rfl) rfl dX1_isFree_1 ?_
  refine lv_iload_n hx hb1 dX1_isFree_4 rfl (lv_at hl 1 rfl) ?_
  obtain ⟨h1, hq⟩ := hq
  refine hh_ild X h ac_23 h1 dX1_isFree_5 ?_
  refine lv_bipush (v := (-6 : Int32)) hx hb1 dX1_isFree_6 (by decide) ?_
  refine lv_icmp_ne (tgt := 26) hx hb1 dX1_isFree_8 (by decide) (fun c2 => ?_) (fun c2 => ?_)
  · have hq := hq.1 c2
    refine lv_iconst (v := (0 : Int32)) hx hb1 dX1_isFree_26 (by decide) ?_
    exact hh_zret X h hr hlocks rfl hq dX1_isFree_27
  · have hq := hq.2 c2
    refine lv_aload_n hx hb1 dX1_isFree_11 rfl (lv_at hl 0 rfl) ?_
    refine hh_getr X h fc_4_5 in_X1_isFree_X1 kc_4 (by decide) (List.mem_of_getElem? (i := 2) rfl) rfl dX1_isFree_12 ?_
    refine lv_iload_n hx hb1 dX1_isFree_15 rfl (lv_at hl 1 rfl) ?_
    obtain ⟨h3, hq⟩ := hq
    refine hh_ild X h ac_24 h3 dX1_isFree_16 ?_
    refine lv_bipush (v := (-6 : Int32)) hx hb1 dX1_isFree_17 (by decide) ?_
    refine lv_icmp_ne (tgt := 26) hx hb1 dX1_isFree_19 (by decide) (fun c4 => ?_) (fun c4 => ?_)
    · have hq := hq.1 c4
      refine lv_iconst (v := (0 : Int32)) hx hb1 dX1_isFree_26 (by decide) ?_
      exact hh_zret X h hr hlocks rfl hq dX1_isFree_27
    · have hq := hq.2 c4
      refine lv_iconst (v := (1 : Int32)) hx hb1 dX1_isFree_22 (by decide) ?_
      refine lv_goto (tgt := 27) hx hb1 dX1_isFree_23 (by decide) ?_
      exact hh_zret X h hr hlocks rfl hq dX1_isFree_27
abbrev rm_X1_given : Room := { frames := 0, cells := 0, slots := 0, locals := 0 }
def wp_X1_given (x1 : Int32) (σ : hh_S) (Q : Int32 → hh_S → Prop) : Prop := (vp_in x1 24 ∧ (((hh_rA σ 23 x1) = (-6 : Int32) → (vp_in x1 24 ∧ (Q (hh_rA σ 24 x1) σ))) ∧ (¬ (hh_rA σ 23 x1) = (-6 : Int32) → (vp_in x1 24 ∧ (Q (hh_rA σ 23 x1) σ)))))
theorem in_X1_given_X1 : ∀ w ∈ u_ws RX1 TX1 7, w ∈ wsX1_given := fun w h => List.mem_cons_of_mem _ (List.mem_append_right _ h)
set_option maxHeartbeats 4000000 in
set_option maxRecDepth 100000 in
theorem ad_X1_given {D : va_G} (l : Launch) {cy : Nat → ClassId} {ad : Nat → Nat} (J : hh_J hc_Y ad) (x1 : Int32) (σ : hh_S) (Q : Int32 → hh_S → Prop) (hq : wp_X1_given x1 σ Q) : Met l yX1_given wsX1_given rm_X1_given (va_Pc [.ref (ad 4), .int x1] (hh_B D hh_cl hc_Y cy ad σ)) (va_Qi Q (hh_B D hh_cl hc_Y cy ad) (hh_A hc_Y ad)) 0 0 (hh_A hc_Y ad) := by
  refine Met.ofW (cc := cX1_given) (maxL := 2) (ret := (some .int)) (by decide) rfl ?_
  intro p e s m args below meth c s₁ B hml hv
  obtain ⟨hargs, hP0, hK0⟩ := hv
  have hr := B.returns
  have hlocks := B.notSynchronized
  have X : hh_X p m c cX1_given 2 s args wsX1_given RX1 D hh_cl hc_Y cy ad := ⟨⟨B.exec, B.bytes, hml, findClass_of_methodNamed B.named, atoms_spec (ws := wsX1_given) B.pre⟩, hK0, J⟩
  have hx := X.1.1
  have hb1 := X.1.2.1
  have h : hh_H D hh_cl hc_Y cy ad s.heap σ s.heap [] := ⟨hP0, va_S.rf⟩
  subst hargs
  refine hh_entry (vs := [.ref (ad 4), .int x1]) (Nat.le_of_ble_eq_true rfl) (fun ls hl => ?_)
  have hl : lv_has ls 2 [(0, .ref (ad 4)), (1, .int x1)] := hl
  have hq : wp_X1_given x1 σ Q := hq
  unfold wp_X1_given at hq
  refine lv_aload_n hx hb1 dX1_given_0 rfl (lv_at hl 0 rfl) ?_
  refine hh_getr X h fc_4_4 in_X1_given_X1 kc_4 (by decide) (List.mem_of_getElem? (i := 1) rfl) rfl dX1_given_1 ?_
  refine lv_iload_n hx hb1 dX1_given_4 rfl (lv_at hl 1 rfl) ?_
  obtain ⟨h1, hq⟩ := hq
  refine hh_ild X h ac_23 h1 dX1_given_5 ?_
  refine lv_bipush (v := (-6 : Int32)) hx hb1 dX1_given_6 (by decide) ?_
  refine lv_icmp_eq (tgt := 20) hx hb1 dX1_given_8 (by decide) (fun c2 => ?_) (fun c2 => ?_)
  · have hq := hq.1 c2
    refine lv_aload_n hx hb1 dX1_given_20 rfl (lv_at hl 0 rfl) ?_
    refine hh_getr X h fc_4_5 in_X1_given_X1 kc_4 (by decide) (List.mem_of_getElem? (i := 2) rfl) rfl dX1_given_21 ?_
    refine lv_iload_n hx hb1 dX1_given_24 rfl (lv_at hl 1 rfl) ?_
    obtain ⟨h3, hq⟩ := hq
    refine hh_ild X h ac_24 h3 dX1_given_25 ?_
    exact hh_iret X h hr hlocks hq dX1_given_26
  · have hq := hq.2 c2
    refine lv_aload_n hx hb1 dX1_given_11 rfl (lv_at hl 0 rfl) ?_
    refine hh_getr X h fc_4_4 in_X1_given_X1 kc_4 (by decide) (List.mem_of_getElem? (i := 1) rfl) rfl dX1_given_12 ?_
    refine lv_iload_n hx hb1 dX1_given_15 rfl (lv_at hl 1 rfl) ?_
    obtain ⟨h4, hq⟩ := hq
    refine hh_ild X h ac_23 h4 dX1_given_16 ?_
    refine lv_goto (tgt := 26) hx hb1 dX1_given_17 (by decide) ?_
    exact hh_iret X h hr hlocks hq dX1_given_26
end
