/-! ===== BEGIN words of one list among another's, by their places ===== -/
theorem goodIn_r {big : List Cond} (ws : List Cond) (ps : List Nat) (hp : ws = ps.filterMap (fun i => big[i]?)) (h : ws.all goodWord = true) : GoodIn big ws := by
  intro w hw
  have h1 := List.all_eq_true.mp h w hw
  rw [hp] at hw
  obtain ⟨i, -, hi⟩ := List.mem_filterMap.mp hw
  have hm : w ∈ big := by first | exact List.mem_of_getElem? hi | exact List.getElem?_mem hi
  exact ⟨hm, good_of_word h1⟩
theorem goodIn_app {big a b : List Cond} (ha : GoodIn big a) (hb : GoodIn big b) : GoodIn big (a ++ b) := fun w h => (List.mem_append.mp h).elim (ha w) (hb w)
theorem goodIn_ca {big a b : List Cond} {c : Cond} (ha : GoodIn big (c :: a)) (hb : GoodIn big b) : GoodIn big (c :: (a ++ b)) := fun w h => (List.mem_cons.mp h).elim (fun e => ha w (List.mem_cons.mpr (Or.inl e))) (fun h => (List.mem_append.mp h).elim (fun h => ha w (List.mem_cons.mpr (Or.inr h))) (hb w))
theorem goodIn_sub {big ws : List Cond} (hm : ∀ w ∈ ws, w ∈ big) (h : ws.all goodWord = true) : GoodIn big ws := fun w hw => ⟨hm w hw, good_of_word (List.all_eq_true.mp h w hw)⟩
/-! ===== END ===== -/

def RX0 : String := "RainBallot$Ballot"
def TX0 : u_T := fun k => match k with
  | 0 => ("RainBallot$Ballot", "choice", "[I", true)
  | 1 => ("RainBallot$Ballot", "votes", "[I", true)
  | _ => ("RainBallot$Ballot", "streets", "I", false)
def tyX0 : Nat → FieldType := fun k => match k with
  | 0 => .array .int
  | 1 => .array .int
  | _ => .int
abbrev wsX00 : List Cond := u_ws RX0 TX0 3
theorem nmX0 : ∀ a, a < 3 → ∀ b, b < 3 → a ≠ b → (TX0 a).2.1 ≠ (TX0 b).2.1 := by decide +kernel
theorem tyX0_ok : ∀ k, k < 3 → parseFieldDescriptor (TX0 k).2.2.1 = some (tyX0 k) := by decide +kernel
abbrev cX0_init : ByteArray := prog_2_method_1_code
def yX0_init : MethodName := ⟨RX0, "<init>", "()V"⟩
abbrev cX0_choiceOf : ByteArray := prog_2_method_2_code
def yX0_choiceOf : MethodName := ⟨RX0, "choiceOf", "(LRainBallot$Plan;LRainBallot$Moment;I)I"⟩
abbrev cX0_choose : ByteArray := prog_2_method_3_code
def yX0_choose : MethodName := ⟨RX0, "choose", "(LRainBallot$Plan;LRainBallot$Moment;)V"⟩
abbrev cX0_tally : ByteArray := prog_2_method_4_code
def yX0_tally : MethodName := ⟨RX0, "tally", "(LRainBallot$Moment;I)V"⟩
abbrev cX0_tallyTurned : ByteArray := prog_2_method_5_code
def yX0_tallyTurned : MethodName := ⟨RX0, "tallyTurned", "(LRainBallot$Moment;II)V"⟩
abbrev cX0_tallyAll : ByteArray := prog_2_method_6_code
def yX0_tallyAll : MethodName := ⟨RX0, "tallyAll", "(LRainBallot$Moment;III)V"⟩
abbrev cX0_winner : ByteArray := prog_2_method_7_code
def yX0_winner : MethodName := ⟨RX0, "winner", "()I"⟩
def RX1 : String := "RainBallot$Moment"
def TX1 : u_T := fun k => match k with
  | 0 => ("RainBallot$Moment", "water", "[I", true)
  | 1 => ("RainBallot$Moment", "voters", "[I", true)
  | 2 => ("RainBallot$Moment", "rained", "I", false)
  | _ => ("RainBallot$Moment", "number", "I", false)
def tyX1 : Nat → FieldType := fun k => match k with
  | 0 => .array .int
  | 1 => .array .int
  | 2 => .int
  | _ => .int
abbrev wsX10 : List Cond := u_ws RX1 TX1 4
theorem nmX1 : ∀ a, a < 4 → ∀ b, b < 4 → a ≠ b → (TX1 a).2.1 ≠ (TX1 b).2.1 := by decide +kernel
theorem tyX1_ok : ∀ k, k < 4 → parseFieldDescriptor (TX1 k).2.2.1 = some (tyX1 k) := by decide +kernel
abbrev cX1_init : ByteArray := prog_3_method_1_code
def yX1_init : MethodName := ⟨RX1, "<init>", "()V"⟩
abbrev cX1_begin : ByteArray := prog_3_method_2_code
def yX1_begin : MethodName := ⟨RX1, "begin", "(LRainBallot$Plan;)V"⟩
abbrev cX1_copyFrom : ByteArray := prog_3_method_3_code
def yX1_copyFrom : MethodName := ⟨RX1, "copyFrom", "(LRainBallot$Moment;)V"⟩
abbrev cX1_pass : ByteArray := prog_3_method_4_code
def yX1_pass : MethodName := ⟨RX1, "pass", "(LRainBallot$Plan;I)V"⟩
abbrev cX1_fall : ByteArray := prog_3_method_5_code
def yX1_fall : MethodName := ⟨RX1, "fall", "(LRainBallot$Plan;I)I"⟩
abbrev cX1_driest : ByteArray := prog_3_method_6_code
def yX1_driest : MethodName := ⟨RX1, "driest", "(LRainBallot$Plan;I)I"⟩
abbrev cX1_isContent : ByteArray := prog_3_method_7_code
def yX1_isContent : MethodName := ⟨RX1, "isContent", "(LRainBallot$Plan;I)Z"⟩
abbrev cX1_contentBits : ByteArray := prog_3_method_8_code
def yX1_contentBits : MethodName := ⟨RX1, "contentBits", "(LRainBallot$Plan;)I"⟩
abbrev cX1_allWater : ByteArray := prog_3_method_9_code
def yX1_allWater : MethodName := ⟨RX1, "allWater", "(I)I"⟩
def RX2 : String := "RainBallot$Past"
def TX2 : u_T := fun k => match k with
  | 0 => ("RainBallot$Past", "moments", "[LRainBallot$Moment;", true)
  | 1 => ("RainBallot$Past", "next", "I", false)
  | _ => ("RainBallot$Past", "size", "I", false)
def tyX2 : Nat → FieldType := fun k => match k with
  | 0 => .array (.object "RainBallot$Moment")
  | 1 => .int
  | _ => .int
abbrev wsX20 : List Cond := u_ws RX2 TX2 3
theorem nmX2 : ∀ a, a < 3 → ∀ b, b < 3 → a ≠ b → (TX2 a).2.1 ≠ (TX2 b).2.1 := by decide +kernel
theorem tyX2_ok : ∀ k, k < 3 → parseFieldDescriptor (TX2 k).2.2.1 = some (tyX2 k) := by decide +kernel
abbrev cX2_init : ByteArray := prog_4_method_1_code
def yX2_init : MethodName := ⟨RX2, "<init>", "()V"⟩
abbrev cX2_clear : ByteArray := prog_4_method_2_code
def yX2_clear : MethodName := ⟨RX2, "clear", "()V"⟩
abbrev cX2_remember : ByteArray := prog_4_method_3_code
def yX2_remember : MethodName := ⟨RX2, "remember", "(LRainBallot$Moment;)V"⟩
abbrev cX2_recall : ByteArray := prog_4_method_4_code
def yX2_recall : MethodName := ⟨RX2, "recall", "(LRainBallot$Moment;)Z"⟩
def RX3 : String := "RainBallot$Plan"
def TX3 : u_T := fun k => match k with
  | 0 => ("RainBallot$Plan", "kind", "[I", true)
  | 1 => ("RainBallot$Plan", "need", "[I", true)
  | 2 => ("RainBallot$Plan", "voters", "[I", true)
  | 3 => ("RainBallot$Plan", "water", "[I", true)
  | 4 => ("RainBallot$Plan", "slope", "[I", true)
  | 5 => ("RainBallot$Plan", "streets", "I", false)
  | 6 => ("RainBallot$Plan", "cap", "I", false)
  | _ => ("RainBallot$Plan", "inches", "I", false)
def tyX3 : Nat → FieldType := fun k => match k with
  | 0 => .array .int
  | 1 => .array .int
  | 2 => .array .int
  | 3 => .array .int
  | 4 => .array .int
  | 5 => .int
  | 6 => .int
  | _ => .int
abbrev wsX30 : List Cond := u_ws RX3 TX3 8
theorem nmX3 : ∀ a, a < 8 → ∀ b, b < 8 → a ≠ b → (TX3 a).2.1 ≠ (TX3 b).2.1 := by decide +kernel
theorem tyX3_ok : ∀ k, k < 8 → parseFieldDescriptor (TX3 k).2.2.1 = some (tyX3 k) := by decide +kernel
abbrev cX3_init : ByteArray := prog_5_method_1_code
def yX3_init : MethodName := ⟨RX3, "<init>", "()V"⟩
abbrev cX3_clear : ByteArray := prog_5_method_2_code
def yX3_clear : MethodName := ⟨RX3, "clear", "()V"⟩
abbrev cX3_copyFrom : ByteArray := prog_5_method_3_code
def yX3_copyFrom : MethodName := ⟨RX3, "copyFrom", "(LRainBallot$Plan;)V"⟩
abbrev cX3_has : ByteArray := prog_5_method_4_code
def yX3_has : MethodName := ⟨RX3, "has", "(I)Z"⟩
abbrev cX3_add : ByteArray := prog_5_method_5_code
def yX3_add : MethodName := ⟨RX3, "add", "(IIII)V"⟩
abbrev cX3_tilt : ByteArray := prog_5_method_6_code
def yX3_tilt : MethodName := ⟨RX3, "tilt", "(II)V"⟩
abbrev cX3_wants : ByteArray := prog_5_method_7_code
def yX3_wants : MethodName := ⟨RX3, "wants", "(I)I"⟩
abbrev cX3_votingBits : ByteArray := prog_5_method_8_code
def yX3_votingBits : MethodName := ⟨RX3, "votingBits", "()I"⟩
def RX4 : String := "RainBallot$RowSearch"
def TX4 : u_T := fun k => match k with
  | 0 => ("RainBallot$RowSearch", "behind", "[LRainBallot$Moment;", true)
  | 1 => ("RainBallot$RowSearch", "row", "[I", true)
  | 2 => ("RainBallot$RowSearch", "best", "[I", true)
  | 3 => ("RainBallot$RowSearch", "length", "I", false)
  | _ => ("RainBallot$RowSearch", "most", "I", false)
def tyX4 : Nat → FieldType := fun k => match k with
  | 0 => .array (.object "RainBallot$Moment")
  | 1 => .array .int
  | 2 => .array .int
  | 3 => .int
  | _ => .int
abbrev wsX40 : List Cond := u_ws RX4 TX4 5
theorem nmX4 : ∀ a, a < 5 → ∀ b, b < 5 → a ≠ b → (TX4 a).2.1 ≠ (TX4 b).2.1 := by decide +kernel
theorem tyX4_ok : ∀ k, k < 5 → parseFieldDescriptor (TX4 k).2.2.1 = some (tyX4 k) := by decide +kernel
abbrev cX4_init : ByteArray := prog_6_method_1_code
def yX4_init : MethodName := ⟨RX4, "<init>", "()V"⟩
abbrev cX4_find : ByteArray := prog_6_method_2_code
def yX4_find : MethodName := ⟨RX4, "find", "(LRainBallot$Plan;LRainBallot$Moment;I)V"⟩
abbrev cX4_extend : ByteArray := prog_6_method_3_code
def yX4_extend : MethodName := ⟨RX4, "extend", "(LRainBallot$RowSearch;LRainBallot$Plan;I)V"⟩
abbrev cX4_judge : ByteArray := prog_6_method_4_code
def yX4_judge : MethodName := ⟨RX4, "judge", "(LRainBallot$Plan;)V"⟩
def RX5 : String := "RainBallot$Shelf"
def TX5 : u_T := fun k => match k with
  | 0 => ("RainBallot$Shelf", "moments", "[LRainBallot$Moment;", true)
  | _ => ("RainBallot$Shelf", "used", "[Z", true)
def tyX5 : Nat → FieldType := fun k => match k with
  | 0 => .array (.object "RainBallot$Moment")
  | _ => .array .boolean
abbrev wsX50 : List Cond := u_ws RX5 TX5 2
theorem nmX5 : ∀ a, a < 2 → ∀ b, b < 2 → a ≠ b → (TX5 a).2.1 ≠ (TX5 b).2.1 := by decide +kernel
theorem tyX5_ok : ∀ k, k < 2 → parseFieldDescriptor (TX5 k).2.2.1 = some (tyX5 k) := by decide +kernel
abbrev cX5_init : ByteArray := prog_7_method_1_code
def yX5_init : MethodName := ⟨RX5, "<init>", "()V"⟩
abbrev cX5_clear : ByteArray := prog_7_method_2_code
def yX5_clear : MethodName := ⟨RX5, "clear", "()V"⟩
abbrev cX5_put : ByteArray := prog_7_method_3_code
def yX5_put : MethodName := ⟨RX5, "put", "(ILRainBallot$Moment;)V"⟩
abbrev cX5_take : ByteArray := prog_7_method_4_code
def yX5_take : MethodName := ⟨RX5, "take", "(ILRainBallot$Moment;)Z"⟩
def RX6 : String := "RainBallot$Sightings"
def TX6 : u_T := fun k => match k with
  | 0 => ("RainBallot$Sightings", "place", "[I", true)
  | 1 => ("RainBallot$Sightings", "time", "[I", true)
  | _ => ("RainBallot$Sightings", "size", "I", false)
def tyX6 : Nat → FieldType := fun k => match k with
  | 0 => .array .int
  | 1 => .array .int
  | _ => .int
abbrev wsX60 : List Cond := u_ws RX6 TX6 3
theorem nmX6 : ∀ a, a < 3 → ∀ b, b < 3 → a ≠ b → (TX6 a).2.1 ≠ (TX6 b).2.1 := by decide +kernel
theorem tyX6_ok : ∀ k, k < 3 → parseFieldDescriptor (TX6 k).2.2.1 = some (tyX6 k) := by decide +kernel
abbrev cX6_init : ByteArray := prog_8_method_1_code
def yX6_init : MethodName := ⟨RX6, "<init>", "()V"⟩
abbrev cX6_add : ByteArray := prog_8_method_2_code
def yX6_add : MethodName := ⟨RX6, "add", "(II)Z"⟩
abbrev cX6_lastDay : ByteArray := prog_8_method_3_code
def yX6_lastDay : MethodName := ⟨RX6, "lastDay", "()I"⟩
abbrev cX6_allow : ByteArray := prog_8_method_4_code
def yX6_allow : MethodName := ⟨RX6, "allow", "(II)Z"⟩
def RX7 : String := "RainBallot$Text"
def TX7 : u_T := fun k => match k with
  | 0 => ("RainBallot$Text", "letters", "[C", true)
  | 1 => ("RainBallot$Text", "length", "I", false)
  | 2 => ("RainBallot$Text", "start", "I", false)
  | 3 => ("RainBallot$Text", "end", "I", false)
  | _ => ("RainBallot$Text", "clauses", "I", false)
def tyX7 : Nat → FieldType := fun k => match k with
  | 0 => .array .char
  | 1 => .int
  | 2 => .int
  | 3 => .int
  | _ => .int
abbrev wsX70 : List Cond := u_ws RX7 TX7 5
theorem nmX7 : ∀ a, a < 5 → ∀ b, b < 5 → a ≠ b → (TX7 a).2.1 ≠ (TX7 b).2.1 := by decide +kernel
theorem tyX7_ok : ∀ k, k < 5 → parseFieldDescriptor (TX7 k).2.2.1 = some (tyX7 k) := by decide +kernel
abbrev cX7_init : ByteArray := prog_9_method_1_code
def yX7_init : MethodName := ⟨RX7, "<init>", "()V"⟩
abbrev cX7_add : ByteArray := prog_9_method_2_code
def yX7_add : MethodName := ⟨RX7, "add", "(C)Z"⟩
abbrev cX7_read : ByteArray := prog_9_method_3_code
def yX7_read : MethodName := ⟨RX7, "read", "(LRainBallot$Plan;LRainBallot$Plan;)I"⟩
abbrev cX7_step : ByteArray := prog_9_method_4_code
def yX7_step : MethodName := ⟨RX7, "step", "()V"⟩
abbrev cX7_isDigitAt : ByteArray := prog_9_method_5_code
def yX7_isDigitAt : MethodName := ⟨RX7, "isDigitAt", "(I)Z"⟩
abbrev cX7_isSmallAt : ByteArray := prog_9_method_6_code
def yX7_isSmallAt : MethodName := ⟨RX7, "isSmallAt", "(I)Z"⟩
abbrev cX7_isWord : ByteArray := prog_9_method_7_code
def yX7_isWord : MethodName := ⟨RX7, "isWord", "(Ljava/lang/String;)Z"⟩
abbrev cX7_readClause : ByteArray := prog_9_method_8_code
def yX7_readClause : MethodName := ⟨RX7, "readClause", "(LRainBallot$Plan;)Z"⟩
abbrev cX7_kindOfWord : ByteArray := prog_9_method_9_code
def yX7_kindOfWord : MethodName := ⟨RX7, "kindOfWord", "()I"⟩
abbrev cX7_readStreet : ByteArray := prog_9_method_10_code
def yX7_readStreet : MethodName := ⟨RX7, "readStreet", "(LRainBallot$Plan;I)Z"⟩
abbrev cX7_readSlope : ByteArray := prog_9_method_11_code
def yX7_readSlope : MethodName := ⟨RX7, "readSlope", "(LRainBallot$Plan;)Z"⟩
abbrev cX7_readNumber : ByteArray := prog_9_method_12_code
def yX7_readNumber : MethodName := ⟨RX7, "readNumber", "(III)I"⟩
def RX8 : String := "RainBallot"
def TX8 : u_T := fun k => match k with
  | 0 => ("RainBallot", "text", "LRainBallot$Text;", true)
  | 1 => ("RainBallot", "told", "LRainBallot$Plan;", true)
  | 2 => ("RainBallot", "draft", "LRainBallot$Plan;", true)
  | 3 => ("RainBallot", "now", "LRainBallot$Moment;", true)
  | 4 => ("RainBallot", "trial", "LRainBallot$Moment;", true)
  | 5 => ("RainBallot", "past", "LRainBallot$Past;", true)
  | 6 => ("RainBallot", "shelf", "LRainBallot$Shelf;", true)
  | 7 => ("RainBallot", "sightings", "LRainBallot$Sightings;", true)
  | 8 => ("RainBallot", "ballot", "LRainBallot$Ballot;", true)
  | _ => ("RainBallot", "rows", "LRainBallot$RowSearch;", true)
def tyX8 : Nat → FieldType := fun k => match k with
  | 0 => .object "RainBallot$Text"
  | 1 => .object "RainBallot$Plan"
  | 2 => .object "RainBallot$Plan"
  | 3 => .object "RainBallot$Moment"
  | 4 => .object "RainBallot$Moment"
  | 5 => .object "RainBallot$Past"
  | 6 => .object "RainBallot$Shelf"
  | 7 => .object "RainBallot$Sightings"
  | 8 => .object "RainBallot$Ballot"
  | _ => .object "RainBallot$RowSearch"
abbrev wsX80 : List Cond := u_ws RX8 TX8 10
theorem nmX8 : ∀ a, a < 10 → ∀ b, b < 10 → a ≠ b → (TX8 a).2.1 ≠ (TX8 b).2.1 := by decide +kernel
theorem tyX8_ok : ∀ k, k < 10 → parseFieldDescriptor (TX8 k).2.2.1 = some (tyX8 k) := by decide +kernel
abbrev cX8_init : ByteArray := prog_1_method_1_code
def yX8_init : MethodName := ⟨RX8, "<init>", "()V"⟩
abbrev cX8_write : ByteArray := prog_1_method_2_code
def yX8_write : MethodName := ⟨RX8, "write", "(I)I"⟩
abbrev cX8_erase : ByteArray := prog_1_method_3_code
def yX8_erase : MethodName := ⟨RX8, "erase", "()I"⟩
abbrev cX8_fault : ByteArray := prog_1_method_4_code
def yX8_fault : MethodName := ⟨RX8, "fault", "()I"⟩
abbrev cX8_town : ByteArray := prog_1_method_5_code
def yX8_town : MethodName := ⟨RX8, "town", "()I"⟩
abbrev cX8_street : ByteArray := prog_1_method_6_code
def yX8_street : MethodName := ⟨RX8, "street", "(II)I"⟩
abbrev cX8_as : ByteArray := prog_1_method_7_code
def yX8_as : MethodName := ⟨RX8, "as", "(II)I"⟩
abbrev cX8_day : ByteArray := prog_1_method_8_code
def yX8_day : MethodName := ⟨RX8, "day", "()I"⟩
abbrev cX8_hose : ByteArray := prog_1_method_9_code
def yX8_hose : MethodName := ⟨RX8, "hose", "(II)I"⟩
abbrev cX8_poll : ByteArray := prog_1_method_10_code
def yX8_poll : MethodName := ⟨RX8, "poll", "(II)I"⟩
abbrev cX8_undo : ByteArray := prog_1_method_11_code
def yX8_undo : MethodName := ⟨RX8, "undo", "()I"⟩
abbrev cX8_keep : ByteArray := prog_1_method_12_code
def yX8_keep : MethodName := ⟨RX8, "keep", "(I)I"⟩
abbrev cX8_back : ByteArray := prog_1_method_13_code
def yX8_back : MethodName := ⟨RX8, "back", "(I)I"⟩
abbrev cX8_where : ByteArray := prog_1_method_14_code
def yX8_where : MethodName := ⟨RX8, "where", "(I)I"⟩
abbrev cX8_wet : ByteArray := prog_1_method_15_code
def yX8_wet : MethodName := ⟨RX8, "wet", "(II)I"⟩
abbrev cX8_carry : ByteArray := prog_1_method_16_code
def yX8_carry : MethodName := ⟨RX8, "carry", "(I)I"⟩
abbrev cX8_reach : ByteArray := prog_1_method_17_code
def yX8_reach : MethodName := ⟨RX8, "reach", "(I)I"⟩
abbrev cX8_month : ByteArray := prog_1_method_18_code
def yX8_month : MethodName := ⟨RX8, "month", "(II)I"⟩
abbrev cX8_seen : ByteArray := prog_1_method_19_code
def yX8_seen : MethodName := ⟨RX8, "seen", "(II)I"⟩
abbrev cX8_forget : ByteArray := prog_1_method_20_code
def yX8_forget : MethodName := ⟨RX8, "forget", "()I"⟩
abbrev cX8_polls : ByteArray := prog_1_method_21_code
def yX8_polls : MethodName := ⟨RX8, "polls", "(I)I"⟩
abbrev cX8_chance : ByteArray := prog_1_method_22_code
def yX8_chance : MethodName := ⟨RX8, "chance", "(III)I"⟩
abbrev cX8_count : ByteArray := prog_1_method_23_code
def yX8_count : MethodName := ⟨RX8, "count", "(I)I"⟩
abbrev cX8_isShelf : ByteArray := prog_1_method_24_code
def yX8_isShelf : MethodName := ⟨RX8, "isShelf", "(I)Z"⟩
abbrev cX8_isUnder : ByteArray := prog_1_method_25_code
def yX8_isUnder : MethodName := ⟨RX8, "isUnder", "(II)Z"⟩
abbrev cX8_passDay : ByteArray := prog_1_method_26_code
def yX8_passDay : MethodName := ⟨RX8, "passDay", "(LRainBallot$Moment;)I"⟩
abbrev cX8_passTrialDays : ByteArray := prog_1_method_27_code
def yX8_passTrialDays : MethodName := ⟨RX8, "passTrialDays", "(I)V"⟩
abbrev cX8_isCarriedWith : ByteArray := prog_1_method_28_code
def yX8_isCarriedWith : MethodName := ⟨RX8, "isCarriedWith", "(II)Z"⟩
abbrev cX8_isAllSeenInTrial : ByteArray := prog_1_method_29_code
def yX8_isAllSeenInTrial : MethodName := ⟨RX8, "isAllSeenInTrial", "()Z"⟩
abbrev cX8_weightOfCarried : ByteArray := prog_1_method_30_code
def yX8_weightOfCarried : MethodName := ⟨RX8, "weightOfCarried", "(II)J"⟩
abbrev cX8_weightOf : ByteArray := prog_1_method_31_code
def yX8_weightOf : MethodName := ⟨RX8, "weightOf", "(II)J"⟩
abbrev cX8_commonDivisor : ByteArray := prog_1_method_32_code
def yX8_commonDivisor : MethodName := ⟨RX8, "commonDivisor", "(JJ)J"⟩
def RX9 : String := "RainBallotModel"
def TX9 : u_T := fun k => match k with
  | 0 => ("RainBallotModel", "text", "[I", true)
  | 1 => ("RainBallotModel", "typed", "I", false)
  | 2 => ("RainBallotModel", "told", "[I", true)
  | 3 => ("RainBallotModel", "draft", "[I", true)
  | 4 => ("RainBallotModel", "s", "[I", true)
  | 5 => ("RainBallotModel", "past", "[I", true)
  | 6 => ("RainBallotModel", "known", "I", false)
  | 7 => ("RainBallotModel", "images", "[I", true)
  | 8 => ("RainBallotModel", "kept", "[Z", true)
  | 9 => ("RainBallotModel", "notes", "[I", true)
  | 10 => ("RainBallotModel", "noted", "I", false)
  | 11 => ("RainBallotModel", "at", "I", false)
  | 12 => ("RainBallotModel", "sort", "I", false)
  | 13 => ("RainBallotModel", "start", "I", false)
  | 14 => ("RainBallotModel", "value", "I", false)
  | 15 => ("RainBallotModel", "votes", "[I", true)
  | 16 => ("RainBallotModel", "home", "I", false)
  | 17 => ("RainBallotModel", "bought", "I", false)
  | 18 => ("RainBallotModel", "buyer", "I", false)
  | _ => ("RainBallotModel", "held", "[I", true)
def tyX9 : Nat → FieldType := fun k => match k with
  | 0 => .array .int
  | 1 => .int
  | 2 => .array .int
  | 3 => .array .int
  | 4 => .array .int
  | 5 => .array .int
  | 6 => .int
  | 7 => .array .int
  | 8 => .array .boolean
  | 9 => .array .int
  | 10 => .int
  | 11 => .int
  | 12 => .int
  | 13 => .int
  | 14 => .int
  | 15 => .array .int
  | 16 => .int
  | 17 => .int
  | 18 => .int
  | _ => .array .int
abbrev wsX90 : List Cond := u_ws RX9 TX9 20
theorem nmX9 : ∀ a, a < 20 → ∀ b, b < 20 → a ≠ b → (TX9 a).2.1 ≠ (TX9 b).2.1 := by decide +kernel
theorem tyX9_ok : ∀ k, k < 20 → parseFieldDescriptor (TX9 k).2.2.1 = some (tyX9 k) := by decide +kernel
abbrev cX9_init : ByteArray := prog_11_method_1_code
def yX9_init : MethodName := ⟨RX9, "<init>", "()V"⟩
abbrev cX9_in : ByteArray := prog_11_method_3_code
def yX9_in : MethodName := ⟨RX9, "in", "(III)Z"⟩
abbrev cX9_isStreet : ByteArray := prog_11_method_4_code
def yX9_isStreet : MethodName := ⟨RX9, "isStreet", "(I)Z"⟩
abbrev cX9_write : ByteArray := prog_11_method_5_code
def yX9_write : MethodName := ⟨RX9, "write", "(I)I"⟩
abbrev cX9_erase : ByteArray := prog_11_method_6_code
def yX9_erase : MethodName := ⟨RX9, "erase", "()I"⟩
abbrev cX9_letterAt : ByteArray := prog_11_method_7_code
def yX9_letterAt : MethodName := ⟨RX9, "letterAt", "(I)I"⟩
abbrev cX9_isLetter : ByteArray := prog_11_method_8_code
def yX9_isLetter : MethodName := ⟨RX9, "isLetter", "(I)Z"⟩
abbrev cX9_isDigit : ByteArray := prog_11_method_9_code
def yX9_isDigit : MethodName := ⟨RX9, "isDigit", "(I)Z"⟩
abbrev cX9_token : ByteArray := prog_11_method_10_code
def yX9_token : MethodName := ⟨RX9, "token", "()V"⟩
abbrev cX9_isWord : ByteArray := prog_11_method_11_code
def yX9_isWord : MethodName := ⟨RX9, "isWord", "(IIIIIII)Z"⟩
abbrev cX9_number : ByteArray := prog_11_method_12_code
def yX9_number : MethodName := ⟨RX9, "number", "(III)Z"⟩
abbrev cX9_forgets : ByteArray := prog_11_method_13_code
def yX9_forgets : MethodName := ⟨RX9, "forgets", "()V"⟩
abbrev cX9_readsStreet : ByteArray := prog_11_method_14_code
def yX9_readsStreet : MethodName := ⟨RX9, "readsStreet", "(I)Z"⟩
abbrev cX9_readsSlope : ByteArray := prog_11_method_15_code
def yX9_readsSlope : MethodName := ⟨RX9, "readsSlope", "()Z"⟩
abbrev cX9_readsClause : ByteArray := prog_11_method_16_code
def yX9_readsClause : MethodName := ⟨RX9, "readsClause", "()Z"⟩
abbrev cX9_reads : ByteArray := prog_11_method_17_code
def yX9_reads : MethodName := ⟨RX9, "reads", "()I"⟩
abbrev cX9_lays : ByteArray := prog_11_method_18_code
def yX9_lays : MethodName := ⟨RX9, "lays", "()V"⟩
abbrev cX9_fault : ByteArray := prog_11_method_19_code
def yX9_fault : MethodName := ⟨RX9, "fault", "()I"⟩
abbrev cX9_town : ByteArray := prog_11_method_20_code
def yX9_town : MethodName := ⟨RX9, "town", "()I"⟩
abbrev cX9_wants : ByteArray := prog_11_method_21_code
def yX9_wants : MethodName := ⟨RX9, "wants", "(I)I"⟩
abbrev cX9_driestBut : ByteArray := prog_11_method_22_code
def yX9_driestBut : MethodName := ⟨RX9, "driestBut", "(I)I"⟩
abbrev cX9_choice : ByteArray := prog_11_method_23_code
def yX9_choice : MethodName := ⟨RX9, "choice", "(I)I"⟩
abbrev cX9_counts : ByteArray := prog_11_method_24_code
def yX9_counts : MethodName := ⟨RX9, "counts", "()V"⟩
abbrev cX9_carried : ByteArray := prog_11_method_25_code
def yX9_carried : MethodName := ⟨RX9, "carried", "()I"⟩
abbrev cX9_street : ByteArray := prog_11_method_26_code
def yX9_street : MethodName := ⟨RX9, "street", "(II)I"⟩
abbrev cX9_as : ByteArray := prog_11_method_27_code
def yX9_as : MethodName := ⟨RX9, "as", "(II)I"⟩
abbrev cX9_keeps : ByteArray := prog_11_method_28_code
def yX9_keeps : MethodName := ⟨RX9, "keeps", "()V"⟩
abbrev cX9_falls : ByteArray := prog_11_method_29_code
def yX9_falls : MethodName := ⟨RX9, "falls", "(I)I"⟩
abbrev cX9_rains : ByteArray := prog_11_method_30_code
def yX9_rains : MethodName := ⟨RX9, "rains", "(I)V"⟩
abbrev cX9_day : ByteArray := prog_11_method_31_code
def yX9_day : MethodName := ⟨RX9, "day", "()I"⟩
abbrev cX9_hose : ByteArray := prog_11_method_32_code
def yX9_hose : MethodName := ⟨RX9, "hose", "(II)I"⟩
abbrev cX9_poll : ByteArray := prog_11_method_33_code
def yX9_poll : MethodName := ⟨RX9, "poll", "(II)I"⟩
abbrev cX9_undo : ByteArray := prog_11_method_34_code
def yX9_undo : MethodName := ⟨RX9, "undo", "()I"⟩
abbrev cX9_keep : ByteArray := prog_11_method_35_code
def yX9_keep : MethodName := ⟨RX9, "keep", "(I)I"⟩
abbrev cX9_back : ByteArray := prog_11_method_36_code
def yX9_back : MethodName := ⟨RX9, "back", "(I)I"⟩
abbrev cX9_holds : ByteArray := prog_11_method_37_code
def yX9_holds : MethodName := ⟨RX9, "holds", "()V"⟩
abbrev cX9_lets : ByteArray := prog_11_method_38_code
def yX9_lets : MethodName := ⟨RX9, "lets", "()V"⟩
abbrev cX9_passes : ByteArray := prog_11_method_39_code
def yX9_passes : MethodName := ⟨RX9, "passes", "(I)V"⟩
abbrev cX9_where : ByteArray := prog_11_method_40_code
def yX9_where : MethodName := ⟨RX9, "where", "(I)I"⟩
abbrev cX9_wet : ByteArray := prog_11_method_41_code
def yX9_wet : MethodName := ⟨RX9, "wet", "(II)I"⟩
abbrev cX9_ones : ByteArray := prog_11_method_42_code
def yX9_ones : MethodName := ⟨RX9, "ones", "(I)I"⟩
abbrev cX9_carry : ByteArray := prog_11_method_43_code
def yX9_carry : MethodName := ⟨RX9, "carry", "(I)I"⟩
abbrev cX9_reach : ByteArray := prog_11_method_44_code
def yX9_reach : MethodName := ⟨RX9, "reach", "(I)I"⟩
abbrev cX9_sated : ByteArray := prog_11_method_45_code
def yX9_sated : MethodName := ⟨RX9, "sated", "()I"⟩
abbrev cX9_month : ByteArray := prog_11_method_46_code
def yX9_month : MethodName := ⟨RX9, "month", "(II)I"⟩
abbrev cX9_seen : ByteArray := prog_11_method_47_code
def yX9_seen : MethodName := ⟨RX9, "seen", "(II)I"⟩
abbrev cX9_forget : ByteArray := prog_11_method_48_code
def yX9_forget : MethodName := ⟨RX9, "forget", "()I"⟩
abbrev cX9_isSo : ByteArray := prog_11_method_49_code
def yX9_isSo : MethodName := ⟨RX9, "isSo", "()Z"⟩
abbrev cX9_polls : ByteArray := prog_11_method_50_code
def yX9_polls : MethodName := ⟨RX9, "polls", "(I)I"⟩
abbrev cX9_chance : ByteArray := prog_11_method_51_code
def yX9_chance : MethodName := ⟨RX9, "chance", "(III)I"⟩
abbrev cX9_count : ByteArray := prog_11_method_52_code
def yX9_count : MethodName := ⟨RX9, "count", "(I)I"⟩
def RJ6 : String := "java/lang/Integer"
def TJ6 : u_T := fun k => match k with
  | _ => ("", "", "", false)
def tyJ6 : Nat → FieldType := fun k => match k with
  | _ => .int
abbrev wsJ60 : List Cond := u_ws RJ6 TJ6 0
theorem nmJ6 : ∀ a, a < 0 → ∀ b, b < 0 → a ≠ b → (TJ6 a).2.1 ≠ (TJ6 b).2.1 := by decide +kernel
theorem tyJ6_ok : ∀ k, k < 0 → parseFieldDescriptor (TJ6 k).2.2.1 = some (tyJ6 k) := by decide +kernel
abbrev cJ6_bitCount_0f7a4 : ByteArray := prog_12_method_49_code
def yJ6_bitCount_0f7a4 : MethodName := ⟨RJ6, "bitCount", "(I)I"⟩
def RJ9 : String := "java/lang/Math"
def TJ9 : u_T := fun k => match k with
  | _ => ("", "", "", false)
def tyJ9 : Nat → FieldType := fun k => match k with
  | _ => .int
abbrev wsJ90 : List Cond := u_ws RJ9 TJ9 0
theorem nmJ9 : ∀ a, a < 0 → ∀ b, b < 0 → a ≠ b → (TJ9 a).2.1 ≠ (TJ9 b).2.1 := by decide +kernel
theorem tyJ9_ok : ∀ k, k < 0 → parseFieldDescriptor (TJ9 k).2.2.1 = some (tyJ9 k) := by decide +kernel
abbrev cJ9_max_7cf53 : ByteArray := prog_13_method_65_code
def yJ9_max_7cf53 : MethodName := ⟨RJ9, "max", "(II)I"⟩
abbrev cJ9_min_7cf53 : ByteArray := prog_13_method_69_code
def yJ9_min_7cf53 : MethodName := ⟨RJ9, "min", "(II)I"⟩
def RJ0 : String := "java/lang/String"
def TJ0 : u_T := fun k => match k with
  | _ => ("", "", "", false)
def tyJ0 : Nat → FieldType := fun k => match k with
  | _ => .int
abbrev wsJ00 : List Cond := u_ws RJ0 TJ0 0
theorem nmJ0 : ∀ a, a < 0 → ∀ b, b < 0 → a ≠ b → (TJ0 a).2.1 ≠ (TJ0 b).2.1 := by decide +kernel
theorem tyJ0_ok : ∀ k, k < 0 → parseFieldDescriptor (TJ0 k).2.2.1 = some (tyJ0 k) := by decide +kernel
abbrev cJ0_length_8abf5 : ByteArray := prog_14_method_54_code
def yJ0_length_8abf5 : MethodName := ⟨RJ0, "length", "()I"⟩
abbrev cJ0_charAt_5068e : ByteArray := prog_14_method_56_code
def yJ0_charAt_5068e : MethodName := ⟨RJ0, "charAt", "(I)C"⟩
abbrev cJ0_coder_7d493 : ByteArray := prog_14_method_152_code
def yJ0_coder_7d493 : MethodName := ⟨RJ0, "coder", "()B"⟩
abbrev cJ0_isLatin1_aae02 : ByteArray := prog_14_method_154_code
def yJ0_isLatin1_aae02 : MethodName := ⟨RJ0, "isLatin1", "()Z"⟩
abbrev cJ0_checkIndex_df160 : ByteArray := prog_14_method_155_code
def yJ0_checkIndex_df160 : MethodName := ⟨RJ0, "checkIndex", "(II)V"⟩
def RJ1 : String := "java/lang/StringLatin1"
def TJ1 : u_T := fun k => match k with
  | _ => ("", "", "", false)
def tyJ1 : Nat → FieldType := fun k => match k with
  | _ => .int
abbrev wsJ10 : List Cond := u_ws RJ1 TJ1 0
theorem nmJ1 : ∀ a, a < 0 → ∀ b, b < 0 → a ≠ b → (TJ1 a).2.1 ≠ (TJ1 b).2.1 := by decide +kernel
theorem tyJ1_ok : ∀ k, k < 0 → parseFieldDescriptor (TJ1 k).2.2.1 = some (tyJ1 k) := by decide +kernel
abbrev cJ1_charAt_3b067 : ByteArray := prog_15_method_2_code
def yJ1_charAt_3b067 : MethodName := ⟨RJ1, "charAt", "([BI)C"⟩
def RJ2 : String := "java/lang/StringUTF16"
def TJ2 : u_T := fun k => match k with
  | _ => ("", "", "", false)
def tyJ2 : Nat → FieldType := fun k => match k with
  | _ => .int
abbrev wsJ20 : List Cond := u_ws RJ2 TJ2 0
theorem nmJ2 : ∀ a, a < 0 → ∀ b, b < 0 → a ≠ b → (TJ2 a).2.1 ≠ (TJ2 b).2.1 := by decide +kernel
theorem tyJ2_ok : ∀ k, k < 0 → parseFieldDescriptor (TJ2 k).2.2.1 = some (tyJ2 k) := by decide +kernel
abbrev cJ2_getChar_3b067 : ByteArray := prog_16_method_5_code
def yJ2_getChar_3b067 : MethodName := ⟨RJ2, "getChar", "([BI)C"⟩
abbrev cJ2_length_9d52b : ByteArray := prog_16_method_6_code
def yJ2_length_9d52b : MethodName := ⟨RJ2, "length", "([B)I"⟩
abbrev cJ2_charAt_3b067 : ByteArray := prog_16_method_83_code
def yJ2_charAt_3b067 : MethodName := ⟨RJ2, "charAt", "([BI)C"⟩
abbrev cJ2_checkIndex_2214a : ByteArray := prog_16_method_91_code
def yJ2_checkIndex_2214a : MethodName := ⟨RJ2, "checkIndex", "(I[B)V"⟩
def RJ10 : String := "java/lang/System"
def TJ10 : u_T := fun k => match k with
  | _ => ("", "", "", false)
def tyJ10 : Nat → FieldType := fun k => match k with
  | _ => .int
abbrev wsJ100 : List Cond := u_ws RJ10 TJ10 0
theorem nmJ10 : ∀ a, a < 0 → ∀ b, b < 0 → a ≠ b → (TJ10 a).2.1 ≠ (TJ10 b).2.1 := by decide +kernel
theorem tyJ10_ok : ∀ k, k < 0 → parseFieldDescriptor (TJ10 k).2.2.1 = some (tyJ10 k) := by decide +kernel
def RJ3 : String := "jdk/internal/util/Preconditions"
def TJ3 : u_T := fun k => match k with
  | _ => ("", "", "", false)
def tyJ3 : Nat → FieldType := fun k => match k with
  | _ => .int
abbrev wsJ30 : List Cond := u_ws RJ3 TJ3 0
theorem nmJ3 : ∀ a, a < 0 → ∀ b, b < 0 → a ≠ b → (TJ3 a).2.1 ≠ (TJ3 b).2.1 := by decide +kernel
theorem tyJ3_ok : ∀ k, k < 0 → parseFieldDescriptor (TJ3 k).2.2.1 = some (tyJ3 k) := by decide +kernel
abbrev cJ3_checkIndex_8e157 : ByteArray := prog_18_method_11_code
def yJ3_checkIndex_8e157 : MethodName := ⟨RJ3, "checkIndex", "(IILjava/util/function/BiFunction;)I"⟩
def RL : String := "RainBallotLaw"
abbrev cL_law : ByteArray := code
def yL_law : MethodName := ⟨RL, "law", "([I)Z"⟩
abbrev vwCl : List vw_C := [(RX0, TX0, 3), (RX1, TX1, 4), (RX2, TX2, 3), (RX3, TX3, 8), (RX4, TX4, 5), (RX5, TX5, 2), (RX6, TX6, 3), (RX7, TX7, 5), (RX8, TX8, 10), (RX9, TX9, 20)]
