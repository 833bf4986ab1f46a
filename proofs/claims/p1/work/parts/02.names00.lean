def RX0 : String := "WrittenMoves$Board"
def TX0 : u_T := fun k => match k with
  | 0 => ("WrittenMoves$Board", "width", "I", false)
  | 1 => ("WrittenMoves$Board", "height", "I", false)
  | 2 => ("WrittenMoves$Board", "walls", "J", false)
  | 3 => ("WrittenMoves$Board", "pits", "J", false)
  | 4 => ("WrittenMoves$Board", "men", "I", false)
  | 5 => ("WrittenMoves$Board", "sides", "[I", true)
  | _ => ("WrittenMoves$Board", "fields", "[I", true)
def tyX0 : Nat → FieldType := fun k => match k with
  | 0 => .int
  | 1 => .int
  | 2 => .long
  | 3 => .long
  | 4 => .int
  | 5 => .array .int
  | _ => .array .int
abbrev wsX00 : List Cond := u_ws RX0 TX0 7
theorem nmX0 : ∀ a, a < 7 → ∀ b, b < 7 → a ≠ b → (TX0 a).2.1 ≠ (TX0 b).2.1 := by decide +kernel
theorem tyX0_ok : ∀ k, k < 7 → parseFieldDescriptor (TX0 k).2.2.1 = some (tyX0 k) := by decide +kernel
abbrev cX0_init : ByteArray := prog_2_method_1_code
def yX0_init : MethodName := ⟨RX0, "<init>", "()V"⟩
abbrev cX0_clear : ByteArray := prog_2_method_2_code
def yX0_clear : MethodName := ⟨RX0, "clear", "()V"⟩
abbrev cX0_copy : ByteArray := prog_2_method_3_code
def yX0_copy : MethodName := ⟨RX0, "copy", "(LWrittenMoves$Board;)V"⟩
abbrev cX0_addMan : ByteArray := prog_2_method_4_code
def yX0_addMan : MethodName := ⟨RX0, "addMan", "(II)V"⟩
abbrev cX0_hasField : ByteArray := prog_2_method_5_code
def yX0_hasField : MethodName := ⟨RX0, "hasField", "(I)Z"⟩
abbrev cX0_hasMan : ByteArray := prog_2_method_6_code
def yX0_hasMan : MethodName := ⟨RX0, "hasMan", "(I)Z"⟩
abbrev cX0_manAt : ByteArray := prog_2_method_7_code
def yX0_manAt : MethodName := ⟨RX0, "manAt", "(I)I"⟩
abbrev cX0_settle : ByteArray := prog_2_method_8_code
def yX0_settle : MethodName := ⟨RX0, "settle", "()V"⟩
abbrev cX0_isSound : ByteArray := prog_2_method_9_code
def yX0_isSound : MethodName := ⟨RX0, "isSound", "()Z"⟩
def RX1 : String := "WrittenMoves$Contest"
def TX1 : u_T := fun k => match k with
  | 0 => ("WrittenMoves$Contest", "listing", "LWrittenMoves$Listing;", true)
  | 1 => ("WrittenMoves$Contest", "stands", "[LWrittenMoves$Stand;", true)
  | 2 => ("WrittenMoves$Contest", "ends", "[[J", true)
  | 3 => ("WrittenMoves$Contest", "known", "[[I", true)
  | 4 => ("WrittenMoves$Contest", "decided", "[I", true)
  | 5 => ("WrittenMoves$Contest", "side", "I", false)
  | _ => ("WrittenMoves$Contest", "listed", "I", false)
def tyX1 : Nat → FieldType := fun k => match k with
  | 0 => .object "WrittenMoves$Listing"
  | 1 => .array (.object "WrittenMoves$Stand")
  | 2 => .array (.array .long)
  | 3 => .array (.array .int)
  | 4 => .array .int
  | 5 => .int
  | _ => .int
abbrev wsX10 : List Cond := u_ws RX1 TX1 7
theorem nmX1 : ∀ a, a < 7 → ∀ b, b < 7 → a ≠ b → (TX1 a).2.1 ≠ (TX1 b).2.1 := by decide +kernel
theorem tyX1_ok : ∀ k, k < 7 → parseFieldDescriptor (TX1 k).2.2.1 = some (tyX1 k) := by decide +kernel
abbrev cX1_init : ByteArray := prog_3_method_1_code
def yX1_init : MethodName := ⟨RX1, "<init>", "()V"⟩
abbrev cX1_isWon : ByteArray := prog_3_method_2_code
def yX1_isWon : MethodName := ⟨RX1, "isWon", "(LWrittenMoves$Board;III)Z"⟩
abbrev cX1_best : ByteArray := prog_3_method_3_code
def yX1_best : MethodName := ⟨RX1, "best", "(I)J"⟩
abbrev cX1_isWonWithin : ByteArray := prog_3_method_4_code
def yX1_isWonWithin : MethodName := ⟨RX1, "isWonWithin", "(I)Z"⟩
abbrev cX1_list : ByteArray := prog_3_method_5_code
def yX1_list : MethodName := ⟨RX1, "list", "(I)V"⟩
abbrev cX1_winsBehind : ByteArray := prog_3_method_6_code
def yX1_winsBehind : MethodName := ⟨RX1, "winsBehind", "(IJZ)Z"⟩
abbrev cX1_winsAt : ByteArray := prog_3_method_7_code
def yX1_winsAt : MethodName := ⟨RX1, "winsAt", "(II)Z"⟩
def RX2 : String := "WrittenMoves$Game"
def TX2 : u_T := fun k => match k with
  | 0 => ("WrittenMoves$Game", "moves", "I", false)
  | 1 => ("WrittenMoves$Game", "rules", "[J", true)
  | _ => ("WrittenMoves$Game", "fields", "[I", true)
def tyX2 : Nat → FieldType := fun k => match k with
  | 0 => .int
  | 1 => .array .long
  | _ => .array .int
abbrev wsX20 : List Cond := u_ws RX2 TX2 3
theorem nmX2 : ∀ a, a < 3 → ∀ b, b < 3 → a ≠ b → (TX2 a).2.1 ≠ (TX2 b).2.1 := by decide +kernel
theorem tyX2_ok : ∀ k, k < 3 → parseFieldDescriptor (TX2 k).2.2.1 = some (tyX2 k) := by decide +kernel
abbrev cX2_init : ByteArray := prog_4_method_1_code
def yX2_init : MethodName := ⟨RX2, "<init>", "()V"⟩
abbrev cX2_copy : ByteArray := prog_4_method_2_code
def yX2_copy : MethodName := ⟨RX2, "copy", "(LWrittenMoves$Game;)V"⟩
abbrev cX2_addMove : ByteArray := prog_4_method_3_code
def yX2_addMove : MethodName := ⟨RX2, "addMove", "(JI)V"⟩
abbrev cX2_hasMove : ByteArray := prog_4_method_4_code
def yX2_hasMove : MethodName := ⟨RX2, "hasMove", "(I)Z"⟩
abbrev cX2_ruleAhead : ByteArray := prog_4_method_5_code
def yX2_ruleAhead : MethodName := ⟨RX2, "ruleAhead", "(I)J"⟩
def RX3 : String := "WrittenMoves$Ground"
def TX3 : u_T := fun k => match k with
  | 0 => ("WrittenMoves$Ground", "from", "[J", true)
  | 1 => ("WrittenMoves$Ground", "shift", "[I", true)
  | 2 => ("WrittenMoves$Ground", "foes", "J", false)
  | 3 => ("WrittenMoves$Ground", "beside", "J", false)
  | _ => ("WrittenMoves$Ground", "halts", "J", false)
def tyX3 : Nat → FieldType := fun k => match k with
  | 0 => .array .long
  | 1 => .array .int
  | 2 => .long
  | 3 => .long
  | _ => .long
abbrev wsX30 : List Cond := u_ws RX3 TX3 5
theorem nmX3 : ∀ a, a < 5 → ∀ b, b < 5 → a ≠ b → (TX3 a).2.1 ≠ (TX3 b).2.1 := by decide +kernel
theorem tyX3_ok : ∀ k, k < 5 → parseFieldDescriptor (TX3 k).2.2.1 = some (tyX3 k) := by decide +kernel
abbrev cX3_init : ByteArray := prog_5_method_1_code
def yX3_init : MethodName := ⟨RX3, "<init>", "()V"⟩
abbrev cX3_lay : ByteArray := prog_5_method_2_code
def yX3_lay : MethodName := ⟨RX3, "lay", "(LWrittenMoves$Board;[III)V"⟩
abbrev cX3_layNeighbours : ByteArray := prog_5_method_3_code
def yX3_layNeighbours : MethodName := ⟨RX3, "layNeighbours", "(LWrittenMoves$Board;JJ)V"⟩
abbrev cX3_moved : ByteArray := prog_5_method_4_code
def yX3_moved : MethodName := ⟨RX3, "moved", "(JI)J"⟩
abbrev cX3_stepTo : ByteArray := prog_5_method_5_code
def yX3_stepTo : MethodName := ⟨RX3, "stepTo", "(II)I"⟩
def RX4 : String := "WrittenMoves$Listing"
def TX4 : u_T := fun k => match k with
  | 0 => ("WrittenMoves$Listing", "ground", "LWrittenMoves$Ground;", true)
  | 1 => ("WrittenMoves$Listing", "walks", "[LWrittenMoves$Walk;", true)
  | 2 => ("WrittenMoves$Listing", "signs", "[I", true)
  | 3 => ("WrittenMoves$Listing", "length", "I", false)
  | 4 => ("WrittenMoves$Listing", "longest", "I", false)
  | _ => ("WrittenMoves$Listing", "table", "[J", true)
def tyX4 : Nat → FieldType := fun k => match k with
  | 0 => .object "WrittenMoves$Ground"
  | 1 => .array (.object "WrittenMoves$Walk")
  | 2 => .array .int
  | 3 => .int
  | 4 => .int
  | _ => .array .long
abbrev wsX40 : List Cond := u_ws RX4 TX4 6
theorem nmX4 : ∀ a, a < 6 → ∀ b, b < 6 → a ≠ b → (TX4 a).2.1 ≠ (TX4 b).2.1 := by decide +kernel
theorem tyX4_ok : ∀ k, k < 6 → parseFieldDescriptor (TX4 k).2.2.1 = some (tyX4 k) := by decide +kernel
abbrev cX4_init : ByteArray := prog_6_method_1_code
def yX4_init : MethodName := ⟨RX4, "<init>", "()V"⟩
abbrev cX4_begin : ByteArray := prog_6_method_2_code
def yX4_begin : MethodName := ⟨RX4, "begin", "(LWrittenMoves$Board;[III)V"⟩
abbrev cX4_next : ByteArray := prog_6_method_3_code
def yX4_next : MethodName := ⟨RX4, "next", "()Z"⟩
abbrev cX4_reached : ByteArray := prog_6_method_4_code
def yX4_reached : MethodName := ⟨RX4, "reached", "()J"⟩
abbrev cX4_written : ByteArray := prog_6_method_5_code
def yX4_written : MethodName := ⟨RX4, "written", "()J"⟩
abbrev cX4_firstTo : ByteArray := prog_6_method_6_code
def yX4_firstTo : MethodName := ⟨RX4, "firstTo", "(J)J"⟩
abbrev cX4_firstWithin : ByteArray := prog_6_method_7_code
def yX4_firstWithin : MethodName := ⟨RX4, "firstWithin", "(J)J"⟩
abbrev cX4_reachOfAll : ByteArray := prog_6_method_8_code
def yX4_reachOfAll : MethodName := ⟨RX4, "reachOfAll", "()J"⟩
abbrev cX4_unlikeEnds : ByteArray := prog_6_method_9_code
def yX4_unlikeEnds : MethodName := ⟨RX4, "unlikeEnds", "()I"⟩
abbrev cX4_isNew : ByteArray := prog_6_method_10_code
def yX4_isNew : MethodName := ⟨RX4, "isNew", "(J)Z"⟩
def RX5 : String := "WrittenMoves$Play"
def TX5 : u_T := fun k => match k with
  | 0 => ("WrittenMoves$Play", "stand", "LWrittenMoves$Stand;", true)
  | 1 => ("WrittenMoves$Play", "ground", "LWrittenMoves$Ground;", true)
  | 2 => ("WrittenMoves$Play", "walk", "LWrittenMoves$Walk;", true)
  | _ => ("WrittenMoves$Play", "seed", "I", false)
def tyX5 : Nat → FieldType := fun k => match k with
  | 0 => .object "WrittenMoves$Stand"
  | 1 => .object "WrittenMoves$Ground"
  | 2 => .object "WrittenMoves$Walk"
  | _ => .int
abbrev wsX50 : List Cond := u_ws RX5 TX5 4
theorem nmX5 : ∀ a, a < 4 → ∀ b, b < 4 → a ≠ b → (TX5 a).2.1 ≠ (TX5 b).2.1 := by decide +kernel
theorem tyX5_ok : ∀ k, k < 4 → parseFieldDescriptor (TX5 k).2.2.1 = some (tyX5 k) := by decide +kernel
abbrev cX5_init : ByteArray := prog_7_method_1_code
def yX5_init : MethodName := ⟨RX5, "<init>", "()V"⟩
abbrev cX5_reachedBy : ByteArray := prog_7_method_2_code
def yX5_reachedBy : MethodName := ⟨RX5, "reachedBy", "(LWrittenMoves$Board;IJ)J"⟩
abbrev cX5_areAlike : ByteArray := prog_7_method_3_code
def yX5_areAlike : MethodName := ⟨RX5, "areAlike", "(LWrittenMoves$Board;JJ)Z"⟩
abbrev cX5_reached : ByteArray := prog_7_method_4_code
def yX5_reached : MethodName := ⟨RX5, "reached", "(JJ)J"⟩
abbrev cX5_follow : ByteArray := prog_7_method_5_code
def yX5_follow : MethodName := ⟨RX5, "follow", "(LWrittenMoves$Board;LWrittenMoves$Game;I)I"⟩
abbrev cX5_fatalOf : ByteArray := prog_7_method_6_code
def yX5_fatalOf : MethodName := ⟨RX5, "fatalOf", "(LWrittenMoves$Game;I)I"⟩
abbrev cX5_losesBy : ByteArray := prog_7_method_7_code
def yX5_losesBy : MethodName := ⟨RX5, "losesBy", "(LWrittenMoves$Game;I)Z"⟩
abbrev cX5_draw : ByteArray := prog_7_method_8_code
def yX5_draw : MethodName := ⟨RX5, "draw", "(LWrittenMoves$Board;II)I"⟩
abbrev cX5_below : ByteArray := prog_7_method_9_code
def yX5_below : MethodName := ⟨RX5, "below", "(I)I"⟩
abbrev cX5_fieldAt : ByteArray := prog_7_method_10_code
def yX5_fieldAt : MethodName := ⟨RX5, "fieldAt", "(JI)I"⟩
def RX6 : String := "WrittenMoves$Reader"
def TX6 : u_T := fun k => match k with
  | 0 => ("WrittenMoves$Reader", "board", "LWrittenMoves$Board;", true)
  | 1 => ("WrittenMoves$Reader", "game", "LWrittenMoves$Game;", true)
  | 2 => ("WrittenMoves$Reader", "rule", "J", false)
  | 3 => ("WrittenMoves$Reader", "fault", "I", false)
  | 4 => ("WrittenMoves$Reader", "place", "I", false)
  | 5 => ("WrittenMoves$Reader", "tape", "[I", false)
  | 6 => ("WrittenMoves$Reader", "length", "I", false)
  | 7 => ("WrittenMoves$Reader", "kind", "I", false)
  | 8 => ("WrittenMoves$Reader", "start", "I", false)
  | 9 => ("WrittenMoves$Reader", "next", "I", false)
  | _ => ("WrittenMoves$Reader", "value", "I", false)
def tyX6 : Nat → FieldType := fun k => match k with
  | 0 => .object "WrittenMoves$Board"
  | 1 => .object "WrittenMoves$Game"
  | 2 => .long
  | 3 => .int
  | 4 => .int
  | 5 => .array .int
  | 6 => .int
  | 7 => .int
  | 8 => .int
  | 9 => .int
  | _ => .int
abbrev wsX60 : List Cond := u_ws RX6 TX6 11
theorem nmX6 : ∀ a, a < 11 → ∀ b, b < 11 → a ≠ b → (TX6 a).2.1 ≠ (TX6 b).2.1 := by decide +kernel
theorem tyX6_ok : ∀ k, k < 11 → parseFieldDescriptor (TX6 k).2.2.1 = some (tyX6 k) := by decide +kernel
abbrev cX6_init : ByteArray := prog_8_method_1_code
def yX6_init : MethodName := ⟨RX6, "<init>", "()V"⟩
abbrev cX6_read : ByteArray := prog_8_method_2_code
def yX6_read : MethodName := ⟨RX6, "read", "(I[II)V"⟩
abbrev cX6_readBoardLine : ByteArray := prog_8_method_3_code
def yX6_readBoardLine : MethodName := ⟨RX6, "readBoardLine", "()Z"⟩
abbrev cX6_readSize : ByteArray := prog_8_method_4_code
def yX6_readSize : MethodName := ⟨RX6, "readSize", "()Z"⟩
abbrev cX6_readMan : ByteArray := prog_8_method_5_code
def yX6_readMan : MethodName := ⟨RX6, "readMan", "()Z"⟩
abbrev cX6_readFields : ByteArray := prog_8_method_6_code
def yX6_readFields : MethodName := ⟨RX6, "readFields", "()J"⟩
abbrev cX6_readGameLine : ByteArray := prog_8_method_7_code
def yX6_readGameLine : MethodName := ⟨RX6, "readGameLine", "()Z"⟩
abbrev cX6_takeRule : ByteArray := prog_8_method_8_code
def yX6_takeRule : MethodName := ⟨RX6, "takeRule", "()Z"⟩
abbrev cX6_takeNumber : ByteArray := prog_8_method_9_code
def yX6_takeNumber : MethodName := ⟨RX6, "takeNumber", "(II)I"⟩
abbrev cX6_takeMark : ByteArray := prog_8_method_10_code
def yX6_takeMark : MethodName := ⟨RX6, "takeMark", "()Z"⟩
abbrev cX6_note : ByteArray := prog_8_method_11_code
def yX6_note : MethodName := ⟨RX6, "note", "(II)V"⟩
abbrev cX6_isWord : ByteArray := prog_8_method_12_code
def yX6_isWord : MethodName := ⟨RX6, "isWord", "(Ljava/lang/String;)Z"⟩
abbrev cX6_advance : ByteArray := prog_8_method_13_code
def yX6_advance : MethodName := ⟨RX6, "advance", "()V"⟩
abbrev cX6_kindOf : ByteArray := prog_8_method_14_code
def yX6_kindOf : MethodName := ⟨RX6, "kindOf", "(I)I"⟩
def RX7 : String := "WrittenMoves$Stand"
def TX7 : u_T := fun k => match k with
  | 0 => ("WrittenMoves$Stand", "board", "LWrittenMoves$Board;", false)
  | 1 => ("WrittenMoves$Stand", "writer", "I", false)
  | 2 => ("WrittenMoves$Stand", "took", "I", false)
  | 3 => ("WrittenMoves$Stand", "at", "[I", true)
  | _ => ("WrittenMoves$Stand", "went", "[I", true)
def tyX7 : Nat → FieldType := fun k => match k with
  | 0 => .object "WrittenMoves$Board"
  | 1 => .int
  | 2 => .int
  | 3 => .array .int
  | _ => .array .int
abbrev wsX70 : List Cond := u_ws RX7 TX7 5
theorem nmX7 : ∀ a, a < 5 → ∀ b, b < 5 → a ≠ b → (TX7 a).2.1 ≠ (TX7 b).2.1 := by decide +kernel
theorem tyX7_ok : ∀ k, k < 5 → parseFieldDescriptor (TX7 k).2.2.1 = some (tyX7 k) := by decide +kernel
abbrev cX7_init : ByteArray := prog_9_method_1_code
def yX7_init : MethodName := ⟨RX7, "<init>", "(LWrittenMoves$Board;)V"⟩
abbrev cX7_begin : ByteArray := prog_9_method_2_code
def yX7_begin : MethodName := ⟨RX7, "begin", "(LWrittenMoves$Board;I)V"⟩
abbrev cX7_copy : ByteArray := prog_9_method_3_code
def yX7_copy : MethodName := ⟨RX7, "copy", "(LWrittenMoves$Stand;)V"⟩
abbrev cX7_isStanding : ByteArray := prog_9_method_4_code
def yX7_isStanding : MethodName := ⟨RX7, "isStanding", "(II)Z"⟩
abbrev cX7_menOf : ByteArray := prog_9_method_5_code
def yX7_menOf : MethodName := ⟨RX7, "menOf", "(I)I"⟩
abbrev cX7_isOver : ByteArray := prog_9_method_6_code
def yX7_isOver : MethodName := ⟨RX7, "isOver", "()Z"⟩
abbrev cX7_nextMan : ByteArray := prog_9_method_7_code
def yX7_nextMan : MethodName := ⟨RX7, "nextMan", "(I)I"⟩
abbrev cX7_make : ByteArray := prog_9_method_8_code
def yX7_make : MethodName := ⟨RX7, "make", "(I)V"⟩
abbrev cX7_go : ByteArray := prog_9_method_9_code
def yX7_go : MethodName := ⟨RX7, "go", "(II)V"⟩
abbrev cX7_braveOf : ByteArray := prog_9_method_10_code
def yX7_braveOf : MethodName := ⟨RX7, "braveOf", "(I)I"⟩
abbrev cX7_tell : ByteArray := prog_9_method_11_code
def yX7_tell : MethodName := ⟨RX7, "tell", "(I)I"⟩
def RX8 : String := "WrittenMoves$Told"
def TX8 : u_T := fun k => match k with
  | 0 => ("WrittenMoves$Told", "bytes", "I", false)
  | 1 => ("WrittenMoves$Told", "fault", "I", false)
  | 2 => ("WrittenMoves$Told", "place", "I", false)
  | 3 => ("WrittenMoves$Told", "tape", "[I", true)
  | 4 => ("WrittenMoves$Told", "counts", "[I", true)
  | 5 => ("WrittenMoves$Told", "boards", "[LWrittenMoves$Board;", true)
  | 6 => ("WrittenMoves$Told", "rules", "[J", true)
  | _ => ("WrittenMoves$Told", "games", "[LWrittenMoves$Game;", true)
def tyX8 : Nat → FieldType := fun k => match k with
  | 0 => .int
  | 1 => .int
  | 2 => .int
  | 3 => .array .int
  | 4 => .array .int
  | 5 => .array (.object "WrittenMoves$Board")
  | 6 => .array .long
  | _ => .array (.object "WrittenMoves$Game")
abbrev wsX80 : List Cond := u_ws RX8 TX8 8
theorem nmX8 : ∀ a, a < 8 → ∀ b, b < 8 → a ≠ b → (TX8 a).2.1 ≠ (TX8 b).2.1 := by decide +kernel
theorem tyX8_ok : ∀ k, k < 8 → parseFieldDescriptor (TX8 k).2.2.1 = some (tyX8 k) := by decide +kernel
abbrev cX8_init : ByteArray := prog_10_method_1_code
def yX8_init : MethodName := ⟨RX8, "<init>", "()V"⟩
abbrev cX8_copy : ByteArray := prog_10_method_2_code
def yX8_copy : MethodName := ⟨RX8, "copy", "(LWrittenMoves$Told;)V"⟩
abbrev cX8_put : ByteArray := prog_10_method_3_code
def yX8_put : MethodName := ⟨RX8, "put", "(I)V"⟩
abbrev cX8_boardAt : ByteArray := prog_10_method_4_code
def yX8_boardAt : MethodName := ⟨RX8, "boardAt", "(I)LWrittenMoves$Board;"⟩
abbrev cX8_hasRule : ByteArray := prog_10_method_5_code
def yX8_hasRule : MethodName := ⟨RX8, "hasRule", "(I)Z"⟩
abbrev cX8_gameAt : ByteArray := prog_10_method_6_code
def yX8_gameAt : MethodName := ⟨RX8, "gameAt", "(I)LWrittenMoves$Game;"⟩
abbrev cX8_hasRoom : ByteArray := prog_10_method_7_code
def yX8_hasRoom : MethodName := ⟨RX8, "hasRoom", "(II)Z"⟩
abbrev cX8_take : ByteArray := prog_10_method_8_code
def yX8_take : MethodName := ⟨RX8, "take", "(LWrittenMoves$Reader;II)I"⟩
def RX9 : String := "WrittenMoves$Trace"
def TX9 : u_T := fun k => match k with
  | 0 => ("WrittenMoves$Trace", "fields", "[I", true)
  | 1 => ("WrittenMoves$Trace", "length", "I", false)
  | 2 => ("WrittenMoves$Trace", "ground", "LWrittenMoves$Ground;", true)
  | 3 => ("WrittenMoves$Trace", "signs", "[I", true)
  | 4 => ("WrittenMoves$Trace", "maybe", "[Z", true)
  | 5 => ("WrittenMoves$Trace", "count", "I", false)
  | 6 => ("WrittenMoves$Trace", "ways", "[I", true)
  | _ => ("WrittenMoves$Trace", "least", "[I", true)
def tyX9 : Nat → FieldType := fun k => match k with
  | 0 => .array .int
  | 1 => .int
  | 2 => .object "WrittenMoves$Ground"
  | 3 => .array .int
  | 4 => .array .boolean
  | 5 => .int
  | 6 => .array .int
  | _ => .array .int
abbrev wsX90 : List Cond := u_ws RX9 TX9 8
theorem nmX9 : ∀ a, a < 8 → ∀ b, b < 8 → a ≠ b → (TX9 a).2.1 ≠ (TX9 b).2.1 := by decide +kernel
theorem tyX9_ok : ∀ k, k < 8 → parseFieldDescriptor (TX9 k).2.2.1 = some (tyX9 k) := by decide +kernel
abbrev cX9_init : ByteArray := prog_11_method_1_code
def yX9_init : MethodName := ⟨RX9, "<init>", "()V"⟩
abbrev cX9_weigh : ByteArray := prog_11_method_2_code
def yX9_weigh : MethodName := ⟨RX9, "weigh", "(LWrittenMoves$Board;IJI)V"⟩
abbrev cX9_waysFrom : ByteArray := prog_11_method_3_code
def yX9_waysFrom : MethodName := ⟨RX9, "waysFrom", "(I)I"⟩
abbrev cX9_spread : ByteArray := prog_11_method_4_code
def yX9_spread : MethodName := ⟨RX9, "spread", "(J)V"⟩
abbrev cX9_put : ByteArray := prog_11_method_5_code
def yX9_put : MethodName := ⟨RX9, "put", "(IZ)V"⟩
abbrev cX9_place : ByteArray := prog_11_method_6_code
def yX9_place : MethodName := ⟨RX9, "place", "(III)I"⟩
abbrev cX9_weighOne : ByteArray := prog_11_method_7_code
def yX9_weighOne : MethodName := ⟨RX9, "weighOne", "(IIII)V"⟩
abbrev cX9_join : ByteArray := prog_11_method_8_code
def yX9_join : MethodName := ⟨RX9, "join", "(III)V"⟩
abbrev cX9_weighSteps : ByteArray := prog_11_method_9_code
def yX9_weighSteps : MethodName := ⟨RX9, "weighSteps", "(III)Z"⟩
abbrev cX9_weighOn : ByteArray := prog_11_method_10_code
def yX9_weighOn : MethodName := ⟨RX9, "weighOn", "(IIII)V"⟩
abbrev cX9_follow : ByteArray := prog_11_method_11_code
def yX9_follow : MethodName := ⟨RX9, "follow", "(I)V"⟩
abbrev cX9_followOn : ByteArray := prog_11_method_12_code
def yX9_followOn : MethodName := ⟨RX9, "followOn", "(II)I"⟩
abbrev cX9_reach : ByteArray := prog_11_method_13_code
def yX9_reach : MethodName := ⟨RX9, "reach", "(I)I"⟩
abbrev cX9_firstSide : ByteArray := prog_11_method_14_code
def yX9_firstSide : MethodName := ⟨RX9, "firstSide", "(II)I"⟩
def RX10 : String := "WrittenMoves$Walk"
def TX10 : u_T := fun k => match k with
  | 0 => ("WrittenMoves$Walk", "at", "[J", true)
  | 1 => ("WrittenMoves$Walk", "aside", "[J", true)
  | 2 => ("WrittenMoves$Walk", "ended", "J", false)
  | 3 => ("WrittenMoves$Walk", "ahead", "I", false)
  | _ => ("WrittenMoves$Walk", "probe", "LWrittenMoves$Walk;", true)
def tyX10 : Nat → FieldType := fun k => match k with
  | 0 => .array .long
  | 1 => .array .long
  | 2 => .long
  | 3 => .int
  | _ => .object "WrittenMoves$Walk"
abbrev wsX100 : List Cond := u_ws RX10 TX10 5
theorem nmX10 : ∀ a, a < 5 → ∀ b, b < 5 → a ≠ b → (TX10 a).2.1 ≠ (TX10 b).2.1 := by decide +kernel
theorem tyX10_ok : ∀ k, k < 5 → parseFieldDescriptor (TX10 k).2.2.1 = some (tyX10 k) := by decide +kernel
abbrev cX10_init : ByteArray := prog_12_method_1_code
def yX10_init : MethodName := ⟨RX10, "<init>", "(LWrittenMoves$Walk;)V"⟩
abbrev cX10_begin : ByteArray := prog_12_method_2_code
def yX10_begin : MethodName := ⟨RX10, "begin", "(II)V"⟩
abbrev cX10_copy : ByteArray := prog_12_method_3_code
def yX10_copy : MethodName := ⟨RX10, "copy", "(LWrittenMoves$Walk;)V"⟩
abbrev cX10_reached : ByteArray := prog_12_method_4_code
def yX10_reached : MethodName := ⟨RX10, "reached", "()J"⟩
abbrev cX10_here : ByteArray := prog_12_method_5_code
def yX10_here : MethodName := ⟨RX10, "here", "()J"⟩
abbrev cX10_endsFrom : ByteArray := prog_12_method_6_code
def yX10_endsFrom : MethodName := ⟨RX10, "endsFrom", "(LWrittenMoves$Ground;IJJ)J"⟩
abbrev cX10_addAll : ByteArray := prog_12_method_7_code
def yX10_addAll : MethodName := ⟨RX10, "addAll", "(LWrittenMoves$Ground;J)V"⟩
abbrev cX10_addQuoteIfCan : ByteArray := prog_12_method_8_code
def yX10_addQuoteIfCan : MethodName := ⟨RX10, "addQuoteIfCan", "(LWrittenMoves$Ground;J)V"⟩
abbrev cX10_keepAside : ByteArray := prog_12_method_9_code
def yX10_keepAside : MethodName := ⟨RX10, "keepAside", "(II)V"⟩
abbrev cX10_add : ByteArray := prog_12_method_10_code
def yX10_add : MethodName := ⟨RX10, "add", "(LWrittenMoves$Ground;I)V"⟩
abbrev cX10_setAside : ByteArray := prog_12_method_11_code
def yX10_setAside : MethodName := ⟨RX10, "setAside", "(LWrittenMoves$Ground;I)V"⟩
abbrev cX10_goSteps : ByteArray := prog_12_method_12_code
def yX10_goSteps : MethodName := ⟨RX10, "goSteps", "(LWrittenMoves$Ground;I)V"⟩
abbrev cX10_goOn : ByteArray := prog_12_method_13_code
def yX10_goOn : MethodName := ⟨RX10, "goOn", "(LWrittenMoves$Ground;)V"⟩
abbrev cX10_stay : ByteArray := prog_12_method_14_code
def yX10_stay : MethodName := ⟨RX10, "stay", "(J)V"⟩
def RX11 : String := "WrittenMoves"
def TX11 : u_T := fun k => match k with
  | 0 => ("WrittenMoves", "told", "LWrittenMoves$Told;", true)
  | 1 => ("WrittenMoves", "images", "[LWrittenMoves$Told;", true)
  | 2 => ("WrittenMoves", "kept", "[Z", true)
  | 3 => ("WrittenMoves", "reader", "LWrittenMoves$Reader;", true)
  | 4 => ("WrittenMoves", "trace", "LWrittenMoves$Trace;", true)
  | 5 => ("WrittenMoves", "play", "LWrittenMoves$Play;", true)
  | 6 => ("WrittenMoves", "contest", "LWrittenMoves$Contest;", true)
  | _ => ("WrittenMoves", "listing", "LWrittenMoves$Listing;", true)
def tyX11 : Nat → FieldType := fun k => match k with
  | 0 => .object "WrittenMoves$Told"
  | 1 => .array (.object "WrittenMoves$Told")
  | 2 => .array .boolean
  | 3 => .object "WrittenMoves$Reader"
  | 4 => .object "WrittenMoves$Trace"
  | 5 => .object "WrittenMoves$Play"
  | 6 => .object "WrittenMoves$Contest"
  | _ => .object "WrittenMoves$Listing"
abbrev wsX110 : List Cond := u_ws RX11 TX11 8
theorem nmX11 : ∀ a, a < 8 → ∀ b, b < 8 → a ≠ b → (TX11 a).2.1 ≠ (TX11 b).2.1 := by decide +kernel
theorem tyX11_ok : ∀ k, k < 8 → parseFieldDescriptor (TX11 k).2.2.1 = some (tyX11 k) := by decide +kernel
abbrev cX11_init : ByteArray := prog_1_method_1_code
def yX11_init : MethodName := ⟨RX11, "<init>", "()V"⟩
abbrev cX11_feed : ByteArray := prog_1_method_2_code
def yX11_feed : MethodName := ⟨RX11, "feed", "(IIIII)I"⟩
abbrev cX11_end : ByteArray := prog_1_method_3_code
def yX11_end : MethodName := ⟨RX11, "end", "(I)I"⟩
abbrev cX11_text : ByteArray := prog_1_method_4_code
def yX11_text : MethodName := ⟨RX11, "text", "(II)I"⟩
abbrev cX11_fault : ByteArray := prog_1_method_5_code
def yX11_fault : MethodName := ⟨RX11, "fault", "(I)I"⟩
abbrev cX11_board : ByteArray := prog_1_method_6_code
def yX11_board : MethodName := ⟨RX11, "board", "(II)I"⟩
abbrev cX11_field : ByteArray := prog_1_method_7_code
def yX11_field : MethodName := ⟨RX11, "field", "(II)I"⟩
abbrev cX11_man : ByteArray := prog_1_method_8_code
def yX11_man : MethodName := ⟨RX11, "man", "(III)I"⟩
abbrev cX11_rule : ByteArray := prog_1_method_9_code
def yX11_rule : MethodName := ⟨RX11, "rule", "(II)I"⟩
abbrev cX11_ends : ByteArray := prog_1_method_10_code
def yX11_ends : MethodName := ⟨RX11, "ends", "(III)J"⟩
abbrev cX11_ways : ByteArray := prog_1_method_11_code
def yX11_ways : MethodName := ⟨RX11, "ways", "(IIII)I"⟩
abbrev cX11_path : ByteArray := prog_1_method_12_code
def yX11_path : MethodName := ⟨RX11, "path", "(IIIII)I"⟩
abbrev cX11_move : ByteArray := prog_1_method_13_code
def yX11_move : MethodName := ⟨RX11, "move", "(III)I"⟩
abbrev cX11_stop : ByteArray := prog_1_method_14_code
def yX11_stop : MethodName := ⟨RX11, "stop", "(II)I"⟩
abbrev cX11_state : ByteArray := prog_1_method_15_code
def yX11_state : MethodName := ⟨RX11, "state", "(IIII)I"⟩
abbrev cX11_may : ByteArray := prog_1_method_16_code
def yX11_may : MethodName := ⟨RX11, "may", "(IIII)J"⟩
abbrev cX11_fatal : ByteArray := prog_1_method_17_code
def yX11_fatal : MethodName := ⟨RX11, "fatal", "(IIIZ)I"⟩
abbrev cX11_loses : ByteArray := prog_1_method_18_code
def yX11_loses : MethodName := ⟨RX11, "loses", "(III)Z"⟩
abbrev cX11_brave : ByteArray := prog_1_method_19_code
def yX11_brave : MethodName := ⟨RX11, "brave", "(III)I"⟩
abbrev cX11_binds : ByteArray := prog_1_method_20_code
def yX11_binds : MethodName := ⟨RX11, "binds", "(IIII)I"⟩
abbrev cX11_drive : ByteArray := prog_1_method_21_code
def yX11_drive : MethodName := ⟨RX11, "drive", "(IIII)I"⟩
abbrev cX11_shorter : ByteArray := prog_1_method_22_code
def yX11_shorter : MethodName := ⟨RX11, "shorter", "(IIII)I"⟩
abbrev cX11_alike : ByteArray := prog_1_method_23_code
def yX11_alike : MethodName := ⟨RX11, "alike", "(III)Z"⟩
abbrev cX11_meanings : ByteArray := prog_1_method_24_code
def yX11_meanings : MethodName := ⟨RX11, "meanings", "(IIIZ)I"⟩
abbrev cX11_wins : ByteArray := prog_1_method_25_code
def yX11_wins : MethodName := ⟨RX11, "wins", "(IIIII)I"⟩
abbrev cX11_soonest : ByteArray := prog_1_method_26_code
def yX11_soonest : MethodName := ⟨RX11, "soonest", "(III)I"⟩
abbrev cX11_drawn : ByteArray := prog_1_method_27_code
def yX11_drawn : MethodName := ⟨RX11, "drawn", "(IIII)I"⟩
abbrev cX11_count : ByteArray := prog_1_method_28_code
def yX11_count : MethodName := ⟨RX11, "count", "(I)I"⟩
abbrev cX11_image : ByteArray := prog_1_method_29_code
def yX11_image : MethodName := ⟨RX11, "image", "(I)Z"⟩
abbrev cX11_again : ByteArray := prog_1_method_30_code
def yX11_again : MethodName := ⟨RX11, "again", "(I)Z"⟩
abbrev cX11_tellRule : ByteArray := prog_1_method_31_code
def yX11_tellRule : MethodName := ⟨RX11, "tellRule", "(JI)I"⟩
abbrev cX11_canTrace : ByteArray := prog_1_method_32_code
def yX11_canTrace : MethodName := ⟨RX11, "canTrace", "(IIII)Z"⟩
abbrev cX11_canContest : ByteArray := prog_1_method_33_code
def yX11_canContest : MethodName := ⟨RX11, "canContest", "(LWrittenMoves$Board;II)Z"⟩
abbrev cX11_bit : ByteArray := prog_1_method_34_code
def yX11_bit : MethodName := ⟨RX11, "bit", "(I)J"⟩
abbrev cX11_has : ByteArray := prog_1_method_35_code
def yX11_has : MethodName := ⟨RX11, "has", "(JI)Z"⟩
abbrev cX11_lengthOf : ByteArray := prog_1_method_36_code
def yX11_lengthOf : MethodName := ⟨RX11, "lengthOf", "(J)I"⟩
abbrev cX11_signOf : ByteArray := prog_1_method_37_code
def yX11_signOf : MethodName := ⟨RX11, "signOf", "(JI)I"⟩
abbrev cX11_withSign : ByteArray := prog_1_method_38_code
def yX11_withSign : MethodName := ⟨RX11, "withSign", "(JI)J"⟩
abbrev cX11_changedSign : ByteArray := prog_1_method_39_code
def yX11_changedSign : MethodName := ⟨RX11, "changedSign", "(JII)J"⟩
def RX12 : String := "WrittenMovesModel"
def TX12 : u_T := fun k => match k with
  | 0 => ("WrittenMovesModel", "code", "I", false)
  | 1 => ("WrittenMovesModel", "tape", "[B", true)
  | 2 => ("WrittenMovesModel", "size", "[I", true)
  | 3 => ("WrittenMovesModel", "fault", "[I", true)
  | 4 => ("WrittenMovesModel", "faultPlace", "[I", true)
  | 5 => ("WrittenMovesModel", "many", "[I", true)
  | 6 => ("WrittenMovesModel", "boards", "[I", true)
  | 7 => ("WrittenMovesModel", "rules", "[I", true)
  | 8 => ("WrittenMovesModel", "games", "[I", true)
  | 9 => ("WrittenMovesModel", "reached", "I", false)
  | 10 => ("WrittenMovesModel", "length", "I", false)
  | 11 => ("WrittenMovesModel", "begins", "I", false)
  | 12 => ("WrittenMovesModel", "sort", "I", false)
  | 13 => ("WrittenMovesModel", "value", "I", false)
  | 14 => ("WrittenMovesModel", "word", "J", false)
  | 15 => ("WrittenMovesModel", "wrongAt", "I", false)
  | 16 => ("WrittenMovesModel", "laterFault", "I", false)
  | 17 => ("WrittenMovesModel", "laterPlace", "I", false)
  | 18 => ("WrittenMovesModel", "told", "[I", true)
  | 19 => ("WrittenMovesModel", "readRule", "[I", true)
  | 20 => ("WrittenMovesModel", "read", "I", false)
  | 21 => ("WrittenMovesModel", "greatest", "I", false)
  | 22 => ("WrittenMovesModel", "wide", "I", false)
  | 23 => ("WrittenMovesModel", "high", "I", false)
  | 24 => ("WrittenMovesModel", "fields", "I", false)
  | 25 => ("WrittenMovesModel", "men", "I", false)
  | 26 => ("WrittenMovesModel", "walls", "J", false)
  | 27 => ("WrittenMovesModel", "pits", "J", false)
  | 28 => ("WrittenMovesModel", "side", "[I", true)
  | 29 => ("WrittenMovesModel", "stands", "[I", true)
  | 30 => ("WrittenMovesModel", "last", "[I", true)
  | 31 => ("WrittenMovesModel", "writer", "I", false)
  | 32 => ("WrittenMovesModel", "own", "J", false)
  | 33 => ("WrittenMovesModel", "foes", "J", false)
  | 34 => ("WrittenMovesModel", "ends", "J", false)
  | 35 => ("WrittenMovesModel", "single", "[J", true)
  | 36 => ("WrittenMovesModel", "result", "[J", true)
  | 37 => ("WrittenMovesModel", "half", "[J", true)
  | 38 => ("WrittenMovesModel", "quoted", "[I", true)
  | 39 => ("WrittenMovesModel", "quoteNow", "[J", true)
  | 40 => ("WrittenMovesModel", "quoteThen", "[J", true)
  | 41 => ("WrittenMovesModel", "singleQuote", "[J", true)
  | 42 => ("WrittenMovesModel", "quoteResult", "[J", true)
  | 43 => ("WrittenMovesModel", "rule", "[I", true)
  | 44 => ("WrittenMovesModel", "now", "[J", true)
  | 45 => ("WrittenMovesModel", "then", "[J", true)
  | 46 => ("WrittenMovesModel", "once", "[J", true)
  | 47 => ("WrittenMovesModel", "countNow", "[I", true)
  | 48 => ("WrittenMovesModel", "countThen", "[I", true)
  | 49 => ("WrittenMovesModel", "countOnce", "[I", true)
  | 50 => ("WrittenMovesModel", "stepsNow", "[I", true)
  | 51 => ("WrittenMovesModel", "stepsThen", "[I", true)
  | 52 => ("WrittenMovesModel", "stepsOnce", "[I", true)
  | 53 => ("WrittenMovesModel", "pathNow", "[J", true)
  | 54 => ("WrittenMovesModel", "pathThen", "[J", true)
  | 55 => ("WrittenMovesModel", "pathOnce", "[J", true)
  | 56 => ("WrittenMovesModel", "endCount", "[I", true)
  | 57 => ("WrittenMovesModel", "endSteps", "[I", true)
  | 58 => ("WrittenMovesModel", "endPath", "[J", true)
  | 59 => ("WrittenMovesModel", "game", "I", false)
  | 60 => ("WrittenMovesModel", "took", "Z", false)
  | 61 => ("WrittenMovesModel", "brave", "[Z", true)
  | 62 => ("WrittenMovesModel", "meant", "[J", true)
  | 63 => ("WrittenMovesModel", "known", "[J", true)
  | 64 => ("WrittenMovesModel", "isKnown", "[Z", true)
  | 65 => ("WrittenMovesModel", "most", "I", false)
  | 66 => ("WrittenMovesModel", "winner", "I", false)
  | 67 => ("WrittenMovesModel", "choices", "[J", true)
  | 68 => ("WrittenMovesModel", "manyChoices", "[I", true)
  | 69 => ("WrittenMovesModel", "keptStands", "[I", true)
  | 70 => ("WrittenMovesModel", "keptLast", "[I", true)
  | 71 => ("WrittenMovesModel", "keptWriter", "[I", true)
  | 72 => ("WrittenMovesModel", "bestRule", "[I", true)
  | 73 => ("WrittenMovesModel", "seed", "I", false)
  | _ => ("WrittenMovesModel", "kept", "[Z", true)
def tyX12 : Nat → FieldType := fun k => match k with
  | 0 => .int
  | 1 => .array .byte
  | 2 => .array .int
  | 3 => .array .int
  | 4 => .array .int
  | 5 => .array .int
  | 6 => .array .int
  | 7 => .array .int
  | 8 => .array .int
  | 9 => .int
  | 10 => .int
  | 11 => .int
  | 12 => .int
  | 13 => .int
  | 14 => .long
  | 15 => .int
  | 16 => .int
  | 17 => .int
  | 18 => .array .int
  | 19 => .array .int
  | 20 => .int
  | 21 => .int
  | 22 => .int
  | 23 => .int
  | 24 => .int
  | 25 => .int
  | 26 => .long
  | 27 => .long
  | 28 => .array .int
  | 29 => .array .int
  | 30 => .array .int
  | 31 => .int
  | 32 => .long
  | 33 => .long
  | 34 => .long
  | 35 => .array .long
  | 36 => .array .long
  | 37 => .array .long
  | 38 => .array .int
  | 39 => .array .long
  | 40 => .array .long
  | 41 => .array .long
  | 42 => .array .long
  | 43 => .array .int
  | 44 => .array .long
  | 45 => .array .long
  | 46 => .array .long
  | 47 => .array .int
  | 48 => .array .int
  | 49 => .array .int
  | 50 => .array .int
  | 51 => .array .int
  | 52 => .array .int
  | 53 => .array .long
  | 54 => .array .long
  | 55 => .array .long
  | 56 => .array .int
  | 57 => .array .int
  | 58 => .array .long
  | 59 => .int
  | 60 => .boolean
  | 61 => .array .boolean
  | 62 => .array .long
  | 63 => .array .long
  | 64 => .array .boolean
  | 65 => .int
  | 66 => .int
  | 67 => .array .long
  | 68 => .array .int
  | 69 => .array .int
  | 70 => .array .int
  | 71 => .array .int
  | 72 => .array .int
  | 73 => .int
  | _ => .array .boolean
abbrev wsX120 : List Cond := u_ws RX12 TX12 75
theorem nmX12 : ∀ a, a < 75 → ∀ b, b < 75 → a ≠ b → (TX12 a).2.1 ≠ (TX12 b).2.1 := by decide +kernel
theorem tyX12_ok : ∀ k, k < 75 → parseFieldDescriptor (TX12 k).2.2.1 = some (tyX12 k) := by decide +kernel
abbrev cX12_init : ByteArray := prog_14_method_1_code
def yX12_init : MethodName := ⟨RX12, "<init>", "()V"⟩
abbrev cX12_in : ByteArray := prog_14_method_3_code
def yX12_in : MethodName := ⟨RX12, "in", "(III)Z"⟩
abbrev cX12_has : ByteArray := prog_14_method_4_code
def yX12_has : MethodName := ⟨RX12, "has", "(JI)Z"⟩
abbrev cX12_copyRow : ByteArray := prog_14_method_5_code
def yX12_copyRow : MethodName := ⟨RX12, "copyRow", "([IIII)V"⟩
abbrev cX12_copyAll : ByteArray := prog_14_method_6_code
def yX12_copyAll : MethodName := ⟨RX12, "copyAll", "(II)V"⟩
abbrev cX12_is : ByteArray := prog_14_method_7_code
def yX12_is : MethodName := ⟨RX12, "is", "(II)Z"⟩
abbrev cX12_feed : ByteArray := prog_14_method_8_code
def yX12_feed : MethodName := ⟨RX12, "feed", "(IIIII)I"⟩
abbrev cX12_four : ByteArray := prog_14_method_9_code
def yX12_four : MethodName := ⟨RX12, "four", "(I)V"⟩
abbrev cX12_end : ByteArray := prog_14_method_10_code
def yX12_end : MethodName := ⟨RX12, "end", "(I)I"⟩
abbrev cX12_see : ByteArray := prog_14_method_11_code
def yX12_see : MethodName := ⟨RX12, "see", "()I"⟩
abbrev cX12_token : ByteArray := prog_14_method_12_code
def yX12_token : MethodName := ⟨RX12, "token", "()V"⟩
abbrev cX12_stops : ByteArray := prog_14_method_13_code
def yX12_stops : MethodName := ⟨RX12, "stops", "()Z"⟩
abbrev cX12_later : ByteArray := prog_14_method_14_code
def yX12_later : MethodName := ⟨RX12, "later", "(II)V"⟩
abbrev cX12_take : ByteArray := prog_14_method_15_code
def yX12_take : MethodName := ⟨RX12, "take", "(II)Z"⟩
abbrev cX12_takeField : ByteArray := prog_14_method_16_code
def yX12_takeField : MethodName := ⟨RX12, "takeField", "()Z"⟩
abbrev cX12_signOf : ByteArray := prog_14_method_17_code
def yX12_signOf : MethodName := ⟨RX12, "signOf", "(I)I"⟩
abbrev cX12_takeRule : ByteArray := prog_14_method_18_code
def yX12_takeRule : MethodName := ⟨RX12, "takeRule", "()Z"⟩
abbrev cX12_boardLine : ByteArray := prog_14_method_19_code
def yX12_boardLine : MethodName := ⟨RX12, "boardLine", "(JI)Z"⟩
abbrev cX12_gameLine : ByteArray := prog_14_method_20_code
def yX12_gameLine : MethodName := ⟨RX12, "gameLine", "(JI)Z"⟩
abbrev cX12_lines : ByteArray := prog_14_method_21_code
def yX12_lines : MethodName := ⟨RX12, "lines", "(I)Z"⟩
abbrev cX12_isWrongBoard : ByteArray := prog_14_method_22_code
def yX12_isWrongBoard : MethodName := ⟨RX12, "isWrongBoard", "()Z"⟩
abbrev cX12_ruleText : ByteArray := prog_14_method_23_code
def yX12_ruleText : MethodName := ⟨RX12, "ruleText", "()Z"⟩
abbrev cX12_readText : ByteArray := prog_14_method_24_code
def yX12_readText : MethodName := ⟨RX12, "readText", "(I)Z"⟩
abbrev cX12_store : ByteArray := prog_14_method_25_code
def yX12_store : MethodName := ⟨RX12, "store", "([III)V"⟩
abbrev cX12_mostOf : ByteArray := prog_14_method_26_code
def yX12_mostOf : MethodName := ⟨RX12, "mostOf", "(I)I"⟩
abbrev cX12_text : ByteArray := prog_14_method_27_code
def yX12_text : MethodName := ⟨RX12, "text", "(II)I"⟩
abbrev cX12_fault : ByteArray := prog_14_method_28_code
def yX12_fault : MethodName := ⟨RX12, "fault", "(I)I"⟩
abbrev cX12_hand : ByteArray := prog_14_method_29_code
def yX12_hand : MethodName := ⟨RX12, "hand", "(I)Z"⟩
abbrev cX12_ones : ByteArray := prog_14_method_30_code
def yX12_ones : MethodName := ⟨RX12, "ones", "(J)I"⟩
abbrev cX12_board : ByteArray := prog_14_method_31_code
def yX12_board : MethodName := ⟨RX12, "board", "(II)I"⟩
abbrev cX12_manAt : ByteArray := prog_14_method_32_code
def yX12_manAt : MethodName := ⟨RX12, "manAt", "(I)I"⟩
abbrev cX12_field : ByteArray := prog_14_method_33_code
def yX12_field : MethodName := ⟨RX12, "field", "(II)I"⟩
abbrev cX12_man : ByteArray := prog_14_method_34_code
def yX12_man : MethodName := ⟨RX12, "man", "(III)I"⟩
abbrev cX12_rule : ByteArray := prog_14_method_35_code
def yX12_rule : MethodName := ⟨RX12, "rule", "(II)I"⟩
abbrev cX12_look : ByteArray := prog_14_method_36_code
def yX12_look : MethodName := ⟨RX12, "look", "(I)V"⟩
abbrev cX12_next : ByteArray := prog_14_method_37_code
def yX12_next : MethodName := ⟨RX12, "next", "(II)I"⟩
abbrev cX12_step : ByteArray := prog_14_method_38_code
def yX12_step : MethodName := ⟨RX12, "step", "(II)I"⟩
abbrev cX12_endsThere : ByteArray := prog_14_method_39_code
def yX12_endsThere : MethodName := ⟨RX12, "endsThere", "(I)Z"⟩
abbrev cX12_isBeside : ByteArray := prog_14_method_40_code
def yX12_isBeside : MethodName := ⟨RX12, "isBeside", "(I)Z"⟩
abbrev cX12_stepsTo : ByteArray := prog_14_method_41_code
def yX12_stepsTo : MethodName := ⟨RX12, "stepsTo", "(II[J)V"⟩
abbrev cX12_goesOn : ByteArray := prog_14_method_42_code
def yX12_goesOn : MethodName := ⟨RX12, "goesOn", "(II[J)V"⟩
abbrev cX12_clear : ByteArray := prog_14_method_43_code
def yX12_clear : MethodName := ⟨RX12, "clear", "([J)V"⟩
abbrev cX12_copy : ByteArray := prog_14_method_44_code
def yX12_copy : MethodName := ⟨RX12, "copy", "([J[J)V"⟩
abbrev cX12_isEmpty : ByteArray := prog_14_method_45_code
def yX12_isEmpty : MethodName := ⟨RX12, "isEmpty", "([J)Z"⟩
abbrev cX12_plain : ByteArray := prog_14_method_46_code
def yX12_plain : MethodName := ⟨RX12, "plain", "(I[J[J)V"⟩
abbrev cX12_plainAt : ByteArray := prog_14_method_47_code
def yX12_plainAt : MethodName := ⟨RX12, "plainAt", "(III[J)V"⟩
abbrev cX12_maybe : ByteArray := prog_14_method_48_code
def yX12_maybe : MethodName := ⟨RX12, "maybe", "(I[J[J)V"⟩
abbrev cX12_join : ByteArray := prog_14_method_49_code
def yX12_join : MethodName := ⟨RX12, "join", "([J[J)V"⟩
abbrev cX12_isTurn : ByteArray := prog_14_method_50_code
def yX12_isTurn : MethodName := ⟨RX12, "isTurn", "(I)Z"⟩
abbrev cX12_quote : ByteArray := prog_14_method_51_code
def yX12_quote : MethodName := ⟨RX12, "quote", "([J[J)V"⟩
abbrev cX12_any : ByteArray := prog_14_method_52_code
def yX12_any : MethodName := ⟨RX12, "any", "(I[J[J)V"⟩
abbrev cX12_maybeQuote : ByteArray := prog_14_method_53_code
def yX12_maybeQuote : MethodName := ⟨RX12, "maybeQuote", "([J[J)V"⟩
abbrev cX12_endsOf : ByteArray := prog_14_method_54_code
def yX12_endsOf : MethodName := ⟨RX12, "endsOf", "(I)J"⟩
abbrev cX12_endsFrom : ByteArray := prog_14_method_55_code
def yX12_endsFrom : MethodName := ⟨RX12, "endsFrom", "(I)J"⟩
abbrev cX12_layRule : ByteArray := prog_14_method_56_code
def yX12_layRule : MethodName := ⟨RX12, "layRule", "(I)V"⟩
abbrev cX12_lay : ByteArray := prog_14_method_57_code
def yX12_lay : MethodName := ⟨RX12, "lay", "(III)Z"⟩
abbrev cX12_ends : ByteArray := prog_14_method_58_code
def yX12_ends : MethodName := ⟨RX12, "ends", "(III)J"⟩
abbrev cX12_isFirst : ByteArray := prog_14_method_59_code
def yX12_isFirst : MethodName := ⟨RX12, "isFirst", "(IJIJ)Z"⟩
abbrev cX12_comesTo : ByteArray := prog_14_method_60_code
def yX12_comesTo : MethodName := ⟨RX12, "comesTo", "(IIIIJ)V"⟩
abbrev cX12_endsAt : ByteArray := prog_14_method_61_code
def yX12_endsAt : MethodName := ⟨RX12, "endsAt", "(IIIJ)V"⟩
abbrev cX12_goesTo : ByteArray := prog_14_method_62_code
def yX12_goesTo : MethodName := ⟨RX12, "goesTo", "(IIIIJ)Z"⟩
abbrev cX12_pathBy : ByteArray := prog_14_method_63_code
def yX12_pathBy : MethodName := ⟨RX12, "pathBy", "(II)Z"⟩
abbrev cX12_pathOn : ByteArray := prog_14_method_64_code
def yX12_pathOn : MethodName := ⟨RX12, "pathOn", "(IIIIJ)Z"⟩
abbrev cX12_pathsBy : ByteArray := prog_14_method_65_code
def yX12_pathsBy : MethodName := ⟨RX12, "pathsBy", "(IZ)V"⟩
abbrev cX12_findPaths : ByteArray := prog_14_method_66_code
def yX12_findPaths : MethodName := ⟨RX12, "findPaths", "(I)V"⟩
abbrev cX12_ways : ByteArray := prog_14_method_67_code
def yX12_ways : MethodName := ⟨RX12, "ways", "(IIII)I"⟩
abbrev cX12_path : ByteArray := prog_14_method_68_code
def yX12_path : MethodName := ⟨RX12, "path", "(IIIII)I"⟩
abbrev cX12_moves : ByteArray := prog_14_method_69_code
def yX12_moves : MethodName := ⟨RX12, "moves", "()I"⟩
abbrev cX12_moveOf : ByteArray := prog_14_method_70_code
def yX12_moveOf : MethodName := ⟨RX12, "moveOf", "(II)I"⟩
abbrev cX12_move : ByteArray := prog_14_method_71_code
def yX12_move : MethodName := ⟨RX12, "move", "(III)I"⟩
abbrev cX12_menOf : ByteArray := prog_14_method_72_code
def yX12_menOf : MethodName := ⟨RX12, "menOf", "(I)I"⟩
abbrev cX12_isOver : ByteArray := prog_14_method_73_code
def yX12_isOver : MethodName := ⟨RX12, "isOver", "()Z"⟩
abbrev cX12_nextMan : ByteArray := prog_14_method_74_code
def yX12_nextMan : MethodName := ⟨RX12, "nextMan", "(I)I"⟩
abbrev cX12_goes : ByteArray := prog_14_method_75_code
def yX12_goes : MethodName := ⟨RX12, "goes", "(II)V"⟩
abbrev cX12_obeys : ByteArray := prog_14_method_76_code
def yX12_obeys : MethodName := ⟨RX12, "obeys", "(I)V"⟩
abbrev cX12_layMove : ByteArray := prog_14_method_77_code
def yX12_layMove : MethodName := ⟨RX12, "layMove", "(I)V"⟩
abbrev cX12_layQuote : ByteArray := prog_14_method_78_code
def yX12_layQuote : MethodName := ⟨RX12, "layQuote", "(I)V"⟩
abbrev cX12_canMove : ByteArray := prog_14_method_79_code
def yX12_canMove : MethodName := ⟨RX12, "canMove", "(I)Z"⟩
abbrev cX12_play : ByteArray := prog_14_method_80_code
def yX12_play : MethodName := ⟨RX12, "play", "(I)I"⟩
abbrev cX12_layGame : ByteArray := prog_14_method_81_code
def yX12_layGame : MethodName := ⟨RX12, "layGame", "(III)Z"⟩
abbrev cX12_stop : ByteArray := prog_14_method_82_code
def yX12_stop : MethodName := ⟨RX12, "stop", "(II)I"⟩
abbrev cX12_tells : ByteArray := prog_14_method_83_code
def yX12_tells : MethodName := ⟨RX12, "tells", "(I)I"⟩
abbrev cX12_state : ByteArray := prog_14_method_84_code
def yX12_state : MethodName := ⟨RX12, "state", "(IIII)I"⟩
abbrev cX12_may : ByteArray := prog_14_method_85_code
def yX12_may : MethodName := ⟨RX12, "may", "(IIII)J"⟩
abbrev cX12_isMove : ByteArray := prog_14_method_86_code
def yX12_isMove : MethodName := ⟨RX12, "isMove", "(III)Z"⟩
abbrev cX12_fatal : ByteArray := prog_14_method_87_code
def yX12_fatal : MethodName := ⟨RX12, "fatal", "(IIIZ)I"⟩
abbrev cX12_goodOf : ByteArray := prog_14_method_88_code
def yX12_goodOf : MethodName := ⟨RX12, "goodOf", "(J)J"⟩
abbrev cX12_loses : ByteArray := prog_14_method_89_code
def yX12_loses : MethodName := ⟨RX12, "loses", "(III)Z"⟩
abbrev cX12_brave : ByteArray := prog_14_method_90_code
def yX12_brave : MethodName := ⟨RX12, "brave", "(III)I"⟩
abbrev cX12_rulesOf : ByteArray := prog_14_method_91_code
def yX12_rulesOf : MethodName := ⟨RX12, "rulesOf", "(I)I"⟩
abbrev cX12_layNumber : ByteArray := prog_14_method_92_code
def yX12_layNumber : MethodName := ⟨RX12, "layNumber", "(II)V"⟩
abbrev cX12_ruleAt : ByteArray := prog_14_method_93_code
def yX12_ruleAt : MethodName := ⟨RX12, "ruleAt", "(I)I"⟩
abbrev cX12_isMan : ByteArray := prog_14_method_94_code
def yX12_isMan : MethodName := ⟨RX12, "isMan", "(II)Z"⟩
abbrev cX12_findRule : ByteArray := prog_14_method_95_code
def yX12_findRule : MethodName := ⟨RX12, "findRule", "(IIJ)Z"⟩
abbrev cX12_binds : ByteArray := prog_14_method_96_code
def yX12_binds : MethodName := ⟨RX12, "binds", "(IIII)I"⟩
abbrev cX12_drive : ByteArray := prog_14_method_97_code
def yX12_drive : MethodName := ⟨RX12, "drive", "(IIII)I"⟩
abbrev cX12_shorter : ByteArray := prog_14_method_98_code
def yX12_shorter : MethodName := ⟨RX12, "shorter", "(IIII)I"⟩
abbrev cX12_endsAlone : ByteArray := prog_14_method_99_code
def yX12_endsAlone : MethodName := ⟨RX12, "endsAlone", "(II)J"⟩
abbrev cX12_alike : ByteArray := prog_14_method_100_code
def yX12_alike : MethodName := ⟨RX12, "alike", "(III)Z"⟩
abbrev cX12_isNew : ByteArray := prog_14_method_101_code
def yX12_isNew : MethodName := ⟨RX12, "isNew", "(J)Z"⟩
abbrev cX12_meanings : ByteArray := prog_14_method_102_code
def yX12_meanings : MethodName := ⟨RX12, "meanings", "(IIIZ)I"⟩
abbrev cX12_keepMen : ByteArray := prog_14_method_103_code
def yX12_keepMen : MethodName := ⟨RX12, "keepMen", "(I)V"⟩
abbrev cX12_backTo : ByteArray := prog_14_method_104_code
def yX12_backTo : MethodName := ⟨RX12, "backTo", "(I)V"⟩
abbrev cX12_findChoices : ByteArray := prog_14_method_105_code
def yX12_findChoices : MethodName := ⟨RX12, "findChoices", "(I)V"⟩
abbrev cX12_obeyed : ByteArray := prog_14_method_106_code
def yX12_obeyed : MethodName := ⟨RX12, "obeyed", "(II)I"⟩
abbrev cX12_winsAtOnce : ByteArray := prog_14_method_107_code
def yX12_winsAtOnce : MethodName := ⟨RX12, "winsAtOnce", "(IJ)Z"⟩
abbrev cX12_side1 : ByteArray := prog_14_method_108_code
def yX12_side1 : MethodName := ⟨RX12, "side1", "(I)Z"⟩
abbrev cX12_standsAgainst : ByteArray := prog_14_method_109_code
def yX12_standsAgainst : MethodName := ⟨RX12, "standsAgainst", "(IJZ)Z"⟩
abbrev cX12_other : ByteArray := prog_14_method_110_code
def yX12_other : MethodName := ⟨RX12, "other", "(IZ)Z"⟩
abbrev cX12_winsBy : ByteArray := prog_14_method_111_code
def yX12_winsBy : MethodName := ⟨RX12, "winsBy", "(JI)Z"⟩
abbrev cX12_findWin : ByteArray := prog_14_method_112_code
def yX12_findWin : MethodName := ⟨RX12, "findWin", "(III)Z"⟩
abbrev cX12_canAsk : ByteArray := prog_14_method_113_code
def yX12_canAsk : MethodName := ⟨RX12, "canAsk", "(III)Z"⟩
abbrev cX12_wins : ByteArray := prog_14_method_114_code
def yX12_wins : MethodName := ⟨RX12, "wins", "(IIIII)I"⟩
abbrev cX12_soonest : ByteArray := prog_14_method_115_code
def yX12_soonest : MethodName := ⟨RX12, "soonest", "(III)I"⟩
abbrev cX12_draw : ByteArray := prog_14_method_116_code
def yX12_draw : MethodName := ⟨RX12, "draw", "(I)I"⟩
abbrev cX12_nthOf : ByteArray := prog_14_method_117_code
def yX12_nthOf : MethodName := ⟨RX12, "nthOf", "(JI)I"⟩
abbrev cX12_drawn : ByteArray := prog_14_method_118_code
def yX12_drawn : MethodName := ⟨RX12, "drawn", "(IIII)I"⟩
abbrev cX12_count : ByteArray := prog_14_method_119_code
def yX12_count : MethodName := ⟨RX12, "count", "(I)I"⟩
abbrev cX12_image : ByteArray := prog_14_method_120_code
def yX12_image : MethodName := ⟨RX12, "image", "(I)Z"⟩
abbrev cX12_again : ByteArray := prog_14_method_121_code
def yX12_again : MethodName := ⟨RX12, "again", "(I)Z"⟩
def RJ11 : String := "java/lang/Character"
def TJ11 : u_T := fun k => match k with
  | _ => ("", "", "", false)
def tyJ11 : Nat → FieldType := fun k => match k with
  | _ => .int
abbrev wsJ110 : List Cond := u_ws RJ11 TJ11 0
theorem nmJ11 : ∀ a, a < 0 → ∀ b, b < 0 → a ≠ b → (TJ11 a).2.1 ≠ (TJ11 b).2.1 := by decide +kernel
theorem tyJ11_ok : ∀ k, k < 0 → parseFieldDescriptor (TJ11 k).2.2.1 = some (tyJ11 k) := by decide +kernel
abbrev cJ11_isValidCodePoint_9a6ad : ByteArray := prog_15_method_11_code
def yJ11_isValidCodePoint_9a6ad : MethodName := ⟨RJ11, "isValidCodePoint", "(I)Z"⟩
abbrev cJ11_highSurrogate_5068e : ByteArray := prog_15_method_28_code
def yJ11_highSurrogate_5068e : MethodName := ⟨RJ11, "highSurrogate", "(I)C"⟩
abbrev cJ11_lowSurrogate_5068e : ByteArray := prog_15_method_29_code
def yJ11_lowSurrogate_5068e : MethodName := ⟨RJ11, "lowSurrogate", "(I)C"⟩
def RJ13 : String := "java/lang/Long"
def TJ13 : u_T := fun k => match k with
  | _ => ("", "", "", false)
def tyJ13 : Nat → FieldType := fun k => match k with
  | _ => .int
abbrev wsJ130 : List Cond := u_ws RJ13 TJ13 0
theorem nmJ13 : ∀ a, a < 0 → ∀ b, b < 0 → a ≠ b → (TJ13 a).2.1 ≠ (TJ13 b).2.1 := by decide +kernel
theorem tyJ13_ok : ∀ k, k < 0 → parseFieldDescriptor (TJ13 k).2.2.1 = some (tyJ13 k) := by decide +kernel
abbrev cJ13_bitCount_95d88 : ByteArray := prog_16_method_50_code
def yJ13_bitCount_95d88 : MethodName := ⟨RJ13, "bitCount", "(J)I"⟩
def RJ9 : String := "java/lang/Math"
def TJ9 : u_T := fun k => match k with
  | _ => ("", "", "", false)
def tyJ9 : Nat → FieldType := fun k => match k with
  | _ => .int
abbrev wsJ90 : List Cond := u_ws RJ9 TJ9 0
theorem nmJ9 : ∀ a, a < 0 → ∀ b, b < 0 → a ≠ b → (TJ9 a).2.1 ≠ (TJ9 b).2.1 := by decide +kernel
theorem tyJ9_ok : ∀ k, k < 0 → parseFieldDescriptor (TJ9 k).2.2.1 = some (tyJ9 k) := by decide +kernel
abbrev cJ9_max_7cf53 : ByteArray := prog_17_method_65_code
def yJ9_max_7cf53 : MethodName := ⟨RJ9, "max", "(II)I"⟩
abbrev cJ9_min_7cf53 : ByteArray := prog_17_method_69_code
def yJ9_min_7cf53 : MethodName := ⟨RJ9, "min", "(II)I"⟩
def RJ0 : String := "java/lang/String"
def TJ0 : u_T := fun k => match k with
  | _ => ("", "", "", false)
def tyJ0 : Nat → FieldType := fun k => match k with
  | _ => .int
abbrev wsJ00 : List Cond := u_ws RJ0 TJ0 0
theorem nmJ0 : ∀ a, a < 0 → ∀ b, b < 0 → a ≠ b → (TJ0 a).2.1 ≠ (TJ0 b).2.1 := by decide +kernel
theorem tyJ0_ok : ∀ k, k < 0 → parseFieldDescriptor (TJ0 k).2.2.1 = some (tyJ0 k) := by decide +kernel
abbrev cJ0_length_8abf5 : ByteArray := prog_18_method_54_code
def yJ0_length_8abf5 : MethodName := ⟨RJ0, "length", "()I"⟩
abbrev cJ0_charAt_5068e : ByteArray := prog_18_method_56_code
def yJ0_charAt_5068e : MethodName := ⟨RJ0, "charAt", "(I)C"⟩
abbrev cJ0_indexOf_0f7a4 : ByteArray := prog_18_method_79_code
def yJ0_indexOf_0f7a4 : MethodName := ⟨RJ0, "indexOf", "(I)I"⟩
abbrev cJ0_indexOf_7cf53 : ByteArray := prog_18_method_80_code
def yJ0_indexOf_7cf53 : MethodName := ⟨RJ0, "indexOf", "(II)I"⟩
abbrev cJ0_coder_7d493 : ByteArray := prog_18_method_152_code
def yJ0_coder_7d493 : MethodName := ⟨RJ0, "coder", "()B"⟩
abbrev cJ0_isLatin1_aae02 : ByteArray := prog_18_method_154_code
def yJ0_isLatin1_aae02 : MethodName := ⟨RJ0, "isLatin1", "()Z"⟩
abbrev cJ0_checkIndex_df160 : ByteArray := prog_18_method_155_code
def yJ0_checkIndex_df160 : MethodName := ⟨RJ0, "checkIndex", "(II)V"⟩
abbrev cJ0_checkBoundsBeginEnd_23922 : ByteArray := prog_18_method_158_code
def yJ0_checkBoundsBeginEnd_23922 : MethodName := ⟨RJ0, "checkBoundsBeginEnd", "(III)V"⟩
def RJ1 : String := "java/lang/StringLatin1"
def TJ1 : u_T := fun k => match k with
  | _ => ("", "", "", false)
def tyJ1 : Nat → FieldType := fun k => match k with
  | _ => .int
abbrev wsJ10 : List Cond := u_ws RJ1 TJ1 0
theorem nmJ1 : ∀ a, a < 0 → ∀ b, b < 0 → a ≠ b → (TJ1 a).2.1 ≠ (TJ1 b).2.1 := by decide +kernel
theorem tyJ1_ok : ∀ k, k < 0 → parseFieldDescriptor (TJ1 k).2.2.1 = some (tyJ1 k) := by decide +kernel
abbrev cJ1_charAt_3b067 : ByteArray := prog_19_method_2_code
def yJ1_charAt_3b067 : MethodName := ⟨RJ1, "charAt", "([BI)C"⟩
abbrev cJ1_canEncode_9a6ad : ByteArray := prog_19_method_4_code
def yJ1_canEncode_9a6ad : MethodName := ⟨RJ1, "canEncode", "(I)Z"⟩
abbrev cJ1_indexOf_4cfef : ByteArray := prog_19_method_22_code
def yJ1_indexOf_4cfef : MethodName := ⟨RJ1, "indexOf", "([BIII)I"⟩
abbrev cJ1_indexOfChar_4cfef : ByteArray := prog_19_method_23_code
def yJ1_indexOfChar_4cfef : MethodName := ⟨RJ1, "indexOfChar", "([BIII)I"⟩
def RJ2 : String := "java/lang/StringUTF16"
def TJ2 : u_T := fun k => match k with
  | _ => ("", "", "", false)
def tyJ2 : Nat → FieldType := fun k => match k with
  | _ => .int
abbrev wsJ20 : List Cond := u_ws RJ2 TJ2 0
theorem nmJ2 : ∀ a, a < 0 → ∀ b, b < 0 → a ≠ b → (TJ2 a).2.1 ≠ (TJ2 b).2.1 := by decide +kernel
theorem tyJ2_ok : ∀ k, k < 0 → parseFieldDescriptor (TJ2 k).2.2.1 = some (tyJ2 k) := by decide +kernel
abbrev cJ2_getChar_3b067 : ByteArray := prog_20_method_5_code
def yJ2_getChar_3b067 : MethodName := ⟨RJ2, "getChar", "([BI)C"⟩
abbrev cJ2_length_9d52b : ByteArray := prog_20_method_6_code
def yJ2_length_9d52b : MethodName := ⟨RJ2, "length", "([B)I"⟩
abbrev cJ2_indexOf_4cfef : ByteArray := prog_20_method_40_code
def yJ2_indexOf_4cfef : MethodName := ⟨RJ2, "indexOf", "([BIII)I"⟩
abbrev cJ2_indexOfChar_4cfef : ByteArray := prog_20_method_47_code
def yJ2_indexOfChar_4cfef : MethodName := ⟨RJ2, "indexOfChar", "([BIII)I"⟩
abbrev cJ2_indexOfCharUnsafe_4cfef : ByteArray := prog_20_method_48_code
def yJ2_indexOfCharUnsafe_4cfef : MethodName := ⟨RJ2, "indexOfCharUnsafe", "([BIII)I"⟩
abbrev cJ2_indexOfSupplementary_4cfef : ByteArray := prog_20_method_49_code
def yJ2_indexOfSupplementary_4cfef : MethodName := ⟨RJ2, "indexOfSupplementary", "([BIII)I"⟩
abbrev cJ2_charAt_3b067 : ByteArray := prog_20_method_83_code
def yJ2_charAt_3b067 : MethodName := ⟨RJ2, "charAt", "([BI)C"⟩
abbrev cJ2_checkIndex_2214a : ByteArray := prog_20_method_91_code
def yJ2_checkIndex_2214a : MethodName := ⟨RJ2, "checkIndex", "(I[B)V"⟩
abbrev cJ2_checkBoundsBeginEnd_d044e : ByteArray := prog_20_method_93_code
def yJ2_checkBoundsBeginEnd_d044e : MethodName := ⟨RJ2, "checkBoundsBeginEnd", "(II[B)V"⟩
def RJ10 : String := "java/lang/System"
def TJ10 : u_T := fun k => match k with
  | _ => ("", "", "", false)
def tyJ10 : Nat → FieldType := fun k => match k with
  | _ => .int
abbrev wsJ100 : List Cond := u_ws RJ10 TJ10 0
theorem nmJ10 : ∀ a, a < 0 → ∀ b, b < 0 → a ≠ b → (TJ10 a).2.1 ≠ (TJ10 b).2.1 := by decide +kernel
theorem tyJ10_ok : ∀ k, k < 0 → parseFieldDescriptor (TJ10 k).2.2.1 = some (tyJ10 k) := by decide +kernel
def RJ3 : String := "jdk/internal/util/Preconditions"
def TJ3 : u_T := fun k => match k with
  | _ => ("", "", "", false)
def tyJ3 : Nat → FieldType := fun k => match k with
  | _ => .int
abbrev wsJ30 : List Cond := u_ws RJ3 TJ3 0
theorem nmJ3 : ∀ a, a < 0 → ∀ b, b < 0 → a ≠ b → (TJ3 a).2.1 ≠ (TJ3 b).2.1 := by decide +kernel
theorem tyJ3_ok : ∀ k, k < 0 → parseFieldDescriptor (TJ3 k).2.2.1 = some (tyJ3 k) := by decide +kernel
abbrev cJ3_checkIndex_8e157 : ByteArray := prog_22_method_11_code
def yJ3_checkIndex_8e157 : MethodName := ⟨RJ3, "checkIndex", "(IILjava/util/function/BiFunction;)I"⟩
abbrev cJ3_checkFromToIndex_8c36e : ByteArray := prog_22_method_12_code
def yJ3_checkFromToIndex_8c36e : MethodName := ⟨RJ3, "checkFromToIndex", "(IIILjava/util/function/BiFunction;)I"⟩
def RL : String := "WrittenMovesLaw"
abbrev cL_law : ByteArray := code
def yL_law : MethodName := ⟨RL, "law", "([I)Z"⟩
theorem dX0_init_0 : decode cX0_init 0 = .ok (.aload_n 0, 1) := by decide +kernel
theorem dX0_init_1 : decode cX0_init 1 = .ok (.invokespecial 3, 3) := by decide +kernel
theorem dX0_init_4 : decode cX0_init 4 = .ok (.aload_n 0, 1) := by decide +kernel
theorem dX0_init_5 : decode cX0_init 5 = .ok (.bipush 6, 2) := by decide +kernel
theorem dX0_init_7 : decode cX0_init 7 = .ok (.newarray .int, 2) := by decide +kernel
theorem dX0_init_9 : decode cX0_init 9 = .ok (.putfield 9, 3) := by decide +kernel
theorem dX0_init_12 : decode cX0_init 12 = .ok (.aload_n 0, 1) := by decide +kernel
theorem dX0_init_13 : decode cX0_init 13 = .ok (.bipush 6, 2) := by decide +kernel
theorem dX0_init_15 : decode cX0_init 15 = .ok (.newarray .int, 2) := by decide +kernel
theorem dX0_init_17 : decode cX0_init 17 = .ok (.putfield 15, 3) := by decide +kernel
theorem dX0_init_20 : decode cX0_init 20 = .ok (.return_, 1) := by decide +kernel
theorem dX0_clear_0 : decode cX0_clear 0 = .ok (.aload_n 0, 1) := by decide +kernel
theorem dX0_clear_1 : decode cX0_clear 1 = .ok (.iconst 4, 1) := by decide +kernel
theorem dX0_clear_2 : decode cX0_clear 2 = .ok (.putfield 18, 3) := by decide +kernel
theorem dX0_clear_5 : decode cX0_clear 5 = .ok (.aload_n 0, 1) := by decide +kernel
theorem dX0_clear_6 : decode cX0_clear 6 = .ok (.iconst 4, 1) := by decide +kernel
theorem dX0_clear_7 : decode cX0_clear 7 = .ok (.putfield 22, 3) := by decide +kernel
theorem dX0_clear_10 : decode cX0_clear 10 = .ok (.aload_n 0, 1) := by decide +kernel
theorem dX0_clear_11 : decode cX0_clear 11 = .ok (.lconst 0, 1) := by decide +kernel
theorem dX0_clear_12 : decode cX0_clear 12 = .ok (.putfield 25, 3) := by decide +kernel
theorem dX0_clear_15 : decode cX0_clear 15 = .ok (.aload_n 0, 1) := by decide +kernel
theorem dX0_clear_16 : decode cX0_clear 16 = .ok (.lconst 0, 1) := by decide +kernel
theorem dX0_clear_17 : decode cX0_clear 17 = .ok (.putfield 29, 3) := by decide +kernel
theorem dX0_clear_20 : decode cX0_clear 20 = .ok (.aload_n 0, 1) := by decide +kernel
theorem dX0_clear_21 : decode cX0_clear 21 = .ok (.iconst 0, 1) := by decide +kernel
theorem dX0_clear_22 : decode cX0_clear 22 = .ok (.putfield 32, 3) := by decide +kernel
theorem dX0_clear_25 : decode cX0_clear 25 = .ok (.return_, 1) := by decide +kernel
theorem dX0_copy_0 : decode cX0_copy 0 = .ok (.aload_n 0, 1) := by decide +kernel
theorem dX0_copy_1 : decode cX0_copy 1 = .ok (.aload_n 1, 1) := by decide +kernel
theorem dX0_copy_2 : decode cX0_copy 2 = .ok (.getfield 18, 3) := by decide +kernel
theorem dX0_copy_5 : decode cX0_copy 5 = .ok (.putfield 18, 3) := by decide +kernel
theorem dX0_copy_8 : decode cX0_copy 8 = .ok (.aload_n 0, 1) := by decide +kernel
theorem dX0_copy_9 : decode cX0_copy 9 = .ok (.aload_n 1, 1) := by decide +kernel
theorem dX0_copy_10 : decode cX0_copy 10 = .ok (.getfield 22, 3) := by decide +kernel
theorem dX0_copy_13 : decode cX0_copy 13 = .ok (.putfield 22, 3) := by decide +kernel
theorem dX0_copy_16 : decode cX0_copy 16 = .ok (.aload_n 0, 1) := by decide +kernel
theorem dX0_copy_17 : decode cX0_copy 17 = .ok (.aload_n 1, 1) := by decide +kernel
theorem dX0_copy_18 : decode cX0_copy 18 = .ok (.getfield 25, 3) := by decide +kernel
theorem dX0_copy_21 : decode cX0_copy 21 = .ok (.putfield 25, 3) := by decide +kernel
theorem dX0_copy_24 : decode cX0_copy 24 = .ok (.aload_n 0, 1) := by decide +kernel
theorem dX0_copy_25 : decode cX0_copy 25 = .ok (.aload_n 1, 1) := by decide +kernel
theorem dX0_copy_26 : decode cX0_copy 26 = .ok (.getfield 29, 3) := by decide +kernel
theorem dX0_copy_29 : decode cX0_copy 29 = .ok (.putfield 29, 3) := by decide +kernel
theorem dX0_copy_32 : decode cX0_copy 32 = .ok (.aload_n 0, 1) := by decide +kernel
theorem dX0_copy_33 : decode cX0_copy 33 = .ok (.aload_n 1, 1) := by decide +kernel
theorem dX0_copy_34 : decode cX0_copy 34 = .ok (.getfield 32, 3) := by decide +kernel
theorem dX0_copy_37 : decode cX0_copy 37 = .ok (.putfield 32, 3) := by decide +kernel
theorem dX0_copy_40 : decode cX0_copy 40 = .ok (.aload_n 1, 1) := by decide +kernel
theorem dX0_copy_41 : decode cX0_copy 41 = .ok (.getfield 9, 3) := by decide +kernel
theorem dX0_copy_44 : decode cX0_copy 44 = .ok (.iconst 0, 1) := by decide +kernel
theorem dX0_copy_45 : decode cX0_copy 45 = .ok (.aload_n 0, 1) := by decide +kernel
theorem dX0_copy_46 : decode cX0_copy 46 = .ok (.getfield 9, 3) := by decide +kernel
theorem dX0_copy_49 : decode cX0_copy 49 = .ok (.iconst 0, 1) := by decide +kernel
theorem dX0_copy_50 : decode cX0_copy 50 = .ok (.bipush 6, 2) := by decide +kernel
theorem dX0_copy_52 : decode cX0_copy 52 = .ok (.invokestatic 35, 3) := by decide +kernel
theorem dX0_copy_55 : decode cX0_copy 55 = .ok (.aload_n 1, 1) := by decide +kernel
theorem dX0_copy_56 : decode cX0_copy 56 = .ok (.getfield 15, 3) := by decide +kernel
theorem dX0_copy_59 : decode cX0_copy 59 = .ok (.iconst 0, 1) := by decide +kernel
theorem dX0_copy_60 : decode cX0_copy 60 = .ok (.aload_n 0, 1) := by decide +kernel
theorem dX0_copy_61 : decode cX0_copy 61 = .ok (.getfield 15, 3) := by decide +kernel
theorem dX0_copy_64 : decode cX0_copy 64 = .ok (.iconst 0, 1) := by decide +kernel
theorem dX0_copy_65 : decode cX0_copy 65 = .ok (.bipush 6, 2) := by decide +kernel
theorem dX0_copy_67 : decode cX0_copy 67 = .ok (.invokestatic 35, 3) := by decide +kernel
theorem dX0_copy_70 : decode cX0_copy 70 = .ok (.return_, 1) := by decide +kernel
theorem dX0_addMan_0 : decode cX0_addMan 0 = .ok (.aload_n 0, 1) := by decide +kernel
theorem dX0_addMan_1 : decode cX0_addMan 1 = .ok (.getfield 32, 3) := by decide +kernel
theorem dX0_addMan_4 : decode cX0_addMan 4 = .ok (.bipush 6, 2) := by decide +kernel
theorem dX0_addMan_6 : decode cX0_addMan 6 = .ok (.if_icmp .ge 33, 3) := by decide +kernel
theorem dX0_addMan_9 : decode cX0_addMan 9 = .ok (.aload_n 0, 1) := by decide +kernel
theorem dX0_addMan_10 : decode cX0_addMan 10 = .ok (.getfield 9, 3) := by decide +kernel
theorem dX0_addMan_13 : decode cX0_addMan 13 = .ok (.aload_n 0, 1) := by decide +kernel
theorem dX0_addMan_14 : decode cX0_addMan 14 = .ok (.getfield 32, 3) := by decide +kernel
theorem dX0_addMan_17 : decode cX0_addMan 17 = .ok (.iload_n 1, 1) := by decide +kernel
theorem dX0_addMan_18 : decode cX0_addMan 18 = .ok (.iastore, 1) := by decide +kernel
theorem dX0_addMan_19 : decode cX0_addMan 19 = .ok (.aload_n 0, 1) := by decide +kernel
theorem dX0_addMan_20 : decode cX0_addMan 20 = .ok (.getfield 15, 3) := by decide +kernel
theorem dX0_addMan_23 : decode cX0_addMan 23 = .ok (.aload_n 0, 1) := by decide +kernel
theorem dX0_addMan_24 : decode cX0_addMan 24 = .ok (.getfield 32, 3) := by decide +kernel
theorem dX0_addMan_27 : decode cX0_addMan 27 = .ok (.iload_n 2, 1) := by decide +kernel
theorem dX0_addMan_28 : decode cX0_addMan 28 = .ok (.iastore, 1) := by decide +kernel
theorem dX0_addMan_29 : decode cX0_addMan 29 = .ok (.aload_n 0, 1) := by decide +kernel
theorem dX0_addMan_30 : decode cX0_addMan 30 = .ok (.dup, 1) := by decide +kernel
theorem dX0_addMan_31 : decode cX0_addMan 31 = .ok (.getfield 32, 3) := by decide +kernel
theorem dX0_addMan_34 : decode cX0_addMan 34 = .ok (.iconst 1, 1) := by decide +kernel
theorem dX0_addMan_35 : decode cX0_addMan 35 = .ok (.iadd, 1) := by decide +kernel
theorem dX0_addMan_36 : decode cX0_addMan 36 = .ok (.putfield 32, 3) := by decide +kernel
theorem dX0_addMan_39 : decode cX0_addMan 39 = .ok (.return_, 1) := by decide +kernel
theorem dX0_hasField_0 : decode cX0_hasField 0 = .ok (.iload_n 1, 1) := by decide +kernel
theorem dX0_hasField_1 : decode cX0_hasField 1 = .ok (.ifCond .lt 20, 3) := by decide +kernel
theorem dX0_hasField_4 : decode cX0_hasField 4 = .ok (.iload_n 1, 1) := by decide +kernel
theorem dX0_hasField_5 : decode cX0_hasField 5 = .ok (.aload_n 0, 1) := by decide +kernel
theorem dX0_hasField_6 : decode cX0_hasField 6 = .ok (.getfield 18, 3) := by decide +kernel
theorem dX0_hasField_9 : decode cX0_hasField 9 = .ok (.aload_n 0, 1) := by decide +kernel
theorem dX0_hasField_10 : decode cX0_hasField 10 = .ok (.getfield 22, 3) := by decide +kernel
theorem dX0_hasField_13 : decode cX0_hasField 13 = .ok (.imul, 1) := by decide +kernel
theorem dX0_hasField_14 : decode cX0_hasField 14 = .ok (.if_icmp .ge 7, 3) := by decide +kernel
theorem dX0_hasField_17 : decode cX0_hasField 17 = .ok (.iconst 1, 1) := by decide +kernel
theorem dX0_hasField_18 : decode cX0_hasField 18 = .ok (.goto 4, 3) := by decide +kernel
theorem dX0_hasField_21 : decode cX0_hasField 21 = .ok (.iconst 0, 1) := by decide +kernel
theorem dX0_hasField_22 : decode cX0_hasField 22 = .ok (.ireturn, 1) := by decide +kernel
theorem dX0_hasMan_0 : decode cX0_hasMan 0 = .ok (.iload_n 1, 1) := by decide +kernel
theorem dX0_hasMan_1 : decode cX0_hasMan 1 = .ok (.ifCond .lt 15, 3) := by decide +kernel
theorem dX0_hasMan_4 : decode cX0_hasMan 4 = .ok (.iload_n 1, 1) := by decide +kernel
theorem dX0_hasMan_5 : decode cX0_hasMan 5 = .ok (.aload_n 0, 1) := by decide +kernel
theorem dX0_hasMan_6 : decode cX0_hasMan 6 = .ok (.getfield 32, 3) := by decide +kernel
theorem dX0_hasMan_9 : decode cX0_hasMan 9 = .ok (.if_icmp .ge 7, 3) := by decide +kernel
theorem dX0_hasMan_12 : decode cX0_hasMan 12 = .ok (.iconst 1, 1) := by decide +kernel
theorem dX0_hasMan_13 : decode cX0_hasMan 13 = .ok (.goto 4, 3) := by decide +kernel
theorem dX0_hasMan_16 : decode cX0_hasMan 16 = .ok (.iconst 0, 1) := by decide +kernel
theorem dX0_hasMan_17 : decode cX0_hasMan 17 = .ok (.ireturn, 1) := by decide +kernel
theorem dX0_manAt_0 : decode cX0_manAt 0 = .ok (.iconst 0, 1) := by decide +kernel
theorem dX0_manAt_1 : decode cX0_manAt 1 = .ok (.istore_n 2, 1) := by decide +kernel
theorem dX0_manAt_2 : decode cX0_manAt 2 = .ok (.iload_n 2, 1) := by decide +kernel
theorem dX0_manAt_3 : decode cX0_manAt 3 = .ok (.aload_n 0, 1) := by decide +kernel
theorem dX0_manAt_4 : decode cX0_manAt 4 = .ok (.getfield 32, 3) := by decide +kernel
theorem dX0_manAt_7 : decode cX0_manAt 7 = .ok (.if_icmp .ge 21, 3) := by decide +kernel
theorem dX0_manAt_10 : decode cX0_manAt 10 = .ok (.aload_n 0, 1) := by decide +kernel
theorem dX0_manAt_11 : decode cX0_manAt 11 = .ok (.getfield 15, 3) := by decide +kernel
theorem dX0_manAt_14 : decode cX0_manAt 14 = .ok (.iload_n 2, 1) := by decide +kernel
theorem dX0_manAt_15 : decode cX0_manAt 15 = .ok (.iaload, 1) := by decide +kernel
theorem dX0_manAt_16 : decode cX0_manAt 16 = .ok (.iload_n 1, 1) := by decide +kernel
theorem dX0_manAt_17 : decode cX0_manAt 17 = .ok (.if_icmp .ne 5, 3) := by decide +kernel
theorem dX0_manAt_20 : decode cX0_manAt 20 = .ok (.iload_n 2, 1) := by decide +kernel
theorem dX0_manAt_21 : decode cX0_manAt 21 = .ok (.ireturn, 1) := by decide +kernel
theorem dX0_manAt_22 : decode cX0_manAt 22 = .ok (.iinc 2 1, 3) := by decide +kernel
theorem dX0_manAt_25 : decode cX0_manAt 25 = .ok (.goto (-23), 3) := by decide +kernel
theorem dX0_manAt_28 : decode cX0_manAt 28 = .ok (.iconst (-1), 1) := by decide +kernel
theorem dX0_manAt_29 : decode cX0_manAt 29 = .ok (.ireturn, 1) := by decide +kernel
theorem dX0_settle_0 : decode cX0_settle 0 = .ok (.aload_n 0, 1) := by decide +kernel
theorem dX0_settle_1 : decode cX0_settle 1 = .ok (.dup, 1) := by decide +kernel
theorem dX0_settle_2 : decode cX0_settle 2 = .ok (.getfield 29, 3) := by decide +kernel
theorem dX0_settle_5 : decode cX0_settle 5 = .ok (.aload_n 0, 1) := by decide +kernel
theorem dX0_settle_6 : decode cX0_settle 6 = .ok (.getfield 25, 3) := by decide +kernel
theorem dX0_settle_9 : decode cX0_settle 9 = .ok (.ldc2_w 41, 3) := by decide +kernel
theorem dX0_settle_12 : decode cX0_settle 12 = .ok (.lxor, 1) := by decide +kernel
theorem dX0_settle_13 : decode cX0_settle 13 = .ok (.land, 1) := by decide +kernel
theorem dX0_settle_14 : decode cX0_settle 14 = .ok (.putfield 29, 3) := by decide +kernel
theorem dX0_settle_17 : decode cX0_settle 17 = .ok (.return_, 1) := by decide +kernel
theorem dX0_isSound_0 : decode cX0_isSound 0 = .ok (.aload_n 0, 1) := by decide +kernel
theorem dX0_isSound_1 : decode cX0_isSound 1 = .ok (.getfield 18, 3) := by decide +kernel
theorem dX0_isSound_4 : decode cX0_isSound 4 = .ok (.aload_n 0, 1) := by decide +kernel
theorem dX0_isSound_5 : decode cX0_isSound 5 = .ok (.getfield 22, 3) := by decide +kernel
theorem dX0_isSound_8 : decode cX0_isSound 8 = .ok (.imul, 1) := by decide +kernel
theorem dX0_isSound_9 : decode cX0_isSound 9 = .ok (.invokestatic 43, 3) := by decide +kernel
theorem dX0_isSound_12 : decode cX0_isSound 12 = .ok (.lconst 1, 1) := by decide +kernel
theorem dX0_isSound_13 : decode cX0_isSound 13 = .ok (.lsub, 1) := by decide +kernel
theorem dX0_isSound_14 : decode cX0_isSound 14 = .ok (.lstore_n 1, 1) := by decide +kernel
theorem dX0_isSound_15 : decode cX0_isSound 15 = .ok (.aload_n 0, 1) := by decide +kernel
theorem dX0_isSound_16 : decode cX0_isSound 16 = .ok (.getfield 25, 3) := by decide +kernel
theorem dX0_isSound_19 : decode cX0_isSound 19 = .ok (.aload_n 0, 1) := by decide +kernel
theorem dX0_isSound_20 : decode cX0_isSound 20 = .ok (.getfield 29, 3) := by decide +kernel
theorem dX0_isSound_23 : decode cX0_isSound 23 = .ok (.lor, 1) := by decide +kernel
theorem dX0_isSound_24 : decode cX0_isSound 24 = .ok (.lstore_n 3, 1) := by decide +kernel
theorem dX0_isSound_25 : decode cX0_isSound 25 = .ok (.lload_n 3, 1) := by decide +kernel
theorem dX0_isSound_26 : decode cX0_isSound 26 = .ok (.lload_n 1, 1) := by decide +kernel
theorem dX0_isSound_27 : decode cX0_isSound 27 = .ok (.ldc2_w 41, 3) := by decide +kernel
theorem dX0_isSound_30 : decode cX0_isSound 30 = .ok (.lxor, 1) := by decide +kernel
theorem dX0_isSound_31 : decode cX0_isSound 31 = .ok (.land, 1) := by decide +kernel
theorem dX0_isSound_32 : decode cX0_isSound 32 = .ok (.lconst 0, 1) := by decide +kernel
theorem dX0_isSound_33 : decode cX0_isSound 33 = .ok (.lcmp, 1) := by decide +kernel
theorem dX0_isSound_34 : decode cX0_isSound 34 = .ok (.ifCond .eq 5, 3) := by decide +kernel
theorem dX0_isSound_37 : decode cX0_isSound 37 = .ok (.iconst 0, 1) := by decide +kernel
theorem dX0_isSound_38 : decode cX0_isSound 38 = .ok (.ireturn, 1) := by decide +kernel
theorem dX0_isSound_39 : decode cX0_isSound 39 = .ok (.iconst 0, 1) := by decide +kernel
theorem dX0_isSound_40 : decode cX0_isSound 40 = .ok (.istore 5, 2) := by decide +kernel
theorem dX0_isSound_42 : decode cX0_isSound 42 = .ok (.iload 5, 2) := by decide +kernel
theorem dX0_isSound_44 : decode cX0_isSound 44 = .ok (.aload_n 0, 1) := by decide +kernel
theorem dX0_isSound_45 : decode cX0_isSound 45 = .ok (.getfield 32, 3) := by decide +kernel
theorem dX0_isSound_48 : decode cX0_isSound 48 = .ok (.if_icmp .ge 43, 3) := by decide +kernel
theorem dX0_isSound_51 : decode cX0_isSound 51 = .ok (.aload_n 0, 1) := by decide +kernel
theorem dX0_isSound_52 : decode cX0_isSound 52 = .ok (.getfield 15, 3) := by decide +kernel
theorem dX0_isSound_55 : decode cX0_isSound 55 = .ok (.iload 5, 2) := by decide +kernel
theorem dX0_isSound_57 : decode cX0_isSound 57 = .ok (.iaload, 1) := by decide +kernel
theorem dX0_isSound_58 : decode cX0_isSound 58 = .ok (.invokestatic 43, 3) := by decide +kernel
theorem dX0_isSound_61 : decode cX0_isSound 61 = .ok (.lstore 6, 2) := by decide +kernel
theorem dX0_isSound_63 : decode cX0_isSound 63 = .ok (.lload 6, 2) := by decide +kernel
theorem dX0_isSound_65 : decode cX0_isSound 65 = .ok (.lload_n 1, 1) := by decide +kernel
theorem dX0_isSound_66 : decode cX0_isSound 66 = .ok (.land, 1) := by decide +kernel
theorem dX0_isSound_67 : decode cX0_isSound 67 = .ok (.lload_n 3, 1) := by decide +kernel
theorem dX0_isSound_68 : decode cX0_isSound 68 = .ok (.ldc2_w 41, 3) := by decide +kernel
theorem dX0_isSound_71 : decode cX0_isSound 71 = .ok (.lxor, 1) := by decide +kernel
theorem dX0_isSound_72 : decode cX0_isSound 72 = .ok (.land, 1) := by decide +kernel
theorem dX0_isSound_73 : decode cX0_isSound 73 = .ok (.lconst 0, 1) := by decide +kernel
theorem dX0_isSound_74 : decode cX0_isSound 74 = .ok (.lcmp, 1) := by decide +kernel
theorem dX0_isSound_75 : decode cX0_isSound 75 = .ok (.ifCond .ne 5, 3) := by decide +kernel
theorem dX0_isSound_78 : decode cX0_isSound 78 = .ok (.iconst 0, 1) := by decide +kernel
theorem dX0_isSound_79 : decode cX0_isSound 79 = .ok (.ireturn, 1) := by decide +kernel
theorem dX0_isSound_80 : decode cX0_isSound 80 = .ok (.lload_n 3, 1) := by decide +kernel
theorem dX0_isSound_81 : decode cX0_isSound 81 = .ok (.lload 6, 2) := by decide +kernel
theorem dX0_isSound_83 : decode cX0_isSound 83 = .ok (.lor, 1) := by decide +kernel
theorem dX0_isSound_84 : decode cX0_isSound 84 = .ok (.lstore_n 3, 1) := by decide +kernel
theorem dX0_isSound_85 : decode cX0_isSound 85 = .ok (.iinc 5 1, 3) := by decide +kernel
theorem dX0_isSound_88 : decode cX0_isSound 88 = .ok (.goto (-46), 3) := by decide +kernel
theorem dX0_isSound_91 : decode cX0_isSound 91 = .ok (.iconst 1, 1) := by decide +kernel
theorem dX0_isSound_92 : decode cX0_isSound 92 = .ok (.ireturn, 1) := by decide +kernel
theorem dX1_init_0 : decode cX1_init 0 = .ok (.aload_n 0, 1) := by decide +kernel
theorem dX1_init_1 : decode cX1_init 1 = .ok (.invokespecial 3, 3) := by decide +kernel
theorem dX1_init_4 : decode cX1_init 4 = .ok (.aload_n 0, 1) := by decide +kernel
theorem dX1_init_5 : decode cX1_init 5 = .ok (.new 9, 3) := by decide +kernel
theorem dX1_init_8 : decode cX1_init 8 = .ok (.dup, 1) := by decide +kernel
theorem dX1_init_9 : decode cX1_init 9 = .ok (.invokespecial 11, 3) := by decide +kernel
theorem dX1_init_12 : decode cX1_init 12 = .ok (.putfield 12, 3) := by decide +kernel
theorem dX1_init_15 : decode cX1_init 15 = .ok (.aload_n 0, 1) := by decide +kernel
theorem dX1_init_16 : decode cX1_init 16 = .ok (.iconst 4, 1) := by decide +kernel
theorem dX1_init_17 : decode cX1_init 17 = .ok (.anewarray 18, 3) := by decide +kernel
theorem dX1_init_20 : decode cX1_init 20 = .ok (.putfield 20, 3) := by decide +kernel
theorem dX1_init_23 : decode cX1_init 23 = .ok (.aload_n 0, 1) := by decide +kernel
theorem dX1_init_24 : decode cX1_init 24 = .ok (.iconst 4, 1) := by decide +kernel
theorem dX1_init_25 : decode cX1_init 25 = .ok (.bipush 110, 2) := by decide +kernel
theorem dX1_init_27 : decode cX1_init 27 = .ok (.multianewarray 24 2, 4) := by decide +kernel
theorem dX1_init_31 : decode cX1_init 31 = .ok (.putfield 26, 3) := by decide +kernel
theorem dX1_init_34 : decode cX1_init 34 = .ok (.aload_n 0, 1) := by decide +kernel
theorem dX1_init_35 : decode cX1_init 35 = .ok (.iconst 4, 1) := by decide +kernel
theorem dX1_init_36 : decode cX1_init 36 = .ok (.bipush 37, 2) := by decide +kernel
theorem dX1_init_38 : decode cX1_init 38 = .ok (.multianewarray 29 2, 4) := by decide +kernel
theorem dX1_init_42 : decode cX1_init 42 = .ok (.putfield 31, 3) := by decide +kernel
theorem dX1_init_45 : decode cX1_init 45 = .ok (.aload_n 0, 1) := by decide +kernel
theorem dX1_init_46 : decode cX1_init 46 = .ok (.iconst 4, 1) := by decide +kernel
theorem dX1_init_47 : decode cX1_init 47 = .ok (.newarray .int, 2) := by decide +kernel
theorem dX1_init_49 : decode cX1_init 49 = .ok (.putfield 34, 3) := by decide +kernel
theorem dX1_init_52 : decode cX1_init 52 = .ok (.new 38, 3) := by decide +kernel
theorem dX1_init_55 : decode cX1_init 55 = .ok (.dup, 1) := by decide +kernel
theorem dX1_init_56 : decode cX1_init 56 = .ok (.invokespecial 40, 3) := by decide +kernel
theorem dX1_init_59 : decode cX1_init 59 = .ok (.astore_n 1, 1) := by decide +kernel
theorem dX1_init_60 : decode cX1_init 60 = .ok (.iconst 0, 1) := by decide +kernel
theorem dX1_init_61 : decode cX1_init 61 = .ok (.istore_n 2, 1) := by decide +kernel
theorem dX1_init_62 : decode cX1_init 62 = .ok (.iload_n 2, 1) := by decide +kernel
theorem dX1_init_63 : decode cX1_init 63 = .ok (.iconst 3, 1) := by decide +kernel
theorem dX1_init_64 : decode cX1_init 64 = .ok (.if_icmp .gt 23, 3) := by decide +kernel
theorem dX1_init_67 : decode cX1_init 67 = .ok (.aload_n 0, 1) := by decide +kernel
theorem dX1_init_68 : decode cX1_init 68 = .ok (.getfield 20, 3) := by decide +kernel
theorem dX1_init_71 : decode cX1_init 71 = .ok (.iload_n 2, 1) := by decide +kernel
theorem dX1_init_72 : decode cX1_init 72 = .ok (.new 18, 3) := by decide +kernel
theorem dX1_init_75 : decode cX1_init 75 = .ok (.dup, 1) := by decide +kernel
theorem dX1_init_76 : decode cX1_init 76 = .ok (.aload_n 1, 1) := by decide +kernel
theorem dX1_init_77 : decode cX1_init 77 = .ok (.invokespecial 41, 3) := by decide +kernel
theorem dX1_init_80 : decode cX1_init 80 = .ok (.aastore, 1) := by decide +kernel
theorem dX1_init_81 : decode cX1_init 81 = .ok (.iinc 2 1, 3) := by decide +kernel
theorem dX1_init_84 : decode cX1_init 84 = .ok (.goto (-22), 3) := by decide +kernel
theorem dX1_init_87 : decode cX1_init 87 = .ok (.return_, 1) := by decide +kernel
theorem dX1_isWon_0 : decode cX1_isWon 0 = .ok (.aload_n 0, 1) := by decide +kernel
theorem dX1_isWon_1 : decode cX1_isWon 1 = .ok (.iload_n 2, 1) := by decide +kernel
theorem dX1_isWon_2 : decode cX1_isWon 2 = .ok (.putfield 44, 3) := by decide +kernel
theorem dX1_isWon_5 : decode cX1_isWon 5 = .ok (.aload_n 0, 1) := by decide +kernel
theorem dX1_isWon_6 : decode cX1_isWon 6 = .ok (.iload_n 3, 1) := by decide +kernel
theorem dX1_isWon_7 : decode cX1_isWon 7 = .ok (.iconst 1, 1) := by decide +kernel
theorem dX1_isWon_8 : decode cX1_isWon 8 = .ok (.if_icmp .ne 8, 3) := by decide +kernel
theorem dX1_isWon_11 : decode cX1_isWon 11 = .ok (.bipush 10, 2) := by decide +kernel
theorem dX1_isWon_13 : decode cX1_isWon 13 = .ok (.goto 5, 3) := by decide +kernel
theorem dX1_isWon_16 : decode cX1_isWon 16 = .ok (.bipush 110, 2) := by decide +kernel
theorem dX1_isWon_18 : decode cX1_isWon 18 = .ok (.putfield 48, 3) := by decide +kernel
theorem dX1_isWon_21 : decode cX1_isWon 21 = .ok (.aload_n 0, 1) := by decide +kernel
theorem dX1_isWon_22 : decode cX1_isWon 22 = .ok (.getfield 20, 3) := by decide +kernel
theorem dX1_isWon_25 : decode cX1_isWon 25 = .ok (.iload 4, 2) := by decide +kernel
theorem dX1_isWon_27 : decode cX1_isWon 27 = .ok (.aaload, 1) := by decide +kernel
theorem dX1_isWon_28 : decode cX1_isWon 28 = .ok (.aload_n 1, 1) := by decide +kernel
theorem dX1_isWon_29 : decode cX1_isWon 29 = .ok (.iload_n 2, 1) := by decide +kernel
theorem dX1_isWon_30 : decode cX1_isWon 30 = .ok (.invokevirtual 51, 3) := by decide +kernel
theorem dX1_isWon_33 : decode cX1_isWon 33 = .ok (.aload_n 0, 1) := by decide +kernel
theorem dX1_isWon_34 : decode cX1_isWon 34 = .ok (.iload 4, 2) := by decide +kernel
theorem dX1_isWon_36 : decode cX1_isWon 36 = .ok (.invokevirtual 55, 3) := by decide +kernel
theorem dX1_isWon_39 : decode cX1_isWon 39 = .ok (.ireturn, 1) := by decide +kernel
theorem dX1_best_0 : decode cX1_best 0 = .ok (.aload_n 0, 1) := by decide +kernel
theorem dX1_best_1 : decode cX1_best 1 = .ok (.getfield 34, 3) := by decide +kernel
theorem dX1_best_4 : decode cX1_best 4 = .ok (.iload_n 1, 1) := by decide +kernel
theorem dX1_best_5 : decode cX1_best 5 = .ok (.iaload, 1) := by decide +kernel
theorem dX1_best_6 : decode cX1_best 6 = .ok (.istore_n 2, 1) := by decide +kernel
theorem dX1_best_7 : decode cX1_best 7 = .ok (.iload_n 2, 1) := by decide +kernel
theorem dX1_best_8 : decode cX1_best 8 = .ok (.iconst (-1), 1) := by decide +kernel
theorem dX1_best_9 : decode cX1_best 9 = .ok (.if_icmp .ne 5, 3) := by decide +kernel
theorem dX1_best_12 : decode cX1_best 12 = .ok (.lconst 0, 1) := by decide +kernel
theorem dX1_best_13 : decode cX1_best 13 = .ok (.lreturn, 1) := by decide +kernel
theorem dX1_best_14 : decode cX1_best 14 = .ok (.iload_n 2, 1) := by decide +kernel
theorem dX1_best_15 : decode cX1_best 15 = .ok (.bipush 10, 2) := by decide +kernel
theorem dX1_best_17 : decode cX1_best 17 = .ok (.if_icmp .ge 9, 3) := by decide +kernel
theorem dX1_best_20 : decode cX1_best 20 = .ok (.lconst 0, 1) := by decide +kernel
theorem dX1_best_21 : decode cX1_best 21 = .ok (.iload_n 2, 1) := by decide +kernel
theorem dX1_best_22 : decode cX1_best 22 = .ok (.invokestatic 59, 3) := by decide +kernel
theorem dX1_best_25 : decode cX1_best 25 = .ok (.lreturn, 1) := by decide +kernel
theorem dX1_best_26 : decode cX1_best 26 = .ok (.iload_n 2, 1) := by decide +kernel
theorem dX1_best_27 : decode cX1_best 27 = .ok (.bipush 10, 2) := by decide +kernel
theorem dX1_best_29 : decode cX1_best 29 = .ok (.isub, 1) := by decide +kernel
theorem dX1_best_30 : decode cX1_best 30 = .ok (.istore_n 3, 1) := by decide +kernel
theorem dX1_best_31 : decode cX1_best 31 = .ok (.lconst 0, 1) := by decide +kernel
theorem dX1_best_32 : decode cX1_best 32 = .ok (.iload_n 3, 1) := by decide +kernel
theorem dX1_best_33 : decode cX1_best 33 = .ok (.bipush 10, 2) := by decide +kernel
theorem dX1_best_35 : decode cX1_best 35 = .ok (.idiv, 1) := by decide +kernel
theorem dX1_best_36 : decode cX1_best 36 = .ok (.invokestatic 59, 3) := by decide +kernel
theorem dX1_best_39 : decode cX1_best 39 = .ok (.iload_n 3, 1) := by decide +kernel
theorem dX1_best_40 : decode cX1_best 40 = .ok (.bipush 10, 2) := by decide +kernel
theorem dX1_best_42 : decode cX1_best 42 = .ok (.irem, 1) := by decide +kernel
theorem dX1_best_43 : decode cX1_best 43 = .ok (.invokestatic 59, 3) := by decide +kernel
theorem dX1_best_46 : decode cX1_best 46 = .ok (.lreturn, 1) := by decide +kernel
theorem dX1_isWonWithin_0 : decode cX1_isWonWithin 0 = .ok (.aload_n 0, 1) := by decide +kernel
theorem dX1_isWonWithin_1 : decode cX1_isWonWithin 1 = .ok (.getfield 20, 3) := by decide +kernel
theorem dX1_isWonWithin_4 : decode cX1_isWonWithin 4 = .ok (.iload_n 1, 1) := by decide +kernel
theorem dX1_isWonWithin_5 : decode cX1_isWonWithin 5 = .ok (.aaload, 1) := by decide +kernel
theorem dX1_isWonWithin_6 : decode cX1_isWonWithin 6 = .ok (.astore_n 2, 1) := by decide +kernel
theorem dX1_isWonWithin_7 : decode cX1_isWonWithin 7 = .ok (.aload_n 0, 1) := by decide +kernel
theorem dX1_isWonWithin_8 : decode cX1_isWonWithin 8 = .ok (.getfield 34, 3) := by decide +kernel
theorem dX1_isWonWithin_11 : decode cX1_isWonWithin 11 = .ok (.iload_n 1, 1) := by decide +kernel
theorem dX1_isWonWithin_12 : decode cX1_isWonWithin 12 = .ok (.iconst (-1), 1) := by decide +kernel
theorem dX1_isWonWithin_13 : decode cX1_isWonWithin 13 = .ok (.iastore, 1) := by decide +kernel
theorem dX1_isWonWithin_14 : decode cX1_isWonWithin 14 = .ok (.aload_n 2, 1) := by decide +kernel
theorem dX1_isWonWithin_15 : decode cX1_isWonWithin 15 = .ok (.invokevirtual 63, 3) := by decide +kernel
theorem dX1_isWonWithin_18 : decode cX1_isWonWithin 18 = .ok (.ifCond .ne 17, 3) := by decide +kernel
theorem dX1_isWonWithin_21 : decode cX1_isWonWithin 21 = .ok (.aload_n 2, 1) := by decide +kernel
theorem dX1_isWonWithin_22 : decode cX1_isWonWithin 22 = .ok (.iconst 1, 1) := by decide +kernel
theorem dX1_isWonWithin_23 : decode cX1_isWonWithin 23 = .ok (.aload_n 0, 1) := by decide +kernel
theorem dX1_isWonWithin_24 : decode cX1_isWonWithin 24 = .ok (.getfield 44, 3) := by decide +kernel
theorem dX1_isWonWithin_27 : decode cX1_isWonWithin 27 = .ok (.isub, 1) := by decide +kernel
theorem dX1_isWonWithin_28 : decode cX1_isWonWithin 28 = .ok (.invokevirtual 67, 3) := by decide +kernel
theorem dX1_isWonWithin_31 : decode cX1_isWonWithin 31 = .ok (.iload_n 1, 1) := by decide +kernel
theorem dX1_isWonWithin_32 : decode cX1_isWonWithin 32 = .ok (.if_icmp .le 5, 3) := by decide +kernel
theorem dX1_isWonWithin_35 : decode cX1_isWonWithin 35 = .ok (.iconst 0, 1) := by decide +kernel
theorem dX1_isWonWithin_36 : decode cX1_isWonWithin 36 = .ok (.ireturn, 1) := by decide +kernel
theorem dX1_isWonWithin_37 : decode cX1_isWonWithin 37 = .ok (.aload_n 0, 1) := by decide +kernel
theorem dX1_isWonWithin_38 : decode cX1_isWonWithin 38 = .ok (.iload_n 1, 1) := by decide +kernel
theorem dX1_isWonWithin_39 : decode cX1_isWonWithin 39 = .ok (.invokevirtual 71, 3) := by decide +kernel
theorem dX1_isWonWithin_42 : decode cX1_isWonWithin 42 = .ok (.aload_n 2, 1) := by decide +kernel
theorem dX1_isWonWithin_43 : decode cX1_isWonWithin 43 = .ok (.getfield 75, 3) := by decide +kernel
theorem dX1_isWonWithin_46 : decode cX1_isWonWithin 46 = .ok (.aload_n 0, 1) := by decide +kernel
theorem dX1_isWonWithin_47 : decode cX1_isWonWithin 47 = .ok (.getfield 44, 3) := by decide +kernel
theorem dX1_isWonWithin_50 : decode cX1_isWonWithin 50 = .ok (.if_icmp .ne 7, 3) := by decide +kernel
theorem dX1_isWonWithin_53 : decode cX1_isWonWithin 53 = .ok (.iconst 1, 1) := by decide +kernel
theorem dX1_isWonWithin_54 : decode cX1_isWonWithin 54 = .ok (.goto 4, 3) := by decide +kernel
theorem dX1_isWonWithin_57 : decode cX1_isWonWithin 57 = .ok (.iconst 0, 1) := by decide +kernel
theorem dX1_isWonWithin_58 : decode cX1_isWonWithin 58 = .ok (.istore_n 3, 1) := by decide +kernel
theorem dX1_isWonWithin_59 : decode cX1_isWonWithin 59 = .ok (.iconst 0, 1) := by decide +kernel
theorem dX1_isWonWithin_60 : decode cX1_isWonWithin 60 = .ok (.istore 4, 2) := by decide +kernel
theorem dX1_isWonWithin_62 : decode cX1_isWonWithin 62 = .ok (.iload 4, 2) := by decide +kernel
theorem dX1_isWonWithin_64 : decode cX1_isWonWithin 64 = .ok (.aload_n 0, 1) := by decide +kernel
theorem dX1_isWonWithin_65 : decode cX1_isWonWithin 65 = .ok (.getfield 48, 3) := by decide +kernel
theorem dX1_isWonWithin_68 : decode cX1_isWonWithin 68 = .ok (.if_icmp .ge 46, 3) := by decide +kernel
theorem dX1_isWonWithin_71 : decode cX1_isWonWithin 71 = .ok (.aload_n 0, 1) := by decide +kernel
theorem dX1_isWonWithin_72 : decode cX1_isWonWithin 72 = .ok (.iload_n 1, 1) := by decide +kernel
theorem dX1_isWonWithin_73 : decode cX1_isWonWithin 73 = .ok (.aload_n 0, 1) := by decide +kernel
theorem dX1_isWonWithin_74 : decode cX1_isWonWithin 74 = .ok (.getfield 26, 3) := by decide +kernel
theorem dX1_isWonWithin_77 : decode cX1_isWonWithin 77 = .ok (.iload_n 1, 1) := by decide +kernel
theorem dX1_isWonWithin_78 : decode cX1_isWonWithin 78 = .ok (.aaload, 1) := by decide +kernel
theorem dX1_isWonWithin_79 : decode cX1_isWonWithin 79 = .ok (.iload 4, 2) := by decide +kernel
theorem dX1_isWonWithin_81 : decode cX1_isWonWithin 81 = .ok (.laload, 1) := by decide +kernel
theorem dX1_isWonWithin_82 : decode cX1_isWonWithin 82 = .ok (.iload_n 3, 1) := by decide +kernel
theorem dX1_isWonWithin_83 : decode cX1_isWonWithin 83 = .ok (.ifCond .ne 7, 3) := by decide +kernel
theorem dX1_isWonWithin_86 : decode cX1_isWonWithin 86 = .ok (.iconst 1, 1) := by decide +kernel
theorem dX1_isWonWithin_87 : decode cX1_isWonWithin 87 = .ok (.goto 4, 3) := by decide +kernel
theorem dX1_isWonWithin_90 : decode cX1_isWonWithin 90 = .ok (.iconst 0, 1) := by decide +kernel
theorem dX1_isWonWithin_91 : decode cX1_isWonWithin 91 = .ok (.invokevirtual 78, 3) := by decide +kernel
theorem dX1_isWonWithin_94 : decode cX1_isWonWithin 94 = .ok (.iload_n 3, 1) := by decide +kernel
theorem dX1_isWonWithin_95 : decode cX1_isWonWithin 95 = .ok (.if_icmp .ne 13, 3) := by decide +kernel
theorem dX1_isWonWithin_98 : decode cX1_isWonWithin 98 = .ok (.aload_n 0, 1) := by decide +kernel
theorem dX1_isWonWithin_99 : decode cX1_isWonWithin 99 = .ok (.getfield 34, 3) := by decide +kernel
theorem dX1_isWonWithin_102 : decode cX1_isWonWithin 102 = .ok (.iload_n 1, 1) := by decide +kernel
theorem dX1_isWonWithin_103 : decode cX1_isWonWithin 103 = .ok (.iload 4, 2) := by decide +kernel
theorem dX1_isWonWithin_105 : decode cX1_isWonWithin 105 = .ok (.iastore, 1) := by decide +kernel
theorem dX1_isWonWithin_106 : decode cX1_isWonWithin 106 = .ok (.iload_n 3, 1) := by decide +kernel
theorem dX1_isWonWithin_107 : decode cX1_isWonWithin 107 = .ok (.ireturn, 1) := by decide +kernel
theorem dX1_isWonWithin_108 : decode cX1_isWonWithin 108 = .ok (.iinc 4 1, 3) := by decide +kernel
theorem dX1_isWonWithin_111 : decode cX1_isWonWithin 111 = .ok (.goto (-49), 3) := by decide +kernel
theorem dX1_isWonWithin_114 : decode cX1_isWonWithin 114 = .ok (.iload_n 3, 1) := by decide +kernel
theorem dX1_isWonWithin_115 : decode cX1_isWonWithin 115 = .ok (.ifCond .ne 7, 3) := by decide +kernel
theorem dX1_isWonWithin_118 : decode cX1_isWonWithin 118 = .ok (.iconst 1, 1) := by decide +kernel
theorem dX1_isWonWithin_119 : decode cX1_isWonWithin 119 = .ok (.goto 4, 3) := by decide +kernel
theorem dX1_isWonWithin_122 : decode cX1_isWonWithin 122 = .ok (.iconst 0, 1) := by decide +kernel
theorem dX1_isWonWithin_123 : decode cX1_isWonWithin 123 = .ok (.ireturn, 1) := by decide +kernel
theorem dX1_list_0 : decode cX1_list 0 = .ok (.aload_n 0, 1) := by decide +kernel
theorem dX1_list_1 : decode cX1_list 1 = .ok (.getfield 20, 3) := by decide +kernel
theorem dX1_list_4 : decode cX1_list 4 = .ok (.iload_n 1, 1) := by decide +kernel
theorem dX1_list_5 : decode cX1_list 5 = .ok (.aaload, 1) := by decide +kernel
theorem dX1_list_6 : decode cX1_list 6 = .ok (.astore_n 2, 1) := by decide +kernel
theorem dX1_list_7 : decode cX1_list 7 = .ok (.aload_n 2, 1) := by decide +kernel
theorem dX1_list_8 : decode cX1_list 8 = .ok (.iconst 1, 1) := by decide +kernel
theorem dX1_list_9 : decode cX1_list 9 = .ok (.aload_n 2, 1) := by decide +kernel
theorem dX1_list_10 : decode cX1_list 10 = .ok (.getfield 75, 3) := by decide +kernel
theorem dX1_list_13 : decode cX1_list 13 = .ok (.isub, 1) := by decide +kernel
theorem dX1_list_14 : decode cX1_list 14 = .ok (.invokevirtual 82, 3) := by decide +kernel
theorem dX1_list_17 : decode cX1_list 17 = .ok (.istore_n 3, 1) := by decide +kernel
theorem dX1_list_18 : decode cX1_list 18 = .ok (.iload_n 3, 1) := by decide +kernel
theorem dX1_list_19 : decode cX1_list 19 = .ok (.iconst (-1), 1) := by decide +kernel
theorem dX1_list_20 : decode cX1_list 20 = .ok (.if_icmp .ne 4, 3) := by decide +kernel
theorem dX1_list_23 : decode cX1_list 23 = .ok (.return_, 1) := by decide +kernel
theorem dX1_list_24 : decode cX1_list 24 = .ok (.aload_n 0, 1) := by decide +kernel
theorem dX1_list_25 : decode cX1_list 25 = .ok (.getfield 12, 3) := by decide +kernel
theorem dX1_list_28 : decode cX1_list 28 = .ok (.aload_n 2, 1) := by decide +kernel
theorem dX1_list_29 : decode cX1_list 29 = .ok (.getfield 85, 3) := by decide +kernel
theorem dX1_list_32 : decode cX1_list 32 = .ok (.aload_n 2, 1) := by decide +kernel
theorem dX1_list_33 : decode cX1_list 33 = .ok (.getfield 89, 3) := by decide +kernel
theorem dX1_list_36 : decode cX1_list 36 = .ok (.iload_n 3, 1) := by decide +kernel
theorem dX1_list_37 : decode cX1_list 37 = .ok (.iconst 2, 1) := by decide +kernel
theorem dX1_list_38 : decode cX1_list 38 = .ok (.invokevirtual 92, 3) := by decide +kernel
theorem dX1_list_41 : decode cX1_list 41 = .ok (.iconst 0, 1) := by decide +kernel
theorem dX1_list_42 : decode cX1_list 42 = .ok (.istore 4, 2) := by decide +kernel
theorem dX1_list_44 : decode cX1_list 44 = .ok (.iload 4, 2) := by decide +kernel
theorem dX1_list_46 : decode cX1_list 46 = .ok (.aload_n 0, 1) := by decide +kernel
theorem dX1_list_47 : decode cX1_list 47 = .ok (.getfield 48, 3) := by decide +kernel
theorem dX1_list_50 : decode cX1_list 50 = .ok (.if_icmp .ge 35, 3) := by decide +kernel
theorem dX1_list_53 : decode cX1_list 53 = .ok (.aload_n 0, 1) := by decide +kernel
theorem dX1_list_54 : decode cX1_list 54 = .ok (.getfield 12, 3) := by decide +kernel
theorem dX1_list_57 : decode cX1_list 57 = .ok (.invokevirtual 95, 3) := by decide +kernel
theorem dX1_list_60 : decode cX1_list 60 = .ok (.ifCond .eq 25, 3) := by decide +kernel
theorem dX1_list_63 : decode cX1_list 63 = .ok (.aload_n 0, 1) := by decide +kernel
theorem dX1_list_64 : decode cX1_list 64 = .ok (.getfield 26, 3) := by decide +kernel
theorem dX1_list_67 : decode cX1_list 67 = .ok (.iload_n 1, 1) := by decide +kernel
theorem dX1_list_68 : decode cX1_list 68 = .ok (.aaload, 1) := by decide +kernel
theorem dX1_list_69 : decode cX1_list 69 = .ok (.iload 4, 2) := by decide +kernel
theorem dX1_list_71 : decode cX1_list 71 = .ok (.aload_n 0, 1) := by decide +kernel
theorem dX1_list_72 : decode cX1_list 72 = .ok (.getfield 12, 3) := by decide +kernel
theorem dX1_list_75 : decode cX1_list 75 = .ok (.invokevirtual 98, 3) := by decide +kernel
theorem dX1_list_78 : decode cX1_list 78 = .ok (.lastore, 1) := by decide +kernel
theorem dX1_list_79 : decode cX1_list 79 = .ok (.iinc 4 1, 3) := by decide +kernel
theorem dX1_list_82 : decode cX1_list 82 = .ok (.goto (-38), 3) := by decide +kernel
theorem dX1_list_85 : decode cX1_list 85 = .ok (.iconst 0, 1) := by decide +kernel
theorem dX1_list_86 : decode cX1_list 86 = .ok (.istore 4, 2) := by decide +kernel
theorem dX1_list_88 : decode cX1_list 88 = .ok (.iload 4, 2) := by decide +kernel
theorem dX1_list_90 : decode cX1_list 90 = .ok (.bipush 36, 2) := by decide +kernel
theorem dX1_list_92 : decode cX1_list 92 = .ok (.if_icmp .gt 19, 3) := by decide +kernel
theorem dX1_list_95 : decode cX1_list 95 = .ok (.aload_n 0, 1) := by decide +kernel
theorem dX1_list_96 : decode cX1_list 96 = .ok (.getfield 31, 3) := by decide +kernel
theorem dX1_list_99 : decode cX1_list 99 = .ok (.iload_n 1, 1) := by decide +kernel
theorem dX1_list_100 : decode cX1_list 100 = .ok (.aaload, 1) := by decide +kernel
theorem dX1_list_101 : decode cX1_list 101 = .ok (.iload 4, 2) := by decide +kernel
theorem dX1_list_103 : decode cX1_list 103 = .ok (.iconst 0, 1) := by decide +kernel
theorem dX1_list_104 : decode cX1_list 104 = .ok (.iastore, 1) := by decide +kernel
theorem dX1_list_105 : decode cX1_list 105 = .ok (.iinc 4 1, 3) := by decide +kernel
theorem dX1_list_108 : decode cX1_list 108 = .ok (.goto (-20), 3) := by decide +kernel
theorem dX1_list_111 : decode cX1_list 111 = .ok (.return_, 1) := by decide +kernel
theorem dX1_winsBehind_0 : decode cX1_winsBehind 0 = .ok (.lload_n 2, 1) := by decide +kernel
theorem dX1_winsBehind_1 : decode cX1_winsBehind 1 = .ok (.lconst 0, 1) := by decide +kernel
theorem dX1_winsBehind_2 : decode cX1_winsBehind 2 = .ok (.lcmp, 1) := by decide +kernel
theorem dX1_winsBehind_3 : decode cX1_winsBehind 3 = .ok (.ifCond .ne 11, 3) := by decide +kernel
theorem dX1_winsBehind_6 : decode cX1_winsBehind 6 = .ok (.aload_n 0, 1) := by decide +kernel
theorem dX1_winsBehind_7 : decode cX1_winsBehind 7 = .ok (.iload_n 1, 1) := by decide +kernel
theorem dX1_winsBehind_8 : decode cX1_winsBehind 8 = .ok (.bipush 36, 2) := by decide +kernel
theorem dX1_winsBehind_10 : decode cX1_winsBehind 10 = .ok (.invokevirtual 102, 3) := by decide +kernel
theorem dX1_winsBehind_13 : decode cX1_winsBehind 13 = .ok (.ireturn, 1) := by decide +kernel
theorem dX1_winsBehind_14 : decode cX1_winsBehind 14 = .ok (.iconst 0, 1) := by decide +kernel
theorem dX1_winsBehind_15 : decode cX1_winsBehind 15 = .ok (.istore 5, 2) := by decide +kernel
theorem dX1_winsBehind_17 : decode cX1_winsBehind 17 = .ok (.iload 5, 2) := by decide +kernel
theorem dX1_winsBehind_19 : decode cX1_winsBehind 19 = .ok (.bipush 36, 2) := by decide +kernel
theorem dX1_winsBehind_21 : decode cX1_winsBehind 21 = .ok (.if_icmp .ge 33, 3) := by decide +kernel
theorem dX1_winsBehind_24 : decode cX1_winsBehind 24 = .ok (.lload_n 2, 1) := by decide +kernel
theorem dX1_winsBehind_25 : decode cX1_winsBehind 25 = .ok (.iload 5, 2) := by decide +kernel
theorem dX1_winsBehind_27 : decode cX1_winsBehind 27 = .ok (.invokestatic 106, 3) := by decide +kernel
theorem dX1_winsBehind_30 : decode cX1_winsBehind 30 = .ok (.ifCond .eq 18, 3) := by decide +kernel
theorem dX1_winsBehind_33 : decode cX1_winsBehind 33 = .ok (.aload_n 0, 1) := by decide +kernel
theorem dX1_winsBehind_34 : decode cX1_winsBehind 34 = .ok (.iload_n 1, 1) := by decide +kernel
theorem dX1_winsBehind_35 : decode cX1_winsBehind 35 = .ok (.iload 5, 2) := by decide +kernel
theorem dX1_winsBehind_37 : decode cX1_winsBehind 37 = .ok (.invokevirtual 102, 3) := by decide +kernel
theorem dX1_winsBehind_40 : decode cX1_winsBehind 40 = .ok (.iload 4, 2) := by decide +kernel
theorem dX1_winsBehind_42 : decode cX1_winsBehind 42 = .ok (.if_icmp .ne 6, 3) := by decide +kernel
theorem dX1_winsBehind_45 : decode cX1_winsBehind 45 = .ok (.iload 4, 2) := by decide +kernel
theorem dX1_winsBehind_47 : decode cX1_winsBehind 47 = .ok (.ireturn, 1) := by decide +kernel
theorem dX1_winsBehind_48 : decode cX1_winsBehind 48 = .ok (.iinc 5 1, 3) := by decide +kernel
theorem dX1_winsBehind_51 : decode cX1_winsBehind 51 = .ok (.goto (-34), 3) := by decide +kernel
theorem dX1_winsBehind_54 : decode cX1_winsBehind 54 = .ok (.iload 4, 2) := by decide +kernel
theorem dX1_winsBehind_56 : decode cX1_winsBehind 56 = .ok (.ifCond .ne 7, 3) := by decide +kernel
theorem dX1_winsBehind_59 : decode cX1_winsBehind 59 = .ok (.iconst 1, 1) := by decide +kernel
theorem dX1_winsBehind_60 : decode cX1_winsBehind 60 = .ok (.goto 4, 3) := by decide +kernel
theorem dX1_winsBehind_63 : decode cX1_winsBehind 63 = .ok (.iconst 0, 1) := by decide +kernel
theorem dX1_winsBehind_64 : decode cX1_winsBehind 64 = .ok (.ireturn, 1) := by decide +kernel
theorem dX1_winsAt_0 : decode cX1_winsAt 0 = .ok (.aload_n 0, 1) := by decide +kernel
theorem dX1_winsAt_1 : decode cX1_winsAt 1 = .ok (.getfield 31, 3) := by decide +kernel
theorem dX1_winsAt_4 : decode cX1_winsAt 4 = .ok (.iload_n 1, 1) := by decide +kernel
theorem dX1_winsAt_5 : decode cX1_winsAt 5 = .ok (.aaload, 1) := by decide +kernel
theorem dX1_winsAt_6 : decode cX1_winsAt 6 = .ok (.iload_n 2, 1) := by decide +kernel
theorem dX1_winsAt_7 : decode cX1_winsAt 7 = .ok (.iaload, 1) := by decide +kernel
theorem dX1_winsAt_8 : decode cX1_winsAt 8 = .ok (.ifCond .ne 99, 3) := by decide +kernel
theorem dX1_winsAt_11 : decode cX1_winsAt 11 = .ok (.iload_n 1, 1) := by decide +kernel
theorem dX1_winsAt_12 : decode cX1_winsAt 12 = .ok (.ifCond .le 95, 3) := by decide +kernel
theorem dX1_winsAt_15 : decode cX1_winsAt 15 = .ok (.aload_n 0, 1) := by decide +kernel
theorem dX1_winsAt_16 : decode cX1_winsAt 16 = .ok (.getfield 20, 3) := by decide +kernel
theorem dX1_winsAt_19 : decode cX1_winsAt 19 = .ok (.iload_n 1, 1) := by decide +kernel
theorem dX1_winsAt_20 : decode cX1_winsAt 20 = .ok (.iconst 1, 1) := by decide +kernel
theorem dX1_winsAt_21 : decode cX1_winsAt 21 = .ok (.isub, 1) := by decide +kernel
theorem dX1_winsAt_22 : decode cX1_winsAt 22 = .ok (.aaload, 1) := by decide +kernel
theorem dX1_winsAt_23 : decode cX1_winsAt 23 = .ok (.aload_n 0, 1) := by decide +kernel
theorem dX1_winsAt_24 : decode cX1_winsAt 24 = .ok (.getfield 20, 3) := by decide +kernel
theorem dX1_winsAt_27 : decode cX1_winsAt 27 = .ok (.iload_n 1, 1) := by decide +kernel
theorem dX1_winsAt_28 : decode cX1_winsAt 28 = .ok (.aaload, 1) := by decide +kernel
theorem dX1_winsAt_29 : decode cX1_winsAt 29 = .ok (.invokevirtual 110, 3) := by decide +kernel
theorem dX1_winsAt_32 : decode cX1_winsAt 32 = .ok (.aload_n 0, 1) := by decide +kernel
theorem dX1_winsAt_33 : decode cX1_winsAt 33 = .ok (.getfield 20, 3) := by decide +kernel
theorem dX1_winsAt_36 : decode cX1_winsAt 36 = .ok (.iload_n 1, 1) := by decide +kernel
theorem dX1_winsAt_37 : decode cX1_winsAt 37 = .ok (.iconst 1, 1) := by decide +kernel
theorem dX1_winsAt_38 : decode cX1_winsAt 38 = .ok (.isub, 1) := by decide +kernel
theorem dX1_winsAt_39 : decode cX1_winsAt 39 = .ok (.aaload, 1) := by decide +kernel
theorem dX1_winsAt_40 : decode cX1_winsAt 40 = .ok (.iload_n 2, 1) := by decide +kernel
theorem dX1_winsAt_41 : decode cX1_winsAt 41 = .ok (.bipush 36, 2) := by decide +kernel
theorem dX1_winsAt_43 : decode cX1_winsAt 43 = .ok (.if_icmp .ne 7, 3) := by decide +kernel
theorem dX1_winsAt_46 : decode cX1_winsAt 46 = .ok (.iconst (-1), 1) := by decide +kernel
theorem dX1_winsAt_47 : decode cX1_winsAt 47 = .ok (.goto 4, 3) := by decide +kernel
theorem dX1_winsAt_50 : decode cX1_winsAt 50 = .ok (.iload_n 2, 1) := by decide +kernel
theorem dX1_winsAt_51 : decode cX1_winsAt 51 = .ok (.invokevirtual 114, 3) := by decide +kernel
theorem dX1_winsAt_54 : decode cX1_winsAt 54 = .ok (.aload_n 0, 1) := by decide +kernel
theorem dX1_winsAt_55 : decode cX1_winsAt 55 = .ok (.getfield 20, 3) := by decide +kernel
theorem dX1_winsAt_58 : decode cX1_winsAt 58 = .ok (.iload_n 1, 1) := by decide +kernel
theorem dX1_winsAt_59 : decode cX1_winsAt 59 = .ok (.iconst 1, 1) := by decide +kernel
theorem dX1_winsAt_60 : decode cX1_winsAt 60 = .ok (.isub, 1) := by decide +kernel
theorem dX1_winsAt_61 : decode cX1_winsAt 61 = .ok (.aaload, 1) := by decide +kernel
theorem dX1_winsAt_62 : decode cX1_winsAt 62 = .ok (.iconst 1, 1) := by decide +kernel
theorem dX1_winsAt_63 : decode cX1_winsAt 63 = .ok (.aload_n 0, 1) := by decide +kernel
theorem dX1_winsAt_64 : decode cX1_winsAt 64 = .ok (.getfield 44, 3) := by decide +kernel
theorem dX1_winsAt_67 : decode cX1_winsAt 67 = .ok (.isub, 1) := by decide +kernel
theorem dX1_winsAt_68 : decode cX1_winsAt 68 = .ok (.invokevirtual 67, 3) := by decide +kernel
theorem dX1_winsAt_71 : decode cX1_winsAt 71 = .ok (.ifCond .eq 13, 3) := by decide +kernel
theorem dX1_winsAt_74 : decode cX1_winsAt 74 = .ok (.aload_n 0, 1) := by decide +kernel
theorem dX1_winsAt_75 : decode cX1_winsAt 75 = .ok (.iload_n 1, 1) := by decide +kernel
theorem dX1_winsAt_76 : decode cX1_winsAt 76 = .ok (.iconst 1, 1) := by decide +kernel
theorem dX1_winsAt_77 : decode cX1_winsAt 77 = .ok (.isub, 1) := by decide +kernel
theorem dX1_winsAt_78 : decode cX1_winsAt 78 = .ok (.invokevirtual 55, 3) := by decide +kernel
theorem dX1_winsAt_81 : decode cX1_winsAt 81 = .ok (.ifCond .eq 7, 3) := by decide +kernel
theorem dX1_winsAt_84 : decode cX1_winsAt 84 = .ok (.iconst 1, 1) := by decide +kernel
theorem dX1_winsAt_85 : decode cX1_winsAt 85 = .ok (.goto 4, 3) := by decide +kernel
theorem dX1_winsAt_88 : decode cX1_winsAt 88 = .ok (.iconst 0, 1) := by decide +kernel
theorem dX1_winsAt_89 : decode cX1_winsAt 89 = .ok (.istore_n 3, 1) := by decide +kernel
theorem dX1_winsAt_90 : decode cX1_winsAt 90 = .ok (.aload_n 0, 1) := by decide +kernel
theorem dX1_winsAt_91 : decode cX1_winsAt 91 = .ok (.getfield 31, 3) := by decide +kernel
theorem dX1_winsAt_94 : decode cX1_winsAt 94 = .ok (.iload_n 1, 1) := by decide +kernel
theorem dX1_winsAt_95 : decode cX1_winsAt 95 = .ok (.aaload, 1) := by decide +kernel
theorem dX1_winsAt_96 : decode cX1_winsAt 96 = .ok (.iload_n 2, 1) := by decide +kernel
theorem dX1_winsAt_97 : decode cX1_winsAt 97 = .ok (.iload_n 3, 1) := by decide +kernel
theorem dX1_winsAt_98 : decode cX1_winsAt 98 = .ok (.ifCond .eq 7, 3) := by decide +kernel
theorem dX1_winsAt_101 : decode cX1_winsAt 101 = .ok (.iconst 1, 1) := by decide +kernel
theorem dX1_winsAt_102 : decode cX1_winsAt 102 = .ok (.goto 4, 3) := by decide +kernel
theorem dX1_winsAt_105 : decode cX1_winsAt 105 = .ok (.iconst 2, 1) := by decide +kernel
theorem dX1_winsAt_106 : decode cX1_winsAt 106 = .ok (.iastore, 1) := by decide +kernel
theorem dX1_winsAt_107 : decode cX1_winsAt 107 = .ok (.aload_n 0, 1) := by decide +kernel
theorem dX1_winsAt_108 : decode cX1_winsAt 108 = .ok (.getfield 31, 3) := by decide +kernel
theorem dX1_winsAt_111 : decode cX1_winsAt 111 = .ok (.iload_n 1, 1) := by decide +kernel
theorem dX1_winsAt_112 : decode cX1_winsAt 112 = .ok (.aaload, 1) := by decide +kernel
theorem dX1_winsAt_113 : decode cX1_winsAt 113 = .ok (.iload_n 2, 1) := by decide +kernel
theorem dX1_winsAt_114 : decode cX1_winsAt 114 = .ok (.iaload, 1) := by decide +kernel
theorem dX1_winsAt_115 : decode cX1_winsAt 115 = .ok (.iconst 1, 1) := by decide +kernel
theorem dX1_winsAt_116 : decode cX1_winsAt 116 = .ok (.if_icmp .ne 7, 3) := by decide +kernel
theorem dX1_winsAt_119 : decode cX1_winsAt 119 = .ok (.iconst 1, 1) := by decide +kernel
theorem dX1_winsAt_120 : decode cX1_winsAt 120 = .ok (.goto 4, 3) := by decide +kernel
theorem dX1_winsAt_123 : decode cX1_winsAt 123 = .ok (.iconst 0, 1) := by decide +kernel
theorem dX1_winsAt_124 : decode cX1_winsAt 124 = .ok (.ireturn, 1) := by decide +kernel
theorem dX2_init_0 : decode cX2_init 0 = .ok (.aload_n 0, 1) := by decide +kernel
theorem dX2_init_1 : decode cX2_init 1 = .ok (.invokespecial 3, 3) := by decide +kernel
theorem dX2_init_4 : decode cX2_init 4 = .ok (.aload_n 0, 1) := by decide +kernel
theorem dX2_init_5 : decode cX2_init 5 = .ok (.bipush 30, 2) := by decide +kernel
theorem dX2_init_7 : decode cX2_init 7 = .ok (.newarray .long, 2) := by decide +kernel
theorem dX2_init_9 : decode cX2_init 9 = .ok (.putfield 9, 3) := by decide +kernel
theorem dX2_init_12 : decode cX2_init 12 = .ok (.aload_n 0, 1) := by decide +kernel
theorem dX2_init_13 : decode cX2_init 13 = .ok (.bipush 30, 2) := by decide +kernel
theorem dX2_init_15 : decode cX2_init 15 = .ok (.newarray .int, 2) := by decide +kernel
theorem dX2_init_17 : decode cX2_init 17 = .ok (.putfield 15, 3) := by decide +kernel
theorem dX2_init_20 : decode cX2_init 20 = .ok (.return_, 1) := by decide +kernel
theorem dX2_copy_0 : decode cX2_copy 0 = .ok (.aload_n 0, 1) := by decide +kernel
theorem dX2_copy_1 : decode cX2_copy 1 = .ok (.aload_n 1, 1) := by decide +kernel
theorem dX2_copy_2 : decode cX2_copy 2 = .ok (.getfield 19, 3) := by decide +kernel
theorem dX2_copy_5 : decode cX2_copy 5 = .ok (.putfield 19, 3) := by decide +kernel
theorem dX2_copy_8 : decode cX2_copy 8 = .ok (.aload_n 1, 1) := by decide +kernel
theorem dX2_copy_9 : decode cX2_copy 9 = .ok (.getfield 9, 3) := by decide +kernel
theorem dX2_copy_12 : decode cX2_copy 12 = .ok (.iconst 0, 1) := by decide +kernel
theorem dX2_copy_13 : decode cX2_copy 13 = .ok (.aload_n 0, 1) := by decide +kernel
theorem dX2_copy_14 : decode cX2_copy 14 = .ok (.getfield 9, 3) := by decide +kernel
theorem dX2_copy_17 : decode cX2_copy 17 = .ok (.iconst 0, 1) := by decide +kernel
theorem dX2_copy_18 : decode cX2_copy 18 = .ok (.bipush 30, 2) := by decide +kernel
theorem dX2_copy_20 : decode cX2_copy 20 = .ok (.invokestatic 23, 3) := by decide +kernel
theorem dX2_copy_23 : decode cX2_copy 23 = .ok (.aload_n 1, 1) := by decide +kernel
theorem dX2_copy_24 : decode cX2_copy 24 = .ok (.getfield 15, 3) := by decide +kernel
theorem dX2_copy_27 : decode cX2_copy 27 = .ok (.iconst 0, 1) := by decide +kernel
theorem dX2_copy_28 : decode cX2_copy 28 = .ok (.aload_n 0, 1) := by decide +kernel
theorem dX2_copy_29 : decode cX2_copy 29 = .ok (.getfield 15, 3) := by decide +kernel
theorem dX2_copy_32 : decode cX2_copy 32 = .ok (.iconst 0, 1) := by decide +kernel
theorem dX2_copy_33 : decode cX2_copy 33 = .ok (.bipush 30, 2) := by decide +kernel
theorem dX2_copy_35 : decode cX2_copy 35 = .ok (.invokestatic 23, 3) := by decide +kernel
theorem dX2_copy_38 : decode cX2_copy 38 = .ok (.return_, 1) := by decide +kernel
theorem dX2_addMove_0 : decode cX2_addMove 0 = .ok (.aload_n 0, 1) := by decide +kernel
theorem dX2_addMove_1 : decode cX2_addMove 1 = .ok (.getfield 19, 3) := by decide +kernel
theorem dX2_addMove_4 : decode cX2_addMove 4 = .ok (.bipush 30, 2) := by decide +kernel
theorem dX2_addMove_6 : decode cX2_addMove 6 = .ok (.if_icmp .ge 33, 3) := by decide +kernel
theorem dX2_addMove_9 : decode cX2_addMove 9 = .ok (.aload_n 0, 1) := by decide +kernel
theorem dX2_addMove_10 : decode cX2_addMove 10 = .ok (.getfield 9, 3) := by decide +kernel
theorem dX2_addMove_13 : decode cX2_addMove 13 = .ok (.aload_n 0, 1) := by decide +kernel
theorem dX2_addMove_14 : decode cX2_addMove 14 = .ok (.getfield 19, 3) := by decide +kernel
theorem dX2_addMove_17 : decode cX2_addMove 17 = .ok (.lload_n 1, 1) := by decide +kernel
theorem dX2_addMove_18 : decode cX2_addMove 18 = .ok (.lastore, 1) := by decide +kernel
theorem dX2_addMove_19 : decode cX2_addMove 19 = .ok (.aload_n 0, 1) := by decide +kernel
theorem dX2_addMove_20 : decode cX2_addMove 20 = .ok (.getfield 15, 3) := by decide +kernel
theorem dX2_addMove_23 : decode cX2_addMove 23 = .ok (.aload_n 0, 1) := by decide +kernel
theorem dX2_addMove_24 : decode cX2_addMove 24 = .ok (.getfield 19, 3) := by decide +kernel
theorem dX2_addMove_27 : decode cX2_addMove 27 = .ok (.iload_n 3, 1) := by decide +kernel
theorem dX2_addMove_28 : decode cX2_addMove 28 = .ok (.iastore, 1) := by decide +kernel
theorem dX2_addMove_29 : decode cX2_addMove 29 = .ok (.aload_n 0, 1) := by decide +kernel
theorem dX2_addMove_30 : decode cX2_addMove 30 = .ok (.dup, 1) := by decide +kernel
theorem dX2_addMove_31 : decode cX2_addMove 31 = .ok (.getfield 19, 3) := by decide +kernel
theorem dX2_addMove_34 : decode cX2_addMove 34 = .ok (.iconst 1, 1) := by decide +kernel
theorem dX2_addMove_35 : decode cX2_addMove 35 = .ok (.iadd, 1) := by decide +kernel
theorem dX2_addMove_36 : decode cX2_addMove 36 = .ok (.putfield 19, 3) := by decide +kernel
theorem dX2_addMove_39 : decode cX2_addMove 39 = .ok (.return_, 1) := by decide +kernel
theorem dX2_hasMove_0 : decode cX2_hasMove 0 = .ok (.iload_n 1, 1) := by decide +kernel
theorem dX2_hasMove_1 : decode cX2_hasMove 1 = .ok (.ifCond .lt 15, 3) := by decide +kernel
theorem dX2_hasMove_4 : decode cX2_hasMove 4 = .ok (.iload_n 1, 1) := by decide +kernel
theorem dX2_hasMove_5 : decode cX2_hasMove 5 = .ok (.aload_n 0, 1) := by decide +kernel
theorem dX2_hasMove_6 : decode cX2_hasMove 6 = .ok (.getfield 19, 3) := by decide +kernel
theorem dX2_hasMove_9 : decode cX2_hasMove 9 = .ok (.if_icmp .ge 7, 3) := by decide +kernel
theorem dX2_hasMove_12 : decode cX2_hasMove 12 = .ok (.iconst 1, 1) := by decide +kernel
theorem dX2_hasMove_13 : decode cX2_hasMove 13 = .ok (.goto 4, 3) := by decide +kernel
theorem dX2_hasMove_16 : decode cX2_hasMove 16 = .ok (.iconst 0, 1) := by decide +kernel
theorem dX2_hasMove_17 : decode cX2_hasMove 17 = .ok (.ireturn, 1) := by decide +kernel
theorem dX2_ruleAhead_0 : decode cX2_ruleAhead 0 = .ok (.iload_n 1, 1) := by decide +kernel
theorem dX2_ruleAhead_1 : decode cX2_ruleAhead 1 = .ok (.iconst 1, 1) := by decide +kernel
theorem dX2_ruleAhead_2 : decode cX2_ruleAhead 2 = .ok (.if_icmp .lt 22, 3) := by decide +kernel
theorem dX2_ruleAhead_5 : decode cX2_ruleAhead 5 = .ok (.iload_n 1, 1) := by decide +kernel
theorem dX2_ruleAhead_6 : decode cX2_ruleAhead 6 = .ok (.aload_n 0, 1) := by decide +kernel
theorem dX2_ruleAhead_7 : decode cX2_ruleAhead 7 = .ok (.getfield 19, 3) := by decide +kernel
theorem dX2_ruleAhead_10 : decode cX2_ruleAhead 10 = .ok (.if_icmp .gt 14, 3) := by decide +kernel
theorem dX2_ruleAhead_13 : decode cX2_ruleAhead 13 = .ok (.aload_n 0, 1) := by decide +kernel
theorem dX2_ruleAhead_14 : decode cX2_ruleAhead 14 = .ok (.getfield 9, 3) := by decide +kernel
theorem dX2_ruleAhead_17 : decode cX2_ruleAhead 17 = .ok (.iload_n 1, 1) := by decide +kernel
theorem dX2_ruleAhead_18 : decode cX2_ruleAhead 18 = .ok (.iconst 1, 1) := by decide +kernel
theorem dX2_ruleAhead_19 : decode cX2_ruleAhead 19 = .ok (.isub, 1) := by decide +kernel
theorem dX2_ruleAhead_20 : decode cX2_ruleAhead 20 = .ok (.laload, 1) := by decide +kernel
theorem dX2_ruleAhead_21 : decode cX2_ruleAhead 21 = .ok (.goto 4, 3) := by decide +kernel
theorem dX2_ruleAhead_24 : decode cX2_ruleAhead 24 = .ok (.lconst 0, 1) := by decide +kernel
theorem dX2_ruleAhead_25 : decode cX2_ruleAhead 25 = .ok (.lreturn, 1) := by decide +kernel
theorem dX3_init_0 : decode cX3_init 0 = .ok (.aload_n 0, 1) := by decide +kernel
theorem dX3_init_1 : decode cX3_init 1 = .ok (.invokespecial 3, 3) := by decide +kernel
theorem dX3_init_4 : decode cX3_init 4 = .ok (.aload_n 0, 1) := by decide +kernel
theorem dX3_init_5 : decode cX3_init 5 = .ok (.iconst 4, 1) := by decide +kernel
theorem dX3_init_6 : decode cX3_init 6 = .ok (.newarray .long, 2) := by decide +kernel
theorem dX3_init_8 : decode cX3_init 8 = .ok (.putfield 9, 3) := by decide +kernel
theorem dX3_init_11 : decode cX3_init 11 = .ok (.aload_n 0, 1) := by decide +kernel
theorem dX3_init_12 : decode cX3_init 12 = .ok (.iconst 4, 1) := by decide +kernel
theorem dX3_init_13 : decode cX3_init 13 = .ok (.newarray .int, 2) := by decide +kernel
theorem dX3_init_15 : decode cX3_init 15 = .ok (.putfield 15, 3) := by decide +kernel
theorem dX3_init_18 : decode cX3_init 18 = .ok (.return_, 1) := by decide +kernel
theorem dX3_lay_0 : decode cX3_lay 0 = .ok (.aload_n 1, 1) := by decide +kernel
theorem dX3_lay_1 : decode cX3_lay 1 = .ok (.getfield 19, 3) := by decide +kernel
theorem dX3_lay_4 : decode cX3_lay 4 = .ok (.aload_n 1, 1) := by decide +kernel
theorem dX3_lay_5 : decode cX3_lay 5 = .ok (.getfield 25, 3) := by decide +kernel
theorem dX3_lay_8 : decode cX3_lay 8 = .ok (.imul, 1) := by decide +kernel
theorem dX3_lay_9 : decode cX3_lay 9 = .ok (.invokestatic 28, 3) := by decide +kernel
theorem dX3_lay_12 : decode cX3_lay 12 = .ok (.lconst 1, 1) := by decide +kernel
theorem dX3_lay_13 : decode cX3_lay 13 = .ok (.lsub, 1) := by decide +kernel
theorem dX3_lay_14 : decode cX3_lay 14 = .ok (.lstore 5, 2) := by decide +kernel
theorem dX3_lay_16 : decode cX3_lay 16 = .ok (.lload 5, 2) := by decide +kernel
theorem dX3_lay_18 : decode cX3_lay 18 = .ok (.aload_n 1, 1) := by decide +kernel
theorem dX3_lay_19 : decode cX3_lay 19 = .ok (.getfield 32, 3) := by decide +kernel
theorem dX3_lay_22 : decode cX3_lay 22 = .ok (.ldc2_w 36, 3) := by decide +kernel
theorem dX3_lay_25 : decode cX3_lay 25 = .ok (.lxor, 1) := by decide +kernel
theorem dX3_lay_26 : decode cX3_lay 26 = .ok (.land, 1) := by decide +kernel
theorem dX3_lay_27 : decode cX3_lay 27 = .ok (.lstore 7, 2) := by decide +kernel
theorem dX3_lay_29 : decode cX3_lay 29 = .ok (.aload_n 0, 1) := by decide +kernel
theorem dX3_lay_30 : decode cX3_lay 30 = .ok (.lconst 0, 1) := by decide +kernel
theorem dX3_lay_31 : decode cX3_lay 31 = .ok (.putfield 38, 3) := by decide +kernel
theorem dX3_lay_34 : decode cX3_lay 34 = .ok (.iconst 0, 1) := by decide +kernel
theorem dX3_lay_35 : decode cX3_lay 35 = .ok (.istore 9, 2) := by decide +kernel
theorem dX3_lay_37 : decode cX3_lay 37 = .ok (.iload 9, 2) := by decide +kernel
theorem dX3_lay_39 : decode cX3_lay 39 = .ok (.aload_n 1, 1) := by decide +kernel
theorem dX3_lay_40 : decode cX3_lay 40 = .ok (.getfield 41, 3) := by decide +kernel
theorem dX3_lay_43 : decode cX3_lay 43 = .ok (.if_icmp .ge 70, 3) := by decide +kernel
theorem dX3_lay_46 : decode cX3_lay 46 = .ok (.iload 9, 2) := by decide +kernel
theorem dX3_lay_48 : decode cX3_lay 48 = .ok (.iload 4, 2) := by decide +kernel
theorem dX3_lay_50 : decode cX3_lay 50 = .ok (.if_icmp .eq 57, 3) := by decide +kernel
theorem dX3_lay_53 : decode cX3_lay 53 = .ok (.aload_n 2, 1) := by decide +kernel
theorem dX3_lay_54 : decode cX3_lay 54 = .ok (.iload 9, 2) := by decide +kernel
theorem dX3_lay_56 : decode cX3_lay 56 = .ok (.iaload, 1) := by decide +kernel
