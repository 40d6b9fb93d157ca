theorem goodIn_app {big a b : List Cond} (ha : GoodIn big a) (hb : GoodIn big b) : GoodIn big (a ++ b) := fun w h => (List.mem_append.mp h).elim (ha w) (hb w)
def tyX0 : Nat → FieldType := fun k => match k with
  | _ => .int
abbrev wsX00 : List Cond := u_ws RX0 TX0 1
theorem nmX0 : ∀ a, a < 1 → ∀ b, b < 1 → a ≠ b → (TX0 a).2.1 ≠ (TX0 b).2.1 := by decide +kernel
theorem tyX0_ok : ∀ k, k < 1 → parseFieldDescriptor (TX0 k).2.2.1 = some (tyX0 k) := by decide +kernel
abbrev cX0_init : ByteArray := prog_2_method_1_code
def yX0_init : MethodName := ⟨RX0, "<init>", "()V"⟩
def tyX3 : Nat → FieldType := fun k => match k with
  | _ => .int
abbrev wsX30 : List Cond := u_ws RX3 TX3 1
theorem nmX3 : ∀ a, a < 1 → ∀ b, b < 1 → a ≠ b → (TX3 a).2.1 ≠ (TX3 b).2.1 := by decide +kernel
theorem tyX3_ok : ∀ k, k < 1 → parseFieldDescriptor (TX3 k).2.2.1 = some (tyX3 k) := by decide +kernel
abbrev cX3_init : ByteArray := prog_5_method_1_code
def yX3_init : MethodName := ⟨RX3, "<init>", "(I)V"⟩
abbrev cX4_init : ByteArray := prog_6_method_1_code
def yX4_init : MethodName := ⟨RX4, "<init>", "(I)V"⟩
def tyX5 : Nat → FieldType := fun k => match k with
  | _ => .int
abbrev wsX50 : List Cond := u_ws RX5 TX5 1
theorem nmX5 : ∀ a, a < 1 → ∀ b, b < 1 → a ≠ b → (TX5 a).2.1 ≠ (TX5 b).2.1 := by decide +kernel
theorem tyX5_ok : ∀ k, k < 1 → parseFieldDescriptor (TX5 k).2.2.1 = some (tyX5 k) := by decide +kernel
abbrev cX5_init : ByteArray := prog_7_method_1_code
def yX5_init : MethodName := ⟨RX5, "<init>", "(I)V"⟩
abbrev cX6_bodyAt : ByteArray := prog_8_method_4_code
def yX6_bodyAt : MethodName := ⟨RX6, "bodyAt", "(I)I"⟩
abbrev cX6_findingAt : ByteArray := prog_8_method_5_code
def yX6_findingAt : MethodName := ⟨RX6, "findingAt", "(II)I"⟩
abbrev wsX70 : List Cond := u_ws RX7 TX7 3
def tyX10 : Nat → FieldType := fun k => match k with
  | _ => .int
abbrev wsX100 : List Cond := u_ws RX10 TX10 1
theorem nmX10 : ∀ a, a < 1 → ∀ b, b < 1 → a ≠ b → (TX10 a).2.1 ≠ (TX10 b).2.1 := by decide +kernel
theorem tyX10_ok : ∀ k, k < 1 → parseFieldDescriptor (TX10 k).2.2.1 = some (tyX10 k) := by decide +kernel
abbrev cX10_init : ByteArray := prog_12_method_1_code
def yX10_init : MethodName := ⟨RX10, "<init>", "()V"⟩
abbrev cX11_game : ByteArray := prog_1_method_2_code
def yX11_game : MethodName := ⟨RX11, "game", "(IIII)I"⟩
abbrev cX11_kindOf : ByteArray := prog_1_method_3_code
def yX11_kindOf : MethodName := ⟨RX11, "kindOf", "(I)I"⟩
abbrev cX11_table : ByteArray := prog_1_method_4_code
def yX11_table : MethodName := ⟨RX11, "table", "(III)I"⟩
abbrev cX11_seat : ByteArray := prog_1_method_5_code
def yX11_seat : MethodName := ⟨RX11, "seat", "(IIZ)I"⟩
abbrev cX11_kind : ByteArray := prog_1_method_6_code
def yX11_kind : MethodName := ⟨RX11, "kind", "(III)I"⟩
abbrev cX11_card : ByteArray := prog_1_method_7_code
def yX11_card : MethodName := ⟨RX11, "card", "(II)I"⟩
abbrev cX11_match : ByteArray := prog_1_method_8_code
def yX11_match : MethodName := ⟨RX11, "match", "(II)I"⟩
abbrev cX11_deal : ByteArray := prog_1_method_9_code
def yX11_deal : MethodName := ⟨RX11, "deal", "(III)I"⟩
abbrev cX11_give : ByteArray := prog_1_method_10_code
def yX11_give : MethodName := ⟨RX11, "give", "(III)I"⟩
abbrev cX11_bid : ByteArray := prog_1_method_11_code
def yX11_bid : MethodName := ⟨RX11, "bid", "(IIII)I"⟩
abbrev cX11_doubled : ByteArray := prog_1_method_12_code
def yX11_doubled : MethodName := ⟨RX11, "doubled", "(II)I"⟩
abbrev cX11_lay : ByteArray := prog_1_method_13_code
def yX11_lay : MethodName := ⟨RX11, "lay", "(III)I"⟩
abbrev cX11_revoke : ByteArray := prog_1_method_14_code
def yX11_revoke : MethodName := ⟨RX11, "revoke", "(III)I"⟩
abbrev cX11_allowed : ByteArray := prog_1_method_15_code
def yX11_allowed : MethodName := ⟨RX11, "allowed", "(III)I"⟩
abbrev cX11_turn : ByteArray := prog_1_method_16_code
def yX11_turn : MethodName := ⟨RX11, "turn", "(I)I"⟩
abbrev cX11_trick : ByteArray := prog_1_method_17_code
def yX11_trick : MethodName := ⟨RX11, "trick", "(II)I"⟩
abbrev cX11_hand : ByteArray := prog_1_method_18_code
def yX11_hand : MethodName := ⟨RX11, "hand", "(III)I"⟩
abbrev cX11_left : ByteArray := prog_1_method_19_code
def yX11_left : MethodName := ⟨RX11, "left", "(II)I"⟩
abbrev cX11_winner : ByteArray := prog_1_method_20_code
def yX11_winner : MethodName := ⟨RX11, "winner", "(I)I"⟩
abbrev cX11_won : ByteArray := prog_1_method_21_code
def yX11_won : MethodName := ⟨RX11, "won", "(III)I"⟩
abbrev cX11_revokes : ByteArray := prog_1_method_22_code
def yX11_revokes : MethodName := ⟨RX11, "revokes", "(III)I"⟩
abbrev cX11_sum : ByteArray := prog_1_method_23_code
def yX11_sum : MethodName := ⟨RX11, "sum", "(II)I"⟩
abbrev cX11_tie : ByteArray := prog_1_method_24_code
def yX11_tie : MethodName := ⟨RX11, "tie", "(I)I"⟩
abbrev cX11_best : ByteArray := prog_1_method_25_code
def yX11_best : MethodName := ⟨RX11, "best", "(II)I"⟩
abbrev cX11_line : ByteArray := prog_1_method_26_code
def yX11_line : MethodName := ⟨RX11, "line", "(III)I"⟩
abbrev cX11_check : ByteArray := prog_1_method_27_code
def yX11_check : MethodName := ⟨RX11, "check", "(II)I"⟩
abbrev cX11_claim : ByteArray := prog_1_method_28_code
def yX11_claim : MethodName := ⟨RX11, "claim", "(III)I"⟩
abbrev cX11_undo : ByteArray := prog_1_method_29_code
def yX11_undo : MethodName := ⟨RX11, "undo", "(I)I"⟩
abbrev cX11_replay : ByteArray := prog_1_method_30_code
def yX11_replay : MethodName := ⟨RX11, "replay", "(I)I"⟩
abbrev cX11_digest : ByteArray := prog_1_method_31_code
def yX11_digest : MethodName := ⟨RX11, "digest", "(I)I"⟩
abbrev cX11_finding : ByteArray := prog_1_method_32_code
def yX11_finding : MethodName := ⟨RX11, "finding", "(II)I"⟩
abbrev cX11_trace : ByteArray := prog_1_method_33_code
def yX11_trace : MethodName := ⟨RX11, "trace", "(I)I"⟩
abbrev cX11_forget : ByteArray := prog_1_method_34_code
def yX11_forget : MethodName := ⟨RX11, "forget", "()I"⟩
abbrev cX11_count : ByteArray := prog_1_method_35_code
def yX11_count : MethodName := ⟨RX11, "count", "(I)I"⟩
abbrev cX11_status : ByteArray := prog_1_method_36_code
def yX11_status : MethodName := ⟨RX11, "status", "(II)I"⟩
abbrev cX11_isGame : ByteArray := prog_1_method_37_code
def yX11_isGame : MethodName := ⟨RX11, "isGame", "(I)Z"⟩
abbrev cX11_newGame : ByteArray := prog_1_method_42_code
def yX11_newGame : MethodName := ⟨RX11, "newGame", "(I)LCardTables$Game;"⟩
abbrev cX11_gameAt : ByteArray := prog_1_method_43_code
def yX11_gameAt : MethodName := ⟨RX11, "gameAt", "(I)LCardTables$Game;"⟩
abbrev cX11_tableAt : ByteArray := prog_1_method_44_code
def yX11_tableAt : MethodName := ⟨RX11, "tableAt", "(I)LCardTables$Table;"⟩
abbrev cX11_tablesThere : ByteArray := prog_1_method_45_code
def yX11_tablesThere : MethodName := ⟨RX11, "tablesThere", "()I"⟩
abbrev cX11_gamesThere : ByteArray := prog_1_method_46_code
def yX11_gamesThere : MethodName := ⟨RX11, "gamesThere", "()I"⟩
abbrev cX12_in : ByteArray := prog_14_method_3_code
def yX12_in : MethodName := ⟨RX12, "in", "(III)Z"⟩
abbrev cX12_least : ByteArray := prog_14_method_4_code
def yX12_least : MethodName := ⟨RX12, "least", "(II)I"⟩
abbrev cX12_isTable : ByteArray := prog_14_method_8_code
def yX12_isTable : MethodName := ⟨RX12, "isTable", "(I)Z"⟩
abbrev cX12_game : ByteArray := prog_14_method_14_code
def yX12_game : MethodName := ⟨RX12, "game", "(IIII)I"⟩
abbrev cX12_isGame : ByteArray := prog_14_method_15_code
def yX12_isGame : MethodName := ⟨RX12, "isGame", "(I)Z"⟩
abbrev cX12_kindOf : ByteArray := prog_14_method_16_code
def yX12_kindOf : MethodName := ⟨RX12, "kindOf", "(I)I"⟩
abbrev cX12_table : ByteArray := prog_14_method_17_code
def yX12_table : MethodName := ⟨RX12, "table", "(III)I"⟩
abbrev cX12_seat : ByteArray := prog_14_method_19_code
def yX12_seat : MethodName := ⟨RX12, "seat", "(IIZ)I"⟩
abbrev cX12_kind : ByteArray := prog_14_method_20_code
def yX12_kind : MethodName := ⟨RX12, "kind", "(III)I"⟩
abbrev cX12_card : ByteArray := prog_14_method_21_code
def yX12_card : MethodName := ⟨RX12, "card", "(II)I"⟩
abbrev cX12_match : ByteArray := prog_14_method_22_code
def yX12_match : MethodName := ⟨RX12, "match", "(II)I"⟩
abbrev cX12_deal : ByteArray := prog_14_method_39_code
def yX12_deal : MethodName := ⟨RX12, "deal", "(III)I"⟩
abbrev cX12_give : ByteArray := prog_14_method_43_code
def yX12_give : MethodName := ⟨RX12, "give", "(III)I"⟩
abbrev cX12_bid : ByteArray := prog_14_method_46_code
def yX12_bid : MethodName := ⟨RX12, "bid", "(IIII)I"⟩
abbrev cX12_doubled : ByteArray := prog_14_method_48_code
def yX12_doubled : MethodName := ⟨RX12, "doubled", "(II)I"⟩
abbrev cX12_play : ByteArray := prog_14_method_57_code
def yX12_play : MethodName := ⟨RX12, "play", "(IIIZ)I"⟩
abbrev cX12_lay : ByteArray := prog_14_method_58_code
def yX12_lay : MethodName := ⟨RX12, "lay", "(III)I"⟩
abbrev cX12_revoke : ByteArray := prog_14_method_59_code
def yX12_revoke : MethodName := ⟨RX12, "revoke", "(III)I"⟩
abbrev cX12_allowed : ByteArray := prog_14_method_60_code
def yX12_allowed : MethodName := ⟨RX12, "allowed", "(III)I"⟩
abbrev cX12_turn : ByteArray := prog_14_method_61_code
def yX12_turn : MethodName := ⟨RX12, "turn", "(I)I"⟩
abbrev cX12_trick : ByteArray := prog_14_method_62_code
def yX12_trick : MethodName := ⟨RX12, "trick", "(II)I"⟩
abbrev cX12_hand : ByteArray := prog_14_method_63_code
def yX12_hand : MethodName := ⟨RX12, "hand", "(III)I"⟩
abbrev cX12_left : ByteArray := prog_14_method_64_code
def yX12_left : MethodName := ⟨RX12, "left", "(II)I"⟩
abbrev cX12_winner : ByteArray := prog_14_method_65_code
def yX12_winner : MethodName := ⟨RX12, "winner", "(I)I"⟩
abbrev cX12_won : ByteArray := prog_14_method_66_code
def yX12_won : MethodName := ⟨RX12, "won", "(III)I"⟩
abbrev cX12_revokes : ByteArray := prog_14_method_67_code
def yX12_revokes : MethodName := ⟨RX12, "revokes", "(III)I"⟩
abbrev cX12_sum : ByteArray := prog_14_method_68_code
def yX12_sum : MethodName := ⟨RX12, "sum", "(II)I"⟩
abbrev cX12_tie : ByteArray := prog_14_method_69_code
def yX12_tie : MethodName := ⟨RX12, "tie", "(I)I"⟩
abbrev cX12_endBars : ByteArray := prog_14_method_82_code
def yX12_endBars : MethodName := ⟨RX12, "endBars", "(II)I"⟩
abbrev cX12_best : ByteArray := prog_14_method_83_code
def yX12_best : MethodName := ⟨RX12, "best", "(II)I"⟩
abbrev cX12_check : ByteArray := prog_14_method_84_code
def yX12_check : MethodName := ⟨RX12, "check", "(II)I"⟩
abbrev cX12_line : ByteArray := prog_14_method_85_code
def yX12_line : MethodName := ⟨RX12, "line", "(III)I"⟩
abbrev cX12_claim : ByteArray := prog_14_method_87_code
def yX12_claim : MethodName := ⟨RX12, "claim", "(III)I"⟩
abbrev cX12_undo : ByteArray := prog_14_method_88_code
def yX12_undo : MethodName := ⟨RX12, "undo", "(I)I"⟩
abbrev cX12_replay : ByteArray := prog_14_method_90_code
def yX12_replay : MethodName := ⟨RX12, "replay", "(I)I"⟩
abbrev cX12_digest : ByteArray := prog_14_method_91_code
def yX12_digest : MethodName := ⟨RX12, "digest", "(I)I"⟩
abbrev cX12_finding : ByteArray := prog_14_method_92_code
def yX12_finding : MethodName := ⟨RX12, "finding", "(II)I"⟩
abbrev cX12_trace : ByteArray := prog_14_method_93_code
def yX12_trace : MethodName := ⟨RX12, "trace", "(I)I"⟩
abbrev cX12_forget : ByteArray := prog_14_method_94_code
def yX12_forget : MethodName := ⟨RX12, "forget", "()I"⟩
abbrev cX12_count : ByteArray := prog_14_method_95_code
def yX12_count : MethodName := ⟨RX12, "count", "(I)I"⟩
abbrev cX12_status : ByteArray := prog_14_method_96_code
def yX12_status : MethodName := ⟨RX12, "status", "(II)I"⟩
def RL : String := "CardTablesLaw"
abbrev cL_law : ByteArray := code
def wsX4_init : List Cond := .code yX4_init cX4_init 2 none :: ([.methodLink RX4 1 objectInit, .instanceMethod objectInit, .code objectInit ⟨#[0xb1]⟩ 1 none, .fieldLink RX4 7 "CardTables$Game" "type" "I"] ++ wsX00 ++ wsX30 ++ wsX50 ++ wsX70 ++ wsX100)
def wsX3_init : List Cond := .code yX3_init cX3_init 2 none :: ([.methodLink RX3 3 yX4_init, .instanceMethod yX4_init, .initialized RX4, .code yX4_init cX4_init 2 none, .methodLink RX4 1 objectInit, .instanceMethod objectInit, .code objectInit ⟨#[0xb1]⟩ 1 none, .fieldLink RX4 7 "CardTables$Game" "type" "I"] ++ wsX00 ++ wsX30 ++ wsX50 ++ wsX70 ++ wsX100)
def wsX5_init : List Cond := .code yX5_init cX5_init 2 none :: ([.methodLink RX5 3 yX3_init, .instanceMethod yX3_init, .initialized RX3, .code yX3_init cX3_init 2 none, .methodLink RX3 3 yX4_init, .instanceMethod yX4_init, .initialized RX4, .code yX4_init cX4_init 2 none, .methodLink RX4 1 objectInit, .instanceMethod objectInit, .code objectInit ⟨#[0xb1]⟩ 1 none, .fieldLink RX4 7 "CardTables$Game" "type" "I"] ++ wsX00 ++ wsX30 ++ wsX50 ++ wsX70 ++ wsX100)
def wsX0_init : List Cond := .code yX0_init cX0_init 1 none :: ([.methodLink RX0 3 yX5_init, .instanceMethod yX5_init, .initialized RX5, .code yX5_init cX5_init 2 none, .methodLink RX5 3 yX3_init, .instanceMethod yX3_init, .initialized RX3, .code yX3_init cX3_init 2 none, .methodLink RX3 3 yX4_init, .instanceMethod yX4_init, .initialized RX4, .code yX4_init cX4_init 2 none, .methodLink RX4 1 objectInit, .instanceMethod objectInit, .code objectInit ⟨#[0xb1]⟩ 1 none, .fieldLink RX4 7 "CardTables$Game" "type" "I"] ++ wsX00 ++ wsX30 ++ wsX50 ++ wsX70 ++ wsX100)
def wsX10_init : List Cond := .code yX10_init cX10_init 1 none :: ([.methodLink RX10 3 yX3_init, .instanceMethod yX3_init, .initialized RX3, .code yX3_init cX3_init 2 none, .methodLink RX3 3 yX4_init, .instanceMethod yX4_init, .initialized RX4, .code yX4_init cX4_init 2 none, .methodLink RX4 1 objectInit, .instanceMethod objectInit, .code objectInit ⟨#[0xb1]⟩ 1 none, .fieldLink RX4 7 "CardTables$Game" "type" "I"] ++ wsX00 ++ wsX30 ++ wsX50 ++ wsX70 ++ wsX100)
def wsX11_newGame_r1 : List Cond := [Cond.classLink RX11 324 RX5, Cond.instantiable RX5 1, Cond.initialized RX5, Cond.classLink RX11 327 RX10, Cond.instantiable RX10 1, Cond.initialized RX10, Cond.classLink RX11 330 RX0, Cond.instantiable RX0 1, Cond.initialized RX0, Cond.classLink RX11 68 RX3, Cond.instantiable RX3 1, Cond.initialized RX3, Cond.methodLink RX11 326 yX5_init, Cond.instanceMethod yX5_init, Cond.code yX5_init cX5_init 2 none, Cond.methodLink RX5 3 yX3_init, Cond.instanceMethod yX3_init, Cond.code yX3_init cX3_init 2 none, Cond.methodLink RX3 3 yX4_init, Cond.instanceMethod yX4_init, Cond.initialized RX4, Cond.code yX4_init cX4_init 2 none, Cond.methodLink RX4 1 objectInit, Cond.instanceMethod objectInit]
def wsX11_newGame_r2 : List Cond := [Cond.code objectInit ⟨#[0xb1]⟩ 1 none, Cond.fieldLink RX4 7 "CardTables$Game" "type" "I", Cond.methodLink RX11 329 yX10_init, Cond.instanceMethod yX10_init, Cond.code yX10_init cX10_init 1 none, Cond.methodLink RX10 3 yX3_init, Cond.methodLink RX11 332 yX0_init, Cond.instanceMethod yX0_init, Cond.code yX0_init cX0_init 1 none, Cond.methodLink RX0 3 yX5_init, Cond.methodLink RX11 333 yX3_init]
def wsX11_newGame : List Cond := .code yX11_newGame cX11_newGame 1 (some (.object "CardTables$Game")) :: ((wsX11_newGame_r1 ++ wsX11_newGame_r2) ++ wsX50 ++ wsX100 ++ wsX00 ++ wsX30 ++ wsX70)
set_option maxRecDepth 20000 in
theorem ggX0_init_X5_init : GoodIn wsX0_init wsX5_init := goodIn_r _ [4, 5, 6, 7, 8, 9, 10, 11, 12, 13, 14, 15, 16, 17, 18, 19, 20, 21, 22, 23] (by decide +kernel) (by decide +kernel)
set_option maxRecDepth 20000 in
theorem gX0_init_X5_init : GoodIn wsX0_init (wsX5_init) := ggX0_init_X5_init
theorem dX0_init_0 : decode cX0_init 0 = .ok (.aload_n 0, 1) := by decide +kernel
theorem dX0_init_1 : decode cX0_init 1 = .ok (.iconst 3, 1) := by decide +kernel
theorem dX0_init_2 : decode cX0_init 2 = .ok (.invokespecial 3, 3) := by decide +kernel
theorem dX0_init_5 : decode cX0_init 5 = .ok (.return_, 1) := by decide +kernel
set_option maxRecDepth 20000 in
theorem ggX3_init_X4_init : GoodIn wsX3_init wsX4_init := goodIn_r _ [4, 5, 6, 7, 8, 9, 10, 11, 12, 13, 14, 15] (by decide +kernel) (by decide +kernel)
set_option maxRecDepth 20000 in
theorem gX3_init_X4_init : GoodIn wsX3_init (wsX4_init) := ggX3_init_X4_init
theorem dX3_init_0 : decode cX3_init 0 = .ok (.aload_n 0, 1) := by decide +kernel
theorem dX3_init_1 : decode cX3_init 1 = .ok (.iload_n 1, 1) := by decide +kernel
theorem dX3_init_2 : decode cX3_init 2 = .ok (.invokespecial 3, 3) := by decide +kernel
theorem dX3_init_5 : decode cX3_init 5 = .ok (.return_, 1) := by decide +kernel
theorem dX4_init_0 : decode cX4_init 0 = .ok (.aload_n 0, 1) := by decide +kernel
theorem dX4_init_1 : decode cX4_init 1 = .ok (.invokespecial 1, 3) := by decide +kernel
theorem dX4_init_4 : decode cX4_init 4 = .ok (.aload_n 0, 1) := by decide +kernel
theorem dX4_init_5 : decode cX4_init 5 = .ok (.iload_n 1, 1) := by decide +kernel
theorem dX4_init_6 : decode cX4_init 6 = .ok (.putfield 7, 3) := by decide +kernel
theorem dX4_init_9 : decode cX4_init 9 = .ok (.return_, 1) := by decide +kernel
set_option maxRecDepth 20000 in
theorem ggX5_init_X3_init : GoodIn wsX5_init wsX3_init := goodIn_r _ [4, 5, 6, 7, 8, 9, 10, 11, 12, 13, 14, 15, 16, 17, 18, 19] (by decide +kernel) (by decide +kernel)
set_option maxRecDepth 20000 in
theorem gX5_init_X3_init : GoodIn wsX5_init (wsX3_init) := ggX5_init_X3_init
theorem dX5_init_0 : decode cX5_init 0 = .ok (.aload_n 0, 1) := by decide +kernel
theorem dX5_init_1 : decode cX5_init 1 = .ok (.iload_n 1, 1) := by decide +kernel
theorem dX5_init_2 : decode cX5_init 2 = .ok (.invokespecial 3, 3) := by decide +kernel
theorem dX5_init_5 : decode cX5_init 5 = .ok (.return_, 1) := by decide +kernel
theorem dX6_bodyAt_0 : decode cX6_bodyAt 0 = .ok (.iload_n 1, 1) := by decide +kernel
theorem dX6_bodyAt_1 : decode cX6_bodyAt 1 = .ok (.ifCond .lt 16, 3) := by decide +kernel
theorem dX6_bodyAt_4 : decode cX6_bodyAt 4 = .ok (.iload_n 1, 1) := by decide +kernel
theorem dX6_bodyAt_5 : decode cX6_bodyAt 5 = .ok (.aload_n 0, 1) := by decide +kernel
theorem dX6_bodyAt_6 : decode cX6_bodyAt 6 = .ok (.getfield 22, 3) := by decide +kernel
theorem dX6_bodyAt_9 : decode cX6_bodyAt 9 = .ok (.bipush 60, 2) := by decide +kernel
theorem dX6_bodyAt_11 : decode cX6_bodyAt 11 = .ok (.invokestatic 32, 3) := by decide +kernel
theorem dX6_bodyAt_14 : decode cX6_bodyAt 14 = .ok (.if_icmp .lt 5, 3) := by decide +kernel
theorem dX6_bodyAt_17 : decode cX6_bodyAt 17 = .ok (.iconst (-1), 1) := by decide +kernel
theorem dX6_bodyAt_18 : decode cX6_bodyAt 18 = .ok (.ireturn, 1) := by decide +kernel
theorem dX6_findingAt_0 : decode cX6_findingAt 0 = .ok (.iload_n 1, 1) := by decide +kernel
theorem dX6_findingAt_1 : decode cX6_findingAt 1 = .ok (.ifCond .lt 25, 3) := by decide +kernel
theorem dX6_findingAt_4 : decode cX6_findingAt 4 = .ok (.iload_n 1, 1) := by decide +kernel
theorem dX6_findingAt_5 : decode cX6_findingAt 5 = .ok (.aload_n 0, 1) := by decide +kernel
theorem dX6_findingAt_6 : decode cX6_findingAt 6 = .ok (.getfield 26, 3) := by decide +kernel
theorem dX6_findingAt_9 : decode cX6_findingAt 9 = .ok (.bipush 60, 2) := by decide +kernel
theorem dX6_findingAt_11 : decode cX6_findingAt 11 = .ok (.invokestatic 32, 3) := by decide +kernel
theorem dX6_findingAt_14 : decode cX6_findingAt 14 = .ok (.if_icmp .ge 12, 3) := by decide +kernel
theorem dX6_findingAt_26 : decode cX6_findingAt 26 = .ok (.iconst (-1), 1) := by decide +kernel
theorem dX6_findingAt_27 : decode cX6_findingAt 27 = .ok (.ireturn, 1) := by decide +kernel
set_option maxRecDepth 20000 in
theorem ggX10_init_X3_init : GoodIn wsX10_init wsX3_init := goodIn_r _ [4, 5, 6, 7, 8, 9, 10, 11, 12, 13, 14, 15, 16, 17, 18, 19] (by decide +kernel) (by decide +kernel)
set_option maxRecDepth 20000 in
theorem gX10_init_X3_init : GoodIn wsX10_init (wsX3_init) := ggX10_init_X3_init
theorem dX10_init_0 : decode cX10_init 0 = .ok (.aload_n 0, 1) := by decide +kernel
theorem dX10_init_1 : decode cX10_init 1 = .ok (.iconst 2, 1) := by decide +kernel
theorem dX10_init_2 : decode cX10_init 2 = .ok (.invokespecial 3, 3) := by decide +kernel
theorem dX10_init_5 : decode cX10_init 5 = .ok (.return_, 1) := by decide +kernel
theorem dX11_game_0 : decode cX11_game 0 = .ok (.iload_n 2, 1) := by decide +kernel
theorem dX11_game_1 : decode cX11_game 1 = .ok (.iconst 4, 1) := by decide +kernel
theorem dX11_game_2 : decode cX11_game 2 = .ok (.if_icmp .ne 7, 3) := by decide +kernel
theorem dX11_game_5 : decode cX11_game 5 = .ok (.iconst 1, 1) := by decide +kernel
theorem dX11_game_6 : decode cX11_game 6 = .ok (.goto 4, 3) := by decide +kernel
theorem dX11_game_9 : decode cX11_game 9 = .ok (.iconst 0, 1) := by decide +kernel
theorem dX11_game_10 : decode cX11_game 10 = .ok (.istore 5, 2) := by decide +kernel
theorem dX11_game_12 : decode cX11_game 12 = .ok (.iload_n 1, 1) := by decide +kernel
theorem dX11_game_13 : decode cX11_game 13 = .ok (.invokestatic 57, 3) := by decide +kernel
theorem dX11_game_16 : decode cX11_game 16 = .ok (.ifCond .eq 25, 3) := by decide +kernel
theorem dX11_game_19 : decode cX11_game 19 = .ok (.iload 5, 2) := by decide +kernel
theorem dX11_game_21 : decode cX11_game 21 = .ok (.ifCond .eq 23, 3) := by decide +kernel
theorem dX11_game_24 : decode cX11_game 24 = .ok (.aload_n 0, 1) := by decide +kernel
theorem dX11_game_25 : decode cX11_game 25 = .ok (.iload_n 3, 1) := by decide +kernel
theorem dX11_game_26 : decode cX11_game 26 = .ok (.invokevirtual 61, 3) := by decide +kernel
theorem dX11_game_29 : decode cX11_game 29 = .ok (.ifnull 12, 3) := by decide +kernel
theorem dX11_game_41 : decode cX11_game 41 = .ok (.bipush (-2), 2) := by decide +kernel
theorem dX11_game_43 : decode cX11_game 43 = .ok (.ireturn, 1) := by decide +kernel
theorem dX11_game_44 : decode cX11_game 44 = .ok (.iload_n 2, 1) := by decide +kernel
theorem dX11_game_45 : decode cX11_game 45 = .ok (.ifCond .lt 8, 3) := by decide +kernel
theorem dX11_game_48 : decode cX11_game 48 = .ok (.iload_n 2, 1) := by decide +kernel
theorem dX11_game_49 : decode cX11_game 49 = .ok (.iconst 4, 1) := by decide +kernel
theorem dX11_game_50 : decode cX11_game 50 = .ok (.if_icmp .le 6, 3) := by decide +kernel
theorem dX11_game_53 : decode cX11_game 53 = .ok (.bipush (-3), 2) := by decide +kernel
theorem dX11_game_55 : decode cX11_game 55 = .ok (.ireturn, 1) := by decide +kernel
theorem dX11_game_56 : decode cX11_game 56 = .ok (.iload 5, 2) := by decide +kernel
theorem dX11_game_58 : decode cX11_game 58 = .ok (.ifCond .ne 16, 3) := by decide +kernel
theorem dX11_game_61 : decode cX11_game 61 = .ok (.aload_n 0, 1) := by decide +kernel
theorem dX11_game_62 : decode cX11_game 62 = .ok (.getfield 11, 3) := by decide +kernel
theorem dX11_game_65 : decode cX11_game 65 = .ok (.iload_n 1, 1) := by decide +kernel
theorem dX11_game_66 : decode cX11_game 66 = .ok (.iload_n 2, 1) := by decide +kernel
theorem dX11_game_67 : decode cX11_game 67 = .ok (.invokestatic 65, 3) := by decide +kernel
theorem dX11_game_70 : decode cX11_game 70 = .ok (.aastore, 1) := by decide +kernel
theorem dX11_game_71 : decode cX11_game 71 = .ok (.goto 71, 3) := by decide +kernel
theorem dX11_game_142 : decode cX11_game 142 = .ok (.iconst 1, 1) := by decide +kernel
theorem dX11_game_143 : decode cX11_game 143 = .ok (.ireturn, 1) := by decide +kernel
theorem dX11_kindOf_0 : decode cX11_kindOf 0 = .ok (.aload_n 0, 1) := by decide +kernel
theorem dX11_kindOf_1 : decode cX11_kindOf 1 = .ok (.iload_n 1, 1) := by decide +kernel
theorem dX11_kindOf_2 : decode cX11_kindOf 2 = .ok (.invokevirtual 61, 3) := by decide +kernel
theorem dX11_kindOf_5 : decode cX11_kindOf 5 = .ok (.astore_n 2, 1) := by decide +kernel
theorem dX11_kindOf_6 : decode cX11_kindOf 6 = .ok (.aload_n 2, 1) := by decide +kernel
theorem dX11_kindOf_7 : decode cX11_kindOf 7 = .ok (.ifnonnull 8, 3) := by decide +kernel
theorem dX11_kindOf_10 : decode cX11_kindOf 10 = .ok (.bipush (-2), 2) := by decide +kernel
theorem dX11_kindOf_12 : decode cX11_kindOf 12 = .ok (.goto 7, 3) := by decide +kernel
theorem dX11_kindOf_19 : decode cX11_kindOf 19 = .ok (.ireturn, 1) := by decide +kernel
theorem dX11_table_0 : decode cX11_table 0 = .ok (.aload_n 0, 1) := by decide +kernel
theorem dX11_table_1 : decode cX11_table 1 = .ok (.iload_n 3, 1) := by decide +kernel
theorem dX11_table_2 : decode cX11_table 2 = .ok (.invokevirtual 61, 3) := by decide +kernel
theorem dX11_table_5 : decode cX11_table 5 = .ok (.astore 4, 2) := by decide +kernel
theorem dX11_table_7 : decode cX11_table 7 = .ok (.iload_n 1, 1) := by decide +kernel
theorem dX11_table_8 : decode cX11_table 8 = .ok (.ifCond .lt 13, 3) := by decide +kernel
theorem dX11_table_11 : decode cX11_table 11 = .ok (.iload_n 1, 1) := by decide +kernel
theorem dX11_table_12 : decode cX11_table 12 = .ok (.iconst 4, 1) := by decide +kernel
theorem dX11_table_13 : decode cX11_table 13 = .ok (.if_icmp .ge 8, 3) := by decide +kernel
theorem dX11_table_16 : decode cX11_table 16 = .ok (.aload 4, 2) := by decide +kernel
theorem dX11_table_18 : decode cX11_table 18 = .ok (.ifnonnull 6, 3) := by decide +kernel
theorem dX11_table_21 : decode cX11_table 21 = .ok (.bipush (-2), 2) := by decide +kernel
theorem dX11_table_23 : decode cX11_table 23 = .ok (.ireturn, 1) := by decide +kernel
theorem dX11_seat_0 : decode cX11_seat 0 = .ok (.aload_n 0, 1) := by decide +kernel
theorem dX11_seat_1 : decode cX11_seat 1 = .ok (.iload_n 1, 1) := by decide +kernel
theorem dX11_seat_2 : decode cX11_seat 2 = .ok (.invokevirtual 83, 3) := by decide +kernel
theorem dX11_seat_5 : decode cX11_seat 5 = .ok (.astore 4, 2) := by decide +kernel
theorem dX11_seat_7 : decode cX11_seat 7 = .ok (.aload 4, 2) := by decide +kernel
theorem dX11_seat_9 : decode cX11_seat 9 = .ok (.ifnull 10, 3) := by decide +kernel
theorem dX11_seat_19 : decode cX11_seat 19 = .ok (.bipush (-2), 2) := by decide +kernel
theorem dX11_seat_21 : decode cX11_seat 21 = .ok (.ireturn, 1) := by decide +kernel
theorem dX11_kind_0 : decode cX11_kind 0 = .ok (.aload_n 0, 1) := by decide +kernel
theorem dX11_kind_1 : decode cX11_kind 1 = .ok (.iload_n 1, 1) := by decide +kernel
theorem dX11_kind_2 : decode cX11_kind 2 = .ok (.invokevirtual 83, 3) := by decide +kernel
theorem dX11_kind_5 : decode cX11_kind 5 = .ok (.astore 4, 2) := by decide +kernel
theorem dX11_kind_7 : decode cX11_kind 7 = .ok (.aload 4, 2) := by decide +kernel
theorem dX11_kind_9 : decode cX11_kind 9 = .ok (.ifnull 12, 3) := by decide +kernel
theorem dX11_kind_21 : decode cX11_kind 21 = .ok (.bipush (-2), 2) := by decide +kernel
theorem dX11_kind_23 : decode cX11_kind 23 = .ok (.ireturn, 1) := by decide +kernel
theorem dX11_card_0 : decode cX11_card 0 = .ok (.aload_n 0, 1) := by decide +kernel
theorem dX11_card_1 : decode cX11_card 1 = .ok (.iload_n 1, 1) := by decide +kernel
theorem dX11_card_2 : decode cX11_card 2 = .ok (.invokevirtual 83, 3) := by decide +kernel
theorem dX11_card_5 : decode cX11_card 5 = .ok (.astore_n 3, 1) := by decide +kernel
theorem dX11_card_6 : decode cX11_card 6 = .ok (.aload_n 3, 1) := by decide +kernel
theorem dX11_card_7 : decode cX11_card 7 = .ok (.ifnull 11, 3) := by decide +kernel
theorem dX11_card_18 : decode cX11_card 18 = .ok (.bipush (-2), 2) := by decide +kernel
theorem dX11_card_20 : decode cX11_card 20 = .ok (.goto 9, 3) := by decide +kernel
theorem dX11_card_29 : decode cX11_card 29 = .ok (.ireturn, 1) := by decide +kernel
theorem dX11_match_0 : decode cX11_match 0 = .ok (.aload_n 0, 1) := by decide +kernel
theorem dX11_match_1 : decode cX11_match 1 = .ok (.iload_n 1, 1) := by decide +kernel
theorem dX11_match_2 : decode cX11_match 2 = .ok (.invokevirtual 83, 3) := by decide +kernel
theorem dX11_match_5 : decode cX11_match 5 = .ok (.astore_n 3, 1) := by decide +kernel
theorem dX11_match_6 : decode cX11_match 6 = .ok (.aload_n 3, 1) := by decide +kernel
theorem dX11_match_7 : decode cX11_match 7 = .ok (.ifnonnull 6, 3) := by decide +kernel
theorem dX11_match_10 : decode cX11_match 10 = .ok (.bipush (-2), 2) := by decide +kernel
theorem dX11_match_12 : decode cX11_match 12 = .ok (.ireturn, 1) := by decide +kernel
theorem dX11_deal_0 : decode cX11_deal 0 = .ok (.aload_n 0, 1) := by decide +kernel
theorem dX11_deal_1 : decode cX11_deal 1 = .ok (.iload_n 1, 1) := by decide +kernel
theorem dX11_deal_2 : decode cX11_deal 2 = .ok (.invokevirtual 83, 3) := by decide +kernel
theorem dX11_deal_5 : decode cX11_deal 5 = .ok (.astore 4, 2) := by decide +kernel
theorem dX11_deal_7 : decode cX11_deal 7 = .ok (.aload 4, 2) := by decide +kernel
theorem dX11_deal_9 : decode cX11_deal 9 = .ok (.ifnonnull 6, 3) := by decide +kernel
theorem dX11_deal_12 : decode cX11_deal 12 = .ok (.bipush (-2), 2) := by decide +kernel
theorem dX11_deal_14 : decode cX11_deal 14 = .ok (.ireturn, 1) := by decide +kernel
theorem dX11_give_0 : decode cX11_give 0 = .ok (.aload_n 0, 1) := by decide +kernel
theorem dX11_give_1 : decode cX11_give 1 = .ok (.iload_n 1, 1) := by decide +kernel
theorem dX11_give_2 : decode cX11_give 2 = .ok (.invokevirtual 83, 3) := by decide +kernel
theorem dX11_give_5 : decode cX11_give 5 = .ok (.astore 4, 2) := by decide +kernel
theorem dX11_give_7 : decode cX11_give 7 = .ok (.aload 4, 2) := by decide +kernel
theorem dX11_give_9 : decode cX11_give 9 = .ok (.ifnull 19, 3) := by decide +kernel
theorem dX11_give_28 : decode cX11_give 28 = .ok (.bipush (-2), 2) := by decide +kernel
theorem dX11_give_30 : decode cX11_give 30 = .ok (.ireturn, 1) := by decide +kernel
theorem dX11_bid_0 : decode cX11_bid 0 = .ok (.aload_n 0, 1) := by decide +kernel
theorem dX11_bid_1 : decode cX11_bid 1 = .ok (.iload_n 1, 1) := by decide +kernel
theorem dX11_bid_2 : decode cX11_bid 2 = .ok (.invokevirtual 83, 3) := by decide +kernel
theorem dX11_bid_5 : decode cX11_bid 5 = .ok (.astore 5, 2) := by decide +kernel
theorem dX11_bid_7 : decode cX11_bid 7 = .ok (.aload 5, 2) := by decide +kernel
theorem dX11_bid_9 : decode cX11_bid 9 = .ok (.ifnull 10, 3) := by decide +kernel
theorem dX11_bid_19 : decode cX11_bid 19 = .ok (.bipush (-2), 2) := by decide +kernel
theorem dX11_bid_21 : decode cX11_bid 21 = .ok (.ireturn, 1) := by decide +kernel
theorem dX11_doubled_0 : decode cX11_doubled 0 = .ok (.aload_n 0, 1) := by decide +kernel
theorem dX11_doubled_1 : decode cX11_doubled 1 = .ok (.iload_n 1, 1) := by decide +kernel
theorem dX11_doubled_2 : decode cX11_doubled 2 = .ok (.invokevirtual 83, 3) := by decide +kernel
theorem dX11_doubled_5 : decode cX11_doubled 5 = .ok (.astore_n 3, 1) := by decide +kernel
theorem dX11_doubled_6 : decode cX11_doubled 6 = .ok (.aload_n 3, 1) := by decide +kernel
theorem dX11_doubled_7 : decode cX11_doubled 7 = .ok (.ifnull 10, 3) := by decide +kernel
theorem dX11_doubled_17 : decode cX11_doubled 17 = .ok (.bipush (-2), 2) := by decide +kernel
theorem dX11_doubled_19 : decode cX11_doubled 19 = .ok (.ireturn, 1) := by decide +kernel
theorem dX11_lay_0 : decode cX11_lay 0 = .ok (.aload_n 0, 1) := by decide +kernel
theorem dX11_lay_1 : decode cX11_lay 1 = .ok (.iload_n 1, 1) := by decide +kernel
theorem dX11_lay_2 : decode cX11_lay 2 = .ok (.invokevirtual 83, 3) := by decide +kernel
theorem dX11_lay_5 : decode cX11_lay 5 = .ok (.astore 4, 2) := by decide +kernel
theorem dX11_lay_7 : decode cX11_lay 7 = .ok (.aload 4, 2) := by decide +kernel
theorem dX11_lay_9 : decode cX11_lay 9 = .ok (.ifnull 10, 3) := by decide +kernel
theorem dX11_lay_19 : decode cX11_lay 19 = .ok (.bipush (-2), 2) := by decide +kernel
theorem dX11_lay_21 : decode cX11_lay 21 = .ok (.ireturn, 1) := by decide +kernel
theorem dX11_revoke_0 : decode cX11_revoke 0 = .ok (.aload_n 0, 1) := by decide +kernel
theorem dX11_revoke_1 : decode cX11_revoke 1 = .ok (.iload_n 1, 1) := by decide +kernel
theorem dX11_revoke_2 : decode cX11_revoke 2 = .ok (.invokevirtual 83, 3) := by decide +kernel
theorem dX11_revoke_5 : decode cX11_revoke 5 = .ok (.astore 4, 2) := by decide +kernel
theorem dX11_revoke_7 : decode cX11_revoke 7 = .ok (.aload 4, 2) := by decide +kernel
theorem dX11_revoke_9 : decode cX11_revoke 9 = .ok (.ifnull 10, 3) := by decide +kernel
theorem dX11_revoke_19 : decode cX11_revoke 19 = .ok (.bipush (-2), 2) := by decide +kernel
theorem dX11_revoke_21 : decode cX11_revoke 21 = .ok (.ireturn, 1) := by decide +kernel
theorem dX11_allowed_0 : decode cX11_allowed 0 = .ok (.aload_n 0, 1) := by decide +kernel
theorem dX11_allowed_1 : decode cX11_allowed 1 = .ok (.iload_n 1, 1) := by decide +kernel
theorem dX11_allowed_2 : decode cX11_allowed 2 = .ok (.invokevirtual 83, 3) := by decide +kernel
theorem dX11_allowed_5 : decode cX11_allowed 5 = .ok (.astore 4, 2) := by decide +kernel
theorem dX11_allowed_7 : decode cX11_allowed 7 = .ok (.aload 4, 2) := by decide +kernel
theorem dX11_allowed_9 : decode cX11_allowed 9 = .ok (.ifnull 10, 3) := by decide +kernel
theorem dX11_allowed_19 : decode cX11_allowed 19 = .ok (.bipush (-2), 2) := by decide +kernel
theorem dX11_allowed_21 : decode cX11_allowed 21 = .ok (.ireturn, 1) := by decide +kernel
theorem dX11_turn_0 : decode cX11_turn 0 = .ok (.aload_n 0, 1) := by decide +kernel
theorem dX11_turn_1 : decode cX11_turn 1 = .ok (.iload_n 1, 1) := by decide +kernel
theorem dX11_turn_2 : decode cX11_turn 2 = .ok (.invokevirtual 83, 3) := by decide +kernel
theorem dX11_turn_5 : decode cX11_turn 5 = .ok (.astore_n 2, 1) := by decide +kernel
theorem dX11_turn_6 : decode cX11_turn 6 = .ok (.aload_n 2, 1) := by decide +kernel
theorem dX11_turn_7 : decode cX11_turn 7 = .ok (.ifnonnull 8, 3) := by decide +kernel
theorem dX11_turn_10 : decode cX11_turn 10 = .ok (.bipush (-2), 2) := by decide +kernel
theorem dX11_turn_12 : decode cX11_turn 12 = .ok (.goto 10, 3) := by decide +kernel
theorem dX11_turn_22 : decode cX11_turn 22 = .ok (.ireturn, 1) := by decide +kernel
theorem dX11_trick_0 : decode cX11_trick 0 = .ok (.aload_n 0, 1) := by decide +kernel
theorem dX11_trick_1 : decode cX11_trick 1 = .ok (.iload_n 1, 1) := by decide +kernel
theorem dX11_trick_2 : decode cX11_trick 2 = .ok (.invokevirtual 83, 3) := by decide +kernel
theorem dX11_trick_5 : decode cX11_trick 5 = .ok (.astore_n 3, 1) := by decide +kernel
theorem dX11_trick_6 : decode cX11_trick 6 = .ok (.aload_n 3, 1) := by decide +kernel
theorem dX11_trick_7 : decode cX11_trick 7 = .ok (.ifnonnull 8, 3) := by decide +kernel
theorem dX11_trick_10 : decode cX11_trick 10 = .ok (.bipush (-2), 2) := by decide +kernel
theorem dX11_trick_12 : decode cX11_trick 12 = .ok (.goto 11, 3) := by decide +kernel
theorem dX11_trick_23 : decode cX11_trick 23 = .ok (.ireturn, 1) := by decide +kernel
theorem dX11_hand_0 : decode cX11_hand 0 = .ok (.aload_n 0, 1) := by decide +kernel
theorem dX11_hand_1 : decode cX11_hand 1 = .ok (.iload_n 1, 1) := by decide +kernel
theorem dX11_hand_2 : decode cX11_hand 2 = .ok (.invokevirtual 83, 3) := by decide +kernel
theorem dX11_hand_5 : decode cX11_hand 5 = .ok (.astore 4, 2) := by decide +kernel
theorem dX11_hand_7 : decode cX11_hand 7 = .ok (.aload 4, 2) := by decide +kernel
theorem dX11_hand_9 : decode cX11_hand 9 = .ok (.ifnull 10, 3) := by decide +kernel
theorem dX11_hand_19 : decode cX11_hand 19 = .ok (.bipush (-2), 2) := by decide +kernel
theorem dX11_hand_21 : decode cX11_hand 21 = .ok (.ireturn, 1) := by decide +kernel
theorem dX11_left_0 : decode cX11_left 0 = .ok (.aload_n 0, 1) := by decide +kernel
theorem dX11_left_1 : decode cX11_left 1 = .ok (.iload_n 1, 1) := by decide +kernel
theorem dX11_left_2 : decode cX11_left 2 = .ok (.invokevirtual 83, 3) := by decide +kernel
theorem dX11_left_5 : decode cX11_left 5 = .ok (.astore_n 3, 1) := by decide +kernel
theorem dX11_left_6 : decode cX11_left 6 = .ok (.aload_n 3, 1) := by decide +kernel
theorem dX11_left_7 : decode cX11_left 7 = .ok (.ifnull 15, 3) := by decide +kernel
theorem dX11_left_22 : decode cX11_left 22 = .ok (.bipush (-2), 2) := by decide +kernel
theorem dX11_left_24 : decode cX11_left 24 = .ok (.ireturn, 1) := by decide +kernel
theorem dX11_winner_0 : decode cX11_winner 0 = .ok (.aload_n 0, 1) := by decide +kernel
theorem dX11_winner_1 : decode cX11_winner 1 = .ok (.iload_n 1, 1) := by decide +kernel
theorem dX11_winner_2 : decode cX11_winner 2 = .ok (.invokevirtual 83, 3) := by decide +kernel
theorem dX11_winner_5 : decode cX11_winner 5 = .ok (.astore_n 2, 1) := by decide +kernel
theorem dX11_winner_6 : decode cX11_winner 6 = .ok (.aload_n 2, 1) := by decide +kernel
theorem dX11_winner_7 : decode cX11_winner 7 = .ok (.ifnonnull 8, 3) := by decide +kernel
theorem dX11_winner_10 : decode cX11_winner 10 = .ok (.bipush (-2), 2) := by decide +kernel
theorem dX11_winner_12 : decode cX11_winner 12 = .ok (.goto 10, 3) := by decide +kernel
theorem dX11_winner_22 : decode cX11_winner 22 = .ok (.ireturn, 1) := by decide +kernel
theorem dX11_won_0 : decode cX11_won 0 = .ok (.aload_n 0, 1) := by decide +kernel
theorem dX11_won_1 : decode cX11_won 1 = .ok (.iload_n 1, 1) := by decide +kernel
theorem dX11_won_2 : decode cX11_won 2 = .ok (.invokevirtual 83, 3) := by decide +kernel
theorem dX11_won_5 : decode cX11_won 5 = .ok (.astore 4, 2) := by decide +kernel
theorem dX11_won_7 : decode cX11_won 7 = .ok (.aload 4, 2) := by decide +kernel
theorem dX11_won_9 : decode cX11_won 9 = .ok (.ifnull 10, 3) := by decide +kernel
theorem dX11_won_19 : decode cX11_won 19 = .ok (.bipush (-2), 2) := by decide +kernel
theorem dX11_won_21 : decode cX11_won 21 = .ok (.ireturn, 1) := by decide +kernel
theorem dX11_revokes_0 : decode cX11_revokes 0 = .ok (.aload_n 0, 1) := by decide +kernel
theorem dX11_revokes_1 : decode cX11_revokes 1 = .ok (.iload_n 1, 1) := by decide +kernel
theorem dX11_revokes_2 : decode cX11_revokes 2 = .ok (.invokevirtual 83, 3) := by decide +kernel
theorem dX11_revokes_5 : decode cX11_revokes 5 = .ok (.astore 4, 2) := by decide +kernel
theorem dX11_revokes_7 : decode cX11_revokes 7 = .ok (.aload 4, 2) := by decide +kernel
theorem dX11_revokes_9 : decode cX11_revokes 9 = .ok (.ifnull 10, 3) := by decide +kernel
theorem dX11_revokes_19 : decode cX11_revokes 19 = .ok (.bipush (-2), 2) := by decide +kernel
theorem dX11_revokes_21 : decode cX11_revokes 21 = .ok (.ireturn, 1) := by decide +kernel
theorem dX11_sum_0 : decode cX11_sum 0 = .ok (.aload_n 0, 1) := by decide +kernel
theorem dX11_sum_1 : decode cX11_sum 1 = .ok (.iload_n 1, 1) := by decide +kernel
theorem dX11_sum_2 : decode cX11_sum 2 = .ok (.invokevirtual 83, 3) := by decide +kernel
theorem dX11_sum_5 : decode cX11_sum 5 = .ok (.astore_n 3, 1) := by decide +kernel
theorem dX11_sum_6 : decode cX11_sum 6 = .ok (.aload_n 3, 1) := by decide +kernel
theorem dX11_sum_7 : decode cX11_sum 7 = .ok (.ifnull 10, 3) := by decide +kernel
theorem dX11_sum_17 : decode cX11_sum 17 = .ok (.bipush (-2), 2) := by decide +kernel
theorem dX11_sum_19 : decode cX11_sum 19 = .ok (.goto 9, 3) := by decide +kernel
theorem dX11_sum_28 : decode cX11_sum 28 = .ok (.ireturn, 1) := by decide +kernel
theorem dX11_tie_0 : decode cX11_tie 0 = .ok (.aload_n 0, 1) := by decide +kernel
theorem dX11_tie_1 : decode cX11_tie 1 = .ok (.iload_n 1, 1) := by decide +kernel
theorem dX11_tie_2 : decode cX11_tie 2 = .ok (.invokevirtual 83, 3) := by decide +kernel
theorem dX11_tie_5 : decode cX11_tie 5 = .ok (.astore_n 2, 1) := by decide +kernel
theorem dX11_tie_6 : decode cX11_tie 6 = .ok (.aload_n 2, 1) := by decide +kernel
theorem dX11_tie_7 : decode cX11_tie 7 = .ok (.ifnonnull 6, 3) := by decide +kernel
theorem dX11_tie_10 : decode cX11_tie 10 = .ok (.bipush (-2), 2) := by decide +kernel
theorem dX11_tie_12 : decode cX11_tie 12 = .ok (.ireturn, 1) := by decide +kernel
theorem dX11_best_0 : decode cX11_best 0 = .ok (.aload_n 0, 1) := by decide +kernel
theorem dX11_best_1 : decode cX11_best 1 = .ok (.iload_n 1, 1) := by decide +kernel
theorem dX11_best_2 : decode cX11_best 2 = .ok (.invokevirtual 83, 3) := by decide +kernel
theorem dX11_best_5 : decode cX11_best 5 = .ok (.astore_n 3, 1) := by decide +kernel
theorem dX11_best_6 : decode cX11_best 6 = .ok (.aload_n 3, 1) := by decide +kernel
theorem dX11_best_7 : decode cX11_best 7 = .ok (.ifnull 10, 3) := by decide +kernel
theorem dX11_best_17 : decode cX11_best 17 = .ok (.bipush (-2), 2) := by decide +kernel
theorem dX11_best_19 : decode cX11_best 19 = .ok (.ireturn, 1) := by decide +kernel
theorem dX11_line_0 : decode cX11_line 0 = .ok (.aload_n 0, 1) := by decide +kernel
theorem dX11_line_1 : decode cX11_line 1 = .ok (.iload_n 1, 1) := by decide +kernel
theorem dX11_line_2 : decode cX11_line 2 = .ok (.invokevirtual 83, 3) := by decide +kernel
theorem dX11_line_5 : decode cX11_line 5 = .ok (.astore 4, 2) := by decide +kernel
theorem dX11_line_7 : decode cX11_line 7 = .ok (.aload 4, 2) := by decide +kernel
theorem dX11_line_9 : decode cX11_line 9 = .ok (.ifnull 10, 3) := by decide +kernel
theorem dX11_line_19 : decode cX11_line 19 = .ok (.bipush (-2), 2) := by decide +kernel
theorem dX11_line_21 : decode cX11_line 21 = .ok (.ireturn, 1) := by decide +kernel
theorem dX11_check_0 : decode cX11_check 0 = .ok (.aload_n 0, 1) := by decide +kernel
theorem dX11_check_1 : decode cX11_check 1 = .ok (.iload_n 1, 1) := by decide +kernel
theorem dX11_check_2 : decode cX11_check 2 = .ok (.invokevirtual 83, 3) := by decide +kernel
theorem dX11_check_5 : decode cX11_check 5 = .ok (.astore_n 3, 1) := by decide +kernel
theorem dX11_check_6 : decode cX11_check 6 = .ok (.aload_n 3, 1) := by decide +kernel
theorem dX11_check_7 : decode cX11_check 7 = .ok (.ifnull 10, 3) := by decide +kernel
theorem dX11_check_17 : decode cX11_check 17 = .ok (.bipush (-2), 2) := by decide +kernel
theorem dX11_check_19 : decode cX11_check 19 = .ok (.ireturn, 1) := by decide +kernel
theorem dX11_claim_0 : decode cX11_claim 0 = .ok (.aload_n 0, 1) := by decide +kernel
theorem dX11_claim_1 : decode cX11_claim 1 = .ok (.iload_n 1, 1) := by decide +kernel
theorem dX11_claim_2 : decode cX11_claim 2 = .ok (.invokevirtual 83, 3) := by decide +kernel
theorem dX11_claim_5 : decode cX11_claim 5 = .ok (.astore 4, 2) := by decide +kernel
theorem dX11_claim_7 : decode cX11_claim 7 = .ok (.aload 4, 2) := by decide +kernel
theorem dX11_claim_9 : decode cX11_claim 9 = .ok (.ifnull 10, 3) := by decide +kernel
theorem dX11_claim_19 : decode cX11_claim 19 = .ok (.bipush (-2), 2) := by decide +kernel
theorem dX11_claim_21 : decode cX11_claim 21 = .ok (.ireturn, 1) := by decide +kernel
theorem dX11_undo_0 : decode cX11_undo 0 = .ok (.aload_n 0, 1) := by decide +kernel
theorem dX11_undo_1 : decode cX11_undo 1 = .ok (.iload_n 1, 1) := by decide +kernel
theorem dX11_undo_2 : decode cX11_undo 2 = .ok (.invokevirtual 83, 3) := by decide +kernel
theorem dX11_undo_5 : decode cX11_undo 5 = .ok (.astore_n 2, 1) := by decide +kernel
theorem dX11_undo_6 : decode cX11_undo 6 = .ok (.aload_n 2, 1) := by decide +kernel
theorem dX11_undo_7 : decode cX11_undo 7 = .ok (.ifnonnull 6, 3) := by decide +kernel
theorem dX11_undo_10 : decode cX11_undo 10 = .ok (.bipush (-2), 2) := by decide +kernel
theorem dX11_undo_12 : decode cX11_undo 12 = .ok (.ireturn, 1) := by decide +kernel
theorem dX11_replay_0 : decode cX11_replay 0 = .ok (.aload_n 0, 1) := by decide +kernel
theorem dX11_replay_1 : decode cX11_replay 1 = .ok (.iload_n 1, 1) := by decide +kernel
theorem dX11_replay_2 : decode cX11_replay 2 = .ok (.invokevirtual 83, 3) := by decide +kernel
theorem dX11_replay_5 : decode cX11_replay 5 = .ok (.astore_n 2, 1) := by decide +kernel
theorem dX11_replay_6 : decode cX11_replay 6 = .ok (.aload_n 2, 1) := by decide +kernel
theorem dX11_replay_7 : decode cX11_replay 7 = .ok (.ifnonnull 6, 3) := by decide +kernel
theorem dX11_replay_10 : decode cX11_replay 10 = .ok (.bipush (-2), 2) := by decide +kernel
theorem dX11_replay_12 : decode cX11_replay 12 = .ok (.ireturn, 1) := by decide +kernel
theorem dX11_digest_0 : decode cX11_digest 0 = .ok (.aload_n 0, 1) := by decide +kernel
theorem dX11_digest_1 : decode cX11_digest 1 = .ok (.iload_n 1, 1) := by decide +kernel
theorem dX11_digest_2 : decode cX11_digest 2 = .ok (.invokevirtual 83, 3) := by decide +kernel
theorem dX11_digest_5 : decode cX11_digest 5 = .ok (.astore_n 2, 1) := by decide +kernel
theorem dX11_digest_6 : decode cX11_digest 6 = .ok (.aload_n 2, 1) := by decide +kernel
theorem dX11_digest_7 : decode cX11_digest 7 = .ok (.ifnonnull 6, 3) := by decide +kernel
theorem dX11_digest_10 : decode cX11_digest 10 = .ok (.bipush (-2), 2) := by decide +kernel
theorem dX11_digest_12 : decode cX11_digest 12 = .ok (.ireturn, 1) := by decide +kernel
theorem dX11_finding_0 : decode cX11_finding 0 = .ok (.iload_n 2, 1) := by decide +kernel
theorem dX11_finding_1 : decode cX11_finding 1 = .ok (.ifCond .lt 8, 3) := by decide +kernel
theorem dX11_finding_4 : decode cX11_finding 4 = .ok (.iload_n 2, 1) := by decide +kernel
theorem dX11_finding_5 : decode cX11_finding 5 = .ok (.iconst 5, 1) := by decide +kernel
theorem dX11_finding_6 : decode cX11_finding 6 = .ok (.if_icmp .lt 6, 3) := by decide +kernel
theorem dX11_finding_9 : decode cX11_finding 9 = .ok (.bipush (-3), 2) := by decide +kernel
theorem dX11_finding_11 : decode cX11_finding 11 = .ok (.ireturn, 1) := by decide +kernel
theorem dX11_finding_12 : decode cX11_finding 12 = .ok (.aload_n 0, 1) := by decide +kernel
theorem dX11_finding_13 : decode cX11_finding 13 = .ok (.getfield 43, 3) := by decide +kernel
theorem dX11_finding_16 : decode cX11_finding 16 = .ok (.iload_n 1, 1) := by decide +kernel
theorem dX11_finding_17 : decode cX11_finding 17 = .ok (.iload_n 2, 1) := by decide +kernel
theorem dX11_finding_18 : decode cX11_finding 18 = .ok (.invokevirtual 284, 3) := by decide +kernel
theorem dX11_finding_21 : decode cX11_finding 21 = .ok (.ireturn, 1) := by decide +kernel
theorem dX11_trace_0 : decode cX11_trace 0 = .ok (.aload_n 0, 1) := by decide +kernel
theorem dX11_trace_1 : decode cX11_trace 1 = .ok (.getfield 43, 3) := by decide +kernel
theorem dX11_trace_4 : decode cX11_trace 4 = .ok (.iload_n 1, 1) := by decide +kernel
theorem dX11_trace_5 : decode cX11_trace 5 = .ok (.invokevirtual 287, 3) := by decide +kernel
theorem dX11_trace_8 : decode cX11_trace 8 = .ok (.ireturn, 1) := by decide +kernel
theorem dX11_forget_0 : decode cX11_forget 0 = .ok (.aload_n 0, 1) := by decide +kernel
theorem dX11_forget_1 : decode cX11_forget 1 = .ok (.getfield 43, 3) := by decide +kernel
theorem dX11_forget_4 : decode cX11_forget 4 = .ok (.getfield 290, 3) := by decide +kernel
theorem dX11_forget_7 : decode cX11_forget 7 = .ok (.istore_n 1, 1) := by decide +kernel
theorem dX11_forget_8 : decode cX11_forget 8 = .ok (.aload_n 0, 1) := by decide +kernel
theorem dX11_forget_9 : decode cX11_forget 9 = .ok (.getfield 43, 3) := by decide +kernel
theorem dX11_forget_12 : decode cX11_forget 12 = .ok (.iconst 0, 1) := by decide +kernel
theorem dX11_forget_13 : decode cX11_forget 13 = .ok (.putfield 290, 3) := by decide +kernel
theorem dX11_forget_16 : decode cX11_forget 16 = .ok (.iload_n 1, 1) := by decide +kernel
theorem dX11_forget_17 : decode cX11_forget 17 = .ok (.ireturn, 1) := by decide +kernel
theorem dX11_count_0 : decode cX11_count 0 = .ok (.iload_n 1, 1) := by decide +kernel
theorem dX11_count_1 : decode cX11_count 1 = .ok (.tableswitch 69 0 4 #[35, 43, 51, 59, 64], 35) := by decide +kernel
theorem dX11_count_36 : decode cX11_count 36 = .ok (.aload_n 0, 1) := by decide +kernel
theorem dX11_count_37 : decode cX11_count 37 = .ok (.getfield 43, 3) := by decide +kernel
theorem dX11_count_40 : decode cX11_count 40 = .ok (.getfield 293, 3) := by decide +kernel
theorem dX11_count_43 : decode cX11_count 43 = .ok (.ireturn, 1) := by decide +kernel
theorem dX11_count_44 : decode cX11_count 44 = .ok (.aload_n 0, 1) := by decide +kernel
theorem dX11_count_45 : decode cX11_count 45 = .ok (.getfield 43, 3) := by decide +kernel
theorem dX11_count_48 : decode cX11_count 48 = .ok (.getfield 296, 3) := by decide +kernel
theorem dX11_count_51 : decode cX11_count 51 = .ok (.ireturn, 1) := by decide +kernel
theorem dX11_count_52 : decode cX11_count 52 = .ok (.aload_n 0, 1) := by decide +kernel
theorem dX11_count_53 : decode cX11_count 53 = .ok (.getfield 43, 3) := by decide +kernel
theorem dX11_count_56 : decode cX11_count 56 = .ok (.getfield 148, 3) := by decide +kernel
theorem dX11_count_59 : decode cX11_count 59 = .ok (.ireturn, 1) := by decide +kernel
theorem dX11_count_60 : decode cX11_count 60 = .ok (.aload_n 0, 1) := by decide +kernel
theorem dX11_count_61 : decode cX11_count 61 = .ok (.invokevirtual 299, 3) := by decide +kernel
theorem dX11_count_64 : decode cX11_count 64 = .ok (.ireturn, 1) := by decide +kernel
theorem dX11_count_65 : decode cX11_count 65 = .ok (.aload_n 0, 1) := by decide +kernel
theorem dX11_count_66 : decode cX11_count 66 = .ok (.invokevirtual 303, 3) := by decide +kernel
theorem dX11_count_69 : decode cX11_count 69 = .ok (.ireturn, 1) := by decide +kernel
theorem dX11_count_70 : decode cX11_count 70 = .ok (.bipush (-3), 2) := by decide +kernel
theorem dX11_count_72 : decode cX11_count 72 = .ok (.ireturn, 1) := by decide +kernel
theorem dX11_status_0 : decode cX11_status 0 = .ok (.aload_n 0, 1) := by decide +kernel
theorem dX11_status_1 : decode cX11_status 1 = .ok (.iload_n 1, 1) := by decide +kernel
theorem dX11_status_2 : decode cX11_status 2 = .ok (.invokevirtual 83, 3) := by decide +kernel
theorem dX11_status_5 : decode cX11_status 5 = .ok (.astore_n 3, 1) := by decide +kernel
theorem dX11_status_6 : decode cX11_status 6 = .ok (.aload_n 3, 1) := by decide +kernel
theorem dX11_status_7 : decode cX11_status 7 = .ok (.ifnonnull 6, 3) := by decide +kernel
theorem dX11_status_10 : decode cX11_status 10 = .ok (.bipush (-2), 2) := by decide +kernel
theorem dX11_status_12 : decode cX11_status 12 = .ok (.ireturn, 1) := by decide +kernel
theorem dX11_isGame_0 : decode cX11_isGame 0 = .ok (.iload_n 0, 1) := by decide +kernel
theorem dX11_isGame_1 : decode cX11_isGame 1 = .ok (.ifCond .lt 13, 3) := by decide +kernel
theorem dX11_isGame_4 : decode cX11_isGame 4 = .ok (.iload_n 0, 1) := by decide +kernel
theorem dX11_isGame_5 : decode cX11_isGame 5 = .ok (.bipush 6, 2) := by decide +kernel
theorem dX11_isGame_7 : decode cX11_isGame 7 = .ok (.if_icmp .ge 7, 3) := by decide +kernel
theorem dX11_isGame_10 : decode cX11_isGame 10 = .ok (.iconst 1, 1) := by decide +kernel
theorem dX11_isGame_11 : decode cX11_isGame 11 = .ok (.goto 4, 3) := by decide +kernel
theorem dX11_isGame_14 : decode cX11_isGame 14 = .ok (.iconst 0, 1) := by decide +kernel
theorem dX11_isGame_15 : decode cX11_isGame 15 = .ok (.ireturn, 1) := by decide +kernel
set_option maxRecDepth 20000 in
theorem ggX11_newGame_X5_init : GoodIn wsX11_newGame wsX5_init := goodIn_r _ [15, 16, 17, 12, 18, 19, 20, 21, 22, 23, 24, 25, 26, 38, 39, 36, 40, 41, 42, 37] (by decide +kernel) (by decide +kernel)
set_option maxRecDepth 20000 in
theorem gX11_newGame_X5_init : GoodIn wsX11_newGame (wsX5_init) := ggX11_newGame_X5_init
set_option maxRecDepth 20000 in
theorem ggX11_newGame_X10_init : GoodIn wsX11_newGame wsX10_init := goodIn_r _ [29, 30, 17, 12, 18, 19, 20, 21, 22, 23, 24, 25, 26, 38, 39, 36, 40, 41, 42, 37] (by decide +kernel) (by decide +kernel)
set_option maxRecDepth 20000 in
theorem gX11_newGame_X10_init : GoodIn wsX11_newGame (wsX10_init) := ggX11_newGame_X10_init
set_option maxRecDepth 20000 in
theorem ggX11_newGame_X0_init : GoodIn wsX11_newGame wsX0_init := goodIn_r _ [33, 34, 14, 3, 15, 16, 17, 12, 18, 19, 20, 21, 22, 23, 24, 25, 26, 38, 39, 36, 40, 41, 42, 37] (by decide +kernel) (by decide +kernel)
set_option maxRecDepth 20000 in
theorem gX11_newGame_X0_init : GoodIn wsX11_newGame (wsX0_init) := ggX11_newGame_X0_init
set_option maxRecDepth 20000 in
theorem ggX11_newGame_X3_init : GoodIn wsX11_newGame wsX3_init := goodIn_r _ [18, 19, 20, 21, 22, 23, 24, 25, 26, 38, 39, 36, 40, 41, 42, 37] (by decide +kernel) (by decide +kernel)
set_option maxRecDepth 20000 in
theorem gX11_newGame_X3_init : GoodIn wsX11_newGame (wsX3_init) := ggX11_newGame_X3_init
theorem dX11_newGame_0 : decode cX11_newGame 0 = .ok (.iload_n 0, 1) := by decide +kernel
theorem dX11_newGame_1 : decode cX11_newGame 1 = .ok (.tableswitch 52 1 3 #[27, 36, 44], 27) := by decide +kernel
theorem dX11_newGame_28 : decode cX11_newGame 28 = .ok (.new 324, 3) := by decide +kernel
theorem dX11_newGame_31 : decode cX11_newGame 31 = .ok (.dup, 1) := by decide +kernel
theorem dX11_newGame_32 : decode cX11_newGame 32 = .ok (.iconst 1, 1) := by decide +kernel
theorem dX11_newGame_33 : decode cX11_newGame 33 = .ok (.invokespecial 326, 3) := by decide +kernel
theorem dX11_newGame_36 : decode cX11_newGame 36 = .ok (.areturn, 1) := by decide +kernel
theorem dX11_newGame_37 : decode cX11_newGame 37 = .ok (.new 327, 3) := by decide +kernel
theorem dX11_newGame_40 : decode cX11_newGame 40 = .ok (.dup, 1) := by decide +kernel
theorem dX11_newGame_41 : decode cX11_newGame 41 = .ok (.invokespecial 329, 3) := by decide +kernel
theorem dX11_newGame_44 : decode cX11_newGame 44 = .ok (.areturn, 1) := by decide +kernel
theorem dX11_newGame_45 : decode cX11_newGame 45 = .ok (.new 330, 3) := by decide +kernel
theorem dX11_newGame_48 : decode cX11_newGame 48 = .ok (.dup, 1) := by decide +kernel
theorem dX11_newGame_49 : decode cX11_newGame 49 = .ok (.invokespecial 332, 3) := by decide +kernel
theorem dX11_newGame_52 : decode cX11_newGame 52 = .ok (.areturn, 1) := by decide +kernel
theorem dX11_newGame_53 : decode cX11_newGame 53 = .ok (.new 68, 3) := by decide +kernel
theorem dX11_newGame_56 : decode cX11_newGame 56 = .ok (.dup, 1) := by decide +kernel
theorem dX11_newGame_57 : decode cX11_newGame 57 = .ok (.iconst 0, 1) := by decide +kernel
theorem dX11_newGame_58 : decode cX11_newGame 58 = .ok (.invokespecial 333, 3) := by decide +kernel
theorem dX11_newGame_61 : decode cX11_newGame 61 = .ok (.areturn, 1) := by decide +kernel
theorem dX11_gameAt_0 : decode cX11_gameAt 0 = .ok (.iload_n 1, 1) := by decide +kernel
theorem dX11_gameAt_1 : decode cX11_gameAt 1 = .ok (.invokestatic 57, 3) := by decide +kernel
theorem dX11_gameAt_4 : decode cX11_gameAt 4 = .ok (.ifCond .eq 12, 3) := by decide +kernel
theorem dX11_gameAt_7 : decode cX11_gameAt 7 = .ok (.aload_n 0, 1) := by decide +kernel
theorem dX11_gameAt_8 : decode cX11_gameAt 8 = .ok (.getfield 11, 3) := by decide +kernel
theorem dX11_gameAt_11 : decode cX11_gameAt 11 = .ok (.iload_n 1, 1) := by decide +kernel
theorem dX11_gameAt_12 : decode cX11_gameAt 12 = .ok (.aaload, 1) := by decide +kernel
theorem dX11_gameAt_13 : decode cX11_gameAt 13 = .ok (.goto 4, 3) := by decide +kernel
theorem dX11_gameAt_16 : decode cX11_gameAt 16 = .ok (.aconst_null, 1) := by decide +kernel
theorem dX11_gameAt_17 : decode cX11_gameAt 17 = .ok (.areturn, 1) := by decide +kernel
theorem dX11_tableAt_0 : decode cX11_tableAt 0 = .ok (.iload_n 1, 1) := by decide +kernel
theorem dX11_tableAt_1 : decode cX11_tableAt 1 = .ok (.ifCond .lt 8, 3) := by decide +kernel
theorem dX11_tableAt_4 : decode cX11_tableAt 4 = .ok (.iload_n 1, 1) := by decide +kernel
theorem dX11_tableAt_5 : decode cX11_tableAt 5 = .ok (.iconst 4, 1) := by decide +kernel
theorem dX11_tableAt_6 : decode cX11_tableAt 6 = .ok (.if_icmp .lt 5, 3) := by decide +kernel
theorem dX11_tableAt_9 : decode cX11_tableAt 9 = .ok (.aconst_null, 1) := by decide +kernel
theorem dX11_tableAt_10 : decode cX11_tableAt 10 = .ok (.areturn, 1) := by decide +kernel
theorem dX11_tableAt_11 : decode cX11_tableAt 11 = .ok (.aload_n 0, 1) := by decide +kernel
theorem dX11_tableAt_12 : decode cX11_tableAt 12 = .ok (.getfield 17, 3) := by decide +kernel
theorem dX11_tableAt_15 : decode cX11_tableAt 15 = .ok (.iload_n 1, 1) := by decide +kernel
theorem dX11_tableAt_16 : decode cX11_tableAt 16 = .ok (.aaload, 1) := by decide +kernel
theorem dX11_tableAt_17 : decode cX11_tableAt 17 = .ok (.astore_n 2, 1) := by decide +kernel
theorem dX11_tableAt_18 : decode cX11_tableAt 18 = .ok (.aload_n 2, 1) := by decide +kernel
theorem dX11_tableAt_19 : decode cX11_tableAt 19 = .ok (.ifnull 10, 3) := by decide +kernel
theorem dX11_tableAt_22 : decode cX11_tableAt 22 = .ok (.aload_n 2, 1) := by decide +kernel
theorem dX11_tableAt_23 : decode cX11_tableAt 23 = .ok (.getfield 334, 3) := by decide +kernel
theorem dX11_tableAt_26 : decode cX11_tableAt 26 = .ok (.ifnonnull 7, 3) := by decide +kernel
theorem dX11_tableAt_29 : decode cX11_tableAt 29 = .ok (.aconst_null, 1) := by decide +kernel
theorem dX11_tableAt_30 : decode cX11_tableAt 30 = .ok (.goto 4, 3) := by decide +kernel
theorem dX11_tableAt_34 : decode cX11_tableAt 34 = .ok (.areturn, 1) := by decide +kernel
theorem dX11_tablesThere_0 : decode cX11_tablesThere 0 = .ok (.iconst 0, 1) := by decide +kernel
theorem dX11_tablesThere_1 : decode cX11_tablesThere 1 = .ok (.istore_n 1, 1) := by decide +kernel
theorem dX11_tablesThere_2 : decode cX11_tablesThere 2 = .ok (.iconst 0, 1) := by decide +kernel
theorem dX11_tablesThere_3 : decode cX11_tablesThere 3 = .ok (.istore_n 2, 1) := by decide +kernel
theorem dX11_tablesThere_4 : decode cX11_tablesThere 4 = .ok (.iload_n 2, 1) := by decide +kernel
theorem dX11_tablesThere_5 : decode cX11_tablesThere 5 = .ok (.iconst 4, 1) := by decide +kernel
theorem dX11_tablesThere_6 : decode cX11_tablesThere 6 = .ok (.if_icmp .ge 25, 3) := by decide +kernel
theorem dX11_tablesThere_9 : decode cX11_tablesThere 9 = .ok (.iload_n 1, 1) := by decide +kernel
theorem dX11_tablesThere_10 : decode cX11_tablesThere 10 = .ok (.aload_n 0, 1) := by decide +kernel
theorem dX11_tablesThere_11 : decode cX11_tablesThere 11 = .ok (.iload_n 2, 1) := by decide +kernel
theorem dX11_tablesThere_12 : decode cX11_tablesThere 12 = .ok (.invokevirtual 83, 3) := by decide +kernel
theorem dX11_tablesThere_15 : decode cX11_tablesThere 15 = .ok (.ifnonnull 7, 3) := by decide +kernel
theorem dX11_tablesThere_18 : decode cX11_tablesThere 18 = .ok (.iconst 0, 1) := by decide +kernel
theorem dX11_tablesThere_19 : decode cX11_tablesThere 19 = .ok (.goto 4, 3) := by decide +kernel
theorem dX11_tablesThere_23 : decode cX11_tablesThere 23 = .ok (.iadd, 1) := by decide +kernel
theorem dX11_tablesThere_24 : decode cX11_tablesThere 24 = .ok (.istore_n 1, 1) := by decide +kernel
theorem dX11_tablesThere_25 : decode cX11_tablesThere 25 = .ok (.iinc 2 1, 3) := by decide +kernel
theorem dX11_tablesThere_28 : decode cX11_tablesThere 28 = .ok (.goto (-24), 3) := by decide +kernel
theorem dX11_tablesThere_31 : decode cX11_tablesThere 31 = .ok (.iload_n 1, 1) := by decide +kernel
theorem dX11_tablesThere_32 : decode cX11_tablesThere 32 = .ok (.ireturn, 1) := by decide +kernel
theorem dX11_gamesThere_0 : decode cX11_gamesThere 0 = .ok (.iconst 0, 1) := by decide +kernel
theorem dX11_gamesThere_1 : decode cX11_gamesThere 1 = .ok (.istore_n 1, 1) := by decide +kernel
theorem dX11_gamesThere_2 : decode cX11_gamesThere 2 = .ok (.iconst 0, 1) := by decide +kernel
theorem dX11_gamesThere_3 : decode cX11_gamesThere 3 = .ok (.istore_n 2, 1) := by decide +kernel
theorem dX11_gamesThere_4 : decode cX11_gamesThere 4 = .ok (.iload_n 2, 1) := by decide +kernel
theorem dX11_gamesThere_5 : decode cX11_gamesThere 5 = .ok (.bipush 6, 2) := by decide +kernel
theorem dX11_gamesThere_7 : decode cX11_gamesThere 7 = .ok (.if_icmp .ge 26, 3) := by decide +kernel
theorem dX11_gamesThere_10 : decode cX11_gamesThere 10 = .ok (.iload_n 1, 1) := by decide +kernel
theorem dX11_gamesThere_11 : decode cX11_gamesThere 11 = .ok (.aload_n 0, 1) := by decide +kernel
theorem dX11_gamesThere_12 : decode cX11_gamesThere 12 = .ok (.getfield 11, 3) := by decide +kernel
theorem dX11_gamesThere_15 : decode cX11_gamesThere 15 = .ok (.iload_n 2, 1) := by decide +kernel
theorem dX11_gamesThere_16 : decode cX11_gamesThere 16 = .ok (.aaload, 1) := by decide +kernel
theorem dX11_gamesThere_17 : decode cX11_gamesThere 17 = .ok (.ifnonnull 7, 3) := by decide +kernel
theorem dX11_gamesThere_20 : decode cX11_gamesThere 20 = .ok (.iconst 0, 1) := by decide +kernel
theorem dX11_gamesThere_21 : decode cX11_gamesThere 21 = .ok (.goto 4, 3) := by decide +kernel
theorem dX11_gamesThere_25 : decode cX11_gamesThere 25 = .ok (.iadd, 1) := by decide +kernel
theorem dX11_gamesThere_26 : decode cX11_gamesThere 26 = .ok (.istore_n 1, 1) := by decide +kernel
theorem dX11_gamesThere_27 : decode cX11_gamesThere 27 = .ok (.iinc 2 1, 3) := by decide +kernel
theorem dX11_gamesThere_30 : decode cX11_gamesThere 30 = .ok (.goto (-26), 3) := by decide +kernel
theorem dX11_gamesThere_33 : decode cX11_gamesThere 33 = .ok (.iload_n 1, 1) := by decide +kernel
theorem dX11_gamesThere_34 : decode cX11_gamesThere 34 = .ok (.ireturn, 1) := by decide +kernel
theorem dX12_in_0 : decode cX12_in 0 = .ok (.iload_n 0, 1) := by decide +kernel
theorem dX12_in_1 : decode cX12_in 1 = .ok (.iload_n 1, 1) := by decide +kernel
theorem dX12_in_2 : decode cX12_in 2 = .ok (.if_icmp .lt 12, 3) := by decide +kernel
theorem dX12_in_5 : decode cX12_in 5 = .ok (.iload_n 0, 1) := by decide +kernel
theorem dX12_in_6 : decode cX12_in 6 = .ok (.iload_n 2, 1) := by decide +kernel
theorem dX12_in_7 : decode cX12_in 7 = .ok (.if_icmp .gt 7, 3) := by decide +kernel
theorem dX12_in_10 : decode cX12_in 10 = .ok (.iconst 1, 1) := by decide +kernel
theorem dX12_in_11 : decode cX12_in 11 = .ok (.goto 4, 3) := by decide +kernel
theorem dX12_in_14 : decode cX12_in 14 = .ok (.iconst 0, 1) := by decide +kernel
theorem dX12_in_15 : decode cX12_in 15 = .ok (.ireturn, 1) := by decide +kernel
theorem dX12_least_0 : decode cX12_least 0 = .ok (.iload_n 0, 1) := by decide +kernel
theorem dX12_least_1 : decode cX12_least 1 = .ok (.iload_n 1, 1) := by decide +kernel
theorem dX12_least_2 : decode cX12_least 2 = .ok (.if_icmp .ge 7, 3) := by decide +kernel
theorem dX12_least_5 : decode cX12_least 5 = .ok (.iload_n 0, 1) := by decide +kernel
theorem dX12_least_6 : decode cX12_least 6 = .ok (.goto 4, 3) := by decide +kernel
theorem dX12_least_9 : decode cX12_least 9 = .ok (.iload_n 1, 1) := by decide +kernel
theorem dX12_least_10 : decode cX12_least 10 = .ok (.ireturn, 1) := by decide +kernel
theorem dX12_isTable_0 : decode cX12_isTable 0 = .ok (.iload_n 1, 1) := by decide +kernel
theorem dX12_isTable_1 : decode cX12_isTable 1 = .ok (.iconst 0, 1) := by decide +kernel
theorem dX12_isTable_2 : decode cX12_isTable 2 = .ok (.iconst 3, 1) := by decide +kernel
theorem dX12_isTable_3 : decode cX12_isTable 3 = .ok (.invokestatic 91, 3) := by decide +kernel
theorem dX12_isTable_6 : decode cX12_isTable 6 = .ok (.ifCond .eq 16, 3) := by decide +kernel
theorem dX12_isTable_9 : decode cX12_isTable 9 = .ok (.aload_n 0, 1) := by decide +kernel
theorem dX12_isTable_10 : decode cX12_isTable 10 = .ok (.getfield 14, 3) := by decide +kernel
theorem dX12_isTable_13 : decode cX12_isTable 13 = .ok (.iload_n 1, 1) := by decide +kernel
theorem dX12_isTable_14 : decode cX12_isTable 14 = .ok (.baload, 1) := by decide +kernel
theorem dX12_isTable_15 : decode cX12_isTable 15 = .ok (.ifCond .eq 7, 3) := by decide +kernel
theorem dX12_isTable_22 : decode cX12_isTable 22 = .ok (.iconst 0, 1) := by decide +kernel
theorem dX12_isTable_23 : decode cX12_isTable 23 = .ok (.ireturn, 1) := by decide +kernel
theorem dX12_game_0 : decode cX12_game 0 = .ok (.iload_n 1, 1) := by decide +kernel
theorem dX12_game_1 : decode cX12_game 1 = .ok (.iconst 0, 1) := by decide +kernel
theorem dX12_game_2 : decode cX12_game 2 = .ok (.iconst 5, 1) := by decide +kernel
theorem dX12_game_3 : decode cX12_game 3 = .ok (.invokestatic 91, 3) := by decide +kernel
theorem dX12_game_6 : decode cX12_game 6 = .ok (.ifCond .eq 25, 3) := by decide +kernel
theorem dX12_game_9 : decode cX12_game 9 = .ok (.iload_n 2, 1) := by decide +kernel
theorem dX12_game_10 : decode cX12_game 10 = .ok (.iconst 4, 1) := by decide +kernel
theorem dX12_game_11 : decode cX12_game 11 = .ok (.if_icmp .ne 23, 3) := by decide +kernel
theorem dX12_game_14 : decode cX12_game 14 = .ok (.aload_n 0, 1) := by decide +kernel
theorem dX12_game_15 : decode cX12_game 15 = .ok (.iload_n 3, 1) := by decide +kernel
theorem dX12_game_16 : decode cX12_game 16 = .ok (.invokevirtual 99, 3) := by decide +kernel
theorem dX12_game_19 : decode cX12_game 19 = .ok (.ifCond .eq 12, 3) := by decide +kernel
theorem dX12_game_31 : decode cX12_game 31 = .ok (.bipush (-2), 2) := by decide +kernel
theorem dX12_game_33 : decode cX12_game 33 = .ok (.ireturn, 1) := by decide +kernel
theorem dX12_game_34 : decode cX12_game 34 = .ok (.iload_n 2, 1) := by decide +kernel
theorem dX12_game_35 : decode cX12_game 35 = .ok (.iconst 0, 1) := by decide +kernel
theorem dX12_game_36 : decode cX12_game 36 = .ok (.iconst 4, 1) := by decide +kernel
theorem dX12_game_37 : decode cX12_game 37 = .ok (.invokestatic 91, 3) := by decide +kernel
theorem dX12_game_40 : decode cX12_game 40 = .ok (.ifCond .ne 6, 3) := by decide +kernel
theorem dX12_game_43 : decode cX12_game 43 = .ok (.bipush (-3), 2) := by decide +kernel
theorem dX12_game_45 : decode cX12_game 45 = .ok (.ireturn, 1) := by decide +kernel
theorem dX12_game_46 : decode cX12_game 46 = .ok (.iload_n 2, 1) := by decide +kernel
theorem dX12_game_47 : decode cX12_game 47 = .ok (.iconst 4, 1) := by decide +kernel
theorem dX12_game_48 : decode cX12_game 48 = .ok (.if_icmp .ne 27, 3) := by decide +kernel
theorem dX12_game_75 : decode cX12_game 75 = .ok (.iload_n 2, 1) := by decide +kernel
theorem dX12_game_76 : decode cX12_game 76 = .ok (.iconst 4, 1) := by decide +kernel
theorem dX12_game_77 : decode cX12_game 77 = .ok (.if_icmp .ne 12, 3) := by decide +kernel
theorem dX12_game_89 : decode cX12_game 89 = .ok (.iload_n 2, 1) := by decide +kernel
theorem dX12_game_90 : decode cX12_game 90 = .ok (.istore 5, 2) := by decide +kernel
theorem dX12_game_92 : decode cX12_game 92 = .ok (.iload_n 2, 1) := by decide +kernel
theorem dX12_game_93 : decode cX12_game 93 = .ok (.iconst 4, 1) := by decide +kernel
theorem dX12_game_94 : decode cX12_game 94 = .ok (.if_icmp .ne 13, 3) := by decide +kernel
theorem dX12_game_107 : decode cX12_game 107 = .ok (.iload_n 2, 1) := by decide +kernel
theorem dX12_game_108 : decode cX12_game 108 = .ok (.istore 6, 2) := by decide +kernel
theorem dX12_game_110 : decode cX12_game 110 = .ok (.aload_n 0, 1) := by decide +kernel
theorem dX12_game_111 : decode cX12_game 111 = .ok (.getfield 21, 3) := by decide +kernel
theorem dX12_game_114 : decode cX12_game 114 = .ok (.iload_n 1, 1) := by decide +kernel
theorem dX12_game_115 : decode cX12_game 115 = .ok (.iload_n 2, 1) := by decide +kernel
theorem dX12_game_116 : decode cX12_game 116 = .ok (.iastore, 1) := by decide +kernel
theorem dX12_game_117 : decode cX12_game 117 = .ok (.aload_n 0, 1) := by decide +kernel
theorem dX12_game_118 : decode cX12_game 118 = .ok (.getfield 24, 3) := by decide +kernel
theorem dX12_game_121 : decode cX12_game 121 = .ok (.iload_n 1, 1) := by decide +kernel
theorem dX12_game_122 : decode cX12_game 122 = .ok (.iload 5, 2) := by decide +kernel
theorem dX12_game_124 : decode cX12_game 124 = .ok (.iastore, 1) := by decide +kernel
theorem dX12_game_125 : decode cX12_game 125 = .ok (.aload_n 0, 1) := by decide +kernel
theorem dX12_game_126 : decode cX12_game 126 = .ok (.getfield 27, 3) := by decide +kernel
theorem dX12_game_129 : decode cX12_game 129 = .ok (.iload_n 1, 1) := by decide +kernel
theorem dX12_game_130 : decode cX12_game 130 = .ok (.iload 6, 2) := by decide +kernel
theorem dX12_game_132 : decode cX12_game 132 = .ok (.iastore, 1) := by decide +kernel
theorem dX12_game_133 : decode cX12_game 133 = .ok (.iconst 1, 1) := by decide +kernel
theorem dX12_game_134 : decode cX12_game 134 = .ok (.ireturn, 1) := by decide +kernel
theorem dX12_isGame_0 : decode cX12_isGame 0 = .ok (.iload_n 1, 1) := by decide +kernel
theorem dX12_isGame_1 : decode cX12_isGame 1 = .ok (.iconst 0, 1) := by decide +kernel
theorem dX12_isGame_2 : decode cX12_isGame 2 = .ok (.iconst 5, 1) := by decide +kernel
theorem dX12_isGame_3 : decode cX12_isGame 3 = .ok (.invokestatic 91, 3) := by decide +kernel
theorem dX12_isGame_6 : decode cX12_isGame 6 = .ok (.ifCond .eq 17, 3) := by decide +kernel
theorem dX12_isGame_9 : decode cX12_isGame 9 = .ok (.aload_n 0, 1) := by decide +kernel
theorem dX12_isGame_10 : decode cX12_isGame 10 = .ok (.getfield 21, 3) := by decide +kernel
theorem dX12_isGame_13 : decode cX12_isGame 13 = .ok (.iload_n 1, 1) := by decide +kernel
theorem dX12_isGame_14 : decode cX12_isGame 14 = .ok (.iaload, 1) := by decide +kernel
theorem dX12_isGame_15 : decode cX12_isGame 15 = .ok (.iconst (-1), 1) := by decide +kernel
theorem dX12_isGame_16 : decode cX12_isGame 16 = .ok (.if_icmp .eq 7, 3) := by decide +kernel
theorem dX12_isGame_23 : decode cX12_isGame 23 = .ok (.iconst 0, 1) := by decide +kernel
theorem dX12_isGame_24 : decode cX12_isGame 24 = .ok (.ireturn, 1) := by decide +kernel
theorem dX12_kindOf_0 : decode cX12_kindOf 0 = .ok (.aload_n 0, 1) := by decide +kernel
theorem dX12_kindOf_1 : decode cX12_kindOf 1 = .ok (.iload_n 1, 1) := by decide +kernel
theorem dX12_kindOf_2 : decode cX12_kindOf 2 = .ok (.invokevirtual 99, 3) := by decide +kernel
theorem dX12_kindOf_5 : decode cX12_kindOf 5 = .ok (.ifCond .eq 12, 3) := by decide +kernel
theorem dX12_kindOf_17 : decode cX12_kindOf 17 = .ok (.bipush (-2), 2) := by decide +kernel
theorem dX12_kindOf_19 : decode cX12_kindOf 19 = .ok (.ireturn, 1) := by decide +kernel
theorem dX12_table_0 : decode cX12_table 0 = .ok (.iload_n 1, 1) := by decide +kernel
theorem dX12_table_1 : decode cX12_table 1 = .ok (.iconst 0, 1) := by decide +kernel
theorem dX12_table_2 : decode cX12_table 2 = .ok (.iconst 3, 1) := by decide +kernel
theorem dX12_table_3 : decode cX12_table 3 = .ok (.invokestatic 91, 3) := by decide +kernel
theorem dX12_table_6 : decode cX12_table 6 = .ok (.ifCond .eq 11, 3) := by decide +kernel
theorem dX12_table_9 : decode cX12_table 9 = .ok (.aload_n 0, 1) := by decide +kernel
theorem dX12_table_10 : decode cX12_table 10 = .ok (.iload_n 3, 1) := by decide +kernel
theorem dX12_table_11 : decode cX12_table 11 = .ok (.invokevirtual 99, 3) := by decide +kernel
theorem dX12_table_14 : decode cX12_table 14 = .ok (.ifCond .ne 6, 3) := by decide +kernel
theorem dX12_table_17 : decode cX12_table 17 = .ok (.bipush (-2), 2) := by decide +kernel
theorem dX12_table_19 : decode cX12_table 19 = .ok (.ireturn, 1) := by decide +kernel
theorem dX12_seat_0 : decode cX12_seat 0 = .ok (.aload_n 0, 1) := by decide +kernel
theorem dX12_seat_1 : decode cX12_seat 1 = .ok (.iload_n 1, 1) := by decide +kernel
theorem dX12_seat_2 : decode cX12_seat 2 = .ok (.invokevirtual 107, 3) := by decide +kernel
theorem dX12_seat_5 : decode cX12_seat 5 = .ok (.ifCond .eq 10, 3) := by decide +kernel
theorem dX12_seat_15 : decode cX12_seat 15 = .ok (.bipush (-2), 2) := by decide +kernel
theorem dX12_seat_17 : decode cX12_seat 17 = .ok (.ireturn, 1) := by decide +kernel
theorem dX12_kind_0 : decode cX12_kind 0 = .ok (.aload_n 0, 1) := by decide +kernel
theorem dX12_kind_1 : decode cX12_kind 1 = .ok (.iload_n 1, 1) := by decide +kernel
theorem dX12_kind_2 : decode cX12_kind 2 = .ok (.invokevirtual 107, 3) := by decide +kernel
theorem dX12_kind_5 : decode cX12_kind 5 = .ok (.ifCond .eq 12, 3) := by decide +kernel
theorem dX12_kind_17 : decode cX12_kind 17 = .ok (.bipush (-2), 2) := by decide +kernel
theorem dX12_kind_19 : decode cX12_kind 19 = .ok (.ireturn, 1) := by decide +kernel
theorem dX12_card_0 : decode cX12_card 0 = .ok (.aload_n 0, 1) := by decide +kernel
theorem dX12_card_1 : decode cX12_card 1 = .ok (.iload_n 1, 1) := by decide +kernel
theorem dX12_card_2 : decode cX12_card 2 = .ok (.invokevirtual 107, 3) := by decide +kernel
theorem dX12_card_5 : decode cX12_card 5 = .ok (.ifCond .eq 30, 3) := by decide +kernel
theorem dX12_card_35 : decode cX12_card 35 = .ok (.bipush (-2), 2) := by decide +kernel
theorem dX12_card_37 : decode cX12_card 37 = .ok (.ireturn, 1) := by decide +kernel
theorem dX12_match_0 : decode cX12_match 0 = .ok (.aload_n 0, 1) := by decide +kernel
theorem dX12_match_1 : decode cX12_match 1 = .ok (.iload_n 1, 1) := by decide +kernel
theorem dX12_match_2 : decode cX12_match 2 = .ok (.invokevirtual 107, 3) := by decide +kernel
theorem dX12_match_5 : decode cX12_match 5 = .ok (.ifCond .ne 6, 3) := by decide +kernel
theorem dX12_match_8 : decode cX12_match 8 = .ok (.bipush (-2), 2) := by decide +kernel
theorem dX12_match_10 : decode cX12_match 10 = .ok (.ireturn, 1) := by decide +kernel
theorem dX12_deal_0 : decode cX12_deal 0 = .ok (.aload_n 0, 1) := by decide +kernel
theorem dX12_deal_1 : decode cX12_deal 1 = .ok (.iload_n 1, 1) := by decide +kernel
theorem dX12_deal_2 : decode cX12_deal 2 = .ok (.invokevirtual 107, 3) := by decide +kernel
theorem dX12_deal_5 : decode cX12_deal 5 = .ok (.ifCond .ne 6, 3) := by decide +kernel
theorem dX12_deal_8 : decode cX12_deal 8 = .ok (.bipush (-2), 2) := by decide +kernel
theorem dX12_deal_10 : decode cX12_deal 10 = .ok (.ireturn, 1) := by decide +kernel
theorem dX12_give_0 : decode cX12_give 0 = .ok (.aload_n 0, 1) := by decide +kernel
theorem dX12_give_1 : decode cX12_give 1 = .ok (.iload_n 1, 1) := by decide +kernel
theorem dX12_give_2 : decode cX12_give 2 = .ok (.invokevirtual 107, 3) := by decide +kernel
theorem dX12_give_5 : decode cX12_give 5 = .ok (.ifCond .eq 19, 3) := by decide +kernel
theorem dX12_give_24 : decode cX12_give 24 = .ok (.bipush (-2), 2) := by decide +kernel
theorem dX12_give_26 : decode cX12_give 26 = .ok (.ireturn, 1) := by decide +kernel
theorem dX12_bid_0 : decode cX12_bid 0 = .ok (.aload_n 0, 1) := by decide +kernel
theorem dX12_bid_1 : decode cX12_bid 1 = .ok (.iload_n 1, 1) := by decide +kernel
theorem dX12_bid_2 : decode cX12_bid 2 = .ok (.invokevirtual 107, 3) := by decide +kernel
theorem dX12_bid_5 : decode cX12_bid 5 = .ok (.ifCond .eq 10, 3) := by decide +kernel
theorem dX12_bid_15 : decode cX12_bid 15 = .ok (.bipush (-2), 2) := by decide +kernel
theorem dX12_bid_17 : decode cX12_bid 17 = .ok (.ireturn, 1) := by decide +kernel
theorem dX12_doubled_0 : decode cX12_doubled 0 = .ok (.aload_n 0, 1) := by decide +kernel
theorem dX12_doubled_1 : decode cX12_doubled 1 = .ok (.iload_n 1, 1) := by decide +kernel
theorem dX12_doubled_2 : decode cX12_doubled 2 = .ok (.invokevirtual 107, 3) := by decide +kernel
theorem dX12_doubled_5 : decode cX12_doubled 5 = .ok (.ifCond .eq 10, 3) := by decide +kernel
theorem dX12_doubled_15 : decode cX12_doubled 15 = .ok (.bipush (-2), 2) := by decide +kernel
theorem dX12_doubled_17 : decode cX12_doubled 17 = .ok (.ireturn, 1) := by decide +kernel
theorem dX12_play_0 : decode cX12_play 0 = .ok (.aload_n 0, 1) := by decide +kernel
theorem dX12_play_1 : decode cX12_play 1 = .ok (.iload_n 1, 1) := by decide +kernel
theorem dX12_play_2 : decode cX12_play 2 = .ok (.invokevirtual 107, 3) := by decide +kernel
theorem dX12_play_5 : decode cX12_play 5 = .ok (.ifCond .eq 10, 3) := by decide +kernel
theorem dX12_play_15 : decode cX12_play 15 = .ok (.bipush (-2), 2) := by decide +kernel
theorem dX12_play_17 : decode cX12_play 17 = .ok (.ireturn, 1) := by decide +kernel
theorem dX12_lay_0 : decode cX12_lay 0 = .ok (.aload_n 0, 1) := by decide +kernel
theorem dX12_lay_1 : decode cX12_lay 1 = .ok (.iload_n 1, 1) := by decide +kernel
theorem dX12_lay_2 : decode cX12_lay 2 = .ok (.iload_n 2, 1) := by decide +kernel
theorem dX12_lay_3 : decode cX12_lay 3 = .ok (.iload_n 3, 1) := by decide +kernel
theorem dX12_lay_4 : decode cX12_lay 4 = .ok (.iconst 0, 1) := by decide +kernel
theorem dX12_lay_5 : decode cX12_lay 5 = .ok (.invokevirtual 241, 3) := by decide +kernel
theorem dX12_lay_8 : decode cX12_lay 8 = .ok (.ireturn, 1) := by decide +kernel
theorem dX12_revoke_0 : decode cX12_revoke 0 = .ok (.aload_n 0, 1) := by decide +kernel
theorem dX12_revoke_1 : decode cX12_revoke 1 = .ok (.iload_n 1, 1) := by decide +kernel
theorem dX12_revoke_2 : decode cX12_revoke 2 = .ok (.iload_n 2, 1) := by decide +kernel
theorem dX12_revoke_3 : decode cX12_revoke 3 = .ok (.iload_n 3, 1) := by decide +kernel
theorem dX12_revoke_4 : decode cX12_revoke 4 = .ok (.iconst 1, 1) := by decide +kernel
theorem dX12_revoke_5 : decode cX12_revoke 5 = .ok (.invokevirtual 241, 3) := by decide +kernel
theorem dX12_revoke_8 : decode cX12_revoke 8 = .ok (.ireturn, 1) := by decide +kernel
theorem dX12_allowed_0 : decode cX12_allowed 0 = .ok (.aload_n 0, 1) := by decide +kernel
theorem dX12_allowed_1 : decode cX12_allowed 1 = .ok (.iload_n 1, 1) := by decide +kernel
theorem dX12_allowed_2 : decode cX12_allowed 2 = .ok (.invokevirtual 107, 3) := by decide +kernel
theorem dX12_allowed_5 : decode cX12_allowed 5 = .ok (.ifCond .eq 10, 3) := by decide +kernel
theorem dX12_allowed_15 : decode cX12_allowed 15 = .ok (.bipush (-2), 2) := by decide +kernel
theorem dX12_allowed_17 : decode cX12_allowed 17 = .ok (.ireturn, 1) := by decide +kernel
theorem dX12_turn_0 : decode cX12_turn 0 = .ok (.aload_n 0, 1) := by decide +kernel
theorem dX12_turn_1 : decode cX12_turn 1 = .ok (.iload_n 1, 1) := by decide +kernel
theorem dX12_turn_2 : decode cX12_turn 2 = .ok (.invokevirtual 107, 3) := by decide +kernel
theorem dX12_turn_5 : decode cX12_turn 5 = .ok (.ifCond .eq 19, 3) := by decide +kernel
theorem dX12_turn_24 : decode cX12_turn 24 = .ok (.bipush (-2), 2) := by decide +kernel
theorem dX12_turn_26 : decode cX12_turn 26 = .ok (.ireturn, 1) := by decide +kernel
theorem dX12_trick_0 : decode cX12_trick 0 = .ok (.aload_n 0, 1) := by decide +kernel
theorem dX12_trick_1 : decode cX12_trick 1 = .ok (.iload_n 1, 1) := by decide +kernel
theorem dX12_trick_2 : decode cX12_trick 2 = .ok (.invokevirtual 107, 3) := by decide +kernel
theorem dX12_trick_5 : decode cX12_trick 5 = .ok (.ifCond .ne 6, 3) := by decide +kernel
theorem dX12_trick_8 : decode cX12_trick 8 = .ok (.bipush (-2), 2) := by decide +kernel
theorem dX12_trick_10 : decode cX12_trick 10 = .ok (.ireturn, 1) := by decide +kernel
theorem dX12_hand_0 : decode cX12_hand 0 = .ok (.aload_n 0, 1) := by decide +kernel
theorem dX12_hand_1 : decode cX12_hand 1 = .ok (.iload_n 1, 1) := by decide +kernel
theorem dX12_hand_2 : decode cX12_hand 2 = .ok (.invokevirtual 107, 3) := by decide +kernel
theorem dX12_hand_5 : decode cX12_hand 5 = .ok (.ifCond .eq 10, 3) := by decide +kernel
theorem dX12_hand_15 : decode cX12_hand 15 = .ok (.bipush (-2), 2) := by decide +kernel
theorem dX12_hand_17 : decode cX12_hand 17 = .ok (.ireturn, 1) := by decide +kernel
theorem dX12_left_0 : decode cX12_left 0 = .ok (.aload_n 0, 1) := by decide +kernel
theorem dX12_left_1 : decode cX12_left 1 = .ok (.iload_n 1, 1) := by decide +kernel
theorem dX12_left_2 : decode cX12_left 2 = .ok (.invokevirtual 107, 3) := by decide +kernel
theorem dX12_left_5 : decode cX12_left 5 = .ok (.ifCond .eq 12, 3) := by decide +kernel
theorem dX12_left_17 : decode cX12_left 17 = .ok (.bipush (-2), 2) := by decide +kernel
theorem dX12_left_19 : decode cX12_left 19 = .ok (.ireturn, 1) := by decide +kernel
theorem dX12_winner_0 : decode cX12_winner 0 = .ok (.aload_n 0, 1) := by decide +kernel
theorem dX12_winner_1 : decode cX12_winner 1 = .ok (.iload_n 1, 1) := by decide +kernel
theorem dX12_winner_2 : decode cX12_winner 2 = .ok (.invokevirtual 107, 3) := by decide +kernel
theorem dX12_winner_5 : decode cX12_winner 5 = .ok (.ifCond .eq 19, 3) := by decide +kernel
theorem dX12_winner_24 : decode cX12_winner 24 = .ok (.bipush (-2), 2) := by decide +kernel
theorem dX12_winner_26 : decode cX12_winner 26 = .ok (.ireturn, 1) := by decide +kernel
theorem dX12_won_0 : decode cX12_won 0 = .ok (.aload_n 0, 1) := by decide +kernel
theorem dX12_won_1 : decode cX12_won 1 = .ok (.iload_n 1, 1) := by decide +kernel
theorem dX12_won_2 : decode cX12_won 2 = .ok (.invokevirtual 107, 3) := by decide +kernel
theorem dX12_won_5 : decode cX12_won 5 = .ok (.ifCond .eq 12, 3) := by decide +kernel
theorem dX12_won_17 : decode cX12_won 17 = .ok (.bipush (-2), 2) := by decide +kernel
theorem dX12_won_19 : decode cX12_won 19 = .ok (.ireturn, 1) := by decide +kernel
theorem dX12_revokes_0 : decode cX12_revokes 0 = .ok (.aload_n 0, 1) := by decide +kernel
theorem dX12_revokes_1 : decode cX12_revokes 1 = .ok (.iload_n 1, 1) := by decide +kernel
theorem dX12_revokes_2 : decode cX12_revokes 2 = .ok (.invokevirtual 107, 3) := by decide +kernel
theorem dX12_revokes_5 : decode cX12_revokes 5 = .ok (.ifCond .eq 10, 3) := by decide +kernel
theorem dX12_revokes_15 : decode cX12_revokes 15 = .ok (.bipush (-2), 2) := by decide +kernel
theorem dX12_revokes_17 : decode cX12_revokes 17 = .ok (.ireturn, 1) := by decide +kernel
theorem dX12_sum_0 : decode cX12_sum 0 = .ok (.aload_n 0, 1) := by decide +kernel
theorem dX12_sum_1 : decode cX12_sum 1 = .ok (.iload_n 1, 1) := by decide +kernel
theorem dX12_sum_2 : decode cX12_sum 2 = .ok (.invokevirtual 107, 3) := by decide +kernel
theorem dX12_sum_5 : decode cX12_sum 5 = .ok (.ifCond .eq 28, 3) := by decide +kernel
theorem dX12_sum_33 : decode cX12_sum 33 = .ok (.bipush (-2), 2) := by decide +kernel
theorem dX12_sum_35 : decode cX12_sum 35 = .ok (.ireturn, 1) := by decide +kernel
theorem dX12_tie_0 : decode cX12_tie 0 = .ok (.aload_n 0, 1) := by decide +kernel
theorem dX12_tie_1 : decode cX12_tie 1 = .ok (.iload_n 1, 1) := by decide +kernel
theorem dX12_tie_2 : decode cX12_tie 2 = .ok (.invokevirtual 107, 3) := by decide +kernel
theorem dX12_tie_5 : decode cX12_tie 5 = .ok (.ifCond .ne 6, 3) := by decide +kernel
theorem dX12_tie_8 : decode cX12_tie 8 = .ok (.bipush (-2), 2) := by decide +kernel
theorem dX12_tie_10 : decode cX12_tie 10 = .ok (.ireturn, 1) := by decide +kernel
theorem dX12_endBars_0 : decode cX12_endBars 0 = .ok (.aload_n 0, 1) := by decide +kernel
theorem dX12_endBars_1 : decode cX12_endBars 1 = .ok (.iload_n 1, 1) := by decide +kernel
theorem dX12_endBars_2 : decode cX12_endBars 2 = .ok (.invokevirtual 107, 3) := by decide +kernel
theorem dX12_endBars_5 : decode cX12_endBars 5 = .ok (.ifCond .eq 12, 3) := by decide +kernel
theorem dX12_endBars_17 : decode cX12_endBars 17 = .ok (.bipush (-2), 2) := by decide +kernel
theorem dX12_endBars_19 : decode cX12_endBars 19 = .ok (.ireturn, 1) := by decide +kernel
theorem dX12_best_0 : decode cX12_best 0 = .ok (.aload_n 0, 1) := by decide +kernel
theorem dX12_best_1 : decode cX12_best 1 = .ok (.iload_n 1, 1) := by decide +kernel
theorem dX12_best_2 : decode cX12_best 2 = .ok (.iload_n 2, 1) := by decide +kernel
theorem dX12_best_3 : decode cX12_best 3 = .ok (.invokevirtual 304, 3) := by decide +kernel
theorem dX12_best_6 : decode cX12_best 6 = .ok (.istore_n 3, 1) := by decide +kernel
theorem dX12_best_7 : decode cX12_best 7 = .ok (.iload_n 3, 1) := by decide +kernel
theorem dX12_best_8 : decode cX12_best 8 = .ok (.ifCond .ge 7, 3) := by decide +kernel
theorem dX12_best_11 : decode cX12_best 11 = .ok (.iload_n 3, 1) := by decide +kernel
theorem dX12_best_12 : decode cX12_best 12 = .ok (.goto 14, 3) := by decide +kernel
theorem dX12_best_26 : decode cX12_best 26 = .ok (.ireturn, 1) := by decide +kernel
theorem dX12_check_0 : decode cX12_check 0 = .ok (.aload_n 0, 1) := by decide +kernel
theorem dX12_check_1 : decode cX12_check 1 = .ok (.iload_n 1, 1) := by decide +kernel
theorem dX12_check_2 : decode cX12_check 2 = .ok (.iload_n 2, 1) := by decide +kernel
theorem dX12_check_3 : decode cX12_check 3 = .ok (.invokevirtual 304, 3) := by decide +kernel
theorem dX12_check_6 : decode cX12_check 6 = .ok (.istore_n 3, 1) := by decide +kernel
theorem dX12_check_7 : decode cX12_check 7 = .ok (.iload_n 3, 1) := by decide +kernel
theorem dX12_check_8 : decode cX12_check 8 = .ok (.ifCond .ge 5, 3) := by decide +kernel
theorem dX12_check_11 : decode cX12_check 11 = .ok (.iload_n 3, 1) := by decide +kernel
theorem dX12_check_12 : decode cX12_check 12 = .ok (.ireturn, 1) := by decide +kernel
theorem dX12_line_0 : decode cX12_line 0 = .ok (.aload_n 0, 1) := by decide +kernel
theorem dX12_line_1 : decode cX12_line 1 = .ok (.iload_n 1, 1) := by decide +kernel
theorem dX12_line_2 : decode cX12_line 2 = .ok (.iload_n 2, 1) := by decide +kernel
theorem dX12_line_3 : decode cX12_line 3 = .ok (.invokevirtual 304, 3) := by decide +kernel
theorem dX12_line_6 : decode cX12_line 6 = .ok (.istore 4, 2) := by decide +kernel
theorem dX12_line_8 : decode cX12_line 8 = .ok (.iload 4, 2) := by decide +kernel
theorem dX12_line_10 : decode cX12_line 10 = .ok (.ifCond .ge 6, 3) := by decide +kernel
theorem dX12_line_13 : decode cX12_line 13 = .ok (.iload 4, 2) := by decide +kernel
theorem dX12_line_15 : decode cX12_line 15 = .ok (.ireturn, 1) := by decide +kernel
theorem dX12_claim_0 : decode cX12_claim 0 = .ok (.aload_n 0, 1) := by decide +kernel
theorem dX12_claim_1 : decode cX12_claim 1 = .ok (.iload_n 1, 1) := by decide +kernel
theorem dX12_claim_2 : decode cX12_claim 2 = .ok (.invokevirtual 107, 3) := by decide +kernel
theorem dX12_claim_5 : decode cX12_claim 5 = .ok (.ifCond .eq 12, 3) := by decide +kernel
theorem dX12_claim_17 : decode cX12_claim 17 = .ok (.bipush (-2), 2) := by decide +kernel
theorem dX12_claim_19 : decode cX12_claim 19 = .ok (.ireturn, 1) := by decide +kernel
theorem dX12_undo_0 : decode cX12_undo 0 = .ok (.aload_n 0, 1) := by decide +kernel
theorem dX12_undo_1 : decode cX12_undo 1 = .ok (.iload_n 1, 1) := by decide +kernel
theorem dX12_undo_2 : decode cX12_undo 2 = .ok (.invokevirtual 107, 3) := by decide +kernel
theorem dX12_undo_5 : decode cX12_undo 5 = .ok (.ifCond .ne 6, 3) := by decide +kernel
theorem dX12_undo_8 : decode cX12_undo 8 = .ok (.bipush (-2), 2) := by decide +kernel
theorem dX12_undo_10 : decode cX12_undo 10 = .ok (.ireturn, 1) := by decide +kernel
theorem dX12_replay_0 : decode cX12_replay 0 = .ok (.aload_n 0, 1) := by decide +kernel
theorem dX12_replay_1 : decode cX12_replay 1 = .ok (.iload_n 1, 1) := by decide +kernel
theorem dX12_replay_2 : decode cX12_replay 2 = .ok (.invokevirtual 107, 3) := by decide +kernel
theorem dX12_replay_5 : decode cX12_replay 5 = .ok (.ifCond .ne 6, 3) := by decide +kernel
theorem dX12_replay_8 : decode cX12_replay 8 = .ok (.bipush (-2), 2) := by decide +kernel
theorem dX12_replay_10 : decode cX12_replay 10 = .ok (.ireturn, 1) := by decide +kernel
theorem dX12_digest_0 : decode cX12_digest 0 = .ok (.aload_n 0, 1) := by decide +kernel
theorem dX12_digest_1 : decode cX12_digest 1 = .ok (.iload_n 1, 1) := by decide +kernel
theorem dX12_digest_2 : decode cX12_digest 2 = .ok (.invokevirtual 107, 3) := by decide +kernel
theorem dX12_digest_5 : decode cX12_digest 5 = .ok (.ifCond .ne 6, 3) := by decide +kernel
theorem dX12_digest_8 : decode cX12_digest 8 = .ok (.bipush (-2), 2) := by decide +kernel
theorem dX12_digest_10 : decode cX12_digest 10 = .ok (.ireturn, 1) := by decide +kernel
theorem dX12_finding_0 : decode cX12_finding 0 = .ok (.iload_n 2, 1) := by decide +kernel
theorem dX12_finding_1 : decode cX12_finding 1 = .ok (.iconst 0, 1) := by decide +kernel
theorem dX12_finding_2 : decode cX12_finding 2 = .ok (.iconst 4, 1) := by decide +kernel
theorem dX12_finding_3 : decode cX12_finding 3 = .ok (.invokestatic 91, 3) := by decide +kernel
theorem dX12_finding_6 : decode cX12_finding 6 = .ok (.ifCond .ne 6, 3) := by decide +kernel
theorem dX12_finding_9 : decode cX12_finding 9 = .ok (.bipush (-3), 2) := by decide +kernel
theorem dX12_finding_11 : decode cX12_finding 11 = .ok (.ireturn, 1) := by decide +kernel
theorem dX12_finding_12 : decode cX12_finding 12 = .ok (.aload_n 0, 1) := by decide +kernel
theorem dX12_finding_13 : decode cX12_finding 13 = .ok (.getfield 85, 3) := by decide +kernel
theorem dX12_finding_16 : decode cX12_finding 16 = .ok (.bipush 60, 2) := by decide +kernel
theorem dX12_finding_18 : decode cX12_finding 18 = .ok (.invokestatic 250, 3) := by decide +kernel
theorem dX12_finding_21 : decode cX12_finding 21 = .ok (.istore_n 3, 1) := by decide +kernel
theorem dX12_finding_22 : decode cX12_finding 22 = .ok (.iload_n 1, 1) := by decide +kernel
theorem dX12_finding_23 : decode cX12_finding 23 = .ok (.iconst 0, 1) := by decide +kernel
theorem dX12_finding_24 : decode cX12_finding 24 = .ok (.iload_n 3, 1) := by decide +kernel
theorem dX12_finding_25 : decode cX12_finding 25 = .ok (.iconst 1, 1) := by decide +kernel
theorem dX12_finding_26 : decode cX12_finding 26 = .ok (.isub, 1) := by decide +kernel
theorem dX12_finding_27 : decode cX12_finding 27 = .ok (.invokestatic 91, 3) := by decide +kernel
theorem dX12_finding_30 : decode cX12_finding 30 = .ok (.ifCond .eq 26, 3) := by decide +kernel
theorem dX12_finding_56 : decode cX12_finding 56 = .ok (.iconst (-1), 1) := by decide +kernel
theorem dX12_finding_57 : decode cX12_finding 57 = .ok (.ireturn, 1) := by decide +kernel
theorem dX12_trace_0 : decode cX12_trace 0 = .ok (.aload_n 0, 1) := by decide +kernel
theorem dX12_trace_1 : decode cX12_trace 1 = .ok (.getfield 82, 3) := by decide +kernel
theorem dX12_trace_4 : decode cX12_trace 4 = .ok (.bipush 60, 2) := by decide +kernel
theorem dX12_trace_6 : decode cX12_trace 6 = .ok (.invokestatic 250, 3) := by decide +kernel
theorem dX12_trace_9 : decode cX12_trace 9 = .ok (.istore_n 2, 1) := by decide +kernel
theorem dX12_trace_10 : decode cX12_trace 10 = .ok (.iload_n 1, 1) := by decide +kernel
theorem dX12_trace_11 : decode cX12_trace 11 = .ok (.iconst 0, 1) := by decide +kernel
theorem dX12_trace_12 : decode cX12_trace 12 = .ok (.iload_n 2, 1) := by decide +kernel
theorem dX12_trace_13 : decode cX12_trace 13 = .ok (.iconst 1, 1) := by decide +kernel
theorem dX12_trace_14 : decode cX12_trace 14 = .ok (.isub, 1) := by decide +kernel
theorem dX12_trace_15 : decode cX12_trace 15 = .ok (.invokestatic 91, 3) := by decide +kernel
theorem dX12_trace_18 : decode cX12_trace 18 = .ok (.ifCond .eq 22, 3) := by decide +kernel
theorem dX12_trace_40 : decode cX12_trace 40 = .ok (.iconst (-1), 1) := by decide +kernel
theorem dX12_trace_41 : decode cX12_trace 41 = .ok (.ireturn, 1) := by decide +kernel
theorem dX12_forget_0 : decode cX12_forget 0 = .ok (.aload_n 0, 1) := by decide +kernel
theorem dX12_forget_1 : decode cX12_forget 1 = .ok (.getfield 82, 3) := by decide +kernel
theorem dX12_forget_4 : decode cX12_forget 4 = .ok (.istore_n 1, 1) := by decide +kernel
theorem dX12_forget_5 : decode cX12_forget 5 = .ok (.aload_n 0, 1) := by decide +kernel
theorem dX12_forget_6 : decode cX12_forget 6 = .ok (.iconst 0, 1) := by decide +kernel
theorem dX12_forget_7 : decode cX12_forget 7 = .ok (.putfield 82, 3) := by decide +kernel
theorem dX12_forget_10 : decode cX12_forget 10 = .ok (.iload_n 1, 1) := by decide +kernel
theorem dX12_forget_11 : decode cX12_forget 11 = .ok (.ireturn, 1) := by decide +kernel
theorem dX12_count_0 : decode cX12_count 0 = .ok (.iconst 0, 1) := by decide +kernel
theorem dX12_count_1 : decode cX12_count 1 = .ok (.istore_n 2, 1) := by decide +kernel
theorem dX12_count_2 : decode cX12_count 2 = .ok (.iconst 0, 1) := by decide +kernel
theorem dX12_count_3 : decode cX12_count 3 = .ok (.istore_n 3, 1) := by decide +kernel
theorem dX12_count_4 : decode cX12_count 4 = .ok (.iload_n 3, 1) := by decide +kernel
theorem dX12_count_5 : decode cX12_count 5 = .ok (.iconst 4, 1) := by decide +kernel
theorem dX12_count_6 : decode cX12_count 6 = .ok (.if_icmp .ge 26, 3) := by decide +kernel
theorem dX12_count_9 : decode cX12_count 9 = .ok (.iload_n 2, 1) := by decide +kernel
theorem dX12_count_10 : decode cX12_count 10 = .ok (.aload_n 0, 1) := by decide +kernel
theorem dX12_count_11 : decode cX12_count 11 = .ok (.getfield 14, 3) := by decide +kernel
theorem dX12_count_14 : decode cX12_count 14 = .ok (.iload_n 3, 1) := by decide +kernel
theorem dX12_count_15 : decode cX12_count 15 = .ok (.baload, 1) := by decide +kernel
theorem dX12_count_16 : decode cX12_count 16 = .ok (.ifCond .eq 7, 3) := by decide +kernel
theorem dX12_count_23 : decode cX12_count 23 = .ok (.iconst 0, 1) := by decide +kernel
theorem dX12_count_24 : decode cX12_count 24 = .ok (.iadd, 1) := by decide +kernel
theorem dX12_count_25 : decode cX12_count 25 = .ok (.istore_n 2, 1) := by decide +kernel
theorem dX12_count_26 : decode cX12_count 26 = .ok (.iinc 3 1, 3) := by decide +kernel
theorem dX12_count_29 : decode cX12_count 29 = .ok (.goto (-25), 3) := by decide +kernel
theorem dX12_count_32 : decode cX12_count 32 = .ok (.iconst 0, 1) := by decide +kernel
theorem dX12_count_33 : decode cX12_count 33 = .ok (.istore_n 3, 1) := by decide +kernel
theorem dX12_count_34 : decode cX12_count 34 = .ok (.iconst 0, 1) := by decide +kernel
theorem dX12_count_35 : decode cX12_count 35 = .ok (.istore 4, 2) := by decide +kernel
theorem dX12_count_37 : decode cX12_count 37 = .ok (.iload 4, 2) := by decide +kernel
theorem dX12_count_39 : decode cX12_count 39 = .ok (.bipush 6, 2) := by decide +kernel
theorem dX12_count_41 : decode cX12_count 41 = .ok (.if_icmp .ge 26, 3) := by decide +kernel
theorem dX12_count_44 : decode cX12_count 44 = .ok (.iload_n 3, 1) := by decide +kernel
theorem dX12_count_45 : decode cX12_count 45 = .ok (.aload_n 0, 1) := by decide +kernel
theorem dX12_count_46 : decode cX12_count 46 = .ok (.iload 4, 2) := by decide +kernel
theorem dX12_count_48 : decode cX12_count 48 = .ok (.invokevirtual 99, 3) := by decide +kernel
theorem dX12_count_51 : decode cX12_count 51 = .ok (.ifCond .eq 7, 3) := by decide +kernel
theorem dX12_count_58 : decode cX12_count 58 = .ok (.iconst 0, 1) := by decide +kernel
theorem dX12_count_59 : decode cX12_count 59 = .ok (.iadd, 1) := by decide +kernel
theorem dX12_count_60 : decode cX12_count 60 = .ok (.istore_n 3, 1) := by decide +kernel
theorem dX12_count_61 : decode cX12_count 61 = .ok (.iinc 4 1, 3) := by decide +kernel
theorem dX12_count_64 : decode cX12_count 64 = .ok (.goto (-27), 3) := by decide +kernel
theorem dX12_count_67 : decode cX12_count 67 = .ok (.iload_n 1, 1) := by decide +kernel
theorem dX12_count_68 : decode cX12_count 68 = .ok (.tableswitch 55 0 4 #[36, 41, 46, 51, 53], 36) := by decide +kernel
theorem dX12_count_104 : decode cX12_count 104 = .ok (.aload_n 0, 1) := by decide +kernel
theorem dX12_count_105 : decode cX12_count 105 = .ok (.getfield 88, 3) := by decide +kernel
theorem dX12_count_108 : decode cX12_count 108 = .ok (.ireturn, 1) := by decide +kernel
theorem dX12_count_109 : decode cX12_count 109 = .ok (.aload_n 0, 1) := by decide +kernel
theorem dX12_count_110 : decode cX12_count 110 = .ok (.getfield 85, 3) := by decide +kernel
theorem dX12_count_113 : decode cX12_count 113 = .ok (.ireturn, 1) := by decide +kernel
theorem dX12_count_114 : decode cX12_count 114 = .ok (.aload_n 0, 1) := by decide +kernel
theorem dX12_count_115 : decode cX12_count 115 = .ok (.getfield 175, 3) := by decide +kernel
theorem dX12_count_118 : decode cX12_count 118 = .ok (.ireturn, 1) := by decide +kernel
theorem dX12_count_119 : decode cX12_count 119 = .ok (.iload_n 2, 1) := by decide +kernel
theorem dX12_count_120 : decode cX12_count 120 = .ok (.ireturn, 1) := by decide +kernel
theorem dX12_count_121 : decode cX12_count 121 = .ok (.iload_n 3, 1) := by decide +kernel
theorem dX12_count_122 : decode cX12_count 122 = .ok (.ireturn, 1) := by decide +kernel
theorem dX12_count_123 : decode cX12_count 123 = .ok (.bipush (-3), 2) := by decide +kernel
theorem dX12_count_125 : decode cX12_count 125 = .ok (.ireturn, 1) := by decide +kernel
theorem dX12_status_0 : decode cX12_status 0 = .ok (.aload_n 0, 1) := by decide +kernel
theorem dX12_status_1 : decode cX12_status 1 = .ok (.iload_n 1, 1) := by decide +kernel
theorem dX12_status_2 : decode cX12_status 2 = .ok (.invokevirtual 107, 3) := by decide +kernel
theorem dX12_status_5 : decode cX12_status 5 = .ok (.ifCond .ne 6, 3) := by decide +kernel
theorem dX12_status_8 : decode cX12_status 8 = .ok (.bipush (-2), 2) := by decide +kernel
theorem dX12_status_10 : decode cX12_status 10 = .ok (.ireturn, 1) := by decide +kernel
theorem dL_law_0 : decode cL_law 0 = .ok (.new 7, 3) := by decide +kernel
theorem dL_law_3 : decode cL_law 3 = .ok (.dup, 1) := by decide +kernel
theorem dL_law_4 : decode cL_law 4 = .ok (.invokespecial 9, 3) := by decide +kernel
theorem dL_law_7 : decode cL_law 7 = .ok (.astore_n 1, 1) := by decide +kernel
theorem dL_law_8 : decode cL_law 8 = .ok (.new 10, 3) := by decide +kernel
theorem dL_law_11 : decode cL_law 11 = .ok (.dup, 1) := by decide +kernel
theorem dL_law_12 : decode cL_law 12 = .ok (.invokespecial 12, 3) := by decide +kernel
theorem dL_law_15 : decode cL_law 15 = .ok (.astore_n 2, 1) := by decide +kernel
theorem dL_law_16 : decode cL_law 16 = .ok (.iconst 0, 1) := by decide +kernel
theorem dL_law_17 : decode cL_law 17 = .ok (.istore_n 3, 1) := by decide +kernel
theorem dL_law_18 : decode cL_law 18 = .ok (.iload_n 3, 1) := by decide +kernel
theorem dL_law_19 : decode cL_law 19 = .ok (.aload_n 0, 1) := by decide +kernel
theorem dL_law_20 : decode cL_law 20 = .ok (.arraylength, 1) := by decide +kernel
theorem dL_law_21 : decode cL_law 21 = .ok (.iconst 5, 1) := by decide +kernel
theorem dL_law_22 : decode cL_law 22 = .ok (.isub, 1) := by decide +kernel
theorem dL_law_23 : decode cL_law 23 = .ok (.if_icmp .gt 1402, 3) := by decide +kernel
theorem dL_law_26 : decode cL_law 26 = .ok (.aload_n 0, 1) := by decide +kernel
theorem dL_law_27 : decode cL_law 27 = .ok (.iload_n 3, 1) := by decide +kernel
theorem dL_law_28 : decode cL_law 28 = .ok (.iaload, 1) := by decide +kernel
theorem dL_law_29 : decode cL_law 29 = .ok (.bipush 63, 2) := by decide +kernel
theorem dL_law_31 : decode cL_law 31 = .ok (.iand, 1) := by decide +kernel
theorem dL_law_32 : decode cL_law 32 = .ok (.tableswitch 1387 0 34 #[156, 209, 232, 275, 334, 377, 410, 443, 486, 529, 582, 615, 658, 701, 744, 767, 800, 843, 876, 899, 942, 985, 1018, 1041, 1074, 1117, 1150, 1193, 1216, 1239, 1262, 1295, 1318, 1331, 1354], 156) := by decide +kernel
theorem dL_law_188 : decode cL_law 188 = .ok (.aload_n 1, 1) := by decide +kernel
theorem dL_law_189 : decode cL_law 189 = .ok (.aload_n 0, 1) := by decide +kernel
theorem dL_law_190 : decode cL_law 190 = .ok (.iload_n 3, 1) := by decide +kernel
theorem dL_law_191 : decode cL_law 191 = .ok (.iconst 1, 1) := by decide +kernel
theorem dL_law_192 : decode cL_law 192 = .ok (.iadd, 1) := by decide +kernel
theorem dL_law_193 : decode cL_law 193 = .ok (.iaload, 1) := by decide +kernel
theorem dL_law_194 : decode cL_law 194 = .ok (.aload_n 0, 1) := by decide +kernel
theorem dL_law_195 : decode cL_law 195 = .ok (.iload_n 3, 1) := by decide +kernel
theorem dL_law_196 : decode cL_law 196 = .ok (.iconst 2, 1) := by decide +kernel
theorem dL_law_197 : decode cL_law 197 = .ok (.iadd, 1) := by decide +kernel
theorem dL_law_198 : decode cL_law 198 = .ok (.iaload, 1) := by decide +kernel
theorem dL_law_199 : decode cL_law 199 = .ok (.aload_n 0, 1) := by decide +kernel
theorem dL_law_200 : decode cL_law 200 = .ok (.iload_n 3, 1) := by decide +kernel
theorem dL_law_201 : decode cL_law 201 = .ok (.iconst 3, 1) := by decide +kernel
theorem dL_law_202 : decode cL_law 202 = .ok (.iadd, 1) := by decide +kernel
theorem dL_law_203 : decode cL_law 203 = .ok (.iaload, 1) := by decide +kernel
theorem dL_law_204 : decode cL_law 204 = .ok (.aload_n 0, 1) := by decide +kernel
theorem dL_law_205 : decode cL_law 205 = .ok (.iload_n 3, 1) := by decide +kernel
theorem dL_law_206 : decode cL_law 206 = .ok (.iconst 4, 1) := by decide +kernel
theorem dL_law_207 : decode cL_law 207 = .ok (.iadd, 1) := by decide +kernel
theorem dL_law_208 : decode cL_law 208 = .ok (.iaload, 1) := by decide +kernel
theorem dL_law_209 : decode cL_law 209 = .ok (.invokevirtual 13, 3) := by decide +kernel
theorem dL_law_212 : decode cL_law 212 = .ok (.aload_n 2, 1) := by decide +kernel
theorem dL_law_213 : decode cL_law 213 = .ok (.aload_n 0, 1) := by decide +kernel
theorem dL_law_214 : decode cL_law 214 = .ok (.iload_n 3, 1) := by decide +kernel
theorem dL_law_215 : decode cL_law 215 = .ok (.iconst 1, 1) := by decide +kernel
theorem dL_law_216 : decode cL_law 216 = .ok (.iadd, 1) := by decide +kernel
theorem dL_law_217 : decode cL_law 217 = .ok (.iaload, 1) := by decide +kernel
theorem dL_law_218 : decode cL_law 218 = .ok (.aload_n 0, 1) := by decide +kernel
theorem dL_law_219 : decode cL_law 219 = .ok (.iload_n 3, 1) := by decide +kernel
theorem dL_law_220 : decode cL_law 220 = .ok (.iconst 2, 1) := by decide +kernel
theorem dL_law_221 : decode cL_law 221 = .ok (.iadd, 1) := by decide +kernel
theorem dL_law_222 : decode cL_law 222 = .ok (.iaload, 1) := by decide +kernel
theorem dL_law_223 : decode cL_law 223 = .ok (.aload_n 0, 1) := by decide +kernel
theorem dL_law_224 : decode cL_law 224 = .ok (.iload_n 3, 1) := by decide +kernel
theorem dL_law_225 : decode cL_law 225 = .ok (.iconst 3, 1) := by decide +kernel
theorem dL_law_226 : decode cL_law 226 = .ok (.iadd, 1) := by decide +kernel
theorem dL_law_227 : decode cL_law 227 = .ok (.iaload, 1) := by decide +kernel
theorem dL_law_228 : decode cL_law 228 = .ok (.aload_n 0, 1) := by decide +kernel
theorem dL_law_229 : decode cL_law 229 = .ok (.iload_n 3, 1) := by decide +kernel
theorem dL_law_230 : decode cL_law 230 = .ok (.iconst 4, 1) := by decide +kernel
theorem dL_law_231 : decode cL_law 231 = .ok (.iadd, 1) := by decide +kernel
theorem dL_law_232 : decode cL_law 232 = .ok (.iaload, 1) := by decide +kernel
theorem dL_law_233 : decode cL_law 233 = .ok (.invokevirtual 17, 3) := by decide +kernel
theorem dL_law_236 : decode cL_law 236 = .ok (.if_icmp .eq 1183, 3) := by decide +kernel
theorem dL_law_241 : decode cL_law 241 = .ok (.aload_n 1, 1) := by decide +kernel
theorem dL_law_242 : decode cL_law 242 = .ok (.aload_n 0, 1) := by decide +kernel
theorem dL_law_243 : decode cL_law 243 = .ok (.iload_n 3, 1) := by decide +kernel
theorem dL_law_244 : decode cL_law 244 = .ok (.iconst 1, 1) := by decide +kernel
theorem dL_law_245 : decode cL_law 245 = .ok (.iadd, 1) := by decide +kernel
theorem dL_law_246 : decode cL_law 246 = .ok (.iaload, 1) := by decide +kernel
theorem dL_law_247 : decode cL_law 247 = .ok (.invokevirtual 18, 3) := by decide +kernel
theorem dL_law_250 : decode cL_law 250 = .ok (.aload_n 2, 1) := by decide +kernel
theorem dL_law_251 : decode cL_law 251 = .ok (.aload_n 0, 1) := by decide +kernel
theorem dL_law_252 : decode cL_law 252 = .ok (.iload_n 3, 1) := by decide +kernel
theorem dL_law_253 : decode cL_law 253 = .ok (.iconst 1, 1) := by decide +kernel
theorem dL_law_254 : decode cL_law 254 = .ok (.iadd, 1) := by decide +kernel
theorem dL_law_255 : decode cL_law 255 = .ok (.iaload, 1) := by decide +kernel
theorem dL_law_256 : decode cL_law 256 = .ok (.invokevirtual 22, 3) := by decide +kernel
theorem dL_law_259 : decode cL_law 259 = .ok (.if_icmp .eq 1160, 3) := by decide +kernel
theorem dL_law_264 : decode cL_law 264 = .ok (.aload_n 1, 1) := by decide +kernel
theorem dL_law_265 : decode cL_law 265 = .ok (.aload_n 0, 1) := by decide +kernel
theorem dL_law_266 : decode cL_law 266 = .ok (.iload_n 3, 1) := by decide +kernel
theorem dL_law_267 : decode cL_law 267 = .ok (.iconst 1, 1) := by decide +kernel
theorem dL_law_268 : decode cL_law 268 = .ok (.iadd, 1) := by decide +kernel
theorem dL_law_269 : decode cL_law 269 = .ok (.iaload, 1) := by decide +kernel
theorem dL_law_270 : decode cL_law 270 = .ok (.aload_n 0, 1) := by decide +kernel
theorem dL_law_271 : decode cL_law 271 = .ok (.iload_n 3, 1) := by decide +kernel
theorem dL_law_272 : decode cL_law 272 = .ok (.iconst 2, 1) := by decide +kernel
theorem dL_law_273 : decode cL_law 273 = .ok (.iadd, 1) := by decide +kernel
theorem dL_law_274 : decode cL_law 274 = .ok (.iaload, 1) := by decide +kernel
theorem dL_law_275 : decode cL_law 275 = .ok (.aload_n 0, 1) := by decide +kernel
theorem dL_law_276 : decode cL_law 276 = .ok (.iload_n 3, 1) := by decide +kernel
theorem dL_law_277 : decode cL_law 277 = .ok (.iconst 3, 1) := by decide +kernel
theorem dL_law_278 : decode cL_law 278 = .ok (.iadd, 1) := by decide +kernel
theorem dL_law_279 : decode cL_law 279 = .ok (.iaload, 1) := by decide +kernel
theorem dL_law_280 : decode cL_law 280 = .ok (.invokevirtual 23, 3) := by decide +kernel
theorem dL_law_283 : decode cL_law 283 = .ok (.aload_n 2, 1) := by decide +kernel
theorem dL_law_284 : decode cL_law 284 = .ok (.aload_n 0, 1) := by decide +kernel
theorem dL_law_285 : decode cL_law 285 = .ok (.iload_n 3, 1) := by decide +kernel
theorem dL_law_286 : decode cL_law 286 = .ok (.iconst 1, 1) := by decide +kernel
theorem dL_law_287 : decode cL_law 287 = .ok (.iadd, 1) := by decide +kernel
theorem dL_law_288 : decode cL_law 288 = .ok (.iaload, 1) := by decide +kernel
theorem dL_law_289 : decode cL_law 289 = .ok (.aload_n 0, 1) := by decide +kernel
theorem dL_law_290 : decode cL_law 290 = .ok (.iload_n 3, 1) := by decide +kernel
theorem dL_law_291 : decode cL_law 291 = .ok (.iconst 2, 1) := by decide +kernel
theorem dL_law_292 : decode cL_law 292 = .ok (.iadd, 1) := by decide +kernel
theorem dL_law_293 : decode cL_law 293 = .ok (.iaload, 1) := by decide +kernel
theorem dL_law_294 : decode cL_law 294 = .ok (.aload_n 0, 1) := by decide +kernel
theorem dL_law_295 : decode cL_law 295 = .ok (.iload_n 3, 1) := by decide +kernel
theorem dL_law_296 : decode cL_law 296 = .ok (.iconst 3, 1) := by decide +kernel
theorem dL_law_297 : decode cL_law 297 = .ok (.iadd, 1) := by decide +kernel
theorem dL_law_298 : decode cL_law 298 = .ok (.iaload, 1) := by decide +kernel
theorem dL_law_299 : decode cL_law 299 = .ok (.invokevirtual 27, 3) := by decide +kernel
theorem dL_law_302 : decode cL_law 302 = .ok (.if_icmp .eq 1117, 3) := by decide +kernel
theorem dL_law_307 : decode cL_law 307 = .ok (.aload_n 1, 1) := by decide +kernel
theorem dL_law_308 : decode cL_law 308 = .ok (.aload_n 0, 1) := by decide +kernel
theorem dL_law_309 : decode cL_law 309 = .ok (.iload_n 3, 1) := by decide +kernel
theorem dL_law_310 : decode cL_law 310 = .ok (.iconst 1, 1) := by decide +kernel
theorem dL_law_311 : decode cL_law 311 = .ok (.iadd, 1) := by decide +kernel
theorem dL_law_312 : decode cL_law 312 = .ok (.iaload, 1) := by decide +kernel
theorem dL_law_313 : decode cL_law 313 = .ok (.aload_n 0, 1) := by decide +kernel
theorem dL_law_314 : decode cL_law 314 = .ok (.iload_n 3, 1) := by decide +kernel
theorem dL_law_315 : decode cL_law 315 = .ok (.iconst 2, 1) := by decide +kernel
theorem dL_law_316 : decode cL_law 316 = .ok (.iadd, 1) := by decide +kernel
theorem dL_law_317 : decode cL_law 317 = .ok (.iaload, 1) := by decide +kernel
theorem dL_law_318 : decode cL_law 318 = .ok (.aload_n 0, 1) := by decide +kernel
theorem dL_law_319 : decode cL_law 319 = .ok (.iload_n 3, 1) := by decide +kernel
theorem dL_law_320 : decode cL_law 320 = .ok (.iconst 3, 1) := by decide +kernel
theorem dL_law_321 : decode cL_law 321 = .ok (.iadd, 1) := by decide +kernel
theorem dL_law_322 : decode cL_law 322 = .ok (.iaload, 1) := by decide +kernel
theorem dL_law_323 : decode cL_law 323 = .ok (.ifCond .eq 7, 3) := by decide +kernel
theorem dL_law_326 : decode cL_law 326 = .ok (.iconst 1, 1) := by decide +kernel
theorem dL_law_327 : decode cL_law 327 = .ok (.goto 4, 3) := by decide +kernel
theorem dL_law_330 : decode cL_law 330 = .ok (.iconst 0, 1) := by decide +kernel
theorem dL_law_331 : decode cL_law 331 = .ok (.invokevirtual 28, 3) := by decide +kernel
theorem dL_law_334 : decode cL_law 334 = .ok (.aload_n 2, 1) := by decide +kernel
theorem dL_law_335 : decode cL_law 335 = .ok (.aload_n 0, 1) := by decide +kernel
theorem dL_law_336 : decode cL_law 336 = .ok (.iload_n 3, 1) := by decide +kernel
theorem dL_law_337 : decode cL_law 337 = .ok (.iconst 1, 1) := by decide +kernel
theorem dL_law_338 : decode cL_law 338 = .ok (.iadd, 1) := by decide +kernel
theorem dL_law_339 : decode cL_law 339 = .ok (.iaload, 1) := by decide +kernel
theorem dL_law_340 : decode cL_law 340 = .ok (.aload_n 0, 1) := by decide +kernel
theorem dL_law_341 : decode cL_law 341 = .ok (.iload_n 3, 1) := by decide +kernel
theorem dL_law_342 : decode cL_law 342 = .ok (.iconst 2, 1) := by decide +kernel
theorem dL_law_343 : decode cL_law 343 = .ok (.iadd, 1) := by decide +kernel
theorem dL_law_344 : decode cL_law 344 = .ok (.iaload, 1) := by decide +kernel
theorem dL_law_345 : decode cL_law 345 = .ok (.aload_n 0, 1) := by decide +kernel
theorem dL_law_346 : decode cL_law 346 = .ok (.iload_n 3, 1) := by decide +kernel
theorem dL_law_347 : decode cL_law 347 = .ok (.iconst 3, 1) := by decide +kernel
theorem dL_law_348 : decode cL_law 348 = .ok (.iadd, 1) := by decide +kernel
theorem dL_law_349 : decode cL_law 349 = .ok (.iaload, 1) := by decide +kernel
theorem dL_law_350 : decode cL_law 350 = .ok (.ifCond .eq 7, 3) := by decide +kernel
theorem dL_law_353 : decode cL_law 353 = .ok (.iconst 1, 1) := by decide +kernel
theorem dL_law_354 : decode cL_law 354 = .ok (.goto 4, 3) := by decide +kernel
theorem dL_law_357 : decode cL_law 357 = .ok (.iconst 0, 1) := by decide +kernel
theorem dL_law_358 : decode cL_law 358 = .ok (.invokevirtual 32, 3) := by decide +kernel
theorem dL_law_361 : decode cL_law 361 = .ok (.if_icmp .eq 1058, 3) := by decide +kernel
theorem dL_law_366 : decode cL_law 366 = .ok (.aload_n 1, 1) := by decide +kernel
theorem dL_law_367 : decode cL_law 367 = .ok (.aload_n 0, 1) := by decide +kernel
theorem dL_law_368 : decode cL_law 368 = .ok (.iload_n 3, 1) := by decide +kernel
theorem dL_law_369 : decode cL_law 369 = .ok (.iconst 1, 1) := by decide +kernel
theorem dL_law_370 : decode cL_law 370 = .ok (.iadd, 1) := by decide +kernel
theorem dL_law_371 : decode cL_law 371 = .ok (.iaload, 1) := by decide +kernel
theorem dL_law_372 : decode cL_law 372 = .ok (.aload_n 0, 1) := by decide +kernel
theorem dL_law_373 : decode cL_law 373 = .ok (.iload_n 3, 1) := by decide +kernel
theorem dL_law_374 : decode cL_law 374 = .ok (.iconst 2, 1) := by decide +kernel
theorem dL_law_375 : decode cL_law 375 = .ok (.iadd, 1) := by decide +kernel
theorem dL_law_376 : decode cL_law 376 = .ok (.iaload, 1) := by decide +kernel
theorem dL_law_377 : decode cL_law 377 = .ok (.aload_n 0, 1) := by decide +kernel
theorem dL_law_378 : decode cL_law 378 = .ok (.iload_n 3, 1) := by decide +kernel
theorem dL_law_379 : decode cL_law 379 = .ok (.iconst 3, 1) := by decide +kernel
theorem dL_law_380 : decode cL_law 380 = .ok (.iadd, 1) := by decide +kernel
theorem dL_law_381 : decode cL_law 381 = .ok (.iaload, 1) := by decide +kernel
theorem dL_law_382 : decode cL_law 382 = .ok (.invokevirtual 33, 3) := by decide +kernel
theorem dL_law_385 : decode cL_law 385 = .ok (.aload_n 2, 1) := by decide +kernel
theorem dL_law_386 : decode cL_law 386 = .ok (.aload_n 0, 1) := by decide +kernel
theorem dL_law_387 : decode cL_law 387 = .ok (.iload_n 3, 1) := by decide +kernel
theorem dL_law_388 : decode cL_law 388 = .ok (.iconst 1, 1) := by decide +kernel
theorem dL_law_389 : decode cL_law 389 = .ok (.iadd, 1) := by decide +kernel
theorem dL_law_390 : decode cL_law 390 = .ok (.iaload, 1) := by decide +kernel
theorem dL_law_391 : decode cL_law 391 = .ok (.aload_n 0, 1) := by decide +kernel
theorem dL_law_392 : decode cL_law 392 = .ok (.iload_n 3, 1) := by decide +kernel
theorem dL_law_393 : decode cL_law 393 = .ok (.iconst 2, 1) := by decide +kernel
theorem dL_law_394 : decode cL_law 394 = .ok (.iadd, 1) := by decide +kernel
theorem dL_law_395 : decode cL_law 395 = .ok (.iaload, 1) := by decide +kernel
theorem dL_law_396 : decode cL_law 396 = .ok (.aload_n 0, 1) := by decide +kernel
theorem dL_law_397 : decode cL_law 397 = .ok (.iload_n 3, 1) := by decide +kernel
theorem dL_law_398 : decode cL_law 398 = .ok (.iconst 3, 1) := by decide +kernel
theorem dL_law_399 : decode cL_law 399 = .ok (.iadd, 1) := by decide +kernel
theorem dL_law_400 : decode cL_law 400 = .ok (.iaload, 1) := by decide +kernel
theorem dL_law_401 : decode cL_law 401 = .ok (.invokevirtual 36, 3) := by decide +kernel
theorem dL_law_404 : decode cL_law 404 = .ok (.if_icmp .eq 1015, 3) := by decide +kernel
theorem dL_law_409 : decode cL_law 409 = .ok (.aload_n 1, 1) := by decide +kernel
theorem dL_law_410 : decode cL_law 410 = .ok (.aload_n 0, 1) := by decide +kernel
theorem dL_law_411 : decode cL_law 411 = .ok (.iload_n 3, 1) := by decide +kernel
theorem dL_law_412 : decode cL_law 412 = .ok (.iconst 1, 1) := by decide +kernel
theorem dL_law_413 : decode cL_law 413 = .ok (.iadd, 1) := by decide +kernel
theorem dL_law_414 : decode cL_law 414 = .ok (.iaload, 1) := by decide +kernel
theorem dL_law_415 : decode cL_law 415 = .ok (.aload_n 0, 1) := by decide +kernel
theorem dL_law_416 : decode cL_law 416 = .ok (.iload_n 3, 1) := by decide +kernel
theorem dL_law_417 : decode cL_law 417 = .ok (.iconst 2, 1) := by decide +kernel
theorem dL_law_418 : decode cL_law 418 = .ok (.iadd, 1) := by decide +kernel
theorem dL_law_419 : decode cL_law 419 = .ok (.iaload, 1) := by decide +kernel
theorem dL_law_420 : decode cL_law 420 = .ok (.invokevirtual 37, 3) := by decide +kernel
theorem dL_law_423 : decode cL_law 423 = .ok (.aload_n 2, 1) := by decide +kernel
theorem dL_law_424 : decode cL_law 424 = .ok (.aload_n 0, 1) := by decide +kernel
theorem dL_law_425 : decode cL_law 425 = .ok (.iload_n 3, 1) := by decide +kernel
theorem dL_law_426 : decode cL_law 426 = .ok (.iconst 1, 1) := by decide +kernel
theorem dL_law_427 : decode cL_law 427 = .ok (.iadd, 1) := by decide +kernel
theorem dL_law_428 : decode cL_law 428 = .ok (.iaload, 1) := by decide +kernel
theorem dL_law_429 : decode cL_law 429 = .ok (.aload_n 0, 1) := by decide +kernel
theorem dL_law_430 : decode cL_law 430 = .ok (.iload_n 3, 1) := by decide +kernel
theorem dL_law_431 : decode cL_law 431 = .ok (.iconst 2, 1) := by decide +kernel
theorem dL_law_432 : decode cL_law 432 = .ok (.iadd, 1) := by decide +kernel
theorem dL_law_433 : decode cL_law 433 = .ok (.iaload, 1) := by decide +kernel
theorem dL_law_434 : decode cL_law 434 = .ok (.invokevirtual 41, 3) := by decide +kernel
theorem dL_law_437 : decode cL_law 437 = .ok (.if_icmp .eq 982, 3) := by decide +kernel
theorem dL_law_442 : decode cL_law 442 = .ok (.aload_n 1, 1) := by decide +kernel
theorem dL_law_443 : decode cL_law 443 = .ok (.aload_n 0, 1) := by decide +kernel
theorem dL_law_444 : decode cL_law 444 = .ok (.iload_n 3, 1) := by decide +kernel
theorem dL_law_445 : decode cL_law 445 = .ok (.iconst 1, 1) := by decide +kernel
theorem dL_law_446 : decode cL_law 446 = .ok (.iadd, 1) := by decide +kernel
theorem dL_law_447 : decode cL_law 447 = .ok (.iaload, 1) := by decide +kernel
theorem dL_law_448 : decode cL_law 448 = .ok (.aload_n 0, 1) := by decide +kernel
theorem dL_law_449 : decode cL_law 449 = .ok (.iload_n 3, 1) := by decide +kernel
theorem dL_law_450 : decode cL_law 450 = .ok (.iconst 2, 1) := by decide +kernel
theorem dL_law_451 : decode cL_law 451 = .ok (.iadd, 1) := by decide +kernel
theorem dL_law_452 : decode cL_law 452 = .ok (.iaload, 1) := by decide +kernel
theorem dL_law_453 : decode cL_law 453 = .ok (.invokevirtual 42, 3) := by decide +kernel
theorem dL_law_456 : decode cL_law 456 = .ok (.aload_n 2, 1) := by decide +kernel
theorem dL_law_457 : decode cL_law 457 = .ok (.aload_n 0, 1) := by decide +kernel
theorem dL_law_458 : decode cL_law 458 = .ok (.iload_n 3, 1) := by decide +kernel
theorem dL_law_459 : decode cL_law 459 = .ok (.iconst 1, 1) := by decide +kernel
theorem dL_law_460 : decode cL_law 460 = .ok (.iadd, 1) := by decide +kernel
theorem dL_law_461 : decode cL_law 461 = .ok (.iaload, 1) := by decide +kernel
theorem dL_law_462 : decode cL_law 462 = .ok (.aload_n 0, 1) := by decide +kernel
theorem dL_law_463 : decode cL_law 463 = .ok (.iload_n 3, 1) := by decide +kernel
theorem dL_law_464 : decode cL_law 464 = .ok (.iconst 2, 1) := by decide +kernel
theorem dL_law_465 : decode cL_law 465 = .ok (.iadd, 1) := by decide +kernel
theorem dL_law_466 : decode cL_law 466 = .ok (.iaload, 1) := by decide +kernel
theorem dL_law_467 : decode cL_law 467 = .ok (.invokevirtual 45, 3) := by decide +kernel
theorem dL_law_470 : decode cL_law 470 = .ok (.if_icmp .eq 949, 3) := by decide +kernel
theorem dL_law_475 : decode cL_law 475 = .ok (.aload_n 1, 1) := by decide +kernel
theorem dL_law_476 : decode cL_law 476 = .ok (.aload_n 0, 1) := by decide +kernel
theorem dL_law_477 : decode cL_law 477 = .ok (.iload_n 3, 1) := by decide +kernel
theorem dL_law_478 : decode cL_law 478 = .ok (.iconst 1, 1) := by decide +kernel
theorem dL_law_479 : decode cL_law 479 = .ok (.iadd, 1) := by decide +kernel
theorem dL_law_480 : decode cL_law 480 = .ok (.iaload, 1) := by decide +kernel
theorem dL_law_481 : decode cL_law 481 = .ok (.aload_n 0, 1) := by decide +kernel
theorem dL_law_482 : decode cL_law 482 = .ok (.iload_n 3, 1) := by decide +kernel
theorem dL_law_483 : decode cL_law 483 = .ok (.iconst 2, 1) := by decide +kernel
theorem dL_law_484 : decode cL_law 484 = .ok (.iadd, 1) := by decide +kernel
theorem dL_law_485 : decode cL_law 485 = .ok (.iaload, 1) := by decide +kernel
theorem dL_law_486 : decode cL_law 486 = .ok (.aload_n 0, 1) := by decide +kernel
theorem dL_law_487 : decode cL_law 487 = .ok (.iload_n 3, 1) := by decide +kernel
theorem dL_law_488 : decode cL_law 488 = .ok (.iconst 3, 1) := by decide +kernel
theorem dL_law_489 : decode cL_law 489 = .ok (.iadd, 1) := by decide +kernel
theorem dL_law_490 : decode cL_law 490 = .ok (.iaload, 1) := by decide +kernel
theorem dL_law_491 : decode cL_law 491 = .ok (.invokevirtual 46, 3) := by decide +kernel
theorem dL_law_494 : decode cL_law 494 = .ok (.aload_n 2, 1) := by decide +kernel
theorem dL_law_495 : decode cL_law 495 = .ok (.aload_n 0, 1) := by decide +kernel
theorem dL_law_496 : decode cL_law 496 = .ok (.iload_n 3, 1) := by decide +kernel
theorem dL_law_497 : decode cL_law 497 = .ok (.iconst 1, 1) := by decide +kernel
theorem dL_law_498 : decode cL_law 498 = .ok (.iadd, 1) := by decide +kernel
theorem dL_law_499 : decode cL_law 499 = .ok (.iaload, 1) := by decide +kernel
theorem dL_law_500 : decode cL_law 500 = .ok (.aload_n 0, 1) := by decide +kernel
theorem dL_law_501 : decode cL_law 501 = .ok (.iload_n 3, 1) := by decide +kernel
theorem dL_law_502 : decode cL_law 502 = .ok (.iconst 2, 1) := by decide +kernel
theorem dL_law_503 : decode cL_law 503 = .ok (.iadd, 1) := by decide +kernel
theorem dL_law_504 : decode cL_law 504 = .ok (.iaload, 1) := by decide +kernel
theorem dL_law_505 : decode cL_law 505 = .ok (.aload_n 0, 1) := by decide +kernel
theorem dL_law_506 : decode cL_law 506 = .ok (.iload_n 3, 1) := by decide +kernel
theorem dL_law_507 : decode cL_law 507 = .ok (.iconst 3, 1) := by decide +kernel
theorem dL_law_508 : decode cL_law 508 = .ok (.iadd, 1) := by decide +kernel
theorem dL_law_509 : decode cL_law 509 = .ok (.iaload, 1) := by decide +kernel
theorem dL_law_510 : decode cL_law 510 = .ok (.invokevirtual 49, 3) := by decide +kernel
theorem dL_law_513 : decode cL_law 513 = .ok (.if_icmp .eq 906, 3) := by decide +kernel
theorem dL_law_518 : decode cL_law 518 = .ok (.aload_n 1, 1) := by decide +kernel
theorem dL_law_519 : decode cL_law 519 = .ok (.aload_n 0, 1) := by decide +kernel
theorem dL_law_520 : decode cL_law 520 = .ok (.iload_n 3, 1) := by decide +kernel
theorem dL_law_521 : decode cL_law 521 = .ok (.iconst 1, 1) := by decide +kernel
theorem dL_law_522 : decode cL_law 522 = .ok (.iadd, 1) := by decide +kernel
theorem dL_law_523 : decode cL_law 523 = .ok (.iaload, 1) := by decide +kernel
theorem dL_law_524 : decode cL_law 524 = .ok (.aload_n 0, 1) := by decide +kernel
theorem dL_law_525 : decode cL_law 525 = .ok (.iload_n 3, 1) := by decide +kernel
theorem dL_law_526 : decode cL_law 526 = .ok (.iconst 2, 1) := by decide +kernel
theorem dL_law_527 : decode cL_law 527 = .ok (.iadd, 1) := by decide +kernel
theorem dL_law_528 : decode cL_law 528 = .ok (.iaload, 1) := by decide +kernel
theorem dL_law_529 : decode cL_law 529 = .ok (.aload_n 0, 1) := by decide +kernel
theorem dL_law_530 : decode cL_law 530 = .ok (.iload_n 3, 1) := by decide +kernel
theorem dL_law_531 : decode cL_law 531 = .ok (.iconst 3, 1) := by decide +kernel
theorem dL_law_532 : decode cL_law 532 = .ok (.iadd, 1) := by decide +kernel
theorem dL_law_533 : decode cL_law 533 = .ok (.iaload, 1) := by decide +kernel
theorem dL_law_534 : decode cL_law 534 = .ok (.invokevirtual 50, 3) := by decide +kernel
theorem dL_law_537 : decode cL_law 537 = .ok (.aload_n 2, 1) := by decide +kernel
theorem dL_law_538 : decode cL_law 538 = .ok (.aload_n 0, 1) := by decide +kernel
theorem dL_law_539 : decode cL_law 539 = .ok (.iload_n 3, 1) := by decide +kernel
theorem dL_law_540 : decode cL_law 540 = .ok (.iconst 1, 1) := by decide +kernel
theorem dL_law_541 : decode cL_law 541 = .ok (.iadd, 1) := by decide +kernel
theorem dL_law_542 : decode cL_law 542 = .ok (.iaload, 1) := by decide +kernel
theorem dL_law_543 : decode cL_law 543 = .ok (.aload_n 0, 1) := by decide +kernel
theorem dL_law_544 : decode cL_law 544 = .ok (.iload_n 3, 1) := by decide +kernel
theorem dL_law_545 : decode cL_law 545 = .ok (.iconst 2, 1) := by decide +kernel
theorem dL_law_546 : decode cL_law 546 = .ok (.iadd, 1) := by decide +kernel
theorem dL_law_547 : decode cL_law 547 = .ok (.iaload, 1) := by decide +kernel
theorem dL_law_548 : decode cL_law 548 = .ok (.aload_n 0, 1) := by decide +kernel
theorem dL_law_549 : decode cL_law 549 = .ok (.iload_n 3, 1) := by decide +kernel
theorem dL_law_550 : decode cL_law 550 = .ok (.iconst 3, 1) := by decide +kernel
theorem dL_law_551 : decode cL_law 551 = .ok (.iadd, 1) := by decide +kernel
theorem dL_law_552 : decode cL_law 552 = .ok (.iaload, 1) := by decide +kernel
theorem dL_law_553 : decode cL_law 553 = .ok (.invokevirtual 53, 3) := by decide +kernel
theorem dL_law_556 : decode cL_law 556 = .ok (.if_icmp .eq 863, 3) := by decide +kernel
theorem dL_law_561 : decode cL_law 561 = .ok (.aload_n 1, 1) := by decide +kernel
theorem dL_law_562 : decode cL_law 562 = .ok (.aload_n 0, 1) := by decide +kernel
theorem dL_law_563 : decode cL_law 563 = .ok (.iload_n 3, 1) := by decide +kernel
theorem dL_law_564 : decode cL_law 564 = .ok (.iconst 1, 1) := by decide +kernel
theorem dL_law_565 : decode cL_law 565 = .ok (.iadd, 1) := by decide +kernel
theorem dL_law_566 : decode cL_law 566 = .ok (.iaload, 1) := by decide +kernel
theorem dL_law_567 : decode cL_law 567 = .ok (.aload_n 0, 1) := by decide +kernel
theorem dL_law_568 : decode cL_law 568 = .ok (.iload_n 3, 1) := by decide +kernel
theorem dL_law_569 : decode cL_law 569 = .ok (.iconst 2, 1) := by decide +kernel
theorem dL_law_570 : decode cL_law 570 = .ok (.iadd, 1) := by decide +kernel
theorem dL_law_571 : decode cL_law 571 = .ok (.iaload, 1) := by decide +kernel
theorem dL_law_572 : decode cL_law 572 = .ok (.aload_n 0, 1) := by decide +kernel
theorem dL_law_573 : decode cL_law 573 = .ok (.iload_n 3, 1) := by decide +kernel
theorem dL_law_574 : decode cL_law 574 = .ok (.iconst 3, 1) := by decide +kernel
theorem dL_law_575 : decode cL_law 575 = .ok (.iadd, 1) := by decide +kernel
theorem dL_law_576 : decode cL_law 576 = .ok (.iaload, 1) := by decide +kernel
theorem dL_law_577 : decode cL_law 577 = .ok (.aload_n 0, 1) := by decide +kernel
theorem dL_law_578 : decode cL_law 578 = .ok (.iload_n 3, 1) := by decide +kernel
theorem dL_law_579 : decode cL_law 579 = .ok (.iconst 4, 1) := by decide +kernel
theorem dL_law_580 : decode cL_law 580 = .ok (.iadd, 1) := by decide +kernel
theorem dL_law_581 : decode cL_law 581 = .ok (.iaload, 1) := by decide +kernel
theorem dL_law_582 : decode cL_law 582 = .ok (.invokevirtual 54, 3) := by decide +kernel
theorem dL_law_585 : decode cL_law 585 = .ok (.aload_n 2, 1) := by decide +kernel
theorem dL_law_586 : decode cL_law 586 = .ok (.aload_n 0, 1) := by decide +kernel
theorem dL_law_587 : decode cL_law 587 = .ok (.iload_n 3, 1) := by decide +kernel
theorem dL_law_588 : decode cL_law 588 = .ok (.iconst 1, 1) := by decide +kernel
theorem dL_law_589 : decode cL_law 589 = .ok (.iadd, 1) := by decide +kernel
theorem dL_law_590 : decode cL_law 590 = .ok (.iaload, 1) := by decide +kernel
theorem dL_law_591 : decode cL_law 591 = .ok (.aload_n 0, 1) := by decide +kernel
theorem dL_law_592 : decode cL_law 592 = .ok (.iload_n 3, 1) := by decide +kernel
theorem dL_law_593 : decode cL_law 593 = .ok (.iconst 2, 1) := by decide +kernel
theorem dL_law_594 : decode cL_law 594 = .ok (.iadd, 1) := by decide +kernel
theorem dL_law_595 : decode cL_law 595 = .ok (.iaload, 1) := by decide +kernel
theorem dL_law_596 : decode cL_law 596 = .ok (.aload_n 0, 1) := by decide +kernel
theorem dL_law_597 : decode cL_law 597 = .ok (.iload_n 3, 1) := by decide +kernel
theorem dL_law_598 : decode cL_law 598 = .ok (.iconst 3, 1) := by decide +kernel
theorem dL_law_599 : decode cL_law 599 = .ok (.iadd, 1) := by decide +kernel
theorem dL_law_600 : decode cL_law 600 = .ok (.iaload, 1) := by decide +kernel
theorem dL_law_601 : decode cL_law 601 = .ok (.aload_n 0, 1) := by decide +kernel
theorem dL_law_602 : decode cL_law 602 = .ok (.iload_n 3, 1) := by decide +kernel
theorem dL_law_603 : decode cL_law 603 = .ok (.iconst 4, 1) := by decide +kernel
theorem dL_law_604 : decode cL_law 604 = .ok (.iadd, 1) := by decide +kernel
theorem dL_law_605 : decode cL_law 605 = .ok (.iaload, 1) := by decide +kernel
theorem dL_law_606 : decode cL_law 606 = .ok (.invokevirtual 57, 3) := by decide +kernel
theorem dL_law_609 : decode cL_law 609 = .ok (.if_icmp .eq 810, 3) := by decide +kernel
theorem dL_law_614 : decode cL_law 614 = .ok (.aload_n 1, 1) := by decide +kernel
theorem dL_law_615 : decode cL_law 615 = .ok (.aload_n 0, 1) := by decide +kernel
theorem dL_law_616 : decode cL_law 616 = .ok (.iload_n 3, 1) := by decide +kernel
theorem dL_law_617 : decode cL_law 617 = .ok (.iconst 1, 1) := by decide +kernel
theorem dL_law_618 : decode cL_law 618 = .ok (.iadd, 1) := by decide +kernel
theorem dL_law_619 : decode cL_law 619 = .ok (.iaload, 1) := by decide +kernel
theorem dL_law_620 : decode cL_law 620 = .ok (.aload_n 0, 1) := by decide +kernel
theorem dL_law_621 : decode cL_law 621 = .ok (.iload_n 3, 1) := by decide +kernel
theorem dL_law_622 : decode cL_law 622 = .ok (.iconst 2, 1) := by decide +kernel
theorem dL_law_623 : decode cL_law 623 = .ok (.iadd, 1) := by decide +kernel
theorem dL_law_624 : decode cL_law 624 = .ok (.iaload, 1) := by decide +kernel
theorem dL_law_625 : decode cL_law 625 = .ok (.invokevirtual 58, 3) := by decide +kernel
theorem dL_law_628 : decode cL_law 628 = .ok (.aload_n 2, 1) := by decide +kernel
theorem dL_law_629 : decode cL_law 629 = .ok (.aload_n 0, 1) := by decide +kernel
theorem dL_law_630 : decode cL_law 630 = .ok (.iload_n 3, 1) := by decide +kernel
theorem dL_law_631 : decode cL_law 631 = .ok (.iconst 1, 1) := by decide +kernel
theorem dL_law_632 : decode cL_law 632 = .ok (.iadd, 1) := by decide +kernel
theorem dL_law_633 : decode cL_law 633 = .ok (.iaload, 1) := by decide +kernel
theorem dL_law_634 : decode cL_law 634 = .ok (.aload_n 0, 1) := by decide +kernel
theorem dL_law_635 : decode cL_law 635 = .ok (.iload_n 3, 1) := by decide +kernel
theorem dL_law_636 : decode cL_law 636 = .ok (.iconst 2, 1) := by decide +kernel
theorem dL_law_637 : decode cL_law 637 = .ok (.iadd, 1) := by decide +kernel
theorem dL_law_638 : decode cL_law 638 = .ok (.iaload, 1) := by decide +kernel
theorem dL_law_639 : decode cL_law 639 = .ok (.invokevirtual 61, 3) := by decide +kernel
theorem dL_law_642 : decode cL_law 642 = .ok (.if_icmp .eq 777, 3) := by decide +kernel
theorem dL_law_647 : decode cL_law 647 = .ok (.aload_n 1, 1) := by decide +kernel
theorem dL_law_648 : decode cL_law 648 = .ok (.aload_n 0, 1) := by decide +kernel
theorem dL_law_649 : decode cL_law 649 = .ok (.iload_n 3, 1) := by decide +kernel
theorem dL_law_650 : decode cL_law 650 = .ok (.iconst 1, 1) := by decide +kernel
theorem dL_law_651 : decode cL_law 651 = .ok (.iadd, 1) := by decide +kernel
theorem dL_law_652 : decode cL_law 652 = .ok (.iaload, 1) := by decide +kernel
theorem dL_law_653 : decode cL_law 653 = .ok (.aload_n 0, 1) := by decide +kernel
theorem dL_law_654 : decode cL_law 654 = .ok (.iload_n 3, 1) := by decide +kernel
theorem dL_law_655 : decode cL_law 655 = .ok (.iconst 2, 1) := by decide +kernel
theorem dL_law_656 : decode cL_law 656 = .ok (.iadd, 1) := by decide +kernel
theorem dL_law_657 : decode cL_law 657 = .ok (.iaload, 1) := by decide +kernel
theorem dL_law_658 : decode cL_law 658 = .ok (.aload_n 0, 1) := by decide +kernel
theorem dL_law_659 : decode cL_law 659 = .ok (.iload_n 3, 1) := by decide +kernel
theorem dL_law_660 : decode cL_law 660 = .ok (.iconst 3, 1) := by decide +kernel
theorem dL_law_661 : decode cL_law 661 = .ok (.iadd, 1) := by decide +kernel
theorem dL_law_662 : decode cL_law 662 = .ok (.iaload, 1) := by decide +kernel
theorem dL_law_663 : decode cL_law 663 = .ok (.invokevirtual 62, 3) := by decide +kernel
theorem dL_law_666 : decode cL_law 666 = .ok (.aload_n 2, 1) := by decide +kernel
theorem dL_law_667 : decode cL_law 667 = .ok (.aload_n 0, 1) := by decide +kernel
theorem dL_law_668 : decode cL_law 668 = .ok (.iload_n 3, 1) := by decide +kernel
theorem dL_law_669 : decode cL_law 669 = .ok (.iconst 1, 1) := by decide +kernel
theorem dL_law_670 : decode cL_law 670 = .ok (.iadd, 1) := by decide +kernel
theorem dL_law_671 : decode cL_law 671 = .ok (.iaload, 1) := by decide +kernel
theorem dL_law_672 : decode cL_law 672 = .ok (.aload_n 0, 1) := by decide +kernel
theorem dL_law_673 : decode cL_law 673 = .ok (.iload_n 3, 1) := by decide +kernel
theorem dL_law_674 : decode cL_law 674 = .ok (.iconst 2, 1) := by decide +kernel
theorem dL_law_675 : decode cL_law 675 = .ok (.iadd, 1) := by decide +kernel
theorem dL_law_676 : decode cL_law 676 = .ok (.iaload, 1) := by decide +kernel
theorem dL_law_677 : decode cL_law 677 = .ok (.aload_n 0, 1) := by decide +kernel
theorem dL_law_678 : decode cL_law 678 = .ok (.iload_n 3, 1) := by decide +kernel
theorem dL_law_679 : decode cL_law 679 = .ok (.iconst 3, 1) := by decide +kernel
theorem dL_law_680 : decode cL_law 680 = .ok (.iadd, 1) := by decide +kernel
theorem dL_law_681 : decode cL_law 681 = .ok (.iaload, 1) := by decide +kernel
theorem dL_law_682 : decode cL_law 682 = .ok (.invokevirtual 65, 3) := by decide +kernel
theorem dL_law_685 : decode cL_law 685 = .ok (.if_icmp .eq 734, 3) := by decide +kernel
theorem dL_law_690 : decode cL_law 690 = .ok (.aload_n 1, 1) := by decide +kernel
theorem dL_law_691 : decode cL_law 691 = .ok (.aload_n 0, 1) := by decide +kernel
theorem dL_law_692 : decode cL_law 692 = .ok (.iload_n 3, 1) := by decide +kernel
theorem dL_law_693 : decode cL_law 693 = .ok (.iconst 1, 1) := by decide +kernel
theorem dL_law_694 : decode cL_law 694 = .ok (.iadd, 1) := by decide +kernel
theorem dL_law_695 : decode cL_law 695 = .ok (.iaload, 1) := by decide +kernel
theorem dL_law_696 : decode cL_law 696 = .ok (.aload_n 0, 1) := by decide +kernel
theorem dL_law_697 : decode cL_law 697 = .ok (.iload_n 3, 1) := by decide +kernel
theorem dL_law_698 : decode cL_law 698 = .ok (.iconst 2, 1) := by decide +kernel
theorem dL_law_699 : decode cL_law 699 = .ok (.iadd, 1) := by decide +kernel
theorem dL_law_700 : decode cL_law 700 = .ok (.iaload, 1) := by decide +kernel
theorem dL_law_701 : decode cL_law 701 = .ok (.aload_n 0, 1) := by decide +kernel
theorem dL_law_702 : decode cL_law 702 = .ok (.iload_n 3, 1) := by decide +kernel
theorem dL_law_703 : decode cL_law 703 = .ok (.iconst 3, 1) := by decide +kernel
theorem dL_law_704 : decode cL_law 704 = .ok (.iadd, 1) := by decide +kernel
theorem dL_law_705 : decode cL_law 705 = .ok (.iaload, 1) := by decide +kernel
theorem dL_law_706 : decode cL_law 706 = .ok (.invokevirtual 66, 3) := by decide +kernel
theorem dL_law_709 : decode cL_law 709 = .ok (.aload_n 2, 1) := by decide +kernel
theorem dL_law_710 : decode cL_law 710 = .ok (.aload_n 0, 1) := by decide +kernel
theorem dL_law_711 : decode cL_law 711 = .ok (.iload_n 3, 1) := by decide +kernel
theorem dL_law_712 : decode cL_law 712 = .ok (.iconst 1, 1) := by decide +kernel
theorem dL_law_713 : decode cL_law 713 = .ok (.iadd, 1) := by decide +kernel
theorem dL_law_714 : decode cL_law 714 = .ok (.iaload, 1) := by decide +kernel
theorem dL_law_715 : decode cL_law 715 = .ok (.aload_n 0, 1) := by decide +kernel
theorem dL_law_716 : decode cL_law 716 = .ok (.iload_n 3, 1) := by decide +kernel
theorem dL_law_717 : decode cL_law 717 = .ok (.iconst 2, 1) := by decide +kernel
theorem dL_law_718 : decode cL_law 718 = .ok (.iadd, 1) := by decide +kernel
theorem dL_law_719 : decode cL_law 719 = .ok (.iaload, 1) := by decide +kernel
theorem dL_law_720 : decode cL_law 720 = .ok (.aload_n 0, 1) := by decide +kernel
theorem dL_law_721 : decode cL_law 721 = .ok (.iload_n 3, 1) := by decide +kernel
theorem dL_law_722 : decode cL_law 722 = .ok (.iconst 3, 1) := by decide +kernel
theorem dL_law_723 : decode cL_law 723 = .ok (.iadd, 1) := by decide +kernel
theorem dL_law_724 : decode cL_law 724 = .ok (.iaload, 1) := by decide +kernel
theorem dL_law_725 : decode cL_law 725 = .ok (.invokevirtual 69, 3) := by decide +kernel
theorem dL_law_728 : decode cL_law 728 = .ok (.if_icmp .eq 691, 3) := by decide +kernel
theorem dL_law_733 : decode cL_law 733 = .ok (.aload_n 1, 1) := by decide +kernel
theorem dL_law_734 : decode cL_law 734 = .ok (.aload_n 0, 1) := by decide +kernel
theorem dL_law_735 : decode cL_law 735 = .ok (.iload_n 3, 1) := by decide +kernel
theorem dL_law_736 : decode cL_law 736 = .ok (.iconst 1, 1) := by decide +kernel
theorem dL_law_737 : decode cL_law 737 = .ok (.iadd, 1) := by decide +kernel
theorem dL_law_738 : decode cL_law 738 = .ok (.iaload, 1) := by decide +kernel
theorem dL_law_739 : decode cL_law 739 = .ok (.aload_n 0, 1) := by decide +kernel
theorem dL_law_740 : decode cL_law 740 = .ok (.iload_n 3, 1) := by decide +kernel
theorem dL_law_741 : decode cL_law 741 = .ok (.iconst 2, 1) := by decide +kernel
theorem dL_law_742 : decode cL_law 742 = .ok (.iadd, 1) := by decide +kernel
theorem dL_law_743 : decode cL_law 743 = .ok (.iaload, 1) := by decide +kernel
theorem dL_law_744 : decode cL_law 744 = .ok (.aload_n 0, 1) := by decide +kernel
theorem dL_law_745 : decode cL_law 745 = .ok (.iload_n 3, 1) := by decide +kernel
theorem dL_law_746 : decode cL_law 746 = .ok (.iconst 3, 1) := by decide +kernel
theorem dL_law_747 : decode cL_law 747 = .ok (.iadd, 1) := by decide +kernel
theorem dL_law_748 : decode cL_law 748 = .ok (.iaload, 1) := by decide +kernel
theorem dL_law_749 : decode cL_law 749 = .ok (.invokevirtual 70, 3) := by decide +kernel
theorem dL_law_752 : decode cL_law 752 = .ok (.aload_n 2, 1) := by decide +kernel
theorem dL_law_753 : decode cL_law 753 = .ok (.aload_n 0, 1) := by decide +kernel
theorem dL_law_754 : decode cL_law 754 = .ok (.iload_n 3, 1) := by decide +kernel
theorem dL_law_755 : decode cL_law 755 = .ok (.iconst 1, 1) := by decide +kernel
theorem dL_law_756 : decode cL_law 756 = .ok (.iadd, 1) := by decide +kernel
theorem dL_law_757 : decode cL_law 757 = .ok (.iaload, 1) := by decide +kernel
theorem dL_law_758 : decode cL_law 758 = .ok (.aload_n 0, 1) := by decide +kernel
theorem dL_law_759 : decode cL_law 759 = .ok (.iload_n 3, 1) := by decide +kernel
theorem dL_law_760 : decode cL_law 760 = .ok (.iconst 2, 1) := by decide +kernel
theorem dL_law_761 : decode cL_law 761 = .ok (.iadd, 1) := by decide +kernel
theorem dL_law_762 : decode cL_law 762 = .ok (.iaload, 1) := by decide +kernel
theorem dL_law_763 : decode cL_law 763 = .ok (.aload_n 0, 1) := by decide +kernel
theorem dL_law_764 : decode cL_law 764 = .ok (.iload_n 3, 1) := by decide +kernel
theorem dL_law_765 : decode cL_law 765 = .ok (.iconst 3, 1) := by decide +kernel
theorem dL_law_766 : decode cL_law 766 = .ok (.iadd, 1) := by decide +kernel
theorem dL_law_767 : decode cL_law 767 = .ok (.iaload, 1) := by decide +kernel
theorem dL_law_768 : decode cL_law 768 = .ok (.invokevirtual 73, 3) := by decide +kernel
theorem dL_law_771 : decode cL_law 771 = .ok (.if_icmp .eq 648, 3) := by decide +kernel
theorem dL_law_776 : decode cL_law 776 = .ok (.aload_n 1, 1) := by decide +kernel
theorem dL_law_777 : decode cL_law 777 = .ok (.aload_n 0, 1) := by decide +kernel
theorem dL_law_778 : decode cL_law 778 = .ok (.iload_n 3, 1) := by decide +kernel
theorem dL_law_779 : decode cL_law 779 = .ok (.iconst 1, 1) := by decide +kernel
theorem dL_law_780 : decode cL_law 780 = .ok (.iadd, 1) := by decide +kernel
theorem dL_law_781 : decode cL_law 781 = .ok (.iaload, 1) := by decide +kernel
theorem dL_law_782 : decode cL_law 782 = .ok (.invokevirtual 74, 3) := by decide +kernel
theorem dL_law_785 : decode cL_law 785 = .ok (.aload_n 2, 1) := by decide +kernel
theorem dL_law_786 : decode cL_law 786 = .ok (.aload_n 0, 1) := by decide +kernel
theorem dL_law_787 : decode cL_law 787 = .ok (.iload_n 3, 1) := by decide +kernel
theorem dL_law_788 : decode cL_law 788 = .ok (.iconst 1, 1) := by decide +kernel
theorem dL_law_789 : decode cL_law 789 = .ok (.iadd, 1) := by decide +kernel
theorem dL_law_790 : decode cL_law 790 = .ok (.iaload, 1) := by decide +kernel
theorem dL_law_791 : decode cL_law 791 = .ok (.invokevirtual 77, 3) := by decide +kernel
theorem dL_law_794 : decode cL_law 794 = .ok (.if_icmp .eq 625, 3) := by decide +kernel
theorem dL_law_799 : decode cL_law 799 = .ok (.aload_n 1, 1) := by decide +kernel
theorem dL_law_800 : decode cL_law 800 = .ok (.aload_n 0, 1) := by decide +kernel
theorem dL_law_801 : decode cL_law 801 = .ok (.iload_n 3, 1) := by decide +kernel
theorem dL_law_802 : decode cL_law 802 = .ok (.iconst 1, 1) := by decide +kernel
theorem dL_law_803 : decode cL_law 803 = .ok (.iadd, 1) := by decide +kernel
theorem dL_law_804 : decode cL_law 804 = .ok (.iaload, 1) := by decide +kernel
theorem dL_law_805 : decode cL_law 805 = .ok (.aload_n 0, 1) := by decide +kernel
theorem dL_law_806 : decode cL_law 806 = .ok (.iload_n 3, 1) := by decide +kernel
theorem dL_law_807 : decode cL_law 807 = .ok (.iconst 2, 1) := by decide +kernel
theorem dL_law_808 : decode cL_law 808 = .ok (.iadd, 1) := by decide +kernel
theorem dL_law_809 : decode cL_law 809 = .ok (.iaload, 1) := by decide +kernel
theorem dL_law_810 : decode cL_law 810 = .ok (.invokevirtual 78, 3) := by decide +kernel
theorem dL_law_813 : decode cL_law 813 = .ok (.aload_n 2, 1) := by decide +kernel
theorem dL_law_814 : decode cL_law 814 = .ok (.aload_n 0, 1) := by decide +kernel
theorem dL_law_815 : decode cL_law 815 = .ok (.iload_n 3, 1) := by decide +kernel
theorem dL_law_816 : decode cL_law 816 = .ok (.iconst 1, 1) := by decide +kernel
theorem dL_law_817 : decode cL_law 817 = .ok (.iadd, 1) := by decide +kernel
theorem dL_law_818 : decode cL_law 818 = .ok (.iaload, 1) := by decide +kernel
theorem dL_law_819 : decode cL_law 819 = .ok (.aload_n 0, 1) := by decide +kernel
theorem dL_law_820 : decode cL_law 820 = .ok (.iload_n 3, 1) := by decide +kernel
theorem dL_law_821 : decode cL_law 821 = .ok (.iconst 2, 1) := by decide +kernel
theorem dL_law_822 : decode cL_law 822 = .ok (.iadd, 1) := by decide +kernel
theorem dL_law_823 : decode cL_law 823 = .ok (.iaload, 1) := by decide +kernel
theorem dL_law_824 : decode cL_law 824 = .ok (.invokevirtual 81, 3) := by decide +kernel
theorem dL_law_827 : decode cL_law 827 = .ok (.if_icmp .eq 592, 3) := by decide +kernel
theorem dL_law_832 : decode cL_law 832 = .ok (.aload_n 1, 1) := by decide +kernel
theorem dL_law_833 : decode cL_law 833 = .ok (.aload_n 0, 1) := by decide +kernel
theorem dL_law_834 : decode cL_law 834 = .ok (.iload_n 3, 1) := by decide +kernel
theorem dL_law_835 : decode cL_law 835 = .ok (.iconst 1, 1) := by decide +kernel
theorem dL_law_836 : decode cL_law 836 = .ok (.iadd, 1) := by decide +kernel
theorem dL_law_837 : decode cL_law 837 = .ok (.iaload, 1) := by decide +kernel
theorem dL_law_838 : decode cL_law 838 = .ok (.aload_n 0, 1) := by decide +kernel
theorem dL_law_839 : decode cL_law 839 = .ok (.iload_n 3, 1) := by decide +kernel
theorem dL_law_840 : decode cL_law 840 = .ok (.iconst 2, 1) := by decide +kernel
theorem dL_law_841 : decode cL_law 841 = .ok (.iadd, 1) := by decide +kernel
theorem dL_law_842 : decode cL_law 842 = .ok (.iaload, 1) := by decide +kernel
theorem dL_law_843 : decode cL_law 843 = .ok (.aload_n 0, 1) := by decide +kernel
theorem dL_law_844 : decode cL_law 844 = .ok (.iload_n 3, 1) := by decide +kernel
theorem dL_law_845 : decode cL_law 845 = .ok (.iconst 3, 1) := by decide +kernel
theorem dL_law_846 : decode cL_law 846 = .ok (.iadd, 1) := by decide +kernel
theorem dL_law_847 : decode cL_law 847 = .ok (.iaload, 1) := by decide +kernel
theorem dL_law_848 : decode cL_law 848 = .ok (.invokevirtual 82, 3) := by decide +kernel
theorem dL_law_851 : decode cL_law 851 = .ok (.aload_n 2, 1) := by decide +kernel
theorem dL_law_852 : decode cL_law 852 = .ok (.aload_n 0, 1) := by decide +kernel
theorem dL_law_853 : decode cL_law 853 = .ok (.iload_n 3, 1) := by decide +kernel
theorem dL_law_854 : decode cL_law 854 = .ok (.iconst 1, 1) := by decide +kernel
theorem dL_law_855 : decode cL_law 855 = .ok (.iadd, 1) := by decide +kernel
theorem dL_law_856 : decode cL_law 856 = .ok (.iaload, 1) := by decide +kernel
theorem dL_law_857 : decode cL_law 857 = .ok (.aload_n 0, 1) := by decide +kernel
theorem dL_law_858 : decode cL_law 858 = .ok (.iload_n 3, 1) := by decide +kernel
theorem dL_law_859 : decode cL_law 859 = .ok (.iconst 2, 1) := by decide +kernel
theorem dL_law_860 : decode cL_law 860 = .ok (.iadd, 1) := by decide +kernel
theorem dL_law_861 : decode cL_law 861 = .ok (.iaload, 1) := by decide +kernel
theorem dL_law_862 : decode cL_law 862 = .ok (.aload_n 0, 1) := by decide +kernel
theorem dL_law_863 : decode cL_law 863 = .ok (.iload_n 3, 1) := by decide +kernel
theorem dL_law_864 : decode cL_law 864 = .ok (.iconst 3, 1) := by decide +kernel
theorem dL_law_865 : decode cL_law 865 = .ok (.iadd, 1) := by decide +kernel
theorem dL_law_866 : decode cL_law 866 = .ok (.iaload, 1) := by decide +kernel
theorem dL_law_867 : decode cL_law 867 = .ok (.invokevirtual 85, 3) := by decide +kernel
theorem dL_law_870 : decode cL_law 870 = .ok (.if_icmp .eq 549, 3) := by decide +kernel
theorem dL_law_875 : decode cL_law 875 = .ok (.aload_n 1, 1) := by decide +kernel
theorem dL_law_876 : decode cL_law 876 = .ok (.aload_n 0, 1) := by decide +kernel
theorem dL_law_877 : decode cL_law 877 = .ok (.iload_n 3, 1) := by decide +kernel
theorem dL_law_878 : decode cL_law 878 = .ok (.iconst 1, 1) := by decide +kernel
theorem dL_law_879 : decode cL_law 879 = .ok (.iadd, 1) := by decide +kernel
theorem dL_law_880 : decode cL_law 880 = .ok (.iaload, 1) := by decide +kernel
theorem dL_law_881 : decode cL_law 881 = .ok (.aload_n 0, 1) := by decide +kernel
theorem dL_law_882 : decode cL_law 882 = .ok (.iload_n 3, 1) := by decide +kernel
theorem dL_law_883 : decode cL_law 883 = .ok (.iconst 2, 1) := by decide +kernel
theorem dL_law_884 : decode cL_law 884 = .ok (.iadd, 1) := by decide +kernel
theorem dL_law_885 : decode cL_law 885 = .ok (.iaload, 1) := by decide +kernel
theorem dL_law_886 : decode cL_law 886 = .ok (.invokevirtual 86, 3) := by decide +kernel
theorem dL_law_889 : decode cL_law 889 = .ok (.aload_n 2, 1) := by decide +kernel
theorem dL_law_890 : decode cL_law 890 = .ok (.aload_n 0, 1) := by decide +kernel
theorem dL_law_891 : decode cL_law 891 = .ok (.iload_n 3, 1) := by decide +kernel
theorem dL_law_892 : decode cL_law 892 = .ok (.iconst 1, 1) := by decide +kernel
theorem dL_law_893 : decode cL_law 893 = .ok (.iadd, 1) := by decide +kernel
theorem dL_law_894 : decode cL_law 894 = .ok (.iaload, 1) := by decide +kernel
theorem dL_law_895 : decode cL_law 895 = .ok (.aload_n 0, 1) := by decide +kernel
theorem dL_law_896 : decode cL_law 896 = .ok (.iload_n 3, 1) := by decide +kernel
theorem dL_law_897 : decode cL_law 897 = .ok (.iconst 2, 1) := by decide +kernel
theorem dL_law_898 : decode cL_law 898 = .ok (.iadd, 1) := by decide +kernel
theorem dL_law_899 : decode cL_law 899 = .ok (.iaload, 1) := by decide +kernel
theorem dL_law_900 : decode cL_law 900 = .ok (.invokevirtual 89, 3) := by decide +kernel
theorem dL_law_903 : decode cL_law 903 = .ok (.if_icmp .eq 516, 3) := by decide +kernel
theorem dL_law_908 : decode cL_law 908 = .ok (.aload_n 1, 1) := by decide +kernel
theorem dL_law_909 : decode cL_law 909 = .ok (.aload_n 0, 1) := by decide +kernel
theorem dL_law_910 : decode cL_law 910 = .ok (.iload_n 3, 1) := by decide +kernel
theorem dL_law_911 : decode cL_law 911 = .ok (.iconst 1, 1) := by decide +kernel
theorem dL_law_912 : decode cL_law 912 = .ok (.iadd, 1) := by decide +kernel
theorem dL_law_913 : decode cL_law 913 = .ok (.iaload, 1) := by decide +kernel
theorem dL_law_914 : decode cL_law 914 = .ok (.invokevirtual 90, 3) := by decide +kernel
theorem dL_law_917 : decode cL_law 917 = .ok (.aload_n 2, 1) := by decide +kernel
theorem dL_law_918 : decode cL_law 918 = .ok (.aload_n 0, 1) := by decide +kernel
theorem dL_law_919 : decode cL_law 919 = .ok (.iload_n 3, 1) := by decide +kernel
theorem dL_law_920 : decode cL_law 920 = .ok (.iconst 1, 1) := by decide +kernel
theorem dL_law_921 : decode cL_law 921 = .ok (.iadd, 1) := by decide +kernel
theorem dL_law_922 : decode cL_law 922 = .ok (.iaload, 1) := by decide +kernel
theorem dL_law_923 : decode cL_law 923 = .ok (.invokevirtual 93, 3) := by decide +kernel
theorem dL_law_926 : decode cL_law 926 = .ok (.if_icmp .eq 493, 3) := by decide +kernel
theorem dL_law_931 : decode cL_law 931 = .ok (.aload_n 1, 1) := by decide +kernel
theorem dL_law_932 : decode cL_law 932 = .ok (.aload_n 0, 1) := by decide +kernel
theorem dL_law_933 : decode cL_law 933 = .ok (.iload_n 3, 1) := by decide +kernel
theorem dL_law_934 : decode cL_law 934 = .ok (.iconst 1, 1) := by decide +kernel
theorem dL_law_935 : decode cL_law 935 = .ok (.iadd, 1) := by decide +kernel
theorem dL_law_936 : decode cL_law 936 = .ok (.iaload, 1) := by decide +kernel
theorem dL_law_937 : decode cL_law 937 = .ok (.aload_n 0, 1) := by decide +kernel
theorem dL_law_938 : decode cL_law 938 = .ok (.iload_n 3, 1) := by decide +kernel
theorem dL_law_939 : decode cL_law 939 = .ok (.iconst 2, 1) := by decide +kernel
theorem dL_law_940 : decode cL_law 940 = .ok (.iadd, 1) := by decide +kernel
theorem dL_law_941 : decode cL_law 941 = .ok (.iaload, 1) := by decide +kernel
theorem dL_law_942 : decode cL_law 942 = .ok (.aload_n 0, 1) := by decide +kernel
theorem dL_law_943 : decode cL_law 943 = .ok (.iload_n 3, 1) := by decide +kernel
theorem dL_law_944 : decode cL_law 944 = .ok (.iconst 3, 1) := by decide +kernel
theorem dL_law_945 : decode cL_law 945 = .ok (.iadd, 1) := by decide +kernel
theorem dL_law_946 : decode cL_law 946 = .ok (.iaload, 1) := by decide +kernel
theorem dL_law_947 : decode cL_law 947 = .ok (.invokevirtual 94, 3) := by decide +kernel
theorem dL_law_950 : decode cL_law 950 = .ok (.aload_n 2, 1) := by decide +kernel
theorem dL_law_951 : decode cL_law 951 = .ok (.aload_n 0, 1) := by decide +kernel
theorem dL_law_952 : decode cL_law 952 = .ok (.iload_n 3, 1) := by decide +kernel
theorem dL_law_953 : decode cL_law 953 = .ok (.iconst 1, 1) := by decide +kernel
theorem dL_law_954 : decode cL_law 954 = .ok (.iadd, 1) := by decide +kernel
theorem dL_law_955 : decode cL_law 955 = .ok (.iaload, 1) := by decide +kernel
theorem dL_law_956 : decode cL_law 956 = .ok (.aload_n 0, 1) := by decide +kernel
theorem dL_law_957 : decode cL_law 957 = .ok (.iload_n 3, 1) := by decide +kernel
theorem dL_law_958 : decode cL_law 958 = .ok (.iconst 2, 1) := by decide +kernel
theorem dL_law_959 : decode cL_law 959 = .ok (.iadd, 1) := by decide +kernel
theorem dL_law_960 : decode cL_law 960 = .ok (.iaload, 1) := by decide +kernel
theorem dL_law_961 : decode cL_law 961 = .ok (.aload_n 0, 1) := by decide +kernel
theorem dL_law_962 : decode cL_law 962 = .ok (.iload_n 3, 1) := by decide +kernel
theorem dL_law_963 : decode cL_law 963 = .ok (.iconst 3, 1) := by decide +kernel
theorem dL_law_964 : decode cL_law 964 = .ok (.iadd, 1) := by decide +kernel
theorem dL_law_965 : decode cL_law 965 = .ok (.iaload, 1) := by decide +kernel
theorem dL_law_966 : decode cL_law 966 = .ok (.invokevirtual 97, 3) := by decide +kernel
theorem dL_law_969 : decode cL_law 969 = .ok (.if_icmp .eq 450, 3) := by decide +kernel
theorem dL_law_974 : decode cL_law 974 = .ok (.aload_n 1, 1) := by decide +kernel
theorem dL_law_975 : decode cL_law 975 = .ok (.aload_n 0, 1) := by decide +kernel
theorem dL_law_976 : decode cL_law 976 = .ok (.iload_n 3, 1) := by decide +kernel
theorem dL_law_977 : decode cL_law 977 = .ok (.iconst 1, 1) := by decide +kernel
theorem dL_law_978 : decode cL_law 978 = .ok (.iadd, 1) := by decide +kernel
theorem dL_law_979 : decode cL_law 979 = .ok (.iaload, 1) := by decide +kernel
theorem dL_law_980 : decode cL_law 980 = .ok (.aload_n 0, 1) := by decide +kernel
theorem dL_law_981 : decode cL_law 981 = .ok (.iload_n 3, 1) := by decide +kernel
theorem dL_law_982 : decode cL_law 982 = .ok (.iconst 2, 1) := by decide +kernel
theorem dL_law_983 : decode cL_law 983 = .ok (.iadd, 1) := by decide +kernel
theorem dL_law_984 : decode cL_law 984 = .ok (.iaload, 1) := by decide +kernel
theorem dL_law_985 : decode cL_law 985 = .ok (.aload_n 0, 1) := by decide +kernel
theorem dL_law_986 : decode cL_law 986 = .ok (.iload_n 3, 1) := by decide +kernel
theorem dL_law_987 : decode cL_law 987 = .ok (.iconst 3, 1) := by decide +kernel
theorem dL_law_988 : decode cL_law 988 = .ok (.iadd, 1) := by decide +kernel
theorem dL_law_989 : decode cL_law 989 = .ok (.iaload, 1) := by decide +kernel
theorem dL_law_990 : decode cL_law 990 = .ok (.invokevirtual 98, 3) := by decide +kernel
theorem dL_law_993 : decode cL_law 993 = .ok (.aload_n 2, 1) := by decide +kernel
theorem dL_law_994 : decode cL_law 994 = .ok (.aload_n 0, 1) := by decide +kernel
theorem dL_law_995 : decode cL_law 995 = .ok (.iload_n 3, 1) := by decide +kernel
theorem dL_law_996 : decode cL_law 996 = .ok (.iconst 1, 1) := by decide +kernel
theorem dL_law_997 : decode cL_law 997 = .ok (.iadd, 1) := by decide +kernel
theorem dL_law_998 : decode cL_law 998 = .ok (.iaload, 1) := by decide +kernel
theorem dL_law_999 : decode cL_law 999 = .ok (.aload_n 0, 1) := by decide +kernel
theorem dL_law_1000 : decode cL_law 1000 = .ok (.iload_n 3, 1) := by decide +kernel
theorem dL_law_1001 : decode cL_law 1001 = .ok (.iconst 2, 1) := by decide +kernel
theorem dL_law_1002 : decode cL_law 1002 = .ok (.iadd, 1) := by decide +kernel
theorem dL_law_1003 : decode cL_law 1003 = .ok (.iaload, 1) := by decide +kernel
theorem dL_law_1004 : decode cL_law 1004 = .ok (.aload_n 0, 1) := by decide +kernel
theorem dL_law_1005 : decode cL_law 1005 = .ok (.iload_n 3, 1) := by decide +kernel
theorem dL_law_1006 : decode cL_law 1006 = .ok (.iconst 3, 1) := by decide +kernel
theorem dL_law_1007 : decode cL_law 1007 = .ok (.iadd, 1) := by decide +kernel
theorem dL_law_1008 : decode cL_law 1008 = .ok (.iaload, 1) := by decide +kernel
theorem dL_law_1009 : decode cL_law 1009 = .ok (.invokevirtual 101, 3) := by decide +kernel
theorem dL_law_1012 : decode cL_law 1012 = .ok (.if_icmp .eq 407, 3) := by decide +kernel
