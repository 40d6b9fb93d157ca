theorem goodIn_r {big : List Cond} (ws : List Cond) (ps : List Nat) (hp : ws = ps.filterMap (fun i => big[i]?)) (h : ws.all goodWord = true) : GoodIn big ws := by
  intro w hw
  have h1 := List.all_eq_true.mp h w hw
  rw [hp] at hw
  obtain ⟨i, -, hi⟩ := List.mem_filterMap.mp hw
  have hm : w ∈ big := by first | exact List.mem_of_getElem? hi | exact List.getElem?_mem hi
  exact ⟨hm, good_of_word h1⟩
def RX0 : String := "CardTables$Auction"
def TX0 : u_T := fun k => match k with
  | _ => ("CardTables$Game", "type", "I", true)
def RX1 : String := "CardTables$Deal"
def TX1 : u_T := fun k => match k with
  | 0 => ("CardTables$Deal", "state", "I", false)
  | 1 => ("CardTables$Deal", "number", "I", false)
  | 2 => ("CardTables$Deal", "turn", "I", false)
  | 3 => ("CardTables$Deal", "winner", "I", false)
  | 4 => ("CardTables$Deal", "bidTricks", "I", false)
  | 5 => ("CardTables$Deal", "bidSuit", "I", false)
  | 6 => ("CardTables$Deal", "bidSeat", "I", false)
  | 7 => ("CardTables$Deal", "doublings", "I", false)
  | 8 => ("CardTables$Deal", "played", "I", false)
  | 9 => ("CardTables$Deal", "seed", "I", false)
  | 10 => ("CardTables$Deal", "size", "I", false)
  | 11 => ("CardTables$Deal", "tricks", "[I", true)
  | 12 => ("CardTables$Deal", "points", "[I", true)
  | 13 => ("CardTables$Deal", "owners", "[I", true)
  | 14 => ("CardTables$Deal", "scores", "[I", true)
  | 15 => ("CardTables$Deal", "trickOf", "[I", true)
  | 16 => ("CardTables$Deal", "denied", "[I", true)
  | _ => ("CardTables$Deal", "calls", "LCardTables$Row;", true)
def tyX1 : Nat → FieldType := fun k => match k with
  | 0 => .int
  | 1 => .int
  | 2 => .int
  | 3 => .int
  | 4 => .int
  | 5 => .int
  | 6 => .int
  | 7 => .int
  | 8 => .int
  | 9 => .int
  | 10 => .int
  | 11 => .array .int
  | 12 => .array .int
  | 13 => .array .int
  | 14 => .array .int
  | 15 => .array .int
  | 16 => .array .int
  | _ => .object "CardTables$Row"
abbrev wsX10 : List Cond := u_ws RX1 TX1 18
theorem nmX1 : ∀ a, a < 18 → ∀ b, b < 18 → a ≠ b → (TX1 a).2.1 ≠ (TX1 b).2.1 := by decide +kernel
theorem tyX1_ok : ∀ k, k < 18 → parseFieldDescriptor (TX1 k).2.2.1 = some (tyX1 k) := by decide +kernel
abbrev cX1_init : ByteArray := prog_3_method_1_code
def yX1_init : MethodName := ⟨RX1, "<init>", "()V"⟩
def RX2 : String := "CardTables$Ends"
def TX2 : u_T := fun k => match k with
  | 0 => ("CardTables$Ends", "quiet", "LCardTables$Notes;", true)
  | 1 => ("CardTables$Ends", "bounds", "[I", true)
  | 2 => ("CardTables$Ends", "sures", "[I", true)
  | 3 => ("CardTables$Ends", "bits", "[I", true)
  | 4 => ("CardTables$Ends", "hands", "[LCardTables$Row;", true)
  | 5 => ("CardTables$Ends", "tricks", "[LCardTables$Row;", true)
  | 6 => ("CardTables$Ends", "layers", "[LCardTables$Row;", true)
  | 7 => ("CardTables$Ends", "table", "LCardTables$Table;", false)
  | 8 => ("CardTables$Ends", "game", "LCardTables$Follow;", false)
  | 9 => ("CardTables$Ends", "side", "I", false)
  | 10 => ("CardTables$Ends", "toCome", "I", false)
  | 11 => ("CardTables$Ends", "at", "I", false)
  | 12 => ("CardTables$Ends", "won", "I", false)
  | _ => ("CardTables$Ends", "stamp", "I", false)
def tyX2 : Nat → FieldType := fun k => match k with
  | 0 => .object "CardTables$Notes"
  | 1 => .array .int
  | 2 => .array .int
  | 3 => .array .int
  | 4 => .array (.object "CardTables$Row")
  | 5 => .array (.object "CardTables$Row")
  | 6 => .array (.object "CardTables$Row")
  | 7 => .object "CardTables$Table"
  | 8 => .object "CardTables$Follow"
  | 9 => .int
  | 10 => .int
  | 11 => .int
  | 12 => .int
  | _ => .int
abbrev wsX20 : List Cond := u_ws RX2 TX2 14
theorem nmX2 : ∀ a, a < 14 → ∀ b, b < 14 → a ≠ b → (TX2 a).2.1 ≠ (TX2 b).2.1 := by decide +kernel
theorem tyX2_ok : ∀ k, k < 14 → parseFieldDescriptor (TX2 k).2.2.1 = some (tyX2 k) := by decide +kernel
abbrev cX2_init : ByteArray := prog_4_method_1_code
def yX2_init : MethodName := ⟨RX2, "<init>", "()V"⟩
def RX3 : String := "CardTables$Follow"
def TX3 : u_T := fun k => match k with
  | _ => ("CardTables$Game", "type", "I", true)
def RX5 : String := "CardTables$Must"
def TX5 : u_T := fun k => match k with
  | _ => ("CardTables$Game", "type", "I", true)
def RX6 : String := "CardTables$Notes"
def TX6 : u_T := fun k => match k with
  | 0 => ("CardTables$Notes", "silent", "Z", true)
  | 1 => ("CardTables$Notes", "bodies", "[I", true)
  | 2 => ("CardTables$Notes", "findings", "[I", true)
  | 3 => ("CardTables$Notes", "bodyCount", "I", false)
  | 4 => ("CardTables$Notes", "findingCount", "I", false)
  | 5 => ("CardTables$Notes", "tries", "I", false)
  | _ => ("CardTables$Notes", "number", "I", false)
def tyX6 : Nat → FieldType := fun k => match k with
  | 0 => .boolean
  | 1 => .array .int
  | 2 => .array .int
  | 3 => .int
  | 4 => .int
  | 5 => .int
  | _ => .int
abbrev wsX60 : List Cond := u_ws RX6 TX6 7
theorem nmX6 : ∀ a, a < 7 → ∀ b, b < 7 → a ≠ b → (TX6 a).2.1 ≠ (TX6 b).2.1 := by decide +kernel
theorem tyX6_ok : ∀ k, k < 7 → parseFieldDescriptor (TX6 k).2.2.1 = some (tyX6 k) := by decide +kernel
abbrev cX6_init : ByteArray := prog_8_method_1_code
def yX6_init : MethodName := ⟨RX6, "<init>", "(Z)V"⟩
def RX7 : String := "CardTables$Pair"
def TX7 : u_T := fun k => match k with
  | 0 => ("CardTables$Game", "type", "I", true)
  | 1 => ("CardTables$Pair", "first", "LCardTables$Follow;", true)
  | _ => ("CardTables$Pair", "second", "LCardTables$Follow;", true)
def RX8 : String := "CardTables$Row"
def TX8 : u_T := fun k => match k with
  | 0 => ("CardTables$Row", "items", "[I", true)
  | _ => ("CardTables$Row", "length", "I", false)
def tyX8 : Nat → FieldType := fun k => match k with
  | 0 => .array .int
  | _ => .int
abbrev wsX80 : List Cond := u_ws RX8 TX8 2
theorem nmX8 : ∀ a, a < 2 → ∀ b, b < 2 → a ≠ b → (TX8 a).2.1 ≠ (TX8 b).2.1 := by decide +kernel
theorem tyX8_ok : ∀ k, k < 2 → parseFieldDescriptor (TX8 k).2.2.1 = some (tyX8 k) := by decide +kernel
abbrev cX8_init : ByteArray := prog_10_method_1_code
def yX8_init : MethodName := ⟨RX8, "<init>", "(I)V"⟩
def RX9 : String := "CardTables$Table"
def TX9 : u_T := fun k => match k with
  | 0 => ("CardTables$Table", "id", "I", true)
  | 1 => ("CardTables$Table", "game", "LCardTables$Game;", false)
  | 2 => ("CardTables$Table", "pack", "I", false)
  | 3 => ("CardTables$Table", "matchSize", "I", false)
  | 4 => ("CardTables$Table", "matchHad", "I", false)
  | 5 => ("CardTables$Table", "colours", "[I", true)
  | 6 => ("CardTables$Table", "places", "[I", true)
  | 7 => ("CardTables$Table", "taken", "[Z", true)
  | 8 => ("CardTables$Table", "sums", "[I", true)
  | 9 => ("CardTables$Table", "rest", "LCardTables$Row;", true)
  | 10 => ("CardTables$Table", "trick", "LCardTables$Row;", true)
  | 11 => ("CardTables$Table", "layers", "LCardTables$Row;", true)
  | 12 => ("CardTables$Table", "hands", "[LCardTables$Row;", true)
  | _ => ("CardTables$Table", "deal", "LCardTables$Deal;", true)
def tyX9 : Nat → FieldType := fun k => match k with
  | 0 => .int
  | 1 => .object "CardTables$Game"
  | 2 => .int
  | 3 => .int
  | 4 => .int
  | 5 => .array .int
  | 6 => .array .int
  | 7 => .array .boolean
  | 8 => .array .int
  | 9 => .object "CardTables$Row"
  | 10 => .object "CardTables$Row"
  | 11 => .object "CardTables$Row"
  | 12 => .array (.object "CardTables$Row")
  | _ => .object "CardTables$Deal"
abbrev wsX90 : List Cond := u_ws RX9 TX9 14
theorem nmX9 : ∀ a, a < 14 → ∀ b, b < 14 → a ≠ b → (TX9 a).2.1 ≠ (TX9 b).2.1 := by decide +kernel
theorem tyX9_ok : ∀ k, k < 14 → parseFieldDescriptor (TX9 k).2.2.1 = some (tyX9 k) := by decide +kernel
abbrev cX9_init : ByteArray := prog_11_method_1_code
def yX9_init : MethodName := ⟨RX9, "<init>", "(I)V"⟩
def RX10 : String := "CardTables$VoidGame"
def TX10 : u_T := fun k => match k with
  | _ => ("CardTables$Game", "type", "I", true)
def RX11 : String := "CardTables"
def TX11 : u_T := fun k => match k with
  | 0 => ("CardTables", "games", "[LCardTables$Game;", true)
  | 1 => ("CardTables", "tables", "[LCardTables$Table;", true)
  | 2 => ("CardTables", "kept", "[LCardTables$Table;", true)
  | 3 => ("CardTables", "keptNext", "[I", true)
  | 4 => ("CardTables", "keptCount", "[I", true)
  | 5 => ("CardTables", "aside", "LCardTables$Table;", true)
  | 6 => ("CardTables", "notes", "LCardTables$Notes;", true)
  | 7 => ("CardTables", "quiet", "LCardTables$Notes;", true)
  | _ => ("CardTables", "ends", "LCardTables$Ends;", true)
def RX12 : String := "CardTablesModel"
def TX12 : u_T := fun k => match k with
  | 0 => ("CardTablesModel", "cells", "[I", true)
  | 1 => ("CardTablesModel", "isThere", "[Z", true)
  | 2 => ("CardTablesModel", "kept", "[I", true)
  | 3 => ("CardTablesModel", "gameKind", "[I", true)
  | 4 => ("CardTablesModel", "gameFirst", "[I", true)
  | 5 => ("CardTablesModel", "gameSecond", "[I", true)
  | 6 => ("CardTablesModel", "numbers", "I", false)
  | 7 => ("CardTablesModel", "tries", "I", false)
  | 8 => ("CardTablesModel", "findings", "[I", true)
  | 9 => ("CardTablesModel", "found", "I", false)
  | 10 => ("CardTablesModel", "bodies", "[I", true)
  | 11 => ("CardTablesModel", "traced", "I", false)
  | 12 => ("CardTablesModel", "isQuiet", "Z", false)
  | 13 => ("CardTablesModel", "held", "[I", true)
  | 14 => ("CardTablesModel", "holds", "I", false)
  | 15 => ("CardTablesModel", "lies", "[I", true)
  | 16 => ("CardTablesModel", "lying", "I", false)
  | 17 => ("CardTablesModel", "rule", "I", false)
  | 18 => ("CardTablesModel", "slots", "[I", true)
  | 19 => ("CardTablesModel", "many", "[I", true)
  | 20 => ("CardTablesModel", "all", "I", false)
  | 21 => ("CardTablesModel", "sure", "[B", true)
  | 22 => ("CardTablesModel", "ruled", "[B", true)
  | 23 => ("CardTablesModel", "solvedTable", "I", false)
  | 24 => ("CardTablesModel", "solvedSide", "I", false)
  | 25 => ("CardTablesModel", "endSide", "I", false)
  | 26 => ("CardTablesModel", "seats", "[I", true)
  | 27 => ("CardTablesModel", "seated", "I", false)
  | 28 => ("CardTablesModel", "left", "I", false)
  | 29 => ("CardTablesModel", "tried", "[I", true)
  | 30 => ("CardTablesModel", "picked", "[I", true)
  | 31 => ("CardTablesModel", "has", "[Z", true)
  | 32 => ("CardTablesModel", "best", "[I", true)
  | 33 => ("CardTablesModel", "kept2", "[I", true)
  | 34 => ("CardTablesModel", "firstPick", "I", false)
  | _ => ("CardTablesModel", "from", "I", false)
def wsX8_init : List Cond := .code yX8_init cX8_init 2 none :: ([.methodLink RX8 3 objectInit, .instanceMethod objectInit, .code objectInit ⟨#[0xb1]⟩ 1 none, .methodLink RX8 9 Lib.Math.max.name, .static Lib.Math.max.name, .initialized "java/lang/Math", .code Lib.Math.max.name Lib.Math.max.code 2 (some .int), .arrayClass .int, .fieldLink RX8 15 "CardTables$Row" "items" "[I"] ++ wsX80)
def wsX1_init : List Cond := .code yX1_init cX1_init 1 none :: ([.methodLink RX1 3 objectInit, .instanceMethod objectInit, .code objectInit ⟨#[0xb1]⟩ 1 none, .arrayClass .int, .fieldLink RX1 9 "CardTables$Deal" "tricks" "[I", .fieldLink RX1 15 "CardTables$Deal" "points" "[I", .fieldLink RX1 18 "CardTables$Deal" "owners" "[I", .fieldLink RX1 21 "CardTables$Deal" "scores" "[I", .fieldLink RX1 24 "CardTables$Deal" "trickOf" "[I", .fieldLink RX1 27 "CardTables$Deal" "denied" "[I", .classLink RX1 30 RX8, .instantiable RX8 2, .initialized RX8, .fieldLink RX1 35 "CardTables$Deal" "calls" "LCardTables$Row;", .methodLink RX1 32 yX8_init, .instanceMethod yX8_init, .code yX8_init cX8_init 2 none, .methodLink RX8 3 objectInit, .methodLink RX8 9 Lib.Math.max.name, .static Lib.Math.max.name, .initialized "java/lang/Math", .code Lib.Math.max.name Lib.Math.max.code 2 (some .int), .fieldLink RX8 15 "CardTables$Row" "items" "[I"] ++ wsX10 ++ wsX80)
def wsX6_init : List Cond := .code yX6_init cX6_init 2 none :: ([.methodLink RX6 3 objectInit, .instanceMethod objectInit, .code objectInit ⟨#[0xb1]⟩ 1 none, .arrayClass .int, .fieldLink RX6 9 "CardTables$Notes" "bodies" "[I", .fieldLink RX6 15 "CardTables$Notes" "findings" "[I", .fieldLink RX6 18 "CardTables$Notes" "silent" "Z"] ++ wsX60)
def wsX2_init_r1 : List Cond := [Cond.methodLink RX2 3 objectInit, Cond.instanceMethod objectInit, Cond.code objectInit ⟨#[0xb1]⟩ 1 none, Cond.classLink RX2 9 RX6, Cond.instantiable RX6 7, Cond.initialized RX6, Cond.fieldLink RX2 14 "CardTables$Ends" "quiet" "LCardTables$Notes;", Cond.arrayClass .int, Cond.fieldLink RX2 20 "CardTables$Ends" "bounds" "[I", Cond.fieldLink RX2 24 "CardTables$Ends" "sures" "[I", Cond.fieldLink RX2 27 "CardTables$Ends" "bits" "[I", Cond.classLink RX2 30 RX8, Cond.fieldLink RX2 32 "CardTables$Ends" "hands" "[LCardTables$Row;", Cond.fieldLink RX2 36 "CardTables$Ends" "tricks" "[LCardTables$Row;", Cond.fieldLink RX2 39 "CardTables$Ends" "layers" "[LCardTables$Row;", Cond.instantiable RX8 2, Cond.initialized RX8, Cond.methodLink RX2 11 yX6_init, Cond.instanceMethod yX6_init, Cond.code yX6_init cX6_init 2 none, Cond.methodLink RX6 3 objectInit, Cond.fieldLink RX6 9 "CardTables$Notes" "bodies" "[I", Cond.fieldLink RX6 15 "CardTables$Notes" "findings" "[I", Cond.fieldLink RX6 18 "CardTables$Notes" "silent" "Z"]
def wsX2_init_r2 : List Cond := [Cond.methodLink RX2 42 yX8_init, Cond.instanceMethod yX8_init, Cond.code yX8_init cX8_init 2 none, Cond.methodLink RX8 3 objectInit, Cond.methodLink RX8 9 Lib.Math.max.name, Cond.static Lib.Math.max.name, Cond.initialized "java/lang/Math", Cond.code Lib.Math.max.name Lib.Math.max.code 2 (some .int), Cond.fieldLink RX8 15 "CardTables$Row" "items" "[I"]
def wsX2_init : List Cond := .code yX2_init cX2_init 2 none :: ((wsX2_init_r1 ++ wsX2_init_r2) ++ wsX60 ++ wsX20 ++ wsX80)
def wsX9_init_r1 : List Cond := [Cond.methodLink RX9 3 objectInit, Cond.instanceMethod objectInit, Cond.code objectInit ⟨#[0xb1]⟩ 1 none, Cond.arrayClass .int, Cond.fieldLink RX9 9 "CardTables$Table" "colours" "[I", Cond.fieldLink RX9 15 "CardTables$Table" "places" "[I", Cond.arrayClass .boolean, Cond.fieldLink RX9 18 "CardTables$Table" "taken" "[Z", Cond.fieldLink RX9 22 "CardTables$Table" "sums" "[I", Cond.classLink RX9 25 RX8, Cond.instantiable RX8 2, Cond.initialized RX8, Cond.fieldLink RX9 30 "CardTables$Table" "rest" "LCardTables$Row;", Cond.fieldLink RX9 34 "CardTables$Table" "trick" "LCardTables$Row;", Cond.fieldLink RX9 37 "CardTables$Table" "layers" "LCardTables$Row;", Cond.fieldLink RX9 40 "CardTables$Table" "hands" "[LCardTables$Row;", Cond.classLink RX9 44 RX1, Cond.instantiable RX1 18, Cond.initialized RX1, Cond.fieldLink RX9 47 "CardTables$Table" "deal" "LCardTables$Deal;", Cond.fieldLink RX9 51 "CardTables$Table" "id" "I", Cond.methodLink RX9 27 yX8_init, Cond.instanceMethod yX8_init, Cond.code yX8_init cX8_init 2 none]
def wsX9_init_r2 : List Cond := [Cond.methodLink RX8 3 objectInit, Cond.methodLink RX8 9 Lib.Math.max.name, Cond.static Lib.Math.max.name, Cond.initialized "java/lang/Math", Cond.code Lib.Math.max.name Lib.Math.max.code 2 (some .int), Cond.fieldLink RX8 15 "CardTables$Row" "items" "[I", Cond.instanceMethod yX1_init, Cond.code yX1_init cX1_init 1 none, Cond.methodLink RX1 3 objectInit, Cond.fieldLink RX1 9 "CardTables$Deal" "tricks" "[I", Cond.fieldLink RX1 15 "CardTables$Deal" "points" "[I", Cond.fieldLink RX1 18 "CardTables$Deal" "owners" "[I", Cond.fieldLink RX1 21 "CardTables$Deal" "scores" "[I", Cond.fieldLink RX1 24 "CardTables$Deal" "trickOf" "[I", Cond.fieldLink RX1 27 "CardTables$Deal" "denied" "[I", Cond.classLink RX1 30 RX8, Cond.fieldLink RX1 35 "CardTables$Deal" "calls" "LCardTables$Row;", Cond.methodLink RX1 32 yX8_init]
def wsX9_init : List Cond := .code yX9_init cX9_init 3 none :: ((wsX9_init_r1 ++ wsX9_init_r2) ++ wsX90 ++ wsX80 ++ wsX10)
set_option maxRecDepth 20000 in
theorem ggX1_init_X8_init : GoodIn wsX1_init wsX8_init := goodIn_r _ [17, 18, 2, 3, 19, 20, 21, 22, 4, 23, 42, 43] (by decide +kernel) (by decide +kernel)
set_option maxRecDepth 20000 in
theorem gX1_init_X8_init : GoodIn wsX1_init (wsX8_init) := ggX1_init_X8_init
theorem dX1_init_0 : decode cX1_init 0 = .ok (.aload_n 0, 1) := by decide +kernel
theorem dX1_init_1 : decode cX1_init 1 = .ok (.invokespecial 3, 3) := by decide +kernel
theorem dX1_init_4 : decode cX1_init 4 = .ok (.aload_n 0, 1) := by decide +kernel
theorem dX1_init_5 : decode cX1_init 5 = .ok (.iconst 2, 1) := by decide +kernel
theorem dX1_init_6 : decode cX1_init 6 = .ok (.newarray .int, 2) := by decide +kernel
theorem dX1_init_8 : decode cX1_init 8 = .ok (.putfield 9, 3) := by decide +kernel
theorem dX1_init_11 : decode cX1_init 11 = .ok (.aload_n 0, 1) := by decide +kernel
theorem dX1_init_12 : decode cX1_init 12 = .ok (.iconst 2, 1) := by decide +kernel
theorem dX1_init_13 : decode cX1_init 13 = .ok (.newarray .int, 2) := by decide +kernel
theorem dX1_init_15 : decode cX1_init 15 = .ok (.putfield 15, 3) := by decide +kernel
theorem dX1_init_18 : decode cX1_init 18 = .ok (.aload_n 0, 1) := by decide +kernel
theorem dX1_init_19 : decode cX1_init 19 = .ok (.bipush 15, 2) := by decide +kernel
theorem dX1_init_21 : decode cX1_init 21 = .ok (.newarray .int, 2) := by decide +kernel
theorem dX1_init_23 : decode cX1_init 23 = .ok (.putfield 18, 3) := by decide +kernel
theorem dX1_init_26 : decode cX1_init 26 = .ok (.aload_n 0, 1) := by decide +kernel
theorem dX1_init_27 : decode cX1_init 27 = .ok (.bipush 15, 2) := by decide +kernel
theorem dX1_init_29 : decode cX1_init 29 = .ok (.newarray .int, 2) := by decide +kernel
theorem dX1_init_31 : decode cX1_init 31 = .ok (.putfield 21, 3) := by decide +kernel
theorem dX1_init_34 : decode cX1_init 34 = .ok (.aload_n 0, 1) := by decide +kernel
theorem dX1_init_35 : decode cX1_init 35 = .ok (.bipush 60, 2) := by decide +kernel
theorem dX1_init_37 : decode cX1_init 37 = .ok (.newarray .int, 2) := by decide +kernel
theorem dX1_init_39 : decode cX1_init 39 = .ok (.putfield 24, 3) := by decide +kernel
theorem dX1_init_42 : decode cX1_init 42 = .ok (.aload_n 0, 1) := by decide +kernel
theorem dX1_init_43 : decode cX1_init 43 = .ok (.bipush 60, 2) := by decide +kernel
theorem dX1_init_45 : decode cX1_init 45 = .ok (.newarray .int, 2) := by decide +kernel
theorem dX1_init_47 : decode cX1_init 47 = .ok (.putfield 27, 3) := by decide +kernel
theorem dX1_init_50 : decode cX1_init 50 = .ok (.aload_n 0, 1) := by decide +kernel
theorem dX1_init_51 : decode cX1_init 51 = .ok (.new 30, 3) := by decide +kernel
theorem dX1_init_54 : decode cX1_init 54 = .ok (.dup, 1) := by decide +kernel
theorem dX1_init_55 : decode cX1_init 55 = .ok (.bipush 101, 2) := by decide +kernel
theorem dX1_init_57 : decode cX1_init 57 = .ok (.invokespecial 32, 3) := by decide +kernel
theorem dX1_init_60 : decode cX1_init 60 = .ok (.putfield 35, 3) := by decide +kernel
theorem dX1_init_63 : decode cX1_init 63 = .ok (.return_, 1) := by decide +kernel
set_option maxRecDepth 20000 in
theorem ggX2_init_X6_init : GoodIn wsX2_init wsX6_init := goodIn_r _ [20, 21, 2, 3, 8, 22, 23, 24, 34, 35, 36, 37, 38, 39, 40] (by decide +kernel) (by decide +kernel)
set_option maxRecDepth 20000 in
theorem gX2_init_X6_init : GoodIn wsX2_init (wsX6_init) := ggX2_init_X6_init
set_option maxRecDepth 20000 in
theorem ggX2_init_X8_init : GoodIn wsX2_init wsX8_init := goodIn_r _ [27, 28, 2, 3, 29, 30, 31, 32, 8, 33, 55, 56] (by decide +kernel) (by decide +kernel)
set_option maxRecDepth 20000 in
theorem gX2_init_X8_init : GoodIn wsX2_init (wsX8_init) := ggX2_init_X8_init
theorem dX2_init_0 : decode cX2_init 0 = .ok (.aload_n 0, 1) := by decide +kernel
theorem dX2_init_1 : decode cX2_init 1 = .ok (.invokespecial 3, 3) := by decide +kernel
theorem dX2_init_4 : decode cX2_init 4 = .ok (.aload_n 0, 1) := by decide +kernel
theorem dX2_init_5 : decode cX2_init 5 = .ok (.new 9, 3) := by decide +kernel
theorem dX2_init_8 : decode cX2_init 8 = .ok (.dup, 1) := by decide +kernel
theorem dX2_init_9 : decode cX2_init 9 = .ok (.iconst 1, 1) := by decide +kernel
theorem dX2_init_10 : decode cX2_init 10 = .ok (.invokespecial 11, 3) := by decide +kernel
theorem dX2_init_13 : decode cX2_init 13 = .ok (.putfield 14, 3) := by decide +kernel
theorem dX2_init_16 : decode cX2_init 16 = .ok (.aload_n 0, 1) := by decide +kernel
theorem dX2_init_17 : decode cX2_init 17 = .ok (.sipush 20736, 3) := by decide +kernel
theorem dX2_init_20 : decode cX2_init 20 = .ok (.newarray .int, 2) := by decide +kernel
theorem dX2_init_22 : decode cX2_init 22 = .ok (.putfield 20, 3) := by decide +kernel
theorem dX2_init_25 : decode cX2_init 25 = .ok (.aload_n 0, 1) := by decide +kernel
theorem dX2_init_26 : decode cX2_init 26 = .ok (.sipush 20736, 3) := by decide +kernel
theorem dX2_init_29 : decode cX2_init 29 = .ok (.newarray .int, 2) := by decide +kernel
theorem dX2_init_31 : decode cX2_init 31 = .ok (.putfield 24, 3) := by decide +kernel
theorem dX2_init_34 : decode cX2_init 34 = .ok (.aload_n 0, 1) := by decide +kernel
theorem dX2_init_35 : decode cX2_init 35 = .ok (.bipush 60, 2) := by decide +kernel
theorem dX2_init_37 : decode cX2_init 37 = .ok (.newarray .int, 2) := by decide +kernel
theorem dX2_init_39 : decode cX2_init 39 = .ok (.putfield 27, 3) := by decide +kernel
theorem dX2_init_42 : decode cX2_init 42 = .ok (.aload_n 0, 1) := by decide +kernel
theorem dX2_init_43 : decode cX2_init 43 = .ok (.iconst 4, 1) := by decide +kernel
theorem dX2_init_44 : decode cX2_init 44 = .ok (.anewarray 30, 3) := by decide +kernel
theorem dX2_init_47 : decode cX2_init 47 = .ok (.putfield 32, 3) := by decide +kernel
theorem dX2_init_50 : decode cX2_init 50 = .ok (.aload_n 0, 1) := by decide +kernel
theorem dX2_init_51 : decode cX2_init 51 = .ok (.iconst 5, 1) := by decide +kernel
theorem dX2_init_52 : decode cX2_init 52 = .ok (.anewarray 30, 3) := by decide +kernel
theorem dX2_init_55 : decode cX2_init 55 = .ok (.putfield 36, 3) := by decide +kernel
theorem dX2_init_58 : decode cX2_init 58 = .ok (.aload_n 0, 1) := by decide +kernel
theorem dX2_init_59 : decode cX2_init 59 = .ok (.iconst 5, 1) := by decide +kernel
theorem dX2_init_60 : decode cX2_init 60 = .ok (.anewarray 30, 3) := by decide +kernel
theorem dX2_init_63 : decode cX2_init 63 = .ok (.putfield 39, 3) := by decide +kernel
theorem dX2_init_66 : decode cX2_init 66 = .ok (.iconst 0, 1) := by decide +kernel
theorem dX2_init_67 : decode cX2_init 67 = .ok (.istore_n 1, 1) := by decide +kernel
theorem dX2_init_68 : decode cX2_init 68 = .ok (.iload_n 1, 1) := by decide +kernel
theorem dX2_init_69 : decode cX2_init 69 = .ok (.iconst 4, 1) := by decide +kernel
theorem dX2_init_70 : decode cX2_init 70 = .ok (.if_icmp .ge 23, 3) := by decide +kernel
theorem dX2_init_73 : decode cX2_init 73 = .ok (.aload_n 0, 1) := by decide +kernel
theorem dX2_init_74 : decode cX2_init 74 = .ok (.getfield 32, 3) := by decide +kernel
theorem dX2_init_77 : decode cX2_init 77 = .ok (.iload_n 1, 1) := by decide +kernel
theorem dX2_init_78 : decode cX2_init 78 = .ok (.new 30, 3) := by decide +kernel
theorem dX2_init_81 : decode cX2_init 81 = .ok (.dup, 1) := by decide +kernel
theorem dX2_init_82 : decode cX2_init 82 = .ok (.iconst 4, 1) := by decide +kernel
theorem dX2_init_83 : decode cX2_init 83 = .ok (.invokespecial 42, 3) := by decide +kernel
theorem dX2_init_86 : decode cX2_init 86 = .ok (.aastore, 1) := by decide +kernel
theorem dX2_init_87 : decode cX2_init 87 = .ok (.iinc 1 1, 3) := by decide +kernel
theorem dX2_init_90 : decode cX2_init 90 = .ok (.goto (-22), 3) := by decide +kernel
theorem dX2_init_93 : decode cX2_init 93 = .ok (.iconst 0, 1) := by decide +kernel
theorem dX2_init_94 : decode cX2_init 94 = .ok (.istore_n 1, 1) := by decide +kernel
theorem dX2_init_95 : decode cX2_init 95 = .ok (.iload_n 1, 1) := by decide +kernel
theorem dX2_init_96 : decode cX2_init 96 = .ok (.iconst 4, 1) := by decide +kernel
theorem dX2_init_97 : decode cX2_init 97 = .ok (.if_icmp .gt 37, 3) := by decide +kernel
theorem dX2_init_100 : decode cX2_init 100 = .ok (.aload_n 0, 1) := by decide +kernel
theorem dX2_init_101 : decode cX2_init 101 = .ok (.getfield 36, 3) := by decide +kernel
theorem dX2_init_104 : decode cX2_init 104 = .ok (.iload_n 1, 1) := by decide +kernel
theorem dX2_init_105 : decode cX2_init 105 = .ok (.new 30, 3) := by decide +kernel
theorem dX2_init_108 : decode cX2_init 108 = .ok (.dup, 1) := by decide +kernel
theorem dX2_init_109 : decode cX2_init 109 = .ok (.iconst 4, 1) := by decide +kernel
theorem dX2_init_110 : decode cX2_init 110 = .ok (.invokespecial 42, 3) := by decide +kernel
theorem dX2_init_113 : decode cX2_init 113 = .ok (.aastore, 1) := by decide +kernel
theorem dX2_init_114 : decode cX2_init 114 = .ok (.aload_n 0, 1) := by decide +kernel
theorem dX2_init_115 : decode cX2_init 115 = .ok (.getfield 39, 3) := by decide +kernel
theorem dX2_init_118 : decode cX2_init 118 = .ok (.iload_n 1, 1) := by decide +kernel
theorem dX2_init_119 : decode cX2_init 119 = .ok (.new 30, 3) := by decide +kernel
theorem dX2_init_122 : decode cX2_init 122 = .ok (.dup, 1) := by decide +kernel
theorem dX2_init_123 : decode cX2_init 123 = .ok (.iconst 4, 1) := by decide +kernel
theorem dX2_init_124 : decode cX2_init 124 = .ok (.invokespecial 42, 3) := by decide +kernel
theorem dX2_init_127 : decode cX2_init 127 = .ok (.aastore, 1) := by decide +kernel
theorem dX2_init_128 : decode cX2_init 128 = .ok (.iinc 1 1, 3) := by decide +kernel
theorem dX2_init_131 : decode cX2_init 131 = .ok (.goto (-36), 3) := by decide +kernel
theorem dX2_init_134 : decode cX2_init 134 = .ok (.return_, 1) := by decide +kernel
theorem dX6_init_0 : decode cX6_init 0 = .ok (.aload_n 0, 1) := by decide +kernel
theorem dX6_init_1 : decode cX6_init 1 = .ok (.invokespecial 3, 3) := by decide +kernel
theorem dX6_init_4 : decode cX6_init 4 = .ok (.aload_n 0, 1) := by decide +kernel
theorem dX6_init_5 : decode cX6_init 5 = .ok (.bipush 60, 2) := by decide +kernel
theorem dX6_init_7 : decode cX6_init 7 = .ok (.newarray .int, 2) := by decide +kernel
theorem dX6_init_9 : decode cX6_init 9 = .ok (.putfield 9, 3) := by decide +kernel
theorem dX6_init_12 : decode cX6_init 12 = .ok (.aload_n 0, 1) := by decide +kernel
theorem dX6_init_13 : decode cX6_init 13 = .ok (.sipush 300, 3) := by decide +kernel
theorem dX6_init_16 : decode cX6_init 16 = .ok (.newarray .int, 2) := by decide +kernel
theorem dX6_init_18 : decode cX6_init 18 = .ok (.putfield 15, 3) := by decide +kernel
theorem dX6_init_21 : decode cX6_init 21 = .ok (.aload_n 0, 1) := by decide +kernel
theorem dX6_init_22 : decode cX6_init 22 = .ok (.iload_n 1, 1) := by decide +kernel
theorem dX6_init_23 : decode cX6_init 23 = .ok (.putfield 18, 3) := by decide +kernel
theorem dX6_init_26 : decode cX6_init 26 = .ok (.return_, 1) := by decide +kernel
theorem dX8_init_0 : decode cX8_init 0 = .ok (.aload_n 0, 1) := by decide +kernel
theorem dX8_init_1 : decode cX8_init 1 = .ok (.invokespecial 3, 3) := by decide +kernel
theorem dX8_init_4 : decode cX8_init 4 = .ok (.aload_n 0, 1) := by decide +kernel
theorem dX8_init_5 : decode cX8_init 5 = .ok (.iconst 0, 1) := by decide +kernel
theorem dX8_init_6 : decode cX8_init 6 = .ok (.iload_n 1, 1) := by decide +kernel
theorem dX8_init_7 : decode cX8_init 7 = .ok (.invokestatic 9, 3) := by decide +kernel
theorem dX8_init_10 : decode cX8_init 10 = .ok (.newarray .int, 2) := by decide +kernel
theorem dX8_init_12 : decode cX8_init 12 = .ok (.putfield 15, 3) := by decide +kernel
theorem dX8_init_15 : decode cX8_init 15 = .ok (.return_, 1) := by decide +kernel
set_option maxRecDepth 20000 in
theorem ggX9_init_X8_init : GoodIn wsX9_init wsX8_init := goodIn_r _ [24, 25, 2, 3, 26, 27, 28, 29, 4, 30, 57, 58] (by decide +kernel) (by decide +kernel)
set_option maxRecDepth 20000 in
theorem gX9_init_X8_init : GoodIn wsX9_init (wsX8_init) := ggX9_init_X8_init
set_option maxRecDepth 20000 in
theorem ggX9_init_X1_init : GoodIn wsX9_init wsX1_init := goodIn_r _ [32, 33, 2, 3, 4, 34, 35, 36, 37, 38, 39, 40, 11, 12, 41, 42, 23, 24, 25, 26, 27, 28, 29, 30, 59, 60, 61, 62, 63, 64, 65, 66, 67, 68, 69, 70, 71, 72, 73, 74, 75, 76, 57, 58] (by decide +kernel) (by decide +kernel)
set_option maxRecDepth 20000 in
theorem gX9_init_X1_init_n46 : GoodIn wsX9_init (wsX1_init) := ggX9_init_X1_init
theorem dX9_init_0 : decode cX9_init 0 = .ok (.aload_n 0, 1) := by decide +kernel
theorem dX9_init_1 : decode cX9_init 1 = .ok (.invokespecial 3, 3) := by decide +kernel
theorem dX9_init_4 : decode cX9_init 4 = .ok (.aload_n 0, 1) := by decide +kernel
theorem dX9_init_5 : decode cX9_init 5 = .ok (.bipush 60, 2) := by decide +kernel
theorem dX9_init_7 : decode cX9_init 7 = .ok (.newarray .int, 2) := by decide +kernel
theorem dX9_init_9 : decode cX9_init 9 = .ok (.putfield 9, 3) := by decide +kernel
theorem dX9_init_12 : decode cX9_init 12 = .ok (.aload_n 0, 1) := by decide +kernel
theorem dX9_init_13 : decode cX9_init 13 = .ok (.bipush 60, 2) := by decide +kernel
theorem dX9_init_15 : decode cX9_init 15 = .ok (.newarray .int, 2) := by decide +kernel
theorem dX9_init_17 : decode cX9_init 17 = .ok (.putfield 15, 3) := by decide +kernel
theorem dX9_init_20 : decode cX9_init 20 = .ok (.aload_n 0, 1) := by decide +kernel
theorem dX9_init_21 : decode cX9_init 21 = .ok (.iconst 4, 1) := by decide +kernel
theorem dX9_init_22 : decode cX9_init 22 = .ok (.newarray .boolean, 2) := by decide +kernel
theorem dX9_init_24 : decode cX9_init 24 = .ok (.putfield 18, 3) := by decide +kernel
theorem dX9_init_27 : decode cX9_init 27 = .ok (.aload_n 0, 1) := by decide +kernel
theorem dX9_init_28 : decode cX9_init 28 = .ok (.iconst 4, 1) := by decide +kernel
theorem dX9_init_29 : decode cX9_init 29 = .ok (.newarray .int, 2) := by decide +kernel
theorem dX9_init_31 : decode cX9_init 31 = .ok (.putfield 22, 3) := by decide +kernel
theorem dX9_init_34 : decode cX9_init 34 = .ok (.aload_n 0, 1) := by decide +kernel
theorem dX9_init_35 : decode cX9_init 35 = .ok (.new 25, 3) := by decide +kernel
theorem dX9_init_38 : decode cX9_init 38 = .ok (.dup, 1) := by decide +kernel
theorem dX9_init_39 : decode cX9_init 39 = .ok (.bipush 60, 2) := by decide +kernel
theorem dX9_init_41 : decode cX9_init 41 = .ok (.invokespecial 27, 3) := by decide +kernel
theorem dX9_init_44 : decode cX9_init 44 = .ok (.putfield 30, 3) := by decide +kernel
theorem dX9_init_47 : decode cX9_init 47 = .ok (.aload_n 0, 1) := by decide +kernel
theorem dX9_init_48 : decode cX9_init 48 = .ok (.new 25, 3) := by decide +kernel
theorem dX9_init_51 : decode cX9_init 51 = .ok (.dup, 1) := by decide +kernel
theorem dX9_init_52 : decode cX9_init 52 = .ok (.iconst 4, 1) := by decide +kernel
theorem dX9_init_53 : decode cX9_init 53 = .ok (.invokespecial 27, 3) := by decide +kernel
theorem dX9_init_56 : decode cX9_init 56 = .ok (.putfield 34, 3) := by decide +kernel
theorem dX9_init_59 : decode cX9_init 59 = .ok (.aload_n 0, 1) := by decide +kernel
theorem dX9_init_60 : decode cX9_init 60 = .ok (.new 25, 3) := by decide +kernel
theorem dX9_init_63 : decode cX9_init 63 = .ok (.dup, 1) := by decide +kernel
theorem dX9_init_64 : decode cX9_init 64 = .ok (.iconst 4, 1) := by decide +kernel
theorem dX9_init_65 : decode cX9_init 65 = .ok (.invokespecial 27, 3) := by decide +kernel
theorem dX9_init_68 : decode cX9_init 68 = .ok (.putfield 37, 3) := by decide +kernel
theorem dX9_init_71 : decode cX9_init 71 = .ok (.aload_n 0, 1) := by decide +kernel
theorem dX9_init_72 : decode cX9_init 72 = .ok (.iconst 4, 1) := by decide +kernel
theorem dX9_init_73 : decode cX9_init 73 = .ok (.anewarray 25, 3) := by decide +kernel
theorem dX9_init_76 : decode cX9_init 76 = .ok (.putfield 40, 3) := by decide +kernel
theorem dX9_init_79 : decode cX9_init 79 = .ok (.aload_n 0, 1) := by decide +kernel
theorem dX9_init_80 : decode cX9_init 80 = .ok (.new 44, 3) := by decide +kernel
theorem dX9_init_83 : decode cX9_init 83 = .ok (.dup, 1) := by decide +kernel
theorem dX9_init_84 : decode cX9_init 84 = .ok (.invokespecial 46, 3) := by decide +kernel
theorem dX9_init_87 : decode cX9_init 87 = .ok (.putfield 47, 3) := by decide +kernel
theorem dX9_init_90 : decode cX9_init 90 = .ok (.aload_n 0, 1) := by decide +kernel
theorem dX9_init_91 : decode cX9_init 91 = .ok (.iload_n 1, 1) := by decide +kernel
theorem dX9_init_92 : decode cX9_init 92 = .ok (.putfield 51, 3) := by decide +kernel
theorem dX9_init_95 : decode cX9_init 95 = .ok (.iconst 0, 1) := by decide +kernel
theorem dX9_init_96 : decode cX9_init 96 = .ok (.istore_n 2, 1) := by decide +kernel
theorem dX9_init_97 : decode cX9_init 97 = .ok (.iload_n 2, 1) := by decide +kernel
theorem dX9_init_98 : decode cX9_init 98 = .ok (.iconst 4, 1) := by decide +kernel
theorem dX9_init_99 : decode cX9_init 99 = .ok (.if_icmp .ge 24, 3) := by decide +kernel
theorem dX9_init_102 : decode cX9_init 102 = .ok (.aload_n 0, 1) := by decide +kernel
theorem dX9_init_103 : decode cX9_init 103 = .ok (.getfield 40, 3) := by decide +kernel
theorem dX9_init_106 : decode cX9_init 106 = .ok (.iload_n 2, 1) := by decide +kernel
theorem dX9_init_107 : decode cX9_init 107 = .ok (.new 25, 3) := by decide +kernel
theorem dX9_init_110 : decode cX9_init 110 = .ok (.dup, 1) := by decide +kernel
theorem dX9_init_111 : decode cX9_init 111 = .ok (.bipush 15, 2) := by decide +kernel
theorem dX9_init_113 : decode cX9_init 113 = .ok (.invokespecial 27, 3) := by decide +kernel
theorem dX9_init_116 : decode cX9_init 116 = .ok (.aastore, 1) := by decide +kernel
theorem dX9_init_117 : decode cX9_init 117 = .ok (.iinc 2 1, 3) := by decide +kernel
theorem dX9_init_120 : decode cX9_init 120 = .ok (.goto (-23), 3) := by decide +kernel
theorem dX9_init_123 : decode cX9_init 123 = .ok (.return_, 1) := by decide +kernel
abbrev vwCl : List vw_C := [(RX0, TX0, 1), (RX1, TX1, 18), (RX2, TX2, 14), (RX3, TX3, 1), (RX5, TX5, 1), (RX6, TX6, 7), (RX7, TX7, 3), (RX8, TX8, 2), (RX9, TX9, 14), (RX10, TX10, 1), (RX11, TX11, 9), (RX12, TX12, 36)]
