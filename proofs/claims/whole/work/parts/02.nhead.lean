/-! ===== BEGIN words of one list among another's, by their places ===== -/
theorem goodIn_r {big : List Cond} (ws : List Cond) (ps : List Nat) (hp : ws = ps.filterMap (fun i => big[i]?)) (h : ws.all goodWord = true) : GoodIn big ws := by
  intro w hw
  have h1 := List.all_eq_true.mp h w hw
  rw [hp] at hw
  obtain ⟨i, -, hi⟩ := List.mem_filterMap.mp hw
  have hm : w ∈ big := by first | exact List.mem_of_getElem? hi | exact List.getElem?_mem hi
  exact ⟨hm, good_of_word h1⟩
theorem goodIn_app {big a b : List Cond} (ha : GoodIn big a) (hb : GoodIn big b) : GoodIn big (a ++ b) := fun w h => (List.mem_append.mp h).elim (ha w) (hb w)
theorem goodIn_ca {big a b : List Cond} {c : Cond} (ha : GoodIn big (c :: a)) (hb : GoodIn big b) : GoodIn big (c :: (a ++ b)) := fun w h => (List.mem_cons.mp h).elim (fun e => ha w (List.mem_cons.mpr (Or.inl e))) (fun h => (List.mem_append.mp h).elim (fun h => ha w (List.mem_cons.mpr (Or.inr h))) (hb w))
theorem goodIn_sub {big ws : List Cond} (hm : ∀ w ∈ ws, w ∈ big) (h : ws.all goodWord = true) : GoodIn big ws := fun w hw => ⟨hm w hw, good_of_word (List.all_eq_true.mp h w hw)⟩
/-! ===== END ===== -/

/-! ===== BEGIN printed: names, fields, word lists, decode rows ===== -/
def RX0 : String := "Migrator"
def TX0 : u_T := fun k => match k with
  | 0 => ("Migrator", "sourceWords", "[I", true)
  | 1 => ("Migrator", "destinationWords", "[I", true)
  | 2 => ("Migrator", "registers", "[I", true)
  | 3 => ("Migrator", "keptShows", "[I", true)
  | 4 => ("Migrator", "programCounter", "I", false)
  | 5 => ("Migrator", "showCount", "I", false)
  | 6 => ("Migrator", "phaseNow", "I", false)
  | 7 => ("Migrator", "roundNow", "I", false)
  | 8 => ("Migrator", "dirtyThreshold", "I", false)
  | 9 => ("Migrator", "roundLimit", "I", false)
  | 10 => ("Migrator", "dirtyPages", "I", false)
  | _ => ("Migrator", "waitingPages", "I", false)
def tyX0 : Nat → FieldType := fun k => match k with
  | 0 => .array .int
  | 1 => .array .int
  | 2 => .array .int
  | 3 => .array .int
  | 4 => .int
  | 5 => .int
  | 6 => .int
  | 7 => .int
  | 8 => .int
  | 9 => .int
  | 10 => .int
  | _ => .int
abbrev wsX00 : List Cond := u_ws RX0 TX0 12
theorem nmX0 : ∀ a, a < 12 → ∀ b, b < 12 → a ≠ b → (TX0 a).2.1 ≠ (TX0 b).2.1 := by decide +kernel
theorem tyX0_ok : ∀ k, k < 12 → parseFieldDescriptor (TX0 k).2.2.1 = some (tyX0 k) := by decide +kernel
abbrev cX0_init : ByteArray := prog_1_method_1_code
def yX0_init : MethodName := ⟨RX0, "<init>", "()V"⟩
abbrev cX0_poke : ByteArray := prog_1_method_2_code
def yX0_poke : MethodName := ⟨RX0, "poke", "(II)Z"⟩
abbrev cX0_begin : ByteArray := prog_1_method_3_code
def yX0_begin : MethodName := ⟨RX0, "begin", "(II)Z"⟩
abbrev cX0_run : ByteArray := prog_1_method_4_code
def yX0_run : MethodName := ⟨RX0, "run", "(I)I"⟩
abbrev cX0_copy : ByteArray := prog_1_method_5_code
def yX0_copy : MethodName := ⟨RX0, "copy", "()I"⟩
abbrev cX0_phase : ByteArray := prog_1_method_6_code
def yX0_phase : MethodName := ⟨RX0, "phase", "()I"⟩
abbrev cX0_round : ByteArray := prog_1_method_7_code
def yX0_round : MethodName := ⟨RX0, "round", "()I"⟩
abbrev cX0_dirty : ByteArray := prog_1_method_8_code
def yX0_dirty : MethodName := ⟨RX0, "dirty", "(I)Z"⟩
abbrev cX0_waits : ByteArray := prog_1_method_9_code
def yX0_waits : MethodName := ⟨RX0, "waits", "(I)Z"⟩
abbrev cX0_source : ByteArray := prog_1_method_10_code
def yX0_source : MethodName := ⟨RX0, "source", "(I)I"⟩
abbrev cX0_destination : ByteArray := prog_1_method_11_code
def yX0_destination : MethodName := ⟨RX0, "destination", "(I)I"⟩
abbrev cX0_register : ByteArray := prog_1_method_12_code
def yX0_register : MethodName := ⟨RX0, "register", "(I)I"⟩
abbrev cX0_pc : ByteArray := prog_1_method_13_code
def yX0_pc : MethodName := ⟨RX0, "pc", "()I"⟩
abbrev cX0_shows : ByteArray := prog_1_method_14_code
def yX0_shows : MethodName := ⟨RX0, "shows", "()I"⟩
abbrev cX0_shown : ByteArray := prog_1_method_15_code
def yX0_shown : MethodName := ⟨RX0, "shown", "(I)I"⟩
abbrev cX0_isAddress : ByteArray := prog_1_method_16_code
def yX0_isAddress : MethodName := ⟨RX0, "isAddress", "(I)Z"⟩
abbrev cX0_isPage : ByteArray := prog_1_method_17_code
def yX0_isPage : MethodName := ⟨RX0, "isPage", "(I)Z"⟩
abbrev cX0_hasPage : ByteArray := prog_1_method_18_code
def yX0_hasPage : MethodName := ⟨RX0, "hasPage", "(II)Z"⟩
abbrev cX0_copyFirstWaiting : ByteArray := prog_1_method_19_code
def yX0_copyFirstWaiting : MethodName := ⟨RX0, "copyFirstWaiting", "()I"⟩
abbrev cX0_copyPage : ByteArray := prog_1_method_20_code
def yX0_copyPage : MethodName := ⟨RX0, "copyPage", "(I)V"⟩
abbrev cX0_endRound : ByteArray := prog_1_method_21_code
def yX0_endRound : MethodName := ⟨RX0, "endRound", "()I"⟩
abbrev cX0_guestStep : ByteArray := prog_1_method_22_code
def yX0_guestStep : MethodName := ⟨RX0, "guestStep", "()V"⟩
abbrev cX0_readWord : ByteArray := prog_1_method_23_code
def yX0_readWord : MethodName := ⟨RX0, "readWord", "(I)I"⟩
abbrev cX0_writeWord : ByteArray := prog_1_method_24_code
def yX0_writeWord : MethodName := ⟨RX0, "writeWord", "(II)V"⟩
abbrev cX0_show : ByteArray := prog_1_method_25_code
def yX0_show : MethodName := ⟨RX0, "show", "(I)V"⟩
def RX1 : String := "MigratorModel"
def TX1 : u_T := fun k => match k with
  | 0 => ("MigratorModel", "real", "[I", true)
  | 1 => ("MigratorModel", "kept", "[I", true)
  | 2 => ("MigratorModel", "copied", "[I", true)
  | 3 => ("MigratorModel", "reg", "[I", true)
  | 4 => ("MigratorModel", "written", "[J", true)
  | 5 => ("MigratorModel", "want", "[Z", true)
  | 6 => ("MigratorModel", "left", "[Z", true)
  | 7 => ("MigratorModel", "told", "[I", true)
  | 8 => ("MigratorModel", "pc", "I", false)
  | 9 => ("MigratorModel", "phase", "I", false)
  | 10 => ("MigratorModel", "round", "I", false)
  | 11 => ("MigratorModel", "threshold", "I", false)
  | 12 => ("MigratorModel", "limit", "I", false)
  | 13 => ("MigratorModel", "shows", "I", false)
  | 14 => ("MigratorModel", "time", "J", false)
  | _ => ("MigratorModel", "since", "J", false)
def tyX1 : Nat → FieldType := fun k => match k with
  | 0 => .array .int
  | 1 => .array .int
  | 2 => .array .int
  | 3 => .array .int
  | 4 => .array .long
  | 5 => .array .boolean
  | 6 => .array .boolean
  | 7 => .array .int
  | 8 => .int
  | 9 => .int
  | 10 => .int
  | 11 => .int
  | 12 => .int
  | 13 => .int
  | 14 => .long
  | _ => .long
abbrev wsX10 : List Cond := u_ws RX1 TX1 16
theorem nmX1 : ∀ a, a < 16 → ∀ b, b < 16 → a ≠ b → (TX1 a).2.1 ≠ (TX1 b).2.1 := by decide +kernel
theorem tyX1_ok : ∀ k, k < 16 → parseFieldDescriptor (TX1 k).2.2.1 = some (tyX1 k) := by decide +kernel
abbrev cX1_init : ByteArray := prog_3_method_1_code
def yX1_init : MethodName := ⟨RX1, "<init>", "()V"⟩
abbrev cX1_poke : ByteArray := prog_3_method_2_code
def yX1_poke : MethodName := ⟨RX1, "poke", "(II)Z"⟩
abbrev cX1_begin : ByteArray := prog_3_method_3_code
def yX1_begin : MethodName := ⟨RX1, "begin", "(II)Z"⟩
abbrev cX1_step : ByteArray := prog_3_method_4_code
def yX1_step : MethodName := ⟨RX1, "step", "()V"⟩
abbrev cX1_run : ByteArray := prog_3_method_5_code
def yX1_run : MethodName := ⟨RX1, "run", "(I)I"⟩
abbrev cX1_copy : ByteArray := prog_3_method_6_code
def yX1_copy : MethodName := ⟨RX1, "copy", "()I"⟩
abbrev cX1_phase : ByteArray := prog_3_method_7_code
def yX1_phase : MethodName := ⟨RX1, "phase", "()I"⟩
abbrev cX1_round : ByteArray := prog_3_method_8_code
def yX1_round : MethodName := ⟨RX1, "round", "()I"⟩
abbrev cX1_dirty : ByteArray := prog_3_method_9_code
def yX1_dirty : MethodName := ⟨RX1, "dirty", "(I)Z"⟩
abbrev cX1_waits : ByteArray := prog_3_method_10_code
def yX1_waits : MethodName := ⟨RX1, "waits", "(I)Z"⟩
abbrev cX1_source : ByteArray := prog_3_method_11_code
def yX1_source : MethodName := ⟨RX1, "source", "(I)I"⟩
abbrev cX1_destination : ByteArray := prog_3_method_12_code
def yX1_destination : MethodName := ⟨RX1, "destination", "(I)I"⟩
abbrev cX1_register : ByteArray := prog_3_method_13_code
def yX1_register : MethodName := ⟨RX1, "register", "(I)I"⟩
abbrev cX1_pc : ByteArray := prog_3_method_14_code
def yX1_pc : MethodName := ⟨RX1, "pc", "()I"⟩
abbrev cX1_shows : ByteArray := prog_3_method_15_code
def yX1_shows : MethodName := ⟨RX1, "shows", "()I"⟩
abbrev cX1_shown : ByteArray := prog_3_method_16_code
def yX1_shown : MethodName := ⟨RX1, "shown", "(I)I"⟩
def RJ6 : String := "java/lang/Integer"
def TJ6 : u_T := fun k => match k with
  | _ => ("", "", "", false)
def tyJ6 : Nat → FieldType := fun k => match k with
  | _ => .int
abbrev wsJ60 : List Cond := u_ws RJ6 TJ6 0
theorem nmJ6 : ∀ a, a < 0 → ∀ b, b < 0 → a ≠ b → (TJ6 a).2.1 ≠ (TJ6 b).2.1 := by decide +kernel
theorem tyJ6_ok : ∀ k, k < 0 → parseFieldDescriptor (TJ6 k).2.2.1 = some (tyJ6 k) := by decide +kernel
abbrev cJ6_bitCount_0f7a4 : ByteArray := prog_4_method_49_code
def yJ6_bitCount_0f7a4 : MethodName := ⟨RJ6, "bitCount", "(I)I"⟩
def RL : String := "MigratorLaw"
abbrev cL_law : ByteArray := code
def yL_law : MethodName := ⟨RL, "law", "([I)Z"⟩
def wsX0_init : List Cond := .code yX0_init cX0_init 1 none :: ([.methodLink RX0 1 objectInit, .instanceMethod objectInit, .code objectInit ⟨#[0xb1]⟩ 1 none, .arrayClass .int, .fieldLink RX0 9 "Migrator" "sourceWords" "[I", .fieldLink RX0 13 "Migrator" "destinationWords" "[I", .fieldLink RX0 16 "Migrator" "registers" "[I", .fieldLink RX0 19 "Migrator" "keptShows" "[I", .fieldLink RX0 22 "Migrator" "programCounter" "I", .fieldLink RX0 26 "Migrator" "showCount" "I", .fieldLink RX0 29 "Migrator" "phaseNow" "I", .fieldLink RX0 32 "Migrator" "roundNow" "I", .fieldLink RX0 35 "Migrator" "dirtyThreshold" "I", .fieldLink RX0 38 "Migrator" "roundLimit" "I", .fieldLink RX0 41 "Migrator" "dirtyPages" "I", .fieldLink RX0 44 "Migrator" "waitingPages" "I"] ++ wsX00)
def wsX0_isAddress : List Cond := .code yX0_isAddress cX0_isAddress 1 (some .boolean) :: ([])
def wsX0_poke : List Cond := .code yX0_poke cX0_poke 3 (some .boolean) :: ([.fieldLink RX0 29 "Migrator" "phaseNow" "I", .fieldLink RX0 9 "Migrator" "sourceWords" "[I", .methodLink RX0 47 yX0_isAddress, .static yX0_isAddress, .initialized RX0, .code yX0_isAddress cX0_isAddress 1 (some .boolean)] ++ wsX00)
def wsX0_begin : List Cond := .code yX0_begin cX0_begin 3 (some .boolean) :: ([.fieldLink RX0 29 "Migrator" "phaseNow" "I", .fieldLink RX0 35 "Migrator" "dirtyThreshold" "I", .fieldLink RX0 38 "Migrator" "roundLimit" "I", .fieldLink RX0 32 "Migrator" "roundNow" "I", .fieldLink RX0 44 "Migrator" "waitingPages" "I", .fieldLink RX0 41 "Migrator" "dirtyPages" "I"] ++ wsX00)
def wsX0_readWord : List Cond := .code yX0_readWord cX0_readWord 3 (some .int) :: ([.fieldLink RX0 29 "Migrator" "phaseNow" "I", .fieldLink RX0 13 "Migrator" "destinationWords" "[I", .fieldLink RX0 9 "Migrator" "sourceWords" "[I"] ++ wsX00)
def wsX0_writeWord : List Cond := .code yX0_writeWord cX0_writeWord 4 none :: ([.fieldLink RX0 29 "Migrator" "phaseNow" "I", .fieldLink RX0 13 "Migrator" "destinationWords" "[I", .fieldLink RX0 9 "Migrator" "sourceWords" "[I", .fieldLink RX0 41 "Migrator" "dirtyPages" "I"] ++ wsX00)
def wsX0_show : List Cond := .code yX0_show cX0_show 2 none :: ([.fieldLink RX0 19 "Migrator" "keptShows" "[I", .fieldLink RX0 26 "Migrator" "showCount" "I"] ++ wsX00)
def wsX0_guestStep : List Cond := .code yX0_guestStep cX0_guestStep 6 none :: ([.fieldLink RX0 22 "Migrator" "programCounter" "I", .fieldLink RX0 16 "Migrator" "registers" "[I", .methodLink RX0 78 yX0_readWord, .instanceMethod yX0_readWord, .selects RX0 yX0_readWord yX0_readWord, .initialized RX0, .code yX0_readWord cX0_readWord 3 (some .int), .fieldLink RX0 29 "Migrator" "phaseNow" "I", .fieldLink RX0 13 "Migrator" "destinationWords" "[I", .fieldLink RX0 9 "Migrator" "sourceWords" "[I", .methodLink RX0 81 yX0_writeWord, .instanceMethod yX0_writeWord, .selects RX0 yX0_writeWord yX0_writeWord, .code yX0_writeWord cX0_writeWord 4 none, .fieldLink RX0 41 "Migrator" "dirtyPages" "I", .methodLink RX0 85 yX0_show, .instanceMethod yX0_show, .selects RX0 yX0_show yX0_show, .code yX0_show cX0_show 2 none, .fieldLink RX0 19 "Migrator" "keptShows" "[I", .fieldLink RX0 26 "Migrator" "showCount" "I"] ++ wsX00)
def wsX0_run_r1 : List Cond := [Cond.fieldLink RX0 29 "Migrator" "phaseNow" "I", Cond.methodLink RX0 51 yX0_guestStep, Cond.instanceMethod yX0_guestStep, Cond.selects RX0 yX0_guestStep yX0_guestStep, Cond.initialized RX0, Cond.code yX0_guestStep cX0_guestStep 6 none, Cond.fieldLink RX0 22 "Migrator" "programCounter" "I", Cond.fieldLink RX0 16 "Migrator" "registers" "[I", Cond.methodLink RX0 78 yX0_readWord, Cond.instanceMethod yX0_readWord, Cond.selects RX0 yX0_readWord yX0_readWord, Cond.code yX0_readWord cX0_readWord 3 (some .int), Cond.fieldLink RX0 13 "Migrator" "destinationWords" "[I", Cond.fieldLink RX0 9 "Migrator" "sourceWords" "[I", Cond.methodLink RX0 81 yX0_writeWord, Cond.instanceMethod yX0_writeWord, Cond.selects RX0 yX0_writeWord yX0_writeWord, Cond.code yX0_writeWord cX0_writeWord 4 none, Cond.fieldLink RX0 41 "Migrator" "dirtyPages" "I", Cond.methodLink RX0 85 yX0_show, Cond.instanceMethod yX0_show, Cond.selects RX0 yX0_show yX0_show, Cond.code yX0_show cX0_show 2 none, Cond.fieldLink RX0 19 "Migrator" "keptShows" "[I"]
def wsX0_run_r2 : List Cond := [Cond.fieldLink RX0 26 "Migrator" "showCount" "I"]
def wsX0_run : List Cond := .code yX0_run cX0_run 3 (some .int) :: ((wsX0_run_r1 ++ wsX0_run_r2) ++ wsX00)
def wsX0_hasPage : List Cond := .code yX0_hasPage cX0_hasPage 2 (some .boolean) :: ([])
def wsX0_copyPage : List Cond := .code yX0_copyPage cX0_copyPage 5 none :: ([.fieldLink RX0 13 "Migrator" "destinationWords" "[I", .fieldLink RX0 9 "Migrator" "sourceWords" "[I"] ++ wsX00)
def wsX0_copyFirstWaiting : List Cond := .code yX0_copyFirstWaiting cX0_copyFirstWaiting 2 (some .int) :: ([.fieldLink RX0 44 "Migrator" "waitingPages" "I", .methodLink RX0 64 yX0_hasPage, .static yX0_hasPage, .initialized RX0, .code yX0_hasPage cX0_hasPage 2 (some .boolean), .methodLink RX0 68 yX0_copyPage, .instanceMethod yX0_copyPage, .selects RX0 yX0_copyPage yX0_copyPage, .code yX0_copyPage cX0_copyPage 5 none, .fieldLink RX0 13 "Migrator" "destinationWords" "[I", .fieldLink RX0 9 "Migrator" "sourceWords" "[I"] ++ wsX00)
def wsJ6_bitCount_0f7a4 : List Cond := .code yJ6_bitCount_0f7a4 cJ6_bitCount_0f7a4 1 (some .int) :: ([.constant RJ6 265 (1431655765), .constant RJ6 266 (858993459), .constant RJ6 267 (252645135)])
def wsX0_endRound : List Cond := .code yX0_endRound cX0_endRound 1 (some .int) :: ([.fieldLink RX0 41 "Migrator" "dirtyPages" "I", .fieldLink RX0 44 "Migrator" "waitingPages" "I", .fieldLink RX0 35 "Migrator" "dirtyThreshold" "I", .fieldLink RX0 32 "Migrator" "roundNow" "I", .fieldLink RX0 38 "Migrator" "roundLimit" "I", .fieldLink RX0 29 "Migrator" "phaseNow" "I", .methodLink RX0 72 yJ6_bitCount_0f7a4, .static yJ6_bitCount_0f7a4, .initialized RJ6, .code yJ6_bitCount_0f7a4 cJ6_bitCount_0f7a4 1 (some .int), .constant RJ6 265 (1431655765), .constant RJ6 266 (858993459), .constant RJ6 267 (252645135)] ++ wsX00)
def wsX0_copy_r1 : List Cond := [Cond.fieldLink RX0 29 "Migrator" "phaseNow" "I", Cond.fieldLink RX0 44 "Migrator" "waitingPages" "I", Cond.methodLink RX0 54 yX0_copyFirstWaiting, Cond.instanceMethod yX0_copyFirstWaiting, Cond.selects RX0 yX0_copyFirstWaiting yX0_copyFirstWaiting, Cond.initialized RX0, Cond.code yX0_copyFirstWaiting cX0_copyFirstWaiting 2 (some .int), Cond.methodLink RX0 64 yX0_hasPage, Cond.static yX0_hasPage, Cond.code yX0_hasPage cX0_hasPage 2 (some .boolean), Cond.methodLink RX0 68 yX0_copyPage, Cond.instanceMethod yX0_copyPage, Cond.selects RX0 yX0_copyPage yX0_copyPage, Cond.code yX0_copyPage cX0_copyPage 5 none, Cond.fieldLink RX0 13 "Migrator" "destinationWords" "[I", Cond.fieldLink RX0 9 "Migrator" "sourceWords" "[I", Cond.methodLink RX0 58 yX0_endRound, Cond.instanceMethod yX0_endRound, Cond.selects RX0 yX0_endRound yX0_endRound, Cond.code yX0_endRound cX0_endRound 1 (some .int), Cond.fieldLink RX0 41 "Migrator" "dirtyPages" "I", Cond.fieldLink RX0 35 "Migrator" "dirtyThreshold" "I", Cond.fieldLink RX0 32 "Migrator" "roundNow" "I", Cond.fieldLink RX0 38 "Migrator" "roundLimit" "I"]
def wsX0_copy_r2 : List Cond := [Cond.methodLink RX0 72 yJ6_bitCount_0f7a4, Cond.static yJ6_bitCount_0f7a4, Cond.initialized RJ6, Cond.code yJ6_bitCount_0f7a4 cJ6_bitCount_0f7a4 1 (some .int), Cond.constant RJ6 265 (1431655765), Cond.constant RJ6 266 (858993459), Cond.constant RJ6 267 (252645135)]
def wsX0_copy : List Cond := .code yX0_copy cX0_copy 1 (some .int) :: ((wsX0_copy_r1 ++ wsX0_copy_r2) ++ wsX00)
def wsX0_phase : List Cond := .code yX0_phase cX0_phase 1 (some .int) :: ([.fieldLink RX0 29 "Migrator" "phaseNow" "I"] ++ wsX00)
def wsX0_round : List Cond := .code yX0_round cX0_round 1 (some .int) :: ([.fieldLink RX0 32 "Migrator" "roundNow" "I"] ++ wsX00)
def wsX0_isPage : List Cond := .code yX0_isPage cX0_isPage 1 (some .boolean) :: ([])
def wsX0_dirty : List Cond := .code yX0_dirty cX0_dirty 2 (some .boolean) :: ([.fieldLink RX0 41 "Migrator" "dirtyPages" "I", .methodLink RX0 61 yX0_isPage, .static yX0_isPage, .initialized RX0, .code yX0_isPage cX0_isPage 1 (some .boolean), .methodLink RX0 64 yX0_hasPage, .static yX0_hasPage, .code yX0_hasPage cX0_hasPage 2 (some .boolean)] ++ wsX00)
def wsX0_waits : List Cond := .code yX0_waits cX0_waits 2 (some .boolean) :: ([.fieldLink RX0 44 "Migrator" "waitingPages" "I", .methodLink RX0 61 yX0_isPage, .static yX0_isPage, .initialized RX0, .code yX0_isPage cX0_isPage 1 (some .boolean), .methodLink RX0 64 yX0_hasPage, .static yX0_hasPage, .code yX0_hasPage cX0_hasPage 2 (some .boolean)] ++ wsX00)
def wsX0_source : List Cond := .code yX0_source cX0_source 2 (some .int) :: ([.fieldLink RX0 9 "Migrator" "sourceWords" "[I", .methodLink RX0 47 yX0_isAddress, .static yX0_isAddress, .initialized RX0, .code yX0_isAddress cX0_isAddress 1 (some .boolean)] ++ wsX00)
def wsX0_destination : List Cond := .code yX0_destination cX0_destination 2 (some .int) :: ([.fieldLink RX0 13 "Migrator" "destinationWords" "[I", .methodLink RX0 47 yX0_isAddress, .static yX0_isAddress, .initialized RX0, .code yX0_isAddress cX0_isAddress 1 (some .boolean)] ++ wsX00)
def wsX0_register : List Cond := .code yX0_register cX0_register 2 (some .int) :: ([.fieldLink RX0 16 "Migrator" "registers" "[I"] ++ wsX00)
def wsX0_pc : List Cond := .code yX0_pc cX0_pc 1 (some .int) :: ([.fieldLink RX0 22 "Migrator" "programCounter" "I"] ++ wsX00)
def wsX0_shows : List Cond := .code yX0_shows cX0_shows 1 (some .int) :: ([.fieldLink RX0 26 "Migrator" "showCount" "I"] ++ wsX00)
def wsX0_shown : List Cond := .code yX0_shown cX0_shown 2 (some .int) :: ([.fieldLink RX0 26 "Migrator" "showCount" "I", .fieldLink RX0 19 "Migrator" "keptShows" "[I"] ++ wsX00)
def wsX1_init : List Cond := .code yX1_init cX1_init 1 none :: ([.methodLink RX1 1 objectInit, .instanceMethod objectInit, .code objectInit ⟨#[0xb1]⟩ 1 none, .arrayClass .int, .fieldLink RX1 7 "MigratorModel" "real" "[I", .fieldLink RX1 13 "MigratorModel" "kept" "[I", .fieldLink RX1 16 "MigratorModel" "copied" "[I", .fieldLink RX1 19 "MigratorModel" "reg" "[I", .arrayClass .long, .fieldLink RX1 22 "MigratorModel" "written" "[J", .arrayClass .boolean, .fieldLink RX1 26 "MigratorModel" "want" "[Z", .fieldLink RX1 30 "MigratorModel" "left" "[Z", .fieldLink RX1 33 "MigratorModel" "told" "[I", .fieldLink RX1 36 "MigratorModel" "phase" "I"] ++ wsX10)
def wsX1_poke : List Cond := .code yX1_poke cX1_poke 3 (some .boolean) :: ([.fieldLink RX1 36 "MigratorModel" "phase" "I", .fieldLink RX1 7 "MigratorModel" "real" "[I"] ++ wsX10)
def wsX1_begin : List Cond := .code yX1_begin cX1_begin 4 (some .boolean) :: ([.fieldLink RX1 36 "MigratorModel" "phase" "I", .fieldLink RX1 40 "MigratorModel" "threshold" "I", .fieldLink RX1 43 "MigratorModel" "limit" "I", .fieldLink RX1 46 "MigratorModel" "round" "I", .fieldLink RX1 49 "MigratorModel" "time" "J", .fieldLink RX1 53 "MigratorModel" "since" "J", .fieldLink RX1 26 "MigratorModel" "want" "[Z"] ++ wsX10)
def wsX1_step : List Cond := .code yX1_step cX1_step 8 none :: ([.fieldLink RX1 7 "MigratorModel" "real" "[I", .fieldLink RX1 56 "MigratorModel" "pc" "I", .fieldLink RX1 19 "MigratorModel" "reg" "[I", .fieldLink RX1 49 "MigratorModel" "time" "J", .fieldLink RX1 22 "MigratorModel" "written" "[J", .fieldLink RX1 33 "MigratorModel" "told" "[I", .fieldLink RX1 59 "MigratorModel" "shows" "I"] ++ wsX10)
def wsX1_run : List Cond := .code yX1_run cX1_run 3 (some .int) :: ([.fieldLink RX1 36 "MigratorModel" "phase" "I", .methodLink RX1 62 yX1_step, .instanceMethod yX1_step, .selects RX1 yX1_step yX1_step, .initialized RX1, .code yX1_step cX1_step 8 none, .fieldLink RX1 7 "MigratorModel" "real" "[I", .fieldLink RX1 56 "MigratorModel" "pc" "I", .fieldLink RX1 19 "MigratorModel" "reg" "[I", .fieldLink RX1 49 "MigratorModel" "time" "J", .fieldLink RX1 22 "MigratorModel" "written" "[J", .fieldLink RX1 33 "MigratorModel" "told" "[I", .fieldLink RX1 59 "MigratorModel" "shows" "I"] ++ wsX10)
def wsX1_dirty : List Cond := .code yX1_dirty cX1_dirty 2 (some .boolean) :: ([.fieldLink RX1 36 "MigratorModel" "phase" "I", .fieldLink RX1 22 "MigratorModel" "written" "[J", .fieldLink RX1 53 "MigratorModel" "since" "J", .fieldLink RX1 30 "MigratorModel" "left" "[Z"] ++ wsX10)
def wsX1_copy : List Cond := .code yX1_copy cX1_copy 3 (some .int) :: ([.fieldLink RX1 36 "MigratorModel" "phase" "I", .fieldLink RX1 26 "MigratorModel" "want" "[Z", .fieldLink RX1 16 "MigratorModel" "copied" "[I", .fieldLink RX1 7 "MigratorModel" "real" "[I", .fieldLink RX1 13 "MigratorModel" "kept" "[I", .fieldLink RX1 30 "MigratorModel" "left" "[Z", .fieldLink RX1 40 "MigratorModel" "threshold" "I", .fieldLink RX1 46 "MigratorModel" "round" "I", .fieldLink RX1 43 "MigratorModel" "limit" "I", .fieldLink RX1 49 "MigratorModel" "time" "J", .fieldLink RX1 53 "MigratorModel" "since" "J", .methodLink RX1 65 yX1_dirty, .instanceMethod yX1_dirty, .selects RX1 yX1_dirty yX1_dirty, .initialized RX1, .code yX1_dirty cX1_dirty 2 (some .boolean), .fieldLink RX1 22 "MigratorModel" "written" "[J"] ++ wsX10)
def wsX1_phase : List Cond := .code yX1_phase cX1_phase 1 (some .int) :: ([.fieldLink RX1 36 "MigratorModel" "phase" "I"] ++ wsX10)
def wsX1_round : List Cond := .code yX1_round cX1_round 1 (some .int) :: ([.fieldLink RX1 46 "MigratorModel" "round" "I"] ++ wsX10)
def wsX1_waits : List Cond := .code yX1_waits cX1_waits 2 (some .boolean) :: ([.fieldLink RX1 26 "MigratorModel" "want" "[Z"] ++ wsX10)
def wsX1_source : List Cond := .code yX1_source cX1_source 2 (some .int) :: ([.fieldLink RX1 36 "MigratorModel" "phase" "I", .fieldLink RX1 13 "MigratorModel" "kept" "[I", .fieldLink RX1 7 "MigratorModel" "real" "[I"] ++ wsX10)
def wsX1_destination : List Cond := .code yX1_destination cX1_destination 2 (some .int) :: ([.fieldLink RX1 36 "MigratorModel" "phase" "I", .fieldLink RX1 7 "MigratorModel" "real" "[I", .fieldLink RX1 16 "MigratorModel" "copied" "[I"] ++ wsX10)
def wsX1_register : List Cond := .code yX1_register cX1_register 2 (some .int) :: ([.fieldLink RX1 19 "MigratorModel" "reg" "[I"] ++ wsX10)
def wsX1_pc : List Cond := .code yX1_pc cX1_pc 1 (some .int) :: ([.fieldLink RX1 56 "MigratorModel" "pc" "I"] ++ wsX10)
def wsX1_shows : List Cond := .code yX1_shows cX1_shows 1 (some .int) :: ([.fieldLink RX1 59 "MigratorModel" "shows" "I"] ++ wsX10)
def wsX1_shown : List Cond := .code yX1_shown cX1_shown 2 (some .int) :: ([.fieldLink RX1 59 "MigratorModel" "shows" "I", .fieldLink RX1 33 "MigratorModel" "told" "[I"] ++ wsX10)
def wsL_law_r1 : List Cond := [Cond.classLink RL 7 RX0, Cond.instantiable RX0 12, Cond.initialized RX0, Cond.classLink RL 10 RX1, Cond.instantiable RX1 16, Cond.initialized RX1, Cond.methodLink RL 9 yX0_init, Cond.instanceMethod yX0_init, Cond.code yX0_init cX0_init 1 none, Cond.methodLink RX0 1 objectInit, Cond.instanceMethod objectInit, Cond.code objectInit ⟨#[0xb1]⟩ 1 none, Cond.arrayClass .int, Cond.fieldLink RX0 9 "Migrator" "sourceWords" "[I", Cond.fieldLink RX0 13 "Migrator" "destinationWords" "[I", Cond.fieldLink RX0 16 "Migrator" "registers" "[I", Cond.fieldLink RX0 19 "Migrator" "keptShows" "[I", Cond.fieldLink RX0 22 "Migrator" "programCounter" "I", Cond.fieldLink RX0 26 "Migrator" "showCount" "I", Cond.fieldLink RX0 29 "Migrator" "phaseNow" "I", Cond.fieldLink RX0 32 "Migrator" "roundNow" "I", Cond.fieldLink RX0 35 "Migrator" "dirtyThreshold" "I", Cond.fieldLink RX0 38 "Migrator" "roundLimit" "I", Cond.fieldLink RX0 41 "Migrator" "dirtyPages" "I"]
def wsL_law_r2 : List Cond := [Cond.fieldLink RX0 44 "Migrator" "waitingPages" "I", Cond.methodLink RL 12 yX1_init, Cond.instanceMethod yX1_init, Cond.code yX1_init cX1_init 1 none, Cond.methodLink RX1 1 objectInit, Cond.fieldLink RX1 7 "MigratorModel" "real" "[I", Cond.fieldLink RX1 13 "MigratorModel" "kept" "[I", Cond.fieldLink RX1 16 "MigratorModel" "copied" "[I", Cond.fieldLink RX1 19 "MigratorModel" "reg" "[I", Cond.arrayClass .long, Cond.fieldLink RX1 22 "MigratorModel" "written" "[J", Cond.arrayClass .boolean, Cond.fieldLink RX1 26 "MigratorModel" "want" "[Z", Cond.fieldLink RX1 30 "MigratorModel" "left" "[Z", Cond.fieldLink RX1 33 "MigratorModel" "told" "[I", Cond.fieldLink RX1 36 "MigratorModel" "phase" "I", Cond.methodLink RL 13 yX0_poke, Cond.instanceMethod yX0_poke, Cond.selects RX0 yX0_poke yX0_poke, Cond.code yX0_poke cX0_poke 3 (some .boolean), Cond.methodLink RX0 47 yX0_isAddress, Cond.static yX0_isAddress, Cond.code yX0_isAddress cX0_isAddress 1 (some .boolean), Cond.methodLink RL 17 yX1_poke]
def wsL_law_r3 : List Cond := [Cond.instanceMethod yX1_poke, Cond.selects RX1 yX1_poke yX1_poke, Cond.code yX1_poke cX1_poke 3 (some .boolean), Cond.methodLink RL 18 yX0_begin, Cond.instanceMethod yX0_begin, Cond.selects RX0 yX0_begin yX0_begin, Cond.code yX0_begin cX0_begin 3 (some .boolean), Cond.methodLink RL 21 yX1_begin, Cond.instanceMethod yX1_begin, Cond.selects RX1 yX1_begin yX1_begin, Cond.code yX1_begin cX1_begin 4 (some .boolean), Cond.fieldLink RX1 40 "MigratorModel" "threshold" "I", Cond.fieldLink RX1 43 "MigratorModel" "limit" "I", Cond.fieldLink RX1 46 "MigratorModel" "round" "I", Cond.fieldLink RX1 49 "MigratorModel" "time" "J", Cond.fieldLink RX1 53 "MigratorModel" "since" "J", Cond.methodLink RL 22 yX0_run, Cond.instanceMethod yX0_run, Cond.selects RX0 yX0_run yX0_run, Cond.code yX0_run cX0_run 3 (some .int), Cond.methodLink RX0 51 yX0_guestStep, Cond.instanceMethod yX0_guestStep, Cond.selects RX0 yX0_guestStep yX0_guestStep, Cond.code yX0_guestStep cX0_guestStep 6 none]
def wsL_law_r4 : List Cond := [Cond.methodLink RX0 78 yX0_readWord, Cond.instanceMethod yX0_readWord, Cond.selects RX0 yX0_readWord yX0_readWord, Cond.code yX0_readWord cX0_readWord 3 (some .int), Cond.methodLink RX0 81 yX0_writeWord, Cond.instanceMethod yX0_writeWord, Cond.selects RX0 yX0_writeWord yX0_writeWord, Cond.code yX0_writeWord cX0_writeWord 4 none, Cond.methodLink RX0 85 yX0_show, Cond.instanceMethod yX0_show, Cond.selects RX0 yX0_show yX0_show, Cond.code yX0_show cX0_show 2 none, Cond.methodLink RL 26 yX1_run, Cond.instanceMethod yX1_run, Cond.selects RX1 yX1_run yX1_run, Cond.code yX1_run cX1_run 3 (some .int), Cond.methodLink RX1 62 yX1_step, Cond.instanceMethod yX1_step, Cond.selects RX1 yX1_step yX1_step, Cond.code yX1_step cX1_step 8 none, Cond.fieldLink RX1 56 "MigratorModel" "pc" "I", Cond.fieldLink RX1 59 "MigratorModel" "shows" "I", Cond.methodLink RL 27 yX0_copy, Cond.instanceMethod yX0_copy]
def wsL_law_r5 : List Cond := [Cond.selects RX0 yX0_copy yX0_copy, Cond.code yX0_copy cX0_copy 1 (some .int), Cond.methodLink RX0 54 yX0_copyFirstWaiting, Cond.instanceMethod yX0_copyFirstWaiting, Cond.selects RX0 yX0_copyFirstWaiting yX0_copyFirstWaiting, Cond.code yX0_copyFirstWaiting cX0_copyFirstWaiting 2 (some .int), Cond.methodLink RX0 64 yX0_hasPage, Cond.static yX0_hasPage, Cond.code yX0_hasPage cX0_hasPage 2 (some .boolean), Cond.methodLink RX0 68 yX0_copyPage, Cond.instanceMethod yX0_copyPage, Cond.selects RX0 yX0_copyPage yX0_copyPage, Cond.code yX0_copyPage cX0_copyPage 5 none, Cond.methodLink RX0 58 yX0_endRound, Cond.instanceMethod yX0_endRound, Cond.selects RX0 yX0_endRound yX0_endRound, Cond.code yX0_endRound cX0_endRound 1 (some .int), Cond.methodLink RX0 72 yJ6_bitCount_0f7a4, Cond.static yJ6_bitCount_0f7a4, Cond.initialized RJ6, Cond.code yJ6_bitCount_0f7a4 cJ6_bitCount_0f7a4 1 (some .int), Cond.constant RJ6 265 (1431655765), Cond.constant RJ6 266 (858993459), Cond.constant RJ6 267 (252645135)]
def wsL_law_r6 : List Cond := [Cond.methodLink RL 31 yX1_copy, Cond.instanceMethod yX1_copy, Cond.selects RX1 yX1_copy yX1_copy, Cond.code yX1_copy cX1_copy 3 (some .int), Cond.methodLink RX1 65 yX1_dirty, Cond.instanceMethod yX1_dirty, Cond.selects RX1 yX1_dirty yX1_dirty, Cond.code yX1_dirty cX1_dirty 2 (some .boolean), Cond.methodLink RL 32 yX0_phase, Cond.instanceMethod yX0_phase, Cond.selects RX0 yX0_phase yX0_phase, Cond.code yX0_phase cX0_phase 1 (some .int), Cond.methodLink RL 35 yX1_phase, Cond.instanceMethod yX1_phase, Cond.selects RX1 yX1_phase yX1_phase, Cond.code yX1_phase cX1_phase 1 (some .int), Cond.methodLink RL 36 yX0_round, Cond.instanceMethod yX0_round, Cond.selects RX0 yX0_round yX0_round, Cond.code yX0_round cX0_round 1 (some .int), Cond.methodLink RL 39 yX1_round, Cond.instanceMethod yX1_round, Cond.selects RX1 yX1_round yX1_round, Cond.code yX1_round cX1_round 1 (some .int)]
def wsL_law_r7 : List Cond := [Cond.methodLink RL 40 yX0_dirty, Cond.instanceMethod yX0_dirty, Cond.selects RX0 yX0_dirty yX0_dirty, Cond.code yX0_dirty cX0_dirty 2 (some .boolean), Cond.methodLink RX0 61 yX0_isPage, Cond.static yX0_isPage, Cond.code yX0_isPage cX0_isPage 1 (some .boolean), Cond.methodLink RL 44 yX1_dirty, Cond.methodLink RL 45 yX0_waits, Cond.instanceMethod yX0_waits, Cond.selects RX0 yX0_waits yX0_waits, Cond.code yX0_waits cX0_waits 2 (some .boolean), Cond.methodLink RL 48 yX1_waits, Cond.instanceMethod yX1_waits, Cond.selects RX1 yX1_waits yX1_waits, Cond.code yX1_waits cX1_waits 2 (some .boolean), Cond.methodLink RL 49 yX0_source, Cond.instanceMethod yX0_source, Cond.selects RX0 yX0_source yX0_source, Cond.code yX0_source cX0_source 2 (some .int), Cond.methodLink RL 52 yX1_source, Cond.instanceMethod yX1_source, Cond.selects RX1 yX1_source yX1_source, Cond.code yX1_source cX1_source 2 (some .int)]
def wsL_law_r8 : List Cond := [Cond.methodLink RL 53 yX0_destination, Cond.instanceMethod yX0_destination, Cond.selects RX0 yX0_destination yX0_destination, Cond.code yX0_destination cX0_destination 2 (some .int), Cond.methodLink RL 56 yX1_destination, Cond.instanceMethod yX1_destination, Cond.selects RX1 yX1_destination yX1_destination, Cond.code yX1_destination cX1_destination 2 (some .int), Cond.methodLink RL 57 yX0_register, Cond.instanceMethod yX0_register, Cond.selects RX0 yX0_register yX0_register, Cond.code yX0_register cX0_register 2 (some .int), Cond.methodLink RL 60 yX1_register, Cond.instanceMethod yX1_register, Cond.selects RX1 yX1_register yX1_register, Cond.code yX1_register cX1_register 2 (some .int), Cond.methodLink RL 61 yX0_pc, Cond.instanceMethod yX0_pc, Cond.selects RX0 yX0_pc yX0_pc, Cond.code yX0_pc cX0_pc 1 (some .int), Cond.methodLink RL 64 yX1_pc, Cond.instanceMethod yX1_pc, Cond.selects RX1 yX1_pc yX1_pc, Cond.code yX1_pc cX1_pc 1 (some .int)]
def wsL_law_r9 : List Cond := [Cond.methodLink RL 65 yX0_shows, Cond.instanceMethod yX0_shows, Cond.selects RX0 yX0_shows yX0_shows, Cond.code yX0_shows cX0_shows 1 (some .int), Cond.methodLink RL 68 yX1_shows, Cond.instanceMethod yX1_shows, Cond.selects RX1 yX1_shows yX1_shows, Cond.code yX1_shows cX1_shows 1 (some .int), Cond.methodLink RL 69 yX0_shown, Cond.instanceMethod yX0_shown, Cond.selects RX0 yX0_shown yX0_shown, Cond.code yX0_shown cX0_shown 2 (some .int), Cond.methodLink RL 72 yX1_shown, Cond.instanceMethod yX1_shown, Cond.selects RX1 yX1_shown yX1_shown, Cond.code yX1_shown cX1_shown 2 (some .int)]
def wsL_law : List Cond := (wsL_law_r1 ++ (wsL_law_r2 ++ (wsL_law_r3 ++ (wsL_law_r4 ++ (wsL_law_r5 ++ (wsL_law_r6 ++ (wsL_law_r7 ++ (wsL_law_r8 ++ wsL_law_r9)))))))) ++ wsX00 ++ wsX10 ++ ([] : List Cond)
set_option maxRecDepth 20000 in
theorem wsL_law_in : ∀ w ∈ wsL_law, w ∈ lw_tbl := fun w h => (goodIn_p wsL_law [16, 19, 161, 61, 64, 217, 68, 221, 72, 76, 80, 84, 88, 225, 229, 92, 96, 99, 103, 107, 110, 233, 237, 117, 241, 121, 245, 125, 128, 132, 250, 136, 254, 140, 258, 144, 262, 148, 266, 152, 270, 156, 274] (by decide +kernel) (by decide +kernel) w h).1
theorem inlX0 : ∀ w ∈ wsX00, w ∈ wsL_law := fun _ h => List.mem_append_left _ (List.mem_append_left _ (List.mem_append_right _ h))
theorem inX0 : ∀ w ∈ wsX00, w ∈ lw_tbl := fun w h => wsL_law_in w (inlX0 w h)
theorem inlX1 : ∀ w ∈ wsX10, w ∈ wsL_law := fun _ h => List.mem_append_left _ (List.mem_append_right _ h)
theorem inX1 : ∀ w ∈ wsX10, w ∈ lw_tbl := fun w h => wsL_law_in w (inlX1 w h)
theorem inJ6 : ∀ w ∈ wsJ60, w ∈ lw_tbl := by decide +kernel
