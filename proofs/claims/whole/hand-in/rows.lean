section
-- ===== PART A: goes FIRST, ahead of the names: the tables' words, and 'selects' of the private methods out of them =====
/-- a private method of a class that the tables say can be made, by its rows of tables_1 -/
def lw_okq (q : MethodName × Nat) : Prop := (q.1.cls ≠ "java/lang/invoke/MethodHandle" ∧ q.1.cls ≠ "java/lang/invoke/VarHandle") ∧ Cond.instantiable q.1.cls q.2 ∈ tables_1 ∧ Cond.privateMethod q.1 ∈ tables_1 ∧ Cond.instanceMethod q.1 ∈ tables_1
theorem lw_p0 : lw_okq (⟨"Migrator", "guestStep", "()V"⟩, 12) := ⟨⟨by decide +kernel, by decide +kernel⟩, List.mem_of_getElem? (i := 5) (by decide +kernel), List.mem_of_getElem? (i := 66) (by decide +kernel), List.mem_of_getElem? (i := 67) (by decide +kernel)⟩
theorem lw_p1 : lw_okq (⟨"Migrator", "readWord", "(I)I"⟩, 12) := ⟨⟨by decide +kernel, by decide +kernel⟩, List.mem_of_getElem? (i := 5) (by decide +kernel), List.mem_of_getElem? (i := 70) (by decide +kernel), List.mem_of_getElem? (i := 71) (by decide +kernel)⟩
theorem lw_p2 : lw_okq (⟨"Migrator", "writeWord", "(II)V"⟩, 12) := ⟨⟨by decide +kernel, by decide +kernel⟩, List.mem_of_getElem? (i := 5) (by decide +kernel), List.mem_of_getElem? (i := 74) (by decide +kernel), List.mem_of_getElem? (i := 75) (by decide +kernel)⟩
theorem lw_p3 : lw_okq (⟨"Migrator", "show", "(I)V"⟩, 12) := ⟨⟨by decide +kernel, by decide +kernel⟩, List.mem_of_getElem? (i := 5) (by decide +kernel), List.mem_of_getElem? (i := 78) (by decide +kernel), List.mem_of_getElem? (i := 79) (by decide +kernel)⟩
theorem lw_p4 : lw_okq (⟨"Migrator", "copyFirstWaiting", "()I"⟩, 12) := ⟨⟨by decide +kernel, by decide +kernel⟩, List.mem_of_getElem? (i := 5) (by decide +kernel), List.mem_of_getElem? (i := 86) (by decide +kernel), List.mem_of_getElem? (i := 87) (by decide +kernel)⟩
theorem lw_p5 : lw_okq (⟨"Migrator", "copyPage", "(I)V"⟩, 12) := ⟨⟨by decide +kernel, by decide +kernel⟩, List.mem_of_getElem? (i := 5) (by decide +kernel), List.mem_of_getElem? (i := 93) (by decide +kernel), List.mem_of_getElem? (i := 94) (by decide +kernel)⟩
theorem lw_p6 : lw_okq (⟨"Migrator", "endRound", "()I"⟩, 12) := ⟨⟨by decide +kernel, by decide +kernel⟩, List.mem_of_getElem? (i := 5) (by decide +kernel), List.mem_of_getElem? (i := 97) (by decide +kernel), List.mem_of_getElem? (i := 98) (by decide +kernel)⟩
theorem lw_p7 : lw_okq (⟨"MigratorModel", "step", "()V"⟩, 16) := ⟨⟨by decide +kernel, by decide +kernel⟩, List.mem_of_getElem? (i := 150) (by decide +kernel), List.mem_of_getElem? (i := 219) (by decide +kernel), List.mem_of_getElem? (i := 220) (by decide +kernel)⟩
def lw_privs_1 : List (MethodName × Nat) := [(⟨"Migrator", "guestStep", "()V"⟩, 12), (⟨"Migrator", "readWord", "(I)I"⟩, 12), (⟨"Migrator", "writeWord", "(II)V"⟩, 12), (⟨"Migrator", "show", "(I)V"⟩, 12), (⟨"Migrator", "copyFirstWaiting", "()I"⟩, 12), (⟨"Migrator", "copyPage", "(I)V"⟩, 12), (⟨"Migrator", "endRound", "()I"⟩, 12), (⟨"MigratorModel", "step", "()V"⟩, 16)]
theorem lw_r1 : ∀ q ∈ lw_privs_1, lw_okq q := List.forall_mem_cons.mpr ⟨lw_p0, List.forall_mem_cons.mpr ⟨lw_p1, List.forall_mem_cons.mpr ⟨lw_p2, List.forall_mem_cons.mpr ⟨lw_p3, List.forall_mem_cons.mpr ⟨lw_p4, List.forall_mem_cons.mpr ⟨lw_p5, List.forall_mem_cons.mpr ⟨lw_p6, List.forall_mem_cons.mpr ⟨lw_p7, fun _ h => absurd h List.not_mem_nil⟩⟩⟩⟩⟩⟩⟩⟩
def lw_privs : List (MethodName × Nat) := lw_privs_1
def lw_tbl : List Cond := k2_sels lw_privs ++ tables_1
theorem lw_privs_ok : ∀ q ∈ lw_privs, lw_okq q := lw_r1
-- ===== end of PART A; then your names; then what follows =====
end
section
/-! ===== BEGIN words of one list among another's, by their places ===== -/
theorem goodIn_r {big : List Cond} (ws : List Cond) (ps : List Nat) (hp : ws = ps.filterMap (fun i => big[i]?)) (h : ws.all goodWord = true) : GoodIn big ws := by
  intro w hw
  have h1 := List.all_eq_true.mp h w hw
  rw [hp] at hw
  obtain ⟨i, -, hi⟩ := List.mem_filterMap.mp hw
  have hm : w ∈ big := by first | exact List.mem_of_getElem? hi | exact List.getElem?_mem hi
  exact ⟨hm, good_of_word h1⟩
theorem goodIn_app {big a b : List Cond} (ha : GoodIn big a) (hb : GoodIn big b) : GoodIn big (a ++ b) := fun w h => (List.mem_append.mp h).elim (ha w) (hb w)
theorem goodIn_ca {big a b : List Cond} {c : Cond} (ha : GoodIn big (c :: a)) (hb : GoodIn big b) : GoodIn big (c :: (a ++ b)) := fun w h => (List.mem_cons.mp h).elim (fun e => ha w (List.mem_cons.mpr (Or.inl e))) (fun h => (List.mem_append.mp h).elim (fun h => ha w (List.mem_cons.mpr (Or.inr h))) (hb w))
theorem goodIn_sub {big ws : List Cond} (hm : ∀ w ∈ ws, w ∈ big) (h : ws.all goodWord = true) : GoodIn big ws := fun w hw => ⟨hm w hw, good_of_word (List.all_eq_true.mp h w hw)⟩
/-! ===== END ===== -/

/-! ===== BEGIN printed: names, fields, word lists, decode rows ===== -/
def RX0 : String := "Migrator"
def TX0 : u_T := fun k => match k with
  | 0 => ("Migrator", "sourceWords", "[I", true)
  | 1 => ("Migrator", "destinationWords", "[I", true)
  | 2 => ("Migrator", "registers", "[I", true)
  | 3 => ("Migrator", "keptShows", "[I", true)
  | 4 => ("Migrator", "programCounter", "I", false)
  | 5 => ("Migrator", "showCount", "I", false)
  | 6 => ("Migrator", "phaseNow", "I", false)
  | 7 => ("Migrator", "roundNow", "I", false)
  | 8 => ("Migrator", "dirtyThreshold", "I", false)
  | 9 => ("Migrator", "roundLimit", "I", false)
  | 10 => ("Migrator", "dirtyPages", "I", false)
  | _ => ("Migrator", "waitingPages", "I", false)
def tyX0 : Nat → FieldType := fun k => match k with
  | 0 => .array .int
  | 1 => .array .int
  | 2 => .array .int
  | 3 => .array .int
  | 4 => .int
  | 5 => .int
  | 6 => .int
  | 7 => .int
  | 8 => .int
  | 9 => .int
  | 10 => .int
  | _ => .int
abbrev wsX00 : List Cond := u_ws RX0 TX0 12
theorem nmX0 : ∀ a, a < 12 → ∀ b, b < 12 → a ≠ b → (TX0 a).2.1 ≠ (TX0 b).2.1 := by decide +kernel
theorem tyX0_ok : ∀ k, k < 12 → parseFieldDescriptor (TX0 k).2.2.1 = some (tyX0 k) := by decide +kernel
abbrev cX0_init : ByteArray := prog_1_method_1_code
def yX0_init : MethodName := ⟨RX0, "<init>", "()V"⟩
abbrev cX0_poke : ByteArray := prog_1_method_2_code
def yX0_poke : MethodName := ⟨RX0, "poke", "(II)Z"⟩
abbrev cX0_begin : ByteArray := prog_1_method_3_code
def yX0_begin : MethodName := ⟨RX0, "begin", "(II)Z"⟩
abbrev cX0_run : ByteArray := prog_1_method_4_code
def yX0_run : MethodName := ⟨RX0, "run", "(I)I"⟩
abbrev cX0_copy : ByteArray := prog_1_method_5_code
def yX0_copy : MethodName := ⟨RX0, "copy", "()I"⟩
abbrev cX0_phase : ByteArray := prog_1_method_6_code
def yX0_phase : MethodName := ⟨RX0, "phase", "()I"⟩
abbrev cX0_round : ByteArray := prog_1_method_7_code
def yX0_round : MethodName := ⟨RX0, "round", "()I"⟩
abbrev cX0_dirty : ByteArray := prog_1_method_8_code
def yX0_dirty : MethodName := ⟨RX0, "dirty", "(I)Z"⟩
abbrev cX0_waits : ByteArray := prog_1_method_9_code
def yX0_waits : MethodName := ⟨RX0, "waits", "(I)Z"⟩
abbrev cX0_source : ByteArray := prog_1_method_10_code
def yX0_source : MethodName := ⟨RX0, "source", "(I)I"⟩
abbrev cX0_destination : ByteArray := prog_1_method_11_code
def yX0_destination : MethodName := ⟨RX0, "destination", "(I)I"⟩
abbrev cX0_register : ByteArray := prog_1_method_12_code
def yX0_register : MethodName := ⟨RX0, "register", "(I)I"⟩
abbrev cX0_pc : ByteArray := prog_1_method_13_code
def yX0_pc : MethodName := ⟨RX0, "pc", "()I"⟩
abbrev cX0_shows : ByteArray := prog_1_method_14_code
def yX0_shows : MethodName := ⟨RX0, "shows", "()I"⟩
abbrev cX0_shown : ByteArray := prog_1_method_15_code
def yX0_shown : MethodName := ⟨RX0, "shown", "(I)I"⟩
abbrev cX0_isAddress : ByteArray := prog_1_method_16_code
def yX0_isAddress : MethodName := ⟨RX0, "isAddress", "(I)Z"⟩
abbrev cX0_isPage : ByteArray := prog_1_method_17_code
def yX0_isPage : MethodName := ⟨RX0, "isPage", "(I)Z"⟩
abbrev cX0_hasPage : ByteArray := prog_1_method_18_code
def yX0_hasPage : MethodName := ⟨RX0, "hasPage", "(II)Z"⟩
abbrev cX0_copyFirstWaiting : ByteArray := prog_1_method_19_code
def yX0_copyFirstWaiting : MethodName := ⟨RX0, "copyFirstWaiting", "()I"⟩
abbrev cX0_copyPage : ByteArray := prog_1_method_20_code
def yX0_copyPage : MethodName := ⟨RX0, "copyPage", "(I)V"⟩
abbrev cX0_endRound : ByteArray := prog_1_method_21_code
def yX0_endRound : MethodName := ⟨RX0, "endRound", "()I"⟩
abbrev cX0_guestStep : ByteArray := prog_1_method_22_code
def yX0_guestStep : MethodName := ⟨RX0, "guestStep", "()V"⟩
abbrev cX0_readWord : ByteArray := prog_1_method_23_code
def yX0_readWord : MethodName := ⟨RX0, "readWord", "(I)I"⟩
abbrev cX0_writeWord : ByteArray := prog_1_method_24_code
def yX0_writeWord : MethodName := ⟨RX0, "writeWord", "(II)V"⟩
abbrev cX0_show : ByteArray := prog_1_method_25_code
def yX0_show : MethodName := ⟨RX0, "show", "(I)V"⟩
def RX1 : String := "MigratorModel"
def TX1 : u_T := fun k => match k with
  | 0 => ("MigratorModel", "real", "[I", true)
  | 1 => ("MigratorModel", "kept", "[I", true)
  | 2 => ("MigratorModel", "copied", "[I", true)
  | 3 => ("MigratorModel", "reg", "[I", true)
  | 4 => ("MigratorModel", "written", "[J", true)
  | 5 => ("MigratorModel", "want", "[Z", true)
  | 6 => ("MigratorModel", "left", "[Z", true)
  | 7 => ("MigratorModel", "told", "[I", true)
  | 8 => ("MigratorModel", "pc", "I", false)
  | 9 => ("MigratorModel", "phase", "I", false)
  | 10 => ("MigratorModel", "round", "I", false)
  | 11 => ("MigratorModel", "threshold", "I", false)
  | 12 => ("MigratorModel", "limit", "I", false)
  | 13 => ("MigratorModel", "shows", "I", false)
  | 14 => ("MigratorModel", "time", "J", false)
  | _ => ("MigratorModel", "since", "J", false)
def tyX1 : Nat → FieldType := fun k => match k with
  | 0 => .array .int
  | 1 => .array .int
  | 2 => .array .int
  | 3 => .array .int
  | 4 => .array .long
  | 5 => .array .boolean
  | 6 => .array .boolean
  | 7 => .array .int
  | 8 => .int
  | 9 => .int
  | 10 => .int
  | 11 => .int
  | 12 => .int
  | 13 => .int
  | 14 => .long
  | _ => .long
abbrev wsX10 : List Cond := u_ws RX1 TX1 16
theorem nmX1 : ∀ a, a < 16 → ∀ b, b < 16 → a ≠ b → (TX1 a).2.1 ≠ (TX1 b).2.1 := by decide +kernel
theorem tyX1_ok : ∀ k, k < 16 → parseFieldDescriptor (TX1 k).2.2.1 = some (tyX1 k) := by decide +kernel
abbrev cX1_init : ByteArray := prog_3_method_1_code
def yX1_init : MethodName := ⟨RX1, "<init>", "()V"⟩
abbrev cX1_poke : ByteArray := prog_3_method_2_code
def yX1_poke : MethodName := ⟨RX1, "poke", "(II)Z"⟩
abbrev cX1_begin : ByteArray := prog_3_method_3_code
def yX1_begin : MethodName := ⟨RX1, "begin", "(II)Z"⟩
abbrev cX1_step : ByteArray := prog_3_method_4_code
def yX1_step : MethodName := ⟨RX1, "step", "()V"⟩
abbrev cX1_run : ByteArray := prog_3_method_5_code
def yX1_run : MethodName := ⟨RX1, "run", "(I)I"⟩
abbrev cX1_copy : ByteArray := prog_3_method_6_code
def yX1_copy : MethodName := ⟨RX1, "copy", "()I"⟩
abbrev cX1_phase : ByteArray := prog_3_method_7_code
def yX1_phase : MethodName := ⟨RX1, "phase", "()I"⟩
abbrev cX1_round : ByteArray := prog_3_method_8_code
def yX1_round : MethodName := ⟨RX1, "round", "()I"⟩
abbrev cX1_dirty : ByteArray := prog_3_method_9_code
def yX1_dirty : MethodName := ⟨RX1, "dirty", "(I)Z"⟩
abbrev cX1_waits : ByteArray := prog_3_method_10_code
def yX1_waits : MethodName := ⟨RX1, "waits", "(I)Z"⟩
abbrev cX1_source : ByteArray := prog_3_method_11_code
def yX1_source : MethodName := ⟨RX1, "source", "(I)I"⟩
abbrev cX1_destination : ByteArray := prog_3_method_12_code
def yX1_destination : MethodName := ⟨RX1, "destination", "(I)I"⟩
abbrev cX1_register : ByteArray := prog_3_method_13_code
def yX1_register : MethodName := ⟨RX1, "register", "(I)I"⟩
abbrev cX1_pc : ByteArray := prog_3_method_14_code
def yX1_pc : MethodName := ⟨RX1, "pc", "()I"⟩
abbrev cX1_shows : ByteArray := prog_3_method_15_code
def yX1_shows : MethodName := ⟨RX1, "shows", "()I"⟩
abbrev cX1_shown : ByteArray := prog_3_method_16_code
def yX1_shown : MethodName := ⟨RX1, "shown", "(I)I"⟩
def RJ6 : String := "java/lang/Integer"
def TJ6 : u_T := fun k => match k with
  | _ => ("", "", "", false)
def tyJ6 : Nat → FieldType := fun k => match k with
  | _ => .int
abbrev wsJ60 : List Cond := u_ws RJ6 TJ6 0
theorem nmJ6 : ∀ a, a < 0 → ∀ b, b < 0 → a ≠ b → (TJ6 a).2.1 ≠ (TJ6 b).2.1 := by decide +kernel
theorem tyJ6_ok : ∀ k, k < 0 → parseFieldDescriptor (TJ6 k).2.2.1 = some (tyJ6 k) := by decide +kernel
abbrev cJ6_bitCount_0f7a4 : ByteArray := prog_4_method_49_code
def yJ6_bitCount_0f7a4 : MethodName := ⟨RJ6, "bitCount", "(I)I"⟩
def RL : String := "MigratorLaw"
abbrev cL_law : ByteArray := code
def yL_law : MethodName := ⟨RL, "law", "([I)Z"⟩
def wsX0_init : List Cond := .code yX0_init cX0_init 1 none :: ([.methodLink RX0 1 objectInit, .instanceMethod objectInit, .code objectInit ⟨#[0xb1]⟩ 1 none, .arrayClass .int, .fieldLink RX0 9 "Migrator" "sourceWords" "[I", .fieldLink RX0 13 "Migrator" "destinationWords" "[I", .fieldLink RX0 16 "Migrator" "registers" "[I", .fieldLink RX0 19 "Migrator" "keptShows" "[I", .fieldLink RX0 22 "Migrator" "programCounter" "I", .fieldLink RX0 26 "Migrator" "showCount" "I", .fieldLink RX0 29 "Migrator" "phaseNow" "I", .fieldLink RX0 32 "Migrator" "roundNow" "I", .fieldLink RX0 35 "Migrator" "dirtyThreshold" "I", .fieldLink RX0 38 "Migrator" "roundLimit" "I", .fieldLink RX0 41 "Migrator" "dirtyPages" "I", .fieldLink RX0 44 "Migrator" "waitingPages" "I"] ++ wsX00)
def wsX0_isAddress : List Cond := .code yX0_isAddress cX0_isAddress 1 (some .boolean) :: ([])
def wsX0_poke : List Cond := .code yX0_poke cX0_poke 3 (some .boolean) :: ([.fieldLink RX0 29 "Migrator" "phaseNow" "I", .fieldLink RX0 9 "Migrator" "sourceWords" "[I", .methodLink RX0 47 yX0_isAddress, .static yX0_isAddress, .initialized RX0, .code yX0_isAddress cX0_isAddress 1 (some .boolean)] ++ wsX00)
def wsX0_begin : List Cond := .code yX0_begin cX0_begin 3 (some .boolean) :: ([.fieldLink RX0 29 "Migrator" "phaseNow" "I", .fieldLink RX0 35 "Migrator" "dirtyThreshold" "I", .fieldLink RX0 38 "Migrator" "roundLimit" "I", .fieldLink RX0 32 "Migrator" "roundNow" "I", .fieldLink RX0 44 "Migrator" "waitingPages" "I", .fieldLink RX0 41 "Migrator" "dirtyPages" "I"] ++ wsX00)
def wsX0_readWord : List Cond := .code yX0_readWord cX0_readWord 3 (some .int) :: ([.fieldLink RX0 29 "Migrator" "phaseNow" "I", .fieldLink RX0 13 "Migrator" "destinationWords" "[I", .fieldLink RX0 9 "Migrator" "sourceWords" "[I"] ++ wsX00)
def wsX0_writeWord : List Cond := .code yX0_writeWord cX0_writeWord 4 none :: ([.fieldLink RX0 29 "Migrator" "phaseNow" "I", .fieldLink RX0 13 "Migrator" "destinationWords" "[I", .fieldLink RX0 9 "Migrator" "sourceWords" "[I", .fieldLink RX0 41 "Migrator" "dirtyPages" "I"] ++ wsX00)
def wsX0_show : List Cond := .code yX0_show cX0_show 2 none :: ([.fieldLink RX0 19 "Migrator" "keptShows" "[I", .fieldLink RX0 26 "Migrator" "showCount" "I"] ++ wsX00)
def wsX0_guestStep : List Cond := .code yX0_guestStep cX0_guestStep 6 none :: ([.fieldLink RX0 22 "Migrator" "programCounter" "I", .fieldLink RX0 16 "Migrator" "registers" "[I", .methodLink RX0 78 yX0_readWord, .instanceMethod yX0_readWord, .selects RX0 yX0_readWord yX0_readWord, .initialized RX0, .code yX0_readWord cX0_readWord 3 (some .int), .fieldLink RX0 29 "Migrator" "phaseNow" "I", .fieldLink RX0 13 "Migrator" "destinationWords" "[I", .fieldLink RX0 9 "Migrator" "sourceWords" "[I", .methodLink RX0 81 yX0_writeWord, .instanceMethod yX0_writeWord, .selects RX0 yX0_writeWord yX0_writeWord, .code yX0_writeWord cX0_writeWord 4 none, .fieldLink RX0 41 "Migrator" "dirtyPages" "I", .methodLink RX0 85 yX0_show, .instanceMethod yX0_show, .selects RX0 yX0_show yX0_show, .code yX0_show cX0_show 2 none, .fieldLink RX0 19 "Migrator" "keptShows" "[I", .fieldLink RX0 26 "Migrator" "showCount" "I"] ++ wsX00)
def wsX0_run_r1 : List Cond := [Cond.fieldLink RX0 29 "Migrator" "phaseNow" "I", Cond.methodLink RX0 51 yX0_guestStep, Cond.instanceMethod yX0_guestStep, Cond.selects RX0 yX0_guestStep yX0_guestStep, Cond.initialized RX0, Cond.code yX0_guestStep cX0_guestStep 6 none, Cond.fieldLink RX0 22 "Migrator" "programCounter" "I", Cond.fieldLink RX0 16 "Migrator" "registers" "[I", Cond.methodLink RX0 78 yX0_readWord, Cond.instanceMethod yX0_readWord, Cond.selects RX0 yX0_readWord yX0_readWord, Cond.code yX0_readWord cX0_readWord 3 (some .int), Cond.fieldLink RX0 13 "Migrator" "destinationWords" "[I", Cond.fieldLink RX0 9 "Migrator" "sourceWords" "[I", Cond.methodLink RX0 81 yX0_writeWord, Cond.instanceMethod yX0_writeWord, Cond.selects RX0 yX0_writeWord yX0_writeWord, Cond.code yX0_writeWord cX0_writeWord 4 none, Cond.fieldLink RX0 41 "Migrator" "dirtyPages" "I", Cond.methodLink RX0 85 yX0_show, Cond.instanceMethod yX0_show, Cond.selects RX0 yX0_show yX0_show, Cond.code yX0_show cX0_show 2 none, Cond.fieldLink RX0 19 "Migrator" "keptShows" "[I"]
def wsX0_run_r2 : List Cond := [Cond.fieldLink RX0 26 "Migrator" "showCount" "I"]
def wsX0_run : List Cond := .code yX0_run cX0_run 3 (some .int) :: ((wsX0_run_r1 ++ wsX0_run_r2) ++ wsX00)
def wsX0_hasPage : List Cond := .code yX0_hasPage cX0_hasPage 2 (some .boolean) :: ([])
def wsX0_copyPage : List Cond := .code yX0_copyPage cX0_copyPage 5 none :: ([.fieldLink RX0 13 "Migrator" "destinationWords" "[I", .fieldLink RX0 9 "Migrator" "sourceWords" "[I"] ++ wsX00)
def wsX0_copyFirstWaiting : List Cond := .code yX0_copyFirstWaiting cX0_copyFirstWaiting 2 (some .int) :: ([.fieldLink RX0 44 "Migrator" "waitingPages" "I", .methodLink RX0 64 yX0_hasPage, .static yX0_hasPage, .initialized RX0, .code yX0_hasPage cX0_hasPage 2 (some .boolean), .methodLink RX0 68 yX0_copyPage, .instanceMethod yX0_copyPage, .selects RX0 yX0_copyPage yX0_copyPage, .code yX0_copyPage cX0_copyPage 5 none, .fieldLink RX0 13 "Migrator" "destinationWords" "[I", .fieldLink RX0 9 "Migrator" "sourceWords" "[I"] ++ wsX00)
def wsJ6_bitCount_0f7a4 : List Cond := .code yJ6_bitCount_0f7a4 cJ6_bitCount_0f7a4 1 (some .int) :: ([.constant RJ6 265 (1431655765), .constant RJ6 266 (858993459), .constant RJ6 267 (252645135)])
def wsX0_endRound : List Cond := .code yX0_endRound cX0_endRound 1 (some .int) :: ([.fieldLink RX0 41 "Migrator" "dirtyPages" "I", .fieldLink RX0 44 "Migrator" "waitingPages" "I", .fieldLink RX0 35 "Migrator" "dirtyThreshold" "I", .fieldLink RX0 32 "Migrator" "roundNow" "I", .fieldLink RX0 38 "Migrator" "roundLimit" "I", .fieldLink RX0 29 "Migrator" "phaseNow" "I", .methodLink RX0 72 yJ6_bitCount_0f7a4, .static yJ6_bitCount_0f7a4, .initialized RJ6, .code yJ6_bitCount_0f7a4 cJ6_bitCount_0f7a4 1 (some .int), .constant RJ6 265 (1431655765), .constant RJ6 266 (858993459), .constant RJ6 267 (252645135)] ++ wsX00)
def wsX0_copy_r1 : List Cond := [Cond.fieldLink RX0 29 "Migrator" "phaseNow" "I", Cond.fieldLink RX0 44 "Migrator" "waitingPages" "I", Cond.methodLink RX0 54 yX0_copyFirstWaiting, Cond.instanceMethod yX0_copyFirstWaiting, Cond.selects RX0 yX0_copyFirstWaiting yX0_copyFirstWaiting, Cond.initialized RX0, Cond.code yX0_copyFirstWaiting cX0_copyFirstWaiting 2 (some .int), Cond.methodLink RX0 64 yX0_hasPage, Cond.static yX0_hasPage, Cond.code yX0_hasPage cX0_hasPage 2 (some .boolean), Cond.methodLink RX0 68 yX0_copyPage, Cond.instanceMethod yX0_copyPage, Cond.selects RX0 yX0_copyPage yX0_copyPage, Cond.code yX0_copyPage cX0_copyPage 5 none, Cond.fieldLink RX0 13 "Migrator" "destinationWords" "[I", Cond.fieldLink RX0 9 "Migrator" "sourceWords" "[I", Cond.methodLink RX0 58 yX0_endRound, Cond.instanceMethod yX0_endRound, Cond.selects RX0 yX0_endRound yX0_endRound, Cond.code yX0_endRound cX0_endRound 1 (some .int), Cond.fieldLink RX0 41 "Migrator" "dirtyPages" "I", Cond.fieldLink RX0 35 "Migrator" "dirtyThreshold" "I", Cond.fieldLink RX0 32 "Migrator" "roundNow" "I", Cond.fieldLink RX0 38 "Migrator" "roundLimit" "I"]
def wsX0_copy_r2 : List Cond := [Cond.methodLink RX0 72 yJ6_bitCount_0f7a4, Cond.static yJ6_bitCount_0f7a4, Cond.initialized RJ6, Cond.code yJ6_bitCount_0f7a4 cJ6_bitCount_0f7a4 1 (some .int), Cond.constant RJ6 265 (1431655765), Cond.constant RJ6 266 (858993459), Cond.constant RJ6 267 (252645135)]
def wsX0_copy : List Cond := .code yX0_copy cX0_copy 1 (some .int) :: ((wsX0_copy_r1 ++ wsX0_copy_r2) ++ wsX00)
def wsX0_phase : List Cond := .code yX0_phase cX0_phase 1 (some .int) :: ([.fieldLink RX0 29 "Migrator" "phaseNow" "I"] ++ wsX00)
def wsX0_round : List Cond := .code yX0_round cX0_round 1 (some .int) :: ([.fieldLink RX0 32 "Migrator" "roundNow" "I"] ++ wsX00)
def wsX0_isPage : List Cond := .code yX0_isPage cX0_isPage 1 (some .boolean) :: ([])
def wsX0_dirty : List Cond := .code yX0_dirty cX0_dirty 2 (some .boolean) :: ([.fieldLink RX0 41 "Migrator" "dirtyPages" "I", .methodLink RX0 61 yX0_isPage, .static yX0_isPage, .initialized RX0, .code yX0_isPage cX0_isPage 1 (some .boolean), .methodLink RX0 64 yX0_hasPage, .static yX0_hasPage, .code yX0_hasPage cX0_hasPage 2 (some .boolean)] ++ wsX00)
def wsX0_waits : List Cond := .code yX0_waits cX0_waits 2 (some .boolean) :: ([.fieldLink RX0 44 "Migrator" "waitingPages" "I", .methodLink RX0 61 yX0_isPage, .static yX0_isPage, .initialized RX0, .code yX0_isPage cX0_isPage 1 (some .boolean), .methodLink RX0 64 yX0_hasPage, .static yX0_hasPage, .code yX0_hasPage cX0_hasPage 2 (some .boolean)] ++ wsX00)
def wsX0_source : List Cond := .code yX0_source cX0_source 2 (some .int) :: ([.fieldLink RX0 9 "Migrator" "sourceWords" "[I", .methodLink RX0 47 yX0_isAddress, .static yX0_isAddress, .initialized RX0, .code yX0_isAddress cX0_isAddress 1 (some .boolean)] ++ wsX00)
def wsX0_destination : List Cond := .code yX0_destination cX0_destination 2 (some .int) :: ([.fieldLink RX0 13 "Migrator" "destinationWords" "[I", .methodLink RX0 47 yX0_isAddress, .static yX0_isAddress, .initialized RX0, .code yX0_isAddress cX0_isAddress 1 (some .boolean)] ++ wsX00)
def wsX0_register : List Cond := .code yX0_register cX0_register 2 (some .int) :: ([.fieldLink RX0 16 "Migrator" "registers" "[I"] ++ wsX00)
def wsX0_pc : List Cond := .code yX0_pc cX0_pc 1 (some .int) :: ([.fieldLink RX0 22 "Migrator" "programCounter" "I"] ++ wsX00)
def wsX0_shows : List Cond := .code yX0_shows cX0_shows 1 (some .int) :: ([.fieldLink RX0 26 "Migrator" "showCount" "I"] ++ wsX00)
def wsX0_shown : List Cond := .code yX0_shown cX0_shown 2 (some .int) :: ([.fieldLink RX0 26 "Migrator" "showCount" "I", .fieldLink RX0 19 "Migrator" "keptShows" "[I"] ++ wsX00)
def wsX1_init : List Cond := .code yX1_init cX1_init 1 none :: ([.methodLink RX1 1 objectInit, .instanceMethod objectInit, .code objectInit ⟨#[0xb1]⟩ 1 none, .arrayClass .int, .fieldLink RX1 7 "MigratorModel" "real" "[I", .fieldLink RX1 13 "MigratorModel" "kept" "[I", .fieldLink RX1 16 "MigratorModel" "copied" "[I", .fieldLink RX1 19 "MigratorModel" "reg" "[I", .arrayClass .long, .fieldLink RX1 22 "MigratorModel" "written" "[J", .arrayClass .boolean, .fieldLink RX1 26 "MigratorModel" "want" "[Z", .fieldLink RX1 30 "MigratorModel" "left" "[Z", .fieldLink RX1 33 "MigratorModel" "told" "[I", .fieldLink RX1 36 "MigratorModel" "phase" "I"] ++ wsX10)
def wsX1_poke : List Cond := .code yX1_poke cX1_poke 3 (some .boolean) :: ([.fieldLink RX1 36 "MigratorModel" "phase" "I", .fieldLink RX1 7 "MigratorModel" "real" "[I"] ++ wsX10)
def wsX1_begin : List Cond := .code yX1_begin cX1_begin 4 (some .boolean) :: ([.fieldLink RX1 36 "MigratorModel" "phase" "I", .fieldLink RX1 40 "MigratorModel" "threshold" "I", .fieldLink RX1 43 "MigratorModel" "limit" "I", .fieldLink RX1 46 "MigratorModel" "round" "I", .fieldLink RX1 49 "MigratorModel" "time" "J", .fieldLink RX1 53 "MigratorModel" "since" "J", .fieldLink RX1 26 "MigratorModel" "want" "[Z"] ++ wsX10)
def wsX1_step : List Cond := .code yX1_step cX1_step 8 none :: ([.fieldLink RX1 7 "MigratorModel" "real" "[I", .fieldLink RX1 56 "MigratorModel" "pc" "I", .fieldLink RX1 19 "MigratorModel" "reg" "[I", .fieldLink RX1 49 "MigratorModel" "time" "J", .fieldLink RX1 22 "MigratorModel" "written" "[J", .fieldLink RX1 33 "MigratorModel" "told" "[I", .fieldLink RX1 59 "MigratorModel" "shows" "I"] ++ wsX10)
def wsX1_run : List Cond := .code yX1_run cX1_run 3 (some .int) :: ([.fieldLink RX1 36 "MigratorModel" "phase" "I", .methodLink RX1 62 yX1_step, .instanceMethod yX1_step, .selects RX1 yX1_step yX1_step, .initialized RX1, .code yX1_step cX1_step 8 none, .fieldLink RX1 7 "MigratorModel" "real" "[I", .fieldLink RX1 56 "MigratorModel" "pc" "I", .fieldLink RX1 19 "MigratorModel" "reg" "[I", .fieldLink RX1 49 "MigratorModel" "time" "J", .fieldLink RX1 22 "MigratorModel" "written" "[J", .fieldLink RX1 33 "MigratorModel" "told" "[I", .fieldLink RX1 59 "MigratorModel" "shows" "I"] ++ wsX10)
def wsX1_dirty : List Cond := .code yX1_dirty cX1_dirty 2 (some .boolean) :: ([.fieldLink RX1 36 "MigratorModel" "phase" "I", .fieldLink RX1 22 "MigratorModel" "written" "[J", .fieldLink RX1 53 "MigratorModel" "since" "J", .fieldLink RX1 30 "MigratorModel" "left" "[Z"] ++ wsX10)
def wsX1_copy : List Cond := .code yX1_copy cX1_copy 3 (some .int) :: ([.fieldLink RX1 36 "MigratorModel" "phase" "I", .fieldLink RX1 26 "MigratorModel" "want" "[Z", .fieldLink RX1 16 "MigratorModel" "copied" "[I", .fieldLink RX1 7 "MigratorModel" "real" "[I", .fieldLink RX1 13 "MigratorModel" "kept" "[I", .fieldLink RX1 30 "MigratorModel" "left" "[Z", .fieldLink RX1 40 "MigratorModel" "threshold" "I", .fieldLink RX1 46 "MigratorModel" "round" "I", .fieldLink RX1 43 "MigratorModel" "limit" "I", .fieldLink RX1 49 "MigratorModel" "time" "J", .fieldLink RX1 53 "MigratorModel" "since" "J", .methodLink RX1 65 yX1_dirty, .instanceMethod yX1_dirty, .selects RX1 yX1_dirty yX1_dirty, .initialized RX1, .code yX1_dirty cX1_dirty 2 (some .boolean), .fieldLink RX1 22 "MigratorModel" "written" "[J"] ++ wsX10)
def wsX1_phase : List Cond := .code yX1_phase cX1_phase 1 (some .int) :: ([.fieldLink RX1 36 "MigratorModel" "phase" "I"] ++ wsX10)
def wsX1_round : List Cond := .code yX1_round cX1_round 1 (some .int) :: ([.fieldLink RX1 46 "MigratorModel" "round" "I"] ++ wsX10)
def wsX1_waits : List Cond := .code yX1_waits cX1_waits 2 (some .boolean) :: ([.fieldLink RX1 26 "MigratorModel" "want" "[Z"] ++ wsX10)
def wsX1_source : List Cond := .code yX1_source cX1_source 2 (some .int) :: ([.fieldLink RX1 36 "MigratorModel" "phase" "I", .fieldLink RX1 13 "MigratorModel" "kept" "[I", .fieldLink RX1 7 "MigratorModel" "real" "[I"] ++ wsX10)
def wsX1_destination : List Cond := .code yX1_destination cX1_destination 2 (some .int) :: ([.fieldLink RX1 36 "MigratorModel" "phase" "I", .fieldLink RX1 7 "MigratorModel" "real" "[I", .fieldLink RX1 16 "MigratorModel" "copied" "[I"] ++ wsX10)
def wsX1_register : List Cond := .code yX1_register cX1_register 2 (some .int) :: ([.fieldLink RX1 19 "MigratorModel" "reg" "[I"] ++ wsX10)
def wsX1_pc : List Cond := .code yX1_pc cX1_pc 1 (some .int) :: ([.fieldLink RX1 56 "MigratorModel" "pc" "I"] ++ wsX10)
def wsX1_shows : List Cond := .code yX1_shows cX1_shows 1 (some .int) :: ([.fieldLink RX1 59 "MigratorModel" "shows" "I"] ++ wsX10)
def wsX1_shown : List Cond := .code yX1_shown cX1_shown 2 (some .int) :: ([.fieldLink RX1 59 "MigratorModel" "shows" "I", .fieldLink RX1 33 "MigratorModel" "told" "[I"] ++ wsX10)
def wsL_law_r1 : List Cond := [Cond.classLink RL 7 RX0, Cond.instantiable RX0 12, Cond.initialized RX0, Cond.classLink RL 10 RX1, Cond.instantiable RX1 16, Cond.initialized RX1, Cond.methodLink RL 9 yX0_init, Cond.instanceMethod yX0_init, Cond.code yX0_init cX0_init 1 none, Cond.methodLink RX0 1 objectInit, Cond.instanceMethod objectInit, Cond.code objectInit ⟨#[0xb1]⟩ 1 none, Cond.arrayClass .int, Cond.fieldLink RX0 9 "Migrator" "sourceWords" "[I", Cond.fieldLink RX0 13 "Migrator" "destinationWords" "[I", Cond.fieldLink RX0 16 "Migrator" "registers" "[I", Cond.fieldLink RX0 19 "Migrator" "keptShows" "[I", Cond.fieldLink RX0 22 "Migrator" "programCounter" "I", Cond.fieldLink RX0 26 "Migrator" "showCount" "I", Cond.fieldLink RX0 29 "Migrator" "phaseNow" "I", Cond.fieldLink RX0 32 "Migrator" "roundNow" "I", Cond.fieldLink RX0 35 "Migrator" "dirtyThreshold" "I", Cond.fieldLink RX0 38 "Migrator" "roundLimit" "I", Cond.fieldLink RX0 41 "Migrator" "dirtyPages" "I"]
def wsL_law_r2 : List Cond := [Cond.fieldLink RX0 44 "Migrator" "waitingPages" "I", Cond.methodLink RL 12 yX1_init, Cond.instanceMethod yX1_init, Cond.code yX1_init cX1_init 1 none, Cond.methodLink RX1 1 objectInit, Cond.fieldLink RX1 7 "MigratorModel" "real" "[I", Cond.fieldLink RX1 13 "MigratorModel" "kept" "[I", Cond.fieldLink RX1 16 "MigratorModel" "copied" "[I", Cond.fieldLink RX1 19 "MigratorModel" "reg" "[I", Cond.arrayClass .long, Cond.fieldLink RX1 22 "MigratorModel" "written" "[J", Cond.arrayClass .boolean, Cond.fieldLink RX1 26 "MigratorModel" "want" "[Z", Cond.fieldLink RX1 30 "MigratorModel" "left" "[Z", Cond.fieldLink RX1 33 "MigratorModel" "told" "[I", Cond.fieldLink RX1 36 "MigratorModel" "phase" "I", Cond.methodLink RL 13 yX0_poke, Cond.instanceMethod yX0_poke, Cond.selects RX0 yX0_poke yX0_poke, Cond.code yX0_poke cX0_poke 3 (some .boolean), Cond.methodLink RX0 47 yX0_isAddress, Cond.static yX0_isAddress, Cond.code yX0_isAddress cX0_isAddress 1 (some .boolean), Cond.methodLink RL 17 yX1_poke]
def wsL_law_r3 : List Cond := [Cond.instanceMethod yX1_poke, Cond.selects RX1 yX1_poke yX1_poke, Cond.code yX1_poke cX1_poke 3 (some .boolean), Cond.methodLink RL 18 yX0_begin, Cond.instanceMethod yX0_begin, Cond.selects RX0 yX0_begin yX0_begin, Cond.code yX0_begin cX0_begin 3 (some .boolean), Cond.methodLink RL 21 yX1_begin, Cond.instanceMethod yX1_begin, Cond.selects RX1 yX1_begin yX1_begin, Cond.code yX1_begin cX1_begin 4 (some .boolean), Cond.fieldLink RX1 40 "MigratorModel" "threshold" "I", Cond.fieldLink RX1 43 "MigratorModel" "limit" "I", Cond.fieldLink RX1 46 "MigratorModel" "round" "I", Cond.fieldLink RX1 49 "MigratorModel" "time" "J", Cond.fieldLink RX1 53 "MigratorModel" "since" "J", Cond.methodLink RL 22 yX0_run, Cond.instanceMethod yX0_run, Cond.selects RX0 yX0_run yX0_run, Cond.code yX0_run cX0_run 3 (some .int), Cond.methodLink RX0 51 yX0_guestStep, Cond.instanceMethod yX0_guestStep, Cond.selects RX0 yX0_guestStep yX0_guestStep, Cond.code yX0_guestStep cX0_guestStep 6 none]
def wsL_law_r4 : List Cond := [Cond.methodLink RX0 78 yX0_readWord, Cond.instanceMethod yX0_readWord, Cond.selects RX0 yX0_readWord yX0_readWord, Cond.code yX0_readWord cX0_readWord 3 (some .int), Cond.methodLink RX0 81 yX0_writeWord, Cond.instanceMethod yX0_writeWord, Cond.selects RX0 yX0_writeWord yX0_writeWord, Cond.code yX0_writeWord cX0_writeWord 4 none, Cond.methodLink RX0 85 yX0_show, Cond.instanceMethod yX0_show, Cond.selects RX0 yX0_show yX0_show, Cond.code yX0_show cX0_show 2 none, Cond.methodLink RL 26 yX1_run, Cond.instanceMethod yX1_run, Cond.selects RX1 yX1_run yX1_run, Cond.code yX1_run cX1_run 3 (some .int), Cond.methodLink RX1 62 yX1_step, Cond.instanceMethod yX1_step, Cond.selects RX1 yX1_step yX1_step, Cond.code yX1_step cX1_step 8 none, Cond.fieldLink RX1 56 "MigratorModel" "pc" "I", Cond.fieldLink RX1 59 "MigratorModel" "shows" "I", Cond.methodLink RL 27 yX0_copy, Cond.instanceMethod yX0_copy]
def wsL_law_r5 : List Cond := [Cond.selects RX0 yX0_copy yX0_copy, Cond.code yX0_copy cX0_copy 1 (some .int), Cond.methodLink RX0 54 yX0_copyFirstWaiting, Cond.instanceMethod yX0_copyFirstWaiting, Cond.selects RX0 yX0_copyFirstWaiting yX0_copyFirstWaiting, Cond.code yX0_copyFirstWaiting cX0_copyFirstWaiting 2 (some .int), Cond.methodLink RX0 64 yX0_hasPage, Cond.static yX0_hasPage, Cond.code yX0_hasPage cX0_hasPage 2 (some .boolean), Cond.methodLink RX0 68 yX0_copyPage, Cond.instanceMethod yX0_copyPage, Cond.selects RX0 yX0_copyPage yX0_copyPage, Cond.code yX0_copyPage cX0_copyPage 5 none, Cond.methodLink RX0 58 yX0_endRound, Cond.instanceMethod yX0_endRound, Cond.selects RX0 yX0_endRound yX0_endRound, Cond.code yX0_endRound cX0_endRound 1 (some .int), Cond.methodLink RX0 72 yJ6_bitCount_0f7a4, Cond.static yJ6_bitCount_0f7a4, Cond.initialized RJ6, Cond.code yJ6_bitCount_0f7a4 cJ6_bitCount_0f7a4 1 (some .int), Cond.constant RJ6 265 (1431655765), Cond.constant RJ6 266 (858993459), Cond.constant RJ6 267 (252645135)]
def wsL_law_r6 : List Cond := [Cond.methodLink RL 31 yX1_copy, Cond.instanceMethod yX1_copy, Cond.selects RX1 yX1_copy yX1_copy, Cond.code yX1_copy cX1_copy 3 (some .int), Cond.methodLink RX1 65 yX1_dirty, Cond.instanceMethod yX1_dirty, Cond.selects RX1 yX1_dirty yX1_dirty, Cond.code yX1_dirty cX1_dirty 2 (some .boolean), Cond.methodLink RL 32 yX0_phase, Cond.instanceMethod yX0_phase, Cond.selects RX0 yX0_phase yX0_phase, Cond.code yX0_phase cX0_phase 1 (some .int), Cond.methodLink RL 35 yX1_phase, Cond.instanceMethod yX1_phase, Cond.selects RX1 yX1_phase yX1_phase, Cond.code yX1_phase cX1_phase 1 (some .int), Cond.methodLink RL 36 yX0_round, Cond.instanceMethod yX0_round, Cond.selects RX0 yX0_round yX0_round, Cond.code yX0_round cX0_round 1 (some .int), Cond.methodLink RL 39 yX1_round, Cond.instanceMethod yX1_round, Cond.selects RX1 yX1_round yX1_round, Cond.code yX1_round cX1_round 1 (some .int)]
def wsL_law_r7 : List Cond := [Cond.methodLink RL 40 yX0_dirty, Cond.instanceMethod yX0_dirty, Cond.selects RX0 yX0_dirty yX0_dirty, Cond.code yX0_dirty cX0_dirty 2 (some .boolean), Cond.methodLink RX0 61 yX0_isPage, Cond.static yX0_isPage, Cond.code yX0_isPage cX0_isPage 1 (some .boolean), Cond.methodLink RL 44 yX1_dirty, Cond.methodLink RL 45 yX0_waits, Cond.instanceMethod yX0_waits, Cond.selects RX0 yX0_waits yX0_waits, Cond.code yX0_waits cX0_waits 2 (some .boolean), Cond.methodLink RL 48 yX1_waits, Cond.instanceMethod yX1_waits, Cond.selects RX1 yX1_waits yX1_waits, Cond.code yX1_waits cX1_waits 2 (some .boolean), Cond.methodLink RL 49 yX0_source, Cond.instanceMethod yX0_source, Cond.selects RX0 yX0_source yX0_source, Cond.code yX0_source cX0_source 2 (some .int), Cond.methodLink RL 52 yX1_source, Cond.instanceMethod yX1_source, Cond.selects RX1 yX1_source yX1_source, Cond.code yX1_source cX1_source 2 (some .int)]
def wsL_law_r8 : List Cond := [Cond.methodLink RL 53 yX0_destination, Cond.instanceMethod yX0_destination, Cond.selects RX0 yX0_destination yX0_destination, Cond.code yX0_destination cX0_destination 2 (some .int), Cond.methodLink RL 56 yX1_destination, Cond.instanceMethod yX1_destination, Cond.selects RX1 yX1_destination yX1_destination, Cond.code yX1_destination cX1_destination 2 (some .int), Cond.methodLink RL 57 yX0_register, Cond.instanceMethod yX0_register, Cond.selects RX0 yX0_register yX0_register, Cond.code yX0_register cX0_register 2 (some .int), Cond.methodLink RL 60 yX1_register, Cond.instanceMethod yX1_register, Cond.selects RX1 yX1_register yX1_register, Cond.code yX1_register cX1_register 2 (some .int), Cond.methodLink RL 61 yX0_pc, Cond.instanceMethod yX0_pc, Cond.selects RX0 yX0_pc yX0_pc, Cond.code yX0_pc cX0_pc 1 (some .int), Cond.methodLink RL 64 yX1_pc, Cond.instanceMethod yX1_pc, Cond.selects RX1 yX1_pc yX1_pc, Cond.code yX1_pc cX1_pc 1 (some .int)]
def wsL_law_r9 : List Cond := [Cond.methodLink RL 65 yX0_shows, Cond.instanceMethod yX0_shows, Cond.selects RX0 yX0_shows yX0_shows, Cond.code yX0_shows cX0_shows 1 (some .int), Cond.methodLink RL 68 yX1_shows, Cond.instanceMethod yX1_shows, Cond.selects RX1 yX1_shows yX1_shows, Cond.code yX1_shows cX1_shows 1 (some .int), Cond.methodLink RL 69 yX0_shown, Cond.instanceMethod yX0_shown, Cond.selects RX0 yX0_shown yX0_shown, Cond.code yX0_shown cX0_shown 2 (some .int), Cond.methodLink RL 72 yX1_shown, Cond.instanceMethod yX1_shown, Cond.selects RX1 yX1_shown yX1_shown, Cond.code yX1_shown cX1_shown 2 (some .int)]
def wsL_law : List Cond := (wsL_law_r1 ++ (wsL_law_r2 ++ (wsL_law_r3 ++ (wsL_law_r4 ++ (wsL_law_r5 ++ (wsL_law_r6 ++ (wsL_law_r7 ++ (wsL_law_r8 ++ wsL_law_r9)))))))) ++ wsX00 ++ wsX10 ++ ([] : List Cond)
set_option maxRecDepth 20000 in
theorem wsL_law_in : ∀ w ∈ wsL_law, w ∈ lw_tbl := fun w h => (goodIn_p wsL_law [16, 19, 161, 61, 64, 217, 68, 221, 72, 76, 80, 84, 88, 225, 229, 92, 96, 99, 103, 107, 110, 233, 237, 117, 241, 121, 245, 125, 128, 132, 250, 136, 254, 140, 258, 144, 262, 148, 266, 152, 270, 156, 274] (by decide +kernel) (by decide +kernel) w h).1
theorem inlX0 : ∀ w ∈ wsX00, w ∈ wsL_law := fun _ h => List.mem_append_left _ (List.mem_append_left _ (List.mem_append_right _ h))
theorem inX0 : ∀ w ∈ wsX00, w ∈ lw_tbl := fun w h => wsL_law_in w (inlX0 w h)
theorem inlX1 : ∀ w ∈ wsX10, w ∈ wsL_law := fun _ h => List.mem_append_left _ (List.mem_append_right _ h)
theorem inX1 : ∀ w ∈ wsX10, w ∈ lw_tbl := fun w h => wsL_law_in w (inlX1 w h)
theorem inJ6 : ∀ w ∈ wsJ60, w ∈ lw_tbl := by decide +kernel
end
section
abbrev vwCl : List vw_C := [(RX0, TX0, 12), (RX1, TX1, 16)]
theorem dX0_init_0 : decode cX0_init 0 = .ok (.aload_n 0, 1) := by decide +kernel
theorem dX0_init_1 : decode cX0_init 1 = .ok (.invokespecial 1, 3) := by decide +kernel
theorem dX0_init_4 : decode cX0_init 4 = .ok (.aload_n 0, 1) := by decide +kernel
theorem dX0_init_5 : decode cX0_init 5 = .ok (.bipush 64, 2) := by decide +kernel
theorem dX0_init_7 : decode cX0_init 7 = .ok (.newarray .int, 2) := by decide +kernel
theorem dX0_init_9 : decode cX0_init 9 = .ok (.putfield 9, 3) := by decide +kernel
theorem dX0_init_12 : decode cX0_init 12 = .ok (.aload_n 0, 1) := by decide +kernel
theorem dX0_init_13 : decode cX0_init 13 = .ok (.bipush 64, 2) := by decide +kernel
theorem dX0_init_15 : decode cX0_init 15 = .ok (.newarray .int, 2) := by decide +kernel
theorem dX0_init_17 : decode cX0_init 17 = .ok (.putfield 13, 3) := by decide +kernel
theorem dX0_init_20 : decode cX0_init 20 = .ok (.aload_n 0, 1) := by decide +kernel
theorem dX0_init_21 : decode cX0_init 21 = .ok (.iconst 4, 1) := by decide +kernel
theorem dX0_init_22 : decode cX0_init 22 = .ok (.newarray .int, 2) := by decide +kernel
theorem dX0_init_24 : decode cX0_init 24 = .ok (.putfield 16, 3) := by decide +kernel
theorem dX0_init_27 : decode cX0_init 27 = .ok (.aload_n 0, 1) := by decide +kernel
theorem dX0_init_28 : decode cX0_init 28 = .ok (.bipush 8, 2) := by decide +kernel
theorem dX0_init_30 : decode cX0_init 30 = .ok (.newarray .int, 2) := by decide +kernel
theorem dX0_init_32 : decode cX0_init 32 = .ok (.putfield 19, 3) := by decide +kernel
theorem dX0_init_35 : decode cX0_init 35 = .ok (.aload_n 0, 1) := by decide +kernel
theorem dX0_init_36 : decode cX0_init 36 = .ok (.iconst 0, 1) := by decide +kernel
theorem dX0_init_37 : decode cX0_init 37 = .ok (.putfield 22, 3) := by decide +kernel
theorem dX0_init_40 : decode cX0_init 40 = .ok (.aload_n 0, 1) := by decide +kernel
theorem dX0_init_41 : decode cX0_init 41 = .ok (.iconst 0, 1) := by decide +kernel
theorem dX0_init_42 : decode cX0_init 42 = .ok (.putfield 26, 3) := by decide +kernel
theorem dX0_init_45 : decode cX0_init 45 = .ok (.aload_n 0, 1) := by decide +kernel
theorem dX0_init_46 : decode cX0_init 46 = .ok (.iconst 0, 1) := by decide +kernel
theorem dX0_init_47 : decode cX0_init 47 = .ok (.putfield 29, 3) := by decide +kernel
theorem dX0_init_50 : decode cX0_init 50 = .ok (.aload_n 0, 1) := by decide +kernel
theorem dX0_init_51 : decode cX0_init 51 = .ok (.iconst 0, 1) := by decide +kernel
theorem dX0_init_52 : decode cX0_init 52 = .ok (.putfield 32, 3) := by decide +kernel
theorem dX0_init_55 : decode cX0_init 55 = .ok (.aload_n 0, 1) := by decide +kernel
theorem dX0_init_56 : decode cX0_init 56 = .ok (.iconst 0, 1) := by decide +kernel
theorem dX0_init_57 : decode cX0_init 57 = .ok (.putfield 35, 3) := by decide +kernel
theorem dX0_init_60 : decode cX0_init 60 = .ok (.aload_n 0, 1) := by decide +kernel
theorem dX0_init_61 : decode cX0_init 61 = .ok (.iconst 0, 1) := by decide +kernel
theorem dX0_init_62 : decode cX0_init 62 = .ok (.putfield 38, 3) := by decide +kernel
theorem dX0_init_65 : decode cX0_init 65 = .ok (.aload_n 0, 1) := by decide +kernel
theorem dX0_init_66 : decode cX0_init 66 = .ok (.iconst 0, 1) := by decide +kernel
theorem dX0_init_67 : decode cX0_init 67 = .ok (.putfield 41, 3) := by decide +kernel
theorem dX0_init_70 : decode cX0_init 70 = .ok (.aload_n 0, 1) := by decide +kernel
theorem dX0_init_71 : decode cX0_init 71 = .ok (.iconst 0, 1) := by decide +kernel
theorem dX0_init_72 : decode cX0_init 72 = .ok (.putfield 44, 3) := by decide +kernel
theorem dX0_init_75 : decode cX0_init 75 = .ok (.return_, 1) := by decide +kernel
set_option maxRecDepth 20000 in
theorem ggX0_poke_X0_isAddress : GoodIn wsX0_poke wsX0_isAddress := goodIn_r _ [6] (by decide +kernel) (by decide +kernel)
set_option maxRecDepth 20000 in
theorem gX0_poke_X0_isAddress : GoodIn wsX0_poke (va_wsS RX0 47 yX0_isAddress wsX0_isAddress) := goodIn_app (goodIn_of _ (by decide +kernel)) ggX0_poke_X0_isAddress
theorem dX0_poke_0 : decode cX0_poke 0 = .ok (.aload_n 0, 1) := by decide +kernel
theorem dX0_poke_1 : decode cX0_poke 1 = .ok (.getfield 29, 3) := by decide +kernel
theorem dX0_poke_4 : decode cX0_poke 4 = .ok (.ifCond .ne 10, 3) := by decide +kernel
theorem dX0_poke_7 : decode cX0_poke 7 = .ok (.iload_n 1, 1) := by decide +kernel
theorem dX0_poke_8 : decode cX0_poke 8 = .ok (.invokestatic 47, 3) := by decide +kernel
theorem dX0_poke_11 : decode cX0_poke 11 = .ok (.ifCond .ne 5, 3) := by decide +kernel
theorem dX0_poke_14 : decode cX0_poke 14 = .ok (.iconst 0, 1) := by decide +kernel
theorem dX0_poke_15 : decode cX0_poke 15 = .ok (.ireturn, 1) := by decide +kernel
theorem dX0_poke_16 : decode cX0_poke 16 = .ok (.aload_n 0, 1) := by decide +kernel
theorem dX0_poke_17 : decode cX0_poke 17 = .ok (.getfield 9, 3) := by decide +kernel
theorem dX0_poke_20 : decode cX0_poke 20 = .ok (.iload_n 1, 1) := by decide +kernel
theorem dX0_poke_21 : decode cX0_poke 21 = .ok (.iload_n 2, 1) := by decide +kernel
theorem dX0_poke_22 : decode cX0_poke 22 = .ok (.iastore, 1) := by decide +kernel
theorem dX0_poke_23 : decode cX0_poke 23 = .ok (.iconst 1, 1) := by decide +kernel
theorem dX0_poke_24 : decode cX0_poke 24 = .ok (.ireturn, 1) := by decide +kernel
theorem dX0_begin_0 : decode cX0_begin 0 = .ok (.aload_n 0, 1) := by decide +kernel
theorem dX0_begin_1 : decode cX0_begin 1 = .ok (.getfield 29, 3) := by decide +kernel
theorem dX0_begin_4 : decode cX0_begin 4 = .ok (.ifCond .ne 24, 3) := by decide +kernel
theorem dX0_begin_7 : decode cX0_begin 7 = .ok (.iload_n 1, 1) := by decide +kernel
theorem dX0_begin_8 : decode cX0_begin 8 = .ok (.ifCond .lt 20, 3) := by decide +kernel
theorem dX0_begin_11 : decode cX0_begin 11 = .ok (.iload_n 1, 1) := by decide +kernel
theorem dX0_begin_12 : decode cX0_begin 12 = .ok (.bipush 8, 2) := by decide +kernel
theorem dX0_begin_14 : decode cX0_begin 14 = .ok (.if_icmp .gt 14, 3) := by decide +kernel
theorem dX0_begin_17 : decode cX0_begin 17 = .ok (.iload_n 2, 1) := by decide +kernel
theorem dX0_begin_18 : decode cX0_begin 18 = .ok (.iconst 1, 1) := by decide +kernel
theorem dX0_begin_19 : decode cX0_begin 19 = .ok (.if_icmp .lt 9, 3) := by decide +kernel
theorem dX0_begin_22 : decode cX0_begin 22 = .ok (.iload_n 2, 1) := by decide +kernel
theorem dX0_begin_23 : decode cX0_begin 23 = .ok (.bipush 20, 2) := by decide +kernel
theorem dX0_begin_25 : decode cX0_begin 25 = .ok (.if_icmp .le 5, 3) := by decide +kernel
theorem dX0_begin_28 : decode cX0_begin 28 = .ok (.iconst 0, 1) := by decide +kernel
theorem dX0_begin_29 : decode cX0_begin 29 = .ok (.ireturn, 1) := by decide +kernel
theorem dX0_begin_30 : decode cX0_begin 30 = .ok (.aload_n 0, 1) := by decide +kernel
theorem dX0_begin_31 : decode cX0_begin 31 = .ok (.iload_n 1, 1) := by decide +kernel
theorem dX0_begin_32 : decode cX0_begin 32 = .ok (.putfield 35, 3) := by decide +kernel
theorem dX0_begin_35 : decode cX0_begin 35 = .ok (.aload_n 0, 1) := by decide +kernel
theorem dX0_begin_36 : decode cX0_begin 36 = .ok (.iload_n 2, 1) := by decide +kernel
theorem dX0_begin_37 : decode cX0_begin 37 = .ok (.putfield 38, 3) := by decide +kernel
theorem dX0_begin_40 : decode cX0_begin 40 = .ok (.aload_n 0, 1) := by decide +kernel
theorem dX0_begin_41 : decode cX0_begin 41 = .ok (.iconst 1, 1) := by decide +kernel
theorem dX0_begin_42 : decode cX0_begin 42 = .ok (.putfield 29, 3) := by decide +kernel
theorem dX0_begin_45 : decode cX0_begin 45 = .ok (.aload_n 0, 1) := by decide +kernel
theorem dX0_begin_46 : decode cX0_begin 46 = .ok (.iconst 1, 1) := by decide +kernel
theorem dX0_begin_47 : decode cX0_begin 47 = .ok (.putfield 32, 3) := by decide +kernel
theorem dX0_begin_50 : decode cX0_begin 50 = .ok (.aload_n 0, 1) := by decide +kernel
theorem dX0_begin_51 : decode cX0_begin 51 = .ok (.sipush 255, 3) := by decide +kernel
theorem dX0_begin_54 : decode cX0_begin 54 = .ok (.putfield 44, 3) := by decide +kernel
theorem dX0_begin_57 : decode cX0_begin 57 = .ok (.aload_n 0, 1) := by decide +kernel
theorem dX0_begin_58 : decode cX0_begin 58 = .ok (.iconst 0, 1) := by decide +kernel
theorem dX0_begin_59 : decode cX0_begin 59 = .ok (.putfield 41, 3) := by decide +kernel
theorem dX0_begin_62 : decode cX0_begin 62 = .ok (.iconst 1, 1) := by decide +kernel
theorem dX0_begin_63 : decode cX0_begin 63 = .ok (.ireturn, 1) := by decide +kernel
set_option maxRecDepth 20000 in
theorem ggX0_run_X0_guestStep : GoodIn wsX0_run wsX0_guestStep := goodIn_r _ [6, 7, 8, 9, 10, 11, 5, 12, 1, 13, 14, 15, 16, 17, 18, 19, 20, 21, 22, 23, 24, 25, 26, 27, 28, 29, 30, 31, 32, 33, 34, 35, 36, 37] (by decide +kernel) (by decide +kernel)
set_option maxRecDepth 20000 in
theorem gX0_run_X0_guestStep : GoodIn wsX0_run (wsV RX0 51 RX0 yX0_guestStep wsX0_guestStep) := goodIn_app (goodIn_of _ (by decide +kernel)) ggX0_run_X0_guestStep
theorem dX0_run_0 : decode cX0_run 0 = .ok (.aload_n 0, 1) := by decide +kernel
theorem dX0_run_1 : decode cX0_run 1 = .ok (.getfield 29, 3) := by decide +kernel
theorem dX0_run_4 : decode cX0_run 4 = .ok (.iconst 2, 1) := by decide +kernel
theorem dX0_run_5 : decode cX0_run 5 = .ok (.if_icmp .eq 14, 3) := by decide +kernel
theorem dX0_run_8 : decode cX0_run 8 = .ok (.iload_n 1, 1) := by decide +kernel
theorem dX0_run_9 : decode cX0_run 9 = .ok (.ifCond .lt 10, 3) := by decide +kernel
theorem dX0_run_12 : decode cX0_run 12 = .ok (.iload_n 1, 1) := by decide +kernel
theorem dX0_run_13 : decode cX0_run 13 = .ok (.sipush 1000, 3) := by decide +kernel
theorem dX0_run_16 : decode cX0_run 16 = .ok (.if_icmp .le 5, 3) := by decide +kernel
theorem dX0_run_19 : decode cX0_run 19 = .ok (.iconst 0, 1) := by decide +kernel
theorem dX0_run_20 : decode cX0_run 20 = .ok (.ireturn, 1) := by decide +kernel
theorem dX0_run_21 : decode cX0_run 21 = .ok (.iconst 0, 1) := by decide +kernel
theorem dX0_run_22 : decode cX0_run 22 = .ok (.istore_n 2, 1) := by decide +kernel
theorem dX0_run_23 : decode cX0_run 23 = .ok (.iload_n 2, 1) := by decide +kernel
theorem dX0_run_24 : decode cX0_run 24 = .ok (.iload_n 1, 1) := by decide +kernel
theorem dX0_run_25 : decode cX0_run 25 = .ok (.if_icmp .ge 13, 3) := by decide +kernel
theorem dX0_run_28 : decode cX0_run 28 = .ok (.aload_n 0, 1) := by decide +kernel
theorem dX0_run_29 : decode cX0_run 29 = .ok (.invokevirtual 51, 3) := by decide +kernel
theorem dX0_run_32 : decode cX0_run 32 = .ok (.iinc 2 1, 3) := by decide +kernel
theorem dX0_run_35 : decode cX0_run 35 = .ok (.goto (-12), 3) := by decide +kernel
theorem dX0_run_38 : decode cX0_run 38 = .ok (.iload_n 1, 1) := by decide +kernel
theorem dX0_run_39 : decode cX0_run 39 = .ok (.ireturn, 1) := by decide +kernel
set_option maxRecDepth 20000 in
theorem ggX0_copy_X0_copyFirstWaiting : GoodIn wsX0_copy wsX0_copyFirstWaiting := goodIn_r _ [7, 2, 8, 9, 6, 10, 11, 12, 13, 14, 15, 16, 32, 33, 34, 35, 36, 37, 38, 39, 40, 41, 42, 43] (by decide +kernel) (by decide +kernel)
set_option maxRecDepth 20000 in
theorem gX0_copy_X0_copyFirstWaiting : GoodIn wsX0_copy (wsV RX0 54 RX0 yX0_copyFirstWaiting wsX0_copyFirstWaiting) := goodIn_app (goodIn_of _ (by decide +kernel)) ggX0_copy_X0_copyFirstWaiting
set_option maxRecDepth 20000 in
theorem ggX0_copy_X0_endRound : GoodIn wsX0_copy wsX0_endRound := goodIn_r _ [20, 21, 2, 22, 23, 24, 1, 25, 26, 27, 28, 29, 30, 31, 32, 33, 34, 35, 36, 37, 38, 39, 40, 41, 42, 43] (by decide +kernel) (by decide +kernel)
set_option maxRecDepth 20000 in
theorem gX0_copy_X0_endRound : GoodIn wsX0_copy (wsV RX0 58 RX0 yX0_endRound wsX0_endRound) := goodIn_app (goodIn_of _ (by decide +kernel)) ggX0_copy_X0_endRound
theorem dX0_copy_0 : decode cX0_copy 0 = .ok (.aload_n 0, 1) := by decide +kernel
theorem dX0_copy_1 : decode cX0_copy 1 = .ok (.getfield 29, 3) := by decide +kernel
theorem dX0_copy_4 : decode cX0_copy 4 = .ok (.iconst 1, 1) := by decide +kernel
theorem dX0_copy_5 : decode cX0_copy 5 = .ok (.if_icmp .eq 13, 3) := by decide +kernel
theorem dX0_copy_8 : decode cX0_copy 8 = .ok (.aload_n 0, 1) := by decide +kernel
theorem dX0_copy_9 : decode cX0_copy 9 = .ok (.getfield 29, 3) := by decide +kernel
theorem dX0_copy_12 : decode cX0_copy 12 = .ok (.iconst 2, 1) := by decide +kernel
theorem dX0_copy_13 : decode cX0_copy 13 = .ok (.if_icmp .eq 5, 3) := by decide +kernel
theorem dX0_copy_16 : decode cX0_copy 16 = .ok (.iconst (-1), 1) := by decide +kernel
theorem dX0_copy_17 : decode cX0_copy 17 = .ok (.ireturn, 1) := by decide +kernel
theorem dX0_copy_18 : decode cX0_copy 18 = .ok (.aload_n 0, 1) := by decide +kernel
theorem dX0_copy_19 : decode cX0_copy 19 = .ok (.getfield 44, 3) := by decide +kernel
theorem dX0_copy_22 : decode cX0_copy 22 = .ok (.ifCond .eq 8, 3) := by decide +kernel
theorem dX0_copy_25 : decode cX0_copy 25 = .ok (.aload_n 0, 1) := by decide +kernel
theorem dX0_copy_26 : decode cX0_copy 26 = .ok (.invokevirtual 54, 3) := by decide +kernel
theorem dX0_copy_29 : decode cX0_copy 29 = .ok (.ireturn, 1) := by decide +kernel
theorem dX0_copy_30 : decode cX0_copy 30 = .ok (.aload_n 0, 1) := by decide +kernel
theorem dX0_copy_31 : decode cX0_copy 31 = .ok (.getfield 29, 3) := by decide +kernel
theorem dX0_copy_34 : decode cX0_copy 34 = .ok (.iconst 1, 1) := by decide +kernel
theorem dX0_copy_35 : decode cX0_copy 35 = .ok (.if_icmp .ne 8, 3) := by decide +kernel
theorem dX0_copy_38 : decode cX0_copy 38 = .ok (.aload_n 0, 1) := by decide +kernel
theorem dX0_copy_39 : decode cX0_copy 39 = .ok (.invokevirtual 58, 3) := by decide +kernel
theorem dX0_copy_42 : decode cX0_copy 42 = .ok (.ireturn, 1) := by decide +kernel
theorem dX0_copy_43 : decode cX0_copy 43 = .ok (.aload_n 0, 1) := by decide +kernel
theorem dX0_copy_44 : decode cX0_copy 44 = .ok (.iconst 3, 1) := by decide +kernel
theorem dX0_copy_45 : decode cX0_copy 45 = .ok (.putfield 29, 3) := by decide +kernel
theorem dX0_copy_48 : decode cX0_copy 48 = .ok (.bipush 34, 2) := by decide +kernel
theorem dX0_copy_50 : decode cX0_copy 50 = .ok (.ireturn, 1) := by decide +kernel
theorem dX0_phase_0 : decode cX0_phase 0 = .ok (.aload_n 0, 1) := by decide +kernel
theorem dX0_phase_1 : decode cX0_phase 1 = .ok (.getfield 29, 3) := by decide +kernel
theorem dX0_phase_4 : decode cX0_phase 4 = .ok (.ireturn, 1) := by decide +kernel
theorem dX0_round_0 : decode cX0_round 0 = .ok (.aload_n 0, 1) := by decide +kernel
theorem dX0_round_1 : decode cX0_round 1 = .ok (.getfield 32, 3) := by decide +kernel
theorem dX0_round_4 : decode cX0_round 4 = .ok (.ireturn, 1) := by decide +kernel
set_option maxRecDepth 20000 in
theorem ggX0_dirty_X0_isPage : GoodIn wsX0_dirty wsX0_isPage := goodIn_r _ [5] (by decide +kernel) (by decide +kernel)
set_option maxRecDepth 20000 in
theorem gX0_dirty_X0_isPage : GoodIn wsX0_dirty (va_wsS RX0 61 yX0_isPage wsX0_isPage) := goodIn_app (goodIn_of _ (by decide +kernel)) ggX0_dirty_X0_isPage
set_option maxRecDepth 20000 in
theorem ggX0_dirty_X0_hasPage : GoodIn wsX0_dirty wsX0_hasPage := goodIn_r _ [8] (by decide +kernel) (by decide +kernel)
set_option maxRecDepth 20000 in
theorem gX0_dirty_X0_hasPage : GoodIn wsX0_dirty (va_wsS RX0 64 yX0_hasPage wsX0_hasPage) := goodIn_app (goodIn_of _ (by decide +kernel)) ggX0_dirty_X0_hasPage
theorem dX0_dirty_0 : decode cX0_dirty 0 = .ok (.iload_n 1, 1) := by decide +kernel
theorem dX0_dirty_1 : decode cX0_dirty 1 = .ok (.invokestatic 61, 3) := by decide +kernel
theorem dX0_dirty_4 : decode cX0_dirty 4 = .ok (.ifCond .eq 18, 3) := by decide +kernel
theorem dX0_dirty_7 : decode cX0_dirty 7 = .ok (.aload_n 0, 1) := by decide +kernel
theorem dX0_dirty_8 : decode cX0_dirty 8 = .ok (.getfield 41, 3) := by decide +kernel
theorem dX0_dirty_11 : decode cX0_dirty 11 = .ok (.iload_n 1, 1) := by decide +kernel
theorem dX0_dirty_12 : decode cX0_dirty 12 = .ok (.invokestatic 64, 3) := by decide +kernel
theorem dX0_dirty_15 : decode cX0_dirty 15 = .ok (.ifCond .eq 7, 3) := by decide +kernel
theorem dX0_dirty_18 : decode cX0_dirty 18 = .ok (.iconst 1, 1) := by decide +kernel
theorem dX0_dirty_19 : decode cX0_dirty 19 = .ok (.goto 4, 3) := by decide +kernel
theorem dX0_dirty_22 : decode cX0_dirty 22 = .ok (.iconst 0, 1) := by decide +kernel
theorem dX0_dirty_23 : decode cX0_dirty 23 = .ok (.ireturn, 1) := by decide +kernel
set_option maxRecDepth 20000 in
theorem ggX0_waits_X0_isPage : GoodIn wsX0_waits wsX0_isPage := goodIn_r _ [5] (by decide +kernel) (by decide +kernel)
set_option maxRecDepth 20000 in
theorem gX0_waits_X0_isPage : GoodIn wsX0_waits (va_wsS RX0 61 yX0_isPage wsX0_isPage) := goodIn_app (goodIn_of _ (by decide +kernel)) ggX0_waits_X0_isPage
set_option maxRecDepth 20000 in
theorem ggX0_waits_X0_hasPage : GoodIn wsX0_waits wsX0_hasPage := goodIn_r _ [8] (by decide +kernel) (by decide +kernel)
set_option maxRecDepth 20000 in
theorem gX0_waits_X0_hasPage : GoodIn wsX0_waits (va_wsS RX0 64 yX0_hasPage wsX0_hasPage) := goodIn_app (goodIn_of _ (by decide +kernel)) ggX0_waits_X0_hasPage
theorem dX0_waits_0 : decode cX0_waits 0 = .ok (.iload_n 1, 1) := by decide +kernel
theorem dX0_waits_1 : decode cX0_waits 1 = .ok (.invokestatic 61, 3) := by decide +kernel
theorem dX0_waits_4 : decode cX0_waits 4 = .ok (.ifCond .eq 18, 3) := by decide +kernel
theorem dX0_waits_7 : decode cX0_waits 7 = .ok (.aload_n 0, 1) := by decide +kernel
theorem dX0_waits_8 : decode cX0_waits 8 = .ok (.getfield 44, 3) := by decide +kernel
theorem dX0_waits_11 : decode cX0_waits 11 = .ok (.iload_n 1, 1) := by decide +kernel
theorem dX0_waits_12 : decode cX0_waits 12 = .ok (.invokestatic 64, 3) := by decide +kernel
theorem dX0_waits_15 : decode cX0_waits 15 = .ok (.ifCond .eq 7, 3) := by decide +kernel
theorem dX0_waits_18 : decode cX0_waits 18 = .ok (.iconst 1, 1) := by decide +kernel
theorem dX0_waits_19 : decode cX0_waits 19 = .ok (.goto 4, 3) := by decide +kernel
theorem dX0_waits_22 : decode cX0_waits 22 = .ok (.iconst 0, 1) := by decide +kernel
theorem dX0_waits_23 : decode cX0_waits 23 = .ok (.ireturn, 1) := by decide +kernel
set_option maxRecDepth 20000 in
theorem ggX0_source_X0_isAddress : GoodIn wsX0_source wsX0_isAddress := goodIn_r _ [5] (by decide +kernel) (by decide +kernel)
set_option maxRecDepth 20000 in
theorem gX0_source_X0_isAddress : GoodIn wsX0_source (va_wsS RX0 47 yX0_isAddress wsX0_isAddress) := goodIn_app (goodIn_of _ (by decide +kernel)) ggX0_source_X0_isAddress
theorem dX0_source_0 : decode cX0_source 0 = .ok (.iload_n 1, 1) := by decide +kernel
theorem dX0_source_1 : decode cX0_source 1 = .ok (.invokestatic 47, 3) := by decide +kernel
theorem dX0_source_4 : decode cX0_source 4 = .ok (.ifCond .eq 12, 3) := by decide +kernel
theorem dX0_source_7 : decode cX0_source 7 = .ok (.aload_n 0, 1) := by decide +kernel
theorem dX0_source_8 : decode cX0_source 8 = .ok (.getfield 9, 3) := by decide +kernel
theorem dX0_source_11 : decode cX0_source 11 = .ok (.iload_n 1, 1) := by decide +kernel
theorem dX0_source_12 : decode cX0_source 12 = .ok (.iaload, 1) := by decide +kernel
theorem dX0_source_13 : decode cX0_source 13 = .ok (.goto 4, 3) := by decide +kernel
theorem dX0_source_16 : decode cX0_source 16 = .ok (.iconst 0, 1) := by decide +kernel
theorem dX0_source_17 : decode cX0_source 17 = .ok (.ireturn, 1) := by decide +kernel
set_option maxRecDepth 20000 in
theorem ggX0_destination_X0_isAddress : GoodIn wsX0_destination wsX0_isAddress := goodIn_r _ [5] (by decide +kernel) (by decide +kernel)
set_option maxRecDepth 20000 in
theorem gX0_destination_X0_isAddress : GoodIn wsX0_destination (va_wsS RX0 47 yX0_isAddress wsX0_isAddress) := goodIn_app (goodIn_of _ (by decide +kernel)) ggX0_destination_X0_isAddress
theorem dX0_destination_0 : decode cX0_destination 0 = .ok (.iload_n 1, 1) := by decide +kernel
theorem dX0_destination_1 : decode cX0_destination 1 = .ok (.invokestatic 47, 3) := by decide +kernel
theorem dX0_destination_4 : decode cX0_destination 4 = .ok (.ifCond .eq 12, 3) := by decide +kernel
theorem dX0_destination_7 : decode cX0_destination 7 = .ok (.aload_n 0, 1) := by decide +kernel
theorem dX0_destination_8 : decode cX0_destination 8 = .ok (.getfield 13, 3) := by decide +kernel
theorem dX0_destination_11 : decode cX0_destination 11 = .ok (.iload_n 1, 1) := by decide +kernel
theorem dX0_destination_12 : decode cX0_destination 12 = .ok (.iaload, 1) := by decide +kernel
theorem dX0_destination_13 : decode cX0_destination 13 = .ok (.goto 4, 3) := by decide +kernel
theorem dX0_destination_16 : decode cX0_destination 16 = .ok (.iconst 0, 1) := by decide +kernel
theorem dX0_destination_17 : decode cX0_destination 17 = .ok (.ireturn, 1) := by decide +kernel
theorem dX0_register_0 : decode cX0_register 0 = .ok (.iload_n 1, 1) := by decide +kernel
theorem dX0_register_1 : decode cX0_register 1 = .ok (.ifCond .lt 17, 3) := by decide +kernel
theorem dX0_register_4 : decode cX0_register 4 = .ok (.iload_n 1, 1) := by decide +kernel
theorem dX0_register_5 : decode cX0_register 5 = .ok (.iconst 4, 1) := by decide +kernel
theorem dX0_register_6 : decode cX0_register 6 = .ok (.if_icmp .ge 12, 3) := by decide +kernel
theorem dX0_register_9 : decode cX0_register 9 = .ok (.aload_n 0, 1) := by decide +kernel
theorem dX0_register_10 : decode cX0_register 10 = .ok (.getfield 16, 3) := by decide +kernel
theorem dX0_register_13 : decode cX0_register 13 = .ok (.iload_n 1, 1) := by decide +kernel
theorem dX0_register_14 : decode cX0_register 14 = .ok (.iaload, 1) := by decide +kernel
theorem dX0_register_15 : decode cX0_register 15 = .ok (.goto 4, 3) := by decide +kernel
theorem dX0_register_18 : decode cX0_register 18 = .ok (.iconst 0, 1) := by decide +kernel
theorem dX0_register_19 : decode cX0_register 19 = .ok (.ireturn, 1) := by decide +kernel
theorem dX0_pc_0 : decode cX0_pc 0 = .ok (.aload_n 0, 1) := by decide +kernel
theorem dX0_pc_1 : decode cX0_pc 1 = .ok (.getfield 22, 3) := by decide +kernel
theorem dX0_pc_4 : decode cX0_pc 4 = .ok (.ireturn, 1) := by decide +kernel
theorem dX0_shows_0 : decode cX0_shows 0 = .ok (.aload_n 0, 1) := by decide +kernel
theorem dX0_shows_1 : decode cX0_shows 1 = .ok (.getfield 26, 3) := by decide +kernel
theorem dX0_shows_4 : decode cX0_shows 4 = .ok (.ireturn, 1) := by decide +kernel
theorem dX0_shown_0 : decode cX0_shown 0 = .ok (.iload_n 1, 1) := by decide +kernel
theorem dX0_shown_1 : decode cX0_shown 1 = .ok (.ifCond .lt 17, 3) := by decide +kernel
theorem dX0_shown_4 : decode cX0_shown 4 = .ok (.iload_n 1, 1) := by decide +kernel
theorem dX0_shown_5 : decode cX0_shown 5 = .ok (.bipush 8, 2) := by decide +kernel
theorem dX0_shown_7 : decode cX0_shown 7 = .ok (.if_icmp .ge 11, 3) := by decide +kernel
theorem dX0_shown_10 : decode cX0_shown 10 = .ok (.iload_n 1, 1) := by decide +kernel
theorem dX0_shown_11 : decode cX0_shown 11 = .ok (.aload_n 0, 1) := by decide +kernel
theorem dX0_shown_12 : decode cX0_shown 12 = .ok (.getfield 26, 3) := by decide +kernel
theorem dX0_shown_15 : decode cX0_shown 15 = .ok (.if_icmp .lt 5, 3) := by decide +kernel
theorem dX0_shown_18 : decode cX0_shown 18 = .ok (.iconst 0, 1) := by decide +kernel
theorem dX0_shown_19 : decode cX0_shown 19 = .ok (.ireturn, 1) := by decide +kernel
theorem dX0_shown_20 : decode cX0_shown 20 = .ok (.aload_n 0, 1) := by decide +kernel
theorem dX0_shown_21 : decode cX0_shown 21 = .ok (.getfield 19, 3) := by decide +kernel
theorem dX0_shown_24 : decode cX0_shown 24 = .ok (.aload_n 0, 1) := by decide +kernel
theorem dX0_shown_25 : decode cX0_shown 25 = .ok (.getfield 26, 3) := by decide +kernel
theorem dX0_shown_28 : decode cX0_shown 28 = .ok (.iconst 1, 1) := by decide +kernel
theorem dX0_shown_29 : decode cX0_shown 29 = .ok (.isub, 1) := by decide +kernel
theorem dX0_shown_30 : decode cX0_shown 30 = .ok (.iload_n 1, 1) := by decide +kernel
theorem dX0_shown_31 : decode cX0_shown 31 = .ok (.isub, 1) := by decide +kernel
theorem dX0_shown_32 : decode cX0_shown 32 = .ok (.bipush 7, 2) := by decide +kernel
theorem dX0_shown_34 : decode cX0_shown 34 = .ok (.iand, 1) := by decide +kernel
theorem dX0_shown_35 : decode cX0_shown 35 = .ok (.iaload, 1) := by decide +kernel
theorem dX0_shown_36 : decode cX0_shown 36 = .ok (.ireturn, 1) := by decide +kernel
theorem dX0_isAddress_0 : decode cX0_isAddress 0 = .ok (.iload_n 0, 1) := by decide +kernel
theorem dX0_isAddress_1 : decode cX0_isAddress 1 = .ok (.ifCond .lt 13, 3) := by decide +kernel
theorem dX0_isAddress_4 : decode cX0_isAddress 4 = .ok (.iload_n 0, 1) := by decide +kernel
theorem dX0_isAddress_5 : decode cX0_isAddress 5 = .ok (.bipush 64, 2) := by decide +kernel
theorem dX0_isAddress_7 : decode cX0_isAddress 7 = .ok (.if_icmp .ge 7, 3) := by decide +kernel
theorem dX0_isAddress_10 : decode cX0_isAddress 10 = .ok (.iconst 1, 1) := by decide +kernel
theorem dX0_isAddress_11 : decode cX0_isAddress 11 = .ok (.goto 4, 3) := by decide +kernel
theorem dX0_isAddress_14 : decode cX0_isAddress 14 = .ok (.iconst 0, 1) := by decide +kernel
theorem dX0_isAddress_15 : decode cX0_isAddress 15 = .ok (.ireturn, 1) := by decide +kernel
theorem dX0_isPage_0 : decode cX0_isPage 0 = .ok (.iload_n 0, 1) := by decide +kernel
theorem dX0_isPage_1 : decode cX0_isPage 1 = .ok (.ifCond .lt 13, 3) := by decide +kernel
theorem dX0_isPage_4 : decode cX0_isPage 4 = .ok (.iload_n 0, 1) := by decide +kernel
theorem dX0_isPage_5 : decode cX0_isPage 5 = .ok (.bipush 8, 2) := by decide +kernel
theorem dX0_isPage_7 : decode cX0_isPage 7 = .ok (.if_icmp .ge 7, 3) := by decide +kernel
theorem dX0_isPage_10 : decode cX0_isPage 10 = .ok (.iconst 1, 1) := by decide +kernel
theorem dX0_isPage_11 : decode cX0_isPage 11 = .ok (.goto 4, 3) := by decide +kernel
theorem dX0_isPage_14 : decode cX0_isPage 14 = .ok (.iconst 0, 1) := by decide +kernel
theorem dX0_isPage_15 : decode cX0_isPage 15 = .ok (.ireturn, 1) := by decide +kernel
theorem dX0_hasPage_0 : decode cX0_hasPage 0 = .ok (.iload_n 0, 1) := by decide +kernel
theorem dX0_hasPage_1 : decode cX0_hasPage 1 = .ok (.iload_n 1, 1) := by decide +kernel
theorem dX0_hasPage_2 : decode cX0_hasPage 2 = .ok (.ishr, 1) := by decide +kernel
theorem dX0_hasPage_3 : decode cX0_hasPage 3 = .ok (.iconst 1, 1) := by decide +kernel
theorem dX0_hasPage_4 : decode cX0_hasPage 4 = .ok (.iand, 1) := by decide +kernel
theorem dX0_hasPage_5 : decode cX0_hasPage 5 = .ok (.ifCond .eq 7, 3) := by decide +kernel
theorem dX0_hasPage_8 : decode cX0_hasPage 8 = .ok (.iconst 1, 1) := by decide +kernel
theorem dX0_hasPage_9 : decode cX0_hasPage 9 = .ok (.goto 4, 3) := by decide +kernel
theorem dX0_hasPage_12 : decode cX0_hasPage 12 = .ok (.iconst 0, 1) := by decide +kernel
theorem dX0_hasPage_13 : decode cX0_hasPage 13 = .ok (.ireturn, 1) := by decide +kernel
set_option maxRecDepth 20000 in
theorem ggX0_copyFirstWaiting_X0_hasPage : GoodIn wsX0_copyFirstWaiting wsX0_hasPage := goodIn_r _ [5] (by decide +kernel) (by decide +kernel)
set_option maxRecDepth 20000 in
theorem gX0_copyFirstWaiting_X0_hasPage : GoodIn wsX0_copyFirstWaiting (va_wsS RX0 64 yX0_hasPage wsX0_hasPage) := goodIn_app (goodIn_of _ (by decide +kernel)) ggX0_copyFirstWaiting_X0_hasPage
set_option maxRecDepth 20000 in
theorem ggX0_copyFirstWaiting_X0_copyPage : GoodIn wsX0_copyFirstWaiting wsX0_copyPage := goodIn_r _ [9, 10, 11, 12, 13, 14, 15, 16, 17, 18, 19, 20, 21, 22, 23] (by decide +kernel) (by decide +kernel)
set_option maxRecDepth 20000 in
theorem gX0_copyFirstWaiting_X0_copyPage : GoodIn wsX0_copyFirstWaiting (wsV RX0 68 RX0 yX0_copyPage wsX0_copyPage) := goodIn_app (goodIn_of _ (by decide +kernel)) ggX0_copyFirstWaiting_X0_copyPage
theorem dX0_copyFirstWaiting_0 : decode cX0_copyFirstWaiting 0 = .ok (.iconst 0, 1) := by decide +kernel
theorem dX0_copyFirstWaiting_1 : decode cX0_copyFirstWaiting 1 = .ok (.istore_n 1, 1) := by decide +kernel
theorem dX0_copyFirstWaiting_2 : decode cX0_copyFirstWaiting 2 = .ok (.iload_n 1, 1) := by decide +kernel
theorem dX0_copyFirstWaiting_3 : decode cX0_copyFirstWaiting 3 = .ok (.bipush 8, 2) := by decide +kernel
theorem dX0_copyFirstWaiting_5 : decode cX0_copyFirstWaiting 5 = .ok (.if_icmp .ge 41, 3) := by decide +kernel
theorem dX0_copyFirstWaiting_8 : decode cX0_copyFirstWaiting 8 = .ok (.aload_n 0, 1) := by decide +kernel
theorem dX0_copyFirstWaiting_9 : decode cX0_copyFirstWaiting 9 = .ok (.getfield 44, 3) := by decide +kernel
theorem dX0_copyFirstWaiting_12 : decode cX0_copyFirstWaiting 12 = .ok (.iload_n 1, 1) := by decide +kernel
theorem dX0_copyFirstWaiting_13 : decode cX0_copyFirstWaiting 13 = .ok (.invokestatic 64, 3) := by decide +kernel
theorem dX0_copyFirstWaiting_16 : decode cX0_copyFirstWaiting 16 = .ok (.ifCond .eq 24, 3) := by decide +kernel
theorem dX0_copyFirstWaiting_19 : decode cX0_copyFirstWaiting 19 = .ok (.aload_n 0, 1) := by decide +kernel
theorem dX0_copyFirstWaiting_20 : decode cX0_copyFirstWaiting 20 = .ok (.iload_n 1, 1) := by decide +kernel
theorem dX0_copyFirstWaiting_21 : decode cX0_copyFirstWaiting 21 = .ok (.invokevirtual 68, 3) := by decide +kernel
theorem dX0_copyFirstWaiting_24 : decode cX0_copyFirstWaiting 24 = .ok (.aload_n 0, 1) := by decide +kernel
theorem dX0_copyFirstWaiting_25 : decode cX0_copyFirstWaiting 25 = .ok (.dup, 1) := by decide +kernel
theorem dX0_copyFirstWaiting_26 : decode cX0_copyFirstWaiting 26 = .ok (.getfield 44, 3) := by decide +kernel
theorem dX0_copyFirstWaiting_29 : decode cX0_copyFirstWaiting 29 = .ok (.iconst 1, 1) := by decide +kernel
theorem dX0_copyFirstWaiting_30 : decode cX0_copyFirstWaiting 30 = .ok (.iload_n 1, 1) := by decide +kernel
theorem dX0_copyFirstWaiting_31 : decode cX0_copyFirstWaiting 31 = .ok (.ishl, 1) := by decide +kernel
theorem dX0_copyFirstWaiting_32 : decode cX0_copyFirstWaiting 32 = .ok (.iconst (-1), 1) := by decide +kernel
theorem dX0_copyFirstWaiting_33 : decode cX0_copyFirstWaiting 33 = .ok (.ixor, 1) := by decide +kernel
theorem dX0_copyFirstWaiting_34 : decode cX0_copyFirstWaiting 34 = .ok (.iand, 1) := by decide +kernel
theorem dX0_copyFirstWaiting_35 : decode cX0_copyFirstWaiting 35 = .ok (.putfield 44, 3) := by decide +kernel
theorem dX0_copyFirstWaiting_38 : decode cX0_copyFirstWaiting 38 = .ok (.iload_n 1, 1) := by decide +kernel
theorem dX0_copyFirstWaiting_39 : decode cX0_copyFirstWaiting 39 = .ok (.ireturn, 1) := by decide +kernel
theorem dX0_copyFirstWaiting_40 : decode cX0_copyFirstWaiting 40 = .ok (.iinc 1 1, 3) := by decide +kernel
theorem dX0_copyFirstWaiting_43 : decode cX0_copyFirstWaiting 43 = .ok (.goto (-41), 3) := by decide +kernel
theorem dX0_copyFirstWaiting_46 : decode cX0_copyFirstWaiting 46 = .ok (.iconst (-1), 1) := by decide +kernel
theorem dX0_copyFirstWaiting_47 : decode cX0_copyFirstWaiting 47 = .ok (.ireturn, 1) := by decide +kernel
theorem dX0_copyPage_0 : decode cX0_copyPage 0 = .ok (.iload_n 1, 1) := by decide +kernel
theorem dX0_copyPage_1 : decode cX0_copyPage 1 = .ok (.iconst 3, 1) := by decide +kernel
theorem dX0_copyPage_2 : decode cX0_copyPage 2 = .ok (.ishl, 1) := by decide +kernel
theorem dX0_copyPage_3 : decode cX0_copyPage 3 = .ok (.istore_n 2, 1) := by decide +kernel
theorem dX0_copyPage_4 : decode cX0_copyPage 4 = .ok (.iconst 0, 1) := by decide +kernel
theorem dX0_copyPage_5 : decode cX0_copyPage 5 = .ok (.istore_n 3, 1) := by decide +kernel
theorem dX0_copyPage_6 : decode cX0_copyPage 6 = .ok (.iload_n 3, 1) := by decide +kernel
theorem dX0_copyPage_7 : decode cX0_copyPage 7 = .ok (.bipush 8, 2) := by decide +kernel
theorem dX0_copyPage_9 : decode cX0_copyPage 9 = .ok (.if_icmp .ge 31, 3) := by decide +kernel
theorem dX0_copyPage_12 : decode cX0_copyPage 12 = .ok (.iload_n 2, 1) := by decide +kernel
theorem dX0_copyPage_13 : decode cX0_copyPage 13 = .ok (.iload_n 3, 1) := by decide +kernel
theorem dX0_copyPage_14 : decode cX0_copyPage 14 = .ok (.iadd, 1) := by decide +kernel
theorem dX0_copyPage_15 : decode cX0_copyPage 15 = .ok (.bipush 63, 2) := by decide +kernel
theorem dX0_copyPage_17 : decode cX0_copyPage 17 = .ok (.iand, 1) := by decide +kernel
theorem dX0_copyPage_18 : decode cX0_copyPage 18 = .ok (.istore 4, 2) := by decide +kernel
theorem dX0_copyPage_20 : decode cX0_copyPage 20 = .ok (.aload_n 0, 1) := by decide +kernel
theorem dX0_copyPage_21 : decode cX0_copyPage 21 = .ok (.getfield 13, 3) := by decide +kernel
theorem dX0_copyPage_24 : decode cX0_copyPage 24 = .ok (.iload 4, 2) := by decide +kernel
theorem dX0_copyPage_26 : decode cX0_copyPage 26 = .ok (.aload_n 0, 1) := by decide +kernel
theorem dX0_copyPage_27 : decode cX0_copyPage 27 = .ok (.getfield 9, 3) := by decide +kernel
theorem dX0_copyPage_30 : decode cX0_copyPage 30 = .ok (.iload 4, 2) := by decide +kernel
theorem dX0_copyPage_32 : decode cX0_copyPage 32 = .ok (.iaload, 1) := by decide +kernel
theorem dX0_copyPage_33 : decode cX0_copyPage 33 = .ok (.iastore, 1) := by decide +kernel
theorem dX0_copyPage_34 : decode cX0_copyPage 34 = .ok (.iinc 3 1, 3) := by decide +kernel
theorem dX0_copyPage_37 : decode cX0_copyPage 37 = .ok (.goto (-31), 3) := by decide +kernel
theorem dX0_copyPage_40 : decode cX0_copyPage 40 = .ok (.return_, 1) := by decide +kernel
set_option maxRecDepth 20000 in
theorem ggX0_endRound_J6_bitCount_0f7a4 : GoodIn wsX0_endRound wsJ6_bitCount_0f7a4 := goodIn_r _ [10, 11, 12, 13] (by decide +kernel) (by decide +kernel)
set_option maxRecDepth 20000 in
theorem gX0_endRound_J6_bitCount_0f7a4 : GoodIn wsX0_endRound (va_wsS RX0 72 yJ6_bitCount_0f7a4 wsJ6_bitCount_0f7a4) := goodIn_app (goodIn_of _ (by decide +kernel)) ggX0_endRound_J6_bitCount_0f7a4
theorem dX0_endRound_0 : decode cX0_endRound 0 = .ok (.aload_n 0, 1) := by decide +kernel
theorem dX0_endRound_1 : decode cX0_endRound 1 = .ok (.aload_n 0, 1) := by decide +kernel
theorem dX0_endRound_2 : decode cX0_endRound 2 = .ok (.getfield 41, 3) := by decide +kernel
theorem dX0_endRound_5 : decode cX0_endRound 5 = .ok (.putfield 44, 3) := by decide +kernel
theorem dX0_endRound_8 : decode cX0_endRound 8 = .ok (.aload_n 0, 1) := by decide +kernel
theorem dX0_endRound_9 : decode cX0_endRound 9 = .ok (.getfield 41, 3) := by decide +kernel
theorem dX0_endRound_12 : decode cX0_endRound 12 = .ok (.invokestatic 72, 3) := by decide +kernel
theorem dX0_endRound_15 : decode cX0_endRound 15 = .ok (.aload_n 0, 1) := by decide +kernel
theorem dX0_endRound_16 : decode cX0_endRound 16 = .ok (.getfield 35, 3) := by decide +kernel
theorem dX0_endRound_19 : decode cX0_endRound 19 = .ok (.if_icmp .le 14, 3) := by decide +kernel
theorem dX0_endRound_22 : decode cX0_endRound 22 = .ok (.aload_n 0, 1) := by decide +kernel
theorem dX0_endRound_23 : decode cX0_endRound 23 = .ok (.getfield 32, 3) := by decide +kernel
theorem dX0_endRound_26 : decode cX0_endRound 26 = .ok (.aload_n 0, 1) := by decide +kernel
theorem dX0_endRound_27 : decode cX0_endRound 27 = .ok (.getfield 38, 3) := by decide +kernel
theorem dX0_endRound_30 : decode cX0_endRound 30 = .ok (.if_icmp .ne 11, 3) := by decide +kernel
theorem dX0_endRound_33 : decode cX0_endRound 33 = .ok (.aload_n 0, 1) := by decide +kernel
theorem dX0_endRound_34 : decode cX0_endRound 34 = .ok (.iconst 2, 1) := by decide +kernel
theorem dX0_endRound_35 : decode cX0_endRound 35 = .ok (.putfield 29, 3) := by decide +kernel
theorem dX0_endRound_38 : decode cX0_endRound 38 = .ok (.bipush 33, 2) := by decide +kernel
theorem dX0_endRound_40 : decode cX0_endRound 40 = .ok (.ireturn, 1) := by decide +kernel
theorem dX0_endRound_41 : decode cX0_endRound 41 = .ok (.aload_n 0, 1) := by decide +kernel
theorem dX0_endRound_42 : decode cX0_endRound 42 = .ok (.iconst 0, 1) := by decide +kernel
theorem dX0_endRound_43 : decode cX0_endRound 43 = .ok (.putfield 41, 3) := by decide +kernel
theorem dX0_endRound_46 : decode cX0_endRound 46 = .ok (.aload_n 0, 1) := by decide +kernel
theorem dX0_endRound_47 : decode cX0_endRound 47 = .ok (.dup, 1) := by decide +kernel
theorem dX0_endRound_48 : decode cX0_endRound 48 = .ok (.getfield 32, 3) := by decide +kernel
theorem dX0_endRound_51 : decode cX0_endRound 51 = .ok (.iconst 1, 1) := by decide +kernel
theorem dX0_endRound_52 : decode cX0_endRound 52 = .ok (.iadd, 1) := by decide +kernel
theorem dX0_endRound_53 : decode cX0_endRound 53 = .ok (.putfield 32, 3) := by decide +kernel
theorem dX0_endRound_56 : decode cX0_endRound 56 = .ok (.bipush 32, 2) := by decide +kernel
theorem dX0_endRound_58 : decode cX0_endRound 58 = .ok (.ireturn, 1) := by decide +kernel
set_option maxRecDepth 20000 in
theorem ggX0_guestStep_X0_readWord : GoodIn wsX0_guestStep wsX0_readWord := goodIn_r _ [7, 8, 9, 10, 22, 23, 24, 25, 26, 27, 28, 29, 30, 31, 32, 33] (by decide +kernel) (by decide +kernel)
set_option maxRecDepth 20000 in
theorem gX0_guestStep_X0_readWord : GoodIn wsX0_guestStep (wsV RX0 78 RX0 yX0_readWord wsX0_readWord) := goodIn_app (goodIn_of _ (by decide +kernel)) ggX0_guestStep_X0_readWord
set_option maxRecDepth 20000 in
theorem ggX0_guestStep_X0_writeWord : GoodIn wsX0_guestStep wsX0_writeWord := goodIn_r _ [14, 8, 9, 10, 15, 22, 23, 24, 25, 26, 27, 28, 29, 30, 31, 32, 33] (by decide +kernel) (by decide +kernel)
set_option maxRecDepth 20000 in
theorem gX0_guestStep_X0_writeWord : GoodIn wsX0_guestStep (wsV RX0 81 RX0 yX0_writeWord wsX0_writeWord) := goodIn_app (goodIn_of _ (by decide +kernel)) ggX0_guestStep_X0_writeWord
set_option maxRecDepth 20000 in
theorem ggX0_guestStep_X0_show : GoodIn wsX0_guestStep wsX0_show := goodIn_r _ [19, 20, 21, 22, 23, 24, 25, 26, 27, 28, 29, 30, 31, 32, 33] (by decide +kernel) (by decide +kernel)
set_option maxRecDepth 20000 in
theorem gX0_guestStep_X0_show : GoodIn wsX0_guestStep (wsV RX0 85 RX0 yX0_show wsX0_show) := goodIn_app (goodIn_of _ (by decide +kernel)) ggX0_guestStep_X0_show
theorem dX0_guestStep_0 : decode cX0_guestStep 0 = .ok (.aload_n 0, 1) := by decide +kernel
theorem dX0_guestStep_1 : decode cX0_guestStep 1 = .ok (.aload_n 0, 1) := by decide +kernel
theorem dX0_guestStep_2 : decode cX0_guestStep 2 = .ok (.getfield 22, 3) := by decide +kernel
theorem dX0_guestStep_5 : decode cX0_guestStep 5 = .ok (.invokevirtual 78, 3) := by decide +kernel
theorem dX0_guestStep_8 : decode cX0_guestStep 8 = .ok (.istore_n 1, 1) := by decide +kernel
theorem dX0_guestStep_9 : decode cX0_guestStep 9 = .ok (.iload_n 1, 1) := by decide +kernel
theorem dX0_guestStep_10 : decode cX0_guestStep 10 = .ok (.iconst 3, 1) := by decide +kernel
theorem dX0_guestStep_11 : decode cX0_guestStep 11 = .ok (.ishr, 1) := by decide +kernel
theorem dX0_guestStep_12 : decode cX0_guestStep 12 = .ok (.iconst 3, 1) := by decide +kernel
theorem dX0_guestStep_13 : decode cX0_guestStep 13 = .ok (.iand, 1) := by decide +kernel
theorem dX0_guestStep_14 : decode cX0_guestStep 14 = .ok (.istore_n 2, 1) := by decide +kernel
theorem dX0_guestStep_15 : decode cX0_guestStep 15 = .ok (.iload_n 1, 1) := by decide +kernel
theorem dX0_guestStep_16 : decode cX0_guestStep 16 = .ok (.iconst 5, 1) := by decide +kernel
theorem dX0_guestStep_17 : decode cX0_guestStep 17 = .ok (.ishr, 1) := by decide +kernel
theorem dX0_guestStep_18 : decode cX0_guestStep 18 = .ok (.iconst 3, 1) := by decide +kernel
theorem dX0_guestStep_19 : decode cX0_guestStep 19 = .ok (.iand, 1) := by decide +kernel
theorem dX0_guestStep_20 : decode cX0_guestStep 20 = .ok (.istore_n 3, 1) := by decide +kernel
theorem dX0_guestStep_21 : decode cX0_guestStep 21 = .ok (.iload_n 1, 1) := by decide +kernel
theorem dX0_guestStep_22 : decode cX0_guestStep 22 = .ok (.bipush 7, 2) := by decide +kernel
theorem dX0_guestStep_24 : decode cX0_guestStep 24 = .ok (.ishr, 1) := by decide +kernel
theorem dX0_guestStep_25 : decode cX0_guestStep 25 = .ok (.bipush 127, 2) := by decide +kernel
theorem dX0_guestStep_27 : decode cX0_guestStep 27 = .ok (.iand, 1) := by decide +kernel
theorem dX0_guestStep_28 : decode cX0_guestStep 28 = .ok (.istore 4, 2) := by decide +kernel
theorem dX0_guestStep_30 : decode cX0_guestStep 30 = .ok (.aload_n 0, 1) := by decide +kernel
theorem dX0_guestStep_31 : decode cX0_guestStep 31 = .ok (.getfield 22, 3) := by decide +kernel
theorem dX0_guestStep_34 : decode cX0_guestStep 34 = .ok (.iconst 1, 1) := by decide +kernel
theorem dX0_guestStep_35 : decode cX0_guestStep 35 = .ok (.iadd, 1) := by decide +kernel
theorem dX0_guestStep_36 : decode cX0_guestStep 36 = .ok (.istore 5, 2) := by decide +kernel
theorem dX0_guestStep_38 : decode cX0_guestStep 38 = .ok (.iload_n 1, 1) := by decide +kernel
theorem dX0_guestStep_39 : decode cX0_guestStep 39 = .ok (.bipush 7, 2) := by decide +kernel
theorem dX0_guestStep_41 : decode cX0_guestStep 41 = .ok (.iand, 1) := by decide +kernel
theorem dX0_guestStep_42 : decode cX0_guestStep 42 = .ok (.tableswitch 171 0 6 #[42, 51, 62, 84, 106, 128, 150], 42) := by decide +kernel
theorem dX0_guestStep_84 : decode cX0_guestStep 84 = .ok (.aload_n 0, 1) := by decide +kernel
theorem dX0_guestStep_85 : decode cX0_guestStep 85 = .ok (.getfield 22, 3) := by decide +kernel
theorem dX0_guestStep_88 : decode cX0_guestStep 88 = .ok (.istore 5, 2) := by decide +kernel
theorem dX0_guestStep_90 : decode cX0_guestStep 90 = .ok (.goto 133, 3) := by decide +kernel
theorem dX0_guestStep_93 : decode cX0_guestStep 93 = .ok (.aload_n 0, 1) := by decide +kernel
theorem dX0_guestStep_94 : decode cX0_guestStep 94 = .ok (.getfield 16, 3) := by decide +kernel
theorem dX0_guestStep_97 : decode cX0_guestStep 97 = .ok (.iload_n 2, 1) := by decide +kernel
theorem dX0_guestStep_98 : decode cX0_guestStep 98 = .ok (.iload 4, 2) := by decide +kernel
theorem dX0_guestStep_100 : decode cX0_guestStep 100 = .ok (.iastore, 1) := by decide +kernel
theorem dX0_guestStep_101 : decode cX0_guestStep 101 = .ok (.goto 122, 3) := by decide +kernel
theorem dX0_guestStep_104 : decode cX0_guestStep 104 = .ok (.aload_n 0, 1) := by decide +kernel
theorem dX0_guestStep_105 : decode cX0_guestStep 105 = .ok (.getfield 16, 3) := by decide +kernel
theorem dX0_guestStep_108 : decode cX0_guestStep 108 = .ok (.iload_n 2, 1) := by decide +kernel
theorem dX0_guestStep_109 : decode cX0_guestStep 109 = .ok (.aload_n 0, 1) := by decide +kernel
theorem dX0_guestStep_110 : decode cX0_guestStep 110 = .ok (.aload_n 0, 1) := by decide +kernel
theorem dX0_guestStep_111 : decode cX0_guestStep 111 = .ok (.getfield 16, 3) := by decide +kernel
theorem dX0_guestStep_114 : decode cX0_guestStep 114 = .ok (.iload_n 3, 1) := by decide +kernel
theorem dX0_guestStep_115 : decode cX0_guestStep 115 = .ok (.iaload, 1) := by decide +kernel
theorem dX0_guestStep_116 : decode cX0_guestStep 116 = .ok (.iload 4, 2) := by decide +kernel
theorem dX0_guestStep_118 : decode cX0_guestStep 118 = .ok (.iadd, 1) := by decide +kernel
theorem dX0_guestStep_119 : decode cX0_guestStep 119 = .ok (.invokevirtual 78, 3) := by decide +kernel
theorem dX0_guestStep_122 : decode cX0_guestStep 122 = .ok (.iastore, 1) := by decide +kernel
theorem dX0_guestStep_123 : decode cX0_guestStep 123 = .ok (.goto 100, 3) := by decide +kernel
theorem dX0_guestStep_126 : decode cX0_guestStep 126 = .ok (.aload_n 0, 1) := by decide +kernel
theorem dX0_guestStep_127 : decode cX0_guestStep 127 = .ok (.aload_n 0, 1) := by decide +kernel
theorem dX0_guestStep_128 : decode cX0_guestStep 128 = .ok (.getfield 16, 3) := by decide +kernel
theorem dX0_guestStep_131 : decode cX0_guestStep 131 = .ok (.iload_n 3, 1) := by decide +kernel
theorem dX0_guestStep_132 : decode cX0_guestStep 132 = .ok (.iaload, 1) := by decide +kernel
theorem dX0_guestStep_133 : decode cX0_guestStep 133 = .ok (.iload 4, 2) := by decide +kernel
theorem dX0_guestStep_135 : decode cX0_guestStep 135 = .ok (.iadd, 1) := by decide +kernel
theorem dX0_guestStep_136 : decode cX0_guestStep 136 = .ok (.aload_n 0, 1) := by decide +kernel
theorem dX0_guestStep_137 : decode cX0_guestStep 137 = .ok (.getfield 16, 3) := by decide +kernel
theorem dX0_guestStep_140 : decode cX0_guestStep 140 = .ok (.iload_n 2, 1) := by decide +kernel
theorem dX0_guestStep_141 : decode cX0_guestStep 141 = .ok (.iaload, 1) := by decide +kernel
theorem dX0_guestStep_142 : decode cX0_guestStep 142 = .ok (.invokevirtual 81, 3) := by decide +kernel
theorem dX0_guestStep_145 : decode cX0_guestStep 145 = .ok (.goto 78, 3) := by decide +kernel
theorem dX0_guestStep_148 : decode cX0_guestStep 148 = .ok (.aload_n 0, 1) := by decide +kernel
theorem dX0_guestStep_149 : decode cX0_guestStep 149 = .ok (.getfield 16, 3) := by decide +kernel
theorem dX0_guestStep_152 : decode cX0_guestStep 152 = .ok (.iload_n 2, 1) := by decide +kernel
theorem dX0_guestStep_153 : decode cX0_guestStep 153 = .ok (.aload_n 0, 1) := by decide +kernel
theorem dX0_guestStep_154 : decode cX0_guestStep 154 = .ok (.getfield 16, 3) := by decide +kernel
theorem dX0_guestStep_157 : decode cX0_guestStep 157 = .ok (.iload_n 2, 1) := by decide +kernel
theorem dX0_guestStep_158 : decode cX0_guestStep 158 = .ok (.iaload, 1) := by decide +kernel
theorem dX0_guestStep_159 : decode cX0_guestStep 159 = .ok (.aload_n 0, 1) := by decide +kernel
theorem dX0_guestStep_160 : decode cX0_guestStep 160 = .ok (.getfield 16, 3) := by decide +kernel
theorem dX0_guestStep_163 : decode cX0_guestStep 163 = .ok (.iload_n 3, 1) := by decide +kernel
theorem dX0_guestStep_164 : decode cX0_guestStep 164 = .ok (.iaload, 1) := by decide +kernel
theorem dX0_guestStep_165 : decode cX0_guestStep 165 = .ok (.iadd, 1) := by decide +kernel
theorem dX0_guestStep_166 : decode cX0_guestStep 166 = .ok (.iastore, 1) := by decide +kernel
theorem dX0_guestStep_167 : decode cX0_guestStep 167 = .ok (.goto 56, 3) := by decide +kernel
theorem dX0_guestStep_170 : decode cX0_guestStep 170 = .ok (.aload_n 0, 1) := by decide +kernel
theorem dX0_guestStep_171 : decode cX0_guestStep 171 = .ok (.getfield 16, 3) := by decide +kernel
theorem dX0_guestStep_174 : decode cX0_guestStep 174 = .ok (.iload_n 2, 1) := by decide +kernel
theorem dX0_guestStep_175 : decode cX0_guestStep 175 = .ok (.aload_n 0, 1) := by decide +kernel
theorem dX0_guestStep_176 : decode cX0_guestStep 176 = .ok (.getfield 16, 3) := by decide +kernel
theorem dX0_guestStep_179 : decode cX0_guestStep 179 = .ok (.iload_n 2, 1) := by decide +kernel
theorem dX0_guestStep_180 : decode cX0_guestStep 180 = .ok (.iaload, 1) := by decide +kernel
theorem dX0_guestStep_181 : decode cX0_guestStep 181 = .ok (.aload_n 0, 1) := by decide +kernel
theorem dX0_guestStep_182 : decode cX0_guestStep 182 = .ok (.getfield 16, 3) := by decide +kernel
theorem dX0_guestStep_185 : decode cX0_guestStep 185 = .ok (.iload_n 3, 1) := by decide +kernel
theorem dX0_guestStep_186 : decode cX0_guestStep 186 = .ok (.iaload, 1) := by decide +kernel
theorem dX0_guestStep_187 : decode cX0_guestStep 187 = .ok (.isub, 1) := by decide +kernel
theorem dX0_guestStep_188 : decode cX0_guestStep 188 = .ok (.iastore, 1) := by decide +kernel
theorem dX0_guestStep_189 : decode cX0_guestStep 189 = .ok (.goto 34, 3) := by decide +kernel
theorem dX0_guestStep_192 : decode cX0_guestStep 192 = .ok (.aload_n 0, 1) := by decide +kernel
theorem dX0_guestStep_193 : decode cX0_guestStep 193 = .ok (.getfield 16, 3) := by decide +kernel
theorem dX0_guestStep_196 : decode cX0_guestStep 196 = .ok (.iload_n 2, 1) := by decide +kernel
theorem dX0_guestStep_197 : decode cX0_guestStep 197 = .ok (.iaload, 1) := by decide +kernel
theorem dX0_guestStep_198 : decode cX0_guestStep 198 = .ok (.ifCond .eq 8, 3) := by decide +kernel
theorem dX0_guestStep_201 : decode cX0_guestStep 201 = .ok (.iload 4, 2) := by decide +kernel
theorem dX0_guestStep_203 : decode cX0_guestStep 203 = .ok (.goto 5, 3) := by decide +kernel
theorem dX0_guestStep_206 : decode cX0_guestStep 206 = .ok (.iload 5, 2) := by decide +kernel
theorem dX0_guestStep_208 : decode cX0_guestStep 208 = .ok (.istore 5, 2) := by decide +kernel
theorem dX0_guestStep_210 : decode cX0_guestStep 210 = .ok (.goto 13, 3) := by decide +kernel
theorem dX0_guestStep_213 : decode cX0_guestStep 213 = .ok (.aload_n 0, 1) := by decide +kernel
theorem dX0_guestStep_214 : decode cX0_guestStep 214 = .ok (.aload_n 0, 1) := by decide +kernel
theorem dX0_guestStep_215 : decode cX0_guestStep 215 = .ok (.getfield 16, 3) := by decide +kernel
theorem dX0_guestStep_218 : decode cX0_guestStep 218 = .ok (.iload_n 2, 1) := by decide +kernel
theorem dX0_guestStep_219 : decode cX0_guestStep 219 = .ok (.iaload, 1) := by decide +kernel
theorem dX0_guestStep_220 : decode cX0_guestStep 220 = .ok (.invokevirtual 85, 3) := by decide +kernel
theorem dX0_guestStep_223 : decode cX0_guestStep 223 = .ok (.aload_n 0, 1) := by decide +kernel
theorem dX0_guestStep_224 : decode cX0_guestStep 224 = .ok (.iload 5, 2) := by decide +kernel
theorem dX0_guestStep_226 : decode cX0_guestStep 226 = .ok (.bipush 63, 2) := by decide +kernel
theorem dX0_guestStep_228 : decode cX0_guestStep 228 = .ok (.iand, 1) := by decide +kernel
theorem dX0_guestStep_229 : decode cX0_guestStep 229 = .ok (.putfield 22, 3) := by decide +kernel
theorem dX0_guestStep_232 : decode cX0_guestStep 232 = .ok (.return_, 1) := by decide +kernel
theorem dX0_readWord_0 : decode cX0_readWord 0 = .ok (.iload_n 1, 1) := by decide +kernel
theorem dX0_readWord_1 : decode cX0_readWord 1 = .ok (.bipush 63, 2) := by decide +kernel
theorem dX0_readWord_3 : decode cX0_readWord 3 = .ok (.iand, 1) := by decide +kernel
theorem dX0_readWord_4 : decode cX0_readWord 4 = .ok (.istore_n 2, 1) := by decide +kernel
theorem dX0_readWord_5 : decode cX0_readWord 5 = .ok (.aload_n 0, 1) := by decide +kernel
theorem dX0_readWord_6 : decode cX0_readWord 6 = .ok (.getfield 29, 3) := by decide +kernel
theorem dX0_readWord_9 : decode cX0_readWord 9 = .ok (.iconst 3, 1) := by decide +kernel
theorem dX0_readWord_10 : decode cX0_readWord 10 = .ok (.if_icmp .ne 12, 3) := by decide +kernel
theorem dX0_readWord_13 : decode cX0_readWord 13 = .ok (.aload_n 0, 1) := by decide +kernel
theorem dX0_readWord_14 : decode cX0_readWord 14 = .ok (.getfield 13, 3) := by decide +kernel
theorem dX0_readWord_17 : decode cX0_readWord 17 = .ok (.iload_n 2, 1) := by decide +kernel
theorem dX0_readWord_18 : decode cX0_readWord 18 = .ok (.iaload, 1) := by decide +kernel
theorem dX0_readWord_19 : decode cX0_readWord 19 = .ok (.goto 9, 3) := by decide +kernel
theorem dX0_readWord_22 : decode cX0_readWord 22 = .ok (.aload_n 0, 1) := by decide +kernel
theorem dX0_readWord_23 : decode cX0_readWord 23 = .ok (.getfield 9, 3) := by decide +kernel
theorem dX0_readWord_26 : decode cX0_readWord 26 = .ok (.iload_n 2, 1) := by decide +kernel
theorem dX0_readWord_27 : decode cX0_readWord 27 = .ok (.iaload, 1) := by decide +kernel
theorem dX0_readWord_28 : decode cX0_readWord 28 = .ok (.ireturn, 1) := by decide +kernel
theorem dX0_writeWord_0 : decode cX0_writeWord 0 = .ok (.iload_n 1, 1) := by decide +kernel
theorem dX0_writeWord_1 : decode cX0_writeWord 1 = .ok (.bipush 63, 2) := by decide +kernel
theorem dX0_writeWord_3 : decode cX0_writeWord 3 = .ok (.iand, 1) := by decide +kernel
theorem dX0_writeWord_4 : decode cX0_writeWord 4 = .ok (.istore_n 3, 1) := by decide +kernel
theorem dX0_writeWord_5 : decode cX0_writeWord 5 = .ok (.aload_n 0, 1) := by decide +kernel
theorem dX0_writeWord_6 : decode cX0_writeWord 6 = .ok (.getfield 29, 3) := by decide +kernel
theorem dX0_writeWord_9 : decode cX0_writeWord 9 = .ok (.iconst 3, 1) := by decide +kernel
theorem dX0_writeWord_10 : decode cX0_writeWord 10 = .ok (.if_icmp .ne 11, 3) := by decide +kernel
theorem dX0_writeWord_13 : decode cX0_writeWord 13 = .ok (.aload_n 0, 1) := by decide +kernel
theorem dX0_writeWord_14 : decode cX0_writeWord 14 = .ok (.getfield 13, 3) := by decide +kernel
theorem dX0_writeWord_17 : decode cX0_writeWord 17 = .ok (.iload_n 3, 1) := by decide +kernel
theorem dX0_writeWord_18 : decode cX0_writeWord 18 = .ok (.iload_n 2, 1) := by decide +kernel
theorem dX0_writeWord_19 : decode cX0_writeWord 19 = .ok (.iastore, 1) := by decide +kernel
theorem dX0_writeWord_20 : decode cX0_writeWord 20 = .ok (.return_, 1) := by decide +kernel
theorem dX0_writeWord_21 : decode cX0_writeWord 21 = .ok (.aload_n 0, 1) := by decide +kernel
theorem dX0_writeWord_22 : decode cX0_writeWord 22 = .ok (.getfield 9, 3) := by decide +kernel
theorem dX0_writeWord_25 : decode cX0_writeWord 25 = .ok (.iload_n 3, 1) := by decide +kernel
theorem dX0_writeWord_26 : decode cX0_writeWord 26 = .ok (.iload_n 2, 1) := by decide +kernel
theorem dX0_writeWord_27 : decode cX0_writeWord 27 = .ok (.iastore, 1) := by decide +kernel
theorem dX0_writeWord_28 : decode cX0_writeWord 28 = .ok (.aload_n 0, 1) := by decide +kernel
theorem dX0_writeWord_29 : decode cX0_writeWord 29 = .ok (.getfield 29, 3) := by decide +kernel
theorem dX0_writeWord_32 : decode cX0_writeWord 32 = .ok (.iconst 1, 1) := by decide +kernel
theorem dX0_writeWord_33 : decode cX0_writeWord 33 = .ok (.if_icmp .ne 17, 3) := by decide +kernel
theorem dX0_writeWord_36 : decode cX0_writeWord 36 = .ok (.aload_n 0, 1) := by decide +kernel
theorem dX0_writeWord_37 : decode cX0_writeWord 37 = .ok (.dup, 1) := by decide +kernel
theorem dX0_writeWord_38 : decode cX0_writeWord 38 = .ok (.getfield 41, 3) := by decide +kernel
theorem dX0_writeWord_41 : decode cX0_writeWord 41 = .ok (.iconst 1, 1) := by decide +kernel
theorem dX0_writeWord_42 : decode cX0_writeWord 42 = .ok (.iload_n 3, 1) := by decide +kernel
theorem dX0_writeWord_43 : decode cX0_writeWord 43 = .ok (.iconst 3, 1) := by decide +kernel
theorem dX0_writeWord_44 : decode cX0_writeWord 44 = .ok (.ishr, 1) := by decide +kernel
theorem dX0_writeWord_45 : decode cX0_writeWord 45 = .ok (.ishl, 1) := by decide +kernel
theorem dX0_writeWord_46 : decode cX0_writeWord 46 = .ok (.ior, 1) := by decide +kernel
theorem dX0_writeWord_47 : decode cX0_writeWord 47 = .ok (.putfield 41, 3) := by decide +kernel
theorem dX0_writeWord_50 : decode cX0_writeWord 50 = .ok (.return_, 1) := by decide +kernel
theorem dX0_show_0 : decode cX0_show 0 = .ok (.aload_n 0, 1) := by decide +kernel
theorem dX0_show_1 : decode cX0_show 1 = .ok (.getfield 19, 3) := by decide +kernel
theorem dX0_show_4 : decode cX0_show 4 = .ok (.aload_n 0, 1) := by decide +kernel
theorem dX0_show_5 : decode cX0_show 5 = .ok (.getfield 26, 3) := by decide +kernel
theorem dX0_show_8 : decode cX0_show 8 = .ok (.bipush 7, 2) := by decide +kernel
theorem dX0_show_10 : decode cX0_show 10 = .ok (.iand, 1) := by decide +kernel
theorem dX0_show_11 : decode cX0_show 11 = .ok (.iload_n 1, 1) := by decide +kernel
theorem dX0_show_12 : decode cX0_show 12 = .ok (.iastore, 1) := by decide +kernel
theorem dX0_show_13 : decode cX0_show 13 = .ok (.aload_n 0, 1) := by decide +kernel
theorem dX0_show_14 : decode cX0_show 14 = .ok (.dup, 1) := by decide +kernel
theorem dX0_show_15 : decode cX0_show 15 = .ok (.getfield 26, 3) := by decide +kernel
theorem dX0_show_18 : decode cX0_show 18 = .ok (.iconst 1, 1) := by decide +kernel
theorem dX0_show_19 : decode cX0_show 19 = .ok (.iadd, 1) := by decide +kernel
theorem dX0_show_20 : decode cX0_show 20 = .ok (.putfield 26, 3) := by decide +kernel
theorem dX0_show_23 : decode cX0_show 23 = .ok (.return_, 1) := by decide +kernel
end
section
theorem dX1_init_0 : decode cX1_init 0 = .ok (.aload_n 0, 1) := by decide +kernel
theorem dX1_init_1 : decode cX1_init 1 = .ok (.invokespecial 1, 3) := by decide +kernel
theorem dX1_init_4 : decode cX1_init 4 = .ok (.aload_n 0, 1) := by decide +kernel
theorem dX1_init_5 : decode cX1_init 5 = .ok (.bipush 64, 2) := by decide +kernel
theorem dX1_init_7 : decode cX1_init 7 = .ok (.newarray .int, 2) := by decide +kernel
theorem dX1_init_9 : decode cX1_init 9 = .ok (.putfield 7, 3) := by decide +kernel
theorem dX1_init_12 : decode cX1_init 12 = .ok (.aload_n 0, 1) := by decide +kernel
theorem dX1_init_13 : decode cX1_init 13 = .ok (.bipush 64, 2) := by decide +kernel
theorem dX1_init_15 : decode cX1_init 15 = .ok (.newarray .int, 2) := by decide +kernel
theorem dX1_init_17 : decode cX1_init 17 = .ok (.putfield 13, 3) := by decide +kernel
theorem dX1_init_20 : decode cX1_init 20 = .ok (.aload_n 0, 1) := by decide +kernel
theorem dX1_init_21 : decode cX1_init 21 = .ok (.bipush 64, 2) := by decide +kernel
theorem dX1_init_23 : decode cX1_init 23 = .ok (.newarray .int, 2) := by decide +kernel
theorem dX1_init_25 : decode cX1_init 25 = .ok (.putfield 16, 3) := by decide +kernel
theorem dX1_init_28 : decode cX1_init 28 = .ok (.aload_n 0, 1) := by decide +kernel
theorem dX1_init_29 : decode cX1_init 29 = .ok (.iconst 4, 1) := by decide +kernel
theorem dX1_init_30 : decode cX1_init 30 = .ok (.newarray .int, 2) := by decide +kernel
theorem dX1_init_32 : decode cX1_init 32 = .ok (.putfield 19, 3) := by decide +kernel
theorem dX1_init_35 : decode cX1_init 35 = .ok (.aload_n 0, 1) := by decide +kernel
theorem dX1_init_36 : decode cX1_init 36 = .ok (.bipush 8, 2) := by decide +kernel
theorem dX1_init_38 : decode cX1_init 38 = .ok (.newarray .long, 2) := by decide +kernel
theorem dX1_init_40 : decode cX1_init 40 = .ok (.putfield 22, 3) := by decide +kernel
theorem dX1_init_43 : decode cX1_init 43 = .ok (.aload_n 0, 1) := by decide +kernel
theorem dX1_init_44 : decode cX1_init 44 = .ok (.bipush 8, 2) := by decide +kernel
theorem dX1_init_46 : decode cX1_init 46 = .ok (.newarray .boolean, 2) := by decide +kernel
theorem dX1_init_48 : decode cX1_init 48 = .ok (.putfield 26, 3) := by decide +kernel
theorem dX1_init_51 : decode cX1_init 51 = .ok (.aload_n 0, 1) := by decide +kernel
theorem dX1_init_52 : decode cX1_init 52 = .ok (.bipush 8, 2) := by decide +kernel
theorem dX1_init_54 : decode cX1_init 54 = .ok (.newarray .boolean, 2) := by decide +kernel
theorem dX1_init_56 : decode cX1_init 56 = .ok (.putfield 30, 3) := by decide +kernel
theorem dX1_init_59 : decode cX1_init 59 = .ok (.aload_n 0, 1) := by decide +kernel
theorem dX1_init_60 : decode cX1_init 60 = .ok (.bipush 8, 2) := by decide +kernel
theorem dX1_init_62 : decode cX1_init 62 = .ok (.newarray .int, 2) := by decide +kernel
theorem dX1_init_64 : decode cX1_init 64 = .ok (.putfield 33, 3) := by decide +kernel
theorem dX1_init_67 : decode cX1_init 67 = .ok (.aload_n 0, 1) := by decide +kernel
theorem dX1_init_68 : decode cX1_init 68 = .ok (.iconst 0, 1) := by decide +kernel
theorem dX1_init_69 : decode cX1_init 69 = .ok (.putfield 36, 3) := by decide +kernel
theorem dX1_init_72 : decode cX1_init 72 = .ok (.return_, 1) := by decide +kernel
theorem dX1_poke_0 : decode cX1_poke 0 = .ok (.iload_n 1, 1) := by decide +kernel
theorem dX1_poke_1 : decode cX1_poke 1 = .ok (.ifCond .lt 16, 3) := by decide +kernel
theorem dX1_poke_4 : decode cX1_poke 4 = .ok (.iload_n 1, 1) := by decide +kernel
theorem dX1_poke_5 : decode cX1_poke 5 = .ok (.bipush 63, 2) := by decide +kernel
theorem dX1_poke_7 : decode cX1_poke 7 = .ok (.if_icmp .gt 10, 3) := by decide +kernel
theorem dX1_poke_10 : decode cX1_poke 10 = .ok (.aload_n 0, 1) := by decide +kernel
theorem dX1_poke_11 : decode cX1_poke 11 = .ok (.getfield 36, 3) := by decide +kernel
theorem dX1_poke_14 : decode cX1_poke 14 = .ok (.ifCond .eq 5, 3) := by decide +kernel
theorem dX1_poke_17 : decode cX1_poke 17 = .ok (.iconst 0, 1) := by decide +kernel
theorem dX1_poke_18 : decode cX1_poke 18 = .ok (.ireturn, 1) := by decide +kernel
theorem dX1_poke_19 : decode cX1_poke 19 = .ok (.aload_n 0, 1) := by decide +kernel
theorem dX1_poke_20 : decode cX1_poke 20 = .ok (.getfield 7, 3) := by decide +kernel
theorem dX1_poke_23 : decode cX1_poke 23 = .ok (.iload_n 1, 1) := by decide +kernel
theorem dX1_poke_24 : decode cX1_poke 24 = .ok (.iload_n 2, 1) := by decide +kernel
theorem dX1_poke_25 : decode cX1_poke 25 = .ok (.iastore, 1) := by decide +kernel
theorem dX1_poke_26 : decode cX1_poke 26 = .ok (.iconst 1, 1) := by decide +kernel
theorem dX1_poke_27 : decode cX1_poke 27 = .ok (.ireturn, 1) := by decide +kernel
theorem dX1_begin_0 : decode cX1_begin 0 = .ok (.iload_n 1, 1) := by decide +kernel
theorem dX1_begin_1 : decode cX1_begin 1 = .ok (.ifCond .lt 27, 3) := by decide +kernel
theorem dX1_begin_4 : decode cX1_begin 4 = .ok (.iload_n 1, 1) := by decide +kernel
theorem dX1_begin_5 : decode cX1_begin 5 = .ok (.bipush 8, 2) := by decide +kernel
theorem dX1_begin_7 : decode cX1_begin 7 = .ok (.if_icmp .gt 21, 3) := by decide +kernel
theorem dX1_begin_10 : decode cX1_begin 10 = .ok (.iload_n 2, 1) := by decide +kernel
theorem dX1_begin_11 : decode cX1_begin 11 = .ok (.iconst 1, 1) := by decide +kernel
theorem dX1_begin_12 : decode cX1_begin 12 = .ok (.if_icmp .lt 16, 3) := by decide +kernel
theorem dX1_begin_15 : decode cX1_begin 15 = .ok (.iload_n 2, 1) := by decide +kernel
theorem dX1_begin_16 : decode cX1_begin 16 = .ok (.bipush 20, 2) := by decide +kernel
theorem dX1_begin_18 : decode cX1_begin 18 = .ok (.if_icmp .gt 10, 3) := by decide +kernel
theorem dX1_begin_21 : decode cX1_begin 21 = .ok (.aload_n 0, 1) := by decide +kernel
theorem dX1_begin_22 : decode cX1_begin 22 = .ok (.getfield 36, 3) := by decide +kernel
theorem dX1_begin_25 : decode cX1_begin 25 = .ok (.ifCond .eq 5, 3) := by decide +kernel
theorem dX1_begin_28 : decode cX1_begin 28 = .ok (.iconst 0, 1) := by decide +kernel
theorem dX1_begin_29 : decode cX1_begin 29 = .ok (.ireturn, 1) := by decide +kernel
theorem dX1_begin_30 : decode cX1_begin 30 = .ok (.aload_n 0, 1) := by decide +kernel
theorem dX1_begin_31 : decode cX1_begin 31 = .ok (.iload_n 1, 1) := by decide +kernel
theorem dX1_begin_32 : decode cX1_begin 32 = .ok (.putfield 40, 3) := by decide +kernel
theorem dX1_begin_35 : decode cX1_begin 35 = .ok (.aload_n 0, 1) := by decide +kernel
theorem dX1_begin_36 : decode cX1_begin 36 = .ok (.iload_n 2, 1) := by decide +kernel
theorem dX1_begin_37 : decode cX1_begin 37 = .ok (.putfield 43, 3) := by decide +kernel
theorem dX1_begin_40 : decode cX1_begin 40 = .ok (.aload_n 0, 1) := by decide +kernel
theorem dX1_begin_41 : decode cX1_begin 41 = .ok (.iconst 1, 1) := by decide +kernel
theorem dX1_begin_42 : decode cX1_begin 42 = .ok (.putfield 36, 3) := by decide +kernel
theorem dX1_begin_45 : decode cX1_begin 45 = .ok (.aload_n 0, 1) := by decide +kernel
theorem dX1_begin_46 : decode cX1_begin 46 = .ok (.iconst 1, 1) := by decide +kernel
theorem dX1_begin_47 : decode cX1_begin 47 = .ok (.putfield 46, 3) := by decide +kernel
theorem dX1_begin_50 : decode cX1_begin 50 = .ok (.aload_n 0, 1) := by decide +kernel
theorem dX1_begin_51 : decode cX1_begin 51 = .ok (.aload_n 0, 1) := by decide +kernel
theorem dX1_begin_52 : decode cX1_begin 52 = .ok (.getfield 49, 3) := by decide +kernel
theorem dX1_begin_55 : decode cX1_begin 55 = .ok (.putfield 53, 3) := by decide +kernel
theorem dX1_begin_58 : decode cX1_begin 58 = .ok (.iconst 0, 1) := by decide +kernel
theorem dX1_begin_59 : decode cX1_begin 59 = .ok (.istore_n 3, 1) := by decide +kernel
theorem dX1_begin_60 : decode cX1_begin 60 = .ok (.iload_n 3, 1) := by decide +kernel
theorem dX1_begin_61 : decode cX1_begin 61 = .ok (.bipush 8, 2) := by decide +kernel
theorem dX1_begin_63 : decode cX1_begin 63 = .ok (.if_icmp .ge 16, 3) := by decide +kernel
theorem dX1_begin_66 : decode cX1_begin 66 = .ok (.aload_n 0, 1) := by decide +kernel
theorem dX1_begin_67 : decode cX1_begin 67 = .ok (.getfield 26, 3) := by decide +kernel
theorem dX1_begin_70 : decode cX1_begin 70 = .ok (.iload_n 3, 1) := by decide +kernel
theorem dX1_begin_71 : decode cX1_begin 71 = .ok (.iconst 1, 1) := by decide +kernel
theorem dX1_begin_72 : decode cX1_begin 72 = .ok (.bastore, 1) := by decide +kernel
theorem dX1_begin_73 : decode cX1_begin 73 = .ok (.iinc 3 1, 3) := by decide +kernel
theorem dX1_begin_76 : decode cX1_begin 76 = .ok (.goto (-16), 3) := by decide +kernel
theorem dX1_begin_79 : decode cX1_begin 79 = .ok (.iconst 1, 1) := by decide +kernel
theorem dX1_begin_80 : decode cX1_begin 80 = .ok (.ireturn, 1) := by decide +kernel
theorem dX1_step_0 : decode cX1_step 0 = .ok (.aload_n 0, 1) := by decide +kernel
theorem dX1_step_1 : decode cX1_step 1 = .ok (.getfield 7, 3) := by decide +kernel
theorem dX1_step_4 : decode cX1_step 4 = .ok (.aload_n 0, 1) := by decide +kernel
theorem dX1_step_5 : decode cX1_step 5 = .ok (.getfield 56, 3) := by decide +kernel
theorem dX1_step_8 : decode cX1_step 8 = .ok (.iaload, 1) := by decide +kernel
theorem dX1_step_9 : decode cX1_step 9 = .ok (.istore_n 1, 1) := by decide +kernel
theorem dX1_step_10 : decode cX1_step 10 = .ok (.iload_n 1, 1) := by decide +kernel
theorem dX1_step_11 : decode cX1_step 11 = .ok (.iconst 3, 1) := by decide +kernel
theorem dX1_step_12 : decode cX1_step 12 = .ok (.ishr, 1) := by decide +kernel
theorem dX1_step_13 : decode cX1_step 13 = .ok (.iconst 3, 1) := by decide +kernel
theorem dX1_step_14 : decode cX1_step 14 = .ok (.iand, 1) := by decide +kernel
theorem dX1_step_15 : decode cX1_step 15 = .ok (.istore_n 2, 1) := by decide +kernel
theorem dX1_step_16 : decode cX1_step 16 = .ok (.iload_n 1, 1) := by decide +kernel
theorem dX1_step_17 : decode cX1_step 17 = .ok (.iconst 5, 1) := by decide +kernel
theorem dX1_step_18 : decode cX1_step 18 = .ok (.ishr, 1) := by decide +kernel
theorem dX1_step_19 : decode cX1_step 19 = .ok (.iconst 3, 1) := by decide +kernel
theorem dX1_step_20 : decode cX1_step 20 = .ok (.iand, 1) := by decide +kernel
theorem dX1_step_21 : decode cX1_step 21 = .ok (.istore_n 3, 1) := by decide +kernel
theorem dX1_step_22 : decode cX1_step 22 = .ok (.iload_n 1, 1) := by decide +kernel
theorem dX1_step_23 : decode cX1_step 23 = .ok (.bipush 7, 2) := by decide +kernel
theorem dX1_step_25 : decode cX1_step 25 = .ok (.ishr, 1) := by decide +kernel
theorem dX1_step_26 : decode cX1_step 26 = .ok (.bipush 127, 2) := by decide +kernel
theorem dX1_step_28 : decode cX1_step 28 = .ok (.iand, 1) := by decide +kernel
theorem dX1_step_29 : decode cX1_step 29 = .ok (.istore 4, 2) := by decide +kernel
theorem dX1_step_31 : decode cX1_step 31 = .ok (.aload_n 0, 1) := by decide +kernel
theorem dX1_step_32 : decode cX1_step 32 = .ok (.getfield 19, 3) := by decide +kernel
theorem dX1_step_35 : decode cX1_step 35 = .ok (.iload_n 3, 1) := by decide +kernel
theorem dX1_step_36 : decode cX1_step 36 = .ok (.iaload, 1) := by decide +kernel
theorem dX1_step_37 : decode cX1_step 37 = .ok (.iload 4, 2) := by decide +kernel
theorem dX1_step_39 : decode cX1_step 39 = .ok (.iadd, 1) := by decide +kernel
theorem dX1_step_40 : decode cX1_step 40 = .ok (.bipush 63, 2) := by decide +kernel
theorem dX1_step_42 : decode cX1_step 42 = .ok (.iand, 1) := by decide +kernel
theorem dX1_step_43 : decode cX1_step 43 = .ok (.istore 5, 2) := by decide +kernel
theorem dX1_step_45 : decode cX1_step 45 = .ok (.aload_n 0, 1) := by decide +kernel
theorem dX1_step_46 : decode cX1_step 46 = .ok (.getfield 56, 3) := by decide +kernel
theorem dX1_step_49 : decode cX1_step 49 = .ok (.iconst 1, 1) := by decide +kernel
theorem dX1_step_50 : decode cX1_step 50 = .ok (.iadd, 1) := by decide +kernel
theorem dX1_step_51 : decode cX1_step 51 = .ok (.bipush 63, 2) := by decide +kernel
theorem dX1_step_53 : decode cX1_step 53 = .ok (.iand, 1) := by decide +kernel
theorem dX1_step_54 : decode cX1_step 54 = .ok (.istore 6, 2) := by decide +kernel
theorem dX1_step_56 : decode cX1_step 56 = .ok (.iload_n 1, 1) := by decide +kernel
theorem dX1_step_57 : decode cX1_step 57 = .ok (.bipush 7, 2) := by decide +kernel
theorem dX1_step_59 : decode cX1_step 59 = .ok (.iand, 1) := by decide +kernel
theorem dX1_step_60 : decode cX1_step 60 = .ok (.tableswitch 183 0 6 #[44, 53, 64, 80, 120, 142, 164], 44) := by decide +kernel
theorem dX1_step_104 : decode cX1_step 104 = .ok (.aload_n 0, 1) := by decide +kernel
theorem dX1_step_105 : decode cX1_step 105 = .ok (.getfield 56, 3) := by decide +kernel
theorem dX1_step_108 : decode cX1_step 108 = .ok (.istore 6, 2) := by decide +kernel
theorem dX1_step_110 : decode cX1_step 110 = .ok (.goto 186, 3) := by decide +kernel
theorem dX1_step_113 : decode cX1_step 113 = .ok (.aload_n 0, 1) := by decide +kernel
theorem dX1_step_114 : decode cX1_step 114 = .ok (.getfield 19, 3) := by decide +kernel
theorem dX1_step_117 : decode cX1_step 117 = .ok (.iload_n 2, 1) := by decide +kernel
theorem dX1_step_118 : decode cX1_step 118 = .ok (.iload 4, 2) := by decide +kernel
theorem dX1_step_120 : decode cX1_step 120 = .ok (.iastore, 1) := by decide +kernel
theorem dX1_step_121 : decode cX1_step 121 = .ok (.goto 175, 3) := by decide +kernel
theorem dX1_step_124 : decode cX1_step 124 = .ok (.aload_n 0, 1) := by decide +kernel
theorem dX1_step_125 : decode cX1_step 125 = .ok (.getfield 19, 3) := by decide +kernel
theorem dX1_step_128 : decode cX1_step 128 = .ok (.iload_n 2, 1) := by decide +kernel
theorem dX1_step_129 : decode cX1_step 129 = .ok (.aload_n 0, 1) := by decide +kernel
theorem dX1_step_130 : decode cX1_step 130 = .ok (.getfield 7, 3) := by decide +kernel
theorem dX1_step_133 : decode cX1_step 133 = .ok (.iload 5, 2) := by decide +kernel
theorem dX1_step_135 : decode cX1_step 135 = .ok (.iaload, 1) := by decide +kernel
theorem dX1_step_136 : decode cX1_step 136 = .ok (.iastore, 1) := by decide +kernel
theorem dX1_step_137 : decode cX1_step 137 = .ok (.goto 159, 3) := by decide +kernel
theorem dX1_step_140 : decode cX1_step 140 = .ok (.aload_n 0, 1) := by decide +kernel
theorem dX1_step_141 : decode cX1_step 141 = .ok (.aload_n 0, 1) := by decide +kernel
theorem dX1_step_142 : decode cX1_step 142 = .ok (.getfield 49, 3) := by decide +kernel
theorem dX1_step_145 : decode cX1_step 145 = .ok (.lconst 1, 1) := by decide +kernel
theorem dX1_step_146 : decode cX1_step 146 = .ok (.ladd, 1) := by decide +kernel
theorem dX1_step_147 : decode cX1_step 147 = .ok (.putfield 49, 3) := by decide +kernel
theorem dX1_step_150 : decode cX1_step 150 = .ok (.aload_n 0, 1) := by decide +kernel
theorem dX1_step_151 : decode cX1_step 151 = .ok (.getfield 22, 3) := by decide +kernel
theorem dX1_step_154 : decode cX1_step 154 = .ok (.iload 5, 2) := by decide +kernel
theorem dX1_step_156 : decode cX1_step 156 = .ok (.bipush 8, 2) := by decide +kernel
theorem dX1_step_158 : decode cX1_step 158 = .ok (.idiv, 1) := by decide +kernel
theorem dX1_step_159 : decode cX1_step 159 = .ok (.aload_n 0, 1) := by decide +kernel
theorem dX1_step_160 : decode cX1_step 160 = .ok (.getfield 49, 3) := by decide +kernel
theorem dX1_step_163 : decode cX1_step 163 = .ok (.lastore, 1) := by decide +kernel
theorem dX1_step_164 : decode cX1_step 164 = .ok (.aload_n 0, 1) := by decide +kernel
theorem dX1_step_165 : decode cX1_step 165 = .ok (.getfield 7, 3) := by decide +kernel
theorem dX1_step_168 : decode cX1_step 168 = .ok (.iload 5, 2) := by decide +kernel
theorem dX1_step_170 : decode cX1_step 170 = .ok (.aload_n 0, 1) := by decide +kernel
theorem dX1_step_171 : decode cX1_step 171 = .ok (.getfield 19, 3) := by decide +kernel
theorem dX1_step_174 : decode cX1_step 174 = .ok (.iload_n 2, 1) := by decide +kernel
theorem dX1_step_175 : decode cX1_step 175 = .ok (.iaload, 1) := by decide +kernel
theorem dX1_step_176 : decode cX1_step 176 = .ok (.iastore, 1) := by decide +kernel
theorem dX1_step_177 : decode cX1_step 177 = .ok (.goto 119, 3) := by decide +kernel
theorem dX1_step_180 : decode cX1_step 180 = .ok (.aload_n 0, 1) := by decide +kernel
theorem dX1_step_181 : decode cX1_step 181 = .ok (.getfield 19, 3) := by decide +kernel
theorem dX1_step_184 : decode cX1_step 184 = .ok (.iload_n 2, 1) := by decide +kernel
theorem dX1_step_185 : decode cX1_step 185 = .ok (.aload_n 0, 1) := by decide +kernel
theorem dX1_step_186 : decode cX1_step 186 = .ok (.getfield 19, 3) := by decide +kernel
theorem dX1_step_189 : decode cX1_step 189 = .ok (.iload_n 2, 1) := by decide +kernel
theorem dX1_step_190 : decode cX1_step 190 = .ok (.iaload, 1) := by decide +kernel
theorem dX1_step_191 : decode cX1_step 191 = .ok (.aload_n 0, 1) := by decide +kernel
theorem dX1_step_192 : decode cX1_step 192 = .ok (.getfield 19, 3) := by decide +kernel
theorem dX1_step_195 : decode cX1_step 195 = .ok (.iload_n 3, 1) := by decide +kernel
theorem dX1_step_196 : decode cX1_step 196 = .ok (.iaload, 1) := by decide +kernel
theorem dX1_step_197 : decode cX1_step 197 = .ok (.iadd, 1) := by decide +kernel
theorem dX1_step_198 : decode cX1_step 198 = .ok (.iastore, 1) := by decide +kernel
theorem dX1_step_199 : decode cX1_step 199 = .ok (.goto 97, 3) := by decide +kernel
theorem dX1_step_202 : decode cX1_step 202 = .ok (.aload_n 0, 1) := by decide +kernel
theorem dX1_step_203 : decode cX1_step 203 = .ok (.getfield 19, 3) := by decide +kernel
theorem dX1_step_206 : decode cX1_step 206 = .ok (.iload_n 2, 1) := by decide +kernel
theorem dX1_step_207 : decode cX1_step 207 = .ok (.aload_n 0, 1) := by decide +kernel
theorem dX1_step_208 : decode cX1_step 208 = .ok (.getfield 19, 3) := by decide +kernel
theorem dX1_step_211 : decode cX1_step 211 = .ok (.iload_n 2, 1) := by decide +kernel
theorem dX1_step_212 : decode cX1_step 212 = .ok (.iaload, 1) := by decide +kernel
theorem dX1_step_213 : decode cX1_step 213 = .ok (.aload_n 0, 1) := by decide +kernel
theorem dX1_step_214 : decode cX1_step 214 = .ok (.getfield 19, 3) := by decide +kernel
theorem dX1_step_217 : decode cX1_step 217 = .ok (.iload_n 3, 1) := by decide +kernel
theorem dX1_step_218 : decode cX1_step 218 = .ok (.iaload, 1) := by decide +kernel
theorem dX1_step_219 : decode cX1_step 219 = .ok (.isub, 1) := by decide +kernel
theorem dX1_step_220 : decode cX1_step 220 = .ok (.iastore, 1) := by decide +kernel
theorem dX1_step_221 : decode cX1_step 221 = .ok (.goto 75, 3) := by decide +kernel
theorem dX1_step_224 : decode cX1_step 224 = .ok (.aload_n 0, 1) := by decide +kernel
theorem dX1_step_225 : decode cX1_step 225 = .ok (.getfield 19, 3) := by decide +kernel
theorem dX1_step_228 : decode cX1_step 228 = .ok (.iload_n 2, 1) := by decide +kernel
theorem dX1_step_229 : decode cX1_step 229 = .ok (.iaload, 1) := by decide +kernel
theorem dX1_step_230 : decode cX1_step 230 = .ok (.ifCond .eq 66, 3) := by decide +kernel
theorem dX1_step_233 : decode cX1_step 233 = .ok (.iload 4, 2) := by decide +kernel
theorem dX1_step_235 : decode cX1_step 235 = .ok (.bipush 63, 2) := by decide +kernel
theorem dX1_step_237 : decode cX1_step 237 = .ok (.iand, 1) := by decide +kernel
theorem dX1_step_238 : decode cX1_step 238 = .ok (.istore 6, 2) := by decide +kernel
theorem dX1_step_240 : decode cX1_step 240 = .ok (.goto 56, 3) := by decide +kernel
theorem dX1_step_243 : decode cX1_step 243 = .ok (.bipush 7, 2) := by decide +kernel
theorem dX1_step_245 : decode cX1_step 245 = .ok (.istore 7, 2) := by decide +kernel
theorem dX1_step_247 : decode cX1_step 247 = .ok (.iload 7, 2) := by decide +kernel
theorem dX1_step_249 : decode cX1_step 249 = .ok (.ifCond .le 25, 3) := by decide +kernel
theorem dX1_step_252 : decode cX1_step 252 = .ok (.aload_n 0, 1) := by decide +kernel
theorem dX1_step_253 : decode cX1_step 253 = .ok (.getfield 33, 3) := by decide +kernel
theorem dX1_step_256 : decode cX1_step 256 = .ok (.iload 7, 2) := by decide +kernel
theorem dX1_step_258 : decode cX1_step 258 = .ok (.aload_n 0, 1) := by decide +kernel
theorem dX1_step_259 : decode cX1_step 259 = .ok (.getfield 33, 3) := by decide +kernel
theorem dX1_step_262 : decode cX1_step 262 = .ok (.iload 7, 2) := by decide +kernel
theorem dX1_step_264 : decode cX1_step 264 = .ok (.iconst 1, 1) := by decide +kernel
theorem dX1_step_265 : decode cX1_step 265 = .ok (.isub, 1) := by decide +kernel
theorem dX1_step_266 : decode cX1_step 266 = .ok (.iaload, 1) := by decide +kernel
theorem dX1_step_267 : decode cX1_step 267 = .ok (.iastore, 1) := by decide +kernel
theorem dX1_step_268 : decode cX1_step 268 = .ok (.iinc 7 (-1), 3) := by decide +kernel
theorem dX1_step_271 : decode cX1_step 271 = .ok (.goto (-24), 3) := by decide +kernel
theorem dX1_step_274 : decode cX1_step 274 = .ok (.aload_n 0, 1) := by decide +kernel
theorem dX1_step_275 : decode cX1_step 275 = .ok (.getfield 33, 3) := by decide +kernel
theorem dX1_step_278 : decode cX1_step 278 = .ok (.iconst 0, 1) := by decide +kernel
theorem dX1_step_279 : decode cX1_step 279 = .ok (.aload_n 0, 1) := by decide +kernel
theorem dX1_step_280 : decode cX1_step 280 = .ok (.getfield 19, 3) := by decide +kernel
theorem dX1_step_283 : decode cX1_step 283 = .ok (.iload_n 2, 1) := by decide +kernel
theorem dX1_step_284 : decode cX1_step 284 = .ok (.iaload, 1) := by decide +kernel
theorem dX1_step_285 : decode cX1_step 285 = .ok (.iastore, 1) := by decide +kernel
theorem dX1_step_286 : decode cX1_step 286 = .ok (.aload_n 0, 1) := by decide +kernel
theorem dX1_step_287 : decode cX1_step 287 = .ok (.aload_n 0, 1) := by decide +kernel
theorem dX1_step_288 : decode cX1_step 288 = .ok (.getfield 59, 3) := by decide +kernel
theorem dX1_step_291 : decode cX1_step 291 = .ok (.iconst 1, 1) := by decide +kernel
theorem dX1_step_292 : decode cX1_step 292 = .ok (.iadd, 1) := by decide +kernel
theorem dX1_step_293 : decode cX1_step 293 = .ok (.putfield 59, 3) := by decide +kernel
theorem dX1_step_296 : decode cX1_step 296 = .ok (.aload_n 0, 1) := by decide +kernel
theorem dX1_step_297 : decode cX1_step 297 = .ok (.iload 6, 2) := by decide +kernel
theorem dX1_step_299 : decode cX1_step 299 = .ok (.putfield 56, 3) := by decide +kernel
theorem dX1_step_302 : decode cX1_step 302 = .ok (.return_, 1) := by decide +kernel
set_option maxRecDepth 20000 in
theorem ggX1_run_X1_step : GoodIn wsX1_run wsX1_step := goodIn_r _ [6, 7, 8, 9, 10, 11, 12, 13, 14, 15, 16, 17, 18, 19, 20, 21, 22, 23, 24, 25, 26, 27, 28, 29] (by decide +kernel) (by decide +kernel)
set_option maxRecDepth 20000 in
theorem gX1_run_X1_step : GoodIn wsX1_run (wsV RX1 62 RX1 yX1_step wsX1_step) := goodIn_app (goodIn_of _ (by decide +kernel)) ggX1_run_X1_step
theorem dX1_run_0 : decode cX1_run 0 = .ok (.iload_n 1, 1) := by decide +kernel
theorem dX1_run_1 : decode cX1_run 1 = .ok (.ifCond .lt 18, 3) := by decide +kernel
theorem dX1_run_4 : decode cX1_run 4 = .ok (.iload_n 1, 1) := by decide +kernel
theorem dX1_run_5 : decode cX1_run 5 = .ok (.sipush 1000, 3) := by decide +kernel
theorem dX1_run_8 : decode cX1_run 8 = .ok (.if_icmp .gt 11, 3) := by decide +kernel
theorem dX1_run_11 : decode cX1_run 11 = .ok (.aload_n 0, 1) := by decide +kernel
theorem dX1_run_12 : decode cX1_run 12 = .ok (.getfield 36, 3) := by decide +kernel
theorem dX1_run_15 : decode cX1_run 15 = .ok (.iconst 2, 1) := by decide +kernel
theorem dX1_run_16 : decode cX1_run 16 = .ok (.if_icmp .ne 5, 3) := by decide +kernel
theorem dX1_run_19 : decode cX1_run 19 = .ok (.iconst 0, 1) := by decide +kernel
theorem dX1_run_20 : decode cX1_run 20 = .ok (.ireturn, 1) := by decide +kernel
theorem dX1_run_21 : decode cX1_run 21 = .ok (.iconst 0, 1) := by decide +kernel
theorem dX1_run_22 : decode cX1_run 22 = .ok (.istore_n 2, 1) := by decide +kernel
theorem dX1_run_23 : decode cX1_run 23 = .ok (.iload_n 2, 1) := by decide +kernel
theorem dX1_run_24 : decode cX1_run 24 = .ok (.iload_n 1, 1) := by decide +kernel
theorem dX1_run_25 : decode cX1_run 25 = .ok (.if_icmp .ge 13, 3) := by decide +kernel
theorem dX1_run_28 : decode cX1_run 28 = .ok (.aload_n 0, 1) := by decide +kernel
theorem dX1_run_29 : decode cX1_run 29 = .ok (.invokevirtual 62, 3) := by decide +kernel
theorem dX1_run_32 : decode cX1_run 32 = .ok (.iinc 2 1, 3) := by decide +kernel
theorem dX1_run_35 : decode cX1_run 35 = .ok (.goto (-12), 3) := by decide +kernel
theorem dX1_run_38 : decode cX1_run 38 = .ok (.iload_n 1, 1) := by decide +kernel
theorem dX1_run_39 : decode cX1_run 39 = .ok (.ireturn, 1) := by decide +kernel
set_option maxRecDepth 20000 in
theorem ggX1_copy_X1_dirty : GoodIn wsX1_copy wsX1_dirty := goodIn_r _ [16, 1, 17, 11, 6, 18, 19, 20, 21, 22, 23, 24, 25, 26, 27, 28, 29, 30, 31, 32, 33] (by decide +kernel) (by decide +kernel)
set_option maxRecDepth 20000 in
theorem gX1_copy_X1_dirty : GoodIn wsX1_copy (wsV RX1 65 RX1 yX1_dirty wsX1_dirty) := goodIn_app (goodIn_of _ (by decide +kernel)) ggX1_copy_X1_dirty
theorem dX1_copy_0 : decode cX1_copy 0 = .ok (.aload_n 0, 1) := by decide +kernel
theorem dX1_copy_1 : decode cX1_copy 1 = .ok (.getfield 36, 3) := by decide +kernel
theorem dX1_copy_4 : decode cX1_copy 4 = .ok (.ifCond .eq 11, 3) := by decide +kernel
theorem dX1_copy_7 : decode cX1_copy 7 = .ok (.aload_n 0, 1) := by decide +kernel
theorem dX1_copy_8 : decode cX1_copy 8 = .ok (.getfield 36, 3) := by decide +kernel
theorem dX1_copy_11 : decode cX1_copy 11 = .ok (.iconst 3, 1) := by decide +kernel
theorem dX1_copy_12 : decode cX1_copy 12 = .ok (.if_icmp .ne 5, 3) := by decide +kernel
theorem dX1_copy_15 : decode cX1_copy 15 = .ok (.iconst (-1), 1) := by decide +kernel
theorem dX1_copy_16 : decode cX1_copy 16 = .ok (.ireturn, 1) := by decide +kernel
theorem dX1_copy_17 : decode cX1_copy 17 = .ok (.iconst 0, 1) := by decide +kernel
theorem dX1_copy_18 : decode cX1_copy 18 = .ok (.istore_n 1, 1) := by decide +kernel
theorem dX1_copy_19 : decode cX1_copy 19 = .ok (.iload_n 1, 1) := by decide +kernel
theorem dX1_copy_20 : decode cX1_copy 20 = .ok (.bipush 8, 2) := by decide +kernel
theorem dX1_copy_22 : decode cX1_copy 22 = .ok (.if_icmp .ge 63, 3) := by decide +kernel
theorem dX1_copy_25 : decode cX1_copy 25 = .ok (.aload_n 0, 1) := by decide +kernel
theorem dX1_copy_26 : decode cX1_copy 26 = .ok (.getfield 26, 3) := by decide +kernel
theorem dX1_copy_29 : decode cX1_copy 29 = .ok (.iload_n 1, 1) := by decide +kernel
theorem dX1_copy_30 : decode cX1_copy 30 = .ok (.baload, 1) := by decide +kernel
theorem dX1_copy_31 : decode cX1_copy 31 = .ok (.ifCond .eq 48, 3) := by decide +kernel
theorem dX1_copy_34 : decode cX1_copy 34 = .ok (.iconst 0, 1) := by decide +kernel
theorem dX1_copy_35 : decode cX1_copy 35 = .ok (.istore_n 2, 1) := by decide +kernel
theorem dX1_copy_36 : decode cX1_copy 36 = .ok (.iload_n 2, 1) := by decide +kernel
theorem dX1_copy_37 : decode cX1_copy 37 = .ok (.bipush 8, 2) := by decide +kernel
theorem dX1_copy_39 : decode cX1_copy 39 = .ok (.if_icmp .ge 31, 3) := by decide +kernel
theorem dX1_copy_42 : decode cX1_copy 42 = .ok (.aload_n 0, 1) := by decide +kernel
theorem dX1_copy_43 : decode cX1_copy 43 = .ok (.getfield 16, 3) := by decide +kernel
theorem dX1_copy_46 : decode cX1_copy 46 = .ok (.bipush 8, 2) := by decide +kernel
theorem dX1_copy_48 : decode cX1_copy 48 = .ok (.iload_n 1, 1) := by decide +kernel
theorem dX1_copy_49 : decode cX1_copy 49 = .ok (.imul, 1) := by decide +kernel
theorem dX1_copy_50 : decode cX1_copy 50 = .ok (.iload_n 2, 1) := by decide +kernel
theorem dX1_copy_51 : decode cX1_copy 51 = .ok (.iadd, 1) := by decide +kernel
theorem dX1_copy_52 : decode cX1_copy 52 = .ok (.aload_n 0, 1) := by decide +kernel
theorem dX1_copy_53 : decode cX1_copy 53 = .ok (.getfield 7, 3) := by decide +kernel
theorem dX1_copy_56 : decode cX1_copy 56 = .ok (.bipush 8, 2) := by decide +kernel
theorem dX1_copy_58 : decode cX1_copy 58 = .ok (.iload_n 1, 1) := by decide +kernel
theorem dX1_copy_59 : decode cX1_copy 59 = .ok (.imul, 1) := by decide +kernel
theorem dX1_copy_60 : decode cX1_copy 60 = .ok (.iload_n 2, 1) := by decide +kernel
theorem dX1_copy_61 : decode cX1_copy 61 = .ok (.iadd, 1) := by decide +kernel
theorem dX1_copy_62 : decode cX1_copy 62 = .ok (.iaload, 1) := by decide +kernel
theorem dX1_copy_63 : decode cX1_copy 63 = .ok (.iastore, 1) := by decide +kernel
theorem dX1_copy_64 : decode cX1_copy 64 = .ok (.iinc 2 1, 3) := by decide +kernel
theorem dX1_copy_67 : decode cX1_copy 67 = .ok (.goto (-31), 3) := by decide +kernel
theorem dX1_copy_70 : decode cX1_copy 70 = .ok (.aload_n 0, 1) := by decide +kernel
theorem dX1_copy_71 : decode cX1_copy 71 = .ok (.getfield 26, 3) := by decide +kernel
theorem dX1_copy_74 : decode cX1_copy 74 = .ok (.iload_n 1, 1) := by decide +kernel
theorem dX1_copy_75 : decode cX1_copy 75 = .ok (.iconst 0, 1) := by decide +kernel
theorem dX1_copy_76 : decode cX1_copy 76 = .ok (.bastore, 1) := by decide +kernel
theorem dX1_copy_77 : decode cX1_copy 77 = .ok (.iload_n 1, 1) := by decide +kernel
theorem dX1_copy_78 : decode cX1_copy 78 = .ok (.ireturn, 1) := by decide +kernel
theorem dX1_copy_79 : decode cX1_copy 79 = .ok (.iinc 1 1, 3) := by decide +kernel
theorem dX1_copy_82 : decode cX1_copy 82 = .ok (.goto (-63), 3) := by decide +kernel
theorem dX1_copy_85 : decode cX1_copy 85 = .ok (.aload_n 0, 1) := by decide +kernel
theorem dX1_copy_86 : decode cX1_copy 86 = .ok (.getfield 36, 3) := by decide +kernel
theorem dX1_copy_89 : decode cX1_copy 89 = .ok (.iconst 2, 1) := by decide +kernel
theorem dX1_copy_90 : decode cX1_copy 90 = .ok (.if_icmp .ne 37, 3) := by decide +kernel
theorem dX1_copy_93 : decode cX1_copy 93 = .ok (.aload_n 0, 1) := by decide +kernel
theorem dX1_copy_94 : decode cX1_copy 94 = .ok (.iconst 3, 1) := by decide +kernel
theorem dX1_copy_95 : decode cX1_copy 95 = .ok (.putfield 36, 3) := by decide +kernel
theorem dX1_copy_98 : decode cX1_copy 98 = .ok (.iconst 0, 1) := by decide +kernel
theorem dX1_copy_99 : decode cX1_copy 99 = .ok (.istore_n 1, 1) := by decide +kernel
theorem dX1_copy_100 : decode cX1_copy 100 = .ok (.iload_n 1, 1) := by decide +kernel
theorem dX1_copy_101 : decode cX1_copy 101 = .ok (.bipush 64, 2) := by decide +kernel
theorem dX1_copy_103 : decode cX1_copy 103 = .ok (.if_icmp .ge 21, 3) := by decide +kernel
theorem dX1_copy_106 : decode cX1_copy 106 = .ok (.aload_n 0, 1) := by decide +kernel
theorem dX1_copy_107 : decode cX1_copy 107 = .ok (.getfield 13, 3) := by decide +kernel
theorem dX1_copy_110 : decode cX1_copy 110 = .ok (.iload_n 1, 1) := by decide +kernel
theorem dX1_copy_111 : decode cX1_copy 111 = .ok (.aload_n 0, 1) := by decide +kernel
theorem dX1_copy_112 : decode cX1_copy 112 = .ok (.getfield 7, 3) := by decide +kernel
theorem dX1_copy_115 : decode cX1_copy 115 = .ok (.iload_n 1, 1) := by decide +kernel
theorem dX1_copy_116 : decode cX1_copy 116 = .ok (.iaload, 1) := by decide +kernel
theorem dX1_copy_117 : decode cX1_copy 117 = .ok (.iastore, 1) := by decide +kernel
theorem dX1_copy_118 : decode cX1_copy 118 = .ok (.iinc 1 1, 3) := by decide +kernel
theorem dX1_copy_121 : decode cX1_copy 121 = .ok (.goto (-21), 3) := by decide +kernel
theorem dX1_copy_124 : decode cX1_copy 124 = .ok (.bipush 34, 2) := by decide +kernel
theorem dX1_copy_126 : decode cX1_copy 126 = .ok (.ireturn, 1) := by decide +kernel
theorem dX1_copy_127 : decode cX1_copy 127 = .ok (.iconst 0, 1) := by decide +kernel
theorem dX1_copy_128 : decode cX1_copy 128 = .ok (.istore_n 1, 1) := by decide +kernel
theorem dX1_copy_129 : decode cX1_copy 129 = .ok (.iconst 0, 1) := by decide +kernel
theorem dX1_copy_130 : decode cX1_copy 130 = .ok (.istore_n 2, 1) := by decide +kernel
theorem dX1_copy_131 : decode cX1_copy 131 = .ok (.iload_n 2, 1) := by decide +kernel
theorem dX1_copy_132 : decode cX1_copy 132 = .ok (.bipush 8, 2) := by decide +kernel
theorem dX1_copy_134 : decode cX1_copy 134 = .ok (.if_icmp .ge 45, 3) := by decide +kernel
theorem dX1_copy_137 : decode cX1_copy 137 = .ok (.aload_n 0, 1) := by decide +kernel
theorem dX1_copy_138 : decode cX1_copy 138 = .ok (.getfield 26, 3) := by decide +kernel
theorem dX1_copy_141 : decode cX1_copy 141 = .ok (.iload_n 2, 1) := by decide +kernel
theorem dX1_copy_142 : decode cX1_copy 142 = .ok (.aload_n 0, 1) := by decide +kernel
theorem dX1_copy_143 : decode cX1_copy 143 = .ok (.iload_n 2, 1) := by decide +kernel
theorem dX1_copy_144 : decode cX1_copy 144 = .ok (.invokevirtual 65, 3) := by decide +kernel
theorem dX1_copy_147 : decode cX1_copy 147 = .ok (.bastore, 1) := by decide +kernel
theorem dX1_copy_148 : decode cX1_copy 148 = .ok (.aload_n 0, 1) := by decide +kernel
theorem dX1_copy_149 : decode cX1_copy 149 = .ok (.getfield 30, 3) := by decide +kernel
theorem dX1_copy_152 : decode cX1_copy 152 = .ok (.iload_n 2, 1) := by decide +kernel
theorem dX1_copy_153 : decode cX1_copy 153 = .ok (.aload_n 0, 1) := by decide +kernel
theorem dX1_copy_154 : decode cX1_copy 154 = .ok (.getfield 26, 3) := by decide +kernel
theorem dX1_copy_157 : decode cX1_copy 157 = .ok (.iload_n 2, 1) := by decide +kernel
theorem dX1_copy_158 : decode cX1_copy 158 = .ok (.baload, 1) := by decide +kernel
theorem dX1_copy_159 : decode cX1_copy 159 = .ok (.bastore, 1) := by decide +kernel
theorem dX1_copy_160 : decode cX1_copy 160 = .ok (.aload_n 0, 1) := by decide +kernel
theorem dX1_copy_161 : decode cX1_copy 161 = .ok (.getfield 26, 3) := by decide +kernel
theorem dX1_copy_164 : decode cX1_copy 164 = .ok (.iload_n 2, 1) := by decide +kernel
theorem dX1_copy_165 : decode cX1_copy 165 = .ok (.baload, 1) := by decide +kernel
theorem dX1_copy_166 : decode cX1_copy 166 = .ok (.ifCond .eq 7, 3) := by decide +kernel
theorem dX1_copy_169 : decode cX1_copy 169 = .ok (.iload_n 1, 1) := by decide +kernel
theorem dX1_copy_170 : decode cX1_copy 170 = .ok (.iconst 1, 1) := by decide +kernel
theorem dX1_copy_171 : decode cX1_copy 171 = .ok (.iadd, 1) := by decide +kernel
theorem dX1_copy_172 : decode cX1_copy 172 = .ok (.istore_n 1, 1) := by decide +kernel
theorem dX1_copy_173 : decode cX1_copy 173 = .ok (.iinc 2 1, 3) := by decide +kernel
theorem dX1_copy_176 : decode cX1_copy 176 = .ok (.goto (-45), 3) := by decide +kernel
theorem dX1_copy_179 : decode cX1_copy 179 = .ok (.iload_n 1, 1) := by decide +kernel
theorem dX1_copy_180 : decode cX1_copy 180 = .ok (.aload_n 0, 1) := by decide +kernel
theorem dX1_copy_181 : decode cX1_copy 181 = .ok (.getfield 40, 3) := by decide +kernel
theorem dX1_copy_184 : decode cX1_copy 184 = .ok (.if_icmp .le 14, 3) := by decide +kernel
theorem dX1_copy_187 : decode cX1_copy 187 = .ok (.aload_n 0, 1) := by decide +kernel
theorem dX1_copy_188 : decode cX1_copy 188 = .ok (.getfield 46, 3) := by decide +kernel
theorem dX1_copy_191 : decode cX1_copy 191 = .ok (.aload_n 0, 1) := by decide +kernel
theorem dX1_copy_192 : decode cX1_copy 192 = .ok (.getfield 43, 3) := by decide +kernel
theorem dX1_copy_195 : decode cX1_copy 195 = .ok (.if_icmp .ne 11, 3) := by decide +kernel
theorem dX1_copy_198 : decode cX1_copy 198 = .ok (.aload_n 0, 1) := by decide +kernel
theorem dX1_copy_199 : decode cX1_copy 199 = .ok (.iconst 2, 1) := by decide +kernel
theorem dX1_copy_200 : decode cX1_copy 200 = .ok (.putfield 36, 3) := by decide +kernel
theorem dX1_copy_203 : decode cX1_copy 203 = .ok (.bipush 33, 2) := by decide +kernel
theorem dX1_copy_205 : decode cX1_copy 205 = .ok (.ireturn, 1) := by decide +kernel
theorem dX1_copy_206 : decode cX1_copy 206 = .ok (.aload_n 0, 1) := by decide +kernel
theorem dX1_copy_207 : decode cX1_copy 207 = .ok (.aload_n 0, 1) := by decide +kernel
theorem dX1_copy_208 : decode cX1_copy 208 = .ok (.getfield 46, 3) := by decide +kernel
theorem dX1_copy_211 : decode cX1_copy 211 = .ok (.iconst 1, 1) := by decide +kernel
theorem dX1_copy_212 : decode cX1_copy 212 = .ok (.iadd, 1) := by decide +kernel
theorem dX1_copy_213 : decode cX1_copy 213 = .ok (.putfield 46, 3) := by decide +kernel
theorem dX1_copy_216 : decode cX1_copy 216 = .ok (.aload_n 0, 1) := by decide +kernel
theorem dX1_copy_217 : decode cX1_copy 217 = .ok (.aload_n 0, 1) := by decide +kernel
theorem dX1_copy_218 : decode cX1_copy 218 = .ok (.getfield 49, 3) := by decide +kernel
theorem dX1_copy_221 : decode cX1_copy 221 = .ok (.putfield 53, 3) := by decide +kernel
theorem dX1_copy_224 : decode cX1_copy 224 = .ok (.bipush 32, 2) := by decide +kernel
theorem dX1_copy_226 : decode cX1_copy 226 = .ok (.ireturn, 1) := by decide +kernel
theorem dX1_phase_0 : decode cX1_phase 0 = .ok (.aload_n 0, 1) := by decide +kernel
theorem dX1_phase_1 : decode cX1_phase 1 = .ok (.getfield 36, 3) := by decide +kernel
theorem dX1_phase_4 : decode cX1_phase 4 = .ok (.ireturn, 1) := by decide +kernel
theorem dX1_round_0 : decode cX1_round 0 = .ok (.aload_n 0, 1) := by decide +kernel
theorem dX1_round_1 : decode cX1_round 1 = .ok (.getfield 46, 3) := by decide +kernel
theorem dX1_round_4 : decode cX1_round 4 = .ok (.ireturn, 1) := by decide +kernel
theorem dX1_dirty_0 : decode cX1_dirty 0 = .ok (.iload_n 1, 1) := by decide +kernel
theorem dX1_dirty_1 : decode cX1_dirty 1 = .ok (.ifCond .lt 16, 3) := by decide +kernel
theorem dX1_dirty_4 : decode cX1_dirty 4 = .ok (.iload_n 1, 1) := by decide +kernel
theorem dX1_dirty_5 : decode cX1_dirty 5 = .ok (.bipush 7, 2) := by decide +kernel
theorem dX1_dirty_7 : decode cX1_dirty 7 = .ok (.if_icmp .gt 10, 3) := by decide +kernel
theorem dX1_dirty_10 : decode cX1_dirty 10 = .ok (.aload_n 0, 1) := by decide +kernel
theorem dX1_dirty_11 : decode cX1_dirty 11 = .ok (.getfield 36, 3) := by decide +kernel
theorem dX1_dirty_14 : decode cX1_dirty 14 = .ok (.ifCond .ne 5, 3) := by decide +kernel
theorem dX1_dirty_17 : decode cX1_dirty 17 = .ok (.iconst 0, 1) := by decide +kernel
theorem dX1_dirty_18 : decode cX1_dirty 18 = .ok (.ireturn, 1) := by decide +kernel
theorem dX1_dirty_19 : decode cX1_dirty 19 = .ok (.aload_n 0, 1) := by decide +kernel
theorem dX1_dirty_20 : decode cX1_dirty 20 = .ok (.getfield 36, 3) := by decide +kernel
theorem dX1_dirty_23 : decode cX1_dirty 23 = .ok (.iconst 1, 1) := by decide +kernel
theorem dX1_dirty_24 : decode cX1_dirty 24 = .ok (.if_icmp .ne 25, 3) := by decide +kernel
theorem dX1_dirty_27 : decode cX1_dirty 27 = .ok (.aload_n 0, 1) := by decide +kernel
theorem dX1_dirty_28 : decode cX1_dirty 28 = .ok (.getfield 22, 3) := by decide +kernel
theorem dX1_dirty_31 : decode cX1_dirty 31 = .ok (.iload_n 1, 1) := by decide +kernel
theorem dX1_dirty_32 : decode cX1_dirty 32 = .ok (.laload, 1) := by decide +kernel
theorem dX1_dirty_33 : decode cX1_dirty 33 = .ok (.aload_n 0, 1) := by decide +kernel
theorem dX1_dirty_34 : decode cX1_dirty 34 = .ok (.getfield 53, 3) := by decide +kernel
theorem dX1_dirty_37 : decode cX1_dirty 37 = .ok (.lcmp, 1) := by decide +kernel
theorem dX1_dirty_38 : decode cX1_dirty 38 = .ok (.ifCond .le 7, 3) := by decide +kernel
theorem dX1_dirty_41 : decode cX1_dirty 41 = .ok (.iconst 1, 1) := by decide +kernel
theorem dX1_dirty_42 : decode cX1_dirty 42 = .ok (.goto 13, 3) := by decide +kernel
theorem dX1_dirty_45 : decode cX1_dirty 45 = .ok (.iconst 0, 1) := by decide +kernel
theorem dX1_dirty_46 : decode cX1_dirty 46 = .ok (.goto 9, 3) := by decide +kernel
theorem dX1_dirty_49 : decode cX1_dirty 49 = .ok (.aload_n 0, 1) := by decide +kernel
theorem dX1_dirty_50 : decode cX1_dirty 50 = .ok (.getfield 30, 3) := by decide +kernel
theorem dX1_dirty_53 : decode cX1_dirty 53 = .ok (.iload_n 1, 1) := by decide +kernel
theorem dX1_dirty_54 : decode cX1_dirty 54 = .ok (.baload, 1) := by decide +kernel
theorem dX1_dirty_55 : decode cX1_dirty 55 = .ok (.ireturn, 1) := by decide +kernel
theorem dX1_waits_0 : decode cX1_waits 0 = .ok (.iload_n 1, 1) := by decide +kernel
theorem dX1_waits_1 : decode cX1_waits 1 = .ok (.ifCond .lt 22, 3) := by decide +kernel
theorem dX1_waits_4 : decode cX1_waits 4 = .ok (.iload_n 1, 1) := by decide +kernel
theorem dX1_waits_5 : decode cX1_waits 5 = .ok (.bipush 7, 2) := by decide +kernel
theorem dX1_waits_7 : decode cX1_waits 7 = .ok (.if_icmp .gt 16, 3) := by decide +kernel
theorem dX1_waits_10 : decode cX1_waits 10 = .ok (.aload_n 0, 1) := by decide +kernel
theorem dX1_waits_11 : decode cX1_waits 11 = .ok (.getfield 26, 3) := by decide +kernel
theorem dX1_waits_14 : decode cX1_waits 14 = .ok (.iload_n 1, 1) := by decide +kernel
theorem dX1_waits_15 : decode cX1_waits 15 = .ok (.baload, 1) := by decide +kernel
theorem dX1_waits_16 : decode cX1_waits 16 = .ok (.ifCond .eq 7, 3) := by decide +kernel
theorem dX1_waits_19 : decode cX1_waits 19 = .ok (.iconst 1, 1) := by decide +kernel
theorem dX1_waits_20 : decode cX1_waits 20 = .ok (.goto 4, 3) := by decide +kernel
theorem dX1_waits_23 : decode cX1_waits 23 = .ok (.iconst 0, 1) := by decide +kernel
theorem dX1_waits_24 : decode cX1_waits 24 = .ok (.ireturn, 1) := by decide +kernel
theorem dX1_source_0 : decode cX1_source 0 = .ok (.iload_n 1, 1) := by decide +kernel
theorem dX1_source_1 : decode cX1_source 1 = .ok (.ifCond .lt 9, 3) := by decide +kernel
theorem dX1_source_4 : decode cX1_source 4 = .ok (.iload_n 1, 1) := by decide +kernel
theorem dX1_source_5 : decode cX1_source 5 = .ok (.bipush 63, 2) := by decide +kernel
theorem dX1_source_7 : decode cX1_source 7 = .ok (.if_icmp .le 5, 3) := by decide +kernel
theorem dX1_source_10 : decode cX1_source 10 = .ok (.iconst 0, 1) := by decide +kernel
theorem dX1_source_11 : decode cX1_source 11 = .ok (.ireturn, 1) := by decide +kernel
theorem dX1_source_12 : decode cX1_source 12 = .ok (.aload_n 0, 1) := by decide +kernel
theorem dX1_source_13 : decode cX1_source 13 = .ok (.getfield 36, 3) := by decide +kernel
theorem dX1_source_16 : decode cX1_source 16 = .ok (.iconst 3, 1) := by decide +kernel
theorem dX1_source_17 : decode cX1_source 17 = .ok (.if_icmp .ne 12, 3) := by decide +kernel
theorem dX1_source_20 : decode cX1_source 20 = .ok (.aload_n 0, 1) := by decide +kernel
theorem dX1_source_21 : decode cX1_source 21 = .ok (.getfield 13, 3) := by decide +kernel
theorem dX1_source_24 : decode cX1_source 24 = .ok (.iload_n 1, 1) := by decide +kernel
theorem dX1_source_25 : decode cX1_source 25 = .ok (.iaload, 1) := by decide +kernel
theorem dX1_source_26 : decode cX1_source 26 = .ok (.goto 9, 3) := by decide +kernel
theorem dX1_source_29 : decode cX1_source 29 = .ok (.aload_n 0, 1) := by decide +kernel
theorem dX1_source_30 : decode cX1_source 30 = .ok (.getfield 7, 3) := by decide +kernel
theorem dX1_source_33 : decode cX1_source 33 = .ok (.iload_n 1, 1) := by decide +kernel
theorem dX1_source_34 : decode cX1_source 34 = .ok (.iaload, 1) := by decide +kernel
theorem dX1_source_35 : decode cX1_source 35 = .ok (.ireturn, 1) := by decide +kernel
theorem dX1_destination_0 : decode cX1_destination 0 = .ok (.iload_n 1, 1) := by decide +kernel
theorem dX1_destination_1 : decode cX1_destination 1 = .ok (.ifCond .lt 9, 3) := by decide +kernel
theorem dX1_destination_4 : decode cX1_destination 4 = .ok (.iload_n 1, 1) := by decide +kernel
theorem dX1_destination_5 : decode cX1_destination 5 = .ok (.bipush 63, 2) := by decide +kernel
theorem dX1_destination_7 : decode cX1_destination 7 = .ok (.if_icmp .le 5, 3) := by decide +kernel
theorem dX1_destination_10 : decode cX1_destination 10 = .ok (.iconst 0, 1) := by decide +kernel
theorem dX1_destination_11 : decode cX1_destination 11 = .ok (.ireturn, 1) := by decide +kernel
theorem dX1_destination_12 : decode cX1_destination 12 = .ok (.aload_n 0, 1) := by decide +kernel
theorem dX1_destination_13 : decode cX1_destination 13 = .ok (.getfield 36, 3) := by decide +kernel
theorem dX1_destination_16 : decode cX1_destination 16 = .ok (.iconst 3, 1) := by decide +kernel
theorem dX1_destination_17 : decode cX1_destination 17 = .ok (.if_icmp .ne 12, 3) := by decide +kernel
theorem dX1_destination_20 : decode cX1_destination 20 = .ok (.aload_n 0, 1) := by decide +kernel
theorem dX1_destination_21 : decode cX1_destination 21 = .ok (.getfield 7, 3) := by decide +kernel
theorem dX1_destination_24 : decode cX1_destination 24 = .ok (.iload_n 1, 1) := by decide +kernel
theorem dX1_destination_25 : decode cX1_destination 25 = .ok (.iaload, 1) := by decide +kernel
theorem dX1_destination_26 : decode cX1_destination 26 = .ok (.goto 9, 3) := by decide +kernel
theorem dX1_destination_29 : decode cX1_destination 29 = .ok (.aload_n 0, 1) := by decide +kernel
theorem dX1_destination_30 : decode cX1_destination 30 = .ok (.getfield 16, 3) := by decide +kernel
theorem dX1_destination_33 : decode cX1_destination 33 = .ok (.iload_n 1, 1) := by decide +kernel
theorem dX1_destination_34 : decode cX1_destination 34 = .ok (.iaload, 1) := by decide +kernel
theorem dX1_destination_35 : decode cX1_destination 35 = .ok (.ireturn, 1) := by decide +kernel
theorem dX1_register_0 : decode cX1_register 0 = .ok (.iload_n 1, 1) := by decide +kernel
theorem dX1_register_1 : decode cX1_register 1 = .ok (.ifCond .lt 8, 3) := by decide +kernel
theorem dX1_register_4 : decode cX1_register 4 = .ok (.iload_n 1, 1) := by decide +kernel
theorem dX1_register_5 : decode cX1_register 5 = .ok (.iconst 3, 1) := by decide +kernel
theorem dX1_register_6 : decode cX1_register 6 = .ok (.if_icmp .le 7, 3) := by decide +kernel
theorem dX1_register_9 : decode cX1_register 9 = .ok (.iconst 0, 1) := by decide +kernel
theorem dX1_register_10 : decode cX1_register 10 = .ok (.goto 9, 3) := by decide +kernel
theorem dX1_register_13 : decode cX1_register 13 = .ok (.aload_n 0, 1) := by decide +kernel
theorem dX1_register_14 : decode cX1_register 14 = .ok (.getfield 19, 3) := by decide +kernel
theorem dX1_register_17 : decode cX1_register 17 = .ok (.iload_n 1, 1) := by decide +kernel
theorem dX1_register_18 : decode cX1_register 18 = .ok (.iaload, 1) := by decide +kernel
theorem dX1_register_19 : decode cX1_register 19 = .ok (.ireturn, 1) := by decide +kernel
theorem dX1_pc_0 : decode cX1_pc 0 = .ok (.aload_n 0, 1) := by decide +kernel
theorem dX1_pc_1 : decode cX1_pc 1 = .ok (.getfield 56, 3) := by decide +kernel
theorem dX1_pc_4 : decode cX1_pc 4 = .ok (.ireturn, 1) := by decide +kernel
theorem dX1_shows_0 : decode cX1_shows 0 = .ok (.aload_n 0, 1) := by decide +kernel
theorem dX1_shows_1 : decode cX1_shows 1 = .ok (.getfield 59, 3) := by decide +kernel
theorem dX1_shows_4 : decode cX1_shows 4 = .ok (.ireturn, 1) := by decide +kernel
theorem dX1_shown_0 : decode cX1_shown 0 = .ok (.iload_n 1, 1) := by decide +kernel
theorem dX1_shown_1 : decode cX1_shown 1 = .ok (.ifCond .lt 17, 3) := by decide +kernel
theorem dX1_shown_4 : decode cX1_shown 4 = .ok (.iload_n 1, 1) := by decide +kernel
theorem dX1_shown_5 : decode cX1_shown 5 = .ok (.bipush 7, 2) := by decide +kernel
theorem dX1_shown_7 : decode cX1_shown 7 = .ok (.if_icmp .gt 11, 3) := by decide +kernel
theorem dX1_shown_10 : decode cX1_shown 10 = .ok (.iload_n 1, 1) := by decide +kernel
theorem dX1_shown_11 : decode cX1_shown 11 = .ok (.aload_n 0, 1) := by decide +kernel
theorem dX1_shown_12 : decode cX1_shown 12 = .ok (.getfield 59, 3) := by decide +kernel
theorem dX1_shown_15 : decode cX1_shown 15 = .ok (.if_icmp .lt 7, 3) := by decide +kernel
theorem dX1_shown_18 : decode cX1_shown 18 = .ok (.iconst 0, 1) := by decide +kernel
theorem dX1_shown_19 : decode cX1_shown 19 = .ok (.goto 9, 3) := by decide +kernel
theorem dX1_shown_22 : decode cX1_shown 22 = .ok (.aload_n 0, 1) := by decide +kernel
theorem dX1_shown_23 : decode cX1_shown 23 = .ok (.getfield 33, 3) := by decide +kernel
theorem dX1_shown_26 : decode cX1_shown 26 = .ok (.iload_n 1, 1) := by decide +kernel
theorem dX1_shown_27 : decode cX1_shown 27 = .ok (.iaload, 1) := by decide +kernel
theorem dX1_shown_28 : decode cX1_shown 28 = .ok (.ireturn, 1) := by decide +kernel
theorem dJ6_bitCount_0f7a4_0 : decode cJ6_bitCount_0f7a4 0 = .ok (.iload_n 0, 1) := by decide +kernel
theorem dJ6_bitCount_0f7a4_1 : decode cJ6_bitCount_0f7a4 1 = .ok (.iload_n 0, 1) := by decide +kernel
theorem dJ6_bitCount_0f7a4_2 : decode cJ6_bitCount_0f7a4 2 = .ok (.iconst 1, 1) := by decide +kernel
theorem dJ6_bitCount_0f7a4_3 : decode cJ6_bitCount_0f7a4 3 = .ok (.iushr, 1) := by decide +kernel
theorem dJ6_bitCount_0f7a4_4 : decode cJ6_bitCount_0f7a4 4 = .ok (.ldc_w 265, 3) := by decide +kernel
theorem dJ6_bitCount_0f7a4_7 : decode cJ6_bitCount_0f7a4 7 = .ok (.iand, 1) := by decide +kernel
theorem dJ6_bitCount_0f7a4_8 : decode cJ6_bitCount_0f7a4 8 = .ok (.isub, 1) := by decide +kernel
theorem dJ6_bitCount_0f7a4_9 : decode cJ6_bitCount_0f7a4 9 = .ok (.istore_n 0, 1) := by decide +kernel
theorem dJ6_bitCount_0f7a4_10 : decode cJ6_bitCount_0f7a4 10 = .ok (.iload_n 0, 1) := by decide +kernel
theorem dJ6_bitCount_0f7a4_11 : decode cJ6_bitCount_0f7a4 11 = .ok (.ldc_w 266, 3) := by decide +kernel
theorem dJ6_bitCount_0f7a4_14 : decode cJ6_bitCount_0f7a4 14 = .ok (.iand, 1) := by decide +kernel
theorem dJ6_bitCount_0f7a4_15 : decode cJ6_bitCount_0f7a4 15 = .ok (.iload_n 0, 1) := by decide +kernel
theorem dJ6_bitCount_0f7a4_16 : decode cJ6_bitCount_0f7a4 16 = .ok (.iconst 2, 1) := by decide +kernel
theorem dJ6_bitCount_0f7a4_17 : decode cJ6_bitCount_0f7a4 17 = .ok (.iushr, 1) := by decide +kernel
theorem dJ6_bitCount_0f7a4_18 : decode cJ6_bitCount_0f7a4 18 = .ok (.ldc_w 266, 3) := by decide +kernel
theorem dJ6_bitCount_0f7a4_21 : decode cJ6_bitCount_0f7a4 21 = .ok (.iand, 1) := by decide +kernel
theorem dJ6_bitCount_0f7a4_22 : decode cJ6_bitCount_0f7a4 22 = .ok (.iadd, 1) := by decide +kernel
theorem dJ6_bitCount_0f7a4_23 : decode cJ6_bitCount_0f7a4 23 = .ok (.istore_n 0, 1) := by decide +kernel
theorem dJ6_bitCount_0f7a4_24 : decode cJ6_bitCount_0f7a4 24 = .ok (.iload_n 0, 1) := by decide +kernel
theorem dJ6_bitCount_0f7a4_25 : decode cJ6_bitCount_0f7a4 25 = .ok (.iload_n 0, 1) := by decide +kernel
theorem dJ6_bitCount_0f7a4_26 : decode cJ6_bitCount_0f7a4 26 = .ok (.iconst 4, 1) := by decide +kernel
theorem dJ6_bitCount_0f7a4_27 : decode cJ6_bitCount_0f7a4 27 = .ok (.iushr, 1) := by decide +kernel
theorem dJ6_bitCount_0f7a4_28 : decode cJ6_bitCount_0f7a4 28 = .ok (.iadd, 1) := by decide +kernel
theorem dJ6_bitCount_0f7a4_29 : decode cJ6_bitCount_0f7a4 29 = .ok (.ldc_w 267, 3) := by decide +kernel
theorem dJ6_bitCount_0f7a4_32 : decode cJ6_bitCount_0f7a4 32 = .ok (.iand, 1) := by decide +kernel
theorem dJ6_bitCount_0f7a4_33 : decode cJ6_bitCount_0f7a4 33 = .ok (.istore_n 0, 1) := by decide +kernel
theorem dJ6_bitCount_0f7a4_34 : decode cJ6_bitCount_0f7a4 34 = .ok (.iload_n 0, 1) := by decide +kernel
theorem dJ6_bitCount_0f7a4_35 : decode cJ6_bitCount_0f7a4 35 = .ok (.iload_n 0, 1) := by decide +kernel
theorem dJ6_bitCount_0f7a4_36 : decode cJ6_bitCount_0f7a4 36 = .ok (.bipush 8, 2) := by decide +kernel
theorem dJ6_bitCount_0f7a4_38 : decode cJ6_bitCount_0f7a4 38 = .ok (.iushr, 1) := by decide +kernel
theorem dJ6_bitCount_0f7a4_39 : decode cJ6_bitCount_0f7a4 39 = .ok (.iadd, 1) := by decide +kernel
theorem dJ6_bitCount_0f7a4_40 : decode cJ6_bitCount_0f7a4 40 = .ok (.istore_n 0, 1) := by decide +kernel
theorem dJ6_bitCount_0f7a4_41 : decode cJ6_bitCount_0f7a4 41 = .ok (.iload_n 0, 1) := by decide +kernel
theorem dJ6_bitCount_0f7a4_42 : decode cJ6_bitCount_0f7a4 42 = .ok (.iload_n 0, 1) := by decide +kernel
theorem dJ6_bitCount_0f7a4_43 : decode cJ6_bitCount_0f7a4 43 = .ok (.bipush 16, 2) := by decide +kernel
theorem dJ6_bitCount_0f7a4_45 : decode cJ6_bitCount_0f7a4 45 = .ok (.iushr, 1) := by decide +kernel
theorem dJ6_bitCount_0f7a4_46 : decode cJ6_bitCount_0f7a4 46 = .ok (.iadd, 1) := by decide +kernel
theorem dJ6_bitCount_0f7a4_47 : decode cJ6_bitCount_0f7a4 47 = .ok (.istore_n 0, 1) := by decide +kernel
theorem dJ6_bitCount_0f7a4_48 : decode cJ6_bitCount_0f7a4 48 = .ok (.iload_n 0, 1) := by decide +kernel
theorem dJ6_bitCount_0f7a4_49 : decode cJ6_bitCount_0f7a4 49 = .ok (.bipush 63, 2) := by decide +kernel
theorem dJ6_bitCount_0f7a4_51 : decode cJ6_bitCount_0f7a4 51 = .ok (.iand, 1) := by decide +kernel
theorem dJ6_bitCount_0f7a4_52 : decode cJ6_bitCount_0f7a4 52 = .ok (.ireturn, 1) := by decide +kernel
end
section
set_option maxRecDepth 20000 in
theorem ggL_law_X0_init : GoodIn wsL_law wsX0_init := goodIn_r _ [8, 9, 10, 11, 12, 13, 14, 15, 16, 17, 18, 19, 20, 21, 22, 23, 24, 208, 209, 210, 211, 212, 213, 214, 215, 216, 217, 218, 219] (by decide +kernel) (by decide +kernel)
set_option maxRecDepth 20000 in
theorem gL_law_X0_init : GoodIn wsL_law (wsX0_init) := ggL_law_X0_init
set_option maxRecDepth 20000 in
theorem ggL_law_X1_init : GoodIn wsL_law wsX1_init := goodIn_r _ [27, 28, 10, 11, 12, 29, 30, 31, 32, 33, 34, 35, 36, 37, 38, 39, 220, 221, 222, 223, 224, 225, 226, 227, 228, 229, 230, 231, 232, 233, 234, 235] (by decide +kernel) (by decide +kernel)
set_option maxRecDepth 20000 in
theorem gL_law_X1_init : GoodIn wsL_law (wsX1_init) := ggL_law_X1_init
set_option maxRecDepth 20000 in
theorem ggL_law_X0_poke : GoodIn wsL_law wsX0_poke := goodIn_r _ [43, 19, 13, 44, 45, 2, 46, 208, 209, 210, 211, 212, 213, 214, 215, 216, 217, 218, 219] (by decide +kernel) (by decide +kernel)
set_option maxRecDepth 20000 in
theorem gL_law_X0_poke : GoodIn wsL_law (wsV RL 13 RX0 yX0_poke wsX0_poke) := goodIn_app (goodIn_of _ (by decide +kernel)) ggL_law_X0_poke
set_option maxRecDepth 20000 in
theorem ggL_law_X1_poke : GoodIn wsL_law wsX1_poke := goodIn_r _ [50, 39, 29, 220, 221, 222, 223, 224, 225, 226, 227, 228, 229, 230, 231, 232, 233, 234, 235] (by decide +kernel) (by decide +kernel)
set_option maxRecDepth 20000 in
theorem gL_law_X1_poke : GoodIn wsL_law (wsV RL 17 RX1 yX1_poke wsX1_poke) := goodIn_app (goodIn_of _ (by decide +kernel)) ggL_law_X1_poke
set_option maxRecDepth 20000 in
theorem ggL_law_X0_begin : GoodIn wsL_law wsX0_begin := goodIn_r _ [54, 19, 21, 22, 20, 24, 23, 208, 209, 210, 211, 212, 213, 214, 215, 216, 217, 218, 219] (by decide +kernel) (by decide +kernel)
set_option maxRecDepth 20000 in
theorem gL_law_X0_begin : GoodIn wsL_law (wsV RL 18 RX0 yX0_begin wsX0_begin) := goodIn_app (goodIn_of _ (by decide +kernel)) ggL_law_X0_begin
set_option maxRecDepth 20000 in
theorem ggL_law_X1_begin : GoodIn wsL_law wsX1_begin := goodIn_r _ [58, 39, 59, 60, 61, 62, 63, 36, 220, 221, 222, 223, 224, 225, 226, 227, 228, 229, 230, 231, 232, 233, 234, 235] (by decide +kernel) (by decide +kernel)
set_option maxRecDepth 20000 in
theorem gL_law_X1_begin : GoodIn wsL_law (wsV RL 21 RX1 yX1_begin wsX1_begin) := goodIn_app (goodIn_of _ (by decide +kernel)) ggL_law_X1_begin
set_option maxRecDepth 20000 in
theorem ggL_law_X0_run : GoodIn wsL_law wsX0_run := goodIn_r _ [67, 19, 68, 69, 70, 2, 71, 17, 15, 72, 73, 74, 75, 14, 13, 76, 77, 78, 79, 23, 80, 81, 82, 83, 16, 18, 208, 209, 210, 211, 212, 213, 214, 215, 216, 217, 218, 219] (by decide +kernel) (by decide +kernel)
set_option maxRecDepth 20000 in
theorem gL_law_X0_run : GoodIn wsL_law (wsV RL 22 RX0 yX0_run wsX0_run) := goodIn_app (goodIn_of _ (by decide +kernel)) ggL_law_X0_run
set_option maxRecDepth 20000 in
theorem ggL_law_X1_run : GoodIn wsL_law wsX1_run := goodIn_r _ [87, 39, 88, 89, 90, 5, 91, 29, 92, 32, 62, 34, 38, 93, 220, 221, 222, 223, 224, 225, 226, 227, 228, 229, 230, 231, 232, 233, 234, 235] (by decide +kernel) (by decide +kernel)
set_option maxRecDepth 20000 in
theorem gL_law_X1_run : GoodIn wsL_law (wsV RL 26 RX1 yX1_run wsX1_run) := goodIn_app (goodIn_of _ (by decide +kernel)) ggL_law_X1_run
set_option maxRecDepth 20000 in
theorem ggL_law_X0_copy : GoodIn wsL_law wsX0_copy := goodIn_r _ [97, 19, 24, 98, 99, 100, 2, 101, 102, 103, 104, 105, 106, 107, 108, 14, 13, 109, 110, 111, 112, 23, 21, 20, 22, 113, 114, 115, 116, 117, 118, 119, 208, 209, 210, 211, 212, 213, 214, 215, 216, 217, 218, 219] (by decide +kernel) (by decide +kernel)
set_option maxRecDepth 20000 in
theorem gL_law_X0_copy : GoodIn wsL_law (wsV RL 27 RX0 yX0_copy wsX0_copy) := goodIn_app (goodIn_of _ (by decide +kernel)) ggL_law_X0_copy
set_option maxRecDepth 20000 in
theorem ggL_law_X1_copy : GoodIn wsL_law wsX1_copy := goodIn_r _ [123, 39, 36, 31, 29, 30, 37, 59, 61, 60, 62, 63, 124, 125, 126, 5, 127, 34, 220, 221, 222, 223, 224, 225, 226, 227, 228, 229, 230, 231, 232, 233, 234, 235] (by decide +kernel) (by decide +kernel)
set_option maxRecDepth 20000 in
theorem gL_law_X1_copy : GoodIn wsL_law (wsV RL 31 RX1 yX1_copy wsX1_copy) := goodIn_app (goodIn_of _ (by decide +kernel)) ggL_law_X1_copy
set_option maxRecDepth 20000 in
theorem ggL_law_X0_phase : GoodIn wsL_law wsX0_phase := goodIn_r _ [131, 19, 208, 209, 210, 211, 212, 213, 214, 215, 216, 217, 218, 219] (by decide +kernel) (by decide +kernel)
set_option maxRecDepth 20000 in
theorem gL_law_X0_phase : GoodIn wsL_law (wsV RL 32 RX0 yX0_phase wsX0_phase) := goodIn_app (goodIn_of _ (by decide +kernel)) ggL_law_X0_phase
set_option maxRecDepth 20000 in
theorem ggL_law_X1_phase : GoodIn wsL_law wsX1_phase := goodIn_r _ [135, 39, 220, 221, 222, 223, 224, 225, 226, 227, 228, 229, 230, 231, 232, 233, 234, 235] (by decide +kernel) (by decide +kernel)
set_option maxRecDepth 20000 in
theorem gL_law_X1_phase : GoodIn wsL_law (wsV RL 35 RX1 yX1_phase wsX1_phase) := goodIn_app (goodIn_of _ (by decide +kernel)) ggL_law_X1_phase
set_option maxRecDepth 20000 in
theorem ggL_law_X0_round : GoodIn wsL_law wsX0_round := goodIn_r _ [139, 20, 208, 209, 210, 211, 212, 213, 214, 215, 216, 217, 218, 219] (by decide +kernel) (by decide +kernel)
set_option maxRecDepth 20000 in
theorem gL_law_X0_round : GoodIn wsL_law (wsV RL 36 RX0 yX0_round wsX0_round) := goodIn_app (goodIn_of _ (by decide +kernel)) ggL_law_X0_round
set_option maxRecDepth 20000 in
theorem ggL_law_X1_round : GoodIn wsL_law wsX1_round := goodIn_r _ [143, 61, 220, 221, 222, 223, 224, 225, 226, 227, 228, 229, 230, 231, 232, 233, 234, 235] (by decide +kernel) (by decide +kernel)
set_option maxRecDepth 20000 in
theorem gL_law_X1_round : GoodIn wsL_law (wsV RL 39 RX1 yX1_round wsX1_round) := goodIn_app (goodIn_of _ (by decide +kernel)) ggL_law_X1_round
set_option maxRecDepth 20000 in
theorem ggL_law_X0_dirty : GoodIn wsL_law wsX0_dirty := goodIn_r _ [147, 23, 148, 149, 2, 150, 102, 103, 104, 208, 209, 210, 211, 212, 213, 214, 215, 216, 217, 218, 219] (by decide +kernel) (by decide +kernel)
set_option maxRecDepth 20000 in
theorem gL_law_X0_dirty : GoodIn wsL_law (wsV RL 40 RX0 yX0_dirty wsX0_dirty) := goodIn_app (goodIn_of _ (by decide +kernel)) ggL_law_X0_dirty
set_option maxRecDepth 20000 in
theorem ggL_law_X1_dirty : GoodIn wsL_law wsX1_dirty := goodIn_r _ [127, 39, 34, 63, 37, 220, 221, 222, 223, 224, 225, 226, 227, 228, 229, 230, 231, 232, 233, 234, 235] (by decide +kernel) (by decide +kernel)
set_option maxRecDepth 20000 in
theorem gL_law_X1_dirty : GoodIn wsL_law (wsV RL 44 RX1 yX1_dirty wsX1_dirty) := goodIn_app (goodIn_of _ (by decide +kernel)) ggL_law_X1_dirty
set_option maxRecDepth 20000 in
theorem ggL_law_X0_waits : GoodIn wsL_law wsX0_waits := goodIn_r _ [155, 24, 148, 149, 2, 150, 102, 103, 104, 208, 209, 210, 211, 212, 213, 214, 215, 216, 217, 218, 219] (by decide +kernel) (by decide +kernel)
set_option maxRecDepth 20000 in
theorem gL_law_X0_waits : GoodIn wsL_law (wsV RL 45 RX0 yX0_waits wsX0_waits) := goodIn_app (goodIn_of _ (by decide +kernel)) ggL_law_X0_waits
set_option maxRecDepth 20000 in
theorem ggL_law_X1_waits : GoodIn wsL_law wsX1_waits := goodIn_r _ [159, 36, 220, 221, 222, 223, 224, 225, 226, 227, 228, 229, 230, 231, 232, 233, 234, 235] (by decide +kernel) (by decide +kernel)
set_option maxRecDepth 20000 in
theorem gL_law_X1_waits : GoodIn wsL_law (wsV RL 48 RX1 yX1_waits wsX1_waits) := goodIn_app (goodIn_of _ (by decide +kernel)) ggL_law_X1_waits
set_option maxRecDepth 20000 in
theorem ggL_law_X0_source : GoodIn wsL_law wsX0_source := goodIn_r _ [163, 13, 44, 45, 2, 46, 208, 209, 210, 211, 212, 213, 214, 215, 216, 217, 218, 219] (by decide +kernel) (by decide +kernel)
set_option maxRecDepth 20000 in
theorem gL_law_X0_source : GoodIn wsL_law (wsV RL 49 RX0 yX0_source wsX0_source) := goodIn_app (goodIn_of _ (by decide +kernel)) ggL_law_X0_source
set_option maxRecDepth 20000 in
theorem ggL_law_X1_source : GoodIn wsL_law wsX1_source := goodIn_r _ [167, 39, 30, 29, 220, 221, 222, 223, 224, 225, 226, 227, 228, 229, 230, 231, 232, 233, 234, 235] (by decide +kernel) (by decide +kernel)
set_option maxRecDepth 20000 in
theorem gL_law_X1_source : GoodIn wsL_law (wsV RL 52 RX1 yX1_source wsX1_source) := goodIn_app (goodIn_of _ (by decide +kernel)) ggL_law_X1_source
set_option maxRecDepth 20000 in
theorem ggL_law_X0_destination : GoodIn wsL_law wsX0_destination := goodIn_r _ [171, 14, 44, 45, 2, 46, 208, 209, 210, 211, 212, 213, 214, 215, 216, 217, 218, 219] (by decide +kernel) (by decide +kernel)
set_option maxRecDepth 20000 in
theorem gL_law_X0_destination : GoodIn wsL_law (wsV RL 53 RX0 yX0_destination wsX0_destination) := goodIn_app (goodIn_of _ (by decide +kernel)) ggL_law_X0_destination
set_option maxRecDepth 20000 in
theorem ggL_law_X1_destination : GoodIn wsL_law wsX1_destination := goodIn_r _ [175, 39, 29, 31, 220, 221, 222, 223, 224, 225, 226, 227, 228, 229, 230, 231, 232, 233, 234, 235] (by decide +kernel) (by decide +kernel)
set_option maxRecDepth 20000 in
theorem gL_law_X1_destination : GoodIn wsL_law (wsV RL 56 RX1 yX1_destination wsX1_destination) := goodIn_app (goodIn_of _ (by decide +kernel)) ggL_law_X1_destination
set_option maxRecDepth 20000 in
theorem ggL_law_X0_register : GoodIn wsL_law wsX0_register := goodIn_r _ [179, 15, 208, 209, 210, 211, 212, 213, 214, 215, 216, 217, 218, 219] (by decide +kernel) (by decide +kernel)
set_option maxRecDepth 20000 in
theorem gL_law_X0_register : GoodIn wsL_law (wsV RL 57 RX0 yX0_register wsX0_register) := goodIn_app (goodIn_of _ (by decide +kernel)) ggL_law_X0_register
set_option maxRecDepth 20000 in
theorem ggL_law_X1_register : GoodIn wsL_law wsX1_register := goodIn_r _ [183, 32, 220, 221, 222, 223, 224, 225, 226, 227, 228, 229, 230, 231, 232, 233, 234, 235] (by decide +kernel) (by decide +kernel)
set_option maxRecDepth 20000 in
theorem gL_law_X1_register : GoodIn wsL_law (wsV RL 60 RX1 yX1_register wsX1_register) := goodIn_app (goodIn_of _ (by decide +kernel)) ggL_law_X1_register
set_option maxRecDepth 20000 in
theorem ggL_law_X0_pc : GoodIn wsL_law wsX0_pc := goodIn_r _ [187, 17, 208, 209, 210, 211, 212, 213, 214, 215, 216, 217, 218, 219] (by decide +kernel) (by decide +kernel)
set_option maxRecDepth 20000 in
theorem gL_law_X0_pc : GoodIn wsL_law (wsV RL 61 RX0 yX0_pc wsX0_pc) := goodIn_app (goodIn_of _ (by decide +kernel)) ggL_law_X0_pc
set_option maxRecDepth 20000 in
theorem ggL_law_X1_pc : GoodIn wsL_law wsX1_pc := goodIn_r _ [191, 92, 220, 221, 222, 223, 224, 225, 226, 227, 228, 229, 230, 231, 232, 233, 234, 235] (by decide +kernel) (by decide +kernel)
set_option maxRecDepth 20000 in
theorem gL_law_X1_pc : GoodIn wsL_law (wsV RL 64 RX1 yX1_pc wsX1_pc) := goodIn_app (goodIn_of _ (by decide +kernel)) ggL_law_X1_pc
set_option maxRecDepth 20000 in
theorem ggL_law_X0_shows : GoodIn wsL_law wsX0_shows := goodIn_r _ [195, 18, 208, 209, 210, 211, 212, 213, 214, 215, 216, 217, 218, 219] (by decide +kernel) (by decide +kernel)
set_option maxRecDepth 20000 in
theorem gL_law_X0_shows : GoodIn wsL_law (wsV RL 65 RX0 yX0_shows wsX0_shows) := goodIn_app (goodIn_of _ (by decide +kernel)) ggL_law_X0_shows
set_option maxRecDepth 20000 in
theorem ggL_law_X1_shows : GoodIn wsL_law wsX1_shows := goodIn_r _ [199, 93, 220, 221, 222, 223, 224, 225, 226, 227, 228, 229, 230, 231, 232, 233, 234, 235] (by decide +kernel) (by decide +kernel)
set_option maxRecDepth 20000 in
theorem gL_law_X1_shows : GoodIn wsL_law (wsV RL 68 RX1 yX1_shows wsX1_shows) := goodIn_app (goodIn_of _ (by decide +kernel)) ggL_law_X1_shows
set_option maxRecDepth 20000 in
theorem ggL_law_X0_shown : GoodIn wsL_law wsX0_shown := goodIn_r _ [203, 18, 16, 208, 209, 210, 211, 212, 213, 214, 215, 216, 217, 218, 219] (by decide +kernel) (by decide +kernel)
set_option maxRecDepth 20000 in
theorem gL_law_X0_shown : GoodIn wsL_law (wsV RL 69 RX0 yX0_shown wsX0_shown) := goodIn_app (goodIn_of _ (by decide +kernel)) ggL_law_X0_shown
set_option maxRecDepth 20000 in
theorem ggL_law_X1_shown : GoodIn wsL_law wsX1_shown := goodIn_r _ [207, 93, 38, 220, 221, 222, 223, 224, 225, 226, 227, 228, 229, 230, 231, 232, 233, 234, 235] (by decide +kernel) (by decide +kernel)
set_option maxRecDepth 20000 in
theorem gL_law_X1_shown : GoodIn wsL_law (wsV RL 72 RX1 yX1_shown wsX1_shown) := goodIn_app (goodIn_of _ (by decide +kernel)) ggL_law_X1_shown
theorem dL_law_0 : decode cL_law 0 = .ok (.new 7, 3) := by decide +kernel
theorem dL_law_3 : decode cL_law 3 = .ok (.dup, 1) := by decide +kernel
theorem dL_law_4 : decode cL_law 4 = .ok (.invokespecial 9, 3) := by decide +kernel
theorem dL_law_7 : decode cL_law 7 = .ok (.astore_n 1, 1) := by decide +kernel
theorem dL_law_8 : decode cL_law 8 = .ok (.new 10, 3) := by decide +kernel
theorem dL_law_11 : decode cL_law 11 = .ok (.dup, 1) := by decide +kernel
theorem dL_law_12 : decode cL_law 12 = .ok (.invokespecial 12, 3) := by decide +kernel
theorem dL_law_15 : decode cL_law 15 = .ok (.astore_n 2, 1) := by decide +kernel
theorem dL_law_16 : decode cL_law 16 = .ok (.iconst 0, 1) := by decide +kernel
theorem dL_law_17 : decode cL_law 17 = .ok (.istore_n 3, 1) := by decide +kernel
theorem dL_law_18 : decode cL_law 18 = .ok (.iload_n 3, 1) := by decide +kernel
theorem dL_law_19 : decode cL_law 19 = .ok (.aload_n 0, 1) := by decide +kernel
theorem dL_law_20 : decode cL_law 20 = .ok (.arraylength, 1) := by decide +kernel
theorem dL_law_21 : decode cL_law 21 = .ok (.iconst 3, 1) := by decide +kernel
theorem dL_law_22 : decode cL_law 22 = .ok (.isub, 1) := by decide +kernel
theorem dL_law_23 : decode cL_law 23 = .ok (.if_icmp .gt 379, 3) := by decide +kernel
theorem dL_law_26 : decode cL_law 26 = .ok (.aload_n 0, 1) := by decide +kernel
theorem dL_law_27 : decode cL_law 27 = .ok (.iload_n 3, 1) := by decide +kernel
theorem dL_law_28 : decode cL_law 28 = .ok (.iaload, 1) := by decide +kernel
theorem dL_law_29 : decode cL_law 29 = .ok (.bipush 15, 2) := by decide +kernel
theorem dL_law_31 : decode cL_law 31 = .ok (.iand, 1) := by decide +kernel
theorem dL_law_32 : decode cL_law 32 = .ok (.tableswitch 364 0 13 #[72, 105, 138, 161, 174, 187, 200, 223, 246, 269, 292, 315, 328, 341], 72) := by decide +kernel
theorem dL_law_104 : decode cL_law 104 = .ok (.aload_n 1, 1) := by decide +kernel
theorem dL_law_105 : decode cL_law 105 = .ok (.aload_n 0, 1) := by decide +kernel
theorem dL_law_106 : decode cL_law 106 = .ok (.iload_n 3, 1) := by decide +kernel
theorem dL_law_107 : decode cL_law 107 = .ok (.iconst 1, 1) := by decide +kernel
theorem dL_law_108 : decode cL_law 108 = .ok (.iadd, 1) := by decide +kernel
theorem dL_law_109 : decode cL_law 109 = .ok (.iaload, 1) := by decide +kernel
theorem dL_law_110 : decode cL_law 110 = .ok (.aload_n 0, 1) := by decide +kernel
theorem dL_law_111 : decode cL_law 111 = .ok (.iload_n 3, 1) := by decide +kernel
theorem dL_law_112 : decode cL_law 112 = .ok (.iconst 2, 1) := by decide +kernel
theorem dL_law_113 : decode cL_law 113 = .ok (.iadd, 1) := by decide +kernel
theorem dL_law_114 : decode cL_law 114 = .ok (.iaload, 1) := by decide +kernel
theorem dL_law_115 : decode cL_law 115 = .ok (.invokevirtual 13, 3) := by decide +kernel
theorem dL_law_118 : decode cL_law 118 = .ok (.aload_n 2, 1) := by decide +kernel
theorem dL_law_119 : decode cL_law 119 = .ok (.aload_n 0, 1) := by decide +kernel
theorem dL_law_120 : decode cL_law 120 = .ok (.iload_n 3, 1) := by decide +kernel
theorem dL_law_121 : decode cL_law 121 = .ok (.iconst 1, 1) := by decide +kernel
theorem dL_law_122 : decode cL_law 122 = .ok (.iadd, 1) := by decide +kernel
theorem dL_law_123 : decode cL_law 123 = .ok (.iaload, 1) := by decide +kernel
theorem dL_law_124 : decode cL_law 124 = .ok (.aload_n 0, 1) := by decide +kernel
theorem dL_law_125 : decode cL_law 125 = .ok (.iload_n 3, 1) := by decide +kernel
theorem dL_law_126 : decode cL_law 126 = .ok (.iconst 2, 1) := by decide +kernel
theorem dL_law_127 : decode cL_law 127 = .ok (.iadd, 1) := by decide +kernel
theorem dL_law_128 : decode cL_law 128 = .ok (.iaload, 1) := by decide +kernel
theorem dL_law_129 : decode cL_law 129 = .ok (.invokevirtual 17, 3) := by decide +kernel
theorem dL_law_132 : decode cL_law 132 = .ok (.if_icmp .eq 264, 3) := by decide +kernel
theorem dL_law_135 : decode cL_law 135 = .ok (.iconst 0, 1) := by decide +kernel
theorem dL_law_136 : decode cL_law 136 = .ok (.ireturn, 1) := by decide +kernel
theorem dL_law_137 : decode cL_law 137 = .ok (.aload_n 1, 1) := by decide +kernel
theorem dL_law_138 : decode cL_law 138 = .ok (.aload_n 0, 1) := by decide +kernel
theorem dL_law_139 : decode cL_law 139 = .ok (.iload_n 3, 1) := by decide +kernel
theorem dL_law_140 : decode cL_law 140 = .ok (.iconst 1, 1) := by decide +kernel
theorem dL_law_141 : decode cL_law 141 = .ok (.iadd, 1) := by decide +kernel
theorem dL_law_142 : decode cL_law 142 = .ok (.iaload, 1) := by decide +kernel
theorem dL_law_143 : decode cL_law 143 = .ok (.aload_n 0, 1) := by decide +kernel
theorem dL_law_144 : decode cL_law 144 = .ok (.iload_n 3, 1) := by decide +kernel
theorem dL_law_145 : decode cL_law 145 = .ok (.iconst 2, 1) := by decide +kernel
theorem dL_law_146 : decode cL_law 146 = .ok (.iadd, 1) := by decide +kernel
theorem dL_law_147 : decode cL_law 147 = .ok (.iaload, 1) := by decide +kernel
theorem dL_law_148 : decode cL_law 148 = .ok (.invokevirtual 18, 3) := by decide +kernel
theorem dL_law_151 : decode cL_law 151 = .ok (.aload_n 2, 1) := by decide +kernel
theorem dL_law_152 : decode cL_law 152 = .ok (.aload_n 0, 1) := by decide +kernel
theorem dL_law_153 : decode cL_law 153 = .ok (.iload_n 3, 1) := by decide +kernel
theorem dL_law_154 : decode cL_law 154 = .ok (.iconst 1, 1) := by decide +kernel
theorem dL_law_155 : decode cL_law 155 = .ok (.iadd, 1) := by decide +kernel
theorem dL_law_156 : decode cL_law 156 = .ok (.iaload, 1) := by decide +kernel
theorem dL_law_157 : decode cL_law 157 = .ok (.aload_n 0, 1) := by decide +kernel
theorem dL_law_158 : decode cL_law 158 = .ok (.iload_n 3, 1) := by decide +kernel
theorem dL_law_159 : decode cL_law 159 = .ok (.iconst 2, 1) := by decide +kernel
theorem dL_law_160 : decode cL_law 160 = .ok (.iadd, 1) := by decide +kernel
theorem dL_law_161 : decode cL_law 161 = .ok (.iaload, 1) := by decide +kernel
theorem dL_law_162 : decode cL_law 162 = .ok (.invokevirtual 21, 3) := by decide +kernel
theorem dL_law_165 : decode cL_law 165 = .ok (.if_icmp .eq 231, 3) := by decide +kernel
theorem dL_law_168 : decode cL_law 168 = .ok (.iconst 0, 1) := by decide +kernel
theorem dL_law_169 : decode cL_law 169 = .ok (.ireturn, 1) := by decide +kernel
theorem dL_law_170 : decode cL_law 170 = .ok (.aload_n 1, 1) := by decide +kernel
theorem dL_law_171 : decode cL_law 171 = .ok (.aload_n 0, 1) := by decide +kernel
theorem dL_law_172 : decode cL_law 172 = .ok (.iload_n 3, 1) := by decide +kernel
theorem dL_law_173 : decode cL_law 173 = .ok (.iconst 1, 1) := by decide +kernel
theorem dL_law_174 : decode cL_law 174 = .ok (.iadd, 1) := by decide +kernel
theorem dL_law_175 : decode cL_law 175 = .ok (.iaload, 1) := by decide +kernel
theorem dL_law_176 : decode cL_law 176 = .ok (.invokevirtual 22, 3) := by decide +kernel
theorem dL_law_179 : decode cL_law 179 = .ok (.aload_n 2, 1) := by decide +kernel
theorem dL_law_180 : decode cL_law 180 = .ok (.aload_n 0, 1) := by decide +kernel
theorem dL_law_181 : decode cL_law 181 = .ok (.iload_n 3, 1) := by decide +kernel
theorem dL_law_182 : decode cL_law 182 = .ok (.iconst 1, 1) := by decide +kernel
theorem dL_law_183 : decode cL_law 183 = .ok (.iadd, 1) := by decide +kernel
theorem dL_law_184 : decode cL_law 184 = .ok (.iaload, 1) := by decide +kernel
theorem dL_law_185 : decode cL_law 185 = .ok (.invokevirtual 26, 3) := by decide +kernel
theorem dL_law_188 : decode cL_law 188 = .ok (.if_icmp .eq 208, 3) := by decide +kernel
theorem dL_law_191 : decode cL_law 191 = .ok (.iconst 0, 1) := by decide +kernel
theorem dL_law_192 : decode cL_law 192 = .ok (.ireturn, 1) := by decide +kernel
theorem dL_law_193 : decode cL_law 193 = .ok (.aload_n 1, 1) := by decide +kernel
theorem dL_law_194 : decode cL_law 194 = .ok (.invokevirtual 27, 3) := by decide +kernel
theorem dL_law_197 : decode cL_law 197 = .ok (.aload_n 2, 1) := by decide +kernel
theorem dL_law_198 : decode cL_law 198 = .ok (.invokevirtual 31, 3) := by decide +kernel
theorem dL_law_201 : decode cL_law 201 = .ok (.if_icmp .eq 195, 3) := by decide +kernel
theorem dL_law_204 : decode cL_law 204 = .ok (.iconst 0, 1) := by decide +kernel
theorem dL_law_205 : decode cL_law 205 = .ok (.ireturn, 1) := by decide +kernel
theorem dL_law_206 : decode cL_law 206 = .ok (.aload_n 1, 1) := by decide +kernel
theorem dL_law_207 : decode cL_law 207 = .ok (.invokevirtual 32, 3) := by decide +kernel
theorem dL_law_210 : decode cL_law 210 = .ok (.aload_n 2, 1) := by decide +kernel
theorem dL_law_211 : decode cL_law 211 = .ok (.invokevirtual 35, 3) := by decide +kernel
theorem dL_law_214 : decode cL_law 214 = .ok (.if_icmp .eq 182, 3) := by decide +kernel
theorem dL_law_217 : decode cL_law 217 = .ok (.iconst 0, 1) := by decide +kernel
theorem dL_law_218 : decode cL_law 218 = .ok (.ireturn, 1) := by decide +kernel
theorem dL_law_219 : decode cL_law 219 = .ok (.aload_n 1, 1) := by decide +kernel
theorem dL_law_220 : decode cL_law 220 = .ok (.invokevirtual 36, 3) := by decide +kernel
theorem dL_law_223 : decode cL_law 223 = .ok (.aload_n 2, 1) := by decide +kernel
theorem dL_law_224 : decode cL_law 224 = .ok (.invokevirtual 39, 3) := by decide +kernel
theorem dL_law_227 : decode cL_law 227 = .ok (.if_icmp .eq 169, 3) := by decide +kernel
theorem dL_law_230 : decode cL_law 230 = .ok (.iconst 0, 1) := by decide +kernel
theorem dL_law_231 : decode cL_law 231 = .ok (.ireturn, 1) := by decide +kernel
theorem dL_law_232 : decode cL_law 232 = .ok (.aload_n 1, 1) := by decide +kernel
theorem dL_law_233 : decode cL_law 233 = .ok (.aload_n 0, 1) := by decide +kernel
theorem dL_law_234 : decode cL_law 234 = .ok (.iload_n 3, 1) := by decide +kernel
theorem dL_law_235 : decode cL_law 235 = .ok (.iconst 1, 1) := by decide +kernel
theorem dL_law_236 : decode cL_law 236 = .ok (.iadd, 1) := by decide +kernel
theorem dL_law_237 : decode cL_law 237 = .ok (.iaload, 1) := by decide +kernel
theorem dL_law_238 : decode cL_law 238 = .ok (.invokevirtual 40, 3) := by decide +kernel
theorem dL_law_241 : decode cL_law 241 = .ok (.aload_n 2, 1) := by decide +kernel
theorem dL_law_242 : decode cL_law 242 = .ok (.aload_n 0, 1) := by decide +kernel
theorem dL_law_243 : decode cL_law 243 = .ok (.iload_n 3, 1) := by decide +kernel
theorem dL_law_244 : decode cL_law 244 = .ok (.iconst 1, 1) := by decide +kernel
theorem dL_law_245 : decode cL_law 245 = .ok (.iadd, 1) := by decide +kernel
theorem dL_law_246 : decode cL_law 246 = .ok (.iaload, 1) := by decide +kernel
theorem dL_law_247 : decode cL_law 247 = .ok (.invokevirtual 44, 3) := by decide +kernel
theorem dL_law_250 : decode cL_law 250 = .ok (.if_icmp .eq 146, 3) := by decide +kernel
theorem dL_law_253 : decode cL_law 253 = .ok (.iconst 0, 1) := by decide +kernel
theorem dL_law_254 : decode cL_law 254 = .ok (.ireturn, 1) := by decide +kernel
theorem dL_law_255 : decode cL_law 255 = .ok (.aload_n 1, 1) := by decide +kernel
theorem dL_law_256 : decode cL_law 256 = .ok (.aload_n 0, 1) := by decide +kernel
theorem dL_law_257 : decode cL_law 257 = .ok (.iload_n 3, 1) := by decide +kernel
theorem dL_law_258 : decode cL_law 258 = .ok (.iconst 1, 1) := by decide +kernel
theorem dL_law_259 : decode cL_law 259 = .ok (.iadd, 1) := by decide +kernel
theorem dL_law_260 : decode cL_law 260 = .ok (.iaload, 1) := by decide +kernel
theorem dL_law_261 : decode cL_law 261 = .ok (.invokevirtual 45, 3) := by decide +kernel
theorem dL_law_264 : decode cL_law 264 = .ok (.aload_n 2, 1) := by decide +kernel
theorem dL_law_265 : decode cL_law 265 = .ok (.aload_n 0, 1) := by decide +kernel
theorem dL_law_266 : decode cL_law 266 = .ok (.iload_n 3, 1) := by decide +kernel
theorem dL_law_267 : decode cL_law 267 = .ok (.iconst 1, 1) := by decide +kernel
theorem dL_law_268 : decode cL_law 268 = .ok (.iadd, 1) := by decide +kernel
theorem dL_law_269 : decode cL_law 269 = .ok (.iaload, 1) := by decide +kernel
theorem dL_law_270 : decode cL_law 270 = .ok (.invokevirtual 48, 3) := by decide +kernel
theorem dL_law_273 : decode cL_law 273 = .ok (.if_icmp .eq 123, 3) := by decide +kernel
theorem dL_law_276 : decode cL_law 276 = .ok (.iconst 0, 1) := by decide +kernel
theorem dL_law_277 : decode cL_law 277 = .ok (.ireturn, 1) := by decide +kernel
theorem dL_law_278 : decode cL_law 278 = .ok (.aload_n 1, 1) := by decide +kernel
theorem dL_law_279 : decode cL_law 279 = .ok (.aload_n 0, 1) := by decide +kernel
theorem dL_law_280 : decode cL_law 280 = .ok (.iload_n 3, 1) := by decide +kernel
theorem dL_law_281 : decode cL_law 281 = .ok (.iconst 1, 1) := by decide +kernel
theorem dL_law_282 : decode cL_law 282 = .ok (.iadd, 1) := by decide +kernel
theorem dL_law_283 : decode cL_law 283 = .ok (.iaload, 1) := by decide +kernel
theorem dL_law_284 : decode cL_law 284 = .ok (.invokevirtual 49, 3) := by decide +kernel
theorem dL_law_287 : decode cL_law 287 = .ok (.aload_n 2, 1) := by decide +kernel
theorem dL_law_288 : decode cL_law 288 = .ok (.aload_n 0, 1) := by decide +kernel
theorem dL_law_289 : decode cL_law 289 = .ok (.iload_n 3, 1) := by decide +kernel
theorem dL_law_290 : decode cL_law 290 = .ok (.iconst 1, 1) := by decide +kernel
theorem dL_law_291 : decode cL_law 291 = .ok (.iadd, 1) := by decide +kernel
theorem dL_law_292 : decode cL_law 292 = .ok (.iaload, 1) := by decide +kernel
theorem dL_law_293 : decode cL_law 293 = .ok (.invokevirtual 52, 3) := by decide +kernel
theorem dL_law_296 : decode cL_law 296 = .ok (.if_icmp .eq 100, 3) := by decide +kernel
theorem dL_law_299 : decode cL_law 299 = .ok (.iconst 0, 1) := by decide +kernel
theorem dL_law_300 : decode cL_law 300 = .ok (.ireturn, 1) := by decide +kernel
theorem dL_law_301 : decode cL_law 301 = .ok (.aload_n 1, 1) := by decide +kernel
theorem dL_law_302 : decode cL_law 302 = .ok (.aload_n 0, 1) := by decide +kernel
theorem dL_law_303 : decode cL_law 303 = .ok (.iload_n 3, 1) := by decide +kernel
theorem dL_law_304 : decode cL_law 304 = .ok (.iconst 1, 1) := by decide +kernel
theorem dL_law_305 : decode cL_law 305 = .ok (.iadd, 1) := by decide +kernel
theorem dL_law_306 : decode cL_law 306 = .ok (.iaload, 1) := by decide +kernel
theorem dL_law_307 : decode cL_law 307 = .ok (.invokevirtual 53, 3) := by decide +kernel
theorem dL_law_310 : decode cL_law 310 = .ok (.aload_n 2, 1) := by decide +kernel
theorem dL_law_311 : decode cL_law 311 = .ok (.aload_n 0, 1) := by decide +kernel
theorem dL_law_312 : decode cL_law 312 = .ok (.iload_n 3, 1) := by decide +kernel
theorem dL_law_313 : decode cL_law 313 = .ok (.iconst 1, 1) := by decide +kernel
theorem dL_law_314 : decode cL_law 314 = .ok (.iadd, 1) := by decide +kernel
theorem dL_law_315 : decode cL_law 315 = .ok (.iaload, 1) := by decide +kernel
theorem dL_law_316 : decode cL_law 316 = .ok (.invokevirtual 56, 3) := by decide +kernel
theorem dL_law_319 : decode cL_law 319 = .ok (.if_icmp .eq 77, 3) := by decide +kernel
theorem dL_law_322 : decode cL_law 322 = .ok (.iconst 0, 1) := by decide +kernel
theorem dL_law_323 : decode cL_law 323 = .ok (.ireturn, 1) := by decide +kernel
theorem dL_law_324 : decode cL_law 324 = .ok (.aload_n 1, 1) := by decide +kernel
theorem dL_law_325 : decode cL_law 325 = .ok (.aload_n 0, 1) := by decide +kernel
theorem dL_law_326 : decode cL_law 326 = .ok (.iload_n 3, 1) := by decide +kernel
theorem dL_law_327 : decode cL_law 327 = .ok (.iconst 1, 1) := by decide +kernel
theorem dL_law_328 : decode cL_law 328 = .ok (.iadd, 1) := by decide +kernel
theorem dL_law_329 : decode cL_law 329 = .ok (.iaload, 1) := by decide +kernel
theorem dL_law_330 : decode cL_law 330 = .ok (.invokevirtual 57, 3) := by decide +kernel
theorem dL_law_333 : decode cL_law 333 = .ok (.aload_n 2, 1) := by decide +kernel
theorem dL_law_334 : decode cL_law 334 = .ok (.aload_n 0, 1) := by decide +kernel
theorem dL_law_335 : decode cL_law 335 = .ok (.iload_n 3, 1) := by decide +kernel
theorem dL_law_336 : decode cL_law 336 = .ok (.iconst 1, 1) := by decide +kernel
theorem dL_law_337 : decode cL_law 337 = .ok (.iadd, 1) := by decide +kernel
theorem dL_law_338 : decode cL_law 338 = .ok (.iaload, 1) := by decide +kernel
theorem dL_law_339 : decode cL_law 339 = .ok (.invokevirtual 60, 3) := by decide +kernel
theorem dL_law_342 : decode cL_law 342 = .ok (.if_icmp .eq 54, 3) := by decide +kernel
theorem dL_law_345 : decode cL_law 345 = .ok (.iconst 0, 1) := by decide +kernel
theorem dL_law_346 : decode cL_law 346 = .ok (.ireturn, 1) := by decide +kernel
theorem dL_law_347 : decode cL_law 347 = .ok (.aload_n 1, 1) := by decide +kernel
theorem dL_law_348 : decode cL_law 348 = .ok (.invokevirtual 61, 3) := by decide +kernel
theorem dL_law_351 : decode cL_law 351 = .ok (.aload_n 2, 1) := by decide +kernel
theorem dL_law_352 : decode cL_law 352 = .ok (.invokevirtual 64, 3) := by decide +kernel
theorem dL_law_355 : decode cL_law 355 = .ok (.if_icmp .eq 41, 3) := by decide +kernel
theorem dL_law_358 : decode cL_law 358 = .ok (.iconst 0, 1) := by decide +kernel
theorem dL_law_359 : decode cL_law 359 = .ok (.ireturn, 1) := by decide +kernel
theorem dL_law_360 : decode cL_law 360 = .ok (.aload_n 1, 1) := by decide +kernel
theorem dL_law_361 : decode cL_law 361 = .ok (.invokevirtual 65, 3) := by decide +kernel
theorem dL_law_364 : decode cL_law 364 = .ok (.aload_n 2, 1) := by decide +kernel
theorem dL_law_365 : decode cL_law 365 = .ok (.invokevirtual 68, 3) := by decide +kernel
theorem dL_law_368 : decode cL_law 368 = .ok (.if_icmp .eq 28, 3) := by decide +kernel
theorem dL_law_371 : decode cL_law 371 = .ok (.iconst 0, 1) := by decide +kernel
theorem dL_law_372 : decode cL_law 372 = .ok (.ireturn, 1) := by decide +kernel
theorem dL_law_373 : decode cL_law 373 = .ok (.aload_n 1, 1) := by decide +kernel
theorem dL_law_374 : decode cL_law 374 = .ok (.aload_n 0, 1) := by decide +kernel
theorem dL_law_375 : decode cL_law 375 = .ok (.iload_n 3, 1) := by decide +kernel
theorem dL_law_376 : decode cL_law 376 = .ok (.iconst 1, 1) := by decide +kernel
theorem dL_law_377 : decode cL_law 377 = .ok (.iadd, 1) := by decide +kernel
theorem dL_law_378 : decode cL_law 378 = .ok (.iaload, 1) := by decide +kernel
theorem dL_law_379 : decode cL_law 379 = .ok (.invokevirtual 69, 3) := by decide +kernel
theorem dL_law_382 : decode cL_law 382 = .ok (.aload_n 2, 1) := by decide +kernel
theorem dL_law_383 : decode cL_law 383 = .ok (.aload_n 0, 1) := by decide +kernel
theorem dL_law_384 : decode cL_law 384 = .ok (.iload_n 3, 1) := by decide +kernel
theorem dL_law_385 : decode cL_law 385 = .ok (.iconst 1, 1) := by decide +kernel
theorem dL_law_386 : decode cL_law 386 = .ok (.iadd, 1) := by decide +kernel
theorem dL_law_387 : decode cL_law 387 = .ok (.iaload, 1) := by decide +kernel
theorem dL_law_388 : decode cL_law 388 = .ok (.invokevirtual 72, 3) := by decide +kernel
theorem dL_law_391 : decode cL_law 391 = .ok (.if_icmp .eq 5, 3) := by decide +kernel
theorem dL_law_394 : decode cL_law 394 = .ok (.iconst 0, 1) := by decide +kernel
theorem dL_law_395 : decode cL_law 395 = .ok (.ireturn, 1) := by decide +kernel
theorem dL_law_396 : decode cL_law 396 = .ok (.iinc 3 3, 3) := by decide +kernel
theorem dL_law_399 : decode cL_law 399 = .ok (.goto (-381), 3) := by decide +kernel
theorem dL_law_402 : decode cL_law 402 = .ok (.iconst 1, 1) := by decide +kernel
theorem dL_law_403 : decode cL_law 403 = .ok (.ireturn, 1) := by decide +kernel
end
section
/-! What a state is: the class's (mgS), its cells, the reference's (mrS), its cells. -/
abbrev mgS : Type := (Nat → Int32) × (Nat → Int32) × (Nat → Int32) × (Nat → Int32) × Int32 × Int32 × Int32 × Int32 × Int32 × Int32 × Int32 × Int32
abbrev mg_W (h0 q1 q2 q3 q4 : Nat) (cA : ClassId) (u : mgS) : va_W := match u with
  | (S, D, R, K, pc, sc, ph, rd, th, lm, dy, wt) => [(h0, .inr (0, [.ref q1, .ref q2, .ref q3, .ref q4, .int pc, .int sc, .int ph, .int rd, .int th, .int lm, .int dy, .int wt])), (q1, .inl (cA, 64, .inl S)), (q2, .inl (cA, 64, .inl D)), (q3, .inl (cA, 4, .inl R)), (q4, .inl (cA, 8, .inl K))]
abbrev at_mg (dC : Nat → ClassId) (dI : Nat → Nat → Nat) (h0 q1 q2 q3 q4 : Nat) (cA : ClassId) (A : Nat → Prop) (u : mgS) (t : State) : Prop := va_P (dC, dI) vwCl (mg_W h0 q1 q2 q3 q4 cA u) t.heap ∧ va_K (dC, dI) vwCl [(cA, .int)] t ∧ va_D A (mg_W h0 q1 q2 q3 q4 cA u)
abbrev at_no (dC : Nat → ClassId) (dI : Nat → Nat → Nat) (A : Nat → Prop) (_ : Unit) (t : State) : Prop := va_P (dC, dI) vwCl [] t.heap ∧ va_K (dC, dI) vwCl [] t ∧ va_D A []
abbrev mrS : Type := (Nat → Int32) × (Nat → Int32) × (Nat → Int32) × (Nat → Int32) × (Nat → Int64) × (Nat → Int32) × (Nat → Int32) × (Nat → Int32) × Int32 × Int32 × Int32 × Int32 × Int32 × Int32 × Int64 × Int64
abbrev mr_W (h0 q1 q2 q3 q4 q5 q6 q7 q8 : Nat) (cA cJ cZ : ClassId) (v : mrS) : va_W := match v with
  | (M, N, C, R, G, E, F, T, pc, ph, rd, th, lm, sh, tm, sn) => [(h0, .inr (1, [.ref q1, .ref q2, .ref q3, .ref q4, .ref q5, .ref q6, .ref q7, .ref q8, .int pc, .int ph, .int rd, .int th, .int lm, .int sh, .long tm, .long sn])), (q1, .inl (cA, 64, .inl M)), (q2, .inl (cA, 64, .inl N)), (q3, .inl (cA, 64, .inl C)), (q4, .inl (cA, 4, .inl R)), (q5, .inl (cJ, 8, .inr (.inl G))), (q6, .inl (cZ, 8, .inl E)), (q7, .inl (cZ, 8, .inl F)), (q8, .inl (cA, 8, .inl T))]
abbrev at_mr (dC : Nat → ClassId) (dI : Nat → Nat → Nat) (h0 q1 q2 q3 q4 q5 q6 q7 q8 : Nat) (cA cJ cZ : ClassId) (A : Nat → Prop) (v : mrS) (t : State) : Prop := va_P (dC, dI) vwCl (mr_W h0 q1 q2 q3 q4 q5 q6 q7 q8 cA cJ cZ v) t.heap ∧ va_K (dC, dI) vwCl [(cA, .int), (cJ, .long), (cZ, .boolean)] t ∧ va_D A (mr_W h0 q1 q2 q3 q4 q5 q6 q7 q8 cA cJ cZ v)
/-! Places in range. -/
theorem in_63 (x : Int32) : vp_in (x &&& 63) 64 := pk_andIn x 6 (by decide) (by decide)
theorem in_7 (x : Int32) : vp_in (x &&& 7) 8 := pk_andIn x 3 (by decide) (by decide)
theorem in_3 (x : Int32) : vp_in (x &&& 3) 4 := pk_andIn x 2 (by decide) (by decide)
theorem in_lt {x y : Int32} {n : Nat} (hy : y.toInt = n) (h0 : ¬ x < 0) (h1 : ¬ y ≤ x) : vp_in x n := by
  rw [vp_in_iff]
  rw [Int32.lt_iff_toInt_lt] at h0
  rw [Int32.le_iff_toInt_le] at h1
  have : (0 : Int32).toInt = 0 := by decide
  omega
theorem in_le {x y : Int32} {n : Nat} (hy : y.toInt + 1 = n) (h0 : ¬ x < 0) (h1 : ¬ y < x) : vp_in x n := by
  rw [vp_in_iff]
  rw [Int32.lt_iff_toInt_lt] at h0 h1
  have : (0 : Int32).toInt = 0 := by decide
  omega
theorem op_8 (w : Int32) : w &&& 7 = 0 ∨ w &&& 7 = 1 ∨ w &&& 7 = 2 ∨ w &&& 7 = 3 ∨ w &&& 7 = 4 ∨ w &&& 7 = 5 ∨ w &&& 7 = 6 ∨ w &&& 7 = 7 := by
  obtain ⟨j, hj, e⟩ := pk_andE w (m := 7) 3 (by decide)
  rw [e]
  have h : ∀ j : Fin 8, nI j.val = 0 ∨ nI j.val = 1 ∨ nI j.val = 2 ∨ nI j.val = 3 ∨ nI j.val = 4 ∨ nI j.val = 5 ∨ nI j.val = 6 ∨ nI j.val = 7 := by decide +kernel
  exact h ⟨j, hj⟩
/-! What the class's methods do. -/
def mg_ia (a : Int32) : Prop := ¬ a < 0 ∧ ¬ 64 ≤ a
def mg_ip (a : Int32) : Prop := ¬ a < 0 ∧ ¬ 8 ≤ a
def mg_rw (S D : Nat → Int32) (ph x : Int32) : Int32 := if ph = 3 then D (x &&& 63).toNatClampNeg else S (x &&& 63).toNatClampNeg
def mg_ww (S D : Nat → Int32) (ph dy x v : Int32) : (Nat → Int32) × (Nat → Int32) × Int32 :=
  if ph = 3 then (S, upd D (x &&& 63).toNatClampNeg v, dy)
  else if ph = 1 then (upd S (x &&& 63).toNatClampNeg v, D, dy ||| (1 <<< (((x &&& 63) >>> ((3 : Int32) &&& 31)) &&& 31)))
  else (upd S (x &&& 63).toNatClampNeg v, D, dy)
abbrev mg_a (w : Int32) : Int32 := (w >>> ((3 : Int32) &&& 31)) &&& 3
abbrev mg_b (w : Int32) : Int32 := (w >>> ((5 : Int32) &&& 31)) &&& 3
abbrev mg_k (w : Int32) : Int32 := (w >>> ((7 : Int32) &&& 31)) &&& 127
def mg_go (op : Int32) (w : Int32) (u : mgS) : mgS := match u with
  | (S, D, R, K, pc, sc, ph, rd, th, lm, dy, wt) =>
    if op = 0 then (S, D, R, K, pc &&& 63, sc, ph, rd, th, lm, dy, wt)
    else if op = 1 then (S, D, upd R (mg_a w).toNatClampNeg (mg_k w), K, (pc + 1) &&& 63, sc, ph, rd, th, lm, dy, wt)
    else if op = 2 then (S, D, upd R (mg_a w).toNatClampNeg (mg_rw S D ph (R (mg_b w).toNatClampNeg + mg_k w)), K, (pc + 1) &&& 63, sc, ph, rd, th, lm, dy, wt)
    else if op = 3 then ((mg_ww S D ph dy (R (mg_b w).toNatClampNeg + mg_k w) (R (mg_a w).toNatClampNeg)).1, (mg_ww S D ph dy (R (mg_b w).toNatClampNeg + mg_k w) (R (mg_a w).toNatClampNeg)).2.1, R, K, (pc + 1) &&& 63, sc, ph, rd, th, lm, (mg_ww S D ph dy (R (mg_b w).toNatClampNeg + mg_k w) (R (mg_a w).toNatClampNeg)).2.2, wt)
    else if op = 4 then (S, D, upd R (mg_a w).toNatClampNeg (R (mg_a w).toNatClampNeg + R (mg_b w).toNatClampNeg), K, (pc + 1) &&& 63, sc, ph, rd, th, lm, dy, wt)
    else if op = 5 then (S, D, upd R (mg_a w).toNatClampNeg (R (mg_a w).toNatClampNeg - R (mg_b w).toNatClampNeg), K, (pc + 1) &&& 63, sc, ph, rd, th, lm, dy, wt)
    else if op = 6 then (S, D, R, K, (if R (mg_a w).toNatClampNeg = 0 then pc + 1 else mg_k w) &&& 63, sc, ph, rd, th, lm, dy, wt)
    else (S, D, R, upd K (sc &&& 7).toNatClampNeg (R (mg_a w).toNatClampNeg), (pc + 1) &&& 63, sc + 1, ph, rd, th, lm, dy, wt)
def mg_step (u : mgS) : mgS := mg_go (mg_rw u.1 u.2.1 u.2.2.2.2.2.2.1 u.2.2.2.2.1 &&& 7) (mg_rw u.1 u.2.1 u.2.2.2.2.2.2.1 u.2.2.2.2.1) u
def mg_it : Nat → mgS → mgS
  | 0, u => u
  | n + 1, u => mg_step (mg_it n u)
def mg_cp (S : Nat → Int32) (f : Int32) : Nat → (Nat → Int32) → (Nat → Int32)
  | 0, D => D
  | i + 1, D => upd (mg_cp S f i D) ((f + nI i) &&& 63).toNatClampNeg (S ((f + nI i) &&& 63).toNatClampNeg)
def mg_bt (x y : Int32) : Prop := ¬ (x >>> (y &&& 31)) &&& 1 = 0
def mg_bc (i : Int32) : Int32 :=
  let us (x k : Int32) : Int32 := (x.toUInt32 >>> (k.toUInt32 &&& Int32.toUInt32 31)).toInt32
  let a := i - (us i 1 &&& 1431655765)
  let b := (a &&& 858993459) + (us a 2 &&& 858993459)
  let c := (b + us b 4) &&& 252645135
  let d := c + us c 8
  let f := d + us d 16
  f &&& 63
end
section
set_option maxHeartbeats 4000000 in
set_option maxRecDepth 100000 in
theorem c_X0_isAddress (l : Launch) (dC : Nat → ClassId) (dI : Nat → Nat → Nat)  (a : Int32) (sz : Nat) : Met l yX0_isAddress wsX0_isAddress ({ frames := 0, cells := 0, slots := 0, locals := 0 }) (va_Pc [.int a] (fun U => U.heap.size = sz ∧ va_P (dC, dI) vwCl ([]) U.heap ∧ va_K (dC, dI) vwCl [] U ∧ va_D (fun _ => True) ([]))) (va_Qi (fun (r : Int32) (_ : Unit) => (r = 1 ∧ mg_ia a) ∨ (r = 0 ∧ ¬ mg_ia a)) (at_no dC dI (va_A ([]) sz)) (va_A ([]) sz)) 0 0 (va_A ([]) sz) := by
  refine Met.ofW (cc := cX0_isAddress) (maxL := 1) (ret := (some .boolean)) (by decide) rfl ?_
  intro p e s m args below meth c s₁ B hml hv
  obtain ⟨rfl, hsz, hP, hK, hD0⟩ := hv
  have hx := B.exec
  have hb := B.bytes
  have hr := B.returns
  have hts := atoms_spec (ws := wsX0_isAddress) B.pre
  have hown : s.vm.findClass RX0 = some m.cls := findClass_of_methodNamed B.named
  have hlocks := B.notSynchronized
  subst hsz
  have hD := hD0.self (sz := s.heap.size)
  generalize hAe : va_A ([]) s.heap.size = A at hD ⊢
  have hA : ∀ q : Nat, s.heap.size ≤ q → A q := fun q h => by rw [← hAe]; exact Or.inr h
  have hS : va_S A s.heap s.heap [] := va_S.rf
  have hP : va_P (dC, dI) vwCl [] s.heap := hP
  have hD : va_D A [] := hD
  have hl := lv_entry ([.int a]) (n := 1) (Nat.le_of_ble_eq_true rfl)
  rw [lg_entry_eq]
  generalize (lg_sl ([.int a]) ++ List.replicate (1 - (lg_sl ([.int a])).length) Slot.unset).toArray = ls at hl ⊢
  have hl : lv_has ls 1 [(0, .int a)] := hl
  refine lv_iload_n hx hb dX0_isAddress_0 rfl (lv_at hl 0 rfl) ?_
  refine lv_if_lt (tgt := 14) hx hb dX0_isAddress_1 (by decide) (fun c_1 => ?_) (fun c_1 => ?_)
  · refine lv_iconst (v := 0) hx hb dX0_isAddress_14 (by decide) ?_
    exact W.zret (v := 0) (ty := .boolean) hx hb hr rfl (fun t ht hW => ⟨⟨0, (), rfl, Or.inr ⟨rfl, fun h => h.1 c_1⟩, by rw [ht]; exact hP, va_K.moved hW.alike hK, hD⟩, hS.F ht⟩) hS.2.2 dX0_isAddress_15
  · refine lv_iload_n hx hb dX0_isAddress_4 rfl (lv_at hl 0 rfl) ?_
    refine lv_bipush (v := 64) hx hb dX0_isAddress_5 (by decide) ?_
    refine lv_icmp_ge (tgt := 14) hx hb dX0_isAddress_7 (by decide) (fun c_2 => ?_) (fun c_2 => ?_)
    · refine lv_iconst (v := 0) hx hb dX0_isAddress_14 (by decide) ?_
      exact W.zret (v := 0) (ty := .boolean) hx hb hr rfl (fun t ht hW => ⟨⟨0, (), rfl, Or.inr ⟨rfl, fun h => h.2 c_2⟩, by rw [ht]; exact hP, va_K.moved hW.alike hK, hD⟩, hS.F ht⟩) hS.2.2 dX0_isAddress_15
    · refine lv_iconst (v := 1) hx hb dX0_isAddress_10 (by decide) ?_
      refine lv_goto (tgt := 15) hx hb dX0_isAddress_11 (by decide) ?_
      exact W.zret (v := 1) (ty := .boolean) hx hb hr rfl (fun t ht hW => ⟨⟨1, (), rfl, Or.inl ⟨rfl, c_1, c_2⟩, by rw [ht]; exact hP, va_K.moved hW.alike hK, hD⟩, hS.F ht⟩) hS.2.2 dX0_isAddress_15
set_option maxHeartbeats 4000000 in
set_option maxRecDepth 100000 in
theorem c_X0_isPage (l : Launch) (dC : Nat → ClassId) (dI : Nat → Nat → Nat)  (a : Int32) (sz : Nat) : Met l yX0_isPage wsX0_isPage ({ frames := 0, cells := 0, slots := 0, locals := 0 }) (va_Pc [.int a] (fun U => U.heap.size = sz ∧ va_P (dC, dI) vwCl ([]) U.heap ∧ va_K (dC, dI) vwCl [] U ∧ va_D (fun _ => True) ([]))) (va_Qi (fun (r : Int32) (_ : Unit) => (r = 1 ∧ mg_ip a) ∨ (r = 0 ∧ ¬ mg_ip a)) (at_no dC dI (va_A ([]) sz)) (va_A ([]) sz)) 0 0 (va_A ([]) sz) := by
  refine Met.ofW (cc := cX0_isPage) (maxL := 1) (ret := (some .boolean)) (by decide) rfl ?_
  intro p e s m args below meth c s₁ B hml hv
  obtain ⟨rfl, hsz, hP, hK, hD0⟩ := hv
  have hx := B.exec
  have hb := B.bytes
  have hr := B.returns
  have hts := atoms_spec (ws := wsX0_isPage) B.pre
  have hown : s.vm.findClass RX0 = some m.cls := findClass_of_methodNamed B.named
  have hlocks := B.notSynchronized
  subst hsz
  have hD := hD0.self (sz := s.heap.size)
  generalize hAe : va_A ([]) s.heap.size = A at hD ⊢
  have hA : ∀ q : Nat, s.heap.size ≤ q → A q := fun q h => by rw [← hAe]; exact Or.inr h
  have hS : va_S A s.heap s.heap [] := va_S.rf
  have hP : va_P (dC, dI) vwCl [] s.heap := hP
  have hD : va_D A [] := hD
  have hl := lv_entry ([.int a]) (n := 1) (Nat.le_of_ble_eq_true rfl)
  rw [lg_entry_eq]
  generalize (lg_sl ([.int a]) ++ List.replicate (1 - (lg_sl ([.int a])).length) Slot.unset).toArray = ls at hl ⊢
  have hl : lv_has ls 1 [(0, .int a)] := hl
  refine lv_iload_n hx hb dX0_isPage_0 rfl (lv_at hl 0 rfl) ?_
  refine lv_if_lt (tgt := 14) hx hb dX0_isPage_1 (by decide) (fun c_1 => ?_) (fun c_1 => ?_)
  · refine lv_iconst (v := 0) hx hb dX0_isPage_14 (by decide) ?_
    exact W.zret (v := 0) (ty := .boolean) hx hb hr rfl (fun t ht hW => ⟨⟨0, (), rfl, Or.inr ⟨rfl, fun h => h.1 c_1⟩, by rw [ht]; exact hP, va_K.moved hW.alike hK, hD⟩, hS.F ht⟩) hS.2.2 dX0_isPage_15
  · refine lv_iload_n hx hb dX0_isPage_4 rfl (lv_at hl 0 rfl) ?_
    refine lv_bipush (v := 8) hx hb dX0_isPage_5 (by decide) ?_
    refine lv_icmp_ge (tgt := 14) hx hb dX0_isPage_7 (by decide) (fun c_2 => ?_) (fun c_2 => ?_)
    · refine lv_iconst (v := 0) hx hb dX0_isPage_14 (by decide) ?_
      exact W.zret (v := 0) (ty := .boolean) hx hb hr rfl (fun t ht hW => ⟨⟨0, (), rfl, Or.inr ⟨rfl, fun h => h.2 c_2⟩, by rw [ht]; exact hP, va_K.moved hW.alike hK, hD⟩, hS.F ht⟩) hS.2.2 dX0_isPage_15
    · refine lv_iconst (v := 1) hx hb dX0_isPage_10 (by decide) ?_
      refine lv_goto (tgt := 15) hx hb dX0_isPage_11 (by decide) ?_
      exact W.zret (v := 1) (ty := .boolean) hx hb hr rfl (fun t ht hW => ⟨⟨1, (), rfl, Or.inl ⟨rfl, c_1, c_2⟩, by rw [ht]; exact hP, va_K.moved hW.alike hK, hD⟩, hS.F ht⟩) hS.2.2 dX0_isPage_15
set_option maxHeartbeats 4000000 in
set_option maxRecDepth 100000 in
theorem c_X0_hasPage (l : Launch) (dC : Nat → ClassId) (dI : Nat → Nat → Nat)  (a b : Int32) (sz : Nat) : Met l yX0_hasPage wsX0_hasPage ({ frames := 0, cells := 0, slots := 0, locals := 0 }) (va_Pc [.int a, .int b] (fun U => U.heap.size = sz ∧ va_P (dC, dI) vwCl ([]) U.heap ∧ va_K (dC, dI) vwCl [] U ∧ va_D (fun _ => True) ([]))) (va_Qi (fun (r : Int32) (_ : Unit) => (r = 1 ∧ mg_bt a b) ∨ (r = 0 ∧ ¬ mg_bt a b)) (at_no dC dI (va_A ([]) sz)) (va_A ([]) sz)) 0 0 (va_A ([]) sz) := by
  refine Met.ofW (cc := cX0_hasPage) (maxL := 2) (ret := (some .boolean)) (by decide) rfl ?_
  intro p e s m args below meth c s₁ B hml hv
  obtain ⟨rfl, hsz, hP, hK, hD0⟩ := hv
  have hx := B.exec
  have hb := B.bytes
  have hr := B.returns
  have hts := atoms_spec (ws := wsX0_hasPage) B.pre
  have hown : s.vm.findClass RX0 = some m.cls := findClass_of_methodNamed B.named
  have hlocks := B.notSynchronized
  subst hsz
  have hD := hD0.self (sz := s.heap.size)
  generalize hAe : va_A ([]) s.heap.size = A at hD ⊢
  have hA : ∀ q : Nat, s.heap.size ≤ q → A q := fun q h => by rw [← hAe]; exact Or.inr h
  have hS : va_S A s.heap s.heap [] := va_S.rf
  have hP : va_P (dC, dI) vwCl [] s.heap := hP
  have hD : va_D A [] := hD
  have hl := lv_entry ([.int a, .int b]) (n := 2) (Nat.le_of_ble_eq_true rfl)
  rw [lg_entry_eq]
  generalize (lg_sl ([.int a, .int b]) ++ List.replicate (2 - (lg_sl ([.int a, .int b])).length) Slot.unset).toArray = ls at hl ⊢
  have hl : lv_has ls 2 [(0, .int a), (1, .int b)] := hl
  refine lv_iload_n hx hb dX0_hasPage_0 rfl (lv_at hl 0 rfl) ?_
  refine lv_iload_n hx hb dX0_hasPage_1 rfl (lv_at hl 1 rfl) ?_
  refine lv_ishr hx hb dX0_hasPage_2 ?_
  refine lv_iconst (v := 1) hx hb dX0_hasPage_3 (by decide) ?_
  refine lv_iand hx hb dX0_hasPage_4 ?_
  refine lv_if_eq (tgt := 12) hx hb dX0_hasPage_5 (by decide) (fun c_1 => ?_) (fun c_1 => ?_)
  · refine lv_iconst (v := 0) hx hb dX0_hasPage_12 (by decide) ?_
    exact W.zret (v := 0) (ty := .boolean) hx hb hr rfl (fun t ht hW => ⟨⟨0, (), rfl, Or.inr ⟨rfl, fun h => h c_1⟩, by rw [ht]; exact hP, va_K.moved hW.alike hK, hD⟩, hS.F ht⟩) hS.2.2 dX0_hasPage_13
  · refine lv_iconst (v := 1) hx hb dX0_hasPage_8 (by decide) ?_
    refine lv_goto (tgt := 13) hx hb dX0_hasPage_9 (by decide) ?_
    exact W.zret (v := 1) (ty := .boolean) hx hb hr rfl (fun t ht hW => ⟨⟨1, (), rfl, Or.inl ⟨rfl, c_1⟩, by rw [ht]; exact hP, va_K.moved hW.alike hK, hD⟩, hS.F ht⟩) hS.2.2 dX0_hasPage_13
set_option maxHeartbeats 4000000 in
set_option maxRecDepth 100000 in
theorem c_J6_bitCount_0f7a4 (l : Launch) (dC : Nat → ClassId) (dI : Nat → Nat → Nat)  (a : Int32) (sz : Nat) : Met l yJ6_bitCount_0f7a4 wsJ6_bitCount_0f7a4 ({ frames := 0, cells := 0, slots := 0, locals := 0 }) (va_Pc [.int a] (fun U => U.heap.size = sz ∧ va_P (dC, dI) vwCl ([]) U.heap ∧ va_K (dC, dI) vwCl [] U ∧ va_D (fun _ => True) ([]))) (va_Qi (fun (r : Int32) (_ : Unit) => r = mg_bc a) (at_no dC dI (va_A ([]) sz)) (va_A ([]) sz)) 0 0 (va_A ([]) sz) := by
  refine Met.ofW (cc := cJ6_bitCount_0f7a4) (maxL := 1) (ret := (some .int)) (by decide) rfl ?_
  intro p e s m args below meth c s₁ B hml hv
  obtain ⟨rfl, hsz, hP, hK, hD0⟩ := hv
  have hx := B.exec
  have hb := B.bytes
  have hr := B.returns
  have hts := atoms_spec (ws := wsJ6_bitCount_0f7a4) B.pre
  have hown : s.vm.findClass RJ6 = some m.cls := findClass_of_methodNamed B.named
  have hlocks := B.notSynchronized
  subst hsz
  have hD := hD0.self (sz := s.heap.size)
  generalize hAe : va_A ([]) s.heap.size = A at hD ⊢
  have hA : ∀ q : Nat, s.heap.size ≤ q → A q := fun q h => by rw [← hAe]; exact Or.inr h
  have hS : va_S A s.heap s.heap [] := va_S.rf
  have hP : va_P (dC, dI) vwCl [] s.heap := hP
  have hD : va_D A [] := hD
  have hl := lv_entry ([.int a]) (n := 1) (Nat.le_of_ble_eq_true rfl)
  rw [lg_entry_eq]
  generalize (lg_sl ([.int a]) ++ List.replicate (1 - (lg_sl ([.int a])).length) Slot.unset).toArray = ls at hl ⊢
  have hl : lv_has ls 1 [(0, .int a)] := hl
  refine lv_iload_n hx hb dJ6_bitCount_0f7a4_0 rfl (lv_at hl 0 rfl) ?_
  refine lv_iload_n hx hb dJ6_bitCount_0f7a4_1 rfl (lv_at hl 0 rfl) ?_
  refine lv_iconst (v := 1) hx hb dJ6_bitCount_0f7a4_2 (by decide) ?_
  refine lv_iushr hx hb dJ6_bitCount_0f7a4_3 rfl ?_
  refine lv_ldcw (v := 1431655765) hx hb hown (hts (.constant RJ6 265 1431655765) (by decide +kernel)) dJ6_bitCount_0f7a4_4 ?_
  refine lv_iand hx hb dJ6_bitCount_0f7a4_7 ?_
  refine lv_isub hx hb dJ6_bitCount_0f7a4_8 ?_
  refine lv_topi (fun v_1 ev_1 => ?_)
  refine lv_istore_n (lv' := [(0, .int v_1)]) hx hb dJ6_bitCount_0f7a4_9 rfl hl (by decide) rfl (fun ls hl => ?_)
  refine lv_iload_n hx hb dJ6_bitCount_0f7a4_10 rfl (lv_at hl 0 rfl) ?_
  refine lv_ldcw (v := 858993459) hx hb hown (hts (.constant RJ6 266 858993459) (by decide +kernel)) dJ6_bitCount_0f7a4_11 ?_
  refine lv_iand hx hb dJ6_bitCount_0f7a4_14 ?_
  refine lv_iload_n hx hb dJ6_bitCount_0f7a4_15 rfl (lv_at hl 0 rfl) ?_
  refine lv_iconst (v := 2) hx hb dJ6_bitCount_0f7a4_16 (by decide) ?_
  refine lv_iushr hx hb dJ6_bitCount_0f7a4_17 rfl ?_
  refine lv_ldcw (v := 858993459) hx hb hown (hts (.constant RJ6 266 858993459) (by decide +kernel)) dJ6_bitCount_0f7a4_18 ?_
  refine lv_iand hx hb dJ6_bitCount_0f7a4_21 ?_
  refine lv_iadd hx hb dJ6_bitCount_0f7a4_22 ?_
  refine lv_topi (fun v_2 ev_2 => ?_)
  refine lv_istore_n (lv' := [(0, .int v_2)]) hx hb dJ6_bitCount_0f7a4_23 rfl hl (by decide) rfl (fun ls hl => ?_)
  refine lv_iload_n hx hb dJ6_bitCount_0f7a4_24 rfl (lv_at hl 0 rfl) ?_
  refine lv_iload_n hx hb dJ6_bitCount_0f7a4_25 rfl (lv_at hl 0 rfl) ?_
  refine lv_iconst (v := 4) hx hb dJ6_bitCount_0f7a4_26 (by decide) ?_
  refine lv_iushr hx hb dJ6_bitCount_0f7a4_27 rfl ?_
  refine lv_iadd hx hb dJ6_bitCount_0f7a4_28 ?_
  refine lv_ldcw (v := 252645135) hx hb hown (hts (.constant RJ6 267 252645135) (by decide +kernel)) dJ6_bitCount_0f7a4_29 ?_
  refine lv_iand hx hb dJ6_bitCount_0f7a4_32 ?_
  refine lv_topi (fun v_3 ev_3 => ?_)
  refine lv_istore_n (lv' := [(0, .int v_3)]) hx hb dJ6_bitCount_0f7a4_33 rfl hl (by decide) rfl (fun ls hl => ?_)
  refine lv_iload_n hx hb dJ6_bitCount_0f7a4_34 rfl (lv_at hl 0 rfl) ?_
  refine lv_iload_n hx hb dJ6_bitCount_0f7a4_35 rfl (lv_at hl 0 rfl) ?_
  refine lv_bipush (v := 8) hx hb dJ6_bitCount_0f7a4_36 (by decide) ?_
  refine lv_iushr hx hb dJ6_bitCount_0f7a4_38 rfl ?_
  refine lv_iadd hx hb dJ6_bitCount_0f7a4_39 ?_
  refine lv_topi (fun v_4 ev_4 => ?_)
  refine lv_istore_n (lv' := [(0, .int v_4)]) hx hb dJ6_bitCount_0f7a4_40 rfl hl (by decide) rfl (fun ls hl => ?_)
  refine lv_iload_n hx hb dJ6_bitCount_0f7a4_41 rfl (lv_at hl 0 rfl) ?_
  refine lv_iload_n hx hb dJ6_bitCount_0f7a4_42 rfl (lv_at hl 0 rfl) ?_
  refine lv_bipush (v := 16) hx hb dJ6_bitCount_0f7a4_43 (by decide) ?_
  refine lv_iushr hx hb dJ6_bitCount_0f7a4_45 rfl ?_
  refine lv_iadd hx hb dJ6_bitCount_0f7a4_46 ?_
  refine lv_topi (fun v_5 ev_5 => ?_)
  refine lv_istore_n (lv' := [(0, .int v_5)]) hx hb dJ6_bitCount_0f7a4_47 rfl hl (by decide) rfl (fun ls hl => ?_)
  refine lv_iload_n hx hb dJ6_bitCount_0f7a4_48 rfl (lv_at hl 0 rfl) ?_
  refine lv_bipush (v := 63) hx hb dJ6_bitCount_0f7a4_49 (by decide) ?_
  refine lv_iand hx hb dJ6_bitCount_0f7a4_51 ?_
  subst ev_1 ev_2 ev_3 ev_4 ev_5
  exact W.iret (v := mg_bc a) hx hb hr (fun t ht hW => ⟨⟨mg_bc a, (), rfl, rfl, by rw [ht]; exact hP, va_K.moved hW.alike hK, hD⟩, hS.F ht⟩) hS.2.2 dJ6_bitCount_0f7a4_52
end
section
theorem inw_X0_phase : ∀ w ∈ wsX00, w ∈ wsX0_phase := fun _ h => List.mem_cons_of_mem _ (List.mem_append_right _ h)
set_option maxHeartbeats 4000000 in
set_option maxRecDepth 100000 in
theorem c_X0_phase (l : Launch) (dC : Nat → ClassId) (dI : Nat → Nat → Nat) (h0 q1 q2 q3 q4 : Nat) (cA : ClassId) (S D R K : Nat → Int32) (pc sc ph rd th lm dy wt : Int32) (sz : Nat) : Met l yX0_phase wsX0_phase ({ frames := 0, cells := 0, slots := 0, locals := 0 }) (va_Pc [.ref h0] (fun U => U.heap.size = sz ∧ va_P (dC, dI) vwCl (mg_W h0 q1 q2 q3 q4 cA (S, D, R, K, pc, sc, ph, rd, th, lm, dy, wt)) U.heap ∧ va_K (dC, dI) vwCl [(cA, .int)] U ∧ va_D (fun _ => True) (mg_W h0 q1 q2 q3 q4 cA (S, D, R, K, pc, sc, ph, rd, th, lm, dy, wt)))) (va_Qi (fun (r : Int32) (u : mgS) => r = ph ∧ u = (S, D, R, K, pc, sc, ph, rd, th, lm, dy, wt)) (at_mg dC dI h0 q1 q2 q3 q4 cA (va_A (mg_W h0 q1 q2 q3 q4 cA (S, D, R, K, pc, sc, ph, rd, th, lm, dy, wt)) sz)) (va_A (mg_W h0 q1 q2 q3 q4 cA (S, D, R, K, pc, sc, ph, rd, th, lm, dy, wt)) sz)) 0 0 (va_A (mg_W h0 q1 q2 q3 q4 cA (S, D, R, K, pc, sc, ph, rd, th, lm, dy, wt)) sz) := by
  refine Met.ofW (cc := cX0_phase) (maxL := 1) (ret := (some .int)) (by decide) rfl ?_
  intro p e s m args below meth c s₁ B hml hv
  obtain ⟨rfl, hsz, hP, hK, hD0⟩ := hv
  have hx := B.exec
  have hb := B.bytes
  have hr := B.returns
  have hts := atoms_spec (ws := wsX0_phase) B.pre
  have hown : s.vm.findClass RX0 = some m.cls := findClass_of_methodNamed B.named
  have hlocks := B.notSynchronized
  subst hsz
  have hD := hD0.self (sz := s.heap.size)
  generalize hAe : va_A (mg_W h0 q1 q2 q3 q4 cA (S, D, R, K, pc, sc, ph, rd, th, lm, dy, wt)) s.heap.size = A at hD ⊢
  have hA : ∀ q : Nat, s.heap.size ≤ q → A q := fun q h => by rw [← hAe]; exact Or.inr h
  have hS : va_S A s.heap s.heap [] := va_S.rf
  have hP : va_P (dC, dI) vwCl [(h0, .inr (0, [.ref q1, .ref q2, .ref q3, .ref q4, .int pc, .int sc, .int ph, .int rd, .int th, .int lm, .int dy, .int wt])), (q1, .inl (cA, 64, .inl S)), (q2, .inl (cA, 64, .inl D)), (q3, .inl (cA, 4, .inl R)), (q4, .inl (cA, 8, .inl K))] s.heap := hP
  have hD : va_D A [(h0, .inr (0, [.ref q1, .ref q2, .ref q3, .ref q4, .int pc, .int sc, .int ph, .int rd, .int th, .int lm, .int dy, .int wt])), (q1, .inl (cA, 64, .inl S)), (q2, .inl (cA, 64, .inl D)), (q3, .inl (cA, 4, .inl R)), (q4, .inl (cA, 8, .inl K))] := hD
  have hl := lv_entry ([.ref h0]) (n := 1) (Nat.le_of_ble_eq_true rfl)
  rw [lg_entry_eq]
  generalize (lg_sl ([.ref h0]) ++ List.replicate (1 - (lg_sl ([.ref h0])).length) Slot.unset).toArray = ls at hl ⊢
  have hl : lv_has ls 1 [(0, .ref h0)] := hl
  refine lv_aload_n hx hb dX0_phase_0 rfl (lv_at hl 0 rfl) ?_
  refine va_get (D := (dC, dI)) (ci := 0) (v := .int ph) (C := RX0) (T := TX0) (N := 12) hx hb hts inw_X0_phase hown hK hP 0 rfl rfl 6 (by decide) (hts (.fieldLink RX0 29 "Migrator" "phaseNow" "I") (by decide +kernel)) (fun _ h9 => h9) rfl dX0_phase_1 ?_
  exact W.iret (v := ph) hx hb hr (fun t ht hW => ⟨⟨ph, (S, D, R, K, pc, sc, ph, rd, th, lm, dy, wt), rfl, ⟨rfl, rfl⟩, by rw [ht]; exact hP, va_K.moved hW.alike hK, hD⟩, hS.F ht⟩) hS.2.2 dX0_phase_4
theorem inw_X0_round : ∀ w ∈ wsX00, w ∈ wsX0_round := fun _ h => List.mem_cons_of_mem _ (List.mem_append_right _ h)
set_option maxHeartbeats 4000000 in
set_option maxRecDepth 100000 in
theorem c_X0_round (l : Launch) (dC : Nat → ClassId) (dI : Nat → Nat → Nat) (h0 q1 q2 q3 q4 : Nat) (cA : ClassId) (S D R K : Nat → Int32) (pc sc ph rd th lm dy wt : Int32) (sz : Nat) : Met l yX0_round wsX0_round ({ frames := 0, cells := 0, slots := 0, locals := 0 }) (va_Pc [.ref h0] (fun U => U.heap.size = sz ∧ va_P (dC, dI) vwCl (mg_W h0 q1 q2 q3 q4 cA (S, D, R, K, pc, sc, ph, rd, th, lm, dy, wt)) U.heap ∧ va_K (dC, dI) vwCl [(cA, .int)] U ∧ va_D (fun _ => True) (mg_W h0 q1 q2 q3 q4 cA (S, D, R, K, pc, sc, ph, rd, th, lm, dy, wt)))) (va_Qi (fun (r : Int32) (u : mgS) => r = rd ∧ u = (S, D, R, K, pc, sc, ph, rd, th, lm, dy, wt)) (at_mg dC dI h0 q1 q2 q3 q4 cA (va_A (mg_W h0 q1 q2 q3 q4 cA (S, D, R, K, pc, sc, ph, rd, th, lm, dy, wt)) sz)) (va_A (mg_W h0 q1 q2 q3 q4 cA (S, D, R, K, pc, sc, ph, rd, th, lm, dy, wt)) sz)) 0 0 (va_A (mg_W h0 q1 q2 q3 q4 cA (S, D, R, K, pc, sc, ph, rd, th, lm, dy, wt)) sz) := by
  refine Met.ofW (cc := cX0_round) (maxL := 1) (ret := (some .int)) (by decide) rfl ?_
  intro p e s m args below meth c s₁ B hml hv
  obtain ⟨rfl, hsz, hP, hK, hD0⟩ := hv
  have hx := B.exec
  have hb := B.bytes
  have hr := B.returns
  have hts := atoms_spec (ws := wsX0_round) B.pre
  have hown : s.vm.findClass RX0 = some m.cls := findClass_of_methodNamed B.named
  have hlocks := B.notSynchronized
  subst hsz
  have hD := hD0.self (sz := s.heap.size)
  generalize hAe : va_A (mg_W h0 q1 q2 q3 q4 cA (S, D, R, K, pc, sc, ph, rd, th, lm, dy, wt)) s.heap.size = A at hD ⊢
  have hA : ∀ q : Nat, s.heap.size ≤ q → A q := fun q h => by rw [← hAe]; exact Or.inr h
  have hS : va_S A s.heap s.heap [] := va_S.rf
  have hP : va_P (dC, dI) vwCl [(h0, .inr (0, [.ref q1, .ref q2, .ref q3, .ref q4, .int pc, .int sc, .int ph, .int rd, .int th, .int lm, .int dy, .int wt])), (q1, .inl (cA, 64, .inl S)), (q2, .inl (cA, 64, .inl D)), (q3, .inl (cA, 4, .inl R)), (q4, .inl (cA, 8, .inl K))] s.heap := hP
  have hD : va_D A [(h0, .inr (0, [.ref q1, .ref q2, .ref q3, .ref q4, .int pc, .int sc, .int ph, .int rd, .int th, .int lm, .int dy, .int wt])), (q1, .inl (cA, 64, .inl S)), (q2, .inl (cA, 64, .inl D)), (q3, .inl (cA, 4, .inl R)), (q4, .inl (cA, 8, .inl K))] := hD
  have hl := lv_entry ([.ref h0]) (n := 1) (Nat.le_of_ble_eq_true rfl)
  rw [lg_entry_eq]
  generalize (lg_sl ([.ref h0]) ++ List.replicate (1 - (lg_sl ([.ref h0])).length) Slot.unset).toArray = ls at hl ⊢
  have hl : lv_has ls 1 [(0, .ref h0)] := hl
  refine lv_aload_n hx hb dX0_round_0 rfl (lv_at hl 0 rfl) ?_
  refine va_get (D := (dC, dI)) (ci := 0) (v := .int rd) (C := RX0) (T := TX0) (N := 12) hx hb hts inw_X0_round hown hK hP 0 rfl rfl 7 (by decide) (hts (.fieldLink RX0 32 "Migrator" "roundNow" "I") (by decide +kernel)) (fun _ h9 => h9) rfl dX0_round_1 ?_
  exact W.iret (v := rd) hx hb hr (fun t ht hW => ⟨⟨rd, (S, D, R, K, pc, sc, ph, rd, th, lm, dy, wt), rfl, ⟨rfl, rfl⟩, by rw [ht]; exact hP, va_K.moved hW.alike hK, hD⟩, hS.F ht⟩) hS.2.2 dX0_round_4
theorem inw_X0_pc : ∀ w ∈ wsX00, w ∈ wsX0_pc := fun _ h => List.mem_cons_of_mem _ (List.mem_append_right _ h)
set_option maxHeartbeats 4000000 in
set_option maxRecDepth 100000 in
theorem c_X0_pc (l : Launch) (dC : Nat → ClassId) (dI : Nat → Nat → Nat) (h0 q1 q2 q3 q4 : Nat) (cA : ClassId) (S D R K : Nat → Int32) (pc sc ph rd th lm dy wt : Int32) (sz : Nat) : Met l yX0_pc wsX0_pc ({ frames := 0, cells := 0, slots := 0, locals := 0 }) (va_Pc [.ref h0] (fun U => U.heap.size = sz ∧ va_P (dC, dI) vwCl (mg_W h0 q1 q2 q3 q4 cA (S, D, R, K, pc, sc, ph, rd, th, lm, dy, wt)) U.heap ∧ va_K (dC, dI) vwCl [(cA, .int)] U ∧ va_D (fun _ => True) (mg_W h0 q1 q2 q3 q4 cA (S, D, R, K, pc, sc, ph, rd, th, lm, dy, wt)))) (va_Qi (fun (r : Int32) (u : mgS) => r = pc ∧ u = (S, D, R, K, pc, sc, ph, rd, th, lm, dy, wt)) (at_mg dC dI h0 q1 q2 q3 q4 cA (va_A (mg_W h0 q1 q2 q3 q4 cA (S, D, R, K, pc, sc, ph, rd, th, lm, dy, wt)) sz)) (va_A (mg_W h0 q1 q2 q3 q4 cA (S, D, R, K, pc, sc, ph, rd, th, lm, dy, wt)) sz)) 0 0 (va_A (mg_W h0 q1 q2 q3 q4 cA (S, D, R, K, pc, sc, ph, rd, th, lm, dy, wt)) sz) := by
  refine Met.ofW (cc := cX0_pc) (maxL := 1) (ret := (some .int)) (by decide) rfl ?_
  intro p e s m args below meth c s₁ B hml hv
  obtain ⟨rfl, hsz, hP, hK, hD0⟩ := hv
  have hx := B.exec
  have hb := B.bytes
  have hr := B.returns
  have hts := atoms_spec (ws := wsX0_pc) B.pre
  have hown : s.vm.findClass RX0 = some m.cls := findClass_of_methodNamed B.named
  have hlocks := B.notSynchronized
  subst hsz
  have hD := hD0.self (sz := s.heap.size)
  generalize hAe : va_A (mg_W h0 q1 q2 q3 q4 cA (S, D, R, K, pc, sc, ph, rd, th, lm, dy, wt)) s.heap.size = A at hD ⊢
  have hA : ∀ q : Nat, s.heap.size ≤ q → A q := fun q h => by rw [← hAe]; exact Or.inr h
  have hS : va_S A s.heap s.heap [] := va_S.rf
  have hP : va_P (dC, dI) vwCl [(h0, .inr (0, [.ref q1, .ref q2, .ref q3, .ref q4, .int pc, .int sc, .int ph, .int rd, .int th, .int lm, .int dy, .int wt])), (q1, .inl (cA, 64, .inl S)), (q2, .inl (cA, 64, .inl D)), (q3, .inl (cA, 4, .inl R)), (q4, .inl (cA, 8, .inl K))] s.heap := hP
  have hD : va_D A [(h0, .inr (0, [.ref q1, .ref q2, .ref q3, .ref q4, .int pc, .int sc, .int ph, .int rd, .int th, .int lm, .int dy, .int wt])), (q1, .inl (cA, 64, .inl S)), (q2, .inl (cA, 64, .inl D)), (q3, .inl (cA, 4, .inl R)), (q4, .inl (cA, 8, .inl K))] := hD
  have hl := lv_entry ([.ref h0]) (n := 1) (Nat.le_of_ble_eq_true rfl)
  rw [lg_entry_eq]
  generalize (lg_sl ([.ref h0]) ++ List.replicate (1 - (lg_sl ([.ref h0])).length) Slot.unset).toArray = ls at hl ⊢
  have hl : lv_has ls 1 [(0, .ref h0)] := hl
  refine lv_aload_n hx hb dX0_pc_0 rfl (lv_at hl 0 rfl) ?_
  refine va_get (D := (dC, dI)) (ci := 0) (v := .int pc) (C := RX0) (T := TX0) (N := 12) hx hb hts inw_X0_pc hown hK hP 0 rfl rfl 4 (by decide) (hts (.fieldLink RX0 22 "Migrator" "programCounter" "I") (by decide +kernel)) (fun _ h9 => h9) rfl dX0_pc_1 ?_
  exact W.iret (v := pc) hx hb hr (fun t ht hW => ⟨⟨pc, (S, D, R, K, pc, sc, ph, rd, th, lm, dy, wt), rfl, ⟨rfl, rfl⟩, by rw [ht]; exact hP, va_K.moved hW.alike hK, hD⟩, hS.F ht⟩) hS.2.2 dX0_pc_4
theorem inw_X0_shows : ∀ w ∈ wsX00, w ∈ wsX0_shows := fun _ h => List.mem_cons_of_mem _ (List.mem_append_right _ h)
set_option maxHeartbeats 4000000 in
set_option maxRecDepth 100000 in
theorem c_X0_shows (l : Launch) (dC : Nat → ClassId) (dI : Nat → Nat → Nat) (h0 q1 q2 q3 q4 : Nat) (cA : ClassId) (S D R K : Nat → Int32) (pc sc ph rd th lm dy wt : Int32) (sz : Nat) : Met l yX0_shows wsX0_shows ({ frames := 0, cells := 0, slots := 0, locals := 0 }) (va_Pc [.ref h0] (fun U => U.heap.size = sz ∧ va_P (dC, dI) vwCl (mg_W h0 q1 q2 q3 q4 cA (S, D, R, K, pc, sc, ph, rd, th, lm, dy, wt)) U.heap ∧ va_K (dC, dI) vwCl [(cA, .int)] U ∧ va_D (fun _ => True) (mg_W h0 q1 q2 q3 q4 cA (S, D, R, K, pc, sc, ph, rd, th, lm, dy, wt)))) (va_Qi (fun (r : Int32) (u : mgS) => r = sc ∧ u = (S, D, R, K, pc, sc, ph, rd, th, lm, dy, wt)) (at_mg dC dI h0 q1 q2 q3 q4 cA (va_A (mg_W h0 q1 q2 q3 q4 cA (S, D, R, K, pc, sc, ph, rd, th, lm, dy, wt)) sz)) (va_A (mg_W h0 q1 q2 q3 q4 cA (S, D, R, K, pc, sc, ph, rd, th, lm, dy, wt)) sz)) 0 0 (va_A (mg_W h0 q1 q2 q3 q4 cA (S, D, R, K, pc, sc, ph, rd, th, lm, dy, wt)) sz) := by
  refine Met.ofW (cc := cX0_shows) (maxL := 1) (ret := (some .int)) (by decide) rfl ?_
  intro p e s m args below meth c s₁ B hml hv
  obtain ⟨rfl, hsz, hP, hK, hD0⟩ := hv
  have hx := B.exec
  have hb := B.bytes
  have hr := B.returns
  have hts := atoms_spec (ws := wsX0_shows) B.pre
  have hown : s.vm.findClass RX0 = some m.cls := findClass_of_methodNamed B.named
  have hlocks := B.notSynchronized
  subst hsz
  have hD := hD0.self (sz := s.heap.size)
  generalize hAe : va_A (mg_W h0 q1 q2 q3 q4 cA (S, D, R, K, pc, sc, ph, rd, th, lm, dy, wt)) s.heap.size = A at hD ⊢
  have hA : ∀ q : Nat, s.heap.size ≤ q → A q := fun q h => by rw [← hAe]; exact Or.inr h
  have hS : va_S A s.heap s.heap [] := va_S.rf
  have hP : va_P (dC, dI) vwCl [(h0, .inr (0, [.ref q1, .ref q2, .ref q3, .ref q4, .int pc, .int sc, .int ph, .int rd, .int th, .int lm, .int dy, .int wt])), (q1, .inl (cA, 64, .inl S)), (q2, .inl (cA, 64, .inl D)), (q3, .inl (cA, 4, .inl R)), (q4, .inl (cA, 8, .inl K))] s.heap := hP
  have hD : va_D A [(h0, .inr (0, [.ref q1, .ref q2, .ref q3, .ref q4, .int pc, .int sc, .int ph, .int rd, .int th, .int lm, .int dy, .int wt])), (q1, .inl (cA, 64, .inl S)), (q2, .inl (cA, 64, .inl D)), (q3, .inl (cA, 4, .inl R)), (q4, .inl (cA, 8, .inl K))] := hD
  have hl := lv_entry ([.ref h0]) (n := 1) (Nat.le_of_ble_eq_true rfl)
  rw [lg_entry_eq]
  generalize (lg_sl ([.ref h0]) ++ List.replicate (1 - (lg_sl ([.ref h0])).length) Slot.unset).toArray = ls at hl ⊢
  have hl : lv_has ls 1 [(0, .ref h0)] := hl
  refine lv_aload_n hx hb dX0_shows_0 rfl (lv_at hl 0 rfl) ?_
  refine va_get (D := (dC, dI)) (ci := 0) (v := .int sc) (C := RX0) (T := TX0) (N := 12) hx hb hts inw_X0_shows hown hK hP 0 rfl rfl 5 (by decide) (hts (.fieldLink RX0 26 "Migrator" "showCount" "I") (by decide +kernel)) (fun _ h9 => h9) rfl dX0_shows_1 ?_
  exact W.iret (v := sc) hx hb hr (fun t ht hW => ⟨⟨sc, (S, D, R, K, pc, sc, ph, rd, th, lm, dy, wt), rfl, ⟨rfl, rfl⟩, by rw [ht]; exact hP, va_K.moved hW.alike hK, hD⟩, hS.F ht⟩) hS.2.2 dX0_shows_4
theorem inw_X0_dirty : ∀ w ∈ wsX00, w ∈ wsX0_dirty := fun _ h => List.mem_cons_of_mem _ (List.mem_append_right _ h)
set_option maxHeartbeats 4000000 in
set_option maxRecDepth 100000 in
theorem c_X0_dirty (l : Launch) (dC : Nat → ClassId) (dI : Nat → Nat → Nat) (h0 q1 q2 q3 q4 : Nat) (cA : ClassId) (S D R K : Nat → Int32) (pc sc ph rd th lm dy wt : Int32) (a : Int32) (sz : Nat) : Met l yX0_dirty wsX0_dirty ({ frames := 1, cells := 0, slots := 0, locals := 21 }) (va_Pc [.ref h0, .int a] (fun U => U.heap.size = sz ∧ va_P (dC, dI) vwCl (mg_W h0 q1 q2 q3 q4 cA (S, D, R, K, pc, sc, ph, rd, th, lm, dy, wt)) U.heap ∧ va_K (dC, dI) vwCl [(cA, .int)] U ∧ va_D (fun _ => True) (mg_W h0 q1 q2 q3 q4 cA (S, D, R, K, pc, sc, ph, rd, th, lm, dy, wt)))) (va_Qi (fun (r : Int32) (u : mgS) => ((r = 1 ∧ mg_ip a ∧ mg_bt dy a) ∨ (r = 0 ∧ ¬ (mg_ip a ∧ mg_bt dy a))) ∧ u = (S, D, R, K, pc, sc, ph, rd, th, lm, dy, wt)) (at_mg dC dI h0 q1 q2 q3 q4 cA (va_A (mg_W h0 q1 q2 q3 q4 cA (S, D, R, K, pc, sc, ph, rd, th, lm, dy, wt)) sz)) (va_A (mg_W h0 q1 q2 q3 q4 cA (S, D, R, K, pc, sc, ph, rd, th, lm, dy, wt)) sz)) 0 0 (va_A (mg_W h0 q1 q2 q3 q4 cA (S, D, R, K, pc, sc, ph, rd, th, lm, dy, wt)) sz) := by
  refine Met.ofW (cc := cX0_dirty) (maxL := 2) (ret := (some .boolean)) (by decide) rfl ?_
  intro p e s m args below meth c s₁ B hml hv
  obtain ⟨rfl, hsz, hP, hK, hD0⟩ := hv
  have hx := B.exec
  have hb := B.bytes
  have hr := B.returns
  have hts := atoms_spec (ws := wsX0_dirty) B.pre
  have hown : s.vm.findClass RX0 = some m.cls := findClass_of_methodNamed B.named
  have hlocks := B.notSynchronized
  subst hsz
  have hD := hD0.self (sz := s.heap.size)
  generalize hAe : va_A (mg_W h0 q1 q2 q3 q4 cA (S, D, R, K, pc, sc, ph, rd, th, lm, dy, wt)) s.heap.size = A at hD ⊢
  have hA : ∀ q : Nat, s.heap.size ≤ q → A q := fun q h => by rw [← hAe]; exact Or.inr h
  have hS : va_S A s.heap s.heap [] := va_S.rf
  have hP : va_P (dC, dI) vwCl [(h0, .inr (0, [.ref q1, .ref q2, .ref q3, .ref q4, .int pc, .int sc, .int ph, .int rd, .int th, .int lm, .int dy, .int wt])), (q1, .inl (cA, 64, .inl S)), (q2, .inl (cA, 64, .inl D)), (q3, .inl (cA, 4, .inl R)), (q4, .inl (cA, 8, .inl K))] s.heap := hP
  have hD : va_D A [(h0, .inr (0, [.ref q1, .ref q2, .ref q3, .ref q4, .int pc, .int sc, .int ph, .int rd, .int th, .int lm, .int dy, .int wt])), (q1, .inl (cA, 64, .inl S)), (q2, .inl (cA, 64, .inl D)), (q3, .inl (cA, 4, .inl R)), (q4, .inl (cA, 8, .inl K))] := hD
  have hl := lv_entry ([.ref h0, .int a]) (n := 2) (Nat.le_of_ble_eq_true rfl)
  rw [lg_entry_eq]
  generalize (lg_sl ([.ref h0, .int a]) ++ List.replicate (2 - (lg_sl ([.ref h0, .int a])).length) Slot.unset).toArray = ls at hl ⊢
  have hl : lv_has ls 2 [(0, .ref h0), (1, .int a)] := hl
  refine lv_iload_n hx hb dX0_dirty_0 rfl (lv_at hl 1 rfl) ?_
  have hPc := hP.sub (ws' := []) [] rfl
  have hDc := hD.sub (ws' := []) [] (by decide) rfl
  have hKc := hK.sub (tys' := []) [] rfl
  have hFc := va_free (wc := []) hD hS hA [] rfl
  refine va_calli (va_runS (As := [.int a]) (rest := []) ⟨hx, hb, hml, hown, hts⟩ (c_X0_isPage l dC dI a s.heap.size) (va_cwS 1 hts gX0_dirty_X0_isPage rfl rfl rfl (by decide +kernel) ⟨Nat.le_of_ble_eq_true rfl, Nat.le_of_ble_eq_true rfl⟩) ⟨fun a U g mk q => by obtain ⟨q0, q1, qP, qK, qD⟩ := q; exact ⟨q0, q1, qP, va_K.moved (u := U) (U := U.calling g mk a) (Vm.Alike.refl U.vm) qK, qD⟩, fun U hU hW => ⟨rfl, by rw [hU], by rw [hU]; exact hPc, va_K.moved hW.alike hKc, hDc.weaken (fun _ _ _ _ => trivial)⟩⟩ rfl rfl hl.1 rfl (lv_room (Nat.le_of_ble_eq_true rfl)) dX0_dirty_1 ⟨(Nat.zero_le _), (Nat.zero_le _)⟩) hS (fun q _ h => hFc q h) hFc (fun r_1 u_2 t H1 locs ht hvm w_3 hB hz1 hk1 hS => ?_)
  obtain ⟨hP1, hK1, hD1⟩ := hB
  rw [ht] at hP1
  obtain ⟨hP, hD⟩ := va_join (wr := [(h0, .inr (0, [.ref q1, .ref q2, .ref q3, .ref q4, .int pc, .int sc, .int ph, .int rd, .int th, .int lm, .int dy, .int wt])), (q1, .inl (cA, 64, .inl S)), (q2, .inl (cA, 64, .inl D)), (q3, .inl (cA, 4, .inl R)), (q4, .inl (cA, 8, .inl K))]) (w1 := []) hP hD [] [0, 1, 2, 3, 4] rfl rfl (by decide) (by decide) hk1 hFc hP1 hD1
  clear hPc hDc hFc hP1 hD1 hk1 hK1
  generalize H1 = H at hP hS ⊢
  have hP : va_P (dC, dI) vwCl [(h0, .inr (0, [.ref q1, .ref q2, .ref q3, .ref q4, .int pc, .int sc, .int ph, .int rd, .int th, .int lm, .int dy, .int wt])), (q1, .inl (cA, 64, .inl S)), (q2, .inl (cA, 64, .inl D)), (q3, .inl (cA, 4, .inl R)), (q4, .inl (cA, 8, .inl K))] H := hP
  have hD : va_D A [(h0, .inr (0, [.ref q1, .ref q2, .ref q3, .ref q4, .int pc, .int sc, .int ph, .int rd, .int th, .int lm, .int dy, .int wt])), (q1, .inl (cA, 64, .inl S)), (q2, .inl (cA, 64, .inl D)), (q3, .inl (cA, 4, .inl R)), (q4, .inl (cA, 8, .inl K))] := hD
  rcases w_3 with ⟨rfl, a_4⟩ | ⟨rfl, a_4⟩
  · refine lv_if_eq (tgt := 22) hx hb dX0_dirty_4 (by decide) (fun c_5 => ?_) (fun c_5 => ?_)
    · exact absurd c_5 (by decide)
    · refine lv_aload_n hx hb dX0_dirty_7 rfl (lv_at hl 0 rfl) ?_
      refine va_get (D := (dC, dI)) (ci := 0) (v := .int dy) (C := RX0) (T := TX0) (N := 12) hx hb hts inw_X0_dirty hown hK hP 0 rfl rfl 10 (by decide) (hts (.fieldLink RX0 41 "Migrator" "dirtyPages" "I") (by decide +kernel)) (fun _ h9 => h9) rfl dX0_dirty_8 ?_
      refine lv_iload_n hx hb dX0_dirty_11 rfl (lv_at hl 1 rfl) ?_
      have hPc := hP.sub (ws' := []) [] rfl
      have hDc := hD.sub (ws' := []) [] (by decide) rfl
      have hKc := hK.sub (tys' := []) [] rfl
      have hFc := va_free (wc := []) hD hS hA [] rfl
      refine va_calli (va_runS (As := [.int dy, .int a]) (rest := []) ⟨hx, hb, hml, hown, hts⟩ (c_X0_hasPage l dC dI dy a H.size) (va_cwS 2 hts gX0_dirty_X0_hasPage rfl rfl rfl (by decide +kernel) ⟨Nat.le_of_ble_eq_true rfl, Nat.le_of_ble_eq_true rfl⟩) ⟨fun a U g mk q => by obtain ⟨q0, q1, qP, qK, qD⟩ := q; exact ⟨q0, q1, qP, va_K.moved (u := U) (U := U.calling g mk a) (Vm.Alike.refl U.vm) qK, qD⟩, fun U hU hW => ⟨rfl, by rw [hU], by rw [hU]; exact hPc, va_K.moved hW.alike hKc, hDc.weaken (fun _ _ _ _ => trivial)⟩⟩ rfl rfl hl.1 rfl (lv_room (Nat.le_of_ble_eq_true rfl)) dX0_dirty_12 ⟨(Nat.zero_le _), (Nat.zero_le _)⟩) hS (fun q _ h => hFc q h) hFc (fun r_6 u_7 t H1 locs ht hvm w_8 hB hz1 hk1 hS => ?_)
      obtain ⟨hP1, hK1, hD1⟩ := hB
      rw [ht] at hP1
      obtain ⟨hP, hD⟩ := va_join (wr := [(h0, .inr (0, [.ref q1, .ref q2, .ref q3, .ref q4, .int pc, .int sc, .int ph, .int rd, .int th, .int lm, .int dy, .int wt])), (q1, .inl (cA, 64, .inl S)), (q2, .inl (cA, 64, .inl D)), (q3, .inl (cA, 4, .inl R)), (q4, .inl (cA, 8, .inl K))]) (w1 := []) hP hD [] [0, 1, 2, 3, 4] rfl rfl (by decide) (by decide) hk1 hFc hP1 hD1
      clear hPc hDc hFc hP1 hD1 hk1 hK1
      generalize H1 = H at hP hS ⊢
      have hP : va_P (dC, dI) vwCl [(h0, .inr (0, [.ref q1, .ref q2, .ref q3, .ref q4, .int pc, .int sc, .int ph, .int rd, .int th, .int lm, .int dy, .int wt])), (q1, .inl (cA, 64, .inl S)), (q2, .inl (cA, 64, .inl D)), (q3, .inl (cA, 4, .inl R)), (q4, .inl (cA, 8, .inl K))] H := hP
      have hD : va_D A [(h0, .inr (0, [.ref q1, .ref q2, .ref q3, .ref q4, .int pc, .int sc, .int ph, .int rd, .int th, .int lm, .int dy, .int wt])), (q1, .inl (cA, 64, .inl S)), (q2, .inl (cA, 64, .inl D)), (q3, .inl (cA, 4, .inl R)), (q4, .inl (cA, 8, .inl K))] := hD
      rcases w_8 with ⟨rfl, a_9⟩ | ⟨rfl, a_9⟩
      · refine lv_if_eq (tgt := 22) hx hb dX0_dirty_15 (by decide) (fun c_10 => ?_) (fun c_10 => ?_)
        · exact absurd c_10 (by decide)
        · refine lv_iconst (v := 1) hx hb dX0_dirty_18 (by decide) ?_
          refine lv_goto (tgt := 23) hx hb dX0_dirty_19 (by decide) ?_
          exact W.zret (v := 1) (ty := .boolean) hx hb hr rfl (fun t ht hW => ⟨⟨1, (S, D, R, K, pc, sc, ph, rd, th, lm, dy, wt), rfl, ⟨Or.inl ⟨rfl, a_4, a_9⟩, rfl⟩, by rw [ht]; exact hP, va_K.moved hW.alike hK, hD⟩, hS.F ht⟩) hS.2.2 dX0_dirty_23
      · refine lv_if_eq (tgt := 22) hx hb dX0_dirty_15 (by decide) (fun c_11 => ?_) (fun c_11 => ?_)
        · refine lv_iconst (v := 0) hx hb dX0_dirty_22 (by decide) ?_
          exact W.zret (v := 0) (ty := .boolean) hx hb hr rfl (fun t ht hW => ⟨⟨0, (S, D, R, K, pc, sc, ph, rd, th, lm, dy, wt), rfl, ⟨Or.inr ⟨rfl, fun h => a_9 h.2⟩, rfl⟩, by rw [ht]; exact hP, va_K.moved hW.alike hK, hD⟩, hS.F ht⟩) hS.2.2 dX0_dirty_23
        · exact absurd c_11 (by decide)
  · refine lv_if_eq (tgt := 22) hx hb dX0_dirty_4 (by decide) (fun c_12 => ?_) (fun c_12 => ?_)
    · refine lv_iconst (v := 0) hx hb dX0_dirty_22 (by decide) ?_
      exact W.zret (v := 0) (ty := .boolean) hx hb hr rfl (fun t ht hW => ⟨⟨0, (S, D, R, K, pc, sc, ph, rd, th, lm, dy, wt), rfl, ⟨Or.inr ⟨rfl, fun h => a_4 h.1⟩, rfl⟩, by rw [ht]; exact hP, va_K.moved hW.alike hK, hD⟩, hS.F ht⟩) hS.2.2 dX0_dirty_23
    · exact absurd c_12 (by decide)
theorem inw_X0_waits : ∀ w ∈ wsX00, w ∈ wsX0_waits := fun _ h => List.mem_cons_of_mem _ (List.mem_append_right _ h)
set_option maxHeartbeats 4000000 in
set_option maxRecDepth 100000 in
theorem c_X0_waits (l : Launch) (dC : Nat → ClassId) (dI : Nat → Nat → Nat) (h0 q1 q2 q3 q4 : Nat) (cA : ClassId) (S D R K : Nat → Int32) (pc sc ph rd th lm dy wt : Int32) (a : Int32) (sz : Nat) : Met l yX0_waits wsX0_waits ({ frames := 1, cells := 0, slots := 0, locals := 21 }) (va_Pc [.ref h0, .int a] (fun U => U.heap.size = sz ∧ va_P (dC, dI) vwCl (mg_W h0 q1 q2 q3 q4 cA (S, D, R, K, pc, sc, ph, rd, th, lm, dy, wt)) U.heap ∧ va_K (dC, dI) vwCl [(cA, .int)] U ∧ va_D (fun _ => True) (mg_W h0 q1 q2 q3 q4 cA (S, D, R, K, pc, sc, ph, rd, th, lm, dy, wt)))) (va_Qi (fun (r : Int32) (u : mgS) => ((r = 1 ∧ mg_ip a ∧ mg_bt wt a) ∨ (r = 0 ∧ ¬ (mg_ip a ∧ mg_bt wt a))) ∧ u = (S, D, R, K, pc, sc, ph, rd, th, lm, dy, wt)) (at_mg dC dI h0 q1 q2 q3 q4 cA (va_A (mg_W h0 q1 q2 q3 q4 cA (S, D, R, K, pc, sc, ph, rd, th, lm, dy, wt)) sz)) (va_A (mg_W h0 q1 q2 q3 q4 cA (S, D, R, K, pc, sc, ph, rd, th, lm, dy, wt)) sz)) 0 0 (va_A (mg_W h0 q1 q2 q3 q4 cA (S, D, R, K, pc, sc, ph, rd, th, lm, dy, wt)) sz) := by
  refine Met.ofW (cc := cX0_waits) (maxL := 2) (ret := (some .boolean)) (by decide) rfl ?_
  intro p e s m args below meth c s₁ B hml hv
  obtain ⟨rfl, hsz, hP, hK, hD0⟩ := hv
  have hx := B.exec
  have hb := B.bytes
  have hr := B.returns
  have hts := atoms_spec (ws := wsX0_waits) B.pre
  have hown : s.vm.findClass RX0 = some m.cls := findClass_of_methodNamed B.named
  have hlocks := B.notSynchronized
  subst hsz
  have hD := hD0.self (sz := s.heap.size)
  generalize hAe : va_A (mg_W h0 q1 q2 q3 q4 cA (S, D, R, K, pc, sc, ph, rd, th, lm, dy, wt)) s.heap.size = A at hD ⊢
  have hA : ∀ q : Nat, s.heap.size ≤ q → A q := fun q h => by rw [← hAe]; exact Or.inr h
  have hS : va_S A s.heap s.heap [] := va_S.rf
  have hP : va_P (dC, dI) vwCl [(h0, .inr (0, [.ref q1, .ref q2, .ref q3, .ref q4, .int pc, .int sc, .int ph, .int rd, .int th, .int lm, .int dy, .int wt])), (q1, .inl (cA, 64, .inl S)), (q2, .inl (cA, 64, .inl D)), (q3, .inl (cA, 4, .inl R)), (q4, .inl (cA, 8, .inl K))] s.heap := hP
  have hD : va_D A [(h0, .inr (0, [.ref q1, .ref q2, .ref q3, .ref q4, .int pc, .int sc, .int ph, .int rd, .int th, .int lm, .int dy, .int wt])), (q1, .inl (cA, 64, .inl S)), (q2, .inl (cA, 64, .inl D)), (q3, .inl (cA, 4, .inl R)), (q4, .inl (cA, 8, .inl K))] := hD
  have hl := lv_entry ([.ref h0, .int a]) (n := 2) (Nat.le_of_ble_eq_true rfl)
  rw [lg_entry_eq]
  generalize (lg_sl ([.ref h0, .int a]) ++ List.replicate (2 - (lg_sl ([.ref h0, .int a])).length) Slot.unset).toArray = ls at hl ⊢
  have hl : lv_has ls 2 [(0, .ref h0), (1, .int a)] := hl
  refine lv_iload_n hx hb dX0_waits_0 rfl (lv_at hl 1 rfl) ?_
  have hPc := hP.sub (ws' := []) [] rfl
  have hDc := hD.sub (ws' := []) [] (by decide) rfl
  have hKc := hK.sub (tys' := []) [] rfl
  have hFc := va_free (wc := []) hD hS hA [] rfl
  refine va_calli (va_runS (As := [.int a]) (rest := []) ⟨hx, hb, hml, hown, hts⟩ (c_X0_isPage l dC dI a s.heap.size) (va_cwS 1 hts gX0_waits_X0_isPage rfl rfl rfl (by decide +kernel) ⟨Nat.le_of_ble_eq_true rfl, Nat.le_of_ble_eq_true rfl⟩) ⟨fun a U g mk q => by obtain ⟨q0, q1, qP, qK, qD⟩ := q; exact ⟨q0, q1, qP, va_K.moved (u := U) (U := U.calling g mk a) (Vm.Alike.refl U.vm) qK, qD⟩, fun U hU hW => ⟨rfl, by rw [hU], by rw [hU]; exact hPc, va_K.moved hW.alike hKc, hDc.weaken (fun _ _ _ _ => trivial)⟩⟩ rfl rfl hl.1 rfl (lv_room (Nat.le_of_ble_eq_true rfl)) dX0_waits_1 ⟨(Nat.zero_le _), (Nat.zero_le _)⟩) hS (fun q _ h => hFc q h) hFc (fun r_1 u_2 t H1 locs ht hvm w_3 hB hz1 hk1 hS => ?_)
  obtain ⟨hP1, hK1, hD1⟩ := hB
  rw [ht] at hP1
  obtain ⟨hP, hD⟩ := va_join (wr := [(h0, .inr (0, [.ref q1, .ref q2, .ref q3, .ref q4, .int pc, .int sc, .int ph, .int rd, .int th, .int lm, .int dy, .int wt])), (q1, .inl (cA, 64, .inl S)), (q2, .inl (cA, 64, .inl D)), (q3, .inl (cA, 4, .inl R)), (q4, .inl (cA, 8, .inl K))]) (w1 := []) hP hD [] [0, 1, 2, 3, 4] rfl rfl (by decide) (by decide) hk1 hFc hP1 hD1
  clear hPc hDc hFc hP1 hD1 hk1 hK1
  generalize H1 = H at hP hS ⊢
  have hP : va_P (dC, dI) vwCl [(h0, .inr (0, [.ref q1, .ref q2, .ref q3, .ref q4, .int pc, .int sc, .int ph, .int rd, .int th, .int lm, .int dy, .int wt])), (q1, .inl (cA, 64, .inl S)), (q2, .inl (cA, 64, .inl D)), (q3, .inl (cA, 4, .inl R)), (q4, .inl (cA, 8, .inl K))] H := hP
  have hD : va_D A [(h0, .inr (0, [.ref q1, .ref q2, .ref q3, .ref q4, .int pc, .int sc, .int ph, .int rd, .int th, .int lm, .int dy, .int wt])), (q1, .inl (cA, 64, .inl S)), (q2, .inl (cA, 64, .inl D)), (q3, .inl (cA, 4, .inl R)), (q4, .inl (cA, 8, .inl K))] := hD
  rcases w_3 with ⟨rfl, a_4⟩ | ⟨rfl, a_4⟩
  · refine lv_if_eq (tgt := 22) hx hb dX0_waits_4 (by decide) (fun c_5 => ?_) (fun c_5 => ?_)
    · exact absurd c_5 (by decide)
    · refine lv_aload_n hx hb dX0_waits_7 rfl (lv_at hl 0 rfl) ?_
      refine va_get (D := (dC, dI)) (ci := 0) (v := .int wt) (C := RX0) (T := TX0) (N := 12) hx hb hts inw_X0_waits hown hK hP 0 rfl rfl 11 (by decide) (hts (.fieldLink RX0 44 "Migrator" "waitingPages" "I") (by decide +kernel)) (fun _ h9 => h9) rfl dX0_waits_8 ?_
      refine lv_iload_n hx hb dX0_waits_11 rfl (lv_at hl 1 rfl) ?_
      have hPc := hP.sub (ws' := []) [] rfl
      have hDc := hD.sub (ws' := []) [] (by decide) rfl
      have hKc := hK.sub (tys' := []) [] rfl
      have hFc := va_free (wc := []) hD hS hA [] rfl
      refine va_calli (va_runS (As := [.int wt, .int a]) (rest := []) ⟨hx, hb, hml, hown, hts⟩ (c_X0_hasPage l dC dI wt a H.size) (va_cwS 2 hts gX0_waits_X0_hasPage rfl rfl rfl (by decide +kernel) ⟨Nat.le_of_ble_eq_true rfl, Nat.le_of_ble_eq_true rfl⟩) ⟨fun a U g mk q => by obtain ⟨q0, q1, qP, qK, qD⟩ := q; exact ⟨q0, q1, qP, va_K.moved (u := U) (U := U.calling g mk a) (Vm.Alike.refl U.vm) qK, qD⟩, fun U hU hW => ⟨rfl, by rw [hU], by rw [hU]; exact hPc, va_K.moved hW.alike hKc, hDc.weaken (fun _ _ _ _ => trivial)⟩⟩ rfl rfl hl.1 rfl (lv_room (Nat.le_of_ble_eq_true rfl)) dX0_waits_12 ⟨(Nat.zero_le _), (Nat.zero_le _)⟩) hS (fun q _ h => hFc q h) hFc (fun r_6 u_7 t H1 locs ht hvm w_8 hB hz1 hk1 hS => ?_)
      obtain ⟨hP1, hK1, hD1⟩ := hB
      rw [ht] at hP1
      obtain ⟨hP, hD⟩ := va_join (wr := [(h0, .inr (0, [.ref q1, .ref q2, .ref q3, .ref q4, .int pc, .int sc, .int ph, .int rd, .int th, .int lm, .int dy, .int wt])), (q1, .inl (cA, 64, .inl S)), (q2, .inl (cA, 64, .inl D)), (q3, .inl (cA, 4, .inl R)), (q4, .inl (cA, 8, .inl K))]) (w1 := []) hP hD [] [0, 1, 2, 3, 4] rfl rfl (by decide) (by decide) hk1 hFc hP1 hD1
      clear hPc hDc hFc hP1 hD1 hk1 hK1
      generalize H1 = H at hP hS ⊢
      have hP : va_P (dC, dI) vwCl [(h0, .inr (0, [.ref q1, .ref q2, .ref q3, .ref q4, .int pc, .int sc, .int ph, .int rd, .int th, .int lm, .int dy, .int wt])), (q1, .inl (cA, 64, .inl S)), (q2, .inl (cA, 64, .inl D)), (q3, .inl (cA, 4, .inl R)), (q4, .inl (cA, 8, .inl K))] H := hP
      have hD : va_D A [(h0, .inr (0, [.ref q1, .ref q2, .ref q3, .ref q4, .int pc, .int sc, .int ph, .int rd, .int th, .int lm, .int dy, .int wt])), (q1, .inl (cA, 64, .inl S)), (q2, .inl (cA, 64, .inl D)), (q3, .inl (cA, 4, .inl R)), (q4, .inl (cA, 8, .inl K))] := hD
      rcases w_8 with ⟨rfl, a_9⟩ | ⟨rfl, a_9⟩
      · refine lv_if_eq (tgt := 22) hx hb dX0_waits_15 (by decide) (fun c_10 => ?_) (fun c_10 => ?_)
        · exact absurd c_10 (by decide)
        · refine lv_iconst (v := 1) hx hb dX0_waits_18 (by decide) ?_
          refine lv_goto (tgt := 23) hx hb dX0_waits_19 (by decide) ?_
          exact W.zret (v := 1) (ty := .boolean) hx hb hr rfl (fun t ht hW => ⟨⟨1, (S, D, R, K, pc, sc, ph, rd, th, lm, dy, wt), rfl, ⟨Or.inl ⟨rfl, a_4, a_9⟩, rfl⟩, by rw [ht]; exact hP, va_K.moved hW.alike hK, hD⟩, hS.F ht⟩) hS.2.2 dX0_waits_23
      · refine lv_if_eq (tgt := 22) hx hb dX0_waits_15 (by decide) (fun c_11 => ?_) (fun c_11 => ?_)
        · refine lv_iconst (v := 0) hx hb dX0_waits_22 (by decide) ?_
          exact W.zret (v := 0) (ty := .boolean) hx hb hr rfl (fun t ht hW => ⟨⟨0, (S, D, R, K, pc, sc, ph, rd, th, lm, dy, wt), rfl, ⟨Or.inr ⟨rfl, fun h => a_9 h.2⟩, rfl⟩, by rw [ht]; exact hP, va_K.moved hW.alike hK, hD⟩, hS.F ht⟩) hS.2.2 dX0_waits_23
        · exact absurd c_11 (by decide)
  · refine lv_if_eq (tgt := 22) hx hb dX0_waits_4 (by decide) (fun c_12 => ?_) (fun c_12 => ?_)
    · refine lv_iconst (v := 0) hx hb dX0_waits_22 (by decide) ?_
      exact W.zret (v := 0) (ty := .boolean) hx hb hr rfl (fun t ht hW => ⟨⟨0, (S, D, R, K, pc, sc, ph, rd, th, lm, dy, wt), rfl, ⟨Or.inr ⟨rfl, fun h => a_4 h.1⟩, rfl⟩, by rw [ht]; exact hP, va_K.moved hW.alike hK, hD⟩, hS.F ht⟩) hS.2.2 dX0_waits_23
    · exact absurd c_12 (by decide)
theorem inw_X0_source : ∀ w ∈ wsX00, w ∈ wsX0_source := fun _ h => List.mem_cons_of_mem _ (List.mem_append_right _ h)
set_option maxHeartbeats 4000000 in
set_option maxRecDepth 100000 in
theorem c_X0_source (l : Launch) (dC : Nat → ClassId) (dI : Nat → Nat → Nat) (h0 q1 q2 q3 q4 : Nat) (cA : ClassId) (S D R K : Nat → Int32) (pc sc ph rd th lm dy wt : Int32) (a : Int32) (sz : Nat) : Met l yX0_source wsX0_source ({ frames := 1, cells := 0, slots := 0, locals := 20 }) (va_Pc [.ref h0, .int a] (fun U => U.heap.size = sz ∧ va_P (dC, dI) vwCl (mg_W h0 q1 q2 q3 q4 cA (S, D, R, K, pc, sc, ph, rd, th, lm, dy, wt)) U.heap ∧ va_K (dC, dI) vwCl [(cA, .int)] U ∧ va_D (fun _ => True) (mg_W h0 q1 q2 q3 q4 cA (S, D, R, K, pc, sc, ph, rd, th, lm, dy, wt)))) (va_Qi (fun (r : Int32) (u : mgS) => ((mg_ia a ∧ r = S a.toNatClampNeg) ∨ (r = 0 ∧ ¬ mg_ia a)) ∧ u = (S, D, R, K, pc, sc, ph, rd, th, lm, dy, wt)) (at_mg dC dI h0 q1 q2 q3 q4 cA (va_A (mg_W h0 q1 q2 q3 q4 cA (S, D, R, K, pc, sc, ph, rd, th, lm, dy, wt)) sz)) (va_A (mg_W h0 q1 q2 q3 q4 cA (S, D, R, K, pc, sc, ph, rd, th, lm, dy, wt)) sz)) 0 0 (va_A (mg_W h0 q1 q2 q3 q4 cA (S, D, R, K, pc, sc, ph, rd, th, lm, dy, wt)) sz) := by
  refine Met.ofW (cc := cX0_source) (maxL := 2) (ret := (some .int)) (by decide) rfl ?_
  intro p e s m args below meth c s₁ B hml hv
  obtain ⟨rfl, hsz, hP, hK, hD0⟩ := hv
  have hx := B.exec
  have hb := B.bytes
  have hr := B.returns
  have hts := atoms_spec (ws := wsX0_source) B.pre
  have hown : s.vm.findClass RX0 = some m.cls := findClass_of_methodNamed B.named
  have hlocks := B.notSynchronized
  subst hsz
  have hD := hD0.self (sz := s.heap.size)
  generalize hAe : va_A (mg_W h0 q1 q2 q3 q4 cA (S, D, R, K, pc, sc, ph, rd, th, lm, dy, wt)) s.heap.size = A at hD ⊢
  have hA : ∀ q : Nat, s.heap.size ≤ q → A q := fun q h => by rw [← hAe]; exact Or.inr h
  have hS : va_S A s.heap s.heap [] := va_S.rf
  have hP : va_P (dC, dI) vwCl [(h0, .inr (0, [.ref q1, .ref q2, .ref q3, .ref q4, .int pc, .int sc, .int ph, .int rd, .int th, .int lm, .int dy, .int wt])), (q1, .inl (cA, 64, .inl S)), (q2, .inl (cA, 64, .inl D)), (q3, .inl (cA, 4, .inl R)), (q4, .inl (cA, 8, .inl K))] s.heap := hP
  have hD : va_D A [(h0, .inr (0, [.ref q1, .ref q2, .ref q3, .ref q4, .int pc, .int sc, .int ph, .int rd, .int th, .int lm, .int dy, .int wt])), (q1, .inl (cA, 64, .inl S)), (q2, .inl (cA, 64, .inl D)), (q3, .inl (cA, 4, .inl R)), (q4, .inl (cA, 8, .inl K))] := hD
  have hl := lv_entry ([.ref h0, .int a]) (n := 2) (Nat.le_of_ble_eq_true rfl)
  rw [lg_entry_eq]
  generalize (lg_sl ([.ref h0, .int a]) ++ List.replicate (2 - (lg_sl ([.ref h0, .int a])).length) Slot.unset).toArray = ls at hl ⊢
  have hl : lv_has ls 2 [(0, .ref h0), (1, .int a)] := hl
  refine lv_iload_n hx hb dX0_source_0 rfl (lv_at hl 1 rfl) ?_
  have hPc := hP.sub (ws' := []) [] rfl
  have hDc := hD.sub (ws' := []) [] (by decide) rfl
  have hKc := hK.sub (tys' := []) [] rfl
  have hFc := va_free (wc := []) hD hS hA [] rfl
  refine va_calli (va_runS (As := [.int a]) (rest := []) ⟨hx, hb, hml, hown, hts⟩ (c_X0_isAddress l dC dI a s.heap.size) (va_cwS 1 hts gX0_source_X0_isAddress rfl rfl rfl (by decide +kernel) ⟨Nat.le_of_ble_eq_true rfl, Nat.le_of_ble_eq_true rfl⟩) ⟨fun a U g mk q => by obtain ⟨q0, q1, qP, qK, qD⟩ := q; exact ⟨q0, q1, qP, va_K.moved (u := U) (U := U.calling g mk a) (Vm.Alike.refl U.vm) qK, qD⟩, fun U hU hW => ⟨rfl, by rw [hU], by rw [hU]; exact hPc, va_K.moved hW.alike hKc, hDc.weaken (fun _ _ _ _ => trivial)⟩⟩ rfl rfl hl.1 rfl (lv_room (Nat.le_of_ble_eq_true rfl)) dX0_source_1 ⟨(Nat.zero_le _), (Nat.zero_le _)⟩) hS (fun q _ h => hFc q h) hFc (fun r_1 u_2 t H1 locs ht hvm w_3 hB hz1 hk1 hS => ?_)
  obtain ⟨hP1, hK1, hD1⟩ := hB
  rw [ht] at hP1
  obtain ⟨hP, hD⟩ := va_join (wr := [(h0, .inr (0, [.ref q1, .ref q2, .ref q3, .ref q4, .int pc, .int sc, .int ph, .int rd, .int th, .int lm, .int dy, .int wt])), (q1, .inl (cA, 64, .inl S)), (q2, .inl (cA, 64, .inl D)), (q3, .inl (cA, 4, .inl R)), (q4, .inl (cA, 8, .inl K))]) (w1 := []) hP hD [] [0, 1, 2, 3, 4] rfl rfl (by decide) (by decide) hk1 hFc hP1 hD1
  clear hPc hDc hFc hP1 hD1 hk1 hK1
  generalize H1 = H at hP hS ⊢
  have hP : va_P (dC, dI) vwCl [(h0, .inr (0, [.ref q1, .ref q2, .ref q3, .ref q4, .int pc, .int sc, .int ph, .int rd, .int th, .int lm, .int dy, .int wt])), (q1, .inl (cA, 64, .inl S)), (q2, .inl (cA, 64, .inl D)), (q3, .inl (cA, 4, .inl R)), (q4, .inl (cA, 8, .inl K))] H := hP
  have hD : va_D A [(h0, .inr (0, [.ref q1, .ref q2, .ref q3, .ref q4, .int pc, .int sc, .int ph, .int rd, .int th, .int lm, .int dy, .int wt])), (q1, .inl (cA, 64, .inl S)), (q2, .inl (cA, 64, .inl D)), (q3, .inl (cA, 4, .inl R)), (q4, .inl (cA, 8, .inl K))] := hD
  rcases w_3 with ⟨rfl, a_4⟩ | ⟨rfl, a_4⟩
  · refine lv_if_eq (tgt := 16) hx hb dX0_source_4 (by decide) (fun c_5 => ?_) (fun c_5 => ?_)
    · exact absurd c_5 (by decide)
    · refine lv_aload_n hx hb dX0_source_7 rfl (lv_at hl 0 rfl) ?_
      refine va_get (D := (dC, dI)) (ci := 0) (v := .ref q1) (C := RX0) (T := TX0) (N := 12) hx hb hts inw_X0_source hown hK hP 0 rfl rfl 0 (by decide) (hts (.fieldLink RX0 9 "Migrator" "sourceWords" "[I") (by decide +kernel)) (fun _ h9 => h9) rfl dX0_source_8 ?_
      refine lv_iload_n hx hb dX0_source_11 rfl (lv_at hl 1 rfl) ?_
      refine va_iald hx hb hK hP 1 0 rfl rfl (in_lt (y := 64) (by decide) a_4.1 a_4.2) dX0_source_12 ?_
      refine lv_goto (tgt := 17) hx hb dX0_source_13 (by decide) ?_
      exact W.iret (v := S a.toNatClampNeg) hx hb hr (fun t ht hW => ⟨⟨S a.toNatClampNeg, (S, D, R, K, pc, sc, ph, rd, th, lm, dy, wt), rfl, ⟨Or.inl ⟨a_4, rfl⟩, rfl⟩, by rw [ht]; exact hP, va_K.moved hW.alike hK, hD⟩, hS.F ht⟩) hS.2.2 dX0_source_17
  · refine lv_if_eq (tgt := 16) hx hb dX0_source_4 (by decide) (fun c_6 => ?_) (fun c_6 => ?_)
    · refine lv_iconst (v := 0) hx hb dX0_source_16 (by decide) ?_
      exact W.iret (v := 0) hx hb hr (fun t ht hW => ⟨⟨0, (S, D, R, K, pc, sc, ph, rd, th, lm, dy, wt), rfl, ⟨Or.inr ⟨rfl, a_4⟩, rfl⟩, by rw [ht]; exact hP, va_K.moved hW.alike hK, hD⟩, hS.F ht⟩) hS.2.2 dX0_source_17
    · exact absurd c_6 (by decide)
theorem inw_X0_destination : ∀ w ∈ wsX00, w ∈ wsX0_destination := fun _ h => List.mem_cons_of_mem _ (List.mem_append_right _ h)
set_option maxHeartbeats 4000000 in
set_option maxRecDepth 100000 in
theorem c_X0_destination (l : Launch) (dC : Nat → ClassId) (dI : Nat → Nat → Nat) (h0 q1 q2 q3 q4 : Nat) (cA : ClassId) (S D R K : Nat → Int32) (pc sc ph rd th lm dy wt : Int32) (a : Int32) (sz : Nat) : Met l yX0_destination wsX0_destination ({ frames := 1, cells := 0, slots := 0, locals := 20 }) (va_Pc [.ref h0, .int a] (fun U => U.heap.size = sz ∧ va_P (dC, dI) vwCl (mg_W h0 q1 q2 q3 q4 cA (S, D, R, K, pc, sc, ph, rd, th, lm, dy, wt)) U.heap ∧ va_K (dC, dI) vwCl [(cA, .int)] U ∧ va_D (fun _ => True) (mg_W h0 q1 q2 q3 q4 cA (S, D, R, K, pc, sc, ph, rd, th, lm, dy, wt)))) (va_Qi (fun (r : Int32) (u : mgS) => ((mg_ia a ∧ r = D a.toNatClampNeg) ∨ (r = 0 ∧ ¬ mg_ia a)) ∧ u = (S, D, R, K, pc, sc, ph, rd, th, lm, dy, wt)) (at_mg dC dI h0 q1 q2 q3 q4 cA (va_A (mg_W h0 q1 q2 q3 q4 cA (S, D, R, K, pc, sc, ph, rd, th, lm, dy, wt)) sz)) (va_A (mg_W h0 q1 q2 q3 q4 cA (S, D, R, K, pc, sc, ph, rd, th, lm, dy, wt)) sz)) 0 0 (va_A (mg_W h0 q1 q2 q3 q4 cA (S, D, R, K, pc, sc, ph, rd, th, lm, dy, wt)) sz) := by
  refine Met.ofW (cc := cX0_destination) (maxL := 2) (ret := (some .int)) (by decide) rfl ?_
  intro p e s m args below meth c s₁ B hml hv
  obtain ⟨rfl, hsz, hP, hK, hD0⟩ := hv
  have hx := B.exec
  have hb := B.bytes
  have hr := B.returns
  have hts := atoms_spec (ws := wsX0_destination) B.pre
  have hown : s.vm.findClass RX0 = some m.cls := findClass_of_methodNamed B.named
  have hlocks := B.notSynchronized
  subst hsz
  have hD := hD0.self (sz := s.heap.size)
  generalize hAe : va_A (mg_W h0 q1 q2 q3 q4 cA (S, D, R, K, pc, sc, ph, rd, th, lm, dy, wt)) s.heap.size = A at hD ⊢
  have hA : ∀ q : Nat, s.heap.size ≤ q → A q := fun q h => by rw [← hAe]; exact Or.inr h
  have hS : va_S A s.heap s.heap [] := va_S.rf
  have hP : va_P (dC, dI) vwCl [(h0, .inr (0, [.ref q1, .ref q2, .ref q3, .ref q4, .int pc, .int sc, .int ph, .int rd, .int th, .int lm, .int dy, .int wt])), (q1, .inl (cA, 64, .inl S)), (q2, .inl (cA, 64, .inl D)), (q3, .inl (cA, 4, .inl R)), (q4, .inl (cA, 8, .inl K))] s.heap := hP
  have hD : va_D A [(h0, .inr (0, [.ref q1, .ref q2, .ref q3, .ref q4, .int pc, .int sc, .int ph, .int rd, .int th, .int lm, .int dy, .int wt])), (q1, .inl (cA, 64, .inl S)), (q2, .inl (cA, 64, .inl D)), (q3, .inl (cA, 4, .inl R)), (q4, .inl (cA, 8, .inl K))] := hD
  have hl := lv_entry ([.ref h0, .int a]) (n := 2) (Nat.le_of_ble_eq_true rfl)
  rw [lg_entry_eq]
  generalize (lg_sl ([.ref h0, .int a]) ++ List.replicate (2 - (lg_sl ([.ref h0, .int a])).length) Slot.unset).toArray = ls at hl ⊢
  have hl : lv_has ls 2 [(0, .ref h0), (1, .int a)] := hl
  refine lv_iload_n hx hb dX0_destination_0 rfl (lv_at hl 1 rfl) ?_
  have hPc := hP.sub (ws' := []) [] rfl
  have hDc := hD.sub (ws' := []) [] (by decide) rfl
  have hKc := hK.sub (tys' := []) [] rfl
  have hFc := va_free (wc := []) hD hS hA [] rfl
  refine va_calli (va_runS (As := [.int a]) (rest := []) ⟨hx, hb, hml, hown, hts⟩ (c_X0_isAddress l dC dI a s.heap.size) (va_cwS 1 hts gX0_destination_X0_isAddress rfl rfl rfl (by decide +kernel) ⟨Nat.le_of_ble_eq_true rfl, Nat.le_of_ble_eq_true rfl⟩) ⟨fun a U g mk q => by obtain ⟨q0, q1, qP, qK, qD⟩ := q; exact ⟨q0, q1, qP, va_K.moved (u := U) (U := U.calling g mk a) (Vm.Alike.refl U.vm) qK, qD⟩, fun U hU hW => ⟨rfl, by rw [hU], by rw [hU]; exact hPc, va_K.moved hW.alike hKc, hDc.weaken (fun _ _ _ _ => trivial)⟩⟩ rfl rfl hl.1 rfl (lv_room (Nat.le_of_ble_eq_true rfl)) dX0_destination_1 ⟨(Nat.zero_le _), (Nat.zero_le _)⟩) hS (fun q _ h => hFc q h) hFc (fun r_1 u_2 t H1 locs ht hvm w_3 hB hz1 hk1 hS => ?_)
  obtain ⟨hP1, hK1, hD1⟩ := hB
  rw [ht] at hP1
  obtain ⟨hP, hD⟩ := va_join (wr := [(h0, .inr (0, [.ref q1, .ref q2, .ref q3, .ref q4, .int pc, .int sc, .int ph, .int rd, .int th, .int lm, .int dy, .int wt])), (q1, .inl (cA, 64, .inl S)), (q2, .inl (cA, 64, .inl D)), (q3, .inl (cA, 4, .inl R)), (q4, .inl (cA, 8, .inl K))]) (w1 := []) hP hD [] [0, 1, 2, 3, 4] rfl rfl (by decide) (by decide) hk1 hFc hP1 hD1
  clear hPc hDc hFc hP1 hD1 hk1 hK1
  generalize H1 = H at hP hS ⊢
  have hP : va_P (dC, dI) vwCl [(h0, .inr (0, [.ref q1, .ref q2, .ref q3, .ref q4, .int pc, .int sc, .int ph, .int rd, .int th, .int lm, .int dy, .int wt])), (q1, .inl (cA, 64, .inl S)), (q2, .inl (cA, 64, .inl D)), (q3, .inl (cA, 4, .inl R)), (q4, .inl (cA, 8, .inl K))] H := hP
  have hD : va_D A [(h0, .inr (0, [.ref q1, .ref q2, .ref q3, .ref q4, .int pc, .int sc, .int ph, .int rd, .int th, .int lm, .int dy, .int wt])), (q1, .inl (cA, 64, .inl S)), (q2, .inl (cA, 64, .inl D)), (q3, .inl (cA, 4, .inl R)), (q4, .inl (cA, 8, .inl K))] := hD
  rcases w_3 with ⟨rfl, a_4⟩ | ⟨rfl, a_4⟩
  · refine lv_if_eq (tgt := 16) hx hb dX0_destination_4 (by decide) (fun c_5 => ?_) (fun c_5 => ?_)
    · exact absurd c_5 (by decide)
    · refine lv_aload_n hx hb dX0_destination_7 rfl (lv_at hl 0 rfl) ?_
      refine va_get (D := (dC, dI)) (ci := 0) (v := .ref q2) (C := RX0) (T := TX0) (N := 12) hx hb hts inw_X0_destination hown hK hP 0 rfl rfl 1 (by decide) (hts (.fieldLink RX0 13 "Migrator" "destinationWords" "[I") (by decide +kernel)) (fun _ h9 => h9) rfl dX0_destination_8 ?_
      refine lv_iload_n hx hb dX0_destination_11 rfl (lv_at hl 1 rfl) ?_
      refine va_iald hx hb hK hP 2 0 rfl rfl (in_lt (y := 64) (by decide) a_4.1 a_4.2) dX0_destination_12 ?_
      refine lv_goto (tgt := 17) hx hb dX0_destination_13 (by decide) ?_
      exact W.iret (v := D a.toNatClampNeg) hx hb hr (fun t ht hW => ⟨⟨D a.toNatClampNeg, (S, D, R, K, pc, sc, ph, rd, th, lm, dy, wt), rfl, ⟨Or.inl ⟨a_4, rfl⟩, rfl⟩, by rw [ht]; exact hP, va_K.moved hW.alike hK, hD⟩, hS.F ht⟩) hS.2.2 dX0_destination_17
  · refine lv_if_eq (tgt := 16) hx hb dX0_destination_4 (by decide) (fun c_6 => ?_) (fun c_6 => ?_)
    · refine lv_iconst (v := 0) hx hb dX0_destination_16 (by decide) ?_
      exact W.iret (v := 0) hx hb hr (fun t ht hW => ⟨⟨0, (S, D, R, K, pc, sc, ph, rd, th, lm, dy, wt), rfl, ⟨Or.inr ⟨rfl, a_4⟩, rfl⟩, by rw [ht]; exact hP, va_K.moved hW.alike hK, hD⟩, hS.F ht⟩) hS.2.2 dX0_destination_17
    · exact absurd c_6 (by decide)
theorem inw_X0_register : ∀ w ∈ wsX00, w ∈ wsX0_register := fun _ h => List.mem_cons_of_mem _ (List.mem_append_right _ h)
set_option maxHeartbeats 4000000 in
set_option maxRecDepth 100000 in
theorem c_X0_register (l : Launch) (dC : Nat → ClassId) (dI : Nat → Nat → Nat) (h0 q1 q2 q3 q4 : Nat) (cA : ClassId) (S D R K : Nat → Int32) (pc sc ph rd th lm dy wt : Int32) (a : Int32) (sz : Nat) : Met l yX0_register wsX0_register ({ frames := 0, cells := 0, slots := 0, locals := 0 }) (va_Pc [.ref h0, .int a] (fun U => U.heap.size = sz ∧ va_P (dC, dI) vwCl (mg_W h0 q1 q2 q3 q4 cA (S, D, R, K, pc, sc, ph, rd, th, lm, dy, wt)) U.heap ∧ va_K (dC, dI) vwCl [(cA, .int)] U ∧ va_D (fun _ => True) (mg_W h0 q1 q2 q3 q4 cA (S, D, R, K, pc, sc, ph, rd, th, lm, dy, wt)))) (va_Qi (fun (r : Int32) (u : mgS) => ((¬ a < 0 ∧ ¬ 4 ≤ a ∧ r = R a.toNatClampNeg) ∨ (r = 0 ∧ (a < 0 ∨ 4 ≤ a))) ∧ u = (S, D, R, K, pc, sc, ph, rd, th, lm, dy, wt)) (at_mg dC dI h0 q1 q2 q3 q4 cA (va_A (mg_W h0 q1 q2 q3 q4 cA (S, D, R, K, pc, sc, ph, rd, th, lm, dy, wt)) sz)) (va_A (mg_W h0 q1 q2 q3 q4 cA (S, D, R, K, pc, sc, ph, rd, th, lm, dy, wt)) sz)) 0 0 (va_A (mg_W h0 q1 q2 q3 q4 cA (S, D, R, K, pc, sc, ph, rd, th, lm, dy, wt)) sz) := by
  refine Met.ofW (cc := cX0_register) (maxL := 2) (ret := (some .int)) (by decide) rfl ?_
  intro p e s m args below meth c s₁ B hml hv
  obtain ⟨rfl, hsz, hP, hK, hD0⟩ := hv
  have hx := B.exec
  have hb := B.bytes
  have hr := B.returns
  have hts := atoms_spec (ws := wsX0_register) B.pre
  have hown : s.vm.findClass RX0 = some m.cls := findClass_of_methodNamed B.named
  have hlocks := B.notSynchronized
  subst hsz
  have hD := hD0.self (sz := s.heap.size)
  generalize hAe : va_A (mg_W h0 q1 q2 q3 q4 cA (S, D, R, K, pc, sc, ph, rd, th, lm, dy, wt)) s.heap.size = A at hD ⊢
  have hA : ∀ q : Nat, s.heap.size ≤ q → A q := fun q h => by rw [← hAe]; exact Or.inr h
  have hS : va_S A s.heap s.heap [] := va_S.rf
  have hP : va_P (dC, dI) vwCl [(h0, .inr (0, [.ref q1, .ref q2, .ref q3, .ref q4, .int pc, .int sc, .int ph, .int rd, .int th, .int lm, .int dy, .int wt])), (q1, .inl (cA, 64, .inl S)), (q2, .inl (cA, 64, .inl D)), (q3, .inl (cA, 4, .inl R)), (q4, .inl (cA, 8, .inl K))] s.heap := hP
  have hD : va_D A [(h0, .inr (0, [.ref q1, .ref q2, .ref q3, .ref q4, .int pc, .int sc, .int ph, .int rd, .int th, .int lm, .int dy, .int wt])), (q1, .inl (cA, 64, .inl S)), (q2, .inl (cA, 64, .inl D)), (q3, .inl (cA, 4, .inl R)), (q4, .inl (cA, 8, .inl K))] := hD
  have hl := lv_entry ([.ref h0, .int a]) (n := 2) (Nat.le_of_ble_eq_true rfl)
  rw [lg_entry_eq]
  generalize (lg_sl ([.ref h0, .int a]) ++ List.replicate (2 - (lg_sl ([.ref h0, .int a])).length) Slot.unset).toArray = ls at hl ⊢
  have hl : lv_has ls 2 [(0, .ref h0), (1, .int a)] := hl
  refine lv_iload_n hx hb dX0_register_0 rfl (lv_at hl 1 rfl) ?_
  refine lv_if_lt (tgt := 18) hx hb dX0_register_1 (by decide) (fun c_1 => ?_) (fun c_1 => ?_)
  · refine lv_iconst (v := 0) hx hb dX0_register_18 (by decide) ?_
    exact W.iret (v := 0) hx hb hr (fun t ht hW => ⟨⟨0, (S, D, R, K, pc, sc, ph, rd, th, lm, dy, wt), rfl, ⟨Or.inr ⟨rfl, Or.inl c_1⟩, rfl⟩, by rw [ht]; exact hP, va_K.moved hW.alike hK, hD⟩, hS.F ht⟩) hS.2.2 dX0_register_19
  · refine lv_iload_n hx hb dX0_register_4 rfl (lv_at hl 1 rfl) ?_
    refine lv_iconst (v := 4) hx hb dX0_register_5 (by decide) ?_
    refine lv_icmp_ge (tgt := 18) hx hb dX0_register_6 (by decide) (fun c_2 => ?_) (fun c_2 => ?_)
    · refine lv_iconst (v := 0) hx hb dX0_register_18 (by decide) ?_
      exact W.iret (v := 0) hx hb hr (fun t ht hW => ⟨⟨0, (S, D, R, K, pc, sc, ph, rd, th, lm, dy, wt), rfl, ⟨Or.inr ⟨rfl, Or.inr c_2⟩, rfl⟩, by rw [ht]; exact hP, va_K.moved hW.alike hK, hD⟩, hS.F ht⟩) hS.2.2 dX0_register_19
    · refine lv_aload_n hx hb dX0_register_9 rfl (lv_at hl 0 rfl) ?_
      refine va_get (D := (dC, dI)) (ci := 0) (v := .ref q3) (C := RX0) (T := TX0) (N := 12) hx hb hts inw_X0_register hown hK hP 0 rfl rfl 2 (by decide) (hts (.fieldLink RX0 16 "Migrator" "registers" "[I") (by decide +kernel)) (fun _ h9 => h9) rfl dX0_register_10 ?_
      refine lv_iload_n hx hb dX0_register_13 rfl (lv_at hl 1 rfl) ?_
      refine va_iald hx hb hK hP 3 0 rfl rfl (in_lt (y := 4) (by decide) c_1 c_2) dX0_register_14 ?_
      refine lv_goto (tgt := 19) hx hb dX0_register_15 (by decide) ?_
      exact W.iret (v := R a.toNatClampNeg) hx hb hr (fun t ht hW => ⟨⟨R a.toNatClampNeg, (S, D, R, K, pc, sc, ph, rd, th, lm, dy, wt), rfl, ⟨Or.inl ⟨c_1, c_2, rfl⟩, rfl⟩, by rw [ht]; exact hP, va_K.moved hW.alike hK, hD⟩, hS.F ht⟩) hS.2.2 dX0_register_19
theorem inw_X0_shown : ∀ w ∈ wsX00, w ∈ wsX0_shown := fun _ h => List.mem_cons_of_mem _ (List.mem_append_right _ h)
set_option maxHeartbeats 4000000 in
set_option maxRecDepth 100000 in
theorem c_X0_shown (l : Launch) (dC : Nat → ClassId) (dI : Nat → Nat → Nat) (h0 q1 q2 q3 q4 : Nat) (cA : ClassId) (S D R K : Nat → Int32) (pc sc ph rd th lm dy wt : Int32) (a : Int32) (sz : Nat) : Met l yX0_shown wsX0_shown ({ frames := 0, cells := 0, slots := 0, locals := 0 }) (va_Pc [.ref h0, .int a] (fun U => U.heap.size = sz ∧ va_P (dC, dI) vwCl (mg_W h0 q1 q2 q3 q4 cA (S, D, R, K, pc, sc, ph, rd, th, lm, dy, wt)) U.heap ∧ va_K (dC, dI) vwCl [(cA, .int)] U ∧ va_D (fun _ => True) (mg_W h0 q1 q2 q3 q4 cA (S, D, R, K, pc, sc, ph, rd, th, lm, dy, wt)))) (va_Qi (fun (r : Int32) (u : mgS) => ((¬ a < 0 ∧ ¬ 8 ≤ a ∧ ¬ sc ≤ a ∧ r = K (((sc - 1) - a) &&& 7).toNatClampNeg) ∨ (r = 0 ∧ (a < 0 ∨ 8 ≤ a ∨ sc ≤ a))) ∧ u = (S, D, R, K, pc, sc, ph, rd, th, lm, dy, wt)) (at_mg dC dI h0 q1 q2 q3 q4 cA (va_A (mg_W h0 q1 q2 q3 q4 cA (S, D, R, K, pc, sc, ph, rd, th, lm, dy, wt)) sz)) (va_A (mg_W h0 q1 q2 q3 q4 cA (S, D, R, K, pc, sc, ph, rd, th, lm, dy, wt)) sz)) 0 0 (va_A (mg_W h0 q1 q2 q3 q4 cA (S, D, R, K, pc, sc, ph, rd, th, lm, dy, wt)) sz) := by
  refine Met.ofW (cc := cX0_shown) (maxL := 2) (ret := (some .int)) (by decide) rfl ?_
  intro p e s m args below meth c s₁ B hml hv
  obtain ⟨rfl, hsz, hP, hK, hD0⟩ := hv
  have hx := B.exec
  have hb := B.bytes
  have hr := B.returns
  have hts := atoms_spec (ws := wsX0_shown) B.pre
  have hown : s.vm.findClass RX0 = some m.cls := findClass_of_methodNamed B.named
  have hlocks := B.notSynchronized
  subst hsz
  have hD := hD0.self (sz := s.heap.size)
  generalize hAe : va_A (mg_W h0 q1 q2 q3 q4 cA (S, D, R, K, pc, sc, ph, rd, th, lm, dy, wt)) s.heap.size = A at hD ⊢
  have hA : ∀ q : Nat, s.heap.size ≤ q → A q := fun q h => by rw [← hAe]; exact Or.inr h
  have hS : va_S A s.heap s.heap [] := va_S.rf
  have hP : va_P (dC, dI) vwCl [(h0, .inr (0, [.ref q1, .ref q2, .ref q3, .ref q4, .int pc, .int sc, .int ph, .int rd, .int th, .int lm, .int dy, .int wt])), (q1, .inl (cA, 64, .inl S)), (q2, .inl (cA, 64, .inl D)), (q3, .inl (cA, 4, .inl R)), (q4, .inl (cA, 8, .inl K))] s.heap := hP
  have hD : va_D A [(h0, .inr (0, [.ref q1, .ref q2, .ref q3, .ref q4, .int pc, .int sc, .int ph, .int rd, .int th, .int lm, .int dy, .int wt])), (q1, .inl (cA, 64, .inl S)), (q2, .inl (cA, 64, .inl D)), (q3, .inl (cA, 4, .inl R)), (q4, .inl (cA, 8, .inl K))] := hD
  have hl := lv_entry ([.ref h0, .int a]) (n := 2) (Nat.le_of_ble_eq_true rfl)
  rw [lg_entry_eq]
  generalize (lg_sl ([.ref h0, .int a]) ++ List.replicate (2 - (lg_sl ([.ref h0, .int a])).length) Slot.unset).toArray = ls at hl ⊢
  have hl : lv_has ls 2 [(0, .ref h0), (1, .int a)] := hl
  refine lv_iload_n hx hb dX0_shown_0 rfl (lv_at hl 1 rfl) ?_
  refine lv_if_lt (tgt := 18) hx hb dX0_shown_1 (by decide) (fun c_1 => ?_) (fun c_1 => ?_)
  · refine lv_iconst (v := 0) hx hb dX0_shown_18 (by decide) ?_
    exact W.iret (v := 0) hx hb hr (fun t ht hW => ⟨⟨0, (S, D, R, K, pc, sc, ph, rd, th, lm, dy, wt), rfl, ⟨Or.inr ⟨rfl, Or.inl c_1⟩, rfl⟩, by rw [ht]; exact hP, va_K.moved hW.alike hK, hD⟩, hS.F ht⟩) hS.2.2 dX0_shown_19
  · refine lv_iload_n hx hb dX0_shown_4 rfl (lv_at hl 1 rfl) ?_
    refine lv_bipush (v := 8) hx hb dX0_shown_5 (by decide) ?_
    refine lv_icmp_ge (tgt := 18) hx hb dX0_shown_7 (by decide) (fun c_2 => ?_) (fun c_2 => ?_)
    · refine lv_iconst (v := 0) hx hb dX0_shown_18 (by decide) ?_
      exact W.iret (v := 0) hx hb hr (fun t ht hW => ⟨⟨0, (S, D, R, K, pc, sc, ph, rd, th, lm, dy, wt), rfl, ⟨Or.inr ⟨rfl, Or.inr (Or.inl c_2)⟩, rfl⟩, by rw [ht]; exact hP, va_K.moved hW.alike hK, hD⟩, hS.F ht⟩) hS.2.2 dX0_shown_19
    · refine lv_iload_n hx hb dX0_shown_10 rfl (lv_at hl 1 rfl) ?_
      refine lv_aload_n hx hb dX0_shown_11 rfl (lv_at hl 0 rfl) ?_
      refine va_get (D := (dC, dI)) (ci := 0) (v := .int sc) (C := RX0) (T := TX0) (N := 12) hx hb hts inw_X0_shown hown hK hP 0 rfl rfl 5 (by decide) (hts (.fieldLink RX0 26 "Migrator" "showCount" "I") (by decide +kernel)) (fun _ h9 => h9) rfl dX0_shown_12 ?_
      refine lv_icmp_lt (tgt := 20) hx hb dX0_shown_15 (by decide) (fun c_3 => ?_) (fun c_3 => ?_)
      · refine lv_aload_n hx hb dX0_shown_20 rfl (lv_at hl 0 rfl) ?_
        refine va_get (D := (dC, dI)) (ci := 0) (v := .ref q4) (C := RX0) (T := TX0) (N := 12) hx hb hts inw_X0_shown hown hK hP 0 rfl rfl 3 (by decide) (hts (.fieldLink RX0 19 "Migrator" "keptShows" "[I") (by decide +kernel)) (fun _ h9 => h9) rfl dX0_shown_21 ?_
        refine lv_aload_n hx hb dX0_shown_24 rfl (lv_at hl 0 rfl) ?_
        refine va_get (D := (dC, dI)) (ci := 0) (v := .int sc) (C := RX0) (T := TX0) (N := 12) hx hb hts inw_X0_shown hown hK hP 0 rfl rfl 5 (by decide) (hts (.fieldLink RX0 26 "Migrator" "showCount" "I") (by decide +kernel)) (fun _ h9 => h9) rfl dX0_shown_25 ?_
        refine lv_iconst (v := 1) hx hb dX0_shown_28 (by decide) ?_
        refine lv_isub hx hb dX0_shown_29 ?_
        refine lv_iload_n hx hb dX0_shown_30 rfl (lv_at hl 1 rfl) ?_
        refine lv_isub hx hb dX0_shown_31 ?_
        refine lv_bipush (v := 7) hx hb dX0_shown_32 (by decide) ?_
        refine lv_iand hx hb dX0_shown_34 ?_
        refine va_iald hx hb hK hP 4 0 rfl rfl (in_7 _) dX0_shown_35 ?_
        exact W.iret (v := K (((sc - 1) - a) &&& 7).toNatClampNeg) hx hb hr (fun t ht hW => ⟨⟨K (((sc - 1) - a) &&& 7).toNatClampNeg, (S, D, R, K, pc, sc, ph, rd, th, lm, dy, wt), rfl, ⟨Or.inl ⟨c_1, c_2, (Int32.not_le.mpr c_3), rfl⟩, rfl⟩, by rw [ht]; exact hP, va_K.moved hW.alike hK, hD⟩, hS.F ht⟩) hS.2.2 dX0_shown_36
      · refine lv_iconst (v := 0) hx hb dX0_shown_18 (by decide) ?_
        exact W.iret (v := 0) hx hb hr (fun t ht hW => ⟨⟨0, (S, D, R, K, pc, sc, ph, rd, th, lm, dy, wt), rfl, ⟨Or.inr ⟨rfl, Or.inr (Or.inr (Int32.not_lt.mp c_3))⟩, rfl⟩, by rw [ht]; exact hP, va_K.moved hW.alike hK, hD⟩, hS.F ht⟩) hS.2.2 dX0_shown_19
end
section
/-! What the class's calls do to its state. -/
def mg_rn (ph n : Int32) : Prop := ¬ ph = 2 ∧ ¬ n < 0 ∧ n ≤ 1000
def mg_bg (ph t l : Int32) : Prop := ph = 0 ∧ ¬ t < 0 ∧ ¬ 8 < t ∧ ¬ l < 1 ∧ l ≤ 20
def mg_fwP (S D R K : Nat → Int32) (pc sc ph rd th lm dy wt : Int32) (r : Int32) (u : mgS) : Prop :=
  (∃ p : Nat, p < 8 ∧ mg_bt wt (nI p) ∧ (∀ k, k < p → ¬ mg_bt wt (nI k)) ∧ r = nI p ∧ u = (S, mg_cp S (nI p <<< ((3 : Int32) &&& 31)) 8 D, R, K, pc, sc, ph, rd, th, lm, dy, wt &&& ((1 <<< (nI p &&& 31)) ^^^ (-1)))) ∨
  ((∀ k, k < 8 → ¬ mg_bt wt (nI k)) ∧ r = -1 ∧ u = (S, D, R, K, pc, sc, ph, rd, th, lm, dy, wt))
def mg_erP (S D R K : Nat → Int32) (pc sc ph rd th lm dy : Int32) (r : Int32) (u : mgS) : Prop :=
  (r = 33 ∧ (mg_bc dy ≤ th ∨ rd = lm) ∧ u = (S, D, R, K, pc, sc, 2, rd, th, lm, dy, dy)) ∨
  (r = 32 ∧ ¬ mg_bc dy ≤ th ∧ ¬ rd = lm ∧ u = (S, D, R, K, pc, sc, ph, rd + 1, th, lm, 0, dy))
def mg_cyP (S D R K : Nat → Int32) (pc sc ph rd th lm dy wt : Int32) (r : Int32) (u : mgS) : Prop :=
  (¬ ph = 1 ∧ ¬ ph = 2 ∧ r = -1 ∧ u = (S, D, R, K, pc, sc, ph, rd, th, lm, dy, wt)) ∨
  ((ph = 1 ∨ ph = 2) ∧ ¬ wt = 0 ∧ mg_fwP S D R K pc sc ph rd th lm dy wt r u) ∨
  (ph = 1 ∧ wt = 0 ∧ mg_erP S D R K pc sc ph rd th lm dy r u) ∨
  (ph = 2 ∧ wt = 0 ∧ r = 34 ∧ u = (S, D, R, K, pc, sc, 3, rd, th, lm, dy, wt))
theorem mg_ww_3 {S D : Nat → Int32} {ph dy x v : Int32} (h : ph = 3) : mg_ww S D ph dy x v = (S, upd D (x &&& 63).toNatClampNeg v, dy) := by unfold mg_ww; rw [if_pos h]
theorem mg_ww_1 {S D : Nat → Int32} {ph dy x v : Int32} (h3 : ¬ ph = 3) (h : ph = 1) : mg_ww S D ph dy x v = (upd S (x &&& 63).toNatClampNeg v, D, dy ||| (1 <<< (((x &&& 63) >>> ((3 : Int32) &&& 31)) &&& 31))) := by unfold mg_ww; rw [if_neg h3, if_pos h]
theorem mg_ww_0 {S D : Nat → Int32} {ph dy x v : Int32} (h3 : ¬ ph = 3) (h : ¬ ph = 1) : mg_ww S D ph dy x v = (upd S (x &&& 63).toNatClampNeg v, D, dy) := by unfold mg_ww; rw [if_neg h3, if_neg h]
end
section
theorem inw_X0_poke : ∀ w ∈ wsX00, w ∈ wsX0_poke := fun _ h => List.mem_cons_of_mem _ (List.mem_append_right _ h)
set_option maxHeartbeats 4000000 in
set_option maxRecDepth 100000 in
theorem c_X0_poke (l : Launch) (dC : Nat → ClassId) (dI : Nat → Nat → Nat) (h0 q1 q2 q3 q4 : Nat) (cA : ClassId) (S D R K : Nat → Int32) (pc sc ph rd th lm dy wt : Int32) (a v : Int32) (sz : Nat) : Met l yX0_poke wsX0_poke ({ frames := 1, cells := 0, slots := 0, locals := 20 }) (va_Pc [.ref h0, .int a, .int v] (fun U => U.heap.size = sz ∧ va_P (dC, dI) vwCl (mg_W h0 q1 q2 q3 q4 cA (S, D, R, K, pc, sc, ph, rd, th, lm, dy, wt)) U.heap ∧ va_K (dC, dI) vwCl [(cA, .int)] U ∧ va_D (fun _ => True) (mg_W h0 q1 q2 q3 q4 cA (S, D, R, K, pc, sc, ph, rd, th, lm, dy, wt)))) (va_Qi (fun (r : Int32) (u : mgS) => (r = 1 ∧ (ph = 0 ∧ mg_ia a) ∧ u = (upd S a.toNatClampNeg v, D, R, K, pc, sc, ph, rd, th, lm, dy, wt)) ∨ (r = 0 ∧ ¬ (ph = 0 ∧ mg_ia a) ∧ u = (S, D, R, K, pc, sc, ph, rd, th, lm, dy, wt))) (at_mg dC dI h0 q1 q2 q3 q4 cA (va_A (mg_W h0 q1 q2 q3 q4 cA (S, D, R, K, pc, sc, ph, rd, th, lm, dy, wt)) sz)) (va_A (mg_W h0 q1 q2 q3 q4 cA (S, D, R, K, pc, sc, ph, rd, th, lm, dy, wt)) sz)) 0 0 (va_A (mg_W h0 q1 q2 q3 q4 cA (S, D, R, K, pc, sc, ph, rd, th, lm, dy, wt)) sz) := by
  refine Met.ofW (cc := cX0_poke) (maxL := 3) (ret := (some .boolean)) (by decide) rfl ?_
  intro p e s m args below meth c s₁ B hml hv
  obtain ⟨rfl, hsz, hP, hK, hD0⟩ := hv
  have hx := B.exec
  have hb := B.bytes
  have hr := B.returns
  have hts := atoms_spec (ws := wsX0_poke) B.pre
  have hown : s.vm.findClass RX0 = some m.cls := findClass_of_methodNamed B.named
  have hlocks := B.notSynchronized
  subst hsz
  have hD := hD0.self (sz := s.heap.size)
  generalize hAe : va_A (mg_W h0 q1 q2 q3 q4 cA (S, D, R, K, pc, sc, ph, rd, th, lm, dy, wt)) s.heap.size = A at hD ⊢
  have hA : ∀ q : Nat, s.heap.size ≤ q → A q := fun q h => by rw [← hAe]; exact Or.inr h
  have hS : va_S A s.heap s.heap [] := va_S.rf
  have hP : va_P (dC, dI) vwCl [(h0, .inr (0, [.ref q1, .ref q2, .ref q3, .ref q4, .int pc, .int sc, .int ph, .int rd, .int th, .int lm, .int dy, .int wt])), (q1, .inl (cA, 64, .inl S)), (q2, .inl (cA, 64, .inl D)), (q3, .inl (cA, 4, .inl R)), (q4, .inl (cA, 8, .inl K))] s.heap := hP
  have hD : va_D A [(h0, .inr (0, [.ref q1, .ref q2, .ref q3, .ref q4, .int pc, .int sc, .int ph, .int rd, .int th, .int lm, .int dy, .int wt])), (q1, .inl (cA, 64, .inl S)), (q2, .inl (cA, 64, .inl D)), (q3, .inl (cA, 4, .inl R)), (q4, .inl (cA, 8, .inl K))] := hD
  have hl := lv_entry ([.ref h0, .int a, .int v]) (n := 3) (Nat.le_of_ble_eq_true rfl)
  rw [lg_entry_eq]
  generalize (lg_sl ([.ref h0, .int a, .int v]) ++ List.replicate (3 - (lg_sl ([.ref h0, .int a, .int v])).length) Slot.unset).toArray = ls at hl ⊢
  have hl : lv_has ls 3 [(0, .ref h0), (1, .int a), (2, .int v)] := hl
  refine lv_aload_n hx hb dX0_poke_0 rfl (lv_at hl 0 rfl) ?_
  refine va_get (D := (dC, dI)) (ci := 0) (v := .int ph) (C := RX0) (T := TX0) (N := 12) hx hb hts inw_X0_poke hown hK hP 0 rfl rfl 6 (by decide) (hts (.fieldLink RX0 29 "Migrator" "phaseNow" "I") (by decide +kernel)) (fun _ h9 => h9) rfl dX0_poke_1 ?_
  refine lv_if_ne (tgt := 14) hx hb dX0_poke_4 (by decide) (fun c_1 => ?_) (fun c_1 => ?_)
  · refine lv_iconst (v := 0) hx hb dX0_poke_14 (by decide) ?_
    exact W.zret (v := 0) (ty := .boolean) hx hb hr rfl (fun t ht hW => ⟨⟨0, (S, D, R, K, pc, sc, ph, rd, th, lm, dy, wt), rfl, Or.inr ⟨rfl, fun h => c_1 h.1, rfl⟩, by rw [ht]; exact hP, va_K.moved hW.alike hK, hD⟩, hS.F ht⟩) hS.2.2 dX0_poke_15
  · refine lv_iload_n hx hb dX0_poke_7 rfl (lv_at hl 1 rfl) ?_
    have hPc := hP.sub (ws' := []) [] rfl
    have hDc := hD.sub (ws' := []) [] (by decide) rfl
    have hKc := hK.sub (tys' := []) [] rfl
    have hFc := va_free (wc := []) hD hS hA [] rfl
    refine va_calli (va_runS (As := [.int a]) (rest := []) ⟨hx, hb, hml, hown, hts⟩ (c_X0_isAddress l dC dI a s.heap.size) (va_cwS 1 hts gX0_poke_X0_isAddress rfl rfl rfl (by decide +kernel) ⟨Nat.le_of_ble_eq_true rfl, Nat.le_of_ble_eq_true rfl⟩) ⟨fun a U g mk q => by obtain ⟨q0, q1, qP, qK, qD⟩ := q; exact ⟨q0, q1, qP, va_K.moved (u := U) (U := U.calling g mk a) (Vm.Alike.refl U.vm) qK, qD⟩, fun U hU hW => ⟨rfl, by rw [hU], by rw [hU]; exact hPc, va_K.moved hW.alike hKc, hDc.weaken (fun _ _ _ _ => trivial)⟩⟩ rfl rfl hl.1 rfl (lv_room (Nat.le_of_ble_eq_true rfl)) dX0_poke_8 ⟨(Nat.zero_le _), (Nat.zero_le _)⟩) hS (fun q _ h => hFc q h) hFc (fun r_2 u_3 t H1 locs ht hvm w_4 hB hz1 hk1 hS => ?_)
    obtain ⟨hP1, hK1, hD1⟩ := hB
    rw [ht] at hP1
    obtain ⟨hP, hD⟩ := va_join (wr := [(h0, .inr (0, [.ref q1, .ref q2, .ref q3, .ref q4, .int pc, .int sc, .int ph, .int rd, .int th, .int lm, .int dy, .int wt])), (q1, .inl (cA, 64, .inl S)), (q2, .inl (cA, 64, .inl D)), (q3, .inl (cA, 4, .inl R)), (q4, .inl (cA, 8, .inl K))]) (w1 := []) hP hD [] [0, 1, 2, 3, 4] rfl rfl (by decide) (by decide) hk1 hFc hP1 hD1
    clear hPc hDc hFc hP1 hD1 hk1 hK1
    generalize H1 = H at hP hS ⊢
    have hP : va_P (dC, dI) vwCl [(h0, .inr (0, [.ref q1, .ref q2, .ref q3, .ref q4, .int pc, .int sc, .int ph, .int rd, .int th, .int lm, .int dy, .int wt])), (q1, .inl (cA, 64, .inl S)), (q2, .inl (cA, 64, .inl D)), (q3, .inl (cA, 4, .inl R)), (q4, .inl (cA, 8, .inl K))] H := hP
    have hD : va_D A [(h0, .inr (0, [.ref q1, .ref q2, .ref q3, .ref q4, .int pc, .int sc, .int ph, .int rd, .int th, .int lm, .int dy, .int wt])), (q1, .inl (cA, 64, .inl S)), (q2, .inl (cA, 64, .inl D)), (q3, .inl (cA, 4, .inl R)), (q4, .inl (cA, 8, .inl K))] := hD
    rcases w_4 with ⟨rfl, a_5⟩ | ⟨rfl, a_5⟩
    · refine lv_if_ne (tgt := 16) hx hb dX0_poke_11 (by decide) (fun c_6 => ?_) (fun c_6 => ?_)
      · refine lv_aload_n hx hb dX0_poke_16 rfl (lv_at hl 0 rfl) ?_
        refine va_get (D := (dC, dI)) (ci := 0) (v := .ref q1) (C := RX0) (T := TX0) (N := 12) hx hb hts inw_X0_poke hown hK hP 0 rfl rfl 0 (by decide) (hts (.fieldLink RX0 9 "Migrator" "sourceWords" "[I") (by decide +kernel)) (fun _ h9 => h9) rfl dX0_poke_17 ?_
        refine lv_iload_n hx hb dX0_poke_20 rfl (lv_at hl 1 rfl) ?_
        refine lv_iload_n hx hb dX0_poke_21 rfl (lv_at hl 2 rfl) ?_
        refine va_iast hx hb hK hP hD hS 1 0 rfl rfl (in_lt (y := 64) (by decide) a_5.1 a_5.2) dX0_poke_22 (fun H locs hP hD hS => ?_)
        have hP : va_P (dC, dI) vwCl [(h0, .inr (0, [.ref q1, .ref q2, .ref q3, .ref q4, .int pc, .int sc, .int ph, .int rd, .int th, .int lm, .int dy, .int wt])), (q1, .inl (cA, 64, .inl (upd S a.toNatClampNeg v))), (q2, .inl (cA, 64, .inl D)), (q3, .inl (cA, 4, .inl R)), (q4, .inl (cA, 8, .inl K))] H := hP
        have hD : va_D A [(h0, .inr (0, [.ref q1, .ref q2, .ref q3, .ref q4, .int pc, .int sc, .int ph, .int rd, .int th, .int lm, .int dy, .int wt])), (q1, .inl (cA, 64, .inl (upd S a.toNatClampNeg v))), (q2, .inl (cA, 64, .inl D)), (q3, .inl (cA, 4, .inl R)), (q4, .inl (cA, 8, .inl K))] := hD
        refine lv_iconst (v := 1) hx hb dX0_poke_23 (by decide) ?_
        exact W.zret (v := 1) (ty := .boolean) hx hb hr rfl (fun t ht hW => ⟨⟨1, (upd S a.toNatClampNeg v, D, R, K, pc, sc, ph, rd, th, lm, dy, wt), rfl, Or.inl ⟨rfl, ⟨c_1, a_5⟩, rfl⟩, by rw [ht]; exact hP, va_K.moved hW.alike hK, hD⟩, hS.F ht⟩) hS.2.2 dX0_poke_24
      · exact absurd c_6 (by decide)
    · refine lv_if_ne (tgt := 16) hx hb dX0_poke_11 (by decide) (fun c_7 => ?_) (fun c_7 => ?_)
      · exact absurd c_7 (by decide)
      · refine lv_iconst (v := 0) hx hb dX0_poke_14 (by decide) ?_
        exact W.zret (v := 0) (ty := .boolean) hx hb hr rfl (fun t ht hW => ⟨⟨0, (S, D, R, K, pc, sc, ph, rd, th, lm, dy, wt), rfl, Or.inr ⟨rfl, fun h => a_5 h.2, rfl⟩, by rw [ht]; exact hP, va_K.moved hW.alike hK, hD⟩, hS.F ht⟩) hS.2.2 dX0_poke_15
theorem inw_X0_begin : ∀ w ∈ wsX00, w ∈ wsX0_begin := fun _ h => List.mem_cons_of_mem _ (List.mem_append_right _ h)
set_option maxHeartbeats 4000000 in
set_option maxRecDepth 100000 in
theorem c_X0_begin (l : Launch) (dC : Nat → ClassId) (dI : Nat → Nat → Nat) (h0 q1 q2 q3 q4 : Nat) (cA : ClassId) (S D R K : Nat → Int32) (pc sc ph rd th lm dy wt : Int32) (a b : Int32) (sz : Nat) : Met l yX0_begin wsX0_begin ({ frames := 0, cells := 0, slots := 0, locals := 0 }) (va_Pc [.ref h0, .int a, .int b] (fun U => U.heap.size = sz ∧ va_P (dC, dI) vwCl (mg_W h0 q1 q2 q3 q4 cA (S, D, R, K, pc, sc, ph, rd, th, lm, dy, wt)) U.heap ∧ va_K (dC, dI) vwCl [(cA, .int)] U ∧ va_D (fun _ => True) (mg_W h0 q1 q2 q3 q4 cA (S, D, R, K, pc, sc, ph, rd, th, lm, dy, wt)))) (va_Qi (fun (r : Int32) (u : mgS) => (r = 1 ∧ mg_bg ph a b ∧ u = (S, D, R, K, pc, sc, 1, 1, a, b, 0, 255)) ∨ (r = 0 ∧ ¬ mg_bg ph a b ∧ u = (S, D, R, K, pc, sc, ph, rd, th, lm, dy, wt))) (at_mg dC dI h0 q1 q2 q3 q4 cA (va_A (mg_W h0 q1 q2 q3 q4 cA (S, D, R, K, pc, sc, ph, rd, th, lm, dy, wt)) sz)) (va_A (mg_W h0 q1 q2 q3 q4 cA (S, D, R, K, pc, sc, ph, rd, th, lm, dy, wt)) sz)) 0 0 (va_A (mg_W h0 q1 q2 q3 q4 cA (S, D, R, K, pc, sc, ph, rd, th, lm, dy, wt)) sz) := by
  refine Met.ofW (cc := cX0_begin) (maxL := 3) (ret := (some .boolean)) (by decide) rfl ?_
  intro p e s m args below meth c s₁ B hml hv
  obtain ⟨rfl, hsz, hP, hK, hD0⟩ := hv
  have hx := B.exec
  have hb := B.bytes
  have hr := B.returns
  have hts := atoms_spec (ws := wsX0_begin) B.pre
  have hown : s.vm.findClass RX0 = some m.cls := findClass_of_methodNamed B.named
  have hlocks := B.notSynchronized
  subst hsz
  have hD := hD0.self (sz := s.heap.size)
  generalize hAe : va_A (mg_W h0 q1 q2 q3 q4 cA (S, D, R, K, pc, sc, ph, rd, th, lm, dy, wt)) s.heap.size = A at hD ⊢
  have hA : ∀ q : Nat, s.heap.size ≤ q → A q := fun q h => by rw [← hAe]; exact Or.inr h
  have hS : va_S A s.heap s.heap [] := va_S.rf
  have hP : va_P (dC, dI) vwCl [(h0, .inr (0, [.ref q1, .ref q2, .ref q3, .ref q4, .int pc, .int sc, .int ph, .int rd, .int th, .int lm, .int dy, .int wt])), (q1, .inl (cA, 64, .inl S)), (q2, .inl (cA, 64, .inl D)), (q3, .inl (cA, 4, .inl R)), (q4, .inl (cA, 8, .inl K))] s.heap := hP
  have hD : va_D A [(h0, .inr (0, [.ref q1, .ref q2, .ref q3, .ref q4, .int pc, .int sc, .int ph, .int rd, .int th, .int lm, .int dy, .int wt])), (q1, .inl (cA, 64, .inl S)), (q2, .inl (cA, 64, .inl D)), (q3, .inl (cA, 4, .inl R)), (q4, .inl (cA, 8, .inl K))] := hD
  have hl := lv_entry ([.ref h0, .int a, .int b]) (n := 3) (Nat.le_of_ble_eq_true rfl)
  rw [lg_entry_eq]
  generalize (lg_sl ([.ref h0, .int a, .int b]) ++ List.replicate (3 - (lg_sl ([.ref h0, .int a, .int b])).length) Slot.unset).toArray = ls at hl ⊢
  have hl : lv_has ls 3 [(0, .ref h0), (1, .int a), (2, .int b)] := hl
  refine lv_aload_n hx hb dX0_begin_0 rfl (lv_at hl 0 rfl) ?_
  refine va_get (D := (dC, dI)) (ci := 0) (v := .int ph) (C := RX0) (T := TX0) (N := 12) hx hb hts inw_X0_begin hown hK hP 0 rfl rfl 6 (by decide) (hts (.fieldLink RX0 29 "Migrator" "phaseNow" "I") (by decide +kernel)) (fun _ h9 => h9) rfl dX0_begin_1 ?_
  refine lv_if_ne (tgt := 28) hx hb dX0_begin_4 (by decide) (fun c_1 => ?_) (fun c_1 => ?_)
  · refine lv_iconst (v := 0) hx hb dX0_begin_28 (by decide) ?_
    exact W.zret (v := 0) (ty := .boolean) hx hb hr rfl (fun t ht hW => ⟨⟨0, (S, D, R, K, pc, sc, ph, rd, th, lm, dy, wt), rfl, Or.inr ⟨rfl, fun h => c_1 h.1, rfl⟩, by rw [ht]; exact hP, va_K.moved hW.alike hK, hD⟩, hS.F ht⟩) hS.2.2 dX0_begin_29
  · refine lv_iload_n hx hb dX0_begin_7 rfl (lv_at hl 1 rfl) ?_
    refine lv_if_lt (tgt := 28) hx hb dX0_begin_8 (by decide) (fun c_2 => ?_) (fun c_2 => ?_)
    · refine lv_iconst (v := 0) hx hb dX0_begin_28 (by decide) ?_
      exact W.zret (v := 0) (ty := .boolean) hx hb hr rfl (fun t ht hW => ⟨⟨0, (S, D, R, K, pc, sc, ph, rd, th, lm, dy, wt), rfl, Or.inr ⟨rfl, fun h => h.2.1 c_2, rfl⟩, by rw [ht]; exact hP, va_K.moved hW.alike hK, hD⟩, hS.F ht⟩) hS.2.2 dX0_begin_29
    · refine lv_iload_n hx hb dX0_begin_11 rfl (lv_at hl 1 rfl) ?_
      refine lv_bipush (v := 8) hx hb dX0_begin_12 (by decide) ?_
      refine lv_icmp_gt (tgt := 28) hx hb dX0_begin_14 (by decide) (fun c_3 => ?_) (fun c_3 => ?_)
      · refine lv_iconst (v := 0) hx hb dX0_begin_28 (by decide) ?_
        exact W.zret (v := 0) (ty := .boolean) hx hb hr rfl (fun t ht hW => ⟨⟨0, (S, D, R, K, pc, sc, ph, rd, th, lm, dy, wt), rfl, Or.inr ⟨rfl, fun h => h.2.2.1 c_3, rfl⟩, by rw [ht]; exact hP, va_K.moved hW.alike hK, hD⟩, hS.F ht⟩) hS.2.2 dX0_begin_29
      · refine lv_iload_n hx hb dX0_begin_17 rfl (lv_at hl 2 rfl) ?_
        refine lv_iconst (v := 1) hx hb dX0_begin_18 (by decide) ?_
        refine lv_icmp_lt (tgt := 28) hx hb dX0_begin_19 (by decide) (fun c_4 => ?_) (fun c_4 => ?_)
        · refine lv_iconst (v := 0) hx hb dX0_begin_28 (by decide) ?_
          exact W.zret (v := 0) (ty := .boolean) hx hb hr rfl (fun t ht hW => ⟨⟨0, (S, D, R, K, pc, sc, ph, rd, th, lm, dy, wt), rfl, Or.inr ⟨rfl, fun h => h.2.2.2.1 c_4, rfl⟩, by rw [ht]; exact hP, va_K.moved hW.alike hK, hD⟩, hS.F ht⟩) hS.2.2 dX0_begin_29
        · refine lv_iload_n hx hb dX0_begin_22 rfl (lv_at hl 2 rfl) ?_
          refine lv_bipush (v := 20) hx hb dX0_begin_23 (by decide) ?_
          refine lv_icmp_le (tgt := 30) hx hb dX0_begin_25 (by decide) (fun c_5 => ?_) (fun c_5 => ?_)
          · refine lv_aload_n hx hb dX0_begin_30 rfl (lv_at hl 0 rfl) ?_
            refine lv_iload_n hx hb dX0_begin_31 rfl (lv_at hl 1 rfl) ?_
            refine va_put (D := (dC, dI)) (ci := 0) (v := .int a) (ty := .int) (C := RX0) (T := TX0) (N := 12) hx hb hts inw_X0_begin tyX0 tyX0_ok nmX0 hown hK hP hD hS 0 rfl rfl 8 (by decide) (hts (.fieldLink RX0 35 "Migrator" "dirtyThreshold" "I") (by decide +kernel)) (fun _ h9 => h9) rfl (by decide +kernel) rfl rfl (Nat.le_of_ble_eq_true rfl) dX0_begin_32 (fun H locs hP hD hS => ?_)
            have hP : va_P (dC, dI) vwCl [(h0, .inr (0, [.ref q1, .ref q2, .ref q3, .ref q4, .int pc, .int sc, .int ph, .int rd, .int a, .int lm, .int dy, .int wt])), (q1, .inl (cA, 64, .inl S)), (q2, .inl (cA, 64, .inl D)), (q3, .inl (cA, 4, .inl R)), (q4, .inl (cA, 8, .inl K))] H := hP
            have hD : va_D A [(h0, .inr (0, [.ref q1, .ref q2, .ref q3, .ref q4, .int pc, .int sc, .int ph, .int rd, .int a, .int lm, .int dy, .int wt])), (q1, .inl (cA, 64, .inl S)), (q2, .inl (cA, 64, .inl D)), (q3, .inl (cA, 4, .inl R)), (q4, .inl (cA, 8, .inl K))] := hD
            refine lv_aload_n hx hb dX0_begin_35 rfl (lv_at hl 0 rfl) ?_
            refine lv_iload_n hx hb dX0_begin_36 rfl (lv_at hl 2 rfl) ?_
            refine va_put (D := (dC, dI)) (ci := 0) (v := .int b) (ty := .int) (C := RX0) (T := TX0) (N := 12) hx hb hts inw_X0_begin tyX0 tyX0_ok nmX0 hown hK hP hD hS 0 rfl rfl 9 (by decide) (hts (.fieldLink RX0 38 "Migrator" "roundLimit" "I") (by decide +kernel)) (fun _ h9 => h9) rfl (by decide +kernel) rfl rfl (Nat.le_of_ble_eq_true rfl) dX0_begin_37 (fun H locs hP hD hS => ?_)
            have hP : va_P (dC, dI) vwCl [(h0, .inr (0, [.ref q1, .ref q2, .ref q3, .ref q4, .int pc, .int sc, .int ph, .int rd, .int a, .int b, .int dy, .int wt])), (q1, .inl (cA, 64, .inl S)), (q2, .inl (cA, 64, .inl D)), (q3, .inl (cA, 4, .inl R)), (q4, .inl (cA, 8, .inl K))] H := hP
            have hD : va_D A [(h0, .inr (0, [.ref q1, .ref q2, .ref q3, .ref q4, .int pc, .int sc, .int ph, .int rd, .int a, .int b, .int dy, .int wt])), (q1, .inl (cA, 64, .inl S)), (q2, .inl (cA, 64, .inl D)), (q3, .inl (cA, 4, .inl R)), (q4, .inl (cA, 8, .inl K))] := hD
            refine lv_aload_n hx hb dX0_begin_40 rfl (lv_at hl 0 rfl) ?_
            refine lv_iconst (v := 1) hx hb dX0_begin_41 (by decide) ?_
            refine va_put (D := (dC, dI)) (ci := 0) (v := .int 1) (ty := .int) (C := RX0) (T := TX0) (N := 12) hx hb hts inw_X0_begin tyX0 tyX0_ok nmX0 hown hK hP hD hS 0 rfl rfl 6 (by decide) (hts (.fieldLink RX0 29 "Migrator" "phaseNow" "I") (by decide +kernel)) (fun _ h9 => h9) rfl (by decide +kernel) rfl rfl (Nat.le_of_ble_eq_true rfl) dX0_begin_42 (fun H locs hP hD hS => ?_)
            have hP : va_P (dC, dI) vwCl [(h0, .inr (0, [.ref q1, .ref q2, .ref q3, .ref q4, .int pc, .int sc, .int 1, .int rd, .int a, .int b, .int dy, .int wt])), (q1, .inl (cA, 64, .inl S)), (q2, .inl (cA, 64, .inl D)), (q3, .inl (cA, 4, .inl R)), (q4, .inl (cA, 8, .inl K))] H := hP
            have hD : va_D A [(h0, .inr (0, [.ref q1, .ref q2, .ref q3, .ref q4, .int pc, .int sc, .int 1, .int rd, .int a, .int b, .int dy, .int wt])), (q1, .inl (cA, 64, .inl S)), (q2, .inl (cA, 64, .inl D)), (q3, .inl (cA, 4, .inl R)), (q4, .inl (cA, 8, .inl K))] := hD
            refine lv_aload_n hx hb dX0_begin_45 rfl (lv_at hl 0 rfl) ?_
            refine lv_iconst (v := 1) hx hb dX0_begin_46 (by decide) ?_
            refine va_put (D := (dC, dI)) (ci := 0) (v := .int 1) (ty := .int) (C := RX0) (T := TX0) (N := 12) hx hb hts inw_X0_begin tyX0 tyX0_ok nmX0 hown hK hP hD hS 0 rfl rfl 7 (by decide) (hts (.fieldLink RX0 32 "Migrator" "roundNow" "I") (by decide +kernel)) (fun _ h9 => h9) rfl (by decide +kernel) rfl rfl (Nat.le_of_ble_eq_true rfl) dX0_begin_47 (fun H locs hP hD hS => ?_)
            have hP : va_P (dC, dI) vwCl [(h0, .inr (0, [.ref q1, .ref q2, .ref q3, .ref q4, .int pc, .int sc, .int 1, .int 1, .int a, .int b, .int dy, .int wt])), (q1, .inl (cA, 64, .inl S)), (q2, .inl (cA, 64, .inl D)), (q3, .inl (cA, 4, .inl R)), (q4, .inl (cA, 8, .inl K))] H := hP
            have hD : va_D A [(h0, .inr (0, [.ref q1, .ref q2, .ref q3, .ref q4, .int pc, .int sc, .int 1, .int 1, .int a, .int b, .int dy, .int wt])), (q1, .inl (cA, 64, .inl S)), (q2, .inl (cA, 64, .inl D)), (q3, .inl (cA, 4, .inl R)), (q4, .inl (cA, 8, .inl K))] := hD
            refine lv_aload_n hx hb dX0_begin_50 rfl (lv_at hl 0 rfl) ?_
            refine lv_sipush (v := 255) hx hb dX0_begin_51 (by decide) ?_
            refine va_put (D := (dC, dI)) (ci := 0) (v := .int 255) (ty := .int) (C := RX0) (T := TX0) (N := 12) hx hb hts inw_X0_begin tyX0 tyX0_ok nmX0 hown hK hP hD hS 0 rfl rfl 11 (by decide) (hts (.fieldLink RX0 44 "Migrator" "waitingPages" "I") (by decide +kernel)) (fun _ h9 => h9) rfl (by decide +kernel) rfl rfl (Nat.le_of_ble_eq_true rfl) dX0_begin_54 (fun H locs hP hD hS => ?_)
            have hP : va_P (dC, dI) vwCl [(h0, .inr (0, [.ref q1, .ref q2, .ref q3, .ref q4, .int pc, .int sc, .int 1, .int 1, .int a, .int b, .int dy, .int 255])), (q1, .inl (cA, 64, .inl S)), (q2, .inl (cA, 64, .inl D)), (q3, .inl (cA, 4, .inl R)), (q4, .inl (cA, 8, .inl K))] H := hP
            have hD : va_D A [(h0, .inr (0, [.ref q1, .ref q2, .ref q3, .ref q4, .int pc, .int sc, .int 1, .int 1, .int a, .int b, .int dy, .int 255])), (q1, .inl (cA, 64, .inl S)), (q2, .inl (cA, 64, .inl D)), (q3, .inl (cA, 4, .inl R)), (q4, .inl (cA, 8, .inl K))] := hD
            refine lv_aload_n hx hb dX0_begin_57 rfl (lv_at hl 0 rfl) ?_
            refine lv_iconst (v := 0) hx hb dX0_begin_58 (by decide) ?_
            refine va_put (D := (dC, dI)) (ci := 0) (v := .int 0) (ty := .int) (C := RX0) (T := TX0) (N := 12) hx hb hts inw_X0_begin tyX0 tyX0_ok nmX0 hown hK hP hD hS 0 rfl rfl 10 (by decide) (hts (.fieldLink RX0 41 "Migrator" "dirtyPages" "I") (by decide +kernel)) (fun _ h9 => h9) rfl (by decide +kernel) rfl rfl (Nat.le_of_ble_eq_true rfl) dX0_begin_59 (fun H locs hP hD hS => ?_)
            have hP : va_P (dC, dI) vwCl [(h0, .inr (0, [.ref q1, .ref q2, .ref q3, .ref q4, .int pc, .int sc, .int 1, .int 1, .int a, .int b, .int 0, .int 255])), (q1, .inl (cA, 64, .inl S)), (q2, .inl (cA, 64, .inl D)), (q3, .inl (cA, 4, .inl R)), (q4, .inl (cA, 8, .inl K))] H := hP
            have hD : va_D A [(h0, .inr (0, [.ref q1, .ref q2, .ref q3, .ref q4, .int pc, .int sc, .int 1, .int 1, .int a, .int b, .int 0, .int 255])), (q1, .inl (cA, 64, .inl S)), (q2, .inl (cA, 64, .inl D)), (q3, .inl (cA, 4, .inl R)), (q4, .inl (cA, 8, .inl K))] := hD
            refine lv_iconst (v := 1) hx hb dX0_begin_62 (by decide) ?_
            exact W.zret (v := 1) (ty := .boolean) hx hb hr rfl (fun t ht hW => ⟨⟨1, (S, D, R, K, pc, sc, 1, 1, a, b, 0, 255), rfl, Or.inl ⟨rfl, ⟨c_1, c_2, c_3, c_4, c_5⟩, rfl⟩, by rw [ht]; exact hP, va_K.moved hW.alike hK, hD⟩, hS.F ht⟩) hS.2.2 dX0_begin_63
          · refine lv_iconst (v := 0) hx hb dX0_begin_28 (by decide) ?_
            exact W.zret (v := 0) (ty := .boolean) hx hb hr rfl (fun t ht hW => ⟨⟨0, (S, D, R, K, pc, sc, ph, rd, th, lm, dy, wt), rfl, Or.inr ⟨rfl, fun h => c_5 h.2.2.2.2, rfl⟩, by rw [ht]; exact hP, va_K.moved hW.alike hK, hD⟩, hS.F ht⟩) hS.2.2 dX0_begin_29
theorem inw_X0_readWord : ∀ w ∈ wsX00, w ∈ wsX0_readWord := fun _ h => List.mem_cons_of_mem _ (List.mem_append_right _ h)
set_option maxHeartbeats 4000000 in
set_option maxRecDepth 100000 in
theorem c_X0_readWord (l : Launch) (dC : Nat → ClassId) (dI : Nat → Nat → Nat) (h0 q1 q2 q3 q4 : Nat) (cA : ClassId) (S D R K : Nat → Int32) (pc sc ph rd th lm dy wt : Int32) (a : Int32) (sz : Nat) : Met l yX0_readWord wsX0_readWord ({ frames := 0, cells := 0, slots := 0, locals := 0 }) (va_Pc [.ref h0, .int a] (fun U => U.heap.size = sz ∧ va_P (dC, dI) vwCl (mg_W h0 q1 q2 q3 q4 cA (S, D, R, K, pc, sc, ph, rd, th, lm, dy, wt)) U.heap ∧ va_K (dC, dI) vwCl [(cA, .int)] U ∧ va_D (fun _ => True) (mg_W h0 q1 q2 q3 q4 cA (S, D, R, K, pc, sc, ph, rd, th, lm, dy, wt)))) (va_Qi (fun (r : Int32) (u : mgS) => r = mg_rw S D ph a ∧ u = (S, D, R, K, pc, sc, ph, rd, th, lm, dy, wt)) (at_mg dC dI h0 q1 q2 q3 q4 cA (va_A (mg_W h0 q1 q2 q3 q4 cA (S, D, R, K, pc, sc, ph, rd, th, lm, dy, wt)) sz)) (va_A (mg_W h0 q1 q2 q3 q4 cA (S, D, R, K, pc, sc, ph, rd, th, lm, dy, wt)) sz)) 0 0 (va_A (mg_W h0 q1 q2 q3 q4 cA (S, D, R, K, pc, sc, ph, rd, th, lm, dy, wt)) sz) := by
  refine Met.ofW (cc := cX0_readWord) (maxL := 3) (ret := (some .int)) (by decide) rfl ?_
  intro p e s m args below meth c s₁ B hml hv
  obtain ⟨rfl, hsz, hP, hK, hD0⟩ := hv
  have hx := B.exec
  have hb := B.bytes
  have hr := B.returns
  have hts := atoms_spec (ws := wsX0_readWord) B.pre
  have hown : s.vm.findClass RX0 = some m.cls := findClass_of_methodNamed B.named
  have hlocks := B.notSynchronized
  subst hsz
  have hD := hD0.self (sz := s.heap.size)
  generalize hAe : va_A (mg_W h0 q1 q2 q3 q4 cA (S, D, R, K, pc, sc, ph, rd, th, lm, dy, wt)) s.heap.size = A at hD ⊢
  have hA : ∀ q : Nat, s.heap.size ≤ q → A q := fun q h => by rw [← hAe]; exact Or.inr h
  have hS : va_S A s.heap s.heap [] := va_S.rf
  have hP : va_P (dC, dI) vwCl [(h0, .inr (0, [.ref q1, .ref q2, .ref q3, .ref q4, .int pc, .int sc, .int ph, .int rd, .int th, .int lm, .int dy, .int wt])), (q1, .inl (cA, 64, .inl S)), (q2, .inl (cA, 64, .inl D)), (q3, .inl (cA, 4, .inl R)), (q4, .inl (cA, 8, .inl K))] s.heap := hP
  have hD : va_D A [(h0, .inr (0, [.ref q1, .ref q2, .ref q3, .ref q4, .int pc, .int sc, .int ph, .int rd, .int th, .int lm, .int dy, .int wt])), (q1, .inl (cA, 64, .inl S)), (q2, .inl (cA, 64, .inl D)), (q3, .inl (cA, 4, .inl R)), (q4, .inl (cA, 8, .inl K))] := hD
  have hl := lv_entry ([.ref h0, .int a]) (n := 3) (Nat.le_of_ble_eq_true rfl)
  rw [lg_entry_eq]
  generalize (lg_sl ([.ref h0, .int a]) ++ List.replicate (3 - (lg_sl ([.ref h0, .int a])).length) Slot.unset).toArray = ls at hl ⊢
  have hl : lv_has ls 3 [(0, .ref h0), (1, .int a)] := hl
  refine lv_iload_n hx hb dX0_readWord_0 rfl (lv_at hl 1 rfl) ?_
  refine lv_bipush (v := 63) hx hb dX0_readWord_1 (by decide) ?_
  refine lv_iand hx hb dX0_readWord_3 ?_
  refine lv_topi (fun v_1 ev_1 => ?_)
  refine lv_istore_n (lv' := [(2, .int v_1), (0, .ref h0), (1, .int a)]) hx hb dX0_readWord_4 rfl hl (by decide) rfl (fun ls hl => ?_)
  refine lv_aload_n hx hb dX0_readWord_5 rfl (lv_at hl 1 rfl) ?_
  refine va_get (D := (dC, dI)) (ci := 0) (v := .int ph) (C := RX0) (T := TX0) (N := 12) hx hb hts inw_X0_readWord hown hK hP 0 rfl rfl 6 (by decide) (hts (.fieldLink RX0 29 "Migrator" "phaseNow" "I") (by decide +kernel)) (fun _ h9 => h9) rfl dX0_readWord_6 ?_
  refine lv_iconst (v := 3) hx hb dX0_readWord_9 (by decide) ?_
  refine lv_icmp_ne (tgt := 22) hx hb dX0_readWord_10 (by decide) (fun c_2 => ?_) (fun c_2 => ?_)
  · refine lv_aload_n hx hb dX0_readWord_22 rfl (lv_at hl 1 rfl) ?_
    refine va_get (D := (dC, dI)) (ci := 0) (v := .ref q1) (C := RX0) (T := TX0) (N := 12) hx hb hts inw_X0_readWord hown hK hP 0 rfl rfl 0 (by decide) (hts (.fieldLink RX0 9 "Migrator" "sourceWords" "[I") (by decide +kernel)) (fun _ h9 => h9) rfl dX0_readWord_23 ?_
    refine lv_iload_n hx hb dX0_readWord_26 rfl (lv_at hl 0 rfl) ?_
    refine va_iald hx hb hK hP 1 0 rfl rfl (by rw [ev_1]; exact in_63 _) dX0_readWord_27 ?_
    subst ev_1
    exact W.iret (v := S (a &&& 63).toNatClampNeg) hx hb hr (fun t ht hW => ⟨⟨S (a &&& 63).toNatClampNeg, (S, D, R, K, pc, sc, ph, rd, th, lm, dy, wt), rfl, ⟨(if_neg c_2).symm, rfl⟩, by rw [ht]; exact hP, va_K.moved hW.alike hK, hD⟩, hS.F ht⟩) hS.2.2 dX0_readWord_28
  · refine lv_aload_n hx hb dX0_readWord_13 rfl (lv_at hl 1 rfl) ?_
    refine va_get (D := (dC, dI)) (ci := 0) (v := .ref q2) (C := RX0) (T := TX0) (N := 12) hx hb hts inw_X0_readWord hown hK hP 0 rfl rfl 1 (by decide) (hts (.fieldLink RX0 13 "Migrator" "destinationWords" "[I") (by decide +kernel)) (fun _ h9 => h9) rfl dX0_readWord_14 ?_
    refine lv_iload_n hx hb dX0_readWord_17 rfl (lv_at hl 0 rfl) ?_
    refine va_iald hx hb hK hP 2 0 rfl rfl (by rw [ev_1]; exact in_63 _) dX0_readWord_18 ?_
    refine lv_goto (tgt := 28) hx hb dX0_readWord_19 (by decide) ?_
    subst ev_1
    exact W.iret (v := D (a &&& 63).toNatClampNeg) hx hb hr (fun t ht hW => ⟨⟨D (a &&& 63).toNatClampNeg, (S, D, R, K, pc, sc, ph, rd, th, lm, dy, wt), rfl, ⟨(if_pos c_2).symm, rfl⟩, by rw [ht]; exact hP, va_K.moved hW.alike hK, hD⟩, hS.F ht⟩) hS.2.2 dX0_readWord_28
theorem inw_X0_writeWord : ∀ w ∈ wsX00, w ∈ wsX0_writeWord := fun _ h => List.mem_cons_of_mem _ (List.mem_append_right _ h)
set_option maxHeartbeats 4000000 in
set_option maxRecDepth 100000 in
theorem c_X0_writeWord (l : Launch) (dC : Nat → ClassId) (dI : Nat → Nat → Nat) (h0 q1 q2 q3 q4 : Nat) (cA : ClassId) (S D R K : Nat → Int32) (pc sc ph rd th lm dy wt : Int32) (a v : Int32) (sz : Nat) : Met l yX0_writeWord wsX0_writeWord ({ frames := 0, cells := 0, slots := 0, locals := 0 }) (va_Pc [.ref h0, .int a, .int v] (fun U => U.heap.size = sz ∧ va_P (dC, dI) vwCl (mg_W h0 q1 q2 q3 q4 cA (S, D, R, K, pc, sc, ph, rd, th, lm, dy, wt)) U.heap ∧ va_K (dC, dI) vwCl [(cA, .int)] U ∧ va_D (fun _ => True) (mg_W h0 q1 q2 q3 q4 cA (S, D, R, K, pc, sc, ph, rd, th, lm, dy, wt)))) (va_Qv (fun (u : mgS) => u = ((mg_ww S D ph dy a v).1, (mg_ww S D ph dy a v).2.1, R, K, pc, sc, ph, rd, th, lm, (mg_ww S D ph dy a v).2.2, wt)) (at_mg dC dI h0 q1 q2 q3 q4 cA (va_A (mg_W h0 q1 q2 q3 q4 cA (S, D, R, K, pc, sc, ph, rd, th, lm, dy, wt)) sz)) (va_A (mg_W h0 q1 q2 q3 q4 cA (S, D, R, K, pc, sc, ph, rd, th, lm, dy, wt)) sz)) 0 0 (va_A (mg_W h0 q1 q2 q3 q4 cA (S, D, R, K, pc, sc, ph, rd, th, lm, dy, wt)) sz) := by
  refine Met.ofW (cc := cX0_writeWord) (maxL := 4) (ret := none) (by decide) rfl ?_
  intro p e s m args below meth c s₁ B hml hv
  obtain ⟨rfl, hsz, hP, hK, hD0⟩ := hv
  have hx := B.exec
  have hb := B.bytes
  have hr := B.returns
  have hts := atoms_spec (ws := wsX0_writeWord) B.pre
  have hown : s.vm.findClass RX0 = some m.cls := findClass_of_methodNamed B.named
  have hlocks := B.notSynchronized
  subst hsz
  have hD := hD0.self (sz := s.heap.size)
  generalize hAe : va_A (mg_W h0 q1 q2 q3 q4 cA (S, D, R, K, pc, sc, ph, rd, th, lm, dy, wt)) s.heap.size = A at hD ⊢
  have hA : ∀ q : Nat, s.heap.size ≤ q → A q := fun q h => by rw [← hAe]; exact Or.inr h
  have hS : va_S A s.heap s.heap [] := va_S.rf
  have hP : va_P (dC, dI) vwCl [(h0, .inr (0, [.ref q1, .ref q2, .ref q3, .ref q4, .int pc, .int sc, .int ph, .int rd, .int th, .int lm, .int dy, .int wt])), (q1, .inl (cA, 64, .inl S)), (q2, .inl (cA, 64, .inl D)), (q3, .inl (cA, 4, .inl R)), (q4, .inl (cA, 8, .inl K))] s.heap := hP
  have hD : va_D A [(h0, .inr (0, [.ref q1, .ref q2, .ref q3, .ref q4, .int pc, .int sc, .int ph, .int rd, .int th, .int lm, .int dy, .int wt])), (q1, .inl (cA, 64, .inl S)), (q2, .inl (cA, 64, .inl D)), (q3, .inl (cA, 4, .inl R)), (q4, .inl (cA, 8, .inl K))] := hD
  have hl := lv_entry ([.ref h0, .int a, .int v]) (n := 4) (Nat.le_of_ble_eq_true rfl)
  rw [lg_entry_eq]
  generalize (lg_sl ([.ref h0, .int a, .int v]) ++ List.replicate (4 - (lg_sl ([.ref h0, .int a, .int v])).length) Slot.unset).toArray = ls at hl ⊢
  have hl : lv_has ls 4 [(0, .ref h0), (1, .int a), (2, .int v)] := hl
  refine lv_iload_n hx hb dX0_writeWord_0 rfl (lv_at hl 1 rfl) ?_
  refine lv_bipush (v := 63) hx hb dX0_writeWord_1 (by decide) ?_
  refine lv_iand hx hb dX0_writeWord_3 ?_
  refine lv_topi (fun v_1 ev_1 => ?_)
  refine lv_istore_n (lv' := [(3, .int v_1), (0, .ref h0), (1, .int a), (2, .int v)]) hx hb dX0_writeWord_4 rfl hl (by decide) rfl (fun ls hl => ?_)
  refine lv_aload_n hx hb dX0_writeWord_5 rfl (lv_at hl 1 rfl) ?_
  refine va_get (D := (dC, dI)) (ci := 0) (v := .int ph) (C := RX0) (T := TX0) (N := 12) hx hb hts inw_X0_writeWord hown hK hP 0 rfl rfl 6 (by decide) (hts (.fieldLink RX0 29 "Migrator" "phaseNow" "I") (by decide +kernel)) (fun _ h9 => h9) rfl dX0_writeWord_6 ?_
  refine lv_iconst (v := 3) hx hb dX0_writeWord_9 (by decide) ?_
  refine lv_icmp_ne (tgt := 21) hx hb dX0_writeWord_10 (by decide) (fun c_2 => ?_) (fun c_2 => ?_)
  · refine lv_aload_n hx hb dX0_writeWord_21 rfl (lv_at hl 1 rfl) ?_
    refine va_get (D := (dC, dI)) (ci := 0) (v := .ref q1) (C := RX0) (T := TX0) (N := 12) hx hb hts inw_X0_writeWord hown hK hP 0 rfl rfl 0 (by decide) (hts (.fieldLink RX0 9 "Migrator" "sourceWords" "[I") (by decide +kernel)) (fun _ h9 => h9) rfl dX0_writeWord_22 ?_
    refine lv_iload_n hx hb dX0_writeWord_25 rfl (lv_at hl 0 rfl) ?_
    refine lv_iload_n hx hb dX0_writeWord_26 rfl (lv_at hl 3 rfl) ?_
    refine va_iast hx hb hK hP hD hS 1 0 rfl rfl (by rw [ev_1]; exact in_63 _) dX0_writeWord_27 (fun H locs hP hD hS => ?_)
    have hP : va_P (dC, dI) vwCl [(h0, .inr (0, [.ref q1, .ref q2, .ref q3, .ref q4, .int pc, .int sc, .int ph, .int rd, .int th, .int lm, .int dy, .int wt])), (q1, .inl (cA, 64, .inl (upd S v_1.toNatClampNeg v))), (q2, .inl (cA, 64, .inl D)), (q3, .inl (cA, 4, .inl R)), (q4, .inl (cA, 8, .inl K))] H := hP
    have hD : va_D A [(h0, .inr (0, [.ref q1, .ref q2, .ref q3, .ref q4, .int pc, .int sc, .int ph, .int rd, .int th, .int lm, .int dy, .int wt])), (q1, .inl (cA, 64, .inl (upd S v_1.toNatClampNeg v))), (q2, .inl (cA, 64, .inl D)), (q3, .inl (cA, 4, .inl R)), (q4, .inl (cA, 8, .inl K))] := hD
    refine lv_aload_n hx hb dX0_writeWord_28 rfl (lv_at hl 1 rfl) ?_
    refine va_get (D := (dC, dI)) (ci := 0) (v := .int ph) (C := RX0) (T := TX0) (N := 12) hx hb hts inw_X0_writeWord hown hK hP 0 rfl rfl 6 (by decide) (hts (.fieldLink RX0 29 "Migrator" "phaseNow" "I") (by decide +kernel)) (fun _ h9 => h9) rfl dX0_writeWord_29 ?_
    refine lv_iconst (v := 1) hx hb dX0_writeWord_32 (by decide) ?_
    refine lv_icmp_ne (tgt := 50) hx hb dX0_writeWord_33 (by decide) (fun c_3 => ?_) (fun c_3 => ?_)
    · subst ev_1
      exact W.vret hx hb hr (fun t ht hW => ⟨⟨(upd S (a &&& 63).toNatClampNeg v, D, R, K, pc, sc, ph, rd, th, lm, dy, wt), rfl, (by rw [mg_ww_0 c_2 c_3]), by rw [ht]; exact hP, va_K.moved hW.alike hK, hD⟩, hS.F ht⟩) hS.2.2 dX0_writeWord_50
    · refine lv_aload_n hx hb dX0_writeWord_36 rfl (lv_at hl 1 rfl) ?_
      refine lv_dup hx hb dX0_writeWord_37 rfl ?_
      refine va_get (D := (dC, dI)) (ci := 0) (v := .int dy) (C := RX0) (T := TX0) (N := 12) hx hb hts inw_X0_writeWord hown hK hP 0 rfl rfl 10 (by decide) (hts (.fieldLink RX0 41 "Migrator" "dirtyPages" "I") (by decide +kernel)) (fun _ h9 => h9) rfl dX0_writeWord_38 ?_
      refine lv_iconst (v := 1) hx hb dX0_writeWord_41 (by decide) ?_
      refine lv_iload_n hx hb dX0_writeWord_42 rfl (lv_at hl 0 rfl) ?_
      refine lv_iconst (v := 3) hx hb dX0_writeWord_43 (by decide) ?_
      refine lv_ishr hx hb dX0_writeWord_44 ?_
      refine lv_ishl hx hb dX0_writeWord_45 ?_
      refine lv_ior hx hb dX0_writeWord_46 ?_
      refine va_put (D := (dC, dI)) (ci := 0) (v := .int (dy ||| ((1 : Int32) <<< ((v_1 >>> ((3 : Int32) &&& 31)) &&& 31)))) (ty := .int) (C := RX0) (T := TX0) (N := 12) hx hb hts inw_X0_writeWord tyX0 tyX0_ok nmX0 hown hK hP hD hS 0 rfl rfl 10 (by decide) (hts (.fieldLink RX0 41 "Migrator" "dirtyPages" "I") (by decide +kernel)) (fun _ h9 => h9) rfl (by decide +kernel) rfl rfl (Nat.le_of_ble_eq_true rfl) dX0_writeWord_47 (fun H locs hP hD hS => ?_)
      have hP : va_P (dC, dI) vwCl [(h0, .inr (0, [.ref q1, .ref q2, .ref q3, .ref q4, .int pc, .int sc, .int ph, .int rd, .int th, .int lm, .int (dy ||| ((1 : Int32) <<< ((v_1 >>> ((3 : Int32) &&& 31)) &&& 31))), .int wt])), (q1, .inl (cA, 64, .inl (upd S v_1.toNatClampNeg v))), (q2, .inl (cA, 64, .inl D)), (q3, .inl (cA, 4, .inl R)), (q4, .inl (cA, 8, .inl K))] H := hP
      have hD : va_D A [(h0, .inr (0, [.ref q1, .ref q2, .ref q3, .ref q4, .int pc, .int sc, .int ph, .int rd, .int th, .int lm, .int (dy ||| ((1 : Int32) <<< ((v_1 >>> ((3 : Int32) &&& 31)) &&& 31))), .int wt])), (q1, .inl (cA, 64, .inl (upd S v_1.toNatClampNeg v))), (q2, .inl (cA, 64, .inl D)), (q3, .inl (cA, 4, .inl R)), (q4, .inl (cA, 8, .inl K))] := hD
      subst ev_1
      exact W.vret hx hb hr (fun t ht hW => ⟨⟨(upd S (a &&& 63).toNatClampNeg v, D, R, K, pc, sc, ph, rd, th, lm, dy ||| ((1 : Int32) <<< (((a &&& 63) >>> ((3 : Int32) &&& 31)) &&& 31)), wt), rfl, (by rw [mg_ww_1 c_2 c_3]), by rw [ht]; exact hP, va_K.moved hW.alike hK, hD⟩, hS.F ht⟩) hS.2.2 dX0_writeWord_50
  · refine lv_aload_n hx hb dX0_writeWord_13 rfl (lv_at hl 1 rfl) ?_
    refine va_get (D := (dC, dI)) (ci := 0) (v := .ref q2) (C := RX0) (T := TX0) (N := 12) hx hb hts inw_X0_writeWord hown hK hP 0 rfl rfl 1 (by decide) (hts (.fieldLink RX0 13 "Migrator" "destinationWords" "[I") (by decide +kernel)) (fun _ h9 => h9) rfl dX0_writeWord_14 ?_
    refine lv_iload_n hx hb dX0_writeWord_17 rfl (lv_at hl 0 rfl) ?_
    refine lv_iload_n hx hb dX0_writeWord_18 rfl (lv_at hl 3 rfl) ?_
    refine va_iast hx hb hK hP hD hS 2 0 rfl rfl (by rw [ev_1]; exact in_63 _) dX0_writeWord_19 (fun H locs hP hD hS => ?_)
    have hP : va_P (dC, dI) vwCl [(h0, .inr (0, [.ref q1, .ref q2, .ref q3, .ref q4, .int pc, .int sc, .int ph, .int rd, .int th, .int lm, .int dy, .int wt])), (q1, .inl (cA, 64, .inl S)), (q2, .inl (cA, 64, .inl (upd D v_1.toNatClampNeg v))), (q3, .inl (cA, 4, .inl R)), (q4, .inl (cA, 8, .inl K))] H := hP
    have hD : va_D A [(h0, .inr (0, [.ref q1, .ref q2, .ref q3, .ref q4, .int pc, .int sc, .int ph, .int rd, .int th, .int lm, .int dy, .int wt])), (q1, .inl (cA, 64, .inl S)), (q2, .inl (cA, 64, .inl (upd D v_1.toNatClampNeg v))), (q3, .inl (cA, 4, .inl R)), (q4, .inl (cA, 8, .inl K))] := hD
    subst ev_1
    exact W.vret hx hb hr (fun t ht hW => ⟨⟨(S, upd D (a &&& 63).toNatClampNeg v, R, K, pc, sc, ph, rd, th, lm, dy, wt), rfl, (by rw [mg_ww_3 c_2]), by rw [ht]; exact hP, va_K.moved hW.alike hK, hD⟩, hS.F ht⟩) hS.2.2 dX0_writeWord_20
theorem inw_X0_show : ∀ w ∈ wsX00, w ∈ wsX0_show := fun _ h => List.mem_cons_of_mem _ (List.mem_append_right _ h)
set_option maxHeartbeats 4000000 in
set_option maxRecDepth 100000 in
theorem c_X0_show (l : Launch) (dC : Nat → ClassId) (dI : Nat → Nat → Nat) (h0 q1 q2 q3 q4 : Nat) (cA : ClassId) (S D R K : Nat → Int32) (pc sc ph rd th lm dy wt : Int32) (v : Int32) (sz : Nat) : Met l yX0_show wsX0_show ({ frames := 0, cells := 0, slots := 0, locals := 0 }) (va_Pc [.ref h0, .int v] (fun U => U.heap.size = sz ∧ va_P (dC, dI) vwCl (mg_W h0 q1 q2 q3 q4 cA (S, D, R, K, pc, sc, ph, rd, th, lm, dy, wt)) U.heap ∧ va_K (dC, dI) vwCl [(cA, .int)] U ∧ va_D (fun _ => True) (mg_W h0 q1 q2 q3 q4 cA (S, D, R, K, pc, sc, ph, rd, th, lm, dy, wt)))) (va_Qv (fun (u : mgS) => u = (S, D, R, upd K (sc &&& 7).toNatClampNeg v, pc, sc + 1, ph, rd, th, lm, dy, wt)) (at_mg dC dI h0 q1 q2 q3 q4 cA (va_A (mg_W h0 q1 q2 q3 q4 cA (S, D, R, K, pc, sc, ph, rd, th, lm, dy, wt)) sz)) (va_A (mg_W h0 q1 q2 q3 q4 cA (S, D, R, K, pc, sc, ph, rd, th, lm, dy, wt)) sz)) 0 0 (va_A (mg_W h0 q1 q2 q3 q4 cA (S, D, R, K, pc, sc, ph, rd, th, lm, dy, wt)) sz) := by
  refine Met.ofW (cc := cX0_show) (maxL := 2) (ret := none) (by decide) rfl ?_
  intro p e s m args below meth c s₁ B hml hv
  obtain ⟨rfl, hsz, hP, hK, hD0⟩ := hv
  have hx := B.exec
  have hb := B.bytes
  have hr := B.returns
  have hts := atoms_spec (ws := wsX0_show) B.pre
  have hown : s.vm.findClass RX0 = some m.cls := findClass_of_methodNamed B.named
  have hlocks := B.notSynchronized
  subst hsz
  have hD := hD0.self (sz := s.heap.size)
  generalize hAe : va_A (mg_W h0 q1 q2 q3 q4 cA (S, D, R, K, pc, sc, ph, rd, th, lm, dy, wt)) s.heap.size = A at hD ⊢
  have hA : ∀ q : Nat, s.heap.size ≤ q → A q := fun q h => by rw [← hAe]; exact Or.inr h
  have hS : va_S A s.heap s.heap [] := va_S.rf
  have hP : va_P (dC, dI) vwCl [(h0, .inr (0, [.ref q1, .ref q2, .ref q3, .ref q4, .int pc, .int sc, .int ph, .int rd, .int th, .int lm, .int dy, .int wt])), (q1, .inl (cA, 64, .inl S)), (q2, .inl (cA, 64, .inl D)), (q3, .inl (cA, 4, .inl R)), (q4, .inl (cA, 8, .inl K))] s.heap := hP
  have hD : va_D A [(h0, .inr (0, [.ref q1, .ref q2, .ref q3, .ref q4, .int pc, .int sc, .int ph, .int rd, .int th, .int lm, .int dy, .int wt])), (q1, .inl (cA, 64, .inl S)), (q2, .inl (cA, 64, .inl D)), (q3, .inl (cA, 4, .inl R)), (q4, .inl (cA, 8, .inl K))] := hD
  have hl := lv_entry ([.ref h0, .int v]) (n := 2) (Nat.le_of_ble_eq_true rfl)
  rw [lg_entry_eq]
  generalize (lg_sl ([.ref h0, .int v]) ++ List.replicate (2 - (lg_sl ([.ref h0, .int v])).length) Slot.unset).toArray = ls at hl ⊢
  have hl : lv_has ls 2 [(0, .ref h0), (1, .int v)] := hl
  refine lv_aload_n hx hb dX0_show_0 rfl (lv_at hl 0 rfl) ?_
  refine va_get (D := (dC, dI)) (ci := 0) (v := .ref q4) (C := RX0) (T := TX0) (N := 12) hx hb hts inw_X0_show hown hK hP 0 rfl rfl 3 (by decide) (hts (.fieldLink RX0 19 "Migrator" "keptShows" "[I") (by decide +kernel)) (fun _ h9 => h9) rfl dX0_show_1 ?_
  refine lv_aload_n hx hb dX0_show_4 rfl (lv_at hl 0 rfl) ?_
  refine va_get (D := (dC, dI)) (ci := 0) (v := .int sc) (C := RX0) (T := TX0) (N := 12) hx hb hts inw_X0_show hown hK hP 0 rfl rfl 5 (by decide) (hts (.fieldLink RX0 26 "Migrator" "showCount" "I") (by decide +kernel)) (fun _ h9 => h9) rfl dX0_show_5 ?_
  refine lv_bipush (v := 7) hx hb dX0_show_8 (by decide) ?_
  refine lv_iand hx hb dX0_show_10 ?_
  refine lv_iload_n hx hb dX0_show_11 rfl (lv_at hl 1 rfl) ?_
  refine va_iast hx hb hK hP hD hS 4 0 rfl rfl (in_7 _) dX0_show_12 (fun H locs hP hD hS => ?_)
  have hP : va_P (dC, dI) vwCl [(h0, .inr (0, [.ref q1, .ref q2, .ref q3, .ref q4, .int pc, .int sc, .int ph, .int rd, .int th, .int lm, .int dy, .int wt])), (q1, .inl (cA, 64, .inl S)), (q2, .inl (cA, 64, .inl D)), (q3, .inl (cA, 4, .inl R)), (q4, .inl (cA, 8, .inl (upd K (sc &&& 7).toNatClampNeg v)))] H := hP
  have hD : va_D A [(h0, .inr (0, [.ref q1, .ref q2, .ref q3, .ref q4, .int pc, .int sc, .int ph, .int rd, .int th, .int lm, .int dy, .int wt])), (q1, .inl (cA, 64, .inl S)), (q2, .inl (cA, 64, .inl D)), (q3, .inl (cA, 4, .inl R)), (q4, .inl (cA, 8, .inl (upd K (sc &&& 7).toNatClampNeg v)))] := hD
  refine lv_aload_n hx hb dX0_show_13 rfl (lv_at hl 0 rfl) ?_
  refine lv_dup hx hb dX0_show_14 rfl ?_
  refine va_get (D := (dC, dI)) (ci := 0) (v := .int sc) (C := RX0) (T := TX0) (N := 12) hx hb hts inw_X0_show hown hK hP 0 rfl rfl 5 (by decide) (hts (.fieldLink RX0 26 "Migrator" "showCount" "I") (by decide +kernel)) (fun _ h9 => h9) rfl dX0_show_15 ?_
  refine lv_iconst (v := 1) hx hb dX0_show_18 (by decide) ?_
  refine lv_iadd hx hb dX0_show_19 ?_
  refine va_put (D := (dC, dI)) (ci := 0) (v := .int (sc + 1)) (ty := .int) (C := RX0) (T := TX0) (N := 12) hx hb hts inw_X0_show tyX0 tyX0_ok nmX0 hown hK hP hD hS 0 rfl rfl 5 (by decide) (hts (.fieldLink RX0 26 "Migrator" "showCount" "I") (by decide +kernel)) (fun _ h9 => h9) rfl (by decide +kernel) rfl rfl (Nat.le_of_ble_eq_true rfl) dX0_show_20 (fun H locs hP hD hS => ?_)
  have hP : va_P (dC, dI) vwCl [(h0, .inr (0, [.ref q1, .ref q2, .ref q3, .ref q4, .int pc, .int (sc + 1), .int ph, .int rd, .int th, .int lm, .int dy, .int wt])), (q1, .inl (cA, 64, .inl S)), (q2, .inl (cA, 64, .inl D)), (q3, .inl (cA, 4, .inl R)), (q4, .inl (cA, 8, .inl (upd K (sc &&& 7).toNatClampNeg v)))] H := hP
  have hD : va_D A [(h0, .inr (0, [.ref q1, .ref q2, .ref q3, .ref q4, .int pc, .int (sc + 1), .int ph, .int rd, .int th, .int lm, .int dy, .int wt])), (q1, .inl (cA, 64, .inl S)), (q2, .inl (cA, 64, .inl D)), (q3, .inl (cA, 4, .inl R)), (q4, .inl (cA, 8, .inl (upd K (sc &&& 7).toNatClampNeg v)))] := hD
  exact W.vret hx hb hr (fun t ht hW => ⟨⟨(S, D, R, upd K (sc &&& 7).toNatClampNeg v, pc, sc + 1, ph, rd, th, lm, dy, wt), rfl, rfl, by rw [ht]; exact hP, va_K.moved hW.alike hK, hD⟩, hS.F ht⟩) hS.2.2 dX0_show_23
end
section
theorem inw_X0_guestStep : ∀ w ∈ wsX00, w ∈ wsX0_guestStep := fun _ h => List.mem_cons_of_mem _ (List.mem_append_right _ h)
set_option maxHeartbeats 4000000 in
set_option maxRecDepth 100000 in
theorem c_X0_guestStep (l : Launch) (dC : Nat → ClassId) (dI : Nat → Nat → Nat) (h0 q1 q2 q3 q4 : Nat) (cA : ClassId) (S D R K : Nat → Int32) (pc sc ph rd th lm dy wt : Int32) (sz : Nat) : Met l yX0_guestStep wsX0_guestStep ({ frames := 1, cells := 0, slots := 0, locals := 23 }) (va_Pc [.ref h0] (fun U => U.heap.size = sz ∧ va_P (dC, dI) vwCl (mg_W h0 q1 q2 q3 q4 cA (S, D, R, K, pc, sc, ph, rd, th, lm, dy, wt)) U.heap ∧ va_K (dC, dI) vwCl [(cA, .int)] U ∧ va_D (fun _ => True) (mg_W h0 q1 q2 q3 q4 cA (S, D, R, K, pc, sc, ph, rd, th, lm, dy, wt)))) (va_Qv (fun (u : mgS) => u = mg_step (S, D, R, K, pc, sc, ph, rd, th, lm, dy, wt)) (at_mg dC dI h0 q1 q2 q3 q4 cA (va_A (mg_W h0 q1 q2 q3 q4 cA (S, D, R, K, pc, sc, ph, rd, th, lm, dy, wt)) sz)) (va_A (mg_W h0 q1 q2 q3 q4 cA (S, D, R, K, pc, sc, ph, rd, th, lm, dy, wt)) sz)) 0 0 (va_A (mg_W h0 q1 q2 q3 q4 cA (S, D, R, K, pc, sc, ph, rd, th, lm, dy, wt)) sz) := by
  refine Met.ofW (cc := cX0_guestStep) (maxL := 6) (ret := none) (by decide) rfl ?_
  intro p e s m args below meth c s₁ B hml hv
  obtain ⟨rfl, hsz, hP, hK, hD0⟩ := hv
  have hx := B.exec
  have hb := B.bytes
  have hr := B.returns
  have hts := atoms_spec (ws := wsX0_guestStep) B.pre
  have hown : s.vm.findClass RX0 = some m.cls := findClass_of_methodNamed B.named
  have hlocks := B.notSynchronized
  subst hsz
  have hD := hD0.self (sz := s.heap.size)
  generalize hAe : va_A (mg_W h0 q1 q2 q3 q4 cA (S, D, R, K, pc, sc, ph, rd, th, lm, dy, wt)) s.heap.size = A at hD ⊢
  have hA : ∀ q : Nat, s.heap.size ≤ q → A q := fun q h => by rw [← hAe]; exact Or.inr h
  have hS : va_S A s.heap s.heap [] := va_S.rf
  have hP : va_P (dC, dI) vwCl [(h0, .inr (0, [.ref q1, .ref q2, .ref q3, .ref q4, .int pc, .int sc, .int ph, .int rd, .int th, .int lm, .int dy, .int wt])), (q1, .inl (cA, 64, .inl S)), (q2, .inl (cA, 64, .inl D)), (q3, .inl (cA, 4, .inl R)), (q4, .inl (cA, 8, .inl K))] s.heap := hP
  have hD : va_D A [(h0, .inr (0, [.ref q1, .ref q2, .ref q3, .ref q4, .int pc, .int sc, .int ph, .int rd, .int th, .int lm, .int dy, .int wt])), (q1, .inl (cA, 64, .inl S)), (q2, .inl (cA, 64, .inl D)), (q3, .inl (cA, 4, .inl R)), (q4, .inl (cA, 8, .inl K))] := hD
  have hl := lv_entry ([.ref h0]) (n := 6) (Nat.le_of_ble_eq_true rfl)
  rw [lg_entry_eq]
  generalize (lg_sl ([.ref h0]) ++ List.replicate (6 - (lg_sl ([.ref h0])).length) Slot.unset).toArray = ls at hl ⊢
  have hl : lv_has ls 6 [(0, .ref h0)] := hl
  refine lv_aload_n hx hb dX0_guestStep_0 rfl (lv_at hl 0 rfl) ?_
  refine lv_aload_n hx hb dX0_guestStep_1 rfl (lv_at hl 0 rfl) ?_
  refine va_get (D := (dC, dI)) (ci := 0) (v := .int pc) (C := RX0) (T := TX0) (N := 12) hx hb hts inw_X0_guestStep hown hK hP 0 rfl rfl 4 (by decide) (hts (.fieldLink RX0 22 "Migrator" "programCounter" "I") (by decide +kernel)) (fun _ h9 => h9) rfl dX0_guestStep_2 ?_
  have hPc := hP.sub (ws' := [(h0, .inr (0, [.ref q1, .ref q2, .ref q3, .ref q4, .int pc, .int sc, .int ph, .int rd, .int th, .int lm, .int dy, .int wt])), (q1, .inl (cA, 64, .inl S)), (q2, .inl (cA, 64, .inl D)), (q3, .inl (cA, 4, .inl R)), (q4, .inl (cA, 8, .inl K))]) [0, 1, 2, 3, 4] rfl
  have hDc := hD.sub (ws' := [(h0, .inr (0, [.ref q1, .ref q2, .ref q3, .ref q4, .int pc, .int sc, .int ph, .int rd, .int th, .int lm, .int dy, .int wt])), (q1, .inl (cA, 64, .inl S)), (q2, .inl (cA, 64, .inl D)), (q3, .inl (cA, 4, .inl R)), (q4, .inl (cA, 8, .inl K))]) [0, 1, 2, 3, 4] (by decide) rfl
  have hKc := hK.sub (tys' := [(cA, .int)]) [0] rfl
  have hFc := va_free (wc := [(h0, .inr (0, [.ref q1, .ref q2, .ref q3, .ref q4, .int pc, .int sc, .int ph, .int rd, .int th, .int lm, .int dy, .int wt])), (q1, .inl (cA, 64, .inl S)), (q2, .inl (cA, 64, .inl D)), (q3, .inl (cA, 4, .inl R)), (q4, .inl (cA, 8, .inl K))]) hD hS hA [0, 1, 2, 3, 4] rfl
  refine va_calli (va_runV (As := [.int pc]) (rest := []) ⟨hx, hb, hml, hown, hts⟩ (c_X0_readWord l dC dI h0 q1 q2 q3 q4 cA S D R K pc sc ph rd th lm dy wt pc s.heap.size) (cwV 1 hts gX0_guestStep_X0_readWord rfl rfl rfl (by decide +kernel) ⟨Nat.le_of_ble_eq_true rfl, Nat.le_of_ble_eq_true rfl⟩) ⟨fun a U g mk q => by obtain ⟨q0, q1, qP, qK, qD⟩ := q; exact ⟨q0, q1, qP, va_K.moved (u := U) (U := U.calling g mk a) (Vm.Alike.refl U.vm) qK, qD⟩, va_recv hKc hPc (ci := 0) (q0 := 0) rfl rfl, fun U hU hW => ⟨rfl, by rw [hU], by rw [hU]; exact hPc, va_K.moved hW.alike hKc, hDc.weaken (fun _ _ _ _ => trivial)⟩⟩ rfl rfl hl.1 rfl (lv_room (Nat.le_of_ble_eq_true rfl)) dX0_guestStep_5 ⟨(Nat.zero_le _), (Nat.zero_le _)⟩) hS (fun q _ h => hFc q h) hFc (fun r_1 u_2 t H1 locs ht hvm w_3 hB hz1 hk1 hS => ?_)
  obtain ⟨w_3, e_4⟩ := w_3
  subst e_4
  obtain ⟨hP1, hK1, hD1⟩ := hB
  rw [ht] at hP1
  obtain ⟨hP, hD⟩ := va_join (wr := []) (w1 := [(h0, .inr (0, [.ref q1, .ref q2, .ref q3, .ref q4, .int pc, .int sc, .int ph, .int rd, .int th, .int lm, .int dy, .int wt])), (q1, .inl (cA, 64, .inl S)), (q2, .inl (cA, 64, .inl D)), (q3, .inl (cA, 4, .inl R)), (q4, .inl (cA, 8, .inl K))]) hP hD [0, 1, 2, 3, 4] [] rfl rfl (by decide) (by decide) hk1 hFc hP1 hD1
  clear hPc hDc hFc hP1 hD1 hk1 hK1
  generalize H1 = H at hP hS ⊢
  have hP : va_P (dC, dI) vwCl [(h0, .inr (0, [.ref q1, .ref q2, .ref q3, .ref q4, .int pc, .int sc, .int ph, .int rd, .int th, .int lm, .int dy, .int wt])), (q1, .inl (cA, 64, .inl S)), (q2, .inl (cA, 64, .inl D)), (q3, .inl (cA, 4, .inl R)), (q4, .inl (cA, 8, .inl K))] H := hP
  have hD : va_D A [(h0, .inr (0, [.ref q1, .ref q2, .ref q3, .ref q4, .int pc, .int sc, .int ph, .int rd, .int th, .int lm, .int dy, .int wt])), (q1, .inl (cA, 64, .inl S)), (q2, .inl (cA, 64, .inl D)), (q3, .inl (cA, 4, .inl R)), (q4, .inl (cA, 8, .inl K))] := hD
  refine lv_istore_n (lv' := [(1, .int r_1), (0, .ref h0)]) hx hb dX0_guestStep_8 rfl hl (by decide) rfl (fun ls hl => ?_)
  refine lv_iload_n hx hb dX0_guestStep_9 rfl (lv_at hl 0 rfl) ?_
  refine lv_iconst (v := 3) hx hb dX0_guestStep_10 (by decide) ?_
  refine lv_ishr hx hb dX0_guestStep_11 ?_
  refine lv_iconst (v := 3) hx hb dX0_guestStep_12 (by decide) ?_
  refine lv_iand hx hb dX0_guestStep_13 ?_
  refine lv_topi (fun v_5 ev_5 => ?_)
  refine lv_istore_n (lv' := [(2, .int v_5), (1, .int r_1), (0, .ref h0)]) hx hb dX0_guestStep_14 rfl hl (by decide) rfl (fun ls hl => ?_)
  refine lv_iload_n hx hb dX0_guestStep_15 rfl (lv_at hl 1 rfl) ?_
  refine lv_iconst (v := 5) hx hb dX0_guestStep_16 (by decide) ?_
  refine lv_ishr hx hb dX0_guestStep_17 ?_
  refine lv_iconst (v := 3) hx hb dX0_guestStep_18 (by decide) ?_
  refine lv_iand hx hb dX0_guestStep_19 ?_
  refine lv_topi (fun v_6 ev_6 => ?_)
  refine lv_istore_n (lv' := [(3, .int v_6), (2, .int v_5), (1, .int r_1), (0, .ref h0)]) hx hb dX0_guestStep_20 rfl hl (by decide) rfl (fun ls hl => ?_)
  refine lv_iload_n hx hb dX0_guestStep_21 rfl (lv_at hl 2 rfl) ?_
  refine lv_bipush (v := 7) hx hb dX0_guestStep_22 (by decide) ?_
  refine lv_ishr hx hb dX0_guestStep_24 ?_
  refine lv_bipush (v := 127) hx hb dX0_guestStep_25 (by decide) ?_
  refine lv_iand hx hb dX0_guestStep_27 ?_
  refine lv_topi (fun v_7 ev_7 => ?_)
  refine lv_istore (lv' := [(4, .int v_7), (3, .int v_6), (2, .int v_5), (1, .int r_1), (0, .ref h0)]) hx hb dX0_guestStep_28 hl (by decide) rfl (fun ls hl => ?_)
  refine lv_aload_n hx hb dX0_guestStep_30 rfl (lv_at hl 4 rfl) ?_
  refine va_get (D := (dC, dI)) (ci := 0) (v := .int pc) (C := RX0) (T := TX0) (N := 12) hx hb hts inw_X0_guestStep hown hK hP 0 rfl rfl 4 (by decide) (hts (.fieldLink RX0 22 "Migrator" "programCounter" "I") (by decide +kernel)) (fun _ h9 => h9) rfl dX0_guestStep_31 ?_
  refine lv_iconst (v := 1) hx hb dX0_guestStep_34 (by decide) ?_
  refine lv_iadd hx hb dX0_guestStep_35 ?_
  refine lv_topi (fun v_8 ev_8 => ?_)
  refine lv_istore (lv' := [(5, .int v_8), (4, .int v_7), (3, .int v_6), (2, .int v_5), (1, .int r_1), (0, .ref h0)]) hx hb dX0_guestStep_36 hl (by decide) rfl (fun ls hl => ?_)
  refine lv_iload_n hx hb dX0_guestStep_38 rfl (lv_at hl 4 rfl) ?_
  refine lv_bipush (v := 7) hx hb dX0_guestStep_39 (by decide) ?_
  refine lv_iand hx hb dX0_guestStep_41 ?_
  rcases op_8 r_1 with o_9 | o_9 | o_9 | o_9 | o_9 | o_9 | o_9 | o_9
  · refine lv_tableIn (off := 42) (tgt := 84) hx hb dX0_guestStep_42 (by rw [o_9]; decide) (by rw [o_9]; decide) (by rw [o_9]; rfl) (by decide) ?_
    refine lv_aload_n hx hb dX0_guestStep_84 rfl (lv_at hl 5 rfl) ?_
    refine va_get (D := (dC, dI)) (ci := 0) (v := .int pc) (C := RX0) (T := TX0) (N := 12) hx hb hts inw_X0_guestStep hown hK hP 0 rfl rfl 4 (by decide) (hts (.fieldLink RX0 22 "Migrator" "programCounter" "I") (by decide +kernel)) (fun _ h9 => h9) rfl dX0_guestStep_85 ?_
    refine lv_istore (lv' := [(5, .int pc), (4, .int v_7), (3, .int v_6), (2, .int v_5), (1, .int r_1), (0, .ref h0)]) hx hb dX0_guestStep_88 hl (by decide) rfl (fun ls hl => ?_)
    refine lv_goto (tgt := 223) hx hb dX0_guestStep_90 (by decide) ?_
    refine lv_aload_n hx hb dX0_guestStep_223 rfl (lv_at hl 5 rfl) ?_
    refine lv_iload hx hb dX0_guestStep_224 (lv_at hl 0 rfl) ?_
    refine lv_bipush (v := 63) hx hb dX0_guestStep_226 (by decide) ?_
    refine lv_iand hx hb dX0_guestStep_228 ?_
    refine va_put (D := (dC, dI)) (ci := 0) (v := .int (pc &&& 63)) (ty := .int) (C := RX0) (T := TX0) (N := 12) hx hb hts inw_X0_guestStep tyX0 tyX0_ok nmX0 hown hK hP hD hS 0 rfl rfl 4 (by decide) (hts (.fieldLink RX0 22 "Migrator" "programCounter" "I") (by decide +kernel)) (fun _ h9 => h9) rfl (by decide +kernel) rfl rfl (Nat.le_of_ble_eq_true rfl) dX0_guestStep_229 (fun H locs hP hD hS => ?_)
    have hP : va_P (dC, dI) vwCl [(h0, .inr (0, [.ref q1, .ref q2, .ref q3, .ref q4, .int (pc &&& 63), .int sc, .int ph, .int rd, .int th, .int lm, .int dy, .int wt])), (q1, .inl (cA, 64, .inl S)), (q2, .inl (cA, 64, .inl D)), (q3, .inl (cA, 4, .inl R)), (q4, .inl (cA, 8, .inl K))] H := hP
    have hD : va_D A [(h0, .inr (0, [.ref q1, .ref q2, .ref q3, .ref q4, .int (pc &&& 63), .int sc, .int ph, .int rd, .int th, .int lm, .int dy, .int wt])), (q1, .inl (cA, 64, .inl S)), (q2, .inl (cA, 64, .inl D)), (q3, .inl (cA, 4, .inl R)), (q4, .inl (cA, 8, .inl K))] := hD
    have z_10 : (S, D, R, K, pc &&& 63, sc, ph, rd, th, lm, dy, wt) = mg_step (S, D, R, K, pc, sc, ph, rd, th, lm, dy, wt) := by
      subst ev_5
      subst ev_6
      subst ev_7
      subst ev_8
      subst w_3
      show _ = mg_go (mg_rw S D ph pc &&& 7) (mg_rw S D ph pc) (S, D, R, K, pc, sc, ph, rd, th, lm, dy, wt)
      rw [o_9]
      rfl
    exact W.vret hx hb hr (fun t ht hW => ⟨⟨(S, D, R, K, pc &&& 63, sc, ph, rd, th, lm, dy, wt), rfl, z_10, by rw [ht]; exact hP, va_K.moved hW.alike hK, hD⟩, hS.F ht⟩) hS.2.2 dX0_guestStep_232
  · refine lv_tableIn (off := 51) (tgt := 93) hx hb dX0_guestStep_42 (by rw [o_9]; decide) (by rw [o_9]; decide) (by rw [o_9]; rfl) (by decide) ?_
    refine lv_aload_n hx hb dX0_guestStep_93 rfl (lv_at hl 5 rfl) ?_
    refine va_get (D := (dC, dI)) (ci := 0) (v := .ref q3) (C := RX0) (T := TX0) (N := 12) hx hb hts inw_X0_guestStep hown hK hP 0 rfl rfl 2 (by decide) (hts (.fieldLink RX0 16 "Migrator" "registers" "[I") (by decide +kernel)) (fun _ h9 => h9) rfl dX0_guestStep_94 ?_
    refine lv_iload_n hx hb dX0_guestStep_97 rfl (lv_at hl 3 rfl) ?_
    refine lv_iload hx hb dX0_guestStep_98 (lv_at hl 1 rfl) ?_
    refine va_iast hx hb hK hP hD hS 3 0 rfl rfl (by rw [ev_5]; exact in_3 _) dX0_guestStep_100 (fun H locs hP hD hS => ?_)
    have hP : va_P (dC, dI) vwCl [(h0, .inr (0, [.ref q1, .ref q2, .ref q3, .ref q4, .int pc, .int sc, .int ph, .int rd, .int th, .int lm, .int dy, .int wt])), (q1, .inl (cA, 64, .inl S)), (q2, .inl (cA, 64, .inl D)), (q3, .inl (cA, 4, .inl (upd R v_5.toNatClampNeg v_7))), (q4, .inl (cA, 8, .inl K))] H := hP
    have hD : va_D A [(h0, .inr (0, [.ref q1, .ref q2, .ref q3, .ref q4, .int pc, .int sc, .int ph, .int rd, .int th, .int lm, .int dy, .int wt])), (q1, .inl (cA, 64, .inl S)), (q2, .inl (cA, 64, .inl D)), (q3, .inl (cA, 4, .inl (upd R v_5.toNatClampNeg v_7))), (q4, .inl (cA, 8, .inl K))] := hD
    refine lv_goto (tgt := 223) hx hb dX0_guestStep_101 (by decide) ?_
    refine lv_aload_n hx hb dX0_guestStep_223 rfl (lv_at hl 5 rfl) ?_
    refine lv_iload hx hb dX0_guestStep_224 (lv_at hl 0 rfl) ?_
    refine lv_bipush (v := 63) hx hb dX0_guestStep_226 (by decide) ?_
    refine lv_iand hx hb dX0_guestStep_228 ?_
    refine va_put (D := (dC, dI)) (ci := 0) (v := .int (v_8 &&& 63)) (ty := .int) (C := RX0) (T := TX0) (N := 12) hx hb hts inw_X0_guestStep tyX0 tyX0_ok nmX0 hown hK hP hD hS 0 rfl rfl 4 (by decide) (hts (.fieldLink RX0 22 "Migrator" "programCounter" "I") (by decide +kernel)) (fun _ h9 => h9) rfl (by decide +kernel) rfl rfl (Nat.le_of_ble_eq_true rfl) dX0_guestStep_229 (fun H locs hP hD hS => ?_)
    have hP : va_P (dC, dI) vwCl [(h0, .inr (0, [.ref q1, .ref q2, .ref q3, .ref q4, .int (v_8 &&& 63), .int sc, .int ph, .int rd, .int th, .int lm, .int dy, .int wt])), (q1, .inl (cA, 64, .inl S)), (q2, .inl (cA, 64, .inl D)), (q3, .inl (cA, 4, .inl (upd R v_5.toNatClampNeg v_7))), (q4, .inl (cA, 8, .inl K))] H := hP
    have hD : va_D A [(h0, .inr (0, [.ref q1, .ref q2, .ref q3, .ref q4, .int (v_8 &&& 63), .int sc, .int ph, .int rd, .int th, .int lm, .int dy, .int wt])), (q1, .inl (cA, 64, .inl S)), (q2, .inl (cA, 64, .inl D)), (q3, .inl (cA, 4, .inl (upd R v_5.toNatClampNeg v_7))), (q4, .inl (cA, 8, .inl K))] := hD
    have z_11 : (S, D, upd R v_5.toNatClampNeg v_7, K, v_8 &&& 63, sc, ph, rd, th, lm, dy, wt) = mg_step (S, D, R, K, pc, sc, ph, rd, th, lm, dy, wt) := by
      subst ev_5
      subst ev_6
      subst ev_7
      subst ev_8
      subst w_3
      show _ = mg_go (mg_rw S D ph pc &&& 7) (mg_rw S D ph pc) (S, D, R, K, pc, sc, ph, rd, th, lm, dy, wt)
      rw [o_9]
      rfl
    exact W.vret hx hb hr (fun t ht hW => ⟨⟨(S, D, upd R v_5.toNatClampNeg v_7, K, v_8 &&& 63, sc, ph, rd, th, lm, dy, wt), rfl, z_11, by rw [ht]; exact hP, va_K.moved hW.alike hK, hD⟩, hS.F ht⟩) hS.2.2 dX0_guestStep_232
  · refine lv_tableIn (off := 62) (tgt := 104) hx hb dX0_guestStep_42 (by rw [o_9]; decide) (by rw [o_9]; decide) (by rw [o_9]; rfl) (by decide) ?_
    refine lv_aload_n hx hb dX0_guestStep_104 rfl (lv_at hl 5 rfl) ?_
    refine va_get (D := (dC, dI)) (ci := 0) (v := .ref q3) (C := RX0) (T := TX0) (N := 12) hx hb hts inw_X0_guestStep hown hK hP 0 rfl rfl 2 (by decide) (hts (.fieldLink RX0 16 "Migrator" "registers" "[I") (by decide +kernel)) (fun _ h9 => h9) rfl dX0_guestStep_105 ?_
    refine lv_iload_n hx hb dX0_guestStep_108 rfl (lv_at hl 3 rfl) ?_
    refine lv_aload_n hx hb dX0_guestStep_109 rfl (lv_at hl 5 rfl) ?_
    refine lv_aload_n hx hb dX0_guestStep_110 rfl (lv_at hl 5 rfl) ?_
    refine va_get (D := (dC, dI)) (ci := 0) (v := .ref q3) (C := RX0) (T := TX0) (N := 12) hx hb hts inw_X0_guestStep hown hK hP 0 rfl rfl 2 (by decide) (hts (.fieldLink RX0 16 "Migrator" "registers" "[I") (by decide +kernel)) (fun _ h9 => h9) rfl dX0_guestStep_111 ?_
    refine lv_iload_n hx hb dX0_guestStep_114 rfl (lv_at hl 2 rfl) ?_
    refine va_iald hx hb hK hP 3 0 rfl rfl (by rw [ev_6]; exact in_3 _) dX0_guestStep_115 ?_
    refine lv_iload hx hb dX0_guestStep_116 (lv_at hl 1 rfl) ?_
    refine lv_iadd hx hb dX0_guestStep_118 ?_
    have hPc := hP.sub (ws' := [(h0, .inr (0, [.ref q1, .ref q2, .ref q3, .ref q4, .int pc, .int sc, .int ph, .int rd, .int th, .int lm, .int dy, .int wt])), (q1, .inl (cA, 64, .inl S)), (q2, .inl (cA, 64, .inl D)), (q3, .inl (cA, 4, .inl R)), (q4, .inl (cA, 8, .inl K))]) [0, 1, 2, 3, 4] rfl
    have hDc := hD.sub (ws' := [(h0, .inr (0, [.ref q1, .ref q2, .ref q3, .ref q4, .int pc, .int sc, .int ph, .int rd, .int th, .int lm, .int dy, .int wt])), (q1, .inl (cA, 64, .inl S)), (q2, .inl (cA, 64, .inl D)), (q3, .inl (cA, 4, .inl R)), (q4, .inl (cA, 8, .inl K))]) [0, 1, 2, 3, 4] (by decide) rfl
    have hKc := hK.sub (tys' := [(cA, .int)]) [0] rfl
    have hFc := va_free (wc := [(h0, .inr (0, [.ref q1, .ref q2, .ref q3, .ref q4, .int pc, .int sc, .int ph, .int rd, .int th, .int lm, .int dy, .int wt])), (q1, .inl (cA, 64, .inl S)), (q2, .inl (cA, 64, .inl D)), (q3, .inl (cA, 4, .inl R)), (q4, .inl (cA, 8, .inl K))]) hD hS hA [0, 1, 2, 3, 4] rfl
    refine va_calli (va_runV (As := [.int ((R v_6.toNatClampNeg) + v_7)]) (rest := [.int v_5, .ref q3]) ⟨hx, hb, hml, hown, hts⟩ (c_X0_readWord l dC dI h0 q1 q2 q3 q4 cA S D R K pc sc ph rd th lm dy wt ((R v_6.toNatClampNeg) + v_7) H.size) (cwV 1 hts gX0_guestStep_X0_readWord rfl rfl rfl (by decide +kernel) ⟨Nat.le_of_ble_eq_true rfl, Nat.le_of_ble_eq_true rfl⟩) ⟨fun a U g mk q => by obtain ⟨q0, q1, qP, qK, qD⟩ := q; exact ⟨q0, q1, qP, va_K.moved (u := U) (U := U.calling g mk a) (Vm.Alike.refl U.vm) qK, qD⟩, va_recv hKc hPc (ci := 0) (q0 := 0) rfl rfl, fun U hU hW => ⟨rfl, by rw [hU], by rw [hU]; exact hPc, va_K.moved hW.alike hKc, hDc.weaken (fun _ _ _ _ => trivial)⟩⟩ rfl rfl hl.1 rfl (lv_room (Nat.le_of_ble_eq_true rfl)) dX0_guestStep_119 ⟨(Nat.zero_le _), (Nat.zero_le _)⟩) hS (fun q _ h => hFc q h) hFc (fun r_12 u_13 t H1 locs ht hvm w_14 hB hz1 hk1 hS => ?_)
    obtain ⟨w_14, e_15⟩ := w_14
    subst e_15
    obtain ⟨hP1, hK1, hD1⟩ := hB
    rw [ht] at hP1
    obtain ⟨hP, hD⟩ := va_join (wr := []) (w1 := [(h0, .inr (0, [.ref q1, .ref q2, .ref q3, .ref q4, .int pc, .int sc, .int ph, .int rd, .int th, .int lm, .int dy, .int wt])), (q1, .inl (cA, 64, .inl S)), (q2, .inl (cA, 64, .inl D)), (q3, .inl (cA, 4, .inl R)), (q4, .inl (cA, 8, .inl K))]) hP hD [0, 1, 2, 3, 4] [] rfl rfl (by decide) (by decide) hk1 hFc hP1 hD1
    clear hPc hDc hFc hP1 hD1 hk1 hK1
    generalize H1 = H at hP hS ⊢
    have hP : va_P (dC, dI) vwCl [(h0, .inr (0, [.ref q1, .ref q2, .ref q3, .ref q4, .int pc, .int sc, .int ph, .int rd, .int th, .int lm, .int dy, .int wt])), (q1, .inl (cA, 64, .inl S)), (q2, .inl (cA, 64, .inl D)), (q3, .inl (cA, 4, .inl R)), (q4, .inl (cA, 8, .inl K))] H := hP
    have hD : va_D A [(h0, .inr (0, [.ref q1, .ref q2, .ref q3, .ref q4, .int pc, .int sc, .int ph, .int rd, .int th, .int lm, .int dy, .int wt])), (q1, .inl (cA, 64, .inl S)), (q2, .inl (cA, 64, .inl D)), (q3, .inl (cA, 4, .inl R)), (q4, .inl (cA, 8, .inl K))] := hD
    refine va_iast hx hb hK hP hD hS 3 0 rfl rfl (by rw [ev_5]; exact in_3 _) dX0_guestStep_122 (fun H locs hP hD hS => ?_)
    have hP : va_P (dC, dI) vwCl [(h0, .inr (0, [.ref q1, .ref q2, .ref q3, .ref q4, .int pc, .int sc, .int ph, .int rd, .int th, .int lm, .int dy, .int wt])), (q1, .inl (cA, 64, .inl S)), (q2, .inl (cA, 64, .inl D)), (q3, .inl (cA, 4, .inl (upd R v_5.toNatClampNeg r_12))), (q4, .inl (cA, 8, .inl K))] H := hP
    have hD : va_D A [(h0, .inr (0, [.ref q1, .ref q2, .ref q3, .ref q4, .int pc, .int sc, .int ph, .int rd, .int th, .int lm, .int dy, .int wt])), (q1, .inl (cA, 64, .inl S)), (q2, .inl (cA, 64, .inl D)), (q3, .inl (cA, 4, .inl (upd R v_5.toNatClampNeg r_12))), (q4, .inl (cA, 8, .inl K))] := hD
    refine lv_goto (tgt := 223) hx hb dX0_guestStep_123 (by decide) ?_
    refine lv_aload_n hx hb dX0_guestStep_223 rfl (lv_at hl 5 rfl) ?_
    refine lv_iload hx hb dX0_guestStep_224 (lv_at hl 0 rfl) ?_
    refine lv_bipush (v := 63) hx hb dX0_guestStep_226 (by decide) ?_
    refine lv_iand hx hb dX0_guestStep_228 ?_
    refine va_put (D := (dC, dI)) (ci := 0) (v := .int (v_8 &&& 63)) (ty := .int) (C := RX0) (T := TX0) (N := 12) hx hb hts inw_X0_guestStep tyX0 tyX0_ok nmX0 hown hK hP hD hS 0 rfl rfl 4 (by decide) (hts (.fieldLink RX0 22 "Migrator" "programCounter" "I") (by decide +kernel)) (fun _ h9 => h9) rfl (by decide +kernel) rfl rfl (Nat.le_of_ble_eq_true rfl) dX0_guestStep_229 (fun H locs hP hD hS => ?_)
    have hP : va_P (dC, dI) vwCl [(h0, .inr (0, [.ref q1, .ref q2, .ref q3, .ref q4, .int (v_8 &&& 63), .int sc, .int ph, .int rd, .int th, .int lm, .int dy, .int wt])), (q1, .inl (cA, 64, .inl S)), (q2, .inl (cA, 64, .inl D)), (q3, .inl (cA, 4, .inl (upd R v_5.toNatClampNeg r_12))), (q4, .inl (cA, 8, .inl K))] H := hP
    have hD : va_D A [(h0, .inr (0, [.ref q1, .ref q2, .ref q3, .ref q4, .int (v_8 &&& 63), .int sc, .int ph, .int rd, .int th, .int lm, .int dy, .int wt])), (q1, .inl (cA, 64, .inl S)), (q2, .inl (cA, 64, .inl D)), (q3, .inl (cA, 4, .inl (upd R v_5.toNatClampNeg r_12))), (q4, .inl (cA, 8, .inl K))] := hD
    have z_16 : (S, D, upd R v_5.toNatClampNeg r_12, K, v_8 &&& 63, sc, ph, rd, th, lm, dy, wt) = mg_step (S, D, R, K, pc, sc, ph, rd, th, lm, dy, wt) := by
      subst ev_5
      subst ev_6
      subst ev_7
      subst ev_8
      subst w_3
      subst w_14
      show _ = mg_go (mg_rw S D ph pc &&& 7) (mg_rw S D ph pc) (S, D, R, K, pc, sc, ph, rd, th, lm, dy, wt)
      rw [o_9]
      rfl
    exact W.vret hx hb hr (fun t ht hW => ⟨⟨(S, D, upd R v_5.toNatClampNeg r_12, K, v_8 &&& 63, sc, ph, rd, th, lm, dy, wt), rfl, z_16, by rw [ht]; exact hP, va_K.moved hW.alike hK, hD⟩, hS.F ht⟩) hS.2.2 dX0_guestStep_232
  · refine lv_tableIn (off := 84) (tgt := 126) hx hb dX0_guestStep_42 (by rw [o_9]; decide) (by rw [o_9]; decide) (by rw [o_9]; rfl) (by decide) ?_
    refine lv_aload_n hx hb dX0_guestStep_126 rfl (lv_at hl 5 rfl) ?_
    refine lv_aload_n hx hb dX0_guestStep_127 rfl (lv_at hl 5 rfl) ?_
    refine va_get (D := (dC, dI)) (ci := 0) (v := .ref q3) (C := RX0) (T := TX0) (N := 12) hx hb hts inw_X0_guestStep hown hK hP 0 rfl rfl 2 (by decide) (hts (.fieldLink RX0 16 "Migrator" "registers" "[I") (by decide +kernel)) (fun _ h9 => h9) rfl dX0_guestStep_128 ?_
    refine lv_iload_n hx hb dX0_guestStep_131 rfl (lv_at hl 2 rfl) ?_
    refine va_iald hx hb hK hP 3 0 rfl rfl (by rw [ev_6]; exact in_3 _) dX0_guestStep_132 ?_
    refine lv_iload hx hb dX0_guestStep_133 (lv_at hl 1 rfl) ?_
    refine lv_iadd hx hb dX0_guestStep_135 ?_
    refine lv_aload_n hx hb dX0_guestStep_136 rfl (lv_at hl 5 rfl) ?_
    refine va_get (D := (dC, dI)) (ci := 0) (v := .ref q3) (C := RX0) (T := TX0) (N := 12) hx hb hts inw_X0_guestStep hown hK hP 0 rfl rfl 2 (by decide) (hts (.fieldLink RX0 16 "Migrator" "registers" "[I") (by decide +kernel)) (fun _ h9 => h9) rfl dX0_guestStep_137 ?_
    refine lv_iload_n hx hb dX0_guestStep_140 rfl (lv_at hl 3 rfl) ?_
    refine va_iald hx hb hK hP 3 0 rfl rfl (by rw [ev_5]; exact in_3 _) dX0_guestStep_141 ?_
    have hPc := hP.sub (ws' := [(h0, .inr (0, [.ref q1, .ref q2, .ref q3, .ref q4, .int pc, .int sc, .int ph, .int rd, .int th, .int lm, .int dy, .int wt])), (q1, .inl (cA, 64, .inl S)), (q2, .inl (cA, 64, .inl D)), (q3, .inl (cA, 4, .inl R)), (q4, .inl (cA, 8, .inl K))]) [0, 1, 2, 3, 4] rfl
    have hDc := hD.sub (ws' := [(h0, .inr (0, [.ref q1, .ref q2, .ref q3, .ref q4, .int pc, .int sc, .int ph, .int rd, .int th, .int lm, .int dy, .int wt])), (q1, .inl (cA, 64, .inl S)), (q2, .inl (cA, 64, .inl D)), (q3, .inl (cA, 4, .inl R)), (q4, .inl (cA, 8, .inl K))]) [0, 1, 2, 3, 4] (by decide) rfl
    have hKc := hK.sub (tys' := [(cA, .int)]) [0] rfl
    have hFc := va_free (wc := [(h0, .inr (0, [.ref q1, .ref q2, .ref q3, .ref q4, .int pc, .int sc, .int ph, .int rd, .int th, .int lm, .int dy, .int wt])), (q1, .inl (cA, 64, .inl S)), (q2, .inl (cA, 64, .inl D)), (q3, .inl (cA, 4, .inl R)), (q4, .inl (cA, 8, .inl K))]) hD hS hA [0, 1, 2, 3, 4] rfl
    refine va_callv (va_runV (As := [.int ((R v_6.toNatClampNeg) + v_7), .int (R v_5.toNatClampNeg)]) (rest := []) ⟨hx, hb, hml, hown, hts⟩ (c_X0_writeWord l dC dI h0 q1 q2 q3 q4 cA S D R K pc sc ph rd th lm dy wt ((R v_6.toNatClampNeg) + v_7) (R v_5.toNatClampNeg) H.size) (cwV 2 hts gX0_guestStep_X0_writeWord rfl rfl rfl (by decide +kernel) ⟨Nat.le_of_ble_eq_true rfl, Nat.le_of_ble_eq_true rfl⟩) ⟨fun a U g mk q => by obtain ⟨q0, q1, qP, qK, qD⟩ := q; exact ⟨q0, q1, qP, va_K.moved (u := U) (U := U.calling g mk a) (Vm.Alike.refl U.vm) qK, qD⟩, va_recv hKc hPc (ci := 0) (q0 := 0) rfl rfl, fun U hU hW => ⟨rfl, by rw [hU], by rw [hU]; exact hPc, va_K.moved hW.alike hKc, hDc.weaken (fun _ _ _ _ => trivial)⟩⟩ rfl rfl hl.1 rfl (lv_room (Nat.le_of_ble_eq_true rfl)) dX0_guestStep_142 ⟨(Nat.zero_le _), (Nat.zero_le _)⟩) hS (fun q _ h => hFc q h) hFc (fun u_17 t H1 locs ht hvm w_18 hB hz1 hk1 hS => ?_)
    subst w_18
    obtain ⟨hP1, hK1, hD1⟩ := hB
    rw [ht] at hP1
    obtain ⟨hP, hD⟩ := va_join (wr := []) (w1 := [(h0, .inr (0, [.ref q1, .ref q2, .ref q3, .ref q4, .int pc, .int sc, .int ph, .int rd, .int th, .int lm, .int ((mg_ww S D ph dy ((R v_6.toNatClampNeg) + v_7) (R v_5.toNatClampNeg)).2.2), .int wt])), (q1, .inl (cA, 64, .inl ((mg_ww S D ph dy ((R v_6.toNatClampNeg) + v_7) (R v_5.toNatClampNeg)).1))), (q2, .inl (cA, 64, .inl ((mg_ww S D ph dy ((R v_6.toNatClampNeg) + v_7) (R v_5.toNatClampNeg)).2.1))), (q3, .inl (cA, 4, .inl R)), (q4, .inl (cA, 8, .inl K))]) hP hD [0, 1, 2, 3, 4] [] rfl rfl (by decide) (by decide) hk1 hFc hP1 hD1
    clear hPc hDc hFc hP1 hD1 hk1 hK1
    generalize H1 = H at hP hS ⊢
    have hP : va_P (dC, dI) vwCl [(h0, .inr (0, [.ref q1, .ref q2, .ref q3, .ref q4, .int pc, .int sc, .int ph, .int rd, .int th, .int lm, .int ((mg_ww S D ph dy ((R v_6.toNatClampNeg) + v_7) (R v_5.toNatClampNeg)).2.2), .int wt])), (q1, .inl (cA, 64, .inl ((mg_ww S D ph dy ((R v_6.toNatClampNeg) + v_7) (R v_5.toNatClampNeg)).1))), (q2, .inl (cA, 64, .inl ((mg_ww S D ph dy ((R v_6.toNatClampNeg) + v_7) (R v_5.toNatClampNeg)).2.1))), (q3, .inl (cA, 4, .inl R)), (q4, .inl (cA, 8, .inl K))] H := hP
    have hD : va_D A [(h0, .inr (0, [.ref q1, .ref q2, .ref q3, .ref q4, .int pc, .int sc, .int ph, .int rd, .int th, .int lm, .int ((mg_ww S D ph dy ((R v_6.toNatClampNeg) + v_7) (R v_5.toNatClampNeg)).2.2), .int wt])), (q1, .inl (cA, 64, .inl ((mg_ww S D ph dy ((R v_6.toNatClampNeg) + v_7) (R v_5.toNatClampNeg)).1))), (q2, .inl (cA, 64, .inl ((mg_ww S D ph dy ((R v_6.toNatClampNeg) + v_7) (R v_5.toNatClampNeg)).2.1))), (q3, .inl (cA, 4, .inl R)), (q4, .inl (cA, 8, .inl K))] := hD
    refine lv_goto (tgt := 223) hx hb dX0_guestStep_145 (by decide) ?_
    refine lv_aload_n hx hb dX0_guestStep_223 rfl (lv_at hl 5 rfl) ?_
    refine lv_iload hx hb dX0_guestStep_224 (lv_at hl 0 rfl) ?_
    refine lv_bipush (v := 63) hx hb dX0_guestStep_226 (by decide) ?_
    refine lv_iand hx hb dX0_guestStep_228 ?_
    refine va_put (D := (dC, dI)) (ci := 0) (v := .int (v_8 &&& 63)) (ty := .int) (C := RX0) (T := TX0) (N := 12) hx hb hts inw_X0_guestStep tyX0 tyX0_ok nmX0 hown hK hP hD hS 0 rfl rfl 4 (by decide) (hts (.fieldLink RX0 22 "Migrator" "programCounter" "I") (by decide +kernel)) (fun _ h9 => h9) rfl (by decide +kernel) rfl rfl (Nat.le_of_ble_eq_true rfl) dX0_guestStep_229 (fun H locs hP hD hS => ?_)
    have hP : va_P (dC, dI) vwCl [(h0, .inr (0, [.ref q1, .ref q2, .ref q3, .ref q4, .int (v_8 &&& 63), .int sc, .int ph, .int rd, .int th, .int lm, .int ((mg_ww S D ph dy ((R v_6.toNatClampNeg) + v_7) (R v_5.toNatClampNeg)).2.2), .int wt])), (q1, .inl (cA, 64, .inl ((mg_ww S D ph dy ((R v_6.toNatClampNeg) + v_7) (R v_5.toNatClampNeg)).1))), (q2, .inl (cA, 64, .inl ((mg_ww S D ph dy ((R v_6.toNatClampNeg) + v_7) (R v_5.toNatClampNeg)).2.1))), (q3, .inl (cA, 4, .inl R)), (q4, .inl (cA, 8, .inl K))] H := hP
    have hD : va_D A [(h0, .inr (0, [.ref q1, .ref q2, .ref q3, .ref q4, .int (v_8 &&& 63), .int sc, .int ph, .int rd, .int th, .int lm, .int ((mg_ww S D ph dy ((R v_6.toNatClampNeg) + v_7) (R v_5.toNatClampNeg)).2.2), .int wt])), (q1, .inl (cA, 64, .inl ((mg_ww S D ph dy ((R v_6.toNatClampNeg) + v_7) (R v_5.toNatClampNeg)).1))), (q2, .inl (cA, 64, .inl ((mg_ww S D ph dy ((R v_6.toNatClampNeg) + v_7) (R v_5.toNatClampNeg)).2.1))), (q3, .inl (cA, 4, .inl R)), (q4, .inl (cA, 8, .inl K))] := hD
    have z_19 : ((mg_ww S D ph dy ((R v_6.toNatClampNeg) + v_7) (R v_5.toNatClampNeg)).1, (mg_ww S D ph dy ((R v_6.toNatClampNeg) + v_7) (R v_5.toNatClampNeg)).2.1, R, K, v_8 &&& 63, sc, ph, rd, th, lm, (mg_ww S D ph dy ((R v_6.toNatClampNeg) + v_7) (R v_5.toNatClampNeg)).2.2, wt) = mg_step (S, D, R, K, pc, sc, ph, rd, th, lm, dy, wt) := by
      subst ev_5
      subst ev_6
      subst ev_7
      subst ev_8
      subst w_3
      show _ = mg_go (mg_rw S D ph pc &&& 7) (mg_rw S D ph pc) (S, D, R, K, pc, sc, ph, rd, th, lm, dy, wt)
      rw [o_9]
      rfl
    exact W.vret hx hb hr (fun t ht hW => ⟨⟨((mg_ww S D ph dy ((R v_6.toNatClampNeg) + v_7) (R v_5.toNatClampNeg)).1, (mg_ww S D ph dy ((R v_6.toNatClampNeg) + v_7) (R v_5.toNatClampNeg)).2.1, R, K, v_8 &&& 63, sc, ph, rd, th, lm, (mg_ww S D ph dy ((R v_6.toNatClampNeg) + v_7) (R v_5.toNatClampNeg)).2.2, wt), rfl, z_19, by rw [ht]; exact hP, va_K.moved hW.alike hK, hD⟩, hS.F ht⟩) hS.2.2 dX0_guestStep_232
  · refine lv_tableIn (off := 106) (tgt := 148) hx hb dX0_guestStep_42 (by rw [o_9]; decide) (by rw [o_9]; decide) (by rw [o_9]; rfl) (by decide) ?_
    refine lv_aload_n hx hb dX0_guestStep_148 rfl (lv_at hl 5 rfl) ?_
    refine va_get (D := (dC, dI)) (ci := 0) (v := .ref q3) (C := RX0) (T := TX0) (N := 12) hx hb hts inw_X0_guestStep hown hK hP 0 rfl rfl 2 (by decide) (hts (.fieldLink RX0 16 "Migrator" "registers" "[I") (by decide +kernel)) (fun _ h9 => h9) rfl dX0_guestStep_149 ?_
    refine lv_iload_n hx hb dX0_guestStep_152 rfl (lv_at hl 3 rfl) ?_
    refine lv_aload_n hx hb dX0_guestStep_153 rfl (lv_at hl 5 rfl) ?_
    refine va_get (D := (dC, dI)) (ci := 0) (v := .ref q3) (C := RX0) (T := TX0) (N := 12) hx hb hts inw_X0_guestStep hown hK hP 0 rfl rfl 2 (by decide) (hts (.fieldLink RX0 16 "Migrator" "registers" "[I") (by decide +kernel)) (fun _ h9 => h9) rfl dX0_guestStep_154 ?_
    refine lv_iload_n hx hb dX0_guestStep_157 rfl (lv_at hl 3 rfl) ?_
    refine va_iald hx hb hK hP 3 0 rfl rfl (by rw [ev_5]; exact in_3 _) dX0_guestStep_158 ?_
    refine lv_aload_n hx hb dX0_guestStep_159 rfl (lv_at hl 5 rfl) ?_
    refine va_get (D := (dC, dI)) (ci := 0) (v := .ref q3) (C := RX0) (T := TX0) (N := 12) hx hb hts inw_X0_guestStep hown hK hP 0 rfl rfl 2 (by decide) (hts (.fieldLink RX0 16 "Migrator" "registers" "[I") (by decide +kernel)) (fun _ h9 => h9) rfl dX0_guestStep_160 ?_
    refine lv_iload_n hx hb dX0_guestStep_163 rfl (lv_at hl 2 rfl) ?_
    refine va_iald hx hb hK hP 3 0 rfl rfl (by rw [ev_6]; exact in_3 _) dX0_guestStep_164 ?_
    refine lv_iadd hx hb dX0_guestStep_165 ?_
    refine va_iast hx hb hK hP hD hS 3 0 rfl rfl (by rw [ev_5]; exact in_3 _) dX0_guestStep_166 (fun H locs hP hD hS => ?_)
    have hP : va_P (dC, dI) vwCl [(h0, .inr (0, [.ref q1, .ref q2, .ref q3, .ref q4, .int pc, .int sc, .int ph, .int rd, .int th, .int lm, .int dy, .int wt])), (q1, .inl (cA, 64, .inl S)), (q2, .inl (cA, 64, .inl D)), (q3, .inl (cA, 4, .inl (upd R v_5.toNatClampNeg ((R v_5.toNatClampNeg) + (R v_6.toNatClampNeg))))), (q4, .inl (cA, 8, .inl K))] H := hP
    have hD : va_D A [(h0, .inr (0, [.ref q1, .ref q2, .ref q3, .ref q4, .int pc, .int sc, .int ph, .int rd, .int th, .int lm, .int dy, .int wt])), (q1, .inl (cA, 64, .inl S)), (q2, .inl (cA, 64, .inl D)), (q3, .inl (cA, 4, .inl (upd R v_5.toNatClampNeg ((R v_5.toNatClampNeg) + (R v_6.toNatClampNeg))))), (q4, .inl (cA, 8, .inl K))] := hD
    refine lv_goto (tgt := 223) hx hb dX0_guestStep_167 (by decide) ?_
    refine lv_aload_n hx hb dX0_guestStep_223 rfl (lv_at hl 5 rfl) ?_
    refine lv_iload hx hb dX0_guestStep_224 (lv_at hl 0 rfl) ?_
    refine lv_bipush (v := 63) hx hb dX0_guestStep_226 (by decide) ?_
    refine lv_iand hx hb dX0_guestStep_228 ?_
    refine va_put (D := (dC, dI)) (ci := 0) (v := .int (v_8 &&& 63)) (ty := .int) (C := RX0) (T := TX0) (N := 12) hx hb hts inw_X0_guestStep tyX0 tyX0_ok nmX0 hown hK hP hD hS 0 rfl rfl 4 (by decide) (hts (.fieldLink RX0 22 "Migrator" "programCounter" "I") (by decide +kernel)) (fun _ h9 => h9) rfl (by decide +kernel) rfl rfl (Nat.le_of_ble_eq_true rfl) dX0_guestStep_229 (fun H locs hP hD hS => ?_)
    have hP : va_P (dC, dI) vwCl [(h0, .inr (0, [.ref q1, .ref q2, .ref q3, .ref q4, .int (v_8 &&& 63), .int sc, .int ph, .int rd, .int th, .int lm, .int dy, .int wt])), (q1, .inl (cA, 64, .inl S)), (q2, .inl (cA, 64, .inl D)), (q3, .inl (cA, 4, .inl (upd R v_5.toNatClampNeg ((R v_5.toNatClampNeg) + (R v_6.toNatClampNeg))))), (q4, .inl (cA, 8, .inl K))] H := hP
    have hD : va_D A [(h0, .inr (0, [.ref q1, .ref q2, .ref q3, .ref q4, .int (v_8 &&& 63), .int sc, .int ph, .int rd, .int th, .int lm, .int dy, .int wt])), (q1, .inl (cA, 64, .inl S)), (q2, .inl (cA, 64, .inl D)), (q3, .inl (cA, 4, .inl (upd R v_5.toNatClampNeg ((R v_5.toNatClampNeg) + (R v_6.toNatClampNeg))))), (q4, .inl (cA, 8, .inl K))] := hD
    have z_20 : (S, D, upd R v_5.toNatClampNeg ((R v_5.toNatClampNeg) + (R v_6.toNatClampNeg)), K, v_8 &&& 63, sc, ph, rd, th, lm, dy, wt) = mg_step (S, D, R, K, pc, sc, ph, rd, th, lm, dy, wt) := by
      subst ev_5
      subst ev_6
      subst ev_7
      subst ev_8
      subst w_3
      show _ = mg_go (mg_rw S D ph pc &&& 7) (mg_rw S D ph pc) (S, D, R, K, pc, sc, ph, rd, th, lm, dy, wt)
      rw [o_9]
      rfl
    exact W.vret hx hb hr (fun t ht hW => ⟨⟨(S, D, upd R v_5.toNatClampNeg ((R v_5.toNatClampNeg) + (R v_6.toNatClampNeg)), K, v_8 &&& 63, sc, ph, rd, th, lm, dy, wt), rfl, z_20, by rw [ht]; exact hP, va_K.moved hW.alike hK, hD⟩, hS.F ht⟩) hS.2.2 dX0_guestStep_232
  · refine lv_tableIn (off := 128) (tgt := 170) hx hb dX0_guestStep_42 (by rw [o_9]; decide) (by rw [o_9]; decide) (by rw [o_9]; rfl) (by decide) ?_
    refine lv_aload_n hx hb dX0_guestStep_170 rfl (lv_at hl 5 rfl) ?_
    refine va_get (D := (dC, dI)) (ci := 0) (v := .ref q3) (C := RX0) (T := TX0) (N := 12) hx hb hts inw_X0_guestStep hown hK hP 0 rfl rfl 2 (by decide) (hts (.fieldLink RX0 16 "Migrator" "registers" "[I") (by decide +kernel)) (fun _ h9 => h9) rfl dX0_guestStep_171 ?_
    refine lv_iload_n hx hb dX0_guestStep_174 rfl (lv_at hl 3 rfl) ?_
    refine lv_aload_n hx hb dX0_guestStep_175 rfl (lv_at hl 5 rfl) ?_
    refine va_get (D := (dC, dI)) (ci := 0) (v := .ref q3) (C := RX0) (T := TX0) (N := 12) hx hb hts inw_X0_guestStep hown hK hP 0 rfl rfl 2 (by decide) (hts (.fieldLink RX0 16 "Migrator" "registers" "[I") (by decide +kernel)) (fun _ h9 => h9) rfl dX0_guestStep_176 ?_
    refine lv_iload_n hx hb dX0_guestStep_179 rfl (lv_at hl 3 rfl) ?_
    refine va_iald hx hb hK hP 3 0 rfl rfl (by rw [ev_5]; exact in_3 _) dX0_guestStep_180 ?_
    refine lv_aload_n hx hb dX0_guestStep_181 rfl (lv_at hl 5 rfl) ?_
    refine va_get (D := (dC, dI)) (ci := 0) (v := .ref q3) (C := RX0) (T := TX0) (N := 12) hx hb hts inw_X0_guestStep hown hK hP 0 rfl rfl 2 (by decide) (hts (.fieldLink RX0 16 "Migrator" "registers" "[I") (by decide +kernel)) (fun _ h9 => h9) rfl dX0_guestStep_182 ?_
    refine lv_iload_n hx hb dX0_guestStep_185 rfl (lv_at hl 2 rfl) ?_
    refine va_iald hx hb hK hP 3 0 rfl rfl (by rw [ev_6]; exact in_3 _) dX0_guestStep_186 ?_
    refine lv_isub hx hb dX0_guestStep_187 ?_
    refine va_iast hx hb hK hP hD hS 3 0 rfl rfl (by rw [ev_5]; exact in_3 _) dX0_guestStep_188 (fun H locs hP hD hS => ?_)
    have hP : va_P (dC, dI) vwCl [(h0, .inr (0, [.ref q1, .ref q2, .ref q3, .ref q4, .int pc, .int sc, .int ph, .int rd, .int th, .int lm, .int dy, .int wt])), (q1, .inl (cA, 64, .inl S)), (q2, .inl (cA, 64, .inl D)), (q3, .inl (cA, 4, .inl (upd R v_5.toNatClampNeg ((R v_5.toNatClampNeg) - (R v_6.toNatClampNeg))))), (q4, .inl (cA, 8, .inl K))] H := hP
    have hD : va_D A [(h0, .inr (0, [.ref q1, .ref q2, .ref q3, .ref q4, .int pc, .int sc, .int ph, .int rd, .int th, .int lm, .int dy, .int wt])), (q1, .inl (cA, 64, .inl S)), (q2, .inl (cA, 64, .inl D)), (q3, .inl (cA, 4, .inl (upd R v_5.toNatClampNeg ((R v_5.toNatClampNeg) - (R v_6.toNatClampNeg))))), (q4, .inl (cA, 8, .inl K))] := hD
    refine lv_goto (tgt := 223) hx hb dX0_guestStep_189 (by decide) ?_
    refine lv_aload_n hx hb dX0_guestStep_223 rfl (lv_at hl 5 rfl) ?_
    refine lv_iload hx hb dX0_guestStep_224 (lv_at hl 0 rfl) ?_
    refine lv_bipush (v := 63) hx hb dX0_guestStep_226 (by decide) ?_
    refine lv_iand hx hb dX0_guestStep_228 ?_
    refine va_put (D := (dC, dI)) (ci := 0) (v := .int (v_8 &&& 63)) (ty := .int) (C := RX0) (T := TX0) (N := 12) hx hb hts inw_X0_guestStep tyX0 tyX0_ok nmX0 hown hK hP hD hS 0 rfl rfl 4 (by decide) (hts (.fieldLink RX0 22 "Migrator" "programCounter" "I") (by decide +kernel)) (fun _ h9 => h9) rfl (by decide +kernel) rfl rfl (Nat.le_of_ble_eq_true rfl) dX0_guestStep_229 (fun H locs hP hD hS => ?_)
    have hP : va_P (dC, dI) vwCl [(h0, .inr (0, [.ref q1, .ref q2, .ref q3, .ref q4, .int (v_8 &&& 63), .int sc, .int ph, .int rd, .int th, .int lm, .int dy, .int wt])), (q1, .inl (cA, 64, .inl S)), (q2, .inl (cA, 64, .inl D)), (q3, .inl (cA, 4, .inl (upd R v_5.toNatClampNeg ((R v_5.toNatClampNeg) - (R v_6.toNatClampNeg))))), (q4, .inl (cA, 8, .inl K))] H := hP
    have hD : va_D A [(h0, .inr (0, [.ref q1, .ref q2, .ref q3, .ref q4, .int (v_8 &&& 63), .int sc, .int ph, .int rd, .int th, .int lm, .int dy, .int wt])), (q1, .inl (cA, 64, .inl S)), (q2, .inl (cA, 64, .inl D)), (q3, .inl (cA, 4, .inl (upd R v_5.toNatClampNeg ((R v_5.toNatClampNeg) - (R v_6.toNatClampNeg))))), (q4, .inl (cA, 8, .inl K))] := hD
    have z_21 : (S, D, upd R v_5.toNatClampNeg ((R v_5.toNatClampNeg) - (R v_6.toNatClampNeg)), K, v_8 &&& 63, sc, ph, rd, th, lm, dy, wt) = mg_step (S, D, R, K, pc, sc, ph, rd, th, lm, dy, wt) := by
      subst ev_5
      subst ev_6
      subst ev_7
      subst ev_8
      subst w_3
      show _ = mg_go (mg_rw S D ph pc &&& 7) (mg_rw S D ph pc) (S, D, R, K, pc, sc, ph, rd, th, lm, dy, wt)
      rw [o_9]
      rfl
    exact W.vret hx hb hr (fun t ht hW => ⟨⟨(S, D, upd R v_5.toNatClampNeg ((R v_5.toNatClampNeg) - (R v_6.toNatClampNeg)), K, v_8 &&& 63, sc, ph, rd, th, lm, dy, wt), rfl, z_21, by rw [ht]; exact hP, va_K.moved hW.alike hK, hD⟩, hS.F ht⟩) hS.2.2 dX0_guestStep_232
  · refine lv_tableIn (off := 150) (tgt := 192) hx hb dX0_guestStep_42 (by rw [o_9]; decide) (by rw [o_9]; decide) (by rw [o_9]; rfl) (by decide) ?_
    refine lv_aload_n hx hb dX0_guestStep_192 rfl (lv_at hl 5 rfl) ?_
    refine va_get (D := (dC, dI)) (ci := 0) (v := .ref q3) (C := RX0) (T := TX0) (N := 12) hx hb hts inw_X0_guestStep hown hK hP 0 rfl rfl 2 (by decide) (hts (.fieldLink RX0 16 "Migrator" "registers" "[I") (by decide +kernel)) (fun _ h9 => h9) rfl dX0_guestStep_193 ?_
    refine lv_iload_n hx hb dX0_guestStep_196 rfl (lv_at hl 3 rfl) ?_
    refine va_iald hx hb hK hP 3 0 rfl rfl (by rw [ev_5]; exact in_3 _) dX0_guestStep_197 ?_
    refine lv_if_eq (tgt := 206) hx hb dX0_guestStep_198 (by decide) (fun c_22 => ?_) (fun c_22 => ?_)
    · refine lv_iload hx hb dX0_guestStep_206 (lv_at hl 0 rfl) ?_
      refine lv_istore (lv' := [(5, .int v_8), (4, .int v_7), (3, .int v_6), (2, .int v_5), (1, .int r_1), (0, .ref h0)]) hx hb dX0_guestStep_208 hl (by decide) rfl (fun ls hl => ?_)
      refine lv_goto (tgt := 223) hx hb dX0_guestStep_210 (by decide) ?_
      refine lv_aload_n hx hb dX0_guestStep_223 rfl (lv_at hl 5 rfl) ?_
      refine lv_iload hx hb dX0_guestStep_224 (lv_at hl 0 rfl) ?_
      refine lv_bipush (v := 63) hx hb dX0_guestStep_226 (by decide) ?_
      refine lv_iand hx hb dX0_guestStep_228 ?_
      refine va_put (D := (dC, dI)) (ci := 0) (v := .int (v_8 &&& 63)) (ty := .int) (C := RX0) (T := TX0) (N := 12) hx hb hts inw_X0_guestStep tyX0 tyX0_ok nmX0 hown hK hP hD hS 0 rfl rfl 4 (by decide) (hts (.fieldLink RX0 22 "Migrator" "programCounter" "I") (by decide +kernel)) (fun _ h9 => h9) rfl (by decide +kernel) rfl rfl (Nat.le_of_ble_eq_true rfl) dX0_guestStep_229 (fun H locs hP hD hS => ?_)
      have hP : va_P (dC, dI) vwCl [(h0, .inr (0, [.ref q1, .ref q2, .ref q3, .ref q4, .int (v_8 &&& 63), .int sc, .int ph, .int rd, .int th, .int lm, .int dy, .int wt])), (q1, .inl (cA, 64, .inl S)), (q2, .inl (cA, 64, .inl D)), (q3, .inl (cA, 4, .inl R)), (q4, .inl (cA, 8, .inl K))] H := hP
      have hD : va_D A [(h0, .inr (0, [.ref q1, .ref q2, .ref q3, .ref q4, .int (v_8 &&& 63), .int sc, .int ph, .int rd, .int th, .int lm, .int dy, .int wt])), (q1, .inl (cA, 64, .inl S)), (q2, .inl (cA, 64, .inl D)), (q3, .inl (cA, 4, .inl R)), (q4, .inl (cA, 8, .inl K))] := hD
      have z_23 : (S, D, R, K, v_8 &&& 63, sc, ph, rd, th, lm, dy, wt) = mg_step (S, D, R, K, pc, sc, ph, rd, th, lm, dy, wt) := by
        subst ev_5
        subst ev_6
        subst ev_7
        subst ev_8
        subst w_3
        show _ = mg_go (mg_rw S D ph pc &&& 7) (mg_rw S D ph pc) (S, D, R, K, pc, sc, ph, rd, th, lm, dy, wt)
        rw [o_9]
        show _ = (S, D, R, K, (if R (mg_a (mg_rw S D ph pc)).toNatClampNeg = 0 then pc + 1 else mg_k (mg_rw S D ph pc)) &&& 63, sc, ph, rd, th, lm, dy, wt)
        rw [if_pos c_22]
      exact W.vret hx hb hr (fun t ht hW => ⟨⟨(S, D, R, K, v_8 &&& 63, sc, ph, rd, th, lm, dy, wt), rfl, z_23, by rw [ht]; exact hP, va_K.moved hW.alike hK, hD⟩, hS.F ht⟩) hS.2.2 dX0_guestStep_232
    · refine lv_iload hx hb dX0_guestStep_201 (lv_at hl 1 rfl) ?_
      refine lv_goto (tgt := 208) hx hb dX0_guestStep_203 (by decide) ?_
      refine lv_istore (lv' := [(5, .int v_7), (4, .int v_7), (3, .int v_6), (2, .int v_5), (1, .int r_1), (0, .ref h0)]) hx hb dX0_guestStep_208 hl (by decide) rfl (fun ls hl => ?_)
      refine lv_goto (tgt := 223) hx hb dX0_guestStep_210 (by decide) ?_
      refine lv_aload_n hx hb dX0_guestStep_223 rfl (lv_at hl 5 rfl) ?_
      refine lv_iload hx hb dX0_guestStep_224 (lv_at hl 0 rfl) ?_
      refine lv_bipush (v := 63) hx hb dX0_guestStep_226 (by decide) ?_
      refine lv_iand hx hb dX0_guestStep_228 ?_
      refine va_put (D := (dC, dI)) (ci := 0) (v := .int (v_7 &&& 63)) (ty := .int) (C := RX0) (T := TX0) (N := 12) hx hb hts inw_X0_guestStep tyX0 tyX0_ok nmX0 hown hK hP hD hS 0 rfl rfl 4 (by decide) (hts (.fieldLink RX0 22 "Migrator" "programCounter" "I") (by decide +kernel)) (fun _ h9 => h9) rfl (by decide +kernel) rfl rfl (Nat.le_of_ble_eq_true rfl) dX0_guestStep_229 (fun H locs hP hD hS => ?_)
      have hP : va_P (dC, dI) vwCl [(h0, .inr (0, [.ref q1, .ref q2, .ref q3, .ref q4, .int (v_7 &&& 63), .int sc, .int ph, .int rd, .int th, .int lm, .int dy, .int wt])), (q1, .inl (cA, 64, .inl S)), (q2, .inl (cA, 64, .inl D)), (q3, .inl (cA, 4, .inl R)), (q4, .inl (cA, 8, .inl K))] H := hP
      have hD : va_D A [(h0, .inr (0, [.ref q1, .ref q2, .ref q3, .ref q4, .int (v_7 &&& 63), .int sc, .int ph, .int rd, .int th, .int lm, .int dy, .int wt])), (q1, .inl (cA, 64, .inl S)), (q2, .inl (cA, 64, .inl D)), (q3, .inl (cA, 4, .inl R)), (q4, .inl (cA, 8, .inl K))] := hD
      have z_24 : (S, D, R, K, v_7 &&& 63, sc, ph, rd, th, lm, dy, wt) = mg_step (S, D, R, K, pc, sc, ph, rd, th, lm, dy, wt) := by
        subst ev_5
        subst ev_6
        subst ev_7
        subst ev_8
        subst w_3
        show _ = mg_go (mg_rw S D ph pc &&& 7) (mg_rw S D ph pc) (S, D, R, K, pc, sc, ph, rd, th, lm, dy, wt)
        rw [o_9]
        show _ = (S, D, R, K, (if R (mg_a (mg_rw S D ph pc)).toNatClampNeg = 0 then pc + 1 else mg_k (mg_rw S D ph pc)) &&& 63, sc, ph, rd, th, lm, dy, wt)
        rw [if_neg c_22]
      exact W.vret hx hb hr (fun t ht hW => ⟨⟨(S, D, R, K, v_7 &&& 63, sc, ph, rd, th, lm, dy, wt), rfl, z_24, by rw [ht]; exact hP, va_K.moved hW.alike hK, hD⟩, hS.F ht⟩) hS.2.2 dX0_guestStep_232
  · refine lv_tableOut (tgt := 213) hx hb dX0_guestStep_42 (by rw [o_9]; decide) (by decide) ?_
    refine lv_aload_n hx hb dX0_guestStep_213 rfl (lv_at hl 5 rfl) ?_
    refine lv_aload_n hx hb dX0_guestStep_214 rfl (lv_at hl 5 rfl) ?_
    refine va_get (D := (dC, dI)) (ci := 0) (v := .ref q3) (C := RX0) (T := TX0) (N := 12) hx hb hts inw_X0_guestStep hown hK hP 0 rfl rfl 2 (by decide) (hts (.fieldLink RX0 16 "Migrator" "registers" "[I") (by decide +kernel)) (fun _ h9 => h9) rfl dX0_guestStep_215 ?_
    refine lv_iload_n hx hb dX0_guestStep_218 rfl (lv_at hl 3 rfl) ?_
    refine va_iald hx hb hK hP 3 0 rfl rfl (by rw [ev_5]; exact in_3 _) dX0_guestStep_219 ?_
    have hPc := hP.sub (ws' := [(h0, .inr (0, [.ref q1, .ref q2, .ref q3, .ref q4, .int pc, .int sc, .int ph, .int rd, .int th, .int lm, .int dy, .int wt])), (q1, .inl (cA, 64, .inl S)), (q2, .inl (cA, 64, .inl D)), (q3, .inl (cA, 4, .inl R)), (q4, .inl (cA, 8, .inl K))]) [0, 1, 2, 3, 4] rfl
    have hDc := hD.sub (ws' := [(h0, .inr (0, [.ref q1, .ref q2, .ref q3, .ref q4, .int pc, .int sc, .int ph, .int rd, .int th, .int lm, .int dy, .int wt])), (q1, .inl (cA, 64, .inl S)), (q2, .inl (cA, 64, .inl D)), (q3, .inl (cA, 4, .inl R)), (q4, .inl (cA, 8, .inl K))]) [0, 1, 2, 3, 4] (by decide) rfl
    have hKc := hK.sub (tys' := [(cA, .int)]) [0] rfl
    have hFc := va_free (wc := [(h0, .inr (0, [.ref q1, .ref q2, .ref q3, .ref q4, .int pc, .int sc, .int ph, .int rd, .int th, .int lm, .int dy, .int wt])), (q1, .inl (cA, 64, .inl S)), (q2, .inl (cA, 64, .inl D)), (q3, .inl (cA, 4, .inl R)), (q4, .inl (cA, 8, .inl K))]) hD hS hA [0, 1, 2, 3, 4] rfl
    refine va_callv (va_runV (As := [.int (R v_5.toNatClampNeg)]) (rest := []) ⟨hx, hb, hml, hown, hts⟩ (c_X0_show l dC dI h0 q1 q2 q3 q4 cA S D R K pc sc ph rd th lm dy wt (R v_5.toNatClampNeg) H.size) (cwV 1 hts gX0_guestStep_X0_show rfl rfl rfl (by decide +kernel) ⟨Nat.le_of_ble_eq_true rfl, Nat.le_of_ble_eq_true rfl⟩) ⟨fun a U g mk q => by obtain ⟨q0, q1, qP, qK, qD⟩ := q; exact ⟨q0, q1, qP, va_K.moved (u := U) (U := U.calling g mk a) (Vm.Alike.refl U.vm) qK, qD⟩, va_recv hKc hPc (ci := 0) (q0 := 0) rfl rfl, fun U hU hW => ⟨rfl, by rw [hU], by rw [hU]; exact hPc, va_K.moved hW.alike hKc, hDc.weaken (fun _ _ _ _ => trivial)⟩⟩ rfl rfl hl.1 rfl (lv_room (Nat.le_of_ble_eq_true rfl)) dX0_guestStep_220 ⟨(Nat.zero_le _), (Nat.zero_le _)⟩) hS (fun q _ h => hFc q h) hFc (fun u_25 t H1 locs ht hvm w_26 hB hz1 hk1 hS => ?_)
    subst w_26
    obtain ⟨hP1, hK1, hD1⟩ := hB
    rw [ht] at hP1
    obtain ⟨hP, hD⟩ := va_join (wr := []) (w1 := [(h0, .inr (0, [.ref q1, .ref q2, .ref q3, .ref q4, .int pc, .int (sc + 1), .int ph, .int rd, .int th, .int lm, .int dy, .int wt])), (q1, .inl (cA, 64, .inl S)), (q2, .inl (cA, 64, .inl D)), (q3, .inl (cA, 4, .inl R)), (q4, .inl (cA, 8, .inl (upd K (sc &&& 7).toNatClampNeg (R v_5.toNatClampNeg))))]) hP hD [0, 1, 2, 3, 4] [] rfl rfl (by decide) (by decide) hk1 hFc hP1 hD1
    clear hPc hDc hFc hP1 hD1 hk1 hK1
    generalize H1 = H at hP hS ⊢
    have hP : va_P (dC, dI) vwCl [(h0, .inr (0, [.ref q1, .ref q2, .ref q3, .ref q4, .int pc, .int (sc + 1), .int ph, .int rd, .int th, .int lm, .int dy, .int wt])), (q1, .inl (cA, 64, .inl S)), (q2, .inl (cA, 64, .inl D)), (q3, .inl (cA, 4, .inl R)), (q4, .inl (cA, 8, .inl (upd K (sc &&& 7).toNatClampNeg (R v_5.toNatClampNeg))))] H := hP
    have hD : va_D A [(h0, .inr (0, [.ref q1, .ref q2, .ref q3, .ref q4, .int pc, .int (sc + 1), .int ph, .int rd, .int th, .int lm, .int dy, .int wt])), (q1, .inl (cA, 64, .inl S)), (q2, .inl (cA, 64, .inl D)), (q3, .inl (cA, 4, .inl R)), (q4, .inl (cA, 8, .inl (upd K (sc &&& 7).toNatClampNeg (R v_5.toNatClampNeg))))] := hD
    refine lv_aload_n hx hb dX0_guestStep_223 rfl (lv_at hl 5 rfl) ?_
    refine lv_iload hx hb dX0_guestStep_224 (lv_at hl 0 rfl) ?_
    refine lv_bipush (v := 63) hx hb dX0_guestStep_226 (by decide) ?_
    refine lv_iand hx hb dX0_guestStep_228 ?_
    refine va_put (D := (dC, dI)) (ci := 0) (v := .int (v_8 &&& 63)) (ty := .int) (C := RX0) (T := TX0) (N := 12) hx hb hts inw_X0_guestStep tyX0 tyX0_ok nmX0 hown hK hP hD hS 0 rfl rfl 4 (by decide) (hts (.fieldLink RX0 22 "Migrator" "programCounter" "I") (by decide +kernel)) (fun _ h9 => h9) rfl (by decide +kernel) rfl rfl (Nat.le_of_ble_eq_true rfl) dX0_guestStep_229 (fun H locs hP hD hS => ?_)
    have hP : va_P (dC, dI) vwCl [(h0, .inr (0, [.ref q1, .ref q2, .ref q3, .ref q4, .int (v_8 &&& 63), .int (sc + 1), .int ph, .int rd, .int th, .int lm, .int dy, .int wt])), (q1, .inl (cA, 64, .inl S)), (q2, .inl (cA, 64, .inl D)), (q3, .inl (cA, 4, .inl R)), (q4, .inl (cA, 8, .inl (upd K (sc &&& 7).toNatClampNeg (R v_5.toNatClampNeg))))] H := hP
    have hD : va_D A [(h0, .inr (0, [.ref q1, .ref q2, .ref q3, .ref q4, .int (v_8 &&& 63), .int (sc + 1), .int ph, .int rd, .int th, .int lm, .int dy, .int wt])), (q1, .inl (cA, 64, .inl S)), (q2, .inl (cA, 64, .inl D)), (q3, .inl (cA, 4, .inl R)), (q4, .inl (cA, 8, .inl (upd K (sc &&& 7).toNatClampNeg (R v_5.toNatClampNeg))))] := hD
    have z_27 : (S, D, R, upd K (sc &&& 7).toNatClampNeg (R v_5.toNatClampNeg), v_8 &&& 63, sc + 1, ph, rd, th, lm, dy, wt) = mg_step (S, D, R, K, pc, sc, ph, rd, th, lm, dy, wt) := by
      subst ev_5
      subst ev_6
      subst ev_7
      subst ev_8
      subst w_3
      show _ = mg_go (mg_rw S D ph pc &&& 7) (mg_rw S D ph pc) (S, D, R, K, pc, sc, ph, rd, th, lm, dy, wt)
      rw [o_9]
      rfl
    exact W.vret hx hb hr (fun t ht hW => ⟨⟨(S, D, R, upd K (sc &&& 7).toNatClampNeg (R v_5.toNatClampNeg), v_8 &&& 63, sc + 1, ph, rd, th, lm, dy, wt), rfl, z_27, by rw [ht]; exact hP, va_K.moved hW.alike hK, hD⟩, hS.F ht⟩) hS.2.2 dX0_guestStep_232
end
section
theorem inw_X0_run : ∀ w ∈ wsX00, w ∈ wsX0_run := fun _ h => List.mem_cons_of_mem _ (List.mem_append_right _ h)
set_option maxHeartbeats 4000000 in
set_option maxRecDepth 100000 in
theorem c_X0_run (l : Launch) (dC : Nat → ClassId) (dI : Nat → Nat → Nat) (h0 q1 q2 q3 q4 : Nat) (cA : ClassId) (S D R K : Nat → Int32) (pc sc ph rd th lm dy wt : Int32) (n : Int32) (sz : Nat) : Met l yX0_run wsX0_run ({ frames := 2, cells := 0, slots := 0, locals := 48 }) (va_Pc [.ref h0, .int n] (fun U => U.heap.size = sz ∧ va_P (dC, dI) vwCl (mg_W h0 q1 q2 q3 q4 cA (S, D, R, K, pc, sc, ph, rd, th, lm, dy, wt)) U.heap ∧ va_K (dC, dI) vwCl [(cA, .int)] U ∧ va_D (fun _ => True) (mg_W h0 q1 q2 q3 q4 cA (S, D, R, K, pc, sc, ph, rd, th, lm, dy, wt)))) (va_Qi (fun (r : Int32) (u : mgS) => (r = n ∧ mg_rn ph n ∧ u = mg_it n.toNatClampNeg (S, D, R, K, pc, sc, ph, rd, th, lm, dy, wt)) ∨ (r = 0 ∧ ¬ mg_rn ph n ∧ u = (S, D, R, K, pc, sc, ph, rd, th, lm, dy, wt))) (at_mg dC dI h0 q1 q2 q3 q4 cA (va_A (mg_W h0 q1 q2 q3 q4 cA (S, D, R, K, pc, sc, ph, rd, th, lm, dy, wt)) sz)) (va_A (mg_W h0 q1 q2 q3 q4 cA (S, D, R, K, pc, sc, ph, rd, th, lm, dy, wt)) sz)) 0 0 (va_A (mg_W h0 q1 q2 q3 q4 cA (S, D, R, K, pc, sc, ph, rd, th, lm, dy, wt)) sz) := by
  refine Met.ofW (cc := cX0_run) (maxL := 3) (ret := (some .int)) (by decide) rfl ?_
  intro p e s m args below meth c s₁ B hml hv
  obtain ⟨rfl, hsz, hP, hK, hD0⟩ := hv
  have hx := B.exec
  have hb := B.bytes
  have hr := B.returns
  have hts := atoms_spec (ws := wsX0_run) B.pre
  have hown : s.vm.findClass RX0 = some m.cls := findClass_of_methodNamed B.named
  have hlocks := B.notSynchronized
  subst hsz
  have hD := hD0.self (sz := s.heap.size)
  generalize hAe : va_A (mg_W h0 q1 q2 q3 q4 cA (S, D, R, K, pc, sc, ph, rd, th, lm, dy, wt)) s.heap.size = A at hD ⊢
  have hA : ∀ q : Nat, s.heap.size ≤ q → A q := fun q h => by rw [← hAe]; exact Or.inr h
  have hS : va_S A s.heap s.heap [] := va_S.rf
  have hP : va_P (dC, dI) vwCl [(h0, .inr (0, [.ref q1, .ref q2, .ref q3, .ref q4, .int pc, .int sc, .int ph, .int rd, .int th, .int lm, .int dy, .int wt])), (q1, .inl (cA, 64, .inl S)), (q2, .inl (cA, 64, .inl D)), (q3, .inl (cA, 4, .inl R)), (q4, .inl (cA, 8, .inl K))] s.heap := hP
  have hD : va_D A [(h0, .inr (0, [.ref q1, .ref q2, .ref q3, .ref q4, .int pc, .int sc, .int ph, .int rd, .int th, .int lm, .int dy, .int wt])), (q1, .inl (cA, 64, .inl S)), (q2, .inl (cA, 64, .inl D)), (q3, .inl (cA, 4, .inl R)), (q4, .inl (cA, 8, .inl K))] := hD
  have hl := lv_entry ([.ref h0, .int n]) (n := 3) (Nat.le_of_ble_eq_true rfl)
  rw [lg_entry_eq]
  generalize (lg_sl ([.ref h0, .int n]) ++ List.replicate (3 - (lg_sl ([.ref h0, .int n])).length) Slot.unset).toArray = ls at hl ⊢
  have hl : lv_has ls 3 [(0, .ref h0), (1, .int n)] := hl
  refine lv_aload_n hx hb dX0_run_0 rfl (lv_at hl 0 rfl) ?_
  refine va_get (D := (dC, dI)) (ci := 0) (v := .int ph) (C := RX0) (T := TX0) (N := 12) hx hb hts inw_X0_run hown hK hP 0 rfl rfl 6 (by decide) (hts (.fieldLink RX0 29 "Migrator" "phaseNow" "I") (by decide +kernel)) (fun _ h9 => h9) rfl dX0_run_1 ?_
  refine lv_iconst (v := 2) hx hb dX0_run_4 (by decide) ?_
  refine lv_icmp_eq (tgt := 19) hx hb dX0_run_5 (by decide) (fun c_1 => ?_) (fun c_1 => ?_)
  · refine lv_iconst (v := 0) hx hb dX0_run_19 (by decide) ?_
    exact W.iret (v := 0) hx hb hr (fun t ht hW => ⟨⟨0, (S, D, R, K, pc, sc, ph, rd, th, lm, dy, wt), rfl, Or.inr ⟨rfl, fun h => h.1 c_1, rfl⟩, by rw [ht]; exact hP, va_K.moved hW.alike hK, hD⟩, hS.F ht⟩) hS.2.2 dX0_run_20
  · refine lv_iload_n hx hb dX0_run_8 rfl (lv_at hl 1 rfl) ?_
    refine lv_if_lt (tgt := 19) hx hb dX0_run_9 (by decide) (fun c_2 => ?_) (fun c_2 => ?_)
    · refine lv_iconst (v := 0) hx hb dX0_run_19 (by decide) ?_
      exact W.iret (v := 0) hx hb hr (fun t ht hW => ⟨⟨0, (S, D, R, K, pc, sc, ph, rd, th, lm, dy, wt), rfl, Or.inr ⟨rfl, fun h => h.2.1 c_2, rfl⟩, by rw [ht]; exact hP, va_K.moved hW.alike hK, hD⟩, hS.F ht⟩) hS.2.2 dX0_run_20
    · refine lv_iload_n hx hb dX0_run_12 rfl (lv_at hl 1 rfl) ?_
      refine lv_sipush (v := 1000) hx hb dX0_run_13 (by decide) ?_
      refine lv_icmp_le (tgt := 21) hx hb dX0_run_16 (by decide) (fun c_3 => ?_) (fun c_3 => ?_)
      · refine lv_iconst (v := 0) hx hb dX0_run_21 (by decide) ?_
        refine lv_istore_n (lv' := [(2, .int 0), (0, .ref h0), (1, .int n)]) hx hb dX0_run_22 rfl hl (by decide) rfl (fun ls hl => ?_)
        obtain ⟨Nn, hNn, eNn⟩ := nI_of c_2
        have loop : ∀ (Q0 : State → Prop), (∀ (Sx : Nat → Int32) (Dx : Nat → Int32) (Rx : Nat → Int32) (Kx : Nat → Int32) (pcx : Int32) (scx : Int32) (phx : Int32) (rdx : Int32) (thx : Int32) (lmx : Int32) (dyx : Int32) (wtx : Int32) (H : Heap) (locs : List Loc) (ls : Array Slot), (Sx, Dx, Rx, Kx, pcx, scx, phx, rdx, thx, lmx, dyx, wtx) = mg_it Nn (S, D, R, K, pc, sc, ph, rd, th, lm, dy, wt) → va_P (dC, dI) vwCl [(h0, .inr (0, [.ref q1, .ref q2, .ref q3, .ref q4, .int pcx, .int scx, .int phx, .int rdx, .int thx, .int lmx, .int dyx, .int wtx])), (q1, .inl (cA, 64, .inl Sx)), (q2, .inl (cA, 64, .inl Dx)), (q3, .inl (cA, 4, .inl Rx)), (q4, .inl (cA, 8, .inl Kx))] H → va_D A [(h0, .inr (0, [.ref q1, .ref q2, .ref q3, .ref q4, .int pcx, .int scx, .int phx, .int rdx, .int thx, .int lmx, .int dyx, .int wtx])), (q1, .inl (cA, 64, .inl Sx)), (q2, .inl (cA, 64, .inl Dx)), (q3, .inl (cA, 4, .inl Rx)), (q4, .inl (cA, 8, .inl Kx))] → va_S A s.heap H locs → lv_has ls 3 [(2, .int (nI Nn)), (0, .ref h0), (1, .int n)] → W p l e (headSpec wsX0_run { frames := 2, cells := 0, slots := 0, locals := 48 }).room s m ([.ref h0, .int n] : List Value).toArray below meth c H locs 0 0 Q0 (F0 m 38 ls [])) → ∀ (kx ix : Nat) (Sx : Nat → Int32) (Dx : Nat → Int32) (Rx : Nat → Int32) (Kx : Nat → Int32) (pcx : Int32) (scx : Int32) (phx : Int32) (rdx : Int32) (thx : Int32) (lmx : Int32) (dyx : Int32) (wtx : Int32) (H : Heap) (locs : List Loc) (ls : Array Slot), ix + kx = Nn → (Sx, Dx, Rx, Kx, pcx, scx, phx, rdx, thx, lmx, dyx, wtx) = mg_it ix (S, D, R, K, pc, sc, ph, rd, th, lm, dy, wt) → va_P (dC, dI) vwCl [(h0, .inr (0, [.ref q1, .ref q2, .ref q3, .ref q4, .int pcx, .int scx, .int phx, .int rdx, .int thx, .int lmx, .int dyx, .int wtx])), (q1, .inl (cA, 64, .inl Sx)), (q2, .inl (cA, 64, .inl Dx)), (q3, .inl (cA, 4, .inl Rx)), (q4, .inl (cA, 8, .inl Kx))] H → va_D A [(h0, .inr (0, [.ref q1, .ref q2, .ref q3, .ref q4, .int pcx, .int scx, .int phx, .int rdx, .int thx, .int lmx, .int dyx, .int wtx])), (q1, .inl (cA, 64, .inl Sx)), (q2, .inl (cA, 64, .inl Dx)), (q3, .inl (cA, 4, .inl Rx)), (q4, .inl (cA, 8, .inl Kx))] → va_S A s.heap H locs → lv_has ls 3 [(2, .int (nI ix)), (0, .ref h0), (1, .int n)] → W p l e (headSpec wsX0_run { frames := 2, cells := 0, slots := 0, locals := 48 }).room s m ([.ref h0, .int n] : List Value).toArray below meth c H locs 0 0 Q0 (F0 m 23 ls []) := by
          intro Q0 hQ kx
          induction kx with
          | zero =>
            intro ix Sx Dx Rx Kx pcx scx phx rdx thx lmx dyx wtx H locs ls hk hi hP hD hS hl
            have hz : ix = Nn := by omega
            subst hz
            refine lv_iload_n hx hb dX0_run_23 rfl (lv_at hl 0 rfl) ?_
            refine lv_iload_n hx hb dX0_run_24 rfl (lv_at hl 2 rfl) ?_
            refine lv_icmp_ge (tgt := 38) hx hb dX0_run_25 (by decide) (fun c_4 => ?_) (fun c_4 => ?_)
            · exact hQ Sx Dx Rx Kx pcx scx phx rdx thx lmx dyx wtx H locs ls hi hP hD hS hl
            · exact absurd (by rw [eNn]; exact nI_le (Nat.le_refl _) hNn) c_4
          | succ kx ih =>
            intro ix Sx Dx Rx Kx pcx scx phx rdx thx lmx dyx wtx H locs ls hk hi hP hD hS hl
            refine lv_iload_n hx hb dX0_run_23 rfl (lv_at hl 0 rfl) ?_
            refine lv_iload_n hx hb dX0_run_24 rfl (lv_at hl 2 rfl) ?_
            refine lv_icmp_ge (tgt := 38) hx hb dX0_run_25 (by decide) (fun c_104 => ?_) (fun c_104 => ?_)
            · exact absurd (by rw [eNn] at c_104; exact c_104) (nI_ge (show ix < Nn by omega) hNn)
            · refine lv_aload_n hx hb dX0_run_28 rfl (lv_at hl 1 rfl) ?_
              have hPc := hP.sub (ws' := [(h0, .inr (0, [.ref q1, .ref q2, .ref q3, .ref q4, .int pcx, .int scx, .int phx, .int rdx, .int thx, .int lmx, .int dyx, .int wtx])), (q1, .inl (cA, 64, .inl Sx)), (q2, .inl (cA, 64, .inl Dx)), (q3, .inl (cA, 4, .inl Rx)), (q4, .inl (cA, 8, .inl Kx))]) [0, 1, 2, 3, 4] rfl
              have hDc := hD.sub (ws' := [(h0, .inr (0, [.ref q1, .ref q2, .ref q3, .ref q4, .int pcx, .int scx, .int phx, .int rdx, .int thx, .int lmx, .int dyx, .int wtx])), (q1, .inl (cA, 64, .inl Sx)), (q2, .inl (cA, 64, .inl Dx)), (q3, .inl (cA, 4, .inl Rx)), (q4, .inl (cA, 8, .inl Kx))]) [0, 1, 2, 3, 4] (by decide) rfl
              have hKc := hK.sub (tys' := [(cA, .int)]) [0] rfl
              have hFc := va_free (wc := [(h0, .inr (0, [.ref q1, .ref q2, .ref q3, .ref q4, .int pcx, .int scx, .int phx, .int rdx, .int thx, .int lmx, .int dyx, .int wtx])), (q1, .inl (cA, 64, .inl Sx)), (q2, .inl (cA, 64, .inl Dx)), (q3, .inl (cA, 4, .inl Rx)), (q4, .inl (cA, 8, .inl Kx))]) hD hS hA [0, 1, 2, 3, 4] rfl
              refine va_callv (va_runV (As := []) (rest := []) ⟨hx, hb, hml, hown, hts⟩ (c_X0_guestStep l dC dI h0 q1 q2 q3 q4 cA Sx Dx Rx Kx pcx scx phx rdx thx lmx dyx wtx H.size) (cwV 0 hts gX0_run_X0_guestStep rfl rfl rfl (by decide +kernel) ⟨Nat.le_of_ble_eq_true rfl, Nat.le_of_ble_eq_true rfl⟩) ⟨fun a U g mk q => by obtain ⟨q0, q1, qP, qK, qD⟩ := q; exact ⟨q0, q1, qP, va_K.moved (u := U) (U := U.calling g mk a) (Vm.Alike.refl U.vm) qK, qD⟩, va_recv hKc hPc (ci := 0) (q0 := 0) rfl rfl, fun U hU hW => ⟨rfl, by rw [hU], by rw [hU]; exact hPc, va_K.moved hW.alike hKc, hDc.weaken (fun _ _ _ _ => trivial)⟩⟩ rfl rfl hl.1 rfl (lv_room (Nat.le_of_ble_eq_true rfl)) dX0_run_29 ⟨(Nat.zero_le _), (Nat.zero_le _)⟩) hS (fun q _ h => hFc q h) hFc (fun u_105 t H1 locs ht hvm w_106 hB hz1 hk1 hS => ?_)
              obtain ⟨S_107, D_108, R_109, K_110, pc_111, sc_112, ph_113, rd_114, th_115, lm_116, dy_117, wt_118⟩ := u_105
              obtain ⟨hP1, hK1, hD1⟩ := hB
              rw [ht] at hP1
              obtain ⟨hP, hD⟩ := va_join (wr := []) (w1 := [(h0, .inr (0, [.ref q1, .ref q2, .ref q3, .ref q4, .int pc_111, .int sc_112, .int ph_113, .int rd_114, .int th_115, .int lm_116, .int dy_117, .int wt_118])), (q1, .inl (cA, 64, .inl S_107)), (q2, .inl (cA, 64, .inl D_108)), (q3, .inl (cA, 4, .inl R_109)), (q4, .inl (cA, 8, .inl K_110))]) hP hD [0, 1, 2, 3, 4] [] rfl rfl (by decide) (by decide) hk1 hFc hP1 hD1
              clear hPc hDc hFc hP1 hD1 hk1 hK1
              generalize H1 = H at hP hS ⊢
              have hP : va_P (dC, dI) vwCl [(h0, .inr (0, [.ref q1, .ref q2, .ref q3, .ref q4, .int pc_111, .int sc_112, .int ph_113, .int rd_114, .int th_115, .int lm_116, .int dy_117, .int wt_118])), (q1, .inl (cA, 64, .inl S_107)), (q2, .inl (cA, 64, .inl D_108)), (q3, .inl (cA, 4, .inl R_109)), (q4, .inl (cA, 8, .inl K_110))] H := hP
              have hD : va_D A [(h0, .inr (0, [.ref q1, .ref q2, .ref q3, .ref q4, .int pc_111, .int sc_112, .int ph_113, .int rd_114, .int th_115, .int lm_116, .int dy_117, .int wt_118])), (q1, .inl (cA, 64, .inl S_107)), (q2, .inl (cA, 64, .inl D_108)), (q3, .inl (cA, 4, .inl R_109)), (q4, .inl (cA, 8, .inl K_110))] := hD
              refine lv_iinc (v := (nI ix) + 1) (lv' := [(2, .int ((nI ix) + 1)), (0, .ref h0), (1, .int n)]) hx hb dX0_run_32 hl (k := 0) rfl rfl (by decide) rfl (fun ls hl => ?_)
              refine lv_goto (tgt := 23) hx hb dX0_run_35 (by decide) ?_
              exact ih (ix + 1) S_107 D_108 R_109 K_110 pc_111 sc_112 ph_113 rd_114 th_115 lm_116 dy_117 wt_118 H locs ls (by omega) (w_106.trans (by rw [hi]; rfl)) hP hD hS (by rw [← nI_1]; exact hl)
        refine loop _ (fun Sx Dx Rx Kx pcx scx phx rdx thx lmx dyx wtx H locs ls hi hP hD hS hl => ?_) Nn 0 S D R K pc sc ph rd th lm dy wt _ _ _ (by omega) rfl hP hD hS hl
        refine lv_iload_n hx hb dX0_run_38 rfl (lv_at hl 2 rfl) ?_
        exact W.iret (v := n) hx hb hr (fun t ht hW => ⟨⟨n, (Sx, Dx, Rx, Kx, pcx, scx, phx, rdx, thx, lmx, dyx, wtx), rfl, Or.inl ⟨rfl, ⟨c_1, c_2, c_3⟩, by rw [eNn, nI_clamp hNn]; exact hi⟩, by rw [ht]; exact hP, va_K.moved hW.alike hK, hD⟩, hS.F ht⟩) hS.2.2 dX0_run_39
      · refine lv_iconst (v := 0) hx hb dX0_run_19 (by decide) ?_
        exact W.iret (v := 0) hx hb hr (fun t ht hW => ⟨⟨0, (S, D, R, K, pc, sc, ph, rd, th, lm, dy, wt), rfl, Or.inr ⟨rfl, fun h => c_3 h.2.2, rfl⟩, by rw [ht]; exact hP, va_K.moved hW.alike hK, hD⟩, hS.F ht⟩) hS.2.2 dX0_run_20
end
section
theorem inw_X0_copyPage : ∀ w ∈ wsX00, w ∈ wsX0_copyPage := fun _ h => List.mem_cons_of_mem _ (List.mem_append_right _ h)
set_option maxHeartbeats 4000000 in
set_option maxRecDepth 100000 in
theorem c_X0_copyPage (l : Launch) (dC : Nat → ClassId) (dI : Nat → Nat → Nat) (h0 q1 q2 q3 q4 : Nat) (cA : ClassId) (S D R K : Nat → Int32) (pc sc ph rd th lm dy wt : Int32) (a : Int32) (sz : Nat) : Met l yX0_copyPage wsX0_copyPage ({ frames := 0, cells := 0, slots := 0, locals := 0 }) (va_Pc [.ref h0, .int a] (fun U => U.heap.size = sz ∧ va_P (dC, dI) vwCl (mg_W h0 q1 q2 q3 q4 cA (S, D, R, K, pc, sc, ph, rd, th, lm, dy, wt)) U.heap ∧ va_K (dC, dI) vwCl [(cA, .int)] U ∧ va_D (fun _ => True) (mg_W h0 q1 q2 q3 q4 cA (S, D, R, K, pc, sc, ph, rd, th, lm, dy, wt)))) (va_Qv (fun (u : mgS) => u = (S, mg_cp S (a <<< ((3 : Int32) &&& 31)) 8 D, R, K, pc, sc, ph, rd, th, lm, dy, wt)) (at_mg dC dI h0 q1 q2 q3 q4 cA (va_A (mg_W h0 q1 q2 q3 q4 cA (S, D, R, K, pc, sc, ph, rd, th, lm, dy, wt)) sz)) (va_A (mg_W h0 q1 q2 q3 q4 cA (S, D, R, K, pc, sc, ph, rd, th, lm, dy, wt)) sz)) 0 0 (va_A (mg_W h0 q1 q2 q3 q4 cA (S, D, R, K, pc, sc, ph, rd, th, lm, dy, wt)) sz) := by
  refine Met.ofW (cc := cX0_copyPage) (maxL := 5) (ret := none) (by decide) rfl ?_
  intro p e s m args below meth c s₁ B hml hv
  obtain ⟨rfl, hsz, hP, hK, hD0⟩ := hv
  have hx := B.exec
  have hb := B.bytes
  have hr := B.returns
  have hts := atoms_spec (ws := wsX0_copyPage) B.pre
  have hown : s.vm.findClass RX0 = some m.cls := findClass_of_methodNamed B.named
  have hlocks := B.notSynchronized
  subst hsz
  have hD := hD0.self (sz := s.heap.size)
  generalize hAe : va_A (mg_W h0 q1 q2 q3 q4 cA (S, D, R, K, pc, sc, ph, rd, th, lm, dy, wt)) s.heap.size = A at hD ⊢
  have hA : ∀ q : Nat, s.heap.size ≤ q → A q := fun q h => by rw [← hAe]; exact Or.inr h
  have hS : va_S A s.heap s.heap [] := va_S.rf
  have hP : va_P (dC, dI) vwCl [(h0, .inr (0, [.ref q1, .ref q2, .ref q3, .ref q4, .int pc, .int sc, .int ph, .int rd, .int th, .int lm, .int dy, .int wt])), (q1, .inl (cA, 64, .inl S)), (q2, .inl (cA, 64, .inl D)), (q3, .inl (cA, 4, .inl R)), (q4, .inl (cA, 8, .inl K))] s.heap := hP
  have hD : va_D A [(h0, .inr (0, [.ref q1, .ref q2, .ref q3, .ref q4, .int pc, .int sc, .int ph, .int rd, .int th, .int lm, .int dy, .int wt])), (q1, .inl (cA, 64, .inl S)), (q2, .inl (cA, 64, .inl D)), (q3, .inl (cA, 4, .inl R)), (q4, .inl (cA, 8, .inl K))] := hD
  have hl := lv_entry ([.ref h0, .int a]) (n := 5) (Nat.le_of_ble_eq_true rfl)
  rw [lg_entry_eq]
  generalize (lg_sl ([.ref h0, .int a]) ++ List.replicate (5 - (lg_sl ([.ref h0, .int a])).length) Slot.unset).toArray = ls at hl ⊢
  have hl : lv_has ls 5 [(0, .ref h0), (1, .int a)] := hl
  refine lv_iload_n hx hb dX0_copyPage_0 rfl (lv_at hl 1 rfl) ?_
  refine lv_iconst (v := 3) hx hb dX0_copyPage_1 (by decide) ?_
  refine lv_ishl hx hb dX0_copyPage_2 ?_
  refine lv_topi (fun v_1 ev_1 => ?_)
  refine lv_istore_n (lv' := [(2, .int v_1), (0, .ref h0), (1, .int a)]) hx hb dX0_copyPage_3 rfl hl (by decide) rfl (fun ls hl => ?_)
  refine lv_iconst (v := 0) hx hb dX0_copyPage_4 (by decide) ?_
  refine lv_istore_n (lv' := [(3, .int 0), (2, .int v_1), (0, .ref h0), (1, .int a)]) hx hb dX0_copyPage_5 rfl hl (by decide) rfl (fun ls hl => ?_)
  have loop : ∀ (Q0 : State → Prop), (∀ (Dx : Nat → Int32) (H : Heap) (locs : List Loc) (ls : Array Slot), Dx = mg_cp S v_1 8 D → va_P (dC, dI) vwCl [(h0, .inr (0, [.ref q1, .ref q2, .ref q3, .ref q4, .int pc, .int sc, .int ph, .int rd, .int th, .int lm, .int dy, .int wt])), (q1, .inl (cA, 64, .inl S)), (q2, .inl (cA, 64, .inl Dx)), (q3, .inl (cA, 4, .inl R)), (q4, .inl (cA, 8, .inl K))] H → va_D A [(h0, .inr (0, [.ref q1, .ref q2, .ref q3, .ref q4, .int pc, .int sc, .int ph, .int rd, .int th, .int lm, .int dy, .int wt])), (q1, .inl (cA, 64, .inl S)), (q2, .inl (cA, 64, .inl Dx)), (q3, .inl (cA, 4, .inl R)), (q4, .inl (cA, 8, .inl K))] → va_S A s.heap H locs → W p l e (headSpec wsX0_copyPage { frames := 0, cells := 0, slots := 0, locals := 0 }).room s m ([.ref h0, .int a] : List Value).toArray below meth c H locs 0 0 Q0 (F0 m 40 ls [])) → ∀ (kx ix : Nat) (Dx : Nat → Int32) (H : Heap) (locs : List Loc) (ls : Array Slot), ix + kx = 8 → Dx = mg_cp S v_1 ix D → va_P (dC, dI) vwCl [(h0, .inr (0, [.ref q1, .ref q2, .ref q3, .ref q4, .int pc, .int sc, .int ph, .int rd, .int th, .int lm, .int dy, .int wt])), (q1, .inl (cA, 64, .inl S)), (q2, .inl (cA, 64, .inl Dx)), (q3, .inl (cA, 4, .inl R)), (q4, .inl (cA, 8, .inl K))] H → va_D A [(h0, .inr (0, [.ref q1, .ref q2, .ref q3, .ref q4, .int pc, .int sc, .int ph, .int rd, .int th, .int lm, .int dy, .int wt])), (q1, .inl (cA, 64, .inl S)), (q2, .inl (cA, 64, .inl Dx)), (q3, .inl (cA, 4, .inl R)), (q4, .inl (cA, 8, .inl K))] → va_S A s.heap H locs → (∃ lv, lv_has ls 5 ([(3, .int (nI ix)), (2, .int v_1), (0, .ref h0), (1, .int a)] ++ lv)) → W p l e (headSpec wsX0_copyPage { frames := 0, cells := 0, slots := 0, locals := 0 }).room s m ([.ref h0, .int a] : List Value).toArray below meth c H locs 0 0 Q0 (F0 m 6 ls []) := by
    intro Q0 hQ kx
    induction kx with
    | zero =>
      intro ix Dx H locs ls hk hi hP hD hS hl
      obtain ⟨lv, hl⟩ := hl
      have hz : ix = 8 := by omega
      subst hz
      have hl : lv_has ls 5 [(3, .int (nI 8)), (2, .int v_1), (0, .ref h0), (1, .int a)] := ⟨hl.1, hl.2.1, fun q hq => hl.2.2 q (List.mem_append_left _ hq)⟩
      refine lv_iload_n hx hb dX0_copyPage_6 rfl (lv_at hl 0 rfl) ?_
      refine lv_bipush (v := 8) hx hb dX0_copyPage_7 (by decide) ?_
      refine lv_icmp_ge (tgt := 40) hx hb dX0_copyPage_9 (by decide) (fun c_2 => ?_) (fun c_2 => ?_)
      · exact hQ Dx H locs ls hi hP hD hS
      · exact absurd (by decide) c_2
    | succ kx ih =>
      intro ix Dx H locs ls hk hi hP hD hS hl
      obtain ⟨lv, hl⟩ := hl
      have hl : lv_has ls 5 [(3, .int (nI ix)), (2, .int v_1), (0, .ref h0), (1, .int a)] := ⟨hl.1, hl.2.1, fun q hq => hl.2.2 q (List.mem_append_left _ hq)⟩
      refine lv_iload_n hx hb dX0_copyPage_6 rfl (lv_at hl 0 rfl) ?_
      refine lv_bipush (v := 8) hx hb dX0_copyPage_7 (by decide) ?_
      refine lv_icmp_ge (tgt := 40) hx hb dX0_copyPage_9 (by decide) (fun c_102 => ?_) (fun c_102 => ?_)
      · exact absurd c_102 (nI_ge (show ix < 8 by omega) (by decide))
      · refine lv_iload_n hx hb dX0_copyPage_12 rfl (lv_at hl 1 rfl) ?_
        refine lv_iload_n hx hb dX0_copyPage_13 rfl (lv_at hl 0 rfl) ?_
        refine lv_iadd hx hb dX0_copyPage_14 ?_
        refine lv_bipush (v := 63) hx hb dX0_copyPage_15 (by decide) ?_
        refine lv_iand hx hb dX0_copyPage_17 ?_
        refine lv_topi (fun v_103 ev_103 => ?_)
        refine lv_istore (lv' := [(4, .int v_103), (3, .int (nI ix)), (2, .int v_1), (0, .ref h0), (1, .int a)]) hx hb dX0_copyPage_18 hl (by decide) rfl (fun ls hl => ?_)
        refine lv_aload_n hx hb dX0_copyPage_20 rfl (lv_at hl 3 rfl) ?_
        refine va_get (D := (dC, dI)) (ci := 0) (v := .ref q2) (C := RX0) (T := TX0) (N := 12) hx hb hts inw_X0_copyPage hown hK hP 0 rfl rfl 1 (by decide) (hts (.fieldLink RX0 13 "Migrator" "destinationWords" "[I") (by decide +kernel)) (fun _ h9 => h9) rfl dX0_copyPage_21 ?_
        refine lv_iload hx hb dX0_copyPage_24 (lv_at hl 0 rfl) ?_
        refine lv_aload_n hx hb dX0_copyPage_26 rfl (lv_at hl 3 rfl) ?_
        refine va_get (D := (dC, dI)) (ci := 0) (v := .ref q1) (C := RX0) (T := TX0) (N := 12) hx hb hts inw_X0_copyPage hown hK hP 0 rfl rfl 0 (by decide) (hts (.fieldLink RX0 9 "Migrator" "sourceWords" "[I") (by decide +kernel)) (fun _ h9 => h9) rfl dX0_copyPage_27 ?_
        refine lv_iload hx hb dX0_copyPage_30 (lv_at hl 0 rfl) ?_
        refine va_iald hx hb hK hP 1 0 rfl rfl (by rw [ev_103]; exact in_63 _) dX0_copyPage_32 ?_
        refine va_iast hx hb hK hP hD hS 2 0 rfl rfl (by rw [ev_103]; exact in_63 _) dX0_copyPage_33 (fun H locs hP hD hS => ?_)
        have hP : va_P (dC, dI) vwCl [(h0, .inr (0, [.ref q1, .ref q2, .ref q3, .ref q4, .int pc, .int sc, .int ph, .int rd, .int th, .int lm, .int dy, .int wt])), (q1, .inl (cA, 64, .inl S)), (q2, .inl (cA, 64, .inl (upd Dx v_103.toNatClampNeg (S v_103.toNatClampNeg)))), (q3, .inl (cA, 4, .inl R)), (q4, .inl (cA, 8, .inl K))] H := hP
        have hD : va_D A [(h0, .inr (0, [.ref q1, .ref q2, .ref q3, .ref q4, .int pc, .int sc, .int ph, .int rd, .int th, .int lm, .int dy, .int wt])), (q1, .inl (cA, 64, .inl S)), (q2, .inl (cA, 64, .inl (upd Dx v_103.toNatClampNeg (S v_103.toNatClampNeg)))), (q3, .inl (cA, 4, .inl R)), (q4, .inl (cA, 8, .inl K))] := hD
        refine lv_iinc (v := (nI ix) + 1) (lv' := [(3, .int ((nI ix) + 1)), (4, .int v_103), (2, .int v_1), (0, .ref h0), (1, .int a)]) hx hb dX0_copyPage_34 hl (k := 1) rfl rfl (by decide) rfl (fun ls hl => ?_)
        refine lv_goto (tgt := 6) hx hb dX0_copyPage_37 (by decide) ?_
        exact ih (ix + 1) _ H locs ls (by omega) (by rw [ev_103, hi]; rfl) hP hD hS ⟨[(4, .int v_103)], by rw [← nI_1]; exact lv_sub hl [0, 2, 3, 4, 1] rfl⟩
  refine loop _ (fun Dx H locs ls hi hP hD hS => ?_) 8 0 D _ _ _ (by omega) rfl hP hD hS ⟨[], hl⟩
  exact W.vret hx hb hr (fun t ht hW => ⟨⟨(S, Dx, R, K, pc, sc, ph, rd, th, lm, dy, wt), rfl, (by rw [hi, ev_1]), by rw [ht]; exact hP, va_K.moved hW.alike hK, hD⟩, hS.F ht⟩) hS.2.2 dX0_copyPage_40
theorem inw_X0_copyFirstWaiting : ∀ w ∈ wsX00, w ∈ wsX0_copyFirstWaiting := fun _ h => List.mem_cons_of_mem _ (List.mem_append_right _ h)
set_option maxHeartbeats 4000000 in
set_option maxRecDepth 100000 in
theorem c_X0_copyFirstWaiting (l : Launch) (dC : Nat → ClassId) (dI : Nat → Nat → Nat) (h0 q1 q2 q3 q4 : Nat) (cA : ClassId) (S D R K : Nat → Int32) (pc sc ph rd th lm dy wt : Int32) (sz : Nat) : Met l yX0_copyFirstWaiting wsX0_copyFirstWaiting ({ frames := 1, cells := 0, slots := 0, locals := 24 }) (va_Pc [.ref h0] (fun U => U.heap.size = sz ∧ va_P (dC, dI) vwCl (mg_W h0 q1 q2 q3 q4 cA (S, D, R, K, pc, sc, ph, rd, th, lm, dy, wt)) U.heap ∧ va_K (dC, dI) vwCl [(cA, .int)] U ∧ va_D (fun _ => True) (mg_W h0 q1 q2 q3 q4 cA (S, D, R, K, pc, sc, ph, rd, th, lm, dy, wt)))) (va_Qi (fun (r : Int32) (u : mgS) => mg_fwP S D R K pc sc ph rd th lm dy wt r u) (at_mg dC dI h0 q1 q2 q3 q4 cA (va_A (mg_W h0 q1 q2 q3 q4 cA (S, D, R, K, pc, sc, ph, rd, th, lm, dy, wt)) sz)) (va_A (mg_W h0 q1 q2 q3 q4 cA (S, D, R, K, pc, sc, ph, rd, th, lm, dy, wt)) sz)) 0 0 (va_A (mg_W h0 q1 q2 q3 q4 cA (S, D, R, K, pc, sc, ph, rd, th, lm, dy, wt)) sz) := by
  refine Met.ofW (cc := cX0_copyFirstWaiting) (maxL := 2) (ret := (some .int)) (by decide) rfl ?_
  intro p e s m args below meth c s₁ B hml hv
  obtain ⟨rfl, hsz, hP, hK, hD0⟩ := hv
  have hx := B.exec
  have hb := B.bytes
  have hr := B.returns
  have hts := atoms_spec (ws := wsX0_copyFirstWaiting) B.pre
  have hown : s.vm.findClass RX0 = some m.cls := findClass_of_methodNamed B.named
  have hlocks := B.notSynchronized
  subst hsz
  have hD := hD0.self (sz := s.heap.size)
  generalize hAe : va_A (mg_W h0 q1 q2 q3 q4 cA (S, D, R, K, pc, sc, ph, rd, th, lm, dy, wt)) s.heap.size = A at hD ⊢
  have hA : ∀ q : Nat, s.heap.size ≤ q → A q := fun q h => by rw [← hAe]; exact Or.inr h
  have hS : va_S A s.heap s.heap [] := va_S.rf
  have hP : va_P (dC, dI) vwCl [(h0, .inr (0, [.ref q1, .ref q2, .ref q3, .ref q4, .int pc, .int sc, .int ph, .int rd, .int th, .int lm, .int dy, .int wt])), (q1, .inl (cA, 64, .inl S)), (q2, .inl (cA, 64, .inl D)), (q3, .inl (cA, 4, .inl R)), (q4, .inl (cA, 8, .inl K))] s.heap := hP
  have hD : va_D A [(h0, .inr (0, [.ref q1, .ref q2, .ref q3, .ref q4, .int pc, .int sc, .int ph, .int rd, .int th, .int lm, .int dy, .int wt])), (q1, .inl (cA, 64, .inl S)), (q2, .inl (cA, 64, .inl D)), (q3, .inl (cA, 4, .inl R)), (q4, .inl (cA, 8, .inl K))] := hD
  have hl := lv_entry ([.ref h0]) (n := 2) (Nat.le_of_ble_eq_true rfl)
  rw [lg_entry_eq]
  generalize (lg_sl ([.ref h0]) ++ List.replicate (2 - (lg_sl ([.ref h0])).length) Slot.unset).toArray = ls at hl ⊢
  have hl : lv_has ls 2 [(0, .ref h0)] := hl
  refine lv_iconst (v := 0) hx hb dX0_copyFirstWaiting_0 (by decide) ?_
  refine lv_istore_n (lv' := [(1, .int 0), (0, .ref h0)]) hx hb dX0_copyFirstWaiting_1 rfl hl (by decide) rfl (fun ls hl => ?_)
  obtain ⟨Q0, hQ0⟩ : ∃ Q0, Q0 = MQ below (va_Qi (fun (r : Int32) (u : mgS) => mg_fwP S D R K pc sc ph rd th lm dy wt r u) (at_mg dC dI h0 q1 q2 q3 q4 cA A) A) ([.ref h0] : List Value).toArray s 0 0 A := ⟨_, rfl⟩
  have loop : ∀ (kx ix : Nat) (H : Heap) (locs : List Loc) (ls : Array Slot), ix + kx = 8 → (∀ k, k < ix → ¬ mg_bt wt (nI k)) → va_P (dC, dI) vwCl [(h0, .inr (0, [.ref q1, .ref q2, .ref q3, .ref q4, .int pc, .int sc, .int ph, .int rd, .int th, .int lm, .int dy, .int wt])), (q1, .inl (cA, 64, .inl S)), (q2, .inl (cA, 64, .inl D)), (q3, .inl (cA, 4, .inl R)), (q4, .inl (cA, 8, .inl K))] H → va_D A [(h0, .inr (0, [.ref q1, .ref q2, .ref q3, .ref q4, .int pc, .int sc, .int ph, .int rd, .int th, .int lm, .int dy, .int wt])), (q1, .inl (cA, 64, .inl S)), (q2, .inl (cA, 64, .inl D)), (q3, .inl (cA, 4, .inl R)), (q4, .inl (cA, 8, .inl K))] → va_S A s.heap H locs → lv_has ls 2 [(1, .int (nI ix)), (0, .ref h0)] → W p l e (headSpec wsX0_copyFirstWaiting { frames := 1, cells := 0, slots := 0, locals := 24 }).room s m ([.ref h0] : List Value).toArray below meth c H locs 0 0 Q0 (F0 m 2 ls []) := by
    intro kx
    subst hQ0
    induction kx with
    | zero =>
      intro ix H locs ls hk hi hP hD hS hl
      have hz : ix = 8 := by omega
      subst hz
      refine lv_iload_n hx hb dX0_copyFirstWaiting_2 rfl (lv_at hl 0 rfl) ?_
      refine lv_bipush (v := 8) hx hb dX0_copyFirstWaiting_3 (by decide) ?_
      refine lv_icmp_ge (tgt := 46) hx hb dX0_copyFirstWaiting_5 (by decide) (fun c_1 => ?_) (fun c_1 => ?_)
      · refine lv_iconst (v := (-1)) hx hb dX0_copyFirstWaiting_46 (by decide) ?_
        exact W.iret (v := (-1)) hx hb hr (fun t ht hW => ⟨⟨(-1), (S, D, R, K, pc, sc, ph, rd, th, lm, dy, wt), rfl, Or.inr ⟨hi, rfl, rfl⟩, by rw [ht]; exact hP, va_K.moved hW.alike hK, hD⟩, hS.F ht⟩) hS.2.2 dX0_copyFirstWaiting_47
      · exact absurd (by decide) c_1
    | succ kx ih =>
      intro ix H locs ls hk hi hP hD hS hl
      refine lv_iload_n hx hb dX0_copyFirstWaiting_2 rfl (lv_at hl 0 rfl) ?_
      refine lv_bipush (v := 8) hx hb dX0_copyFirstWaiting_3 (by decide) ?_
      refine lv_icmp_ge (tgt := 46) hx hb dX0_copyFirstWaiting_5 (by decide) (fun c_101 => ?_) (fun c_101 => ?_)
      · exact absurd c_101 (nI_ge (show ix < 8 by omega) (by decide))
      · refine lv_aload_n hx hb dX0_copyFirstWaiting_8 rfl (lv_at hl 1 rfl) ?_
        refine va_get (D := (dC, dI)) (ci := 0) (v := .int wt) (C := RX0) (T := TX0) (N := 12) hx hb hts inw_X0_copyFirstWaiting hown hK hP 0 rfl rfl 11 (by decide) (hts (.fieldLink RX0 44 "Migrator" "waitingPages" "I") (by decide +kernel)) (fun _ h9 => h9) rfl dX0_copyFirstWaiting_9 ?_
        refine lv_iload_n hx hb dX0_copyFirstWaiting_12 rfl (lv_at hl 0 rfl) ?_
        have hPc := hP.sub (ws' := []) [] rfl
        have hDc := hD.sub (ws' := []) [] (by decide) rfl
        have hKc := hK.sub (tys' := []) [] rfl
        have hFc := va_free (wc := []) hD hS hA [] rfl
        refine va_calli (va_runS (As := [.int wt, .int (nI ix)]) (rest := []) ⟨hx, hb, hml, hown, hts⟩ (c_X0_hasPage l dC dI wt (nI ix) H.size) (va_cwS 2 hts gX0_copyFirstWaiting_X0_hasPage rfl rfl rfl (by decide +kernel) ⟨Nat.le_of_ble_eq_true rfl, Nat.le_of_ble_eq_true rfl⟩) ⟨fun a U g mk q => by obtain ⟨q0, q1, qP, qK, qD⟩ := q; exact ⟨q0, q1, qP, va_K.moved (u := U) (U := U.calling g mk a) (Vm.Alike.refl U.vm) qK, qD⟩, fun U hU hW => ⟨rfl, by rw [hU], by rw [hU]; exact hPc, va_K.moved hW.alike hKc, hDc.weaken (fun _ _ _ _ => trivial)⟩⟩ rfl rfl hl.1 rfl (lv_room (Nat.le_of_ble_eq_true rfl)) dX0_copyFirstWaiting_13 ⟨(Nat.zero_le _), (Nat.zero_le _)⟩) hS (fun q _ h => hFc q h) hFc (fun r_102 u_103 t H1 locs ht hvm w_104 hB hz1 hk1 hS => ?_)
        obtain ⟨hP1, hK1, hD1⟩ := hB
        rw [ht] at hP1
        obtain ⟨hP, hD⟩ := va_join (wr := [(h0, .inr (0, [.ref q1, .ref q2, .ref q3, .ref q4, .int pc, .int sc, .int ph, .int rd, .int th, .int lm, .int dy, .int wt])), (q1, .inl (cA, 64, .inl S)), (q2, .inl (cA, 64, .inl D)), (q3, .inl (cA, 4, .inl R)), (q4, .inl (cA, 8, .inl K))]) (w1 := []) hP hD [] [0, 1, 2, 3, 4] rfl rfl (by decide) (by decide) hk1 hFc hP1 hD1
        clear hPc hDc hFc hP1 hD1 hk1 hK1
        generalize H1 = H at hP hS ⊢
        have hP : va_P (dC, dI) vwCl [(h0, .inr (0, [.ref q1, .ref q2, .ref q3, .ref q4, .int pc, .int sc, .int ph, .int rd, .int th, .int lm, .int dy, .int wt])), (q1, .inl (cA, 64, .inl S)), (q2, .inl (cA, 64, .inl D)), (q3, .inl (cA, 4, .inl R)), (q4, .inl (cA, 8, .inl K))] H := hP
        have hD : va_D A [(h0, .inr (0, [.ref q1, .ref q2, .ref q3, .ref q4, .int pc, .int sc, .int ph, .int rd, .int th, .int lm, .int dy, .int wt])), (q1, .inl (cA, 64, .inl S)), (q2, .inl (cA, 64, .inl D)), (q3, .inl (cA, 4, .inl R)), (q4, .inl (cA, 8, .inl K))] := hD
        rcases w_104 with ⟨rfl, a_105⟩ | ⟨rfl, a_105⟩
        · refine lv_if_eq (tgt := 40) hx hb dX0_copyFirstWaiting_16 (by decide) (fun c_106 => ?_) (fun c_106 => ?_)
          · exact absurd c_106 (by decide)
          · refine lv_aload_n hx hb dX0_copyFirstWaiting_19 rfl (lv_at hl 1 rfl) ?_
            refine lv_iload_n hx hb dX0_copyFirstWaiting_20 rfl (lv_at hl 0 rfl) ?_
            have hPc := hP.sub (ws' := [(h0, .inr (0, [.ref q1, .ref q2, .ref q3, .ref q4, .int pc, .int sc, .int ph, .int rd, .int th, .int lm, .int dy, .int wt])), (q1, .inl (cA, 64, .inl S)), (q2, .inl (cA, 64, .inl D)), (q3, .inl (cA, 4, .inl R)), (q4, .inl (cA, 8, .inl K))]) [0, 1, 2, 3, 4] rfl
            have hDc := hD.sub (ws' := [(h0, .inr (0, [.ref q1, .ref q2, .ref q3, .ref q4, .int pc, .int sc, .int ph, .int rd, .int th, .int lm, .int dy, .int wt])), (q1, .inl (cA, 64, .inl S)), (q2, .inl (cA, 64, .inl D)), (q3, .inl (cA, 4, .inl R)), (q4, .inl (cA, 8, .inl K))]) [0, 1, 2, 3, 4] (by decide) rfl
            have hKc := hK.sub (tys' := [(cA, .int)]) [0] rfl
            have hFc := va_free (wc := [(h0, .inr (0, [.ref q1, .ref q2, .ref q3, .ref q4, .int pc, .int sc, .int ph, .int rd, .int th, .int lm, .int dy, .int wt])), (q1, .inl (cA, 64, .inl S)), (q2, .inl (cA, 64, .inl D)), (q3, .inl (cA, 4, .inl R)), (q4, .inl (cA, 8, .inl K))]) hD hS hA [0, 1, 2, 3, 4] rfl
            refine va_callv (va_runV (As := [.int (nI ix)]) (rest := []) ⟨hx, hb, hml, hown, hts⟩ (c_X0_copyPage l dC dI h0 q1 q2 q3 q4 cA S D R K pc sc ph rd th lm dy wt (nI ix) H.size) (cwV 1 hts gX0_copyFirstWaiting_X0_copyPage rfl rfl rfl (by decide +kernel) ⟨Nat.le_of_ble_eq_true rfl, Nat.le_of_ble_eq_true rfl⟩) ⟨fun a U g mk q => by obtain ⟨q0, q1, qP, qK, qD⟩ := q; exact ⟨q0, q1, qP, va_K.moved (u := U) (U := U.calling g mk a) (Vm.Alike.refl U.vm) qK, qD⟩, va_recv hKc hPc (ci := 0) (q0 := 0) rfl rfl, fun U hU hW => ⟨rfl, by rw [hU], by rw [hU]; exact hPc, va_K.moved hW.alike hKc, hDc.weaken (fun _ _ _ _ => trivial)⟩⟩ rfl rfl hl.1 rfl (lv_room (Nat.le_of_ble_eq_true rfl)) dX0_copyFirstWaiting_21 ⟨(Nat.zero_le _), (Nat.zero_le _)⟩) hS (fun q _ h => hFc q h) hFc (fun u_107 t H1 locs ht hvm w_108 hB hz1 hk1 hS => ?_)
            subst w_108
            obtain ⟨hP1, hK1, hD1⟩ := hB
            rw [ht] at hP1
            obtain ⟨hP, hD⟩ := va_join (wr := []) (w1 := [(h0, .inr (0, [.ref q1, .ref q2, .ref q3, .ref q4, .int pc, .int sc, .int ph, .int rd, .int th, .int lm, .int dy, .int wt])), (q1, .inl (cA, 64, .inl S)), (q2, .inl (cA, 64, .inl (mg_cp S ((nI ix) <<< ((3 : Int32) &&& 31)) 8 D))), (q3, .inl (cA, 4, .inl R)), (q4, .inl (cA, 8, .inl K))]) hP hD [0, 1, 2, 3, 4] [] rfl rfl (by decide) (by decide) hk1 hFc hP1 hD1
            clear hPc hDc hFc hP1 hD1 hk1 hK1
            generalize H1 = H at hP hS ⊢
            have hP : va_P (dC, dI) vwCl [(h0, .inr (0, [.ref q1, .ref q2, .ref q3, .ref q4, .int pc, .int sc, .int ph, .int rd, .int th, .int lm, .int dy, .int wt])), (q1, .inl (cA, 64, .inl S)), (q2, .inl (cA, 64, .inl (mg_cp S ((nI ix) <<< ((3 : Int32) &&& 31)) 8 D))), (q3, .inl (cA, 4, .inl R)), (q4, .inl (cA, 8, .inl K))] H := hP
            have hD : va_D A [(h0, .inr (0, [.ref q1, .ref q2, .ref q3, .ref q4, .int pc, .int sc, .int ph, .int rd, .int th, .int lm, .int dy, .int wt])), (q1, .inl (cA, 64, .inl S)), (q2, .inl (cA, 64, .inl (mg_cp S ((nI ix) <<< ((3 : Int32) &&& 31)) 8 D))), (q3, .inl (cA, 4, .inl R)), (q4, .inl (cA, 8, .inl K))] := hD
            refine lv_aload_n hx hb dX0_copyFirstWaiting_24 rfl (lv_at hl 1 rfl) ?_
            refine lv_dup hx hb dX0_copyFirstWaiting_25 rfl ?_
            refine va_get (D := (dC, dI)) (ci := 0) (v := .int wt) (C := RX0) (T := TX0) (N := 12) hx hb hts inw_X0_copyFirstWaiting hown hK hP 0 rfl rfl 11 (by decide) (hts (.fieldLink RX0 44 "Migrator" "waitingPages" "I") (by decide +kernel)) (fun _ h9 => h9) rfl dX0_copyFirstWaiting_26 ?_
            refine lv_iconst (v := 1) hx hb dX0_copyFirstWaiting_29 (by decide) ?_
            refine lv_iload_n hx hb dX0_copyFirstWaiting_30 rfl (lv_at hl 0 rfl) ?_
            refine lv_ishl hx hb dX0_copyFirstWaiting_31 ?_
            refine lv_iconst (v := (-1)) hx hb dX0_copyFirstWaiting_32 (by decide) ?_
            refine lv_ixor hx hb dX0_copyFirstWaiting_33 ?_
            refine lv_iand hx hb dX0_copyFirstWaiting_34 ?_
            refine va_put (D := (dC, dI)) (ci := 0) (v := .int (wt &&& (((1 : Int32) <<< ((nI ix) &&& 31)) ^^^ (-1)))) (ty := .int) (C := RX0) (T := TX0) (N := 12) hx hb hts inw_X0_copyFirstWaiting tyX0 tyX0_ok nmX0 hown hK hP hD hS 0 rfl rfl 11 (by decide) (hts (.fieldLink RX0 44 "Migrator" "waitingPages" "I") (by decide +kernel)) (fun _ h9 => h9) rfl (by decide +kernel) rfl rfl (Nat.le_of_ble_eq_true rfl) dX0_copyFirstWaiting_35 (fun H locs hP hD hS => ?_)
            have hP : va_P (dC, dI) vwCl [(h0, .inr (0, [.ref q1, .ref q2, .ref q3, .ref q4, .int pc, .int sc, .int ph, .int rd, .int th, .int lm, .int dy, .int (wt &&& (((1 : Int32) <<< ((nI ix) &&& 31)) ^^^ (-1)))])), (q1, .inl (cA, 64, .inl S)), (q2, .inl (cA, 64, .inl (mg_cp S ((nI ix) <<< ((3 : Int32) &&& 31)) 8 D))), (q3, .inl (cA, 4, .inl R)), (q4, .inl (cA, 8, .inl K))] H := hP
            have hD : va_D A [(h0, .inr (0, [.ref q1, .ref q2, .ref q3, .ref q4, .int pc, .int sc, .int ph, .int rd, .int th, .int lm, .int dy, .int (wt &&& (((1 : Int32) <<< ((nI ix) &&& 31)) ^^^ (-1)))])), (q1, .inl (cA, 64, .inl S)), (q2, .inl (cA, 64, .inl (mg_cp S ((nI ix) <<< ((3 : Int32) &&& 31)) 8 D))), (q3, .inl (cA, 4, .inl R)), (q4, .inl (cA, 8, .inl K))] := hD
            refine lv_iload_n hx hb dX0_copyFirstWaiting_38 rfl (lv_at hl 0 rfl) ?_
            exact W.iret (v := nI ix) hx hb hr (fun t ht hW => ⟨⟨nI ix, (S, mg_cp S ((nI ix) <<< ((3 : Int32) &&& 31)) 8 D, R, K, pc, sc, ph, rd, th, lm, dy, wt &&& (((1 : Int32) <<< ((nI ix) &&& 31)) ^^^ (-1))), rfl, Or.inl ⟨ix, by omega, a_105, hi, rfl, rfl⟩, by rw [ht]; exact hP, va_K.moved hW.alike hK, hD⟩, hS.F ht⟩) hS.2.2 dX0_copyFirstWaiting_39
        · refine lv_if_eq (tgt := 40) hx hb dX0_copyFirstWaiting_16 (by decide) (fun c_109 => ?_) (fun c_109 => ?_)
          · refine lv_iinc (v := (nI ix) + 1) (lv' := [(1, .int ((nI ix) + 1)), (0, .ref h0)]) hx hb dX0_copyFirstWaiting_40 hl (k := 0) rfl rfl (by decide) rfl (fun ls hl => ?_)
            refine lv_goto (tgt := 2) hx hb dX0_copyFirstWaiting_43 (by decide) ?_
            exact ih (ix + 1) H locs ls (by omega) (lt_s (p := fun k => ¬ mg_bt wt (nI k)) hi a_105) hP hD hS (by rw [← nI_1]; exact hl)
          · exact absurd c_109 (by decide)
  subst hQ0
  exact loop 8 0 _ _ _ (by omega) (fun k h => absurd h (Nat.not_lt_zero k)) hP hD hS hl
theorem inw_X0_endRound : ∀ w ∈ wsX00, w ∈ wsX0_endRound := fun _ h => List.mem_cons_of_mem _ (List.mem_append_right _ h)
set_option maxHeartbeats 4000000 in
set_option maxRecDepth 100000 in
theorem c_X0_endRound (l : Launch) (dC : Nat → ClassId) (dI : Nat → Nat → Nat) (h0 q1 q2 q3 q4 : Nat) (cA : ClassId) (S D R K : Nat → Int32) (pc sc ph rd th lm dy wt : Int32) (sz : Nat) : Met l yX0_endRound wsX0_endRound ({ frames := 1, cells := 0, slots := 0, locals := 20 }) (va_Pc [.ref h0] (fun U => U.heap.size = sz ∧ va_P (dC, dI) vwCl (mg_W h0 q1 q2 q3 q4 cA (S, D, R, K, pc, sc, ph, rd, th, lm, dy, wt)) U.heap ∧ va_K (dC, dI) vwCl [(cA, .int)] U ∧ va_D (fun _ => True) (mg_W h0 q1 q2 q3 q4 cA (S, D, R, K, pc, sc, ph, rd, th, lm, dy, wt)))) (va_Qi (fun (r : Int32) (u : mgS) => mg_erP S D R K pc sc ph rd th lm dy r u) (at_mg dC dI h0 q1 q2 q3 q4 cA (va_A (mg_W h0 q1 q2 q3 q4 cA (S, D, R, K, pc, sc, ph, rd, th, lm, dy, wt)) sz)) (va_A (mg_W h0 q1 q2 q3 q4 cA (S, D, R, K, pc, sc, ph, rd, th, lm, dy, wt)) sz)) 0 0 (va_A (mg_W h0 q1 q2 q3 q4 cA (S, D, R, K, pc, sc, ph, rd, th, lm, dy, wt)) sz) := by
  refine Met.ofW (cc := cX0_endRound) (maxL := 1) (ret := (some .int)) (by decide) rfl ?_
  intro p e s m args below meth c s₁ B hml hv
  obtain ⟨rfl, hsz, hP, hK, hD0⟩ := hv
  have hx := B.exec
  have hb := B.bytes
  have hr := B.returns
  have hts := atoms_spec (ws := wsX0_endRound) B.pre
  have hown : s.vm.findClass RX0 = some m.cls := findClass_of_methodNamed B.named
  have hlocks := B.notSynchronized
  subst hsz
  have hD := hD0.self (sz := s.heap.size)
  generalize hAe : va_A (mg_W h0 q1 q2 q3 q4 cA (S, D, R, K, pc, sc, ph, rd, th, lm, dy, wt)) s.heap.size = A at hD ⊢
  have hA : ∀ q : Nat, s.heap.size ≤ q → A q := fun q h => by rw [← hAe]; exact Or.inr h
  have hS : va_S A s.heap s.heap [] := va_S.rf
  have hP : va_P (dC, dI) vwCl [(h0, .inr (0, [.ref q1, .ref q2, .ref q3, .ref q4, .int pc, .int sc, .int ph, .int rd, .int th, .int lm, .int dy, .int wt])), (q1, .inl (cA, 64, .inl S)), (q2, .inl (cA, 64, .inl D)), (q3, .inl (cA, 4, .inl R)), (q4, .inl (cA, 8, .inl K))] s.heap := hP
  have hD : va_D A [(h0, .inr (0, [.ref q1, .ref q2, .ref q3, .ref q4, .int pc, .int sc, .int ph, .int rd, .int th, .int lm, .int dy, .int wt])), (q1, .inl (cA, 64, .inl S)), (q2, .inl (cA, 64, .inl D)), (q3, .inl (cA, 4, .inl R)), (q4, .inl (cA, 8, .inl K))] := hD
  have hl := lv_entry ([.ref h0]) (n := 1) (Nat.le_of_ble_eq_true rfl)
  rw [lg_entry_eq]
  generalize (lg_sl ([.ref h0]) ++ List.replicate (1 - (lg_sl ([.ref h0])).length) Slot.unset).toArray = ls at hl ⊢
  have hl : lv_has ls 1 [(0, .ref h0)] := hl
  refine lv_aload_n hx hb dX0_endRound_0 rfl (lv_at hl 0 rfl) ?_
  refine lv_aload_n hx hb dX0_endRound_1 rfl (lv_at hl 0 rfl) ?_
  refine va_get (D := (dC, dI)) (ci := 0) (v := .int dy) (C := RX0) (T := TX0) (N := 12) hx hb hts inw_X0_endRound hown hK hP 0 rfl rfl 10 (by decide) (hts (.fieldLink RX0 41 "Migrator" "dirtyPages" "I") (by decide +kernel)) (fun _ h9 => h9) rfl dX0_endRound_2 ?_
  refine va_put (D := (dC, dI)) (ci := 0) (v := .int dy) (ty := .int) (C := RX0) (T := TX0) (N := 12) hx hb hts inw_X0_endRound tyX0 tyX0_ok nmX0 hown hK hP hD hS 0 rfl rfl 11 (by decide) (hts (.fieldLink RX0 44 "Migrator" "waitingPages" "I") (by decide +kernel)) (fun _ h9 => h9) rfl (by decide +kernel) rfl rfl (Nat.le_of_ble_eq_true rfl) dX0_endRound_5 (fun H locs hP hD hS => ?_)
  have hP : va_P (dC, dI) vwCl [(h0, .inr (0, [.ref q1, .ref q2, .ref q3, .ref q4, .int pc, .int sc, .int ph, .int rd, .int th, .int lm, .int dy, .int dy])), (q1, .inl (cA, 64, .inl S)), (q2, .inl (cA, 64, .inl D)), (q3, .inl (cA, 4, .inl R)), (q4, .inl (cA, 8, .inl K))] H := hP
  have hD : va_D A [(h0, .inr (0, [.ref q1, .ref q2, .ref q3, .ref q4, .int pc, .int sc, .int ph, .int rd, .int th, .int lm, .int dy, .int dy])), (q1, .inl (cA, 64, .inl S)), (q2, .inl (cA, 64, .inl D)), (q3, .inl (cA, 4, .inl R)), (q4, .inl (cA, 8, .inl K))] := hD
  refine lv_aload_n hx hb dX0_endRound_8 rfl (lv_at hl 0 rfl) ?_
  refine va_get (D := (dC, dI)) (ci := 0) (v := .int dy) (C := RX0) (T := TX0) (N := 12) hx hb hts inw_X0_endRound hown hK hP 0 rfl rfl 10 (by decide) (hts (.fieldLink RX0 41 "Migrator" "dirtyPages" "I") (by decide +kernel)) (fun _ h9 => h9) rfl dX0_endRound_9 ?_
  have hPc := hP.sub (ws' := []) [] rfl
  have hDc := hD.sub (ws' := []) [] (by decide) rfl
  have hKc := hK.sub (tys' := []) [] rfl
  have hFc := va_free (wc := []) hD hS hA [] rfl
  refine va_calli (va_runS (As := [.int dy]) (rest := []) ⟨hx, hb, hml, hown, hts⟩ (c_J6_bitCount_0f7a4 l dC dI dy H.size) (va_cwS 1 hts gX0_endRound_J6_bitCount_0f7a4 rfl rfl rfl (by decide +kernel) ⟨Nat.le_of_ble_eq_true rfl, Nat.le_of_ble_eq_true rfl⟩) ⟨fun a U g mk q => by obtain ⟨q0, q1, qP, qK, qD⟩ := q; exact ⟨q0, q1, qP, va_K.moved (u := U) (U := U.calling g mk a) (Vm.Alike.refl U.vm) qK, qD⟩, fun U hU hW => ⟨rfl, by rw [hU], by rw [hU]; exact hPc, va_K.moved hW.alike hKc, hDc.weaken (fun _ _ _ _ => trivial)⟩⟩ rfl rfl hl.1 rfl (lv_room (Nat.le_of_ble_eq_true rfl)) dX0_endRound_12 ⟨(Nat.zero_le _), (Nat.zero_le _)⟩) hS (fun q _ h => hFc q h) hFc (fun r_1 u_2 t H1 locs ht hvm w_3 hB hz1 hk1 hS => ?_)
  obtain ⟨hP1, hK1, hD1⟩ := hB
  rw [ht] at hP1
  obtain ⟨hP, hD⟩ := va_join (wr := [(h0, .inr (0, [.ref q1, .ref q2, .ref q3, .ref q4, .int pc, .int sc, .int ph, .int rd, .int th, .int lm, .int dy, .int dy])), (q1, .inl (cA, 64, .inl S)), (q2, .inl (cA, 64, .inl D)), (q3, .inl (cA, 4, .inl R)), (q4, .inl (cA, 8, .inl K))]) (w1 := []) hP hD [] [0, 1, 2, 3, 4] rfl rfl (by decide) (by decide) hk1 hFc hP1 hD1
  clear hPc hDc hFc hP1 hD1 hk1 hK1
  generalize H1 = H at hP hS ⊢
  have hP : va_P (dC, dI) vwCl [(h0, .inr (0, [.ref q1, .ref q2, .ref q3, .ref q4, .int pc, .int sc, .int ph, .int rd, .int th, .int lm, .int dy, .int dy])), (q1, .inl (cA, 64, .inl S)), (q2, .inl (cA, 64, .inl D)), (q3, .inl (cA, 4, .inl R)), (q4, .inl (cA, 8, .inl K))] H := hP
  have hD : va_D A [(h0, .inr (0, [.ref q1, .ref q2, .ref q3, .ref q4, .int pc, .int sc, .int ph, .int rd, .int th, .int lm, .int dy, .int dy])), (q1, .inl (cA, 64, .inl S)), (q2, .inl (cA, 64, .inl D)), (q3, .inl (cA, 4, .inl R)), (q4, .inl (cA, 8, .inl K))] := hD
  refine lv_aload_n hx hb dX0_endRound_15 rfl (lv_at hl 0 rfl) ?_
  refine va_get (D := (dC, dI)) (ci := 0) (v := .int th) (C := RX0) (T := TX0) (N := 12) hx hb hts inw_X0_endRound hown hK hP 0 rfl rfl 8 (by decide) (hts (.fieldLink RX0 35 "Migrator" "dirtyThreshold" "I") (by decide +kernel)) (fun _ h9 => h9) rfl dX0_endRound_16 ?_
  refine lv_icmp_le (tgt := 33) hx hb dX0_endRound_19 (by decide) (fun c_4 => ?_) (fun c_4 => ?_)
  · refine lv_aload_n hx hb dX0_endRound_33 rfl (lv_at hl 0 rfl) ?_
    refine lv_iconst (v := 2) hx hb dX0_endRound_34 (by decide) ?_
    refine va_put (D := (dC, dI)) (ci := 0) (v := .int 2) (ty := .int) (C := RX0) (T := TX0) (N := 12) hx hb hts inw_X0_endRound tyX0 tyX0_ok nmX0 hown hK hP hD hS 0 rfl rfl 6 (by decide) (hts (.fieldLink RX0 29 "Migrator" "phaseNow" "I") (by decide +kernel)) (fun _ h9 => h9) rfl (by decide +kernel) rfl rfl (Nat.le_of_ble_eq_true rfl) dX0_endRound_35 (fun H locs hP hD hS => ?_)
    have hP : va_P (dC, dI) vwCl [(h0, .inr (0, [.ref q1, .ref q2, .ref q3, .ref q4, .int pc, .int sc, .int 2, .int rd, .int th, .int lm, .int dy, .int dy])), (q1, .inl (cA, 64, .inl S)), (q2, .inl (cA, 64, .inl D)), (q3, .inl (cA, 4, .inl R)), (q4, .inl (cA, 8, .inl K))] H := hP
    have hD : va_D A [(h0, .inr (0, [.ref q1, .ref q2, .ref q3, .ref q4, .int pc, .int sc, .int 2, .int rd, .int th, .int lm, .int dy, .int dy])), (q1, .inl (cA, 64, .inl S)), (q2, .inl (cA, 64, .inl D)), (q3, .inl (cA, 4, .inl R)), (q4, .inl (cA, 8, .inl K))] := hD
    refine lv_bipush (v := 33) hx hb dX0_endRound_38 (by decide) ?_
    subst w_3
    exact W.iret (v := 33) hx hb hr (fun t ht hW => ⟨⟨33, (S, D, R, K, pc, sc, 2, rd, th, lm, dy, dy), rfl, Or.inl ⟨rfl, Or.inl c_4, rfl⟩, by rw [ht]; exact hP, va_K.moved hW.alike hK, hD⟩, hS.F ht⟩) hS.2.2 dX0_endRound_40
  · refine lv_aload_n hx hb dX0_endRound_22 rfl (lv_at hl 0 rfl) ?_
    refine va_get (D := (dC, dI)) (ci := 0) (v := .int rd) (C := RX0) (T := TX0) (N := 12) hx hb hts inw_X0_endRound hown hK hP 0 rfl rfl 7 (by decide) (hts (.fieldLink RX0 32 "Migrator" "roundNow" "I") (by decide +kernel)) (fun _ h9 => h9) rfl dX0_endRound_23 ?_
    refine lv_aload_n hx hb dX0_endRound_26 rfl (lv_at hl 0 rfl) ?_
    refine va_get (D := (dC, dI)) (ci := 0) (v := .int lm) (C := RX0) (T := TX0) (N := 12) hx hb hts inw_X0_endRound hown hK hP 0 rfl rfl 9 (by decide) (hts (.fieldLink RX0 38 "Migrator" "roundLimit" "I") (by decide +kernel)) (fun _ h9 => h9) rfl dX0_endRound_27 ?_
    refine lv_icmp_ne (tgt := 41) hx hb dX0_endRound_30 (by decide) (fun c_5 => ?_) (fun c_5 => ?_)
    · refine lv_aload_n hx hb dX0_endRound_41 rfl (lv_at hl 0 rfl) ?_
      refine lv_iconst (v := 0) hx hb dX0_endRound_42 (by decide) ?_
      refine va_put (D := (dC, dI)) (ci := 0) (v := .int 0) (ty := .int) (C := RX0) (T := TX0) (N := 12) hx hb hts inw_X0_endRound tyX0 tyX0_ok nmX0 hown hK hP hD hS 0 rfl rfl 10 (by decide) (hts (.fieldLink RX0 41 "Migrator" "dirtyPages" "I") (by decide +kernel)) (fun _ h9 => h9) rfl (by decide +kernel) rfl rfl (Nat.le_of_ble_eq_true rfl) dX0_endRound_43 (fun H locs hP hD hS => ?_)
      have hP : va_P (dC, dI) vwCl [(h0, .inr (0, [.ref q1, .ref q2, .ref q3, .ref q4, .int pc, .int sc, .int ph, .int rd, .int th, .int lm, .int 0, .int dy])), (q1, .inl (cA, 64, .inl S)), (q2, .inl (cA, 64, .inl D)), (q3, .inl (cA, 4, .inl R)), (q4, .inl (cA, 8, .inl K))] H := hP
      have hD : va_D A [(h0, .inr (0, [.ref q1, .ref q2, .ref q3, .ref q4, .int pc, .int sc, .int ph, .int rd, .int th, .int lm, .int 0, .int dy])), (q1, .inl (cA, 64, .inl S)), (q2, .inl (cA, 64, .inl D)), (q3, .inl (cA, 4, .inl R)), (q4, .inl (cA, 8, .inl K))] := hD
      refine lv_aload_n hx hb dX0_endRound_46 rfl (lv_at hl 0 rfl) ?_
      refine lv_dup hx hb dX0_endRound_47 rfl ?_
      refine va_get (D := (dC, dI)) (ci := 0) (v := .int rd) (C := RX0) (T := TX0) (N := 12) hx hb hts inw_X0_endRound hown hK hP 0 rfl rfl 7 (by decide) (hts (.fieldLink RX0 32 "Migrator" "roundNow" "I") (by decide +kernel)) (fun _ h9 => h9) rfl dX0_endRound_48 ?_
      refine lv_iconst (v := 1) hx hb dX0_endRound_51 (by decide) ?_
      refine lv_iadd hx hb dX0_endRound_52 ?_
      refine va_put (D := (dC, dI)) (ci := 0) (v := .int (rd + 1)) (ty := .int) (C := RX0) (T := TX0) (N := 12) hx hb hts inw_X0_endRound tyX0 tyX0_ok nmX0 hown hK hP hD hS 0 rfl rfl 7 (by decide) (hts (.fieldLink RX0 32 "Migrator" "roundNow" "I") (by decide +kernel)) (fun _ h9 => h9) rfl (by decide +kernel) rfl rfl (Nat.le_of_ble_eq_true rfl) dX0_endRound_53 (fun H locs hP hD hS => ?_)
      have hP : va_P (dC, dI) vwCl [(h0, .inr (0, [.ref q1, .ref q2, .ref q3, .ref q4, .int pc, .int sc, .int ph, .int (rd + 1), .int th, .int lm, .int 0, .int dy])), (q1, .inl (cA, 64, .inl S)), (q2, .inl (cA, 64, .inl D)), (q3, .inl (cA, 4, .inl R)), (q4, .inl (cA, 8, .inl K))] H := hP
      have hD : va_D A [(h0, .inr (0, [.ref q1, .ref q2, .ref q3, .ref q4, .int pc, .int sc, .int ph, .int (rd + 1), .int th, .int lm, .int 0, .int dy])), (q1, .inl (cA, 64, .inl S)), (q2, .inl (cA, 64, .inl D)), (q3, .inl (cA, 4, .inl R)), (q4, .inl (cA, 8, .inl K))] := hD
      refine lv_bipush (v := 32) hx hb dX0_endRound_56 (by decide) ?_
      subst w_3
      exact W.iret (v := 32) hx hb hr (fun t ht hW => ⟨⟨32, (S, D, R, K, pc, sc, ph, rd + 1, th, lm, 0, dy), rfl, Or.inr ⟨rfl, c_4, c_5, rfl⟩, by rw [ht]; exact hP, va_K.moved hW.alike hK, hD⟩, hS.F ht⟩) hS.2.2 dX0_endRound_58
    · refine lv_aload_n hx hb dX0_endRound_33 rfl (lv_at hl 0 rfl) ?_
      refine lv_iconst (v := 2) hx hb dX0_endRound_34 (by decide) ?_
      refine va_put (D := (dC, dI)) (ci := 0) (v := .int 2) (ty := .int) (C := RX0) (T := TX0) (N := 12) hx hb hts inw_X0_endRound tyX0 tyX0_ok nmX0 hown hK hP hD hS 0 rfl rfl 6 (by decide) (hts (.fieldLink RX0 29 "Migrator" "phaseNow" "I") (by decide +kernel)) (fun _ h9 => h9) rfl (by decide +kernel) rfl rfl (Nat.le_of_ble_eq_true rfl) dX0_endRound_35 (fun H locs hP hD hS => ?_)
      have hP : va_P (dC, dI) vwCl [(h0, .inr (0, [.ref q1, .ref q2, .ref q3, .ref q4, .int pc, .int sc, .int 2, .int rd, .int th, .int lm, .int dy, .int dy])), (q1, .inl (cA, 64, .inl S)), (q2, .inl (cA, 64, .inl D)), (q3, .inl (cA, 4, .inl R)), (q4, .inl (cA, 8, .inl K))] H := hP
      have hD : va_D A [(h0, .inr (0, [.ref q1, .ref q2, .ref q3, .ref q4, .int pc, .int sc, .int 2, .int rd, .int th, .int lm, .int dy, .int dy])), (q1, .inl (cA, 64, .inl S)), (q2, .inl (cA, 64, .inl D)), (q3, .inl (cA, 4, .inl R)), (q4, .inl (cA, 8, .inl K))] := hD
      refine lv_bipush (v := 33) hx hb dX0_endRound_38 (by decide) ?_
      subst w_3
      exact W.iret (v := 33) hx hb hr (fun t ht hW => ⟨⟨33, (S, D, R, K, pc, sc, 2, rd, th, lm, dy, dy), rfl, Or.inl ⟨rfl, Or.inr c_5, rfl⟩, by rw [ht]; exact hP, va_K.moved hW.alike hK, hD⟩, hS.F ht⟩) hS.2.2 dX0_endRound_40
theorem inw_X0_copy : ∀ w ∈ wsX00, w ∈ wsX0_copy := fun _ h => List.mem_cons_of_mem _ (List.mem_append_right _ h)
set_option maxHeartbeats 4000000 in
set_option maxRecDepth 100000 in
theorem c_X0_copy (l : Launch) (dC : Nat → ClassId) (dI : Nat → Nat → Nat) (h0 q1 q2 q3 q4 : Nat) (cA : ClassId) (S D R K : Nat → Int32) (pc sc ph rd th lm dy wt : Int32) (sz : Nat) : Met l yX0_copy wsX0_copy ({ frames := 2, cells := 0, slots := 0, locals := 45 }) (va_Pc [.ref h0] (fun U => U.heap.size = sz ∧ va_P (dC, dI) vwCl (mg_W h0 q1 q2 q3 q4 cA (S, D, R, K, pc, sc, ph, rd, th, lm, dy, wt)) U.heap ∧ va_K (dC, dI) vwCl [(cA, .int)] U ∧ va_D (fun _ => True) (mg_W h0 q1 q2 q3 q4 cA (S, D, R, K, pc, sc, ph, rd, th, lm, dy, wt)))) (va_Qi (fun (r : Int32) (u : mgS) => mg_cyP S D R K pc sc ph rd th lm dy wt r u) (at_mg dC dI h0 q1 q2 q3 q4 cA (va_A (mg_W h0 q1 q2 q3 q4 cA (S, D, R, K, pc, sc, ph, rd, th, lm, dy, wt)) sz)) (va_A (mg_W h0 q1 q2 q3 q4 cA (S, D, R, K, pc, sc, ph, rd, th, lm, dy, wt)) sz)) 0 0 (va_A (mg_W h0 q1 q2 q3 q4 cA (S, D, R, K, pc, sc, ph, rd, th, lm, dy, wt)) sz) := by
  refine Met.ofW (cc := cX0_copy) (maxL := 1) (ret := (some .int)) (by decide) rfl ?_
  intro p e s m args below meth c s₁ B hml hv
  obtain ⟨rfl, hsz, hP, hK, hD0⟩ := hv
  have hx := B.exec
  have hb := B.bytes
  have hr := B.returns
  have hts := atoms_spec (ws := wsX0_copy) B.pre
  have hown : s.vm.findClass RX0 = some m.cls := findClass_of_methodNamed B.named
  have hlocks := B.notSynchronized
  subst hsz
  have hD := hD0.self (sz := s.heap.size)
  generalize hAe : va_A (mg_W h0 q1 q2 q3 q4 cA (S, D, R, K, pc, sc, ph, rd, th, lm, dy, wt)) s.heap.size = A at hD ⊢
  have hA : ∀ q : Nat, s.heap.size ≤ q → A q := fun q h => by rw [← hAe]; exact Or.inr h
  have hS : va_S A s.heap s.heap [] := va_S.rf
  have hP : va_P (dC, dI) vwCl [(h0, .inr (0, [.ref q1, .ref q2, .ref q3, .ref q4, .int pc, .int sc, .int ph, .int rd, .int th, .int lm, .int dy, .int wt])), (q1, .inl (cA, 64, .inl S)), (q2, .inl (cA, 64, .inl D)), (q3, .inl (cA, 4, .inl R)), (q4, .inl (cA, 8, .inl K))] s.heap := hP
  have hD : va_D A [(h0, .inr (0, [.ref q1, .ref q2, .ref q3, .ref q4, .int pc, .int sc, .int ph, .int rd, .int th, .int lm, .int dy, .int wt])), (q1, .inl (cA, 64, .inl S)), (q2, .inl (cA, 64, .inl D)), (q3, .inl (cA, 4, .inl R)), (q4, .inl (cA, 8, .inl K))] := hD
  have hl := lv_entry ([.ref h0]) (n := 1) (Nat.le_of_ble_eq_true rfl)
  rw [lg_entry_eq]
  generalize (lg_sl ([.ref h0]) ++ List.replicate (1 - (lg_sl ([.ref h0])).length) Slot.unset).toArray = ls at hl ⊢
  have hl : lv_has ls 1 [(0, .ref h0)] := hl
  refine lv_aload_n hx hb dX0_copy_0 rfl (lv_at hl 0 rfl) ?_
  refine va_get (D := (dC, dI)) (ci := 0) (v := .int ph) (C := RX0) (T := TX0) (N := 12) hx hb hts inw_X0_copy hown hK hP 0 rfl rfl 6 (by decide) (hts (.fieldLink RX0 29 "Migrator" "phaseNow" "I") (by decide +kernel)) (fun _ h9 => h9) rfl dX0_copy_1 ?_
  refine lv_iconst (v := 1) hx hb dX0_copy_4 (by decide) ?_
  refine lv_icmp_eq (tgt := 18) hx hb dX0_copy_5 (by decide) (fun c_1 => ?_) (fun c_1 => ?_)
  · refine lv_aload_n hx hb dX0_copy_18 rfl (lv_at hl 0 rfl) ?_
    refine va_get (D := (dC, dI)) (ci := 0) (v := .int wt) (C := RX0) (T := TX0) (N := 12) hx hb hts inw_X0_copy hown hK hP 0 rfl rfl 11 (by decide) (hts (.fieldLink RX0 44 "Migrator" "waitingPages" "I") (by decide +kernel)) (fun _ h9 => h9) rfl dX0_copy_19 ?_
    refine lv_if_eq (tgt := 30) hx hb dX0_copy_22 (by decide) (fun c_2 => ?_) (fun c_2 => ?_)
    · refine lv_aload_n hx hb dX0_copy_30 rfl (lv_at hl 0 rfl) ?_
      refine va_get (D := (dC, dI)) (ci := 0) (v := .int ph) (C := RX0) (T := TX0) (N := 12) hx hb hts inw_X0_copy hown hK hP 0 rfl rfl 6 (by decide) (hts (.fieldLink RX0 29 "Migrator" "phaseNow" "I") (by decide +kernel)) (fun _ h9 => h9) rfl dX0_copy_31 ?_
      refine lv_iconst (v := 1) hx hb dX0_copy_34 (by decide) ?_
      refine lv_icmp_ne (tgt := 43) hx hb dX0_copy_35 (by decide) (fun c_3 => ?_) (fun c_3 => ?_)
      · refine lv_aload_n hx hb dX0_copy_43 rfl (lv_at hl 0 rfl) ?_
        refine lv_iconst (v := 3) hx hb dX0_copy_44 (by decide) ?_
        refine va_put (D := (dC, dI)) (ci := 0) (v := .int 3) (ty := .int) (C := RX0) (T := TX0) (N := 12) hx hb hts inw_X0_copy tyX0 tyX0_ok nmX0 hown hK hP hD hS 0 rfl rfl 6 (by decide) (hts (.fieldLink RX0 29 "Migrator" "phaseNow" "I") (by decide +kernel)) (fun _ h9 => h9) rfl (by decide +kernel) rfl rfl (Nat.le_of_ble_eq_true rfl) dX0_copy_45 (fun H locs hP hD hS => ?_)
        have hP : va_P (dC, dI) vwCl [(h0, .inr (0, [.ref q1, .ref q2, .ref q3, .ref q4, .int pc, .int sc, .int 3, .int rd, .int th, .int lm, .int dy, .int wt])), (q1, .inl (cA, 64, .inl S)), (q2, .inl (cA, 64, .inl D)), (q3, .inl (cA, 4, .inl R)), (q4, .inl (cA, 8, .inl K))] H := hP
        have hD : va_D A [(h0, .inr (0, [.ref q1, .ref q2, .ref q3, .ref q4, .int pc, .int sc, .int 3, .int rd, .int th, .int lm, .int dy, .int wt])), (q1, .inl (cA, 64, .inl S)), (q2, .inl (cA, 64, .inl D)), (q3, .inl (cA, 4, .inl R)), (q4, .inl (cA, 8, .inl K))] := hD
        refine lv_bipush (v := 34) hx hb dX0_copy_48 (by decide) ?_
        exact W.iret (v := 34) hx hb hr (fun t ht hW => ⟨⟨34, (S, D, R, K, pc, sc, 3, rd, th, lm, dy, wt), rfl, Or.inr (Or.inr (Or.inr ⟨(absurd c_1 c_3), c_2, rfl, rfl⟩)), by rw [ht]; exact hP, va_K.moved hW.alike hK, hD⟩, hS.F ht⟩) hS.2.2 dX0_copy_50
      · refine lv_aload_n hx hb dX0_copy_38 rfl (lv_at hl 0 rfl) ?_
        have hPc := hP.sub (ws' := [(h0, .inr (0, [.ref q1, .ref q2, .ref q3, .ref q4, .int pc, .int sc, .int ph, .int rd, .int th, .int lm, .int dy, .int wt])), (q1, .inl (cA, 64, .inl S)), (q2, .inl (cA, 64, .inl D)), (q3, .inl (cA, 4, .inl R)), (q4, .inl (cA, 8, .inl K))]) [0, 1, 2, 3, 4] rfl
        have hDc := hD.sub (ws' := [(h0, .inr (0, [.ref q1, .ref q2, .ref q3, .ref q4, .int pc, .int sc, .int ph, .int rd, .int th, .int lm, .int dy, .int wt])), (q1, .inl (cA, 64, .inl S)), (q2, .inl (cA, 64, .inl D)), (q3, .inl (cA, 4, .inl R)), (q4, .inl (cA, 8, .inl K))]) [0, 1, 2, 3, 4] (by decide) rfl
        have hKc := hK.sub (tys' := [(cA, .int)]) [0] rfl
        have hFc := va_free (wc := [(h0, .inr (0, [.ref q1, .ref q2, .ref q3, .ref q4, .int pc, .int sc, .int ph, .int rd, .int th, .int lm, .int dy, .int wt])), (q1, .inl (cA, 64, .inl S)), (q2, .inl (cA, 64, .inl D)), (q3, .inl (cA, 4, .inl R)), (q4, .inl (cA, 8, .inl K))]) hD hS hA [0, 1, 2, 3, 4] rfl
        refine va_calli (va_runV (As := []) (rest := []) ⟨hx, hb, hml, hown, hts⟩ (c_X0_endRound l dC dI h0 q1 q2 q3 q4 cA S D R K pc sc ph rd th lm dy wt s.heap.size) (cwV 0 hts gX0_copy_X0_endRound rfl rfl rfl (by decide +kernel) ⟨Nat.le_of_ble_eq_true rfl, Nat.le_of_ble_eq_true rfl⟩) ⟨fun a U g mk q => by obtain ⟨q0, q1, qP, qK, qD⟩ := q; exact ⟨q0, q1, qP, va_K.moved (u := U) (U := U.calling g mk a) (Vm.Alike.refl U.vm) qK, qD⟩, va_recv hKc hPc (ci := 0) (q0 := 0) rfl rfl, fun U hU hW => ⟨rfl, by rw [hU], by rw [hU]; exact hPc, va_K.moved hW.alike hKc, hDc.weaken (fun _ _ _ _ => trivial)⟩⟩ rfl rfl hl.1 rfl (lv_room (Nat.le_of_ble_eq_true rfl)) dX0_copy_39 ⟨(Nat.zero_le _), (Nat.zero_le _)⟩) hS (fun q _ h => hFc q h) hFc (fun r_4 u_5 t H1 locs ht hvm w_6 hB hz1 hk1 hS => ?_)
        obtain ⟨S_7, D_8, R_9, K_10, pc_11, sc_12, ph_13, rd_14, th_15, lm_16, dy_17, wt_18⟩ := u_5
        obtain ⟨hP1, hK1, hD1⟩ := hB
        rw [ht] at hP1
        obtain ⟨hP, hD⟩ := va_join (wr := []) (w1 := [(h0, .inr (0, [.ref q1, .ref q2, .ref q3, .ref q4, .int pc_11, .int sc_12, .int ph_13, .int rd_14, .int th_15, .int lm_16, .int dy_17, .int wt_18])), (q1, .inl (cA, 64, .inl S_7)), (q2, .inl (cA, 64, .inl D_8)), (q3, .inl (cA, 4, .inl R_9)), (q4, .inl (cA, 8, .inl K_10))]) hP hD [0, 1, 2, 3, 4] [] rfl rfl (by decide) (by decide) hk1 hFc hP1 hD1
        clear hPc hDc hFc hP1 hD1 hk1 hK1
        generalize H1 = H at hP hS ⊢
        have hP : va_P (dC, dI) vwCl [(h0, .inr (0, [.ref q1, .ref q2, .ref q3, .ref q4, .int pc_11, .int sc_12, .int ph_13, .int rd_14, .int th_15, .int lm_16, .int dy_17, .int wt_18])), (q1, .inl (cA, 64, .inl S_7)), (q2, .inl (cA, 64, .inl D_8)), (q3, .inl (cA, 4, .inl R_9)), (q4, .inl (cA, 8, .inl K_10))] H := hP
        have hD : va_D A [(h0, .inr (0, [.ref q1, .ref q2, .ref q3, .ref q4, .int pc_11, .int sc_12, .int ph_13, .int rd_14, .int th_15, .int lm_16, .int dy_17, .int wt_18])), (q1, .inl (cA, 64, .inl S_7)), (q2, .inl (cA, 64, .inl D_8)), (q3, .inl (cA, 4, .inl R_9)), (q4, .inl (cA, 8, .inl K_10))] := hD
        exact W.iret (v := r_4) hx hb hr (fun t ht hW => ⟨⟨r_4, (S_7, D_8, R_9, K_10, pc_11, sc_12, ph_13, rd_14, th_15, lm_16, dy_17, wt_18), rfl, Or.inr (Or.inr (Or.inl ⟨c_3, c_2, w_6⟩)), by rw [ht]; exact hP, va_K.moved hW.alike hK, hD⟩, hS.F ht⟩) hS.2.2 dX0_copy_42
    · refine lv_aload_n hx hb dX0_copy_25 rfl (lv_at hl 0 rfl) ?_
      have hPc := hP.sub (ws' := [(h0, .inr (0, [.ref q1, .ref q2, .ref q3, .ref q4, .int pc, .int sc, .int ph, .int rd, .int th, .int lm, .int dy, .int wt])), (q1, .inl (cA, 64, .inl S)), (q2, .inl (cA, 64, .inl D)), (q3, .inl (cA, 4, .inl R)), (q4, .inl (cA, 8, .inl K))]) [0, 1, 2, 3, 4] rfl
      have hDc := hD.sub (ws' := [(h0, .inr (0, [.ref q1, .ref q2, .ref q3, .ref q4, .int pc, .int sc, .int ph, .int rd, .int th, .int lm, .int dy, .int wt])), (q1, .inl (cA, 64, .inl S)), (q2, .inl (cA, 64, .inl D)), (q3, .inl (cA, 4, .inl R)), (q4, .inl (cA, 8, .inl K))]) [0, 1, 2, 3, 4] (by decide) rfl
      have hKc := hK.sub (tys' := [(cA, .int)]) [0] rfl
      have hFc := va_free (wc := [(h0, .inr (0, [.ref q1, .ref q2, .ref q3, .ref q4, .int pc, .int sc, .int ph, .int rd, .int th, .int lm, .int dy, .int wt])), (q1, .inl (cA, 64, .inl S)), (q2, .inl (cA, 64, .inl D)), (q3, .inl (cA, 4, .inl R)), (q4, .inl (cA, 8, .inl K))]) hD hS hA [0, 1, 2, 3, 4] rfl
      refine va_calli (va_runV (As := []) (rest := []) ⟨hx, hb, hml, hown, hts⟩ (c_X0_copyFirstWaiting l dC dI h0 q1 q2 q3 q4 cA S D R K pc sc ph rd th lm dy wt s.heap.size) (cwV 0 hts gX0_copy_X0_copyFirstWaiting rfl rfl rfl (by decide +kernel) ⟨Nat.le_of_ble_eq_true rfl, Nat.le_of_ble_eq_true rfl⟩) ⟨fun a U g mk q => by obtain ⟨q0, q1, qP, qK, qD⟩ := q; exact ⟨q0, q1, qP, va_K.moved (u := U) (U := U.calling g mk a) (Vm.Alike.refl U.vm) qK, qD⟩, va_recv hKc hPc (ci := 0) (q0 := 0) rfl rfl, fun U hU hW => ⟨rfl, by rw [hU], by rw [hU]; exact hPc, va_K.moved hW.alike hKc, hDc.weaken (fun _ _ _ _ => trivial)⟩⟩ rfl rfl hl.1 rfl (lv_room (Nat.le_of_ble_eq_true rfl)) dX0_copy_26 ⟨(Nat.zero_le _), (Nat.zero_le _)⟩) hS (fun q _ h => hFc q h) hFc (fun r_19 u_20 t H1 locs ht hvm w_21 hB hz1 hk1 hS => ?_)
      obtain ⟨S_22, D_23, R_24, K_25, pc_26, sc_27, ph_28, rd_29, th_30, lm_31, dy_32, wt_33⟩ := u_20
      obtain ⟨hP1, hK1, hD1⟩ := hB
      rw [ht] at hP1
      obtain ⟨hP, hD⟩ := va_join (wr := []) (w1 := [(h0, .inr (0, [.ref q1, .ref q2, .ref q3, .ref q4, .int pc_26, .int sc_27, .int ph_28, .int rd_29, .int th_30, .int lm_31, .int dy_32, .int wt_33])), (q1, .inl (cA, 64, .inl S_22)), (q2, .inl (cA, 64, .inl D_23)), (q3, .inl (cA, 4, .inl R_24)), (q4, .inl (cA, 8, .inl K_25))]) hP hD [0, 1, 2, 3, 4] [] rfl rfl (by decide) (by decide) hk1 hFc hP1 hD1
      clear hPc hDc hFc hP1 hD1 hk1 hK1
      generalize H1 = H at hP hS ⊢
      have hP : va_P (dC, dI) vwCl [(h0, .inr (0, [.ref q1, .ref q2, .ref q3, .ref q4, .int pc_26, .int sc_27, .int ph_28, .int rd_29, .int th_30, .int lm_31, .int dy_32, .int wt_33])), (q1, .inl (cA, 64, .inl S_22)), (q2, .inl (cA, 64, .inl D_23)), (q3, .inl (cA, 4, .inl R_24)), (q4, .inl (cA, 8, .inl K_25))] H := hP
      have hD : va_D A [(h0, .inr (0, [.ref q1, .ref q2, .ref q3, .ref q4, .int pc_26, .int sc_27, .int ph_28, .int rd_29, .int th_30, .int lm_31, .int dy_32, .int wt_33])), (q1, .inl (cA, 64, .inl S_22)), (q2, .inl (cA, 64, .inl D_23)), (q3, .inl (cA, 4, .inl R_24)), (q4, .inl (cA, 8, .inl K_25))] := hD
      exact W.iret (v := r_19) hx hb hr (fun t ht hW => ⟨⟨r_19, (S_22, D_23, R_24, K_25, pc_26, sc_27, ph_28, rd_29, th_30, lm_31, dy_32, wt_33), rfl, Or.inr (Or.inl ⟨Or.inl c_1, c_2, w_21⟩), by rw [ht]; exact hP, va_K.moved hW.alike hK, hD⟩, hS.F ht⟩) hS.2.2 dX0_copy_29
  · refine lv_aload_n hx hb dX0_copy_8 rfl (lv_at hl 0 rfl) ?_
    refine va_get (D := (dC, dI)) (ci := 0) (v := .int ph) (C := RX0) (T := TX0) (N := 12) hx hb hts inw_X0_copy hown hK hP 0 rfl rfl 6 (by decide) (hts (.fieldLink RX0 29 "Migrator" "phaseNow" "I") (by decide +kernel)) (fun _ h9 => h9) rfl dX0_copy_9 ?_
    refine lv_iconst (v := 2) hx hb dX0_copy_12 (by decide) ?_
    refine lv_icmp_eq (tgt := 18) hx hb dX0_copy_13 (by decide) (fun c_34 => ?_) (fun c_34 => ?_)
    · refine lv_aload_n hx hb dX0_copy_18 rfl (lv_at hl 0 rfl) ?_
      refine va_get (D := (dC, dI)) (ci := 0) (v := .int wt) (C := RX0) (T := TX0) (N := 12) hx hb hts inw_X0_copy hown hK hP 0 rfl rfl 11 (by decide) (hts (.fieldLink RX0 44 "Migrator" "waitingPages" "I") (by decide +kernel)) (fun _ h9 => h9) rfl dX0_copy_19 ?_
      refine lv_if_eq (tgt := 30) hx hb dX0_copy_22 (by decide) (fun c_35 => ?_) (fun c_35 => ?_)
      · refine lv_aload_n hx hb dX0_copy_30 rfl (lv_at hl 0 rfl) ?_
        refine va_get (D := (dC, dI)) (ci := 0) (v := .int ph) (C := RX0) (T := TX0) (N := 12) hx hb hts inw_X0_copy hown hK hP 0 rfl rfl 6 (by decide) (hts (.fieldLink RX0 29 "Migrator" "phaseNow" "I") (by decide +kernel)) (fun _ h9 => h9) rfl dX0_copy_31 ?_
        refine lv_iconst (v := 1) hx hb dX0_copy_34 (by decide) ?_
        refine lv_icmp_ne (tgt := 43) hx hb dX0_copy_35 (by decide) (fun c_36 => ?_) (fun c_36 => ?_)
        · refine lv_aload_n hx hb dX0_copy_43 rfl (lv_at hl 0 rfl) ?_
          refine lv_iconst (v := 3) hx hb dX0_copy_44 (by decide) ?_
          refine va_put (D := (dC, dI)) (ci := 0) (v := .int 3) (ty := .int) (C := RX0) (T := TX0) (N := 12) hx hb hts inw_X0_copy tyX0 tyX0_ok nmX0 hown hK hP hD hS 0 rfl rfl 6 (by decide) (hts (.fieldLink RX0 29 "Migrator" "phaseNow" "I") (by decide +kernel)) (fun _ h9 => h9) rfl (by decide +kernel) rfl rfl (Nat.le_of_ble_eq_true rfl) dX0_copy_45 (fun H locs hP hD hS => ?_)
          have hP : va_P (dC, dI) vwCl [(h0, .inr (0, [.ref q1, .ref q2, .ref q3, .ref q4, .int pc, .int sc, .int 3, .int rd, .int th, .int lm, .int dy, .int wt])), (q1, .inl (cA, 64, .inl S)), (q2, .inl (cA, 64, .inl D)), (q3, .inl (cA, 4, .inl R)), (q4, .inl (cA, 8, .inl K))] H := hP
          have hD : va_D A [(h0, .inr (0, [.ref q1, .ref q2, .ref q3, .ref q4, .int pc, .int sc, .int 3, .int rd, .int th, .int lm, .int dy, .int wt])), (q1, .inl (cA, 64, .inl S)), (q2, .inl (cA, 64, .inl D)), (q3, .inl (cA, 4, .inl R)), (q4, .inl (cA, 8, .inl K))] := hD
          refine lv_bipush (v := 34) hx hb dX0_copy_48 (by decide) ?_
          exact W.iret (v := 34) hx hb hr (fun t ht hW => ⟨⟨34, (S, D, R, K, pc, sc, 3, rd, th, lm, dy, wt), rfl, Or.inr (Or.inr (Or.inr ⟨c_34, c_35, rfl, rfl⟩)), by rw [ht]; exact hP, va_K.moved hW.alike hK, hD⟩, hS.F ht⟩) hS.2.2 dX0_copy_50
        · refine lv_aload_n hx hb dX0_copy_38 rfl (lv_at hl 0 rfl) ?_
          have hPc := hP.sub (ws' := [(h0, .inr (0, [.ref q1, .ref q2, .ref q3, .ref q4, .int pc, .int sc, .int ph, .int rd, .int th, .int lm, .int dy, .int wt])), (q1, .inl (cA, 64, .inl S)), (q2, .inl (cA, 64, .inl D)), (q3, .inl (cA, 4, .inl R)), (q4, .inl (cA, 8, .inl K))]) [0, 1, 2, 3, 4] rfl
          have hDc := hD.sub (ws' := [(h0, .inr (0, [.ref q1, .ref q2, .ref q3, .ref q4, .int pc, .int sc, .int ph, .int rd, .int th, .int lm, .int dy, .int wt])), (q1, .inl (cA, 64, .inl S)), (q2, .inl (cA, 64, .inl D)), (q3, .inl (cA, 4, .inl R)), (q4, .inl (cA, 8, .inl K))]) [0, 1, 2, 3, 4] (by decide) rfl
          have hKc := hK.sub (tys' := [(cA, .int)]) [0] rfl
          have hFc := va_free (wc := [(h0, .inr (0, [.ref q1, .ref q2, .ref q3, .ref q4, .int pc, .int sc, .int ph, .int rd, .int th, .int lm, .int dy, .int wt])), (q1, .inl (cA, 64, .inl S)), (q2, .inl (cA, 64, .inl D)), (q3, .inl (cA, 4, .inl R)), (q4, .inl (cA, 8, .inl K))]) hD hS hA [0, 1, 2, 3, 4] rfl
          refine va_calli (va_runV (As := []) (rest := []) ⟨hx, hb, hml, hown, hts⟩ (c_X0_endRound l dC dI h0 q1 q2 q3 q4 cA S D R K pc sc ph rd th lm dy wt s.heap.size) (cwV 0 hts gX0_copy_X0_endRound rfl rfl rfl (by decide +kernel) ⟨Nat.le_of_ble_eq_true rfl, Nat.le_of_ble_eq_true rfl⟩) ⟨fun a U g mk q => by obtain ⟨q0, q1, qP, qK, qD⟩ := q; exact ⟨q0, q1, qP, va_K.moved (u := U) (U := U.calling g mk a) (Vm.Alike.refl U.vm) qK, qD⟩, va_recv hKc hPc (ci := 0) (q0 := 0) rfl rfl, fun U hU hW => ⟨rfl, by rw [hU], by rw [hU]; exact hPc, va_K.moved hW.alike hKc, hDc.weaken (fun _ _ _ _ => trivial)⟩⟩ rfl rfl hl.1 rfl (lv_room (Nat.le_of_ble_eq_true rfl)) dX0_copy_39 ⟨(Nat.zero_le _), (Nat.zero_le _)⟩) hS (fun q _ h => hFc q h) hFc (fun r_37 u_38 t H1 locs ht hvm w_39 hB hz1 hk1 hS => ?_)
          obtain ⟨S_40, D_41, R_42, K_43, pc_44, sc_45, ph_46, rd_47, th_48, lm_49, dy_50, wt_51⟩ := u_38
          obtain ⟨hP1, hK1, hD1⟩ := hB
          rw [ht] at hP1
          obtain ⟨hP, hD⟩ := va_join (wr := []) (w1 := [(h0, .inr (0, [.ref q1, .ref q2, .ref q3, .ref q4, .int pc_44, .int sc_45, .int ph_46, .int rd_47, .int th_48, .int lm_49, .int dy_50, .int wt_51])), (q1, .inl (cA, 64, .inl S_40)), (q2, .inl (cA, 64, .inl D_41)), (q3, .inl (cA, 4, .inl R_42)), (q4, .inl (cA, 8, .inl K_43))]) hP hD [0, 1, 2, 3, 4] [] rfl rfl (by decide) (by decide) hk1 hFc hP1 hD1
          clear hPc hDc hFc hP1 hD1 hk1 hK1
          generalize H1 = H at hP hS ⊢
          have hP : va_P (dC, dI) vwCl [(h0, .inr (0, [.ref q1, .ref q2, .ref q3, .ref q4, .int pc_44, .int sc_45, .int ph_46, .int rd_47, .int th_48, .int lm_49, .int dy_50, .int wt_51])), (q1, .inl (cA, 64, .inl S_40)), (q2, .inl (cA, 64, .inl D_41)), (q3, .inl (cA, 4, .inl R_42)), (q4, .inl (cA, 8, .inl K_43))] H := hP
          have hD : va_D A [(h0, .inr (0, [.ref q1, .ref q2, .ref q3, .ref q4, .int pc_44, .int sc_45, .int ph_46, .int rd_47, .int th_48, .int lm_49, .int dy_50, .int wt_51])), (q1, .inl (cA, 64, .inl S_40)), (q2, .inl (cA, 64, .inl D_41)), (q3, .inl (cA, 4, .inl R_42)), (q4, .inl (cA, 8, .inl K_43))] := hD
          exact W.iret (v := r_37) hx hb hr (fun t ht hW => ⟨⟨r_37, (S_40, D_41, R_42, K_43, pc_44, sc_45, ph_46, rd_47, th_48, lm_49, dy_50, wt_51), rfl, Or.inr (Or.inr (Or.inl ⟨c_36, c_35, w_39⟩)), by rw [ht]; exact hP, va_K.moved hW.alike hK, hD⟩, hS.F ht⟩) hS.2.2 dX0_copy_42
      · refine lv_aload_n hx hb dX0_copy_25 rfl (lv_at hl 0 rfl) ?_
        have hPc := hP.sub (ws' := [(h0, .inr (0, [.ref q1, .ref q2, .ref q3, .ref q4, .int pc, .int sc, .int ph, .int rd, .int th, .int lm, .int dy, .int wt])), (q1, .inl (cA, 64, .inl S)), (q2, .inl (cA, 64, .inl D)), (q3, .inl (cA, 4, .inl R)), (q4, .inl (cA, 8, .inl K))]) [0, 1, 2, 3, 4] rfl
        have hDc := hD.sub (ws' := [(h0, .inr (0, [.ref q1, .ref q2, .ref q3, .ref q4, .int pc, .int sc, .int ph, .int rd, .int th, .int lm, .int dy, .int wt])), (q1, .inl (cA, 64, .inl S)), (q2, .inl (cA, 64, .inl D)), (q3, .inl (cA, 4, .inl R)), (q4, .inl (cA, 8, .inl K))]) [0, 1, 2, 3, 4] (by decide) rfl
        have hKc := hK.sub (tys' := [(cA, .int)]) [0] rfl
        have hFc := va_free (wc := [(h0, .inr (0, [.ref q1, .ref q2, .ref q3, .ref q4, .int pc, .int sc, .int ph, .int rd, .int th, .int lm, .int dy, .int wt])), (q1, .inl (cA, 64, .inl S)), (q2, .inl (cA, 64, .inl D)), (q3, .inl (cA, 4, .inl R)), (q4, .inl (cA, 8, .inl K))]) hD hS hA [0, 1, 2, 3, 4] rfl
        refine va_calli (va_runV (As := []) (rest := []) ⟨hx, hb, hml, hown, hts⟩ (c_X0_copyFirstWaiting l dC dI h0 q1 q2 q3 q4 cA S D R K pc sc ph rd th lm dy wt s.heap.size) (cwV 0 hts gX0_copy_X0_copyFirstWaiting rfl rfl rfl (by decide +kernel) ⟨Nat.le_of_ble_eq_true rfl, Nat.le_of_ble_eq_true rfl⟩) ⟨fun a U g mk q => by obtain ⟨q0, q1, qP, qK, qD⟩ := q; exact ⟨q0, q1, qP, va_K.moved (u := U) (U := U.calling g mk a) (Vm.Alike.refl U.vm) qK, qD⟩, va_recv hKc hPc (ci := 0) (q0 := 0) rfl rfl, fun U hU hW => ⟨rfl, by rw [hU], by rw [hU]; exact hPc, va_K.moved hW.alike hKc, hDc.weaken (fun _ _ _ _ => trivial)⟩⟩ rfl rfl hl.1 rfl (lv_room (Nat.le_of_ble_eq_true rfl)) dX0_copy_26 ⟨(Nat.zero_le _), (Nat.zero_le _)⟩) hS (fun q _ h => hFc q h) hFc (fun r_52 u_53 t H1 locs ht hvm w_54 hB hz1 hk1 hS => ?_)
        obtain ⟨S_55, D_56, R_57, K_58, pc_59, sc_60, ph_61, rd_62, th_63, lm_64, dy_65, wt_66⟩ := u_53
        obtain ⟨hP1, hK1, hD1⟩ := hB
        rw [ht] at hP1
        obtain ⟨hP, hD⟩ := va_join (wr := []) (w1 := [(h0, .inr (0, [.ref q1, .ref q2, .ref q3, .ref q4, .int pc_59, .int sc_60, .int ph_61, .int rd_62, .int th_63, .int lm_64, .int dy_65, .int wt_66])), (q1, .inl (cA, 64, .inl S_55)), (q2, .inl (cA, 64, .inl D_56)), (q3, .inl (cA, 4, .inl R_57)), (q4, .inl (cA, 8, .inl K_58))]) hP hD [0, 1, 2, 3, 4] [] rfl rfl (by decide) (by decide) hk1 hFc hP1 hD1
        clear hPc hDc hFc hP1 hD1 hk1 hK1
        generalize H1 = H at hP hS ⊢
        have hP : va_P (dC, dI) vwCl [(h0, .inr (0, [.ref q1, .ref q2, .ref q3, .ref q4, .int pc_59, .int sc_60, .int ph_61, .int rd_62, .int th_63, .int lm_64, .int dy_65, .int wt_66])), (q1, .inl (cA, 64, .inl S_55)), (q2, .inl (cA, 64, .inl D_56)), (q3, .inl (cA, 4, .inl R_57)), (q4, .inl (cA, 8, .inl K_58))] H := hP
        have hD : va_D A [(h0, .inr (0, [.ref q1, .ref q2, .ref q3, .ref q4, .int pc_59, .int sc_60, .int ph_61, .int rd_62, .int th_63, .int lm_64, .int dy_65, .int wt_66])), (q1, .inl (cA, 64, .inl S_55)), (q2, .inl (cA, 64, .inl D_56)), (q3, .inl (cA, 4, .inl R_57)), (q4, .inl (cA, 8, .inl K_58))] := hD
        exact W.iret (v := r_52) hx hb hr (fun t ht hW => ⟨⟨r_52, (S_55, D_56, R_57, K_58, pc_59, sc_60, ph_61, rd_62, th_63, lm_64, dy_65, wt_66), rfl, Or.inr (Or.inl ⟨Or.inr c_34, c_35, w_54⟩), by rw [ht]; exact hP, va_K.moved hW.alike hK, hD⟩, hS.F ht⟩) hS.2.2 dX0_copy_29
    · refine lv_iconst (v := (-1)) hx hb dX0_copy_16 (by decide) ?_
      exact W.iret (v := (-1)) hx hb hr (fun t ht hW => ⟨⟨(-1), (S, D, R, K, pc, sc, ph, rd, th, lm, dy, wt), rfl, Or.inl ⟨c_1, c_34, rfl, rfl⟩, by rw [ht]; exact hP, va_K.moved hW.alike hK, hD⟩, hS.F ht⟩) hS.2.2 dX0_copy_17
end
section
abbrev mg_zero : mgS := (fun _ => 0, fun _ => 0, fun _ => 0, fun _ => 0, 0, 0, 0, 0, 0, 0, 0, 0)
abbrev mr_zero : mrS := (fun _ => 0, fun _ => 0, fun _ => 0, fun _ => 0, fun _ => 0, fun _ => 0, fun _ => 0, fun _ => 0, 0, 0, 0, 0, 0, 0, 0, 0)
abbrev mg_W0 (h0 : Nat) : va_W := [(h0, .inr (0, [.null, .null, .null, .null, .int 0, .int 0, .int 0, .int 0, .int 0, .int 0, .int 0, .int 0]))]
abbrev mr_W0 (h0 : Nat) : va_W := [(h0, .inr (1, [.null, .null, .null, .null, .null, .null, .null, .null, .int 0, .int 0, .int 0, .int 0, .int 0, .int 0, .long 0, .long 0]))]
abbrev at_mgN (dC : Nat → ClassId) (dI : Nat → Nat → Nat) (h0 : Nat) (A : Nat → Prop) (_ : Unit) (t : State) : Prop := ∃ (q1 q2 q3 q4 : Nat) (cA : ClassId), at_mg dC dI h0 q1 q2 q3 q4 cA A mg_zero t
abbrev at_mrN (dC : Nat → ClassId) (dI : Nat → Nat → Nat) (h0 : Nat) (A : Nat → Prop) (_ : Unit) (t : State) : Prop := ∃ (q1 q2 q3 q4 q5 q6 q7 q8 : Nat) (cA cJ cZ : ClassId), at_mr dC dI h0 q1 q2 q3 q4 q5 q6 q7 q8 cA cJ cZ A mr_zero t
theorem va_oneI {D : va_G} {cl : List vw_C} {tys : List (ClassId × FieldType)} {s : State} (hK : va_K D cl tys s) (i j : Nat) {a b : ClassId} (hi : tys[i]? = some (a, .int)) (hj : tys[j]? = some (b, .int)) : a = b := Option.some.inj ((hK.2 i _ hi).2.symm.trans (hK.2 j _ hj).2)
theorem va_oneZ {D : va_G} {cl : List vw_C} {tys : List (ClassId × FieldType)} {s : State} (hK : va_K D cl tys s) (i j : Nat) {a b : ClassId} (hi : tys[i]? = some (a, .boolean)) (hj : tys[j]? = some (b, .boolean)) : a = b := Option.some.inj ((hK.2 i _ hi).2.symm.trans (hK.2 j _ hj).2)
theorem inw_X0_init : ∀ w ∈ wsX00, w ∈ wsX0_init := fun _ h => List.mem_cons_of_mem _ (List.mem_append_right _ h)
set_option maxHeartbeats 4000000 in
set_option maxRecDepth 100000 in
theorem c_X0_init (l : Launch) (dC : Nat → ClassId) (dI : Nat → Nat → Nat) (h0 : Nat) (sz : Nat) : Met l yX0_init wsX0_init ({ frames := 1, cells := 4, slots := 140, locals := 12 }) (va_Pc [.ref h0] (fun U => U.heap.size = sz ∧ va_P (dC, dI) vwCl (mg_W0 h0) U.heap ∧ va_K (dC, dI) vwCl [] U ∧ va_D (fun _ => True) (mg_W0 h0))) (va_Qv (fun (_ : Unit) => True) (at_mgN dC dI h0 (va_A (mg_W0 h0) sz)) (va_A (mg_W0 h0) sz)) 4 140 (va_A (mg_W0 h0) sz) := by
  refine Met.ofW (cc := cX0_init) (maxL := 1) (ret := none) (by decide) rfl ?_
  intro p e s m args below meth c s₁ B hml hv
  obtain ⟨rfl, hsz, hP, hK, hD0⟩ := hv
  have hx := B.exec
  have hb := B.bytes
  have hr := B.returns
  have hts := atoms_spec (ws := wsX0_init) B.pre
  have hown : s.vm.findClass RX0 = some m.cls := findClass_of_methodNamed B.named
  have hlocks := B.notSynchronized
  have hin : meth.name = "<init>" := (name_of_methodNamed B.named B.method).1
  subst hsz
  have hD := hD0.self (sz := s.heap.size)
  generalize hAe : va_A (mg_W0 h0) s.heap.size = A at hD ⊢
  have hA : ∀ q : Nat, s.heap.size ≤ q → A q := fun q h => by rw [← hAe]; exact Or.inr h
  have hS : va_S A s.heap s.heap [] := va_S.rf
  have hP : va_P (dC, dI) vwCl [(h0, .inr (0, [.null, .null, .null, .null, .int 0, .int 0, .int 0, .int 0, .int 0, .int 0, .int 0, .int 0]))] s.heap := hP
  have hD : va_D A [(h0, .inr (0, [.null, .null, .null, .null, .int 0, .int 0, .int 0, .int 0, .int 0, .int 0, .int 0, .int 0]))] := hD
  have hl := lv_entry ([.ref h0]) (n := 1) (Nat.le_of_ble_eq_true rfl)
  rw [lg_entry_eq]
  generalize (lg_sl ([.ref h0]) ++ List.replicate (1 - (lg_sl ([.ref h0])).length) Slot.unset).toArray = ls at hl ⊢
  have hl : lv_has ls 1 [(0, .ref h0)] := hl
  refine lv_aload_n hx hb dX0_init_0 rfl (lv_at hl 0 rfl) ?_
  refine W.objInit hx hb hown (hts (.methodLink RX0 1 objectInit) (by decide +kernel)) (hts (.instanceMethod objectInit) (by decide +kernel)) (hts _ (List.mem_cons_of_mem _ (List.mem_append_left _ (List.mem_of_getElem? (i := 2) rfl)))) rfl (by rw [hml]; exact hl.1) rfl dX0_init_1 (Nat.le_of_ble_eq_true rfl) (Nat.le_of_ble_eq_true rfl) ?_
  refine W.eq (g2 := F0 m 4 ls []) rfl ?_
  refine lv_aload_n hx hb dX0_init_4 rfl (lv_at hl 0 rfl) ?_
  refine lv_bipush (v := 64) hx hb dX0_init_5 (by decide) ?_
  have h4 : 64 * componentBytes .int ≤ 536870912 := by decide +kernel
  have h5 : 0 + 1 ≤ 4 := by decide
  have h6 : 0 + 64 ≤ 140 := by decide
  refine va_newa (atype := .int) (ty := .int) (n := 64) (N' := 64) (a0 := (64, .inl (fun _ => 0))) hx hb (hts (.arrayClass .int) (by decide +kernel)) rfl hK hP hD hS hA (fun _ => rfl) (by decide) (by decide) h4 h5 h6 dX0_init_7 (fun q1 cA H hK hP hD hS => ?_)
  have hK : va_K (dC, dI) vwCl [(cA, .int)] s := hK
  have hP : va_P (dC, dI) vwCl [(h0, .inr (0, [.null, .null, .null, .null, .int 0, .int 0, .int 0, .int 0, .int 0, .int 0, .int 0, .int 0])), (q1, .inl (cA, 64, .inl (fun _ => 0)))] H := hP
  have hD : va_D A [(h0, .inr (0, [.null, .null, .null, .null, .int 0, .int 0, .int 0, .int 0, .int 0, .int 0, .int 0, .int 0])), (q1, .inl (cA, 64, .inl (fun _ => 0)))] := hD
  refine W.widen (k := 1) (n := 64) (by omega) (by omega) ?_
  refine va_putF (D := (dC, dI)) (ci := 0) (v := .ref q1) (ty := (.array .int)) (C := RX0) (T := TX0) (N := 12) hx hb hts inw_X0_init tyX0 tyX0_ok nmX0 hown hK hP hD hS 0 rfl rfl 0 (by decide) (hts (.fieldLink RX0 9 "Migrator" "sourceWords" "[I") (by decide +kernel)) (fun _ h9 => h9) rfl hin rfl (by decide +kernel) rfl rfl (Nat.le_of_ble_eq_true rfl) dX0_init_9 (fun H locs hP hD hS => ?_)
  have hP : va_P (dC, dI) vwCl [(h0, .inr (0, [.ref q1, .null, .null, .null, .int 0, .int 0, .int 0, .int 0, .int 0, .int 0, .int 0, .int 0])), (q1, .inl (cA, 64, .inl (fun _ => 0)))] H := hP
  have hD : va_D A [(h0, .inr (0, [.ref q1, .null, .null, .null, .int 0, .int 0, .int 0, .int 0, .int 0, .int 0, .int 0, .int 0])), (q1, .inl (cA, 64, .inl (fun _ => 0)))] := hD
  refine lv_aload_n hx hb dX0_init_12 rfl (lv_at hl 0 rfl) ?_
  refine lv_bipush (v := 64) hx hb dX0_init_13 (by decide) ?_
  have h4 : 64 * componentBytes .int ≤ 536870912 := by decide +kernel
  have h5 : 1 + 1 ≤ 4 := by decide
  have h6 : 64 + 64 ≤ 140 := by decide
  refine va_newa (atype := .int) (ty := .int) (n := 64) (N' := 64) (a0 := (64, .inl (fun _ => 0))) hx hb (hts (.arrayClass .int) (by decide +kernel)) rfl hK hP hD hS hA (fun _ => rfl) (by decide) (by decide) h4 h5 h6 dX0_init_15 (fun q2 cB H hK hP hD hS => ?_)
  have eB := va_oneI hK 0 1 rfl rfl
  subst eB
  have hK := hK.sub (tys' := [(cA, .int)]) [0] rfl
  have hP : va_P (dC, dI) vwCl [(h0, .inr (0, [.ref q1, .null, .null, .null, .int 0, .int 0, .int 0, .int 0, .int 0, .int 0, .int 0, .int 0])), (q1, .inl (cA, 64, .inl (fun _ => 0))), (q2, .inl (cA, 64, .inl (fun _ => 0)))] H := hP
  have hD : va_D A [(h0, .inr (0, [.ref q1, .null, .null, .null, .int 0, .int 0, .int 0, .int 0, .int 0, .int 0, .int 0, .int 0])), (q1, .inl (cA, 64, .inl (fun _ => 0))), (q2, .inl (cA, 64, .inl (fun _ => 0)))] := hD
  refine W.widen (k := 2) (n := 128) (by omega) (by omega) ?_
  refine va_putF (D := (dC, dI)) (ci := 0) (v := .ref q2) (ty := (.array .int)) (C := RX0) (T := TX0) (N := 12) hx hb hts inw_X0_init tyX0 tyX0_ok nmX0 hown hK hP hD hS 0 rfl rfl 1 (by decide) (hts (.fieldLink RX0 13 "Migrator" "destinationWords" "[I") (by decide +kernel)) (fun _ h9 => h9) rfl hin rfl (by decide +kernel) rfl rfl (Nat.le_of_ble_eq_true rfl) dX0_init_17 (fun H locs hP hD hS => ?_)
  have hP : va_P (dC, dI) vwCl [(h0, .inr (0, [.ref q1, .ref q2, .null, .null, .int 0, .int 0, .int 0, .int 0, .int 0, .int 0, .int 0, .int 0])), (q1, .inl (cA, 64, .inl (fun _ => 0))), (q2, .inl (cA, 64, .inl (fun _ => 0)))] H := hP
  have hD : va_D A [(h0, .inr (0, [.ref q1, .ref q2, .null, .null, .int 0, .int 0, .int 0, .int 0, .int 0, .int 0, .int 0, .int 0])), (q1, .inl (cA, 64, .inl (fun _ => 0))), (q2, .inl (cA, 64, .inl (fun _ => 0)))] := hD
  refine lv_aload_n hx hb dX0_init_20 rfl (lv_at hl 0 rfl) ?_
  refine lv_iconst (v := 4) hx hb dX0_init_21 (by decide) ?_
  have h4 : 4 * componentBytes .int ≤ 536870912 := by decide +kernel
  have h5 : 2 + 1 ≤ 4 := by decide
  have h6 : 128 + 4 ≤ 140 := by decide
  refine va_newa (atype := .int) (ty := .int) (n := 4) (N' := 4) (a0 := (4, .inl (fun _ => 0))) hx hb (hts (.arrayClass .int) (by decide +kernel)) rfl hK hP hD hS hA (fun _ => rfl) (by decide) (by decide) h4 h5 h6 dX0_init_22 (fun q3 cB H hK hP hD hS => ?_)
  have eB := va_oneI hK 0 1 rfl rfl
  subst eB
  have hK := hK.sub (tys' := [(cA, .int)]) [0] rfl
  have hP : va_P (dC, dI) vwCl [(h0, .inr (0, [.ref q1, .ref q2, .null, .null, .int 0, .int 0, .int 0, .int 0, .int 0, .int 0, .int 0, .int 0])), (q1, .inl (cA, 64, .inl (fun _ => 0))), (q2, .inl (cA, 64, .inl (fun _ => 0))), (q3, .inl (cA, 4, .inl (fun _ => 0)))] H := hP
  have hD : va_D A [(h0, .inr (0, [.ref q1, .ref q2, .null, .null, .int 0, .int 0, .int 0, .int 0, .int 0, .int 0, .int 0, .int 0])), (q1, .inl (cA, 64, .inl (fun _ => 0))), (q2, .inl (cA, 64, .inl (fun _ => 0))), (q3, .inl (cA, 4, .inl (fun _ => 0)))] := hD
  refine W.widen (k := 3) (n := 132) (by omega) (by omega) ?_
  refine va_putF (D := (dC, dI)) (ci := 0) (v := .ref q3) (ty := (.array .int)) (C := RX0) (T := TX0) (N := 12) hx hb hts inw_X0_init tyX0 tyX0_ok nmX0 hown hK hP hD hS 0 rfl rfl 2 (by decide) (hts (.fieldLink RX0 16 "Migrator" "registers" "[I") (by decide +kernel)) (fun _ h9 => h9) rfl hin rfl (by decide +kernel) rfl rfl (Nat.le_of_ble_eq_true rfl) dX0_init_24 (fun H locs hP hD hS => ?_)
  have hP : va_P (dC, dI) vwCl [(h0, .inr (0, [.ref q1, .ref q2, .ref q3, .null, .int 0, .int 0, .int 0, .int 0, .int 0, .int 0, .int 0, .int 0])), (q1, .inl (cA, 64, .inl (fun _ => 0))), (q2, .inl (cA, 64, .inl (fun _ => 0))), (q3, .inl (cA, 4, .inl (fun _ => 0)))] H := hP
  have hD : va_D A [(h0, .inr (0, [.ref q1, .ref q2, .ref q3, .null, .int 0, .int 0, .int 0, .int 0, .int 0, .int 0, .int 0, .int 0])), (q1, .inl (cA, 64, .inl (fun _ => 0))), (q2, .inl (cA, 64, .inl (fun _ => 0))), (q3, .inl (cA, 4, .inl (fun _ => 0)))] := hD
  refine lv_aload_n hx hb dX0_init_27 rfl (lv_at hl 0 rfl) ?_
  refine lv_bipush (v := 8) hx hb dX0_init_28 (by decide) ?_
  have h4 : 8 * componentBytes .int ≤ 536870912 := by decide +kernel
  have h5 : 3 + 1 ≤ 4 := by decide
  have h6 : 132 + 8 ≤ 140 := by decide
  refine va_newa (atype := .int) (ty := .int) (n := 8) (N' := 8) (a0 := (8, .inl (fun _ => 0))) hx hb (hts (.arrayClass .int) (by decide +kernel)) rfl hK hP hD hS hA (fun _ => rfl) (by decide) (by decide) h4 h5 h6 dX0_init_30 (fun q4 cB H hK hP hD hS => ?_)
  have eB := va_oneI hK 0 1 rfl rfl
  subst eB
  have hK := hK.sub (tys' := [(cA, .int)]) [0] rfl
  have hP : va_P (dC, dI) vwCl [(h0, .inr (0, [.ref q1, .ref q2, .ref q3, .null, .int 0, .int 0, .int 0, .int 0, .int 0, .int 0, .int 0, .int 0])), (q1, .inl (cA, 64, .inl (fun _ => 0))), (q2, .inl (cA, 64, .inl (fun _ => 0))), (q3, .inl (cA, 4, .inl (fun _ => 0))), (q4, .inl (cA, 8, .inl (fun _ => 0)))] H := hP
  have hD : va_D A [(h0, .inr (0, [.ref q1, .ref q2, .ref q3, .null, .int 0, .int 0, .int 0, .int 0, .int 0, .int 0, .int 0, .int 0])), (q1, .inl (cA, 64, .inl (fun _ => 0))), (q2, .inl (cA, 64, .inl (fun _ => 0))), (q3, .inl (cA, 4, .inl (fun _ => 0))), (q4, .inl (cA, 8, .inl (fun _ => 0)))] := hD
  refine W.widen (k := 4) (n := 140) (by omega) (by omega) ?_
  refine va_putF (D := (dC, dI)) (ci := 0) (v := .ref q4) (ty := (.array .int)) (C := RX0) (T := TX0) (N := 12) hx hb hts inw_X0_init tyX0 tyX0_ok nmX0 hown hK hP hD hS 0 rfl rfl 3 (by decide) (hts (.fieldLink RX0 19 "Migrator" "keptShows" "[I") (by decide +kernel)) (fun _ h9 => h9) rfl hin rfl (by decide +kernel) rfl rfl (Nat.le_of_ble_eq_true rfl) dX0_init_32 (fun H locs hP hD hS => ?_)
  have hP : va_P (dC, dI) vwCl [(h0, .inr (0, [.ref q1, .ref q2, .ref q3, .ref q4, .int 0, .int 0, .int 0, .int 0, .int 0, .int 0, .int 0, .int 0])), (q1, .inl (cA, 64, .inl (fun _ => 0))), (q2, .inl (cA, 64, .inl (fun _ => 0))), (q3, .inl (cA, 4, .inl (fun _ => 0))), (q4, .inl (cA, 8, .inl (fun _ => 0)))] H := hP
  have hD : va_D A [(h0, .inr (0, [.ref q1, .ref q2, .ref q3, .ref q4, .int 0, .int 0, .int 0, .int 0, .int 0, .int 0, .int 0, .int 0])), (q1, .inl (cA, 64, .inl (fun _ => 0))), (q2, .inl (cA, 64, .inl (fun _ => 0))), (q3, .inl (cA, 4, .inl (fun _ => 0))), (q4, .inl (cA, 8, .inl (fun _ => 0)))] := hD
  refine lv_aload_n hx hb dX0_init_35 rfl (lv_at hl 0 rfl) ?_
  refine lv_iconst (v := 0) hx hb dX0_init_36 (by decide) ?_
  refine va_put (D := (dC, dI)) (ci := 0) (v := .int 0) (ty := .int) (C := RX0) (T := TX0) (N := 12) hx hb hts inw_X0_init tyX0 tyX0_ok nmX0 hown hK hP hD hS 0 rfl rfl 4 (by decide) (hts (.fieldLink RX0 22 "Migrator" "programCounter" "I") (by decide +kernel)) (fun _ h9 => h9) rfl (by decide +kernel) rfl rfl (Nat.le_of_ble_eq_true rfl) dX0_init_37 (fun H locs hP hD hS => ?_)
  have hP : va_P (dC, dI) vwCl [(h0, .inr (0, [.ref q1, .ref q2, .ref q3, .ref q4, .int 0, .int 0, .int 0, .int 0, .int 0, .int 0, .int 0, .int 0])), (q1, .inl (cA, 64, .inl (fun _ => 0))), (q2, .inl (cA, 64, .inl (fun _ => 0))), (q3, .inl (cA, 4, .inl (fun _ => 0))), (q4, .inl (cA, 8, .inl (fun _ => 0)))] H := hP
  have hD : va_D A [(h0, .inr (0, [.ref q1, .ref q2, .ref q3, .ref q4, .int 0, .int 0, .int 0, .int 0, .int 0, .int 0, .int 0, .int 0])), (q1, .inl (cA, 64, .inl (fun _ => 0))), (q2, .inl (cA, 64, .inl (fun _ => 0))), (q3, .inl (cA, 4, .inl (fun _ => 0))), (q4, .inl (cA, 8, .inl (fun _ => 0)))] := hD
  refine lv_aload_n hx hb dX0_init_40 rfl (lv_at hl 0 rfl) ?_
  refine lv_iconst (v := 0) hx hb dX0_init_41 (by decide) ?_
  refine va_put (D := (dC, dI)) (ci := 0) (v := .int 0) (ty := .int) (C := RX0) (T := TX0) (N := 12) hx hb hts inw_X0_init tyX0 tyX0_ok nmX0 hown hK hP hD hS 0 rfl rfl 5 (by decide) (hts (.fieldLink RX0 26 "Migrator" "showCount" "I") (by decide +kernel)) (fun _ h9 => h9) rfl (by decide +kernel) rfl rfl (Nat.le_of_ble_eq_true rfl) dX0_init_42 (fun H locs hP hD hS => ?_)
  have hP : va_P (dC, dI) vwCl [(h0, .inr (0, [.ref q1, .ref q2, .ref q3, .ref q4, .int 0, .int 0, .int 0, .int 0, .int 0, .int 0, .int 0, .int 0])), (q1, .inl (cA, 64, .inl (fun _ => 0))), (q2, .inl (cA, 64, .inl (fun _ => 0))), (q3, .inl (cA, 4, .inl (fun _ => 0))), (q4, .inl (cA, 8, .inl (fun _ => 0)))] H := hP
  have hD : va_D A [(h0, .inr (0, [.ref q1, .ref q2, .ref q3, .ref q4, .int 0, .int 0, .int 0, .int 0, .int 0, .int 0, .int 0, .int 0])), (q1, .inl (cA, 64, .inl (fun _ => 0))), (q2, .inl (cA, 64, .inl (fun _ => 0))), (q3, .inl (cA, 4, .inl (fun _ => 0))), (q4, .inl (cA, 8, .inl (fun _ => 0)))] := hD
  refine lv_aload_n hx hb dX0_init_45 rfl (lv_at hl 0 rfl) ?_
  refine lv_iconst (v := 0) hx hb dX0_init_46 (by decide) ?_
  refine va_put (D := (dC, dI)) (ci := 0) (v := .int 0) (ty := .int) (C := RX0) (T := TX0) (N := 12) hx hb hts inw_X0_init tyX0 tyX0_ok nmX0 hown hK hP hD hS 0 rfl rfl 6 (by decide) (hts (.fieldLink RX0 29 "Migrator" "phaseNow" "I") (by decide +kernel)) (fun _ h9 => h9) rfl (by decide +kernel) rfl rfl (Nat.le_of_ble_eq_true rfl) dX0_init_47 (fun H locs hP hD hS => ?_)
  have hP : va_P (dC, dI) vwCl [(h0, .inr (0, [.ref q1, .ref q2, .ref q3, .ref q4, .int 0, .int 0, .int 0, .int 0, .int 0, .int 0, .int 0, .int 0])), (q1, .inl (cA, 64, .inl (fun _ => 0))), (q2, .inl (cA, 64, .inl (fun _ => 0))), (q3, .inl (cA, 4, .inl (fun _ => 0))), (q4, .inl (cA, 8, .inl (fun _ => 0)))] H := hP
  have hD : va_D A [(h0, .inr (0, [.ref q1, .ref q2, .ref q3, .ref q4, .int 0, .int 0, .int 0, .int 0, .int 0, .int 0, .int 0, .int 0])), (q1, .inl (cA, 64, .inl (fun _ => 0))), (q2, .inl (cA, 64, .inl (fun _ => 0))), (q3, .inl (cA, 4, .inl (fun _ => 0))), (q4, .inl (cA, 8, .inl (fun _ => 0)))] := hD
  refine lv_aload_n hx hb dX0_init_50 rfl (lv_at hl 0 rfl) ?_
  refine lv_iconst (v := 0) hx hb dX0_init_51 (by decide) ?_
  refine va_put (D := (dC, dI)) (ci := 0) (v := .int 0) (ty := .int) (C := RX0) (T := TX0) (N := 12) hx hb hts inw_X0_init tyX0 tyX0_ok nmX0 hown hK hP hD hS 0 rfl rfl 7 (by decide) (hts (.fieldLink RX0 32 "Migrator" "roundNow" "I") (by decide +kernel)) (fun _ h9 => h9) rfl (by decide +kernel) rfl rfl (Nat.le_of_ble_eq_true rfl) dX0_init_52 (fun H locs hP hD hS => ?_)
  have hP : va_P (dC, dI) vwCl [(h0, .inr (0, [.ref q1, .ref q2, .ref q3, .ref q4, .int 0, .int 0, .int 0, .int 0, .int 0, .int 0, .int 0, .int 0])), (q1, .inl (cA, 64, .inl (fun _ => 0))), (q2, .inl (cA, 64, .inl (fun _ => 0))), (q3, .inl (cA, 4, .inl (fun _ => 0))), (q4, .inl (cA, 8, .inl (fun _ => 0)))] H := hP
  have hD : va_D A [(h0, .inr (0, [.ref q1, .ref q2, .ref q3, .ref q4, .int 0, .int 0, .int 0, .int 0, .int 0, .int 0, .int 0, .int 0])), (q1, .inl (cA, 64, .inl (fun _ => 0))), (q2, .inl (cA, 64, .inl (fun _ => 0))), (q3, .inl (cA, 4, .inl (fun _ => 0))), (q4, .inl (cA, 8, .inl (fun _ => 0)))] := hD
  refine lv_aload_n hx hb dX0_init_55 rfl (lv_at hl 0 rfl) ?_
  refine lv_iconst (v := 0) hx hb dX0_init_56 (by decide) ?_
  refine va_put (D := (dC, dI)) (ci := 0) (v := .int 0) (ty := .int) (C := RX0) (T := TX0) (N := 12) hx hb hts inw_X0_init tyX0 tyX0_ok nmX0 hown hK hP hD hS 0 rfl rfl 8 (by decide) (hts (.fieldLink RX0 35 "Migrator" "dirtyThreshold" "I") (by decide +kernel)) (fun _ h9 => h9) rfl (by decide +kernel) rfl rfl (Nat.le_of_ble_eq_true rfl) dX0_init_57 (fun H locs hP hD hS => ?_)
  have hP : va_P (dC, dI) vwCl [(h0, .inr (0, [.ref q1, .ref q2, .ref q3, .ref q4, .int 0, .int 0, .int 0, .int 0, .int 0, .int 0, .int 0, .int 0])), (q1, .inl (cA, 64, .inl (fun _ => 0))), (q2, .inl (cA, 64, .inl (fun _ => 0))), (q3, .inl (cA, 4, .inl (fun _ => 0))), (q4, .inl (cA, 8, .inl (fun _ => 0)))] H := hP
  have hD : va_D A [(h0, .inr (0, [.ref q1, .ref q2, .ref q3, .ref q4, .int 0, .int 0, .int 0, .int 0, .int 0, .int 0, .int 0, .int 0])), (q1, .inl (cA, 64, .inl (fun _ => 0))), (q2, .inl (cA, 64, .inl (fun _ => 0))), (q3, .inl (cA, 4, .inl (fun _ => 0))), (q4, .inl (cA, 8, .inl (fun _ => 0)))] := hD
  refine lv_aload_n hx hb dX0_init_60 rfl (lv_at hl 0 rfl) ?_
  refine lv_iconst (v := 0) hx hb dX0_init_61 (by decide) ?_
  refine va_put (D := (dC, dI)) (ci := 0) (v := .int 0) (ty := .int) (C := RX0) (T := TX0) (N := 12) hx hb hts inw_X0_init tyX0 tyX0_ok nmX0 hown hK hP hD hS 0 rfl rfl 9 (by decide) (hts (.fieldLink RX0 38 "Migrator" "roundLimit" "I") (by decide +kernel)) (fun _ h9 => h9) rfl (by decide +kernel) rfl rfl (Nat.le_of_ble_eq_true rfl) dX0_init_62 (fun H locs hP hD hS => ?_)
  have hP : va_P (dC, dI) vwCl [(h0, .inr (0, [.ref q1, .ref q2, .ref q3, .ref q4, .int 0, .int 0, .int 0, .int 0, .int 0, .int 0, .int 0, .int 0])), (q1, .inl (cA, 64, .inl (fun _ => 0))), (q2, .inl (cA, 64, .inl (fun _ => 0))), (q3, .inl (cA, 4, .inl (fun _ => 0))), (q4, .inl (cA, 8, .inl (fun _ => 0)))] H := hP
  have hD : va_D A [(h0, .inr (0, [.ref q1, .ref q2, .ref q3, .ref q4, .int 0, .int 0, .int 0, .int 0, .int 0, .int 0, .int 0, .int 0])), (q1, .inl (cA, 64, .inl (fun _ => 0))), (q2, .inl (cA, 64, .inl (fun _ => 0))), (q3, .inl (cA, 4, .inl (fun _ => 0))), (q4, .inl (cA, 8, .inl (fun _ => 0)))] := hD
  refine lv_aload_n hx hb dX0_init_65 rfl (lv_at hl 0 rfl) ?_
  refine lv_iconst (v := 0) hx hb dX0_init_66 (by decide) ?_
  refine va_put (D := (dC, dI)) (ci := 0) (v := .int 0) (ty := .int) (C := RX0) (T := TX0) (N := 12) hx hb hts inw_X0_init tyX0 tyX0_ok nmX0 hown hK hP hD hS 0 rfl rfl 10 (by decide) (hts (.fieldLink RX0 41 "Migrator" "dirtyPages" "I") (by decide +kernel)) (fun _ h9 => h9) rfl (by decide +kernel) rfl rfl (Nat.le_of_ble_eq_true rfl) dX0_init_67 (fun H locs hP hD hS => ?_)
  have hP : va_P (dC, dI) vwCl [(h0, .inr (0, [.ref q1, .ref q2, .ref q3, .ref q4, .int 0, .int 0, .int 0, .int 0, .int 0, .int 0, .int 0, .int 0])), (q1, .inl (cA, 64, .inl (fun _ => 0))), (q2, .inl (cA, 64, .inl (fun _ => 0))), (q3, .inl (cA, 4, .inl (fun _ => 0))), (q4, .inl (cA, 8, .inl (fun _ => 0)))] H := hP
  have hD : va_D A [(h0, .inr (0, [.ref q1, .ref q2, .ref q3, .ref q4, .int 0, .int 0, .int 0, .int 0, .int 0, .int 0, .int 0, .int 0])), (q1, .inl (cA, 64, .inl (fun _ => 0))), (q2, .inl (cA, 64, .inl (fun _ => 0))), (q3, .inl (cA, 4, .inl (fun _ => 0))), (q4, .inl (cA, 8, .inl (fun _ => 0)))] := hD
  refine lv_aload_n hx hb dX0_init_70 rfl (lv_at hl 0 rfl) ?_
  refine lv_iconst (v := 0) hx hb dX0_init_71 (by decide) ?_
  refine va_put (D := (dC, dI)) (ci := 0) (v := .int 0) (ty := .int) (C := RX0) (T := TX0) (N := 12) hx hb hts inw_X0_init tyX0 tyX0_ok nmX0 hown hK hP hD hS 0 rfl rfl 11 (by decide) (hts (.fieldLink RX0 44 "Migrator" "waitingPages" "I") (by decide +kernel)) (fun _ h9 => h9) rfl (by decide +kernel) rfl rfl (Nat.le_of_ble_eq_true rfl) dX0_init_72 (fun H locs hP hD hS => ?_)
  have hP : va_P (dC, dI) vwCl [(h0, .inr (0, [.ref q1, .ref q2, .ref q3, .ref q4, .int 0, .int 0, .int 0, .int 0, .int 0, .int 0, .int 0, .int 0])), (q1, .inl (cA, 64, .inl (fun _ => 0))), (q2, .inl (cA, 64, .inl (fun _ => 0))), (q3, .inl (cA, 4, .inl (fun _ => 0))), (q4, .inl (cA, 8, .inl (fun _ => 0)))] H := hP
  have hD : va_D A [(h0, .inr (0, [.ref q1, .ref q2, .ref q3, .ref q4, .int 0, .int 0, .int 0, .int 0, .int 0, .int 0, .int 0, .int 0])), (q1, .inl (cA, 64, .inl (fun _ => 0))), (q2, .inl (cA, 64, .inl (fun _ => 0))), (q3, .inl (cA, 4, .inl (fun _ => 0))), (q4, .inl (cA, 8, .inl (fun _ => 0)))] := hD
  exact W.vret hx hb hr (fun t ht hW => ⟨⟨(), rfl, trivial, q1, q2, q3, q4, cA, by rw [ht]; exact hP, va_K.moved hW.alike hK, hD⟩, hS.F ht⟩) hS.2.2 dX0_init_75
theorem inw_X1_init : ∀ w ∈ wsX10, w ∈ wsX1_init := fun _ h => List.mem_cons_of_mem _ (List.mem_append_right _ h)
set_option maxHeartbeats 4000000 in
set_option maxRecDepth 100000 in
theorem c_X1_init (l : Launch) (dC : Nat → ClassId) (dI : Nat → Nat → Nat) (h0 : Nat) (sz : Nat) : Met l yX1_init wsX1_init ({ frames := 1, cells := 8, slots := 228, locals := 12 }) (va_Pc [.ref h0] (fun U => U.heap.size = sz ∧ va_P (dC, dI) vwCl (mr_W0 h0) U.heap ∧ va_K (dC, dI) vwCl [] U ∧ va_D (fun _ => True) (mr_W0 h0))) (va_Qv (fun (_ : Unit) => True) (at_mrN dC dI h0 (va_A (mr_W0 h0) sz)) (va_A (mr_W0 h0) sz)) 8 228 (va_A (mr_W0 h0) sz) := by
  refine Met.ofW (cc := cX1_init) (maxL := 1) (ret := none) (by decide) rfl ?_
  intro p e s m args below meth c s₁ B hml hv
  obtain ⟨rfl, hsz, hP, hK, hD0⟩ := hv
  have hx := B.exec
  have hb := B.bytes
  have hr := B.returns
  have hts := atoms_spec (ws := wsX1_init) B.pre
  have hown : s.vm.findClass RX1 = some m.cls := findClass_of_methodNamed B.named
  have hlocks := B.notSynchronized
  have hin : meth.name = "<init>" := (name_of_methodNamed B.named B.method).1
  subst hsz
  have hD := hD0.self (sz := s.heap.size)
  generalize hAe : va_A (mr_W0 h0) s.heap.size = A at hD ⊢
  have hA : ∀ q : Nat, s.heap.size ≤ q → A q := fun q h => by rw [← hAe]; exact Or.inr h
  have hS : va_S A s.heap s.heap [] := va_S.rf
  have hP : va_P (dC, dI) vwCl [(h0, .inr (1, [.null, .null, .null, .null, .null, .null, .null, .null, .int 0, .int 0, .int 0, .int 0, .int 0, .int 0, .long 0, .long 0]))] s.heap := hP
  have hD : va_D A [(h0, .inr (1, [.null, .null, .null, .null, .null, .null, .null, .null, .int 0, .int 0, .int 0, .int 0, .int 0, .int 0, .long 0, .long 0]))] := hD
  have hl := lv_entry ([.ref h0]) (n := 1) (Nat.le_of_ble_eq_true rfl)
  rw [lg_entry_eq]
  generalize (lg_sl ([.ref h0]) ++ List.replicate (1 - (lg_sl ([.ref h0])).length) Slot.unset).toArray = ls at hl ⊢
  have hl : lv_has ls 1 [(0, .ref h0)] := hl
  refine lv_aload_n hx hb dX1_init_0 rfl (lv_at hl 0 rfl) ?_
  refine W.objInit hx hb hown (hts (.methodLink RX1 1 objectInit) (by decide +kernel)) (hts (.instanceMethod objectInit) (by decide +kernel)) (hts _ (List.mem_cons_of_mem _ (List.mem_append_left _ (List.mem_of_getElem? (i := 2) rfl)))) rfl (by rw [hml]; exact hl.1) rfl dX1_init_1 (Nat.le_of_ble_eq_true rfl) (Nat.le_of_ble_eq_true rfl) ?_
  refine W.eq (g2 := F0 m 4 ls []) rfl ?_
  refine lv_aload_n hx hb dX1_init_4 rfl (lv_at hl 0 rfl) ?_
  refine lv_bipush (v := 64) hx hb dX1_init_5 (by decide) ?_
  have h4 : 64 * componentBytes .int ≤ 536870912 := by decide +kernel
  have h5 : 0 + 1 ≤ 8 := by decide
  have h6 : 0 + 64 ≤ 228 := by decide
  refine va_newa (atype := .int) (ty := .int) (n := 64) (N' := 64) (a0 := (64, .inl (fun _ => 0))) hx hb (hts (.arrayClass .int) (by decide +kernel)) rfl hK hP hD hS hA (fun _ => rfl) (by decide) (by decide) h4 h5 h6 dX1_init_7 (fun q1 cA H hK hP hD hS => ?_)
  have hK : va_K (dC, dI) vwCl [(cA, .int)] s := hK
  have hP : va_P (dC, dI) vwCl [(h0, .inr (1, [.null, .null, .null, .null, .null, .null, .null, .null, .int 0, .int 0, .int 0, .int 0, .int 0, .int 0, .long 0, .long 0])), (q1, .inl (cA, 64, .inl (fun _ => 0)))] H := hP
  have hD : va_D A [(h0, .inr (1, [.null, .null, .null, .null, .null, .null, .null, .null, .int 0, .int 0, .int 0, .int 0, .int 0, .int 0, .long 0, .long 0])), (q1, .inl (cA, 64, .inl (fun _ => 0)))] := hD
  refine W.widen (k := 1) (n := 64) (by omega) (by omega) ?_
  refine va_putF (D := (dC, dI)) (ci := 1) (v := .ref q1) (ty := (.array .int)) (C := RX1) (T := TX1) (N := 16) hx hb hts inw_X1_init tyX1 tyX1_ok nmX1 hown hK hP hD hS 0 rfl rfl 0 (by decide) (hts (.fieldLink RX1 7 "MigratorModel" "real" "[I") (by decide +kernel)) (fun _ h9 => h9) rfl hin rfl (by decide +kernel) rfl rfl (Nat.le_of_ble_eq_true rfl) dX1_init_9 (fun H locs hP hD hS => ?_)
  have hP : va_P (dC, dI) vwCl [(h0, .inr (1, [.ref q1, .null, .null, .null, .null, .null, .null, .null, .int 0, .int 0, .int 0, .int 0, .int 0, .int 0, .long 0, .long 0])), (q1, .inl (cA, 64, .inl (fun _ => 0)))] H := hP
  have hD : va_D A [(h0, .inr (1, [.ref q1, .null, .null, .null, .null, .null, .null, .null, .int 0, .int 0, .int 0, .int 0, .int 0, .int 0, .long 0, .long 0])), (q1, .inl (cA, 64, .inl (fun _ => 0)))] := hD
  refine lv_aload_n hx hb dX1_init_12 rfl (lv_at hl 0 rfl) ?_
  refine lv_bipush (v := 64) hx hb dX1_init_13 (by decide) ?_
  have h4 : 64 * componentBytes .int ≤ 536870912 := by decide +kernel
  have h5 : 1 + 1 ≤ 8 := by decide
  have h6 : 64 + 64 ≤ 228 := by decide
  refine va_newa (atype := .int) (ty := .int) (n := 64) (N' := 64) (a0 := (64, .inl (fun _ => 0))) hx hb (hts (.arrayClass .int) (by decide +kernel)) rfl hK hP hD hS hA (fun _ => rfl) (by decide) (by decide) h4 h5 h6 dX1_init_15 (fun q2 cB H hK hP hD hS => ?_)
  have eB := va_oneI hK 0 1 rfl rfl
  subst eB
  have hK := hK.sub (tys' := [(cA, .int)]) [0] rfl
  have hP : va_P (dC, dI) vwCl [(h0, .inr (1, [.ref q1, .null, .null, .null, .null, .null, .null, .null, .int 0, .int 0, .int 0, .int 0, .int 0, .int 0, .long 0, .long 0])), (q1, .inl (cA, 64, .inl (fun _ => 0))), (q2, .inl (cA, 64, .inl (fun _ => 0)))] H := hP
  have hD : va_D A [(h0, .inr (1, [.ref q1, .null, .null, .null, .null, .null, .null, .null, .int 0, .int 0, .int 0, .int 0, .int 0, .int 0, .long 0, .long 0])), (q1, .inl (cA, 64, .inl (fun _ => 0))), (q2, .inl (cA, 64, .inl (fun _ => 0)))] := hD
  refine W.widen (k := 2) (n := 128) (by omega) (by omega) ?_
  refine va_putF (D := (dC, dI)) (ci := 1) (v := .ref q2) (ty := (.array .int)) (C := RX1) (T := TX1) (N := 16) hx hb hts inw_X1_init tyX1 tyX1_ok nmX1 hown hK hP hD hS 0 rfl rfl 1 (by decide) (hts (.fieldLink RX1 13 "MigratorModel" "kept" "[I") (by decide +kernel)) (fun _ h9 => h9) rfl hin rfl (by decide +kernel) rfl rfl (Nat.le_of_ble_eq_true rfl) dX1_init_17 (fun H locs hP hD hS => ?_)
  have hP : va_P (dC, dI) vwCl [(h0, .inr (1, [.ref q1, .ref q2, .null, .null, .null, .null, .null, .null, .int 0, .int 0, .int 0, .int 0, .int 0, .int 0, .long 0, .long 0])), (q1, .inl (cA, 64, .inl (fun _ => 0))), (q2, .inl (cA, 64, .inl (fun _ => 0)))] H := hP
  have hD : va_D A [(h0, .inr (1, [.ref q1, .ref q2, .null, .null, .null, .null, .null, .null, .int 0, .int 0, .int 0, .int 0, .int 0, .int 0, .long 0, .long 0])), (q1, .inl (cA, 64, .inl (fun _ => 0))), (q2, .inl (cA, 64, .inl (fun _ => 0)))] := hD
  refine lv_aload_n hx hb dX1_init_20 rfl (lv_at hl 0 rfl) ?_
  refine lv_bipush (v := 64) hx hb dX1_init_21 (by decide) ?_
  have h4 : 64 * componentBytes .int ≤ 536870912 := by decide +kernel
  have h5 : 2 + 1 ≤ 8 := by decide
  have h6 : 128 + 64 ≤ 228 := by decide
  refine va_newa (atype := .int) (ty := .int) (n := 64) (N' := 64) (a0 := (64, .inl (fun _ => 0))) hx hb (hts (.arrayClass .int) (by decide +kernel)) rfl hK hP hD hS hA (fun _ => rfl) (by decide) (by decide) h4 h5 h6 dX1_init_23 (fun q3 cB H hK hP hD hS => ?_)
  have eB := va_oneI hK 0 1 rfl rfl
  subst eB
  have hK := hK.sub (tys' := [(cA, .int)]) [0] rfl
  have hP : va_P (dC, dI) vwCl [(h0, .inr (1, [.ref q1, .ref q2, .null, .null, .null, .null, .null, .null, .int 0, .int 0, .int 0, .int 0, .int 0, .int 0, .long 0, .long 0])), (q1, .inl (cA, 64, .inl (fun _ => 0))), (q2, .inl (cA, 64, .inl (fun _ => 0))), (q3, .inl (cA, 64, .inl (fun _ => 0)))] H := hP
  have hD : va_D A [(h0, .inr (1, [.ref q1, .ref q2, .null, .null, .null, .null, .null, .null, .int 0, .int 0, .int 0, .int 0, .int 0, .int 0, .long 0, .long 0])), (q1, .inl (cA, 64, .inl (fun _ => 0))), (q2, .inl (cA, 64, .inl (fun _ => 0))), (q3, .inl (cA, 64, .inl (fun _ => 0)))] := hD
  refine W.widen (k := 3) (n := 192) (by omega) (by omega) ?_
  refine va_putF (D := (dC, dI)) (ci := 1) (v := .ref q3) (ty := (.array .int)) (C := RX1) (T := TX1) (N := 16) hx hb hts inw_X1_init tyX1 tyX1_ok nmX1 hown hK hP hD hS 0 rfl rfl 2 (by decide) (hts (.fieldLink RX1 16 "MigratorModel" "copied" "[I") (by decide +kernel)) (fun _ h9 => h9) rfl hin rfl (by decide +kernel) rfl rfl (Nat.le_of_ble_eq_true rfl) dX1_init_25 (fun H locs hP hD hS => ?_)
  have hP : va_P (dC, dI) vwCl [(h0, .inr (1, [.ref q1, .ref q2, .ref q3, .null, .null, .null, .null, .null, .int 0, .int 0, .int 0, .int 0, .int 0, .int 0, .long 0, .long 0])), (q1, .inl (cA, 64, .inl (fun _ => 0))), (q2, .inl (cA, 64, .inl (fun _ => 0))), (q3, .inl (cA, 64, .inl (fun _ => 0)))] H := hP
  have hD : va_D A [(h0, .inr (1, [.ref q1, .ref q2, .ref q3, .null, .null, .null, .null, .null, .int 0, .int 0, .int 0, .int 0, .int 0, .int 0, .long 0, .long 0])), (q1, .inl (cA, 64, .inl (fun _ => 0))), (q2, .inl (cA, 64, .inl (fun _ => 0))), (q3, .inl (cA, 64, .inl (fun _ => 0)))] := hD
  refine lv_aload_n hx hb dX1_init_28 rfl (lv_at hl 0 rfl) ?_
  refine lv_iconst (v := 4) hx hb dX1_init_29 (by decide) ?_
  have h4 : 4 * componentBytes .int ≤ 536870912 := by decide +kernel
  have h5 : 3 + 1 ≤ 8 := by decide
  have h6 : 192 + 4 ≤ 228 := by decide
  refine va_newa (atype := .int) (ty := .int) (n := 4) (N' := 4) (a0 := (4, .inl (fun _ => 0))) hx hb (hts (.arrayClass .int) (by decide +kernel)) rfl hK hP hD hS hA (fun _ => rfl) (by decide) (by decide) h4 h5 h6 dX1_init_30 (fun q4 cB H hK hP hD hS => ?_)
  have eB := va_oneI hK 0 1 rfl rfl
  subst eB
  have hK := hK.sub (tys' := [(cA, .int)]) [0] rfl
  have hP : va_P (dC, dI) vwCl [(h0, .inr (1, [.ref q1, .ref q2, .ref q3, .null, .null, .null, .null, .null, .int 0, .int 0, .int 0, .int 0, .int 0, .int 0, .long 0, .long 0])), (q1, .inl (cA, 64, .inl (fun _ => 0))), (q2, .inl (cA, 64, .inl (fun _ => 0))), (q3, .inl (cA, 64, .inl (fun _ => 0))), (q4, .inl (cA, 4, .inl (fun _ => 0)))] H := hP
  have hD : va_D A [(h0, .inr (1, [.ref q1, .ref q2, .ref q3, .null, .null, .null, .null, .null, .int 0, .int 0, .int 0, .int 0, .int 0, .int 0, .long 0, .long 0])), (q1, .inl (cA, 64, .inl (fun _ => 0))), (q2, .inl (cA, 64, .inl (fun _ => 0))), (q3, .inl (cA, 64, .inl (fun _ => 0))), (q4, .inl (cA, 4, .inl (fun _ => 0)))] := hD
  refine W.widen (k := 4) (n := 196) (by omega) (by omega) ?_
  refine va_putF (D := (dC, dI)) (ci := 1) (v := .ref q4) (ty := (.array .int)) (C := RX1) (T := TX1) (N := 16) hx hb hts inw_X1_init tyX1 tyX1_ok nmX1 hown hK hP hD hS 0 rfl rfl 3 (by decide) (hts (.fieldLink RX1 19 "MigratorModel" "reg" "[I") (by decide +kernel)) (fun _ h9 => h9) rfl hin rfl (by decide +kernel) rfl rfl (Nat.le_of_ble_eq_true rfl) dX1_init_32 (fun H locs hP hD hS => ?_)
  have hP : va_P (dC, dI) vwCl [(h0, .inr (1, [.ref q1, .ref q2, .ref q3, .ref q4, .null, .null, .null, .null, .int 0, .int 0, .int 0, .int 0, .int 0, .int 0, .long 0, .long 0])), (q1, .inl (cA, 64, .inl (fun _ => 0))), (q2, .inl (cA, 64, .inl (fun _ => 0))), (q3, .inl (cA, 64, .inl (fun _ => 0))), (q4, .inl (cA, 4, .inl (fun _ => 0)))] H := hP
  have hD : va_D A [(h0, .inr (1, [.ref q1, .ref q2, .ref q3, .ref q4, .null, .null, .null, .null, .int 0, .int 0, .int 0, .int 0, .int 0, .int 0, .long 0, .long 0])), (q1, .inl (cA, 64, .inl (fun _ => 0))), (q2, .inl (cA, 64, .inl (fun _ => 0))), (q3, .inl (cA, 64, .inl (fun _ => 0))), (q4, .inl (cA, 4, .inl (fun _ => 0)))] := hD
  refine lv_aload_n hx hb dX1_init_35 rfl (lv_at hl 0 rfl) ?_
  refine lv_bipush (v := 8) hx hb dX1_init_36 (by decide) ?_
  have h4 : 8 * componentBytes .long ≤ 536870912 := by decide +kernel
  have h5 : 4 + 1 ≤ 8 := by decide
  have h6 : 196 + 8 ≤ 228 := by decide
  refine va_newa (atype := .long) (ty := .long) (n := 8) (N' := 8) (a0 := (8, .inr (.inl (fun _ => 0)))) hx hb (hts (.arrayClass .long) (by decide +kernel)) rfl hK hP hD hS hA (fun _ => rfl) (by decide) (by decide) h4 h5 h6 dX1_init_38 (fun q5 cJ H hK hP hD hS => ?_)
  have hK : va_K (dC, dI) vwCl [(cA, .int), (cJ, .long)] s := hK
  have hP : va_P (dC, dI) vwCl [(h0, .inr (1, [.ref q1, .ref q2, .ref q3, .ref q4, .null, .null, .null, .null, .int 0, .int 0, .int 0, .int 0, .int 0, .int 0, .long 0, .long 0])), (q1, .inl (cA, 64, .inl (fun _ => 0))), (q2, .inl (cA, 64, .inl (fun _ => 0))), (q3, .inl (cA, 64, .inl (fun _ => 0))), (q4, .inl (cA, 4, .inl (fun _ => 0))), (q5, .inl (cJ, 8, .inr (.inl (fun _ => 0))))] H := hP
  have hD : va_D A [(h0, .inr (1, [.ref q1, .ref q2, .ref q3, .ref q4, .null, .null, .null, .null, .int 0, .int 0, .int 0, .int 0, .int 0, .int 0, .long 0, .long 0])), (q1, .inl (cA, 64, .inl (fun _ => 0))), (q2, .inl (cA, 64, .inl (fun _ => 0))), (q3, .inl (cA, 64, .inl (fun _ => 0))), (q4, .inl (cA, 4, .inl (fun _ => 0))), (q5, .inl (cJ, 8, .inr (.inl (fun _ => 0))))] := hD
  refine W.widen (k := 5) (n := 204) (by omega) (by omega) ?_
  refine va_putF (D := (dC, dI)) (ci := 1) (v := .ref q5) (ty := (.array .long)) (C := RX1) (T := TX1) (N := 16) hx hb hts inw_X1_init tyX1 tyX1_ok nmX1 hown hK hP hD hS 0 rfl rfl 4 (by decide) (hts (.fieldLink RX1 22 "MigratorModel" "written" "[J") (by decide +kernel)) (fun _ h9 => h9) rfl hin rfl (by decide +kernel) rfl rfl (Nat.le_of_ble_eq_true rfl) dX1_init_40 (fun H locs hP hD hS => ?_)
  have hP : va_P (dC, dI) vwCl [(h0, .inr (1, [.ref q1, .ref q2, .ref q3, .ref q4, .ref q5, .null, .null, .null, .int 0, .int 0, .int 0, .int 0, .int 0, .int 0, .long 0, .long 0])), (q1, .inl (cA, 64, .inl (fun _ => 0))), (q2, .inl (cA, 64, .inl (fun _ => 0))), (q3, .inl (cA, 64, .inl (fun _ => 0))), (q4, .inl (cA, 4, .inl (fun _ => 0))), (q5, .inl (cJ, 8, .inr (.inl (fun _ => 0))))] H := hP
  have hD : va_D A [(h0, .inr (1, [.ref q1, .ref q2, .ref q3, .ref q4, .ref q5, .null, .null, .null, .int 0, .int 0, .int 0, .int 0, .int 0, .int 0, .long 0, .long 0])), (q1, .inl (cA, 64, .inl (fun _ => 0))), (q2, .inl (cA, 64, .inl (fun _ => 0))), (q3, .inl (cA, 64, .inl (fun _ => 0))), (q4, .inl (cA, 4, .inl (fun _ => 0))), (q5, .inl (cJ, 8, .inr (.inl (fun _ => 0))))] := hD
  refine lv_aload_n hx hb dX1_init_43 rfl (lv_at hl 0 rfl) ?_
  refine lv_bipush (v := 8) hx hb dX1_init_44 (by decide) ?_
  have h4 : 8 * componentBytes .boolean ≤ 536870912 := by decide +kernel
  have h5 : 5 + 1 ≤ 8 := by decide
  have h6 : 204 + 8 ≤ 228 := by decide
  refine va_newa (atype := .boolean) (ty := .boolean) (n := 8) (N' := 8) (a0 := (8, .inl (fun _ => 0))) hx hb (hts (.arrayClass .boolean) (by decide +kernel)) rfl hK hP hD hS hA (fun _ => rfl) (by decide) (by decide) h4 h5 h6 dX1_init_46 (fun q6 cZ H hK hP hD hS => ?_)
  have hK : va_K (dC, dI) vwCl [(cA, .int), (cJ, .long), (cZ, .boolean)] s := hK
  have hP : va_P (dC, dI) vwCl [(h0, .inr (1, [.ref q1, .ref q2, .ref q3, .ref q4, .ref q5, .null, .null, .null, .int 0, .int 0, .int 0, .int 0, .int 0, .int 0, .long 0, .long 0])), (q1, .inl (cA, 64, .inl (fun _ => 0))), (q2, .inl (cA, 64, .inl (fun _ => 0))), (q3, .inl (cA, 64, .inl (fun _ => 0))), (q4, .inl (cA, 4, .inl (fun _ => 0))), (q5, .inl (cJ, 8, .inr (.inl (fun _ => 0)))), (q6, .inl (cZ, 8, .inl (fun _ => 0)))] H := hP
  have hD : va_D A [(h0, .inr (1, [.ref q1, .ref q2, .ref q3, .ref q4, .ref q5, .null, .null, .null, .int 0, .int 0, .int 0, .int 0, .int 0, .int 0, .long 0, .long 0])), (q1, .inl (cA, 64, .inl (fun _ => 0))), (q2, .inl (cA, 64, .inl (fun _ => 0))), (q3, .inl (cA, 64, .inl (fun _ => 0))), (q4, .inl (cA, 4, .inl (fun _ => 0))), (q5, .inl (cJ, 8, .inr (.inl (fun _ => 0)))), (q6, .inl (cZ, 8, .inl (fun _ => 0)))] := hD
  refine W.widen (k := 6) (n := 212) (by omega) (by omega) ?_
  refine va_putF (D := (dC, dI)) (ci := 1) (v := .ref q6) (ty := (.array .boolean)) (C := RX1) (T := TX1) (N := 16) hx hb hts inw_X1_init tyX1 tyX1_ok nmX1 hown hK hP hD hS 0 rfl rfl 5 (by decide) (hts (.fieldLink RX1 26 "MigratorModel" "want" "[Z") (by decide +kernel)) (fun _ h9 => h9) rfl hin rfl (by decide +kernel) rfl rfl (Nat.le_of_ble_eq_true rfl) dX1_init_48 (fun H locs hP hD hS => ?_)
  have hP : va_P (dC, dI) vwCl [(h0, .inr (1, [.ref q1, .ref q2, .ref q3, .ref q4, .ref q5, .ref q6, .null, .null, .int 0, .int 0, .int 0, .int 0, .int 0, .int 0, .long 0, .long 0])), (q1, .inl (cA, 64, .inl (fun _ => 0))), (q2, .inl (cA, 64, .inl (fun _ => 0))), (q3, .inl (cA, 64, .inl (fun _ => 0))), (q4, .inl (cA, 4, .inl (fun _ => 0))), (q5, .inl (cJ, 8, .inr (.inl (fun _ => 0)))), (q6, .inl (cZ, 8, .inl (fun _ => 0)))] H := hP
  have hD : va_D A [(h0, .inr (1, [.ref q1, .ref q2, .ref q3, .ref q4, .ref q5, .ref q6, .null, .null, .int 0, .int 0, .int 0, .int 0, .int 0, .int 0, .long 0, .long 0])), (q1, .inl (cA, 64, .inl (fun _ => 0))), (q2, .inl (cA, 64, .inl (fun _ => 0))), (q3, .inl (cA, 64, .inl (fun _ => 0))), (q4, .inl (cA, 4, .inl (fun _ => 0))), (q5, .inl (cJ, 8, .inr (.inl (fun _ => 0)))), (q6, .inl (cZ, 8, .inl (fun _ => 0)))] := hD
  refine lv_aload_n hx hb dX1_init_51 rfl (lv_at hl 0 rfl) ?_
  refine lv_bipush (v := 8) hx hb dX1_init_52 (by decide) ?_
  have h4 : 8 * componentBytes .boolean ≤ 536870912 := by decide +kernel
  have h5 : 6 + 1 ≤ 8 := by decide
  have h6 : 212 + 8 ≤ 228 := by decide
  refine va_newa (atype := .boolean) (ty := .boolean) (n := 8) (N' := 8) (a0 := (8, .inl (fun _ => 0))) hx hb (hts (.arrayClass .boolean) (by decide +kernel)) rfl hK hP hD hS hA (fun _ => rfl) (by decide) (by decide) h4 h5 h6 dX1_init_54 (fun q7 cB H hK hP hD hS => ?_)
  have eB := va_oneZ hK 2 3 rfl rfl
  subst eB
  have hK := hK.sub (tys' := [(cA, .int), (cJ, .long), (cZ, .boolean)]) [0, 1, 2] rfl
  have hP : va_P (dC, dI) vwCl [(h0, .inr (1, [.ref q1, .ref q2, .ref q3, .ref q4, .ref q5, .ref q6, .null, .null, .int 0, .int 0, .int 0, .int 0, .int 0, .int 0, .long 0, .long 0])), (q1, .inl (cA, 64, .inl (fun _ => 0))), (q2, .inl (cA, 64, .inl (fun _ => 0))), (q3, .inl (cA, 64, .inl (fun _ => 0))), (q4, .inl (cA, 4, .inl (fun _ => 0))), (q5, .inl (cJ, 8, .inr (.inl (fun _ => 0)))), (q6, .inl (cZ, 8, .inl (fun _ => 0))), (q7, .inl (cZ, 8, .inl (fun _ => 0)))] H := hP
  have hD : va_D A [(h0, .inr (1, [.ref q1, .ref q2, .ref q3, .ref q4, .ref q5, .ref q6, .null, .null, .int 0, .int 0, .int 0, .int 0, .int 0, .int 0, .long 0, .long 0])), (q1, .inl (cA, 64, .inl (fun _ => 0))), (q2, .inl (cA, 64, .inl (fun _ => 0))), (q3, .inl (cA, 64, .inl (fun _ => 0))), (q4, .inl (cA, 4, .inl (fun _ => 0))), (q5, .inl (cJ, 8, .inr (.inl (fun _ => 0)))), (q6, .inl (cZ, 8, .inl (fun _ => 0))), (q7, .inl (cZ, 8, .inl (fun _ => 0)))] := hD
  refine W.widen (k := 7) (n := 220) (by omega) (by omega) ?_
  refine va_putF (D := (dC, dI)) (ci := 1) (v := .ref q7) (ty := (.array .boolean)) (C := RX1) (T := TX1) (N := 16) hx hb hts inw_X1_init tyX1 tyX1_ok nmX1 hown hK hP hD hS 0 rfl rfl 6 (by decide) (hts (.fieldLink RX1 30 "MigratorModel" "left" "[Z") (by decide +kernel)) (fun _ h9 => h9) rfl hin rfl (by decide +kernel) rfl rfl (Nat.le_of_ble_eq_true rfl) dX1_init_56 (fun H locs hP hD hS => ?_)
  have hP : va_P (dC, dI) vwCl [(h0, .inr (1, [.ref q1, .ref q2, .ref q3, .ref q4, .ref q5, .ref q6, .ref q7, .null, .int 0, .int 0, .int 0, .int 0, .int 0, .int 0, .long 0, .long 0])), (q1, .inl (cA, 64, .inl (fun _ => 0))), (q2, .inl (cA, 64, .inl (fun _ => 0))), (q3, .inl (cA, 64, .inl (fun _ => 0))), (q4, .inl (cA, 4, .inl (fun _ => 0))), (q5, .inl (cJ, 8, .inr (.inl (fun _ => 0)))), (q6, .inl (cZ, 8, .inl (fun _ => 0))), (q7, .inl (cZ, 8, .inl (fun _ => 0)))] H := hP
  have hD : va_D A [(h0, .inr (1, [.ref q1, .ref q2, .ref q3, .ref q4, .ref q5, .ref q6, .ref q7, .null, .int 0, .int 0, .int 0, .int 0, .int 0, .int 0, .long 0, .long 0])), (q1, .inl (cA, 64, .inl (fun _ => 0))), (q2, .inl (cA, 64, .inl (fun _ => 0))), (q3, .inl (cA, 64, .inl (fun _ => 0))), (q4, .inl (cA, 4, .inl (fun _ => 0))), (q5, .inl (cJ, 8, .inr (.inl (fun _ => 0)))), (q6, .inl (cZ, 8, .inl (fun _ => 0))), (q7, .inl (cZ, 8, .inl (fun _ => 0)))] := hD
  refine lv_aload_n hx hb dX1_init_59 rfl (lv_at hl 0 rfl) ?_
  refine lv_bipush (v := 8) hx hb dX1_init_60 (by decide) ?_
  have h4 : 8 * componentBytes .int ≤ 536870912 := by decide +kernel
  have h5 : 7 + 1 ≤ 8 := by decide
  have h6 : 220 + 8 ≤ 228 := by decide
  refine va_newa (atype := .int) (ty := .int) (n := 8) (N' := 8) (a0 := (8, .inl (fun _ => 0))) hx hb (hts (.arrayClass .int) (by decide +kernel)) rfl hK hP hD hS hA (fun _ => rfl) (by decide) (by decide) h4 h5 h6 dX1_init_62 (fun q8 cB H hK hP hD hS => ?_)
  have eB := va_oneI hK 0 3 rfl rfl
  subst eB
  have hK := hK.sub (tys' := [(cA, .int), (cJ, .long), (cZ, .boolean)]) [0, 1, 2] rfl
  have hP : va_P (dC, dI) vwCl [(h0, .inr (1, [.ref q1, .ref q2, .ref q3, .ref q4, .ref q5, .ref q6, .ref q7, .null, .int 0, .int 0, .int 0, .int 0, .int 0, .int 0, .long 0, .long 0])), (q1, .inl (cA, 64, .inl (fun _ => 0))), (q2, .inl (cA, 64, .inl (fun _ => 0))), (q3, .inl (cA, 64, .inl (fun _ => 0))), (q4, .inl (cA, 4, .inl (fun _ => 0))), (q5, .inl (cJ, 8, .inr (.inl (fun _ => 0)))), (q6, .inl (cZ, 8, .inl (fun _ => 0))), (q7, .inl (cZ, 8, .inl (fun _ => 0))), (q8, .inl (cA, 8, .inl (fun _ => 0)))] H := hP
  have hD : va_D A [(h0, .inr (1, [.ref q1, .ref q2, .ref q3, .ref q4, .ref q5, .ref q6, .ref q7, .null, .int 0, .int 0, .int 0, .int 0, .int 0, .int 0, .long 0, .long 0])), (q1, .inl (cA, 64, .inl (fun _ => 0))), (q2, .inl (cA, 64, .inl (fun _ => 0))), (q3, .inl (cA, 64, .inl (fun _ => 0))), (q4, .inl (cA, 4, .inl (fun _ => 0))), (q5, .inl (cJ, 8, .inr (.inl (fun _ => 0)))), (q6, .inl (cZ, 8, .inl (fun _ => 0))), (q7, .inl (cZ, 8, .inl (fun _ => 0))), (q8, .inl (cA, 8, .inl (fun _ => 0)))] := hD
  refine W.widen (k := 8) (n := 228) (by omega) (by omega) ?_
  refine va_putF (D := (dC, dI)) (ci := 1) (v := .ref q8) (ty := (.array .int)) (C := RX1) (T := TX1) (N := 16) hx hb hts inw_X1_init tyX1 tyX1_ok nmX1 hown hK hP hD hS 0 rfl rfl 7 (by decide) (hts (.fieldLink RX1 33 "MigratorModel" "told" "[I") (by decide +kernel)) (fun _ h9 => h9) rfl hin rfl (by decide +kernel) rfl rfl (Nat.le_of_ble_eq_true rfl) dX1_init_64 (fun H locs hP hD hS => ?_)
  have hP : va_P (dC, dI) vwCl [(h0, .inr (1, [.ref q1, .ref q2, .ref q3, .ref q4, .ref q5, .ref q6, .ref q7, .ref q8, .int 0, .int 0, .int 0, .int 0, .int 0, .int 0, .long 0, .long 0])), (q1, .inl (cA, 64, .inl (fun _ => 0))), (q2, .inl (cA, 64, .inl (fun _ => 0))), (q3, .inl (cA, 64, .inl (fun _ => 0))), (q4, .inl (cA, 4, .inl (fun _ => 0))), (q5, .inl (cJ, 8, .inr (.inl (fun _ => 0)))), (q6, .inl (cZ, 8, .inl (fun _ => 0))), (q7, .inl (cZ, 8, .inl (fun _ => 0))), (q8, .inl (cA, 8, .inl (fun _ => 0)))] H := hP
  have hD : va_D A [(h0, .inr (1, [.ref q1, .ref q2, .ref q3, .ref q4, .ref q5, .ref q6, .ref q7, .ref q8, .int 0, .int 0, .int 0, .int 0, .int 0, .int 0, .long 0, .long 0])), (q1, .inl (cA, 64, .inl (fun _ => 0))), (q2, .inl (cA, 64, .inl (fun _ => 0))), (q3, .inl (cA, 64, .inl (fun _ => 0))), (q4, .inl (cA, 4, .inl (fun _ => 0))), (q5, .inl (cJ, 8, .inr (.inl (fun _ => 0)))), (q6, .inl (cZ, 8, .inl (fun _ => 0))), (q7, .inl (cZ, 8, .inl (fun _ => 0))), (q8, .inl (cA, 8, .inl (fun _ => 0)))] := hD
  refine lv_aload_n hx hb dX1_init_67 rfl (lv_at hl 0 rfl) ?_
  refine lv_iconst (v := 0) hx hb dX1_init_68 (by decide) ?_
  refine va_put (D := (dC, dI)) (ci := 1) (v := .int 0) (ty := .int) (C := RX1) (T := TX1) (N := 16) hx hb hts inw_X1_init tyX1 tyX1_ok nmX1 hown hK hP hD hS 0 rfl rfl 9 (by decide) (hts (.fieldLink RX1 36 "MigratorModel" "phase" "I") (by decide +kernel)) (fun _ h9 => h9) rfl (by decide +kernel) rfl rfl (Nat.le_of_ble_eq_true rfl) dX1_init_69 (fun H locs hP hD hS => ?_)
  have hP : va_P (dC, dI) vwCl [(h0, .inr (1, [.ref q1, .ref q2, .ref q3, .ref q4, .ref q5, .ref q6, .ref q7, .ref q8, .int 0, .int 0, .int 0, .int 0, .int 0, .int 0, .long 0, .long 0])), (q1, .inl (cA, 64, .inl (fun _ => 0))), (q2, .inl (cA, 64, .inl (fun _ => 0))), (q3, .inl (cA, 64, .inl (fun _ => 0))), (q4, .inl (cA, 4, .inl (fun _ => 0))), (q5, .inl (cJ, 8, .inr (.inl (fun _ => 0)))), (q6, .inl (cZ, 8, .inl (fun _ => 0))), (q7, .inl (cZ, 8, .inl (fun _ => 0))), (q8, .inl (cA, 8, .inl (fun _ => 0)))] H := hP
  have hD : va_D A [(h0, .inr (1, [.ref q1, .ref q2, .ref q3, .ref q4, .ref q5, .ref q6, .ref q7, .ref q8, .int 0, .int 0, .int 0, .int 0, .int 0, .int 0, .long 0, .long 0])), (q1, .inl (cA, 64, .inl (fun _ => 0))), (q2, .inl (cA, 64, .inl (fun _ => 0))), (q3, .inl (cA, 64, .inl (fun _ => 0))), (q4, .inl (cA, 4, .inl (fun _ => 0))), (q5, .inl (cJ, 8, .inr (.inl (fun _ => 0)))), (q6, .inl (cZ, 8, .inl (fun _ => 0))), (q7, .inl (cZ, 8, .inl (fun _ => 0))), (q8, .inl (cA, 8, .inl (fun _ => 0)))] := hD
  exact W.vret hx hb hr (fun t ht hW => ⟨⟨(), rfl, trivial, q1, q2, q3, q4, q5, q6, q7, q8, cA, cJ, cZ, by rw [ht]; exact hP, va_K.moved hW.alike hK, hD⟩, hS.F ht⟩) hS.2.2 dX1_init_72
end
section
/-! What the reference's methods do. -/
def mr_ia (a : Int32) : Prop := ¬ a < 0 ∧ ¬ 63 < a
def mr_ip (a : Int32) : Prop := ¬ a < 0 ∧ ¬ 7 < a
def mr_dt (G : Nat → Int64) (F : Nat → Int32) (ph : Int32) (sn : Int64) (a : Int32) : Prop := (ph = 1 ∧ sn < G a.toNatClampNeg) ∨ (¬ ph = 0 ∧ ¬ ph = 1 ∧ F a.toNatClampNeg = 1)
def mr_sf (j : Nat) (T : Nat → Int32) : Nat → Int32 := fun k => if j < k ∧ k ≤ 7 then T (k - 1) else T k
theorem mr_sf_7 (T : Nat → Int32) : mr_sf 7 T = T := by
  funext k
  unfold mr_sf
  rw [if_neg (by omega)]
theorem mr_sf_s (j : Nat) (hj : j < 7) (T : Nat → Int32) : upd (mr_sf (j + 1) T) (j + 1) (mr_sf (j + 1) T j) = mr_sf j T := by
  funext k
  unfold upd
  by_cases h : k = j + 1
  · rw [if_pos h]
    subst h
    unfold mr_sf
    rw [if_neg (by omega), if_pos (by omega)]
    rfl
  · rw [if_neg h]
    unfold mr_sf
    by_cases h2 : j + 1 < k ∧ k ≤ 7
    · rw [if_pos h2, if_pos (by omega)]
    · rw [if_neg h2, if_neg (by omega)]
def mr_go (op : Int32) (w : Int32) (v : mrS) : mrS := match v with
  | (M, N, C, R, G, E, F, T, pc, ph, rd, th, lm, sh, tm, sn) =>
    if op = 0 then (M, N, C, R, G, E, F, T, pc, ph, rd, th, lm, sh, tm, sn)
    else if op = 1 then (M, N, C, upd R (mg_a w).toNatClampNeg (mg_k w), G, E, F, T, (pc + 1) &&& 63, ph, rd, th, lm, sh, tm, sn)
    else if op = 2 then (M, N, C, upd R (mg_a w).toNatClampNeg (M ((R (mg_b w).toNatClampNeg + mg_k w) &&& 63).toNatClampNeg), G, E, F, T, (pc + 1) &&& 63, ph, rd, th, lm, sh, tm, sn)
    else if op = 3 then (upd M ((R (mg_b w).toNatClampNeg + mg_k w) &&& 63).toNatClampNeg (R (mg_a w).toNatClampNeg), N, C, R, vp_updL G (((R (mg_b w).toNatClampNeg + mg_k w) &&& 63) / 8).toNatClampNeg (tm + 1), E, F, T, (pc + 1) &&& 63, ph, rd, th, lm, sh, tm + 1, sn)
    else if op = 4 then (M, N, C, upd R (mg_a w).toNatClampNeg (R (mg_a w).toNatClampNeg + R (mg_b w).toNatClampNeg), G, E, F, T, (pc + 1) &&& 63, ph, rd, th, lm, sh, tm, sn)
    else if op = 5 then (M, N, C, upd R (mg_a w).toNatClampNeg (R (mg_a w).toNatClampNeg - R (mg_b w).toNatClampNeg), G, E, F, T, (pc + 1) &&& 63, ph, rd, th, lm, sh, tm, sn)
    else if op = 6 then (M, N, C, R, G, E, F, T, (if R (mg_a w).toNatClampNeg = 0 then (pc + 1) &&& 63 else mg_k w &&& 63), ph, rd, th, lm, sh, tm, sn)
    else (M, N, C, R, G, E, F, upd (mr_sf 0 T) 0 (R (mg_a w).toNatClampNeg), (pc + 1) &&& 63, ph, rd, th, lm, sh + 1, tm, sn)
def mr_step (v : mrS) : mrS := mr_go (v.1 v.2.2.2.2.2.2.2.2.1.toNatClampNeg &&& 7) (v.1 v.2.2.2.2.2.2.2.2.1.toNatClampNeg) v
def mr_it : Nat → mrS → mrS
  | 0, v => v
  | n + 1, v => mr_step (mr_it n v)
theorem mr_go_pc (op w : Int32) (v : mrS) (h : vp_in v.2.2.2.2.2.2.2.2.1 64) : vp_in (mr_go op w v).2.2.2.2.2.2.2.2.1 64 := by
  obtain ⟨M, N, C, R, G, E, F, T, pc, ph, rd, th, lm, sh, tm, sn⟩ := v
  have h : vp_in pc 64 := h
  unfold mr_go
  dsimp only
  split
  · exact h
  split
  · exact in_63 _
  split
  · exact in_63 _
  split
  · exact in_63 _
  split
  · exact in_63 _
  split
  · exact in_63 _
  split
  · dsimp only
    split
    · exact in_63 _
    · exact in_63 _
  · exact in_63 _
theorem mr_it_pc (n : Nat) (v : mrS) (h : vp_in v.2.2.2.2.2.2.2.2.1 64) : vp_in (mr_it n v).2.2.2.2.2.2.2.2.1 64 := by
  induction n with
  | zero => exact h
  | succ n ih => exact mr_go_pc _ _ _ ih
def mr_rn (ph n : Int32) : Prop := ¬ n < 0 ∧ ¬ 1000 < n ∧ ¬ ph = 2
def mr_bg (ph t l : Int32) : Prop := ¬ t < 0 ∧ ¬ 8 < t ∧ ¬ l < 1 ∧ ¬ 20 < l ∧ ph = 0
def mr_en (i : Nat) (E : Nat → Int32) : Nat → Int32 := fun j => if j < i then 1 else E j
theorem mr_en_s (i : Nat) (E : Nat → Int32) : upd (mr_en i E) i (vp_nar .boolean 1) = mr_en (i + 1) E := by
  funext k
  unfold upd mr_en
  by_cases h : k = i
  · rw [if_pos h, if_pos (by omega)]; decide
  · rw [if_neg h]
    by_cases h2 : k < i
    · rw [if_pos h2, if_pos (by omega)]
    · rw [if_neg h2, if_neg (by omega)]
theorem mr_en_0 (E : Nat → Int32) : mr_en 0 E = E := by
  funext k
  exact if_neg (by omega)
/-- a stretch of b words from place a on, copied -/
def mr_cw (M : Nat → Int32) (a b : Nat) (C : Nat → Int32) : Nat → Int32 := fun j => if a ≤ j ∧ j < a + b then M j else C j
theorem mr_cw_0 (M : Nat → Int32) (a : Nat) (C : Nat → Int32) : mr_cw M a 0 C = C := by
  funext k
  exact if_neg (by omega)
theorem mr_cw_s (M : Nat → Int32) (a b : Nat) (C : Nat → Int32) : upd (mr_cw M a b C) (a + b) (M (a + b)) = mr_cw M a (b + 1) C := by
  funext k
  unfold upd mr_cw
  by_cases h : k = a + b
  · rw [if_pos h, if_pos (by omega), h]
  · rw [if_neg h]
    by_cases h2 : a ≤ k ∧ k < a + b
    · rw [if_pos h2, if_pos (by omega)]
    · rw [if_neg h2, if_neg (by omega)]
/-- the pages written since: a row of i places anew -/
def mr_wr (G : Nat → Int64) (sn : Int64) (i : Nat) (E : Nat → Int32) : Nat → Int32 := fun j => if j < i then (if sn < G j then 1 else 0) else E j
theorem mr_wr_0 (G : Nat → Int64) (sn : Int64) (E : Nat → Int32) : mr_wr G sn 0 E = E := by
  funext k
  exact if_neg (by omega)
theorem mr_wr_s (G : Nat → Int64) (sn : Int64) (i : Nat) (E : Nat → Int32) (x : Int32) (hx : x = if sn < G i then 1 else 0) : upd (mr_wr G sn i E) i x = mr_wr G sn (i + 1) E := by
  funext k
  unfold upd mr_wr
  by_cases h : k = i
  · rw [if_pos h, if_pos (by omega), hx, h]
  · rw [if_neg h]
    by_cases h2 : k < i
    · rw [if_pos h2, if_pos (show k < i + 1 by omega)]
    · rw [if_neg h2, if_neg (by omega)]
def mr_ct (G : Nat → Int64) (sn : Int64) : Nat → Nat
  | 0 => 0
  | i + 1 => mr_ct G sn i + (if sn < G i then 1 else 0)
def mr_erP (M N C R : Nat → Int32) (G : Nat → Int64) (E F T : Nat → Int32) (pc ph rd th lm sh : Int32) (tm sn : Int64) (r : Int32) (u : mrS) : Prop :=
  (r = 33 ∧ (nI (mr_ct G sn 8) ≤ th ∨ rd = lm) ∧ u = (M, N, C, R, G, mr_wr G sn 8 E, mr_wr G sn 8 F, T, pc, 2, rd, th, lm, sh, tm, sn)) ∨
  (r = 32 ∧ ¬ nI (mr_ct G sn 8) ≤ th ∧ ¬ rd = lm ∧ u = (M, N, C, R, G, mr_wr G sn 8 E, mr_wr G sn 8 F, T, pc, ph, rd + 1, th, lm, sh, tm, tm))
def mr_cyP (M N C R : Nat → Int32) (G : Nat → Int64) (E F T : Nat → Int32) (pc ph rd th lm sh : Int32) (tm sn : Int64) (r : Int32) (u : mrS) : Prop :=
  ((ph = 0 ∨ ph = 3) ∧ r = -1 ∧ u = (M, N, C, R, G, E, F, T, pc, ph, rd, th, lm, sh, tm, sn)) ∨
  (¬ ph = 0 ∧ ¬ ph = 3 ∧ ∃ p : Nat, p < 8 ∧ ¬ E p = 0 ∧ (∀ k, k < p → E k = 0) ∧ r = nI p ∧ u = (M, N, mr_cw M (8 * p) 8 C, R, G, upd E p 0, F, T, pc, ph, rd, th, lm, sh, tm, sn)) ∨
  (ph = 2 ∧ (∀ k, k < 8 → E k = 0) ∧ r = 34 ∧ u = (M, mr_cw M 0 64 N, C, R, G, E, F, T, pc, 3, rd, th, lm, sh, tm, sn)) ∨
  (ph = 1 ∧ (∀ k, k < 8 → E k = 0) ∧ mr_erP M N C R G E F T pc ph rd th lm sh tm sn r u)
theorem in_d8 (x : Int32) : vp_in ((x &&& 63) / 8) 8 := by
  obtain ⟨j, hj, e⟩ := pk_andE x (m := 63) 6 (by decide)
  rw [e, show (8 : Int32) = nI 8 from by decide, pk_div (by omega) (by omega) (by omega)]
  exact vp_in_nI (by omega) (by omega)
theorem mr_ix {p i : Nat} : (8 : Int32) * nI p + nI i = nI (8 * p + i) := by
  rw [show (8 : Int32) = nI 8 from by decide, pk_mul, nI_add]
theorem in_ix {p i : Nat} (hp : p < 8) (hi : i < 8) : vp_in ((8 : Int32) * nI p + nI i) 64 := by
  rw [mr_ix]
  exact vp_in_nI (by omega) (by omega)
theorem cl_ix {p i : Nat} (hp : p < 8) (hi : i < 8) : ((8 : Int32) * nI p + nI i).toNatClampNeg = 8 * p + i := by
  rw [mr_ix]
  exact nI_clamp (by omega)
end
section
theorem inw_X1_phase : ∀ w ∈ wsX10, w ∈ wsX1_phase := fun _ h => List.mem_cons_of_mem _ (List.mem_append_right _ h)
set_option maxHeartbeats 4000000 in
set_option maxRecDepth 100000 in
theorem c_X1_phase (l : Launch) (dC : Nat → ClassId) (dI : Nat → Nat → Nat) (h0 q1 q2 q3 q4 q5 q6 q7 q8 : Nat) (cA cJ cZ : ClassId) (M N C R : Nat → Int32) (G : Nat → Int64) (E F T : Nat → Int32) (pc ph rd th lm sh : Int32) (tm sn : Int64) (sz : Nat) : Met l yX1_phase wsX1_phase ({ frames := 0, cells := 0, slots := 0, locals := 0 }) (va_Pc [.ref h0] (fun U => U.heap.size = sz ∧ va_P (dC, dI) vwCl (mr_W h0 q1 q2 q3 q4 q5 q6 q7 q8 cA cJ cZ (M, N, C, R, G, E, F, T, pc, ph, rd, th, lm, sh, tm, sn)) U.heap ∧ va_K (dC, dI) vwCl [(cA, .int), (cJ, .long), (cZ, .boolean)] U ∧ va_D (fun _ => True) (mr_W h0 q1 q2 q3 q4 q5 q6 q7 q8 cA cJ cZ (M, N, C, R, G, E, F, T, pc, ph, rd, th, lm, sh, tm, sn)))) (va_Qi (fun (r : Int32) (u : mrS) => r = ph ∧ u = (M, N, C, R, G, E, F, T, pc, ph, rd, th, lm, sh, tm, sn)) (at_mr dC dI h0 q1 q2 q3 q4 q5 q6 q7 q8 cA cJ cZ (va_A (mr_W h0 q1 q2 q3 q4 q5 q6 q7 q8 cA cJ cZ (M, N, C, R, G, E, F, T, pc, ph, rd, th, lm, sh, tm, sn)) sz)) (va_A (mr_W h0 q1 q2 q3 q4 q5 q6 q7 q8 cA cJ cZ (M, N, C, R, G, E, F, T, pc, ph, rd, th, lm, sh, tm, sn)) sz)) 0 0 (va_A (mr_W h0 q1 q2 q3 q4 q5 q6 q7 q8 cA cJ cZ (M, N, C, R, G, E, F, T, pc, ph, rd, th, lm, sh, tm, sn)) sz) := by
  refine Met.ofW (cc := cX1_phase) (maxL := 1) (ret := (some .int)) (by decide) rfl ?_
  intro p e s m args below meth c s₁ B hml hv
  obtain ⟨rfl, hsz, hP, hK, hD0⟩ := hv
  have hx := B.exec
  have hb := B.bytes
  have hr := B.returns
  have hts := atoms_spec (ws := wsX1_phase) B.pre
  have hown : s.vm.findClass RX1 = some m.cls := findClass_of_methodNamed B.named
  have hlocks := B.notSynchronized
  subst hsz
  have hD := hD0.self (sz := s.heap.size)
  generalize hAe : va_A (mr_W h0 q1 q2 q3 q4 q5 q6 q7 q8 cA cJ cZ (M, N, C, R, G, E, F, T, pc, ph, rd, th, lm, sh, tm, sn)) s.heap.size = A at hD ⊢
  have hA : ∀ q : Nat, s.heap.size ≤ q → A q := fun q h => by rw [← hAe]; exact Or.inr h
  have hS : va_S A s.heap s.heap [] := va_S.rf
  have hP : va_P (dC, dI) vwCl [(h0, .inr (1, [.ref q1, .ref q2, .ref q3, .ref q4, .ref q5, .ref q6, .ref q7, .ref q8, .int pc, .int ph, .int rd, .int th, .int lm, .int sh, .long tm, .long sn])), (q1, .inl (cA, 64, .inl M)), (q2, .inl (cA, 64, .inl N)), (q3, .inl (cA, 64, .inl C)), (q4, .inl (cA, 4, .inl R)), (q5, .inl (cJ, 8, .inr (.inl G))), (q6, .inl (cZ, 8, .inl E)), (q7, .inl (cZ, 8, .inl F)), (q8, .inl (cA, 8, .inl T))] s.heap := hP
  have hD : va_D A [(h0, .inr (1, [.ref q1, .ref q2, .ref q3, .ref q4, .ref q5, .ref q6, .ref q7, .ref q8, .int pc, .int ph, .int rd, .int th, .int lm, .int sh, .long tm, .long sn])), (q1, .inl (cA, 64, .inl M)), (q2, .inl (cA, 64, .inl N)), (q3, .inl (cA, 64, .inl C)), (q4, .inl (cA, 4, .inl R)), (q5, .inl (cJ, 8, .inr (.inl G))), (q6, .inl (cZ, 8, .inl E)), (q7, .inl (cZ, 8, .inl F)), (q8, .inl (cA, 8, .inl T))] := hD
  have hl := lv_entry ([.ref h0]) (n := 1) (Nat.le_of_ble_eq_true rfl)
  rw [lg_entry_eq]
  generalize (lg_sl ([.ref h0]) ++ List.replicate (1 - (lg_sl ([.ref h0])).length) Slot.unset).toArray = ls at hl ⊢
  have hl : lv_has ls 1 [(0, .ref h0)] := hl
  refine lv_aload_n hx hb dX1_phase_0 rfl (lv_at hl 0 rfl) ?_
  refine va_get (D := (dC, dI)) (ci := 1) (v := .int ph) (C := RX1) (T := TX1) (N := 16) hx hb hts inw_X1_phase hown hK hP 0 rfl rfl 9 (by decide) (hts (.fieldLink RX1 36 "MigratorModel" "phase" "I") (by decide +kernel)) (fun _ h9 => h9) rfl dX1_phase_1 ?_
  exact W.iret (v := ph) hx hb hr (fun t ht hW => ⟨⟨ph, (M, N, C, R, G, E, F, T, pc, ph, rd, th, lm, sh, tm, sn), rfl, ⟨rfl, rfl⟩, by rw [ht]; exact hP, va_K.moved hW.alike hK, hD⟩, hS.F ht⟩) hS.2.2 dX1_phase_4
theorem inw_X1_round : ∀ w ∈ wsX10, w ∈ wsX1_round := fun _ h => List.mem_cons_of_mem _ (List.mem_append_right _ h)
set_option maxHeartbeats 4000000 in
set_option maxRecDepth 100000 in
theorem c_X1_round (l : Launch) (dC : Nat → ClassId) (dI : Nat → Nat → Nat) (h0 q1 q2 q3 q4 q5 q6 q7 q8 : Nat) (cA cJ cZ : ClassId) (M N C R : Nat → Int32) (G : Nat → Int64) (E F T : Nat → Int32) (pc ph rd th lm sh : Int32) (tm sn : Int64) (sz : Nat) : Met l yX1_round wsX1_round ({ frames := 0, cells := 0, slots := 0, locals := 0 }) (va_Pc [.ref h0] (fun U => U.heap.size = sz ∧ va_P (dC, dI) vwCl (mr_W h0 q1 q2 q3 q4 q5 q6 q7 q8 cA cJ cZ (M, N, C, R, G, E, F, T, pc, ph, rd, th, lm, sh, tm, sn)) U.heap ∧ va_K (dC, dI) vwCl [(cA, .int), (cJ, .long), (cZ, .boolean)] U ∧ va_D (fun _ => True) (mr_W h0 q1 q2 q3 q4 q5 q6 q7 q8 cA cJ cZ (M, N, C, R, G, E, F, T, pc, ph, rd, th, lm, sh, tm, sn)))) (va_Qi (fun (r : Int32) (u : mrS) => r = rd ∧ u = (M, N, C, R, G, E, F, T, pc, ph, rd, th, lm, sh, tm, sn)) (at_mr dC dI h0 q1 q2 q3 q4 q5 q6 q7 q8 cA cJ cZ (va_A (mr_W h0 q1 q2 q3 q4 q5 q6 q7 q8 cA cJ cZ (M, N, C, R, G, E, F, T, pc, ph, rd, th, lm, sh, tm, sn)) sz)) (va_A (mr_W h0 q1 q2 q3 q4 q5 q6 q7 q8 cA cJ cZ (M, N, C, R, G, E, F, T, pc, ph, rd, th, lm, sh, tm, sn)) sz)) 0 0 (va_A (mr_W h0 q1 q2 q3 q4 q5 q6 q7 q8 cA cJ cZ (M, N, C, R, G, E, F, T, pc, ph, rd, th, lm, sh, tm, sn)) sz) := by
  refine Met.ofW (cc := cX1_round) (maxL := 1) (ret := (some .int)) (by decide) rfl ?_
  intro p e s m args below meth c s₁ B hml hv
  obtain ⟨rfl, hsz, hP, hK, hD0⟩ := hv
  have hx := B.exec
  have hb := B.bytes
  have hr := B.returns
  have hts := atoms_spec (ws := wsX1_round) B.pre
  have hown : s.vm.findClass RX1 = some m.cls := findClass_of_methodNamed B.named
  have hlocks := B.notSynchronized
  subst hsz
  have hD := hD0.self (sz := s.heap.size)
  generalize hAe : va_A (mr_W h0 q1 q2 q3 q4 q5 q6 q7 q8 cA cJ cZ (M, N, C, R, G, E, F, T, pc, ph, rd, th, lm, sh, tm, sn)) s.heap.size = A at hD ⊢
  have hA : ∀ q : Nat, s.heap.size ≤ q → A q := fun q h => by rw [← hAe]; exact Or.inr h
  have hS : va_S A s.heap s.heap [] := va_S.rf
  have hP : va_P (dC, dI) vwCl [(h0, .inr (1, [.ref q1, .ref q2, .ref q3, .ref q4, .ref q5, .ref q6, .ref q7, .ref q8, .int pc, .int ph, .int rd, .int th, .int lm, .int sh, .long tm, .long sn])), (q1, .inl (cA, 64, .inl M)), (q2, .inl (cA, 64, .inl N)), (q3, .inl (cA, 64, .inl C)), (q4, .inl (cA, 4, .inl R)), (q5, .inl (cJ, 8, .inr (.inl G))), (q6, .inl (cZ, 8, .inl E)), (q7, .inl (cZ, 8, .inl F)), (q8, .inl (cA, 8, .inl T))] s.heap := hP
  have hD : va_D A [(h0, .inr (1, [.ref q1, .ref q2, .ref q3, .ref q4, .ref q5, .ref q6, .ref q7, .ref q8, .int pc, .int ph, .int rd, .int th, .int lm, .int sh, .long tm, .long sn])), (q1, .inl (cA, 64, .inl M)), (q2, .inl (cA, 64, .inl N)), (q3, .inl (cA, 64, .inl C)), (q4, .inl (cA, 4, .inl R)), (q5, .inl (cJ, 8, .inr (.inl G))), (q6, .inl (cZ, 8, .inl E)), (q7, .inl (cZ, 8, .inl F)), (q8, .inl (cA, 8, .inl T))] := hD
  have hl := lv_entry ([.ref h0]) (n := 1) (Nat.le_of_ble_eq_true rfl)
  rw [lg_entry_eq]
  generalize (lg_sl ([.ref h0]) ++ List.replicate (1 - (lg_sl ([.ref h0])).length) Slot.unset).toArray = ls at hl ⊢
  have hl : lv_has ls 1 [(0, .ref h0)] := hl
  refine lv_aload_n hx hb dX1_round_0 rfl (lv_at hl 0 rfl) ?_
  refine va_get (D := (dC, dI)) (ci := 1) (v := .int rd) (C := RX1) (T := TX1) (N := 16) hx hb hts inw_X1_round hown hK hP 0 rfl rfl 10 (by decide) (hts (.fieldLink RX1 46 "MigratorModel" "round" "I") (by decide +kernel)) (fun _ h9 => h9) rfl dX1_round_1 ?_
  exact W.iret (v := rd) hx hb hr (fun t ht hW => ⟨⟨rd, (M, N, C, R, G, E, F, T, pc, ph, rd, th, lm, sh, tm, sn), rfl, ⟨rfl, rfl⟩, by rw [ht]; exact hP, va_K.moved hW.alike hK, hD⟩, hS.F ht⟩) hS.2.2 dX1_round_4
theorem inw_X1_pc : ∀ w ∈ wsX10, w ∈ wsX1_pc := fun _ h => List.mem_cons_of_mem _ (List.mem_append_right _ h)
set_option maxHeartbeats 4000000 in
set_option maxRecDepth 100000 in
theorem c_X1_pc (l : Launch) (dC : Nat → ClassId) (dI : Nat → Nat → Nat) (h0 q1 q2 q3 q4 q5 q6 q7 q8 : Nat) (cA cJ cZ : ClassId) (M N C R : Nat → Int32) (G : Nat → Int64) (E F T : Nat → Int32) (pc ph rd th lm sh : Int32) (tm sn : Int64) (sz : Nat) : Met l yX1_pc wsX1_pc ({ frames := 0, cells := 0, slots := 0, locals := 0 }) (va_Pc [.ref h0] (fun U => U.heap.size = sz ∧ va_P (dC, dI) vwCl (mr_W h0 q1 q2 q3 q4 q5 q6 q7 q8 cA cJ cZ (M, N, C, R, G, E, F, T, pc, ph, rd, th, lm, sh, tm, sn)) U.heap ∧ va_K (dC, dI) vwCl [(cA, .int), (cJ, .long), (cZ, .boolean)] U ∧ va_D (fun _ => True) (mr_W h0 q1 q2 q3 q4 q5 q6 q7 q8 cA cJ cZ (M, N, C, R, G, E, F, T, pc, ph, rd, th, lm, sh, tm, sn)))) (va_Qi (fun (r : Int32) (u : mrS) => r = pc ∧ u = (M, N, C, R, G, E, F, T, pc, ph, rd, th, lm, sh, tm, sn)) (at_mr dC dI h0 q1 q2 q3 q4 q5 q6 q7 q8 cA cJ cZ (va_A (mr_W h0 q1 q2 q3 q4 q5 q6 q7 q8 cA cJ cZ (M, N, C, R, G, E, F, T, pc, ph, rd, th, lm, sh, tm, sn)) sz)) (va_A (mr_W h0 q1 q2 q3 q4 q5 q6 q7 q8 cA cJ cZ (M, N, C, R, G, E, F, T, pc, ph, rd, th, lm, sh, tm, sn)) sz)) 0 0 (va_A (mr_W h0 q1 q2 q3 q4 q5 q6 q7 q8 cA cJ cZ (M, N, C, R, G, E, F, T, pc, ph, rd, th, lm, sh, tm, sn)) sz) := by
  refine Met.ofW (cc := cX1_pc) (maxL := 1) (ret := (some .int)) (by decide) rfl ?_
  intro p e s m args below meth c s₁ B hml hv
  obtain ⟨rfl, hsz, hP, hK, hD0⟩ := hv
  have hx := B.exec
  have hb := B.bytes
  have hr := B.returns
  have hts := atoms_spec (ws := wsX1_pc) B.pre
  have hown : s.vm.findClass RX1 = some m.cls := findClass_of_methodNamed B.named
  have hlocks := B.notSynchronized
  subst hsz
  have hD := hD0.self (sz := s.heap.size)
  generalize hAe : va_A (mr_W h0 q1 q2 q3 q4 q5 q6 q7 q8 cA cJ cZ (M, N, C, R, G, E, F, T, pc, ph, rd, th, lm, sh, tm, sn)) s.heap.size = A at hD ⊢
  have hA : ∀ q : Nat, s.heap.size ≤ q → A q := fun q h => by rw [← hAe]; exact Or.inr h
  have hS : va_S A s.heap s.heap [] := va_S.rf
  have hP : va_P (dC, dI) vwCl [(h0, .inr (1, [.ref q1, .ref q2, .ref q3, .ref q4, .ref q5, .ref q6, .ref q7, .ref q8, .int pc, .int ph, .int rd, .int th, .int lm, .int sh, .long tm, .long sn])), (q1, .inl (cA, 64, .inl M)), (q2, .inl (cA, 64, .inl N)), (q3, .inl (cA, 64, .inl C)), (q4, .inl (cA, 4, .inl R)), (q5, .inl (cJ, 8, .inr (.inl G))), (q6, .inl (cZ, 8, .inl E)), (q7, .inl (cZ, 8, .inl F)), (q8, .inl (cA, 8, .inl T))] s.heap := hP
  have hD : va_D A [(h0, .inr (1, [.ref q1, .ref q2, .ref q3, .ref q4, .ref q5, .ref q6, .ref q7, .ref q8, .int pc, .int ph, .int rd, .int th, .int lm, .int sh, .long tm, .long sn])), (q1, .inl (cA, 64, .inl M)), (q2, .inl (cA, 64, .inl N)), (q3, .inl (cA, 64, .inl C)), (q4, .inl (cA, 4, .inl R)), (q5, .inl (cJ, 8, .inr (.inl G))), (q6, .inl (cZ, 8, .inl E)), (q7, .inl (cZ, 8, .inl F)), (q8, .inl (cA, 8, .inl T))] := hD
  have hl := lv_entry ([.ref h0]) (n := 1) (Nat.le_of_ble_eq_true rfl)
  rw [lg_entry_eq]
  generalize (lg_sl ([.ref h0]) ++ List.replicate (1 - (lg_sl ([.ref h0])).length) Slot.unset).toArray = ls at hl ⊢
  have hl : lv_has ls 1 [(0, .ref h0)] := hl
  refine lv_aload_n hx hb dX1_pc_0 rfl (lv_at hl 0 rfl) ?_
  refine va_get (D := (dC, dI)) (ci := 1) (v := .int pc) (C := RX1) (T := TX1) (N := 16) hx hb hts inw_X1_pc hown hK hP 0 rfl rfl 8 (by decide) (hts (.fieldLink RX1 56 "MigratorModel" "pc" "I") (by decide +kernel)) (fun _ h9 => h9) rfl dX1_pc_1 ?_
  exact W.iret (v := pc) hx hb hr (fun t ht hW => ⟨⟨pc, (M, N, C, R, G, E, F, T, pc, ph, rd, th, lm, sh, tm, sn), rfl, ⟨rfl, rfl⟩, by rw [ht]; exact hP, va_K.moved hW.alike hK, hD⟩, hS.F ht⟩) hS.2.2 dX1_pc_4
theorem inw_X1_shows : ∀ w ∈ wsX10, w ∈ wsX1_shows := fun _ h => List.mem_cons_of_mem _ (List.mem_append_right _ h)
set_option maxHeartbeats 4000000 in
set_option maxRecDepth 100000 in
theorem c_X1_shows (l : Launch) (dC : Nat → ClassId) (dI : Nat → Nat → Nat) (h0 q1 q2 q3 q4 q5 q6 q7 q8 : Nat) (cA cJ cZ : ClassId) (M N C R : Nat → Int32) (G : Nat → Int64) (E F T : Nat → Int32) (pc ph rd th lm sh : Int32) (tm sn : Int64) (sz : Nat) : Met l yX1_shows wsX1_shows ({ frames := 0, cells := 0, slots := 0, locals := 0 }) (va_Pc [.ref h0] (fun U => U.heap.size = sz ∧ va_P (dC, dI) vwCl (mr_W h0 q1 q2 q3 q4 q5 q6 q7 q8 cA cJ cZ (M, N, C, R, G, E, F, T, pc, ph, rd, th, lm, sh, tm, sn)) U.heap ∧ va_K (dC, dI) vwCl [(cA, .int), (cJ, .long), (cZ, .boolean)] U ∧ va_D (fun _ => True) (mr_W h0 q1 q2 q3 q4 q5 q6 q7 q8 cA cJ cZ (M, N, C, R, G, E, F, T, pc, ph, rd, th, lm, sh, tm, sn)))) (va_Qi (fun (r : Int32) (u : mrS) => r = sh ∧ u = (M, N, C, R, G, E, F, T, pc, ph, rd, th, lm, sh, tm, sn)) (at_mr dC dI h0 q1 q2 q3 q4 q5 q6 q7 q8 cA cJ cZ (va_A (mr_W h0 q1 q2 q3 q4 q5 q6 q7 q8 cA cJ cZ (M, N, C, R, G, E, F, T, pc, ph, rd, th, lm, sh, tm, sn)) sz)) (va_A (mr_W h0 q1 q2 q3 q4 q5 q6 q7 q8 cA cJ cZ (M, N, C, R, G, E, F, T, pc, ph, rd, th, lm, sh, tm, sn)) sz)) 0 0 (va_A (mr_W h0 q1 q2 q3 q4 q5 q6 q7 q8 cA cJ cZ (M, N, C, R, G, E, F, T, pc, ph, rd, th, lm, sh, tm, sn)) sz) := by
  refine Met.ofW (cc := cX1_shows) (maxL := 1) (ret := (some .int)) (by decide) rfl ?_
  intro p e s m args below meth c s₁ B hml hv
  obtain ⟨rfl, hsz, hP, hK, hD0⟩ := hv
  have hx := B.exec
  have hb := B.bytes
  have hr := B.returns
  have hts := atoms_spec (ws := wsX1_shows) B.pre
  have hown : s.vm.findClass RX1 = some m.cls := findClass_of_methodNamed B.named
  have hlocks := B.notSynchronized
  subst hsz
  have hD := hD0.self (sz := s.heap.size)
  generalize hAe : va_A (mr_W h0 q1 q2 q3 q4 q5 q6 q7 q8 cA cJ cZ (M, N, C, R, G, E, F, T, pc, ph, rd, th, lm, sh, tm, sn)) s.heap.size = A at hD ⊢
  have hA : ∀ q : Nat, s.heap.size ≤ q → A q := fun q h => by rw [← hAe]; exact Or.inr h
  have hS : va_S A s.heap s.heap [] := va_S.rf
  have hP : va_P (dC, dI) vwCl [(h0, .inr (1, [.ref q1, .ref q2, .ref q3, .ref q4, .ref q5, .ref q6, .ref q7, .ref q8, .int pc, .int ph, .int rd, .int th, .int lm, .int sh, .long tm, .long sn])), (q1, .inl (cA, 64, .inl M)), (q2, .inl (cA, 64, .inl N)), (q3, .inl (cA, 64, .inl C)), (q4, .inl (cA, 4, .inl R)), (q5, .inl (cJ, 8, .inr (.inl G))), (q6, .inl (cZ, 8, .inl E)), (q7, .inl (cZ, 8, .inl F)), (q8, .inl (cA, 8, .inl T))] s.heap := hP
  have hD : va_D A [(h0, .inr (1, [.ref q1, .ref q2, .ref q3, .ref q4, .ref q5, .ref q6, .ref q7, .ref q8, .int pc, .int ph, .int rd, .int th, .int lm, .int sh, .long tm, .long sn])), (q1, .inl (cA, 64, .inl M)), (q2, .inl (cA, 64, .inl N)), (q3, .inl (cA, 64, .inl C)), (q4, .inl (cA, 4, .inl R)), (q5, .inl (cJ, 8, .inr (.inl G))), (q6, .inl (cZ, 8, .inl E)), (q7, .inl (cZ, 8, .inl F)), (q8, .inl (cA, 8, .inl T))] := hD
  have hl := lv_entry ([.ref h0]) (n := 1) (Nat.le_of_ble_eq_true rfl)
  rw [lg_entry_eq]
  generalize (lg_sl ([.ref h0]) ++ List.replicate (1 - (lg_sl ([.ref h0])).length) Slot.unset).toArray = ls at hl ⊢
  have hl : lv_has ls 1 [(0, .ref h0)] := hl
  refine lv_aload_n hx hb dX1_shows_0 rfl (lv_at hl 0 rfl) ?_
  refine va_get (D := (dC, dI)) (ci := 1) (v := .int sh) (C := RX1) (T := TX1) (N := 16) hx hb hts inw_X1_shows hown hK hP 0 rfl rfl 13 (by decide) (hts (.fieldLink RX1 59 "MigratorModel" "shows" "I") (by decide +kernel)) (fun _ h9 => h9) rfl dX1_shows_1 ?_
  exact W.iret (v := sh) hx hb hr (fun t ht hW => ⟨⟨sh, (M, N, C, R, G, E, F, T, pc, ph, rd, th, lm, sh, tm, sn), rfl, ⟨rfl, rfl⟩, by rw [ht]; exact hP, va_K.moved hW.alike hK, hD⟩, hS.F ht⟩) hS.2.2 dX1_shows_4
theorem inw_X1_waits : ∀ w ∈ wsX10, w ∈ wsX1_waits := fun _ h => List.mem_cons_of_mem _ (List.mem_append_right _ h)
set_option maxHeartbeats 4000000 in
set_option maxRecDepth 100000 in
theorem c_X1_waits (l : Launch) (dC : Nat → ClassId) (dI : Nat → Nat → Nat) (h0 q1 q2 q3 q4 q5 q6 q7 q8 : Nat) (cA cJ cZ : ClassId) (M N C R : Nat → Int32) (G : Nat → Int64) (E F T : Nat → Int32) (pc ph rd th lm sh : Int32) (tm sn : Int64) (a : Int32) (sz : Nat) : Met l yX1_waits wsX1_waits ({ frames := 0, cells := 0, slots := 0, locals := 0 }) (va_Pc [.ref h0, .int a] (fun U => U.heap.size = sz ∧ va_P (dC, dI) vwCl (mr_W h0 q1 q2 q3 q4 q5 q6 q7 q8 cA cJ cZ (M, N, C, R, G, E, F, T, pc, ph, rd, th, lm, sh, tm, sn)) U.heap ∧ va_K (dC, dI) vwCl [(cA, .int), (cJ, .long), (cZ, .boolean)] U ∧ va_D (fun _ => True) (mr_W h0 q1 q2 q3 q4 q5 q6 q7 q8 cA cJ cZ (M, N, C, R, G, E, F, T, pc, ph, rd, th, lm, sh, tm, sn)))) (va_Qi (fun (r : Int32) (u : mrS) => ((r = 1 ∧ mr_ip a ∧ ¬ E a.toNatClampNeg = 0) ∨ (r = 0 ∧ ¬ (mr_ip a ∧ ¬ E a.toNatClampNeg = 0))) ∧ u = (M, N, C, R, G, E, F, T, pc, ph, rd, th, lm, sh, tm, sn)) (at_mr dC dI h0 q1 q2 q3 q4 q5 q6 q7 q8 cA cJ cZ (va_A (mr_W h0 q1 q2 q3 q4 q5 q6 q7 q8 cA cJ cZ (M, N, C, R, G, E, F, T, pc, ph, rd, th, lm, sh, tm, sn)) sz)) (va_A (mr_W h0 q1 q2 q3 q4 q5 q6 q7 q8 cA cJ cZ (M, N, C, R, G, E, F, T, pc, ph, rd, th, lm, sh, tm, sn)) sz)) 0 0 (va_A (mr_W h0 q1 q2 q3 q4 q5 q6 q7 q8 cA cJ cZ (M, N, C, R, G, E, F, T, pc, ph, rd, th, lm, sh, tm, sn)) sz) := by
  refine Met.ofW (cc := cX1_waits) (maxL := 2) (ret := (some .boolean)) (by decide) rfl ?_
  intro p e s m args below meth c s₁ B hml hv
  obtain ⟨rfl, hsz, hP, hK, hD0⟩ := hv
  have hx := B.exec
  have hb := B.bytes
  have hr := B.returns
  have hts := atoms_spec (ws := wsX1_waits) B.pre
  have hown : s.vm.findClass RX1 = some m.cls := findClass_of_methodNamed B.named
  have hlocks := B.notSynchronized
  subst hsz
  have hD := hD0.self (sz := s.heap.size)
  generalize hAe : va_A (mr_W h0 q1 q2 q3 q4 q5 q6 q7 q8 cA cJ cZ (M, N, C, R, G, E, F, T, pc, ph, rd, th, lm, sh, tm, sn)) s.heap.size = A at hD ⊢
  have hA : ∀ q : Nat, s.heap.size ≤ q → A q := fun q h => by rw [← hAe]; exact Or.inr h
  have hS : va_S A s.heap s.heap [] := va_S.rf
  have hP : va_P (dC, dI) vwCl [(h0, .inr (1, [.ref q1, .ref q2, .ref q3, .ref q4, .ref q5, .ref q6, .ref q7, .ref q8, .int pc, .int ph, .int rd, .int th, .int lm, .int sh, .long tm, .long sn])), (q1, .inl (cA, 64, .inl M)), (q2, .inl (cA, 64, .inl N)), (q3, .inl (cA, 64, .inl C)), (q4, .inl (cA, 4, .inl R)), (q5, .inl (cJ, 8, .inr (.inl G))), (q6, .inl (cZ, 8, .inl E)), (q7, .inl (cZ, 8, .inl F)), (q8, .inl (cA, 8, .inl T))] s.heap := hP
  have hD : va_D A [(h0, .inr (1, [.ref q1, .ref q2, .ref q3, .ref q4, .ref q5, .ref q6, .ref q7, .ref q8, .int pc, .int ph, .int rd, .int th, .int lm, .int sh, .long tm, .long sn])), (q1, .inl (cA, 64, .inl M)), (q2, .inl (cA, 64, .inl N)), (q3, .inl (cA, 64, .inl C)), (q4, .inl (cA, 4, .inl R)), (q5, .inl (cJ, 8, .inr (.inl G))), (q6, .inl (cZ, 8, .inl E)), (q7, .inl (cZ, 8, .inl F)), (q8, .inl (cA, 8, .inl T))] := hD
  have hl := lv_entry ([.ref h0, .int a]) (n := 2) (Nat.le_of_ble_eq_true rfl)
  rw [lg_entry_eq]
  generalize (lg_sl ([.ref h0, .int a]) ++ List.replicate (2 - (lg_sl ([.ref h0, .int a])).length) Slot.unset).toArray = ls at hl ⊢
  have hl : lv_has ls 2 [(0, .ref h0), (1, .int a)] := hl
  refine lv_iload_n hx hb dX1_waits_0 rfl (lv_at hl 1 rfl) ?_
  refine lv_if_lt (tgt := 23) hx hb dX1_waits_1 (by decide) (fun c_1 => ?_) (fun c_1 => ?_)
  · refine lv_iconst (v := 0) hx hb dX1_waits_23 (by decide) ?_
    exact W.zret (v := 0) (ty := .boolean) hx hb hr rfl (fun t ht hW => ⟨⟨0, (M, N, C, R, G, E, F, T, pc, ph, rd, th, lm, sh, tm, sn), rfl, ⟨Or.inr ⟨rfl, fun h => h.1.1 c_1⟩, rfl⟩, by rw [ht]; exact hP, va_K.moved hW.alike hK, hD⟩, hS.F ht⟩) hS.2.2 dX1_waits_24
  · refine lv_iload_n hx hb dX1_waits_4 rfl (lv_at hl 1 rfl) ?_
    refine lv_bipush (v := 7) hx hb dX1_waits_5 (by decide) ?_
    refine lv_icmp_gt (tgt := 23) hx hb dX1_waits_7 (by decide) (fun c_2 => ?_) (fun c_2 => ?_)
    · refine lv_iconst (v := 0) hx hb dX1_waits_23 (by decide) ?_
      exact W.zret (v := 0) (ty := .boolean) hx hb hr rfl (fun t ht hW => ⟨⟨0, (M, N, C, R, G, E, F, T, pc, ph, rd, th, lm, sh, tm, sn), rfl, ⟨Or.inr ⟨rfl, fun h => h.1.2 c_2⟩, rfl⟩, by rw [ht]; exact hP, va_K.moved hW.alike hK, hD⟩, hS.F ht⟩) hS.2.2 dX1_waits_24
    · refine lv_aload_n hx hb dX1_waits_10 rfl (lv_at hl 0 rfl) ?_
      refine va_get (D := (dC, dI)) (ci := 1) (v := .ref q6) (C := RX1) (T := TX1) (N := 16) hx hb hts inw_X1_waits hown hK hP 0 rfl rfl 5 (by decide) (hts (.fieldLink RX1 26 "MigratorModel" "want" "[Z") (by decide +kernel)) (fun _ h9 => h9) rfl dX1_waits_11 ?_
      refine lv_iload_n hx hb dX1_waits_14 rfl (lv_at hl 1 rfl) ?_
      refine va_zald hx hb hK hP 6 2 rfl rfl (in_le (y := 7) (by decide) c_1 c_2) dX1_waits_15 ?_
      refine lv_if_eq (tgt := 23) hx hb dX1_waits_16 (by decide) (fun c_3 => ?_) (fun c_3 => ?_)
      · refine lv_iconst (v := 0) hx hb dX1_waits_23 (by decide) ?_
        exact W.zret (v := 0) (ty := .boolean) hx hb hr rfl (fun t ht hW => ⟨⟨0, (M, N, C, R, G, E, F, T, pc, ph, rd, th, lm, sh, tm, sn), rfl, ⟨Or.inr ⟨rfl, fun h => h.2 c_3⟩, rfl⟩, by rw [ht]; exact hP, va_K.moved hW.alike hK, hD⟩, hS.F ht⟩) hS.2.2 dX1_waits_24
      · refine lv_iconst (v := 1) hx hb dX1_waits_19 (by decide) ?_
        refine lv_goto (tgt := 24) hx hb dX1_waits_20 (by decide) ?_
        exact W.zret (v := 1) (ty := .boolean) hx hb hr rfl (fun t ht hW => ⟨⟨1, (M, N, C, R, G, E, F, T, pc, ph, rd, th, lm, sh, tm, sn), rfl, ⟨Or.inl ⟨rfl, ⟨c_1, c_2⟩, c_3⟩, rfl⟩, by rw [ht]; exact hP, va_K.moved hW.alike hK, hD⟩, hS.F ht⟩) hS.2.2 dX1_waits_24
theorem inw_X1_dirty : ∀ w ∈ wsX10, w ∈ wsX1_dirty := fun _ h => List.mem_cons_of_mem _ (List.mem_append_right _ h)
set_option maxHeartbeats 4000000 in
set_option maxRecDepth 100000 in
theorem c_X1_dirty (l : Launch) (dC : Nat → ClassId) (dI : Nat → Nat → Nat) (h0 q1 q2 q3 q4 q5 q6 q7 q8 : Nat) (cA cJ cZ : ClassId) (M N C R : Nat → Int32) (G : Nat → Int64) (E F T : Nat → Int32) (pc ph rd th lm sh : Int32) (tm sn : Int64) (a : Int32) (hF : ∀ j, F j = 0 ∨ F j = 1) (sz : Nat) : Met l yX1_dirty wsX1_dirty ({ frames := 0, cells := 0, slots := 0, locals := 0 }) (va_Pc [.ref h0, .int a] (fun U => U.heap.size = sz ∧ va_P (dC, dI) vwCl (mr_W h0 q1 q2 q3 q4 q5 q6 q7 q8 cA cJ cZ (M, N, C, R, G, E, F, T, pc, ph, rd, th, lm, sh, tm, sn)) U.heap ∧ va_K (dC, dI) vwCl [(cA, .int), (cJ, .long), (cZ, .boolean)] U ∧ va_D (fun _ => True) (mr_W h0 q1 q2 q3 q4 q5 q6 q7 q8 cA cJ cZ (M, N, C, R, G, E, F, T, pc, ph, rd, th, lm, sh, tm, sn)))) (va_Qi (fun (r : Int32) (u : mrS) => ((r = 1 ∧ mr_ip a ∧ mr_dt G F ph sn a) ∨ (r = 0 ∧ ¬ (mr_ip a ∧ mr_dt G F ph sn a))) ∧ u = (M, N, C, R, G, E, F, T, pc, ph, rd, th, lm, sh, tm, sn)) (at_mr dC dI h0 q1 q2 q3 q4 q5 q6 q7 q8 cA cJ cZ (va_A (mr_W h0 q1 q2 q3 q4 q5 q6 q7 q8 cA cJ cZ (M, N, C, R, G, E, F, T, pc, ph, rd, th, lm, sh, tm, sn)) sz)) (va_A (mr_W h0 q1 q2 q3 q4 q5 q6 q7 q8 cA cJ cZ (M, N, C, R, G, E, F, T, pc, ph, rd, th, lm, sh, tm, sn)) sz)) 0 0 (va_A (mr_W h0 q1 q2 q3 q4 q5 q6 q7 q8 cA cJ cZ (M, N, C, R, G, E, F, T, pc, ph, rd, th, lm, sh, tm, sn)) sz) := by
  refine Met.ofW (cc := cX1_dirty) (maxL := 2) (ret := (some .boolean)) (by decide) rfl ?_
  intro p e s m args below meth c s₁ B hml hv
  obtain ⟨rfl, hsz, hP, hK, hD0⟩ := hv
  have hx := B.exec
  have hb := B.bytes
  have hr := B.returns
  have hts := atoms_spec (ws := wsX1_dirty) B.pre
  have hown : s.vm.findClass RX1 = some m.cls := findClass_of_methodNamed B.named
  have hlocks := B.notSynchronized
  subst hsz
  have hD := hD0.self (sz := s.heap.size)
  generalize hAe : va_A (mr_W h0 q1 q2 q3 q4 q5 q6 q7 q8 cA cJ cZ (M, N, C, R, G, E, F, T, pc, ph, rd, th, lm, sh, tm, sn)) s.heap.size = A at hD ⊢
  have hA : ∀ q : Nat, s.heap.size ≤ q → A q := fun q h => by rw [← hAe]; exact Or.inr h
  have hS : va_S A s.heap s.heap [] := va_S.rf
  have hP : va_P (dC, dI) vwCl [(h0, .inr (1, [.ref q1, .ref q2, .ref q3, .ref q4, .ref q5, .ref q6, .ref q7, .ref q8, .int pc, .int ph, .int rd, .int th, .int lm, .int sh, .long tm, .long sn])), (q1, .inl (cA, 64, .inl M)), (q2, .inl (cA, 64, .inl N)), (q3, .inl (cA, 64, .inl C)), (q4, .inl (cA, 4, .inl R)), (q5, .inl (cJ, 8, .inr (.inl G))), (q6, .inl (cZ, 8, .inl E)), (q7, .inl (cZ, 8, .inl F)), (q8, .inl (cA, 8, .inl T))] s.heap := hP
  have hD : va_D A [(h0, .inr (1, [.ref q1, .ref q2, .ref q3, .ref q4, .ref q5, .ref q6, .ref q7, .ref q8, .int pc, .int ph, .int rd, .int th, .int lm, .int sh, .long tm, .long sn])), (q1, .inl (cA, 64, .inl M)), (q2, .inl (cA, 64, .inl N)), (q3, .inl (cA, 64, .inl C)), (q4, .inl (cA, 4, .inl R)), (q5, .inl (cJ, 8, .inr (.inl G))), (q6, .inl (cZ, 8, .inl E)), (q7, .inl (cZ, 8, .inl F)), (q8, .inl (cA, 8, .inl T))] := hD
  have hl := lv_entry ([.ref h0, .int a]) (n := 2) (Nat.le_of_ble_eq_true rfl)
  rw [lg_entry_eq]
  generalize (lg_sl ([.ref h0, .int a]) ++ List.replicate (2 - (lg_sl ([.ref h0, .int a])).length) Slot.unset).toArray = ls at hl ⊢
  have hl : lv_has ls 2 [(0, .ref h0), (1, .int a)] := hl
  refine lv_iload_n hx hb dX1_dirty_0 rfl (lv_at hl 1 rfl) ?_
  refine lv_if_lt (tgt := 17) hx hb dX1_dirty_1 (by decide) (fun c_1 => ?_) (fun c_1 => ?_)
  · refine lv_iconst (v := 0) hx hb dX1_dirty_17 (by decide) ?_
    exact W.zret (v := 0) (ty := .boolean) hx hb hr rfl (fun t ht hW => ⟨⟨0, (M, N, C, R, G, E, F, T, pc, ph, rd, th, lm, sh, tm, sn), rfl, ⟨Or.inr ⟨rfl, fun h => h.1.1 c_1⟩, rfl⟩, by rw [ht]; exact hP, va_K.moved hW.alike hK, hD⟩, hS.F ht⟩) hS.2.2 dX1_dirty_18
  · refine lv_iload_n hx hb dX1_dirty_4 rfl (lv_at hl 1 rfl) ?_
    refine lv_bipush (v := 7) hx hb dX1_dirty_5 (by decide) ?_
    refine lv_icmp_gt (tgt := 17) hx hb dX1_dirty_7 (by decide) (fun c_2 => ?_) (fun c_2 => ?_)
    · refine lv_iconst (v := 0) hx hb dX1_dirty_17 (by decide) ?_
      exact W.zret (v := 0) (ty := .boolean) hx hb hr rfl (fun t ht hW => ⟨⟨0, (M, N, C, R, G, E, F, T, pc, ph, rd, th, lm, sh, tm, sn), rfl, ⟨Or.inr ⟨rfl, fun h => h.1.2 c_2⟩, rfl⟩, by rw [ht]; exact hP, va_K.moved hW.alike hK, hD⟩, hS.F ht⟩) hS.2.2 dX1_dirty_18
    · refine lv_aload_n hx hb dX1_dirty_10 rfl (lv_at hl 0 rfl) ?_
      refine va_get (D := (dC, dI)) (ci := 1) (v := .int ph) (C := RX1) (T := TX1) (N := 16) hx hb hts inw_X1_dirty hown hK hP 0 rfl rfl 9 (by decide) (hts (.fieldLink RX1 36 "MigratorModel" "phase" "I") (by decide +kernel)) (fun _ h9 => h9) rfl dX1_dirty_11 ?_
      refine lv_if_ne (tgt := 19) hx hb dX1_dirty_14 (by decide) (fun c_3 => ?_) (fun c_3 => ?_)
      · refine lv_aload_n hx hb dX1_dirty_19 rfl (lv_at hl 0 rfl) ?_
        refine va_get (D := (dC, dI)) (ci := 1) (v := .int ph) (C := RX1) (T := TX1) (N := 16) hx hb hts inw_X1_dirty hown hK hP 0 rfl rfl 9 (by decide) (hts (.fieldLink RX1 36 "MigratorModel" "phase" "I") (by decide +kernel)) (fun _ h9 => h9) rfl dX1_dirty_20 ?_
        refine lv_iconst (v := 1) hx hb dX1_dirty_23 (by decide) ?_
        refine lv_icmp_ne (tgt := 49) hx hb dX1_dirty_24 (by decide) (fun c_4 => ?_) (fun c_4 => ?_)
        · refine lv_aload_n hx hb dX1_dirty_49 rfl (lv_at hl 0 rfl) ?_
          refine va_get (D := (dC, dI)) (ci := 1) (v := .ref q7) (C := RX1) (T := TX1) (N := 16) hx hb hts inw_X1_dirty hown hK hP 0 rfl rfl 6 (by decide) (hts (.fieldLink RX1 30 "MigratorModel" "left" "[Z") (by decide +kernel)) (fun _ h9 => h9) rfl dX1_dirty_50 ?_
          refine lv_iload_n hx hb dX1_dirty_53 rfl (lv_at hl 1 rfl) ?_
          refine va_zald hx hb hK hP 7 2 rfl rfl (in_le (y := 7) (by decide) c_1 c_2) dX1_dirty_54 ?_
          rcases hF a.toNatClampNeg with hf | hf
          · exact W.zret (v := F a.toNatClampNeg) (ty := .boolean) hx hb hr (by rw [hf]; rfl) (fun t ht hW => ⟨⟨F a.toNatClampNeg, (M, N, C, R, G, E, F, T, pc, ph, rd, th, lm, sh, tm, sn), rfl, ⟨Or.inr ⟨hf, fun h => h.2.elim (fun q => c_4 q.1) (fun q => absurd (hf.symm.trans q.2.2) (by decide))⟩, rfl⟩, by rw [ht]; exact hP, va_K.moved hW.alike hK, hD⟩, hS.F ht⟩) hS.2.2 dX1_dirty_55
          · exact W.zret (v := F a.toNatClampNeg) (ty := .boolean) hx hb hr (by rw [hf]; rfl) (fun t ht hW => ⟨⟨F a.toNatClampNeg, (M, N, C, R, G, E, F, T, pc, ph, rd, th, lm, sh, tm, sn), rfl, ⟨Or.inl ⟨hf, ⟨c_1, c_2⟩, Or.inr ⟨c_3, c_4, hf⟩⟩, rfl⟩, by rw [ht]; exact hP, va_K.moved hW.alike hK, hD⟩, hS.F ht⟩) hS.2.2 dX1_dirty_55
        · refine lv_aload_n hx hb dX1_dirty_27 rfl (lv_at hl 0 rfl) ?_
          refine va_get (D := (dC, dI)) (ci := 1) (v := .ref q5) (C := RX1) (T := TX1) (N := 16) hx hb hts inw_X1_dirty hown hK hP 0 rfl rfl 4 (by decide) (hts (.fieldLink RX1 22 "MigratorModel" "written" "[J") (by decide +kernel)) (fun _ h9 => h9) rfl dX1_dirty_28 ?_
          refine lv_iload_n hx hb dX1_dirty_31 rfl (lv_at hl 1 rfl) ?_
          refine va_lald hx hb hK hP 5 1 rfl rfl (in_le (y := 7) (by decide) c_1 c_2) dX1_dirty_32 ?_
          refine lv_aload_n hx hb dX1_dirty_33 rfl (lv_at hl 0 rfl) ?_
          refine va_get (D := (dC, dI)) (ci := 1) (v := .long sn) (C := RX1) (T := TX1) (N := 16) hx hb hts inw_X1_dirty hown hK hP 0 rfl rfl 15 (by decide) (hts (.fieldLink RX1 53 "MigratorModel" "since" "J") (by decide +kernel)) (fun _ h9 => h9) rfl dX1_dirty_34 ?_
          refine W.lcmp hx hb dX1_dirty_37 ?_
          refine lv_if_le (tgt := 45) hx hb dX1_dirty_38 (by decide) (fun c_5 => ?_) (fun c_5 => ?_)
          · refine lv_iconst (v := 0) hx hb dX1_dirty_45 (by decide) ?_
            refine lv_goto (tgt := 55) hx hb dX1_dirty_46 (by decide) ?_
            exact W.zret (v := 0) (ty := .boolean) hx hb hr rfl (fun t ht hW => ⟨⟨0, (M, N, C, R, G, E, F, T, pc, ph, rd, th, lm, sh, tm, sn), rfl, ⟨Or.inr ⟨rfl, fun h => h.2.elim (fun q => absurd q.2 (Int64.not_lt.mpr ((lg_cmp_le _ _).mp c_5))) (fun q => q.2.1 c_4)⟩, rfl⟩, by rw [ht]; exact hP, va_K.moved hW.alike hK, hD⟩, hS.F ht⟩) hS.2.2 dX1_dirty_55
          · refine lv_iconst (v := 1) hx hb dX1_dirty_41 (by decide) ?_
            refine lv_goto (tgt := 55) hx hb dX1_dirty_42 (by decide) ?_
            exact W.zret (v := 1) (ty := .boolean) hx hb hr rfl (fun t ht hW => ⟨⟨1, (M, N, C, R, G, E, F, T, pc, ph, rd, th, lm, sh, tm, sn), rfl, ⟨Or.inl ⟨rfl, ⟨c_1, c_2⟩, Or.inl ⟨c_4, Int64.not_le.mp (fun q => c_5 ((lg_cmp_le _ _).mpr q))⟩⟩, rfl⟩, by rw [ht]; exact hP, va_K.moved hW.alike hK, hD⟩, hS.F ht⟩) hS.2.2 dX1_dirty_55
      · refine lv_iconst (v := 0) hx hb dX1_dirty_17 (by decide) ?_
        exact W.zret (v := 0) (ty := .boolean) hx hb hr rfl (fun t ht hW => ⟨⟨0, (M, N, C, R, G, E, F, T, pc, ph, rd, th, lm, sh, tm, sn), rfl, ⟨Or.inr ⟨rfl, fun h => h.2.elim (fun q => absurd (q.1.symm.trans c_3) (by decide)) (fun q => q.1 c_3)⟩, rfl⟩, by rw [ht]; exact hP, va_K.moved hW.alike hK, hD⟩, hS.F ht⟩) hS.2.2 dX1_dirty_18
theorem inw_X1_source : ∀ w ∈ wsX10, w ∈ wsX1_source := fun _ h => List.mem_cons_of_mem _ (List.mem_append_right _ h)
set_option maxHeartbeats 4000000 in
set_option maxRecDepth 100000 in
theorem c_X1_source (l : Launch) (dC : Nat → ClassId) (dI : Nat → Nat → Nat) (h0 q1 q2 q3 q4 q5 q6 q7 q8 : Nat) (cA cJ cZ : ClassId) (M N C R : Nat → Int32) (G : Nat → Int64) (E F T : Nat → Int32) (pc ph rd th lm sh : Int32) (tm sn : Int64) (a : Int32) (sz : Nat) : Met l yX1_source wsX1_source ({ frames := 0, cells := 0, slots := 0, locals := 0 }) (va_Pc [.ref h0, .int a] (fun U => U.heap.size = sz ∧ va_P (dC, dI) vwCl (mr_W h0 q1 q2 q3 q4 q5 q6 q7 q8 cA cJ cZ (M, N, C, R, G, E, F, T, pc, ph, rd, th, lm, sh, tm, sn)) U.heap ∧ va_K (dC, dI) vwCl [(cA, .int), (cJ, .long), (cZ, .boolean)] U ∧ va_D (fun _ => True) (mr_W h0 q1 q2 q3 q4 q5 q6 q7 q8 cA cJ cZ (M, N, C, R, G, E, F, T, pc, ph, rd, th, lm, sh, tm, sn)))) (va_Qi (fun (r : Int32) (u : mrS) => ((mr_ia a ∧ r = if ph = 3 then N a.toNatClampNeg else M a.toNatClampNeg) ∨ (r = 0 ∧ ¬ mr_ia a)) ∧ u = (M, N, C, R, G, E, F, T, pc, ph, rd, th, lm, sh, tm, sn)) (at_mr dC dI h0 q1 q2 q3 q4 q5 q6 q7 q8 cA cJ cZ (va_A (mr_W h0 q1 q2 q3 q4 q5 q6 q7 q8 cA cJ cZ (M, N, C, R, G, E, F, T, pc, ph, rd, th, lm, sh, tm, sn)) sz)) (va_A (mr_W h0 q1 q2 q3 q4 q5 q6 q7 q8 cA cJ cZ (M, N, C, R, G, E, F, T, pc, ph, rd, th, lm, sh, tm, sn)) sz)) 0 0 (va_A (mr_W h0 q1 q2 q3 q4 q5 q6 q7 q8 cA cJ cZ (M, N, C, R, G, E, F, T, pc, ph, rd, th, lm, sh, tm, sn)) sz) := by
  refine Met.ofW (cc := cX1_source) (maxL := 2) (ret := (some .int)) (by decide) rfl ?_
  intro p e s m args below meth c s₁ B hml hv
  obtain ⟨rfl, hsz, hP, hK, hD0⟩ := hv
  have hx := B.exec
  have hb := B.bytes
  have hr := B.returns
  have hts := atoms_spec (ws := wsX1_source) B.pre
  have hown : s.vm.findClass RX1 = some m.cls := findClass_of_methodNamed B.named
  have hlocks := B.notSynchronized
  subst hsz
  have hD := hD0.self (sz := s.heap.size)
  generalize hAe : va_A (mr_W h0 q1 q2 q3 q4 q5 q6 q7 q8 cA cJ cZ (M, N, C, R, G, E, F, T, pc, ph, rd, th, lm, sh, tm, sn)) s.heap.size = A at hD ⊢
  have hA : ∀ q : Nat, s.heap.size ≤ q → A q := fun q h => by rw [← hAe]; exact Or.inr h
  have hS : va_S A s.heap s.heap [] := va_S.rf
  have hP : va_P (dC, dI) vwCl [(h0, .inr (1, [.ref q1, .ref q2, .ref q3, .ref q4, .ref q5, .ref q6, .ref q7, .ref q8, .int pc, .int ph, .int rd, .int th, .int lm, .int sh, .long tm, .long sn])), (q1, .inl (cA, 64, .inl M)), (q2, .inl (cA, 64, .inl N)), (q3, .inl (cA, 64, .inl C)), (q4, .inl (cA, 4, .inl R)), (q5, .inl (cJ, 8, .inr (.inl G))), (q6, .inl (cZ, 8, .inl E)), (q7, .inl (cZ, 8, .inl F)), (q8, .inl (cA, 8, .inl T))] s.heap := hP
  have hD : va_D A [(h0, .inr (1, [.ref q1, .ref q2, .ref q3, .ref q4, .ref q5, .ref q6, .ref q7, .ref q8, .int pc, .int ph, .int rd, .int th, .int lm, .int sh, .long tm, .long sn])), (q1, .inl (cA, 64, .inl M)), (q2, .inl (cA, 64, .inl N)), (q3, .inl (cA, 64, .inl C)), (q4, .inl (cA, 4, .inl R)), (q5, .inl (cJ, 8, .inr (.inl G))), (q6, .inl (cZ, 8, .inl E)), (q7, .inl (cZ, 8, .inl F)), (q8, .inl (cA, 8, .inl T))] := hD
  have hl := lv_entry ([.ref h0, .int a]) (n := 2) (Nat.le_of_ble_eq_true rfl)
  rw [lg_entry_eq]
  generalize (lg_sl ([.ref h0, .int a]) ++ List.replicate (2 - (lg_sl ([.ref h0, .int a])).length) Slot.unset).toArray = ls at hl ⊢
  have hl : lv_has ls 2 [(0, .ref h0), (1, .int a)] := hl
  refine lv_iload_n hx hb dX1_source_0 rfl (lv_at hl 1 rfl) ?_
  refine lv_if_lt (tgt := 10) hx hb dX1_source_1 (by decide) (fun c_1 => ?_) (fun c_1 => ?_)
  · refine lv_iconst (v := 0) hx hb dX1_source_10 (by decide) ?_
    exact W.iret (v := 0) hx hb hr (fun t ht hW => ⟨⟨0, (M, N, C, R, G, E, F, T, pc, ph, rd, th, lm, sh, tm, sn), rfl, ⟨Or.inr ⟨rfl, fun h => h.1 c_1⟩, rfl⟩, by rw [ht]; exact hP, va_K.moved hW.alike hK, hD⟩, hS.F ht⟩) hS.2.2 dX1_source_11
  · refine lv_iload_n hx hb dX1_source_4 rfl (lv_at hl 1 rfl) ?_
    refine lv_bipush (v := 63) hx hb dX1_source_5 (by decide) ?_
    refine lv_icmp_le (tgt := 12) hx hb dX1_source_7 (by decide) (fun c_2 => ?_) (fun c_2 => ?_)
    · refine lv_aload_n hx hb dX1_source_12 rfl (lv_at hl 0 rfl) ?_
      refine va_get (D := (dC, dI)) (ci := 1) (v := .int ph) (C := RX1) (T := TX1) (N := 16) hx hb hts inw_X1_source hown hK hP 0 rfl rfl 9 (by decide) (hts (.fieldLink RX1 36 "MigratorModel" "phase" "I") (by decide +kernel)) (fun _ h9 => h9) rfl dX1_source_13 ?_
      refine lv_iconst (v := 3) hx hb dX1_source_16 (by decide) ?_
      refine lv_icmp_ne (tgt := 29) hx hb dX1_source_17 (by decide) (fun c_3 => ?_) (fun c_3 => ?_)
      · refine lv_aload_n hx hb dX1_source_29 rfl (lv_at hl 0 rfl) ?_
        refine va_get (D := (dC, dI)) (ci := 1) (v := .ref q1) (C := RX1) (T := TX1) (N := 16) hx hb hts inw_X1_source hown hK hP 0 rfl rfl 0 (by decide) (hts (.fieldLink RX1 7 "MigratorModel" "real" "[I") (by decide +kernel)) (fun _ h9 => h9) rfl dX1_source_30 ?_
        refine lv_iload_n hx hb dX1_source_33 rfl (lv_at hl 1 rfl) ?_
        refine va_iald hx hb hK hP 1 0 rfl rfl (in_le (y := 63) (by decide) c_1 (Int32.not_lt.mpr c_2)) dX1_source_34 ?_
        exact W.iret (v := M a.toNatClampNeg) hx hb hr (fun t ht hW => ⟨⟨M a.toNatClampNeg, (M, N, C, R, G, E, F, T, pc, ph, rd, th, lm, sh, tm, sn), rfl, ⟨Or.inl ⟨⟨c_1, (Int32.not_lt.mpr c_2)⟩, (if_neg c_3).symm⟩, rfl⟩, by rw [ht]; exact hP, va_K.moved hW.alike hK, hD⟩, hS.F ht⟩) hS.2.2 dX1_source_35
      · refine lv_aload_n hx hb dX1_source_20 rfl (lv_at hl 0 rfl) ?_
        refine va_get (D := (dC, dI)) (ci := 1) (v := .ref q2) (C := RX1) (T := TX1) (N := 16) hx hb hts inw_X1_source hown hK hP 0 rfl rfl 1 (by decide) (hts (.fieldLink RX1 13 "MigratorModel" "kept" "[I") (by decide +kernel)) (fun _ h9 => h9) rfl dX1_source_21 ?_
        refine lv_iload_n hx hb dX1_source_24 rfl (lv_at hl 1 rfl) ?_
        refine va_iald hx hb hK hP 2 0 rfl rfl (in_le (y := 63) (by decide) c_1 (Int32.not_lt.mpr c_2)) dX1_source_25 ?_
        refine lv_goto (tgt := 35) hx hb dX1_source_26 (by decide) ?_
        exact W.iret (v := N a.toNatClampNeg) hx hb hr (fun t ht hW => ⟨⟨N a.toNatClampNeg, (M, N, C, R, G, E, F, T, pc, ph, rd, th, lm, sh, tm, sn), rfl, ⟨Or.inl ⟨⟨c_1, (Int32.not_lt.mpr c_2)⟩, (if_pos c_3).symm⟩, rfl⟩, by rw [ht]; exact hP, va_K.moved hW.alike hK, hD⟩, hS.F ht⟩) hS.2.2 dX1_source_35
    · refine lv_iconst (v := 0) hx hb dX1_source_10 (by decide) ?_
      exact W.iret (v := 0) hx hb hr (fun t ht hW => ⟨⟨0, (M, N, C, R, G, E, F, T, pc, ph, rd, th, lm, sh, tm, sn), rfl, ⟨Or.inr ⟨rfl, fun h => h.2 (Int32.not_le.mp c_2)⟩, rfl⟩, by rw [ht]; exact hP, va_K.moved hW.alike hK, hD⟩, hS.F ht⟩) hS.2.2 dX1_source_11
theorem inw_X1_destination : ∀ w ∈ wsX10, w ∈ wsX1_destination := fun _ h => List.mem_cons_of_mem _ (List.mem_append_right _ h)
set_option maxHeartbeats 4000000 in
set_option maxRecDepth 100000 in
theorem c_X1_destination (l : Launch) (dC : Nat → ClassId) (dI : Nat → Nat → Nat) (h0 q1 q2 q3 q4 q5 q6 q7 q8 : Nat) (cA cJ cZ : ClassId) (M N C R : Nat → Int32) (G : Nat → Int64) (E F T : Nat → Int32) (pc ph rd th lm sh : Int32) (tm sn : Int64) (a : Int32) (sz : Nat) : Met l yX1_destination wsX1_destination ({ frames := 0, cells := 0, slots := 0, locals := 0 }) (va_Pc [.ref h0, .int a] (fun U => U.heap.size = sz ∧ va_P (dC, dI) vwCl (mr_W h0 q1 q2 q3 q4 q5 q6 q7 q8 cA cJ cZ (M, N, C, R, G, E, F, T, pc, ph, rd, th, lm, sh, tm, sn)) U.heap ∧ va_K (dC, dI) vwCl [(cA, .int), (cJ, .long), (cZ, .boolean)] U ∧ va_D (fun _ => True) (mr_W h0 q1 q2 q3 q4 q5 q6 q7 q8 cA cJ cZ (M, N, C, R, G, E, F, T, pc, ph, rd, th, lm, sh, tm, sn)))) (va_Qi (fun (r : Int32) (u : mrS) => ((mr_ia a ∧ r = if ph = 3 then M a.toNatClampNeg else C a.toNatClampNeg) ∨ (r = 0 ∧ ¬ mr_ia a)) ∧ u = (M, N, C, R, G, E, F, T, pc, ph, rd, th, lm, sh, tm, sn)) (at_mr dC dI h0 q1 q2 q3 q4 q5 q6 q7 q8 cA cJ cZ (va_A (mr_W h0 q1 q2 q3 q4 q5 q6 q7 q8 cA cJ cZ (M, N, C, R, G, E, F, T, pc, ph, rd, th, lm, sh, tm, sn)) sz)) (va_A (mr_W h0 q1 q2 q3 q4 q5 q6 q7 q8 cA cJ cZ (M, N, C, R, G, E, F, T, pc, ph, rd, th, lm, sh, tm, sn)) sz)) 0 0 (va_A (mr_W h0 q1 q2 q3 q4 q5 q6 q7 q8 cA cJ cZ (M, N, C, R, G, E, F, T, pc, ph, rd, th, lm, sh, tm, sn)) sz) := by
  refine Met.ofW (cc := cX1_destination) (maxL := 2) (ret := (some .int)) (by decide) rfl ?_
  intro p e s m args below meth c s₁ B hml hv
  obtain ⟨rfl, hsz, hP, hK, hD0⟩ := hv
  have hx := B.exec
  have hb := B.bytes
  have hr := B.returns
  have hts := atoms_spec (ws := wsX1_destination) B.pre
  have hown : s.vm.findClass RX1 = some m.cls := findClass_of_methodNamed B.named
  have hlocks := B.notSynchronized
  subst hsz
  have hD := hD0.self (sz := s.heap.size)
  generalize hAe : va_A (mr_W h0 q1 q2 q3 q4 q5 q6 q7 q8 cA cJ cZ (M, N, C, R, G, E, F, T, pc, ph, rd, th, lm, sh, tm, sn)) s.heap.size = A at hD ⊢
  have hA : ∀ q : Nat, s.heap.size ≤ q → A q := fun q h => by rw [← hAe]; exact Or.inr h
  have hS : va_S A s.heap s.heap [] := va_S.rf
  have hP : va_P (dC, dI) vwCl [(h0, .inr (1, [.ref q1, .ref q2, .ref q3, .ref q4, .ref q5, .ref q6, .ref q7, .ref q8, .int pc, .int ph, .int rd, .int th, .int lm, .int sh, .long tm, .long sn])), (q1, .inl (cA, 64, .inl M)), (q2, .inl (cA, 64, .inl N)), (q3, .inl (cA, 64, .inl C)), (q4, .inl (cA, 4, .inl R)), (q5, .inl (cJ, 8, .inr (.inl G))), (q6, .inl (cZ, 8, .inl E)), (q7, .inl (cZ, 8, .inl F)), (q8, .inl (cA, 8, .inl T))] s.heap := hP
  have hD : va_D A [(h0, .inr (1, [.ref q1, .ref q2, .ref q3, .ref q4, .ref q5, .ref q6, .ref q7, .ref q8, .int pc, .int ph, .int rd, .int th, .int lm, .int sh, .long tm, .long sn])), (q1, .inl (cA, 64, .inl M)), (q2, .inl (cA, 64, .inl N)), (q3, .inl (cA, 64, .inl C)), (q4, .inl (cA, 4, .inl R)), (q5, .inl (cJ, 8, .inr (.inl G))), (q6, .inl (cZ, 8, .inl E)), (q7, .inl (cZ, 8, .inl F)), (q8, .inl (cA, 8, .inl T))] := hD
  have hl := lv_entry ([.ref h0, .int a]) (n := 2) (Nat.le_of_ble_eq_true rfl)
  rw [lg_entry_eq]
  generalize (lg_sl ([.ref h0, .int a]) ++ List.replicate (2 - (lg_sl ([.ref h0, .int a])).length) Slot.unset).toArray = ls at hl ⊢
  have hl : lv_has ls 2 [(0, .ref h0), (1, .int a)] := hl
  refine lv_iload_n hx hb dX1_destination_0 rfl (lv_at hl 1 rfl) ?_
  refine lv_if_lt (tgt := 10) hx hb dX1_destination_1 (by decide) (fun c_1 => ?_) (fun c_1 => ?_)
  · refine lv_iconst (v := 0) hx hb dX1_destination_10 (by decide) ?_
    exact W.iret (v := 0) hx hb hr (fun t ht hW => ⟨⟨0, (M, N, C, R, G, E, F, T, pc, ph, rd, th, lm, sh, tm, sn), rfl, ⟨Or.inr ⟨rfl, fun h => h.1 c_1⟩, rfl⟩, by rw [ht]; exact hP, va_K.moved hW.alike hK, hD⟩, hS.F ht⟩) hS.2.2 dX1_destination_11
  · refine lv_iload_n hx hb dX1_destination_4 rfl (lv_at hl 1 rfl) ?_
    refine lv_bipush (v := 63) hx hb dX1_destination_5 (by decide) ?_
    refine lv_icmp_le (tgt := 12) hx hb dX1_destination_7 (by decide) (fun c_2 => ?_) (fun c_2 => ?_)
    · refine lv_aload_n hx hb dX1_destination_12 rfl (lv_at hl 0 rfl) ?_
      refine va_get (D := (dC, dI)) (ci := 1) (v := .int ph) (C := RX1) (T := TX1) (N := 16) hx hb hts inw_X1_destination hown hK hP 0 rfl rfl 9 (by decide) (hts (.fieldLink RX1 36 "MigratorModel" "phase" "I") (by decide +kernel)) (fun _ h9 => h9) rfl dX1_destination_13 ?_
      refine lv_iconst (v := 3) hx hb dX1_destination_16 (by decide) ?_
      refine lv_icmp_ne (tgt := 29) hx hb dX1_destination_17 (by decide) (fun c_3 => ?_) (fun c_3 => ?_)
      · refine lv_aload_n hx hb dX1_destination_29 rfl (lv_at hl 0 rfl) ?_
        refine va_get (D := (dC, dI)) (ci := 1) (v := .ref q3) (C := RX1) (T := TX1) (N := 16) hx hb hts inw_X1_destination hown hK hP 0 rfl rfl 2 (by decide) (hts (.fieldLink RX1 16 "MigratorModel" "copied" "[I") (by decide +kernel)) (fun _ h9 => h9) rfl dX1_destination_30 ?_
        refine lv_iload_n hx hb dX1_destination_33 rfl (lv_at hl 1 rfl) ?_
        refine va_iald hx hb hK hP 3 0 rfl rfl (in_le (y := 63) (by decide) c_1 (Int32.not_lt.mpr c_2)) dX1_destination_34 ?_
        exact W.iret (v := C a.toNatClampNeg) hx hb hr (fun t ht hW => ⟨⟨C a.toNatClampNeg, (M, N, C, R, G, E, F, T, pc, ph, rd, th, lm, sh, tm, sn), rfl, ⟨Or.inl ⟨⟨c_1, (Int32.not_lt.mpr c_2)⟩, (if_neg c_3).symm⟩, rfl⟩, by rw [ht]; exact hP, va_K.moved hW.alike hK, hD⟩, hS.F ht⟩) hS.2.2 dX1_destination_35
      · refine lv_aload_n hx hb dX1_destination_20 rfl (lv_at hl 0 rfl) ?_
        refine va_get (D := (dC, dI)) (ci := 1) (v := .ref q1) (C := RX1) (T := TX1) (N := 16) hx hb hts inw_X1_destination hown hK hP 0 rfl rfl 0 (by decide) (hts (.fieldLink RX1 7 "MigratorModel" "real" "[I") (by decide +kernel)) (fun _ h9 => h9) rfl dX1_destination_21 ?_
        refine lv_iload_n hx hb dX1_destination_24 rfl (lv_at hl 1 rfl) ?_
        refine va_iald hx hb hK hP 1 0 rfl rfl (in_le (y := 63) (by decide) c_1 (Int32.not_lt.mpr c_2)) dX1_destination_25 ?_
        refine lv_goto (tgt := 35) hx hb dX1_destination_26 (by decide) ?_
        exact W.iret (v := M a.toNatClampNeg) hx hb hr (fun t ht hW => ⟨⟨M a.toNatClampNeg, (M, N, C, R, G, E, F, T, pc, ph, rd, th, lm, sh, tm, sn), rfl, ⟨Or.inl ⟨⟨c_1, (Int32.not_lt.mpr c_2)⟩, (if_pos c_3).symm⟩, rfl⟩, by rw [ht]; exact hP, va_K.moved hW.alike hK, hD⟩, hS.F ht⟩) hS.2.2 dX1_destination_35
    · refine lv_iconst (v := 0) hx hb dX1_destination_10 (by decide) ?_
      exact W.iret (v := 0) hx hb hr (fun t ht hW => ⟨⟨0, (M, N, C, R, G, E, F, T, pc, ph, rd, th, lm, sh, tm, sn), rfl, ⟨Or.inr ⟨rfl, fun h => h.2 (Int32.not_le.mp c_2)⟩, rfl⟩, by rw [ht]; exact hP, va_K.moved hW.alike hK, hD⟩, hS.F ht⟩) hS.2.2 dX1_destination_11
theorem inw_X1_register : ∀ w ∈ wsX10, w ∈ wsX1_register := fun _ h => List.mem_cons_of_mem _ (List.mem_append_right _ h)
set_option maxHeartbeats 4000000 in
set_option maxRecDepth 100000 in
theorem c_X1_register (l : Launch) (dC : Nat → ClassId) (dI : Nat → Nat → Nat) (h0 q1 q2 q3 q4 q5 q6 q7 q8 : Nat) (cA cJ cZ : ClassId) (M N C R : Nat → Int32) (G : Nat → Int64) (E F T : Nat → Int32) (pc ph rd th lm sh : Int32) (tm sn : Int64) (a : Int32) (sz : Nat) : Met l yX1_register wsX1_register ({ frames := 0, cells := 0, slots := 0, locals := 0 }) (va_Pc [.ref h0, .int a] (fun U => U.heap.size = sz ∧ va_P (dC, dI) vwCl (mr_W h0 q1 q2 q3 q4 q5 q6 q7 q8 cA cJ cZ (M, N, C, R, G, E, F, T, pc, ph, rd, th, lm, sh, tm, sn)) U.heap ∧ va_K (dC, dI) vwCl [(cA, .int), (cJ, .long), (cZ, .boolean)] U ∧ va_D (fun _ => True) (mr_W h0 q1 q2 q3 q4 q5 q6 q7 q8 cA cJ cZ (M, N, C, R, G, E, F, T, pc, ph, rd, th, lm, sh, tm, sn)))) (va_Qi (fun (r : Int32) (u : mrS) => ((¬ a < 0 ∧ ¬ 3 < a ∧ r = R a.toNatClampNeg) ∨ (r = 0 ∧ (a < 0 ∨ 3 < a))) ∧ u = (M, N, C, R, G, E, F, T, pc, ph, rd, th, lm, sh, tm, sn)) (at_mr dC dI h0 q1 q2 q3 q4 q5 q6 q7 q8 cA cJ cZ (va_A (mr_W h0 q1 q2 q3 q4 q5 q6 q7 q8 cA cJ cZ (M, N, C, R, G, E, F, T, pc, ph, rd, th, lm, sh, tm, sn)) sz)) (va_A (mr_W h0 q1 q2 q3 q4 q5 q6 q7 q8 cA cJ cZ (M, N, C, R, G, E, F, T, pc, ph, rd, th, lm, sh, tm, sn)) sz)) 0 0 (va_A (mr_W h0 q1 q2 q3 q4 q5 q6 q7 q8 cA cJ cZ (M, N, C, R, G, E, F, T, pc, ph, rd, th, lm, sh, tm, sn)) sz) := by
  refine Met.ofW (cc := cX1_register) (maxL := 2) (ret := (some .int)) (by decide) rfl ?_
  intro p e s m args below meth c s₁ B hml hv
  obtain ⟨rfl, hsz, hP, hK, hD0⟩ := hv
  have hx := B.exec
  have hb := B.bytes
  have hr := B.returns
  have hts := atoms_spec (ws := wsX1_register) B.pre
  have hown : s.vm.findClass RX1 = some m.cls := findClass_of_methodNamed B.named
  have hlocks := B.notSynchronized
  subst hsz
  have hD := hD0.self (sz := s.heap.size)
  generalize hAe : va_A (mr_W h0 q1 q2 q3 q4 q5 q6 q7 q8 cA cJ cZ (M, N, C, R, G, E, F, T, pc, ph, rd, th, lm, sh, tm, sn)) s.heap.size = A at hD ⊢
  have hA : ∀ q : Nat, s.heap.size ≤ q → A q := fun q h => by rw [← hAe]; exact Or.inr h
  have hS : va_S A s.heap s.heap [] := va_S.rf
  have hP : va_P (dC, dI) vwCl [(h0, .inr (1, [.ref q1, .ref q2, .ref q3, .ref q4, .ref q5, .ref q6, .ref q7, .ref q8, .int pc, .int ph, .int rd, .int th, .int lm, .int sh, .long tm, .long sn])), (q1, .inl (cA, 64, .inl M)), (q2, .inl (cA, 64, .inl N)), (q3, .inl (cA, 64, .inl C)), (q4, .inl (cA, 4, .inl R)), (q5, .inl (cJ, 8, .inr (.inl G))), (q6, .inl (cZ, 8, .inl E)), (q7, .inl (cZ, 8, .inl F)), (q8, .inl (cA, 8, .inl T))] s.heap := hP
  have hD : va_D A [(h0, .inr (1, [.ref q1, .ref q2, .ref q3, .ref q4, .ref q5, .ref q6, .ref q7, .ref q8, .int pc, .int ph, .int rd, .int th, .int lm, .int sh, .long tm, .long sn])), (q1, .inl (cA, 64, .inl M)), (q2, .inl (cA, 64, .inl N)), (q3, .inl (cA, 64, .inl C)), (q4, .inl (cA, 4, .inl R)), (q5, .inl (cJ, 8, .inr (.inl G))), (q6, .inl (cZ, 8, .inl E)), (q7, .inl (cZ, 8, .inl F)), (q8, .inl (cA, 8, .inl T))] := hD
  have hl := lv_entry ([.ref h0, .int a]) (n := 2) (Nat.le_of_ble_eq_true rfl)
  rw [lg_entry_eq]
  generalize (lg_sl ([.ref h0, .int a]) ++ List.replicate (2 - (lg_sl ([.ref h0, .int a])).length) Slot.unset).toArray = ls at hl ⊢
  have hl : lv_has ls 2 [(0, .ref h0), (1, .int a)] := hl
  refine lv_iload_n hx hb dX1_register_0 rfl (lv_at hl 1 rfl) ?_
  refine lv_if_lt (tgt := 9) hx hb dX1_register_1 (by decide) (fun c_1 => ?_) (fun c_1 => ?_)
  · refine lv_iconst (v := 0) hx hb dX1_register_9 (by decide) ?_
    refine lv_goto (tgt := 19) hx hb dX1_register_10 (by decide) ?_
    exact W.iret (v := 0) hx hb hr (fun t ht hW => ⟨⟨0, (M, N, C, R, G, E, F, T, pc, ph, rd, th, lm, sh, tm, sn), rfl, ⟨Or.inr ⟨rfl, Or.inl c_1⟩, rfl⟩, by rw [ht]; exact hP, va_K.moved hW.alike hK, hD⟩, hS.F ht⟩) hS.2.2 dX1_register_19
  · refine lv_iload_n hx hb dX1_register_4 rfl (lv_at hl 1 rfl) ?_
    refine lv_iconst (v := 3) hx hb dX1_register_5 (by decide) ?_
    refine lv_icmp_le (tgt := 13) hx hb dX1_register_6 (by decide) (fun c_2 => ?_) (fun c_2 => ?_)
    · refine lv_aload_n hx hb dX1_register_13 rfl (lv_at hl 0 rfl) ?_
      refine va_get (D := (dC, dI)) (ci := 1) (v := .ref q4) (C := RX1) (T := TX1) (N := 16) hx hb hts inw_X1_register hown hK hP 0 rfl rfl 3 (by decide) (hts (.fieldLink RX1 19 "MigratorModel" "reg" "[I") (by decide +kernel)) (fun _ h9 => h9) rfl dX1_register_14 ?_
      refine lv_iload_n hx hb dX1_register_17 rfl (lv_at hl 1 rfl) ?_
      refine va_iald hx hb hK hP 4 0 rfl rfl (in_le (y := 3) (by decide) c_1 (Int32.not_lt.mpr c_2)) dX1_register_18 ?_
      exact W.iret (v := R a.toNatClampNeg) hx hb hr (fun t ht hW => ⟨⟨R a.toNatClampNeg, (M, N, C, R, G, E, F, T, pc, ph, rd, th, lm, sh, tm, sn), rfl, ⟨Or.inl ⟨c_1, (Int32.not_lt.mpr c_2), rfl⟩, rfl⟩, by rw [ht]; exact hP, va_K.moved hW.alike hK, hD⟩, hS.F ht⟩) hS.2.2 dX1_register_19
    · refine lv_iconst (v := 0) hx hb dX1_register_9 (by decide) ?_
      refine lv_goto (tgt := 19) hx hb dX1_register_10 (by decide) ?_
      exact W.iret (v := 0) hx hb hr (fun t ht hW => ⟨⟨0, (M, N, C, R, G, E, F, T, pc, ph, rd, th, lm, sh, tm, sn), rfl, ⟨Or.inr ⟨rfl, Or.inr (Int32.not_le.mp c_2)⟩, rfl⟩, by rw [ht]; exact hP, va_K.moved hW.alike hK, hD⟩, hS.F ht⟩) hS.2.2 dX1_register_19
theorem inw_X1_shown : ∀ w ∈ wsX10, w ∈ wsX1_shown := fun _ h => List.mem_cons_of_mem _ (List.mem_append_right _ h)
set_option maxHeartbeats 4000000 in
set_option maxRecDepth 100000 in
theorem c_X1_shown (l : Launch) (dC : Nat → ClassId) (dI : Nat → Nat → Nat) (h0 q1 q2 q3 q4 q5 q6 q7 q8 : Nat) (cA cJ cZ : ClassId) (M N C R : Nat → Int32) (G : Nat → Int64) (E F T : Nat → Int32) (pc ph rd th lm sh : Int32) (tm sn : Int64) (a : Int32) (sz : Nat) : Met l yX1_shown wsX1_shown ({ frames := 0, cells := 0, slots := 0, locals := 0 }) (va_Pc [.ref h0, .int a] (fun U => U.heap.size = sz ∧ va_P (dC, dI) vwCl (mr_W h0 q1 q2 q3 q4 q5 q6 q7 q8 cA cJ cZ (M, N, C, R, G, E, F, T, pc, ph, rd, th, lm, sh, tm, sn)) U.heap ∧ va_K (dC, dI) vwCl [(cA, .int), (cJ, .long), (cZ, .boolean)] U ∧ va_D (fun _ => True) (mr_W h0 q1 q2 q3 q4 q5 q6 q7 q8 cA cJ cZ (M, N, C, R, G, E, F, T, pc, ph, rd, th, lm, sh, tm, sn)))) (va_Qi (fun (r : Int32) (u : mrS) => ((¬ a < 0 ∧ ¬ 7 < a ∧ ¬ sh ≤ a ∧ r = T a.toNatClampNeg) ∨ (r = 0 ∧ (a < 0 ∨ 7 < a ∨ sh ≤ a))) ∧ u = (M, N, C, R, G, E, F, T, pc, ph, rd, th, lm, sh, tm, sn)) (at_mr dC dI h0 q1 q2 q3 q4 q5 q6 q7 q8 cA cJ cZ (va_A (mr_W h0 q1 q2 q3 q4 q5 q6 q7 q8 cA cJ cZ (M, N, C, R, G, E, F, T, pc, ph, rd, th, lm, sh, tm, sn)) sz)) (va_A (mr_W h0 q1 q2 q3 q4 q5 q6 q7 q8 cA cJ cZ (M, N, C, R, G, E, F, T, pc, ph, rd, th, lm, sh, tm, sn)) sz)) 0 0 (va_A (mr_W h0 q1 q2 q3 q4 q5 q6 q7 q8 cA cJ cZ (M, N, C, R, G, E, F, T, pc, ph, rd, th, lm, sh, tm, sn)) sz) := by
  refine Met.ofW (cc := cX1_shown) (maxL := 2) (ret := (some .int)) (by decide) rfl ?_
  intro p e s m args below meth c s₁ B hml hv
  obtain ⟨rfl, hsz, hP, hK, hD0⟩ := hv
  have hx := B.exec
  have hb := B.bytes
  have hr := B.returns
  have hts := atoms_spec (ws := wsX1_shown) B.pre
  have hown : s.vm.findClass RX1 = some m.cls := findClass_of_methodNamed B.named
  have hlocks := B.notSynchronized
  subst hsz
  have hD := hD0.self (sz := s.heap.size)
  generalize hAe : va_A (mr_W h0 q1 q2 q3 q4 q5 q6 q7 q8 cA cJ cZ (M, N, C, R, G, E, F, T, pc, ph, rd, th, lm, sh, tm, sn)) s.heap.size = A at hD ⊢
  have hA : ∀ q : Nat, s.heap.size ≤ q → A q := fun q h => by rw [← hAe]; exact Or.inr h
  have hS : va_S A s.heap s.heap [] := va_S.rf
  have hP : va_P (dC, dI) vwCl [(h0, .inr (1, [.ref q1, .ref q2, .ref q3, .ref q4, .ref q5, .ref q6, .ref q7, .ref q8, .int pc, .int ph, .int rd, .int th, .int lm, .int sh, .long tm, .long sn])), (q1, .inl (cA, 64, .inl M)), (q2, .inl (cA, 64, .inl N)), (q3, .inl (cA, 64, .inl C)), (q4, .inl (cA, 4, .inl R)), (q5, .inl (cJ, 8, .inr (.inl G))), (q6, .inl (cZ, 8, .inl E)), (q7, .inl (cZ, 8, .inl F)), (q8, .inl (cA, 8, .inl T))] s.heap := hP
  have hD : va_D A [(h0, .inr (1, [.ref q1, .ref q2, .ref q3, .ref q4, .ref q5, .ref q6, .ref q7, .ref q8, .int pc, .int ph, .int rd, .int th, .int lm, .int sh, .long tm, .long sn])), (q1, .inl (cA, 64, .inl M)), (q2, .inl (cA, 64, .inl N)), (q3, .inl (cA, 64, .inl C)), (q4, .inl (cA, 4, .inl R)), (q5, .inl (cJ, 8, .inr (.inl G))), (q6, .inl (cZ, 8, .inl E)), (q7, .inl (cZ, 8, .inl F)), (q8, .inl (cA, 8, .inl T))] := hD
  have hl := lv_entry ([.ref h0, .int a]) (n := 2) (Nat.le_of_ble_eq_true rfl)
  rw [lg_entry_eq]
  generalize (lg_sl ([.ref h0, .int a]) ++ List.replicate (2 - (lg_sl ([.ref h0, .int a])).length) Slot.unset).toArray = ls at hl ⊢
  have hl : lv_has ls 2 [(0, .ref h0), (1, .int a)] := hl
  refine lv_iload_n hx hb dX1_shown_0 rfl (lv_at hl 1 rfl) ?_
  refine lv_if_lt (tgt := 18) hx hb dX1_shown_1 (by decide) (fun c_1 => ?_) (fun c_1 => ?_)
  · refine lv_iconst (v := 0) hx hb dX1_shown_18 (by decide) ?_
    refine lv_goto (tgt := 28) hx hb dX1_shown_19 (by decide) ?_
    exact W.iret (v := 0) hx hb hr (fun t ht hW => ⟨⟨0, (M, N, C, R, G, E, F, T, pc, ph, rd, th, lm, sh, tm, sn), rfl, ⟨Or.inr ⟨rfl, Or.inl c_1⟩, rfl⟩, by rw [ht]; exact hP, va_K.moved hW.alike hK, hD⟩, hS.F ht⟩) hS.2.2 dX1_shown_28
  · refine lv_iload_n hx hb dX1_shown_4 rfl (lv_at hl 1 rfl) ?_
    refine lv_bipush (v := 7) hx hb dX1_shown_5 (by decide) ?_
    refine lv_icmp_gt (tgt := 18) hx hb dX1_shown_7 (by decide) (fun c_2 => ?_) (fun c_2 => ?_)
    · refine lv_iconst (v := 0) hx hb dX1_shown_18 (by decide) ?_
      refine lv_goto (tgt := 28) hx hb dX1_shown_19 (by decide) ?_
      exact W.iret (v := 0) hx hb hr (fun t ht hW => ⟨⟨0, (M, N, C, R, G, E, F, T, pc, ph, rd, th, lm, sh, tm, sn), rfl, ⟨Or.inr ⟨rfl, Or.inr (Or.inl c_2)⟩, rfl⟩, by rw [ht]; exact hP, va_K.moved hW.alike hK, hD⟩, hS.F ht⟩) hS.2.2 dX1_shown_28
    · refine lv_iload_n hx hb dX1_shown_10 rfl (lv_at hl 1 rfl) ?_
      refine lv_aload_n hx hb dX1_shown_11 rfl (lv_at hl 0 rfl) ?_
      refine va_get (D := (dC, dI)) (ci := 1) (v := .int sh) (C := RX1) (T := TX1) (N := 16) hx hb hts inw_X1_shown hown hK hP 0 rfl rfl 13 (by decide) (hts (.fieldLink RX1 59 "MigratorModel" "shows" "I") (by decide +kernel)) (fun _ h9 => h9) rfl dX1_shown_12 ?_
      refine lv_icmp_lt (tgt := 22) hx hb dX1_shown_15 (by decide) (fun c_3 => ?_) (fun c_3 => ?_)
      · refine lv_aload_n hx hb dX1_shown_22 rfl (lv_at hl 0 rfl) ?_
        refine va_get (D := (dC, dI)) (ci := 1) (v := .ref q8) (C := RX1) (T := TX1) (N := 16) hx hb hts inw_X1_shown hown hK hP 0 rfl rfl 7 (by decide) (hts (.fieldLink RX1 33 "MigratorModel" "told" "[I") (by decide +kernel)) (fun _ h9 => h9) rfl dX1_shown_23 ?_
        refine lv_iload_n hx hb dX1_shown_26 rfl (lv_at hl 1 rfl) ?_
        refine va_iald hx hb hK hP 8 0 rfl rfl (in_le (y := 7) (by decide) c_1 c_2) dX1_shown_27 ?_
        exact W.iret (v := T a.toNatClampNeg) hx hb hr (fun t ht hW => ⟨⟨T a.toNatClampNeg, (M, N, C, R, G, E, F, T, pc, ph, rd, th, lm, sh, tm, sn), rfl, ⟨Or.inl ⟨c_1, c_2, Int32.not_le.mpr c_3, rfl⟩, rfl⟩, by rw [ht]; exact hP, va_K.moved hW.alike hK, hD⟩, hS.F ht⟩) hS.2.2 dX1_shown_28
      · refine lv_iconst (v := 0) hx hb dX1_shown_18 (by decide) ?_
        refine lv_goto (tgt := 28) hx hb dX1_shown_19 (by decide) ?_
        exact W.iret (v := 0) hx hb hr (fun t ht hW => ⟨⟨0, (M, N, C, R, G, E, F, T, pc, ph, rd, th, lm, sh, tm, sn), rfl, ⟨Or.inr ⟨rfl, Or.inr (Or.inr (Int32.not_lt.mp c_3))⟩, rfl⟩, by rw [ht]; exact hP, va_K.moved hW.alike hK, hD⟩, hS.F ht⟩) hS.2.2 dX1_shown_28
theorem inw_X1_poke : ∀ w ∈ wsX10, w ∈ wsX1_poke := fun _ h => List.mem_cons_of_mem _ (List.mem_append_right _ h)
set_option maxHeartbeats 4000000 in
set_option maxRecDepth 100000 in
theorem c_X1_poke (l : Launch) (dC : Nat → ClassId) (dI : Nat → Nat → Nat) (h0 q1 q2 q3 q4 q5 q6 q7 q8 : Nat) (cA cJ cZ : ClassId) (M N C R : Nat → Int32) (G : Nat → Int64) (E F T : Nat → Int32) (pc ph rd th lm sh : Int32) (tm sn : Int64) (a v : Int32) (sz : Nat) : Met l yX1_poke wsX1_poke ({ frames := 0, cells := 0, slots := 0, locals := 0 }) (va_Pc [.ref h0, .int a, .int v] (fun U => U.heap.size = sz ∧ va_P (dC, dI) vwCl (mr_W h0 q1 q2 q3 q4 q5 q6 q7 q8 cA cJ cZ (M, N, C, R, G, E, F, T, pc, ph, rd, th, lm, sh, tm, sn)) U.heap ∧ va_K (dC, dI) vwCl [(cA, .int), (cJ, .long), (cZ, .boolean)] U ∧ va_D (fun _ => True) (mr_W h0 q1 q2 q3 q4 q5 q6 q7 q8 cA cJ cZ (M, N, C, R, G, E, F, T, pc, ph, rd, th, lm, sh, tm, sn)))) (va_Qi (fun (r : Int32) (u : mrS) => (r = 1 ∧ (mr_ia a ∧ ph = 0) ∧ u = (upd M a.toNatClampNeg v, N, C, R, G, E, F, T, pc, ph, rd, th, lm, sh, tm, sn)) ∨ (r = 0 ∧ ¬ (mr_ia a ∧ ph = 0) ∧ u = (M, N, C, R, G, E, F, T, pc, ph, rd, th, lm, sh, tm, sn))) (at_mr dC dI h0 q1 q2 q3 q4 q5 q6 q7 q8 cA cJ cZ (va_A (mr_W h0 q1 q2 q3 q4 q5 q6 q7 q8 cA cJ cZ (M, N, C, R, G, E, F, T, pc, ph, rd, th, lm, sh, tm, sn)) sz)) (va_A (mr_W h0 q1 q2 q3 q4 q5 q6 q7 q8 cA cJ cZ (M, N, C, R, G, E, F, T, pc, ph, rd, th, lm, sh, tm, sn)) sz)) 0 0 (va_A (mr_W h0 q1 q2 q3 q4 q5 q6 q7 q8 cA cJ cZ (M, N, C, R, G, E, F, T, pc, ph, rd, th, lm, sh, tm, sn)) sz) := by
  refine Met.ofW (cc := cX1_poke) (maxL := 3) (ret := (some .boolean)) (by decide) rfl ?_
  intro p e s m args below meth c s₁ B hml hv
  obtain ⟨rfl, hsz, hP, hK, hD0⟩ := hv
  have hx := B.exec
  have hb := B.bytes
  have hr := B.returns
  have hts := atoms_spec (ws := wsX1_poke) B.pre
  have hown : s.vm.findClass RX1 = some m.cls := findClass_of_methodNamed B.named
  have hlocks := B.notSynchronized
  subst hsz
  have hD := hD0.self (sz := s.heap.size)
  generalize hAe : va_A (mr_W h0 q1 q2 q3 q4 q5 q6 q7 q8 cA cJ cZ (M, N, C, R, G, E, F, T, pc, ph, rd, th, lm, sh, tm, sn)) s.heap.size = A at hD ⊢
  have hA : ∀ q : Nat, s.heap.size ≤ q → A q := fun q h => by rw [← hAe]; exact Or.inr h
  have hS : va_S A s.heap s.heap [] := va_S.rf
  have hP : va_P (dC, dI) vwCl [(h0, .inr (1, [.ref q1, .ref q2, .ref q3, .ref q4, .ref q5, .ref q6, .ref q7, .ref q8, .int pc, .int ph, .int rd, .int th, .int lm, .int sh, .long tm, .long sn])), (q1, .inl (cA, 64, .inl M)), (q2, .inl (cA, 64, .inl N)), (q3, .inl (cA, 64, .inl C)), (q4, .inl (cA, 4, .inl R)), (q5, .inl (cJ, 8, .inr (.inl G))), (q6, .inl (cZ, 8, .inl E)), (q7, .inl (cZ, 8, .inl F)), (q8, .inl (cA, 8, .inl T))] s.heap := hP
  have hD : va_D A [(h0, .inr (1, [.ref q1, .ref q2, .ref q3, .ref q4, .ref q5, .ref q6, .ref q7, .ref q8, .int pc, .int ph, .int rd, .int th, .int lm, .int sh, .long tm, .long sn])), (q1, .inl (cA, 64, .inl M)), (q2, .inl (cA, 64, .inl N)), (q3, .inl (cA, 64, .inl C)), (q4, .inl (cA, 4, .inl R)), (q5, .inl (cJ, 8, .inr (.inl G))), (q6, .inl (cZ, 8, .inl E)), (q7, .inl (cZ, 8, .inl F)), (q8, .inl (cA, 8, .inl T))] := hD
  have hl := lv_entry ([.ref h0, .int a, .int v]) (n := 3) (Nat.le_of_ble_eq_true rfl)
  rw [lg_entry_eq]
  generalize (lg_sl ([.ref h0, .int a, .int v]) ++ List.replicate (3 - (lg_sl ([.ref h0, .int a, .int v])).length) Slot.unset).toArray = ls at hl ⊢
  have hl : lv_has ls 3 [(0, .ref h0), (1, .int a), (2, .int v)] := hl
  refine lv_iload_n hx hb dX1_poke_0 rfl (lv_at hl 1 rfl) ?_
  refine lv_if_lt (tgt := 17) hx hb dX1_poke_1 (by decide) (fun c_1 => ?_) (fun c_1 => ?_)
  · refine lv_iconst (v := 0) hx hb dX1_poke_17 (by decide) ?_
    exact W.zret (v := 0) (ty := .boolean) hx hb hr rfl (fun t ht hW => ⟨⟨0, (M, N, C, R, G, E, F, T, pc, ph, rd, th, lm, sh, tm, sn), rfl, Or.inr ⟨rfl, fun h => h.1.1 c_1, rfl⟩, by rw [ht]; exact hP, va_K.moved hW.alike hK, hD⟩, hS.F ht⟩) hS.2.2 dX1_poke_18
  · refine lv_iload_n hx hb dX1_poke_4 rfl (lv_at hl 1 rfl) ?_
    refine lv_bipush (v := 63) hx hb dX1_poke_5 (by decide) ?_
    refine lv_icmp_gt (tgt := 17) hx hb dX1_poke_7 (by decide) (fun c_2 => ?_) (fun c_2 => ?_)
    · refine lv_iconst (v := 0) hx hb dX1_poke_17 (by decide) ?_
      exact W.zret (v := 0) (ty := .boolean) hx hb hr rfl (fun t ht hW => ⟨⟨0, (M, N, C, R, G, E, F, T, pc, ph, rd, th, lm, sh, tm, sn), rfl, Or.inr ⟨rfl, fun h => h.1.2 c_2, rfl⟩, by rw [ht]; exact hP, va_K.moved hW.alike hK, hD⟩, hS.F ht⟩) hS.2.2 dX1_poke_18
    · refine lv_aload_n hx hb dX1_poke_10 rfl (lv_at hl 0 rfl) ?_
      refine va_get (D := (dC, dI)) (ci := 1) (v := .int ph) (C := RX1) (T := TX1) (N := 16) hx hb hts inw_X1_poke hown hK hP 0 rfl rfl 9 (by decide) (hts (.fieldLink RX1 36 "MigratorModel" "phase" "I") (by decide +kernel)) (fun _ h9 => h9) rfl dX1_poke_11 ?_
      refine lv_if_eq (tgt := 19) hx hb dX1_poke_14 (by decide) (fun c_3 => ?_) (fun c_3 => ?_)
      · refine lv_aload_n hx hb dX1_poke_19 rfl (lv_at hl 0 rfl) ?_
        refine va_get (D := (dC, dI)) (ci := 1) (v := .ref q1) (C := RX1) (T := TX1) (N := 16) hx hb hts inw_X1_poke hown hK hP 0 rfl rfl 0 (by decide) (hts (.fieldLink RX1 7 "MigratorModel" "real" "[I") (by decide +kernel)) (fun _ h9 => h9) rfl dX1_poke_20 ?_
        refine lv_iload_n hx hb dX1_poke_23 rfl (lv_at hl 1 rfl) ?_
        refine lv_iload_n hx hb dX1_poke_24 rfl (lv_at hl 2 rfl) ?_
        refine va_iast hx hb hK hP hD hS 1 0 rfl rfl (in_le (y := 63) (by decide) c_1 c_2) dX1_poke_25 (fun H locs hP hD hS => ?_)
        have hP : va_P (dC, dI) vwCl [(h0, .inr (1, [.ref q1, .ref q2, .ref q3, .ref q4, .ref q5, .ref q6, .ref q7, .ref q8, .int pc, .int ph, .int rd, .int th, .int lm, .int sh, .long tm, .long sn])), (q1, .inl (cA, 64, .inl (upd M a.toNatClampNeg v))), (q2, .inl (cA, 64, .inl N)), (q3, .inl (cA, 64, .inl C)), (q4, .inl (cA, 4, .inl R)), (q5, .inl (cJ, 8, .inr (.inl G))), (q6, .inl (cZ, 8, .inl E)), (q7, .inl (cZ, 8, .inl F)), (q8, .inl (cA, 8, .inl T))] H := hP
        have hD : va_D A [(h0, .inr (1, [.ref q1, .ref q2, .ref q3, .ref q4, .ref q5, .ref q6, .ref q7, .ref q8, .int pc, .int ph, .int rd, .int th, .int lm, .int sh, .long tm, .long sn])), (q1, .inl (cA, 64, .inl (upd M a.toNatClampNeg v))), (q2, .inl (cA, 64, .inl N)), (q3, .inl (cA, 64, .inl C)), (q4, .inl (cA, 4, .inl R)), (q5, .inl (cJ, 8, .inr (.inl G))), (q6, .inl (cZ, 8, .inl E)), (q7, .inl (cZ, 8, .inl F)), (q8, .inl (cA, 8, .inl T))] := hD
        refine lv_iconst (v := 1) hx hb dX1_poke_26 (by decide) ?_
        exact W.zret (v := 1) (ty := .boolean) hx hb hr rfl (fun t ht hW => ⟨⟨1, (upd M a.toNatClampNeg v, N, C, R, G, E, F, T, pc, ph, rd, th, lm, sh, tm, sn), rfl, Or.inl ⟨rfl, ⟨⟨c_1, c_2⟩, c_3⟩, rfl⟩, by rw [ht]; exact hP, va_K.moved hW.alike hK, hD⟩, hS.F ht⟩) hS.2.2 dX1_poke_27
      · refine lv_iconst (v := 0) hx hb dX1_poke_17 (by decide) ?_
        exact W.zret (v := 0) (ty := .boolean) hx hb hr rfl (fun t ht hW => ⟨⟨0, (M, N, C, R, G, E, F, T, pc, ph, rd, th, lm, sh, tm, sn), rfl, Or.inr ⟨rfl, fun h => c_3 h.2, rfl⟩, by rw [ht]; exact hP, va_K.moved hW.alike hK, hD⟩, hS.F ht⟩) hS.2.2 dX1_poke_18
end
section
theorem inw_X1_begin : ∀ w ∈ wsX10, w ∈ wsX1_begin := fun _ h => List.mem_cons_of_mem _ (List.mem_append_right _ h)
set_option maxHeartbeats 4000000 in
set_option maxRecDepth 100000 in
theorem c_X1_begin (l : Launch) (dC : Nat → ClassId) (dI : Nat → Nat → Nat) (h0 q1 q2 q3 q4 q5 q6 q7 q8 : Nat) (cA cJ cZ : ClassId) (M N C R : Nat → Int32) (G : Nat → Int64) (E F T : Nat → Int32) (pc ph rd th lm sh : Int32) (tm sn : Int64) (a b : Int32) (sz : Nat) : Met l yX1_begin wsX1_begin ({ frames := 0, cells := 0, slots := 0, locals := 0 }) (va_Pc [.ref h0, .int a, .int b] (fun U => U.heap.size = sz ∧ va_P (dC, dI) vwCl (mr_W h0 q1 q2 q3 q4 q5 q6 q7 q8 cA cJ cZ (M, N, C, R, G, E, F, T, pc, ph, rd, th, lm, sh, tm, sn)) U.heap ∧ va_K (dC, dI) vwCl [(cA, .int), (cJ, .long), (cZ, .boolean)] U ∧ va_D (fun _ => True) (mr_W h0 q1 q2 q3 q4 q5 q6 q7 q8 cA cJ cZ (M, N, C, R, G, E, F, T, pc, ph, rd, th, lm, sh, tm, sn)))) (va_Qi (fun (r : Int32) (u : mrS) => (r = 1 ∧ mr_bg ph a b ∧ u = (M, N, C, R, G, mr_en 8 E, F, T, pc, 1, 1, a, b, sh, tm, tm)) ∨ (r = 0 ∧ ¬ mr_bg ph a b ∧ u = (M, N, C, R, G, E, F, T, pc, ph, rd, th, lm, sh, tm, sn))) (at_mr dC dI h0 q1 q2 q3 q4 q5 q6 q7 q8 cA cJ cZ (va_A (mr_W h0 q1 q2 q3 q4 q5 q6 q7 q8 cA cJ cZ (M, N, C, R, G, E, F, T, pc, ph, rd, th, lm, sh, tm, sn)) sz)) (va_A (mr_W h0 q1 q2 q3 q4 q5 q6 q7 q8 cA cJ cZ (M, N, C, R, G, E, F, T, pc, ph, rd, th, lm, sh, tm, sn)) sz)) 0 0 (va_A (mr_W h0 q1 q2 q3 q4 q5 q6 q7 q8 cA cJ cZ (M, N, C, R, G, E, F, T, pc, ph, rd, th, lm, sh, tm, sn)) sz) := by
  refine Met.ofW (cc := cX1_begin) (maxL := 4) (ret := (some .boolean)) (by decide) rfl ?_
  intro p e s m args below meth c s₁ B hml hv
  obtain ⟨rfl, hsz, hP, hK, hD0⟩ := hv
  have hx := B.exec
  have hb := B.bytes
  have hr := B.returns
  have hts := atoms_spec (ws := wsX1_begin) B.pre
  have hown : s.vm.findClass RX1 = some m.cls := findClass_of_methodNamed B.named
  have hlocks := B.notSynchronized
  subst hsz
  have hD := hD0.self (sz := s.heap.size)
  generalize hAe : va_A (mr_W h0 q1 q2 q3 q4 q5 q6 q7 q8 cA cJ cZ (M, N, C, R, G, E, F, T, pc, ph, rd, th, lm, sh, tm, sn)) s.heap.size = A at hD ⊢
  have hA : ∀ q : Nat, s.heap.size ≤ q → A q := fun q h => by rw [← hAe]; exact Or.inr h
  have hS : va_S A s.heap s.heap [] := va_S.rf
  have hP : va_P (dC, dI) vwCl [(h0, .inr (1, [.ref q1, .ref q2, .ref q3, .ref q4, .ref q5, .ref q6, .ref q7, .ref q8, .int pc, .int ph, .int rd, .int th, .int lm, .int sh, .long tm, .long sn])), (q1, .inl (cA, 64, .inl M)), (q2, .inl (cA, 64, .inl N)), (q3, .inl (cA, 64, .inl C)), (q4, .inl (cA, 4, .inl R)), (q5, .inl (cJ, 8, .inr (.inl G))), (q6, .inl (cZ, 8, .inl E)), (q7, .inl (cZ, 8, .inl F)), (q8, .inl (cA, 8, .inl T))] s.heap := hP
  have hD : va_D A [(h0, .inr (1, [.ref q1, .ref q2, .ref q3, .ref q4, .ref q5, .ref q6, .ref q7, .ref q8, .int pc, .int ph, .int rd, .int th, .int lm, .int sh, .long tm, .long sn])), (q1, .inl (cA, 64, .inl M)), (q2, .inl (cA, 64, .inl N)), (q3, .inl (cA, 64, .inl C)), (q4, .inl (cA, 4, .inl R)), (q5, .inl (cJ, 8, .inr (.inl G))), (q6, .inl (cZ, 8, .inl E)), (q7, .inl (cZ, 8, .inl F)), (q8, .inl (cA, 8, .inl T))] := hD
  have hl := lv_entry ([.ref h0, .int a, .int b]) (n := 4) (Nat.le_of_ble_eq_true rfl)
  rw [lg_entry_eq]
  generalize (lg_sl ([.ref h0, .int a, .int b]) ++ List.replicate (4 - (lg_sl ([.ref h0, .int a, .int b])).length) Slot.unset).toArray = ls at hl ⊢
  have hl : lv_has ls 4 [(0, .ref h0), (1, .int a), (2, .int b)] := hl
  refine lv_iload_n hx hb dX1_begin_0 rfl (lv_at hl 1 rfl) ?_
  refine lv_if_lt (tgt := 28) hx hb dX1_begin_1 (by decide) (fun c_1 => ?_) (fun c_1 => ?_)
  · refine lv_iconst (v := 0) hx hb dX1_begin_28 (by decide) ?_
    exact W.zret (v := 0) (ty := .boolean) hx hb hr rfl (fun t ht hW => ⟨⟨0, (M, N, C, R, G, E, F, T, pc, ph, rd, th, lm, sh, tm, sn), rfl, Or.inr ⟨rfl, fun h => h.1 c_1, rfl⟩, by rw [ht]; exact hP, va_K.moved hW.alike hK, hD⟩, hS.F ht⟩) hS.2.2 dX1_begin_29
  · refine lv_iload_n hx hb dX1_begin_4 rfl (lv_at hl 1 rfl) ?_
    refine lv_bipush (v := 8) hx hb dX1_begin_5 (by decide) ?_
    refine lv_icmp_gt (tgt := 28) hx hb dX1_begin_7 (by decide) (fun c_2 => ?_) (fun c_2 => ?_)
    · refine lv_iconst (v := 0) hx hb dX1_begin_28 (by decide) ?_
      exact W.zret (v := 0) (ty := .boolean) hx hb hr rfl (fun t ht hW => ⟨⟨0, (M, N, C, R, G, E, F, T, pc, ph, rd, th, lm, sh, tm, sn), rfl, Or.inr ⟨rfl, fun h => h.2.1 c_2, rfl⟩, by rw [ht]; exact hP, va_K.moved hW.alike hK, hD⟩, hS.F ht⟩) hS.2.2 dX1_begin_29
    · refine lv_iload_n hx hb dX1_begin_10 rfl (lv_at hl 2 rfl) ?_
      refine lv_iconst (v := 1) hx hb dX1_begin_11 (by decide) ?_
      refine lv_icmp_lt (tgt := 28) hx hb dX1_begin_12 (by decide) (fun c_3 => ?_) (fun c_3 => ?_)
      · refine lv_iconst (v := 0) hx hb dX1_begin_28 (by decide) ?_
        exact W.zret (v := 0) (ty := .boolean) hx hb hr rfl (fun t ht hW => ⟨⟨0, (M, N, C, R, G, E, F, T, pc, ph, rd, th, lm, sh, tm, sn), rfl, Or.inr ⟨rfl, fun h => h.2.2.1 c_3, rfl⟩, by rw [ht]; exact hP, va_K.moved hW.alike hK, hD⟩, hS.F ht⟩) hS.2.2 dX1_begin_29
      · refine lv_iload_n hx hb dX1_begin_15 rfl (lv_at hl 2 rfl) ?_
        refine lv_bipush (v := 20) hx hb dX1_begin_16 (by decide) ?_
        refine lv_icmp_gt (tgt := 28) hx hb dX1_begin_18 (by decide) (fun c_4 => ?_) (fun c_4 => ?_)
        · refine lv_iconst (v := 0) hx hb dX1_begin_28 (by decide) ?_
          exact W.zret (v := 0) (ty := .boolean) hx hb hr rfl (fun t ht hW => ⟨⟨0, (M, N, C, R, G, E, F, T, pc, ph, rd, th, lm, sh, tm, sn), rfl, Or.inr ⟨rfl, fun h => h.2.2.2.1 c_4, rfl⟩, by rw [ht]; exact hP, va_K.moved hW.alike hK, hD⟩, hS.F ht⟩) hS.2.2 dX1_begin_29
        · refine lv_aload_n hx hb dX1_begin_21 rfl (lv_at hl 0 rfl) ?_
          refine va_get (D := (dC, dI)) (ci := 1) (v := .int ph) (C := RX1) (T := TX1) (N := 16) hx hb hts inw_X1_begin hown hK hP 0 rfl rfl 9 (by decide) (hts (.fieldLink RX1 36 "MigratorModel" "phase" "I") (by decide +kernel)) (fun _ h9 => h9) rfl dX1_begin_22 ?_
          refine lv_if_eq (tgt := 30) hx hb dX1_begin_25 (by decide) (fun c_5 => ?_) (fun c_5 => ?_)
          · refine lv_aload_n hx hb dX1_begin_30 rfl (lv_at hl 0 rfl) ?_
            refine lv_iload_n hx hb dX1_begin_31 rfl (lv_at hl 1 rfl) ?_
            refine va_put (D := (dC, dI)) (ci := 1) (v := .int a) (ty := .int) (C := RX1) (T := TX1) (N := 16) hx hb hts inw_X1_begin tyX1 tyX1_ok nmX1 hown hK hP hD hS 0 rfl rfl 11 (by decide) (hts (.fieldLink RX1 40 "MigratorModel" "threshold" "I") (by decide +kernel)) (fun _ h9 => h9) rfl (by decide +kernel) rfl rfl (Nat.le_of_ble_eq_true rfl) dX1_begin_32 (fun H locs hP hD hS => ?_)
            have hP : va_P (dC, dI) vwCl [(h0, .inr (1, [.ref q1, .ref q2, .ref q3, .ref q4, .ref q5, .ref q6, .ref q7, .ref q8, .int pc, .int ph, .int rd, .int a, .int lm, .int sh, .long tm, .long sn])), (q1, .inl (cA, 64, .inl M)), (q2, .inl (cA, 64, .inl N)), (q3, .inl (cA, 64, .inl C)), (q4, .inl (cA, 4, .inl R)), (q5, .inl (cJ, 8, .inr (.inl G))), (q6, .inl (cZ, 8, .inl E)), (q7, .inl (cZ, 8, .inl F)), (q8, .inl (cA, 8, .inl T))] H := hP
            have hD : va_D A [(h0, .inr (1, [.ref q1, .ref q2, .ref q3, .ref q4, .ref q5, .ref q6, .ref q7, .ref q8, .int pc, .int ph, .int rd, .int a, .int lm, .int sh, .long tm, .long sn])), (q1, .inl (cA, 64, .inl M)), (q2, .inl (cA, 64, .inl N)), (q3, .inl (cA, 64, .inl C)), (q4, .inl (cA, 4, .inl R)), (q5, .inl (cJ, 8, .inr (.inl G))), (q6, .inl (cZ, 8, .inl E)), (q7, .inl (cZ, 8, .inl F)), (q8, .inl (cA, 8, .inl T))] := hD
            refine lv_aload_n hx hb dX1_begin_35 rfl (lv_at hl 0 rfl) ?_
            refine lv_iload_n hx hb dX1_begin_36 rfl (lv_at hl 2 rfl) ?_
            refine va_put (D := (dC, dI)) (ci := 1) (v := .int b) (ty := .int) (C := RX1) (T := TX1) (N := 16) hx hb hts inw_X1_begin tyX1 tyX1_ok nmX1 hown hK hP hD hS 0 rfl rfl 12 (by decide) (hts (.fieldLink RX1 43 "MigratorModel" "limit" "I") (by decide +kernel)) (fun _ h9 => h9) rfl (by decide +kernel) rfl rfl (Nat.le_of_ble_eq_true rfl) dX1_begin_37 (fun H locs hP hD hS => ?_)
            have hP : va_P (dC, dI) vwCl [(h0, .inr (1, [.ref q1, .ref q2, .ref q3, .ref q4, .ref q5, .ref q6, .ref q7, .ref q8, .int pc, .int ph, .int rd, .int a, .int b, .int sh, .long tm, .long sn])), (q1, .inl (cA, 64, .inl M)), (q2, .inl (cA, 64, .inl N)), (q3, .inl (cA, 64, .inl C)), (q4, .inl (cA, 4, .inl R)), (q5, .inl (cJ, 8, .inr (.inl G))), (q6, .inl (cZ, 8, .inl E)), (q7, .inl (cZ, 8, .inl F)), (q8, .inl (cA, 8, .inl T))] H := hP
            have hD : va_D A [(h0, .inr (1, [.ref q1, .ref q2, .ref q3, .ref q4, .ref q5, .ref q6, .ref q7, .ref q8, .int pc, .int ph, .int rd, .int a, .int b, .int sh, .long tm, .long sn])), (q1, .inl (cA, 64, .inl M)), (q2, .inl (cA, 64, .inl N)), (q3, .inl (cA, 64, .inl C)), (q4, .inl (cA, 4, .inl R)), (q5, .inl (cJ, 8, .inr (.inl G))), (q6, .inl (cZ, 8, .inl E)), (q7, .inl (cZ, 8, .inl F)), (q8, .inl (cA, 8, .inl T))] := hD
            refine lv_aload_n hx hb dX1_begin_40 rfl (lv_at hl 0 rfl) ?_
            refine lv_iconst (v := 1) hx hb dX1_begin_41 (by decide) ?_
            refine va_put (D := (dC, dI)) (ci := 1) (v := .int 1) (ty := .int) (C := RX1) (T := TX1) (N := 16) hx hb hts inw_X1_begin tyX1 tyX1_ok nmX1 hown hK hP hD hS 0 rfl rfl 9 (by decide) (hts (.fieldLink RX1 36 "MigratorModel" "phase" "I") (by decide +kernel)) (fun _ h9 => h9) rfl (by decide +kernel) rfl rfl (Nat.le_of_ble_eq_true rfl) dX1_begin_42 (fun H locs hP hD hS => ?_)
            have hP : va_P (dC, dI) vwCl [(h0, .inr (1, [.ref q1, .ref q2, .ref q3, .ref q4, .ref q5, .ref q6, .ref q7, .ref q8, .int pc, .int 1, .int rd, .int a, .int b, .int sh, .long tm, .long sn])), (q1, .inl (cA, 64, .inl M)), (q2, .inl (cA, 64, .inl N)), (q3, .inl (cA, 64, .inl C)), (q4, .inl (cA, 4, .inl R)), (q5, .inl (cJ, 8, .inr (.inl G))), (q6, .inl (cZ, 8, .inl E)), (q7, .inl (cZ, 8, .inl F)), (q8, .inl (cA, 8, .inl T))] H := hP
            have hD : va_D A [(h0, .inr (1, [.ref q1, .ref q2, .ref q3, .ref q4, .ref q5, .ref q6, .ref q7, .ref q8, .int pc, .int 1, .int rd, .int a, .int b, .int sh, .long tm, .long sn])), (q1, .inl (cA, 64, .inl M)), (q2, .inl (cA, 64, .inl N)), (q3, .inl (cA, 64, .inl C)), (q4, .inl (cA, 4, .inl R)), (q5, .inl (cJ, 8, .inr (.inl G))), (q6, .inl (cZ, 8, .inl E)), (q7, .inl (cZ, 8, .inl F)), (q8, .inl (cA, 8, .inl T))] := hD
            refine lv_aload_n hx hb dX1_begin_45 rfl (lv_at hl 0 rfl) ?_
            refine lv_iconst (v := 1) hx hb dX1_begin_46 (by decide) ?_
            refine va_put (D := (dC, dI)) (ci := 1) (v := .int 1) (ty := .int) (C := RX1) (T := TX1) (N := 16) hx hb hts inw_X1_begin tyX1 tyX1_ok nmX1 hown hK hP hD hS 0 rfl rfl 10 (by decide) (hts (.fieldLink RX1 46 "MigratorModel" "round" "I") (by decide +kernel)) (fun _ h9 => h9) rfl (by decide +kernel) rfl rfl (Nat.le_of_ble_eq_true rfl) dX1_begin_47 (fun H locs hP hD hS => ?_)
            have hP : va_P (dC, dI) vwCl [(h0, .inr (1, [.ref q1, .ref q2, .ref q3, .ref q4, .ref q5, .ref q6, .ref q7, .ref q8, .int pc, .int 1, .int 1, .int a, .int b, .int sh, .long tm, .long sn])), (q1, .inl (cA, 64, .inl M)), (q2, .inl (cA, 64, .inl N)), (q3, .inl (cA, 64, .inl C)), (q4, .inl (cA, 4, .inl R)), (q5, .inl (cJ, 8, .inr (.inl G))), (q6, .inl (cZ, 8, .inl E)), (q7, .inl (cZ, 8, .inl F)), (q8, .inl (cA, 8, .inl T))] H := hP
            have hD : va_D A [(h0, .inr (1, [.ref q1, .ref q2, .ref q3, .ref q4, .ref q5, .ref q6, .ref q7, .ref q8, .int pc, .int 1, .int 1, .int a, .int b, .int sh, .long tm, .long sn])), (q1, .inl (cA, 64, .inl M)), (q2, .inl (cA, 64, .inl N)), (q3, .inl (cA, 64, .inl C)), (q4, .inl (cA, 4, .inl R)), (q5, .inl (cJ, 8, .inr (.inl G))), (q6, .inl (cZ, 8, .inl E)), (q7, .inl (cZ, 8, .inl F)), (q8, .inl (cA, 8, .inl T))] := hD
            refine lv_aload_n hx hb dX1_begin_50 rfl (lv_at hl 0 rfl) ?_
            refine lv_aload_n hx hb dX1_begin_51 rfl (lv_at hl 0 rfl) ?_
            refine va_get (D := (dC, dI)) (ci := 1) (v := .long tm) (C := RX1) (T := TX1) (N := 16) hx hb hts inw_X1_begin hown hK hP 0 rfl rfl 14 (by decide) (hts (.fieldLink RX1 49 "MigratorModel" "time" "J") (by decide +kernel)) (fun _ h9 => h9) rfl dX1_begin_52 ?_
            refine va_put (D := (dC, dI)) (ci := 1) (v := .long tm) (ty := .long) (C := RX1) (T := TX1) (N := 16) hx hb hts inw_X1_begin tyX1 tyX1_ok nmX1 hown hK hP hD hS 0 rfl rfl 15 (by decide) (hts (.fieldLink RX1 53 "MigratorModel" "since" "J") (by decide +kernel)) (fun _ h9 => h9) rfl (by decide +kernel) rfl rfl (Nat.le_of_ble_eq_true rfl) dX1_begin_55 (fun H locs hP hD hS => ?_)
            have hP : va_P (dC, dI) vwCl [(h0, .inr (1, [.ref q1, .ref q2, .ref q3, .ref q4, .ref q5, .ref q6, .ref q7, .ref q8, .int pc, .int 1, .int 1, .int a, .int b, .int sh, .long tm, .long tm])), (q1, .inl (cA, 64, .inl M)), (q2, .inl (cA, 64, .inl N)), (q3, .inl (cA, 64, .inl C)), (q4, .inl (cA, 4, .inl R)), (q5, .inl (cJ, 8, .inr (.inl G))), (q6, .inl (cZ, 8, .inl E)), (q7, .inl (cZ, 8, .inl F)), (q8, .inl (cA, 8, .inl T))] H := hP
            have hD : va_D A [(h0, .inr (1, [.ref q1, .ref q2, .ref q3, .ref q4, .ref q5, .ref q6, .ref q7, .ref q8, .int pc, .int 1, .int 1, .int a, .int b, .int sh, .long tm, .long tm])), (q1, .inl (cA, 64, .inl M)), (q2, .inl (cA, 64, .inl N)), (q3, .inl (cA, 64, .inl C)), (q4, .inl (cA, 4, .inl R)), (q5, .inl (cJ, 8, .inr (.inl G))), (q6, .inl (cZ, 8, .inl E)), (q7, .inl (cZ, 8, .inl F)), (q8, .inl (cA, 8, .inl T))] := hD
            refine lv_iconst (v := 0) hx hb dX1_begin_58 (by decide) ?_
            refine lv_istore_n (lv' := [(3, .int 0), (0, .ref h0), (1, .int a), (2, .int b)]) hx hb dX1_begin_59 rfl hl (by decide) rfl (fun ls hl => ?_)
            have loop : ∀ (Q0 : State → Prop), (∀ (Ex : Nat → Int32) (H : Heap) (locs : List Loc) (ls : Array Slot), Ex = mr_en 8 E → va_P (dC, dI) vwCl [(h0, .inr (1, [.ref q1, .ref q2, .ref q3, .ref q4, .ref q5, .ref q6, .ref q7, .ref q8, .int pc, .int 1, .int 1, .int a, .int b, .int sh, .long tm, .long tm])), (q1, .inl (cA, 64, .inl M)), (q2, .inl (cA, 64, .inl N)), (q3, .inl (cA, 64, .inl C)), (q4, .inl (cA, 4, .inl R)), (q5, .inl (cJ, 8, .inr (.inl G))), (q6, .inl (cZ, 8, .inl Ex)), (q7, .inl (cZ, 8, .inl F)), (q8, .inl (cA, 8, .inl T))] H → va_D A [(h0, .inr (1, [.ref q1, .ref q2, .ref q3, .ref q4, .ref q5, .ref q6, .ref q7, .ref q8, .int pc, .int 1, .int 1, .int a, .int b, .int sh, .long tm, .long tm])), (q1, .inl (cA, 64, .inl M)), (q2, .inl (cA, 64, .inl N)), (q3, .inl (cA, 64, .inl C)), (q4, .inl (cA, 4, .inl R)), (q5, .inl (cJ, 8, .inr (.inl G))), (q6, .inl (cZ, 8, .inl Ex)), (q7, .inl (cZ, 8, .inl F)), (q8, .inl (cA, 8, .inl T))] → va_S A s.heap H locs → lv_has ls 4 [(3, .int (nI 8)), (0, .ref h0), (1, .int a), (2, .int b)] → W p l e (headSpec wsX1_begin { frames := 0, cells := 0, slots := 0, locals := 0 }).room s m ([.ref h0, .int a, .int b] : List Value).toArray below meth c H locs 0 0 Q0 (F0 m 79 ls [])) → ∀ (kx ix : Nat) (Ex : Nat → Int32) (H : Heap) (locs : List Loc) (ls : Array Slot), ix + kx = 8 → Ex = mr_en ix E → va_P (dC, dI) vwCl [(h0, .inr (1, [.ref q1, .ref q2, .ref q3, .ref q4, .ref q5, .ref q6, .ref q7, .ref q8, .int pc, .int 1, .int 1, .int a, .int b, .int sh, .long tm, .long tm])), (q1, .inl (cA, 64, .inl M)), (q2, .inl (cA, 64, .inl N)), (q3, .inl (cA, 64, .inl C)), (q4, .inl (cA, 4, .inl R)), (q5, .inl (cJ, 8, .inr (.inl G))), (q6, .inl (cZ, 8, .inl Ex)), (q7, .inl (cZ, 8, .inl F)), (q8, .inl (cA, 8, .inl T))] H → va_D A [(h0, .inr (1, [.ref q1, .ref q2, .ref q3, .ref q4, .ref q5, .ref q6, .ref q7, .ref q8, .int pc, .int 1, .int 1, .int a, .int b, .int sh, .long tm, .long tm])), (q1, .inl (cA, 64, .inl M)), (q2, .inl (cA, 64, .inl N)), (q3, .inl (cA, 64, .inl C)), (q4, .inl (cA, 4, .inl R)), (q5, .inl (cJ, 8, .inr (.inl G))), (q6, .inl (cZ, 8, .inl Ex)), (q7, .inl (cZ, 8, .inl F)), (q8, .inl (cA, 8, .inl T))] → va_S A s.heap H locs → lv_has ls 4 [(3, .int (nI ix)), (0, .ref h0), (1, .int a), (2, .int b)] → W p l e (headSpec wsX1_begin { frames := 0, cells := 0, slots := 0, locals := 0 }).room s m ([.ref h0, .int a, .int b] : List Value).toArray below meth c H locs 0 0 Q0 (F0 m 60 ls []) := by
              intro Q0 hQ kx
              induction kx with
              | zero =>
                intro ix Ex H locs ls hk hi0 hP hD hS hl
                have hz : ix = 8 := by omega
                subst hz
                refine lv_iload_n hx hb dX1_begin_60 rfl (lv_at hl 0 rfl) ?_
                refine lv_bipush (v := 8) hx hb dX1_begin_61 (by decide) ?_
                refine lv_icmp_ge (tgt := 79) hx hb dX1_begin_63 (by decide) (fun c_106 => ?_) (fun c_106 => ?_)
                · exact hQ Ex H locs ls hi0 hP hD hS hl
                · exact absurd (by decide) c_106
              | succ kx ih =>
                intro ix Ex H locs ls hk hi0 hP hD hS hl
                have hix : ix < 8 := by omega
                refine lv_iload_n hx hb dX1_begin_60 rfl (lv_at hl 0 rfl) ?_
                refine lv_bipush (v := 8) hx hb dX1_begin_61 (by decide) ?_
                refine lv_icmp_ge (tgt := 79) hx hb dX1_begin_63 (by decide) (fun c_207 => ?_) (fun c_207 => ?_)
                · exact absurd c_207 (nI_ge hix (by decide))
                · refine lv_aload_n hx hb dX1_begin_66 rfl (lv_at hl 1 rfl) ?_
                  refine va_get (D := (dC, dI)) (ci := 1) (v := .ref q6) (C := RX1) (T := TX1) (N := 16) hx hb hts inw_X1_begin hown hK hP 0 rfl rfl 5 (by decide) (hts (.fieldLink RX1 26 "MigratorModel" "want" "[Z") (by decide +kernel)) (fun _ h9 => h9) rfl dX1_begin_67 ?_
                  refine lv_iload_n hx hb dX1_begin_70 rfl (lv_at hl 0 rfl) ?_
                  refine lv_iconst (v := 1) hx hb dX1_begin_71 (by decide) ?_
                  refine va_zast hx hb hK hP hD hS 6 2 rfl rfl (vp_in_nI hix (by decide)) dX1_begin_72 (fun H locs hP hD hS => ?_)
                  have hP : va_P (dC, dI) vwCl [(h0, .inr (1, [.ref q1, .ref q2, .ref q3, .ref q4, .ref q5, .ref q6, .ref q7, .ref q8, .int pc, .int 1, .int 1, .int a, .int b, .int sh, .long tm, .long tm])), (q1, .inl (cA, 64, .inl M)), (q2, .inl (cA, 64, .inl N)), (q3, .inl (cA, 64, .inl C)), (q4, .inl (cA, 4, .inl R)), (q5, .inl (cJ, 8, .inr (.inl G))), (q6, .inl (cZ, 8, .inl (upd Ex (nI ix).toNatClampNeg (vp_nar .boolean 1)))), (q7, .inl (cZ, 8, .inl F)), (q8, .inl (cA, 8, .inl T))] H := hP
                  have hD : va_D A [(h0, .inr (1, [.ref q1, .ref q2, .ref q3, .ref q4, .ref q5, .ref q6, .ref q7, .ref q8, .int pc, .int 1, .int 1, .int a, .int b, .int sh, .long tm, .long tm])), (q1, .inl (cA, 64, .inl M)), (q2, .inl (cA, 64, .inl N)), (q3, .inl (cA, 64, .inl C)), (q4, .inl (cA, 4, .inl R)), (q5, .inl (cJ, 8, .inr (.inl G))), (q6, .inl (cZ, 8, .inl (upd Ex (nI ix).toNatClampNeg (vp_nar .boolean 1)))), (q7, .inl (cZ, 8, .inl F)), (q8, .inl (cA, 8, .inl T))] := hD
                  refine lv_iinc (v := (nI ix) + 1) (lv' := [(3, .int ((nI ix) + 1)), (0, .ref h0), (1, .int a), (2, .int b)]) hx hb dX1_begin_73 hl (k := 0) rfl rfl (by decide) rfl (fun ls hl => ?_)
                  refine lv_goto (tgt := 60) hx hb dX1_begin_76 (by decide) ?_
                  exact ih (ix + 1) _ H locs ls (by omega) (by rw [hi0, nI_clamp (by omega)]; exact mr_en_s ix E) hP hD hS (by rw [← nI_1]; exact lv_sub hl [0, 1, 2, 3] rfl)
            refine loop _ (fun Ex H locs ls hi0 hP hD hS hl => ?_) 8 0 E _ _ _ (by omega) (mr_en_0 E).symm hP hD hS (lv_sub hl [0, 1, 2, 3] rfl)
            refine lv_iconst (v := 1) hx hb dX1_begin_79 (by decide) ?_
            exact W.zret (v := 1) (ty := .boolean) hx hb hr rfl (fun t ht hW => ⟨⟨1, (M, N, C, R, G, Ex, F, T, pc, 1, 1, a, b, sh, tm, tm), rfl, Or.inl ⟨rfl, ⟨c_1, c_2, c_3, c_4, c_5⟩, by rw [hi0]⟩, by rw [ht]; exact hP, va_K.moved hW.alike hK, hD⟩, hS.F ht⟩) hS.2.2 dX1_begin_80
          · refine lv_iconst (v := 0) hx hb dX1_begin_28 (by decide) ?_
            exact W.zret (v := 0) (ty := .boolean) hx hb hr rfl (fun t ht hW => ⟨⟨0, (M, N, C, R, G, E, F, T, pc, ph, rd, th, lm, sh, tm, sn), rfl, Or.inr ⟨rfl, fun h => c_5 h.2.2.2.2, rfl⟩, by rw [ht]; exact hP, va_K.moved hW.alike hK, hD⟩, hS.F ht⟩) hS.2.2 dX1_begin_29
theorem inw_X1_step : ∀ w ∈ wsX10, w ∈ wsX1_step := fun _ h => List.mem_cons_of_mem _ (List.mem_append_right _ h)
set_option maxHeartbeats 4000000 in
set_option maxRecDepth 100000 in
theorem c_X1_step (l : Launch) (dC : Nat → ClassId) (dI : Nat → Nat → Nat) (h0 q1 q2 q3 q4 q5 q6 q7 q8 : Nat) (cA cJ cZ : ClassId) (M N C R : Nat → Int32) (G : Nat → Int64) (E F T : Nat → Int32) (pc ph rd th lm sh : Int32) (tm sn : Int64) (hpc : vp_in pc 64) (sz : Nat) : Met l yX1_step wsX1_step ({ frames := 0, cells := 0, slots := 0, locals := 0 }) (va_Pc [.ref h0] (fun U => U.heap.size = sz ∧ va_P (dC, dI) vwCl (mr_W h0 q1 q2 q3 q4 q5 q6 q7 q8 cA cJ cZ (M, N, C, R, G, E, F, T, pc, ph, rd, th, lm, sh, tm, sn)) U.heap ∧ va_K (dC, dI) vwCl [(cA, .int), (cJ, .long), (cZ, .boolean)] U ∧ va_D (fun _ => True) (mr_W h0 q1 q2 q3 q4 q5 q6 q7 q8 cA cJ cZ (M, N, C, R, G, E, F, T, pc, ph, rd, th, lm, sh, tm, sn)))) (va_Qv (fun (u : mrS) => u = mr_step (M, N, C, R, G, E, F, T, pc, ph, rd, th, lm, sh, tm, sn)) (at_mr dC dI h0 q1 q2 q3 q4 q5 q6 q7 q8 cA cJ cZ (va_A (mr_W h0 q1 q2 q3 q4 q5 q6 q7 q8 cA cJ cZ (M, N, C, R, G, E, F, T, pc, ph, rd, th, lm, sh, tm, sn)) sz)) (va_A (mr_W h0 q1 q2 q3 q4 q5 q6 q7 q8 cA cJ cZ (M, N, C, R, G, E, F, T, pc, ph, rd, th, lm, sh, tm, sn)) sz)) 0 0 (va_A (mr_W h0 q1 q2 q3 q4 q5 q6 q7 q8 cA cJ cZ (M, N, C, R, G, E, F, T, pc, ph, rd, th, lm, sh, tm, sn)) sz) := by
  refine Met.ofW (cc := cX1_step) (maxL := 8) (ret := none) (by decide) rfl ?_
  intro p e s m args below meth c s₁ B hml hv
  obtain ⟨rfl, hsz, hP, hK, hD0⟩ := hv
  have hx := B.exec
  have hb := B.bytes
  have hr := B.returns
  have hts := atoms_spec (ws := wsX1_step) B.pre
  have hown : s.vm.findClass RX1 = some m.cls := findClass_of_methodNamed B.named
  have hlocks := B.notSynchronized
  subst hsz
  have hD := hD0.self (sz := s.heap.size)
  generalize hAe : va_A (mr_W h0 q1 q2 q3 q4 q5 q6 q7 q8 cA cJ cZ (M, N, C, R, G, E, F, T, pc, ph, rd, th, lm, sh, tm, sn)) s.heap.size = A at hD ⊢
  have hA : ∀ q : Nat, s.heap.size ≤ q → A q := fun q h => by rw [← hAe]; exact Or.inr h
  have hS : va_S A s.heap s.heap [] := va_S.rf
  have hP : va_P (dC, dI) vwCl [(h0, .inr (1, [.ref q1, .ref q2, .ref q3, .ref q4, .ref q5, .ref q6, .ref q7, .ref q8, .int pc, .int ph, .int rd, .int th, .int lm, .int sh, .long tm, .long sn])), (q1, .inl (cA, 64, .inl M)), (q2, .inl (cA, 64, .inl N)), (q3, .inl (cA, 64, .inl C)), (q4, .inl (cA, 4, .inl R)), (q5, .inl (cJ, 8, .inr (.inl G))), (q6, .inl (cZ, 8, .inl E)), (q7, .inl (cZ, 8, .inl F)), (q8, .inl (cA, 8, .inl T))] s.heap := hP
  have hD : va_D A [(h0, .inr (1, [.ref q1, .ref q2, .ref q3, .ref q4, .ref q5, .ref q6, .ref q7, .ref q8, .int pc, .int ph, .int rd, .int th, .int lm, .int sh, .long tm, .long sn])), (q1, .inl (cA, 64, .inl M)), (q2, .inl (cA, 64, .inl N)), (q3, .inl (cA, 64, .inl C)), (q4, .inl (cA, 4, .inl R)), (q5, .inl (cJ, 8, .inr (.inl G))), (q6, .inl (cZ, 8, .inl E)), (q7, .inl (cZ, 8, .inl F)), (q8, .inl (cA, 8, .inl T))] := hD
  have hl := lv_entry ([.ref h0]) (n := 8) (Nat.le_of_ble_eq_true rfl)
  rw [lg_entry_eq]
  generalize (lg_sl ([.ref h0]) ++ List.replicate (8 - (lg_sl ([.ref h0])).length) Slot.unset).toArray = ls at hl ⊢
  have hl : lv_has ls 8 [(0, .ref h0)] := hl
  refine lv_aload_n hx hb dX1_step_0 rfl (lv_at hl 0 rfl) ?_
  refine va_get (D := (dC, dI)) (ci := 1) (v := .ref q1) (C := RX1) (T := TX1) (N := 16) hx hb hts inw_X1_step hown hK hP 0 rfl rfl 0 (by decide) (hts (.fieldLink RX1 7 "MigratorModel" "real" "[I") (by decide +kernel)) (fun _ h9 => h9) rfl dX1_step_1 ?_
  refine lv_aload_n hx hb dX1_step_4 rfl (lv_at hl 0 rfl) ?_
  refine va_get (D := (dC, dI)) (ci := 1) (v := .int pc) (C := RX1) (T := TX1) (N := 16) hx hb hts inw_X1_step hown hK hP 0 rfl rfl 8 (by decide) (hts (.fieldLink RX1 56 "MigratorModel" "pc" "I") (by decide +kernel)) (fun _ h9 => h9) rfl dX1_step_5 ?_
  refine va_iald hx hb hK hP 1 0 rfl rfl hpc dX1_step_8 ?_
  refine lv_topi (fun v_1 ev_1 => ?_)
  refine lv_istore_n (lv' := [(1, .int v_1), (0, .ref h0)]) hx hb dX1_step_9 rfl hl (by decide) rfl (fun ls hl => ?_)
  refine lv_iload_n hx hb dX1_step_10 rfl (lv_at hl 0 rfl) ?_
  refine lv_iconst (v := 3) hx hb dX1_step_11 (by decide) ?_
  refine lv_ishr hx hb dX1_step_12 ?_
  refine lv_iconst (v := 3) hx hb dX1_step_13 (by decide) ?_
  refine lv_iand hx hb dX1_step_14 ?_
  refine lv_topi (fun v_2 ev_2 => ?_)
  refine lv_istore_n (lv' := [(2, .int v_2), (1, .int v_1), (0, .ref h0)]) hx hb dX1_step_15 rfl hl (by decide) rfl (fun ls hl => ?_)
  refine lv_iload_n hx hb dX1_step_16 rfl (lv_at hl 1 rfl) ?_
  refine lv_iconst (v := 5) hx hb dX1_step_17 (by decide) ?_
  refine lv_ishr hx hb dX1_step_18 ?_
  refine lv_iconst (v := 3) hx hb dX1_step_19 (by decide) ?_
  refine lv_iand hx hb dX1_step_20 ?_
  refine lv_topi (fun v_3 ev_3 => ?_)
  refine lv_istore_n (lv' := [(3, .int v_3), (2, .int v_2), (1, .int v_1), (0, .ref h0)]) hx hb dX1_step_21 rfl hl (by decide) rfl (fun ls hl => ?_)
  refine lv_iload_n hx hb dX1_step_22 rfl (lv_at hl 2 rfl) ?_
  refine lv_bipush (v := 7) hx hb dX1_step_23 (by decide) ?_
  refine lv_ishr hx hb dX1_step_25 ?_
  refine lv_bipush (v := 127) hx hb dX1_step_26 (by decide) ?_
  refine lv_iand hx hb dX1_step_28 ?_
  refine lv_topi (fun v_4 ev_4 => ?_)
  refine lv_istore (lv' := [(4, .int v_4), (3, .int v_3), (2, .int v_2), (1, .int v_1), (0, .ref h0)]) hx hb dX1_step_29 hl (by decide) rfl (fun ls hl => ?_)
  refine lv_aload_n hx hb dX1_step_31 rfl (lv_at hl 4 rfl) ?_
  refine va_get (D := (dC, dI)) (ci := 1) (v := .ref q4) (C := RX1) (T := TX1) (N := 16) hx hb hts inw_X1_step hown hK hP 0 rfl rfl 3 (by decide) (hts (.fieldLink RX1 19 "MigratorModel" "reg" "[I") (by decide +kernel)) (fun _ h9 => h9) rfl dX1_step_32 ?_
  refine lv_iload_n hx hb dX1_step_35 rfl (lv_at hl 1 rfl) ?_
  refine va_iald hx hb hK hP 4 0 rfl rfl (by rw [ev_3]; exact in_3 _) dX1_step_36 ?_
  refine lv_iload hx hb dX1_step_37 (lv_at hl 0 rfl) ?_
  refine lv_iadd hx hb dX1_step_39 ?_
  refine lv_bipush (v := 63) hx hb dX1_step_40 (by decide) ?_
  refine lv_iand hx hb dX1_step_42 ?_
  refine lv_topi (fun v_5 ev_5 => ?_)
  refine lv_istore (lv' := [(5, .int v_5), (4, .int v_4), (3, .int v_3), (2, .int v_2), (1, .int v_1), (0, .ref h0)]) hx hb dX1_step_43 hl (by decide) rfl (fun ls hl => ?_)
  refine lv_aload_n hx hb dX1_step_45 rfl (lv_at hl 5 rfl) ?_
  refine va_get (D := (dC, dI)) (ci := 1) (v := .int pc) (C := RX1) (T := TX1) (N := 16) hx hb hts inw_X1_step hown hK hP 0 rfl rfl 8 (by decide) (hts (.fieldLink RX1 56 "MigratorModel" "pc" "I") (by decide +kernel)) (fun _ h9 => h9) rfl dX1_step_46 ?_
  refine lv_iconst (v := 1) hx hb dX1_step_49 (by decide) ?_
  refine lv_iadd hx hb dX1_step_50 ?_
  refine lv_bipush (v := 63) hx hb dX1_step_51 (by decide) ?_
  refine lv_iand hx hb dX1_step_53 ?_
  refine lv_topi (fun v_6 ev_6 => ?_)
  refine lv_istore (lv' := [(6, .int v_6), (5, .int v_5), (4, .int v_4), (3, .int v_3), (2, .int v_2), (1, .int v_1), (0, .ref h0)]) hx hb dX1_step_54 hl (by decide) rfl (fun ls hl => ?_)
  refine lv_iload_n hx hb dX1_step_56 rfl (lv_at hl 5 rfl) ?_
  refine lv_bipush (v := 7) hx hb dX1_step_57 (by decide) ?_
  refine lv_iand hx hb dX1_step_59 ?_
  rcases op_8 v_1 with o_7 | o_7 | o_7 | o_7 | o_7 | o_7 | o_7 | o_7
  · refine lv_tableIn (off := 44) (tgt := 104) hx hb dX1_step_60 (by rw [o_7]; decide) (by rw [o_7]; decide) (by rw [o_7]; rfl) (by decide) ?_
    refine lv_aload_n hx hb dX1_step_104 rfl (lv_at hl 6 rfl) ?_
    refine va_get (D := (dC, dI)) (ci := 1) (v := .int pc) (C := RX1) (T := TX1) (N := 16) hx hb hts inw_X1_step hown hK hP 0 rfl rfl 8 (by decide) (hts (.fieldLink RX1 56 "MigratorModel" "pc" "I") (by decide +kernel)) (fun _ h9 => h9) rfl dX1_step_105 ?_
    refine lv_istore (lv' := [(6, .int pc), (5, .int v_5), (4, .int v_4), (3, .int v_3), (2, .int v_2), (1, .int v_1), (0, .ref h0)]) hx hb dX1_step_108 hl (by decide) rfl (fun ls hl => ?_)
    refine lv_goto (tgt := 296) hx hb dX1_step_110 (by decide) ?_
    refine lv_aload_n hx hb dX1_step_296 rfl (lv_at hl 6 rfl) ?_
    refine lv_iload hx hb dX1_step_297 (lv_at hl 0 rfl) ?_
    refine va_put (D := (dC, dI)) (ci := 1) (v := .int pc) (ty := .int) (C := RX1) (T := TX1) (N := 16) hx hb hts inw_X1_step tyX1 tyX1_ok nmX1 hown hK hP hD hS 0 rfl rfl 8 (by decide) (hts (.fieldLink RX1 56 "MigratorModel" "pc" "I") (by decide +kernel)) (fun _ h9 => h9) rfl (by decide +kernel) rfl rfl (Nat.le_of_ble_eq_true rfl) dX1_step_299 (fun H locs hP hD hS => ?_)
    have hP : va_P (dC, dI) vwCl [(h0, .inr (1, [.ref q1, .ref q2, .ref q3, .ref q4, .ref q5, .ref q6, .ref q7, .ref q8, .int pc, .int ph, .int rd, .int th, .int lm, .int sh, .long tm, .long sn])), (q1, .inl (cA, 64, .inl M)), (q2, .inl (cA, 64, .inl N)), (q3, .inl (cA, 64, .inl C)), (q4, .inl (cA, 4, .inl R)), (q5, .inl (cJ, 8, .inr (.inl G))), (q6, .inl (cZ, 8, .inl E)), (q7, .inl (cZ, 8, .inl F)), (q8, .inl (cA, 8, .inl T))] H := hP
    have hD : va_D A [(h0, .inr (1, [.ref q1, .ref q2, .ref q3, .ref q4, .ref q5, .ref q6, .ref q7, .ref q8, .int pc, .int ph, .int rd, .int th, .int lm, .int sh, .long tm, .long sn])), (q1, .inl (cA, 64, .inl M)), (q2, .inl (cA, 64, .inl N)), (q3, .inl (cA, 64, .inl C)), (q4, .inl (cA, 4, .inl R)), (q5, .inl (cJ, 8, .inr (.inl G))), (q6, .inl (cZ, 8, .inl E)), (q7, .inl (cZ, 8, .inl F)), (q8, .inl (cA, 8, .inl T))] := hD
    have z_8 : (M, N, C, R, G, E, F, T, pc, ph, rd, th, lm, sh, tm, sn) = mr_step (M, N, C, R, G, E, F, T, pc, ph, rd, th, lm, sh, tm, sn) := by
      subst ev_6
      subst ev_5
      subst ev_4
      subst ev_3
      subst ev_2
      subst ev_1
      show _ = mr_go (M pc.toNatClampNeg &&& 7) (M pc.toNatClampNeg) (M, N, C, R, G, E, F, T, pc, ph, rd, th, lm, sh, tm, sn)
      rw [o_7]
      rfl
    exact W.vret hx hb hr (fun t ht hW => ⟨⟨(M, N, C, R, G, E, F, T, pc, ph, rd, th, lm, sh, tm, sn), rfl, z_8, by rw [ht]; exact hP, va_K.moved hW.alike hK, hD⟩, hS.F ht⟩) hS.2.2 dX1_step_302
  · refine lv_tableIn (off := 53) (tgt := 113) hx hb dX1_step_60 (by rw [o_7]; decide) (by rw [o_7]; decide) (by rw [o_7]; rfl) (by decide) ?_
    refine lv_aload_n hx hb dX1_step_113 rfl (lv_at hl 6 rfl) ?_
    refine va_get (D := (dC, dI)) (ci := 1) (v := .ref q4) (C := RX1) (T := TX1) (N := 16) hx hb hts inw_X1_step hown hK hP 0 rfl rfl 3 (by decide) (hts (.fieldLink RX1 19 "MigratorModel" "reg" "[I") (by decide +kernel)) (fun _ h9 => h9) rfl dX1_step_114 ?_
    refine lv_iload_n hx hb dX1_step_117 rfl (lv_at hl 4 rfl) ?_
    refine lv_iload hx hb dX1_step_118 (lv_at hl 2 rfl) ?_
    refine va_iast hx hb hK hP hD hS 4 0 rfl rfl (by rw [ev_2]; exact in_3 _) dX1_step_120 (fun H locs hP hD hS => ?_)
    have hP : va_P (dC, dI) vwCl [(h0, .inr (1, [.ref q1, .ref q2, .ref q3, .ref q4, .ref q5, .ref q6, .ref q7, .ref q8, .int pc, .int ph, .int rd, .int th, .int lm, .int sh, .long tm, .long sn])), (q1, .inl (cA, 64, .inl M)), (q2, .inl (cA, 64, .inl N)), (q3, .inl (cA, 64, .inl C)), (q4, .inl (cA, 4, .inl (upd R v_2.toNatClampNeg v_4))), (q5, .inl (cJ, 8, .inr (.inl G))), (q6, .inl (cZ, 8, .inl E)), (q7, .inl (cZ, 8, .inl F)), (q8, .inl (cA, 8, .inl T))] H := hP
    have hD : va_D A [(h0, .inr (1, [.ref q1, .ref q2, .ref q3, .ref q4, .ref q5, .ref q6, .ref q7, .ref q8, .int pc, .int ph, .int rd, .int th, .int lm, .int sh, .long tm, .long sn])), (q1, .inl (cA, 64, .inl M)), (q2, .inl (cA, 64, .inl N)), (q3, .inl (cA, 64, .inl C)), (q4, .inl (cA, 4, .inl (upd R v_2.toNatClampNeg v_4))), (q5, .inl (cJ, 8, .inr (.inl G))), (q6, .inl (cZ, 8, .inl E)), (q7, .inl (cZ, 8, .inl F)), (q8, .inl (cA, 8, .inl T))] := hD
    refine lv_goto (tgt := 296) hx hb dX1_step_121 (by decide) ?_
    refine lv_aload_n hx hb dX1_step_296 rfl (lv_at hl 6 rfl) ?_
    refine lv_iload hx hb dX1_step_297 (lv_at hl 0 rfl) ?_
    refine va_put (D := (dC, dI)) (ci := 1) (v := .int v_6) (ty := .int) (C := RX1) (T := TX1) (N := 16) hx hb hts inw_X1_step tyX1 tyX1_ok nmX1 hown hK hP hD hS 0 rfl rfl 8 (by decide) (hts (.fieldLink RX1 56 "MigratorModel" "pc" "I") (by decide +kernel)) (fun _ h9 => h9) rfl (by decide +kernel) rfl rfl (Nat.le_of_ble_eq_true rfl) dX1_step_299 (fun H locs hP hD hS => ?_)
    have hP : va_P (dC, dI) vwCl [(h0, .inr (1, [.ref q1, .ref q2, .ref q3, .ref q4, .ref q5, .ref q6, .ref q7, .ref q8, .int v_6, .int ph, .int rd, .int th, .int lm, .int sh, .long tm, .long sn])), (q1, .inl (cA, 64, .inl M)), (q2, .inl (cA, 64, .inl N)), (q3, .inl (cA, 64, .inl C)), (q4, .inl (cA, 4, .inl (upd R v_2.toNatClampNeg v_4))), (q5, .inl (cJ, 8, .inr (.inl G))), (q6, .inl (cZ, 8, .inl E)), (q7, .inl (cZ, 8, .inl F)), (q8, .inl (cA, 8, .inl T))] H := hP
    have hD : va_D A [(h0, .inr (1, [.ref q1, .ref q2, .ref q3, .ref q4, .ref q5, .ref q6, .ref q7, .ref q8, .int v_6, .int ph, .int rd, .int th, .int lm, .int sh, .long tm, .long sn])), (q1, .inl (cA, 64, .inl M)), (q2, .inl (cA, 64, .inl N)), (q3, .inl (cA, 64, .inl C)), (q4, .inl (cA, 4, .inl (upd R v_2.toNatClampNeg v_4))), (q5, .inl (cJ, 8, .inr (.inl G))), (q6, .inl (cZ, 8, .inl E)), (q7, .inl (cZ, 8, .inl F)), (q8, .inl (cA, 8, .inl T))] := hD
    have z_9 : (M, N, C, upd R v_2.toNatClampNeg v_4, G, E, F, T, v_6, ph, rd, th, lm, sh, tm, sn) = mr_step (M, N, C, R, G, E, F, T, pc, ph, rd, th, lm, sh, tm, sn) := by
      subst ev_6
      subst ev_5
      subst ev_4
      subst ev_3
      subst ev_2
      subst ev_1
      show _ = mr_go (M pc.toNatClampNeg &&& 7) (M pc.toNatClampNeg) (M, N, C, R, G, E, F, T, pc, ph, rd, th, lm, sh, tm, sn)
      rw [o_7]
      rfl
    exact W.vret hx hb hr (fun t ht hW => ⟨⟨(M, N, C, upd R v_2.toNatClampNeg v_4, G, E, F, T, v_6, ph, rd, th, lm, sh, tm, sn), rfl, z_9, by rw [ht]; exact hP, va_K.moved hW.alike hK, hD⟩, hS.F ht⟩) hS.2.2 dX1_step_302
  · refine lv_tableIn (off := 64) (tgt := 124) hx hb dX1_step_60 (by rw [o_7]; decide) (by rw [o_7]; decide) (by rw [o_7]; rfl) (by decide) ?_
    refine lv_aload_n hx hb dX1_step_124 rfl (lv_at hl 6 rfl) ?_
    refine va_get (D := (dC, dI)) (ci := 1) (v := .ref q4) (C := RX1) (T := TX1) (N := 16) hx hb hts inw_X1_step hown hK hP 0 rfl rfl 3 (by decide) (hts (.fieldLink RX1 19 "MigratorModel" "reg" "[I") (by decide +kernel)) (fun _ h9 => h9) rfl dX1_step_125 ?_
    refine lv_iload_n hx hb dX1_step_128 rfl (lv_at hl 4 rfl) ?_
    refine lv_aload_n hx hb dX1_step_129 rfl (lv_at hl 6 rfl) ?_
    refine va_get (D := (dC, dI)) (ci := 1) (v := .ref q1) (C := RX1) (T := TX1) (N := 16) hx hb hts inw_X1_step hown hK hP 0 rfl rfl 0 (by decide) (hts (.fieldLink RX1 7 "MigratorModel" "real" "[I") (by decide +kernel)) (fun _ h9 => h9) rfl dX1_step_130 ?_
    refine lv_iload hx hb dX1_step_133 (lv_at hl 1 rfl) ?_
    refine va_iald hx hb hK hP 1 0 rfl rfl (by rw [ev_5]; exact in_63 _) dX1_step_135 ?_
    refine va_iast hx hb hK hP hD hS 4 0 rfl rfl (by rw [ev_2]; exact in_3 _) dX1_step_136 (fun H locs hP hD hS => ?_)
    have hP : va_P (dC, dI) vwCl [(h0, .inr (1, [.ref q1, .ref q2, .ref q3, .ref q4, .ref q5, .ref q6, .ref q7, .ref q8, .int pc, .int ph, .int rd, .int th, .int lm, .int sh, .long tm, .long sn])), (q1, .inl (cA, 64, .inl M)), (q2, .inl (cA, 64, .inl N)), (q3, .inl (cA, 64, .inl C)), (q4, .inl (cA, 4, .inl (upd R v_2.toNatClampNeg (M v_5.toNatClampNeg)))), (q5, .inl (cJ, 8, .inr (.inl G))), (q6, .inl (cZ, 8, .inl E)), (q7, .inl (cZ, 8, .inl F)), (q8, .inl (cA, 8, .inl T))] H := hP
    have hD : va_D A [(h0, .inr (1, [.ref q1, .ref q2, .ref q3, .ref q4, .ref q5, .ref q6, .ref q7, .ref q8, .int pc, .int ph, .int rd, .int th, .int lm, .int sh, .long tm, .long sn])), (q1, .inl (cA, 64, .inl M)), (q2, .inl (cA, 64, .inl N)), (q3, .inl (cA, 64, .inl C)), (q4, .inl (cA, 4, .inl (upd R v_2.toNatClampNeg (M v_5.toNatClampNeg)))), (q5, .inl (cJ, 8, .inr (.inl G))), (q6, .inl (cZ, 8, .inl E)), (q7, .inl (cZ, 8, .inl F)), (q8, .inl (cA, 8, .inl T))] := hD
    refine lv_goto (tgt := 296) hx hb dX1_step_137 (by decide) ?_
    refine lv_aload_n hx hb dX1_step_296 rfl (lv_at hl 6 rfl) ?_
    refine lv_iload hx hb dX1_step_297 (lv_at hl 0 rfl) ?_
    refine va_put (D := (dC, dI)) (ci := 1) (v := .int v_6) (ty := .int) (C := RX1) (T := TX1) (N := 16) hx hb hts inw_X1_step tyX1 tyX1_ok nmX1 hown hK hP hD hS 0 rfl rfl 8 (by decide) (hts (.fieldLink RX1 56 "MigratorModel" "pc" "I") (by decide +kernel)) (fun _ h9 => h9) rfl (by decide +kernel) rfl rfl (Nat.le_of_ble_eq_true rfl) dX1_step_299 (fun H locs hP hD hS => ?_)
    have hP : va_P (dC, dI) vwCl [(h0, .inr (1, [.ref q1, .ref q2, .ref q3, .ref q4, .ref q5, .ref q6, .ref q7, .ref q8, .int v_6, .int ph, .int rd, .int th, .int lm, .int sh, .long tm, .long sn])), (q1, .inl (cA, 64, .inl M)), (q2, .inl (cA, 64, .inl N)), (q3, .inl (cA, 64, .inl C)), (q4, .inl (cA, 4, .inl (upd R v_2.toNatClampNeg (M v_5.toNatClampNeg)))), (q5, .inl (cJ, 8, .inr (.inl G))), (q6, .inl (cZ, 8, .inl E)), (q7, .inl (cZ, 8, .inl F)), (q8, .inl (cA, 8, .inl T))] H := hP
    have hD : va_D A [(h0, .inr (1, [.ref q1, .ref q2, .ref q3, .ref q4, .ref q5, .ref q6, .ref q7, .ref q8, .int v_6, .int ph, .int rd, .int th, .int lm, .int sh, .long tm, .long sn])), (q1, .inl (cA, 64, .inl M)), (q2, .inl (cA, 64, .inl N)), (q3, .inl (cA, 64, .inl C)), (q4, .inl (cA, 4, .inl (upd R v_2.toNatClampNeg (M v_5.toNatClampNeg)))), (q5, .inl (cJ, 8, .inr (.inl G))), (q6, .inl (cZ, 8, .inl E)), (q7, .inl (cZ, 8, .inl F)), (q8, .inl (cA, 8, .inl T))] := hD
    have z_10 : (M, N, C, upd R v_2.toNatClampNeg (M v_5.toNatClampNeg), G, E, F, T, v_6, ph, rd, th, lm, sh, tm, sn) = mr_step (M, N, C, R, G, E, F, T, pc, ph, rd, th, lm, sh, tm, sn) := by
      subst ev_6
      subst ev_5
      subst ev_4
      subst ev_3
      subst ev_2
      subst ev_1
      show _ = mr_go (M pc.toNatClampNeg &&& 7) (M pc.toNatClampNeg) (M, N, C, R, G, E, F, T, pc, ph, rd, th, lm, sh, tm, sn)
      rw [o_7]
      rfl
    exact W.vret hx hb hr (fun t ht hW => ⟨⟨(M, N, C, upd R v_2.toNatClampNeg (M v_5.toNatClampNeg), G, E, F, T, v_6, ph, rd, th, lm, sh, tm, sn), rfl, z_10, by rw [ht]; exact hP, va_K.moved hW.alike hK, hD⟩, hS.F ht⟩) hS.2.2 dX1_step_302
  · refine lv_tableIn (off := 80) (tgt := 140) hx hb dX1_step_60 (by rw [o_7]; decide) (by rw [o_7]; decide) (by rw [o_7]; rfl) (by decide) ?_
    refine lv_aload_n hx hb dX1_step_140 rfl (lv_at hl 6 rfl) ?_
    refine lv_aload_n hx hb dX1_step_141 rfl (lv_at hl 6 rfl) ?_
    refine va_get (D := (dC, dI)) (ci := 1) (v := .long tm) (C := RX1) (T := TX1) (N := 16) hx hb hts inw_X1_step hown hK hP 0 rfl rfl 14 (by decide) (hts (.fieldLink RX1 49 "MigratorModel" "time" "J") (by decide +kernel)) (fun _ h9 => h9) rfl dX1_step_142 ?_
    refine lv_lconst (v := 1) hx hb dX1_step_145 (by decide) ?_
    refine lv_ladd hx hb dX1_step_146 ?_
    refine va_put (D := (dC, dI)) (ci := 1) (v := .long (tm + 1)) (ty := .long) (C := RX1) (T := TX1) (N := 16) hx hb hts inw_X1_step tyX1 tyX1_ok nmX1 hown hK hP hD hS 0 rfl rfl 14 (by decide) (hts (.fieldLink RX1 49 "MigratorModel" "time" "J") (by decide +kernel)) (fun _ h9 => h9) rfl (by decide +kernel) rfl rfl (Nat.le_of_ble_eq_true rfl) dX1_step_147 (fun H locs hP hD hS => ?_)
    have hP : va_P (dC, dI) vwCl [(h0, .inr (1, [.ref q1, .ref q2, .ref q3, .ref q4, .ref q5, .ref q6, .ref q7, .ref q8, .int pc, .int ph, .int rd, .int th, .int lm, .int sh, .long (tm + 1), .long sn])), (q1, .inl (cA, 64, .inl M)), (q2, .inl (cA, 64, .inl N)), (q3, .inl (cA, 64, .inl C)), (q4, .inl (cA, 4, .inl R)), (q5, .inl (cJ, 8, .inr (.inl G))), (q6, .inl (cZ, 8, .inl E)), (q7, .inl (cZ, 8, .inl F)), (q8, .inl (cA, 8, .inl T))] H := hP
    have hD : va_D A [(h0, .inr (1, [.ref q1, .ref q2, .ref q3, .ref q4, .ref q5, .ref q6, .ref q7, .ref q8, .int pc, .int ph, .int rd, .int th, .int lm, .int sh, .long (tm + 1), .long sn])), (q1, .inl (cA, 64, .inl M)), (q2, .inl (cA, 64, .inl N)), (q3, .inl (cA, 64, .inl C)), (q4, .inl (cA, 4, .inl R)), (q5, .inl (cJ, 8, .inr (.inl G))), (q6, .inl (cZ, 8, .inl E)), (q7, .inl (cZ, 8, .inl F)), (q8, .inl (cA, 8, .inl T))] := hD
    refine lv_aload_n hx hb dX1_step_150 rfl (lv_at hl 6 rfl) ?_
    refine va_get (D := (dC, dI)) (ci := 1) (v := .ref q5) (C := RX1) (T := TX1) (N := 16) hx hb hts inw_X1_step hown hK hP 0 rfl rfl 4 (by decide) (hts (.fieldLink RX1 22 "MigratorModel" "written" "[J") (by decide +kernel)) (fun _ h9 => h9) rfl dX1_step_151 ?_
    refine lv_iload hx hb dX1_step_154 (lv_at hl 1 rfl) ?_
    refine lv_bipush (v := 8) hx hb dX1_step_156 (by decide) ?_
    refine lv_idiv hx hb dX1_step_158 (by decide) ?_
    refine lv_aload_n hx hb dX1_step_159 rfl (lv_at hl 6 rfl) ?_
    refine va_get (D := (dC, dI)) (ci := 1) (v := .long (tm + 1)) (C := RX1) (T := TX1) (N := 16) hx hb hts inw_X1_step hown hK hP 0 rfl rfl 14 (by decide) (hts (.fieldLink RX1 49 "MigratorModel" "time" "J") (by decide +kernel)) (fun _ h9 => h9) rfl dX1_step_160 ?_
    refine va_last hx hb hK hP hD hS 5 1 rfl rfl (by rw [ev_5]; exact in_d8 _) dX1_step_163 (fun H locs hP hD hS => ?_)
    have hP : va_P (dC, dI) vwCl [(h0, .inr (1, [.ref q1, .ref q2, .ref q3, .ref q4, .ref q5, .ref q6, .ref q7, .ref q8, .int pc, .int ph, .int rd, .int th, .int lm, .int sh, .long (tm + 1), .long sn])), (q1, .inl (cA, 64, .inl M)), (q2, .inl (cA, 64, .inl N)), (q3, .inl (cA, 64, .inl C)), (q4, .inl (cA, 4, .inl R)), (q5, .inl (cJ, 8, .inr (.inl (vp_updL G (v_5 / 8).toNatClampNeg (tm + 1))))), (q6, .inl (cZ, 8, .inl E)), (q7, .inl (cZ, 8, .inl F)), (q8, .inl (cA, 8, .inl T))] H := hP
    have hD : va_D A [(h0, .inr (1, [.ref q1, .ref q2, .ref q3, .ref q4, .ref q5, .ref q6, .ref q7, .ref q8, .int pc, .int ph, .int rd, .int th, .int lm, .int sh, .long (tm + 1), .long sn])), (q1, .inl (cA, 64, .inl M)), (q2, .inl (cA, 64, .inl N)), (q3, .inl (cA, 64, .inl C)), (q4, .inl (cA, 4, .inl R)), (q5, .inl (cJ, 8, .inr (.inl (vp_updL G (v_5 / 8).toNatClampNeg (tm + 1))))), (q6, .inl (cZ, 8, .inl E)), (q7, .inl (cZ, 8, .inl F)), (q8, .inl (cA, 8, .inl T))] := hD
    refine lv_aload_n hx hb dX1_step_164 rfl (lv_at hl 6 rfl) ?_
    refine va_get (D := (dC, dI)) (ci := 1) (v := .ref q1) (C := RX1) (T := TX1) (N := 16) hx hb hts inw_X1_step hown hK hP 0 rfl rfl 0 (by decide) (hts (.fieldLink RX1 7 "MigratorModel" "real" "[I") (by decide +kernel)) (fun _ h9 => h9) rfl dX1_step_165 ?_
    refine lv_iload hx hb dX1_step_168 (lv_at hl 1 rfl) ?_
    refine lv_aload_n hx hb dX1_step_170 rfl (lv_at hl 6 rfl) ?_
    refine va_get (D := (dC, dI)) (ci := 1) (v := .ref q4) (C := RX1) (T := TX1) (N := 16) hx hb hts inw_X1_step hown hK hP 0 rfl rfl 3 (by decide) (hts (.fieldLink RX1 19 "MigratorModel" "reg" "[I") (by decide +kernel)) (fun _ h9 => h9) rfl dX1_step_171 ?_
    refine lv_iload_n hx hb dX1_step_174 rfl (lv_at hl 4 rfl) ?_
    refine va_iald hx hb hK hP 4 0 rfl rfl (by rw [ev_2]; exact in_3 _) dX1_step_175 ?_
    refine va_iast hx hb hK hP hD hS 1 0 rfl rfl (by rw [ev_5]; exact in_63 _) dX1_step_176 (fun H locs hP hD hS => ?_)
    have hP : va_P (dC, dI) vwCl [(h0, .inr (1, [.ref q1, .ref q2, .ref q3, .ref q4, .ref q5, .ref q6, .ref q7, .ref q8, .int pc, .int ph, .int rd, .int th, .int lm, .int sh, .long (tm + 1), .long sn])), (q1, .inl (cA, 64, .inl (upd M v_5.toNatClampNeg (R v_2.toNatClampNeg)))), (q2, .inl (cA, 64, .inl N)), (q3, .inl (cA, 64, .inl C)), (q4, .inl (cA, 4, .inl R)), (q5, .inl (cJ, 8, .inr (.inl (vp_updL G (v_5 / 8).toNatClampNeg (tm + 1))))), (q6, .inl (cZ, 8, .inl E)), (q7, .inl (cZ, 8, .inl F)), (q8, .inl (cA, 8, .inl T))] H := hP
    have hD : va_D A [(h0, .inr (1, [.ref q1, .ref q2, .ref q3, .ref q4, .ref q5, .ref q6, .ref q7, .ref q8, .int pc, .int ph, .int rd, .int th, .int lm, .int sh, .long (tm + 1), .long sn])), (q1, .inl (cA, 64, .inl (upd M v_5.toNatClampNeg (R v_2.toNatClampNeg)))), (q2, .inl (cA, 64, .inl N)), (q3, .inl (cA, 64, .inl C)), (q4, .inl (cA, 4, .inl R)), (q5, .inl (cJ, 8, .inr (.inl (vp_updL G (v_5 / 8).toNatClampNeg (tm + 1))))), (q6, .inl (cZ, 8, .inl E)), (q7, .inl (cZ, 8, .inl F)), (q8, .inl (cA, 8, .inl T))] := hD
    refine lv_goto (tgt := 296) hx hb dX1_step_177 (by decide) ?_
    refine lv_aload_n hx hb dX1_step_296 rfl (lv_at hl 6 rfl) ?_
    refine lv_iload hx hb dX1_step_297 (lv_at hl 0 rfl) ?_
    refine va_put (D := (dC, dI)) (ci := 1) (v := .int v_6) (ty := .int) (C := RX1) (T := TX1) (N := 16) hx hb hts inw_X1_step tyX1 tyX1_ok nmX1 hown hK hP hD hS 0 rfl rfl 8 (by decide) (hts (.fieldLink RX1 56 "MigratorModel" "pc" "I") (by decide +kernel)) (fun _ h9 => h9) rfl (by decide +kernel) rfl rfl (Nat.le_of_ble_eq_true rfl) dX1_step_299 (fun H locs hP hD hS => ?_)
    have hP : va_P (dC, dI) vwCl [(h0, .inr (1, [.ref q1, .ref q2, .ref q3, .ref q4, .ref q5, .ref q6, .ref q7, .ref q8, .int v_6, .int ph, .int rd, .int th, .int lm, .int sh, .long (tm + 1), .long sn])), (q1, .inl (cA, 64, .inl (upd M v_5.toNatClampNeg (R v_2.toNatClampNeg)))), (q2, .inl (cA, 64, .inl N)), (q3, .inl (cA, 64, .inl C)), (q4, .inl (cA, 4, .inl R)), (q5, .inl (cJ, 8, .inr (.inl (vp_updL G (v_5 / 8).toNatClampNeg (tm + 1))))), (q6, .inl (cZ, 8, .inl E)), (q7, .inl (cZ, 8, .inl F)), (q8, .inl (cA, 8, .inl T))] H := hP
    have hD : va_D A [(h0, .inr (1, [.ref q1, .ref q2, .ref q3, .ref q4, .ref q5, .ref q6, .ref q7, .ref q8, .int v_6, .int ph, .int rd, .int th, .int lm, .int sh, .long (tm + 1), .long sn])), (q1, .inl (cA, 64, .inl (upd M v_5.toNatClampNeg (R v_2.toNatClampNeg)))), (q2, .inl (cA, 64, .inl N)), (q3, .inl (cA, 64, .inl C)), (q4, .inl (cA, 4, .inl R)), (q5, .inl (cJ, 8, .inr (.inl (vp_updL G (v_5 / 8).toNatClampNeg (tm + 1))))), (q6, .inl (cZ, 8, .inl E)), (q7, .inl (cZ, 8, .inl F)), (q8, .inl (cA, 8, .inl T))] := hD
    have z_11 : (upd M v_5.toNatClampNeg (R v_2.toNatClampNeg), N, C, R, vp_updL G (v_5 / 8).toNatClampNeg (tm + 1), E, F, T, v_6, ph, rd, th, lm, sh, tm + 1, sn) = mr_step (M, N, C, R, G, E, F, T, pc, ph, rd, th, lm, sh, tm, sn) := by
      subst ev_6
      subst ev_5
      subst ev_4
      subst ev_3
      subst ev_2
      subst ev_1
      show _ = mr_go (M pc.toNatClampNeg &&& 7) (M pc.toNatClampNeg) (M, N, C, R, G, E, F, T, pc, ph, rd, th, lm, sh, tm, sn)
      rw [o_7]
      rfl
    exact W.vret hx hb hr (fun t ht hW => ⟨⟨(upd M v_5.toNatClampNeg (R v_2.toNatClampNeg), N, C, R, vp_updL G (v_5 / 8).toNatClampNeg (tm + 1), E, F, T, v_6, ph, rd, th, lm, sh, tm + 1, sn), rfl, z_11, by rw [ht]; exact hP, va_K.moved hW.alike hK, hD⟩, hS.F ht⟩) hS.2.2 dX1_step_302
  · refine lv_tableIn (off := 120) (tgt := 180) hx hb dX1_step_60 (by rw [o_7]; decide) (by rw [o_7]; decide) (by rw [o_7]; rfl) (by decide) ?_
    refine lv_aload_n hx hb dX1_step_180 rfl (lv_at hl 6 rfl) ?_
    refine va_get (D := (dC, dI)) (ci := 1) (v := .ref q4) (C := RX1) (T := TX1) (N := 16) hx hb hts inw_X1_step hown hK hP 0 rfl rfl 3 (by decide) (hts (.fieldLink RX1 19 "MigratorModel" "reg" "[I") (by decide +kernel)) (fun _ h9 => h9) rfl dX1_step_181 ?_
    refine lv_iload_n hx hb dX1_step_184 rfl (lv_at hl 4 rfl) ?_
    refine lv_aload_n hx hb dX1_step_185 rfl (lv_at hl 6 rfl) ?_
    refine va_get (D := (dC, dI)) (ci := 1) (v := .ref q4) (C := RX1) (T := TX1) (N := 16) hx hb hts inw_X1_step hown hK hP 0 rfl rfl 3 (by decide) (hts (.fieldLink RX1 19 "MigratorModel" "reg" "[I") (by decide +kernel)) (fun _ h9 => h9) rfl dX1_step_186 ?_
    refine lv_iload_n hx hb dX1_step_189 rfl (lv_at hl 4 rfl) ?_
    refine va_iald hx hb hK hP 4 0 rfl rfl (by rw [ev_2]; exact in_3 _) dX1_step_190 ?_
    refine lv_aload_n hx hb dX1_step_191 rfl (lv_at hl 6 rfl) ?_
    refine va_get (D := (dC, dI)) (ci := 1) (v := .ref q4) (C := RX1) (T := TX1) (N := 16) hx hb hts inw_X1_step hown hK hP 0 rfl rfl 3 (by decide) (hts (.fieldLink RX1 19 "MigratorModel" "reg" "[I") (by decide +kernel)) (fun _ h9 => h9) rfl dX1_step_192 ?_
    refine lv_iload_n hx hb dX1_step_195 rfl (lv_at hl 3 rfl) ?_
    refine va_iald hx hb hK hP 4 0 rfl rfl (by rw [ev_3]; exact in_3 _) dX1_step_196 ?_
    refine lv_iadd hx hb dX1_step_197 ?_
    refine va_iast hx hb hK hP hD hS 4 0 rfl rfl (by rw [ev_2]; exact in_3 _) dX1_step_198 (fun H locs hP hD hS => ?_)
    have hP : va_P (dC, dI) vwCl [(h0, .inr (1, [.ref q1, .ref q2, .ref q3, .ref q4, .ref q5, .ref q6, .ref q7, .ref q8, .int pc, .int ph, .int rd, .int th, .int lm, .int sh, .long tm, .long sn])), (q1, .inl (cA, 64, .inl M)), (q2, .inl (cA, 64, .inl N)), (q3, .inl (cA, 64, .inl C)), (q4, .inl (cA, 4, .inl (upd R v_2.toNatClampNeg ((R v_2.toNatClampNeg) + (R v_3.toNatClampNeg))))), (q5, .inl (cJ, 8, .inr (.inl G))), (q6, .inl (cZ, 8, .inl E)), (q7, .inl (cZ, 8, .inl F)), (q8, .inl (cA, 8, .inl T))] H := hP
    have hD : va_D A [(h0, .inr (1, [.ref q1, .ref q2, .ref q3, .ref q4, .ref q5, .ref q6, .ref q7, .ref q8, .int pc, .int ph, .int rd, .int th, .int lm, .int sh, .long tm, .long sn])), (q1, .inl (cA, 64, .inl M)), (q2, .inl (cA, 64, .inl N)), (q3, .inl (cA, 64, .inl C)), (q4, .inl (cA, 4, .inl (upd R v_2.toNatClampNeg ((R v_2.toNatClampNeg) + (R v_3.toNatClampNeg))))), (q5, .inl (cJ, 8, .inr (.inl G))), (q6, .inl (cZ, 8, .inl E)), (q7, .inl (cZ, 8, .inl F)), (q8, .inl (cA, 8, .inl T))] := hD
    refine lv_goto (tgt := 296) hx hb dX1_step_199 (by decide) ?_
    refine lv_aload_n hx hb dX1_step_296 rfl (lv_at hl 6 rfl) ?_
    refine lv_iload hx hb dX1_step_297 (lv_at hl 0 rfl) ?_
    refine va_put (D := (dC, dI)) (ci := 1) (v := .int v_6) (ty := .int) (C := RX1) (T := TX1) (N := 16) hx hb hts inw_X1_step tyX1 tyX1_ok nmX1 hown hK hP hD hS 0 rfl rfl 8 (by decide) (hts (.fieldLink RX1 56 "MigratorModel" "pc" "I") (by decide +kernel)) (fun _ h9 => h9) rfl (by decide +kernel) rfl rfl (Nat.le_of_ble_eq_true rfl) dX1_step_299 (fun H locs hP hD hS => ?_)
    have hP : va_P (dC, dI) vwCl [(h0, .inr (1, [.ref q1, .ref q2, .ref q3, .ref q4, .ref q5, .ref q6, .ref q7, .ref q8, .int v_6, .int ph, .int rd, .int th, .int lm, .int sh, .long tm, .long sn])), (q1, .inl (cA, 64, .inl M)), (q2, .inl (cA, 64, .inl N)), (q3, .inl (cA, 64, .inl C)), (q4, .inl (cA, 4, .inl (upd R v_2.toNatClampNeg ((R v_2.toNatClampNeg) + (R v_3.toNatClampNeg))))), (q5, .inl (cJ, 8, .inr (.inl G))), (q6, .inl (cZ, 8, .inl E)), (q7, .inl (cZ, 8, .inl F)), (q8, .inl (cA, 8, .inl T))] H := hP
    have hD : va_D A [(h0, .inr (1, [.ref q1, .ref q2, .ref q3, .ref q4, .ref q5, .ref q6, .ref q7, .ref q8, .int v_6, .int ph, .int rd, .int th, .int lm, .int sh, .long tm, .long sn])), (q1, .inl (cA, 64, .inl M)), (q2, .inl (cA, 64, .inl N)), (q3, .inl (cA, 64, .inl C)), (q4, .inl (cA, 4, .inl (upd R v_2.toNatClampNeg ((R v_2.toNatClampNeg) + (R v_3.toNatClampNeg))))), (q5, .inl (cJ, 8, .inr (.inl G))), (q6, .inl (cZ, 8, .inl E)), (q7, .inl (cZ, 8, .inl F)), (q8, .inl (cA, 8, .inl T))] := hD
    have z_12 : (M, N, C, upd R v_2.toNatClampNeg ((R v_2.toNatClampNeg) + (R v_3.toNatClampNeg)), G, E, F, T, v_6, ph, rd, th, lm, sh, tm, sn) = mr_step (M, N, C, R, G, E, F, T, pc, ph, rd, th, lm, sh, tm, sn) := by
      subst ev_6
      subst ev_5
      subst ev_4
      subst ev_3
      subst ev_2
      subst ev_1
      show _ = mr_go (M pc.toNatClampNeg &&& 7) (M pc.toNatClampNeg) (M, N, C, R, G, E, F, T, pc, ph, rd, th, lm, sh, tm, sn)
      rw [o_7]
      rfl
    exact W.vret hx hb hr (fun t ht hW => ⟨⟨(M, N, C, upd R v_2.toNatClampNeg ((R v_2.toNatClampNeg) + (R v_3.toNatClampNeg)), G, E, F, T, v_6, ph, rd, th, lm, sh, tm, sn), rfl, z_12, by rw [ht]; exact hP, va_K.moved hW.alike hK, hD⟩, hS.F ht⟩) hS.2.2 dX1_step_302
  · refine lv_tableIn (off := 142) (tgt := 202) hx hb dX1_step_60 (by rw [o_7]; decide) (by rw [o_7]; decide) (by rw [o_7]; rfl) (by decide) ?_
    refine lv_aload_n hx hb dX1_step_202 rfl (lv_at hl 6 rfl) ?_
    refine va_get (D := (dC, dI)) (ci := 1) (v := .ref q4) (C := RX1) (T := TX1) (N := 16) hx hb hts inw_X1_step hown hK hP 0 rfl rfl 3 (by decide) (hts (.fieldLink RX1 19 "MigratorModel" "reg" "[I") (by decide +kernel)) (fun _ h9 => h9) rfl dX1_step_203 ?_
    refine lv_iload_n hx hb dX1_step_206 rfl (lv_at hl 4 rfl) ?_
    refine lv_aload_n hx hb dX1_step_207 rfl (lv_at hl 6 rfl) ?_
    refine va_get (D := (dC, dI)) (ci := 1) (v := .ref q4) (C := RX1) (T := TX1) (N := 16) hx hb hts inw_X1_step hown hK hP 0 rfl rfl 3 (by decide) (hts (.fieldLink RX1 19 "MigratorModel" "reg" "[I") (by decide +kernel)) (fun _ h9 => h9) rfl dX1_step_208 ?_
    refine lv_iload_n hx hb dX1_step_211 rfl (lv_at hl 4 rfl) ?_
    refine va_iald hx hb hK hP 4 0 rfl rfl (by rw [ev_2]; exact in_3 _) dX1_step_212 ?_
    refine lv_aload_n hx hb dX1_step_213 rfl (lv_at hl 6 rfl) ?_
    refine va_get (D := (dC, dI)) (ci := 1) (v := .ref q4) (C := RX1) (T := TX1) (N := 16) hx hb hts inw_X1_step hown hK hP 0 rfl rfl 3 (by decide) (hts (.fieldLink RX1 19 "MigratorModel" "reg" "[I") (by decide +kernel)) (fun _ h9 => h9) rfl dX1_step_214 ?_
    refine lv_iload_n hx hb dX1_step_217 rfl (lv_at hl 3 rfl) ?_
    refine va_iald hx hb hK hP 4 0 rfl rfl (by rw [ev_3]; exact in_3 _) dX1_step_218 ?_
    refine lv_isub hx hb dX1_step_219 ?_
    refine va_iast hx hb hK hP hD hS 4 0 rfl rfl (by rw [ev_2]; exact in_3 _) dX1_step_220 (fun H locs hP hD hS => ?_)
    have hP : va_P (dC, dI) vwCl [(h0, .inr (1, [.ref q1, .ref q2, .ref q3, .ref q4, .ref q5, .ref q6, .ref q7, .ref q8, .int pc, .int ph, .int rd, .int th, .int lm, .int sh, .long tm, .long sn])), (q1, .inl (cA, 64, .inl M)), (q2, .inl (cA, 64, .inl N)), (q3, .inl (cA, 64, .inl C)), (q4, .inl (cA, 4, .inl (upd R v_2.toNatClampNeg ((R v_2.toNatClampNeg) - (R v_3.toNatClampNeg))))), (q5, .inl (cJ, 8, .inr (.inl G))), (q6, .inl (cZ, 8, .inl E)), (q7, .inl (cZ, 8, .inl F)), (q8, .inl (cA, 8, .inl T))] H := hP
    have hD : va_D A [(h0, .inr (1, [.ref q1, .ref q2, .ref q3, .ref q4, .ref q5, .ref q6, .ref q7, .ref q8, .int pc, .int ph, .int rd, .int th, .int lm, .int sh, .long tm, .long sn])), (q1, .inl (cA, 64, .inl M)), (q2, .inl (cA, 64, .inl N)), (q3, .inl (cA, 64, .inl C)), (q4, .inl (cA, 4, .inl (upd R v_2.toNatClampNeg ((R v_2.toNatClampNeg) - (R v_3.toNatClampNeg))))), (q5, .inl (cJ, 8, .inr (.inl G))), (q6, .inl (cZ, 8, .inl E)), (q7, .inl (cZ, 8, .inl F)), (q8, .inl (cA, 8, .inl T))] := hD
    refine lv_goto (tgt := 296) hx hb dX1_step_221 (by decide) ?_
    refine lv_aload_n hx hb dX1_step_296 rfl (lv_at hl 6 rfl) ?_
    refine lv_iload hx hb dX1_step_297 (lv_at hl 0 rfl) ?_
    refine va_put (D := (dC, dI)) (ci := 1) (v := .int v_6) (ty := .int) (C := RX1) (T := TX1) (N := 16) hx hb hts inw_X1_step tyX1 tyX1_ok nmX1 hown hK hP hD hS 0 rfl rfl 8 (by decide) (hts (.fieldLink RX1 56 "MigratorModel" "pc" "I") (by decide +kernel)) (fun _ h9 => h9) rfl (by decide +kernel) rfl rfl (Nat.le_of_ble_eq_true rfl) dX1_step_299 (fun H locs hP hD hS => ?_)
    have hP : va_P (dC, dI) vwCl [(h0, .inr (1, [.ref q1, .ref q2, .ref q3, .ref q4, .ref q5, .ref q6, .ref q7, .ref q8, .int v_6, .int ph, .int rd, .int th, .int lm, .int sh, .long tm, .long sn])), (q1, .inl (cA, 64, .inl M)), (q2, .inl (cA, 64, .inl N)), (q3, .inl (cA, 64, .inl C)), (q4, .inl (cA, 4, .inl (upd R v_2.toNatClampNeg ((R v_2.toNatClampNeg) - (R v_3.toNatClampNeg))))), (q5, .inl (cJ, 8, .inr (.inl G))), (q6, .inl (cZ, 8, .inl E)), (q7, .inl (cZ, 8, .inl F)), (q8, .inl (cA, 8, .inl T))] H := hP
    have hD : va_D A [(h0, .inr (1, [.ref q1, .ref q2, .ref q3, .ref q4, .ref q5, .ref q6, .ref q7, .ref q8, .int v_6, .int ph, .int rd, .int th, .int lm, .int sh, .long tm, .long sn])), (q1, .inl (cA, 64, .inl M)), (q2, .inl (cA, 64, .inl N)), (q3, .inl (cA, 64, .inl C)), (q4, .inl (cA, 4, .inl (upd R v_2.toNatClampNeg ((R v_2.toNatClampNeg) - (R v_3.toNatClampNeg))))), (q5, .inl (cJ, 8, .inr (.inl G))), (q6, .inl (cZ, 8, .inl E)), (q7, .inl (cZ, 8, .inl F)), (q8, .inl (cA, 8, .inl T))] := hD
    have z_13 : (M, N, C, upd R v_2.toNatClampNeg ((R v_2.toNatClampNeg) - (R v_3.toNatClampNeg)), G, E, F, T, v_6, ph, rd, th, lm, sh, tm, sn) = mr_step (M, N, C, R, G, E, F, T, pc, ph, rd, th, lm, sh, tm, sn) := by
      subst ev_6
      subst ev_5
      subst ev_4
      subst ev_3
      subst ev_2
      subst ev_1
      show _ = mr_go (M pc.toNatClampNeg &&& 7) (M pc.toNatClampNeg) (M, N, C, R, G, E, F, T, pc, ph, rd, th, lm, sh, tm, sn)
      rw [o_7]
      rfl
    exact W.vret hx hb hr (fun t ht hW => ⟨⟨(M, N, C, upd R v_2.toNatClampNeg ((R v_2.toNatClampNeg) - (R v_3.toNatClampNeg)), G, E, F, T, v_6, ph, rd, th, lm, sh, tm, sn), rfl, z_13, by rw [ht]; exact hP, va_K.moved hW.alike hK, hD⟩, hS.F ht⟩) hS.2.2 dX1_step_302
  · refine lv_tableIn (off := 164) (tgt := 224) hx hb dX1_step_60 (by rw [o_7]; decide) (by rw [o_7]; decide) (by rw [o_7]; rfl) (by decide) ?_
    refine lv_aload_n hx hb dX1_step_224 rfl (lv_at hl 6 rfl) ?_
    refine va_get (D := (dC, dI)) (ci := 1) (v := .ref q4) (C := RX1) (T := TX1) (N := 16) hx hb hts inw_X1_step hown hK hP 0 rfl rfl 3 (by decide) (hts (.fieldLink RX1 19 "MigratorModel" "reg" "[I") (by decide +kernel)) (fun _ h9 => h9) rfl dX1_step_225 ?_
    refine lv_iload_n hx hb dX1_step_228 rfl (lv_at hl 4 rfl) ?_
    refine va_iald hx hb hK hP 4 0 rfl rfl (by rw [ev_2]; exact in_3 _) dX1_step_229 ?_
    refine lv_if_eq (tgt := 296) hx hb dX1_step_230 (by decide) (fun c_14 => ?_) (fun c_14 => ?_)
    · refine lv_aload_n hx hb dX1_step_296 rfl (lv_at hl 6 rfl) ?_
      refine lv_iload hx hb dX1_step_297 (lv_at hl 0 rfl) ?_
      refine va_put (D := (dC, dI)) (ci := 1) (v := .int v_6) (ty := .int) (C := RX1) (T := TX1) (N := 16) hx hb hts inw_X1_step tyX1 tyX1_ok nmX1 hown hK hP hD hS 0 rfl rfl 8 (by decide) (hts (.fieldLink RX1 56 "MigratorModel" "pc" "I") (by decide +kernel)) (fun _ h9 => h9) rfl (by decide +kernel) rfl rfl (Nat.le_of_ble_eq_true rfl) dX1_step_299 (fun H locs hP hD hS => ?_)
      have hP : va_P (dC, dI) vwCl [(h0, .inr (1, [.ref q1, .ref q2, .ref q3, .ref q4, .ref q5, .ref q6, .ref q7, .ref q8, .int v_6, .int ph, .int rd, .int th, .int lm, .int sh, .long tm, .long sn])), (q1, .inl (cA, 64, .inl M)), (q2, .inl (cA, 64, .inl N)), (q3, .inl (cA, 64, .inl C)), (q4, .inl (cA, 4, .inl R)), (q5, .inl (cJ, 8, .inr (.inl G))), (q6, .inl (cZ, 8, .inl E)), (q7, .inl (cZ, 8, .inl F)), (q8, .inl (cA, 8, .inl T))] H := hP
      have hD : va_D A [(h0, .inr (1, [.ref q1, .ref q2, .ref q3, .ref q4, .ref q5, .ref q6, .ref q7, .ref q8, .int v_6, .int ph, .int rd, .int th, .int lm, .int sh, .long tm, .long sn])), (q1, .inl (cA, 64, .inl M)), (q2, .inl (cA, 64, .inl N)), (q3, .inl (cA, 64, .inl C)), (q4, .inl (cA, 4, .inl R)), (q5, .inl (cJ, 8, .inr (.inl G))), (q6, .inl (cZ, 8, .inl E)), (q7, .inl (cZ, 8, .inl F)), (q8, .inl (cA, 8, .inl T))] := hD
      have z_15 : (M, N, C, R, G, E, F, T, v_6, ph, rd, th, lm, sh, tm, sn) = mr_step (M, N, C, R, G, E, F, T, pc, ph, rd, th, lm, sh, tm, sn) := by
        subst ev_6
        subst ev_5
        subst ev_4
        subst ev_3
        subst ev_2
        subst ev_1
        show _ = mr_go (M pc.toNatClampNeg &&& 7) (M pc.toNatClampNeg) (M, N, C, R, G, E, F, T, pc, ph, rd, th, lm, sh, tm, sn)
        rw [o_7]
        show _ = (M, N, C, R, G, E, F, T, (if R (mg_a (M pc.toNatClampNeg)).toNatClampNeg = 0 then (pc + 1) &&& 63 else mg_k (M pc.toNatClampNeg) &&& 63), ph, rd, th, lm, sh, tm, sn)
        rw [if_pos c_14]
      exact W.vret hx hb hr (fun t ht hW => ⟨⟨(M, N, C, R, G, E, F, T, v_6, ph, rd, th, lm, sh, tm, sn), rfl, z_15, by rw [ht]; exact hP, va_K.moved hW.alike hK, hD⟩, hS.F ht⟩) hS.2.2 dX1_step_302
    · refine lv_iload hx hb dX1_step_233 (lv_at hl 2 rfl) ?_
      refine lv_bipush (v := 63) hx hb dX1_step_235 (by decide) ?_
      refine lv_iand hx hb dX1_step_237 ?_
      refine lv_topi (fun v_16 ev_16 => ?_)
      refine lv_istore (lv' := [(6, .int v_16), (5, .int v_5), (4, .int v_4), (3, .int v_3), (2, .int v_2), (1, .int v_1), (0, .ref h0)]) hx hb dX1_step_238 hl (by decide) rfl (fun ls hl => ?_)
      refine lv_goto (tgt := 296) hx hb dX1_step_240 (by decide) ?_
      refine lv_aload_n hx hb dX1_step_296 rfl (lv_at hl 6 rfl) ?_
      refine lv_iload hx hb dX1_step_297 (lv_at hl 0 rfl) ?_
      refine va_put (D := (dC, dI)) (ci := 1) (v := .int v_16) (ty := .int) (C := RX1) (T := TX1) (N := 16) hx hb hts inw_X1_step tyX1 tyX1_ok nmX1 hown hK hP hD hS 0 rfl rfl 8 (by decide) (hts (.fieldLink RX1 56 "MigratorModel" "pc" "I") (by decide +kernel)) (fun _ h9 => h9) rfl (by decide +kernel) rfl rfl (Nat.le_of_ble_eq_true rfl) dX1_step_299 (fun H locs hP hD hS => ?_)
      have hP : va_P (dC, dI) vwCl [(h0, .inr (1, [.ref q1, .ref q2, .ref q3, .ref q4, .ref q5, .ref q6, .ref q7, .ref q8, .int v_16, .int ph, .int rd, .int th, .int lm, .int sh, .long tm, .long sn])), (q1, .inl (cA, 64, .inl M)), (q2, .inl (cA, 64, .inl N)), (q3, .inl (cA, 64, .inl C)), (q4, .inl (cA, 4, .inl R)), (q5, .inl (cJ, 8, .inr (.inl G))), (q6, .inl (cZ, 8, .inl E)), (q7, .inl (cZ, 8, .inl F)), (q8, .inl (cA, 8, .inl T))] H := hP
      have hD : va_D A [(h0, .inr (1, [.ref q1, .ref q2, .ref q3, .ref q4, .ref q5, .ref q6, .ref q7, .ref q8, .int v_16, .int ph, .int rd, .int th, .int lm, .int sh, .long tm, .long sn])), (q1, .inl (cA, 64, .inl M)), (q2, .inl (cA, 64, .inl N)), (q3, .inl (cA, 64, .inl C)), (q4, .inl (cA, 4, .inl R)), (q5, .inl (cJ, 8, .inr (.inl G))), (q6, .inl (cZ, 8, .inl E)), (q7, .inl (cZ, 8, .inl F)), (q8, .inl (cA, 8, .inl T))] := hD
      have z_17 : (M, N, C, R, G, E, F, T, v_16, ph, rd, th, lm, sh, tm, sn) = mr_step (M, N, C, R, G, E, F, T, pc, ph, rd, th, lm, sh, tm, sn) := by
        subst ev_16
        subst ev_6
        subst ev_5
        subst ev_4
        subst ev_3
        subst ev_2
        subst ev_1
        show _ = mr_go (M pc.toNatClampNeg &&& 7) (M pc.toNatClampNeg) (M, N, C, R, G, E, F, T, pc, ph, rd, th, lm, sh, tm, sn)
        rw [o_7]
        show _ = (M, N, C, R, G, E, F, T, (if R (mg_a (M pc.toNatClampNeg)).toNatClampNeg = 0 then (pc + 1) &&& 63 else mg_k (M pc.toNatClampNeg) &&& 63), ph, rd, th, lm, sh, tm, sn)
        rw [if_neg c_14]
      exact W.vret hx hb hr (fun t ht hW => ⟨⟨(M, N, C, R, G, E, F, T, v_16, ph, rd, th, lm, sh, tm, sn), rfl, z_17, by rw [ht]; exact hP, va_K.moved hW.alike hK, hD⟩, hS.F ht⟩) hS.2.2 dX1_step_302
  · refine lv_tableOut (tgt := 243) hx hb dX1_step_60 (by rw [o_7]; decide) (by decide) ?_
    refine lv_bipush (v := 7) hx hb dX1_step_243 (by decide) ?_
    refine lv_istore (lv' := [(7, .int 7), (6, .int v_6), (5, .int v_5), (4, .int v_4), (3, .int v_3), (2, .int v_2), (1, .int v_1), (0, .ref h0)]) hx hb dX1_step_245 hl (by decide) rfl (fun ls hl => ?_)
    have loop : ∀ (Q0 : State → Prop), (∀ (Tx : Nat → Int32) (H : Heap) (locs : List Loc) (ls : Array Slot), Tx = mr_sf 0 T → va_P (dC, dI) vwCl [(h0, .inr (1, [.ref q1, .ref q2, .ref q3, .ref q4, .ref q5, .ref q6, .ref q7, .ref q8, .int pc, .int ph, .int rd, .int th, .int lm, .int sh, .long tm, .long sn])), (q1, .inl (cA, 64, .inl M)), (q2, .inl (cA, 64, .inl N)), (q3, .inl (cA, 64, .inl C)), (q4, .inl (cA, 4, .inl R)), (q5, .inl (cJ, 8, .inr (.inl G))), (q6, .inl (cZ, 8, .inl E)), (q7, .inl (cZ, 8, .inl F)), (q8, .inl (cA, 8, .inl Tx))] H → va_D A [(h0, .inr (1, [.ref q1, .ref q2, .ref q3, .ref q4, .ref q5, .ref q6, .ref q7, .ref q8, .int pc, .int ph, .int rd, .int th, .int lm, .int sh, .long tm, .long sn])), (q1, .inl (cA, 64, .inl M)), (q2, .inl (cA, 64, .inl N)), (q3, .inl (cA, 64, .inl C)), (q4, .inl (cA, 4, .inl R)), (q5, .inl (cJ, 8, .inr (.inl G))), (q6, .inl (cZ, 8, .inl E)), (q7, .inl (cZ, 8, .inl F)), (q8, .inl (cA, 8, .inl Tx))] → va_S A s.heap H locs → lv_has ls 8 [(7, .int (nI 0)), (6, .int v_6), (5, .int v_5), (4, .int v_4), (3, .int v_3), (2, .int v_2), (1, .int v_1), (0, .ref h0)] → W p l e (headSpec wsX1_step { frames := 0, cells := 0, slots := 0, locals := 0 }).room s m ([.ref h0] : List Value).toArray below meth c H locs 0 0 Q0 (F0 m 274 ls [])) → ∀ (ix : Nat) (Tx : Nat → Int32) (H : Heap) (locs : List Loc) (ls : Array Slot), ix ≤ 7 → Tx = mr_sf ix T → va_P (dC, dI) vwCl [(h0, .inr (1, [.ref q1, .ref q2, .ref q3, .ref q4, .ref q5, .ref q6, .ref q7, .ref q8, .int pc, .int ph, .int rd, .int th, .int lm, .int sh, .long tm, .long sn])), (q1, .inl (cA, 64, .inl M)), (q2, .inl (cA, 64, .inl N)), (q3, .inl (cA, 64, .inl C)), (q4, .inl (cA, 4, .inl R)), (q5, .inl (cJ, 8, .inr (.inl G))), (q6, .inl (cZ, 8, .inl E)), (q7, .inl (cZ, 8, .inl F)), (q8, .inl (cA, 8, .inl Tx))] H → va_D A [(h0, .inr (1, [.ref q1, .ref q2, .ref q3, .ref q4, .ref q5, .ref q6, .ref q7, .ref q8, .int pc, .int ph, .int rd, .int th, .int lm, .int sh, .long tm, .long sn])), (q1, .inl (cA, 64, .inl M)), (q2, .inl (cA, 64, .inl N)), (q3, .inl (cA, 64, .inl C)), (q4, .inl (cA, 4, .inl R)), (q5, .inl (cJ, 8, .inr (.inl G))), (q6, .inl (cZ, 8, .inl E)), (q7, .inl (cZ, 8, .inl F)), (q8, .inl (cA, 8, .inl Tx))] → va_S A s.heap H locs → lv_has ls 8 [(7, .int (nI ix)), (6, .int v_6), (5, .int v_5), (4, .int v_4), (3, .int v_3), (2, .int v_2), (1, .int v_1), (0, .ref h0)] → W p l e (headSpec wsX1_step { frames := 0, cells := 0, slots := 0, locals := 0 }).room s m ([.ref h0] : List Value).toArray below meth c H locs 0 0 Q0 (F0 m 247 ls []) := by
      intro Q0 hQ ix
      induction ix with
      | zero =>
        intro Tx H locs ls hk hi0 hP hD hS hl
        refine lv_iload hx hb dX1_step_247 (lv_at hl 0 rfl) ?_
        refine lv_if_le (tgt := 274) hx hb dX1_step_249 (by decide) (fun c_118 => ?_) (fun c_118 => ?_)
        · exact hQ Tx H locs ls hi0 hP hD hS hl
        · exact absurd (by decide) c_118
      | succ ix ih =>
        intro Tx H locs ls hk hi0 hP hD hS hl
        refine lv_iload hx hb dX1_step_247 (lv_at hl 0 rfl) ?_
        refine lv_if_le (tgt := 274) hx hb dX1_step_249 (by decide) (fun c_219 => ?_) (fun c_219 => ?_)
        · exact absurd c_219 (nI_nle (by omega) (by omega))
        · refine lv_aload_n hx hb dX1_step_252 rfl (lv_at hl 7 rfl) ?_
          refine va_get (D := (dC, dI)) (ci := 1) (v := .ref q8) (C := RX1) (T := TX1) (N := 16) hx hb hts inw_X1_step hown hK hP 0 rfl rfl 7 (by decide) (hts (.fieldLink RX1 33 "MigratorModel" "told" "[I") (by decide +kernel)) (fun _ h9 => h9) rfl dX1_step_253 ?_
          refine lv_iload hx hb dX1_step_256 (lv_at hl 0 rfl) ?_
          refine lv_aload_n hx hb dX1_step_258 rfl (lv_at hl 7 rfl) ?_
          refine va_get (D := (dC, dI)) (ci := 1) (v := .ref q8) (C := RX1) (T := TX1) (N := 16) hx hb hts inw_X1_step hown hK hP 0 rfl rfl 7 (by decide) (hts (.fieldLink RX1 33 "MigratorModel" "told" "[I") (by decide +kernel)) (fun _ h9 => h9) rfl dX1_step_259 ?_
          refine lv_iload hx hb dX1_step_262 (lv_at hl 0 rfl) ?_
          refine lv_iconst (v := 1) hx hb dX1_step_264 (by decide) ?_
          refine lv_isub hx hb dX1_step_265 ?_
          refine va_iald hx hb hK hP 8 0 rfl rfl (by rw [nI_pred]; exact vp_in_nI (show ix < 8 by omega) (by decide)) dX1_step_266 ?_
          refine va_iast hx hb hK hP hD hS 8 0 rfl rfl (vp_in_nI (show ix + 1 < 8 by omega) (by decide)) dX1_step_267 (fun H locs hP hD hS => ?_)
          have hP : va_P (dC, dI) vwCl [(h0, .inr (1, [.ref q1, .ref q2, .ref q3, .ref q4, .ref q5, .ref q6, .ref q7, .ref q8, .int pc, .int ph, .int rd, .int th, .int lm, .int sh, .long tm, .long sn])), (q1, .inl (cA, 64, .inl M)), (q2, .inl (cA, 64, .inl N)), (q3, .inl (cA, 64, .inl C)), (q4, .inl (cA, 4, .inl R)), (q5, .inl (cJ, 8, .inr (.inl G))), (q6, .inl (cZ, 8, .inl E)), (q7, .inl (cZ, 8, .inl F)), (q8, .inl (cA, 8, .inl (upd Tx (nI (ix + 1)).toNatClampNeg (Tx ((nI (ix + 1)) - 1).toNatClampNeg))))] H := hP
          have hD : va_D A [(h0, .inr (1, [.ref q1, .ref q2, .ref q3, .ref q4, .ref q5, .ref q6, .ref q7, .ref q8, .int pc, .int ph, .int rd, .int th, .int lm, .int sh, .long tm, .long sn])), (q1, .inl (cA, 64, .inl M)), (q2, .inl (cA, 64, .inl N)), (q3, .inl (cA, 64, .inl C)), (q4, .inl (cA, 4, .inl R)), (q5, .inl (cJ, 8, .inr (.inl G))), (q6, .inl (cZ, 8, .inl E)), (q7, .inl (cZ, 8, .inl F)), (q8, .inl (cA, 8, .inl (upd Tx (nI (ix + 1)).toNatClampNeg (Tx ((nI (ix + 1)) - 1).toNatClampNeg))))] := hD
          refine lv_iinc (v := (nI (ix + 1)) + (-1)) (lv' := [(7, .int ((nI (ix + 1)) + (-1))), (6, .int v_6), (5, .int v_5), (4, .int v_4), (3, .int v_3), (2, .int v_2), (1, .int v_1), (0, .ref h0)]) hx hb dX1_step_268 hl (k := 0) rfl rfl (by decide) rfl (fun ls hl => ?_)
          refine lv_goto (tgt := 247) hx hb dX1_step_271 (by decide) ?_
          refine ih _ H locs ls (by omega) ?_ hP hD hS (by rw [← pk_m1 ix]; exact lv_sub hl [0, 1, 2, 3, 4, 5, 6, 7] rfl)
          rw [nI_clamp (by omega), nI_pred, nI_clamp (by omega), hi0]
          exact mr_sf_s ix (by omega) T
    refine loop _ (fun Tx H locs ls hi0 hP hD hS hl => ?_) 7 T _ _ _ (by omega) (mr_sf_7 T).symm hP hD hS hl
    refine lv_aload_n hx hb dX1_step_274 rfl (lv_at hl 7 rfl) ?_
    refine va_get (D := (dC, dI)) (ci := 1) (v := .ref q8) (C := RX1) (T := TX1) (N := 16) hx hb hts inw_X1_step hown hK hP 0 rfl rfl 7 (by decide) (hts (.fieldLink RX1 33 "MigratorModel" "told" "[I") (by decide +kernel)) (fun _ h9 => h9) rfl dX1_step_275 ?_
    refine lv_iconst (v := 0) hx hb dX1_step_278 (by decide) ?_
    refine lv_aload_n hx hb dX1_step_279 rfl (lv_at hl 7 rfl) ?_
    refine va_get (D := (dC, dI)) (ci := 1) (v := .ref q4) (C := RX1) (T := TX1) (N := 16) hx hb hts inw_X1_step hown hK hP 0 rfl rfl 3 (by decide) (hts (.fieldLink RX1 19 "MigratorModel" "reg" "[I") (by decide +kernel)) (fun _ h9 => h9) rfl dX1_step_280 ?_
    refine lv_iload_n hx hb dX1_step_283 rfl (lv_at hl 5 rfl) ?_
    refine va_iald hx hb hK hP 4 0 rfl rfl (by rw [ev_2]; exact in_3 _) dX1_step_284 ?_
    refine va_iast hx hb hK hP hD hS 8 0 rfl rfl (vp_in_nI (n := 0) (by decide) (by decide)) dX1_step_285 (fun H locs hP hD hS => ?_)
    have hP : va_P (dC, dI) vwCl [(h0, .inr (1, [.ref q1, .ref q2, .ref q3, .ref q4, .ref q5, .ref q6, .ref q7, .ref q8, .int pc, .int ph, .int rd, .int th, .int lm, .int sh, .long tm, .long sn])), (q1, .inl (cA, 64, .inl M)), (q2, .inl (cA, 64, .inl N)), (q3, .inl (cA, 64, .inl C)), (q4, .inl (cA, 4, .inl R)), (q5, .inl (cJ, 8, .inr (.inl G))), (q6, .inl (cZ, 8, .inl E)), (q7, .inl (cZ, 8, .inl F)), (q8, .inl (cA, 8, .inl (upd Tx (0 : Int32).toNatClampNeg (R v_2.toNatClampNeg))))] H := hP
    have hD : va_D A [(h0, .inr (1, [.ref q1, .ref q2, .ref q3, .ref q4, .ref q5, .ref q6, .ref q7, .ref q8, .int pc, .int ph, .int rd, .int th, .int lm, .int sh, .long tm, .long sn])), (q1, .inl (cA, 64, .inl M)), (q2, .inl (cA, 64, .inl N)), (q3, .inl (cA, 64, .inl C)), (q4, .inl (cA, 4, .inl R)), (q5, .inl (cJ, 8, .inr (.inl G))), (q6, .inl (cZ, 8, .inl E)), (q7, .inl (cZ, 8, .inl F)), (q8, .inl (cA, 8, .inl (upd Tx (0 : Int32).toNatClampNeg (R v_2.toNatClampNeg))))] := hD
    refine lv_aload_n hx hb dX1_step_286 rfl (lv_at hl 7 rfl) ?_
    refine lv_aload_n hx hb dX1_step_287 rfl (lv_at hl 7 rfl) ?_
    refine va_get (D := (dC, dI)) (ci := 1) (v := .int sh) (C := RX1) (T := TX1) (N := 16) hx hb hts inw_X1_step hown hK hP 0 rfl rfl 13 (by decide) (hts (.fieldLink RX1 59 "MigratorModel" "shows" "I") (by decide +kernel)) (fun _ h9 => h9) rfl dX1_step_288 ?_
    refine lv_iconst (v := 1) hx hb dX1_step_291 (by decide) ?_
    refine lv_iadd hx hb dX1_step_292 ?_
    refine va_put (D := (dC, dI)) (ci := 1) (v := .int (sh + 1)) (ty := .int) (C := RX1) (T := TX1) (N := 16) hx hb hts inw_X1_step tyX1 tyX1_ok nmX1 hown hK hP hD hS 0 rfl rfl 13 (by decide) (hts (.fieldLink RX1 59 "MigratorModel" "shows" "I") (by decide +kernel)) (fun _ h9 => h9) rfl (by decide +kernel) rfl rfl (Nat.le_of_ble_eq_true rfl) dX1_step_293 (fun H locs hP hD hS => ?_)
    have hP : va_P (dC, dI) vwCl [(h0, .inr (1, [.ref q1, .ref q2, .ref q3, .ref q4, .ref q5, .ref q6, .ref q7, .ref q8, .int pc, .int ph, .int rd, .int th, .int lm, .int (sh + 1), .long tm, .long sn])), (q1, .inl (cA, 64, .inl M)), (q2, .inl (cA, 64, .inl N)), (q3, .inl (cA, 64, .inl C)), (q4, .inl (cA, 4, .inl R)), (q5, .inl (cJ, 8, .inr (.inl G))), (q6, .inl (cZ, 8, .inl E)), (q7, .inl (cZ, 8, .inl F)), (q8, .inl (cA, 8, .inl (upd Tx (0 : Int32).toNatClampNeg (R v_2.toNatClampNeg))))] H := hP
    have hD : va_D A [(h0, .inr (1, [.ref q1, .ref q2, .ref q3, .ref q4, .ref q5, .ref q6, .ref q7, .ref q8, .int pc, .int ph, .int rd, .int th, .int lm, .int (sh + 1), .long tm, .long sn])), (q1, .inl (cA, 64, .inl M)), (q2, .inl (cA, 64, .inl N)), (q3, .inl (cA, 64, .inl C)), (q4, .inl (cA, 4, .inl R)), (q5, .inl (cJ, 8, .inr (.inl G))), (q6, .inl (cZ, 8, .inl E)), (q7, .inl (cZ, 8, .inl F)), (q8, .inl (cA, 8, .inl (upd Tx (0 : Int32).toNatClampNeg (R v_2.toNatClampNeg))))] := hD
    refine lv_aload_n hx hb dX1_step_296 rfl (lv_at hl 7 rfl) ?_
    refine lv_iload hx hb dX1_step_297 (lv_at hl 1 rfl) ?_
    refine va_put (D := (dC, dI)) (ci := 1) (v := .int v_6) (ty := .int) (C := RX1) (T := TX1) (N := 16) hx hb hts inw_X1_step tyX1 tyX1_ok nmX1 hown hK hP hD hS 0 rfl rfl 8 (by decide) (hts (.fieldLink RX1 56 "MigratorModel" "pc" "I") (by decide +kernel)) (fun _ h9 => h9) rfl (by decide +kernel) rfl rfl (Nat.le_of_ble_eq_true rfl) dX1_step_299 (fun H locs hP hD hS => ?_)
    have hP : va_P (dC, dI) vwCl [(h0, .inr (1, [.ref q1, .ref q2, .ref q3, .ref q4, .ref q5, .ref q6, .ref q7, .ref q8, .int v_6, .int ph, .int rd, .int th, .int lm, .int (sh + 1), .long tm, .long sn])), (q1, .inl (cA, 64, .inl M)), (q2, .inl (cA, 64, .inl N)), (q3, .inl (cA, 64, .inl C)), (q4, .inl (cA, 4, .inl R)), (q5, .inl (cJ, 8, .inr (.inl G))), (q6, .inl (cZ, 8, .inl E)), (q7, .inl (cZ, 8, .inl F)), (q8, .inl (cA, 8, .inl (upd Tx (0 : Int32).toNatClampNeg (R v_2.toNatClampNeg))))] H := hP
    have hD : va_D A [(h0, .inr (1, [.ref q1, .ref q2, .ref q3, .ref q4, .ref q5, .ref q6, .ref q7, .ref q8, .int v_6, .int ph, .int rd, .int th, .int lm, .int (sh + 1), .long tm, .long sn])), (q1, .inl (cA, 64, .inl M)), (q2, .inl (cA, 64, .inl N)), (q3, .inl (cA, 64, .inl C)), (q4, .inl (cA, 4, .inl R)), (q5, .inl (cJ, 8, .inr (.inl G))), (q6, .inl (cZ, 8, .inl E)), (q7, .inl (cZ, 8, .inl F)), (q8, .inl (cA, 8, .inl (upd Tx (0 : Int32).toNatClampNeg (R v_2.toNatClampNeg))))] := hD
    have z_320 : (M, N, C, R, G, E, F, upd Tx (0 : Int32).toNatClampNeg (R v_2.toNatClampNeg), v_6, ph, rd, th, lm, sh + 1, tm, sn) = mr_step (M, N, C, R, G, E, F, T, pc, ph, rd, th, lm, sh, tm, sn) := by
      subst hi0
      subst ev_6
      subst ev_5
      subst ev_4
      subst ev_3
      subst ev_2
      subst ev_1
      show _ = mr_go (M pc.toNatClampNeg &&& 7) (M pc.toNatClampNeg) (M, N, C, R, G, E, F, T, pc, ph, rd, th, lm, sh, tm, sn)
      rw [o_7]
      rfl
    exact W.vret hx hb hr (fun t ht hW => ⟨⟨(M, N, C, R, G, E, F, upd Tx (0 : Int32).toNatClampNeg (R v_2.toNatClampNeg), v_6, ph, rd, th, lm, sh + 1, tm, sn), rfl, z_320, by rw [ht]; exact hP, va_K.moved hW.alike hK, hD⟩, hS.F ht⟩) hS.2.2 dX1_step_302
end
section
theorem mr_wr_01 {F : Nat → Int32} (hF : ∀ j, F j = 0 ∨ F j = 1) (G : Nat → Int64) (sn : Int64) (i : Nat) : ∀ j, mr_wr G sn i F j = 0 ∨ mr_wr G sn i F j = 1 := by
  intro j
  unfold mr_wr
  by_cases h : j < i
  · rw [if_pos h]
    by_cases h2 : sn < G j
    · rw [if_pos h2]; exact Or.inr rfl
    · rw [if_neg h2]; exact Or.inl rfl
  · rw [if_neg h]; exact hF j
theorem mr_dt_1 {G : Nat → Int64} {F : Nat → Int32} {ph : Int32} {sn : Int64} {i : Nat} (hp : ph = 1) (hi : i < 8) : (mr_ip (nI i) ∧ mr_dt G F ph sn (nI i)) ↔ sn < G i := by
  unfold mr_ip mr_dt
  rw [nI_clamp (by omega)]
  constructor
  · rintro ⟨-, h | h⟩
    · exact h.2
    · exact absurd hp h.2.1
  · intro h
    exact ⟨⟨nI_pos (by omega), (show ¬ nI 7 < nI i from nI_nlt (by omega) (by omega))⟩, Or.inl ⟨hp, h⟩⟩
theorem inw_X1_run : ∀ w ∈ wsX10, w ∈ wsX1_run := fun _ h => List.mem_cons_of_mem _ (List.mem_append_right _ h)
set_option maxHeartbeats 4000000 in
set_option maxRecDepth 100000 in
theorem c_X1_run (l : Launch) (dC : Nat → ClassId) (dI : Nat → Nat → Nat) (h0 q1 q2 q3 q4 q5 q6 q7 q8 : Nat) (cA cJ cZ : ClassId) (M N C R : Nat → Int32) (G : Nat → Int64) (E F T : Nat → Int32) (pc ph rd th lm sh : Int32) (tm sn : Int64) (n : Int32) (hpc : vp_in pc 64) (sz : Nat) : Met l yX1_run wsX1_run ({ frames := 1, cells := 0, slots := 0, locals := 27 }) (va_Pc [.ref h0, .int n] (fun U => U.heap.size = sz ∧ va_P (dC, dI) vwCl (mr_W h0 q1 q2 q3 q4 q5 q6 q7 q8 cA cJ cZ (M, N, C, R, G, E, F, T, pc, ph, rd, th, lm, sh, tm, sn)) U.heap ∧ va_K (dC, dI) vwCl [(cA, .int), (cJ, .long), (cZ, .boolean)] U ∧ va_D (fun _ => True) (mr_W h0 q1 q2 q3 q4 q5 q6 q7 q8 cA cJ cZ (M, N, C, R, G, E, F, T, pc, ph, rd, th, lm, sh, tm, sn)))) (va_Qi (fun (r : Int32) (u : mrS) => (r = n ∧ mr_rn ph n ∧ u = mr_it n.toNatClampNeg (M, N, C, R, G, E, F, T, pc, ph, rd, th, lm, sh, tm, sn)) ∨ (r = 0 ∧ ¬ mr_rn ph n ∧ u = (M, N, C, R, G, E, F, T, pc, ph, rd, th, lm, sh, tm, sn))) (at_mr dC dI h0 q1 q2 q3 q4 q5 q6 q7 q8 cA cJ cZ (va_A (mr_W h0 q1 q2 q3 q4 q5 q6 q7 q8 cA cJ cZ (M, N, C, R, G, E, F, T, pc, ph, rd, th, lm, sh, tm, sn)) sz)) (va_A (mr_W h0 q1 q2 q3 q4 q5 q6 q7 q8 cA cJ cZ (M, N, C, R, G, E, F, T, pc, ph, rd, th, lm, sh, tm, sn)) sz)) 0 0 (va_A (mr_W h0 q1 q2 q3 q4 q5 q6 q7 q8 cA cJ cZ (M, N, C, R, G, E, F, T, pc, ph, rd, th, lm, sh, tm, sn)) sz) := by
  refine Met.ofW (cc := cX1_run) (maxL := 3) (ret := (some .int)) (by decide) rfl ?_
  intro p e s m args below meth c s₁ B hml hv
  obtain ⟨rfl, hsz, hP, hK, hD0⟩ := hv
  have hx := B.exec
  have hb := B.bytes
  have hr := B.returns
  have hts := atoms_spec (ws := wsX1_run) B.pre
  have hown : s.vm.findClass RX1 = some m.cls := findClass_of_methodNamed B.named
  have hlocks := B.notSynchronized
  subst hsz
  have hD := hD0.self (sz := s.heap.size)
  generalize hAe : va_A (mr_W h0 q1 q2 q3 q4 q5 q6 q7 q8 cA cJ cZ (M, N, C, R, G, E, F, T, pc, ph, rd, th, lm, sh, tm, sn)) s.heap.size = A at hD ⊢
  have hA : ∀ q : Nat, s.heap.size ≤ q → A q := fun q h => by rw [← hAe]; exact Or.inr h
  have hS : va_S A s.heap s.heap [] := va_S.rf
  have hP : va_P (dC, dI) vwCl [(h0, .inr (1, [.ref q1, .ref q2, .ref q3, .ref q4, .ref q5, .ref q6, .ref q7, .ref q8, .int pc, .int ph, .int rd, .int th, .int lm, .int sh, .long tm, .long sn])), (q1, .inl (cA, 64, .inl M)), (q2, .inl (cA, 64, .inl N)), (q3, .inl (cA, 64, .inl C)), (q4, .inl (cA, 4, .inl R)), (q5, .inl (cJ, 8, .inr (.inl G))), (q6, .inl (cZ, 8, .inl E)), (q7, .inl (cZ, 8, .inl F)), (q8, .inl (cA, 8, .inl T))] s.heap := hP
  have hD : va_D A [(h0, .inr (1, [.ref q1, .ref q2, .ref q3, .ref q4, .ref q5, .ref q6, .ref q7, .ref q8, .int pc, .int ph, .int rd, .int th, .int lm, .int sh, .long tm, .long sn])), (q1, .inl (cA, 64, .inl M)), (q2, .inl (cA, 64, .inl N)), (q3, .inl (cA, 64, .inl C)), (q4, .inl (cA, 4, .inl R)), (q5, .inl (cJ, 8, .inr (.inl G))), (q6, .inl (cZ, 8, .inl E)), (q7, .inl (cZ, 8, .inl F)), (q8, .inl (cA, 8, .inl T))] := hD
  have hl := lv_entry ([.ref h0, .int n]) (n := 3) (Nat.le_of_ble_eq_true rfl)
  rw [lg_entry_eq]
  generalize (lg_sl ([.ref h0, .int n]) ++ List.replicate (3 - (lg_sl ([.ref h0, .int n])).length) Slot.unset).toArray = ls at hl ⊢
  have hl : lv_has ls 3 [(0, .ref h0), (1, .int n)] := hl
  refine lv_iload_n hx hb dX1_run_0 rfl (lv_at hl 1 rfl) ?_
  refine lv_if_lt (tgt := 19) hx hb dX1_run_1 (by decide) (fun c_1 => ?_) (fun c_1 => ?_)
  · refine lv_iconst (v := 0) hx hb dX1_run_19 (by decide) ?_
    exact W.iret (v := 0) hx hb hr (fun t ht hW => ⟨⟨0, (M, N, C, R, G, E, F, T, pc, ph, rd, th, lm, sh, tm, sn), rfl, Or.inr ⟨rfl, fun h => h.1 c_1, rfl⟩, by rw [ht]; exact hP, va_K.moved hW.alike hK, hD⟩, hS.F ht⟩) hS.2.2 dX1_run_20
  · refine lv_iload_n hx hb dX1_run_4 rfl (lv_at hl 1 rfl) ?_
    refine lv_sipush (v := 1000) hx hb dX1_run_5 (by decide) ?_
    refine lv_icmp_gt (tgt := 19) hx hb dX1_run_8 (by decide) (fun c_2 => ?_) (fun c_2 => ?_)
    · refine lv_iconst (v := 0) hx hb dX1_run_19 (by decide) ?_
      exact W.iret (v := 0) hx hb hr (fun t ht hW => ⟨⟨0, (M, N, C, R, G, E, F, T, pc, ph, rd, th, lm, sh, tm, sn), rfl, Or.inr ⟨rfl, fun h => h.2.1 c_2, rfl⟩, by rw [ht]; exact hP, va_K.moved hW.alike hK, hD⟩, hS.F ht⟩) hS.2.2 dX1_run_20
    · refine lv_aload_n hx hb dX1_run_11 rfl (lv_at hl 0 rfl) ?_
      refine va_get (D := (dC, dI)) (ci := 1) (v := .int ph) (C := RX1) (T := TX1) (N := 16) hx hb hts inw_X1_run hown hK hP 0 rfl rfl 9 (by decide) (hts (.fieldLink RX1 36 "MigratorModel" "phase" "I") (by decide +kernel)) (fun _ h9 => h9) rfl dX1_run_12 ?_
      refine lv_iconst (v := 2) hx hb dX1_run_15 (by decide) ?_
      refine lv_icmp_ne (tgt := 21) hx hb dX1_run_16 (by decide) (fun c_3 => ?_) (fun c_3 => ?_)
      · refine lv_iconst (v := 0) hx hb dX1_run_21 (by decide) ?_
        refine lv_istore_n (lv' := [(2, .int 0), (0, .ref h0), (1, .int n)]) hx hb dX1_run_22 rfl hl (by decide) rfl (fun ls hl => ?_)
        obtain ⟨Nn, hNn, eNn⟩ := nI_of c_1
        have loop : ∀ (Q0 : State → Prop), (∀ (Mx : Nat → Int32) (Nx : Nat → Int32) (Cx : Nat → Int32) (Rx : Nat → Int32) (Gx : Nat → Int64) (Ex : Nat → Int32) (Fx : Nat → Int32) (Tx : Nat → Int32) (pcx : Int32) (phx : Int32) (rdx : Int32) (thx : Int32) (lmx : Int32) (shx : Int32) (tmx : Int64) (snx : Int64) (H : Heap) (locs : List Loc) (ls : Array Slot), (Mx, Nx, Cx, Rx, Gx, Ex, Fx, Tx, pcx, phx, rdx, thx, lmx, shx, tmx, snx) = mr_it Nn (M, N, C, R, G, E, F, T, pc, ph, rd, th, lm, sh, tm, sn) → va_P (dC, dI) vwCl [(h0, .inr (1, [.ref q1, .ref q2, .ref q3, .ref q4, .ref q5, .ref q6, .ref q7, .ref q8, .int pcx, .int phx, .int rdx, .int thx, .int lmx, .int shx, .long tmx, .long snx])), (q1, .inl (cA, 64, .inl Mx)), (q2, .inl (cA, 64, .inl Nx)), (q3, .inl (cA, 64, .inl Cx)), (q4, .inl (cA, 4, .inl Rx)), (q5, .inl (cJ, 8, .inr (.inl Gx))), (q6, .inl (cZ, 8, .inl Ex)), (q7, .inl (cZ, 8, .inl Fx)), (q8, .inl (cA, 8, .inl Tx))] H → va_D A [(h0, .inr (1, [.ref q1, .ref q2, .ref q3, .ref q4, .ref q5, .ref q6, .ref q7, .ref q8, .int pcx, .int phx, .int rdx, .int thx, .int lmx, .int shx, .long tmx, .long snx])), (q1, .inl (cA, 64, .inl Mx)), (q2, .inl (cA, 64, .inl Nx)), (q3, .inl (cA, 64, .inl Cx)), (q4, .inl (cA, 4, .inl Rx)), (q5, .inl (cJ, 8, .inr (.inl Gx))), (q6, .inl (cZ, 8, .inl Ex)), (q7, .inl (cZ, 8, .inl Fx)), (q8, .inl (cA, 8, .inl Tx))] → va_S A s.heap H locs → lv_has ls 3 [(2, .int (nI Nn)), (0, .ref h0), (1, .int n)] → W p l e (headSpec wsX1_run { frames := 1, cells := 0, slots := 0, locals := 27 }).room s m ([.ref h0, .int n] : List Value).toArray below meth c H locs 0 0 Q0 (F0 m 38 ls [])) → ∀ (kx ix : Nat) (Mx : Nat → Int32) (Nx : Nat → Int32) (Cx : Nat → Int32) (Rx : Nat → Int32) (Gx : Nat → Int64) (Ex : Nat → Int32) (Fx : Nat → Int32) (Tx : Nat → Int32) (pcx : Int32) (phx : Int32) (rdx : Int32) (thx : Int32) (lmx : Int32) (shx : Int32) (tmx : Int64) (snx : Int64) (H : Heap) (locs : List Loc) (ls : Array Slot), ix + kx = Nn → (Mx, Nx, Cx, Rx, Gx, Ex, Fx, Tx, pcx, phx, rdx, thx, lmx, shx, tmx, snx) = mr_it ix (M, N, C, R, G, E, F, T, pc, ph, rd, th, lm, sh, tm, sn) → va_P (dC, dI) vwCl [(h0, .inr (1, [.ref q1, .ref q2, .ref q3, .ref q4, .ref q5, .ref q6, .ref q7, .ref q8, .int pcx, .int phx, .int rdx, .int thx, .int lmx, .int shx, .long tmx, .long snx])), (q1, .inl (cA, 64, .inl Mx)), (q2, .inl (cA, 64, .inl Nx)), (q3, .inl (cA, 64, .inl Cx)), (q4, .inl (cA, 4, .inl Rx)), (q5, .inl (cJ, 8, .inr (.inl Gx))), (q6, .inl (cZ, 8, .inl Ex)), (q7, .inl (cZ, 8, .inl Fx)), (q8, .inl (cA, 8, .inl Tx))] H → va_D A [(h0, .inr (1, [.ref q1, .ref q2, .ref q3, .ref q4, .ref q5, .ref q6, .ref q7, .ref q8, .int pcx, .int phx, .int rdx, .int thx, .int lmx, .int shx, .long tmx, .long snx])), (q1, .inl (cA, 64, .inl Mx)), (q2, .inl (cA, 64, .inl Nx)), (q3, .inl (cA, 64, .inl Cx)), (q4, .inl (cA, 4, .inl Rx)), (q5, .inl (cJ, 8, .inr (.inl Gx))), (q6, .inl (cZ, 8, .inl Ex)), (q7, .inl (cZ, 8, .inl Fx)), (q8, .inl (cA, 8, .inl Tx))] → va_S A s.heap H locs → lv_has ls 3 [(2, .int (nI ix)), (0, .ref h0), (1, .int n)] → W p l e (headSpec wsX1_run { frames := 1, cells := 0, slots := 0, locals := 27 }).room s m ([.ref h0, .int n] : List Value).toArray below meth c H locs 0 0 Q0 (F0 m 23 ls []) := by
          intro Q0 hQ kx
          induction kx with
          | zero =>
            intro ix Mx Nx Cx Rx Gx Ex Fx Tx pcx phx rdx thx lmx shx tmx snx H locs ls hk hi hP hD hS hl
            have hz : ix = Nn := by omega
            subst hz
            refine lv_iload_n hx hb dX1_run_23 rfl (lv_at hl 0 rfl) ?_
            refine lv_iload_n hx hb dX1_run_24 rfl (lv_at hl 2 rfl) ?_
            refine lv_icmp_ge (tgt := 38) hx hb dX1_run_25 (by decide) (fun c_4 => ?_) (fun c_4 => ?_)
            · exact hQ Mx Nx Cx Rx Gx Ex Fx Tx pcx phx rdx thx lmx shx tmx snx H locs ls hi hP hD hS hl
            · exact absurd (by rw [eNn]; exact nI_le (Nat.le_refl _) hNn) c_4
          | succ kx ih =>
            intro ix Mx Nx Cx Rx Gx Ex Fx Tx pcx phx rdx thx lmx shx tmx snx H locs ls hk hi hP hD hS hl
            have hpx : vp_in pcx 64 := by
              have hq := mr_it_pc ix (M, N, C, R, G, E, F, T, pc, ph, rd, th, lm, sh, tm, sn) hpc
              rw [← hi] at hq
              exact hq
            refine lv_iload_n hx hb dX1_run_23 rfl (lv_at hl 0 rfl) ?_
            refine lv_iload_n hx hb dX1_run_24 rfl (lv_at hl 2 rfl) ?_
            refine lv_icmp_ge (tgt := 38) hx hb dX1_run_25 (by decide) (fun c_104 => ?_) (fun c_104 => ?_)
            · exact absurd (by rw [eNn] at c_104; exact c_104) (nI_ge (show ix < Nn by omega) hNn)
            · refine lv_aload_n hx hb dX1_run_28 rfl (lv_at hl 1 rfl) ?_
              have hPc := hP.sub (ws' := [(h0, .inr (1, [.ref q1, .ref q2, .ref q3, .ref q4, .ref q5, .ref q6, .ref q7, .ref q8, .int pcx, .int phx, .int rdx, .int thx, .int lmx, .int shx, .long tmx, .long snx])), (q1, .inl (cA, 64, .inl Mx)), (q2, .inl (cA, 64, .inl Nx)), (q3, .inl (cA, 64, .inl Cx)), (q4, .inl (cA, 4, .inl Rx)), (q5, .inl (cJ, 8, .inr (.inl Gx))), (q6, .inl (cZ, 8, .inl Ex)), (q7, .inl (cZ, 8, .inl Fx)), (q8, .inl (cA, 8, .inl Tx))]) [0, 1, 2, 3, 4, 5, 6, 7, 8] rfl
              have hDc := hD.sub (ws' := [(h0, .inr (1, [.ref q1, .ref q2, .ref q3, .ref q4, .ref q5, .ref q6, .ref q7, .ref q8, .int pcx, .int phx, .int rdx, .int thx, .int lmx, .int shx, .long tmx, .long snx])), (q1, .inl (cA, 64, .inl Mx)), (q2, .inl (cA, 64, .inl Nx)), (q3, .inl (cA, 64, .inl Cx)), (q4, .inl (cA, 4, .inl Rx)), (q5, .inl (cJ, 8, .inr (.inl Gx))), (q6, .inl (cZ, 8, .inl Ex)), (q7, .inl (cZ, 8, .inl Fx)), (q8, .inl (cA, 8, .inl Tx))]) [0, 1, 2, 3, 4, 5, 6, 7, 8] (by decide) rfl
              have hKc := hK.sub (tys' := [(cA, .int), (cJ, .long), (cZ, .boolean)]) [0, 1, 2] rfl
              have hFc := va_free (wc := [(h0, .inr (1, [.ref q1, .ref q2, .ref q3, .ref q4, .ref q5, .ref q6, .ref q7, .ref q8, .int pcx, .int phx, .int rdx, .int thx, .int lmx, .int shx, .long tmx, .long snx])), (q1, .inl (cA, 64, .inl Mx)), (q2, .inl (cA, 64, .inl Nx)), (q3, .inl (cA, 64, .inl Cx)), (q4, .inl (cA, 4, .inl Rx)), (q5, .inl (cJ, 8, .inr (.inl Gx))), (q6, .inl (cZ, 8, .inl Ex)), (q7, .inl (cZ, 8, .inl Fx)), (q8, .inl (cA, 8, .inl Tx))]) hD hS hA [0, 1, 2, 3, 4, 5, 6, 7, 8] rfl
              refine va_callv (va_runV (As := []) (rest := []) ⟨hx, hb, hml, hown, hts⟩ (c_X1_step l dC dI h0 q1 q2 q3 q4 q5 q6 q7 q8 cA cJ cZ Mx Nx Cx Rx Gx Ex Fx Tx pcx phx rdx thx lmx shx tmx snx hpx H.size) (cwV 0 hts gX1_run_X1_step rfl rfl rfl (by decide +kernel) ⟨Nat.le_of_ble_eq_true rfl, Nat.le_of_ble_eq_true rfl⟩) ⟨fun a U g mk q => by obtain ⟨q0, q1, qP, qK, qD⟩ := q; exact ⟨q0, q1, qP, va_K.moved (u := U) (U := U.calling g mk a) (Vm.Alike.refl U.vm) qK, qD⟩, va_recv hKc hPc (ci := 1) (q0 := 0) rfl rfl, fun U hU hW => ⟨rfl, by rw [hU], by rw [hU]; exact hPc, va_K.moved hW.alike hKc, hDc.weaken (fun _ _ _ _ => trivial)⟩⟩ rfl rfl hl.1 rfl (lv_room (Nat.le_of_ble_eq_true rfl)) dX1_run_29 ⟨(Nat.zero_le _), (Nat.zero_le _)⟩) hS (fun q _ h => hFc q h) hFc (fun u_105 t H1 locs ht hvm w_106 hB hz1 hk1 hS => ?_)
              obtain ⟨M_107, N_108, C_109, R_110, G_111, E_112, F_113, T_114, pc_115, ph_116, rd_117, th_118, lm_119, sh_120, tm_121, sn_122⟩ := u_105
              obtain ⟨hP1, hK1, hD1⟩ := hB
              rw [ht] at hP1
              obtain ⟨hP, hD⟩ := va_join (wr := []) (w1 := [(h0, .inr (1, [.ref q1, .ref q2, .ref q3, .ref q4, .ref q5, .ref q6, .ref q7, .ref q8, .int pc_115, .int ph_116, .int rd_117, .int th_118, .int lm_119, .int sh_120, .long tm_121, .long sn_122])), (q1, .inl (cA, 64, .inl M_107)), (q2, .inl (cA, 64, .inl N_108)), (q3, .inl (cA, 64, .inl C_109)), (q4, .inl (cA, 4, .inl R_110)), (q5, .inl (cJ, 8, .inr (.inl G_111))), (q6, .inl (cZ, 8, .inl E_112)), (q7, .inl (cZ, 8, .inl F_113)), (q8, .inl (cA, 8, .inl T_114))]) hP hD [0, 1, 2, 3, 4, 5, 6, 7, 8] [] rfl rfl (by decide) (by decide) hk1 hFc hP1 hD1
              clear hPc hDc hFc hP1 hD1 hk1 hK1
              generalize H1 = H at hP hS ⊢
              have hP : va_P (dC, dI) vwCl [(h0, .inr (1, [.ref q1, .ref q2, .ref q3, .ref q4, .ref q5, .ref q6, .ref q7, .ref q8, .int pc_115, .int ph_116, .int rd_117, .int th_118, .int lm_119, .int sh_120, .long tm_121, .long sn_122])), (q1, .inl (cA, 64, .inl M_107)), (q2, .inl (cA, 64, .inl N_108)), (q3, .inl (cA, 64, .inl C_109)), (q4, .inl (cA, 4, .inl R_110)), (q5, .inl (cJ, 8, .inr (.inl G_111))), (q6, .inl (cZ, 8, .inl E_112)), (q7, .inl (cZ, 8, .inl F_113)), (q8, .inl (cA, 8, .inl T_114))] H := hP
              have hD : va_D A [(h0, .inr (1, [.ref q1, .ref q2, .ref q3, .ref q4, .ref q5, .ref q6, .ref q7, .ref q8, .int pc_115, .int ph_116, .int rd_117, .int th_118, .int lm_119, .int sh_120, .long tm_121, .long sn_122])), (q1, .inl (cA, 64, .inl M_107)), (q2, .inl (cA, 64, .inl N_108)), (q3, .inl (cA, 64, .inl C_109)), (q4, .inl (cA, 4, .inl R_110)), (q5, .inl (cJ, 8, .inr (.inl G_111))), (q6, .inl (cZ, 8, .inl E_112)), (q7, .inl (cZ, 8, .inl F_113)), (q8, .inl (cA, 8, .inl T_114))] := hD
              refine lv_iinc (v := (nI ix) + 1) (lv' := [(2, .int ((nI ix) + 1)), (0, .ref h0), (1, .int n)]) hx hb dX1_run_32 hl (k := 0) rfl rfl (by decide) rfl (fun ls hl => ?_)
              refine lv_goto (tgt := 23) hx hb dX1_run_35 (by decide) ?_
              exact ih (ix + 1) M_107 N_108 C_109 R_110 G_111 E_112 F_113 T_114 pc_115 ph_116 rd_117 th_118 lm_119 sh_120 tm_121 sn_122 H locs ls (by omega) (w_106.trans (by rw [hi]; rfl)) hP hD hS (by rw [← nI_1]; exact hl)
        refine loop _ (fun Mx Nx Cx Rx Gx Ex Fx Tx pcx phx rdx thx lmx shx tmx snx H locs ls hi hP hD hS hl => ?_) Nn 0 M N C R G E F T pc ph rd th lm sh tm sn _ _ _ (by omega) rfl hP hD hS hl
        refine lv_iload_n hx hb dX1_run_38 rfl (lv_at hl 2 rfl) ?_
        exact W.iret (v := n) hx hb hr (fun t ht hW => ⟨⟨n, (Mx, Nx, Cx, Rx, Gx, Ex, Fx, Tx, pcx, phx, rdx, thx, lmx, shx, tmx, snx), rfl, Or.inl ⟨rfl, ⟨c_1, c_2, c_3⟩, by rw [eNn, nI_clamp hNn]; exact hi⟩, by rw [ht]; exact hP, va_K.moved hW.alike hK, hD⟩, hS.F ht⟩) hS.2.2 dX1_run_39
      · refine lv_iconst (v := 0) hx hb dX1_run_19 (by decide) ?_
        exact W.iret (v := 0) hx hb hr (fun t ht hW => ⟨⟨0, (M, N, C, R, G, E, F, T, pc, ph, rd, th, lm, sh, tm, sn), rfl, Or.inr ⟨rfl, fun h => h.2.2 c_3, rfl⟩, by rw [ht]; exact hP, va_K.moved hW.alike hK, hD⟩, hS.F ht⟩) hS.2.2 dX1_run_20
theorem inw_X1_copy : ∀ w ∈ wsX10, w ∈ wsX1_copy := fun _ h => List.mem_cons_of_mem _ (List.mem_append_right _ h)
set_option maxHeartbeats 4000000 in
set_option maxRecDepth 100000 in
theorem c_X1_copy (l : Launch) (dC : Nat → ClassId) (dI : Nat → Nat → Nat) (h0 q1 q2 q3 q4 q5 q6 q7 q8 : Nat) (cA cJ cZ : ClassId) (M N C R : Nat → Int32) (G : Nat → Int64) (E F T : Nat → Int32) (pc ph rd th lm sh : Int32) (tm sn : Int64) (hph : ph = 0 ∨ ph = 1 ∨ ph = 2 ∨ ph = 3) (hF : ∀ j, F j = 0 ∨ F j = 1) (sz : Nat) : Met l yX1_copy wsX1_copy ({ frames := 1, cells := 0, slots := 0, locals := 21 }) (va_Pc [.ref h0] (fun U => U.heap.size = sz ∧ va_P (dC, dI) vwCl (mr_W h0 q1 q2 q3 q4 q5 q6 q7 q8 cA cJ cZ (M, N, C, R, G, E, F, T, pc, ph, rd, th, lm, sh, tm, sn)) U.heap ∧ va_K (dC, dI) vwCl [(cA, .int), (cJ, .long), (cZ, .boolean)] U ∧ va_D (fun _ => True) (mr_W h0 q1 q2 q3 q4 q5 q6 q7 q8 cA cJ cZ (M, N, C, R, G, E, F, T, pc, ph, rd, th, lm, sh, tm, sn)))) (va_Qi (fun (r : Int32) (u : mrS) => mr_cyP M N C R G E F T pc ph rd th lm sh tm sn r u) (at_mr dC dI h0 q1 q2 q3 q4 q5 q6 q7 q8 cA cJ cZ (va_A (mr_W h0 q1 q2 q3 q4 q5 q6 q7 q8 cA cJ cZ (M, N, C, R, G, E, F, T, pc, ph, rd, th, lm, sh, tm, sn)) sz)) (va_A (mr_W h0 q1 q2 q3 q4 q5 q6 q7 q8 cA cJ cZ (M, N, C, R, G, E, F, T, pc, ph, rd, th, lm, sh, tm, sn)) sz)) 0 0 (va_A (mr_W h0 q1 q2 q3 q4 q5 q6 q7 q8 cA cJ cZ (M, N, C, R, G, E, F, T, pc, ph, rd, th, lm, sh, tm, sn)) sz) := by
  refine Met.ofW (cc := cX1_copy) (maxL := 3) (ret := (some .int)) (by decide) rfl ?_
  intro p e s m args below meth c s₁ B hml hv
  obtain ⟨rfl, hsz, hP, hK, hD0⟩ := hv
  have hx := B.exec
  have hb := B.bytes
  have hr := B.returns
  have hts := atoms_spec (ws := wsX1_copy) B.pre
  have hown : s.vm.findClass RX1 = some m.cls := findClass_of_methodNamed B.named
  have hlocks := B.notSynchronized
  subst hsz
  have hD := hD0.self (sz := s.heap.size)
  generalize hAe : va_A (mr_W h0 q1 q2 q3 q4 q5 q6 q7 q8 cA cJ cZ (M, N, C, R, G, E, F, T, pc, ph, rd, th, lm, sh, tm, sn)) s.heap.size = A at hD ⊢
  have hA : ∀ q : Nat, s.heap.size ≤ q → A q := fun q h => by rw [← hAe]; exact Or.inr h
  have hS : va_S A s.heap s.heap [] := va_S.rf
  have hP : va_P (dC, dI) vwCl [(h0, .inr (1, [.ref q1, .ref q2, .ref q3, .ref q4, .ref q5, .ref q6, .ref q7, .ref q8, .int pc, .int ph, .int rd, .int th, .int lm, .int sh, .long tm, .long sn])), (q1, .inl (cA, 64, .inl M)), (q2, .inl (cA, 64, .inl N)), (q3, .inl (cA, 64, .inl C)), (q4, .inl (cA, 4, .inl R)), (q5, .inl (cJ, 8, .inr (.inl G))), (q6, .inl (cZ, 8, .inl E)), (q7, .inl (cZ, 8, .inl F)), (q8, .inl (cA, 8, .inl T))] s.heap := hP
  have hD : va_D A [(h0, .inr (1, [.ref q1, .ref q2, .ref q3, .ref q4, .ref q5, .ref q6, .ref q7, .ref q8, .int pc, .int ph, .int rd, .int th, .int lm, .int sh, .long tm, .long sn])), (q1, .inl (cA, 64, .inl M)), (q2, .inl (cA, 64, .inl N)), (q3, .inl (cA, 64, .inl C)), (q4, .inl (cA, 4, .inl R)), (q5, .inl (cJ, 8, .inr (.inl G))), (q6, .inl (cZ, 8, .inl E)), (q7, .inl (cZ, 8, .inl F)), (q8, .inl (cA, 8, .inl T))] := hD
  have hl := lv_entry ([.ref h0]) (n := 3) (Nat.le_of_ble_eq_true rfl)
  rw [lg_entry_eq]
  generalize (lg_sl ([.ref h0]) ++ List.replicate (3 - (lg_sl ([.ref h0])).length) Slot.unset).toArray = ls at hl ⊢
  have hl : lv_has ls 3 [(0, .ref h0)] := hl
  refine lv_aload_n hx hb dX1_copy_0 rfl (lv_at hl 0 rfl) ?_
  refine va_get (D := (dC, dI)) (ci := 1) (v := .int ph) (C := RX1) (T := TX1) (N := 16) hx hb hts inw_X1_copy hown hK hP 0 rfl rfl 9 (by decide) (hts (.fieldLink RX1 36 "MigratorModel" "phase" "I") (by decide +kernel)) (fun _ h9 => h9) rfl dX1_copy_1 ?_
  refine lv_if_eq (tgt := 15) hx hb dX1_copy_4 (by decide) (fun c_1 => ?_) (fun c_1 => ?_)
  · refine lv_iconst (v := (-1)) hx hb dX1_copy_15 (by decide) ?_
    exact W.iret (v := (-1)) hx hb hr (fun t ht hW => ⟨⟨(-1), (M, N, C, R, G, E, F, T, pc, ph, rd, th, lm, sh, tm, sn), rfl, Or.inl ⟨Or.inl c_1, rfl, rfl⟩, by rw [ht]; exact hP, va_K.moved hW.alike hK, hD⟩, hS.F ht⟩) hS.2.2 dX1_copy_16
  · refine lv_aload_n hx hb dX1_copy_7 rfl (lv_at hl 0 rfl) ?_
    refine va_get (D := (dC, dI)) (ci := 1) (v := .int ph) (C := RX1) (T := TX1) (N := 16) hx hb hts inw_X1_copy hown hK hP 0 rfl rfl 9 (by decide) (hts (.fieldLink RX1 36 "MigratorModel" "phase" "I") (by decide +kernel)) (fun _ h9 => h9) rfl dX1_copy_8 ?_
    refine lv_iconst (v := 3) hx hb dX1_copy_11 (by decide) ?_
    refine lv_icmp_ne (tgt := 17) hx hb dX1_copy_12 (by decide) (fun c_2 => ?_) (fun c_2 => ?_)
    · refine lv_iconst (v := 0) hx hb dX1_copy_17 (by decide) ?_
      refine lv_istore_n (lv' := [(1, .int 0), (0, .ref h0)]) hx hb dX1_copy_18 rfl hl (by decide) rfl (fun ls hl => ?_)
      have loop : (∀  (H : Heap) (locs : List Loc) (ls : Array Slot), (∀ k, k < 8 → E k = 0) → va_P (dC, dI) vwCl [(h0, .inr (1, [.ref q1, .ref q2, .ref q3, .ref q4, .ref q5, .ref q6, .ref q7, .ref q8, .int pc, .int ph, .int rd, .int th, .int lm, .int sh, .long tm, .long sn])), (q1, .inl (cA, 64, .inl M)), (q2, .inl (cA, 64, .inl N)), (q3, .inl (cA, 64, .inl C)), (q4, .inl (cA, 4, .inl R)), (q5, .inl (cJ, 8, .inr (.inl G))), (q6, .inl (cZ, 8, .inl E)), (q7, .inl (cZ, 8, .inl F)), (q8, .inl (cA, 8, .inl T))] H → va_D A [(h0, .inr (1, [.ref q1, .ref q2, .ref q3, .ref q4, .ref q5, .ref q6, .ref q7, .ref q8, .int pc, .int ph, .int rd, .int th, .int lm, .int sh, .long tm, .long sn])), (q1, .inl (cA, 64, .inl M)), (q2, .inl (cA, 64, .inl N)), (q3, .inl (cA, 64, .inl C)), (q4, .inl (cA, 4, .inl R)), (q5, .inl (cJ, 8, .inr (.inl G))), (q6, .inl (cZ, 8, .inl E)), (q7, .inl (cZ, 8, .inl F)), (q8, .inl (cA, 8, .inl T))] → va_S A s.heap H locs → lv_has ls 3 [(1, .int (nI 8)), (0, .ref h0)] → W p l e (headSpec wsX1_copy { frames := 1, cells := 0, slots := 0, locals := 21 }).room s m ([.ref h0] : List Value).toArray below meth c H locs 0 0 (MQ below (va_Qi (fun (r : Int32) (u : mrS) => mr_cyP M N C R G E F T pc ph rd th lm sh tm sn r u) (at_mr dC dI h0 q1 q2 q3 q4 q5 q6 q7 q8 cA cJ cZ A) A) ([.ref h0] : List Value).toArray s 0 0 A) (F0 m 85 ls [])) → ∀ (kx ix : Nat)  (H : Heap) (locs : List Loc) (ls : Array Slot), ix + kx = 8 → (∀ k, k < ix → E k = 0) → va_P (dC, dI) vwCl [(h0, .inr (1, [.ref q1, .ref q2, .ref q3, .ref q4, .ref q5, .ref q6, .ref q7, .ref q8, .int pc, .int ph, .int rd, .int th, .int lm, .int sh, .long tm, .long sn])), (q1, .inl (cA, 64, .inl M)), (q2, .inl (cA, 64, .inl N)), (q3, .inl (cA, 64, .inl C)), (q4, .inl (cA, 4, .inl R)), (q5, .inl (cJ, 8, .inr (.inl G))), (q6, .inl (cZ, 8, .inl E)), (q7, .inl (cZ, 8, .inl F)), (q8, .inl (cA, 8, .inl T))] H → va_D A [(h0, .inr (1, [.ref q1, .ref q2, .ref q3, .ref q4, .ref q5, .ref q6, .ref q7, .ref q8, .int pc, .int ph, .int rd, .int th, .int lm, .int sh, .long tm, .long sn])), (q1, .inl (cA, 64, .inl M)), (q2, .inl (cA, 64, .inl N)), (q3, .inl (cA, 64, .inl C)), (q4, .inl (cA, 4, .inl R)), (q5, .inl (cJ, 8, .inr (.inl G))), (q6, .inl (cZ, 8, .inl E)), (q7, .inl (cZ, 8, .inl F)), (q8, .inl (cA, 8, .inl T))] → va_S A s.heap H locs → lv_has ls 3 [(1, .int (nI ix)), (0, .ref h0)] → W p l e (headSpec wsX1_copy { frames := 1, cells := 0, slots := 0, locals := 21 }).room s m ([.ref h0] : List Value).toArray below meth c H locs 0 0 (MQ below (va_Qi (fun (r : Int32) (u : mrS) => mr_cyP M N C R G E F T pc ph rd th lm sh tm sn r u) (at_mr dC dI h0 q1 q2 q3 q4 q5 q6 q7 q8 cA cJ cZ A) A) ([.ref h0] : List Value).toArray s 0 0 A) (F0 m 19 ls []) := by
        intro hQ kx
        induction kx with
        | zero =>
          intro ix  H locs ls hk hi0 hP hD hS hl
          have hz : ix = 8 := by omega
          subst hz
          refine lv_iload_n hx hb dX1_copy_19 rfl (lv_at hl 0 rfl) ?_
          refine lv_bipush (v := 8) hx hb dX1_copy_20 (by decide) ?_
          refine lv_icmp_ge (tgt := 85) hx hb dX1_copy_22 (by decide) (fun c_103 => ?_) (fun c_103 => ?_)
          · exact hQ  H locs ls hi0 hP hD hS hl
          · exact absurd (by decide) c_103
        | succ kx ih =>
          intro ix  H locs ls hk hi0 hP hD hS hl
          have hix : ix < 8 := by omega
          refine lv_iload_n hx hb dX1_copy_19 rfl (lv_at hl 0 rfl) ?_
          refine lv_bipush (v := 8) hx hb dX1_copy_20 (by decide) ?_
          refine lv_icmp_ge (tgt := 85) hx hb dX1_copy_22 (by decide) (fun c_204 => ?_) (fun c_204 => ?_)
          · exact absurd c_204 (nI_ge hix (by decide))
          · refine lv_aload_n hx hb dX1_copy_25 rfl (lv_at hl 1 rfl) ?_
            refine va_get (D := (dC, dI)) (ci := 1) (v := .ref q6) (C := RX1) (T := TX1) (N := 16) hx hb hts inw_X1_copy hown hK hP 0 rfl rfl 5 (by decide) (hts (.fieldLink RX1 26 "MigratorModel" "want" "[Z") (by decide +kernel)) (fun _ h9 => h9) rfl dX1_copy_26 ?_
            refine lv_iload_n hx hb dX1_copy_29 rfl (lv_at hl 0 rfl) ?_
            refine va_zald hx hb hK hP 6 2 rfl rfl (vp_in_nI hix (by decide)) dX1_copy_30 ?_
            refine lv_if_eq (tgt := 79) hx hb dX1_copy_31 (by decide) (fun c_205 => ?_) (fun c_205 => ?_)
            · refine lv_iinc (v := (nI ix) + 1) (lv' := [(1, .int ((nI ix) + 1)), (0, .ref h0)]) hx hb dX1_copy_79 hl (k := 0) rfl rfl (by decide) rfl (fun ls hl => ?_)
              refine lv_goto (tgt := 19) hx hb dX1_copy_82 (by decide) ?_
              exact ih (ix + 1)  H locs ls (by omega) (lt_s (p := fun k => E k = 0) hi0 (by rw [← nI_clamp (show ix < 2 ^ 31 by omega)]; exact c_205)) hP hD hS (by rw [← nI_1]; exact lv_sub hl [0, 1] rfl)
            · refine lv_iconst (v := 0) hx hb dX1_copy_34 (by decide) ?_
              refine lv_istore_n (lv' := [(2, .int 0), (1, .int (nI ix)), (0, .ref h0)]) hx hb dX1_copy_35 rfl hl (by decide) rfl (fun ls hl => ?_)
              have loopI : ∀ (Q0 : State → Prop), (∀ (Cx : Nat → Int32) (H : Heap) (locs : List Loc) (ls : Array Slot), Cx = mr_cw M (8 * ix) 8 C → va_P (dC, dI) vwCl [(h0, .inr (1, [.ref q1, .ref q2, .ref q3, .ref q4, .ref q5, .ref q6, .ref q7, .ref q8, .int pc, .int ph, .int rd, .int th, .int lm, .int sh, .long tm, .long sn])), (q1, .inl (cA, 64, .inl M)), (q2, .inl (cA, 64, .inl N)), (q3, .inl (cA, 64, .inl Cx)), (q4, .inl (cA, 4, .inl R)), (q5, .inl (cJ, 8, .inr (.inl G))), (q6, .inl (cZ, 8, .inl E)), (q7, .inl (cZ, 8, .inl F)), (q8, .inl (cA, 8, .inl T))] H → va_D A [(h0, .inr (1, [.ref q1, .ref q2, .ref q3, .ref q4, .ref q5, .ref q6, .ref q7, .ref q8, .int pc, .int ph, .int rd, .int th, .int lm, .int sh, .long tm, .long sn])), (q1, .inl (cA, 64, .inl M)), (q2, .inl (cA, 64, .inl N)), (q3, .inl (cA, 64, .inl Cx)), (q4, .inl (cA, 4, .inl R)), (q5, .inl (cJ, 8, .inr (.inl G))), (q6, .inl (cZ, 8, .inl E)), (q7, .inl (cZ, 8, .inl F)), (q8, .inl (cA, 8, .inl T))] → va_S A s.heap H locs → lv_has ls 3 [(2, .int (nI 8)), (1, .int (nI ix)), (0, .ref h0)] → W p l e (headSpec wsX1_copy { frames := 1, cells := 0, slots := 0, locals := 21 }).room s m ([.ref h0] : List Value).toArray below meth c H locs 0 0 Q0 (F0 m 70 ls [])) → ∀ (lx jx : Nat) (Cx : Nat → Int32) (H : Heap) (locs : List Loc) (ls : Array Slot), jx + lx = 8 → Cx = mr_cw M (8 * ix) jx C → va_P (dC, dI) vwCl [(h0, .inr (1, [.ref q1, .ref q2, .ref q3, .ref q4, .ref q5, .ref q6, .ref q7, .ref q8, .int pc, .int ph, .int rd, .int th, .int lm, .int sh, .long tm, .long sn])), (q1, .inl (cA, 64, .inl M)), (q2, .inl (cA, 64, .inl N)), (q3, .inl (cA, 64, .inl Cx)), (q4, .inl (cA, 4, .inl R)), (q5, .inl (cJ, 8, .inr (.inl G))), (q6, .inl (cZ, 8, .inl E)), (q7, .inl (cZ, 8, .inl F)), (q8, .inl (cA, 8, .inl T))] H → va_D A [(h0, .inr (1, [.ref q1, .ref q2, .ref q3, .ref q4, .ref q5, .ref q6, .ref q7, .ref q8, .int pc, .int ph, .int rd, .int th, .int lm, .int sh, .long tm, .long sn])), (q1, .inl (cA, 64, .inl M)), (q2, .inl (cA, 64, .inl N)), (q3, .inl (cA, 64, .inl Cx)), (q4, .inl (cA, 4, .inl R)), (q5, .inl (cJ, 8, .inr (.inl G))), (q6, .inl (cZ, 8, .inl E)), (q7, .inl (cZ, 8, .inl F)), (q8, .inl (cA, 8, .inl T))] → va_S A s.heap H locs → lv_has ls 3 [(2, .int (nI jx)), (1, .int (nI ix)), (0, .ref h0)] → W p l e (headSpec wsX1_copy { frames := 1, cells := 0, slots := 0, locals := 21 }).room s m ([.ref h0] : List Value).toArray below meth c H locs 0 0 Q0 (F0 m 36 ls []) := by
                intro Q0 hQ lx
                induction lx with
                | zero =>
                  intro jx Cx H locs ls hk hj0 hP hD hS hl
                  have hz : jx = 8 := by omega
                  subst hz
                  refine lv_iload_n hx hb dX1_copy_36 rfl (lv_at hl 0 rfl) ?_
                  refine lv_bipush (v := 8) hx hb dX1_copy_37 (by decide) ?_
                  refine lv_icmp_ge (tgt := 70) hx hb dX1_copy_39 (by decide) (fun c_306 => ?_) (fun c_306 => ?_)
                  · exact hQ Cx H locs ls hj0 hP hD hS hl
                  · exact absurd (by decide) c_306
                | succ lx ih =>
                  intro jx Cx H locs ls hk hj0 hP hD hS hl
                  have hjx : jx < 8 := by omega
                  refine lv_iload_n hx hb dX1_copy_36 rfl (lv_at hl 0 rfl) ?_
                  refine lv_bipush (v := 8) hx hb dX1_copy_37 (by decide) ?_
                  refine lv_icmp_ge (tgt := 70) hx hb dX1_copy_39 (by decide) (fun c_407 => ?_) (fun c_407 => ?_)
                  · exact absurd c_407 (nI_ge hjx (by decide))
                  · refine lv_aload_n hx hb dX1_copy_42 rfl (lv_at hl 2 rfl) ?_
                    refine va_get (D := (dC, dI)) (ci := 1) (v := .ref q3) (C := RX1) (T := TX1) (N := 16) hx hb hts inw_X1_copy hown hK hP 0 rfl rfl 2 (by decide) (hts (.fieldLink RX1 16 "MigratorModel" "copied" "[I") (by decide +kernel)) (fun _ h9 => h9) rfl dX1_copy_43 ?_
                    refine lv_bipush (v := 8) hx hb dX1_copy_46 (by decide) ?_
                    refine lv_iload_n hx hb dX1_copy_48 rfl (lv_at hl 1 rfl) ?_
                    refine lv_imul hx hb dX1_copy_49 ?_
                    refine lv_iload_n hx hb dX1_copy_50 rfl (lv_at hl 0 rfl) ?_
                    refine lv_iadd hx hb dX1_copy_51 ?_
                    refine lv_aload_n hx hb dX1_copy_52 rfl (lv_at hl 2 rfl) ?_
                    refine va_get (D := (dC, dI)) (ci := 1) (v := .ref q1) (C := RX1) (T := TX1) (N := 16) hx hb hts inw_X1_copy hown hK hP 0 rfl rfl 0 (by decide) (hts (.fieldLink RX1 7 "MigratorModel" "real" "[I") (by decide +kernel)) (fun _ h9 => h9) rfl dX1_copy_53 ?_
                    refine lv_bipush (v := 8) hx hb dX1_copy_56 (by decide) ?_
                    refine lv_iload_n hx hb dX1_copy_58 rfl (lv_at hl 1 rfl) ?_
                    refine lv_imul hx hb dX1_copy_59 ?_
                    refine lv_iload_n hx hb dX1_copy_60 rfl (lv_at hl 0 rfl) ?_
                    refine lv_iadd hx hb dX1_copy_61 ?_
                    refine va_iald hx hb hK hP 1 0 rfl rfl (in_ix hix hjx) dX1_copy_62 ?_
                    refine va_iast hx hb hK hP hD hS 3 0 rfl rfl (in_ix hix hjx) dX1_copy_63 (fun H locs hP hD hS => ?_)
                    have hP : va_P (dC, dI) vwCl [(h0, .inr (1, [.ref q1, .ref q2, .ref q3, .ref q4, .ref q5, .ref q6, .ref q7, .ref q8, .int pc, .int ph, .int rd, .int th, .int lm, .int sh, .long tm, .long sn])), (q1, .inl (cA, 64, .inl M)), (q2, .inl (cA, 64, .inl N)), (q3, .inl (cA, 64, .inl (upd Cx ((8 * (nI ix)) + (nI jx)).toNatClampNeg (M ((8 * (nI ix)) + (nI jx)).toNatClampNeg)))), (q4, .inl (cA, 4, .inl R)), (q5, .inl (cJ, 8, .inr (.inl G))), (q6, .inl (cZ, 8, .inl E)), (q7, .inl (cZ, 8, .inl F)), (q8, .inl (cA, 8, .inl T))] H := hP
                    have hD : va_D A [(h0, .inr (1, [.ref q1, .ref q2, .ref q3, .ref q4, .ref q5, .ref q6, .ref q7, .ref q8, .int pc, .int ph, .int rd, .int th, .int lm, .int sh, .long tm, .long sn])), (q1, .inl (cA, 64, .inl M)), (q2, .inl (cA, 64, .inl N)), (q3, .inl (cA, 64, .inl (upd Cx ((8 * (nI ix)) + (nI jx)).toNatClampNeg (M ((8 * (nI ix)) + (nI jx)).toNatClampNeg)))), (q4, .inl (cA, 4, .inl R)), (q5, .inl (cJ, 8, .inr (.inl G))), (q6, .inl (cZ, 8, .inl E)), (q7, .inl (cZ, 8, .inl F)), (q8, .inl (cA, 8, .inl T))] := hD
                    refine lv_iinc (v := (nI jx) + 1) (lv' := [(2, .int ((nI jx) + 1)), (1, .int (nI ix)), (0, .ref h0)]) hx hb dX1_copy_64 hl (k := 0) rfl rfl (by decide) rfl (fun ls hl => ?_)
                    refine lv_goto (tgt := 36) hx hb dX1_copy_67 (by decide) ?_
                    exact ih (jx + 1) _ H locs ls (by omega) (by rw [hj0, cl_ix hix hjx]; exact mr_cw_s M (8 * ix) jx C) hP hD hS (by rw [← nI_1]; exact lv_sub hl [0, 1, 2] rfl)
              refine loopI _ (fun Cx H locs ls hj0 hP hD hS hl => ?_) 8 0 C _ _ _ (by omega) (mr_cw_0 M (8 * ix) C).symm hP hD hS (lv_sub hl [0, 1, 2] rfl)
              refine lv_aload_n hx hb dX1_copy_70 rfl (lv_at hl 2 rfl) ?_
              refine va_get (D := (dC, dI)) (ci := 1) (v := .ref q6) (C := RX1) (T := TX1) (N := 16) hx hb hts inw_X1_copy hown hK hP 0 rfl rfl 5 (by decide) (hts (.fieldLink RX1 26 "MigratorModel" "want" "[Z") (by decide +kernel)) (fun _ h9 => h9) rfl dX1_copy_71 ?_
              refine lv_iload_n hx hb dX1_copy_74 rfl (lv_at hl 1 rfl) ?_
              refine lv_iconst (v := 0) hx hb dX1_copy_75 (by decide) ?_
              refine va_zast hx hb hK hP hD hS 6 2 rfl rfl (vp_in_nI hix (by decide)) dX1_copy_76 (fun H locs hP hD hS => ?_)
              have hP : va_P (dC, dI) vwCl [(h0, .inr (1, [.ref q1, .ref q2, .ref q3, .ref q4, .ref q5, .ref q6, .ref q7, .ref q8, .int pc, .int ph, .int rd, .int th, .int lm, .int sh, .long tm, .long sn])), (q1, .inl (cA, 64, .inl M)), (q2, .inl (cA, 64, .inl N)), (q3, .inl (cA, 64, .inl Cx)), (q4, .inl (cA, 4, .inl R)), (q5, .inl (cJ, 8, .inr (.inl G))), (q6, .inl (cZ, 8, .inl (upd E (nI ix).toNatClampNeg (vp_nar .boolean 0)))), (q7, .inl (cZ, 8, .inl F)), (q8, .inl (cA, 8, .inl T))] H := hP
              have hD : va_D A [(h0, .inr (1, [.ref q1, .ref q2, .ref q3, .ref q4, .ref q5, .ref q6, .ref q7, .ref q8, .int pc, .int ph, .int rd, .int th, .int lm, .int sh, .long tm, .long sn])), (q1, .inl (cA, 64, .inl M)), (q2, .inl (cA, 64, .inl N)), (q3, .inl (cA, 64, .inl Cx)), (q4, .inl (cA, 4, .inl R)), (q5, .inl (cJ, 8, .inr (.inl G))), (q6, .inl (cZ, 8, .inl (upd E (nI ix).toNatClampNeg (vp_nar .boolean 0)))), (q7, .inl (cZ, 8, .inl F)), (q8, .inl (cA, 8, .inl T))] := hD
              refine lv_iload_n hx hb dX1_copy_77 rfl (lv_at hl 1 rfl) ?_
              exact W.iret (v := nI ix) hx hb hr (fun t ht hW => ⟨⟨nI ix, (M, N, Cx, R, G, upd E (nI ix).toNatClampNeg (vp_nar .boolean 0), F, T, pc, ph, rd, th, lm, sh, tm, sn), rfl, Or.inr (Or.inl ⟨c_1, c_2, ix, hix, (by rw [← nI_clamp (show ix < 2 ^ 31 by omega)]; exact c_205), hi0, rfl, by rw [hj0, nI_clamp (by omega)]; rfl⟩), by rw [ht]; exact hP, va_K.moved hW.alike hK, hD⟩, hS.F ht⟩) hS.2.2 dX1_copy_78
      refine loop (fun  H locs ls hi0 hP hD hS hl => ?_) 8 0  _ _ _ (by omega) (fun k h => absurd h (Nat.not_lt_zero k)) hP hD hS (lv_sub hl [0, 1] rfl)
      refine lv_aload_n hx hb dX1_copy_85 rfl (lv_at hl 1 rfl) ?_
      refine va_get (D := (dC, dI)) (ci := 1) (v := .int ph) (C := RX1) (T := TX1) (N := 16) hx hb hts inw_X1_copy hown hK hP 0 rfl rfl 9 (by decide) (hts (.fieldLink RX1 36 "MigratorModel" "phase" "I") (by decide +kernel)) (fun _ h9 => h9) rfl dX1_copy_86 ?_
      refine lv_iconst (v := 2) hx hb dX1_copy_89 (by decide) ?_
      refine lv_icmp_ne (tgt := 127) hx hb dX1_copy_90 (by decide) (fun c_608 => ?_) (fun c_608 => ?_)
      · refine lv_iconst (v := 0) hx hb dX1_copy_127 (by decide) ?_
        refine lv_istore_n (lv' := [(1, .int 0), (0, .ref h0)]) hx hb dX1_copy_128 rfl hl (by decide) rfl (fun ls hl => ?_)
        refine lv_iconst (v := 0) hx hb dX1_copy_129 (by decide) ?_
        refine lv_istore_n (lv' := [(2, .int 0), (1, .int 0), (0, .ref h0)]) hx hb dX1_copy_130 rfl hl (by decide) rfl (fun ls hl => ?_)
        have hp1 : ph = 1 := hph.elim (fun h => absurd h c_1) (fun h => h.elim id (fun h => h.elim (fun h => absurd h c_608) (fun h => absurd h c_2)))
        have loopB : ∀ (Q0 : State → Prop), (∀ (Ex : Nat → Int32) (Fx : Nat → Int32) (cx : Int32) (H : Heap) (locs : List Loc) (ls : Array Slot), Ex = mr_wr G sn 8 E → Fx = mr_wr G sn 8 F → cx = nI (mr_ct G sn 8) → va_P (dC, dI) vwCl [(h0, .inr (1, [.ref q1, .ref q2, .ref q3, .ref q4, .ref q5, .ref q6, .ref q7, .ref q8, .int pc, .int ph, .int rd, .int th, .int lm, .int sh, .long tm, .long sn])), (q1, .inl (cA, 64, .inl M)), (q2, .inl (cA, 64, .inl N)), (q3, .inl (cA, 64, .inl C)), (q4, .inl (cA, 4, .inl R)), (q5, .inl (cJ, 8, .inr (.inl G))), (q6, .inl (cZ, 8, .inl Ex)), (q7, .inl (cZ, 8, .inl Fx)), (q8, .inl (cA, 8, .inl T))] H → va_D A [(h0, .inr (1, [.ref q1, .ref q2, .ref q3, .ref q4, .ref q5, .ref q6, .ref q7, .ref q8, .int pc, .int ph, .int rd, .int th, .int lm, .int sh, .long tm, .long sn])), (q1, .inl (cA, 64, .inl M)), (q2, .inl (cA, 64, .inl N)), (q3, .inl (cA, 64, .inl C)), (q4, .inl (cA, 4, .inl R)), (q5, .inl (cJ, 8, .inr (.inl G))), (q6, .inl (cZ, 8, .inl Ex)), (q7, .inl (cZ, 8, .inl Fx)), (q8, .inl (cA, 8, .inl T))] → va_S A s.heap H locs → lv_has ls 3 [(2, .int (nI 8)), (1, .int cx), (0, .ref h0)] → W p l e (headSpec wsX1_copy { frames := 1, cells := 0, slots := 0, locals := 21 }).room s m ([.ref h0] : List Value).toArray below meth c H locs 0 0 Q0 (F0 m 179 ls [])) → ∀ (lx jx : Nat) (Ex : Nat → Int32) (Fx : Nat → Int32) (cx : Int32) (H : Heap) (locs : List Loc) (ls : Array Slot), jx + lx = 8 → Ex = mr_wr G sn jx E → Fx = mr_wr G sn jx F → cx = nI (mr_ct G sn jx) → va_P (dC, dI) vwCl [(h0, .inr (1, [.ref q1, .ref q2, .ref q3, .ref q4, .ref q5, .ref q6, .ref q7, .ref q8, .int pc, .int ph, .int rd, .int th, .int lm, .int sh, .long tm, .long sn])), (q1, .inl (cA, 64, .inl M)), (q2, .inl (cA, 64, .inl N)), (q3, .inl (cA, 64, .inl C)), (q4, .inl (cA, 4, .inl R)), (q5, .inl (cJ, 8, .inr (.inl G))), (q6, .inl (cZ, 8, .inl Ex)), (q7, .inl (cZ, 8, .inl Fx)), (q8, .inl (cA, 8, .inl T))] H → va_D A [(h0, .inr (1, [.ref q1, .ref q2, .ref q3, .ref q4, .ref q5, .ref q6, .ref q7, .ref q8, .int pc, .int ph, .int rd, .int th, .int lm, .int sh, .long tm, .long sn])), (q1, .inl (cA, 64, .inl M)), (q2, .inl (cA, 64, .inl N)), (q3, .inl (cA, 64, .inl C)), (q4, .inl (cA, 4, .inl R)), (q5, .inl (cJ, 8, .inr (.inl G))), (q6, .inl (cZ, 8, .inl Ex)), (q7, .inl (cZ, 8, .inl Fx)), (q8, .inl (cA, 8, .inl T))] → va_S A s.heap H locs → lv_has ls 3 [(2, .int (nI jx)), (1, .int cx), (0, .ref h0)] → W p l e (headSpec wsX1_copy { frames := 1, cells := 0, slots := 0, locals := 21 }).room s m ([.ref h0] : List Value).toArray below meth c H locs 0 0 Q0 (F0 m 131 ls []) := by
          intro Q0 hQ lx
          induction lx with
          | zero =>
            intro jx Ex Fx cx H locs ls hk hj0 hj1 hj2 hP hD hS hl
            have hz : jx = 8 := by omega
            subst hz
            refine lv_iload_n hx hb dX1_copy_131 rfl (lv_at hl 0 rfl) ?_
            refine lv_bipush (v := 8) hx hb dX1_copy_132 (by decide) ?_
            refine lv_icmp_ge (tgt := 179) hx hb dX1_copy_134 (by decide) (fun c_709 => ?_) (fun c_709 => ?_)
            · exact hQ Ex Fx cx H locs ls hj0 hj1 hj2 hP hD hS hl
            · exact absurd (by decide) c_709
          | succ lx ih =>
            intro jx Ex Fx cx H locs ls hk hj0 hj1 hj2 hP hD hS hl
            have hjx : jx < 8 := by omega
            refine lv_iload_n hx hb dX1_copy_131 rfl (lv_at hl 0 rfl) ?_
            refine lv_bipush (v := 8) hx hb dX1_copy_132 (by decide) ?_
            refine lv_icmp_ge (tgt := 179) hx hb dX1_copy_134 (by decide) (fun c_810 => ?_) (fun c_810 => ?_)
            · exact absurd c_810 (nI_ge hjx (by decide))
            · refine lv_aload_n hx hb dX1_copy_137 rfl (lv_at hl 2 rfl) ?_
              refine va_get (D := (dC, dI)) (ci := 1) (v := .ref q6) (C := RX1) (T := TX1) (N := 16) hx hb hts inw_X1_copy hown hK hP 0 rfl rfl 5 (by decide) (hts (.fieldLink RX1 26 "MigratorModel" "want" "[Z") (by decide +kernel)) (fun _ h9 => h9) rfl dX1_copy_138 ?_
              refine lv_iload_n hx hb dX1_copy_141 rfl (lv_at hl 0 rfl) ?_
              refine lv_aload_n hx hb dX1_copy_142 rfl (lv_at hl 2 rfl) ?_
              refine lv_iload_n hx hb dX1_copy_143 rfl (lv_at hl 0 rfl) ?_
              have hPc := hP.sub (ws' := [(h0, .inr (1, [.ref q1, .ref q2, .ref q3, .ref q4, .ref q5, .ref q6, .ref q7, .ref q8, .int pc, .int ph, .int rd, .int th, .int lm, .int sh, .long tm, .long sn])), (q1, .inl (cA, 64, .inl M)), (q2, .inl (cA, 64, .inl N)), (q3, .inl (cA, 64, .inl C)), (q4, .inl (cA, 4, .inl R)), (q5, .inl (cJ, 8, .inr (.inl G))), (q6, .inl (cZ, 8, .inl Ex)), (q7, .inl (cZ, 8, .inl Fx)), (q8, .inl (cA, 8, .inl T))]) [0, 1, 2, 3, 4, 5, 6, 7, 8] rfl
              have hDc := hD.sub (ws' := [(h0, .inr (1, [.ref q1, .ref q2, .ref q3, .ref q4, .ref q5, .ref q6, .ref q7, .ref q8, .int pc, .int ph, .int rd, .int th, .int lm, .int sh, .long tm, .long sn])), (q1, .inl (cA, 64, .inl M)), (q2, .inl (cA, 64, .inl N)), (q3, .inl (cA, 64, .inl C)), (q4, .inl (cA, 4, .inl R)), (q5, .inl (cJ, 8, .inr (.inl G))), (q6, .inl (cZ, 8, .inl Ex)), (q7, .inl (cZ, 8, .inl Fx)), (q8, .inl (cA, 8, .inl T))]) [0, 1, 2, 3, 4, 5, 6, 7, 8] (by decide) rfl
              have hKc := hK.sub (tys' := [(cA, .int), (cJ, .long), (cZ, .boolean)]) [0, 1, 2] rfl
              have hFc := va_free (wc := [(h0, .inr (1, [.ref q1, .ref q2, .ref q3, .ref q4, .ref q5, .ref q6, .ref q7, .ref q8, .int pc, .int ph, .int rd, .int th, .int lm, .int sh, .long tm, .long sn])), (q1, .inl (cA, 64, .inl M)), (q2, .inl (cA, 64, .inl N)), (q3, .inl (cA, 64, .inl C)), (q4, .inl (cA, 4, .inl R)), (q5, .inl (cJ, 8, .inr (.inl G))), (q6, .inl (cZ, 8, .inl Ex)), (q7, .inl (cZ, 8, .inl Fx)), (q8, .inl (cA, 8, .inl T))]) hD hS hA [0, 1, 2, 3, 4, 5, 6, 7, 8] rfl
              refine va_calli (va_runV (As := [.int (nI jx)]) (rest := [.int (nI jx), .ref q6]) ⟨hx, hb, hml, hown, hts⟩ (c_X1_dirty l dC dI h0 q1 q2 q3 q4 q5 q6 q7 q8 cA cJ cZ M N C R G Ex Fx T pc ph rd th lm sh tm sn (nI jx) (by rw [hj1]; exact mr_wr_01 hF G sn jx) H.size) (cwV 1 hts gX1_copy_X1_dirty rfl rfl rfl (by decide +kernel) ⟨Nat.le_of_ble_eq_true rfl, Nat.le_of_ble_eq_true rfl⟩) ⟨fun a U g mk q => by obtain ⟨q0, q1, qP, qK, qD⟩ := q; exact ⟨q0, q1, qP, va_K.moved (u := U) (U := U.calling g mk a) (Vm.Alike.refl U.vm) qK, qD⟩, va_recv hKc hPc (ci := 1) (q0 := 0) rfl rfl, fun U hU hW => ⟨rfl, by rw [hU], by rw [hU]; exact hPc, va_K.moved hW.alike hKc, hDc.weaken (fun _ _ _ _ => trivial)⟩⟩ rfl rfl hl.1 rfl (lv_room (Nat.le_of_ble_eq_true rfl)) dX1_copy_144 ⟨(Nat.zero_le _), (Nat.zero_le _)⟩) hS (fun q _ h => hFc q h) hFc (fun r_811 u_812 t H1 locs ht hvm w_813 hB hz1 hk1 hS => ?_)
              obtain ⟨w_813, e_814⟩ := w_813
              subst e_814
              obtain ⟨hP1, hK1, hD1⟩ := hB
              rw [ht] at hP1
              obtain ⟨hP, hD⟩ := va_join (wr := []) (w1 := [(h0, .inr (1, [.ref q1, .ref q2, .ref q3, .ref q4, .ref q5, .ref q6, .ref q7, .ref q8, .int pc, .int ph, .int rd, .int th, .int lm, .int sh, .long tm, .long sn])), (q1, .inl (cA, 64, .inl M)), (q2, .inl (cA, 64, .inl N)), (q3, .inl (cA, 64, .inl C)), (q4, .inl (cA, 4, .inl R)), (q5, .inl (cJ, 8, .inr (.inl G))), (q6, .inl (cZ, 8, .inl Ex)), (q7, .inl (cZ, 8, .inl Fx)), (q8, .inl (cA, 8, .inl T))]) hP hD [0, 1, 2, 3, 4, 5, 6, 7, 8] [] rfl rfl (by decide) (by decide) hk1 hFc hP1 hD1
              clear hPc hDc hFc hP1 hD1 hk1 hK1
              generalize H1 = H at hP hS ⊢
              have hP : va_P (dC, dI) vwCl [(h0, .inr (1, [.ref q1, .ref q2, .ref q3, .ref q4, .ref q5, .ref q6, .ref q7, .ref q8, .int pc, .int ph, .int rd, .int th, .int lm, .int sh, .long tm, .long sn])), (q1, .inl (cA, 64, .inl M)), (q2, .inl (cA, 64, .inl N)), (q3, .inl (cA, 64, .inl C)), (q4, .inl (cA, 4, .inl R)), (q5, .inl (cJ, 8, .inr (.inl G))), (q6, .inl (cZ, 8, .inl Ex)), (q7, .inl (cZ, 8, .inl Fx)), (q8, .inl (cA, 8, .inl T))] H := hP
              have hD : va_D A [(h0, .inr (1, [.ref q1, .ref q2, .ref q3, .ref q4, .ref q5, .ref q6, .ref q7, .ref q8, .int pc, .int ph, .int rd, .int th, .int lm, .int sh, .long tm, .long sn])), (q1, .inl (cA, 64, .inl M)), (q2, .inl (cA, 64, .inl N)), (q3, .inl (cA, 64, .inl C)), (q4, .inl (cA, 4, .inl R)), (q5, .inl (cJ, 8, .inr (.inl G))), (q6, .inl (cZ, 8, .inl Ex)), (q7, .inl (cZ, 8, .inl Fx)), (q8, .inl (cA, 8, .inl T))] := hD
              rcases w_813 with ⟨rfl, a_815⟩ | ⟨rfl, a_815⟩
              · have b_816 : sn < G jx := (mr_dt_1 hp1 hjx).mp a_815
                refine va_zast hx hb hK hP hD hS 6 2 rfl rfl (vp_in_nI hjx (by decide)) dX1_copy_147 (fun H locs hP hD hS => ?_)
                have hP : va_P (dC, dI) vwCl [(h0, .inr (1, [.ref q1, .ref q2, .ref q3, .ref q4, .ref q5, .ref q6, .ref q7, .ref q8, .int pc, .int ph, .int rd, .int th, .int lm, .int sh, .long tm, .long sn])), (q1, .inl (cA, 64, .inl M)), (q2, .inl (cA, 64, .inl N)), (q3, .inl (cA, 64, .inl C)), (q4, .inl (cA, 4, .inl R)), (q5, .inl (cJ, 8, .inr (.inl G))), (q6, .inl (cZ, 8, .inl (upd Ex (nI jx).toNatClampNeg (vp_nar .boolean 1)))), (q7, .inl (cZ, 8, .inl Fx)), (q8, .inl (cA, 8, .inl T))] H := hP
                have hD : va_D A [(h0, .inr (1, [.ref q1, .ref q2, .ref q3, .ref q4, .ref q5, .ref q6, .ref q7, .ref q8, .int pc, .int ph, .int rd, .int th, .int lm, .int sh, .long tm, .long sn])), (q1, .inl (cA, 64, .inl M)), (q2, .inl (cA, 64, .inl N)), (q3, .inl (cA, 64, .inl C)), (q4, .inl (cA, 4, .inl R)), (q5, .inl (cJ, 8, .inr (.inl G))), (q6, .inl (cZ, 8, .inl (upd Ex (nI jx).toNatClampNeg (vp_nar .boolean 1)))), (q7, .inl (cZ, 8, .inl Fx)), (q8, .inl (cA, 8, .inl T))] := hD
                refine lv_aload_n hx hb dX1_copy_148 rfl (lv_at hl 2 rfl) ?_
                refine va_get (D := (dC, dI)) (ci := 1) (v := .ref q7) (C := RX1) (T := TX1) (N := 16) hx hb hts inw_X1_copy hown hK hP 0 rfl rfl 6 (by decide) (hts (.fieldLink RX1 30 "MigratorModel" "left" "[Z") (by decide +kernel)) (fun _ h9 => h9) rfl dX1_copy_149 ?_
                refine lv_iload_n hx hb dX1_copy_152 rfl (lv_at hl 0 rfl) ?_
                refine lv_aload_n hx hb dX1_copy_153 rfl (lv_at hl 2 rfl) ?_
                refine va_get (D := (dC, dI)) (ci := 1) (v := .ref q6) (C := RX1) (T := TX1) (N := 16) hx hb hts inw_X1_copy hown hK hP 0 rfl rfl 5 (by decide) (hts (.fieldLink RX1 26 "MigratorModel" "want" "[Z") (by decide +kernel)) (fun _ h9 => h9) rfl dX1_copy_154 ?_
                refine lv_iload_n hx hb dX1_copy_157 rfl (lv_at hl 0 rfl) ?_
                refine va_zald hx hb hK hP 6 2 rfl rfl (vp_in_nI hjx (by decide)) dX1_copy_158 ?_
                refine va_zast hx hb hK hP hD hS 7 2 rfl rfl (vp_in_nI hjx (by decide)) dX1_copy_159 (fun H locs hP hD hS => ?_)
                have hP : va_P (dC, dI) vwCl [(h0, .inr (1, [.ref q1, .ref q2, .ref q3, .ref q4, .ref q5, .ref q6, .ref q7, .ref q8, .int pc, .int ph, .int rd, .int th, .int lm, .int sh, .long tm, .long sn])), (q1, .inl (cA, 64, .inl M)), (q2, .inl (cA, 64, .inl N)), (q3, .inl (cA, 64, .inl C)), (q4, .inl (cA, 4, .inl R)), (q5, .inl (cJ, 8, .inr (.inl G))), (q6, .inl (cZ, 8, .inl (upd Ex (nI jx).toNatClampNeg (vp_nar .boolean 1)))), (q7, .inl (cZ, 8, .inl (upd Fx (nI jx).toNatClampNeg (vp_nar .boolean ((upd Ex (nI jx).toNatClampNeg (vp_nar .boolean 1)) (nI jx).toNatClampNeg))))), (q8, .inl (cA, 8, .inl T))] H := hP
                have hD : va_D A [(h0, .inr (1, [.ref q1, .ref q2, .ref q3, .ref q4, .ref q5, .ref q6, .ref q7, .ref q8, .int pc, .int ph, .int rd, .int th, .int lm, .int sh, .long tm, .long sn])), (q1, .inl (cA, 64, .inl M)), (q2, .inl (cA, 64, .inl N)), (q3, .inl (cA, 64, .inl C)), (q4, .inl (cA, 4, .inl R)), (q5, .inl (cJ, 8, .inr (.inl G))), (q6, .inl (cZ, 8, .inl (upd Ex (nI jx).toNatClampNeg (vp_nar .boolean 1)))), (q7, .inl (cZ, 8, .inl (upd Fx (nI jx).toNatClampNeg (vp_nar .boolean ((upd Ex (nI jx).toNatClampNeg (vp_nar .boolean 1)) (nI jx).toNatClampNeg))))), (q8, .inl (cA, 8, .inl T))] := hD
                refine lv_aload_n hx hb dX1_copy_160 rfl (lv_at hl 2 rfl) ?_
                refine va_get (D := (dC, dI)) (ci := 1) (v := .ref q6) (C := RX1) (T := TX1) (N := 16) hx hb hts inw_X1_copy hown hK hP 0 rfl rfl 5 (by decide) (hts (.fieldLink RX1 26 "MigratorModel" "want" "[Z") (by decide +kernel)) (fun _ h9 => h9) rfl dX1_copy_161 ?_
                refine lv_iload_n hx hb dX1_copy_164 rfl (lv_at hl 0 rfl) ?_
                refine va_zald hx hb hK hP 6 2 rfl rfl (vp_in_nI hjx (by decide)) dX1_copy_165 ?_
                refine lv_if_eq (tgt := 173) hx hb dX1_copy_166 (by decide) (fun c_817 => ?_) (fun c_817 => ?_)
                · exact absurd (pk_us.symm.trans c_817) (by decide)
                · refine lv_iload_n hx hb dX1_copy_169 rfl (lv_at hl 1 rfl) ?_
                  refine lv_iconst (v := 1) hx hb dX1_copy_170 (by decide) ?_
                  refine lv_iadd hx hb dX1_copy_171 ?_
                  refine lv_topi (fun v_818 ev_818 => ?_)
                  refine lv_istore_n (lv' := [(1, .int v_818), (2, .int (nI jx)), (0, .ref h0)]) hx hb dX1_copy_172 rfl hl (by decide) rfl (fun ls hl => ?_)
                  refine lv_iinc (v := (nI jx) + 1) (lv' := [(2, .int ((nI jx) + 1)), (1, .int v_818), (0, .ref h0)]) hx hb dX1_copy_173 hl (k := 1) rfl rfl (by decide) rfl (fun ls hl => ?_)
                  refine lv_goto (tgt := 131) hx hb dX1_copy_176 (by decide) ?_
                  exact ih (jx + 1) _ _ v_818 H locs ls (by omega) (by rw [hj0, nI_clamp (by omega)]; exact mr_wr_s G sn jx E _ (by rw [if_pos b_816]; decide)) (by rw [pk_us, hj1, nI_clamp (by omega)]; exact mr_wr_s G sn jx F _ (by rw [if_pos b_816]; decide)) (by rw [ev_818, hj2, show mr_ct G sn (jx + 1) = mr_ct G sn jx + (if sn < G jx then 1 else 0) from rfl, if_pos b_816]; exact nI_1 _) hP hD hS (by rw [← nI_1]; exact lv_sub hl [0, 1, 2] rfl)
              · have b_819 : ¬ sn < G jx := fun q => a_815 ((mr_dt_1 hp1 hjx).mpr q)
                refine va_zast hx hb hK hP hD hS 6 2 rfl rfl (vp_in_nI hjx (by decide)) dX1_copy_147 (fun H locs hP hD hS => ?_)
                have hP : va_P (dC, dI) vwCl [(h0, .inr (1, [.ref q1, .ref q2, .ref q3, .ref q4, .ref q5, .ref q6, .ref q7, .ref q8, .int pc, .int ph, .int rd, .int th, .int lm, .int sh, .long tm, .long sn])), (q1, .inl (cA, 64, .inl M)), (q2, .inl (cA, 64, .inl N)), (q3, .inl (cA, 64, .inl C)), (q4, .inl (cA, 4, .inl R)), (q5, .inl (cJ, 8, .inr (.inl G))), (q6, .inl (cZ, 8, .inl (upd Ex (nI jx).toNatClampNeg (vp_nar .boolean 0)))), (q7, .inl (cZ, 8, .inl Fx)), (q8, .inl (cA, 8, .inl T))] H := hP
                have hD : va_D A [(h0, .inr (1, [.ref q1, .ref q2, .ref q3, .ref q4, .ref q5, .ref q6, .ref q7, .ref q8, .int pc, .int ph, .int rd, .int th, .int lm, .int sh, .long tm, .long sn])), (q1, .inl (cA, 64, .inl M)), (q2, .inl (cA, 64, .inl N)), (q3, .inl (cA, 64, .inl C)), (q4, .inl (cA, 4, .inl R)), (q5, .inl (cJ, 8, .inr (.inl G))), (q6, .inl (cZ, 8, .inl (upd Ex (nI jx).toNatClampNeg (vp_nar .boolean 0)))), (q7, .inl (cZ, 8, .inl Fx)), (q8, .inl (cA, 8, .inl T))] := hD
                refine lv_aload_n hx hb dX1_copy_148 rfl (lv_at hl 2 rfl) ?_
                refine va_get (D := (dC, dI)) (ci := 1) (v := .ref q7) (C := RX1) (T := TX1) (N := 16) hx hb hts inw_X1_copy hown hK hP 0 rfl rfl 6 (by decide) (hts (.fieldLink RX1 30 "MigratorModel" "left" "[Z") (by decide +kernel)) (fun _ h9 => h9) rfl dX1_copy_149 ?_
                refine lv_iload_n hx hb dX1_copy_152 rfl (lv_at hl 0 rfl) ?_
                refine lv_aload_n hx hb dX1_copy_153 rfl (lv_at hl 2 rfl) ?_
                refine va_get (D := (dC, dI)) (ci := 1) (v := .ref q6) (C := RX1) (T := TX1) (N := 16) hx hb hts inw_X1_copy hown hK hP 0 rfl rfl 5 (by decide) (hts (.fieldLink RX1 26 "MigratorModel" "want" "[Z") (by decide +kernel)) (fun _ h9 => h9) rfl dX1_copy_154 ?_
                refine lv_iload_n hx hb dX1_copy_157 rfl (lv_at hl 0 rfl) ?_
                refine va_zald hx hb hK hP 6 2 rfl rfl (vp_in_nI hjx (by decide)) dX1_copy_158 ?_
                refine va_zast hx hb hK hP hD hS 7 2 rfl rfl (vp_in_nI hjx (by decide)) dX1_copy_159 (fun H locs hP hD hS => ?_)
                have hP : va_P (dC, dI) vwCl [(h0, .inr (1, [.ref q1, .ref q2, .ref q3, .ref q4, .ref q5, .ref q6, .ref q7, .ref q8, .int pc, .int ph, .int rd, .int th, .int lm, .int sh, .long tm, .long sn])), (q1, .inl (cA, 64, .inl M)), (q2, .inl (cA, 64, .inl N)), (q3, .inl (cA, 64, .inl C)), (q4, .inl (cA, 4, .inl R)), (q5, .inl (cJ, 8, .inr (.inl G))), (q6, .inl (cZ, 8, .inl (upd Ex (nI jx).toNatClampNeg (vp_nar .boolean 0)))), (q7, .inl (cZ, 8, .inl (upd Fx (nI jx).toNatClampNeg (vp_nar .boolean ((upd Ex (nI jx).toNatClampNeg (vp_nar .boolean 0)) (nI jx).toNatClampNeg))))), (q8, .inl (cA, 8, .inl T))] H := hP
                have hD : va_D A [(h0, .inr (1, [.ref q1, .ref q2, .ref q3, .ref q4, .ref q5, .ref q6, .ref q7, .ref q8, .int pc, .int ph, .int rd, .int th, .int lm, .int sh, .long tm, .long sn])), (q1, .inl (cA, 64, .inl M)), (q2, .inl (cA, 64, .inl N)), (q3, .inl (cA, 64, .inl C)), (q4, .inl (cA, 4, .inl R)), (q5, .inl (cJ, 8, .inr (.inl G))), (q6, .inl (cZ, 8, .inl (upd Ex (nI jx).toNatClampNeg (vp_nar .boolean 0)))), (q7, .inl (cZ, 8, .inl (upd Fx (nI jx).toNatClampNeg (vp_nar .boolean ((upd Ex (nI jx).toNatClampNeg (vp_nar .boolean 0)) (nI jx).toNatClampNeg))))), (q8, .inl (cA, 8, .inl T))] := hD
                refine lv_aload_n hx hb dX1_copy_160 rfl (lv_at hl 2 rfl) ?_
                refine va_get (D := (dC, dI)) (ci := 1) (v := .ref q6) (C := RX1) (T := TX1) (N := 16) hx hb hts inw_X1_copy hown hK hP 0 rfl rfl 5 (by decide) (hts (.fieldLink RX1 26 "MigratorModel" "want" "[Z") (by decide +kernel)) (fun _ h9 => h9) rfl dX1_copy_161 ?_
                refine lv_iload_n hx hb dX1_copy_164 rfl (lv_at hl 0 rfl) ?_
                refine va_zald hx hb hK hP 6 2 rfl rfl (vp_in_nI hjx (by decide)) dX1_copy_165 ?_
                refine lv_if_eq (tgt := 173) hx hb dX1_copy_166 (by decide) (fun c_820 => ?_) (fun c_820 => ?_)
                · refine lv_iinc (v := (nI jx) + 1) (lv' := [(2, .int ((nI jx) + 1)), (1, .int cx), (0, .ref h0)]) hx hb dX1_copy_173 hl (k := 0) rfl rfl (by decide) rfl (fun ls hl => ?_)
                  refine lv_goto (tgt := 131) hx hb dX1_copy_176 (by decide) ?_
                  exact ih (jx + 1) _ _ cx H locs ls (by omega) (by rw [hj0, nI_clamp (by omega)]; exact mr_wr_s G sn jx E _ (by rw [if_neg b_819]; decide)) (by rw [pk_us, hj1, nI_clamp (by omega)]; exact mr_wr_s G sn jx F _ (by rw [if_neg b_819]; decide)) (by rw [hj2, show mr_ct G sn (jx + 1) = mr_ct G sn jx + (if sn < G jx then 1 else 0) from rfl, if_neg b_819]; rfl) hP hD hS (by rw [← nI_1]; exact lv_sub hl [0, 1, 2] rfl)
                · exact absurd (pk_us.trans (by decide)) c_820
        refine loopB _ (fun Ex Fx cx H locs ls hj0 hj1 hj2 hP hD hS hl => ?_) 8 0 E F _ _ _ _ (by omega) (mr_wr_0 G sn E).symm (mr_wr_0 G sn F).symm rfl hP hD hS (lv_sub hl [0, 1, 2] rfl)
        refine lv_iload_n hx hb dX1_copy_179 rfl (lv_at hl 1 rfl) ?_
        refine lv_aload_n hx hb dX1_copy_180 rfl (lv_at hl 2 rfl) ?_
        refine va_get (D := (dC, dI)) (ci := 1) (v := .int th) (C := RX1) (T := TX1) (N := 16) hx hb hts inw_X1_copy hown hK hP 0 rfl rfl 11 (by decide) (hts (.fieldLink RX1 40 "MigratorModel" "threshold" "I") (by decide +kernel)) (fun _ h9 => h9) rfl dX1_copy_181 ?_
        refine lv_icmp_le (tgt := 198) hx hb dX1_copy_184 (by decide) (fun c_921 => ?_) (fun c_921 => ?_)
        · refine lv_aload_n hx hb dX1_copy_198 rfl (lv_at hl 2 rfl) ?_
          refine lv_iconst (v := 2) hx hb dX1_copy_199 (by decide) ?_
          refine va_put (D := (dC, dI)) (ci := 1) (v := .int 2) (ty := .int) (C := RX1) (T := TX1) (N := 16) hx hb hts inw_X1_copy tyX1 tyX1_ok nmX1 hown hK hP hD hS 0 rfl rfl 9 (by decide) (hts (.fieldLink RX1 36 "MigratorModel" "phase" "I") (by decide +kernel)) (fun _ h9 => h9) rfl (by decide +kernel) rfl rfl (Nat.le_of_ble_eq_true rfl) dX1_copy_200 (fun H locs hP hD hS => ?_)
          have hP : va_P (dC, dI) vwCl [(h0, .inr (1, [.ref q1, .ref q2, .ref q3, .ref q4, .ref q5, .ref q6, .ref q7, .ref q8, .int pc, .int 2, .int rd, .int th, .int lm, .int sh, .long tm, .long sn])), (q1, .inl (cA, 64, .inl M)), (q2, .inl (cA, 64, .inl N)), (q3, .inl (cA, 64, .inl C)), (q4, .inl (cA, 4, .inl R)), (q5, .inl (cJ, 8, .inr (.inl G))), (q6, .inl (cZ, 8, .inl Ex)), (q7, .inl (cZ, 8, .inl Fx)), (q8, .inl (cA, 8, .inl T))] H := hP
          have hD : va_D A [(h0, .inr (1, [.ref q1, .ref q2, .ref q3, .ref q4, .ref q5, .ref q6, .ref q7, .ref q8, .int pc, .int 2, .int rd, .int th, .int lm, .int sh, .long tm, .long sn])), (q1, .inl (cA, 64, .inl M)), (q2, .inl (cA, 64, .inl N)), (q3, .inl (cA, 64, .inl C)), (q4, .inl (cA, 4, .inl R)), (q5, .inl (cJ, 8, .inr (.inl G))), (q6, .inl (cZ, 8, .inl Ex)), (q7, .inl (cZ, 8, .inl Fx)), (q8, .inl (cA, 8, .inl T))] := hD
          refine lv_bipush (v := 33) hx hb dX1_copy_203 (by decide) ?_
          exact W.iret (v := 33) hx hb hr (fun t ht hW => ⟨⟨33, (M, N, C, R, G, Ex, Fx, T, pc, 2, rd, th, lm, sh, tm, sn), rfl, Or.inr (Or.inr (Or.inr ⟨hp1, hi0, Or.inl ⟨rfl, Or.inl (by rw [← hj2]; exact c_921), by rw [hj0, hj1]⟩⟩)), by rw [ht]; exact hP, va_K.moved hW.alike hK, hD⟩, hS.F ht⟩) hS.2.2 dX1_copy_205
        · refine lv_aload_n hx hb dX1_copy_187 rfl (lv_at hl 2 rfl) ?_
          refine va_get (D := (dC, dI)) (ci := 1) (v := .int rd) (C := RX1) (T := TX1) (N := 16) hx hb hts inw_X1_copy hown hK hP 0 rfl rfl 10 (by decide) (hts (.fieldLink RX1 46 "MigratorModel" "round" "I") (by decide +kernel)) (fun _ h9 => h9) rfl dX1_copy_188 ?_
          refine lv_aload_n hx hb dX1_copy_191 rfl (lv_at hl 2 rfl) ?_
          refine va_get (D := (dC, dI)) (ci := 1) (v := .int lm) (C := RX1) (T := TX1) (N := 16) hx hb hts inw_X1_copy hown hK hP 0 rfl rfl 12 (by decide) (hts (.fieldLink RX1 43 "MigratorModel" "limit" "I") (by decide +kernel)) (fun _ h9 => h9) rfl dX1_copy_192 ?_
          refine lv_icmp_ne (tgt := 206) hx hb dX1_copy_195 (by decide) (fun c_922 => ?_) (fun c_922 => ?_)
          · refine lv_aload_n hx hb dX1_copy_206 rfl (lv_at hl 2 rfl) ?_
            refine lv_aload_n hx hb dX1_copy_207 rfl (lv_at hl 2 rfl) ?_
            refine va_get (D := (dC, dI)) (ci := 1) (v := .int rd) (C := RX1) (T := TX1) (N := 16) hx hb hts inw_X1_copy hown hK hP 0 rfl rfl 10 (by decide) (hts (.fieldLink RX1 46 "MigratorModel" "round" "I") (by decide +kernel)) (fun _ h9 => h9) rfl dX1_copy_208 ?_
            refine lv_iconst (v := 1) hx hb dX1_copy_211 (by decide) ?_
            refine lv_iadd hx hb dX1_copy_212 ?_
            refine va_put (D := (dC, dI)) (ci := 1) (v := .int (rd + 1)) (ty := .int) (C := RX1) (T := TX1) (N := 16) hx hb hts inw_X1_copy tyX1 tyX1_ok nmX1 hown hK hP hD hS 0 rfl rfl 10 (by decide) (hts (.fieldLink RX1 46 "MigratorModel" "round" "I") (by decide +kernel)) (fun _ h9 => h9) rfl (by decide +kernel) rfl rfl (Nat.le_of_ble_eq_true rfl) dX1_copy_213 (fun H locs hP hD hS => ?_)
            have hP : va_P (dC, dI) vwCl [(h0, .inr (1, [.ref q1, .ref q2, .ref q3, .ref q4, .ref q5, .ref q6, .ref q7, .ref q8, .int pc, .int ph, .int (rd + 1), .int th, .int lm, .int sh, .long tm, .long sn])), (q1, .inl (cA, 64, .inl M)), (q2, .inl (cA, 64, .inl N)), (q3, .inl (cA, 64, .inl C)), (q4, .inl (cA, 4, .inl R)), (q5, .inl (cJ, 8, .inr (.inl G))), (q6, .inl (cZ, 8, .inl Ex)), (q7, .inl (cZ, 8, .inl Fx)), (q8, .inl (cA, 8, .inl T))] H := hP
            have hD : va_D A [(h0, .inr (1, [.ref q1, .ref q2, .ref q3, .ref q4, .ref q5, .ref q6, .ref q7, .ref q8, .int pc, .int ph, .int (rd + 1), .int th, .int lm, .int sh, .long tm, .long sn])), (q1, .inl (cA, 64, .inl M)), (q2, .inl (cA, 64, .inl N)), (q3, .inl (cA, 64, .inl C)), (q4, .inl (cA, 4, .inl R)), (q5, .inl (cJ, 8, .inr (.inl G))), (q6, .inl (cZ, 8, .inl Ex)), (q7, .inl (cZ, 8, .inl Fx)), (q8, .inl (cA, 8, .inl T))] := hD
            refine lv_aload_n hx hb dX1_copy_216 rfl (lv_at hl 2 rfl) ?_
            refine lv_aload_n hx hb dX1_copy_217 rfl (lv_at hl 2 rfl) ?_
            refine va_get (D := (dC, dI)) (ci := 1) (v := .long tm) (C := RX1) (T := TX1) (N := 16) hx hb hts inw_X1_copy hown hK hP 0 rfl rfl 14 (by decide) (hts (.fieldLink RX1 49 "MigratorModel" "time" "J") (by decide +kernel)) (fun _ h9 => h9) rfl dX1_copy_218 ?_
            refine va_put (D := (dC, dI)) (ci := 1) (v := .long tm) (ty := .long) (C := RX1) (T := TX1) (N := 16) hx hb hts inw_X1_copy tyX1 tyX1_ok nmX1 hown hK hP hD hS 0 rfl rfl 15 (by decide) (hts (.fieldLink RX1 53 "MigratorModel" "since" "J") (by decide +kernel)) (fun _ h9 => h9) rfl (by decide +kernel) rfl rfl (Nat.le_of_ble_eq_true rfl) dX1_copy_221 (fun H locs hP hD hS => ?_)
            have hP : va_P (dC, dI) vwCl [(h0, .inr (1, [.ref q1, .ref q2, .ref q3, .ref q4, .ref q5, .ref q6, .ref q7, .ref q8, .int pc, .int ph, .int (rd + 1), .int th, .int lm, .int sh, .long tm, .long tm])), (q1, .inl (cA, 64, .inl M)), (q2, .inl (cA, 64, .inl N)), (q3, .inl (cA, 64, .inl C)), (q4, .inl (cA, 4, .inl R)), (q5, .inl (cJ, 8, .inr (.inl G))), (q6, .inl (cZ, 8, .inl Ex)), (q7, .inl (cZ, 8, .inl Fx)), (q8, .inl (cA, 8, .inl T))] H := hP
            have hD : va_D A [(h0, .inr (1, [.ref q1, .ref q2, .ref q3, .ref q4, .ref q5, .ref q6, .ref q7, .ref q8, .int pc, .int ph, .int (rd + 1), .int th, .int lm, .int sh, .long tm, .long tm])), (q1, .inl (cA, 64, .inl M)), (q2, .inl (cA, 64, .inl N)), (q3, .inl (cA, 64, .inl C)), (q4, .inl (cA, 4, .inl R)), (q5, .inl (cJ, 8, .inr (.inl G))), (q6, .inl (cZ, 8, .inl Ex)), (q7, .inl (cZ, 8, .inl Fx)), (q8, .inl (cA, 8, .inl T))] := hD
            refine lv_bipush (v := 32) hx hb dX1_copy_224 (by decide) ?_
            exact W.iret (v := 32) hx hb hr (fun t ht hW => ⟨⟨32, (M, N, C, R, G, Ex, Fx, T, pc, ph, rd + 1, th, lm, sh, tm, tm), rfl, Or.inr (Or.inr (Or.inr ⟨hp1, hi0, Or.inr ⟨rfl, (by rw [← hj2]; exact c_921), c_922, by rw [hj0, hj1]⟩⟩)), by rw [ht]; exact hP, va_K.moved hW.alike hK, hD⟩, hS.F ht⟩) hS.2.2 dX1_copy_226
          · refine lv_aload_n hx hb dX1_copy_198 rfl (lv_at hl 2 rfl) ?_
            refine lv_iconst (v := 2) hx hb dX1_copy_199 (by decide) ?_
            refine va_put (D := (dC, dI)) (ci := 1) (v := .int 2) (ty := .int) (C := RX1) (T := TX1) (N := 16) hx hb hts inw_X1_copy tyX1 tyX1_ok nmX1 hown hK hP hD hS 0 rfl rfl 9 (by decide) (hts (.fieldLink RX1 36 "MigratorModel" "phase" "I") (by decide +kernel)) (fun _ h9 => h9) rfl (by decide +kernel) rfl rfl (Nat.le_of_ble_eq_true rfl) dX1_copy_200 (fun H locs hP hD hS => ?_)
            have hP : va_P (dC, dI) vwCl [(h0, .inr (1, [.ref q1, .ref q2, .ref q3, .ref q4, .ref q5, .ref q6, .ref q7, .ref q8, .int pc, .int 2, .int rd, .int th, .int lm, .int sh, .long tm, .long sn])), (q1, .inl (cA, 64, .inl M)), (q2, .inl (cA, 64, .inl N)), (q3, .inl (cA, 64, .inl C)), (q4, .inl (cA, 4, .inl R)), (q5, .inl (cJ, 8, .inr (.inl G))), (q6, .inl (cZ, 8, .inl Ex)), (q7, .inl (cZ, 8, .inl Fx)), (q8, .inl (cA, 8, .inl T))] H := hP
            have hD : va_D A [(h0, .inr (1, [.ref q1, .ref q2, .ref q3, .ref q4, .ref q5, .ref q6, .ref q7, .ref q8, .int pc, .int 2, .int rd, .int th, .int lm, .int sh, .long tm, .long sn])), (q1, .inl (cA, 64, .inl M)), (q2, .inl (cA, 64, .inl N)), (q3, .inl (cA, 64, .inl C)), (q4, .inl (cA, 4, .inl R)), (q5, .inl (cJ, 8, .inr (.inl G))), (q6, .inl (cZ, 8, .inl Ex)), (q7, .inl (cZ, 8, .inl Fx)), (q8, .inl (cA, 8, .inl T))] := hD
            refine lv_bipush (v := 33) hx hb dX1_copy_203 (by decide) ?_
            exact W.iret (v := 33) hx hb hr (fun t ht hW => ⟨⟨33, (M, N, C, R, G, Ex, Fx, T, pc, 2, rd, th, lm, sh, tm, sn), rfl, Or.inr (Or.inr (Or.inr ⟨hp1, hi0, Or.inl ⟨rfl, Or.inr c_922, by rw [hj0, hj1]⟩⟩)), by rw [ht]; exact hP, va_K.moved hW.alike hK, hD⟩, hS.F ht⟩) hS.2.2 dX1_copy_205
      · refine lv_aload_n hx hb dX1_copy_93 rfl (lv_at hl 1 rfl) ?_
        refine lv_iconst (v := 3) hx hb dX1_copy_94 (by decide) ?_
        refine va_put (D := (dC, dI)) (ci := 1) (v := .int 3) (ty := .int) (C := RX1) (T := TX1) (N := 16) hx hb hts inw_X1_copy tyX1 tyX1_ok nmX1 hown hK hP hD hS 0 rfl rfl 9 (by decide) (hts (.fieldLink RX1 36 "MigratorModel" "phase" "I") (by decide +kernel)) (fun _ h9 => h9) rfl (by decide +kernel) rfl rfl (Nat.le_of_ble_eq_true rfl) dX1_copy_95 (fun H locs hP hD hS => ?_)
        have hP : va_P (dC, dI) vwCl [(h0, .inr (1, [.ref q1, .ref q2, .ref q3, .ref q4, .ref q5, .ref q6, .ref q7, .ref q8, .int pc, .int 3, .int rd, .int th, .int lm, .int sh, .long tm, .long sn])), (q1, .inl (cA, 64, .inl M)), (q2, .inl (cA, 64, .inl N)), (q3, .inl (cA, 64, .inl C)), (q4, .inl (cA, 4, .inl R)), (q5, .inl (cJ, 8, .inr (.inl G))), (q6, .inl (cZ, 8, .inl E)), (q7, .inl (cZ, 8, .inl F)), (q8, .inl (cA, 8, .inl T))] H := hP
        have hD : va_D A [(h0, .inr (1, [.ref q1, .ref q2, .ref q3, .ref q4, .ref q5, .ref q6, .ref q7, .ref q8, .int pc, .int 3, .int rd, .int th, .int lm, .int sh, .long tm, .long sn])), (q1, .inl (cA, 64, .inl M)), (q2, .inl (cA, 64, .inl N)), (q3, .inl (cA, 64, .inl C)), (q4, .inl (cA, 4, .inl R)), (q5, .inl (cJ, 8, .inr (.inl G))), (q6, .inl (cZ, 8, .inl E)), (q7, .inl (cZ, 8, .inl F)), (q8, .inl (cA, 8, .inl T))] := hD
        refine lv_iconst (v := 0) hx hb dX1_copy_98 (by decide) ?_
        refine lv_istore_n (lv' := [(1, .int 0), (0, .ref h0)]) hx hb dX1_copy_99 rfl hl (by decide) rfl (fun ls hl => ?_)
        have loopC : ∀ (Q0 : State → Prop), (∀ (Nx : Nat → Int32) (H : Heap) (locs : List Loc) (ls : Array Slot), Nx = mr_cw M 0 64 N → va_P (dC, dI) vwCl [(h0, .inr (1, [.ref q1, .ref q2, .ref q3, .ref q4, .ref q5, .ref q6, .ref q7, .ref q8, .int pc, .int 3, .int rd, .int th, .int lm, .int sh, .long tm, .long sn])), (q1, .inl (cA, 64, .inl M)), (q2, .inl (cA, 64, .inl Nx)), (q3, .inl (cA, 64, .inl C)), (q4, .inl (cA, 4, .inl R)), (q5, .inl (cJ, 8, .inr (.inl G))), (q6, .inl (cZ, 8, .inl E)), (q7, .inl (cZ, 8, .inl F)), (q8, .inl (cA, 8, .inl T))] H → va_D A [(h0, .inr (1, [.ref q1, .ref q2, .ref q3, .ref q4, .ref q5, .ref q6, .ref q7, .ref q8, .int pc, .int 3, .int rd, .int th, .int lm, .int sh, .long tm, .long sn])), (q1, .inl (cA, 64, .inl M)), (q2, .inl (cA, 64, .inl Nx)), (q3, .inl (cA, 64, .inl C)), (q4, .inl (cA, 4, .inl R)), (q5, .inl (cJ, 8, .inr (.inl G))), (q6, .inl (cZ, 8, .inl E)), (q7, .inl (cZ, 8, .inl F)), (q8, .inl (cA, 8, .inl T))] → va_S A s.heap H locs → lv_has ls 3 [(1, .int (nI 64)), (0, .ref h0)] → W p l e (headSpec wsX1_copy { frames := 1, cells := 0, slots := 0, locals := 21 }).room s m ([.ref h0] : List Value).toArray below meth c H locs 0 0 Q0 (F0 m 124 ls [])) → ∀ (lx jx : Nat) (Nx : Nat → Int32) (H : Heap) (locs : List Loc) (ls : Array Slot), jx + lx = 64 → Nx = mr_cw M 0 jx N → va_P (dC, dI) vwCl [(h0, .inr (1, [.ref q1, .ref q2, .ref q3, .ref q4, .ref q5, .ref q6, .ref q7, .ref q8, .int pc, .int 3, .int rd, .int th, .int lm, .int sh, .long tm, .long sn])), (q1, .inl (cA, 64, .inl M)), (q2, .inl (cA, 64, .inl Nx)), (q3, .inl (cA, 64, .inl C)), (q4, .inl (cA, 4, .inl R)), (q5, .inl (cJ, 8, .inr (.inl G))), (q6, .inl (cZ, 8, .inl E)), (q7, .inl (cZ, 8, .inl F)), (q8, .inl (cA, 8, .inl T))] H → va_D A [(h0, .inr (1, [.ref q1, .ref q2, .ref q3, .ref q4, .ref q5, .ref q6, .ref q7, .ref q8, .int pc, .int 3, .int rd, .int th, .int lm, .int sh, .long tm, .long sn])), (q1, .inl (cA, 64, .inl M)), (q2, .inl (cA, 64, .inl Nx)), (q3, .inl (cA, 64, .inl C)), (q4, .inl (cA, 4, .inl R)), (q5, .inl (cJ, 8, .inr (.inl G))), (q6, .inl (cZ, 8, .inl E)), (q7, .inl (cZ, 8, .inl F)), (q8, .inl (cA, 8, .inl T))] → va_S A s.heap H locs → lv_has ls 3 [(1, .int (nI jx)), (0, .ref h0)] → W p l e (headSpec wsX1_copy { frames := 1, cells := 0, slots := 0, locals := 21 }).room s m ([.ref h0] : List Value).toArray below meth c H locs 0 0 Q0 (F0 m 100 ls []) := by
          intro Q0 hQ lx
          induction lx with
          | zero =>
            intro jx Nx H locs ls hk hj0 hP hD hS hl
            have hz : jx = 64 := by omega
            subst hz
            refine lv_iload_n hx hb dX1_copy_100 rfl (lv_at hl 0 rfl) ?_
            refine lv_bipush (v := 64) hx hb dX1_copy_101 (by decide) ?_
            refine lv_icmp_ge (tgt := 124) hx hb dX1_copy_103 (by decide) (fun c_1021 => ?_) (fun c_1021 => ?_)
            · exact hQ Nx H locs ls hj0 hP hD hS hl
            · exact absurd (by decide) c_1021
          | succ lx ih =>
            intro jx Nx H locs ls hk hj0 hP hD hS hl
            have hjx : jx < 64 := by omega
            refine lv_iload_n hx hb dX1_copy_100 rfl (lv_at hl 0 rfl) ?_
            refine lv_bipush (v := 64) hx hb dX1_copy_101 (by decide) ?_
            refine lv_icmp_ge (tgt := 124) hx hb dX1_copy_103 (by decide) (fun c_1122 => ?_) (fun c_1122 => ?_)
            · exact absurd c_1122 (nI_ge hjx (by decide))
            · refine lv_aload_n hx hb dX1_copy_106 rfl (lv_at hl 1 rfl) ?_
              refine va_get (D := (dC, dI)) (ci := 1) (v := .ref q2) (C := RX1) (T := TX1) (N := 16) hx hb hts inw_X1_copy hown hK hP 0 rfl rfl 1 (by decide) (hts (.fieldLink RX1 13 "MigratorModel" "kept" "[I") (by decide +kernel)) (fun _ h9 => h9) rfl dX1_copy_107 ?_
              refine lv_iload_n hx hb dX1_copy_110 rfl (lv_at hl 0 rfl) ?_
              refine lv_aload_n hx hb dX1_copy_111 rfl (lv_at hl 1 rfl) ?_
              refine va_get (D := (dC, dI)) (ci := 1) (v := .ref q1) (C := RX1) (T := TX1) (N := 16) hx hb hts inw_X1_copy hown hK hP 0 rfl rfl 0 (by decide) (hts (.fieldLink RX1 7 "MigratorModel" "real" "[I") (by decide +kernel)) (fun _ h9 => h9) rfl dX1_copy_112 ?_
              refine lv_iload_n hx hb dX1_copy_115 rfl (lv_at hl 0 rfl) ?_
              refine va_iald hx hb hK hP 1 0 rfl rfl (vp_in_nI hjx (by decide)) dX1_copy_116 ?_
              refine va_iast hx hb hK hP hD hS 2 0 rfl rfl (vp_in_nI hjx (by decide)) dX1_copy_117 (fun H locs hP hD hS => ?_)
              have hP : va_P (dC, dI) vwCl [(h0, .inr (1, [.ref q1, .ref q2, .ref q3, .ref q4, .ref q5, .ref q6, .ref q7, .ref q8, .int pc, .int 3, .int rd, .int th, .int lm, .int sh, .long tm, .long sn])), (q1, .inl (cA, 64, .inl M)), (q2, .inl (cA, 64, .inl (upd Nx (nI jx).toNatClampNeg (M (nI jx).toNatClampNeg)))), (q3, .inl (cA, 64, .inl C)), (q4, .inl (cA, 4, .inl R)), (q5, .inl (cJ, 8, .inr (.inl G))), (q6, .inl (cZ, 8, .inl E)), (q7, .inl (cZ, 8, .inl F)), (q8, .inl (cA, 8, .inl T))] H := hP
              have hD : va_D A [(h0, .inr (1, [.ref q1, .ref q2, .ref q3, .ref q4, .ref q5, .ref q6, .ref q7, .ref q8, .int pc, .int 3, .int rd, .int th, .int lm, .int sh, .long tm, .long sn])), (q1, .inl (cA, 64, .inl M)), (q2, .inl (cA, 64, .inl (upd Nx (nI jx).toNatClampNeg (M (nI jx).toNatClampNeg)))), (q3, .inl (cA, 64, .inl C)), (q4, .inl (cA, 4, .inl R)), (q5, .inl (cJ, 8, .inr (.inl G))), (q6, .inl (cZ, 8, .inl E)), (q7, .inl (cZ, 8, .inl F)), (q8, .inl (cA, 8, .inl T))] := hD
              refine lv_iinc (v := (nI jx) + 1) (lv' := [(1, .int ((nI jx) + 1)), (0, .ref h0)]) hx hb dX1_copy_118 hl (k := 0) rfl rfl (by decide) rfl (fun ls hl => ?_)
              refine lv_goto (tgt := 100) hx hb dX1_copy_121 (by decide) ?_
              exact ih (jx + 1) _ H locs ls (by omega) (by have h := mr_cw_s M 0 jx N; rw [Nat.zero_add] at h; rw [hj0, nI_clamp (by omega)]; exact h) hP hD hS (by rw [← nI_1]; exact lv_sub hl [0, 1] rfl)
        refine loopC _ (fun Nx H locs ls hj0 hP hD hS hl => ?_) 64 0 N _ _ _ (by omega) (mr_cw_0 M 0 N).symm hP hD hS (lv_sub hl [0, 1] rfl)
        refine lv_bipush (v := 34) hx hb dX1_copy_124 (by decide) ?_
        exact W.iret (v := 34) hx hb hr (fun t ht hW => ⟨⟨34, (M, Nx, C, R, G, E, F, T, pc, 3, rd, th, lm, sh, tm, sn), rfl, Or.inr (Or.inr (Or.inl ⟨c_608, hi0, rfl, by rw [hj0]⟩)), by rw [ht]; exact hP, va_K.moved hW.alike hK, hD⟩, hS.F ht⟩) hS.2.2 dX1_copy_126
    · refine lv_iconst (v := (-1)) hx hb dX1_copy_15 (by decide) ?_
      exact W.iret (v := (-1)) hx hb hr (fun t ht hW => ⟨⟨(-1), (M, N, C, R, G, E, F, T, pc, ph, rd, th, lm, sh, tm, sn), rfl, Or.inl ⟨Or.inr c_2, rfl, rfl⟩, by rw [ht]; exact hP, va_K.moved hW.alike hK, hD⟩, hS.F ht⟩) hS.2.2 dX1_copy_16
end
section
/-! Bits of a set of eight pages, held in an int. -/
theorem bt_dec : ∀ d : Fin 256, ∀ p : Fin 8, decide ((nI d.val >>> (nI p.val &&& 31)) &&& 1 = 0) = !(d.val.testBit p.val) := by decide +kernel
theorem bt_iff {d p : Nat} (hd : d < 256) (hp : p < 8) : mg_bt (nI d) (nI p) ↔ d.testBit p = true := by
  have h := bt_dec ⟨d, hd⟩ ⟨p, hp⟩
  dsimp only at h
  unfold mg_bt
  cases hb : d.testBit p with
  | true =>
    rw [hb] at h
    exact ⟨fun _ => rfl, fun _ q => absurd (decide_eq_true q) (by rw [h]; decide)⟩
  | false =>
    rw [hb] at h
    exact ⟨fun q => absurd (of_decide_eq_true h) q, fun q => absurd q (by decide)⟩
theorem bt_set : ∀ d : Fin 256, ∀ p : Fin 8, (nI d.val ||| ((1 : Int32) <<< (nI p.val &&& 31)) = nI (d.val ||| 2 ^ p.val)) ∧ d.val ||| 2 ^ p.val < 256 := by decide +kernel
theorem bt_clr : ∀ w : Fin 256, ∀ p : Fin 8, (nI w.val &&& (((1 : Int32) <<< (nI p.val &&& 31)) ^^^ (-1)) = nI (w.val &&& (255 ^^^ 2 ^ p.val))) ∧ w.val &&& (255 ^^^ 2 ^ p.val) < 256 := by decide +kernel
theorem bt_clrT : ∀ w : Fin 256, ∀ p q : Fin 8, (w.val &&& (255 ^^^ 2 ^ p.val)).testBit q.val = (w.val.testBit q.val && decide (q.val ≠ p.val)) := by decide +kernel
theorem bt_setT : ∀ w : Fin 256, ∀ p q : Fin 8, (w.val ||| 2 ^ p.val).testBit q.val = (w.val.testBit q.val || decide (q.val = p.val)) := by decide +kernel
theorem bt_all : ∀ p : Fin 8, (255).testBit p.val = true := by decide +kernel
theorem bt_zero : ∀ w : Fin 256, (w.val.testBit 0 = false ∧ w.val.testBit 1 = false ∧ w.val.testBit 2 = false ∧ w.val.testBit 3 = false ∧ w.val.testBit 4 = false ∧ w.val.testBit 5 = false ∧ w.val.testBit 6 = false ∧ w.val.testBit 7 = false) → w.val = 0 := by decide +kernel
theorem bt_0 {w : Nat} (hw : w < 256) (h : ∀ p, p < 8 → w.testBit p = false) : w = 0 := bt_zero ⟨w, hw⟩ ⟨h 0 (by decide), h 1 (by decide), h 2 (by decide), h 3 (by decide), h 4 (by decide), h 5 (by decide), h 6 (by decide), h 7 (by decide)⟩
def bt_n (b : Bool) : Nat := if b = true then 1 else 0
theorem bc_dec : ∀ d : Fin 256, mg_bc (nI d.val) = nI (0 + bt_n (d.val.testBit 0) + bt_n (d.val.testBit 1) + bt_n (d.val.testBit 2) + bt_n (d.val.testBit 3) + bt_n (d.val.testBit 4) + bt_n (d.val.testBit 5) + bt_n (d.val.testBit 6) + bt_n (d.val.testBit 7)) := by decide +kernel
theorem bc_ct {G : Nat → Int64} {sn : Int64} {d : Nat} (hd : d < 256) (h : ∀ p, p < 8 → (d.testBit p = true ↔ sn < G p)) : mg_bc (nI d) = nI (mr_ct G sn 8) := by
  have e : ∀ p, p < 8 → (if sn < G p then 1 else 0) = bt_n (d.testBit p) := fun p hp => by
    unfold bt_n
    by_cases q : sn < G p
    · rw [if_pos q, if_pos ((h p hp).mpr q)]
    · rw [if_neg q, if_neg (fun r => q ((h p hp).mp r))]
  rw [bc_dec ⟨d, hd⟩]
  dsimp only
  rw [← e 0 (by decide), ← e 1 (by decide), ← e 2 (by decide), ← e 3 (by decide), ← e 4 (by decide), ← e 5 (by decide), ← e 6 (by decide), ← e 7 (by decide)]
  rfl
theorem nI_0eq {w : Nat} (hw : w < 256) : nI w = 0 ↔ w = 0 := by
  have h := nI_eq (a := w) (b := 0) (by omega) (by omega)
  rw [nI_0] at h
  exact h
/-! Places. -/
theorem ad_of (x : Int32) : ∃ j : Nat, j < 64 ∧ x &&& 63 = nI j ∧ (x &&& 63).toNatClampNeg = j := by
  obtain ⟨j, hj, e⟩ := pk_andE x (m := 63) 6 (by decide)
  exact ⟨j, by omega, e, by rw [e]; exact nI_clamp (by omega)⟩
theorem pc_63 {pc : Int32} (h : vp_in pc 64) : pc &&& 63 = pc := by
  obtain ⟨j, hj, rfl⟩ := vp_in_of h (by decide)
  rw [pk_andN (by omega) 6 (by decide), Nat.mod_eq_of_lt (by omega)]
theorem ad_8 {j : Nat} (hj : j < 64) : (nI j / 8).toNatClampNeg = j / 8 ∧ nI j >>> ((3 : Int32) &&& 31) = nI (j / 8) := by
  constructor
  · rw [show (8 : Int32) = nI 8 from by decide, pk_div (by omega) (by omega) (by omega)]
    exact nI_clamp (by omega)
  · rw [pk_shrN (by omega) _ 3 (by decide)]
theorem mg_cp_i (S D : Nat → Int32) {p : Nat} (hp : p < 8) : ∀ i, i ≤ 8 → mg_cp S (nI p <<< ((3 : Int32) &&& 31)) i D = mr_cw S (8 * p) i D := by
  intro i
  induction i with
  | zero => intro _; exact (mr_cw_0 S (8 * p) D).symm
  | succ i ih =>
    intro hi
    have e : ((nI p <<< ((3 : Int32) &&& 31)) + nI i) &&& 63 = nI (8 * p + i) := by
      rw [pk_shlN _ 3 (by decide) (by omega), nI_add, pk_andN (by omega) 6 (by decide), Nat.mod_eq_of_lt (by omega)]
      congr 1
      omega
    show upd (mg_cp S (nI p <<< ((3 : Int32) &&& 31)) i D) (((nI p <<< ((3 : Int32) &&& 31)) + nI i) &&& 63).toNatClampNeg (S (((nI p <<< ((3 : Int32) &&& 31)) + nI i) &&& 63).toNatClampNeg) = _
    rw [e, nI_clamp (by omega), ih (by omega)]
    exact mr_cw_s S (8 * p) i D
theorem ia_iff {a : Int32} : mg_ia a ↔ mr_ia a := by
  unfold mg_ia mr_ia
  rw [Int32.le_iff_toInt_le, Int32.lt_iff_toInt_lt, Int32.lt_iff_toInt_lt]
  have h1 : (64 : Int32).toInt = 64 := by decide
  have h2 : (63 : Int32).toInt = 63 := by decide
  rw [h1, h2]
  omega
theorem ip_iff {a : Int32} : mg_ip a ↔ mr_ip a := by
  unfold mg_ip mr_ip
  rw [Int32.le_iff_toInt_le, Int32.lt_iff_toInt_lt, Int32.lt_iff_toInt_lt]
  have h1 : (8 : Int32).toInt = 8 := by decide
  have h2 : (7 : Int32).toInt = 7 := by decide
  rw [h1, h2]
  omega
theorem le_lt {a x y : Int32} (h : y.toInt + 1 = x.toInt) : x ≤ a ↔ y < a := by
  rw [Int32.le_iff_toInt_le, Int32.lt_iff_toInt_lt]
  omega
theorem ia_of {a : Int32} (h : mg_ia a) : ∃ j : Nat, j < 64 ∧ a = nI j ∧ a.toNatClampNeg = j := by
  obtain ⟨j, hj, rfl⟩ := vp_in_of (in_lt (y := 64) (n := 64) (by decide) h.1 h.2) (by decide)
  exact ⟨j, hj, rfl, nI_clamp (by omega)⟩
theorem ip_of {a : Int32} (h : mg_ip a) : ∃ j : Nat, j < 8 ∧ a = nI j ∧ a.toNatClampNeg = j := by
  obtain ⟨j, hj, rfl⟩ := vp_in_of (in_lt (y := 8) (n := 8) (by decide) h.1 h.2) (by decide)
  exact ⟨j, hj, rfl, nI_clamp (by omega)⟩
end
section
/-! What holds between the class's state and the reference's. B: more than all shows, and more than all guest's writes, so far. -/
def mx_sh (B : Nat) (K T : Nat → Int32) (sc : Int32) : Prop := ∃ c : Nat, sc = nI c ∧ c ≤ B ∧ ∀ k, k < 8 → k < c → T k = K ((c - 1 - k) % 8)
def mx_ph (S D M N C F : Nat → Int32) (ph : Int32) (d w s : Nat) (g : Nat → Nat) : Prop :=
  (ph = 0 ∧ d = 0 ∧ w = 0 ∧ (∀ j, j < 64 → S j = M j) ∧ (∀ j, j < 64 → D j = C j)) ∨
  (ph = 1 ∧ (∀ p, p < 8 → (d.testBit p = true ↔ s < g p)) ∧ (∀ j, j < 64 → S j = M j) ∧ (∀ j, j < 64 → D j = C j) ∧ (∀ j, j < 64 → w.testBit (j / 8) = false → d.testBit (j / 8) = false → D j = S j)) ∨
  (ph = 2 ∧ (∀ p, p < 8 → (d.testBit p = true ↔ F p = 1)) ∧ (∀ j, j < 64 → S j = M j) ∧ (∀ j, j < 64 → D j = C j) ∧ (∀ j, j < 64 → w.testBit (j / 8) = false → D j = S j)) ∨
  (ph = 3 ∧ (∀ p, p < 8 → (d.testBit p = true ↔ F p = 1)) ∧ w = 0 ∧ (∀ j, j < 64 → D j = M j) ∧ (∀ j, j < 64 → S j = N j))
def mx_tm (B : Nat) (G : Nat → Int64) (tm sn : Int64) (s t : Nat) (g : Nat → Nat) : Prop := tm = lN t ∧ t ≤ B ∧ sn = lN s ∧ s ≤ t ∧ ∀ p, p < 8 → G p = lN (g p) ∧ g p ≤ t
def mx_bt (dy wt : Int32) (E F : Nat → Int32) (d w : Nat) : Prop := dy = nI d ∧ d < 256 ∧ wt = nI w ∧ w < 256 ∧ (∀ p, p < 8 → E p = if w.testBit p = true then 1 else 0) ∧ ∀ j, F j = 0 ∨ F j = 1
def mx_I (B : Nat) (S D K : Nat → Int32) (pc sc ph dy wt : Int32) (M N C : Nat → Int32) (G : Nat → Int64) (E F T : Nat → Int32) (tm sn : Int64) : Prop :=
  vp_in pc 64 ∧ mx_sh B K T sc ∧ ∃ (d w s t : Nat) (g : Nat → Nat), mx_tm B G tm sn s t g ∧ mx_bt dy wt E F d w ∧ mx_ph S D M N C F ph d w s g
theorem mx_sh_le {B B' : Nat} {K T : Nat → Int32} {sc : Int32} (h : mx_sh B K T sc) (hB : B ≤ B') : mx_sh B' K T sc := by
  obtain ⟨c, e, hc, hk⟩ := h
  exact ⟨c, e, by omega, hk⟩
theorem mx_tm_le {B B' : Nat} {G : Nat → Int64} {tm sn : Int64} {s t : Nat} {g : Nat → Nat} (h : mx_tm B G tm sn s t g) (hB : B ≤ B') : mx_tm B' G tm sn s t g := by
  obtain ⟨e, hc, hk⟩ := h
  exact ⟨e, by omega, hk⟩
theorem mx_I_le {B B' : Nat} {S D K : Nat → Int32} {pc pc' sc ph dy wt : Int32} {M N C : Nat → Int32} {G : Nat → Int64} {E F T : Nat → Int32} {tm sn : Int64} (h : mx_I B S D K pc sc ph dy wt M N C G E F T tm sn) (hB : B ≤ B') (hpc : vp_in pc' 64) : mx_I B' S D K pc' sc ph dy wt M N C G E F T tm sn := by
  obtain ⟨-, h2, d, w, s, t, g, h3, h4, h5⟩ := h
  exact ⟨hpc, mx_sh_le h2 hB, d, w, s, t, g, mx_tm_le h3 hB, h4, h5⟩
theorem mx_ph_4 {S D M N C F : Nat → Int32} {ph : Int32} {d w s : Nat} {g : Nat → Nat} (h : mx_ph S D M N C F ph d w s g) : ph = 0 ∨ ph = 1 ∨ ph = 2 ∨ ph = 3 := by
  rcases h with h | h | h | h
  · exact Or.inl h.1
  · exact Or.inr (Or.inl h.1)
  · exact Or.inr (Or.inr (Or.inl h.1))
  · exact Or.inr (Or.inr (Or.inr h.1))
/-- the guest's memory is the reference's, wherever the guest runs -/
theorem mx_rw {S D M N C F : Nat → Int32} {ph : Int32} {d w s : Nat} {g : Nat → Nat} (h : mx_ph S D M N C F ph d w s g) (x : Int32) : mg_rw S D ph x = M (x &&& 63).toNatClampNeg := by
  obtain ⟨j, hj, -, e⟩ := ad_of x
  unfold mg_rw
  rw [e]
  rcases h with h | h | h | h
  · rw [h.1, if_neg (by decide)]; exact h.2.2.2.1 j hj
  · rw [h.1, if_neg (by decide)]; exact h.2.2.1 j hj
  · rw [h.1, if_neg (by decide)]; exact h.2.2.1 j hj
  · rw [h.1, if_pos rfl]; exact h.2.2.2.1 j hj
theorem upd_on {f h : Nat → Int32} {n : Nat} (hf : ∀ j, j < n → f j = h j) (k : Nat) (x : Int32) : ∀ j, j < n → upd f k x j = upd h k x j := by
  intro j hj
  unfold upd
  by_cases q : j = k
  · rw [if_pos q, if_pos q]
  · rw [if_neg q, if_neg q]; exact hf j hj
/-- op 3 -/
theorem mx_ww {S D M N C F : Nat → Int32} {ph : Int32} {d w s t : Nat} {g : Nat → Nat} (h : mx_ph S D M N C F ph d w s g) (h2 : ¬ ph = 2) (hd : d < 256) (hs : s ≤ t) (x v : Int32) {j : Nat} (hj : j < 64) (ej : x &&& 63 = nI j) :
    ∃ (S' D' : Nat → Int32) (d' : Nat), mg_ww S D ph (nI d) x v = (S', D', nI d') ∧ d' < 256 ∧ mx_ph S' D' (upd M j v) N C F ph d' w s (fun q => if q = j / 8 then t + 1 else g q) := by
  have ec : (x &&& 63).toNatClampNeg = j := by rw [ej]; exact nI_clamp (by omega)
  rcases h with h | h | h | h
  · refine ⟨upd S j v, D, d, ?_, hd, Or.inl ⟨h.1, h.2.1, h.2.2.1, upd_on h.2.2.2.1 j v, h.2.2.2.2⟩⟩
    rw [mg_ww_0 (by rw [h.1]; decide) (by rw [h.1]; decide), ec]
  · refine ⟨upd S j v, D, d ||| 2 ^ (j / 8), ?_, (bt_set ⟨d, hd⟩ ⟨j / 8, by omega⟩).2, Or.inr (Or.inl ⟨h.1, ?_, upd_on h.2.2.1 j v, h.2.2.2.1, ?_⟩)⟩
    · rw [mg_ww_1 (by rw [h.1]; decide) h.1, ec, ej, (ad_8 hj).2, (bt_set ⟨d, hd⟩ ⟨j / 8, by omega⟩).1]
    · intro p hp
      have hb := bt_setT ⟨d, hd⟩ ⟨j / 8, by omega⟩ ⟨p, hp⟩
      dsimp only at hb
      rw [hb]
      show (d.testBit p || decide (p = j / 8)) = true ↔ s < (if p = j / 8 then t + 1 else g p)
      by_cases q : p = j / 8
      · rw [if_pos q, decide_eq_true q, Bool.or_true]
        exact ⟨fun _ => by omega, fun _ => rfl⟩
      · rw [if_neg q, decide_eq_false q, Bool.or_false]
        exact h.2.1 p hp
    · intro i hi hw hb
      have hT := bt_setT ⟨d, hd⟩ ⟨j / 8, by omega⟩ ⟨i / 8, by omega⟩
      dsimp only at hT
      rw [hT] at hb
      have hb1 := (Bool.or_eq_false_iff.mp hb).1
      have hb2 := of_decide_eq_false (Bool.or_eq_false_iff.mp hb).2
      have hne : i ≠ j := fun q => hb2 (by rw [q])
      rw [pk_un hne]
      exact h.2.2.2.2 i hi hw hb1
  · exact absurd h.1 h2
  · refine ⟨S, upd D j v, d, ?_, hd, Or.inr (Or.inr (Or.inr ⟨h.1, h.2.1, h.2.2.1, upd_on h.2.2.2.1 j v, h.2.2.2.2⟩))⟩
    rw [mg_ww_3 h.1, ec]
/-- op 7 -/
theorem mx_show {B : Nat} {K T : Nat → Int32} {sc : Int32} (h : mx_sh B K T sc) (hB : B < 2 ^ 30) (v : Int32) : mx_sh (B + 1) (upd K (sc &&& 7).toNatClampNeg v) (upd (mr_sf 0 T) 0 v) (sc + 1) := by
  obtain ⟨c, rfl, hc, hk⟩ := h
  have e : (nI c &&& 7).toNatClampNeg = c % 8 := by
    rw [pk_andN (by omega) 3 (by decide)]
    exact nI_clamp (by omega)
  refine ⟨c + 1, nI_1 c, by omega, ?_⟩
  intro k hk8 hkc
  rw [e]
  by_cases q : k = 0
  · subst q
    rw [pk_us, show (c + 1 - 1 - 0) % 8 = c % 8 from by omega, pk_us]
  · rw [pk_un q, pk_un (show (c + 1 - 1 - k) % 8 ≠ c % 8 by omega)]
    unfold mr_sf
    rw [if_pos (by omega), hk (k - 1) (by omega) (by omega)]
    congr 1
    omega
end
section
/-! A guest step at both sides. -/
theorem mx_step {B : Nat} {S D R K : Nat → Int32} {pc sc ph rd th lm dy wt : Int32} {M N C : Nat → Int32} {G : Nat → Int64} {E F T : Nat → Int32} {tm sn : Int64} (h : mx_I B S D K pc sc ph dy wt M N C G E F T tm sn) (h2 : ¬ ph = 2) (hB : B < 2 ^ 30) :
    ∃ (S' D' R' K' : Nat → Int32) (pc' sc' dy' : Int32) (M' : Nat → Int32) (G' : Nat → Int64) (T' : Nat → Int32) (tm' : Int64),
      mg_step (S, D, R, K, pc, sc, ph, rd, th, lm, dy, wt) = (S', D', R', K', pc', sc', ph, rd, th, lm, dy', wt) ∧
      mr_step (M, N, C, R, G, E, F, T, pc, ph, rd, th, lm, sc, tm, sn) = (M', N, C, R', G', E, F, T', pc', ph, rd, th, lm, sc', tm', sn) ∧
      mx_I (B + 1) S' D' K' pc' sc' ph dy' wt M' N C G' E F T' tm' sn := by
  have h0 := h
  obtain ⟨hpc, hsh, d, w, s, t, g, htm, hbt, hph⟩ := h0
  have e63 : pc &&& 63 = pc := pc_63 hpc
  have ew : mg_rw S D ph pc = M pc.toNatClampNeg := by rw [mx_rw hph pc, e63]
  have e1 : mg_step (S, D, R, K, pc, sc, ph, rd, th, lm, dy, wt) = mg_go (M pc.toNatClampNeg &&& 7) (M pc.toNatClampNeg) (S, D, R, K, pc, sc, ph, rd, th, lm, dy, wt) := by
    show mg_go (mg_rw S D ph pc &&& 7) (mg_rw S D ph pc) _ = _
    rw [ew]
  have e2 : mr_step (M, N, C, R, G, E, F, T, pc, ph, rd, th, lm, sc, tm, sn) = mr_go (M pc.toNatClampNeg &&& 7) (M pc.toNatClampNeg) (M, N, C, R, G, E, F, T, pc, ph, rd, th, lm, sc, tm, sn) := rfl
  rw [e1, e2]
  generalize M pc.toNatClampNeg = x
  rcases op_8 x with o | o | o | o | o | o | o | o
  · rw [o]
    refine ⟨S, D, R, K, pc, sc, dy, M, G, T, tm, ?_, rfl, mx_I_le h (by omega) hpc⟩
    show (S, D, R, K, pc &&& 63, sc, ph, rd, th, lm, dy, wt) = _
    rw [e63]
  · rw [o]
    exact ⟨S, D, _, K, _, sc, dy, M, G, T, tm, rfl, rfl, mx_I_le h (by omega) (in_63 _)⟩
  · rw [o]
    refine ⟨S, D, _, K, _, sc, dy, M, G, T, tm, rfl, ?_, mx_I_le h (by omega) (in_63 _)⟩
    rw [mx_rw hph]
    rfl
  · rw [o]
    obtain ⟨j, hj, ej, ec⟩ := ad_of (R (mg_b x).toNatClampNeg + mg_k x)
    obtain ⟨q1, q2, q3, q4, q5⟩ := htm
    obtain ⟨b1, b2, b3⟩ := hbt
    obtain ⟨S', D', d', ww, hd', hph'⟩ := mx_ww (t := t) hph h2 b2 q4 (R (mg_b x).toNatClampNeg + mg_k x) (R (mg_a x).toNatClampNeg) hj ej
    refine ⟨S', D', R, K, (pc + 1) &&& 63, sc, nI d', upd M j (R (mg_a x).toNatClampNeg), vp_updL G (j / 8) (lN (t + 1)), T, lN (t + 1), ?_, ?_, in_63 _, mx_sh_le hsh (by omega), d', w, s, t + 1, fun q => if q = j / 8 then t + 1 else g q, ⟨rfl, by omega, q3, by omega, ?_⟩, ⟨rfl, hd', b3⟩, hph'⟩
    · show ((mg_ww S D ph dy (R (mg_b x).toNatClampNeg + mg_k x) (R (mg_a x).toNatClampNeg)).1, (mg_ww S D ph dy (R (mg_b x).toNatClampNeg + mg_k x) (R (mg_a x).toNatClampNeg)).2.1, R, K, (pc + 1) &&& 63, sc, ph, rd, th, lm, (mg_ww S D ph dy (R (mg_b x).toNatClampNeg + mg_k x) (R (mg_a x).toNatClampNeg)).2.2, wt) = _
      rw [b1, ww]
    · show (upd M ((R (mg_b x).toNatClampNeg + mg_k x) &&& 63).toNatClampNeg (R (mg_a x).toNatClampNeg), N, C, R, vp_updL G (((R (mg_b x).toNatClampNeg + mg_k x) &&& 63) / 8).toNatClampNeg (tm + 1), E, F, T, (pc + 1) &&& 63, ph, rd, th, lm, sc, tm + 1, sn) = _
      rw [ec, ej, (ad_8 hj).1, q1, lN_1]
    · intro p hp
      show vp_updL G (j / 8) (lN (t + 1)) p = lN (if p = j / 8 then t + 1 else g p) ∧ (if p = j / 8 then t + 1 else g p) ≤ t + 1
      by_cases q : p = j / 8
      · rw [if_pos q, q]
        exact ⟨pk_uLs, Nat.le_refl _⟩
      · rw [if_neg q, pk_uLn q]
        exact ⟨(q5 p hp).1, Nat.le_succ_of_le (q5 p hp).2⟩
  · rw [o]
    exact ⟨S, D, _, K, _, sc, dy, M, G, T, tm, rfl, rfl, mx_I_le h (by omega) (in_63 _)⟩
  · rw [o]
    exact ⟨S, D, _, K, _, sc, dy, M, G, T, tm, rfl, rfl, mx_I_le h (by omega) (in_63 _)⟩
  · rw [o]
    refine ⟨S, D, R, K, (if R (mg_a x).toNatClampNeg = 0 then pc + 1 else mg_k x) &&& 63, sc, dy, M, G, T, tm, rfl, ?_, mx_I_le h (by omega) (in_63 _)⟩
    show (M, N, C, R, G, E, F, T, (if R (mg_a x).toNatClampNeg = 0 then (pc + 1) &&& 63 else mg_k x &&& 63), ph, rd, th, lm, sc, tm, sn) = _
    by_cases q : R (mg_a x).toNatClampNeg = 0
    · rw [if_pos q, if_pos q]
    · rw [if_neg q, if_neg q]
  · rw [o]
    exact ⟨S, D, R, _, _, _, dy, M, G, _, tm, rfl, rfl, in_63 _, mx_show hsh hB _, d, w, s, t, g, mx_tm_le htm (by omega), hbt, hph⟩
theorem mx_it (n : Nat) {B : Nat} {S D R K : Nat → Int32} {pc sc ph rd th lm dy wt : Int32} {M N C : Nat → Int32} {G : Nat → Int64} {E F T : Nat → Int32} {tm sn : Int64} (h : mx_I B S D K pc sc ph dy wt M N C G E F T tm sn) (h2 : ¬ ph = 2) (hB : B + n ≤ 2 ^ 30) :
    ∃ (S' D' R' K' : Nat → Int32) (pc' sc' dy' : Int32) (M' : Nat → Int32) (G' : Nat → Int64) (T' : Nat → Int32) (tm' : Int64),
      mg_it n (S, D, R, K, pc, sc, ph, rd, th, lm, dy, wt) = (S', D', R', K', pc', sc', ph, rd, th, lm, dy', wt) ∧
      mr_it n (M, N, C, R, G, E, F, T, pc, ph, rd, th, lm, sc, tm, sn) = (M', N, C, R', G', E, F, T', pc', ph, rd, th, lm, sc', tm', sn) ∧
      mx_I (B + n) S' D' K' pc' sc' ph dy' wt M' N C G' E F T' tm' sn := by
  induction n with
  | zero => exact ⟨S, D, R, K, pc, sc, dy, M, G, T, tm, rfl, rfl, h⟩
  | succ n ih =>
    obtain ⟨S1, D1, R1, K1, pc1, sc1, dy1, M1, G1, T1, tm1, a1, a2, a3⟩ := ih (by omega)
    obtain ⟨S2, D2, R2, K2, pc2, sc2, dy2, M2, G2, T2, tm2, b1, b2, b3⟩ := mx_step (R := R1) (rd := rd) (th := th) (lm := lm) a3 h2 (by omega)
    refine ⟨S2, D2, R2, K2, pc2, sc2, dy2, M2, G2, T2, tm2, ?_, ?_, b3⟩
    · show mg_step (mg_it n _) = _
      rw [a1, b1]
    · show mr_step (mr_it n _) = _
      rw [a2, b2]
end
section
/-! Each call at both sides: the same answer, and the relation goes on. -/
def mx_R (B : Nat) (u : mgS) (v : mrS) : Prop := ∃ (S D R K : Nat → Int32) (pc sc ph rd th lm dy wt : Int32) (M N C : Nat → Int32) (G : Nat → Int64) (E F T : Nat → Int32) (tm sn : Int64), u = (S, D, R, K, pc, sc, ph, rd, th, lm, dy, wt) ∧ v = (M, N, C, R, G, E, F, T, pc, ph, rd, th, lm, sc, tm, sn) ∧ mx_I B S D K pc sc ph dy wt M N C G E F T tm sn
section MX
variable {B : Nat} {S D R K : Nat → Int32} {pc sc ph rd th lm dy wt : Int32} {M N C : Nat → Int32} {G : Nat → Int64} {E F T : Nat → Int32} {tm sn : Int64} {d w s t : Nat} {g : Nat → Nat} {r r' : Int32} {u : mgS} {v : mrS} {a b : Int32}
theorem mx_same (h : mx_I B S D K pc sc ph dy wt M N C G E F T tm sn) (hu : u = (S, D, R, K, pc, sc, ph, rd, th, lm, dy, wt)) (hv : v = (M, N, C, R, G, E, F, T, pc, ph, rd, th, lm, sc, tm, sn)) : mx_R (B + 1000) u v :=
  ⟨S, D, R, K, pc, sc, ph, rd, th, lm, dy, wt, M, N, C, G, E, F, T, tm, sn, hu, hv, mx_I_le h (by omega) h.1⟩
theorem mx_is0 (h : mx_ph S D M N C F ph d w s g) (e : ph = 0) : d = 0 ∧ w = 0 ∧ (∀ j, j < 64 → S j = M j) ∧ (∀ j, j < 64 → D j = C j) := by
  rcases h with h | h | h | h
  · exact h.2
  · exact absurd (e.symm.trans h.1) (by decide)
  · exact absurd (e.symm.trans h.1) (by decide)
  · exact absurd (e.symm.trans h.1) (by decide)
theorem mx_is1 (h : mx_ph S D M N C F ph d w s g) (e : ph = 1) : (∀ p, p < 8 → (d.testBit p = true ↔ s < g p)) ∧ (∀ j, j < 64 → S j = M j) ∧ (∀ j, j < 64 → D j = C j) ∧ (∀ j, j < 64 → w.testBit (j / 8) = false → d.testBit (j / 8) = false → D j = S j) := by
  rcases h with h | h | h | h
  · exact absurd (e.symm.trans h.1) (by decide)
  · exact h.2
  · exact absurd (e.symm.trans h.1) (by decide)
  · exact absurd (e.symm.trans h.1) (by decide)
theorem mx_is2 (h : mx_ph S D M N C F ph d w s g) (e : ph = 2) : (∀ p, p < 8 → (d.testBit p = true ↔ F p = 1)) ∧ (∀ j, j < 64 → S j = M j) ∧ (∀ j, j < 64 → D j = C j) ∧ (∀ j, j < 64 → w.testBit (j / 8) = false → D j = S j) := by
  rcases h with h | h | h | h
  · exact absurd (e.symm.trans h.1) (by decide)
  · exact absurd (e.symm.trans h.1) (by decide)
  · exact h.2
  · exact absurd (e.symm.trans h.1) (by decide)
theorem mx_is3 (h : mx_ph S D M N C F ph d w s g) (e : ph = 3) : (∀ p, p < 8 → (d.testBit p = true ↔ F p = 1)) ∧ w = 0 ∧ (∀ j, j < 64 → D j = M j) ∧ (∀ j, j < 64 → S j = N j) := by
  rcases h with h | h | h | h
  · exact absurd (e.symm.trans h.1) (by decide)
  · exact absurd (e.symm.trans h.1) (by decide)
  · exact absurd (e.symm.trans h.1) (by decide)
  · exact h.2
theorem mx_poke (h : mx_I B S D K pc sc ph dy wt M N C G E F T tm sn)
    (hu : (r = 1 ∧ (ph = 0 ∧ mg_ia a) ∧ u = (upd S a.toNatClampNeg b, D, R, K, pc, sc, ph, rd, th, lm, dy, wt)) ∨ (r = 0 ∧ ¬ (ph = 0 ∧ mg_ia a) ∧ u = (S, D, R, K, pc, sc, ph, rd, th, lm, dy, wt)))
    (hv : (r' = 1 ∧ (mr_ia a ∧ ph = 0) ∧ v = (upd M a.toNatClampNeg b, N, C, R, G, E, F, T, pc, ph, rd, th, lm, sc, tm, sn)) ∨ (r' = 0 ∧ ¬ (mr_ia a ∧ ph = 0) ∧ v = (M, N, C, R, G, E, F, T, pc, ph, rd, th, lm, sc, tm, sn))) :
    r = r' ∧ mx_R (B + 1000) u v := by
  rcases hu with ⟨e1, q1, hu⟩ | ⟨e1, q1, hu⟩
  · rcases hv with ⟨e2, q2, hv⟩ | ⟨e2, q2, hv⟩
    · refine ⟨by rw [e1, e2], ?_⟩
      obtain ⟨hpc, hsh, d, w, s, t, g, htm, hbt, hph⟩ := h
      have h0 := mx_is0 hph q1.1
      exact ⟨_, D, R, K, pc, sc, ph, rd, th, lm, dy, wt, _, N, C, G, E, F, T, tm, sn, hu, hv, hpc, mx_sh_le hsh (by omega), d, w, s, t, g, mx_tm_le htm (by omega), hbt, Or.inl ⟨q1.1, h0.1, h0.2.1, upd_on h0.2.2.1 _ _, h0.2.2.2⟩⟩
    · exact absurd ⟨ia_iff.mp q1.2, q1.1⟩ q2
  · rcases hv with ⟨e2, q2, hv⟩ | ⟨e2, q2, hv⟩
    · exact absurd ⟨q2.2, ia_iff.mpr q2.1⟩ q1
    · exact ⟨by rw [e1, e2], mx_same h hu hv⟩
theorem bg_iff : mg_bg ph a b ↔ mr_bg ph a b := by
  unfold mg_bg mr_bg
  rw [Int32.not_lt (a := (20 : Int32))]
  constructor
  · rintro ⟨h1, h2, h3, h4, h5⟩; exact ⟨h2, h3, h4, h5, h1⟩
  · rintro ⟨h2, h3, h4, h5, h1⟩; exact ⟨h1, h2, h3, h4, h5⟩
theorem mx_begin (h : mx_I B S D K pc sc ph dy wt M N C G E F T tm sn)
    (hu : (r = 1 ∧ mg_bg ph a b ∧ u = (S, D, R, K, pc, sc, 1, 1, a, b, 0, 255)) ∨ (r = 0 ∧ ¬ mg_bg ph a b ∧ u = (S, D, R, K, pc, sc, ph, rd, th, lm, dy, wt)))
    (hv : (r' = 1 ∧ mr_bg ph a b ∧ v = (M, N, C, R, G, mr_en 8 E, F, T, pc, 1, 1, a, b, sc, tm, tm)) ∨ (r' = 0 ∧ ¬ mr_bg ph a b ∧ v = (M, N, C, R, G, E, F, T, pc, ph, rd, th, lm, sc, tm, sn))) :
    r = r' ∧ mx_R (B + 1000) u v := by
  rcases hu with ⟨e1, q1, hu⟩ | ⟨e1, q1, hu⟩
  · rcases hv with ⟨e2, q2, hv⟩ | ⟨e2, q2, hv⟩
    · refine ⟨by rw [e1, e2], ?_⟩
      obtain ⟨hpc, hsh, d, w, s, t, g, htm, hbt, hph⟩ := h
      have h0 := mx_is0 hph q1.1
      obtain ⟨a1, a2, a3, a4, a5⟩ := htm
      refine ⟨S, D, R, K, pc, sc, 1, 1, a, b, 0, 255, M, N, C, G, _, F, T, tm, tm, hu, hv, hpc, mx_sh_le hsh (by omega), 0, 255, t, t, g, ⟨a1, by omega, a1, Nat.le_refl _, a5⟩, ⟨by decide, by decide, by decide, by decide, ?_, hbt.2.2.2.2.2⟩, Or.inr (Or.inl ⟨rfl, ?_, h0.2.2.1, h0.2.2.2, ?_⟩)⟩
      · intro p hp
        rw [if_pos (bt_all ⟨p, hp⟩)]
        exact if_pos hp
      · intro p hp
        rw [Nat.zero_testBit]
        exact ⟨fun q => absurd q (by decide), fun q => absurd (a5 p hp).2 (by omega)⟩
      · intro j hj q
        have := bt_all ⟨j / 8, by omega⟩
        dsimp only at this
        rw [this] at q
        exact absurd q (by decide)
    · exact absurd (bg_iff.mp q1) q2
  · rcases hv with ⟨e2, q2, hv⟩ | ⟨e2, q2, hv⟩
    · exact absurd (bg_iff.mpr q2) q1
    · exact ⟨by rw [e1, e2], mx_same h hu hv⟩
theorem rn_iff : mg_rn ph a ↔ mr_rn ph a := by
  unfold mg_rn mr_rn
  rw [Int32.not_lt (a := (1000 : Int32))]
  constructor
  · rintro ⟨h1, h2, h3⟩; exact ⟨h2, h3, h1⟩
  · rintro ⟨h2, h3, h1⟩; exact ⟨h1, h2, h3⟩
theorem mx_run (h : mx_I B S D K pc sc ph dy wt M N C G E F T tm sn) (hB : B + 1000 ≤ 2 ^ 30)
    (hu : (r = a ∧ mg_rn ph a ∧ u = mg_it a.toNatClampNeg (S, D, R, K, pc, sc, ph, rd, th, lm, dy, wt)) ∨ (r = 0 ∧ ¬ mg_rn ph a ∧ u = (S, D, R, K, pc, sc, ph, rd, th, lm, dy, wt)))
    (hv : (r' = a ∧ mr_rn ph a ∧ v = mr_it a.toNatClampNeg (M, N, C, R, G, E, F, T, pc, ph, rd, th, lm, sc, tm, sn)) ∨ (r' = 0 ∧ ¬ mr_rn ph a ∧ v = (M, N, C, R, G, E, F, T, pc, ph, rd, th, lm, sc, tm, sn))) :
    r = r' ∧ mx_R (B + 1000) u v := by
  rcases hu with ⟨e1, q1, hu⟩ | ⟨e1, q1, hu⟩
  · rcases hv with ⟨e2, q2, hv⟩ | ⟨e2, q2, hv⟩
    · refine ⟨by rw [e1, e2], ?_⟩
      obtain ⟨n, hn, ea⟩ := nI_of2 (M := 1000) (n := 1000) (by decide) q1.2.1 q1.2.2
      have en : a.toNatClampNeg = n := by rw [ea]; exact nI_clamp (by omega)
      rw [en] at hu hv
      obtain ⟨S1, D1, R1, K1, pc1, sc1, dy1, M1, G1, T1, tm1, a1, a2, a3⟩ := mx_it n (R := R) (rd := rd) (th := th) (lm := lm) h q1.1 (by omega)
      exact ⟨S1, D1, R1, K1, pc1, sc1, ph, rd, th, lm, dy1, wt, M1, N, C, G1, E, F, T1, tm1, sn, hu.trans a1, hv.trans a2, mx_I_le a3 (by omega) a3.1⟩
    · exact absurd (rn_iff.mp q1) q2
  · rcases hv with ⟨e2, q2, hv⟩ | ⟨e2, q2, hv⟩
    · exact absurd (rn_iff.mpr q2) q1
    · exact ⟨by rw [e1, e2], mx_same h hu hv⟩
theorem mx_bool {P P' : Prop} (e : P ↔ P') (hu : (r = 1 ∧ P) ∨ (r = 0 ∧ ¬ P)) (hv : (r' = 1 ∧ P') ∨ (r' = 0 ∧ ¬ P')) : r = r' := by
  rcases hu with ⟨e1, q1⟩ | ⟨e1, q1⟩
  · rcases hv with ⟨e2, q2⟩ | ⟨e2, q2⟩
    · rw [e1, e2]
    · exact absurd (e.mp q1) q2
  · rcases hv with ⟨e2, q2⟩ | ⟨e2, q2⟩
    · exact absurd (e.mpr q2) q1
    · rw [e1, e2]
theorem mx_dirty (h : mx_I B S D K pc sc ph dy wt M N C G E F T tm sn) (hB : B < 2 ^ 30)
    (hu : (r = 1 ∧ mg_ip a ∧ mg_bt dy a) ∨ (r = 0 ∧ ¬ (mg_ip a ∧ mg_bt dy a)))
    (hv : (r' = 1 ∧ mr_ip a ∧ mr_dt G F ph sn a) ∨ (r' = 0 ∧ ¬ (mr_ip a ∧ mr_dt G F ph sn a))) : r = r' := by
  refine mx_bool ?_ hu hv
  obtain ⟨-, -, d, w, s, t, g, htm, hbt, hph⟩ := h
  obtain ⟨a1, a2, a3, a4, a5⟩ := htm
  obtain ⟨b1, b2, b3⟩ := hbt
  have key : mr_ip a → (mg_bt dy a ↔ mr_dt G F ph sn a) := by
    intro hp
    obtain ⟨p, hp8, rfl, ec⟩ := ip_of (ip_iff.mpr hp)
    rw [b1, bt_iff b2 hp8]
    unfold mr_dt
    rw [ec, a3, (a5 p hp8).1, lN_lt (by omega) (by have := (a5 p hp8).2; omega)]
    rcases mx_ph_4 hph with e | e | e | e
    · have h0 := mx_is0 hph e
      rw [h0.1, Nat.zero_testBit]
      exact ⟨fun q => absurd q (by decide), fun q => q.elim (fun q => absurd (e.symm.trans q.1) (by decide)) (fun q => absurd e q.1)⟩
    · have h0 := mx_is1 hph e
      rw [h0.1 p hp8]
      exact ⟨fun q => Or.inl ⟨e, q⟩, fun q => q.elim (fun q => q.2) (fun q => absurd e q.2.1)⟩
    · have h0 := mx_is2 hph e
      rw [h0.1 p hp8]
      exact ⟨fun q => Or.inr ⟨by rw [e]; decide, by rw [e]; decide, q⟩, fun q => q.elim (fun q => absurd (e.symm.trans q.1) (by decide)) (fun q => q.2.2)⟩
    · have h0 := mx_is3 hph e
      rw [h0.1 p hp8]
      exact ⟨fun q => Or.inr ⟨by rw [e]; decide, by rw [e]; decide, q⟩, fun q => q.elim (fun q => absurd (e.symm.trans q.1) (by decide)) (fun q => q.2.2)⟩
  exact ⟨fun q => ⟨ip_iff.mp q.1, (key (ip_iff.mp q.1)).mp q.2⟩, fun q => ⟨ip_iff.mpr q.1, (key q.1).mpr q.2⟩⟩
theorem mx_waits (h : mx_I B S D K pc sc ph dy wt M N C G E F T tm sn)
    (hu : (r = 1 ∧ mg_ip a ∧ mg_bt wt a) ∨ (r = 0 ∧ ¬ (mg_ip a ∧ mg_bt wt a)))
    (hv : (r' = 1 ∧ mr_ip a ∧ ¬ E a.toNatClampNeg = 0) ∨ (r' = 0 ∧ ¬ (mr_ip a ∧ ¬ E a.toNatClampNeg = 0))) : r = r' := by
  refine mx_bool ?_ hu hv
  obtain ⟨-, -, d, w, s, t, g, htm, hbt, hph⟩ := h
  obtain ⟨b1, b2, b3, b4, b5, b6⟩ := hbt
  have key : mr_ip a → (mg_bt wt a ↔ ¬ E a.toNatClampNeg = 0) := by
    intro hp
    obtain ⟨p, hp8, rfl, ec⟩ := ip_of (ip_iff.mpr hp)
    rw [b3, bt_iff b4 hp8, ec, b5 p hp8]
    by_cases q : w.testBit p = true
    · rw [if_pos q]
      exact ⟨fun _ => by decide, fun _ => q⟩
    · rw [if_neg q]
      exact ⟨fun z => absurd z q, fun z => absurd rfl z⟩
  exact ⟨fun q => ⟨ip_iff.mp q.1, (key (ip_iff.mp q.1)).mp q.2⟩, fun q => ⟨ip_iff.mpr q.1, (key q.1).mpr q.2⟩⟩
theorem mx_source (h : mx_I B S D K pc sc ph dy wt M N C G E F T tm sn)
    (hu : (mg_ia a ∧ r = S a.toNatClampNeg) ∨ (r = 0 ∧ ¬ mg_ia a))
    (hv : (mr_ia a ∧ r' = if ph = 3 then N a.toNatClampNeg else M a.toNatClampNeg) ∨ (r' = 0 ∧ ¬ mr_ia a)) : r = r' := by
  obtain ⟨-, -, d, w, s, t, g, htm, hbt, hph⟩ := h
  rcases hu with ⟨q1, e1⟩ | ⟨e1, q1⟩
  · rcases hv with ⟨q2, e2⟩ | ⟨e2, q2⟩
    · rw [e1, e2]
      obtain ⟨j, hj, -, ec⟩ := ia_of q1
      rw [ec]
      rcases mx_ph_4 hph with e | e | e | e
      · rw [if_neg (by rw [e]; decide)]; exact (mx_is0 hph e).2.2.1 j hj
      · rw [if_neg (by rw [e]; decide)]; exact (mx_is1 hph e).2.1 j hj
      · rw [if_neg (by rw [e]; decide)]; exact (mx_is2 hph e).2.1 j hj
      · rw [if_pos e]; exact (mx_is3 hph e).2.2.2 j hj
    · exact absurd (ia_iff.mp q1) q2
  · rcases hv with ⟨q2, e2⟩ | ⟨e2, q2⟩
    · exact absurd (ia_iff.mpr q2) q1
    · rw [e1, e2]
theorem mx_dest (h : mx_I B S D K pc sc ph dy wt M N C G E F T tm sn)
    (hu : (mg_ia a ∧ r = D a.toNatClampNeg) ∨ (r = 0 ∧ ¬ mg_ia a))
    (hv : (mr_ia a ∧ r' = if ph = 3 then M a.toNatClampNeg else C a.toNatClampNeg) ∨ (r' = 0 ∧ ¬ mr_ia a)) : r = r' := by
  obtain ⟨-, -, d, w, s, t, g, htm, hbt, hph⟩ := h
  rcases hu with ⟨q1, e1⟩ | ⟨e1, q1⟩
  · rcases hv with ⟨q2, e2⟩ | ⟨e2, q2⟩
    · rw [e1, e2]
      obtain ⟨j, hj, -, ec⟩ := ia_of q1
      rw [ec]
      rcases mx_ph_4 hph with e | e | e | e
      · rw [if_neg (by rw [e]; decide)]; exact (mx_is0 hph e).2.2.2 j hj
      · rw [if_neg (by rw [e]; decide)]; exact (mx_is1 hph e).2.2.1 j hj
      · rw [if_neg (by rw [e]; decide)]; exact (mx_is2 hph e).2.2.1 j hj
      · rw [if_pos e]; exact (mx_is3 hph e).2.2.1 j hj
    · exact absurd (ia_iff.mp q1) q2
  · rcases hv with ⟨q2, e2⟩ | ⟨e2, q2⟩
    · exact absurd (ia_iff.mpr q2) q1
    · rw [e1, e2]
theorem mx_register
    (hu : (¬ a < 0 ∧ ¬ 4 ≤ a ∧ r = R a.toNatClampNeg) ∨ (r = 0 ∧ (a < 0 ∨ 4 ≤ a)))
    (hv : (¬ a < 0 ∧ ¬ 3 < a ∧ r' = R a.toNatClampNeg) ∨ (r' = 0 ∧ (a < 0 ∨ 3 < a))) : r = r' := by
  rw [le_lt (y := 3) (x := 4) (by decide)] at hu
  rcases hu with ⟨q1, q2, e1⟩ | ⟨e1, q1⟩
  · rcases hv with ⟨_, _, e2⟩ | ⟨e2, q3⟩
    · rw [e1, e2]
    · exact absurd q3 (fun z => z.elim q1 q2)
  · rcases hv with ⟨q2, q3, e2⟩ | ⟨e2, q3⟩
    · exact absurd q1 (fun z => z.elim q2 q3)
    · rw [e1, e2]
theorem mx_shown (h : mx_I B S D K pc sc ph dy wt M N C G E F T tm sn) (hB : B < 2 ^ 30)
    (hu : (¬ a < 0 ∧ ¬ 8 ≤ a ∧ ¬ sc ≤ a ∧ r = K (((sc - 1) - a) &&& 7).toNatClampNeg) ∨ (r = 0 ∧ (a < 0 ∨ 8 ≤ a ∨ sc ≤ a)))
    (hv : (¬ a < 0 ∧ ¬ 7 < a ∧ ¬ sc ≤ a ∧ r' = T a.toNatClampNeg) ∨ (r' = 0 ∧ (a < 0 ∨ 7 < a ∨ sc ≤ a))) : r = r' := by
  have e8 : (8 : Int32) ≤ a ↔ 7 < a := le_lt (by decide)
  rcases hu with ⟨q1, q2, q3, e1⟩ | ⟨e1, q1⟩
  · rcases hv with ⟨_, _, _, e2⟩ | ⟨e2, z⟩
    · rw [e1, e2]
      obtain ⟨-, ⟨c, rfl, hc, hk⟩, -⟩ := h
      obtain ⟨k, hk8, rfl, ec⟩ := ip_of ⟨q1, q2⟩
      have hlt : k < c := by
        rcases Nat.lt_or_ge k c with z | z
        · exact z
        · exact absurd (nI_le z (by omega)) q3
      rw [ec, hk k hk8 hlt]
      obtain ⟨c, rfl⟩ : ∃ n, c = n + 1 := ⟨c - 1, by omega⟩
      rw [nI_pred, pk_sub (by omega), pk_andN (by omega) 3 (by decide), nI_clamp (by omega)]
      rfl
    · exact absurd z (fun z => z.elim q1 (fun z => z.elim (fun z => q2 (e8.mpr z)) q3))
  · rcases hv with ⟨q2, q3, q4, e2⟩ | ⟨e2, _⟩
    · exact absurd q1 (fun z => z.elim q2 (fun z => z.elim (fun z => q3 (e8.mp z)) q4))
    · rw [e1, e2]
end MX
end
section
/-! copy at both sides. -/
section MC
variable {B : Nat} {S D R K : Nat → Int32} {pc sc ph rd th lm dy wt : Int32} {M N C : Nat → Int32} {G : Nat → Int64} {E F T : Nat → Int32} {tm sn : Int64} {d w s t : Nat} {g : Nat → Nat} {r r' : Int32} {u : mgS} {v : mrS} {a b : Int32}
theorem cw_in {M C : Nat → Int32} {p j : Nat} (h : j / 8 = p) : mr_cw M (8 * p) 8 C j = M j := if_pos (by omega)
theorem cw_out {M C : Nat → Int32} {p j : Nat} (h : j / 8 ≠ p) : mr_cw M (8 * p) 8 C j = C j := if_neg (by omega)
theorem cw_on {M' C' : Nat → Int32} {p : Nat} (h1 : ∀ j, j < 64 → S j = M' j) (h2 : ∀ j, j < 64 → D j = C' j) : ∀ j, j < 64 → mr_cw S (8 * p) 8 D j = mr_cw M' (8 * p) 8 C' j := by
  intro j hj
  by_cases q : j / 8 = p
  · rw [cw_in q, cw_in q]; exact h1 j hj
  · rw [cw_out q, cw_out q]; exact h2 j hj
/-- a page is copied -/
theorem mx_page (h : mx_I B S D K pc sc ph dy wt M N C G E F T tm sn) (hp : ph = 1 ∨ ph = 2) {p : Nat} (hp8 : p < 8) :
    mx_I (B + 1000) S (mg_cp S (nI p <<< ((3 : Int32) &&& 31)) 8 D) K pc sc ph dy (wt &&& (((1 : Int32) <<< (nI p &&& 31)) ^^^ (-1))) M N (mr_cw M (8 * p) 8 C) G (upd E p 0) F T tm sn := by
  obtain ⟨hpc, hsh, d, w, s, t, g, htm, hbt, hph⟩ := h
  obtain ⟨b1, b2, b3, b4, b5, b6⟩ := hbt
  have hc := bt_clr ⟨w, b4⟩ ⟨p, hp8⟩
  dsimp only at hc
  have hT : ∀ q, q < 8 → (w &&& (255 ^^^ 2 ^ p)).testBit q = (w.testBit q && decide (q ≠ p)) := fun q hq => bt_clrT ⟨w, b4⟩ ⟨p, hp8⟩ ⟨q, hq⟩
  rw [mg_cp_i S D hp8 8 (by omega), b3, hc.1]
  refine ⟨hpc, mx_sh_le hsh (by omega), d, w &&& (255 ^^^ 2 ^ p), s, t, g, mx_tm_le htm (by omega), ⟨b1, b2, rfl, hc.2, ?_, b6⟩, ?_⟩
  · intro q hq
    rw [hT q hq]
    by_cases z : q = p
    · rw [z, pk_us, decide_eq_false (fun h => h rfl), Bool.and_false]
      rfl
    · rw [pk_un z, decide_eq_true z, Bool.and_true]
      exact b5 q hq
  · rcases hp with e | e
    · have h0 := mx_is1 hph e
      refine Or.inr (Or.inl ⟨e, h0.1, h0.2.1, cw_on h0.2.1 h0.2.2.1, ?_⟩)
      intro j hj hw hd
      by_cases z : j / 8 = p
      · exact cw_in z
      · rw [cw_out z]
        rw [hT (j / 8) (by omega), decide_eq_true z, Bool.and_true] at hw
        exact h0.2.2.2 j hj hw hd
    · have h0 := mx_is2 hph e
      refine Or.inr (Or.inr (Or.inl ⟨e, h0.1, h0.2.1, cw_on h0.2.1 h0.2.2.1, ?_⟩))
      intro j hj hw
      by_cases z : j / 8 = p
      · exact cw_in z
      · rw [cw_out z]
        rw [hT (j / 8) (by omega), decide_eq_true z, Bool.and_true] at hw
        exact h0.2.2.2 j hj hw
theorem mx_E0 (hbt : mx_bt dy wt E F d w) {p : Nat} (hp : p < 8) : E p = 0 ↔ w.testBit p = false := by
  rw [hbt.2.2.2.2.1 p hp]
  cases w.testBit p with
  | true => exact ⟨fun q => absurd q (by decide), fun q => absurd q (by decide)⟩
  | false => exact ⟨fun _ => rfl, fun _ => rfl⟩
theorem mx_W0 (hbt : mx_bt dy wt E F d w) {p : Nat} (hp : p < 8) : ¬ mg_bt wt (nI p) ↔ w.testBit p = false := by
  rw [hbt.2.2.1, bt_iff hbt.2.2.2.1 hp]
  cases w.testBit p with
  | true => exact ⟨fun q => absurd rfl q, fun q => absurd q (by decide)⟩
  | false => exact ⟨fun _ => rfl, fun _ q => absurd q (by decide)⟩
theorem mx_end (h : mx_I B S D K pc sc ph dy wt M N C G E F T tm sn) (hB : B < 2 ^ 30) (e : ph = 1) (hw : wt = 0) (hu : mg_erP S D R K pc sc ph rd th lm dy r u) (hv : mr_erP M N C R G E F T pc ph rd th lm sc tm sn r' v) : r = r' ∧ mx_R (B + 1000) u v := by
  obtain ⟨hpc, hsh, d, w, s, t, g, htm, hbt, hph⟩ := h
  have h0 := mx_is1 hph e
  obtain ⟨a1, a2, a3, a4, a5⟩ := htm
  obtain ⟨b1, b2, b3, b4, b5, b6⟩ := hbt
  have w0 : w = 0 := (nI_0eq b4).mp (b3.symm.trans hw)
  have hG : ∀ p, p < 8 → (d.testBit p = true ↔ sn < G p) := by
    intro p hp
    rw [a3, (a5 p hp).1, lN_lt (by omega) (by have := (a5 p hp).2; omega)]
    exact h0.1 p hp
  have hct : mg_bc dy = nI (mr_ct G sn 8) := by rw [b1]; exact bc_ct b2 hG
  have hE : ∀ (X : Nat → Int32) (p : Nat), p < 8 → mr_wr G sn 8 X p = if d.testBit p = true then 1 else 0 := by
    intro X p hp
    unfold mr_wr
    rw [if_pos hp]
    by_cases q : sn < G p
    · rw [if_pos q, if_pos ((hG p hp).mpr q)]
    · rw [if_neg q, if_neg (fun z => q ((hG p hp).mp z))]
  have hDS : ∀ j, j < 64 → d.testBit (j / 8) = false → D j = S j := fun j hj q => h0.2.2.2 j hj (by rw [w0]; exact Nat.zero_testBit _) q
  have hF8 : ∀ p, p < 8 → (d.testBit p = true ↔ mr_wr G sn 8 F p = 1) := by
    intro p hp
    rw [hE F p hp]
    by_cases q : d.testBit p = true
    · rw [if_pos q]; exact ⟨fun _ => rfl, fun _ => q⟩
    · rw [if_neg q]; exact ⟨fun z => absurd z q, fun z => absurd z (by decide)⟩
  rcases hu with ⟨e1, q1, hu⟩ | ⟨e1, q1, q1', hu⟩
  · rcases hv with ⟨e2, q2, hv⟩ | ⟨e2, q2, q2', hv⟩
    · refine ⟨by rw [e1, e2], ?_⟩
      exact ⟨S, D, R, K, pc, sc, 2, rd, th, lm, dy, dy, M, N, C, G, _, _, T, tm, sn, hu, hv, hpc, mx_sh_le hsh (by omega), d, d, s, t, g, ⟨a1, by omega, a3, a4, a5⟩, ⟨b1, b2, b1, b2, hE E, mr_wr_01 b6 G sn 8⟩, Or.inr (Or.inr (Or.inl ⟨rfl, hF8, h0.2.1, h0.2.2.1, hDS⟩))⟩
    · rw [hct] at q1
      exact absurd q1 (fun z => z.elim q2 q2')
  · rcases hv with ⟨e2, q2, hv⟩ | ⟨e2, q2, q2', hv⟩
    · rw [hct] at q1
      exact absurd q2 (fun z => z.elim q1 q1')
    · refine ⟨by rw [e1, e2], ?_⟩
      refine ⟨S, D, R, K, pc, sc, ph, rd + 1, th, lm, 0, dy, M, N, C, G, _, _, T, tm, tm, hu, hv, hpc, mx_sh_le hsh (by omega), 0, d, t, t, g, ⟨a1, by omega, a1, Nat.le_refl _, a5⟩, ⟨by decide, by decide, b1, b2, hE E, mr_wr_01 b6 G sn 8⟩, Or.inr (Or.inl ⟨e, ?_, h0.2.1, h0.2.2.1, fun j hj q _ => hDS j hj q⟩)⟩
      intro p hp
      rw [Nat.zero_testBit]
      exact ⟨fun q => absurd q (by decide), fun q => absurd (a5 p hp).2 (by omega)⟩
theorem mx_copy (h : mx_I B S D K pc sc ph dy wt M N C G E F T tm sn) (hB : B < 2 ^ 30) (hu : mg_cyP S D R K pc sc ph rd th lm dy wt r u) (hv : mr_cyP M N C R G E F T pc ph rd th lm sc tm sn r' v) : r = r' ∧ mx_R (B + 1000) u v := by
  have h9 := h
  obtain ⟨hpc, hsh, d, w, s, t, g, htm, hbt, hph⟩ := h9
  have hw0 : wt = 0 ↔ w = 0 := by rw [hbt.2.2.1]; exact nI_0eq hbt.2.2.2.1
  have allE : (∀ k, k < 8 → E k = 0) → wt = 0 := fun q => hw0.mpr (bt_0 hbt.2.2.2.1 (fun p hp => (mx_E0 hbt hp).mp (q p hp)))
  rcases hu with ⟨n1, n2, e1, hu⟩ | ⟨hp, hw, hu⟩ | ⟨e, hw, hu⟩ | ⟨e, hw, e1, hu⟩
  · rcases hv with ⟨_, e2, hv⟩ | ⟨m0, m3, _⟩ | ⟨e', _⟩ | ⟨e', _⟩
    · exact ⟨by rw [e1, e2], mx_same h hu hv⟩
    · rcases mx_ph_4 hph with z | z | z | z
      · exact absurd z m0
      · exact absurd z n1
      · exact absurd z n2
      · exact absurd z m3
    · exact absurd e' n2
    · exact absurd e' n1
  · rcases hv with ⟨q, _⟩ | ⟨m0, m3, p', hp', hE', hlo', e2, hv⟩ | ⟨_, q, _⟩ | ⟨_, q, _⟩
    · rcases hp with e | e <;> rcases q with q | q <;> exact absurd (e.symm.trans q) (by decide)
    · rcases hu with ⟨p, hp8, hb, hlo, e1, hu⟩ | ⟨q, _⟩
      · have hpp : p = p' := by
          rcases Nat.lt_trichotomy p p' with z | z | z
          · exact absurd hb ((mx_W0 hbt hp8).mpr ((mx_E0 hbt hp8).mp (hlo' p z)))
          · exact z
          · exact absurd ((mx_E0 hbt hp').mpr ((mx_W0 hbt hp').mp (hlo p' z))) hE'
        subst hpp
        refine ⟨by rw [e1, e2], ?_⟩
        exact ⟨S, _, R, K, pc, sc, ph, rd, th, lm, dy, _, M, N, _, G, _, F, T, tm, sn, hu, hv, mx_page h hp hp8⟩
      · exact absurd ((mx_E0 hbt hp').mpr ((mx_W0 hbt hp').mp (q p' hp'))) hE'
    · exact absurd (allE q) hw
    · exact absurd (allE q) hw
  · rcases hv with ⟨q, _⟩ | ⟨_, _, p', hp', hE', _⟩ | ⟨e', _⟩ | ⟨_, _, hv⟩
    · rcases q with q | q <;> exact absurd (e.symm.trans q) (by decide)
    · exact absurd ((mx_E0 hbt hp').mpr (by rw [hw0.mp hw]; exact Nat.zero_testBit _)) hE'
    · exact absurd (e.symm.trans e') (by decide)
    · exact mx_end h hB e hw hu hv
  · rcases hv with ⟨q, _⟩ | ⟨_, _, p', hp', hE', _⟩ | ⟨_, _, e2, hv⟩ | ⟨e', _⟩
    · rcases q with q | q <;> exact absurd (e.symm.trans q) (by decide)
    · exact absurd ((mx_E0 hbt hp').mpr (by rw [hw0.mp hw]; exact Nat.zero_testBit _)) hE'
    · refine ⟨by rw [e1, e2], ?_⟩
      have h0 := mx_is2 hph e
      have hDS : ∀ j, j < 64 → D j = S j := fun j hj => h0.2.2.2 j hj (by rw [hw0.mp hw]; exact Nat.zero_testBit _)
      refine ⟨S, D, R, K, pc, sc, 3, rd, th, lm, dy, wt, M, _, C, G, E, F, T, tm, sn, hu, hv, hpc, mx_sh_le hsh (by omega), d, w, s, t, g, mx_tm_le htm (by omega), hbt, Or.inr (Or.inr (Or.inr ⟨rfl, h0.1, hw0.mp hw, ?_, ?_⟩))⟩
      · intro j hj
        rw [hDS j hj]; exact h0.2.1 j hj
      · intro j hj
        rw [h0.2.1 j hj]
        exact (if_pos (by omega)).symm
    · exact absurd (e.symm.trans e') (by decide)
end MC
theorem mx_zero : mx_I 0 (fun _ => 0) (fun _ => 0) (fun _ => 0) 0 0 0 0 0 (fun _ => 0) (fun _ => 0) (fun _ => 0) (fun _ => 0) (fun _ => 0) (fun _ => 0) (fun _ => 0) 0 0 := by
  refine ⟨vp_in_nI (n := 0) (by decide) (by decide), ⟨0, by decide, by decide, fun k _ h => absurd h (Nat.not_lt_zero k)⟩, 0, 0, 0, 0, fun _ => 0, ⟨by decide, by decide, by decide, by decide, fun p hp => ⟨show (0 : Int64) = lN 0 by decide, Nat.le_refl 0⟩⟩, ⟨by decide, by decide, by decide, by decide, fun p hp => ?_, fun j => Or.inl rfl⟩, Or.inl ⟨rfl, rfl, rfl, fun j hj => rfl, fun j hj => rfl⟩⟩
  rw [Nat.zero_testBit]
  rfl
end
section
/-! THE CLAIM OUT OF ONE WALK OF THE LAW'S BODY. Your part is whole_start (and what it stands on); all else here is the same for every law, but numbers. -/
def R_law : String := "MigratorLaw"
def lw_P (b : Addr) (xs : List Int32) (args : Array Value) (s : State) : Prop := args = #[.ref b] ∧ s.IntsAt b xs ∧ xs.length ≤ 1536 ∧ (Jvm.Cond.and given_1 narrow_1).before args s = true
def lw_Q (_ : Array Value) (s : State) (o : Outcome) (t : State) : Prop := o = .returned (some (.int 1)) ∧ Framed s o t [] 14 396
def lw_Z (below : List Frame) (a : Array Value) (s : State) : State → Prop := fun t => ∃ o, t.status = .running ∧ Ended t below o ∧ lw_Q a s o t
/-- the law's own end, with 1 on the stack, nothing written that was there before, its room as the claim has it -/
theorem lw_ret {p : Program} {l : Launch} {e : Env} {s : State} {m : MethodId} {below : List Frame} {meth : Method} {c : Code} {b : Nat} (hx : p.tables.exec = Jvm.exec) (hb : c.code = code) (hr : meth.sig.returnType = ret) (hlocks : meth.locks = false) {pc : Nat} {H : Heap} {ls : Array Slot} (hdg : decode code pc = .ok (.ireturn, 1)) : W p l e room_1 s m #[Value.ref b] below meth c H [] 14 396 (lw_Z below #[Value.ref b] s) (F0 m pc ls [.int 1]) := by
  intro T hT X
  obtain ⟨fs, hret, hrun, hended, hW, hframe⟩ := X.leave (v := some (.int 1)) (hlocks := hlocks) (fun h => by rw [hr] at h; cases h)
  have hmeth' : T.vm.method? m = some meth := X.method'
  refine ⟨T.setFrames fs, ?_, .returned (some (.int 1)), hrun, hended, rfl, ⟨_, rfl⟩, hW, hframe⟩
  jvm_step X.here [X.here.top, hx, hb, hdg, hmeth', hr, ret, narrow_b1]
  (try refine ⟨rfl, ?_⟩); (try refine ⟨rfl, ?_⟩)
  first | (intro acts; rw [hret _ acts rfl rfl rfl]) | rw [hret _ _ rfl rfl rfl]
  exact Steps.refl _
/-- what holds at the law's entry: the machine, the code, the tables' words (any of lw_tbl by 'hts w (by decide +kernel)'), the script of L ints xs at the cell b, what the Statement gives of the start (any of its parts by flat_of_before) -/
def lw_At (p : Program) (s : State) (m : MethodId) (meth : Method) (c : Code) (b L : Nat) (xs : Nat → Int32) : Prop :=
  p.tables.exec = Jvm.exec ∧ c.code = code ∧ meth.sig.returnType = ret ∧ c.maxLocals = 4 ∧ s.vm.findClass R_law = some m.cls ∧ (∀ w ∈ lw_tbl, w.before #[Value.ref b] s = true) ∧ va_X b L xs s s.heap ∧ b < s.heap.size ∧ meth.locks = false ∧ (Jvm.Cond.and given_1 narrow_1).before #[Value.ref b] s = true
-- ===== YOUR PART BEGINS =====
theorem op_16 (w : Int32) : w &&& 15 = 0 ∨ w &&& 15 = 1 ∨ w &&& 15 = 2 ∨ w &&& 15 = 3 ∨ w &&& 15 = 4 ∨ w &&& 15 = 5 ∨ w &&& 15 = 6 ∨ w &&& 15 = 7 ∨ w &&& 15 = 8 ∨ w &&& 15 = 9 ∨ w &&& 15 = 10 ∨ w &&& 15 = 11 ∨ w &&& 15 = 12 ∨ w &&& 15 = 13 ∨ w &&& 15 = 14 ∨ w &&& 15 = 15 := by
  obtain ⟨j, hj, e⟩ := pk_andE w (m := 15) 4 (by decide)
  rw [e]
  have h : ∀ j : Fin 16, nI j.val = 0 ∨ nI j.val = 1 ∨ nI j.val = 2 ∨ nI j.val = 3 ∨ nI j.val = 4 ∨ nI j.val = 5 ∨ nI j.val = 6 ∨ nI j.val = 7 ∨ nI j.val = 8 ∨ nI j.val = 9 ∨ nI j.val = 10 ∨ nI j.val = 11 ∨ nI j.val = 12 ∨ nI j.val = 13 ∨ nI j.val = 14 ∨ nI j.val = 15 := by decide +kernel
  exact h ⟨j, hj⟩
theorem lw_lim {L k : Nat} (hL : L ≤ 1536) (hk : k ≤ 2000) : (nI L - 3 < nI k) ↔ L < k + 3 := by
  rw [Int32.lt_iff_toInt_lt, show (3 : Int32) = nI 3 from by decide, pk_sub_toInt (by omega) (by omega), nI_toInt (by omega)]
  omega
theorem mx_F {B : Nat} {S D K : Nat → Int32} {pc sc ph dy wt : Int32} {M N C : Nat → Int32} {G : Nat → Int64} {E F T : Nat → Int32} {tm sn : Int64} (h : mx_I B S D K pc sc ph dy wt M N C G E F T tm sn) : (∀ j, F j = 0 ∨ F j = 1) ∧ (ph = 0 ∨ ph = 1 ∨ ph = 2 ∨ ph = 3) := by
  obtain ⟨-, -, d, w, s, t, g, -, hb, hp⟩ := h
  exact ⟨hb.2.2.2.2.2, mx_ph_4 hp⟩
end
section
set_option maxHeartbeats 40000000 in
set_option maxRecDepth 100000 in
/-- THE LAW'S LOOP -/
theorem law_loop {p : Program} {l : Launch} {e : Env} {s : State} {m : MethodId} {below : List Frame} {meth : Method} {c : Code} {dC : Nat → ClassId} {dI : Nat → Nat → Nat} {b L : Nat} {xs : Nat → Int32} (hL : L ≤ 1536) (C0 : lw_At p s m meth c b L xs) (o1 q1 q2 q3 q4 o2 p1 p2 p3 p4 p5 p6 p7 p8 : Nat) (cA cJ cZ : ClassId) (hK : va_K (dC, dI) vwCl [(cA, .int), (cJ, .long), (cZ, .boolean)] s) : ∀ (n k : Nat) (S : Nat → Int32) (D : Nat → Int32) (R : Nat → Int32) (K : Nat → Int32) (pc : Int32) (sc : Int32) (ph : Int32) (rd : Int32) (th : Int32) (lm : Int32) (dy : Int32) (wt : Int32) (M : Nat → Int32) (N : Nat → Int32) (C : Nat → Int32) (G : Nat → Int64) (E : Nat → Int32) (F : Nat → Int32) (T : Nat → Int32) (tm : Int64) (sn : Int64) (H : Heap) (locs : List Loc) (ls : Array Slot), k ≤ 512 → L < 3 * (k + n) + 3 → mx_I (1000 * k) S D K pc sc ph dy wt M N C G E F T tm sn → va_P (dC, dI) vwCl [(o1, .inr (0, [.ref q1, .ref q2, .ref q3, .ref q4, .int pc, .int sc, .int ph, .int rd, .int th, .int lm, .int dy, .int wt])), (q1, .inl (cA, 64, .inl S)), (q2, .inl (cA, 64, .inl D)), (q3, .inl (cA, 4, .inl R)), (q4, .inl (cA, 8, .inl K)), (o2, .inr (1, [.ref p1, .ref p2, .ref p3, .ref p4, .ref p5, .ref p6, .ref p7, .ref p8, .int pc, .int ph, .int rd, .int th, .int lm, .int sc, .long tm, .long sn])), (p1, .inl (cA, 64, .inl M)), (p2, .inl (cA, 64, .inl N)), (p3, .inl (cA, 64, .inl C)), (p4, .inl (cA, 4, .inl R)), (p5, .inl (cJ, 8, .inr (.inl G))), (p6, .inl (cZ, 8, .inl E)), (p7, .inl (cZ, 8, .inl F)), (p8, .inl (cA, 8, .inl T))] H → va_D (fun q : Nat => s.heap.size ≤ q) [(o1, .inr (0, [.ref q1, .ref q2, .ref q3, .ref q4, .int pc, .int sc, .int ph, .int rd, .int th, .int lm, .int dy, .int wt])), (q1, .inl (cA, 64, .inl S)), (q2, .inl (cA, 64, .inl D)), (q3, .inl (cA, 4, .inl R)), (q4, .inl (cA, 8, .inl K)), (o2, .inr (1, [.ref p1, .ref p2, .ref p3, .ref p4, .ref p5, .ref p6, .ref p7, .ref p8, .int pc, .int ph, .int rd, .int th, .int lm, .int sc, .long tm, .long sn])), (p1, .inl (cA, 64, .inl M)), (p2, .inl (cA, 64, .inl N)), (p3, .inl (cA, 64, .inl C)), (p4, .inl (cA, 4, .inl R)), (p5, .inl (cJ, 8, .inr (.inl G))), (p6, .inl (cZ, 8, .inl E)), (p7, .inl (cZ, 8, .inl F)), (p8, .inl (cA, 8, .inl T))] → va_S (fun q : Nat => s.heap.size ≤ q) s.heap H locs → lv_has ls 4 [(3, .int (nI (3 * k))), (0, .ref b), (1, .ref o1), (2, .ref o2)] → W p l e room_1 s m #[Value.ref b] below meth c H locs 14 396 (lw_Z below #[Value.ref b] s) (F0 m 18 ls []) := by
  obtain ⟨hx, hb, hr, hml, hown, hts, hX, hbl, hlocks, hgv⟩ := C0
  have hown : s.vm.findClass RL = some m.cls := hown
  have hts := fun w h => hts w (wsL_law_in w h)
  have hA : ∀ q : Nat, s.heap.size ≤ q → (fun q : Nat => s.heap.size ≤ q) q := fun _ h => h
  have hbA : ¬ (fun q : Nat => s.heap.size ≤ q) b := Nat.not_le.mpr hbl
  intro n
  induction n with
  | zero =>
    intro k S D R K pc sc ph rd th lm dy wt M N C G E F T tm sn H locs ls hk hn hI hP hD hS hl
    refine lv_iload_n hx hb dL_law_18 rfl (lv_at hl 0 rfl) ?_
    refine lv_aload_n hx hb dL_law_19 rfl (lv_at hl 1 rfl) ?_
    refine va_slen hx hb hX hbl hbA hS dL_law_20 ?_
    refine lv_iconst (v := 3) hx hb dL_law_21 (by decide) ?_
    refine lv_isub hx hb dL_law_22 ?_
    refine lv_icmp_gt (tgt := 402) hx hb dL_law_23 (by decide) (fun c_1001 => ?_) (fun c_1001 => ?_)
    · refine lv_iconst (v := 1) hx hb dL_law_402 (by decide) ?_
      refine va_forget (fun q hq => hS.2.2 q hq) ?_
      exact lw_ret hx hb hr hlocks dL_law_403
    · exact absurd ((lw_lim hL (by omega)).mpr (by omega)) c_1001
  | succ n ih =>
    intro k S D R K pc sc ph rd th lm dy wt M N C G E F T tm sn H locs ls hk hn hI hP hD hS hl
    refine lv_iload_n hx hb dL_law_18 rfl (lv_at hl 0 rfl) ?_
    refine lv_aload_n hx hb dL_law_19 rfl (lv_at hl 1 rfl) ?_
    refine va_slen hx hb hX hbl hbA hS dL_law_20 ?_
    refine lv_iconst (v := 3) hx hb dL_law_21 (by decide) ?_
    refine lv_isub hx hb dL_law_22 ?_
    refine lv_icmp_gt (tgt := 402) hx hb dL_law_23 (by decide) (fun c_2001 => ?_) (fun c_2001 => ?_)
    · refine lv_iconst (v := 1) hx hb dL_law_402 (by decide) ?_
      refine va_forget (fun q hq => hS.2.2 q hq) ?_
      exact lw_ret hx hb hr hlocks dL_law_403
    · have h3 : 3 * k + 3 ≤ L := Nat.not_lt.mp (fun q => c_2001 ((lw_lim hL (by omega)).mpr q))
      have in0 : vp_in (nI (3 * k)) L := vp_in_nI (by omega) (by omega)
      have in1 : vp_in (nI (3 * k) + 1) L := by rw [nI_1]; exact vp_in_nI (by omega) (by omega)
      have in2 : vp_in (nI (3 * k) + 2) L := by rw [show (2 : Int32) = nI 2 from by decide, nI_add]; exact vp_in_nI (by omega) (by omega)
      refine lv_aload_n hx hb dL_law_26 rfl (lv_at hl 1 rfl) ?_
      refine lv_iload_n hx hb dL_law_27 rfl (lv_at hl 0 rfl) ?_
      refine va_sld hx hb hX hbl hbA hS in0 dL_law_28 ?_
      refine lv_bipush (v := 15) hx hb dL_law_29 (by decide) ?_
      refine lv_iand hx hb dL_law_31 ?_
      rcases op_16 (xs (nI (3 * k)).toNatClampNeg) with o_2002 | o_2002 | o_2002 | o_2002 | o_2002 | o_2002 | o_2002 | o_2002 | o_2002 | o_2002 | o_2002 | o_2002 | o_2002 | o_2002 | o_2002 | o_2002
      · refine lv_tableIn (off := 72) (tgt := 104) hx hb dL_law_32 (by rw [o_2002]; decide) (by rw [o_2002]; decide) (by rw [o_2002]; rfl) (by decide) ?_
        refine lv_aload_n hx hb dL_law_104 rfl (lv_at hl 2 rfl) ?_
        refine lv_aload_n hx hb dL_law_105 rfl (lv_at hl 1 rfl) ?_
        refine lv_iload_n hx hb dL_law_106 rfl (lv_at hl 0 rfl) ?_
        refine lv_iconst (v := 1) hx hb dL_law_107 (by decide) ?_
        refine lv_iadd hx hb dL_law_108 ?_
        refine va_sld hx hb hX hbl hbA hS in1 dL_law_109 ?_
        refine lv_aload_n hx hb dL_law_110 rfl (lv_at hl 1 rfl) ?_
        refine lv_iload_n hx hb dL_law_111 rfl (lv_at hl 0 rfl) ?_
        refine lv_iconst (v := 2) hx hb dL_law_112 (by decide) ?_
        refine lv_iadd hx hb dL_law_113 ?_
        refine va_sld hx hb hX hbl hbA hS in2 dL_law_114 ?_
        have hPc := hP.sub (ws' := [(o1, .inr (0, [.ref q1, .ref q2, .ref q3, .ref q4, .int pc, .int sc, .int ph, .int rd, .int th, .int lm, .int dy, .int wt])), (q1, .inl (cA, 64, .inl S)), (q2, .inl (cA, 64, .inl D)), (q3, .inl (cA, 4, .inl R)), (q4, .inl (cA, 8, .inl K))]) [0, 1, 2, 3, 4] rfl
        have hDc := hD.sub (ws' := [(o1, .inr (0, [.ref q1, .ref q2, .ref q3, .ref q4, .int pc, .int sc, .int ph, .int rd, .int th, .int lm, .int dy, .int wt])), (q1, .inl (cA, 64, .inl S)), (q2, .inl (cA, 64, .inl D)), (q3, .inl (cA, 4, .inl R)), (q4, .inl (cA, 8, .inl K))]) [0, 1, 2, 3, 4] (by decide) rfl
        have hKc := hK.sub (tys' := [(cA, .int)]) [0] rfl
        have hFc := va_free (wc := [(o1, .inr (0, [.ref q1, .ref q2, .ref q3, .ref q4, .int pc, .int sc, .int ph, .int rd, .int th, .int lm, .int dy, .int wt])), (q1, .inl (cA, 64, .inl S)), (q2, .inl (cA, 64, .inl D)), (q3, .inl (cA, 4, .inl R)), (q4, .inl (cA, 8, .inl K))]) hD hS hA [0, 1, 2, 3, 4] rfl
        refine va_calli (va_runV (As := [.int (xs ((nI (3 * k)) + 1).toNatClampNeg), .int (xs ((nI (3 * k)) + 2).toNatClampNeg)]) (rest := []) ⟨hx, hb, hml, hown, hts⟩ (c_X0_poke l dC dI o1 q1 q2 q3 q4 cA S D R K pc sc ph rd th lm dy wt (xs ((nI (3 * k)) + 1).toNatClampNeg) (xs ((nI (3 * k)) + 2).toNatClampNeg) H.size) (cwV 2 hts gL_law_X0_poke rfl rfl rfl (by decide +kernel) ⟨Nat.le_of_ble_eq_true rfl, Nat.le_of_ble_eq_true rfl⟩) ⟨fun a U g mk q => by obtain ⟨q0, q1, qP, qK, qD⟩ := q; exact ⟨q0, q1, qP, va_K.moved (u := U) (U := U.calling g mk a) (Vm.Alike.refl U.vm) qK, qD⟩, va_recv hKc hPc (ci := 0) (q0 := 0) rfl rfl, fun U hU hW => ⟨rfl, by rw [hU], by rw [hU]; exact hPc, va_K.moved hW.alike hKc, hDc.weaken (fun _ _ _ _ => trivial)⟩⟩ rfl rfl hl.1 rfl (lv_room (Nat.le_of_ble_eq_true rfl)) dL_law_115 ⟨Nat.le_of_ble_eq_true rfl, Nat.le_of_ble_eq_true rfl⟩) hS (fun q _ h => hFc q h) hFc (fun r_2003 u_2004 t H1 locs ht hvm w_2005 hB hz1 hk1 hS => ?_)
        obtain ⟨S_2006, D_2007, R_2008, K_2009, pc_2010, sc_2011, ph_2012, rd_2013, th_2014, lm_2015, dy_2016, wt_2017⟩ := u_2004
        obtain ⟨hP1, hK1, hD1⟩ := hB
        rw [ht] at hP1
        obtain ⟨hP, hD⟩ := va_join (wr := [(o2, .inr (1, [.ref p1, .ref p2, .ref p3, .ref p4, .ref p5, .ref p6, .ref p7, .ref p8, .int pc, .int ph, .int rd, .int th, .int lm, .int sc, .long tm, .long sn])), (p1, .inl (cA, 64, .inl M)), (p2, .inl (cA, 64, .inl N)), (p3, .inl (cA, 64, .inl C)), (p4, .inl (cA, 4, .inl R)), (p5, .inl (cJ, 8, .inr (.inl G))), (p6, .inl (cZ, 8, .inl E)), (p7, .inl (cZ, 8, .inl F)), (p8, .inl (cA, 8, .inl T))]) (w1 := [(o1, .inr (0, [.ref q1, .ref q2, .ref q3, .ref q4, .int pc_2010, .int sc_2011, .int ph_2012, .int rd_2013, .int th_2014, .int lm_2015, .int dy_2016, .int wt_2017])), (q1, .inl (cA, 64, .inl S_2006)), (q2, .inl (cA, 64, .inl D_2007)), (q3, .inl (cA, 4, .inl R_2008)), (q4, .inl (cA, 8, .inl K_2009))]) hP hD [0, 1, 2, 3, 4] [5, 6, 7, 8, 9, 10, 11, 12, 13] rfl rfl (by decide) (by decide) hk1 hFc hP1 hD1
        clear hPc hDc hFc hP1 hD1 hk1 hK1
        generalize H1 = H at hP hS ⊢
        have hP : va_P (dC, dI) vwCl [(o2, .inr (1, [.ref p1, .ref p2, .ref p3, .ref p4, .ref p5, .ref p6, .ref p7, .ref p8, .int pc, .int ph, .int rd, .int th, .int lm, .int sc, .long tm, .long sn])), (p1, .inl (cA, 64, .inl M)), (p2, .inl (cA, 64, .inl N)), (p3, .inl (cA, 64, .inl C)), (p4, .inl (cA, 4, .inl R)), (p5, .inl (cJ, 8, .inr (.inl G))), (p6, .inl (cZ, 8, .inl E)), (p7, .inl (cZ, 8, .inl F)), (p8, .inl (cA, 8, .inl T)), (o1, .inr (0, [.ref q1, .ref q2, .ref q3, .ref q4, .int pc_2010, .int sc_2011, .int ph_2012, .int rd_2013, .int th_2014, .int lm_2015, .int dy_2016, .int wt_2017])), (q1, .inl (cA, 64, .inl S_2006)), (q2, .inl (cA, 64, .inl D_2007)), (q3, .inl (cA, 4, .inl R_2008)), (q4, .inl (cA, 8, .inl K_2009))] H := hP
        have hD : va_D (fun q : Nat => s.heap.size ≤ q) [(o2, .inr (1, [.ref p1, .ref p2, .ref p3, .ref p4, .ref p5, .ref p6, .ref p7, .ref p8, .int pc, .int ph, .int rd, .int th, .int lm, .int sc, .long tm, .long sn])), (p1, .inl (cA, 64, .inl M)), (p2, .inl (cA, 64, .inl N)), (p3, .inl (cA, 64, .inl C)), (p4, .inl (cA, 4, .inl R)), (p5, .inl (cJ, 8, .inr (.inl G))), (p6, .inl (cZ, 8, .inl E)), (p7, .inl (cZ, 8, .inl F)), (p8, .inl (cA, 8, .inl T)), (o1, .inr (0, [.ref q1, .ref q2, .ref q3, .ref q4, .int pc_2010, .int sc_2011, .int ph_2012, .int rd_2013, .int th_2014, .int lm_2015, .int dy_2016, .int wt_2017])), (q1, .inl (cA, 64, .inl S_2006)), (q2, .inl (cA, 64, .inl D_2007)), (q3, .inl (cA, 4, .inl R_2008)), (q4, .inl (cA, 8, .inl K_2009))] := hD
        refine lv_aload_n hx hb dL_law_118 rfl (lv_at hl 3 rfl) ?_
        refine lv_aload_n hx hb dL_law_119 rfl (lv_at hl 1 rfl) ?_
        refine lv_iload_n hx hb dL_law_120 rfl (lv_at hl 0 rfl) ?_
        refine lv_iconst (v := 1) hx hb dL_law_121 (by decide) ?_
        refine lv_iadd hx hb dL_law_122 ?_
        refine va_sld hx hb hX hbl hbA hS in1 dL_law_123 ?_
        refine lv_aload_n hx hb dL_law_124 rfl (lv_at hl 1 rfl) ?_
        refine lv_iload_n hx hb dL_law_125 rfl (lv_at hl 0 rfl) ?_
        refine lv_iconst (v := 2) hx hb dL_law_126 (by decide) ?_
        refine lv_iadd hx hb dL_law_127 ?_
        refine va_sld hx hb hX hbl hbA hS in2 dL_law_128 ?_
        have hPc := hP.sub (ws' := [(o2, .inr (1, [.ref p1, .ref p2, .ref p3, .ref p4, .ref p5, .ref p6, .ref p7, .ref p8, .int pc, .int ph, .int rd, .int th, .int lm, .int sc, .long tm, .long sn])), (p1, .inl (cA, 64, .inl M)), (p2, .inl (cA, 64, .inl N)), (p3, .inl (cA, 64, .inl C)), (p4, .inl (cA, 4, .inl R)), (p5, .inl (cJ, 8, .inr (.inl G))), (p6, .inl (cZ, 8, .inl E)), (p7, .inl (cZ, 8, .inl F)), (p8, .inl (cA, 8, .inl T))]) [0, 1, 2, 3, 4, 5, 6, 7, 8] rfl
        have hDc := hD.sub (ws' := [(o2, .inr (1, [.ref p1, .ref p2, .ref p3, .ref p4, .ref p5, .ref p6, .ref p7, .ref p8, .int pc, .int ph, .int rd, .int th, .int lm, .int sc, .long tm, .long sn])), (p1, .inl (cA, 64, .inl M)), (p2, .inl (cA, 64, .inl N)), (p3, .inl (cA, 64, .inl C)), (p4, .inl (cA, 4, .inl R)), (p5, .inl (cJ, 8, .inr (.inl G))), (p6, .inl (cZ, 8, .inl E)), (p7, .inl (cZ, 8, .inl F)), (p8, .inl (cA, 8, .inl T))]) [0, 1, 2, 3, 4, 5, 6, 7, 8] (by decide) rfl
        have hKc := hK.sub (tys' := [(cA, .int), (cJ, .long), (cZ, .boolean)]) [0, 1, 2] rfl
        have hFc := va_free (wc := [(o2, .inr (1, [.ref p1, .ref p2, .ref p3, .ref p4, .ref p5, .ref p6, .ref p7, .ref p8, .int pc, .int ph, .int rd, .int th, .int lm, .int sc, .long tm, .long sn])), (p1, .inl (cA, 64, .inl M)), (p2, .inl (cA, 64, .inl N)), (p3, .inl (cA, 64, .inl C)), (p4, .inl (cA, 4, .inl R)), (p5, .inl (cJ, 8, .inr (.inl G))), (p6, .inl (cZ, 8, .inl E)), (p7, .inl (cZ, 8, .inl F)), (p8, .inl (cA, 8, .inl T))]) hD hS hA [0, 1, 2, 3, 4, 5, 6, 7, 8] rfl
        refine va_calli (va_runV (As := [.int (xs ((nI (3 * k)) + 1).toNatClampNeg), .int (xs ((nI (3 * k)) + 2).toNatClampNeg)]) (rest := [.int r_2003]) ⟨hx, hb, hml, hown, hts⟩ (c_X1_poke l dC dI o2 p1 p2 p3 p4 p5 p6 p7 p8 cA cJ cZ M N C R G E F T pc ph rd th lm sc tm sn (xs ((nI (3 * k)) + 1).toNatClampNeg) (xs ((nI (3 * k)) + 2).toNatClampNeg) H.size) (cwV 2 hts gL_law_X1_poke rfl rfl rfl (by decide +kernel) ⟨Nat.le_of_ble_eq_true rfl, Nat.le_of_ble_eq_true rfl⟩) ⟨fun a U g mk q => by obtain ⟨q0, q1, qP, qK, qD⟩ := q; exact ⟨q0, q1, qP, va_K.moved (u := U) (U := U.calling g mk a) (Vm.Alike.refl U.vm) qK, qD⟩, va_recv hKc hPc (ci := 1) (q0 := 0) rfl rfl, fun U hU hW => ⟨rfl, by rw [hU], by rw [hU]; exact hPc, va_K.moved hW.alike hKc, hDc.weaken (fun _ _ _ _ => trivial)⟩⟩ rfl rfl hl.1 rfl (lv_room (Nat.le_of_ble_eq_true rfl)) dL_law_129 ⟨Nat.le_of_ble_eq_true rfl, Nat.le_of_ble_eq_true rfl⟩) hS (fun q _ h => hFc q h) hFc (fun r_2018 u_2019 t H1 locs ht hvm w_2020 hB hz1 hk1 hS => ?_)
        obtain ⟨M_2021, N_2022, C_2023, R_2024, G_2025, E_2026, F_2027, T_2028, pc_2029, ph_2030, rd_2031, th_2032, lm_2033, sh_2034, tm_2035, sn_2036⟩ := u_2019
        obtain ⟨hP1, hK1, hD1⟩ := hB
        rw [ht] at hP1
        obtain ⟨hP, hD⟩ := va_join (wr := [(o1, .inr (0, [.ref q1, .ref q2, .ref q3, .ref q4, .int pc_2010, .int sc_2011, .int ph_2012, .int rd_2013, .int th_2014, .int lm_2015, .int dy_2016, .int wt_2017])), (q1, .inl (cA, 64, .inl S_2006)), (q2, .inl (cA, 64, .inl D_2007)), (q3, .inl (cA, 4, .inl R_2008)), (q4, .inl (cA, 8, .inl K_2009))]) (w1 := [(o2, .inr (1, [.ref p1, .ref p2, .ref p3, .ref p4, .ref p5, .ref p6, .ref p7, .ref p8, .int pc_2029, .int ph_2030, .int rd_2031, .int th_2032, .int lm_2033, .int sh_2034, .long tm_2035, .long sn_2036])), (p1, .inl (cA, 64, .inl M_2021)), (p2, .inl (cA, 64, .inl N_2022)), (p3, .inl (cA, 64, .inl C_2023)), (p4, .inl (cA, 4, .inl R_2024)), (p5, .inl (cJ, 8, .inr (.inl G_2025))), (p6, .inl (cZ, 8, .inl E_2026)), (p7, .inl (cZ, 8, .inl F_2027)), (p8, .inl (cA, 8, .inl T_2028))]) hP hD [0, 1, 2, 3, 4, 5, 6, 7, 8] [9, 10, 11, 12, 13] rfl rfl (by decide) (by decide) hk1 hFc hP1 hD1
        clear hPc hDc hFc hP1 hD1 hk1 hK1
        generalize H1 = H at hP hS ⊢
        have hP : va_P (dC, dI) vwCl [(o1, .inr (0, [.ref q1, .ref q2, .ref q3, .ref q4, .int pc_2010, .int sc_2011, .int ph_2012, .int rd_2013, .int th_2014, .int lm_2015, .int dy_2016, .int wt_2017])), (q1, .inl (cA, 64, .inl S_2006)), (q2, .inl (cA, 64, .inl D_2007)), (q3, .inl (cA, 4, .inl R_2008)), (q4, .inl (cA, 8, .inl K_2009)), (o2, .inr (1, [.ref p1, .ref p2, .ref p3, .ref p4, .ref p5, .ref p6, .ref p7, .ref p8, .int pc_2029, .int ph_2030, .int rd_2031, .int th_2032, .int lm_2033, .int sh_2034, .long tm_2035, .long sn_2036])), (p1, .inl (cA, 64, .inl M_2021)), (p2, .inl (cA, 64, .inl N_2022)), (p3, .inl (cA, 64, .inl C_2023)), (p4, .inl (cA, 4, .inl R_2024)), (p5, .inl (cJ, 8, .inr (.inl G_2025))), (p6, .inl (cZ, 8, .inl E_2026)), (p7, .inl (cZ, 8, .inl F_2027)), (p8, .inl (cA, 8, .inl T_2028))] H := hP
        have hD : va_D (fun q : Nat => s.heap.size ≤ q) [(o1, .inr (0, [.ref q1, .ref q2, .ref q3, .ref q4, .int pc_2010, .int sc_2011, .int ph_2012, .int rd_2013, .int th_2014, .int lm_2015, .int dy_2016, .int wt_2017])), (q1, .inl (cA, 64, .inl S_2006)), (q2, .inl (cA, 64, .inl D_2007)), (q3, .inl (cA, 4, .inl R_2008)), (q4, .inl (cA, 8, .inl K_2009)), (o2, .inr (1, [.ref p1, .ref p2, .ref p3, .ref p4, .ref p5, .ref p6, .ref p7, .ref p8, .int pc_2029, .int ph_2030, .int rd_2031, .int th_2032, .int lm_2033, .int sh_2034, .long tm_2035, .long sn_2036])), (p1, .inl (cA, 64, .inl M_2021)), (p2, .inl (cA, 64, .inl N_2022)), (p3, .inl (cA, 64, .inl C_2023)), (p4, .inl (cA, 4, .inl R_2024)), (p5, .inl (cJ, 8, .inr (.inl G_2025))), (p6, .inl (cZ, 8, .inl E_2026)), (p7, .inl (cZ, 8, .inl F_2027)), (p8, .inl (cA, 8, .inl T_2028))] := hD
        obtain ⟨er, hR⟩ := mx_poke hI w_2005 w_2020
        refine lv_icmp_eq (tgt := 396) hx hb dL_law_132 (by decide) (fun c_2037 => ?_) (fun c_2037 => ?_)
        · refine lv_iinc (v := (nI (3 * k)) + 3) (lv' := [(3, .int ((nI (3 * k)) + 3)), (0, .ref b), (1, .ref o1), (2, .ref o2)]) hx hb dL_law_396 hl (k := 0) rfl rfl (by decide) rfl (fun ls hl => ?_)
          refine lv_goto (tgt := 18) hx hb dL_law_399 (by decide) ?_
          have hl : lv_has ls 4 [(3, .int (nI (3 * (k + 1)))), (0, .ref b), (1, .ref o1), (2, .ref o2)] := by
            rw [show nI (3 * (k + 1)) = nI (3 * k) + 3 from by rw [show (3 : Int32) = nI 3 from by decide, nI_add]; rfl]
            exact lv_sub hl [0, 1, 2, 3] rfl
          obtain ⟨S_z, D_z, R_z, K_z, pc_z, sc_z, ph_z, rd_z, th_z, lm_z, dy_z, wt_z, M_z, N_z, C_z, G_z, E_z, F_z, T_z, tm_z, sn_z, eu, ev, hI⟩ := hR
          cases eu
          cases ev
          exact ih (k + 1) _ _ _ _ _ _ _ _ _ _ _ _ _ _ _ _ _ _ _ _ _ H locs ls (by omega) (by omega) (mx_I_le hI (by omega) hI.1) hP hD hS hl
        · exact absurd er c_2037
      · refine lv_tableIn (off := 105) (tgt := 137) hx hb dL_law_32 (by rw [o_2002]; decide) (by rw [o_2002]; decide) (by rw [o_2002]; rfl) (by decide) ?_
        refine lv_aload_n hx hb dL_law_137 rfl (lv_at hl 2 rfl) ?_
        refine lv_aload_n hx hb dL_law_138 rfl (lv_at hl 1 rfl) ?_
        refine lv_iload_n hx hb dL_law_139 rfl (lv_at hl 0 rfl) ?_
        refine lv_iconst (v := 1) hx hb dL_law_140 (by decide) ?_
        refine lv_iadd hx hb dL_law_141 ?_
        refine va_sld hx hb hX hbl hbA hS in1 dL_law_142 ?_
        refine lv_aload_n hx hb dL_law_143 rfl (lv_at hl 1 rfl) ?_
        refine lv_iload_n hx hb dL_law_144 rfl (lv_at hl 0 rfl) ?_
        refine lv_iconst (v := 2) hx hb dL_law_145 (by decide) ?_
        refine lv_iadd hx hb dL_law_146 ?_
        refine va_sld hx hb hX hbl hbA hS in2 dL_law_147 ?_
        have hPc := hP.sub (ws' := [(o1, .inr (0, [.ref q1, .ref q2, .ref q3, .ref q4, .int pc, .int sc, .int ph, .int rd, .int th, .int lm, .int dy, .int wt])), (q1, .inl (cA, 64, .inl S)), (q2, .inl (cA, 64, .inl D)), (q3, .inl (cA, 4, .inl R)), (q4, .inl (cA, 8, .inl K))]) [0, 1, 2, 3, 4] rfl
        have hDc := hD.sub (ws' := [(o1, .inr (0, [.ref q1, .ref q2, .ref q3, .ref q4, .int pc, .int sc, .int ph, .int rd, .int th, .int lm, .int dy, .int wt])), (q1, .inl (cA, 64, .inl S)), (q2, .inl (cA, 64, .inl D)), (q3, .inl (cA, 4, .inl R)), (q4, .inl (cA, 8, .inl K))]) [0, 1, 2, 3, 4] (by decide) rfl
        have hKc := hK.sub (tys' := [(cA, .int)]) [0] rfl
        have hFc := va_free (wc := [(o1, .inr (0, [.ref q1, .ref q2, .ref q3, .ref q4, .int pc, .int sc, .int ph, .int rd, .int th, .int lm, .int dy, .int wt])), (q1, .inl (cA, 64, .inl S)), (q2, .inl (cA, 64, .inl D)), (q3, .inl (cA, 4, .inl R)), (q4, .inl (cA, 8, .inl K))]) hD hS hA [0, 1, 2, 3, 4] rfl
        refine va_calli (va_runV (As := [.int (xs ((nI (3 * k)) + 1).toNatClampNeg), .int (xs ((nI (3 * k)) + 2).toNatClampNeg)]) (rest := []) ⟨hx, hb, hml, hown, hts⟩ (c_X0_begin l dC dI o1 q1 q2 q3 q4 cA S D R K pc sc ph rd th lm dy wt (xs ((nI (3 * k)) + 1).toNatClampNeg) (xs ((nI (3 * k)) + 2).toNatClampNeg) H.size) (cwV 2 hts gL_law_X0_begin rfl rfl rfl (by decide +kernel) ⟨Nat.le_of_ble_eq_true rfl, Nat.le_of_ble_eq_true rfl⟩) ⟨fun a U g mk q => by obtain ⟨q0, q1, qP, qK, qD⟩ := q; exact ⟨q0, q1, qP, va_K.moved (u := U) (U := U.calling g mk a) (Vm.Alike.refl U.vm) qK, qD⟩, va_recv hKc hPc (ci := 0) (q0 := 0) rfl rfl, fun U hU hW => ⟨rfl, by rw [hU], by rw [hU]; exact hPc, va_K.moved hW.alike hKc, hDc.weaken (fun _ _ _ _ => trivial)⟩⟩ rfl rfl hl.1 rfl (lv_room (Nat.le_of_ble_eq_true rfl)) dL_law_148 ⟨Nat.le_of_ble_eq_true rfl, Nat.le_of_ble_eq_true rfl⟩) hS (fun q _ h => hFc q h) hFc (fun r_2038 u_2039 t H1 locs ht hvm w_2040 hB hz1 hk1 hS => ?_)
        obtain ⟨S_2041, D_2042, R_2043, K_2044, pc_2045, sc_2046, ph_2047, rd_2048, th_2049, lm_2050, dy_2051, wt_2052⟩ := u_2039
        obtain ⟨hP1, hK1, hD1⟩ := hB
        rw [ht] at hP1
        obtain ⟨hP, hD⟩ := va_join (wr := [(o2, .inr (1, [.ref p1, .ref p2, .ref p3, .ref p4, .ref p5, .ref p6, .ref p7, .ref p8, .int pc, .int ph, .int rd, .int th, .int lm, .int sc, .long tm, .long sn])), (p1, .inl (cA, 64, .inl M)), (p2, .inl (cA, 64, .inl N)), (p3, .inl (cA, 64, .inl C)), (p4, .inl (cA, 4, .inl R)), (p5, .inl (cJ, 8, .inr (.inl G))), (p6, .inl (cZ, 8, .inl E)), (p7, .inl (cZ, 8, .inl F)), (p8, .inl (cA, 8, .inl T))]) (w1 := [(o1, .inr (0, [.ref q1, .ref q2, .ref q3, .ref q4, .int pc_2045, .int sc_2046, .int ph_2047, .int rd_2048, .int th_2049, .int lm_2050, .int dy_2051, .int wt_2052])), (q1, .inl (cA, 64, .inl S_2041)), (q2, .inl (cA, 64, .inl D_2042)), (q3, .inl (cA, 4, .inl R_2043)), (q4, .inl (cA, 8, .inl K_2044))]) hP hD [0, 1, 2, 3, 4] [5, 6, 7, 8, 9, 10, 11, 12, 13] rfl rfl (by decide) (by decide) hk1 hFc hP1 hD1
        clear hPc hDc hFc hP1 hD1 hk1 hK1
        generalize H1 = H at hP hS ⊢
        have hP : va_P (dC, dI) vwCl [(o2, .inr (1, [.ref p1, .ref p2, .ref p3, .ref p4, .ref p5, .ref p6, .ref p7, .ref p8, .int pc, .int ph, .int rd, .int th, .int lm, .int sc, .long tm, .long sn])), (p1, .inl (cA, 64, .inl M)), (p2, .inl (cA, 64, .inl N)), (p3, .inl (cA, 64, .inl C)), (p4, .inl (cA, 4, .inl R)), (p5, .inl (cJ, 8, .inr (.inl G))), (p6, .inl (cZ, 8, .inl E)), (p7, .inl (cZ, 8, .inl F)), (p8, .inl (cA, 8, .inl T)), (o1, .inr (0, [.ref q1, .ref q2, .ref q3, .ref q4, .int pc_2045, .int sc_2046, .int ph_2047, .int rd_2048, .int th_2049, .int lm_2050, .int dy_2051, .int wt_2052])), (q1, .inl (cA, 64, .inl S_2041)), (q2, .inl (cA, 64, .inl D_2042)), (q3, .inl (cA, 4, .inl R_2043)), (q4, .inl (cA, 8, .inl K_2044))] H := hP
        have hD : va_D (fun q : Nat => s.heap.size ≤ q) [(o2, .inr (1, [.ref p1, .ref p2, .ref p3, .ref p4, .ref p5, .ref p6, .ref p7, .ref p8, .int pc, .int ph, .int rd, .int th, .int lm, .int sc, .long tm, .long sn])), (p1, .inl (cA, 64, .inl M)), (p2, .inl (cA, 64, .inl N)), (p3, .inl (cA, 64, .inl C)), (p4, .inl (cA, 4, .inl R)), (p5, .inl (cJ, 8, .inr (.inl G))), (p6, .inl (cZ, 8, .inl E)), (p7, .inl (cZ, 8, .inl F)), (p8, .inl (cA, 8, .inl T)), (o1, .inr (0, [.ref q1, .ref q2, .ref q3, .ref q4, .int pc_2045, .int sc_2046, .int ph_2047, .int rd_2048, .int th_2049, .int lm_2050, .int dy_2051, .int wt_2052])), (q1, .inl (cA, 64, .inl S_2041)), (q2, .inl (cA, 64, .inl D_2042)), (q3, .inl (cA, 4, .inl R_2043)), (q4, .inl (cA, 8, .inl K_2044))] := hD
        refine lv_aload_n hx hb dL_law_151 rfl (lv_at hl 3 rfl) ?_
        refine lv_aload_n hx hb dL_law_152 rfl (lv_at hl 1 rfl) ?_
        refine lv_iload_n hx hb dL_law_153 rfl (lv_at hl 0 rfl) ?_
        refine lv_iconst (v := 1) hx hb dL_law_154 (by decide) ?_
        refine lv_iadd hx hb dL_law_155 ?_
        refine va_sld hx hb hX hbl hbA hS in1 dL_law_156 ?_
        refine lv_aload_n hx hb dL_law_157 rfl (lv_at hl 1 rfl) ?_
        refine lv_iload_n hx hb dL_law_158 rfl (lv_at hl 0 rfl) ?_
        refine lv_iconst (v := 2) hx hb dL_law_159 (by decide) ?_
        refine lv_iadd hx hb dL_law_160 ?_
        refine va_sld hx hb hX hbl hbA hS in2 dL_law_161 ?_
        have hPc := hP.sub (ws' := [(o2, .inr (1, [.ref p1, .ref p2, .ref p3, .ref p4, .ref p5, .ref p6, .ref p7, .ref p8, .int pc, .int ph, .int rd, .int th, .int lm, .int sc, .long tm, .long sn])), (p1, .inl (cA, 64, .inl M)), (p2, .inl (cA, 64, .inl N)), (p3, .inl (cA, 64, .inl C)), (p4, .inl (cA, 4, .inl R)), (p5, .inl (cJ, 8, .inr (.inl G))), (p6, .inl (cZ, 8, .inl E)), (p7, .inl (cZ, 8, .inl F)), (p8, .inl (cA, 8, .inl T))]) [0, 1, 2, 3, 4, 5, 6, 7, 8] rfl
        have hDc := hD.sub (ws' := [(o2, .inr (1, [.ref p1, .ref p2, .ref p3, .ref p4, .ref p5, .ref p6, .ref p7, .ref p8, .int pc, .int ph, .int rd, .int th, .int lm, .int sc, .long tm, .long sn])), (p1, .inl (cA, 64, .inl M)), (p2, .inl (cA, 64, .inl N)), (p3, .inl (cA, 64, .inl C)), (p4, .inl (cA, 4, .inl R)), (p5, .inl (cJ, 8, .inr (.inl G))), (p6, .inl (cZ, 8, .inl E)), (p7, .inl (cZ, 8, .inl F)), (p8, .inl (cA, 8, .inl T))]) [0, 1, 2, 3, 4, 5, 6, 7, 8] (by decide) rfl
        have hKc := hK.sub (tys' := [(cA, .int), (cJ, .long), (cZ, .boolean)]) [0, 1, 2] rfl
        have hFc := va_free (wc := [(o2, .inr (1, [.ref p1, .ref p2, .ref p3, .ref p4, .ref p5, .ref p6, .ref p7, .ref p8, .int pc, .int ph, .int rd, .int th, .int lm, .int sc, .long tm, .long sn])), (p1, .inl (cA, 64, .inl M)), (p2, .inl (cA, 64, .inl N)), (p3, .inl (cA, 64, .inl C)), (p4, .inl (cA, 4, .inl R)), (p5, .inl (cJ, 8, .inr (.inl G))), (p6, .inl (cZ, 8, .inl E)), (p7, .inl (cZ, 8, .inl F)), (p8, .inl (cA, 8, .inl T))]) hD hS hA [0, 1, 2, 3, 4, 5, 6, 7, 8] rfl
        refine va_calli (va_runV (As := [.int (xs ((nI (3 * k)) + 1).toNatClampNeg), .int (xs ((nI (3 * k)) + 2).toNatClampNeg)]) (rest := [.int r_2038]) ⟨hx, hb, hml, hown, hts⟩ (c_X1_begin l dC dI o2 p1 p2 p3 p4 p5 p6 p7 p8 cA cJ cZ M N C R G E F T pc ph rd th lm sc tm sn (xs ((nI (3 * k)) + 1).toNatClampNeg) (xs ((nI (3 * k)) + 2).toNatClampNeg) H.size) (cwV 2 hts gL_law_X1_begin rfl rfl rfl (by decide +kernel) ⟨Nat.le_of_ble_eq_true rfl, Nat.le_of_ble_eq_true rfl⟩) ⟨fun a U g mk q => by obtain ⟨q0, q1, qP, qK, qD⟩ := q; exact ⟨q0, q1, qP, va_K.moved (u := U) (U := U.calling g mk a) (Vm.Alike.refl U.vm) qK, qD⟩, va_recv hKc hPc (ci := 1) (q0 := 0) rfl rfl, fun U hU hW => ⟨rfl, by rw [hU], by rw [hU]; exact hPc, va_K.moved hW.alike hKc, hDc.weaken (fun _ _ _ _ => trivial)⟩⟩ rfl rfl hl.1 rfl (lv_room (Nat.le_of_ble_eq_true rfl)) dL_law_162 ⟨Nat.le_of_ble_eq_true rfl, Nat.le_of_ble_eq_true rfl⟩) hS (fun q _ h => hFc q h) hFc (fun r_2053 u_2054 t H1 locs ht hvm w_2055 hB hz1 hk1 hS => ?_)
        obtain ⟨M_2056, N_2057, C_2058, R_2059, G_2060, E_2061, F_2062, T_2063, pc_2064, ph_2065, rd_2066, th_2067, lm_2068, sh_2069, tm_2070, sn_2071⟩ := u_2054
        obtain ⟨hP1, hK1, hD1⟩ := hB
        rw [ht] at hP1
        obtain ⟨hP, hD⟩ := va_join (wr := [(o1, .inr (0, [.ref q1, .ref q2, .ref q3, .ref q4, .int pc_2045, .int sc_2046, .int ph_2047, .int rd_2048, .int th_2049, .int lm_2050, .int dy_2051, .int wt_2052])), (q1, .inl (cA, 64, .inl S_2041)), (q2, .inl (cA, 64, .inl D_2042)), (q3, .inl (cA, 4, .inl R_2043)), (q4, .inl (cA, 8, .inl K_2044))]) (w1 := [(o2, .inr (1, [.ref p1, .ref p2, .ref p3, .ref p4, .ref p5, .ref p6, .ref p7, .ref p8, .int pc_2064, .int ph_2065, .int rd_2066, .int th_2067, .int lm_2068, .int sh_2069, .long tm_2070, .long sn_2071])), (p1, .inl (cA, 64, .inl M_2056)), (p2, .inl (cA, 64, .inl N_2057)), (p3, .inl (cA, 64, .inl C_2058)), (p4, .inl (cA, 4, .inl R_2059)), (p5, .inl (cJ, 8, .inr (.inl G_2060))), (p6, .inl (cZ, 8, .inl E_2061)), (p7, .inl (cZ, 8, .inl F_2062)), (p8, .inl (cA, 8, .inl T_2063))]) hP hD [0, 1, 2, 3, 4, 5, 6, 7, 8] [9, 10, 11, 12, 13] rfl rfl (by decide) (by decide) hk1 hFc hP1 hD1
        clear hPc hDc hFc hP1 hD1 hk1 hK1
        generalize H1 = H at hP hS ⊢
        have hP : va_P (dC, dI) vwCl [(o1, .inr (0, [.ref q1, .ref q2, .ref q3, .ref q4, .int pc_2045, .int sc_2046, .int ph_2047, .int rd_2048, .int th_2049, .int lm_2050, .int dy_2051, .int wt_2052])), (q1, .inl (cA, 64, .inl S_2041)), (q2, .inl (cA, 64, .inl D_2042)), (q3, .inl (cA, 4, .inl R_2043)), (q4, .inl (cA, 8, .inl K_2044)), (o2, .inr (1, [.ref p1, .ref p2, .ref p3, .ref p4, .ref p5, .ref p6, .ref p7, .ref p8, .int pc_2064, .int ph_2065, .int rd_2066, .int th_2067, .int lm_2068, .int sh_2069, .long tm_2070, .long sn_2071])), (p1, .inl (cA, 64, .inl M_2056)), (p2, .inl (cA, 64, .inl N_2057)), (p3, .inl (cA, 64, .inl C_2058)), (p4, .inl (cA, 4, .inl R_2059)), (p5, .inl (cJ, 8, .inr (.inl G_2060))), (p6, .inl (cZ, 8, .inl E_2061)), (p7, .inl (cZ, 8, .inl F_2062)), (p8, .inl (cA, 8, .inl T_2063))] H := hP
        have hD : va_D (fun q : Nat => s.heap.size ≤ q) [(o1, .inr (0, [.ref q1, .ref q2, .ref q3, .ref q4, .int pc_2045, .int sc_2046, .int ph_2047, .int rd_2048, .int th_2049, .int lm_2050, .int dy_2051, .int wt_2052])), (q1, .inl (cA, 64, .inl S_2041)), (q2, .inl (cA, 64, .inl D_2042)), (q3, .inl (cA, 4, .inl R_2043)), (q4, .inl (cA, 8, .inl K_2044)), (o2, .inr (1, [.ref p1, .ref p2, .ref p3, .ref p4, .ref p5, .ref p6, .ref p7, .ref p8, .int pc_2064, .int ph_2065, .int rd_2066, .int th_2067, .int lm_2068, .int sh_2069, .long tm_2070, .long sn_2071])), (p1, .inl (cA, 64, .inl M_2056)), (p2, .inl (cA, 64, .inl N_2057)), (p3, .inl (cA, 64, .inl C_2058)), (p4, .inl (cA, 4, .inl R_2059)), (p5, .inl (cJ, 8, .inr (.inl G_2060))), (p6, .inl (cZ, 8, .inl E_2061)), (p7, .inl (cZ, 8, .inl F_2062)), (p8, .inl (cA, 8, .inl T_2063))] := hD
        obtain ⟨er, hR⟩ := mx_begin hI w_2040 w_2055
        refine lv_icmp_eq (tgt := 396) hx hb dL_law_165 (by decide) (fun c_2072 => ?_) (fun c_2072 => ?_)
        · refine lv_iinc (v := (nI (3 * k)) + 3) (lv' := [(3, .int ((nI (3 * k)) + 3)), (0, .ref b), (1, .ref o1), (2, .ref o2)]) hx hb dL_law_396 hl (k := 0) rfl rfl (by decide) rfl (fun ls hl => ?_)
          refine lv_goto (tgt := 18) hx hb dL_law_399 (by decide) ?_
          have hl : lv_has ls 4 [(3, .int (nI (3 * (k + 1)))), (0, .ref b), (1, .ref o1), (2, .ref o2)] := by
            rw [show nI (3 * (k + 1)) = nI (3 * k) + 3 from by rw [show (3 : Int32) = nI 3 from by decide, nI_add]; rfl]
            exact lv_sub hl [0, 1, 2, 3] rfl
          obtain ⟨S_z, D_z, R_z, K_z, pc_z, sc_z, ph_z, rd_z, th_z, lm_z, dy_z, wt_z, M_z, N_z, C_z, G_z, E_z, F_z, T_z, tm_z, sn_z, eu, ev, hI⟩ := hR
          cases eu
          cases ev
          exact ih (k + 1) _ _ _ _ _ _ _ _ _ _ _ _ _ _ _ _ _ _ _ _ _ H locs ls (by omega) (by omega) (mx_I_le hI (by omega) hI.1) hP hD hS hl
        · exact absurd er c_2072
      · refine lv_tableIn (off := 138) (tgt := 170) hx hb dL_law_32 (by rw [o_2002]; decide) (by rw [o_2002]; decide) (by rw [o_2002]; rfl) (by decide) ?_
        refine lv_aload_n hx hb dL_law_170 rfl (lv_at hl 2 rfl) ?_
        refine lv_aload_n hx hb dL_law_171 rfl (lv_at hl 1 rfl) ?_
        refine lv_iload_n hx hb dL_law_172 rfl (lv_at hl 0 rfl) ?_
        refine lv_iconst (v := 1) hx hb dL_law_173 (by decide) ?_
        refine lv_iadd hx hb dL_law_174 ?_
        refine va_sld hx hb hX hbl hbA hS in1 dL_law_175 ?_
        have hPc := hP.sub (ws' := [(o1, .inr (0, [.ref q1, .ref q2, .ref q3, .ref q4, .int pc, .int sc, .int ph, .int rd, .int th, .int lm, .int dy, .int wt])), (q1, .inl (cA, 64, .inl S)), (q2, .inl (cA, 64, .inl D)), (q3, .inl (cA, 4, .inl R)), (q4, .inl (cA, 8, .inl K))]) [0, 1, 2, 3, 4] rfl
        have hDc := hD.sub (ws' := [(o1, .inr (0, [.ref q1, .ref q2, .ref q3, .ref q4, .int pc, .int sc, .int ph, .int rd, .int th, .int lm, .int dy, .int wt])), (q1, .inl (cA, 64, .inl S)), (q2, .inl (cA, 64, .inl D)), (q3, .inl (cA, 4, .inl R)), (q4, .inl (cA, 8, .inl K))]) [0, 1, 2, 3, 4] (by decide) rfl
        have hKc := hK.sub (tys' := [(cA, .int)]) [0] rfl
        have hFc := va_free (wc := [(o1, .inr (0, [.ref q1, .ref q2, .ref q3, .ref q4, .int pc, .int sc, .int ph, .int rd, .int th, .int lm, .int dy, .int wt])), (q1, .inl (cA, 64, .inl S)), (q2, .inl (cA, 64, .inl D)), (q3, .inl (cA, 4, .inl R)), (q4, .inl (cA, 8, .inl K))]) hD hS hA [0, 1, 2, 3, 4] rfl
        refine va_calli (va_runV (As := [.int (xs ((nI (3 * k)) + 1).toNatClampNeg)]) (rest := []) ⟨hx, hb, hml, hown, hts⟩ (c_X0_run l dC dI o1 q1 q2 q3 q4 cA S D R K pc sc ph rd th lm dy wt (xs ((nI (3 * k)) + 1).toNatClampNeg) H.size) (cwV 1 hts gL_law_X0_run rfl rfl rfl (by decide +kernel) ⟨Nat.le_of_ble_eq_true rfl, Nat.le_of_ble_eq_true rfl⟩) ⟨fun a U g mk q => by obtain ⟨q0, q1, qP, qK, qD⟩ := q; exact ⟨q0, q1, qP, va_K.moved (u := U) (U := U.calling g mk a) (Vm.Alike.refl U.vm) qK, qD⟩, va_recv hKc hPc (ci := 0) (q0 := 0) rfl rfl, fun U hU hW => ⟨rfl, by rw [hU], by rw [hU]; exact hPc, va_K.moved hW.alike hKc, hDc.weaken (fun _ _ _ _ => trivial)⟩⟩ rfl rfl hl.1 rfl (lv_room (Nat.le_of_ble_eq_true rfl)) dL_law_176 ⟨Nat.le_of_ble_eq_true rfl, Nat.le_of_ble_eq_true rfl⟩) hS (fun q _ h => hFc q h) hFc (fun r_2073 u_2074 t H1 locs ht hvm w_2075 hB hz1 hk1 hS => ?_)
        obtain ⟨S_2076, D_2077, R_2078, K_2079, pc_2080, sc_2081, ph_2082, rd_2083, th_2084, lm_2085, dy_2086, wt_2087⟩ := u_2074
        obtain ⟨hP1, hK1, hD1⟩ := hB
        rw [ht] at hP1
        obtain ⟨hP, hD⟩ := va_join (wr := [(o2, .inr (1, [.ref p1, .ref p2, .ref p3, .ref p4, .ref p5, .ref p6, .ref p7, .ref p8, .int pc, .int ph, .int rd, .int th, .int lm, .int sc, .long tm, .long sn])), (p1, .inl (cA, 64, .inl M)), (p2, .inl (cA, 64, .inl N)), (p3, .inl (cA, 64, .inl C)), (p4, .inl (cA, 4, .inl R)), (p5, .inl (cJ, 8, .inr (.inl G))), (p6, .inl (cZ, 8, .inl E)), (p7, .inl (cZ, 8, .inl F)), (p8, .inl (cA, 8, .inl T))]) (w1 := [(o1, .inr (0, [.ref q1, .ref q2, .ref q3, .ref q4, .int pc_2080, .int sc_2081, .int ph_2082, .int rd_2083, .int th_2084, .int lm_2085, .int dy_2086, .int wt_2087])), (q1, .inl (cA, 64, .inl S_2076)), (q2, .inl (cA, 64, .inl D_2077)), (q3, .inl (cA, 4, .inl R_2078)), (q4, .inl (cA, 8, .inl K_2079))]) hP hD [0, 1, 2, 3, 4] [5, 6, 7, 8, 9, 10, 11, 12, 13] rfl rfl (by decide) (by decide) hk1 hFc hP1 hD1
        clear hPc hDc hFc hP1 hD1 hk1 hK1
        generalize H1 = H at hP hS ⊢
        have hP : va_P (dC, dI) vwCl [(o2, .inr (1, [.ref p1, .ref p2, .ref p3, .ref p4, .ref p5, .ref p6, .ref p7, .ref p8, .int pc, .int ph, .int rd, .int th, .int lm, .int sc, .long tm, .long sn])), (p1, .inl (cA, 64, .inl M)), (p2, .inl (cA, 64, .inl N)), (p3, .inl (cA, 64, .inl C)), (p4, .inl (cA, 4, .inl R)), (p5, .inl (cJ, 8, .inr (.inl G))), (p6, .inl (cZ, 8, .inl E)), (p7, .inl (cZ, 8, .inl F)), (p8, .inl (cA, 8, .inl T)), (o1, .inr (0, [.ref q1, .ref q2, .ref q3, .ref q4, .int pc_2080, .int sc_2081, .int ph_2082, .int rd_2083, .int th_2084, .int lm_2085, .int dy_2086, .int wt_2087])), (q1, .inl (cA, 64, .inl S_2076)), (q2, .inl (cA, 64, .inl D_2077)), (q3, .inl (cA, 4, .inl R_2078)), (q4, .inl (cA, 8, .inl K_2079))] H := hP
        have hD : va_D (fun q : Nat => s.heap.size ≤ q) [(o2, .inr (1, [.ref p1, .ref p2, .ref p3, .ref p4, .ref p5, .ref p6, .ref p7, .ref p8, .int pc, .int ph, .int rd, .int th, .int lm, .int sc, .long tm, .long sn])), (p1, .inl (cA, 64, .inl M)), (p2, .inl (cA, 64, .inl N)), (p3, .inl (cA, 64, .inl C)), (p4, .inl (cA, 4, .inl R)), (p5, .inl (cJ, 8, .inr (.inl G))), (p6, .inl (cZ, 8, .inl E)), (p7, .inl (cZ, 8, .inl F)), (p8, .inl (cA, 8, .inl T)), (o1, .inr (0, [.ref q1, .ref q2, .ref q3, .ref q4, .int pc_2080, .int sc_2081, .int ph_2082, .int rd_2083, .int th_2084, .int lm_2085, .int dy_2086, .int wt_2087])), (q1, .inl (cA, 64, .inl S_2076)), (q2, .inl (cA, 64, .inl D_2077)), (q3, .inl (cA, 4, .inl R_2078)), (q4, .inl (cA, 8, .inl K_2079))] := hD
        refine lv_aload_n hx hb dL_law_179 rfl (lv_at hl 3 rfl) ?_
        refine lv_aload_n hx hb dL_law_180 rfl (lv_at hl 1 rfl) ?_
        refine lv_iload_n hx hb dL_law_181 rfl (lv_at hl 0 rfl) ?_
        refine lv_iconst (v := 1) hx hb dL_law_182 (by decide) ?_
        refine lv_iadd hx hb dL_law_183 ?_
        refine va_sld hx hb hX hbl hbA hS in1 dL_law_184 ?_
        have hPc := hP.sub (ws' := [(o2, .inr (1, [.ref p1, .ref p2, .ref p3, .ref p4, .ref p5, .ref p6, .ref p7, .ref p8, .int pc, .int ph, .int rd, .int th, .int lm, .int sc, .long tm, .long sn])), (p1, .inl (cA, 64, .inl M)), (p2, .inl (cA, 64, .inl N)), (p3, .inl (cA, 64, .inl C)), (p4, .inl (cA, 4, .inl R)), (p5, .inl (cJ, 8, .inr (.inl G))), (p6, .inl (cZ, 8, .inl E)), (p7, .inl (cZ, 8, .inl F)), (p8, .inl (cA, 8, .inl T))]) [0, 1, 2, 3, 4, 5, 6, 7, 8] rfl
        have hDc := hD.sub (ws' := [(o2, .inr (1, [.ref p1, .ref p2, .ref p3, .ref p4, .ref p5, .ref p6, .ref p7, .ref p8, .int pc, .int ph, .int rd, .int th, .int lm, .int sc, .long tm, .long sn])), (p1, .inl (cA, 64, .inl M)), (p2, .inl (cA, 64, .inl N)), (p3, .inl (cA, 64, .inl C)), (p4, .inl (cA, 4, .inl R)), (p5, .inl (cJ, 8, .inr (.inl G))), (p6, .inl (cZ, 8, .inl E)), (p7, .inl (cZ, 8, .inl F)), (p8, .inl (cA, 8, .inl T))]) [0, 1, 2, 3, 4, 5, 6, 7, 8] (by decide) rfl
        have hKc := hK.sub (tys' := [(cA, .int), (cJ, .long), (cZ, .boolean)]) [0, 1, 2] rfl
        have hFc := va_free (wc := [(o2, .inr (1, [.ref p1, .ref p2, .ref p3, .ref p4, .ref p5, .ref p6, .ref p7, .ref p8, .int pc, .int ph, .int rd, .int th, .int lm, .int sc, .long tm, .long sn])), (p1, .inl (cA, 64, .inl M)), (p2, .inl (cA, 64, .inl N)), (p3, .inl (cA, 64, .inl C)), (p4, .inl (cA, 4, .inl R)), (p5, .inl (cJ, 8, .inr (.inl G))), (p6, .inl (cZ, 8, .inl E)), (p7, .inl (cZ, 8, .inl F)), (p8, .inl (cA, 8, .inl T))]) hD hS hA [0, 1, 2, 3, 4, 5, 6, 7, 8] rfl
        refine va_calli (va_runV (As := [.int (xs ((nI (3 * k)) + 1).toNatClampNeg)]) (rest := [.int r_2073]) ⟨hx, hb, hml, hown, hts⟩ (c_X1_run l dC dI o2 p1 p2 p3 p4 p5 p6 p7 p8 cA cJ cZ M N C R G E F T pc ph rd th lm sc tm sn (xs ((nI (3 * k)) + 1).toNatClampNeg) hI.1 H.size) (cwV 1 hts gL_law_X1_run rfl rfl rfl (by decide +kernel) ⟨Nat.le_of_ble_eq_true rfl, Nat.le_of_ble_eq_true rfl⟩) ⟨fun a U g mk q => by obtain ⟨q0, q1, qP, qK, qD⟩ := q; exact ⟨q0, q1, qP, va_K.moved (u := U) (U := U.calling g mk a) (Vm.Alike.refl U.vm) qK, qD⟩, va_recv hKc hPc (ci := 1) (q0 := 0) rfl rfl, fun U hU hW => ⟨rfl, by rw [hU], by rw [hU]; exact hPc, va_K.moved hW.alike hKc, hDc.weaken (fun _ _ _ _ => trivial)⟩⟩ rfl rfl hl.1 rfl (lv_room (Nat.le_of_ble_eq_true rfl)) dL_law_185 ⟨Nat.le_of_ble_eq_true rfl, Nat.le_of_ble_eq_true rfl⟩) hS (fun q _ h => hFc q h) hFc (fun r_2088 u_2089 t H1 locs ht hvm w_2090 hB hz1 hk1 hS => ?_)
        obtain ⟨M_2091, N_2092, C_2093, R_2094, G_2095, E_2096, F_2097, T_2098, pc_2099, ph_2100, rd_2101, th_2102, lm_2103, sh_2104, tm_2105, sn_2106⟩ := u_2089
        obtain ⟨hP1, hK1, hD1⟩ := hB
        rw [ht] at hP1
        obtain ⟨hP, hD⟩ := va_join (wr := [(o1, .inr (0, [.ref q1, .ref q2, .ref q3, .ref q4, .int pc_2080, .int sc_2081, .int ph_2082, .int rd_2083, .int th_2084, .int lm_2085, .int dy_2086, .int wt_2087])), (q1, .inl (cA, 64, .inl S_2076)), (q2, .inl (cA, 64, .inl D_2077)), (q3, .inl (cA, 4, .inl R_2078)), (q4, .inl (cA, 8, .inl K_2079))]) (w1 := [(o2, .inr (1, [.ref p1, .ref p2, .ref p3, .ref p4, .ref p5, .ref p6, .ref p7, .ref p8, .int pc_2099, .int ph_2100, .int rd_2101, .int th_2102, .int lm_2103, .int sh_2104, .long tm_2105, .long sn_2106])), (p1, .inl (cA, 64, .inl M_2091)), (p2, .inl (cA, 64, .inl N_2092)), (p3, .inl (cA, 64, .inl C_2093)), (p4, .inl (cA, 4, .inl R_2094)), (p5, .inl (cJ, 8, .inr (.inl G_2095))), (p6, .inl (cZ, 8, .inl E_2096)), (p7, .inl (cZ, 8, .inl F_2097)), (p8, .inl (cA, 8, .inl T_2098))]) hP hD [0, 1, 2, 3, 4, 5, 6, 7, 8] [9, 10, 11, 12, 13] rfl rfl (by decide) (by decide) hk1 hFc hP1 hD1
        clear hPc hDc hFc hP1 hD1 hk1 hK1
        generalize H1 = H at hP hS ⊢
        have hP : va_P (dC, dI) vwCl [(o1, .inr (0, [.ref q1, .ref q2, .ref q3, .ref q4, .int pc_2080, .int sc_2081, .int ph_2082, .int rd_2083, .int th_2084, .int lm_2085, .int dy_2086, .int wt_2087])), (q1, .inl (cA, 64, .inl S_2076)), (q2, .inl (cA, 64, .inl D_2077)), (q3, .inl (cA, 4, .inl R_2078)), (q4, .inl (cA, 8, .inl K_2079)), (o2, .inr (1, [.ref p1, .ref p2, .ref p3, .ref p4, .ref p5, .ref p6, .ref p7, .ref p8, .int pc_2099, .int ph_2100, .int rd_2101, .int th_2102, .int lm_2103, .int sh_2104, .long tm_2105, .long sn_2106])), (p1, .inl (cA, 64, .inl M_2091)), (p2, .inl (cA, 64, .inl N_2092)), (p3, .inl (cA, 64, .inl C_2093)), (p4, .inl (cA, 4, .inl R_2094)), (p5, .inl (cJ, 8, .inr (.inl G_2095))), (p6, .inl (cZ, 8, .inl E_2096)), (p7, .inl (cZ, 8, .inl F_2097)), (p8, .inl (cA, 8, .inl T_2098))] H := hP
        have hD : va_D (fun q : Nat => s.heap.size ≤ q) [(o1, .inr (0, [.ref q1, .ref q2, .ref q3, .ref q4, .int pc_2080, .int sc_2081, .int ph_2082, .int rd_2083, .int th_2084, .int lm_2085, .int dy_2086, .int wt_2087])), (q1, .inl (cA, 64, .inl S_2076)), (q2, .inl (cA, 64, .inl D_2077)), (q3, .inl (cA, 4, .inl R_2078)), (q4, .inl (cA, 8, .inl K_2079)), (o2, .inr (1, [.ref p1, .ref p2, .ref p3, .ref p4, .ref p5, .ref p6, .ref p7, .ref p8, .int pc_2099, .int ph_2100, .int rd_2101, .int th_2102, .int lm_2103, .int sh_2104, .long tm_2105, .long sn_2106])), (p1, .inl (cA, 64, .inl M_2091)), (p2, .inl (cA, 64, .inl N_2092)), (p3, .inl (cA, 64, .inl C_2093)), (p4, .inl (cA, 4, .inl R_2094)), (p5, .inl (cJ, 8, .inr (.inl G_2095))), (p6, .inl (cZ, 8, .inl E_2096)), (p7, .inl (cZ, 8, .inl F_2097)), (p8, .inl (cA, 8, .inl T_2098))] := hD
        obtain ⟨er, hR⟩ := mx_run hI (by omega) w_2075 w_2090
        refine lv_icmp_eq (tgt := 396) hx hb dL_law_188 (by decide) (fun c_2107 => ?_) (fun c_2107 => ?_)
        · refine lv_iinc (v := (nI (3 * k)) + 3) (lv' := [(3, .int ((nI (3 * k)) + 3)), (0, .ref b), (1, .ref o1), (2, .ref o2)]) hx hb dL_law_396 hl (k := 0) rfl rfl (by decide) rfl (fun ls hl => ?_)
          refine lv_goto (tgt := 18) hx hb dL_law_399 (by decide) ?_
          have hl : lv_has ls 4 [(3, .int (nI (3 * (k + 1)))), (0, .ref b), (1, .ref o1), (2, .ref o2)] := by
            rw [show nI (3 * (k + 1)) = nI (3 * k) + 3 from by rw [show (3 : Int32) = nI 3 from by decide, nI_add]; rfl]
            exact lv_sub hl [0, 1, 2, 3] rfl
          obtain ⟨S_z, D_z, R_z, K_z, pc_z, sc_z, ph_z, rd_z, th_z, lm_z, dy_z, wt_z, M_z, N_z, C_z, G_z, E_z, F_z, T_z, tm_z, sn_z, eu, ev, hI⟩ := hR
          cases eu
          cases ev
          exact ih (k + 1) _ _ _ _ _ _ _ _ _ _ _ _ _ _ _ _ _ _ _ _ _ H locs ls (by omega) (by omega) (mx_I_le hI (by omega) hI.1) hP hD hS hl
        · exact absurd er c_2107
      · refine lv_tableIn (off := 161) (tgt := 193) hx hb dL_law_32 (by rw [o_2002]; decide) (by rw [o_2002]; decide) (by rw [o_2002]; rfl) (by decide) ?_
        refine lv_aload_n hx hb dL_law_193 rfl (lv_at hl 2 rfl) ?_
        have hPc := hP.sub (ws' := [(o1, .inr (0, [.ref q1, .ref q2, .ref q3, .ref q4, .int pc, .int sc, .int ph, .int rd, .int th, .int lm, .int dy, .int wt])), (q1, .inl (cA, 64, .inl S)), (q2, .inl (cA, 64, .inl D)), (q3, .inl (cA, 4, .inl R)), (q4, .inl (cA, 8, .inl K))]) [0, 1, 2, 3, 4] rfl
        have hDc := hD.sub (ws' := [(o1, .inr (0, [.ref q1, .ref q2, .ref q3, .ref q4, .int pc, .int sc, .int ph, .int rd, .int th, .int lm, .int dy, .int wt])), (q1, .inl (cA, 64, .inl S)), (q2, .inl (cA, 64, .inl D)), (q3, .inl (cA, 4, .inl R)), (q4, .inl (cA, 8, .inl K))]) [0, 1, 2, 3, 4] (by decide) rfl
        have hKc := hK.sub (tys' := [(cA, .int)]) [0] rfl
        have hFc := va_free (wc := [(o1, .inr (0, [.ref q1, .ref q2, .ref q3, .ref q4, .int pc, .int sc, .int ph, .int rd, .int th, .int lm, .int dy, .int wt])), (q1, .inl (cA, 64, .inl S)), (q2, .inl (cA, 64, .inl D)), (q3, .inl (cA, 4, .inl R)), (q4, .inl (cA, 8, .inl K))]) hD hS hA [0, 1, 2, 3, 4] rfl
        refine va_calli (va_runV (As := []) (rest := []) ⟨hx, hb, hml, hown, hts⟩ (c_X0_copy l dC dI o1 q1 q2 q3 q4 cA S D R K pc sc ph rd th lm dy wt H.size) (cwV 0 hts gL_law_X0_copy rfl rfl rfl (by decide +kernel) ⟨Nat.le_of_ble_eq_true rfl, Nat.le_of_ble_eq_true rfl⟩) ⟨fun a U g mk q => by obtain ⟨q0, q1, qP, qK, qD⟩ := q; exact ⟨q0, q1, qP, va_K.moved (u := U) (U := U.calling g mk a) (Vm.Alike.refl U.vm) qK, qD⟩, va_recv hKc hPc (ci := 0) (q0 := 0) rfl rfl, fun U hU hW => ⟨rfl, by rw [hU], by rw [hU]; exact hPc, va_K.moved hW.alike hKc, hDc.weaken (fun _ _ _ _ => trivial)⟩⟩ rfl rfl hl.1 rfl (lv_room (Nat.le_of_ble_eq_true rfl)) dL_law_194 ⟨Nat.le_of_ble_eq_true rfl, Nat.le_of_ble_eq_true rfl⟩) hS (fun q _ h => hFc q h) hFc (fun r_2108 u_2109 t H1 locs ht hvm w_2110 hB hz1 hk1 hS => ?_)
        obtain ⟨S_2111, D_2112, R_2113, K_2114, pc_2115, sc_2116, ph_2117, rd_2118, th_2119, lm_2120, dy_2121, wt_2122⟩ := u_2109
        obtain ⟨hP1, hK1, hD1⟩ := hB
        rw [ht] at hP1
        obtain ⟨hP, hD⟩ := va_join (wr := [(o2, .inr (1, [.ref p1, .ref p2, .ref p3, .ref p4, .ref p5, .ref p6, .ref p7, .ref p8, .int pc, .int ph, .int rd, .int th, .int lm, .int sc, .long tm, .long sn])), (p1, .inl (cA, 64, .inl M)), (p2, .inl (cA, 64, .inl N)), (p3, .inl (cA, 64, .inl C)), (p4, .inl (cA, 4, .inl R)), (p5, .inl (cJ, 8, .inr (.inl G))), (p6, .inl (cZ, 8, .inl E)), (p7, .inl (cZ, 8, .inl F)), (p8, .inl (cA, 8, .inl T))]) (w1 := [(o1, .inr (0, [.ref q1, .ref q2, .ref q3, .ref q4, .int pc_2115, .int sc_2116, .int ph_2117, .int rd_2118, .int th_2119, .int lm_2120, .int dy_2121, .int wt_2122])), (q1, .inl (cA, 64, .inl S_2111)), (q2, .inl (cA, 64, .inl D_2112)), (q3, .inl (cA, 4, .inl R_2113)), (q4, .inl (cA, 8, .inl K_2114))]) hP hD [0, 1, 2, 3, 4] [5, 6, 7, 8, 9, 10, 11, 12, 13] rfl rfl (by decide) (by decide) hk1 hFc hP1 hD1
        clear hPc hDc hFc hP1 hD1 hk1 hK1
        generalize H1 = H at hP hS ⊢
        have hP : va_P (dC, dI) vwCl [(o2, .inr (1, [.ref p1, .ref p2, .ref p3, .ref p4, .ref p5, .ref p6, .ref p7, .ref p8, .int pc, .int ph, .int rd, .int th, .int lm, .int sc, .long tm, .long sn])), (p1, .inl (cA, 64, .inl M)), (p2, .inl (cA, 64, .inl N)), (p3, .inl (cA, 64, .inl C)), (p4, .inl (cA, 4, .inl R)), (p5, .inl (cJ, 8, .inr (.inl G))), (p6, .inl (cZ, 8, .inl E)), (p7, .inl (cZ, 8, .inl F)), (p8, .inl (cA, 8, .inl T)), (o1, .inr (0, [.ref q1, .ref q2, .ref q3, .ref q4, .int pc_2115, .int sc_2116, .int ph_2117, .int rd_2118, .int th_2119, .int lm_2120, .int dy_2121, .int wt_2122])), (q1, .inl (cA, 64, .inl S_2111)), (q2, .inl (cA, 64, .inl D_2112)), (q3, .inl (cA, 4, .inl R_2113)), (q4, .inl (cA, 8, .inl K_2114))] H := hP
        have hD : va_D (fun q : Nat => s.heap.size ≤ q) [(o2, .inr (1, [.ref p1, .ref p2, .ref p3, .ref p4, .ref p5, .ref p6, .ref p7, .ref p8, .int pc, .int ph, .int rd, .int th, .int lm, .int sc, .long tm, .long sn])), (p1, .inl (cA, 64, .inl M)), (p2, .inl (cA, 64, .inl N)), (p3, .inl (cA, 64, .inl C)), (p4, .inl (cA, 4, .inl R)), (p5, .inl (cJ, 8, .inr (.inl G))), (p6, .inl (cZ, 8, .inl E)), (p7, .inl (cZ, 8, .inl F)), (p8, .inl (cA, 8, .inl T)), (o1, .inr (0, [.ref q1, .ref q2, .ref q3, .ref q4, .int pc_2115, .int sc_2116, .int ph_2117, .int rd_2118, .int th_2119, .int lm_2120, .int dy_2121, .int wt_2122])), (q1, .inl (cA, 64, .inl S_2111)), (q2, .inl (cA, 64, .inl D_2112)), (q3, .inl (cA, 4, .inl R_2113)), (q4, .inl (cA, 8, .inl K_2114))] := hD
        refine lv_aload_n hx hb dL_law_197 rfl (lv_at hl 3 rfl) ?_
        have hPc := hP.sub (ws' := [(o2, .inr (1, [.ref p1, .ref p2, .ref p3, .ref p4, .ref p5, .ref p6, .ref p7, .ref p8, .int pc, .int ph, .int rd, .int th, .int lm, .int sc, .long tm, .long sn])), (p1, .inl (cA, 64, .inl M)), (p2, .inl (cA, 64, .inl N)), (p3, .inl (cA, 64, .inl C)), (p4, .inl (cA, 4, .inl R)), (p5, .inl (cJ, 8, .inr (.inl G))), (p6, .inl (cZ, 8, .inl E)), (p7, .inl (cZ, 8, .inl F)), (p8, .inl (cA, 8, .inl T))]) [0, 1, 2, 3, 4, 5, 6, 7, 8] rfl
        have hDc := hD.sub (ws' := [(o2, .inr (1, [.ref p1, .ref p2, .ref p3, .ref p4, .ref p5, .ref p6, .ref p7, .ref p8, .int pc, .int ph, .int rd, .int th, .int lm, .int sc, .long tm, .long sn])), (p1, .inl (cA, 64, .inl M)), (p2, .inl (cA, 64, .inl N)), (p3, .inl (cA, 64, .inl C)), (p4, .inl (cA, 4, .inl R)), (p5, .inl (cJ, 8, .inr (.inl G))), (p6, .inl (cZ, 8, .inl E)), (p7, .inl (cZ, 8, .inl F)), (p8, .inl (cA, 8, .inl T))]) [0, 1, 2, 3, 4, 5, 6, 7, 8] (by decide) rfl
        have hKc := hK.sub (tys' := [(cA, .int), (cJ, .long), (cZ, .boolean)]) [0, 1, 2] rfl
        have hFc := va_free (wc := [(o2, .inr (1, [.ref p1, .ref p2, .ref p3, .ref p4, .ref p5, .ref p6, .ref p7, .ref p8, .int pc, .int ph, .int rd, .int th, .int lm, .int sc, .long tm, .long sn])), (p1, .inl (cA, 64, .inl M)), (p2, .inl (cA, 64, .inl N)), (p3, .inl (cA, 64, .inl C)), (p4, .inl (cA, 4, .inl R)), (p5, .inl (cJ, 8, .inr (.inl G))), (p6, .inl (cZ, 8, .inl E)), (p7, .inl (cZ, 8, .inl F)), (p8, .inl (cA, 8, .inl T))]) hD hS hA [0, 1, 2, 3, 4, 5, 6, 7, 8] rfl
        refine va_calli (va_runV (As := []) (rest := [.int r_2108]) ⟨hx, hb, hml, hown, hts⟩ (c_X1_copy l dC dI o2 p1 p2 p3 p4 p5 p6 p7 p8 cA cJ cZ M N C R G E F T pc ph rd th lm sc tm sn (mx_F hI).2 (mx_F hI).1 H.size) (cwV 0 hts gL_law_X1_copy rfl rfl rfl (by decide +kernel) ⟨Nat.le_of_ble_eq_true rfl, Nat.le_of_ble_eq_true rfl⟩) ⟨fun a U g mk q => by obtain ⟨q0, q1, qP, qK, qD⟩ := q; exact ⟨q0, q1, qP, va_K.moved (u := U) (U := U.calling g mk a) (Vm.Alike.refl U.vm) qK, qD⟩, va_recv hKc hPc (ci := 1) (q0 := 0) rfl rfl, fun U hU hW => ⟨rfl, by rw [hU], by rw [hU]; exact hPc, va_K.moved hW.alike hKc, hDc.weaken (fun _ _ _ _ => trivial)⟩⟩ rfl rfl hl.1 rfl (lv_room (Nat.le_of_ble_eq_true rfl)) dL_law_198 ⟨Nat.le_of_ble_eq_true rfl, Nat.le_of_ble_eq_true rfl⟩) hS (fun q _ h => hFc q h) hFc (fun r_2123 u_2124 t H1 locs ht hvm w_2125 hB hz1 hk1 hS => ?_)
        obtain ⟨M_2126, N_2127, C_2128, R_2129, G_2130, E_2131, F_2132, T_2133, pc_2134, ph_2135, rd_2136, th_2137, lm_2138, sh_2139, tm_2140, sn_2141⟩ := u_2124
        obtain ⟨hP1, hK1, hD1⟩ := hB
        rw [ht] at hP1
        obtain ⟨hP, hD⟩ := va_join (wr := [(o1, .inr (0, [.ref q1, .ref q2, .ref q3, .ref q4, .int pc_2115, .int sc_2116, .int ph_2117, .int rd_2118, .int th_2119, .int lm_2120, .int dy_2121, .int wt_2122])), (q1, .inl (cA, 64, .inl S_2111)), (q2, .inl (cA, 64, .inl D_2112)), (q3, .inl (cA, 4, .inl R_2113)), (q4, .inl (cA, 8, .inl K_2114))]) (w1 := [(o2, .inr (1, [.ref p1, .ref p2, .ref p3, .ref p4, .ref p5, .ref p6, .ref p7, .ref p8, .int pc_2134, .int ph_2135, .int rd_2136, .int th_2137, .int lm_2138, .int sh_2139, .long tm_2140, .long sn_2141])), (p1, .inl (cA, 64, .inl M_2126)), (p2, .inl (cA, 64, .inl N_2127)), (p3, .inl (cA, 64, .inl C_2128)), (p4, .inl (cA, 4, .inl R_2129)), (p5, .inl (cJ, 8, .inr (.inl G_2130))), (p6, .inl (cZ, 8, .inl E_2131)), (p7, .inl (cZ, 8, .inl F_2132)), (p8, .inl (cA, 8, .inl T_2133))]) hP hD [0, 1, 2, 3, 4, 5, 6, 7, 8] [9, 10, 11, 12, 13] rfl rfl (by decide) (by decide) hk1 hFc hP1 hD1
        clear hPc hDc hFc hP1 hD1 hk1 hK1
        generalize H1 = H at hP hS ⊢
        have hP : va_P (dC, dI) vwCl [(o1, .inr (0, [.ref q1, .ref q2, .ref q3, .ref q4, .int pc_2115, .int sc_2116, .int ph_2117, .int rd_2118, .int th_2119, .int lm_2120, .int dy_2121, .int wt_2122])), (q1, .inl (cA, 64, .inl S_2111)), (q2, .inl (cA, 64, .inl D_2112)), (q3, .inl (cA, 4, .inl R_2113)), (q4, .inl (cA, 8, .inl K_2114)), (o2, .inr (1, [.ref p1, .ref p2, .ref p3, .ref p4, .ref p5, .ref p6, .ref p7, .ref p8, .int pc_2134, .int ph_2135, .int rd_2136, .int th_2137, .int lm_2138, .int sh_2139, .long tm_2140, .long sn_2141])), (p1, .inl (cA, 64, .inl M_2126)), (p2, .inl (cA, 64, .inl N_2127)), (p3, .inl (cA, 64, .inl C_2128)), (p4, .inl (cA, 4, .inl R_2129)), (p5, .inl (cJ, 8, .inr (.inl G_2130))), (p6, .inl (cZ, 8, .inl E_2131)), (p7, .inl (cZ, 8, .inl F_2132)), (p8, .inl (cA, 8, .inl T_2133))] H := hP
        have hD : va_D (fun q : Nat => s.heap.size ≤ q) [(o1, .inr (0, [.ref q1, .ref q2, .ref q3, .ref q4, .int pc_2115, .int sc_2116, .int ph_2117, .int rd_2118, .int th_2119, .int lm_2120, .int dy_2121, .int wt_2122])), (q1, .inl (cA, 64, .inl S_2111)), (q2, .inl (cA, 64, .inl D_2112)), (q3, .inl (cA, 4, .inl R_2113)), (q4, .inl (cA, 8, .inl K_2114)), (o2, .inr (1, [.ref p1, .ref p2, .ref p3, .ref p4, .ref p5, .ref p6, .ref p7, .ref p8, .int pc_2134, .int ph_2135, .int rd_2136, .int th_2137, .int lm_2138, .int sh_2139, .long tm_2140, .long sn_2141])), (p1, .inl (cA, 64, .inl M_2126)), (p2, .inl (cA, 64, .inl N_2127)), (p3, .inl (cA, 64, .inl C_2128)), (p4, .inl (cA, 4, .inl R_2129)), (p5, .inl (cJ, 8, .inr (.inl G_2130))), (p6, .inl (cZ, 8, .inl E_2131)), (p7, .inl (cZ, 8, .inl F_2132)), (p8, .inl (cA, 8, .inl T_2133))] := hD
        obtain ⟨er, hR⟩ := mx_copy hI (by omega) w_2110 w_2125
        refine lv_icmp_eq (tgt := 396) hx hb dL_law_201 (by decide) (fun c_2142 => ?_) (fun c_2142 => ?_)
        · refine lv_iinc (v := (nI (3 * k)) + 3) (lv' := [(3, .int ((nI (3 * k)) + 3)), (0, .ref b), (1, .ref o1), (2, .ref o2)]) hx hb dL_law_396 hl (k := 0) rfl rfl (by decide) rfl (fun ls hl => ?_)
          refine lv_goto (tgt := 18) hx hb dL_law_399 (by decide) ?_
          have hl : lv_has ls 4 [(3, .int (nI (3 * (k + 1)))), (0, .ref b), (1, .ref o1), (2, .ref o2)] := by
            rw [show nI (3 * (k + 1)) = nI (3 * k) + 3 from by rw [show (3 : Int32) = nI 3 from by decide, nI_add]; rfl]
            exact lv_sub hl [0, 1, 2, 3] rfl
          obtain ⟨S_z, D_z, R_z, K_z, pc_z, sc_z, ph_z, rd_z, th_z, lm_z, dy_z, wt_z, M_z, N_z, C_z, G_z, E_z, F_z, T_z, tm_z, sn_z, eu, ev, hI⟩ := hR
          cases eu
          cases ev
          exact ih (k + 1) _ _ _ _ _ _ _ _ _ _ _ _ _ _ _ _ _ _ _ _ _ H locs ls (by omega) (by omega) (mx_I_le hI (by omega) hI.1) hP hD hS hl
        · exact absurd er c_2142
      · refine lv_tableIn (off := 174) (tgt := 206) hx hb dL_law_32 (by rw [o_2002]; decide) (by rw [o_2002]; decide) (by rw [o_2002]; rfl) (by decide) ?_
        refine lv_aload_n hx hb dL_law_206 rfl (lv_at hl 2 rfl) ?_
        have hPc := hP.sub (ws' := [(o1, .inr (0, [.ref q1, .ref q2, .ref q3, .ref q4, .int pc, .int sc, .int ph, .int rd, .int th, .int lm, .int dy, .int wt])), (q1, .inl (cA, 64, .inl S)), (q2, .inl (cA, 64, .inl D)), (q3, .inl (cA, 4, .inl R)), (q4, .inl (cA, 8, .inl K))]) [0, 1, 2, 3, 4] rfl
        have hDc := hD.sub (ws' := [(o1, .inr (0, [.ref q1, .ref q2, .ref q3, .ref q4, .int pc, .int sc, .int ph, .int rd, .int th, .int lm, .int dy, .int wt])), (q1, .inl (cA, 64, .inl S)), (q2, .inl (cA, 64, .inl D)), (q3, .inl (cA, 4, .inl R)), (q4, .inl (cA, 8, .inl K))]) [0, 1, 2, 3, 4] (by decide) rfl
        have hKc := hK.sub (tys' := [(cA, .int)]) [0] rfl
        have hFc := va_free (wc := [(o1, .inr (0, [.ref q1, .ref q2, .ref q3, .ref q4, .int pc, .int sc, .int ph, .int rd, .int th, .int lm, .int dy, .int wt])), (q1, .inl (cA, 64, .inl S)), (q2, .inl (cA, 64, .inl D)), (q3, .inl (cA, 4, .inl R)), (q4, .inl (cA, 8, .inl K))]) hD hS hA [0, 1, 2, 3, 4] rfl
        refine va_calli (va_runV (As := []) (rest := []) ⟨hx, hb, hml, hown, hts⟩ (c_X0_phase l dC dI o1 q1 q2 q3 q4 cA S D R K pc sc ph rd th lm dy wt H.size) (cwV 0 hts gL_law_X0_phase rfl rfl rfl (by decide +kernel) ⟨Nat.le_of_ble_eq_true rfl, Nat.le_of_ble_eq_true rfl⟩) ⟨fun a U g mk q => by obtain ⟨q0, q1, qP, qK, qD⟩ := q; exact ⟨q0, q1, qP, va_K.moved (u := U) (U := U.calling g mk a) (Vm.Alike.refl U.vm) qK, qD⟩, va_recv hKc hPc (ci := 0) (q0 := 0) rfl rfl, fun U hU hW => ⟨rfl, by rw [hU], by rw [hU]; exact hPc, va_K.moved hW.alike hKc, hDc.weaken (fun _ _ _ _ => trivial)⟩⟩ rfl rfl hl.1 rfl (lv_room (Nat.le_of_ble_eq_true rfl)) dL_law_207 ⟨Nat.le_of_ble_eq_true rfl, Nat.le_of_ble_eq_true rfl⟩) hS (fun q _ h => hFc q h) hFc (fun r_2143 u_2144 t H1 locs ht hvm w_2145 hB hz1 hk1 hS => ?_)
        obtain ⟨w_2145, e_2146⟩ := w_2145
        subst e_2146
        obtain ⟨hP1, hK1, hD1⟩ := hB
        rw [ht] at hP1
        obtain ⟨hP, hD⟩ := va_join (wr := [(o2, .inr (1, [.ref p1, .ref p2, .ref p3, .ref p4, .ref p5, .ref p6, .ref p7, .ref p8, .int pc, .int ph, .int rd, .int th, .int lm, .int sc, .long tm, .long sn])), (p1, .inl (cA, 64, .inl M)), (p2, .inl (cA, 64, .inl N)), (p3, .inl (cA, 64, .inl C)), (p4, .inl (cA, 4, .inl R)), (p5, .inl (cJ, 8, .inr (.inl G))), (p6, .inl (cZ, 8, .inl E)), (p7, .inl (cZ, 8, .inl F)), (p8, .inl (cA, 8, .inl T))]) (w1 := [(o1, .inr (0, [.ref q1, .ref q2, .ref q3, .ref q4, .int pc, .int sc, .int ph, .int rd, .int th, .int lm, .int dy, .int wt])), (q1, .inl (cA, 64, .inl S)), (q2, .inl (cA, 64, .inl D)), (q3, .inl (cA, 4, .inl R)), (q4, .inl (cA, 8, .inl K))]) hP hD [0, 1, 2, 3, 4] [5, 6, 7, 8, 9, 10, 11, 12, 13] rfl rfl (by decide) (by decide) hk1 hFc hP1 hD1
        clear hPc hDc hFc hP1 hD1 hk1 hK1
        generalize H1 = H at hP hS ⊢
        have hP : va_P (dC, dI) vwCl [(o2, .inr (1, [.ref p1, .ref p2, .ref p3, .ref p4, .ref p5, .ref p6, .ref p7, .ref p8, .int pc, .int ph, .int rd, .int th, .int lm, .int sc, .long tm, .long sn])), (p1, .inl (cA, 64, .inl M)), (p2, .inl (cA, 64, .inl N)), (p3, .inl (cA, 64, .inl C)), (p4, .inl (cA, 4, .inl R)), (p5, .inl (cJ, 8, .inr (.inl G))), (p6, .inl (cZ, 8, .inl E)), (p7, .inl (cZ, 8, .inl F)), (p8, .inl (cA, 8, .inl T)), (o1, .inr (0, [.ref q1, .ref q2, .ref q3, .ref q4, .int pc, .int sc, .int ph, .int rd, .int th, .int lm, .int dy, .int wt])), (q1, .inl (cA, 64, .inl S)), (q2, .inl (cA, 64, .inl D)), (q3, .inl (cA, 4, .inl R)), (q4, .inl (cA, 8, .inl K))] H := hP
        have hD : va_D (fun q : Nat => s.heap.size ≤ q) [(o2, .inr (1, [.ref p1, .ref p2, .ref p3, .ref p4, .ref p5, .ref p6, .ref p7, .ref p8, .int pc, .int ph, .int rd, .int th, .int lm, .int sc, .long tm, .long sn])), (p1, .inl (cA, 64, .inl M)), (p2, .inl (cA, 64, .inl N)), (p3, .inl (cA, 64, .inl C)), (p4, .inl (cA, 4, .inl R)), (p5, .inl (cJ, 8, .inr (.inl G))), (p6, .inl (cZ, 8, .inl E)), (p7, .inl (cZ, 8, .inl F)), (p8, .inl (cA, 8, .inl T)), (o1, .inr (0, [.ref q1, .ref q2, .ref q3, .ref q4, .int pc, .int sc, .int ph, .int rd, .int th, .int lm, .int dy, .int wt])), (q1, .inl (cA, 64, .inl S)), (q2, .inl (cA, 64, .inl D)), (q3, .inl (cA, 4, .inl R)), (q4, .inl (cA, 8, .inl K))] := hD
        refine lv_aload_n hx hb dL_law_210 rfl (lv_at hl 3 rfl) ?_
        have hPc := hP.sub (ws' := [(o2, .inr (1, [.ref p1, .ref p2, .ref p3, .ref p4, .ref p5, .ref p6, .ref p7, .ref p8, .int pc, .int ph, .int rd, .int th, .int lm, .int sc, .long tm, .long sn])), (p1, .inl (cA, 64, .inl M)), (p2, .inl (cA, 64, .inl N)), (p3, .inl (cA, 64, .inl C)), (p4, .inl (cA, 4, .inl R)), (p5, .inl (cJ, 8, .inr (.inl G))), (p6, .inl (cZ, 8, .inl E)), (p7, .inl (cZ, 8, .inl F)), (p8, .inl (cA, 8, .inl T))]) [0, 1, 2, 3, 4, 5, 6, 7, 8] rfl
        have hDc := hD.sub (ws' := [(o2, .inr (1, [.ref p1, .ref p2, .ref p3, .ref p4, .ref p5, .ref p6, .ref p7, .ref p8, .int pc, .int ph, .int rd, .int th, .int lm, .int sc, .long tm, .long sn])), (p1, .inl (cA, 64, .inl M)), (p2, .inl (cA, 64, .inl N)), (p3, .inl (cA, 64, .inl C)), (p4, .inl (cA, 4, .inl R)), (p5, .inl (cJ, 8, .inr (.inl G))), (p6, .inl (cZ, 8, .inl E)), (p7, .inl (cZ, 8, .inl F)), (p8, .inl (cA, 8, .inl T))]) [0, 1, 2, 3, 4, 5, 6, 7, 8] (by decide) rfl
        have hKc := hK.sub (tys' := [(cA, .int), (cJ, .long), (cZ, .boolean)]) [0, 1, 2] rfl
        have hFc := va_free (wc := [(o2, .inr (1, [.ref p1, .ref p2, .ref p3, .ref p4, .ref p5, .ref p6, .ref p7, .ref p8, .int pc, .int ph, .int rd, .int th, .int lm, .int sc, .long tm, .long sn])), (p1, .inl (cA, 64, .inl M)), (p2, .inl (cA, 64, .inl N)), (p3, .inl (cA, 64, .inl C)), (p4, .inl (cA, 4, .inl R)), (p5, .inl (cJ, 8, .inr (.inl G))), (p6, .inl (cZ, 8, .inl E)), (p7, .inl (cZ, 8, .inl F)), (p8, .inl (cA, 8, .inl T))]) hD hS hA [0, 1, 2, 3, 4, 5, 6, 7, 8] rfl
        refine va_calli (va_runV (As := []) (rest := [.int r_2143]) ⟨hx, hb, hml, hown, hts⟩ (c_X1_phase l dC dI o2 p1 p2 p3 p4 p5 p6 p7 p8 cA cJ cZ M N C R G E F T pc ph rd th lm sc tm sn H.size) (cwV 0 hts gL_law_X1_phase rfl rfl rfl (by decide +kernel) ⟨Nat.le_of_ble_eq_true rfl, Nat.le_of_ble_eq_true rfl⟩) ⟨fun a U g mk q => by obtain ⟨q0, q1, qP, qK, qD⟩ := q; exact ⟨q0, q1, qP, va_K.moved (u := U) (U := U.calling g mk a) (Vm.Alike.refl U.vm) qK, qD⟩, va_recv hKc hPc (ci := 1) (q0 := 0) rfl rfl, fun U hU hW => ⟨rfl, by rw [hU], by rw [hU]; exact hPc, va_K.moved hW.alike hKc, hDc.weaken (fun _ _ _ _ => trivial)⟩⟩ rfl rfl hl.1 rfl (lv_room (Nat.le_of_ble_eq_true rfl)) dL_law_211 ⟨Nat.le_of_ble_eq_true rfl, Nat.le_of_ble_eq_true rfl⟩) hS (fun q _ h => hFc q h) hFc (fun r_2147 u_2148 t H1 locs ht hvm w_2149 hB hz1 hk1 hS => ?_)
        obtain ⟨w_2149, e_2150⟩ := w_2149
        subst e_2150
        obtain ⟨hP1, hK1, hD1⟩ := hB
        rw [ht] at hP1
        obtain ⟨hP, hD⟩ := va_join (wr := [(o1, .inr (0, [.ref q1, .ref q2, .ref q3, .ref q4, .int pc, .int sc, .int ph, .int rd, .int th, .int lm, .int dy, .int wt])), (q1, .inl (cA, 64, .inl S)), (q2, .inl (cA, 64, .inl D)), (q3, .inl (cA, 4, .inl R)), (q4, .inl (cA, 8, .inl K))]) (w1 := [(o2, .inr (1, [.ref p1, .ref p2, .ref p3, .ref p4, .ref p5, .ref p6, .ref p7, .ref p8, .int pc, .int ph, .int rd, .int th, .int lm, .int sc, .long tm, .long sn])), (p1, .inl (cA, 64, .inl M)), (p2, .inl (cA, 64, .inl N)), (p3, .inl (cA, 64, .inl C)), (p4, .inl (cA, 4, .inl R)), (p5, .inl (cJ, 8, .inr (.inl G))), (p6, .inl (cZ, 8, .inl E)), (p7, .inl (cZ, 8, .inl F)), (p8, .inl (cA, 8, .inl T))]) hP hD [0, 1, 2, 3, 4, 5, 6, 7, 8] [9, 10, 11, 12, 13] rfl rfl (by decide) (by decide) hk1 hFc hP1 hD1
        clear hPc hDc hFc hP1 hD1 hk1 hK1
        generalize H1 = H at hP hS ⊢
        have hP : va_P (dC, dI) vwCl [(o1, .inr (0, [.ref q1, .ref q2, .ref q3, .ref q4, .int pc, .int sc, .int ph, .int rd, .int th, .int lm, .int dy, .int wt])), (q1, .inl (cA, 64, .inl S)), (q2, .inl (cA, 64, .inl D)), (q3, .inl (cA, 4, .inl R)), (q4, .inl (cA, 8, .inl K)), (o2, .inr (1, [.ref p1, .ref p2, .ref p3, .ref p4, .ref p5, .ref p6, .ref p7, .ref p8, .int pc, .int ph, .int rd, .int th, .int lm, .int sc, .long tm, .long sn])), (p1, .inl (cA, 64, .inl M)), (p2, .inl (cA, 64, .inl N)), (p3, .inl (cA, 64, .inl C)), (p4, .inl (cA, 4, .inl R)), (p5, .inl (cJ, 8, .inr (.inl G))), (p6, .inl (cZ, 8, .inl E)), (p7, .inl (cZ, 8, .inl F)), (p8, .inl (cA, 8, .inl T))] H := hP
        have hD : va_D (fun q : Nat => s.heap.size ≤ q) [(o1, .inr (0, [.ref q1, .ref q2, .ref q3, .ref q4, .int pc, .int sc, .int ph, .int rd, .int th, .int lm, .int dy, .int wt])), (q1, .inl (cA, 64, .inl S)), (q2, .inl (cA, 64, .inl D)), (q3, .inl (cA, 4, .inl R)), (q4, .inl (cA, 8, .inl K)), (o2, .inr (1, [.ref p1, .ref p2, .ref p3, .ref p4, .ref p5, .ref p6, .ref p7, .ref p8, .int pc, .int ph, .int rd, .int th, .int lm, .int sc, .long tm, .long sn])), (p1, .inl (cA, 64, .inl M)), (p2, .inl (cA, 64, .inl N)), (p3, .inl (cA, 64, .inl C)), (p4, .inl (cA, 4, .inl R)), (p5, .inl (cJ, 8, .inr (.inl G))), (p6, .inl (cZ, 8, .inl E)), (p7, .inl (cZ, 8, .inl F)), (p8, .inl (cA, 8, .inl T))] := hD
        have er := w_2145.trans w_2149.symm
        refine lv_icmp_eq (tgt := 396) hx hb dL_law_214 (by decide) (fun c_2151 => ?_) (fun c_2151 => ?_)
        · refine lv_iinc (v := (nI (3 * k)) + 3) (lv' := [(3, .int ((nI (3 * k)) + 3)), (0, .ref b), (1, .ref o1), (2, .ref o2)]) hx hb dL_law_396 hl (k := 0) rfl rfl (by decide) rfl (fun ls hl => ?_)
          refine lv_goto (tgt := 18) hx hb dL_law_399 (by decide) ?_
          have hl : lv_has ls 4 [(3, .int (nI (3 * (k + 1)))), (0, .ref b), (1, .ref o1), (2, .ref o2)] := by
            rw [show nI (3 * (k + 1)) = nI (3 * k) + 3 from by rw [show (3 : Int32) = nI 3 from by decide, nI_add]; rfl]
            exact lv_sub hl [0, 1, 2, 3] rfl
          exact ih (k + 1) _ _ _ _ _ _ _ _ _ _ _ _ _ _ _ _ _ _ _ _ _ H locs ls (by omega) (by omega) (mx_I_le hI (by omega) hI.1) hP hD hS hl
        · exact absurd er c_2151
      · refine lv_tableIn (off := 187) (tgt := 219) hx hb dL_law_32 (by rw [o_2002]; decide) (by rw [o_2002]; decide) (by rw [o_2002]; rfl) (by decide) ?_
        refine lv_aload_n hx hb dL_law_219 rfl (lv_at hl 2 rfl) ?_
        have hPc := hP.sub (ws' := [(o1, .inr (0, [.ref q1, .ref q2, .ref q3, .ref q4, .int pc, .int sc, .int ph, .int rd, .int th, .int lm, .int dy, .int wt])), (q1, .inl (cA, 64, .inl S)), (q2, .inl (cA, 64, .inl D)), (q3, .inl (cA, 4, .inl R)), (q4, .inl (cA, 8, .inl K))]) [0, 1, 2, 3, 4] rfl
        have hDc := hD.sub (ws' := [(o1, .inr (0, [.ref q1, .ref q2, .ref q3, .ref q4, .int pc, .int sc, .int ph, .int rd, .int th, .int lm, .int dy, .int wt])), (q1, .inl (cA, 64, .inl S)), (q2, .inl (cA, 64, .inl D)), (q3, .inl (cA, 4, .inl R)), (q4, .inl (cA, 8, .inl K))]) [0, 1, 2, 3, 4] (by decide) rfl
        have hKc := hK.sub (tys' := [(cA, .int)]) [0] rfl
        have hFc := va_free (wc := [(o1, .inr (0, [.ref q1, .ref q2, .ref q3, .ref q4, .int pc, .int sc, .int ph, .int rd, .int th, .int lm, .int dy, .int wt])), (q1, .inl (cA, 64, .inl S)), (q2, .inl (cA, 64, .inl D)), (q3, .inl (cA, 4, .inl R)), (q4, .inl (cA, 8, .inl K))]) hD hS hA [0, 1, 2, 3, 4] rfl
        refine va_calli (va_runV (As := []) (rest := []) ⟨hx, hb, hml, hown, hts⟩ (c_X0_round l dC dI o1 q1 q2 q3 q4 cA S D R K pc sc ph rd th lm dy wt H.size) (cwV 0 hts gL_law_X0_round rfl rfl rfl (by decide +kernel) ⟨Nat.le_of_ble_eq_true rfl, Nat.le_of_ble_eq_true rfl⟩) ⟨fun a U g mk q => by obtain ⟨q0, q1, qP, qK, qD⟩ := q; exact ⟨q0, q1, qP, va_K.moved (u := U) (U := U.calling g mk a) (Vm.Alike.refl U.vm) qK, qD⟩, va_recv hKc hPc (ci := 0) (q0 := 0) rfl rfl, fun U hU hW => ⟨rfl, by rw [hU], by rw [hU]; exact hPc, va_K.moved hW.alike hKc, hDc.weaken (fun _ _ _ _ => trivial)⟩⟩ rfl rfl hl.1 rfl (lv_room (Nat.le_of_ble_eq_true rfl)) dL_law_220 ⟨Nat.le_of_ble_eq_true rfl, Nat.le_of_ble_eq_true rfl⟩) hS (fun q _ h => hFc q h) hFc (fun r_2152 u_2153 t H1 locs ht hvm w_2154 hB hz1 hk1 hS => ?_)
        obtain ⟨w_2154, e_2155⟩ := w_2154
        subst e_2155
        obtain ⟨hP1, hK1, hD1⟩ := hB
        rw [ht] at hP1
        obtain ⟨hP, hD⟩ := va_join (wr := [(o2, .inr (1, [.ref p1, .ref p2, .ref p3, .ref p4, .ref p5, .ref p6, .ref p7, .ref p8, .int pc, .int ph, .int rd, .int th, .int lm, .int sc, .long tm, .long sn])), (p1, .inl (cA, 64, .inl M)), (p2, .inl (cA, 64, .inl N)), (p3, .inl (cA, 64, .inl C)), (p4, .inl (cA, 4, .inl R)), (p5, .inl (cJ, 8, .inr (.inl G))), (p6, .inl (cZ, 8, .inl E)), (p7, .inl (cZ, 8, .inl F)), (p8, .inl (cA, 8, .inl T))]) (w1 := [(o1, .inr (0, [.ref q1, .ref q2, .ref q3, .ref q4, .int pc, .int sc, .int ph, .int rd, .int th, .int lm, .int dy, .int wt])), (q1, .inl (cA, 64, .inl S)), (q2, .inl (cA, 64, .inl D)), (q3, .inl (cA, 4, .inl R)), (q4, .inl (cA, 8, .inl K))]) hP hD [0, 1, 2, 3, 4] [5, 6, 7, 8, 9, 10, 11, 12, 13] rfl rfl (by decide) (by decide) hk1 hFc hP1 hD1
        clear hPc hDc hFc hP1 hD1 hk1 hK1
        generalize H1 = H at hP hS ⊢
        have hP : va_P (dC, dI) vwCl [(o2, .inr (1, [.ref p1, .ref p2, .ref p3, .ref p4, .ref p5, .ref p6, .ref p7, .ref p8, .int pc, .int ph, .int rd, .int th, .int lm, .int sc, .long tm, .long sn])), (p1, .inl (cA, 64, .inl M)), (p2, .inl (cA, 64, .inl N)), (p3, .inl (cA, 64, .inl C)), (p4, .inl (cA, 4, .inl R)), (p5, .inl (cJ, 8, .inr (.inl G))), (p6, .inl (cZ, 8, .inl E)), (p7, .inl (cZ, 8, .inl F)), (p8, .inl (cA, 8, .inl T)), (o1, .inr (0, [.ref q1, .ref q2, .ref q3, .ref q4, .int pc, .int sc, .int ph, .int rd, .int th, .int lm, .int dy, .int wt])), (q1, .inl (cA, 64, .inl S)), (q2, .inl (cA, 64, .inl D)), (q3, .inl (cA, 4, .inl R)), (q4, .inl (cA, 8, .inl K))] H := hP
        have hD : va_D (fun q : Nat => s.heap.size ≤ q) [(o2, .inr (1, [.ref p1, .ref p2, .ref p3, .ref p4, .ref p5, .ref p6, .ref p7, .ref p8, .int pc, .int ph, .int rd, .int th, .int lm, .int sc, .long tm, .long sn])), (p1, .inl (cA, 64, .inl M)), (p2, .inl (cA, 64, .inl N)), (p3, .inl (cA, 64, .inl C)), (p4, .inl (cA, 4, .inl R)), (p5, .inl (cJ, 8, .inr (.inl G))), (p6, .inl (cZ, 8, .inl E)), (p7, .inl (cZ, 8, .inl F)), (p8, .inl (cA, 8, .inl T)), (o1, .inr (0, [.ref q1, .ref q2, .ref q3, .ref q4, .int pc, .int sc, .int ph, .int rd, .int th, .int lm, .int dy, .int wt])), (q1, .inl (cA, 64, .inl S)), (q2, .inl (cA, 64, .inl D)), (q3, .inl (cA, 4, .inl R)), (q4, .inl (cA, 8, .inl K))] := hD
        refine lv_aload_n hx hb dL_law_223 rfl (lv_at hl 3 rfl) ?_
        have hPc := hP.sub (ws' := [(o2, .inr (1, [.ref p1, .ref p2, .ref p3, .ref p4, .ref p5, .ref p6, .ref p7, .ref p8, .int pc, .int ph, .int rd, .int th, .int lm, .int sc, .long tm, .long sn])), (p1, .inl (cA, 64, .inl M)), (p2, .inl (cA, 64, .inl N)), (p3, .inl (cA, 64, .inl C)), (p4, .inl (cA, 4, .inl R)), (p5, .inl (cJ, 8, .inr (.inl G))), (p6, .inl (cZ, 8, .inl E)), (p7, .inl (cZ, 8, .inl F)), (p8, .inl (cA, 8, .inl T))]) [0, 1, 2, 3, 4, 5, 6, 7, 8] rfl
        have hDc := hD.sub (ws' := [(o2, .inr (1, [.ref p1, .ref p2, .ref p3, .ref p4, .ref p5, .ref p6, .ref p7, .ref p8, .int pc, .int ph, .int rd, .int th, .int lm, .int sc, .long tm, .long sn])), (p1, .inl (cA, 64, .inl M)), (p2, .inl (cA, 64, .inl N)), (p3, .inl (cA, 64, .inl C)), (p4, .inl (cA, 4, .inl R)), (p5, .inl (cJ, 8, .inr (.inl G))), (p6, .inl (cZ, 8, .inl E)), (p7, .inl (cZ, 8, .inl F)), (p8, .inl (cA, 8, .inl T))]) [0, 1, 2, 3, 4, 5, 6, 7, 8] (by decide) rfl
        have hKc := hK.sub (tys' := [(cA, .int), (cJ, .long), (cZ, .boolean)]) [0, 1, 2] rfl
        have hFc := va_free (wc := [(o2, .inr (1, [.ref p1, .ref p2, .ref p3, .ref p4, .ref p5, .ref p6, .ref p7, .ref p8, .int pc, .int ph, .int rd, .int th, .int lm, .int sc, .long tm, .long sn])), (p1, .inl (cA, 64, .inl M)), (p2, .inl (cA, 64, .inl N)), (p3, .inl (cA, 64, .inl C)), (p4, .inl (cA, 4, .inl R)), (p5, .inl (cJ, 8, .inr (.inl G))), (p6, .inl (cZ, 8, .inl E)), (p7, .inl (cZ, 8, .inl F)), (p8, .inl (cA, 8, .inl T))]) hD hS hA [0, 1, 2, 3, 4, 5, 6, 7, 8] rfl
        refine va_calli (va_runV (As := []) (rest := [.int r_2152]) ⟨hx, hb, hml, hown, hts⟩ (c_X1_round l dC dI o2 p1 p2 p3 p4 p5 p6 p7 p8 cA cJ cZ M N C R G E F T pc ph rd th lm sc tm sn H.size) (cwV 0 hts gL_law_X1_round rfl rfl rfl (by decide +kernel) ⟨Nat.le_of_ble_eq_true rfl, Nat.le_of_ble_eq_true rfl⟩) ⟨fun a U g mk q => by obtain ⟨q0, q1, qP, qK, qD⟩ := q; exact ⟨q0, q1, qP, va_K.moved (u := U) (U := U.calling g mk a) (Vm.Alike.refl U.vm) qK, qD⟩, va_recv hKc hPc (ci := 1) (q0 := 0) rfl rfl, fun U hU hW => ⟨rfl, by rw [hU], by rw [hU]; exact hPc, va_K.moved hW.alike hKc, hDc.weaken (fun _ _ _ _ => trivial)⟩⟩ rfl rfl hl.1 rfl (lv_room (Nat.le_of_ble_eq_true rfl)) dL_law_224 ⟨Nat.le_of_ble_eq_true rfl, Nat.le_of_ble_eq_true rfl⟩) hS (fun q _ h => hFc q h) hFc (fun r_2156 u_2157 t H1 locs ht hvm w_2158 hB hz1 hk1 hS => ?_)
        obtain ⟨w_2158, e_2159⟩ := w_2158
        subst e_2159
        obtain ⟨hP1, hK1, hD1⟩ := hB
        rw [ht] at hP1
        obtain ⟨hP, hD⟩ := va_join (wr := [(o1, .inr (0, [.ref q1, .ref q2, .ref q3, .ref q4, .int pc, .int sc, .int ph, .int rd, .int th, .int lm, .int dy, .int wt])), (q1, .inl (cA, 64, .inl S)), (q2, .inl (cA, 64, .inl D)), (q3, .inl (cA, 4, .inl R)), (q4, .inl (cA, 8, .inl K))]) (w1 := [(o2, .inr (1, [.ref p1, .ref p2, .ref p3, .ref p4, .ref p5, .ref p6, .ref p7, .ref p8, .int pc, .int ph, .int rd, .int th, .int lm, .int sc, .long tm, .long sn])), (p1, .inl (cA, 64, .inl M)), (p2, .inl (cA, 64, .inl N)), (p3, .inl (cA, 64, .inl C)), (p4, .inl (cA, 4, .inl R)), (p5, .inl (cJ, 8, .inr (.inl G))), (p6, .inl (cZ, 8, .inl E)), (p7, .inl (cZ, 8, .inl F)), (p8, .inl (cA, 8, .inl T))]) hP hD [0, 1, 2, 3, 4, 5, 6, 7, 8] [9, 10, 11, 12, 13] rfl rfl (by decide) (by decide) hk1 hFc hP1 hD1
        clear hPc hDc hFc hP1 hD1 hk1 hK1
        generalize H1 = H at hP hS ⊢
        have hP : va_P (dC, dI) vwCl [(o1, .inr (0, [.ref q1, .ref q2, .ref q3, .ref q4, .int pc, .int sc, .int ph, .int rd, .int th, .int lm, .int dy, .int wt])), (q1, .inl (cA, 64, .inl S)), (q2, .inl (cA, 64, .inl D)), (q3, .inl (cA, 4, .inl R)), (q4, .inl (cA, 8, .inl K)), (o2, .inr (1, [.ref p1, .ref p2, .ref p3, .ref p4, .ref p5, .ref p6, .ref p7, .ref p8, .int pc, .int ph, .int rd, .int th, .int lm, .int sc, .long tm, .long sn])), (p1, .inl (cA, 64, .inl M)), (p2, .inl (cA, 64, .inl N)), (p3, .inl (cA, 64, .inl C)), (p4, .inl (cA, 4, .inl R)), (p5, .inl (cJ, 8, .inr (.inl G))), (p6, .inl (cZ, 8, .inl E)), (p7, .inl (cZ, 8, .inl F)), (p8, .inl (cA, 8, .inl T))] H := hP
        have hD : va_D (fun q : Nat => s.heap.size ≤ q) [(o1, .inr (0, [.ref q1, .ref q2, .ref q3, .ref q4, .int pc, .int sc, .int ph, .int rd, .int th, .int lm, .int dy, .int wt])), (q1, .inl (cA, 64, .inl S)), (q2, .inl (cA, 64, .inl D)), (q3, .inl (cA, 4, .inl R)), (q4, .inl (cA, 8, .inl K)), (o2, .inr (1, [.ref p1, .ref p2, .ref p3, .ref p4, .ref p5, .ref p6, .ref p7, .ref p8, .int pc, .int ph, .int rd, .int th, .int lm, .int sc, .long tm, .long sn])), (p1, .inl (cA, 64, .inl M)), (p2, .inl (cA, 64, .inl N)), (p3, .inl (cA, 64, .inl C)), (p4, .inl (cA, 4, .inl R)), (p5, .inl (cJ, 8, .inr (.inl G))), (p6, .inl (cZ, 8, .inl E)), (p7, .inl (cZ, 8, .inl F)), (p8, .inl (cA, 8, .inl T))] := hD
        have er := w_2154.trans w_2158.symm
        refine lv_icmp_eq (tgt := 396) hx hb dL_law_227 (by decide) (fun c_2160 => ?_) (fun c_2160 => ?_)
        · refine lv_iinc (v := (nI (3 * k)) + 3) (lv' := [(3, .int ((nI (3 * k)) + 3)), (0, .ref b), (1, .ref o1), (2, .ref o2)]) hx hb dL_law_396 hl (k := 0) rfl rfl (by decide) rfl (fun ls hl => ?_)
          refine lv_goto (tgt := 18) hx hb dL_law_399 (by decide) ?_
          have hl : lv_has ls 4 [(3, .int (nI (3 * (k + 1)))), (0, .ref b), (1, .ref o1), (2, .ref o2)] := by
            rw [show nI (3 * (k + 1)) = nI (3 * k) + 3 from by rw [show (3 : Int32) = nI 3 from by decide, nI_add]; rfl]
            exact lv_sub hl [0, 1, 2, 3] rfl
          exact ih (k + 1) _ _ _ _ _ _ _ _ _ _ _ _ _ _ _ _ _ _ _ _ _ H locs ls (by omega) (by omega) (mx_I_le hI (by omega) hI.1) hP hD hS hl
        · exact absurd er c_2160
      · refine lv_tableIn (off := 200) (tgt := 232) hx hb dL_law_32 (by rw [o_2002]; decide) (by rw [o_2002]; decide) (by rw [o_2002]; rfl) (by decide) ?_
        refine lv_aload_n hx hb dL_law_232 rfl (lv_at hl 2 rfl) ?_
        refine lv_aload_n hx hb dL_law_233 rfl (lv_at hl 1 rfl) ?_
        refine lv_iload_n hx hb dL_law_234 rfl (lv_at hl 0 rfl) ?_
        refine lv_iconst (v := 1) hx hb dL_law_235 (by decide) ?_
        refine lv_iadd hx hb dL_law_236 ?_
        refine va_sld hx hb hX hbl hbA hS in1 dL_law_237 ?_
        have hPc := hP.sub (ws' := [(o1, .inr (0, [.ref q1, .ref q2, .ref q3, .ref q4, .int pc, .int sc, .int ph, .int rd, .int th, .int lm, .int dy, .int wt])), (q1, .inl (cA, 64, .inl S)), (q2, .inl (cA, 64, .inl D)), (q3, .inl (cA, 4, .inl R)), (q4, .inl (cA, 8, .inl K))]) [0, 1, 2, 3, 4] rfl
        have hDc := hD.sub (ws' := [(o1, .inr (0, [.ref q1, .ref q2, .ref q3, .ref q4, .int pc, .int sc, .int ph, .int rd, .int th, .int lm, .int dy, .int wt])), (q1, .inl (cA, 64, .inl S)), (q2, .inl (cA, 64, .inl D)), (q3, .inl (cA, 4, .inl R)), (q4, .inl (cA, 8, .inl K))]) [0, 1, 2, 3, 4] (by decide) rfl
        have hKc := hK.sub (tys' := [(cA, .int)]) [0] rfl
        have hFc := va_free (wc := [(o1, .inr (0, [.ref q1, .ref q2, .ref q3, .ref q4, .int pc, .int sc, .int ph, .int rd, .int th, .int lm, .int dy, .int wt])), (q1, .inl (cA, 64, .inl S)), (q2, .inl (cA, 64, .inl D)), (q3, .inl (cA, 4, .inl R)), (q4, .inl (cA, 8, .inl K))]) hD hS hA [0, 1, 2, 3, 4] rfl
        refine va_calli (va_runV (As := [.int (xs ((nI (3 * k)) + 1).toNatClampNeg)]) (rest := []) ⟨hx, hb, hml, hown, hts⟩ (c_X0_dirty l dC dI o1 q1 q2 q3 q4 cA S D R K pc sc ph rd th lm dy wt (xs ((nI (3 * k)) + 1).toNatClampNeg) H.size) (cwV 1 hts gL_law_X0_dirty rfl rfl rfl (by decide +kernel) ⟨Nat.le_of_ble_eq_true rfl, Nat.le_of_ble_eq_true rfl⟩) ⟨fun a U g mk q => by obtain ⟨q0, q1, qP, qK, qD⟩ := q; exact ⟨q0, q1, qP, va_K.moved (u := U) (U := U.calling g mk a) (Vm.Alike.refl U.vm) qK, qD⟩, va_recv hKc hPc (ci := 0) (q0 := 0) rfl rfl, fun U hU hW => ⟨rfl, by rw [hU], by rw [hU]; exact hPc, va_K.moved hW.alike hKc, hDc.weaken (fun _ _ _ _ => trivial)⟩⟩ rfl rfl hl.1 rfl (lv_room (Nat.le_of_ble_eq_true rfl)) dL_law_238 ⟨Nat.le_of_ble_eq_true rfl, Nat.le_of_ble_eq_true rfl⟩) hS (fun q _ h => hFc q h) hFc (fun r_2161 u_2162 t H1 locs ht hvm w_2163 hB hz1 hk1 hS => ?_)
        obtain ⟨w_2163, e_2164⟩ := w_2163
        subst e_2164
        obtain ⟨hP1, hK1, hD1⟩ := hB
        rw [ht] at hP1
        obtain ⟨hP, hD⟩ := va_join (wr := [(o2, .inr (1, [.ref p1, .ref p2, .ref p3, .ref p4, .ref p5, .ref p6, .ref p7, .ref p8, .int pc, .int ph, .int rd, .int th, .int lm, .int sc, .long tm, .long sn])), (p1, .inl (cA, 64, .inl M)), (p2, .inl (cA, 64, .inl N)), (p3, .inl (cA, 64, .inl C)), (p4, .inl (cA, 4, .inl R)), (p5, .inl (cJ, 8, .inr (.inl G))), (p6, .inl (cZ, 8, .inl E)), (p7, .inl (cZ, 8, .inl F)), (p8, .inl (cA, 8, .inl T))]) (w1 := [(o1, .inr (0, [.ref q1, .ref q2, .ref q3, .ref q4, .int pc, .int sc, .int ph, .int rd, .int th, .int lm, .int dy, .int wt])), (q1, .inl (cA, 64, .inl S)), (q2, .inl (cA, 64, .inl D)), (q3, .inl (cA, 4, .inl R)), (q4, .inl (cA, 8, .inl K))]) hP hD [0, 1, 2, 3, 4] [5, 6, 7, 8, 9, 10, 11, 12, 13] rfl rfl (by decide) (by decide) hk1 hFc hP1 hD1
        clear hPc hDc hFc hP1 hD1 hk1 hK1
        generalize H1 = H at hP hS ⊢
        have hP : va_P (dC, dI) vwCl [(o2, .inr (1, [.ref p1, .ref p2, .ref p3, .ref p4, .ref p5, .ref p6, .ref p7, .ref p8, .int pc, .int ph, .int rd, .int th, .int lm, .int sc, .long tm, .long sn])), (p1, .inl (cA, 64, .inl M)), (p2, .inl (cA, 64, .inl N)), (p3, .inl (cA, 64, .inl C)), (p4, .inl (cA, 4, .inl R)), (p5, .inl (cJ, 8, .inr (.inl G))), (p6, .inl (cZ, 8, .inl E)), (p7, .inl (cZ, 8, .inl F)), (p8, .inl (cA, 8, .inl T)), (o1, .inr (0, [.ref q1, .ref q2, .ref q3, .ref q4, .int pc, .int sc, .int ph, .int rd, .int th, .int lm, .int dy, .int wt])), (q1, .inl (cA, 64, .inl S)), (q2, .inl (cA, 64, .inl D)), (q3, .inl (cA, 4, .inl R)), (q4, .inl (cA, 8, .inl K))] H := hP
        have hD : va_D (fun q : Nat => s.heap.size ≤ q) [(o2, .inr (1, [.ref p1, .ref p2, .ref p3, .ref p4, .ref p5, .ref p6, .ref p7, .ref p8, .int pc, .int ph, .int rd, .int th, .int lm, .int sc, .long tm, .long sn])), (p1, .inl (cA, 64, .inl M)), (p2, .inl (cA, 64, .inl N)), (p3, .inl (cA, 64, .inl C)), (p4, .inl (cA, 4, .inl R)), (p5, .inl (cJ, 8, .inr (.inl G))), (p6, .inl (cZ, 8, .inl E)), (p7, .inl (cZ, 8, .inl F)), (p8, .inl (cA, 8, .inl T)), (o1, .inr (0, [.ref q1, .ref q2, .ref q3, .ref q4, .int pc, .int sc, .int ph, .int rd, .int th, .int lm, .int dy, .int wt])), (q1, .inl (cA, 64, .inl S)), (q2, .inl (cA, 64, .inl D)), (q3, .inl (cA, 4, .inl R)), (q4, .inl (cA, 8, .inl K))] := hD
        refine lv_aload_n hx hb dL_law_241 rfl (lv_at hl 3 rfl) ?_
        refine lv_aload_n hx hb dL_law_242 rfl (lv_at hl 1 rfl) ?_
        refine lv_iload_n hx hb dL_law_243 rfl (lv_at hl 0 rfl) ?_
        refine lv_iconst (v := 1) hx hb dL_law_244 (by decide) ?_
        refine lv_iadd hx hb dL_law_245 ?_
        refine va_sld hx hb hX hbl hbA hS in1 dL_law_246 ?_
        have hPc := hP.sub (ws' := [(o2, .inr (1, [.ref p1, .ref p2, .ref p3, .ref p4, .ref p5, .ref p6, .ref p7, .ref p8, .int pc, .int ph, .int rd, .int th, .int lm, .int sc, .long tm, .long sn])), (p1, .inl (cA, 64, .inl M)), (p2, .inl (cA, 64, .inl N)), (p3, .inl (cA, 64, .inl C)), (p4, .inl (cA, 4, .inl R)), (p5, .inl (cJ, 8, .inr (.inl G))), (p6, .inl (cZ, 8, .inl E)), (p7, .inl (cZ, 8, .inl F)), (p8, .inl (cA, 8, .inl T))]) [0, 1, 2, 3, 4, 5, 6, 7, 8] rfl
        have hDc := hD.sub (ws' := [(o2, .inr (1, [.ref p1, .ref p2, .ref p3, .ref p4, .ref p5, .ref p6, .ref p7, .ref p8, .int pc, .int ph, .int rd, .int th, .int lm, .int sc, .long tm, .long sn])), (p1, .inl (cA, 64, .inl M)), (p2, .inl (cA, 64, .inl N)), (p3, .inl (cA, 64, .inl C)), (p4, .inl (cA, 4, .inl R)), (p5, .inl (cJ, 8, .inr (.inl G))), (p6, .inl (cZ, 8, .inl E)), (p7, .inl (cZ, 8, .inl F)), (p8, .inl (cA, 8, .inl T))]) [0, 1, 2, 3, 4, 5, 6, 7, 8] (by decide) rfl
        have hKc := hK.sub (tys' := [(cA, .int), (cJ, .long), (cZ, .boolean)]) [0, 1, 2] rfl
        have hFc := va_free (wc := [(o2, .inr (1, [.ref p1, .ref p2, .ref p3, .ref p4, .ref p5, .ref p6, .ref p7, .ref p8, .int pc, .int ph, .int rd, .int th, .int lm, .int sc, .long tm, .long sn])), (p1, .inl (cA, 64, .inl M)), (p2, .inl (cA, 64, .inl N)), (p3, .inl (cA, 64, .inl C)), (p4, .inl (cA, 4, .inl R)), (p5, .inl (cJ, 8, .inr (.inl G))), (p6, .inl (cZ, 8, .inl E)), (p7, .inl (cZ, 8, .inl F)), (p8, .inl (cA, 8, .inl T))]) hD hS hA [0, 1, 2, 3, 4, 5, 6, 7, 8] rfl
        refine va_calli (va_runV (As := [.int (xs ((nI (3 * k)) + 1).toNatClampNeg)]) (rest := [.int r_2161]) ⟨hx, hb, hml, hown, hts⟩ (c_X1_dirty l dC dI o2 p1 p2 p3 p4 p5 p6 p7 p8 cA cJ cZ M N C R G E F T pc ph rd th lm sc tm sn (xs ((nI (3 * k)) + 1).toNatClampNeg) (mx_F hI).1 H.size) (cwV 1 hts gL_law_X1_dirty rfl rfl rfl (by decide +kernel) ⟨Nat.le_of_ble_eq_true rfl, Nat.le_of_ble_eq_true rfl⟩) ⟨fun a U g mk q => by obtain ⟨q0, q1, qP, qK, qD⟩ := q; exact ⟨q0, q1, qP, va_K.moved (u := U) (U := U.calling g mk a) (Vm.Alike.refl U.vm) qK, qD⟩, va_recv hKc hPc (ci := 1) (q0 := 0) rfl rfl, fun U hU hW => ⟨rfl, by rw [hU], by rw [hU]; exact hPc, va_K.moved hW.alike hKc, hDc.weaken (fun _ _ _ _ => trivial)⟩⟩ rfl rfl hl.1 rfl (lv_room (Nat.le_of_ble_eq_true rfl)) dL_law_247 ⟨Nat.le_of_ble_eq_true rfl, Nat.le_of_ble_eq_true rfl⟩) hS (fun q _ h => hFc q h) hFc (fun r_2165 u_2166 t H1 locs ht hvm w_2167 hB hz1 hk1 hS => ?_)
        obtain ⟨w_2167, e_2168⟩ := w_2167
        subst e_2168
        obtain ⟨hP1, hK1, hD1⟩ := hB
        rw [ht] at hP1
        obtain ⟨hP, hD⟩ := va_join (wr := [(o1, .inr (0, [.ref q1, .ref q2, .ref q3, .ref q4, .int pc, .int sc, .int ph, .int rd, .int th, .int lm, .int dy, .int wt])), (q1, .inl (cA, 64, .inl S)), (q2, .inl (cA, 64, .inl D)), (q3, .inl (cA, 4, .inl R)), (q4, .inl (cA, 8, .inl K))]) (w1 := [(o2, .inr (1, [.ref p1, .ref p2, .ref p3, .ref p4, .ref p5, .ref p6, .ref p7, .ref p8, .int pc, .int ph, .int rd, .int th, .int lm, .int sc, .long tm, .long sn])), (p1, .inl (cA, 64, .inl M)), (p2, .inl (cA, 64, .inl N)), (p3, .inl (cA, 64, .inl C)), (p4, .inl (cA, 4, .inl R)), (p5, .inl (cJ, 8, .inr (.inl G))), (p6, .inl (cZ, 8, .inl E)), (p7, .inl (cZ, 8, .inl F)), (p8, .inl (cA, 8, .inl T))]) hP hD [0, 1, 2, 3, 4, 5, 6, 7, 8] [9, 10, 11, 12, 13] rfl rfl (by decide) (by decide) hk1 hFc hP1 hD1
        clear hPc hDc hFc hP1 hD1 hk1 hK1
        generalize H1 = H at hP hS ⊢
        have hP : va_P (dC, dI) vwCl [(o1, .inr (0, [.ref q1, .ref q2, .ref q3, .ref q4, .int pc, .int sc, .int ph, .int rd, .int th, .int lm, .int dy, .int wt])), (q1, .inl (cA, 64, .inl S)), (q2, .inl (cA, 64, .inl D)), (q3, .inl (cA, 4, .inl R)), (q4, .inl (cA, 8, .inl K)), (o2, .inr (1, [.ref p1, .ref p2, .ref p3, .ref p4, .ref p5, .ref p6, .ref p7, .ref p8, .int pc, .int ph, .int rd, .int th, .int lm, .int sc, .long tm, .long sn])), (p1, .inl (cA, 64, .inl M)), (p2, .inl (cA, 64, .inl N)), (p3, .inl (cA, 64, .inl C)), (p4, .inl (cA, 4, .inl R)), (p5, .inl (cJ, 8, .inr (.inl G))), (p6, .inl (cZ, 8, .inl E)), (p7, .inl (cZ, 8, .inl F)), (p8, .inl (cA, 8, .inl T))] H := hP
        have hD : va_D (fun q : Nat => s.heap.size ≤ q) [(o1, .inr (0, [.ref q1, .ref q2, .ref q3, .ref q4, .int pc, .int sc, .int ph, .int rd, .int th, .int lm, .int dy, .int wt])), (q1, .inl (cA, 64, .inl S)), (q2, .inl (cA, 64, .inl D)), (q3, .inl (cA, 4, .inl R)), (q4, .inl (cA, 8, .inl K)), (o2, .inr (1, [.ref p1, .ref p2, .ref p3, .ref p4, .ref p5, .ref p6, .ref p7, .ref p8, .int pc, .int ph, .int rd, .int th, .int lm, .int sc, .long tm, .long sn])), (p1, .inl (cA, 64, .inl M)), (p2, .inl (cA, 64, .inl N)), (p3, .inl (cA, 64, .inl C)), (p4, .inl (cA, 4, .inl R)), (p5, .inl (cJ, 8, .inr (.inl G))), (p6, .inl (cZ, 8, .inl E)), (p7, .inl (cZ, 8, .inl F)), (p8, .inl (cA, 8, .inl T))] := hD
        have er := mx_dirty hI (by omega) w_2163 w_2167
        refine lv_icmp_eq (tgt := 396) hx hb dL_law_250 (by decide) (fun c_2169 => ?_) (fun c_2169 => ?_)
        · refine lv_iinc (v := (nI (3 * k)) + 3) (lv' := [(3, .int ((nI (3 * k)) + 3)), (0, .ref b), (1, .ref o1), (2, .ref o2)]) hx hb dL_law_396 hl (k := 0) rfl rfl (by decide) rfl (fun ls hl => ?_)
          refine lv_goto (tgt := 18) hx hb dL_law_399 (by decide) ?_
          have hl : lv_has ls 4 [(3, .int (nI (3 * (k + 1)))), (0, .ref b), (1, .ref o1), (2, .ref o2)] := by
            rw [show nI (3 * (k + 1)) = nI (3 * k) + 3 from by rw [show (3 : Int32) = nI 3 from by decide, nI_add]; rfl]
            exact lv_sub hl [0, 1, 2, 3] rfl
          exact ih (k + 1) _ _ _ _ _ _ _ _ _ _ _ _ _ _ _ _ _ _ _ _ _ H locs ls (by omega) (by omega) (mx_I_le hI (by omega) hI.1) hP hD hS hl
        · exact absurd er c_2169
      · refine lv_tableIn (off := 223) (tgt := 255) hx hb dL_law_32 (by rw [o_2002]; decide) (by rw [o_2002]; decide) (by rw [o_2002]; rfl) (by decide) ?_
        refine lv_aload_n hx hb dL_law_255 rfl (lv_at hl 2 rfl) ?_
        refine lv_aload_n hx hb dL_law_256 rfl (lv_at hl 1 rfl) ?_
        refine lv_iload_n hx hb dL_law_257 rfl (lv_at hl 0 rfl) ?_
        refine lv_iconst (v := 1) hx hb dL_law_258 (by decide) ?_
        refine lv_iadd hx hb dL_law_259 ?_
        refine va_sld hx hb hX hbl hbA hS in1 dL_law_260 ?_
        have hPc := hP.sub (ws' := [(o1, .inr (0, [.ref q1, .ref q2, .ref q3, .ref q4, .int pc, .int sc, .int ph, .int rd, .int th, .int lm, .int dy, .int wt])), (q1, .inl (cA, 64, .inl S)), (q2, .inl (cA, 64, .inl D)), (q3, .inl (cA, 4, .inl R)), (q4, .inl (cA, 8, .inl K))]) [0, 1, 2, 3, 4] rfl
        have hDc := hD.sub (ws' := [(o1, .inr (0, [.ref q1, .ref q2, .ref q3, .ref q4, .int pc, .int sc, .int ph, .int rd, .int th, .int lm, .int dy, .int wt])), (q1, .inl (cA, 64, .inl S)), (q2, .inl (cA, 64, .inl D)), (q3, .inl (cA, 4, .inl R)), (q4, .inl (cA, 8, .inl K))]) [0, 1, 2, 3, 4] (by decide) rfl
        have hKc := hK.sub (tys' := [(cA, .int)]) [0] rfl
        have hFc := va_free (wc := [(o1, .inr (0, [.ref q1, .ref q2, .ref q3, .ref q4, .int pc, .int sc, .int ph, .int rd, .int th, .int lm, .int dy, .int wt])), (q1, .inl (cA, 64, .inl S)), (q2, .inl (cA, 64, .inl D)), (q3, .inl (cA, 4, .inl R)), (q4, .inl (cA, 8, .inl K))]) hD hS hA [0, 1, 2, 3, 4] rfl
        refine va_calli (va_runV (As := [.int (xs ((nI (3 * k)) + 1).toNatClampNeg)]) (rest := []) ⟨hx, hb, hml, hown, hts⟩ (c_X0_waits l dC dI o1 q1 q2 q3 q4 cA S D R K pc sc ph rd th lm dy wt (xs ((nI (3 * k)) + 1).toNatClampNeg) H.size) (cwV 1 hts gL_law_X0_waits rfl rfl rfl (by decide +kernel) ⟨Nat.le_of_ble_eq_true rfl, Nat.le_of_ble_eq_true rfl⟩) ⟨fun a U g mk q => by obtain ⟨q0, q1, qP, qK, qD⟩ := q; exact ⟨q0, q1, qP, va_K.moved (u := U) (U := U.calling g mk a) (Vm.Alike.refl U.vm) qK, qD⟩, va_recv hKc hPc (ci := 0) (q0 := 0) rfl rfl, fun U hU hW => ⟨rfl, by rw [hU], by rw [hU]; exact hPc, va_K.moved hW.alike hKc, hDc.weaken (fun _ _ _ _ => trivial)⟩⟩ rfl rfl hl.1 rfl (lv_room (Nat.le_of_ble_eq_true rfl)) dL_law_261 ⟨Nat.le_of_ble_eq_true rfl, Nat.le_of_ble_eq_true rfl⟩) hS (fun q _ h => hFc q h) hFc (fun r_2170 u_2171 t H1 locs ht hvm w_2172 hB hz1 hk1 hS => ?_)
        obtain ⟨w_2172, e_2173⟩ := w_2172
        subst e_2173
        obtain ⟨hP1, hK1, hD1⟩ := hB
        rw [ht] at hP1
        obtain ⟨hP, hD⟩ := va_join (wr := [(o2, .inr (1, [.ref p1, .ref p2, .ref p3, .ref p4, .ref p5, .ref p6, .ref p7, .ref p8, .int pc, .int ph, .int rd, .int th, .int lm, .int sc, .long tm, .long sn])), (p1, .inl (cA, 64, .inl M)), (p2, .inl (cA, 64, .inl N)), (p3, .inl (cA, 64, .inl C)), (p4, .inl (cA, 4, .inl R)), (p5, .inl (cJ, 8, .inr (.inl G))), (p6, .inl (cZ, 8, .inl E)), (p7, .inl (cZ, 8, .inl F)), (p8, .inl (cA, 8, .inl T))]) (w1 := [(o1, .inr (0, [.ref q1, .ref q2, .ref q3, .ref q4, .int pc, .int sc, .int ph, .int rd, .int th, .int lm, .int dy, .int wt])), (q1, .inl (cA, 64, .inl S)), (q2, .inl (cA, 64, .inl D)), (q3, .inl (cA, 4, .inl R)), (q4, .inl (cA, 8, .inl K))]) hP hD [0, 1, 2, 3, 4] [5, 6, 7, 8, 9, 10, 11, 12, 13] rfl rfl (by decide) (by decide) hk1 hFc hP1 hD1
        clear hPc hDc hFc hP1 hD1 hk1 hK1
        generalize H1 = H at hP hS ⊢
        have hP : va_P (dC, dI) vwCl [(o2, .inr (1, [.ref p1, .ref p2, .ref p3, .ref p4, .ref p5, .ref p6, .ref p7, .ref p8, .int pc, .int ph, .int rd, .int th, .int lm, .int sc, .long tm, .long sn])), (p1, .inl (cA, 64, .inl M)), (p2, .inl (cA, 64, .inl N)), (p3, .inl (cA, 64, .inl C)), (p4, .inl (cA, 4, .inl R)), (p5, .inl (cJ, 8, .inr (.inl G))), (p6, .inl (cZ, 8, .inl E)), (p7, .inl (cZ, 8, .inl F)), (p8, .inl (cA, 8, .inl T)), (o1, .inr (0, [.ref q1, .ref q2, .ref q3, .ref q4, .int pc, .int sc, .int ph, .int rd, .int th, .int lm, .int dy, .int wt])), (q1, .inl (cA, 64, .inl S)), (q2, .inl (cA, 64, .inl D)), (q3, .inl (cA, 4, .inl R)), (q4, .inl (cA, 8, .inl K))] H := hP
        have hD : va_D (fun q : Nat => s.heap.size ≤ q) [(o2, .inr (1, [.ref p1, .ref p2, .ref p3, .ref p4, .ref p5, .ref p6, .ref p7, .ref p8, .int pc, .int ph, .int rd, .int th, .int lm, .int sc, .long tm, .long sn])), (p1, .inl (cA, 64, .inl M)), (p2, .inl (cA, 64, .inl N)), (p3, .inl (cA, 64, .inl C)), (p4, .inl (cA, 4, .inl R)), (p5, .inl (cJ, 8, .inr (.inl G))), (p6, .inl (cZ, 8, .inl E)), (p7, .inl (cZ, 8, .inl F)), (p8, .inl (cA, 8, .inl T)), (o1, .inr (0, [.ref q1, .ref q2, .ref q3, .ref q4, .int pc, .int sc, .int ph, .int rd, .int th, .int lm, .int dy, .int wt])), (q1, .inl (cA, 64, .inl S)), (q2, .inl (cA, 64, .inl D)), (q3, .inl (cA, 4, .inl R)), (q4, .inl (cA, 8, .inl K))] := hD
        refine lv_aload_n hx hb dL_law_264 rfl (lv_at hl 3 rfl) ?_
        refine lv_aload_n hx hb dL_law_265 rfl (lv_at hl 1 rfl) ?_
        refine lv_iload_n hx hb dL_law_266 rfl (lv_at hl 0 rfl) ?_
        refine lv_iconst (v := 1) hx hb dL_law_267 (by decide) ?_
        refine lv_iadd hx hb dL_law_268 ?_
        refine va_sld hx hb hX hbl hbA hS in1 dL_law_269 ?_
        have hPc := hP.sub (ws' := [(o2, .inr (1, [.ref p1, .ref p2, .ref p3, .ref p4, .ref p5, .ref p6, .ref p7, .ref p8, .int pc, .int ph, .int rd, .int th, .int lm, .int sc, .long tm, .long sn])), (p1, .inl (cA, 64, .inl M)), (p2, .inl (cA, 64, .inl N)), (p3, .inl (cA, 64, .inl C)), (p4, .inl (cA, 4, .inl R)), (p5, .inl (cJ, 8, .inr (.inl G))), (p6, .inl (cZ, 8, .inl E)), (p7, .inl (cZ, 8, .inl F)), (p8, .inl (cA, 8, .inl T))]) [0, 1, 2, 3, 4, 5, 6, 7, 8] rfl
        have hDc := hD.sub (ws' := [(o2, .inr (1, [.ref p1, .ref p2, .ref p3, .ref p4, .ref p5, .ref p6, .ref p7, .ref p8, .int pc, .int ph, .int rd, .int th, .int lm, .int sc, .long tm, .long sn])), (p1, .inl (cA, 64, .inl M)), (p2, .inl (cA, 64, .inl N)), (p3, .inl (cA, 64, .inl C)), (p4, .inl (cA, 4, .inl R)), (p5, .inl (cJ, 8, .inr (.inl G))), (p6, .inl (cZ, 8, .inl E)), (p7, .inl (cZ, 8, .inl F)), (p8, .inl (cA, 8, .inl T))]) [0, 1, 2, 3, 4, 5, 6, 7, 8] (by decide) rfl
        have hKc := hK.sub (tys' := [(cA, .int), (cJ, .long), (cZ, .boolean)]) [0, 1, 2] rfl
        have hFc := va_free (wc := [(o2, .inr (1, [.ref p1, .ref p2, .ref p3, .ref p4, .ref p5, .ref p6, .ref p7, .ref p8, .int pc, .int ph, .int rd, .int th, .int lm, .int sc, .long tm, .long sn])), (p1, .inl (cA, 64, .inl M)), (p2, .inl (cA, 64, .inl N)), (p3, .inl (cA, 64, .inl C)), (p4, .inl (cA, 4, .inl R)), (p5, .inl (cJ, 8, .inr (.inl G))), (p6, .inl (cZ, 8, .inl E)), (p7, .inl (cZ, 8, .inl F)), (p8, .inl (cA, 8, .inl T))]) hD hS hA [0, 1, 2, 3, 4, 5, 6, 7, 8] rfl
        refine va_calli (va_runV (As := [.int (xs ((nI (3 * k)) + 1).toNatClampNeg)]) (rest := [.int r_2170]) ⟨hx, hb, hml, hown, hts⟩ (c_X1_waits l dC dI o2 p1 p2 p3 p4 p5 p6 p7 p8 cA cJ cZ M N C R G E F T pc ph rd th lm sc tm sn (xs ((nI (3 * k)) + 1).toNatClampNeg) H.size) (cwV 1 hts gL_law_X1_waits rfl rfl rfl (by decide +kernel) ⟨Nat.le_of_ble_eq_true rfl, Nat.le_of_ble_eq_true rfl⟩) ⟨fun a U g mk q => by obtain ⟨q0, q1, qP, qK, qD⟩ := q; exact ⟨q0, q1, qP, va_K.moved (u := U) (U := U.calling g mk a) (Vm.Alike.refl U.vm) qK, qD⟩, va_recv hKc hPc (ci := 1) (q0 := 0) rfl rfl, fun U hU hW => ⟨rfl, by rw [hU], by rw [hU]; exact hPc, va_K.moved hW.alike hKc, hDc.weaken (fun _ _ _ _ => trivial)⟩⟩ rfl rfl hl.1 rfl (lv_room (Nat.le_of_ble_eq_true rfl)) dL_law_270 ⟨Nat.le_of_ble_eq_true rfl, Nat.le_of_ble_eq_true rfl⟩) hS (fun q _ h => hFc q h) hFc (fun r_2174 u_2175 t H1 locs ht hvm w_2176 hB hz1 hk1 hS => ?_)
        obtain ⟨w_2176, e_2177⟩ := w_2176
        subst e_2177
        obtain ⟨hP1, hK1, hD1⟩ := hB
        rw [ht] at hP1
        obtain ⟨hP, hD⟩ := va_join (wr := [(o1, .inr (0, [.ref q1, .ref q2, .ref q3, .ref q4, .int pc, .int sc, .int ph, .int rd, .int th, .int lm, .int dy, .int wt])), (q1, .inl (cA, 64, .inl S)), (q2, .inl (cA, 64, .inl D)), (q3, .inl (cA, 4, .inl R)), (q4, .inl (cA, 8, .inl K))]) (w1 := [(o2, .inr (1, [.ref p1, .ref p2, .ref p3, .ref p4, .ref p5, .ref p6, .ref p7, .ref p8, .int pc, .int ph, .int rd, .int th, .int lm, .int sc, .long tm, .long sn])), (p1, .inl (cA, 64, .inl M)), (p2, .inl (cA, 64, .inl N)), (p3, .inl (cA, 64, .inl C)), (p4, .inl (cA, 4, .inl R)), (p5, .inl (cJ, 8, .inr (.inl G))), (p6, .inl (cZ, 8, .inl E)), (p7, .inl (cZ, 8, .inl F)), (p8, .inl (cA, 8, .inl T))]) hP hD [0, 1, 2, 3, 4, 5, 6, 7, 8] [9, 10, 11, 12, 13] rfl rfl (by decide) (by decide) hk1 hFc hP1 hD1
        clear hPc hDc hFc hP1 hD1 hk1 hK1
        generalize H1 = H at hP hS ⊢
        have hP : va_P (dC, dI) vwCl [(o1, .inr (0, [.ref q1, .ref q2, .ref q3, .ref q4, .int pc, .int sc, .int ph, .int rd, .int th, .int lm, .int dy, .int wt])), (q1, .inl (cA, 64, .inl S)), (q2, .inl (cA, 64, .inl D)), (q3, .inl (cA, 4, .inl R)), (q4, .inl (cA, 8, .inl K)), (o2, .inr (1, [.ref p1, .ref p2, .ref p3, .ref p4, .ref p5, .ref p6, .ref p7, .ref p8, .int pc, .int ph, .int rd, .int th, .int lm, .int sc, .long tm, .long sn])), (p1, .inl (cA, 64, .inl M)), (p2, .inl (cA, 64, .inl N)), (p3, .inl (cA, 64, .inl C)), (p4, .inl (cA, 4, .inl R)), (p5, .inl (cJ, 8, .inr (.inl G))), (p6, .inl (cZ, 8, .inl E)), (p7, .inl (cZ, 8, .inl F)), (p8, .inl (cA, 8, .inl T))] H := hP
        have hD : va_D (fun q : Nat => s.heap.size ≤ q) [(o1, .inr (0, [.ref q1, .ref q2, .ref q3, .ref q4, .int pc, .int sc, .int ph, .int rd, .int th, .int lm, .int dy, .int wt])), (q1, .inl (cA, 64, .inl S)), (q2, .inl (cA, 64, .inl D)), (q3, .inl (cA, 4, .inl R)), (q4, .inl (cA, 8, .inl K)), (o2, .inr (1, [.ref p1, .ref p2, .ref p3, .ref p4, .ref p5, .ref p6, .ref p7, .ref p8, .int pc, .int ph, .int rd, .int th, .int lm, .int sc, .long tm, .long sn])), (p1, .inl (cA, 64, .inl M)), (p2, .inl (cA, 64, .inl N)), (p3, .inl (cA, 64, .inl C)), (p4, .inl (cA, 4, .inl R)), (p5, .inl (cJ, 8, .inr (.inl G))), (p6, .inl (cZ, 8, .inl E)), (p7, .inl (cZ, 8, .inl F)), (p8, .inl (cA, 8, .inl T))] := hD
        have er := mx_waits hI w_2172 w_2176
        refine lv_icmp_eq (tgt := 396) hx hb dL_law_273 (by decide) (fun c_2178 => ?_) (fun c_2178 => ?_)
        · refine lv_iinc (v := (nI (3 * k)) + 3) (lv' := [(3, .int ((nI (3 * k)) + 3)), (0, .ref b), (1, .ref o1), (2, .ref o2)]) hx hb dL_law_396 hl (k := 0) rfl rfl (by decide) rfl (fun ls hl => ?_)
          refine lv_goto (tgt := 18) hx hb dL_law_399 (by decide) ?_
          have hl : lv_has ls 4 [(3, .int (nI (3 * (k + 1)))), (0, .ref b), (1, .ref o1), (2, .ref o2)] := by
            rw [show nI (3 * (k + 1)) = nI (3 * k) + 3 from by rw [show (3 : Int32) = nI 3 from by decide, nI_add]; rfl]
            exact lv_sub hl [0, 1, 2, 3] rfl
          exact ih (k + 1) _ _ _ _ _ _ _ _ _ _ _ _ _ _ _ _ _ _ _ _ _ H locs ls (by omega) (by omega) (mx_I_le hI (by omega) hI.1) hP hD hS hl
        · exact absurd er c_2178
      · refine lv_tableIn (off := 246) (tgt := 278) hx hb dL_law_32 (by rw [o_2002]; decide) (by rw [o_2002]; decide) (by rw [o_2002]; rfl) (by decide) ?_
        refine lv_aload_n hx hb dL_law_278 rfl (lv_at hl 2 rfl) ?_
        refine lv_aload_n hx hb dL_law_279 rfl (lv_at hl 1 rfl) ?_
        refine lv_iload_n hx hb dL_law_280 rfl (lv_at hl 0 rfl) ?_
        refine lv_iconst (v := 1) hx hb dL_law_281 (by decide) ?_
        refine lv_iadd hx hb dL_law_282 ?_
        refine va_sld hx hb hX hbl hbA hS in1 dL_law_283 ?_
        have hPc := hP.sub (ws' := [(o1, .inr (0, [.ref q1, .ref q2, .ref q3, .ref q4, .int pc, .int sc, .int ph, .int rd, .int th, .int lm, .int dy, .int wt])), (q1, .inl (cA, 64, .inl S)), (q2, .inl (cA, 64, .inl D)), (q3, .inl (cA, 4, .inl R)), (q4, .inl (cA, 8, .inl K))]) [0, 1, 2, 3, 4] rfl
        have hDc := hD.sub (ws' := [(o1, .inr (0, [.ref q1, .ref q2, .ref q3, .ref q4, .int pc, .int sc, .int ph, .int rd, .int th, .int lm, .int dy, .int wt])), (q1, .inl (cA, 64, .inl S)), (q2, .inl (cA, 64, .inl D)), (q3, .inl (cA, 4, .inl R)), (q4, .inl (cA, 8, .inl K))]) [0, 1, 2, 3, 4] (by decide) rfl
        have hKc := hK.sub (tys' := [(cA, .int)]) [0] rfl
        have hFc := va_free (wc := [(o1, .inr (0, [.ref q1, .ref q2, .ref q3, .ref q4, .int pc, .int sc, .int ph, .int rd, .int th, .int lm, .int dy, .int wt])), (q1, .inl (cA, 64, .inl S)), (q2, .inl (cA, 64, .inl D)), (q3, .inl (cA, 4, .inl R)), (q4, .inl (cA, 8, .inl K))]) hD hS hA [0, 1, 2, 3, 4] rfl
        refine va_calli (va_runV (As := [.int (xs ((nI (3 * k)) + 1).toNatClampNeg)]) (rest := []) ⟨hx, hb, hml, hown, hts⟩ (c_X0_source l dC dI o1 q1 q2 q3 q4 cA S D R K pc sc ph rd th lm dy wt (xs ((nI (3 * k)) + 1).toNatClampNeg) H.size) (cwV 1 hts gL_law_X0_source rfl rfl rfl (by decide +kernel) ⟨Nat.le_of_ble_eq_true rfl, Nat.le_of_ble_eq_true rfl⟩) ⟨fun a U g mk q => by obtain ⟨q0, q1, qP, qK, qD⟩ := q; exact ⟨q0, q1, qP, va_K.moved (u := U) (U := U.calling g mk a) (Vm.Alike.refl U.vm) qK, qD⟩, va_recv hKc hPc (ci := 0) (q0 := 0) rfl rfl, fun U hU hW => ⟨rfl, by rw [hU], by rw [hU]; exact hPc, va_K.moved hW.alike hKc, hDc.weaken (fun _ _ _ _ => trivial)⟩⟩ rfl rfl hl.1 rfl (lv_room (Nat.le_of_ble_eq_true rfl)) dL_law_284 ⟨Nat.le_of_ble_eq_true rfl, Nat.le_of_ble_eq_true rfl⟩) hS (fun q _ h => hFc q h) hFc (fun r_2179 u_2180 t H1 locs ht hvm w_2181 hB hz1 hk1 hS => ?_)
        obtain ⟨w_2181, e_2182⟩ := w_2181
        subst e_2182
        obtain ⟨hP1, hK1, hD1⟩ := hB
        rw [ht] at hP1
        obtain ⟨hP, hD⟩ := va_join (wr := [(o2, .inr (1, [.ref p1, .ref p2, .ref p3, .ref p4, .ref p5, .ref p6, .ref p7, .ref p8, .int pc, .int ph, .int rd, .int th, .int lm, .int sc, .long tm, .long sn])), (p1, .inl (cA, 64, .inl M)), (p2, .inl (cA, 64, .inl N)), (p3, .inl (cA, 64, .inl C)), (p4, .inl (cA, 4, .inl R)), (p5, .inl (cJ, 8, .inr (.inl G))), (p6, .inl (cZ, 8, .inl E)), (p7, .inl (cZ, 8, .inl F)), (p8, .inl (cA, 8, .inl T))]) (w1 := [(o1, .inr (0, [.ref q1, .ref q2, .ref q3, .ref q4, .int pc, .int sc, .int ph, .int rd, .int th, .int lm, .int dy, .int wt])), (q1, .inl (cA, 64, .inl S)), (q2, .inl (cA, 64, .inl D)), (q3, .inl (cA, 4, .inl R)), (q4, .inl (cA, 8, .inl K))]) hP hD [0, 1, 2, 3, 4] [5, 6, 7, 8, 9, 10, 11, 12, 13] rfl rfl (by decide) (by decide) hk1 hFc hP1 hD1
        clear hPc hDc hFc hP1 hD1 hk1 hK1
        generalize H1 = H at hP hS ⊢
        have hP : va_P (dC, dI) vwCl [(o2, .inr (1, [.ref p1, .ref p2, .ref p3, .ref p4, .ref p5, .ref p6, .ref p7, .ref p8, .int pc, .int ph, .int rd, .int th, .int lm, .int sc, .long tm, .long sn])), (p1, .inl (cA, 64, .inl M)), (p2, .inl (cA, 64, .inl N)), (p3, .inl (cA, 64, .inl C)), (p4, .inl (cA, 4, .inl R)), (p5, .inl (cJ, 8, .inr (.inl G))), (p6, .inl (cZ, 8, .inl E)), (p7, .inl (cZ, 8, .inl F)), (p8, .inl (cA, 8, .inl T)), (o1, .inr (0, [.ref q1, .ref q2, .ref q3, .ref q4, .int pc, .int sc, .int ph, .int rd, .int th, .int lm, .int dy, .int wt])), (q1, .inl (cA, 64, .inl S)), (q2, .inl (cA, 64, .inl D)), (q3, .inl (cA, 4, .inl R)), (q4, .inl (cA, 8, .inl K))] H := hP
        have hD : va_D (fun q : Nat => s.heap.size ≤ q) [(o2, .inr (1, [.ref p1, .ref p2, .ref p3, .ref p4, .ref p5, .ref p6, .ref p7, .ref p8, .int pc, .int ph, .int rd, .int th, .int lm, .int sc, .long tm, .long sn])), (p1, .inl (cA, 64, .inl M)), (p2, .inl (cA, 64, .inl N)), (p3, .inl (cA, 64, .inl C)), (p4, .inl (cA, 4, .inl R)), (p5, .inl (cJ, 8, .inr (.inl G))), (p6, .inl (cZ, 8, .inl E)), (p7, .inl (cZ, 8, .inl F)), (p8, .inl (cA, 8, .inl T)), (o1, .inr (0, [.ref q1, .ref q2, .ref q3, .ref q4, .int pc, .int sc, .int ph, .int rd, .int th, .int lm, .int dy, .int wt])), (q1, .inl (cA, 64, .inl S)), (q2, .inl (cA, 64, .inl D)), (q3, .inl (cA, 4, .inl R)), (q4, .inl (cA, 8, .inl K))] := hD
        refine lv_aload_n hx hb dL_law_287 rfl (lv_at hl 3 rfl) ?_
        refine lv_aload_n hx hb dL_law_288 rfl (lv_at hl 1 rfl) ?_
        refine lv_iload_n hx hb dL_law_289 rfl (lv_at hl 0 rfl) ?_
        refine lv_iconst (v := 1) hx hb dL_law_290 (by decide) ?_
        refine lv_iadd hx hb dL_law_291 ?_
        refine va_sld hx hb hX hbl hbA hS in1 dL_law_292 ?_
        have hPc := hP.sub (ws' := [(o2, .inr (1, [.ref p1, .ref p2, .ref p3, .ref p4, .ref p5, .ref p6, .ref p7, .ref p8, .int pc, .int ph, .int rd, .int th, .int lm, .int sc, .long tm, .long sn])), (p1, .inl (cA, 64, .inl M)), (p2, .inl (cA, 64, .inl N)), (p3, .inl (cA, 64, .inl C)), (p4, .inl (cA, 4, .inl R)), (p5, .inl (cJ, 8, .inr (.inl G))), (p6, .inl (cZ, 8, .inl E)), (p7, .inl (cZ, 8, .inl F)), (p8, .inl (cA, 8, .inl T))]) [0, 1, 2, 3, 4, 5, 6, 7, 8] rfl
        have hDc := hD.sub (ws' := [(o2, .inr (1, [.ref p1, .ref p2, .ref p3, .ref p4, .ref p5, .ref p6, .ref p7, .ref p8, .int pc, .int ph, .int rd, .int th, .int lm, .int sc, .long tm, .long sn])), (p1, .inl (cA, 64, .inl M)), (p2, .inl (cA, 64, .inl N)), (p3, .inl (cA, 64, .inl C)), (p4, .inl (cA, 4, .inl R)), (p5, .inl (cJ, 8, .inr (.inl G))), (p6, .inl (cZ, 8, .inl E)), (p7, .inl (cZ, 8, .inl F)), (p8, .inl (cA, 8, .inl T))]) [0, 1, 2, 3, 4, 5, 6, 7, 8] (by decide) rfl
        have hKc := hK.sub (tys' := [(cA, .int), (cJ, .long), (cZ, .boolean)]) [0, 1, 2] rfl
        have hFc := va_free (wc := [(o2, .inr (1, [.ref p1, .ref p2, .ref p3, .ref p4, .ref p5, .ref p6, .ref p7, .ref p8, .int pc, .int ph, .int rd, .int th, .int lm, .int sc, .long tm, .long sn])), (p1, .inl (cA, 64, .inl M)), (p2, .inl (cA, 64, .inl N)), (p3, .inl (cA, 64, .inl C)), (p4, .inl (cA, 4, .inl R)), (p5, .inl (cJ, 8, .inr (.inl G))), (p6, .inl (cZ, 8, .inl E)), (p7, .inl (cZ, 8, .inl F)), (p8, .inl (cA, 8, .inl T))]) hD hS hA [0, 1, 2, 3, 4, 5, 6, 7, 8] rfl
        refine va_calli (va_runV (As := [.int (xs ((nI (3 * k)) + 1).toNatClampNeg)]) (rest := [.int r_2179]) ⟨hx, hb, hml, hown, hts⟩ (c_X1_source l dC dI o2 p1 p2 p3 p4 p5 p6 p7 p8 cA cJ cZ M N C R G E F T pc ph rd th lm sc tm sn (xs ((nI (3 * k)) + 1).toNatClampNeg) H.size) (cwV 1 hts gL_law_X1_source rfl rfl rfl (by decide +kernel) ⟨Nat.le_of_ble_eq_true rfl, Nat.le_of_ble_eq_true rfl⟩) ⟨fun a U g mk q => by obtain ⟨q0, q1, qP, qK, qD⟩ := q; exact ⟨q0, q1, qP, va_K.moved (u := U) (U := U.calling g mk a) (Vm.Alike.refl U.vm) qK, qD⟩, va_recv hKc hPc (ci := 1) (q0 := 0) rfl rfl, fun U hU hW => ⟨rfl, by rw [hU], by rw [hU]; exact hPc, va_K.moved hW.alike hKc, hDc.weaken (fun _ _ _ _ => trivial)⟩⟩ rfl rfl hl.1 rfl (lv_room (Nat.le_of_ble_eq_true rfl)) dL_law_293 ⟨Nat.le_of_ble_eq_true rfl, Nat.le_of_ble_eq_true rfl⟩) hS (fun q _ h => hFc q h) hFc (fun r_2183 u_2184 t H1 locs ht hvm w_2185 hB hz1 hk1 hS => ?_)
        obtain ⟨w_2185, e_2186⟩ := w_2185
        subst e_2186
        obtain ⟨hP1, hK1, hD1⟩ := hB
        rw [ht] at hP1
        obtain ⟨hP, hD⟩ := va_join (wr := [(o1, .inr (0, [.ref q1, .ref q2, .ref q3, .ref q4, .int pc, .int sc, .int ph, .int rd, .int th, .int lm, .int dy, .int wt])), (q1, .inl (cA, 64, .inl S)), (q2, .inl (cA, 64, .inl D)), (q3, .inl (cA, 4, .inl R)), (q4, .inl (cA, 8, .inl K))]) (w1 := [(o2, .inr (1, [.ref p1, .ref p2, .ref p3, .ref p4, .ref p5, .ref p6, .ref p7, .ref p8, .int pc, .int ph, .int rd, .int th, .int lm, .int sc, .long tm, .long sn])), (p1, .inl (cA, 64, .inl M)), (p2, .inl (cA, 64, .inl N)), (p3, .inl (cA, 64, .inl C)), (p4, .inl (cA, 4, .inl R)), (p5, .inl (cJ, 8, .inr (.inl G))), (p6, .inl (cZ, 8, .inl E)), (p7, .inl (cZ, 8, .inl F)), (p8, .inl (cA, 8, .inl T))]) hP hD [0, 1, 2, 3, 4, 5, 6, 7, 8] [9, 10, 11, 12, 13] rfl rfl (by decide) (by decide) hk1 hFc hP1 hD1
        clear hPc hDc hFc hP1 hD1 hk1 hK1
        generalize H1 = H at hP hS ⊢
        have hP : va_P (dC, dI) vwCl [(o1, .inr (0, [.ref q1, .ref q2, .ref q3, .ref q4, .int pc, .int sc, .int ph, .int rd, .int th, .int lm, .int dy, .int wt])), (q1, .inl (cA, 64, .inl S)), (q2, .inl (cA, 64, .inl D)), (q3, .inl (cA, 4, .inl R)), (q4, .inl (cA, 8, .inl K)), (o2, .inr (1, [.ref p1, .ref p2, .ref p3, .ref p4, .ref p5, .ref p6, .ref p7, .ref p8, .int pc, .int ph, .int rd, .int th, .int lm, .int sc, .long tm, .long sn])), (p1, .inl (cA, 64, .inl M)), (p2, .inl (cA, 64, .inl N)), (p3, .inl (cA, 64, .inl C)), (p4, .inl (cA, 4, .inl R)), (p5, .inl (cJ, 8, .inr (.inl G))), (p6, .inl (cZ, 8, .inl E)), (p7, .inl (cZ, 8, .inl F)), (p8, .inl (cA, 8, .inl T))] H := hP
        have hD : va_D (fun q : Nat => s.heap.size ≤ q) [(o1, .inr (0, [.ref q1, .ref q2, .ref q3, .ref q4, .int pc, .int sc, .int ph, .int rd, .int th, .int lm, .int dy, .int wt])), (q1, .inl (cA, 64, .inl S)), (q2, .inl (cA, 64, .inl D)), (q3, .inl (cA, 4, .inl R)), (q4, .inl (cA, 8, .inl K)), (o2, .inr (1, [.ref p1, .ref p2, .ref p3, .ref p4, .ref p5, .ref p6, .ref p7, .ref p8, .int pc, .int ph, .int rd, .int th, .int lm, .int sc, .long tm, .long sn])), (p1, .inl (cA, 64, .inl M)), (p2, .inl (cA, 64, .inl N)), (p3, .inl (cA, 64, .inl C)), (p4, .inl (cA, 4, .inl R)), (p5, .inl (cJ, 8, .inr (.inl G))), (p6, .inl (cZ, 8, .inl E)), (p7, .inl (cZ, 8, .inl F)), (p8, .inl (cA, 8, .inl T))] := hD
        have er := mx_source hI w_2181 w_2185
        refine lv_icmp_eq (tgt := 396) hx hb dL_law_296 (by decide) (fun c_2187 => ?_) (fun c_2187 => ?_)
        · refine lv_iinc (v := (nI (3 * k)) + 3) (lv' := [(3, .int ((nI (3 * k)) + 3)), (0, .ref b), (1, .ref o1), (2, .ref o2)]) hx hb dL_law_396 hl (k := 0) rfl rfl (by decide) rfl (fun ls hl => ?_)
          refine lv_goto (tgt := 18) hx hb dL_law_399 (by decide) ?_
          have hl : lv_has ls 4 [(3, .int (nI (3 * (k + 1)))), (0, .ref b), (1, .ref o1), (2, .ref o2)] := by
            rw [show nI (3 * (k + 1)) = nI (3 * k) + 3 from by rw [show (3 : Int32) = nI 3 from by decide, nI_add]; rfl]
            exact lv_sub hl [0, 1, 2, 3] rfl
          exact ih (k + 1) _ _ _ _ _ _ _ _ _ _ _ _ _ _ _ _ _ _ _ _ _ H locs ls (by omega) (by omega) (mx_I_le hI (by omega) hI.1) hP hD hS hl
        · exact absurd er c_2187
      · refine lv_tableIn (off := 269) (tgt := 301) hx hb dL_law_32 (by rw [o_2002]; decide) (by rw [o_2002]; decide) (by rw [o_2002]; rfl) (by decide) ?_
        refine lv_aload_n hx hb dL_law_301 rfl (lv_at hl 2 rfl) ?_
        refine lv_aload_n hx hb dL_law_302 rfl (lv_at hl 1 rfl) ?_
        refine lv_iload_n hx hb dL_law_303 rfl (lv_at hl 0 rfl) ?_
        refine lv_iconst (v := 1) hx hb dL_law_304 (by decide) ?_
        refine lv_iadd hx hb dL_law_305 ?_
        refine va_sld hx hb hX hbl hbA hS in1 dL_law_306 ?_
        have hPc := hP.sub (ws' := [(o1, .inr (0, [.ref q1, .ref q2, .ref q3, .ref q4, .int pc, .int sc, .int ph, .int rd, .int th, .int lm, .int dy, .int wt])), (q1, .inl (cA, 64, .inl S)), (q2, .inl (cA, 64, .inl D)), (q3, .inl (cA, 4, .inl R)), (q4, .inl (cA, 8, .inl K))]) [0, 1, 2, 3, 4] rfl
        have hDc := hD.sub (ws' := [(o1, .inr (0, [.ref q1, .ref q2, .ref q3, .ref q4, .int pc, .int sc, .int ph, .int rd, .int th, .int lm, .int dy, .int wt])), (q1, .inl (cA, 64, .inl S)), (q2, .inl (cA, 64, .inl D)), (q3, .inl (cA, 4, .inl R)), (q4, .inl (cA, 8, .inl K))]) [0, 1, 2, 3, 4] (by decide) rfl
        have hKc := hK.sub (tys' := [(cA, .int)]) [0] rfl
        have hFc := va_free (wc := [(o1, .inr (0, [.ref q1, .ref q2, .ref q3, .ref q4, .int pc, .int sc, .int ph, .int rd, .int th, .int lm, .int dy, .int wt])), (q1, .inl (cA, 64, .inl S)), (q2, .inl (cA, 64, .inl D)), (q3, .inl (cA, 4, .inl R)), (q4, .inl (cA, 8, .inl K))]) hD hS hA [0, 1, 2, 3, 4] rfl
        refine va_calli (va_runV (As := [.int (xs ((nI (3 * k)) + 1).toNatClampNeg)]) (rest := []) ⟨hx, hb, hml, hown, hts⟩ (c_X0_destination l dC dI o1 q1 q2 q3 q4 cA S D R K pc sc ph rd th lm dy wt (xs ((nI (3 * k)) + 1).toNatClampNeg) H.size) (cwV 1 hts gL_law_X0_destination rfl rfl rfl (by decide +kernel) ⟨Nat.le_of_ble_eq_true rfl, Nat.le_of_ble_eq_true rfl⟩) ⟨fun a U g mk q => by obtain ⟨q0, q1, qP, qK, qD⟩ := q; exact ⟨q0, q1, qP, va_K.moved (u := U) (U := U.calling g mk a) (Vm.Alike.refl U.vm) qK, qD⟩, va_recv hKc hPc (ci := 0) (q0 := 0) rfl rfl, fun U hU hW => ⟨rfl, by rw [hU], by rw [hU]; exact hPc, va_K.moved hW.alike hKc, hDc.weaken (fun _ _ _ _ => trivial)⟩⟩ rfl rfl hl.1 rfl (lv_room (Nat.le_of_ble_eq_true rfl)) dL_law_307 ⟨Nat.le_of_ble_eq_true rfl, Nat.le_of_ble_eq_true rfl⟩) hS (fun q _ h => hFc q h) hFc (fun r_2188 u_2189 t H1 locs ht hvm w_2190 hB hz1 hk1 hS => ?_)
        obtain ⟨w_2190, e_2191⟩ := w_2190
        subst e_2191
        obtain ⟨hP1, hK1, hD1⟩ := hB
        rw [ht] at hP1
        obtain ⟨hP, hD⟩ := va_join (wr := [(o2, .inr (1, [.ref p1, .ref p2, .ref p3, .ref p4, .ref p5, .ref p6, .ref p7, .ref p8, .int pc, .int ph, .int rd, .int th, .int lm, .int sc, .long tm, .long sn])), (p1, .inl (cA, 64, .inl M)), (p2, .inl (cA, 64, .inl N)), (p3, .inl (cA, 64, .inl C)), (p4, .inl (cA, 4, .inl R)), (p5, .inl (cJ, 8, .inr (.inl G))), (p6, .inl (cZ, 8, .inl E)), (p7, .inl (cZ, 8, .inl F)), (p8, .inl (cA, 8, .inl T))]) (w1 := [(o1, .inr (0, [.ref q1, .ref q2, .ref q3, .ref q4, .int pc, .int sc, .int ph, .int rd, .int th, .int lm, .int dy, .int wt])), (q1, .inl (cA, 64, .inl S)), (q2, .inl (cA, 64, .inl D)), (q3, .inl (cA, 4, .inl R)), (q4, .inl (cA, 8, .inl K))]) hP hD [0, 1, 2, 3, 4] [5, 6, 7, 8, 9, 10, 11, 12, 13] rfl rfl (by decide) (by decide) hk1 hFc hP1 hD1
        clear hPc hDc hFc hP1 hD1 hk1 hK1
        generalize H1 = H at hP hS ⊢
        have hP : va_P (dC, dI) vwCl [(o2, .inr (1, [.ref p1, .ref p2, .ref p3, .ref p4, .ref p5, .ref p6, .ref p7, .ref p8, .int pc, .int ph, .int rd, .int th, .int lm, .int sc, .long tm, .long sn])), (p1, .inl (cA, 64, .inl M)), (p2, .inl (cA, 64, .inl N)), (p3, .inl (cA, 64, .inl C)), (p4, .inl (cA, 4, .inl R)), (p5, .inl (cJ, 8, .inr (.inl G))), (p6, .inl (cZ, 8, .inl E)), (p7, .inl (cZ, 8, .inl F)), (p8, .inl (cA, 8, .inl T)), (o1, .inr (0, [.ref q1, .ref q2, .ref q3, .ref q4, .int pc, .int sc, .int ph, .int rd, .int th, .int lm, .int dy, .int wt])), (q1, .inl (cA, 64, .inl S)), (q2, .inl (cA, 64, .inl D)), (q3, .inl (cA, 4, .inl R)), (q4, .inl (cA, 8, .inl K))] H := hP
        have hD : va_D (fun q : Nat => s.heap.size ≤ q) [(o2, .inr (1, [.ref p1, .ref p2, .ref p3, .ref p4, .ref p5, .ref p6, .ref p7, .ref p8, .int pc, .int ph, .int rd, .int th, .int lm, .int sc, .long tm, .long sn])), (p1, .inl (cA, 64, .inl M)), (p2, .inl (cA, 64, .inl N)), (p3, .inl (cA, 64, .inl C)), (p4, .inl (cA, 4, .inl R)), (p5, .inl (cJ, 8, .inr (.inl G))), (p6, .inl (cZ, 8, .inl E)), (p7, .inl (cZ, 8, .inl F)), (p8, .inl (cA, 8, .inl T)), (o1, .inr (0, [.ref q1, .ref q2, .ref q3, .ref q4, .int pc, .int sc, .int ph, .int rd, .int th, .int lm, .int dy, .int wt])), (q1, .inl (cA, 64, .inl S)), (q2, .inl (cA, 64, .inl D)), (q3, .inl (cA, 4, .inl R)), (q4, .inl (cA, 8, .inl K))] := hD
        refine lv_aload_n hx hb dL_law_310 rfl (lv_at hl 3 rfl) ?_
        refine lv_aload_n hx hb dL_law_311 rfl (lv_at hl 1 rfl) ?_
        refine lv_iload_n hx hb dL_law_312 rfl (lv_at hl 0 rfl) ?_
        refine lv_iconst (v := 1) hx hb dL_law_313 (by decide) ?_
        refine lv_iadd hx hb dL_law_314 ?_
        refine va_sld hx hb hX hbl hbA hS in1 dL_law_315 ?_
        have hPc := hP.sub (ws' := [(o2, .inr (1, [.ref p1, .ref p2, .ref p3, .ref p4, .ref p5, .ref p6, .ref p7, .ref p8, .int pc, .int ph, .int rd, .int th, .int lm, .int sc, .long tm, .long sn])), (p1, .inl (cA, 64, .inl M)), (p2, .inl (cA, 64, .inl N)), (p3, .inl (cA, 64, .inl C)), (p4, .inl (cA, 4, .inl R)), (p5, .inl (cJ, 8, .inr (.inl G))), (p6, .inl (cZ, 8, .inl E)), (p7, .inl (cZ, 8, .inl F)), (p8, .inl (cA, 8, .inl T))]) [0, 1, 2, 3, 4, 5, 6, 7, 8] rfl
        have hDc := hD.sub (ws' := [(o2, .inr (1, [.ref p1, .ref p2, .ref p3, .ref p4, .ref p5, .ref p6, .ref p7, .ref p8, .int pc, .int ph, .int rd, .int th, .int lm, .int sc, .long tm, .long sn])), (p1, .inl (cA, 64, .inl M)), (p2, .inl (cA, 64, .inl N)), (p3, .inl (cA, 64, .inl C)), (p4, .inl (cA, 4, .inl R)), (p5, .inl (cJ, 8, .inr (.inl G))), (p6, .inl (cZ, 8, .inl E)), (p7, .inl (cZ, 8, .inl F)), (p8, .inl (cA, 8, .inl T))]) [0, 1, 2, 3, 4, 5, 6, 7, 8] (by decide) rfl
        have hKc := hK.sub (tys' := [(cA, .int), (cJ, .long), (cZ, .boolean)]) [0, 1, 2] rfl
        have hFc := va_free (wc := [(o2, .inr (1, [.ref p1, .ref p2, .ref p3, .ref p4, .ref p5, .ref p6, .ref p7, .ref p8, .int pc, .int ph, .int rd, .int th, .int lm, .int sc, .long tm, .long sn])), (p1, .inl (cA, 64, .inl M)), (p2, .inl (cA, 64, .inl N)), (p3, .inl (cA, 64, .inl C)), (p4, .inl (cA, 4, .inl R)), (p5, .inl (cJ, 8, .inr (.inl G))), (p6, .inl (cZ, 8, .inl E)), (p7, .inl (cZ, 8, .inl F)), (p8, .inl (cA, 8, .inl T))]) hD hS hA [0, 1, 2, 3, 4, 5, 6, 7, 8] rfl
        refine va_calli (va_runV (As := [.int (xs ((nI (3 * k)) + 1).toNatClampNeg)]) (rest := [.int r_2188]) ⟨hx, hb, hml, hown, hts⟩ (c_X1_destination l dC dI o2 p1 p2 p3 p4 p5 p6 p7 p8 cA cJ cZ M N C R G E F T pc ph rd th lm sc tm sn (xs ((nI (3 * k)) + 1).toNatClampNeg) H.size) (cwV 1 hts gL_law_X1_destination rfl rfl rfl (by decide +kernel) ⟨Nat.le_of_ble_eq_true rfl, Nat.le_of_ble_eq_true rfl⟩) ⟨fun a U g mk q => by obtain ⟨q0, q1, qP, qK, qD⟩ := q; exact ⟨q0, q1, qP, va_K.moved (u := U) (U := U.calling g mk a) (Vm.Alike.refl U.vm) qK, qD⟩, va_recv hKc hPc (ci := 1) (q0 := 0) rfl rfl, fun U hU hW => ⟨rfl, by rw [hU], by rw [hU]; exact hPc, va_K.moved hW.alike hKc, hDc.weaken (fun _ _ _ _ => trivial)⟩⟩ rfl rfl hl.1 rfl (lv_room (Nat.le_of_ble_eq_true rfl)) dL_law_316 ⟨Nat.le_of_ble_eq_true rfl, Nat.le_of_ble_eq_true rfl⟩) hS (fun q _ h => hFc q h) hFc (fun r_2192 u_2193 t H1 locs ht hvm w_2194 hB hz1 hk1 hS => ?_)
        obtain ⟨w_2194, e_2195⟩ := w_2194
        subst e_2195
        obtain ⟨hP1, hK1, hD1⟩ := hB
        rw [ht] at hP1
        obtain ⟨hP, hD⟩ := va_join (wr := [(o1, .inr (0, [.ref q1, .ref q2, .ref q3, .ref q4, .int pc, .int sc, .int ph, .int rd, .int th, .int lm, .int dy, .int wt])), (q1, .inl (cA, 64, .inl S)), (q2, .inl (cA, 64, .inl D)), (q3, .inl (cA, 4, .inl R)), (q4, .inl (cA, 8, .inl K))]) (w1 := [(o2, .inr (1, [.ref p1, .ref p2, .ref p3, .ref p4, .ref p5, .ref p6, .ref p7, .ref p8, .int pc, .int ph, .int rd, .int th, .int lm, .int sc, .long tm, .long sn])), (p1, .inl (cA, 64, .inl M)), (p2, .inl (cA, 64, .inl N)), (p3, .inl (cA, 64, .inl C)), (p4, .inl (cA, 4, .inl R)), (p5, .inl (cJ, 8, .inr (.inl G))), (p6, .inl (cZ, 8, .inl E)), (p7, .inl (cZ, 8, .inl F)), (p8, .inl (cA, 8, .inl T))]) hP hD [0, 1, 2, 3, 4, 5, 6, 7, 8] [9, 10, 11, 12, 13] rfl rfl (by decide) (by decide) hk1 hFc hP1 hD1
        clear hPc hDc hFc hP1 hD1 hk1 hK1
        generalize H1 = H at hP hS ⊢
        have hP : va_P (dC, dI) vwCl [(o1, .inr (0, [.ref q1, .ref q2, .ref q3, .ref q4, .int pc, .int sc, .int ph, .int rd, .int th, .int lm, .int dy, .int wt])), (q1, .inl (cA, 64, .inl S)), (q2, .inl (cA, 64, .inl D)), (q3, .inl (cA, 4, .inl R)), (q4, .inl (cA, 8, .inl K)), (o2, .inr (1, [.ref p1, .ref p2, .ref p3, .ref p4, .ref p5, .ref p6, .ref p7, .ref p8, .int pc, .int ph, .int rd, .int th, .int lm, .int sc, .long tm, .long sn])), (p1, .inl (cA, 64, .inl M)), (p2, .inl (cA, 64, .inl N)), (p3, .inl (cA, 64, .inl C)), (p4, .inl (cA, 4, .inl R)), (p5, .inl (cJ, 8, .inr (.inl G))), (p6, .inl (cZ, 8, .inl E)), (p7, .inl (cZ, 8, .inl F)), (p8, .inl (cA, 8, .inl T))] H := hP
        have hD : va_D (fun q : Nat => s.heap.size ≤ q) [(o1, .inr (0, [.ref q1, .ref q2, .ref q3, .ref q4, .int pc, .int sc, .int ph, .int rd, .int th, .int lm, .int dy, .int wt])), (q1, .inl (cA, 64, .inl S)), (q2, .inl (cA, 64, .inl D)), (q3, .inl (cA, 4, .inl R)), (q4, .inl (cA, 8, .inl K)), (o2, .inr (1, [.ref p1, .ref p2, .ref p3, .ref p4, .ref p5, .ref p6, .ref p7, .ref p8, .int pc, .int ph, .int rd, .int th, .int lm, .int sc, .long tm, .long sn])), (p1, .inl (cA, 64, .inl M)), (p2, .inl (cA, 64, .inl N)), (p3, .inl (cA, 64, .inl C)), (p4, .inl (cA, 4, .inl R)), (p5, .inl (cJ, 8, .inr (.inl G))), (p6, .inl (cZ, 8, .inl E)), (p7, .inl (cZ, 8, .inl F)), (p8, .inl (cA, 8, .inl T))] := hD
        have er := mx_dest hI w_2190 w_2194
        refine lv_icmp_eq (tgt := 396) hx hb dL_law_319 (by decide) (fun c_2196 => ?_) (fun c_2196 => ?_)
        · refine lv_iinc (v := (nI (3 * k)) + 3) (lv' := [(3, .int ((nI (3 * k)) + 3)), (0, .ref b), (1, .ref o1), (2, .ref o2)]) hx hb dL_law_396 hl (k := 0) rfl rfl (by decide) rfl (fun ls hl => ?_)
          refine lv_goto (tgt := 18) hx hb dL_law_399 (by decide) ?_
          have hl : lv_has ls 4 [(3, .int (nI (3 * (k + 1)))), (0, .ref b), (1, .ref o1), (2, .ref o2)] := by
            rw [show nI (3 * (k + 1)) = nI (3 * k) + 3 from by rw [show (3 : Int32) = nI 3 from by decide, nI_add]; rfl]
            exact lv_sub hl [0, 1, 2, 3] rfl
          exact ih (k + 1) _ _ _ _ _ _ _ _ _ _ _ _ _ _ _ _ _ _ _ _ _ H locs ls (by omega) (by omega) (mx_I_le hI (by omega) hI.1) hP hD hS hl
        · exact absurd er c_2196
      · refine lv_tableIn (off := 292) (tgt := 324) hx hb dL_law_32 (by rw [o_2002]; decide) (by rw [o_2002]; decide) (by rw [o_2002]; rfl) (by decide) ?_
        refine lv_aload_n hx hb dL_law_324 rfl (lv_at hl 2 rfl) ?_
        refine lv_aload_n hx hb dL_law_325 rfl (lv_at hl 1 rfl) ?_
        refine lv_iload_n hx hb dL_law_326 rfl (lv_at hl 0 rfl) ?_
        refine lv_iconst (v := 1) hx hb dL_law_327 (by decide) ?_
        refine lv_iadd hx hb dL_law_328 ?_
        refine va_sld hx hb hX hbl hbA hS in1 dL_law_329 ?_
        have hPc := hP.sub (ws' := [(o1, .inr (0, [.ref q1, .ref q2, .ref q3, .ref q4, .int pc, .int sc, .int ph, .int rd, .int th, .int lm, .int dy, .int wt])), (q1, .inl (cA, 64, .inl S)), (q2, .inl (cA, 64, .inl D)), (q3, .inl (cA, 4, .inl R)), (q4, .inl (cA, 8, .inl K))]) [0, 1, 2, 3, 4] rfl
        have hDc := hD.sub (ws' := [(o1, .inr (0, [.ref q1, .ref q2, .ref q3, .ref q4, .int pc, .int sc, .int ph, .int rd, .int th, .int lm, .int dy, .int wt])), (q1, .inl (cA, 64, .inl S)), (q2, .inl (cA, 64, .inl D)), (q3, .inl (cA, 4, .inl R)), (q4, .inl (cA, 8, .inl K))]) [0, 1, 2, 3, 4] (by decide) rfl
        have hKc := hK.sub (tys' := [(cA, .int)]) [0] rfl
        have hFc := va_free (wc := [(o1, .inr (0, [.ref q1, .ref q2, .ref q3, .ref q4, .int pc, .int sc, .int ph, .int rd, .int th, .int lm, .int dy, .int wt])), (q1, .inl (cA, 64, .inl S)), (q2, .inl (cA, 64, .inl D)), (q3, .inl (cA, 4, .inl R)), (q4, .inl (cA, 8, .inl K))]) hD hS hA [0, 1, 2, 3, 4] rfl
        refine va_calli (va_runV (As := [.int (xs ((nI (3 * k)) + 1).toNatClampNeg)]) (rest := []) ⟨hx, hb, hml, hown, hts⟩ (c_X0_register l dC dI o1 q1 q2 q3 q4 cA S D R K pc sc ph rd th lm dy wt (xs ((nI (3 * k)) + 1).toNatClampNeg) H.size) (cwV 1 hts gL_law_X0_register rfl rfl rfl (by decide +kernel) ⟨Nat.le_of_ble_eq_true rfl, Nat.le_of_ble_eq_true rfl⟩) ⟨fun a U g mk q => by obtain ⟨q0, q1, qP, qK, qD⟩ := q; exact ⟨q0, q1, qP, va_K.moved (u := U) (U := U.calling g mk a) (Vm.Alike.refl U.vm) qK, qD⟩, va_recv hKc hPc (ci := 0) (q0 := 0) rfl rfl, fun U hU hW => ⟨rfl, by rw [hU], by rw [hU]; exact hPc, va_K.moved hW.alike hKc, hDc.weaken (fun _ _ _ _ => trivial)⟩⟩ rfl rfl hl.1 rfl (lv_room (Nat.le_of_ble_eq_true rfl)) dL_law_330 ⟨Nat.le_of_ble_eq_true rfl, Nat.le_of_ble_eq_true rfl⟩) hS (fun q _ h => hFc q h) hFc (fun r_2197 u_2198 t H1 locs ht hvm w_2199 hB hz1 hk1 hS => ?_)
        obtain ⟨w_2199, e_2200⟩ := w_2199
        subst e_2200
        obtain ⟨hP1, hK1, hD1⟩ := hB
        rw [ht] at hP1
        obtain ⟨hP, hD⟩ := va_join (wr := [(o2, .inr (1, [.ref p1, .ref p2, .ref p3, .ref p4, .ref p5, .ref p6, .ref p7, .ref p8, .int pc, .int ph, .int rd, .int th, .int lm, .int sc, .long tm, .long sn])), (p1, .inl (cA, 64, .inl M)), (p2, .inl (cA, 64, .inl N)), (p3, .inl (cA, 64, .inl C)), (p4, .inl (cA, 4, .inl R)), (p5, .inl (cJ, 8, .inr (.inl G))), (p6, .inl (cZ, 8, .inl E)), (p7, .inl (cZ, 8, .inl F)), (p8, .inl (cA, 8, .inl T))]) (w1 := [(o1, .inr (0, [.ref q1, .ref q2, .ref q3, .ref q4, .int pc, .int sc, .int ph, .int rd, .int th, .int lm, .int dy, .int wt])), (q1, .inl (cA, 64, .inl S)), (q2, .inl (cA, 64, .inl D)), (q3, .inl (cA, 4, .inl R)), (q4, .inl (cA, 8, .inl K))]) hP hD [0, 1, 2, 3, 4] [5, 6, 7, 8, 9, 10, 11, 12, 13] rfl rfl (by decide) (by decide) hk1 hFc hP1 hD1
        clear hPc hDc hFc hP1 hD1 hk1 hK1
        generalize H1 = H at hP hS ⊢
        have hP : va_P (dC, dI) vwCl [(o2, .inr (1, [.ref p1, .ref p2, .ref p3, .ref p4, .ref p5, .ref p6, .ref p7, .ref p8, .int pc, .int ph, .int rd, .int th, .int lm, .int sc, .long tm, .long sn])), (p1, .inl (cA, 64, .inl M)), (p2, .inl (cA, 64, .inl N)), (p3, .inl (cA, 64, .inl C)), (p4, .inl (cA, 4, .inl R)), (p5, .inl (cJ, 8, .inr (.inl G))), (p6, .inl (cZ, 8, .inl E)), (p7, .inl (cZ, 8, .inl F)), (p8, .inl (cA, 8, .inl T)), (o1, .inr (0, [.ref q1, .ref q2, .ref q3, .ref q4, .int pc, .int sc, .int ph, .int rd, .int th, .int lm, .int dy, .int wt])), (q1, .inl (cA, 64, .inl S)), (q2, .inl (cA, 64, .inl D)), (q3, .inl (cA, 4, .inl R)), (q4, .inl (cA, 8, .inl K))] H := hP
        have hD : va_D (fun q : Nat => s.heap.size ≤ q) [(o2, .inr (1, [.ref p1, .ref p2, .ref p3, .ref p4, .ref p5, .ref p6, .ref p7, .ref p8, .int pc, .int ph, .int rd, .int th, .int lm, .int sc, .long tm, .long sn])), (p1, .inl (cA, 64, .inl M)), (p2, .inl (cA, 64, .inl N)), (p3, .inl (cA, 64, .inl C)), (p4, .inl (cA, 4, .inl R)), (p5, .inl (cJ, 8, .inr (.inl G))), (p6, .inl (cZ, 8, .inl E)), (p7, .inl (cZ, 8, .inl F)), (p8, .inl (cA, 8, .inl T)), (o1, .inr (0, [.ref q1, .ref q2, .ref q3, .ref q4, .int pc, .int sc, .int ph, .int rd, .int th, .int lm, .int dy, .int wt])), (q1, .inl (cA, 64, .inl S)), (q2, .inl (cA, 64, .inl D)), (q3, .inl (cA, 4, .inl R)), (q4, .inl (cA, 8, .inl K))] := hD
        refine lv_aload_n hx hb dL_law_333 rfl (lv_at hl 3 rfl) ?_
        refine lv_aload_n hx hb dL_law_334 rfl (lv_at hl 1 rfl) ?_
        refine lv_iload_n hx hb dL_law_335 rfl (lv_at hl 0 rfl) ?_
        refine lv_iconst (v := 1) hx hb dL_law_336 (by decide) ?_
        refine lv_iadd hx hb dL_law_337 ?_
        refine va_sld hx hb hX hbl hbA hS in1 dL_law_338 ?_
        have hPc := hP.sub (ws' := [(o2, .inr (1, [.ref p1, .ref p2, .ref p3, .ref p4, .ref p5, .ref p6, .ref p7, .ref p8, .int pc, .int ph, .int rd, .int th, .int lm, .int sc, .long tm, .long sn])), (p1, .inl (cA, 64, .inl M)), (p2, .inl (cA, 64, .inl N)), (p3, .inl (cA, 64, .inl C)), (p4, .inl (cA, 4, .inl R)), (p5, .inl (cJ, 8, .inr (.inl G))), (p6, .inl (cZ, 8, .inl E)), (p7, .inl (cZ, 8, .inl F)), (p8, .inl (cA, 8, .inl T))]) [0, 1, 2, 3, 4, 5, 6, 7, 8] rfl
        have hDc := hD.sub (ws' := [(o2, .inr (1, [.ref p1, .ref p2, .ref p3, .ref p4, .ref p5, .ref p6, .ref p7, .ref p8, .int pc, .int ph, .int rd, .int th, .int lm, .int sc, .long tm, .long sn])), (p1, .inl (cA, 64, .inl M)), (p2, .inl (cA, 64, .inl N)), (p3, .inl (cA, 64, .inl C)), (p4, .inl (cA, 4, .inl R)), (p5, .inl (cJ, 8, .inr (.inl G))), (p6, .inl (cZ, 8, .inl E)), (p7, .inl (cZ, 8, .inl F)), (p8, .inl (cA, 8, .inl T))]) [0, 1, 2, 3, 4, 5, 6, 7, 8] (by decide) rfl
        have hKc := hK.sub (tys' := [(cA, .int), (cJ, .long), (cZ, .boolean)]) [0, 1, 2] rfl
        have hFc := va_free (wc := [(o2, .inr (1, [.ref p1, .ref p2, .ref p3, .ref p4, .ref p5, .ref p6, .ref p7, .ref p8, .int pc, .int ph, .int rd, .int th, .int lm, .int sc, .long tm, .long sn])), (p1, .inl (cA, 64, .inl M)), (p2, .inl (cA, 64, .inl N)), (p3, .inl (cA, 64, .inl C)), (p4, .inl (cA, 4, .inl R)), (p5, .inl (cJ, 8, .inr (.inl G))), (p6, .inl (cZ, 8, .inl E)), (p7, .inl (cZ, 8, .inl F)), (p8, .inl (cA, 8, .inl T))]) hD hS hA [0, 1, 2, 3, 4, 5, 6, 7, 8] rfl
        refine va_calli (va_runV (As := [.int (xs ((nI (3 * k)) + 1).toNatClampNeg)]) (rest := [.int r_2197]) ⟨hx, hb, hml, hown, hts⟩ (c_X1_register l dC dI o2 p1 p2 p3 p4 p5 p6 p7 p8 cA cJ cZ M N C R G E F T pc ph rd th lm sc tm sn (xs ((nI (3 * k)) + 1).toNatClampNeg) H.size) (cwV 1 hts gL_law_X1_register rfl rfl rfl (by decide +kernel) ⟨Nat.le_of_ble_eq_true rfl, Nat.le_of_ble_eq_true rfl⟩) ⟨fun a U g mk q => by obtain ⟨q0, q1, qP, qK, qD⟩ := q; exact ⟨q0, q1, qP, va_K.moved (u := U) (U := U.calling g mk a) (Vm.Alike.refl U.vm) qK, qD⟩, va_recv hKc hPc (ci := 1) (q0 := 0) rfl rfl, fun U hU hW => ⟨rfl, by rw [hU], by rw [hU]; exact hPc, va_K.moved hW.alike hKc, hDc.weaken (fun _ _ _ _ => trivial)⟩⟩ rfl rfl hl.1 rfl (lv_room (Nat.le_of_ble_eq_true rfl)) dL_law_339 ⟨Nat.le_of_ble_eq_true rfl, Nat.le_of_ble_eq_true rfl⟩) hS (fun q _ h => hFc q h) hFc (fun r_2201 u_2202 t H1 locs ht hvm w_2203 hB hz1 hk1 hS => ?_)
        obtain ⟨w_2203, e_2204⟩ := w_2203
        subst e_2204
        obtain ⟨hP1, hK1, hD1⟩ := hB
        rw [ht] at hP1
        obtain ⟨hP, hD⟩ := va_join (wr := [(o1, .inr (0, [.ref q1, .ref q2, .ref q3, .ref q4, .int pc, .int sc, .int ph, .int rd, .int th, .int lm, .int dy, .int wt])), (q1, .inl (cA, 64, .inl S)), (q2, .inl (cA, 64, .inl D)), (q3, .inl (cA, 4, .inl R)), (q4, .inl (cA, 8, .inl K))]) (w1 := [(o2, .inr (1, [.ref p1, .ref p2, .ref p3, .ref p4, .ref p5, .ref p6, .ref p7, .ref p8, .int pc, .int ph, .int rd, .int th, .int lm, .int sc, .long tm, .long sn])), (p1, .inl (cA, 64, .inl M)), (p2, .inl (cA, 64, .inl N)), (p3, .inl (cA, 64, .inl C)), (p4, .inl (cA, 4, .inl R)), (p5, .inl (cJ, 8, .inr (.inl G))), (p6, .inl (cZ, 8, .inl E)), (p7, .inl (cZ, 8, .inl F)), (p8, .inl (cA, 8, .inl T))]) hP hD [0, 1, 2, 3, 4, 5, 6, 7, 8] [9, 10, 11, 12, 13] rfl rfl (by decide) (by decide) hk1 hFc hP1 hD1
        clear hPc hDc hFc hP1 hD1 hk1 hK1
        generalize H1 = H at hP hS ⊢
        have hP : va_P (dC, dI) vwCl [(o1, .inr (0, [.ref q1, .ref q2, .ref q3, .ref q4, .int pc, .int sc, .int ph, .int rd, .int th, .int lm, .int dy, .int wt])), (q1, .inl (cA, 64, .inl S)), (q2, .inl (cA, 64, .inl D)), (q3, .inl (cA, 4, .inl R)), (q4, .inl (cA, 8, .inl K)), (o2, .inr (1, [.ref p1, .ref p2, .ref p3, .ref p4, .ref p5, .ref p6, .ref p7, .ref p8, .int pc, .int ph, .int rd, .int th, .int lm, .int sc, .long tm, .long sn])), (p1, .inl (cA, 64, .inl M)), (p2, .inl (cA, 64, .inl N)), (p3, .inl (cA, 64, .inl C)), (p4, .inl (cA, 4, .inl R)), (p5, .inl (cJ, 8, .inr (.inl G))), (p6, .inl (cZ, 8, .inl E)), (p7, .inl (cZ, 8, .inl F)), (p8, .inl (cA, 8, .inl T))] H := hP
        have hD : va_D (fun q : Nat => s.heap.size ≤ q) [(o1, .inr (0, [.ref q1, .ref q2, .ref q3, .ref q4, .int pc, .int sc, .int ph, .int rd, .int th, .int lm, .int dy, .int wt])), (q1, .inl (cA, 64, .inl S)), (q2, .inl (cA, 64, .inl D)), (q3, .inl (cA, 4, .inl R)), (q4, .inl (cA, 8, .inl K)), (o2, .inr (1, [.ref p1, .ref p2, .ref p3, .ref p4, .ref p5, .ref p6, .ref p7, .ref p8, .int pc, .int ph, .int rd, .int th, .int lm, .int sc, .long tm, .long sn])), (p1, .inl (cA, 64, .inl M)), (p2, .inl (cA, 64, .inl N)), (p3, .inl (cA, 64, .inl C)), (p4, .inl (cA, 4, .inl R)), (p5, .inl (cJ, 8, .inr (.inl G))), (p6, .inl (cZ, 8, .inl E)), (p7, .inl (cZ, 8, .inl F)), (p8, .inl (cA, 8, .inl T))] := hD
        have er := mx_register w_2199 w_2203
        refine lv_icmp_eq (tgt := 396) hx hb dL_law_342 (by decide) (fun c_2205 => ?_) (fun c_2205 => ?_)
        · refine lv_iinc (v := (nI (3 * k)) + 3) (lv' := [(3, .int ((nI (3 * k)) + 3)), (0, .ref b), (1, .ref o1), (2, .ref o2)]) hx hb dL_law_396 hl (k := 0) rfl rfl (by decide) rfl (fun ls hl => ?_)
          refine lv_goto (tgt := 18) hx hb dL_law_399 (by decide) ?_
          have hl : lv_has ls 4 [(3, .int (nI (3 * (k + 1)))), (0, .ref b), (1, .ref o1), (2, .ref o2)] := by
            rw [show nI (3 * (k + 1)) = nI (3 * k) + 3 from by rw [show (3 : Int32) = nI 3 from by decide, nI_add]; rfl]
            exact lv_sub hl [0, 1, 2, 3] rfl
          exact ih (k + 1) _ _ _ _ _ _ _ _ _ _ _ _ _ _ _ _ _ _ _ _ _ H locs ls (by omega) (by omega) (mx_I_le hI (by omega) hI.1) hP hD hS hl
        · exact absurd er c_2205
      · refine lv_tableIn (off := 315) (tgt := 347) hx hb dL_law_32 (by rw [o_2002]; decide) (by rw [o_2002]; decide) (by rw [o_2002]; rfl) (by decide) ?_
        refine lv_aload_n hx hb dL_law_347 rfl (lv_at hl 2 rfl) ?_
        have hPc := hP.sub (ws' := [(o1, .inr (0, [.ref q1, .ref q2, .ref q3, .ref q4, .int pc, .int sc, .int ph, .int rd, .int th, .int lm, .int dy, .int wt])), (q1, .inl (cA, 64, .inl S)), (q2, .inl (cA, 64, .inl D)), (q3, .inl (cA, 4, .inl R)), (q4, .inl (cA, 8, .inl K))]) [0, 1, 2, 3, 4] rfl
        have hDc := hD.sub (ws' := [(o1, .inr (0, [.ref q1, .ref q2, .ref q3, .ref q4, .int pc, .int sc, .int ph, .int rd, .int th, .int lm, .int dy, .int wt])), (q1, .inl (cA, 64, .inl S)), (q2, .inl (cA, 64, .inl D)), (q3, .inl (cA, 4, .inl R)), (q4, .inl (cA, 8, .inl K))]) [0, 1, 2, 3, 4] (by decide) rfl
        have hKc := hK.sub (tys' := [(cA, .int)]) [0] rfl
        have hFc := va_free (wc := [(o1, .inr (0, [.ref q1, .ref q2, .ref q3, .ref q4, .int pc, .int sc, .int ph, .int rd, .int th, .int lm, .int dy, .int wt])), (q1, .inl (cA, 64, .inl S)), (q2, .inl (cA, 64, .inl D)), (q3, .inl (cA, 4, .inl R)), (q4, .inl (cA, 8, .inl K))]) hD hS hA [0, 1, 2, 3, 4] rfl
        refine va_calli (va_runV (As := []) (rest := []) ⟨hx, hb, hml, hown, hts⟩ (c_X0_pc l dC dI o1 q1 q2 q3 q4 cA S D R K pc sc ph rd th lm dy wt H.size) (cwV 0 hts gL_law_X0_pc rfl rfl rfl (by decide +kernel) ⟨Nat.le_of_ble_eq_true rfl, Nat.le_of_ble_eq_true rfl⟩) ⟨fun a U g mk q => by obtain ⟨q0, q1, qP, qK, qD⟩ := q; exact ⟨q0, q1, qP, va_K.moved (u := U) (U := U.calling g mk a) (Vm.Alike.refl U.vm) qK, qD⟩, va_recv hKc hPc (ci := 0) (q0 := 0) rfl rfl, fun U hU hW => ⟨rfl, by rw [hU], by rw [hU]; exact hPc, va_K.moved hW.alike hKc, hDc.weaken (fun _ _ _ _ => trivial)⟩⟩ rfl rfl hl.1 rfl (lv_room (Nat.le_of_ble_eq_true rfl)) dL_law_348 ⟨Nat.le_of_ble_eq_true rfl, Nat.le_of_ble_eq_true rfl⟩) hS (fun q _ h => hFc q h) hFc (fun r_2206 u_2207 t H1 locs ht hvm w_2208 hB hz1 hk1 hS => ?_)
        obtain ⟨w_2208, e_2209⟩ := w_2208
        subst e_2209
        obtain ⟨hP1, hK1, hD1⟩ := hB
        rw [ht] at hP1
        obtain ⟨hP, hD⟩ := va_join (wr := [(o2, .inr (1, [.ref p1, .ref p2, .ref p3, .ref p4, .ref p5, .ref p6, .ref p7, .ref p8, .int pc, .int ph, .int rd, .int th, .int lm, .int sc, .long tm, .long sn])), (p1, .inl (cA, 64, .inl M)), (p2, .inl (cA, 64, .inl N)), (p3, .inl (cA, 64, .inl C)), (p4, .inl (cA, 4, .inl R)), (p5, .inl (cJ, 8, .inr (.inl G))), (p6, .inl (cZ, 8, .inl E)), (p7, .inl (cZ, 8, .inl F)), (p8, .inl (cA, 8, .inl T))]) (w1 := [(o1, .inr (0, [.ref q1, .ref q2, .ref q3, .ref q4, .int pc, .int sc, .int ph, .int rd, .int th, .int lm, .int dy, .int wt])), (q1, .inl (cA, 64, .inl S)), (q2, .inl (cA, 64, .inl D)), (q3, .inl (cA, 4, .inl R)), (q4, .inl (cA, 8, .inl K))]) hP hD [0, 1, 2, 3, 4] [5, 6, 7, 8, 9, 10, 11, 12, 13] rfl rfl (by decide) (by decide) hk1 hFc hP1 hD1
        clear hPc hDc hFc hP1 hD1 hk1 hK1
        generalize H1 = H at hP hS ⊢
        have hP : va_P (dC, dI) vwCl [(o2, .inr (1, [.ref p1, .ref p2, .ref p3, .ref p4, .ref p5, .ref p6, .ref p7, .ref p8, .int pc, .int ph, .int rd, .int th, .int lm, .int sc, .long tm, .long sn])), (p1, .inl (cA, 64, .inl M)), (p2, .inl (cA, 64, .inl N)), (p3, .inl (cA, 64, .inl C)), (p4, .inl (cA, 4, .inl R)), (p5, .inl (cJ, 8, .inr (.inl G))), (p6, .inl (cZ, 8, .inl E)), (p7, .inl (cZ, 8, .inl F)), (p8, .inl (cA, 8, .inl T)), (o1, .inr (0, [.ref q1, .ref q2, .ref q3, .ref q4, .int pc, .int sc, .int ph, .int rd, .int th, .int lm, .int dy, .int wt])), (q1, .inl (cA, 64, .inl S)), (q2, .inl (cA, 64, .inl D)), (q3, .inl (cA, 4, .inl R)), (q4, .inl (cA, 8, .inl K))] H := hP
        have hD : va_D (fun q : Nat => s.heap.size ≤ q) [(o2, .inr (1, [.ref p1, .ref p2, .ref p3, .ref p4, .ref p5, .ref p6, .ref p7, .ref p8, .int pc, .int ph, .int rd, .int th, .int lm, .int sc, .long tm, .long sn])), (p1, .inl (cA, 64, .inl M)), (p2, .inl (cA, 64, .inl N)), (p3, .inl (cA, 64, .inl C)), (p4, .inl (cA, 4, .inl R)), (p5, .inl (cJ, 8, .inr (.inl G))), (p6, .inl (cZ, 8, .inl E)), (p7, .inl (cZ, 8, .inl F)), (p8, .inl (cA, 8, .inl T)), (o1, .inr (0, [.ref q1, .ref q2, .ref q3, .ref q4, .int pc, .int sc, .int ph, .int rd, .int th, .int lm, .int dy, .int wt])), (q1, .inl (cA, 64, .inl S)), (q2, .inl (cA, 64, .inl D)), (q3, .inl (cA, 4, .inl R)), (q4, .inl (cA, 8, .inl K))] := hD
        refine lv_aload_n hx hb dL_law_351 rfl (lv_at hl 3 rfl) ?_
        have hPc := hP.sub (ws' := [(o2, .inr (1, [.ref p1, .ref p2, .ref p3, .ref p4, .ref p5, .ref p6, .ref p7, .ref p8, .int pc, .int ph, .int rd, .int th, .int lm, .int sc, .long tm, .long sn])), (p1, .inl (cA, 64, .inl M)), (p2, .inl (cA, 64, .inl N)), (p3, .inl (cA, 64, .inl C)), (p4, .inl (cA, 4, .inl R)), (p5, .inl (cJ, 8, .inr (.inl G))), (p6, .inl (cZ, 8, .inl E)), (p7, .inl (cZ, 8, .inl F)), (p8, .inl (cA, 8, .inl T))]) [0, 1, 2, 3, 4, 5, 6, 7, 8] rfl
        have hDc := hD.sub (ws' := [(o2, .inr (1, [.ref p1, .ref p2, .ref p3, .ref p4, .ref p5, .ref p6, .ref p7, .ref p8, .int pc, .int ph, .int rd, .int th, .int lm, .int sc, .long tm, .long sn])), (p1, .inl (cA, 64, .inl M)), (p2, .inl (cA, 64, .inl N)), (p3, .inl (cA, 64, .inl C)), (p4, .inl (cA, 4, .inl R)), (p5, .inl (cJ, 8, .inr (.inl G))), (p6, .inl (cZ, 8, .inl E)), (p7, .inl (cZ, 8, .inl F)), (p8, .inl (cA, 8, .inl T))]) [0, 1, 2, 3, 4, 5, 6, 7, 8] (by decide) rfl
        have hKc := hK.sub (tys' := [(cA, .int), (cJ, .long), (cZ, .boolean)]) [0, 1, 2] rfl
        have hFc := va_free (wc := [(o2, .inr (1, [.ref p1, .ref p2, .ref p3, .ref p4, .ref p5, .ref p6, .ref p7, .ref p8, .int pc, .int ph, .int rd, .int th, .int lm, .int sc, .long tm, .long sn])), (p1, .inl (cA, 64, .inl M)), (p2, .inl (cA, 64, .inl N)), (p3, .inl (cA, 64, .inl C)), (p4, .inl (cA, 4, .inl R)), (p5, .inl (cJ, 8, .inr (.inl G))), (p6, .inl (cZ, 8, .inl E)), (p7, .inl (cZ, 8, .inl F)), (p8, .inl (cA, 8, .inl T))]) hD hS hA [0, 1, 2, 3, 4, 5, 6, 7, 8] rfl
        refine va_calli (va_runV (As := []) (rest := [.int r_2206]) ⟨hx, hb, hml, hown, hts⟩ (c_X1_pc l dC dI o2 p1 p2 p3 p4 p5 p6 p7 p8 cA cJ cZ M N C R G E F T pc ph rd th lm sc tm sn H.size) (cwV 0 hts gL_law_X1_pc rfl rfl rfl (by decide +kernel) ⟨Nat.le_of_ble_eq_true rfl, Nat.le_of_ble_eq_true rfl⟩) ⟨fun a U g mk q => by obtain ⟨q0, q1, qP, qK, qD⟩ := q; exact ⟨q0, q1, qP, va_K.moved (u := U) (U := U.calling g mk a) (Vm.Alike.refl U.vm) qK, qD⟩, va_recv hKc hPc (ci := 1) (q0 := 0) rfl rfl, fun U hU hW => ⟨rfl, by rw [hU], by rw [hU]; exact hPc, va_K.moved hW.alike hKc, hDc.weaken (fun _ _ _ _ => trivial)⟩⟩ rfl rfl hl.1 rfl (lv_room (Nat.le_of_ble_eq_true rfl)) dL_law_352 ⟨Nat.le_of_ble_eq_true rfl, Nat.le_of_ble_eq_true rfl⟩) hS (fun q _ h => hFc q h) hFc (fun r_2210 u_2211 t H1 locs ht hvm w_2212 hB hz1 hk1 hS => ?_)
        obtain ⟨w_2212, e_2213⟩ := w_2212
        subst e_2213
        obtain ⟨hP1, hK1, hD1⟩ := hB
        rw [ht] at hP1
        obtain ⟨hP, hD⟩ := va_join (wr := [(o1, .inr (0, [.ref q1, .ref q2, .ref q3, .ref q4, .int pc, .int sc, .int ph, .int rd, .int th, .int lm, .int dy, .int wt])), (q1, .inl (cA, 64, .inl S)), (q2, .inl (cA, 64, .inl D)), (q3, .inl (cA, 4, .inl R)), (q4, .inl (cA, 8, .inl K))]) (w1 := [(o2, .inr (1, [.ref p1, .ref p2, .ref p3, .ref p4, .ref p5, .ref p6, .ref p7, .ref p8, .int pc, .int ph, .int rd, .int th, .int lm, .int sc, .long tm, .long sn])), (p1, .inl (cA, 64, .inl M)), (p2, .inl (cA, 64, .inl N)), (p3, .inl (cA, 64, .inl C)), (p4, .inl (cA, 4, .inl R)), (p5, .inl (cJ, 8, .inr (.inl G))), (p6, .inl (cZ, 8, .inl E)), (p7, .inl (cZ, 8, .inl F)), (p8, .inl (cA, 8, .inl T))]) hP hD [0, 1, 2, 3, 4, 5, 6, 7, 8] [9, 10, 11, 12, 13] rfl rfl (by decide) (by decide) hk1 hFc hP1 hD1
        clear hPc hDc hFc hP1 hD1 hk1 hK1
        generalize H1 = H at hP hS ⊢
        have hP : va_P (dC, dI) vwCl [(o1, .inr (0, [.ref q1, .ref q2, .ref q3, .ref q4, .int pc, .int sc, .int ph, .int rd, .int th, .int lm, .int dy, .int wt])), (q1, .inl (cA, 64, .inl S)), (q2, .inl (cA, 64, .inl D)), (q3, .inl (cA, 4, .inl R)), (q4, .inl (cA, 8, .inl K)), (o2, .inr (1, [.ref p1, .ref p2, .ref p3, .ref p4, .ref p5, .ref p6, .ref p7, .ref p8, .int pc, .int ph, .int rd, .int th, .int lm, .int sc, .long tm, .long sn])), (p1, .inl (cA, 64, .inl M)), (p2, .inl (cA, 64, .inl N)), (p3, .inl (cA, 64, .inl C)), (p4, .inl (cA, 4, .inl R)), (p5, .inl (cJ, 8, .inr (.inl G))), (p6, .inl (cZ, 8, .inl E)), (p7, .inl (cZ, 8, .inl F)), (p8, .inl (cA, 8, .inl T))] H := hP
        have hD : va_D (fun q : Nat => s.heap.size ≤ q) [(o1, .inr (0, [.ref q1, .ref q2, .ref q3, .ref q4, .int pc, .int sc, .int ph, .int rd, .int th, .int lm, .int dy, .int wt])), (q1, .inl (cA, 64, .inl S)), (q2, .inl (cA, 64, .inl D)), (q3, .inl (cA, 4, .inl R)), (q4, .inl (cA, 8, .inl K)), (o2, .inr (1, [.ref p1, .ref p2, .ref p3, .ref p4, .ref p5, .ref p6, .ref p7, .ref p8, .int pc, .int ph, .int rd, .int th, .int lm, .int sc, .long tm, .long sn])), (p1, .inl (cA, 64, .inl M)), (p2, .inl (cA, 64, .inl N)), (p3, .inl (cA, 64, .inl C)), (p4, .inl (cA, 4, .inl R)), (p5, .inl (cJ, 8, .inr (.inl G))), (p6, .inl (cZ, 8, .inl E)), (p7, .inl (cZ, 8, .inl F)), (p8, .inl (cA, 8, .inl T))] := hD
        have er := w_2208.trans w_2212.symm
        refine lv_icmp_eq (tgt := 396) hx hb dL_law_355 (by decide) (fun c_2214 => ?_) (fun c_2214 => ?_)
        · refine lv_iinc (v := (nI (3 * k)) + 3) (lv' := [(3, .int ((nI (3 * k)) + 3)), (0, .ref b), (1, .ref o1), (2, .ref o2)]) hx hb dL_law_396 hl (k := 0) rfl rfl (by decide) rfl (fun ls hl => ?_)
          refine lv_goto (tgt := 18) hx hb dL_law_399 (by decide) ?_
          have hl : lv_has ls 4 [(3, .int (nI (3 * (k + 1)))), (0, .ref b), (1, .ref o1), (2, .ref o2)] := by
            rw [show nI (3 * (k + 1)) = nI (3 * k) + 3 from by rw [show (3 : Int32) = nI 3 from by decide, nI_add]; rfl]
            exact lv_sub hl [0, 1, 2, 3] rfl
          exact ih (k + 1) _ _ _ _ _ _ _ _ _ _ _ _ _ _ _ _ _ _ _ _ _ H locs ls (by omega) (by omega) (mx_I_le hI (by omega) hI.1) hP hD hS hl
        · exact absurd er c_2214
      · refine lv_tableIn (off := 328) (tgt := 360) hx hb dL_law_32 (by rw [o_2002]; decide) (by rw [o_2002]; decide) (by rw [o_2002]; rfl) (by decide) ?_
        refine lv_aload_n hx hb dL_law_360 rfl (lv_at hl 2 rfl) ?_
        have hPc := hP.sub (ws' := [(o1, .inr (0, [.ref q1, .ref q2, .ref q3, .ref q4, .int pc, .int sc, .int ph, .int rd, .int th, .int lm, .int dy, .int wt])), (q1, .inl (cA, 64, .inl S)), (q2, .inl (cA, 64, .inl D)), (q3, .inl (cA, 4, .inl R)), (q4, .inl (cA, 8, .inl K))]) [0, 1, 2, 3, 4] rfl
        have hDc := hD.sub (ws' := [(o1, .inr (0, [.ref q1, .ref q2, .ref q3, .ref q4, .int pc, .int sc, .int ph, .int rd, .int th, .int lm, .int dy, .int wt])), (q1, .inl (cA, 64, .inl S)), (q2, .inl (cA, 64, .inl D)), (q3, .inl (cA, 4, .inl R)), (q4, .inl (cA, 8, .inl K))]) [0, 1, 2, 3, 4] (by decide) rfl
        have hKc := hK.sub (tys' := [(cA, .int)]) [0] rfl
        have hFc := va_free (wc := [(o1, .inr (0, [.ref q1, .ref q2, .ref q3, .ref q4, .int pc, .int sc, .int ph, .int rd, .int th, .int lm, .int dy, .int wt])), (q1, .inl (cA, 64, .inl S)), (q2, .inl (cA, 64, .inl D)), (q3, .inl (cA, 4, .inl R)), (q4, .inl (cA, 8, .inl K))]) hD hS hA [0, 1, 2, 3, 4] rfl
        refine va_calli (va_runV (As := []) (rest := []) ⟨hx, hb, hml, hown, hts⟩ (c_X0_shows l dC dI o1 q1 q2 q3 q4 cA S D R K pc sc ph rd th lm dy wt H.size) (cwV 0 hts gL_law_X0_shows rfl rfl rfl (by decide +kernel) ⟨Nat.le_of_ble_eq_true rfl, Nat.le_of_ble_eq_true rfl⟩) ⟨fun a U g mk q => by obtain ⟨q0, q1, qP, qK, qD⟩ := q; exact ⟨q0, q1, qP, va_K.moved (u := U) (U := U.calling g mk a) (Vm.Alike.refl U.vm) qK, qD⟩, va_recv hKc hPc (ci := 0) (q0 := 0) rfl rfl, fun U hU hW => ⟨rfl, by rw [hU], by rw [hU]; exact hPc, va_K.moved hW.alike hKc, hDc.weaken (fun _ _ _ _ => trivial)⟩⟩ rfl rfl hl.1 rfl (lv_room (Nat.le_of_ble_eq_true rfl)) dL_law_361 ⟨Nat.le_of_ble_eq_true rfl, Nat.le_of_ble_eq_true rfl⟩) hS (fun q _ h => hFc q h) hFc (fun r_2215 u_2216 t H1 locs ht hvm w_2217 hB hz1 hk1 hS => ?_)
        obtain ⟨w_2217, e_2218⟩ := w_2217
        subst e_2218
        obtain ⟨hP1, hK1, hD1⟩ := hB
        rw [ht] at hP1
        obtain ⟨hP, hD⟩ := va_join (wr := [(o2, .inr (1, [.ref p1, .ref p2, .ref p3, .ref p4, .ref p5, .ref p6, .ref p7, .ref p8, .int pc, .int ph, .int rd, .int th, .int lm, .int sc, .long tm, .long sn])), (p1, .inl (cA, 64, .inl M)), (p2, .inl (cA, 64, .inl N)), (p3, .inl (cA, 64, .inl C)), (p4, .inl (cA, 4, .inl R)), (p5, .inl (cJ, 8, .inr (.inl G))), (p6, .inl (cZ, 8, .inl E)), (p7, .inl (cZ, 8, .inl F)), (p8, .inl (cA, 8, .inl T))]) (w1 := [(o1, .inr (0, [.ref q1, .ref q2, .ref q3, .ref q4, .int pc, .int sc, .int ph, .int rd, .int th, .int lm, .int dy, .int wt])), (q1, .inl (cA, 64, .inl S)), (q2, .inl (cA, 64, .inl D)), (q3, .inl (cA, 4, .inl R)), (q4, .inl (cA, 8, .inl K))]) hP hD [0, 1, 2, 3, 4] [5, 6, 7, 8, 9, 10, 11, 12, 13] rfl rfl (by decide) (by decide) hk1 hFc hP1 hD1
        clear hPc hDc hFc hP1 hD1 hk1 hK1
        generalize H1 = H at hP hS ⊢
        have hP : va_P (dC, dI) vwCl [(o2, .inr (1, [.ref p1, .ref p2, .ref p3, .ref p4, .ref p5, .ref p6, .ref p7, .ref p8, .int pc, .int ph, .int rd, .int th, .int lm, .int sc, .long tm, .long sn])), (p1, .inl (cA, 64, .inl M)), (p2, .inl (cA, 64, .inl N)), (p3, .inl (cA, 64, .inl C)), (p4, .inl (cA, 4, .inl R)), (p5, .inl (cJ, 8, .inr (.inl G))), (p6, .inl (cZ, 8, .inl E)), (p7, .inl (cZ, 8, .inl F)), (p8, .inl (cA, 8, .inl T)), (o1, .inr (0, [.ref q1, .ref q2, .ref q3, .ref q4, .int pc, .int sc, .int ph, .int rd, .int th, .int lm, .int dy, .int wt])), (q1, .inl (cA, 64, .inl S)), (q2, .inl (cA, 64, .inl D)), (q3, .inl (cA, 4, .inl R)), (q4, .inl (cA, 8, .inl K))] H := hP
        have hD : va_D (fun q : Nat => s.heap.size ≤ q) [(o2, .inr (1, [.ref p1, .ref p2, .ref p3, .ref p4, .ref p5, .ref p6, .ref p7, .ref p8, .int pc, .int ph, .int rd, .int th, .int lm, .int sc, .long tm, .long sn])), (p1, .inl (cA, 64, .inl M)), (p2, .inl (cA, 64, .inl N)), (p3, .inl (cA, 64, .inl C)), (p4, .inl (cA, 4, .inl R)), (p5, .inl (cJ, 8, .inr (.inl G))), (p6, .inl (cZ, 8, .inl E)), (p7, .inl (cZ, 8, .inl F)), (p8, .inl (cA, 8, .inl T)), (o1, .inr (0, [.ref q1, .ref q2, .ref q3, .ref q4, .int pc, .int sc, .int ph, .int rd, .int th, .int lm, .int dy, .int wt])), (q1, .inl (cA, 64, .inl S)), (q2, .inl (cA, 64, .inl D)), (q3, .inl (cA, 4, .inl R)), (q4, .inl (cA, 8, .inl K))] := hD
        refine lv_aload_n hx hb dL_law_364 rfl (lv_at hl 3 rfl) ?_
        have hPc := hP.sub (ws' := [(o2, .inr (1, [.ref p1, .ref p2, .ref p3, .ref p4, .ref p5, .ref p6, .ref p7, .ref p8, .int pc, .int ph, .int rd, .int th, .int lm, .int sc, .long tm, .long sn])), (p1, .inl (cA, 64, .inl M)), (p2, .inl (cA, 64, .inl N)), (p3, .inl (cA, 64, .inl C)), (p4, .inl (cA, 4, .inl R)), (p5, .inl (cJ, 8, .inr (.inl G))), (p6, .inl (cZ, 8, .inl E)), (p7, .inl (cZ, 8, .inl F)), (p8, .inl (cA, 8, .inl T))]) [0, 1, 2, 3, 4, 5, 6, 7, 8] rfl
        have hDc := hD.sub (ws' := [(o2, .inr (1, [.ref p1, .ref p2, .ref p3, .ref p4, .ref p5, .ref p6, .ref p7, .ref p8, .int pc, .int ph, .int rd, .int th, .int lm, .int sc, .long tm, .long sn])), (p1, .inl (cA, 64, .inl M)), (p2, .inl (cA, 64, .inl N)), (p3, .inl (cA, 64, .inl C)), (p4, .inl (cA, 4, .inl R)), (p5, .inl (cJ, 8, .inr (.inl G))), (p6, .inl (cZ, 8, .inl E)), (p7, .inl (cZ, 8, .inl F)), (p8, .inl (cA, 8, .inl T))]) [0, 1, 2, 3, 4, 5, 6, 7, 8] (by decide) rfl
        have hKc := hK.sub (tys' := [(cA, .int), (cJ, .long), (cZ, .boolean)]) [0, 1, 2] rfl
        have hFc := va_free (wc := [(o2, .inr (1, [.ref p1, .ref p2, .ref p3, .ref p4, .ref p5, .ref p6, .ref p7, .ref p8, .int pc, .int ph, .int rd, .int th, .int lm, .int sc, .long tm, .long sn])), (p1, .inl (cA, 64, .inl M)), (p2, .inl (cA, 64, .inl N)), (p3, .inl (cA, 64, .inl C)), (p4, .inl (cA, 4, .inl R)), (p5, .inl (cJ, 8, .inr (.inl G))), (p6, .inl (cZ, 8, .inl E)), (p7, .inl (cZ, 8, .inl F)), (p8, .inl (cA, 8, .inl T))]) hD hS hA [0, 1, 2, 3, 4, 5, 6, 7, 8] rfl
        refine va_calli (va_runV (As := []) (rest := [.int r_2215]) ⟨hx, hb, hml, hown, hts⟩ (c_X1_shows l dC dI o2 p1 p2 p3 p4 p5 p6 p7 p8 cA cJ cZ M N C R G E F T pc ph rd th lm sc tm sn H.size) (cwV 0 hts gL_law_X1_shows rfl rfl rfl (by decide +kernel) ⟨Nat.le_of_ble_eq_true rfl, Nat.le_of_ble_eq_true rfl⟩) ⟨fun a U g mk q => by obtain ⟨q0, q1, qP, qK, qD⟩ := q; exact ⟨q0, q1, qP, va_K.moved (u := U) (U := U.calling g mk a) (Vm.Alike.refl U.vm) qK, qD⟩, va_recv hKc hPc (ci := 1) (q0 := 0) rfl rfl, fun U hU hW => ⟨rfl, by rw [hU], by rw [hU]; exact hPc, va_K.moved hW.alike hKc, hDc.weaken (fun _ _ _ _ => trivial)⟩⟩ rfl rfl hl.1 rfl (lv_room (Nat.le_of_ble_eq_true rfl)) dL_law_365 ⟨Nat.le_of_ble_eq_true rfl, Nat.le_of_ble_eq_true rfl⟩) hS (fun q _ h => hFc q h) hFc (fun r_2219 u_2220 t H1 locs ht hvm w_2221 hB hz1 hk1 hS => ?_)
        obtain ⟨w_2221, e_2222⟩ := w_2221
        subst e_2222
        obtain ⟨hP1, hK1, hD1⟩ := hB
        rw [ht] at hP1
        obtain ⟨hP, hD⟩ := va_join (wr := [(o1, .inr (0, [.ref q1, .ref q2, .ref q3, .ref q4, .int pc, .int sc, .int ph, .int rd, .int th, .int lm, .int dy, .int wt])), (q1, .inl (cA, 64, .inl S)), (q2, .inl (cA, 64, .inl D)), (q3, .inl (cA, 4, .inl R)), (q4, .inl (cA, 8, .inl K))]) (w1 := [(o2, .inr (1, [.ref p1, .ref p2, .ref p3, .ref p4, .ref p5, .ref p6, .ref p7, .ref p8, .int pc, .int ph, .int rd, .int th, .int lm, .int sc, .long tm, .long sn])), (p1, .inl (cA, 64, .inl M)), (p2, .inl (cA, 64, .inl N)), (p3, .inl (cA, 64, .inl C)), (p4, .inl (cA, 4, .inl R)), (p5, .inl (cJ, 8, .inr (.inl G))), (p6, .inl (cZ, 8, .inl E)), (p7, .inl (cZ, 8, .inl F)), (p8, .inl (cA, 8, .inl T))]) hP hD [0, 1, 2, 3, 4, 5, 6, 7, 8] [9, 10, 11, 12, 13] rfl rfl (by decide) (by decide) hk1 hFc hP1 hD1
        clear hPc hDc hFc hP1 hD1 hk1 hK1
        generalize H1 = H at hP hS ⊢
        have hP : va_P (dC, dI) vwCl [(o1, .inr (0, [.ref q1, .ref q2, .ref q3, .ref q4, .int pc, .int sc, .int ph, .int rd, .int th, .int lm, .int dy, .int wt])), (q1, .inl (cA, 64, .inl S)), (q2, .inl (cA, 64, .inl D)), (q3, .inl (cA, 4, .inl R)), (q4, .inl (cA, 8, .inl K)), (o2, .inr (1, [.ref p1, .ref p2, .ref p3, .ref p4, .ref p5, .ref p6, .ref p7, .ref p8, .int pc, .int ph, .int rd, .int th, .int lm, .int sc, .long tm, .long sn])), (p1, .inl (cA, 64, .inl M)), (p2, .inl (cA, 64, .inl N)), (p3, .inl (cA, 64, .inl C)), (p4, .inl (cA, 4, .inl R)), (p5, .inl (cJ, 8, .inr (.inl G))), (p6, .inl (cZ, 8, .inl E)), (p7, .inl (cZ, 8, .inl F)), (p8, .inl (cA, 8, .inl T))] H := hP
        have hD : va_D (fun q : Nat => s.heap.size ≤ q) [(o1, .inr (0, [.ref q1, .ref q2, .ref q3, .ref q4, .int pc, .int sc, .int ph, .int rd, .int th, .int lm, .int dy, .int wt])), (q1, .inl (cA, 64, .inl S)), (q2, .inl (cA, 64, .inl D)), (q3, .inl (cA, 4, .inl R)), (q4, .inl (cA, 8, .inl K)), (o2, .inr (1, [.ref p1, .ref p2, .ref p3, .ref p4, .ref p5, .ref p6, .ref p7, .ref p8, .int pc, .int ph, .int rd, .int th, .int lm, .int sc, .long tm, .long sn])), (p1, .inl (cA, 64, .inl M)), (p2, .inl (cA, 64, .inl N)), (p3, .inl (cA, 64, .inl C)), (p4, .inl (cA, 4, .inl R)), (p5, .inl (cJ, 8, .inr (.inl G))), (p6, .inl (cZ, 8, .inl E)), (p7, .inl (cZ, 8, .inl F)), (p8, .inl (cA, 8, .inl T))] := hD
        have er := w_2217.trans w_2221.symm
        refine lv_icmp_eq (tgt := 396) hx hb dL_law_368 (by decide) (fun c_2223 => ?_) (fun c_2223 => ?_)
        · refine lv_iinc (v := (nI (3 * k)) + 3) (lv' := [(3, .int ((nI (3 * k)) + 3)), (0, .ref b), (1, .ref o1), (2, .ref o2)]) hx hb dL_law_396 hl (k := 0) rfl rfl (by decide) rfl (fun ls hl => ?_)
          refine lv_goto (tgt := 18) hx hb dL_law_399 (by decide) ?_
          have hl : lv_has ls 4 [(3, .int (nI (3 * (k + 1)))), (0, .ref b), (1, .ref o1), (2, .ref o2)] := by
            rw [show nI (3 * (k + 1)) = nI (3 * k) + 3 from by rw [show (3 : Int32) = nI 3 from by decide, nI_add]; rfl]
            exact lv_sub hl [0, 1, 2, 3] rfl
          exact ih (k + 1) _ _ _ _ _ _ _ _ _ _ _ _ _ _ _ _ _ _ _ _ _ H locs ls (by omega) (by omega) (mx_I_le hI (by omega) hI.1) hP hD hS hl
        · exact absurd er c_2223
      · refine lv_tableIn (off := 341) (tgt := 373) hx hb dL_law_32 (by rw [o_2002]; decide) (by rw [o_2002]; decide) (by rw [o_2002]; rfl) (by decide) ?_
        refine lv_aload_n hx hb dL_law_373 rfl (lv_at hl 2 rfl) ?_
        refine lv_aload_n hx hb dL_law_374 rfl (lv_at hl 1 rfl) ?_
        refine lv_iload_n hx hb dL_law_375 rfl (lv_at hl 0 rfl) ?_
        refine lv_iconst (v := 1) hx hb dL_law_376 (by decide) ?_
        refine lv_iadd hx hb dL_law_377 ?_
        refine va_sld hx hb hX hbl hbA hS in1 dL_law_378 ?_
        have hPc := hP.sub (ws' := [(o1, .inr (0, [.ref q1, .ref q2, .ref q3, .ref q4, .int pc, .int sc, .int ph, .int rd, .int th, .int lm, .int dy, .int wt])), (q1, .inl (cA, 64, .inl S)), (q2, .inl (cA, 64, .inl D)), (q3, .inl (cA, 4, .inl R)), (q4, .inl (cA, 8, .inl K))]) [0, 1, 2, 3, 4] rfl
        have hDc := hD.sub (ws' := [(o1, .inr (0, [.ref q1, .ref q2, .ref q3, .ref q4, .int pc, .int sc, .int ph, .int rd, .int th, .int lm, .int dy, .int wt])), (q1, .inl (cA, 64, .inl S)), (q2, .inl (cA, 64, .inl D)), (q3, .inl (cA, 4, .inl R)), (q4, .inl (cA, 8, .inl K))]) [0, 1, 2, 3, 4] (by decide) rfl
        have hKc := hK.sub (tys' := [(cA, .int)]) [0] rfl
        have hFc := va_free (wc := [(o1, .inr (0, [.ref q1, .ref q2, .ref q3, .ref q4, .int pc, .int sc, .int ph, .int rd, .int th, .int lm, .int dy, .int wt])), (q1, .inl (cA, 64, .inl S)), (q2, .inl (cA, 64, .inl D)), (q3, .inl (cA, 4, .inl R)), (q4, .inl (cA, 8, .inl K))]) hD hS hA [0, 1, 2, 3, 4] rfl
        refine va_calli (va_runV (As := [.int (xs ((nI (3 * k)) + 1).toNatClampNeg)]) (rest := []) ⟨hx, hb, hml, hown, hts⟩ (c_X0_shown l dC dI o1 q1 q2 q3 q4 cA S D R K pc sc ph rd th lm dy wt (xs ((nI (3 * k)) + 1).toNatClampNeg) H.size) (cwV 1 hts gL_law_X0_shown rfl rfl rfl (by decide +kernel) ⟨Nat.le_of_ble_eq_true rfl, Nat.le_of_ble_eq_true rfl⟩) ⟨fun a U g mk q => by obtain ⟨q0, q1, qP, qK, qD⟩ := q; exact ⟨q0, q1, qP, va_K.moved (u := U) (U := U.calling g mk a) (Vm.Alike.refl U.vm) qK, qD⟩, va_recv hKc hPc (ci := 0) (q0 := 0) rfl rfl, fun U hU hW => ⟨rfl, by rw [hU], by rw [hU]; exact hPc, va_K.moved hW.alike hKc, hDc.weaken (fun _ _ _ _ => trivial)⟩⟩ rfl rfl hl.1 rfl (lv_room (Nat.le_of_ble_eq_true rfl)) dL_law_379 ⟨Nat.le_of_ble_eq_true rfl, Nat.le_of_ble_eq_true rfl⟩) hS (fun q _ h => hFc q h) hFc (fun r_2224 u_2225 t H1 locs ht hvm w_2226 hB hz1 hk1 hS => ?_)
        obtain ⟨w_2226, e_2227⟩ := w_2226
        subst e_2227
        obtain ⟨hP1, hK1, hD1⟩ := hB
        rw [ht] at hP1
        obtain ⟨hP, hD⟩ := va_join (wr := [(o2, .inr (1, [.ref p1, .ref p2, .ref p3, .ref p4, .ref p5, .ref p6, .ref p7, .ref p8, .int pc, .int ph, .int rd, .int th, .int lm, .int sc, .long tm, .long sn])), (p1, .inl (cA, 64, .inl M)), (p2, .inl (cA, 64, .inl N)), (p3, .inl (cA, 64, .inl C)), (p4, .inl (cA, 4, .inl R)), (p5, .inl (cJ, 8, .inr (.inl G))), (p6, .inl (cZ, 8, .inl E)), (p7, .inl (cZ, 8, .inl F)), (p8, .inl (cA, 8, .inl T))]) (w1 := [(o1, .inr (0, [.ref q1, .ref q2, .ref q3, .ref q4, .int pc, .int sc, .int ph, .int rd, .int th, .int lm, .int dy, .int wt])), (q1, .inl (cA, 64, .inl S)), (q2, .inl (cA, 64, .inl D)), (q3, .inl (cA, 4, .inl R)), (q4, .inl (cA, 8, .inl K))]) hP hD [0, 1, 2, 3, 4] [5, 6, 7, 8, 9, 10, 11, 12, 13] rfl rfl (by decide) (by decide) hk1 hFc hP1 hD1
        clear hPc hDc hFc hP1 hD1 hk1 hK1
        generalize H1 = H at hP hS ⊢
        have hP : va_P (dC, dI) vwCl [(o2, .inr (1, [.ref p1, .ref p2, .ref p3, .ref p4, .ref p5, .ref p6, .ref p7, .ref p8, .int pc, .int ph, .int rd, .int th, .int lm, .int sc, .long tm, .long sn])), (p1, .inl (cA, 64, .inl M)), (p2, .inl (cA, 64, .inl N)), (p3, .inl (cA, 64, .inl C)), (p4, .inl (cA, 4, .inl R)), (p5, .inl (cJ, 8, .inr (.inl G))), (p6, .inl (cZ, 8, .inl E)), (p7, .inl (cZ, 8, .inl F)), (p8, .inl (cA, 8, .inl T)), (o1, .inr (0, [.ref q1, .ref q2, .ref q3, .ref q4, .int pc, .int sc, .int ph, .int rd, .int th, .int lm, .int dy, .int wt])), (q1, .inl (cA, 64, .inl S)), (q2, .inl (cA, 64, .inl D)), (q3, .inl (cA, 4, .inl R)), (q4, .inl (cA, 8, .inl K))] H := hP
        have hD : va_D (fun q : Nat => s.heap.size ≤ q) [(o2, .inr (1, [.ref p1, .ref p2, .ref p3, .ref p4, .ref p5, .ref p6, .ref p7, .ref p8, .int pc, .int ph, .int rd, .int th, .int lm, .int sc, .long tm, .long sn])), (p1, .inl (cA, 64, .inl M)), (p2, .inl (cA, 64, .inl N)), (p3, .inl (cA, 64, .inl C)), (p4, .inl (cA, 4, .inl R)), (p5, .inl (cJ, 8, .inr (.inl G))), (p6, .inl (cZ, 8, .inl E)), (p7, .inl (cZ, 8, .inl F)), (p8, .inl (cA, 8, .inl T)), (o1, .inr (0, [.ref q1, .ref q2, .ref q3, .ref q4, .int pc, .int sc, .int ph, .int rd, .int th, .int lm, .int dy, .int wt])), (q1, .inl (cA, 64, .inl S)), (q2, .inl (cA, 64, .inl D)), (q3, .inl (cA, 4, .inl R)), (q4, .inl (cA, 8, .inl K))] := hD
        refine lv_aload_n hx hb dL_law_382 rfl (lv_at hl 3 rfl) ?_
        refine lv_aload_n hx hb dL_law_383 rfl (lv_at hl 1 rfl) ?_
        refine lv_iload_n hx hb dL_law_384 rfl (lv_at hl 0 rfl) ?_
        refine lv_iconst (v := 1) hx hb dL_law_385 (by decide) ?_
        refine lv_iadd hx hb dL_law_386 ?_
        refine va_sld hx hb hX hbl hbA hS in1 dL_law_387 ?_
        have hPc := hP.sub (ws' := [(o2, .inr (1, [.ref p1, .ref p2, .ref p3, .ref p4, .ref p5, .ref p6, .ref p7, .ref p8, .int pc, .int ph, .int rd, .int th, .int lm, .int sc, .long tm, .long sn])), (p1, .inl (cA, 64, .inl M)), (p2, .inl (cA, 64, .inl N)), (p3, .inl (cA, 64, .inl C)), (p4, .inl (cA, 4, .inl R)), (p5, .inl (cJ, 8, .inr (.inl G))), (p6, .inl (cZ, 8, .inl E)), (p7, .inl (cZ, 8, .inl F)), (p8, .inl (cA, 8, .inl T))]) [0, 1, 2, 3, 4, 5, 6, 7, 8] rfl
        have hDc := hD.sub (ws' := [(o2, .inr (1, [.ref p1, .ref p2, .ref p3, .ref p4, .ref p5, .ref p6, .ref p7, .ref p8, .int pc, .int ph, .int rd, .int th, .int lm, .int sc, .long tm, .long sn])), (p1, .inl (cA, 64, .inl M)), (p2, .inl (cA, 64, .inl N)), (p3, .inl (cA, 64, .inl C)), (p4, .inl (cA, 4, .inl R)), (p5, .inl (cJ, 8, .inr (.inl G))), (p6, .inl (cZ, 8, .inl E)), (p7, .inl (cZ, 8, .inl F)), (p8, .inl (cA, 8, .inl T))]) [0, 1, 2, 3, 4, 5, 6, 7, 8] (by decide) rfl
        have hKc := hK.sub (tys' := [(cA, .int), (cJ, .long), (cZ, .boolean)]) [0, 1, 2] rfl
        have hFc := va_free (wc := [(o2, .inr (1, [.ref p1, .ref p2, .ref p3, .ref p4, .ref p5, .ref p6, .ref p7, .ref p8, .int pc, .int ph, .int rd, .int th, .int lm, .int sc, .long tm, .long sn])), (p1, .inl (cA, 64, .inl M)), (p2, .inl (cA, 64, .inl N)), (p3, .inl (cA, 64, .inl C)), (p4, .inl (cA, 4, .inl R)), (p5, .inl (cJ, 8, .inr (.inl G))), (p6, .inl (cZ, 8, .inl E)), (p7, .inl (cZ, 8, .inl F)), (p8, .inl (cA, 8, .inl T))]) hD hS hA [0, 1, 2, 3, 4, 5, 6, 7, 8] rfl
        refine va_calli (va_runV (As := [.int (xs ((nI (3 * k)) + 1).toNatClampNeg)]) (rest := [.int r_2224]) ⟨hx, hb, hml, hown, hts⟩ (c_X1_shown l dC dI o2 p1 p2 p3 p4 p5 p6 p7 p8 cA cJ cZ M N C R G E F T pc ph rd th lm sc tm sn (xs ((nI (3 * k)) + 1).toNatClampNeg) H.size) (cwV 1 hts gL_law_X1_shown rfl rfl rfl (by decide +kernel) ⟨Nat.le_of_ble_eq_true rfl, Nat.le_of_ble_eq_true rfl⟩) ⟨fun a U g mk q => by obtain ⟨q0, q1, qP, qK, qD⟩ := q; exact ⟨q0, q1, qP, va_K.moved (u := U) (U := U.calling g mk a) (Vm.Alike.refl U.vm) qK, qD⟩, va_recv hKc hPc (ci := 1) (q0 := 0) rfl rfl, fun U hU hW => ⟨rfl, by rw [hU], by rw [hU]; exact hPc, va_K.moved hW.alike hKc, hDc.weaken (fun _ _ _ _ => trivial)⟩⟩ rfl rfl hl.1 rfl (lv_room (Nat.le_of_ble_eq_true rfl)) dL_law_388 ⟨Nat.le_of_ble_eq_true rfl, Nat.le_of_ble_eq_true rfl⟩) hS (fun q _ h => hFc q h) hFc (fun r_2228 u_2229 t H1 locs ht hvm w_2230 hB hz1 hk1 hS => ?_)
        obtain ⟨w_2230, e_2231⟩ := w_2230
        subst e_2231
        obtain ⟨hP1, hK1, hD1⟩ := hB
        rw [ht] at hP1
        obtain ⟨hP, hD⟩ := va_join (wr := [(o1, .inr (0, [.ref q1, .ref q2, .ref q3, .ref q4, .int pc, .int sc, .int ph, .int rd, .int th, .int lm, .int dy, .int wt])), (q1, .inl (cA, 64, .inl S)), (q2, .inl (cA, 64, .inl D)), (q3, .inl (cA, 4, .inl R)), (q4, .inl (cA, 8, .inl K))]) (w1 := [(o2, .inr (1, [.ref p1, .ref p2, .ref p3, .ref p4, .ref p5, .ref p6, .ref p7, .ref p8, .int pc, .int ph, .int rd, .int th, .int lm, .int sc, .long tm, .long sn])), (p1, .inl (cA, 64, .inl M)), (p2, .inl (cA, 64, .inl N)), (p3, .inl (cA, 64, .inl C)), (p4, .inl (cA, 4, .inl R)), (p5, .inl (cJ, 8, .inr (.inl G))), (p6, .inl (cZ, 8, .inl E)), (p7, .inl (cZ, 8, .inl F)), (p8, .inl (cA, 8, .inl T))]) hP hD [0, 1, 2, 3, 4, 5, 6, 7, 8] [9, 10, 11, 12, 13] rfl rfl (by decide) (by decide) hk1 hFc hP1 hD1
        clear hPc hDc hFc hP1 hD1 hk1 hK1
        generalize H1 = H at hP hS ⊢
        have hP : va_P (dC, dI) vwCl [(o1, .inr (0, [.ref q1, .ref q2, .ref q3, .ref q4, .int pc, .int sc, .int ph, .int rd, .int th, .int lm, .int dy, .int wt])), (q1, .inl (cA, 64, .inl S)), (q2, .inl (cA, 64, .inl D)), (q3, .inl (cA, 4, .inl R)), (q4, .inl (cA, 8, .inl K)), (o2, .inr (1, [.ref p1, .ref p2, .ref p3, .ref p4, .ref p5, .ref p6, .ref p7, .ref p8, .int pc, .int ph, .int rd, .int th, .int lm, .int sc, .long tm, .long sn])), (p1, .inl (cA, 64, .inl M)), (p2, .inl (cA, 64, .inl N)), (p3, .inl (cA, 64, .inl C)), (p4, .inl (cA, 4, .inl R)), (p5, .inl (cJ, 8, .inr (.inl G))), (p6, .inl (cZ, 8, .inl E)), (p7, .inl (cZ, 8, .inl F)), (p8, .inl (cA, 8, .inl T))] H := hP
        have hD : va_D (fun q : Nat => s.heap.size ≤ q) [(o1, .inr (0, [.ref q1, .ref q2, .ref q3, .ref q4, .int pc, .int sc, .int ph, .int rd, .int th, .int lm, .int dy, .int wt])), (q1, .inl (cA, 64, .inl S)), (q2, .inl (cA, 64, .inl D)), (q3, .inl (cA, 4, .inl R)), (q4, .inl (cA, 8, .inl K)), (o2, .inr (1, [.ref p1, .ref p2, .ref p3, .ref p4, .ref p5, .ref p6, .ref p7, .ref p8, .int pc, .int ph, .int rd, .int th, .int lm, .int sc, .long tm, .long sn])), (p1, .inl (cA, 64, .inl M)), (p2, .inl (cA, 64, .inl N)), (p3, .inl (cA, 64, .inl C)), (p4, .inl (cA, 4, .inl R)), (p5, .inl (cJ, 8, .inr (.inl G))), (p6, .inl (cZ, 8, .inl E)), (p7, .inl (cZ, 8, .inl F)), (p8, .inl (cA, 8, .inl T))] := hD
        have er := mx_shown hI (by omega) w_2226 w_2230
        refine lv_icmp_eq (tgt := 396) hx hb dL_law_391 (by decide) (fun c_2232 => ?_) (fun c_2232 => ?_)
        · refine lv_iinc (v := (nI (3 * k)) + 3) (lv' := [(3, .int ((nI (3 * k)) + 3)), (0, .ref b), (1, .ref o1), (2, .ref o2)]) hx hb dL_law_396 hl (k := 0) rfl rfl (by decide) rfl (fun ls hl => ?_)
          refine lv_goto (tgt := 18) hx hb dL_law_399 (by decide) ?_
          have hl : lv_has ls 4 [(3, .int (nI (3 * (k + 1)))), (0, .ref b), (1, .ref o1), (2, .ref o2)] := by
            rw [show nI (3 * (k + 1)) = nI (3 * k) + 3 from by rw [show (3 : Int32) = nI 3 from by decide, nI_add]; rfl]
            exact lv_sub hl [0, 1, 2, 3] rfl
          exact ih (k + 1) _ _ _ _ _ _ _ _ _ _ _ _ _ _ _ _ _ _ _ _ _ H locs ls (by omega) (by omega) (mx_I_le hI (by omega) hI.1) hP hD hS hl
        · exact absurd er c_2232
      · refine lv_tableOut (tgt := 396) hx hb dL_law_32 (by rw [o_2002]; decide) (by decide) ?_
        refine lv_iinc (v := (nI (3 * k)) + 3) (lv' := [(3, .int ((nI (3 * k)) + 3)), (0, .ref b), (1, .ref o1), (2, .ref o2)]) hx hb dL_law_396 hl (k := 0) rfl rfl (by decide) rfl (fun ls hl => ?_)
        refine lv_goto (tgt := 18) hx hb dL_law_399 (by decide) ?_
        have hl : lv_has ls 4 [(3, .int (nI (3 * (k + 1)))), (0, .ref b), (1, .ref o1), (2, .ref o2)] := by
          rw [show nI (3 * (k + 1)) = nI (3 * k) + 3 from by rw [show (3 : Int32) = nI 3 from by decide, nI_add]; rfl]
          exact lv_sub hl [0, 1, 2, 3] rfl
        exact ih (k + 1) _ _ _ _ _ _ _ _ _ _ _ _ _ _ _ _ _ _ _ _ _ H locs ls (by omega) (by omega) (mx_I_le hI (by omega) hI.1) hP hD hS hl
      · refine lv_tableOut (tgt := 396) hx hb dL_law_32 (by rw [o_2002]; decide) (by decide) ?_
        refine lv_iinc (v := (nI (3 * k)) + 3) (lv' := [(3, .int ((nI (3 * k)) + 3)), (0, .ref b), (1, .ref o1), (2, .ref o2)]) hx hb dL_law_396 hl (k := 0) rfl rfl (by decide) rfl (fun ls hl => ?_)
        refine lv_goto (tgt := 18) hx hb dL_law_399 (by decide) ?_
        have hl : lv_has ls 4 [(3, .int (nI (3 * (k + 1)))), (0, .ref b), (1, .ref o1), (2, .ref o2)] := by
          rw [show nI (3 * (k + 1)) = nI (3 * k) + 3 from by rw [show (3 : Int32) = nI 3 from by decide, nI_add]; rfl]
          exact lv_sub hl [0, 1, 2, 3] rfl
        exact ih (k + 1) _ _ _ _ _ _ _ _ _ _ _ _ _ _ _ _ _ _ _ _ _ H locs ls (by omega) (by omega) (mx_I_le hI (by omega) hI.1) hP hD hS hl
end
section
set_option maxHeartbeats 4000000 in
set_option maxRecDepth 100000 in
/-- THE LAW, from its entry -/
theorem whole_start {p : Program} {e : Env} {s : State} {m : MethodId} {below : List Frame} {meth : Method} {c : Code} (l : Launch) {b L : Nat} {xs : Nat → Int32} (hL : L ≤ 1536) (C0 : lw_At p s m meth c b L xs) : W p l e room_1 s m #[Value.ref b] below meth c s.heap [] 0 0 (lw_Z below #[Value.ref b] s) (entryFrame m ([Value.ref b] : List Value).toArray 4) := by
  obtain ⟨hx, hb, hr, hml, hown, hts0, hX, hbl, hlocks, hgv⟩ := id C0
  have hown : s.vm.findClass RL = some m.cls := hown
  have hts := fun w h => hts0 w (wsL_law_in w h)
  have hA : ∀ q : Nat, s.heap.size ≤ q → (fun q : Nat => s.heap.size ≤ q) q := fun _ h => h
  have hbA : ¬ (fun q : Nat => s.heap.size ≤ q) b := Nat.not_le.mpr hbl
  obtain ⟨c0, iS0, hKn0⟩ := u_known (C := RX0) (T := TX0) (N := 12) (n := 12) hts inlX0 (hts (.instantiable RX0 12) (by decide +kernel))
  obtain ⟨c1, iS1, hKn1⟩ := u_known (C := RX1) (T := TX1) (N := 16) (n := 16) hts inlX1 (hts (.instantiable RX1 16) (by decide +kernel))
  obtain ⟨dC, dI, hKc⟩ : ∃ (dC : Nat → ClassId) (dI : Nat → Nat → Nat), ∀ (k : Nat) (q : vw_C), vwCl[k]? = some q → u_Kn s q.1 q.2.1 q.2.2 (dC k) (dI k) := by
    refine ⟨fun k => if k = 0 then c0 else c1, fun k => if k = 0 then iS0 else iS1, ?_⟩
    intro k q hq
    match k, hq with
    | 0, hq => cases hq; exact hKn0
    | 1, hq => cases hq; exact hKn1
    | k + 2, hq => simp [vwCl] at hq
  have hS : va_S (fun q : Nat => s.heap.size ≤ q) s.heap s.heap [] := va_S.rf
  have hK : va_K (dC, dI) vwCl [] s := ⟨hKc, fun k q h => by simp at h⟩
  have hP : va_P (dC, dI) vwCl [] s.heap := fun k q h => by simp at h
  have hD : va_D (fun q : Nat => s.heap.size ≤ q) [] := ⟨fun i j p q h => by simp at h, fun k q h => by simp at h⟩
  have hl := lv_entry ([.ref b]) (n := 4) (Nat.le_of_ble_eq_true rfl)
  rw [lg_entry_eq]
  generalize (lg_sl ([.ref b]) ++ List.replicate (4 - (lg_sl ([.ref b])).length) Slot.unset).toArray = ls at hl ⊢
  have hl : lv_has ls 4 [(0, .ref b)] := hl
  refine va_new (ci := 0) (fs := [.null, .null, .null, .null, .int 0, .int 0, .int 0, .int 0, .int 0, .int 0, .int 0, .int 0]) (C := RX0) (T := TX0) (N := 12) hx hb hts inlX0 tyX0 tyX0_ok hown (hts (.classLink RL 7 RX0) (by decide +kernel)) (hts (.instantiable RX0 12) (by decide +kernel)) (hts (.initialized RX0) (by decide +kernel)) hK hP hD hS hA rfl (fun j hj => by rcases (show j = 0 ∨ j = 1 ∨ j = 2 ∨ j = 3 ∨ j = 4 ∨ j = 5 ∨ j = 6 ∨ j = 7 ∨ j = 8 ∨ j = 9 ∨ j = 10 ∨ j = 11 by omega) with rfl | rfl | rfl | rfl | rfl | rfl | rfl | rfl | rfl | rfl | rfl | rfl <;> rfl) (Nat.le_of_ble_eq_true rfl) (Nat.le_of_ble_eq_true rfl) dL_law_0 (fun o1 H hP hD hS => ?_)
  have hP : va_P (dC, dI) vwCl [(o1, .inr (0, [.null, .null, .null, .null, .int 0, .int 0, .int 0, .int 0, .int 0, .int 0, .int 0, .int 0]))] H := hP
  have hD : va_D (fun q : Nat => s.heap.size ≤ q) [(o1, .inr (0, [.null, .null, .null, .null, .int 0, .int 0, .int 0, .int 0, .int 0, .int 0, .int 0, .int 0]))] := hD
  refine W.widen (k := 1) (n := 12) (by omega) (by omega) ?_
  refine lv_dup hx hb dL_law_3 rfl ?_
  have hPc := hP.sub (ws' := [(o1, .inr (0, [.null, .null, .null, .null, .int 0, .int 0, .int 0, .int 0, .int 0, .int 0, .int 0, .int 0]))]) [0] rfl
  have hDc := hD.sub (ws' := [(o1, .inr (0, [.null, .null, .null, .null, .int 0, .int 0, .int 0, .int 0, .int 0, .int 0, .int 0, .int 0]))]) [0] (by decide) rfl
  have hKc := hK.sub (tys' := []) [] rfl
  have hFc := va_free (wc := [(o1, .inr (0, [.null, .null, .null, .null, .int 0, .int 0, .int 0, .int 0, .int 0, .int 0, .int 0, .int 0]))]) hD hS hA [0] rfl
  refine va_callv (va_runI (As := []) (rest := [.ref o1]) ⟨hx, hb, hml, hown, hts⟩ (c_X0_init l dC dI o1 H.size) (cwI 0 hts gL_law_X0_init rfl rfl rfl (hts (.initialized RX0) (by decide +kernel)) (hts (.methodLink RL 9 yX0_init) (by decide +kernel)) (hts (.instanceMethod yX0_init) (by decide +kernel)) rfl (by decide +kernel) ⟨Nat.le_of_ble_eq_true rfl, Nat.le_of_ble_eq_true rfl⟩) ⟨fun a U g mk q => by obtain ⟨q0, q1, qP, qK, qD⟩ := q; exact ⟨q0, q1, qP, va_K.moved (u := U) (U := U.calling g mk a) (Vm.Alike.refl U.vm) qK, qD⟩, fun U hU hW => ⟨rfl, by rw [hU], by rw [hU]; exact hPc, va_K.moved hW.alike hKc, hDc.weaken (fun _ _ _ _ => trivial)⟩⟩ rfl rfl hl.1 rfl (lv_room (Nat.le_of_ble_eq_true rfl)) dL_law_4 ⟨Nat.le_of_ble_eq_true rfl, Nat.le_of_ble_eq_true rfl⟩) hS (fun q _ h => hFc q h) hFc (fun u t H1 locs ht hvm hw hB hz1 hk1 hS => ?_)
  obtain ⟨q1, q2, q3, q4, cA, hP1, hK1, hD1⟩ := hB
  rw [ht] at hP1
  have hK1 := va_K.moved hvm.symm hK1
  obtain ⟨hP, hD⟩ := va_join (wr := []) (w1 := [(o1, .inr (0, [.ref q1, .ref q2, .ref q3, .ref q4, .int 0, .int 0, .int 0, .int 0, .int 0, .int 0, .int 0, .int 0])), (q1, .inl (cA, 64, .inl (fun _ => 0))), (q2, .inl (cA, 64, .inl (fun _ => 0))), (q3, .inl (cA, 4, .inl (fun _ => 0))), (q4, .inl (cA, 8, .inl (fun _ => 0)))]) hP hD [0] [] rfl rfl (by decide) (by decide) hk1 hFc hP1 hD1
  have hK : va_K (dC, dI) vwCl [(cA, .int)] s := (hK.sub (tys' := []) [] rfl).app hK1
  clear hPc hDc hFc hP1 hD1 hk1 hK1
  generalize H1 = H at hP hS ⊢
  have hP : va_P (dC, dI) vwCl [(o1, .inr (0, [.ref q1, .ref q2, .ref q3, .ref q4, .int 0, .int 0, .int 0, .int 0, .int 0, .int 0, .int 0, .int 0])), (q1, .inl (cA, 64, .inl (fun _ => 0))), (q2, .inl (cA, 64, .inl (fun _ => 0))), (q3, .inl (cA, 4, .inl (fun _ => 0))), (q4, .inl (cA, 8, .inl (fun _ => 0)))] H := hP
  have hD : va_D (fun q : Nat => s.heap.size ≤ q) [(o1, .inr (0, [.ref q1, .ref q2, .ref q3, .ref q4, .int 0, .int 0, .int 0, .int 0, .int 0, .int 0, .int 0, .int 0])), (q1, .inl (cA, 64, .inl (fun _ => 0))), (q2, .inl (cA, 64, .inl (fun _ => 0))), (q3, .inl (cA, 4, .inl (fun _ => 0))), (q4, .inl (cA, 8, .inl (fun _ => 0)))] := hD
  refine W.widen (k := 5) (n := 152) (by omega) (by omega) ?_
  refine lv_astore_n (lv' := [(1, .ref o1), (0, .ref b)]) hx hb dL_law_7 rfl hl (by decide) rfl (fun ls hl => ?_)
  refine va_new (ci := 1) (fs := [.null, .null, .null, .null, .null, .null, .null, .null, .int 0, .int 0, .int 0, .int 0, .int 0, .int 0, .long 0, .long 0]) (C := RX1) (T := TX1) (N := 16) hx hb hts inlX1 tyX1 tyX1_ok hown (hts (.classLink RL 10 RX1) (by decide +kernel)) (hts (.instantiable RX1 16) (by decide +kernel)) (hts (.initialized RX1) (by decide +kernel)) hK hP hD hS hA rfl (fun j hj => by rcases (show j = 0 ∨ j = 1 ∨ j = 2 ∨ j = 3 ∨ j = 4 ∨ j = 5 ∨ j = 6 ∨ j = 7 ∨ j = 8 ∨ j = 9 ∨ j = 10 ∨ j = 11 ∨ j = 12 ∨ j = 13 ∨ j = 14 ∨ j = 15 by omega) with rfl | rfl | rfl | rfl | rfl | rfl | rfl | rfl | rfl | rfl | rfl | rfl | rfl | rfl | rfl | rfl <;> rfl) (Nat.le_of_ble_eq_true rfl) (Nat.le_of_ble_eq_true rfl) dL_law_8 (fun o2 H hP hD hS => ?_)
  have hP : va_P (dC, dI) vwCl [(o1, .inr (0, [.ref q1, .ref q2, .ref q3, .ref q4, .int 0, .int 0, .int 0, .int 0, .int 0, .int 0, .int 0, .int 0])), (q1, .inl (cA, 64, .inl (fun _ => 0))), (q2, .inl (cA, 64, .inl (fun _ => 0))), (q3, .inl (cA, 4, .inl (fun _ => 0))), (q4, .inl (cA, 8, .inl (fun _ => 0))), (o2, .inr (1, [.null, .null, .null, .null, .null, .null, .null, .null, .int 0, .int 0, .int 0, .int 0, .int 0, .int 0, .long 0, .long 0]))] H := hP
  have hD : va_D (fun q : Nat => s.heap.size ≤ q) [(o1, .inr (0, [.ref q1, .ref q2, .ref q3, .ref q4, .int 0, .int 0, .int 0, .int 0, .int 0, .int 0, .int 0, .int 0])), (q1, .inl (cA, 64, .inl (fun _ => 0))), (q2, .inl (cA, 64, .inl (fun _ => 0))), (q3, .inl (cA, 4, .inl (fun _ => 0))), (q4, .inl (cA, 8, .inl (fun _ => 0))), (o2, .inr (1, [.null, .null, .null, .null, .null, .null, .null, .null, .int 0, .int 0, .int 0, .int 0, .int 0, .int 0, .long 0, .long 0]))] := hD
  refine W.widen (k := 6) (n := 168) (by omega) (by omega) ?_
  refine lv_dup hx hb dL_law_11 rfl ?_
  have hPc := hP.sub (ws' := [(o2, .inr (1, [.null, .null, .null, .null, .null, .null, .null, .null, .int 0, .int 0, .int 0, .int 0, .int 0, .int 0, .long 0, .long 0]))]) [5] rfl
  have hDc := hD.sub (ws' := [(o2, .inr (1, [.null, .null, .null, .null, .null, .null, .null, .null, .int 0, .int 0, .int 0, .int 0, .int 0, .int 0, .long 0, .long 0]))]) [5] (by decide) rfl
  have hKc := hK.sub (tys' := []) [] rfl
  have hFc := va_free (wc := [(o2, .inr (1, [.null, .null, .null, .null, .null, .null, .null, .null, .int 0, .int 0, .int 0, .int 0, .int 0, .int 0, .long 0, .long 0]))]) hD hS hA [5] rfl
  refine va_callv (va_runI (As := []) (rest := [.ref o2]) ⟨hx, hb, hml, hown, hts⟩ (c_X1_init l dC dI o2 H.size) (cwI 0 hts gL_law_X1_init rfl rfl rfl (hts (.initialized RX1) (by decide +kernel)) (hts (.methodLink RL 12 yX1_init) (by decide +kernel)) (hts (.instanceMethod yX1_init) (by decide +kernel)) rfl (by decide +kernel) ⟨Nat.le_of_ble_eq_true rfl, Nat.le_of_ble_eq_true rfl⟩) ⟨fun a U g mk q => by obtain ⟨q0, q1, qP, qK, qD⟩ := q; exact ⟨q0, q1, qP, va_K.moved (u := U) (U := U.calling g mk a) (Vm.Alike.refl U.vm) qK, qD⟩, fun U hU hW => ⟨rfl, by rw [hU], by rw [hU]; exact hPc, va_K.moved hW.alike hKc, hDc.weaken (fun _ _ _ _ => trivial)⟩⟩ rfl rfl hl.1 rfl (lv_room (Nat.le_of_ble_eq_true rfl)) dL_law_12 ⟨Nat.le_of_ble_eq_true rfl, Nat.le_of_ble_eq_true rfl⟩) hS (fun q _ h => hFc q h) hFc (fun u t H1 locs ht hvm hw hB hz1 hk1 hS => ?_)
  obtain ⟨p1, p2, p3, p4, p5, p6, p7, p8, cB, cJ, cZ, hP1, hK1, hD1⟩ := hB
  rw [ht] at hP1
  have hK1 := va_K.moved hvm.symm hK1
  obtain ⟨hP, hD⟩ := va_join (wr := [(o1, .inr (0, [.ref q1, .ref q2, .ref q3, .ref q4, .int 0, .int 0, .int 0, .int 0, .int 0, .int 0, .int 0, .int 0])), (q1, .inl (cA, 64, .inl (fun _ => 0))), (q2, .inl (cA, 64, .inl (fun _ => 0))), (q3, .inl (cA, 4, .inl (fun _ => 0))), (q4, .inl (cA, 8, .inl (fun _ => 0)))]) (w1 := [(o2, .inr (1, [.ref p1, .ref p2, .ref p3, .ref p4, .ref p5, .ref p6, .ref p7, .ref p8, .int 0, .int 0, .int 0, .int 0, .int 0, .int 0, .long 0, .long 0])), (p1, .inl (cB, 64, .inl (fun _ => 0))), (p2, .inl (cB, 64, .inl (fun _ => 0))), (p3, .inl (cB, 64, .inl (fun _ => 0))), (p4, .inl (cB, 4, .inl (fun _ => 0))), (p5, .inl (cJ, 8, .inr (.inl (fun _ => 0)))), (p6, .inl (cZ, 8, .inl (fun _ => 0))), (p7, .inl (cZ, 8, .inl (fun _ => 0))), (p8, .inl (cB, 8, .inl (fun _ => 0)))]) hP hD [5] [0, 1, 2, 3, 4] rfl rfl (by decide) (by decide) hk1 hFc hP1 hD1
  have hK : va_K (dC, dI) vwCl [(cA, .int), (cB, .int), (cJ, .long), (cZ, .boolean)] s := hK.app hK1
  clear hPc hDc hFc hP1 hD1 hk1 hK1
  have eB := va_oneI hK 0 1 rfl rfl
  subst eB
  have hK := hK.sub (tys' := [(cA, .int), (cJ, .long), (cZ, .boolean)]) [0, 2, 3] rfl
  generalize H1 = H at hP hS ⊢
  have hP : va_P (dC, dI) vwCl [(o1, .inr (0, [.ref q1, .ref q2, .ref q3, .ref q4, .int 0, .int 0, .int 0, .int 0, .int 0, .int 0, .int 0, .int 0])), (q1, .inl (cA, 64, .inl (fun _ => 0))), (q2, .inl (cA, 64, .inl (fun _ => 0))), (q3, .inl (cA, 4, .inl (fun _ => 0))), (q4, .inl (cA, 8, .inl (fun _ => 0))), (o2, .inr (1, [.ref p1, .ref p2, .ref p3, .ref p4, .ref p5, .ref p6, .ref p7, .ref p8, .int 0, .int 0, .int 0, .int 0, .int 0, .int 0, .long 0, .long 0])), (p1, .inl (cA, 64, .inl (fun _ => 0))), (p2, .inl (cA, 64, .inl (fun _ => 0))), (p3, .inl (cA, 64, .inl (fun _ => 0))), (p4, .inl (cA, 4, .inl (fun _ => 0))), (p5, .inl (cJ, 8, .inr (.inl (fun _ => 0)))), (p6, .inl (cZ, 8, .inl (fun _ => 0))), (p7, .inl (cZ, 8, .inl (fun _ => 0))), (p8, .inl (cA, 8, .inl (fun _ => 0)))] H := hP
  have hD : va_D (fun q : Nat => s.heap.size ≤ q) [(o1, .inr (0, [.ref q1, .ref q2, .ref q3, .ref q4, .int 0, .int 0, .int 0, .int 0, .int 0, .int 0, .int 0, .int 0])), (q1, .inl (cA, 64, .inl (fun _ => 0))), (q2, .inl (cA, 64, .inl (fun _ => 0))), (q3, .inl (cA, 4, .inl (fun _ => 0))), (q4, .inl (cA, 8, .inl (fun _ => 0))), (o2, .inr (1, [.ref p1, .ref p2, .ref p3, .ref p4, .ref p5, .ref p6, .ref p7, .ref p8, .int 0, .int 0, .int 0, .int 0, .int 0, .int 0, .long 0, .long 0])), (p1, .inl (cA, 64, .inl (fun _ => 0))), (p2, .inl (cA, 64, .inl (fun _ => 0))), (p3, .inl (cA, 64, .inl (fun _ => 0))), (p4, .inl (cA, 4, .inl (fun _ => 0))), (p5, .inl (cJ, 8, .inr (.inl (fun _ => 0)))), (p6, .inl (cZ, 8, .inl (fun _ => 0))), (p7, .inl (cZ, 8, .inl (fun _ => 0))), (p8, .inl (cA, 8, .inl (fun _ => 0)))] := hD
  refine W.widen (k := 14) (n := 396) (by omega) (by omega) ?_
  refine lv_astore_n (lv' := [(2, .ref o2), (1, .ref o1), (0, .ref b)]) hx hb dL_law_15 rfl hl (by decide) rfl (fun ls hl => ?_)
  refine lv_iconst (v := 0) hx hb dL_law_16 (by decide) ?_
  refine lv_istore_n (lv' := [(3, .int 0), (2, .ref o2), (1, .ref o1), (0, .ref b)]) hx hb dL_law_17 rfl hl (by decide) rfl (fun ls hl => ?_)
  exact law_loop hL C0 o1 q1 q2 q3 q4 o2 p1 p2 p3 p4 p5 p6 p7 p8 cA cJ cZ hK L 0 (fun _ => 0) (fun _ => 0) (fun _ => 0) (fun _ => 0) 0 0 0 0 0 0 0 0 (fun _ => 0) (fun _ => 0) (fun _ => 0) (fun _ => 0) (fun _ => 0) (fun _ => 0) (fun _ => 0) 0 0 _ _ _ (by omega) (by omega) mx_zero hP hD hS (by rw [show nI (3 * 0) = 0 from by decide]; exact lv_sub hl [0, 3, 2, 1] rfl)
end
section
-- ===== YOUR PART ENDS =====
set_option maxHeartbeats 4000000 in
theorem lw_walk (l : Launch) (b : Addr) (xs : List Int32) : MetFree l x (headSpec (Jvm.Cond.code x code maxLocals ret :: tables_1) room_1) (lw_P b xs) (fun _ _ _ _ _ => True) lw_Q := by
  refine MetFree.of_bodyS (code := code) (maxLocals := maxLocals) (ret := ret) (by decide) ?_ ?_
  · intro args s m h hn
    obtain ⟨meth, c, h1, h2, h3, h4, h5, h6, -, -⟩ := Cond.code_spec hn (atoms_spec (ws := Jvm.Cond.code x code maxLocals ret :: tables_1) h _ List.mem_cons_self)
    exact ⟨meth, c, h1, h2, h3, h4, h5, h6⟩
  · intro p e s m args below meth c s₁ B hml0 hP _
    obtain ⟨rfl, hx, hbd, hgv⟩ := hP
    obtain ⟨scr, harrAt, hlist, hof, hsmall⟩ := hx
    obtain ⟨hcb, hkn, -, -⟩ := State.arrayAt?_spec harrAt
    have hown : s.vm.findClass R_law = some m.cls := findClass_of_methodNamed B.named
    have hts0 : ∀ c ∈ (Jvm.Cond.code x code maxLocals ret :: tables_1), c.before #[Value.ref b] s = true := atoms_spec (ws := Jvm.Cond.code x code maxLocals ret :: tables_1) B.pre
    have hts : ∀ w ∈ lw_tbl, w.before #[Value.ref b] s = true := k2_hts_sels lw_privs (fun w hw => hts0 w (List.mem_cons_of_mem _ hw)) lw_privs_ok
    have hml : c.maxLocals = 4 := B.maxLocals_eq (hts0 _ List.mem_cons_self)
    have X₀ : Stand p l e room_1 s m #[Value.ref b] below meth c s₁ [] 0 0 := Stand.of_body B
    have hh0 : s₁.heap = s.heap := by rw [B.state]; rfl
    have hsz : scr.slots.size = xs.length := by rw [← Array.length_toList, hlist, List.length_map]
    have hval : ∀ j : Nat, j < xs.length → scr.slots[j]? = some (.int (xs.getD j 0)) := fun j hj => by
      rw [← Array.getElem?_toList, hlist]
      simp [hj]
    have hbl : b < s.heap.size := (Array.getElem?_eq_some_iff.mp hcb).1
    have hX : va_X b xs.length (fun j => xs.getD j 0) s s.heap := ⟨scr, hcb, hof, hkn, hsz, hval⟩
    have K : W p l e room_1 s m #[Value.ref b] below meth c s₁.heap [] 0 0 (lw_Z below #[Value.ref b] s) (entryFrame m ([Value.ref b] : List Value).toArray 4) := by
      rw [hh0]
      exact whole_start l hbd ⟨B.exec, B.bytes, B.returns, hml, hown, hts, hX, hbl, B.notSynchronized, hgv⟩
    obtain ⟨t, a1, o, b1, b2, b3⟩ := K s₁ rfl X₀
    exact ⟨t, o, a1, b1, b2, b3⟩
theorem lw_pre_spec {args : Array Value} {s : State} (h : (Jvm.Cond.and given_1 narrow_1).before args s = true) (hr : rest_1_c.before args s = true) : ∃ (b : Addr) (xs : List Int32), lw_P b xs args s := by
  have hs := flat_of_before _ h
  have hq := flat_of_before _ hr
  have hc : (Cond.count 1).before args s = true := hs _ (by decide +kernel)
  have harr : (Cond.arrayOf (.arg 0) .int).before args s = true := hs _ (by decide +kernel)
  have hle : (Cond.le (.length (.arg 0)) (.int 1536)).before args s = true := hs _ (by decide +kernel)
  have hlen : (Cond.isInt (.length (.arg 0))).before args s = true := hq _ (by decide +kernel)
  have hall : (Cond.all (.arg 0) (.isInt (.elem (.arg 0) (.index 0)))).before args s = true := hq _ (by decide +kernel)
  obtain ⟨b, xs, hb, hx⟩ := State.ints_of_pre rfl harr hlen hall
  have hsm : xs.length < 2 ^ 31 := hx.choose_spec.2.2.2
  have hev : (Term.length (.arg 0)).eval args s none [] s = some (.int xs.length.toInt32) := hx.length_eval hb
  have hv := Cond.le_ints hev (show (Term.int 1536).eval args s none [] s = some (.int 1536) from rfl)
  have hd : xs.length.toInt32 ≤ 1536 := by
    simpa [Cond.before, Cond.holds, hv] using hle
  have hN : xs.length ≤ 1536 := (Int32.ofNat_le_ofNat hsm (by decide)).mp (show Int32.ofNat xs.length ≤ Int32.ofNat 1536 from hd)
  exact ⟨b, xs, Cond.one_arg hc (show args[0]? = some (.ref b) from hb), hx, hN, h⟩
theorem lw_comes (l : Launch) : Comes l x (Jvm.Cond.code x code maxLocals ret :: tables_1) room_1 (fun tb e args s => Calls_1 tb e args s ∧ rest_1 tb e args s ∧ Pre_1 tb e args s)
    (fun _ _ args s o t => lw_Q args s o t) := by
  intro p e ha hc hk s m args below hf hfit hheap happ hpre
  obtain ⟨b, xs, hP⟩ := lw_pre_spec hpre.2.2 hpre.2.1
  obtain ⟨k, o, h1, h2, h3, hQ⟩ := lw_walk l b xs p e ha hc hk s m args below hf ((Spec.applies_iff_loose hf).mp happ).1 hP trivial
  exact ⟨k, o, h1, h2, h3, hQ⟩
theorem lw_frame {s t : State} {o : Outcome} {args : Array Value} (h : Framed s o t [] 14 396) :
    Framed s o t (fieldLocs frame_1_writes args s ++ arrayLocs frame_1_arrays args s ++ staticLocs frame_1_statics s) 14 396 := h
theorem lw_limb (L : Cond) (hL : ∀ (args : Array Value) (s t : State), L.after args s (.returned (some (.int 1))) t = true) :
    ArmFor flags0 classFile x code maxLocals ret World_1 tables_1 room_1 Calls_1 rest_1 Pre_1
      (fun tb e a s o t => postC L tb e a s o t ∧ Framed s o t (fieldLocs frame_1_writes a s ++ arrayLocs frame_1_arrays a s ++ staticLocs frame_1_statics s) 14 396) := by
  intro l _ _ _ p e ha hc hk s m args below hf hfit hheap happ hpre
  obtain ⟨k, o, h1, h2, h3, rfl, hF⟩ := lw_comes l p e ha hc hk s m args below hf hfit hheap happ hpre
  exact ⟨k, _, h1, h2, h3, hL args s _, lw_frame hF⟩
theorem i_vc : Claimed_1_1 ∧ Claimed_1_2 := ⟨lw_limb limb_1_1 (fun args s t => by simp [limb_1_1, Cond.after, Cond.holds, Cond.value]), lw_limb limb_1_2 (fun args s t => Cond.after_iff.mpr (by
  first | (rw [show limb_1_2 = Cond.eq .result (.int 1) from rfl, Cond.eq_ints (x := 1) (y := 1) rfl rfl]; simp; done) | (simp [limb_1_2, Cond.value, Term.eval]; done)))⟩
end
