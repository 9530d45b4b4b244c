/-! ===== BEGIN words of one list among another's, by their places ===== -/
theorem goodIn_r {big : List Cond} (ws : List Cond) (ps : List Nat) (hp : ws = ps.filterMap (fun i => big[i]?)) (h : ws.all goodWord = true) : GoodIn big ws := by
  intro w hw
  have h1 := List.all_eq_true.mp h w hw
  rw [hp] at hw
  obtain ⟨i, -, hi⟩ := List.mem_filterMap.mp hw
  have hm : w ∈ big := by first | exact List.mem_of_getElem? hi | exact List.getElem?_mem hi
  exact ⟨hm, good_of_word h1⟩
theorem goodIn_app {big a b : List Cond} (ha : GoodIn big a) (hb : GoodIn big b) : GoodIn big (a ++ b) := fun w h => (List.mem_append.mp h).elim (ha w) (hb w)
theorem goodIn_ca {big a b : List Cond} {c : Cond} (ha : GoodIn big (c :: a)) (hb : GoodIn big b) : GoodIn big (c :: (a ++ b)) := fun w h => (List.mem_cons.mp h).elim (fun e => ha w (List.mem_cons.mpr (Or.inl e))) (fun h => (List.mem_append.mp h).elim (fun h => ha w (List.mem_cons.mpr (Or.inr h))) (hb w))
theorem goodIn_sub {big ws : List Cond} (hm : ∀ w ∈ ws, w ∈ big) (h : ws.all goodWord = true) : GoodIn big ws := fun w hw => ⟨hm w hw, good_of_word (List.all_eq_true.mp h w hw)⟩
/-! ===== END ===== -/

/-! ===== BEGIN printed: names, fields, word lists, decode rows ===== -/
def RX0 : String := "KeyOnStreet$House"
def TX0 : u_T := fun k => match k with
  | 0 => ("KeyOnStreet$House", "place", "I", true)
  | 1 => ("KeyOnStreet$House", "latest", "I", true)
  | _ => ("KeyOnStreet$House", "people", "I", true)
def tyX0 : Nat → FieldType := fun k => match k with
  | 0 => .int
  | 1 => .int
  | _ => .int
abbrev wsX00 : List Cond := u_ws RX0 TX0 3
theorem nmX0 : ∀ a, a < 3 → ∀ b, b < 3 → a ≠ b → (TX0 a).2.1 ≠ (TX0 b).2.1 := by decide +kernel
theorem tyX0_ok : ∀ k, k < 3 → parseFieldDescriptor (TX0 k).2.2.1 = some (tyX0 k) := by decide +kernel
abbrev cX0_init : ByteArray := prog_2_method_1_code
def yX0_init : MethodName := ⟨RX0, "<init>", "(III)V"⟩
abbrev cX0_kind : ByteArray := prog_2_method_2_code
def yX0_kind : MethodName := ⟨RX0, "kind", "()I"⟩
abbrev cX0_openingTakes : ByteArray := prog_2_method_3_code
def yX0_openingTakes : MethodName := ⟨RX0, "openingTakes", "()I"⟩
abbrev cX0_keepsKeyUntil : ByteArray := prog_2_method_4_code
def yX0_keepsKeyUntil : MethodName := ⟨RX0, "keepsKeyUntil", "(I)I"⟩
abbrev cX0_lateAt : ByteArray := prog_2_method_5_code
def yX0_lateAt : MethodName := ⟨RX0, "lateAt", "(I)I"⟩
abbrev cX0_sleepersOut : ByteArray := prog_2_method_6_code
def yX0_sleepersOut : MethodName := ⟨RX0, "sleepersOut", "()I"⟩
def RX1 : String := "KeyOnStreet$Inn"
def TX1 : u_T := fun k => match k with
  | 0 => ("KeyOnStreet$House", "place", "I", true)
  | 1 => ("KeyOnStreet$House", "latest", "I", true)
  | _ => ("KeyOnStreet$House", "people", "I", true)
def tyX1 : Nat → FieldType := fun k => match k with
  | 0 => .int
  | 1 => .int
  | _ => .int
abbrev wsX10 : List Cond := u_ws RX1 TX1 3
theorem nmX1 : ∀ a, a < 3 → ∀ b, b < 3 → a ≠ b → (TX1 a).2.1 ≠ (TX1 b).2.1 := by decide +kernel
theorem tyX1_ok : ∀ k, k < 3 → parseFieldDescriptor (TX1 k).2.2.1 = some (tyX1 k) := by decide +kernel
abbrev cX1_init : ByteArray := prog_3_method_1_code
def yX1_init : MethodName := ⟨RX1, "<init>", "(III)V"⟩
abbrev cX1_kind : ByteArray := prog_3_method_2_code
def yX1_kind : MethodName := ⟨RX1, "kind", "()I"⟩
abbrev cX1_lateAt : ByteArray := prog_3_method_3_code
def yX1_lateAt : MethodName := ⟨RX1, "lateAt", "(I)I"⟩
abbrev cX1_sleepersOut : ByteArray := prog_3_method_4_code
def yX1_sleepersOut : MethodName := ⟨RX1, "sleepersOut", "()I"⟩
def RX2 : String := "KeyOnStreet$Key"
def TX2 : u_T := fun k => match k with
  | 0 => ("KeyOnStreet$Key", "place", "I", false)
  | 1 => ("KeyOnStreet$Key", "minute", "I", false)
  | _ => ("KeyOnStreet$Key", "keptUntil", "I", false)
def tyX2 : Nat → FieldType := fun k => match k with
  | 0 => .int
  | 1 => .int
  | _ => .int
abbrev wsX20 : List Cond := u_ws RX2 TX2 3
theorem nmX2 : ∀ a, a < 3 → ∀ b, b < 3 → a ≠ b → (TX2 a).2.1 ≠ (TX2 b).2.1 := by decide +kernel
theorem tyX2_ok : ∀ k, k < 3 → parseFieldDescriptor (TX2 k).2.2.1 = some (tyX2 k) := by decide +kernel
abbrev cX2_init : ByteArray := prog_4_method_1_code
def yX2_init : MethodName := ⟨RX2, "<init>", "()V"⟩
abbrev cX2_put : ByteArray := prog_4_method_2_code
def yX2_put : MethodName := ⟨RX2, "put", "(III)V"⟩
abbrev cX2_copyFrom : ByteArray := prog_4_method_3_code
def yX2_copyFrom : MethodName := ⟨RX2, "copyFrom", "(LKeyOnStreet$Key;)V"⟩
abbrev cX2_bringTo : ByteArray := prog_4_method_4_code
def yX2_bringTo : MethodName := ⟨RX2, "bringTo", "(LKeyOnStreet$House;)V"⟩
def RX3 : String := "KeyOnStreet$Lovers"
def TX3 : u_T := fun k => match k with
  | 0 => ("KeyOnStreet$House", "place", "I", true)
  | 1 => ("KeyOnStreet$House", "latest", "I", true)
  | _ => ("KeyOnStreet$House", "people", "I", true)
def tyX3 : Nat → FieldType := fun k => match k with
  | 0 => .int
  | 1 => .int
  | _ => .int
abbrev wsX30 : List Cond := u_ws RX3 TX3 3
theorem nmX3 : ∀ a, a < 3 → ∀ b, b < 3 → a ≠ b → (TX3 a).2.1 ≠ (TX3 b).2.1 := by decide +kernel
theorem tyX3_ok : ∀ k, k < 3 → parseFieldDescriptor (TX3 k).2.2.1 = some (tyX3 k) := by decide +kernel
abbrev cX3_init : ByteArray := prog_5_method_1_code
def yX3_init : MethodName := ⟨RX3, "<init>", "(III)V"⟩
abbrev cX3_kind : ByteArray := prog_5_method_2_code
def yX3_kind : MethodName := ⟨RX3, "kind", "()I"⟩
abbrev cX3_keepsKeyUntil : ByteArray := prog_5_method_3_code
def yX3_keepsKeyUntil : MethodName := ⟨RX3, "keepsKeyUntil", "(I)I"⟩
def RX4 : String := "KeyOnStreet$Midwife"
def TX4 : u_T := fun k => match k with
  | 0 => ("KeyOnStreet$House", "place", "I", true)
  | 1 => ("KeyOnStreet$House", "latest", "I", true)
  | _ => ("KeyOnStreet$House", "people", "I", true)
def tyX4 : Nat → FieldType := fun k => match k with
  | 0 => .int
  | 1 => .int
  | _ => .int
abbrev wsX40 : List Cond := u_ws RX4 TX4 3
theorem nmX4 : ∀ a, a < 3 → ∀ b, b < 3 → a ≠ b → (TX4 a).2.1 ≠ (TX4 b).2.1 := by decide +kernel
theorem tyX4_ok : ∀ k, k < 3 → parseFieldDescriptor (TX4 k).2.2.1 = some (tyX4 k) := by decide +kernel
abbrev cX4_init : ByteArray := prog_6_method_1_code
def yX4_init : MethodName := ⟨RX4, "<init>", "(III)V"⟩
abbrev cX4_kind : ByteArray := prog_6_method_2_code
def yX4_kind : MethodName := ⟨RX4, "kind", "()I"⟩
def RX5 : String := "KeyOnStreet$Night"
def TX5 : u_T := fun k => match k with
  | 0 => ("KeyOnStreet$Night", "street", "LKeyOnStreet$Town;", true)
  | 1 => ("KeyOnStreet$Night", "key", "LKeyOnStreet$Key;", true)
  | 2 => ("KeyOnStreet$Night", "since", "[I", true)
  | 3 => ("KeyOnStreet$Night", "inAt", "[I", true)
  | 4 => ("KeyOnStreet$Night", "late", "[I", true)
  | 5 => ("KeyOnStreet$Night", "sleptOut", "[I", true)
  | 6 => ("KeyOnStreet$Night", "seenHouse", "[I", true)
  | 7 => ("KeyOnStreet$Night", "seenMinute", "[I", true)
  | 8 => ("KeyOnStreet$Night", "seenIn", "[Z", true)
  | _ => ("KeyOnStreet$Night", "seen", "I", false)
def tyX5 : Nat → FieldType := fun k => match k with
  | 0 => .object "KeyOnStreet$Town"
  | 1 => .object "KeyOnStreet$Key"
  | 2 => .array .int
  | 3 => .array .int
  | 4 => .array .int
  | 5 => .array .int
  | 6 => .array .int
  | 7 => .array .int
  | 8 => .array .boolean
  | _ => .int
abbrev wsX50 : List Cond := u_ws RX5 TX5 10
theorem nmX5 : ∀ a, a < 10 → ∀ b, b < 10 → a ≠ b → (TX5 a).2.1 ≠ (TX5 b).2.1 := by decide +kernel
theorem tyX5_ok : ∀ k, k < 10 → parseFieldDescriptor (TX5 k).2.2.1 = some (tyX5 k) := by decide +kernel
abbrev cX5_init : ByteArray := prog_7_method_1_code
def yX5_init : MethodName := ⟨RX5, "<init>", "(LKeyOnStreet$Town;)V"⟩
abbrev cX5_begin : ByteArray := prog_7_method_2_code
def yX5_begin : MethodName := ⟨RX5, "begin", "()V"⟩
abbrev cX5_copyFrom : ByteArray := prog_7_method_3_code
def yX5_copyFrom : MethodName := ⟨RX5, "copyFrom", "(LKeyOnStreet$Night;)V"⟩
abbrev cX5_nobodyWasIn : ByteArray := prog_7_method_4_code
def yX5_nobodyWasIn : MethodName := ⟨RX5, "nobodyWasIn", "()V"⟩
abbrev cX5_isOut : ByteArray := prog_7_method_5_code
def yX5_isOut : MethodName := ⟨RX5, "isOut", "(I)Z"⟩
abbrev cX5_waiting : ByteArray := prog_7_method_6_code
def yX5_waiting : MethodName := ⟨RX5, "waiting", "()I"⟩
abbrev cX5_outAtDoor : ByteArray := prog_7_method_7_code
def yX5_outAtDoor : MethodName := ⟨RX5, "outAtDoor", "()I"⟩
abbrev cX5_mayOpen : ByteArray := prog_7_method_8_code
def yX5_mayOpen : MethodName := ⟨RX5, "mayOpen", "(I)Z"⟩
abbrev cX5_letIn : ByteArray := prog_7_method_9_code
def yX5_letIn : MethodName := ⟨RX5, "letIn", "(I)V"⟩
abbrev cX5_fall : ByteArray := prog_7_method_10_code
def yX5_fall : MethodName := ⟨RX5, "fall", "()I"⟩
abbrev cX5_nextBy : ByteArray := prog_7_method_11_code
def yX5_nextBy : MethodName := ⟨RX5, "nextBy", "(I)I"⟩
abbrev cX5_rankBy : ByteArray := prog_7_method_12_code
def yX5_rankBy : MethodName := ⟨RX5, "rankBy", "(II)I"⟩
abbrev cX5_letAllIn : ByteArray := prog_7_method_13_code
def yX5_letAllIn : MethodName := ⟨RX5, "letAllIn", "(I)V"⟩
abbrev cX5_lateOfAll : ByteArray := prog_7_method_14_code
def yX5_lateOfAll : MethodName := ⟨RX5, "lateOfAll", "()I"⟩
abbrev cX5_outOfAll : ByteArray := prog_7_method_15_code
def yX5_outOfAll : MethodName := ⟨RX5, "outOfAll", "()I"⟩
abbrev cX5_note : ByteArray := prog_7_method_16_code
def yX5_note : MethodName := ⟨RX5, "note", "(IIZ)Z"⟩
abbrev cX5_isAsSeen : ByteArray := prog_7_method_17_code
def yX5_isAsSeen : MethodName := ⟨RX5, "isAsSeen", "()Z"⟩
abbrev cX5_wasInBy : ByteArray := prog_7_method_18_code
def yX5_wasInBy : MethodName := ⟨RX5, "wasInBy", "(II)Z"⟩
def RX6 : String := "KeyOnStreet$Page"
def TX6 : u_T := fun k => match k with
  | 0 => ("KeyOnStreet$Page", "codes", "[I", true)
  | _ => ("KeyOnStreet$Page", "length", "I", false)
def tyX6 : Nat → FieldType := fun k => match k with
  | 0 => .array .int
  | _ => .int
abbrev wsX60 : List Cond := u_ws RX6 TX6 2
theorem nmX6 : ∀ a, a < 2 → ∀ b, b < 2 → a ≠ b → (TX6 a).2.1 ≠ (TX6 b).2.1 := by decide +kernel
theorem tyX6_ok : ∀ k, k < 2 → parseFieldDescriptor (TX6 k).2.2.1 = some (tyX6 k) := by decide +kernel
abbrev cX6_init : ByteArray := prog_8_method_1_code
def yX6_init : MethodName := ⟨RX6, "<init>", "()V"⟩
abbrev cX6_write : ByteArray := prog_8_method_2_code
def yX6_write : MethodName := ⟨RX6, "write", "(I)Z"⟩
abbrev cX6_codeAt : ByteArray := prog_8_method_3_code
def yX6_codeAt : MethodName := ⟨RX6, "codeAt", "(I)I"⟩
abbrev cX6_firstFault : ByteArray := prog_8_method_4_code
def yX6_firstFault : MethodName := ⟨RX6, "firstFault", "()I"⟩
abbrev cX6_fits : ByteArray := prog_8_method_5_code
def yX6_fits : MethodName := ⟨RX6, "fits", "(II)Z"⟩
abbrev cX6_tellsTown : ByteArray := prog_8_method_6_code
def yX6_tellsTown : MethodName := ⟨RX6, "tellsTown", "()Z"⟩
abbrev cX6_housesTold : ByteArray := prog_8_method_7_code
def yX6_housesTold : MethodName := ⟨RX6, "housesTold", "()I"⟩
abbrev cX6_houseTold : ByteArray := prog_8_method_8_code
def yX6_houseTold : MethodName := ⟨RX6, "houseTold", "(I)LKeyOnStreet$House;"⟩
abbrev cX6_digitAt : ByteArray := prog_8_method_9_code
def yX6_digitAt : MethodName := ⟨RX6, "digitAt", "(I)I"⟩
def RX7 : String := "KeyOnStreet$Rounds"
def TX7 : u_T := fun k => match k with
  | 0 => ("KeyOnStreet$Rounds", "street", "LKeyOnStreet$Town;", true)
  | 1 => ("KeyOnStreet$Rounds", "keys", "[LKeyOnStreet$Key;", true)
  | 2 => ("KeyOnStreet$Rounds", "order", "[I", true)
  | 3 => ("KeyOnStreet$Rounds", "bestOrder", "[I", true)
  | 4 => ("KeyOnStreet$Rounds", "bestLength", "I", false)
  | 5 => ("KeyOnStreet$Rounds", "countsLate", "Z", false)
  | 6 => ("KeyOnStreet$Rounds", "midwivesFirst", "Z", false)
  | 7 => ("KeyOnStreet$Rounds", "bestLate", "I", false)
  | _ => ("KeyOnStreet$Rounds", "bestEnd", "I", false)
def tyX7 : Nat → FieldType := fun k => match k with
  | 0 => .object "KeyOnStreet$Town"
  | 1 => .array (.object "KeyOnStreet$Key")
  | 2 => .array .int
  | 3 => .array .int
  | 4 => .int
  | 5 => .boolean
  | 6 => .boolean
  | 7 => .int
  | _ => .int
abbrev wsX70 : List Cond := u_ws RX7 TX7 9
theorem nmX7 : ∀ a, a < 9 → ∀ b, b < 9 → a ≠ b → (TX7 a).2.1 ≠ (TX7 b).2.1 := by decide +kernel
theorem tyX7_ok : ∀ k, k < 9 → parseFieldDescriptor (TX7 k).2.2.1 = some (tyX7 k) := by decide +kernel
abbrev cX7_init : ByteArray := prog_9_method_1_code
def yX7_init : MethodName := ⟨RX7, "<init>", "(LKeyOnStreet$Town;)V"⟩
abbrev cX7_seekBest : ByteArray := prog_9_method_2_code
def yX7_seekBest : MethodName := ⟨RX7, "seekBest", "(LKeyOnStreet$Night;I)V"⟩
abbrev cX7_seekShortest : ByteArray := prog_9_method_3_code
def yX7_seekShortest : MethodName := ⟨RX7, "seekShortest", "(LKeyOnStreet$Night;)I"⟩
abbrev cX7_seekWithTwoKeys : ByteArray := prog_9_method_4_code
def yX7_seekWithTwoKeys : MethodName := ⟨RX7, "seekWithTwoKeys", "(LKeyOnStreet$Night;)I"⟩
abbrev cX7_bestHouse : ByteArray := prog_9_method_5_code
def yX7_bestHouse : MethodName := ⟨RX7, "bestHouse", "(I)I"⟩
abbrev cX7_seek : ByteArray := prog_9_method_6_code
def yX7_seek : MethodName := ⟨RX7, "seek", "(IILKeyOnStreet$Key;)V"⟩
abbrev cX7_goOn : ByteArray := prog_9_method_7_code
def yX7_goOn : MethodName := ⟨RX7, "goOn", "(III)V"⟩
abbrev cX7_openThenGoOn : ByteArray := prog_9_method_8_code
def yX7_openThenGoOn : MethodName := ⟨RX7, "openThenGoOn", "(IIII)V"⟩
abbrev cX7_isBetter : ByteArray := prog_9_method_9_code
def yX7_isBetter : MethodName := ⟨RX7, "isBetter", "(II)Z"⟩
abbrev cX7_keepRound : ByteArray := prog_9_method_10_code
def yX7_keepRound : MethodName := ⟨RX7, "keepRound", "(II)V"⟩
def RX8 : String := "KeyOnStreet$Town"
def TX8 : u_T := fun k => match k with
  | 0 => ("KeyOnStreet$Town", "row", "[LKeyOnStreet$House;", true)
  | 1 => ("KeyOnStreet$Town", "noHouse", "LKeyOnStreet$House;", true)
  | 2 => ("KeyOnStreet$Town", "houses", "I", false)
  | _ => ("KeyOnStreet$Town", "midwives", "I", false)
def tyX8 : Nat → FieldType := fun k => match k with
  | 0 => .array (.object "KeyOnStreet$House")
  | 1 => .object "KeyOnStreet$House"
  | 2 => .int
  | _ => .int
abbrev wsX80 : List Cond := u_ws RX8 TX8 4
theorem nmX8 : ∀ a, a < 4 → ∀ b, b < 4 → a ≠ b → (TX8 a).2.1 ≠ (TX8 b).2.1 := by decide +kernel
theorem tyX8_ok : ∀ k, k < 4 → parseFieldDescriptor (TX8 k).2.2.1 = some (tyX8 k) := by decide +kernel
abbrev cX8_init : ByteArray := prog_10_method_1_code
def yX8_init : MethodName := ⟨RX8, "<init>", "()V"⟩
abbrev cX8_readFrom : ByteArray := prog_10_method_2_code
def yX8_readFrom : MethodName := ⟨RX8, "readFrom", "(LKeyOnStreet$Page;)V"⟩
abbrev cX8_has : ByteArray := prog_10_method_3_code
def yX8_has : MethodName := ⟨RX8, "has", "(I)Z"⟩
abbrev cX8_at : ByteArray := prog_10_method_4_code
def yX8_at : MethodName := ⟨RX8, "at", "(I)LKeyOnStreet$House;"⟩
abbrev cX8_mayBeOpened : ByteArray := prog_10_method_5_code
def yX8_mayBeOpened : MethodName := ⟨RX8, "mayBeOpened", "(I)I"⟩
def RX9 : String := "KeyOnStreet$Widow"
def TX9 : u_T := fun k => match k with
  | 0 => ("KeyOnStreet$House", "place", "I", true)
  | 1 => ("KeyOnStreet$House", "latest", "I", true)
  | _ => ("KeyOnStreet$House", "people", "I", true)
def tyX9 : Nat → FieldType := fun k => match k with
  | 0 => .int
  | 1 => .int
  | _ => .int
abbrev wsX90 : List Cond := u_ws RX9 TX9 3
theorem nmX9 : ∀ a, a < 3 → ∀ b, b < 3 → a ≠ b → (TX9 a).2.1 ≠ (TX9 b).2.1 := by decide +kernel
theorem tyX9_ok : ∀ k, k < 3 → parseFieldDescriptor (TX9 k).2.2.1 = some (tyX9 k) := by decide +kernel
abbrev cX9_init : ByteArray := prog_11_method_1_code
def yX9_init : MethodName := ⟨RX9, "<init>", "(III)V"⟩
abbrev cX9_kind : ByteArray := prog_11_method_2_code
def yX9_kind : MethodName := ⟨RX9, "kind", "()I"⟩
abbrev cX9_openingTakes : ByteArray := prog_11_method_3_code
def yX9_openingTakes : MethodName := ⟨RX9, "openingTakes", "()I"⟩
def RX10 : String := "KeyOnStreet"
def TX10 : u_T := fun k => match k with
  | 0 => ("KeyOnStreet", "page", "LKeyOnStreet$Page;", true)
  | 1 => ("KeyOnStreet", "street", "LKeyOnStreet$Town;", true)
  | 2 => ("KeyOnStreet", "now", "LKeyOnStreet$Night;", true)
  | 3 => ("KeyOnStreet", "kept", "LKeyOnStreet$Night;", true)
  | 4 => ("KeyOnStreet", "trial", "LKeyOnStreet$Night;", true)
  | 5 => ("KeyOnStreet", "rounds", "LKeyOnStreet$Rounds;", true)
  | 6 => ("KeyOnStreet", "hasImage", "Z", false)
  | 7 => ("KeyOnStreet", "townsRead", "I", false)
  | 8 => ("KeyOnStreet", "hangsDone", "I", false)
  | 9 => ("KeyOnStreet", "guessMany", "I", false)
  | _ => ("KeyOnStreet", "guessLeast", "I", false)
