/-! ===== BEGIN words of one list among another's, by their places ===== -/
theorem goodIn_r {big : List Cond} (ws : List Cond) (ps : List Nat) (hp : ws = ps.filterMap (fun i => big[i]?)) (h : ws.all goodWord = true) : GoodIn big ws := by
  intro w hw
  have h1 := List.all_eq_true.mp h w hw
  rw [hp] at hw
  obtain ⟨i, -, hi⟩ := List.mem_filterMap.mp hw
  have hm : w ∈ big := by first | exact List.mem_of_getElem? hi | exact List.getElem?_mem hi
  exact ⟨hm, good_of_word h1⟩
theorem goodIn_app {big a b : List Cond} (ha : GoodIn big a) (hb : GoodIn big b) : GoodIn big (a ++ b) := fun w h => (List.mem_append.mp h).elim (ha w) (hb w)
theorem goodIn_ca {big a b : List Cond} {c : Cond} (ha : GoodIn big (c :: a)) (hb : GoodIn big b) : GoodIn big (c :: (a ++ b)) := fun w h => (List.mem_cons.mp h).elim (fun e => ha w (List.mem_cons.mpr (Or.inl e))) (fun h => (List.mem_append.mp h).elim (fun h => ha w (List.mem_cons.mpr (Or.inr h))) (hb w))
theorem goodIn_sub {big ws : List Cond} (hm : ∀ w ∈ ws, w ∈ big) (h : ws.all goodWord = true) : GoodIn big ws := fun w hw => ⟨hm w hw, good_of_word (List.all_eq_true.mp h w hw)⟩
/-! ===== END ===== -/
theorem vr_outer (c : ClassId) (N h0 : Nat) : ∀ i : Nat, Jvm.Free.Multi.outerC c N h0 i = arrV c N (fun j => va_rf (if j < i then some (h0 + 1 + j) else none))
  | 0 => by
    show ({ cls := c, slots := Array.replicate N .null, vm := .none } : Cell) = _
    rw [arrV_new]
    refine congrArg (arrV c N) (funext fun j => ?_)
    simp [va_rf]
  | i + 1 => by
    show (Jvm.Free.Multi.outerC c N h0 i).setSlot i (.ref (h0 + 1 + i)) = _
    rw [vr_outer c N h0 i, arrV_store]
    refine congrArg (arrV c N) (funext fun j => ?_)
    by_cases e : j = i
    · subst e
      simp [updV, va_rf]
    · by_cases h : j < i
      · simp [updV, e, h, Nat.lt_succ_of_lt h]
      · simp [updV, e, h, show ¬ j < i + 1 by omega]
/-! ===== BEGIN printed: names, fields, word lists, decode rows ===== -/
def RX0 : String := "GoldLeaves$Bindery"
def TX0 : u_T := fun k => match k with
  | 0 => ("GoldLeaves$Bindery", "leafCount", "I", false)
  | 1 => ("GoldLeaves$Bindery", "bookCount", "I", false)
  | _ => ("GoldLeaves$Bindery", "boundLeaves", "I", false)
def tyX0 : Nat → FieldType := fun k => match k with
  | 0 => .int
  | 1 => .int
  | _ => .int
abbrev wsX00 : List Cond := u_ws RX0 TX0 3
theorem nmX0 : ∀ a, a < 3 → ∀ b, b < 3 → a ≠ b → (TX0 a).2.1 ≠ (TX0 b).2.1 := by decide +kernel
theorem tyX0_ok : ∀ k, k < 3 → parseFieldDescriptor (TX0 k).2.2.1 = some (tyX0 k) := by decide +kernel
abbrev cX0_init : ByteArray := prog_2_method_1_code
def yX0_init : MethodName := ⟨RX0, "<init>", "()V"⟩
abbrev cX0_makeLeaf : ByteArray := prog_2_method_2_code
def yX0_makeLeaf : MethodName := ⟨RX0, "makeLeaf", "(LGoldLeaves$Piece;I)I"⟩
abbrev cX0_bindBooks : ByteArray := prog_2_method_3_code
def yX0_bindBooks : MethodName := ⟨RX0, "bindBooks", "(LGoldLeaves$Stock;I)I"⟩
def RX1 : String := "GoldLeaves$ColourReader"
def TX1 : u_T := fun k => match k with
  | 0 => ("GoldLeaves$ColourReader", "tape", "LGoldLeaves$Tape;", true)
  | 1 => ("GoldLeaves$ColourReader", "nameStarts", "[I", true)
  | _ => ("GoldLeaves$ColourReader", "nameStops", "[I", true)
def tyX1 : Nat → FieldType := fun k => match k with
  | 0 => .object "GoldLeaves$Tape"
  | 1 => .array .int
  | _ => .array .int
abbrev wsX10 : List Cond := u_ws RX1 TX1 3
theorem nmX1 : ∀ a, a < 3 → ∀ b, b < 3 → a ≠ b → (TX1 a).2.1 ≠ (TX1 b).2.1 := by decide +kernel
theorem tyX1_ok : ∀ k, k < 3 → parseFieldDescriptor (TX1 k).2.2.1 = some (tyX1 k) := by decide +kernel
abbrev cX1_init : ByteArray := prog_3_method_1_code
def yX1_init : MethodName := ⟨RX1, "<init>", "()V"⟩
abbrev cX1_readInto : ByteArray := prog_3_method_2_code
def yX1_readInto : MethodName := ⟨RX1, "readInto", "(LGoldLeaves$Palette;)Z"⟩
abbrev cX1_readColour : ByteArray := prog_3_method_3_code
def yX1_readColour : MethodName := ⟨RX1, "readColour", "(LGoldLeaves$Palette;)Z"⟩
abbrev cX1_takeName : ByteArray := prog_3_method_4_code
def yX1_takeName : MethodName := ⟨RX1, "takeName", "(I)Z"⟩
abbrev cX1_readTest : ByteArray := prog_3_method_5_code
def yX1_readTest : MethodName := ⟨RX1, "readTest", "(LGoldLeaves$Palette;)Z"⟩
abbrev cX1_metalTold : ByteArray := prog_3_method_6_code
def yX1_metalTold : MethodName := ⟨RX1, "metalTold", "()I"⟩
abbrev cX1_takeMark : ByteArray := prog_3_method_7_code
def yX1_takeMark : MethodName := ⟨RX1, "takeMark", "(C)Z"⟩
def RX2 : String := "GoldLeaves$Gatehouse"
def TX2 : u_T := fun k => match k with
  | 0 => ("GoldLeaves$Gatehouse", "doors", "[I", true)
  | 1 => ("GoldLeaves$Gatehouse", "passedGrains", "[I", true)
  | 2 => ("GoldLeaves$Gatehouse", "passedHours", "[I", true)
  | 3 => ("GoldLeaves$Gatehouse", "knownHours", "[I", true)
  | 4 => ("GoldLeaves$Gatehouse", "passed", "I", false)
  | 5 => ("GoldLeaves$Gatehouse", "rooms", "[I", true)
  | 6 => ("GoldLeaves$Gatehouse", "foundHours", "[I", true)
  | 7 => ("GoldLeaves$Gatehouse", "foundGrains", "[I", true)
  | _ => ("GoldLeaves$Gatehouse", "found", "I", false)
def tyX2 : Nat → FieldType := fun k => match k with
  | 0 => .array .int
  | 1 => .array .int
  | 2 => .array .int
  | 3 => .array .int
  | 4 => .int
  | 5 => .array .int
  | 6 => .array .int
  | 7 => .array .int
  | _ => .int
abbrev wsX20 : List Cond := u_ws RX2 TX2 9
theorem nmX2 : ∀ a, a < 9 → ∀ b, b < 9 → a ≠ b → (TX2 a).2.1 ≠ (TX2 b).2.1 := by decide +kernel
theorem tyX2_ok : ∀ k, k < 9 → parseFieldDescriptor (TX2 k).2.2.1 = some (tyX2 k) := by decide +kernel
abbrev cX2_init : ByteArray := prog_4_method_1_code
def yX2_init : MethodName := ⟨RX2, "<init>", "()V"⟩
abbrev cX2_addPassed : ByteArray := prog_4_method_2_code
def yX2_addPassed : MethodName := ⟨RX2, "addPassed", "(IIII)I"⟩
abbrev cX2_addFound : ByteArray := prog_4_method_3_code
def yX2_addFound : MethodName := ⟨RX2, "addFound", "(III)I"⟩
abbrev cX2_inRoom : ByteArray := prog_4_method_4_code
def yX2_inRoom : MethodName := ⟨RX2, "inRoom", "(III)I"⟩
abbrev cX2_through : ByteArray := prog_4_method_5_code
def yX2_through : MethodName := ⟨RX2, "through", "(III)I"⟩
abbrev cX2_firstMissing : ByteArray := prog_4_method_6_code
def yX2_firstMissing : MethodName := ⟨RX2, "firstMissing", "(II)I"⟩
def RX3 : String := "GoldLeaves$PackNeed"
def TX3 : u_T := fun k => match k with
  | 0 => ("GoldLeaves$PackNeed", "skins", "I", false)
  | 1 => ("GoldLeaves$PackNeed", "ageFrom", "I", false)
  | 2 => ("GoldLeaves$PackNeed", "ageTo", "I", false)
  | 3 => ("GoldLeaves$PackNeed", "dryFrom", "I", false)
  | _ => ("GoldLeaves$PackNeed", "dryTo", "I", false)
def tyX3 : Nat → FieldType := fun k => match k with
  | 0 => .int
  | 1 => .int
  | 2 => .int
  | 3 => .int
  | _ => .int
abbrev wsX30 : List Cond := u_ws RX3 TX3 5
theorem nmX3 : ∀ a, a < 5 → ∀ b, b < 5 → a ≠ b → (TX3 a).2.1 ≠ (TX3 b).2.1 := by decide +kernel
theorem tyX3_ok : ∀ k, k < 5 → parseFieldDescriptor (TX3 k).2.2.1 = some (tyX3 k) := by decide +kernel
abbrev cX3_init : ByteArray := prog_5_method_1_code
def yX3_init : MethodName := ⟨RX3, "<init>", "()V"⟩
def RX4 : String := "GoldLeaves$Palette"
def TX4 : u_T := fun k => match k with
  | 0 => ("GoldLeaves$Palette", "size", "I", false)
  | 1 => ("GoldLeaves$Palette", "tests", "I", false)
  | 2 => ("GoldLeaves$Palette", "owners", "[I", true)
  | 3 => ("GoldLeaves$Palette", "metals", "[I", true)
  | 4 => ("GoldLeaves$Palette", "lows", "[I", true)
  | _ => ("GoldLeaves$Palette", "highs", "[I", true)
def tyX4 : Nat → FieldType := fun k => match k with
  | 0 => .int
  | 1 => .int
  | 2 => .array .int
  | 3 => .array .int
  | 4 => .array .int
  | _ => .array .int
abbrev wsX40 : List Cond := u_ws RX4 TX4 6
theorem nmX4 : ∀ a, a < 6 → ∀ b, b < 6 → a ≠ b → (TX4 a).2.1 ≠ (TX4 b).2.1 := by decide +kernel
theorem tyX4_ok : ∀ k, k < 6 → parseFieldDescriptor (TX4 k).2.2.1 = some (tyX4 k) := by decide +kernel
abbrev cX4_init : ByteArray := prog_6_method_1_code
def yX4_init : MethodName := ⟨RX4, "<init>", "()V"⟩
abbrev cX4_empty : ByteArray := prog_6_method_2_code
def yX4_empty : MethodName := ⟨RX4, "empty", "()V"⟩
abbrev cX4_hasRoomForTest : ByteArray := prog_6_method_3_code
def yX4_hasRoomForTest : MethodName := ⟨RX4, "hasRoomForTest", "()Z"⟩
abbrev cX4_addTest : ByteArray := prog_6_method_4_code
def yX4_addTest : MethodName := ⟨RX4, "addTest", "(III)V"⟩
abbrev cX4_firstThatSuits : ByteArray := prog_6_method_5_code
def yX4_firstThatSuits : MethodName := ⟨RX4, "firstThatSuits", "(LGoldLeaves$Piece;LGoldLeaves$Stock;)I"⟩
abbrev cX4_allHold : ByteArray := prog_6_method_6_code
def yX4_allHold : MethodName := ⟨RX4, "allHold", "(ILGoldLeaves$Piece;LGoldLeaves$Stock;)Z"⟩
abbrev cX4_holds : ByteArray := prog_6_method_7_code
def yX4_holds : MethodName := ⟨RX4, "holds", "(ILGoldLeaves$Piece;LGoldLeaves$Stock;)Z"⟩
def RX5 : String := "GoldLeaves$Piece"
def TX5 : u_T := fun k => match k with
  | 0 => ("GoldLeaves$Piece", "grains", "[I", true)
  | 1 => ("GoldLeaves$Piece", "weight", "I", false)
  | 2 => ("GoldLeaves$Piece", "area", "I", false)
  | 3 => ("GoldLeaves$Piece", "book", "I", false)
  | _ => ("GoldLeaves$Piece", "gone", "Z", false)
def tyX5 : Nat → FieldType := fun k => match k with
  | 0 => .array .int
  | 1 => .int
  | 2 => .int
  | 3 => .int
  | _ => .boolean
abbrev wsX50 : List Cond := u_ws RX5 TX5 5
theorem nmX5 : ∀ a, a < 5 → ∀ b, b < 5 → a ≠ b → (TX5 a).2.1 ≠ (TX5 b).2.1 := by decide +kernel
theorem tyX5_ok : ∀ k, k < 5 → parseFieldDescriptor (TX5 k).2.2.1 = some (tyX5 k) := by decide +kernel
abbrev cX5_init : ByteArray := prog_7_method_1_code
def yX5_init : MethodName := ⟨RX5, "<init>", "()V"⟩
abbrev cX5_isLeaf : ByteArray := prog_7_method_2_code
def yX5_isLeaf : MethodName := ⟨RX5, "isLeaf", "()Z"⟩
def RX6 : String := "GoldLeaves$SkinChest"
def TX6 : u_T := fun k => match k with
  | 0 => ("GoldLeaves$SkinChest", "needs", "[LGoldLeaves$PackNeed;", true)
  | 1 => ("GoldLeaves$SkinChest", "ages", "[I", true)
  | 2 => ("GoldLeaves$SkinChest", "drynesses", "[I", true)
  | 3 => ("GoldLeaves$SkinChest", "chosen", "[Z", true)
  | _ => ("GoldLeaves$SkinChest", "size", "I", false)
def tyX6 : Nat → FieldType := fun k => match k with
  | 0 => .array (.object "GoldLeaves$PackNeed")
  | 1 => .array .int
  | 2 => .array .int
  | 3 => .array .boolean
  | _ => .int
abbrev wsX60 : List Cond := u_ws RX6 TX6 5
theorem nmX6 : ∀ a, a < 5 → ∀ b, b < 5 → a ≠ b → (TX6 a).2.1 ≠ (TX6 b).2.1 := by decide +kernel
theorem tyX6_ok : ∀ k, k < 5 → parseFieldDescriptor (TX6 k).2.2.1 = some (tyX6 k) := by decide +kernel
abbrev cX6_init : ByteArray := prog_8_method_1_code
def yX6_init : MethodName := ⟨RX6, "<init>", "()V"⟩
abbrev cX6_has : ByteArray := prog_8_method_2_code
def yX6_has : MethodName := ⟨RX6, "has", "(I)Z"⟩
abbrev cX6_needOf : ByteArray := prog_8_method_3_code
def yX6_needOf : MethodName := ⟨RX6, "needOf", "(I)LGoldLeaves$PackNeed;"⟩
abbrev cX6_addSkin : ByteArray := prog_8_method_4_code
def yX6_addSkin : MethodName := ⟨RX6, "addSkin", "(I)I"⟩
abbrev cX6_changeDryness : ByteArray := prog_8_method_5_code
def yX6_changeDryness : MethodName := ⟨RX6, "changeDryness", "(II)I"⟩
abbrev cX6_beatPacks : ByteArray := prog_8_method_6_code
def yX6_beatPacks : MethodName := ⟨RX6, "beatPacks", "(II)I"⟩
abbrev cX6_chooseFor : ByteArray := prog_8_method_7_code
def yX6_chooseFor : MethodName := ⟨RX6, "chooseFor", "(LGoldLeaves$PackNeed;)Z"⟩
abbrev cX6_oldestFor : ByteArray := prog_8_method_8_code
def yX6_oldestFor : MethodName := ⟨RX6, "oldestFor", "(LGoldLeaves$PackNeed;)I"⟩
abbrev cX6_suits : ByteArray := prog_8_method_9_code
def yX6_suits : MethodName := ⟨RX6, "suits", "(ILGoldLeaves$PackNeed;)Z"⟩
abbrev cX6_ageChosen : ByteArray := prog_8_method_10_code
def yX6_ageChosen : MethodName := ⟨RX6, "ageChosen", "()V"⟩
def RX7 : String := "GoldLeaves$Stock"
def TX7 : u_T := fun k => match k with
  | 0 => ("GoldLeaves$Stock", "pieces", "[LGoldLeaves$Piece;", true)
  | 1 => ("GoldLeaves$Stock", "thousandths", "[[I", true)
  | 2 => ("GoldLeaves$Stock", "rests", "[J", true)
  | 3 => ("GoldLeaves$Stock", "barCount", "I", false)
  | _ => ("GoldLeaves$Stock", "pieceCount", "I", false)
def tyX7 : Nat → FieldType := fun k => match k with
  | 0 => .array (.object "GoldLeaves$Piece")
  | 1 => .array (.array .int)
  | 2 => .array .long
  | 3 => .int
  | _ => .int
abbrev wsX70 : List Cond := u_ws RX7 TX7 5
theorem nmX7 : ∀ a, a < 5 → ∀ b, b < 5 → a ≠ b → (TX7 a).2.1 ≠ (TX7 b).2.1 := by decide +kernel
theorem tyX7_ok : ∀ k, k < 5 → parseFieldDescriptor (TX7 k).2.2.1 = some (tyX7 k) := by decide +kernel
abbrev cX7_init : ByteArray := prog_9_method_1_code
def yX7_init : MethodName := ⟨RX7, "<init>", "()V"⟩
abbrev cX7_living : ByteArray := prog_9_method_2_code
def yX7_living : MethodName := ⟨RX7, "living", "(I)LGoldLeaves$Piece;"⟩
abbrev cX7_addBar : ByteArray := prog_9_method_3_code
def yX7_addBar : MethodName := ⟨RX7, "addBar", "(III)I"⟩
abbrev cX7_cutOff : ByteArray := prog_9_method_4_code
def yX7_cutOff : MethodName := ⟨RX7, "cutOff", "(II)I"⟩
abbrev cX7_giveWholeShares : ByteArray := prog_9_method_5_code
def yX7_giveWholeShares : MethodName := ⟨RX7, "giveWholeShares", "(LGoldLeaves$Piece;LGoldLeaves$Piece;I)I"⟩
abbrev cX7_giveRests : ByteArray := prog_9_method_6_code
def yX7_giveRests : MethodName := ⟨RX7, "giveRests", "(LGoldLeaves$Piece;I)V"⟩
abbrev cX7_greatestRest : ByteArray := prog_9_method_7_code
def yX7_greatestRest : MethodName := ⟨RX7, "greatestRest", "()I"⟩
abbrev cX7_meltInto : ByteArray := prog_9_method_8_code
def yX7_meltInto : MethodName := ⟨RX7, "meltInto", "(II)I"⟩
abbrev cX7_metalIn : ByteArray := prog_9_method_9_code
def yX7_metalIn : MethodName := ⟨RX7, "metalIn", "(LGoldLeaves$Piece;I)J"⟩
abbrev cX7_livingPieces : ByteArray := prog_9_method_10_code
def yX7_livingPieces : MethodName := ⟨RX7, "livingPieces", "()I"⟩
abbrev cX7_allGrains : ByteArray := prog_9_method_11_code
def yX7_allGrains : MethodName := ⟨RX7, "allGrains", "()I"⟩
abbrev cX7_addPiece : ByteArray := prog_9_method_12_code
def yX7_addPiece : MethodName := ⟨RX7, "addPiece", "(LGoldLeaves$Piece;)I"⟩
def RX8 : String := "GoldLeaves$Tape"
def TX8 : u_T := fun k => match k with
  | 0 => ("GoldLeaves$Tape", "bytes", "[I", true)
  | 1 => ("GoldLeaves$Tape", "length", "I", false)
  | 2 => ("GoldLeaves$Tape", "kind", "I", false)
  | 3 => ("GoldLeaves$Tape", "start", "I", false)
  | _ => ("GoldLeaves$Tape", "stop", "I", false)
def tyX8 : Nat → FieldType := fun k => match k with
  | 0 => .array .int
  | 1 => .int
  | 2 => .int
  | 3 => .int
  | _ => .int
abbrev wsX80 : List Cond := u_ws RX8 TX8 5
theorem nmX8 : ∀ a, a < 5 → ∀ b, b < 5 → a ≠ b → (TX8 a).2.1 ≠ (TX8 b).2.1 := by decide +kernel
theorem tyX8_ok : ∀ k, k < 5 → parseFieldDescriptor (TX8 k).2.2.1 = some (tyX8 k) := by decide +kernel
abbrev cX8_init : ByteArray := prog_10_method_1_code
def yX8_init : MethodName := ⟨RX8, "<init>", "()V"⟩
abbrev cX8_appendFour : ByteArray := prog_10_method_2_code
def yX8_appendFour : MethodName := ⟨RX8, "appendFour", "(I)V"⟩
abbrev cX8_toFirstToken : ByteArray := prog_10_method_3_code
def yX8_toFirstToken : MethodName := ⟨RX8, "toFirstToken", "()V"⟩
abbrev cX8_toNextToken : ByteArray := prog_10_method_4_code
def yX8_toNextToken : MethodName := ⟨RX8, "toNextToken", "()V"⟩
abbrev cX8_kindOf : ByteArray := prog_10_method_5_code
def yX8_kindOf : MethodName := ⟨RX8, "kindOf", "(I)I"⟩
abbrev cX8_isMark : ByteArray := prog_10_method_6_code
def yX8_isMark : MethodName := ⟨RX8, "isMark", "(C)Z"⟩
abbrev cX8_isWord : ByteArray := prog_10_method_7_code
def yX8_isWord : MethodName := ⟨RX8, "isWord", "(Ljava/lang/String;)Z"⟩
abbrev cX8_isSameAs : ByteArray := prog_10_method_8_code
def yX8_isSameAs : MethodName := ⟨RX8, "isSameAs", "(II)Z"⟩
abbrev cX8_numberToThousand : ByteArray := prog_10_method_9_code
def yX8_numberToThousand : MethodName := ⟨RX8, "numberToThousand", "()I"⟩
def RX9 : String := "GoldLeaves"
def TX9 : u_T := fun k => match k with
  | 0 => ("GoldLeaves", "stock", "LGoldLeaves$Stock;", true)
  | 1 => ("GoldLeaves", "bindery", "LGoldLeaves$Bindery;", true)
  | 2 => ("GoldLeaves", "reader", "LGoldLeaves$ColourReader;", true)
  | 3 => ("GoldLeaves", "tape", "LGoldLeaves$Tape;", true)
  | 4 => ("GoldLeaves", "chest", "LGoldLeaves$SkinChest;", true)
  | 5 => ("GoldLeaves", "gates", "LGoldLeaves$Gatehouse;", true)
  | 6 => ("GoldLeaves", "palette", "LGoldLeaves$Palette;", false)
  | 7 => ("GoldLeaves", "draft", "LGoldLeaves$Palette;", false)
  | 8 => ("GoldLeaves", "faultPlace", "I", false)
  | _ => ("GoldLeaves", "refusal", "I", false)
def tyX9 : Nat → FieldType := fun k => match k with
  | 0 => .object "GoldLeaves$Stock"
  | 1 => .object "GoldLeaves$Bindery"
  | 2 => .object "GoldLeaves$ColourReader"
  | 3 => .object "GoldLeaves$Tape"
  | 4 => .object "GoldLeaves$SkinChest"
  | 5 => .object "GoldLeaves$Gatehouse"
  | 6 => .object "GoldLeaves$Palette"
  | 7 => .object "GoldLeaves$Palette"
  | 8 => .int
  | _ => .int
abbrev wsX90 : List Cond := u_ws RX9 TX9 10
theorem nmX9 : ∀ a, a < 10 → ∀ b, b < 10 → a ≠ b → (TX9 a).2.1 ≠ (TX9 b).2.1 := by decide +kernel
theorem tyX9_ok : ∀ k, k < 10 → parseFieldDescriptor (TX9 k).2.2.1 = some (tyX9 k) := by decide +kernel
abbrev cX9_init : ByteArray := prog_1_method_1_code
def yX9_init : MethodName := ⟨RX9, "<init>", "()V"⟩
abbrev cX9_bar : ByteArray := prog_1_method_2_code
def yX9_bar : MethodName := ⟨RX9, "bar", "(III)I"⟩
abbrev cX9_cut : ByteArray := prog_1_method_3_code
def yX9_cut : MethodName := ⟨RX9, "cut", "(II)I"⟩
abbrev cX9_melt : ByteArray := prog_1_method_4_code
def yX9_melt : MethodName := ⟨RX9, "melt", "(II)I"⟩
abbrev cX9_weight : ByteArray := prog_1_method_5_code
def yX9_weight : MethodName := ⟨RX9, "weight", "(I)I"⟩
abbrev cX9_from : ByteArray := prog_1_method_6_code
def yX9_from : MethodName := ⟨RX9, "from", "(II)I"⟩
abbrev cX9_part : ByteArray := prog_1_method_7_code
def yX9_part : MethodName := ⟨RX9, "part", "(II)J"⟩
abbrev cX9_feed : ByteArray := prog_1_method_8_code
def yX9_feed : MethodName := ⟨RX9, "feed", "(IIIII)I"⟩
abbrev cX9_end : ByteArray := prog_1_method_9_code
def yX9_end : MethodName := ⟨RX9, "end", "(I)I"⟩
abbrev cX9_colours : ByteArray := prog_1_method_10_code
def yX9_colours : MethodName := ⟨RX9, "colours", "()I"⟩
abbrev cX9_fault : ByteArray := prog_1_method_11_code
def yX9_fault : MethodName := ⟨RX9, "fault", "()I"⟩
abbrev cX9_colour : ByteArray := prog_1_method_12_code
def yX9_colour : MethodName := ⟨RX9, "colour", "(I)I"⟩
abbrev cX9_skin : ByteArray := prog_1_method_13_code
def yX9_skin : MethodName := ⟨RX9, "skin", "(I)I"⟩
abbrev cX9_dry : ByteArray := prog_1_method_14_code
def yX9_dry : MethodName := ⟨RX9, "dry", "(II)I"⟩
abbrev cX9_age : ByteArray := prog_1_method_15_code
def yX9_age : MethodName := ⟨RX9, "age", "(I)I"⟩
abbrev cX9_pack : ByteArray := prog_1_method_16_code
def yX9_pack : MethodName := ⟨RX9, "pack", "(IIIIII)I"⟩
abbrev cX9_beat : ByteArray := prog_1_method_17_code
def yX9_beat : MethodName := ⟨RX9, "beat", "(II)I"⟩
abbrev cX9_leaf : ByteArray := prog_1_method_18_code
def yX9_leaf : MethodName := ⟨RX9, "leaf", "(II)I"⟩
abbrev cX9_flatter : ByteArray := prog_1_method_19_code
def yX9_flatter : MethodName := ⟨RX9, "flatter", "(II)I"⟩
abbrev cX9_bind : ByteArray := prog_1_method_20_code
def yX9_bind : MethodName := ⟨RX9, "bind", "(I)I"⟩
abbrev cX9_book : ByteArray := prog_1_method_21_code
def yX9_book : MethodName := ⟨RX9, "book", "(I)I"⟩
abbrev cX9_surface : ByteArray := prog_1_method_22_code
def yX9_surface : MethodName := ⟨RX9, "surface", "(IIII)J"⟩
abbrev cX9_pass : ByteArray := prog_1_method_23_code
def yX9_pass : MethodName := ⟨RX9, "pass", "(IIII)I"⟩
abbrev cX9_held : ByteArray := prog_1_method_24_code
def yX9_held : MethodName := ⟨RX9, "held", "(III)I"⟩
abbrev cX9_find : ByteArray := prog_1_method_25_code
def yX9_find : MethodName := ⟨RX9, "find", "(III)I"⟩
abbrev cX9_missing : ByteArray := prog_1_method_26_code
def yX9_missing : MethodName := ⟨RX9, "missing", "(II)I"⟩
abbrev cX9_count : ByteArray := prog_1_method_27_code
def yX9_count : MethodName := ⟨RX9, "count", "(I)I"⟩
abbrev cX9_status : ByteArray := prog_1_method_28_code
def yX9_status : MethodName := ⟨RX9, "status", "()I"⟩
abbrev cX9_noted : ByteArray := prog_1_method_29_code
def yX9_noted : MethodName := ⟨RX9, "noted", "(I)I"⟩
abbrev cX9_within : ByteArray := prog_1_method_30_code
def yX9_within : MethodName := ⟨RX9, "within", "(III)Z"⟩
abbrev cX9_isSpan : ByteArray := prog_1_method_31_code
def yX9_isSpan : MethodName := ⟨RX9, "isSpan", "(III)Z"⟩
abbrev cX9_isHour : ByteArray := prog_1_method_32_code
def yX9_isHour : MethodName := ⟨RX9, "isHour", "(I)Z"⟩
abbrev cX9_leavesAlong : ByteArray := prog_1_method_33_code
def yX9_leavesAlong : MethodName := ⟨RX9, "leavesAlong", "(III)J"⟩
def RX10 : String := "GoldLeavesModel"
def TX10 : u_T := fun k => match k with
  | 0 => ("GoldLeavesModel", "thrown", "I", false)
  | 1 => ("GoldLeavesModel", "status", "I", false)
  | 2 => ("GoldLeavesModel", "bars", "I", false)
  | 3 => ("GoldLeavesModel", "metals", "[I", true)
  | 4 => ("GoldLeavesModel", "pieces", "I", false)
  | 5 => ("GoldLeavesModel", "isGone", "[Z", true)
  | 6 => ("GoldLeavesModel", "grains", "[I", true)
  | 7 => ("GoldLeavesModel", "areas", "[I", true)
  | 8 => ("GoldLeavesModel", "books", "[I", true)
  | 9 => ("GoldLeavesModel", "bookMany", "I", false)
  | 10 => ("GoldLeavesModel", "colourMany", "I", false)
  | 11 => ("GoldLeavesModel", "cFrom", "[I", true)
  | 12 => ("GoldLeavesModel", "cTests", "[I", true)
  | 13 => ("GoldLeavesModel", "nColours", "I", false)
  | 14 => ("GoldLeavesModel", "nTests", "I", false)
  | 15 => ("GoldLeavesModel", "nFrom", "[I", true)
  | 16 => ("GoldLeavesModel", "nTest", "[I", true)
  | 17 => ("GoldLeavesModel", "nameAt", "[I", true)
  | 18 => ("GoldLeavesModel", "nameLong", "[I", true)
  | 19 => ("GoldLeavesModel", "tape", "[I", true)
  | 20 => ("GoldLeavesModel", "taped", "I", false)
  | 21 => ("GoldLeavesModel", "from", "I", false)
  | 22 => ("GoldLeavesModel", "to", "I", false)
  | 23 => ("GoldLeavesModel", "sort", "I", false)
  | 24 => ("GoldLeavesModel", "worth", "J", false)
  | 25 => ("GoldLeavesModel", "fault", "I", false)
  | 26 => ("GoldLeavesModel", "bad", "Z", false)
  | 27 => ("GoldLeavesModel", "skins", "I", false)
  | 28 => ("GoldLeavesModel", "dryness", "[I", true)
  | 29 => ("GoldLeavesModel", "ages", "[I", true)
  | 30 => ("GoldLeavesModel", "isIn", "[Z", true)
  | 31 => ("GoldLeavesModel", "packSkins", "[I", true)
  | 32 => ("GoldLeavesModel", "packAges", "[I", true)
  | 33 => ("GoldLeavesModel", "packDry", "[I", true)
  | 34 => ("GoldLeavesModel", "leafMany", "I", false)
  | 35 => ("GoldLeavesModel", "passed", "I", false)
  | 36 => ("GoldLeavesModel", "pDoor", "[I", true)
  | 37 => ("GoldLeavesModel", "pGrains", "[I", true)
  | 38 => ("GoldLeavesModel", "pHour", "[I", true)
  | 39 => ("GoldLeavesModel", "pKnown", "[I", true)
  | 40 => ("GoldLeavesModel", "found", "I", false)
  | 41 => ("GoldLeavesModel", "fRoom", "[I", true)
  | 42 => ("GoldLeavesModel", "fHour", "[I", true)
  | _ => ("GoldLeavesModel", "fGrains", "[I", true)
def tyX10 : Nat → FieldType := fun k => match k with
  | 0 => .int
  | 1 => .int
  | 2 => .int
  | 3 => .array .int
  | 4 => .int
  | 5 => .array .boolean
  | 6 => .array .int
  | 7 => .array .int
  | 8 => .array .int
  | 9 => .int
  | 10 => .int
  | 11 => .array .int
  | 12 => .array .int
  | 13 => .int
  | 14 => .int
  | 15 => .array .int
  | 16 => .array .int
  | 17 => .array .int
  | 18 => .array .int
  | 19 => .array .int
  | 20 => .int
  | 21 => .int
  | 22 => .int
  | 23 => .int
  | 24 => .long
  | 25 => .int
  | 26 => .boolean
  | 27 => .int
  | 28 => .array .int
  | 29 => .array .int
  | 30 => .array .boolean
  | 31 => .array .int
  | 32 => .array .int
  | 33 => .array .int
  | 34 => .int
  | 35 => .int
  | 36 => .array .int
  | 37 => .array .int
  | 38 => .array .int
  | 39 => .array .int
  | 40 => .int
  | 41 => .array .int
  | 42 => .array .int
  | _ => .array .int
abbrev wsX100 : List Cond := u_ws RX10 TX10 44
theorem nmX10 : ∀ a, a < 44 → ∀ b, b < 44 → a ≠ b → (TX10 a).2.1 ≠ (TX10 b).2.1 := by decide +kernel
theorem tyX10_ok : ∀ k, k < 44 → parseFieldDescriptor (TX10 k).2.2.1 = some (tyX10 k) := by decide +kernel
abbrev cX10_init : ByteArray := prog_12_method_1_code
def yX10_init : MethodName := ⟨RX10, "<init>", "()V"⟩
abbrev cX10_in : ByteArray := prog_12_method_3_code
def yX10_in : MethodName := ⟨RX10, "in", "(JJJ)Z"⟩
abbrev cX10_told : ByteArray := prog_12_method_4_code
def yX10_told : MethodName := ⟨RX10, "told", "(I)I"⟩
abbrev cX10_isPiece : ByteArray := prog_12_method_5_code
def yX10_isPiece : MethodName := ⟨RX10, "isPiece", "(I)Z"⟩
abbrev cX10_isLeaf : ByteArray := prog_12_method_6_code
def yX10_isLeaf : MethodName := ⟨RX10, "isLeaf", "(I)Z"⟩
abbrev cX10_weightOf : ByteArray := prog_12_method_7_code
def yX10_weightOf : MethodName := ⟨RX10, "weightOf", "(I)I"⟩
abbrev cX10_addPiece : ByteArray := prog_12_method_8_code
def yX10_addPiece : MethodName := ⟨RX10, "addPiece", "()V"⟩
abbrev cX10_bar : ByteArray := prog_12_method_9_code
def yX10_bar : MethodName := ⟨RX10, "bar", "(III)I"⟩
abbrev cX10_cut : ByteArray := prog_12_method_10_code
def yX10_cut : MethodName := ⟨RX10, "cut", "(II)I"⟩
abbrev cX10_melt : ByteArray := prog_12_method_11_code
def yX10_melt : MethodName := ⟨RX10, "melt", "(II)I"⟩
abbrev cX10_weight : ByteArray := prog_12_method_12_code
def yX10_weight : MethodName := ⟨RX10, "weight", "(I)I"⟩
abbrev cX10_from : ByteArray := prog_12_method_13_code
def yX10_from : MethodName := ⟨RX10, "from", "(II)I"⟩
abbrev cX10_partOf : ByteArray := prog_12_method_14_code
def yX10_partOf : MethodName := ⟨RX10, "partOf", "(II)J"⟩
abbrev cX10_part : ByteArray := prog_12_method_15_code
def yX10_part : MethodName := ⟨RX10, "part", "(II)J"⟩
abbrev cX10_four : ByteArray := prog_12_method_16_code
def yX10_four : MethodName := ⟨RX10, "four", "(I)V"⟩
abbrev cX10_feed : ByteArray := prog_12_method_17_code
def yX10_feed : MethodName := ⟨RX10, "feed", "(IIIII)I"⟩
abbrev cX10_end : ByteArray := prog_12_method_18_code
def yX10_end : MethodName := ⟨RX10, "end", "(I)I"⟩
abbrev cX10_isSmall : ByteArray := prog_12_method_19_code
def yX10_isSmall : MethodName := ⟨RX10, "isSmall", "(I)Z"⟩
abbrev cX10_isDigit : ByteArray := prog_12_method_20_code
def yX10_isDigit : MethodName := ⟨RX10, "isDigit", "(I)Z"⟩
abbrev cX10_next : ByteArray := prog_12_method_21_code
def yX10_next : MethodName := ⟨RX10, "next", "()V"⟩
abbrev cX10_isWord : ByteArray := prog_12_method_22_code
def yX10_isWord : MethodName := ⟨RX10, "isWord", "(IIIIII)Z"⟩
abbrev cX10_isSign : ByteArray := prog_12_method_23_code
def yX10_isSign : MethodName := ⟨RX10, "isSign", "(I)Z"⟩
abbrev cX10_must : ByteArray := prog_12_method_24_code
def yX10_must : MethodName := ⟨RX10, "must", "(Z)V"⟩
abbrev cX10_number : ByteArray := prog_12_method_25_code
def yX10_number : MethodName := ⟨RX10, "number", "(J)I"⟩
abbrev cX10_isNamed : ByteArray := prog_12_method_26_code
def yX10_isNamed : MethodName := ⟨RX10, "isNamed", "()Z"⟩
abbrev cX10_readTest : ByteArray := prog_12_method_27_code
def yX10_readTest : MethodName := ⟨RX10, "readTest", "()V"⟩
abbrev cX10_readColour : ByteArray := prog_12_method_28_code
def yX10_readColour : MethodName := ⟨RX10, "readColour", "()V"⟩
abbrev cX10_colours : ByteArray := prog_12_method_29_code
def yX10_colours : MethodName := ⟨RX10, "colours", "()I"⟩
abbrev cX10_fault : ByteArray := prog_12_method_30_code
def yX10_fault : MethodName := ⟨RX10, "fault", "()I"⟩
abbrev cX10_colour : ByteArray := prog_12_method_31_code
def yX10_colour : MethodName := ⟨RX10, "colour", "(I)I"⟩
abbrev cX10_isSkin : ByteArray := prog_12_method_32_code
def yX10_isSkin : MethodName := ⟨RX10, "isSkin", "(I)Z"⟩
abbrev cX10_skin : ByteArray := prog_12_method_33_code
def yX10_skin : MethodName := ⟨RX10, "skin", "(I)I"⟩
abbrev cX10_dry : ByteArray := prog_12_method_34_code
def yX10_dry : MethodName := ⟨RX10, "dry", "(II)I"⟩
abbrev cX10_age : ByteArray := prog_12_method_35_code
def yX10_age : MethodName := ⟨RX10, "age", "(I)I"⟩
abbrev cX10_pack : ByteArray := prog_12_method_36_code
def yX10_pack : MethodName := ⟨RX10, "pack", "(IIIIII)I"⟩
abbrev cX10_beatOne : ByteArray := prog_12_method_37_code
def yX10_beatOne : MethodName := ⟨RX10, "beatOne", "(I)Z"⟩
abbrev cX10_beat : ByteArray := prog_12_method_38_code
def yX10_beat : MethodName := ⟨RX10, "beat", "(II)I"⟩
abbrev cX10_leaf : ByteArray := prog_12_method_39_code
def yX10_leaf : MethodName := ⟨RX10, "leaf", "(II)I"⟩
abbrev cX10_flatter : ByteArray := prog_12_method_40_code
def yX10_flatter : MethodName := ⟨RX10, "flatter", "(II)I"⟩
abbrev cX10_bind : ByteArray := prog_12_method_41_code
def yX10_bind : MethodName := ⟨RX10, "bind", "(I)I"⟩
abbrev cX10_book : ByteArray := prog_12_method_42_code
def yX10_book : MethodName := ⟨RX10, "book", "(I)I"⟩
abbrev cX10_along : ByteArray := prog_12_method_43_code
def yX10_along : MethodName := ⟨RX10, "along", "(III)J"⟩
abbrev cX10_surface : ByteArray := prog_12_method_44_code
def yX10_surface : MethodName := ⟨RX10, "surface", "(IIII)J"⟩
abbrev cX10_isHour : ByteArray := prog_12_method_45_code
def yX10_isHour : MethodName := ⟨RX10, "isHour", "(I)Z"⟩
abbrev cX10_pass : ByteArray := prog_12_method_46_code
def yX10_pass : MethodName := ⟨RX10, "pass", "(IIII)I"⟩
abbrev cX10_heldIn : ByteArray := prog_12_method_47_code
def yX10_heldIn : MethodName := ⟨RX10, "heldIn", "(III)I"⟩
abbrev cX10_held : ByteArray := prog_12_method_48_code
def yX10_held : MethodName := ⟨RX10, "held", "(III)I"⟩
abbrev cX10_find : ByteArray := prog_12_method_49_code
def yX10_find : MethodName := ⟨RX10, "find", "(III)I"⟩
abbrev cX10_missing : ByteArray := prog_12_method_50_code
def yX10_missing : MethodName := ⟨RX10, "missing", "(II)I"⟩
abbrev cX10_count : ByteArray := prog_12_method_51_code
def yX10_count : MethodName := ⟨RX10, "count", "(I)I"⟩
abbrev cX10_status : ByteArray := prog_12_method_52_code
def yX10_status : MethodName := ⟨RX10, "status", "()I"⟩
def RJ13 : String := "java/lang/Long"
def TJ13 : u_T := fun k => match k with
  | _ => ("", "", "", false)
def tyJ13 : Nat → FieldType := fun k => match k with
  | _ => .int
abbrev wsJ130 : List Cond := u_ws RJ13 TJ13 0
theorem nmJ13 : ∀ a, a < 0 → ∀ b, b < 0 → a ≠ b → (TJ13 a).2.1 ≠ (TJ13 b).2.1 := by decide +kernel
theorem tyJ13_ok : ∀ k, k < 0 → parseFieldDescriptor (TJ13 k).2.2.1 = some (tyJ13 k) := by decide +kernel
abbrev cJ13_compare_74951 : ByteArray := prog_13_method_42_code
def yJ13_compare_74951 : MethodName := ⟨RJ13, "compare", "(JJ)I"⟩
def RJ9 : String := "java/lang/Math"
def TJ9 : u_T := fun k => match k with
  | _ => ("", "", "", false)
def tyJ9 : Nat → FieldType := fun k => match k with
  | _ => .int
abbrev wsJ90 : List Cond := u_ws RJ9 TJ9 0
theorem nmJ9 : ∀ a, a < 0 → ∀ b, b < 0 → a ≠ b → (TJ9 a).2.1 ≠ (TJ9 b).2.1 := by decide +kernel
theorem tyJ9_ok : ∀ k, k < 0 → parseFieldDescriptor (TJ9 k).2.2.1 = some (tyJ9 k) := by decide +kernel
abbrev cJ9_max_7cf53 : ByteArray := prog_14_method_65_code
def yJ9_max_7cf53 : MethodName := ⟨RJ9, "max", "(II)I"⟩
def RJ0 : String := "java/lang/String"
def TJ0 : u_T := fun k => match k with
  | _ => ("", "", "", false)
def tyJ0 : Nat → FieldType := fun k => match k with
  | _ => .int
abbrev wsJ00 : List Cond := u_ws RJ0 TJ0 0
theorem nmJ0 : ∀ a, a < 0 → ∀ b, b < 0 → a ≠ b → (TJ0 a).2.1 ≠ (TJ0 b).2.1 := by decide +kernel
theorem tyJ0_ok : ∀ k, k < 0 → parseFieldDescriptor (TJ0 k).2.2.1 = some (tyJ0 k) := by decide +kernel
abbrev cJ0_length_8abf5 : ByteArray := prog_15_method_54_code
def yJ0_length_8abf5 : MethodName := ⟨RJ0, "length", "()I"⟩
abbrev cJ0_charAt_5068e : ByteArray := prog_15_method_56_code
def yJ0_charAt_5068e : MethodName := ⟨RJ0, "charAt", "(I)C"⟩
abbrev cJ0_coder_7d493 : ByteArray := prog_15_method_152_code
def yJ0_coder_7d493 : MethodName := ⟨RJ0, "coder", "()B"⟩
abbrev cJ0_isLatin1_aae02 : ByteArray := prog_15_method_154_code
def yJ0_isLatin1_aae02 : MethodName := ⟨RJ0, "isLatin1", "()Z"⟩
abbrev cJ0_checkIndex_df160 : ByteArray := prog_15_method_155_code
def yJ0_checkIndex_df160 : MethodName := ⟨RJ0, "checkIndex", "(II)V"⟩
def RJ1 : String := "java/lang/StringLatin1"
def TJ1 : u_T := fun k => match k with
  | _ => ("", "", "", false)
def tyJ1 : Nat → FieldType := fun k => match k with
  | _ => .int
abbrev wsJ10 : List Cond := u_ws RJ1 TJ1 0
theorem nmJ1 : ∀ a, a < 0 → ∀ b, b < 0 → a ≠ b → (TJ1 a).2.1 ≠ (TJ1 b).2.1 := by decide +kernel
theorem tyJ1_ok : ∀ k, k < 0 → parseFieldDescriptor (TJ1 k).2.2.1 = some (tyJ1 k) := by decide +kernel
abbrev cJ1_charAt_3b067 : ByteArray := prog_16_method_2_code
def yJ1_charAt_3b067 : MethodName := ⟨RJ1, "charAt", "([BI)C"⟩
def RJ2 : String := "java/lang/StringUTF16"
def TJ2 : u_T := fun k => match k with
  | _ => ("", "", "", false)
def tyJ2 : Nat → FieldType := fun k => match k with
  | _ => .int
abbrev wsJ20 : List Cond := u_ws RJ2 TJ2 0
theorem nmJ2 : ∀ a, a < 0 → ∀ b, b < 0 → a ≠ b → (TJ2 a).2.1 ≠ (TJ2 b).2.1 := by decide +kernel
theorem tyJ2_ok : ∀ k, k < 0 → parseFieldDescriptor (TJ2 k).2.2.1 = some (tyJ2 k) := by decide +kernel
abbrev cJ2_getChar_3b067 : ByteArray := prog_17_method_5_code
def yJ2_getChar_3b067 : MethodName := ⟨RJ2, "getChar", "([BI)C"⟩
abbrev cJ2_length_9d52b : ByteArray := prog_17_method_6_code
def yJ2_length_9d52b : MethodName := ⟨RJ2, "length", "([B)I"⟩
abbrev cJ2_charAt_3b067 : ByteArray := prog_17_method_83_code
def yJ2_charAt_3b067 : MethodName := ⟨RJ2, "charAt", "([BI)C"⟩
abbrev cJ2_checkIndex_2214a : ByteArray := prog_17_method_91_code
def yJ2_checkIndex_2214a : MethodName := ⟨RJ2, "checkIndex", "(I[B)V"⟩
def RJ3 : String := "jdk/internal/util/Preconditions"
def TJ3 : u_T := fun k => match k with
  | _ => ("", "", "", false)
def tyJ3 : Nat → FieldType := fun k => match k with
  | _ => .int
abbrev wsJ30 : List Cond := u_ws RJ3 TJ3 0
theorem nmJ3 : ∀ a, a < 0 → ∀ b, b < 0 → a ≠ b → (TJ3 a).2.1 ≠ (TJ3 b).2.1 := by decide +kernel
theorem tyJ3_ok : ∀ k, k < 0 → parseFieldDescriptor (TJ3 k).2.2.1 = some (tyJ3 k) := by decide +kernel
abbrev cJ3_checkIndex_8e157 : ByteArray := prog_18_method_11_code
def yJ3_checkIndex_8e157 : MethodName := ⟨RJ3, "checkIndex", "(IILjava/util/function/BiFunction;)I"⟩
def RL : String := "GoldLeavesLaw"
abbrev cL_law : ByteArray := code
def yL_law : MethodName := ⟨RL, "law", "([I)Z"⟩
abbrev vwCl : List vw_C := [(RX0, TX0, 3), (RX1, TX1, 3), (RX2, TX2, 9), (RX3, TX3, 5), (RX4, TX4, 6), (RX5, TX5, 5), (RX6, TX6, 5), (RX7, TX7, 5), (RX8, TX8, 5), (RX9, TX9, 10), (RX10, TX10, 44)]
