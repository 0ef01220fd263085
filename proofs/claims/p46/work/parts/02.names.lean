/-! names of the claim, by program (wip/gen/names.py), out of the task's own printed names -/
def RX0 : String := "StarBailiff$1"
def TX0 : u_T := fun k => match k with
  | _ => ("", "", "", false)
def tyX0 : Nat → FieldType := fun k => match k with
  | _ => .int
abbrev wsX00 : List Cond := u_ws RX0 TX0 0
theorem nmX0 : ∀ a, a < 0 → ∀ b, b < 0 → a ≠ b → (TX0 a).2.1 ≠ (TX0 b).2.1 := by decide +kernel
theorem tyX0_ok : ∀ k, k < 0 → parseFieldDescriptor (TX0 k).2.2.1 = some (tyX0 k) := by decide +kernel
def RX1 : String := "StarBailiff$Command"
def TX1 : u_T := fun k => match k with
  | _ => ("", "", "", false)
def tyX1 : Nat → FieldType := fun k => match k with
  | _ => .int
abbrev wsX10 : List Cond := u_ws RX1 TX1 0
theorem nmX1 : ∀ a, a < 0 → ∀ b, b < 0 → a ≠ b → (TX1 a).2.1 ≠ (TX1 b).2.1 := by decide +kernel
theorem tyX1_ok : ∀ k, k < 0 → parseFieldDescriptor (TX1 k).2.2.1 = some (tyX1 k) := by decide +kernel
def RX2 : String := "StarBailiff$Past"
def TX2 : u_T := fun k => match k with
  | 0 => ("StarBailiff$Past", "count", "I", false)
  | 1 => ("StarBailiff$Past", "next", "I", false)
  | _ => ("StarBailiff$Past", "skies", "[LStarBailiff$Sky;", true)
def tyX2 : Nat → FieldType := fun k => match k with
  | 0 => .int
  | 1 => .int
  | _ => .array (.object "StarBailiff$Sky")
abbrev wsX20 : List Cond := u_ws RX2 TX2 3
theorem nmX2 : ∀ a, a < 3 → ∀ b, b < 3 → a ≠ b → (TX2 a).2.1 ≠ (TX2 b).2.1 := by decide +kernel
theorem tyX2_ok : ∀ k, k < 3 → parseFieldDescriptor (TX2 k).2.2.1 = some (tyX2 k) := by decide +kernel
abbrev cX2_init : ByteArray := prog_4_method_1_code
def yX2_init : MethodName := ⟨RX2, "<init>", "()V"⟩
abbrev cX2_note : ByteArray := prog_4_method_2_code
def yX2_note : MethodName := ⟨RX2, "note", "(LStarBailiff$Sky;)V"⟩
abbrev cX2_noted : ByteArray := prog_4_method_3_code
def yX2_noted : MethodName := ⟨RX2, "noted", "()LStarBailiff$Sky;"⟩
abbrev cX2_keepNoted : ByteArray := prog_4_method_4_code
def yX2_keepNoted : MethodName := ⟨RX2, "keepNoted", "()V"⟩
abbrev cX2_forget : ByteArray := prog_4_method_5_code
def yX2_forget : MethodName := ⟨RX2, "forget", "()V"⟩
abbrev cX2_takeBack : ByteArray := prog_4_method_6_code
def yX2_takeBack : MethodName := ⟨RX2, "takeBack", "(LStarBailiff$Sky;)I"⟩
def RX3 : String := "StarBailiff$Refusal"
def TX3 : u_T := fun k => match k with
  | 0 => ("StarBailiff$Refusal", "reason", "I", false)
  | 1 => ("StarBailiff$Refusal", "detail", "I", false)
  | 2 => ("StarBailiff$Refusal", "reasonBehind", "I", false)
  | _ => ("StarBailiff$Refusal", "detailBehind", "I", false)
def tyX3 : Nat → FieldType := fun k => match k with
  | 0 => .int
  | 1 => .int
  | 2 => .int
  | _ => .int
abbrev wsX30 : List Cond := u_ws RX3 TX3 4
theorem nmX3 : ∀ a, a < 4 → ∀ b, b < 4 → a ≠ b → (TX3 a).2.1 ≠ (TX3 b).2.1 := by decide +kernel
theorem tyX3_ok : ∀ k, k < 4 → parseFieldDescriptor (TX3 k).2.2.1 = some (tyX3 k) := by decide +kernel
abbrev cX3_init : ByteArray := prog_5_method_1_code
def yX3_init : MethodName := ⟨RX3, "<init>", "()V"⟩
abbrev cX3_because : ByteArray := prog_5_method_2_code
def yX3_because : MethodName := ⟨RX3, "because", "(II)I"⟩
abbrev cX3_ofCommand : ByteArray := prog_5_method_3_code
def yX3_ofCommand : MethodName := ⟨RX3, "ofCommand", "(II)I"⟩
abbrev cX3_told : ByteArray := prog_5_method_4_code
def yX3_told : MethodName := ⟨RX3, "told", "(IZ)I"⟩
def RX4 : String := "StarBailiff$Roofs"
def TX4 : u_T := fun k => match k with
  | 0 => ("StarBailiff$Roofs", "count", "I", false)
  | 1 => ("StarBailiff$Roofs", "coins", "[I", true)
  | 2 => ("StarBailiff$Roofs", "debt", "[I", true)
  | 3 => ("StarBailiff$Roofs", "stay", "[I", true)
  | 4 => ("StarBailiff$Roofs", "levied", "[I", true)
  | 5 => ("StarBailiff$Roofs", "paid", "[I", true)
  | 6 => ("StarBailiff$Roofs", "granted", "[I", true)
  | 7 => ("StarBailiff$Roofs", "forfeited", "[I", true)
  | 8 => ("StarBailiff$Roofs", "sighted", "[I", true)
  | _ => ("StarBailiff$Roofs", "sightedSeen", "[I", true)
def tyX4 : Nat → FieldType := fun k => match k with
  | 0 => .int
  | 1 => .array .int
  | 2 => .array .int
  | 3 => .array .int
  | 4 => .array .int
  | 5 => .array .int
  | 6 => .array .int
  | 7 => .array .int
  | 8 => .array .int
  | _ => .array .int
abbrev wsX40 : List Cond := u_ws RX4 TX4 10
theorem nmX4 : ∀ a, a < 10 → ∀ b, b < 10 → a ≠ b → (TX4 a).2.1 ≠ (TX4 b).2.1 := by decide +kernel
theorem tyX4_ok : ∀ k, k < 10 → parseFieldDescriptor (TX4 k).2.2.1 = some (tyX4 k) := by decide +kernel
abbrev cX4_init : ByteArray := prog_6_method_1_code
def yX4_init : MethodName := ⟨RX4, "<init>", "()V"⟩
abbrev cX4_copyFrom : ByteArray := prog_6_method_3_code
def yX4_copyFrom : MethodName := ⟨RX4, "copyFrom", "(LStarBailiff$Roofs;)V"⟩
abbrev cX4_add : ByteArray := prog_6_method_4_code
def yX4_add : MethodName := ⟨RX4, "add", "(I)I"⟩
abbrev cX4_has : ByteArray := prog_6_method_5_code
def yX4_has : MethodName := ⟨RX4, "has", "(I)Z"⟩
abbrev cX4_collect : ByteArray := prog_6_method_6_code
def yX4_collect : MethodName := ⟨RX4, "collect", "(III)V"⟩
abbrev cX4_beginNight : ByteArray := prog_6_method_7_code
def yX4_beginNight : MethodName := ⟨RX4, "beginNight", "()V"⟩
def RX5 : String := "StarBailiff$Sky"
def TX5 : u_T := fun k => match k with
  | 0 => ("StarBailiff$Sky", "stars", "LStarBailiff$Stars;", true)
  | 1 => ("StarBailiff$Sky", "roofs", "LStarBailiff$Roofs;", true)
  | 2 => ("StarBailiff$Sky", "wishes", "LStarBailiff$Wishes;", true)
  | 3 => ("StarBailiff$Sky", "nights", "I", false)
  | _ => ("StarBailiff$Sky", "exempt", "I", false)
def tyX5 : Nat → FieldType := fun k => match k with
  | 0 => .object "StarBailiff$Stars"
  | 1 => .object "StarBailiff$Roofs"
  | 2 => .object "StarBailiff$Wishes"
  | 3 => .int
  | _ => .int
abbrev wsX50 : List Cond := u_ws RX5 TX5 5
theorem nmX5 : ∀ a, a < 5 → ∀ b, b < 5 → a ≠ b → (TX5 a).2.1 ≠ (TX5 b).2.1 := by decide +kernel
theorem tyX5_ok : ∀ k, k < 5 → parseFieldDescriptor (TX5 k).2.2.1 = some (tyX5 k) := by decide +kernel
abbrev cX5_init : ByteArray := prog_7_method_1_code
def yX5_init : MethodName := ⟨RX5, "<init>", "()V"⟩
abbrev cX5_copyFrom : ByteArray := prog_7_method_3_code
def yX5_copyFrom : MethodName := ⟨RX5, "copyFrom", "(LStarBailiff$Sky;)V"⟩
abbrev cX5_hasBoth : ByteArray := prog_7_method_4_code
def yX5_hasBoth : MethodName := ⟨RX5, "hasBoth", "(II)Z"⟩
abbrev cX5_addStar : ByteArray := prog_7_method_5_code
def yX5_addStar : MethodName := ⟨RX5, "addStar", "(IILStarBailiff$Refusal;)I"⟩
abbrev cX5_addRoof : ByteArray := prog_7_method_6_code
def yX5_addRoof : MethodName := ⟨RX5, "addRoof", "(ILStarBailiff$Refusal;)I"⟩
abbrev cX5_tellCloud : ByteArray := prog_7_method_7_code
def yX5_tellCloud : MethodName := ⟨RX5, "tellCloud", "(IILStarBailiff$Refusal;)I"⟩
abbrev cX5_sightStar : ByteArray := prog_7_method_8_code
def yX5_sightStar : MethodName := ⟨RX5, "sightStar", "(IILStarBailiff$Refusal;)I"⟩
abbrev cX5_levyOn : ByteArray := prog_7_method_9_code
def yX5_levyOn : MethodName := ⟨RX5, "levyOn", "(II)I"⟩
abbrev cX5_claimStar : ByteArray := prog_7_method_10_code
def yX5_claimStar : MethodName := ⟨RX5, "claimStar", "(IILStarBailiff$Refusal;)I"⟩
abbrev cX5_dropClaim : ByteArray := prog_7_method_11_code
def yX5_dropClaim : MethodName := ⟨RX5, "dropClaim", "(ILStarBailiff$Refusal;)I"⟩
abbrev cX5_addWish : ByteArray := prog_7_method_12_code
def yX5_addWish : MethodName := ⟨RX5, "addWish", "(IIILStarBailiff$Refusal;)I"⟩
abbrev cX5_payDebt : ByteArray := prog_7_method_13_code
def yX5_payDebt : MethodName := ⟨RX5, "payDebt", "(IILStarBailiff$Refusal;)I"⟩
abbrev cX5_poundWishes : ByteArray := prog_7_method_14_code
def yX5_poundWishes : MethodName := ⟨RX5, "poundWishes", "(ILStarBailiff$Refusal;)I"⟩
abbrev cX5_costToRedeem : ByteArray := prog_7_method_15_code
def yX5_costToRedeem : MethodName := ⟨RX5, "costToRedeem", "(I)I"⟩
abbrev cX5_redeemWish : ByteArray := prog_7_method_16_code
def yX5_redeemWish : MethodName := ⟨RX5, "redeemWish", "(ILStarBailiff$Refusal;)I"⟩
abbrev cX5_giveStay : ByteArray := prog_7_method_17_code
def yX5_giveStay : MethodName := ⟨RX5, "giveStay", "(IILStarBailiff$Refusal;)I"⟩
abbrev cX5_passNight : ByteArray := prog_7_method_18_code
def yX5_passNight : MethodName := ⟨RX5, "passNight", "()I"⟩
abbrev cX5_staysAtDawn : ByteArray := prog_7_method_19_code
def yX5_staysAtDawn : MethodName := ⟨RX5, "staysAtDawn", "(I)Z"⟩
abbrev cX5_isGrantable : ByteArray := prog_7_method_20_code
def yX5_isGrantable : MethodName := ⟨RX5, "isGrantable", "(I)Z"⟩
abbrev cX5_countGrantable : ByteArray := prog_7_method_21_code
def yX5_countGrantable : MethodName := ⟨RX5, "countGrantable", "()I"⟩
abbrev cX5_countRedeemable : ByteArray := prog_7_method_22_code
def yX5_countRedeemable : MethodName := ⟨RX5, "countRedeemable", "(I)I"⟩
abbrev cX5_cheapestWish : ByteArray := prog_7_method_23_code
def yX5_cheapestWish : MethodName := ⟨RX5, "cheapestWish", "(I)I"⟩
abbrev cX5_countRedeemableByTrying : ByteArray := prog_7_method_24_code
def yX5_countRedeemableByTrying : MethodName := ⟨RX5, "countRedeemableByTrying", "(I)I"⟩
abbrev cX5_costOfSet : ByteArray := prog_7_method_25_code
def yX5_costOfSet : MethodName := ⟨RX5, "costOfSet", "(I)I"⟩
abbrev cX5_cheapestStar : ByteArray := prog_7_method_26_code
def yX5_cheapestStar : MethodName := ⟨RX5, "cheapestStar", "(I)I"⟩
abbrev cX5_isCheaper : ByteArray := prog_7_method_27_code
def yX5_isCheaper : MethodName := ⟨RX5, "isCheaper", "(III)Z"⟩
abbrev cX5_roofAtPlace : ByteArray := prog_7_method_28_code
def yX5_roofAtPlace : MethodName := ⟨RX5, "roofAtPlace", "(I)I"⟩
abbrev cX5_isRicher : ByteArray := prog_7_method_29_code
def yX5_isRicher : MethodName := ⟨RX5, "isRicher", "(II)Z"⟩
def RX6 : String := "StarBailiff$Stars"
def TX6 : u_T := fun k => match k with
  | 0 => ("StarBailiff$Stars", "count", "I", false)
  | 1 => ("StarBailiff$Stars", "brightness", "[I", true)
  | 2 => ("StarBailiff$Stars", "sector", "[I", true)
  | 3 => ("StarBailiff$Stars", "claimant", "[I", true)
  | 4 => ("StarBailiff$Stars", "sightings", "[I", true)
  | _ => ("StarBailiff$Stars", "clouds", "[I", true)
def tyX6 : Nat → FieldType := fun k => match k with
  | 0 => .int
  | 1 => .array .int
  | 2 => .array .int
  | 3 => .array .int
  | 4 => .array .int
  | _ => .array .int
abbrev wsX60 : List Cond := u_ws RX6 TX6 6
theorem nmX6 : ∀ a, a < 6 → ∀ b, b < 6 → a ≠ b → (TX6 a).2.1 ≠ (TX6 b).2.1 := by decide +kernel
theorem tyX6_ok : ∀ k, k < 6 → parseFieldDescriptor (TX6 k).2.2.1 = some (tyX6 k) := by decide +kernel
abbrev cX6_init : ByteArray := prog_8_method_1_code
def yX6_init : MethodName := ⟨RX6, "<init>", "()V"⟩
abbrev cX6_copyFrom : ByteArray := prog_8_method_3_code
def yX6_copyFrom : MethodName := ⟨RX6, "copyFrom", "(LStarBailiff$Stars;)V"⟩
abbrev cX6_add : ByteArray := prog_8_method_4_code
def yX6_add : MethodName := ⟨RX6, "add", "(II)I"⟩
abbrev cX6_has : ByteArray := prog_8_method_5_code
def yX6_has : MethodName := ⟨RX6, "has", "(I)Z"⟩
abbrev cX6_isSeen : ByteArray := prog_8_method_6_code
def yX6_isSeen : MethodName := ⟨RX6, "isSeen", "(I)Z"⟩
abbrev cX6_countSeen : ByteArray := prog_8_method_7_code
def yX6_countSeen : MethodName := ⟨RX6, "countSeen", "(I)I"⟩
abbrev cX6_countSeenByBrightness : ByteArray := prog_8_method_8_code
def yX6_countSeenByBrightness : MethodName := ⟨RX6, "countSeenByBrightness", "(I)I"⟩
abbrev cX6_countOfBrightness : ByteArray := prog_8_method_9_code
def yX6_countOfBrightness : MethodName := ⟨RX6, "countOfBrightness", "(II)I"⟩
abbrev cX6_dawnsUntilAllSeen : ByteArray := prog_8_method_10_code
def yX6_dawnsUntilAllSeen : MethodName := ⟨RX6, "dawnsUntilAllSeen", "(I)I"⟩
abbrev cX6_countClaimed : ByteArray := prog_8_method_11_code
def yX6_countClaimed : MethodName := ⟨RX6, "countClaimed", "()I"⟩
abbrev cX6_countClaimedBy : ByteArray := prog_8_method_12_code
def yX6_countClaimedBy : MethodName := ⟨RX6, "countClaimedBy", "(I)I"⟩
abbrev cX6_starAtPlace : ByteArray := prog_8_method_13_code
def yX6_starAtPlace : MethodName := ⟨RX6, "starAtPlace", "(I)I"⟩
abbrev cX6_isBrighter : ByteArray := prog_8_method_14_code
def yX6_isBrighter : MethodName := ⟨RX6, "isBrighter", "(II)Z"⟩
abbrev cX6_thinClouds : ByteArray := prog_8_method_15_code
def yX6_thinClouds : MethodName := ⟨RX6, "thinClouds", "()V"⟩
def RX7 : String := "StarBailiff$Wishes"
def TX7 : u_T := fun k => match k with
  | 0 => ("StarBailiff$Wishes", "count", "I", false)
  | 1 => ("StarBailiff$Wishes", "roof", "[I", true)
  | 2 => ("StarBailiff$Wishes", "star", "[I", true)
  | 3 => ("StarBailiff$Wishes", "kind", "[I", true)
  | 4 => ("StarBailiff$Wishes", "age", "[I", true)
  | _ => ("StarBailiff$Wishes", "impounded", "[I", true)
def tyX7 : Nat → FieldType := fun k => match k with
  | 0 => .int
  | 1 => .array .int
  | 2 => .array .int
  | 3 => .array .int
  | 4 => .array .int
  | _ => .array .int
abbrev wsX70 : List Cond := u_ws RX7 TX7 6
theorem nmX7 : ∀ a, a < 6 → ∀ b, b < 6 → a ≠ b → (TX7 a).2.1 ≠ (TX7 b).2.1 := by decide +kernel
theorem tyX7_ok : ∀ k, k < 6 → parseFieldDescriptor (TX7 k).2.2.1 = some (tyX7 k) := by decide +kernel
abbrev cX7_init : ByteArray := prog_9_method_1_code
def yX7_init : MethodName := ⟨RX7, "<init>", "()V"⟩
abbrev cX7_copyFrom : ByteArray := prog_9_method_3_code
def yX7_copyFrom : MethodName := ⟨RX7, "copyFrom", "(LStarBailiff$Wishes;)V"⟩
abbrev cX7_add : ByteArray := prog_9_method_4_code
def yX7_add : MethodName := ⟨RX7, "add", "(III)I"⟩
abbrev cX7_move : ByteArray := prog_9_method_5_code
def yX7_move : MethodName := ⟨RX7, "move", "(II)V"⟩
abbrev cX7_has : ByteArray := prog_9_method_6_code
def yX7_has : MethodName := ⟨RX7, "has", "(I)Z"⟩
abbrev cX7_isImpounded : ByteArray := prog_9_method_7_code
def yX7_isImpounded : MethodName := ⟨RX7, "isImpounded", "(I)Z"⟩
abbrev cX7_countOn : ByteArray := prog_9_method_8_code
def yX7_countOn : MethodName := ⟨RX7, "countOn", "(I)I"⟩
abbrev cX7_countOf : ByteArray := prog_9_method_9_code
def yX7_countOf : MethodName := ⟨RX7, "countOf", "(I)I"⟩
abbrev cX7_countImpounded : ByteArray := prog_9_method_10_code
def yX7_countImpounded : MethodName := ⟨RX7, "countImpounded", "()I"⟩
abbrev cX7_impoundedSetOf : ByteArray := prog_9_method_11_code
def yX7_impoundedSetOf : MethodName := ⟨RX7, "impoundedSetOf", "(I)I"⟩
abbrev cX7_impoundAllOf : ByteArray := prog_9_method_12_code
def yX7_impoundAllOf : MethodName := ⟨RX7, "impoundAllOf", "(I)I"⟩
def RX8 : String := "StarBailiff$Words"
def TX8 : u_T := fun k => match k with
  | 0 => ("StarBailiff$Words", "command", "LStarBailiff$Command;", false)
  | 1 => ("StarBailiff$Words", "end", "I", false)
  | _ => ("StarBailiff$Words", "numbers", "[I", true)
def tyX8 : Nat → FieldType := fun k => match k with
  | 0 => .object "StarBailiff$Command"
  | 1 => .int
  | _ => .array .int
abbrev wsX80 : List Cond := u_ws RX8 TX8 3
theorem nmX8 : ∀ a, a < 3 → ∀ b, b < 3 → a ≠ b → (TX8 a).2.1 ≠ (TX8 b).2.1 := by decide +kernel
theorem tyX8_ok : ∀ k, k < 3 → parseFieldDescriptor (TX8 k).2.2.1 = some (tyX8 k) := by decide +kernel
abbrev cX8_init : ByteArray := prog_10_method_1_code
def yX8_init : MethodName := ⟨RX8, "<init>", "()V"⟩
abbrev cX8_countCommands : ByteArray := prog_10_method_2_code
def yX8_countCommands : MethodName := ⟨RX8, "countCommands", "(Ljava/lang/StringBuilder;)I"⟩
abbrev cX8_findCommand : ByteArray := prog_10_method_3_code
def yX8_findCommand : MethodName := ⟨RX8, "findCommand", "(Ljava/lang/StringBuilder;I)Z"⟩
abbrev cX8_follows : ByteArray := prog_10_method_4_code
def yX8_follows : MethodName := ⟨RX8, "follows", "(Ljava/lang/String;Ljava/lang/StringBuilder;I)Z"⟩
abbrev cX8_isPlace : ByteArray := prog_10_method_5_code
def yX8_isPlace : MethodName := ⟨RX8, "isPlace", "(C)Z"⟩
abbrev cX8_fits : ByteArray := prog_10_method_6_code
def yX8_fits : MethodName := ⟨RX8, "fits", "(CC)Z"⟩
def RX9 : String := "StarBailiff"
def TX9 : u_T := fun k => match k with
  | 0 => ("StarBailiff", "sky", "LStarBailiff$Sky;", true)
  | 1 => ("StarBailiff", "saved", "LStarBailiff$Sky;", true)
  | 2 => ("StarBailiff", "past", "LStarBailiff$Past;", true)
  | 3 => ("StarBailiff", "refusal", "LStarBailiff$Refusal;", true)
  | 4 => ("StarBailiff", "words", "LStarBailiff$Words;", true)
  | 5 => ("StarBailiff", "input", "Ljava/lang/StringBuilder;", true)
  | 6 => ("StarBailiff", "line", "Ljava/lang/StringBuilder;", true)
  | 7 => ("StarBailiff", "isSaved", "Z", false)
  | _ => ("StarBailiff", "faultAt", "I", false)
def tyX9 : Nat → FieldType := fun k => match k with
  | 0 => .object "StarBailiff$Sky"
  | 1 => .object "StarBailiff$Sky"
  | 2 => .object "StarBailiff$Past"
  | 3 => .object "StarBailiff$Refusal"
  | 4 => .object "StarBailiff$Words"
  | 5 => .object "java/lang/StringBuilder"
  | 6 => .object "java/lang/StringBuilder"
  | 7 => .boolean
  | _ => .int
abbrev wsX90 : List Cond := u_ws RX9 TX9 9
theorem nmX9 : ∀ a, a < 9 → ∀ b, b < 9 → a ≠ b → (TX9 a).2.1 ≠ (TX9 b).2.1 := by decide +kernel
theorem tyX9_ok : ∀ k, k < 9 → parseFieldDescriptor (TX9 k).2.2.1 = some (tyX9 k) := by decide +kernel
abbrev cX9_init : ByteArray := prog_1_method_1_code
def yX9_init : MethodName := ⟨RX9, "<init>", "()V"⟩
abbrev cX9_append : ByteArray := prog_1_method_3_code
def yX9_append : MethodName := ⟨RX9, "append", "(C)I"⟩
abbrev cX9_star : ByteArray := prog_1_method_4_code
def yX9_star : MethodName := ⟨RX9, "star", "(II)I"⟩
abbrev cX9_roof : ByteArray := prog_1_method_5_code
def yX9_roof : MethodName := ⟨RX9, "roof", "(I)I"⟩
abbrev cX9_cloud : ByteArray := prog_1_method_6_code
def yX9_cloud : MethodName := ⟨RX9, "cloud", "(II)I"⟩
abbrev cX9_sight : ByteArray := prog_1_method_7_code
def yX9_sight : MethodName := ⟨RX9, "sight", "(II)I"⟩
abbrev cX9_claim : ByteArray := prog_1_method_8_code
def yX9_claim : MethodName := ⟨RX9, "claim", "(II)I"⟩
abbrev cX9_drop : ByteArray := prog_1_method_9_code
def yX9_drop : MethodName := ⟨RX9, "drop", "(I)I"⟩
abbrev cX9_wish : ByteArray := prog_1_method_10_code
def yX9_wish : MethodName := ⟨RX9, "wish", "(III)I"⟩
abbrev cX9_pay : ByteArray := prog_1_method_11_code
def yX9_pay : MethodName := ⟨RX9, "pay", "(II)I"⟩
abbrev cX9_pound : ByteArray := prog_1_method_12_code
def yX9_pound : MethodName := ⟨RX9, "pound", "(I)I"⟩
abbrev cX9_redeem : ByteArray := prog_1_method_13_code
def yX9_redeem : MethodName := ⟨RX9, "redeem", "(I)I"⟩
abbrev cX9_stay : ByteArray := prog_1_method_14_code
def yX9_stay : MethodName := ⟨RX9, "stay", "(II)I"⟩
abbrev cX9_dawn : ByteArray := prog_1_method_15_code
def yX9_dawn : MethodName := ⟨RX9, "dawn", "()I"⟩
abbrev cX9_read : ByteArray := prog_1_method_16_code
def yX9_read : MethodName := ⟨RX9, "read", "()I"⟩
abbrev cX9_reason : ByteArray := prog_1_method_18_code
def yX9_reason : MethodName := ⟨RX9, "reason", "(IZ)I"⟩
abbrev cX9_starOf : ByteArray := prog_1_method_19_code
def yX9_starOf : MethodName := ⟨RX9, "starOf", "(II)I"⟩
abbrev cX9_roofOf : ByteArray := prog_1_method_20_code
def yX9_roofOf : MethodName := ⟨RX9, "roofOf", "(II)I"⟩
abbrev cX9_wishOf : ByteArray := prog_1_method_21_code
def yX9_wishOf : MethodName := ⟨RX9, "wishOf", "(II)I"⟩
abbrev cX9_cloudOf : ByteArray := prog_1_method_22_code
def yX9_cloudOf : MethodName := ⟨RX9, "cloudOf", "(I)I"⟩
abbrev cX9_debt : ByteArray := prog_1_method_23_code
def yX9_debt : MethodName := ⟨RX9, "debt", "(I)I"⟩
abbrev cX9_debtAgain : ByteArray := prog_1_method_24_code
def yX9_debtAgain : MethodName := ⟨RX9, "debtAgain", "(I)I"⟩
abbrev cX9_seen : ByteArray := prog_1_method_25_code
def yX9_seen : MethodName := ⟨RX9, "seen", "(I)I"⟩
abbrev cX9_seenAgain : ByteArray := prog_1_method_26_code
def yX9_seenAgain : MethodName := ⟨RX9, "seenAgain", "(I)I"⟩
abbrev cX9_levy : ByteArray := prog_1_method_27_code
def yX9_levy : MethodName := ⟨RX9, "levy", "(II)I"⟩
abbrev cX9_could : ByteArray := prog_1_method_28_code
def yX9_could : MethodName := ⟨RX9, "could", "(I)I"⟩
abbrev cX9_couldAgain : ByteArray := prog_1_method_29_code
def yX9_couldAgain : MethodName := ⟨RX9, "couldAgain", "(I)I"⟩
abbrev cX9_brightens : ByteArray := prog_1_method_30_code
def yX9_brightens : MethodName := ⟨RX9, "brightens", "(I)I"⟩
abbrev cX9_cheapest : ByteArray := prog_1_method_31_code
def yX9_cheapest : MethodName := ⟨RX9, "cheapest", "(I)I"⟩
abbrev cX9_wouldGrant : ByteArray := prog_1_method_32_code
def yX9_wouldGrant : MethodName := ⟨RX9, "wouldGrant", "()I"⟩
abbrev cX9_richest : ByteArray := prog_1_method_33_code
def yX9_richest : MethodName := ⟨RX9, "richest", "(I)I"⟩
abbrev cX9_brightest : ByteArray := prog_1_method_34_code
def yX9_brightest : MethodName := ⟨RX9, "brightest", "(I)I"⟩
abbrev cX9_write : ByteArray := prog_1_method_35_code
def yX9_write : MethodName := ⟨RX9, "write", "(I)I"⟩
abbrev cX9_writeSky : ByteArray := prog_1_method_36_code
def yX9_writeSky : MethodName := ⟨RX9, "writeSky", "(I)I"⟩
abbrev cX9_isWell : ByteArray := prog_1_method_38_code
def yX9_isWell : MethodName := ⟨RX9, "isWell", "()I"⟩
abbrev cX9_meanCloud : ByteArray := prog_1_method_39_code
def yX9_meanCloud : MethodName := ⟨RX9, "meanCloud", "()D"⟩
abbrev cX9_poundShare : ByteArray := prog_1_method_40_code
def yX9_poundShare : MethodName := ⟨RX9, "poundShare", "()F"⟩
abbrev cX9_account : ByteArray := prog_1_method_41_code
def yX9_account : MethodName := ⟨RX9, "account", "(I)I"⟩
abbrev cX9_undo : ByteArray := prog_1_method_42_code
def yX9_undo : MethodName := ⟨RX9, "undo", "()I"⟩
abbrev cX9_save : ByteArray := prog_1_method_43_code
def yX9_save : MethodName := ⟨RX9, "save", "()I"⟩
abbrev cX9_restore : ByteArray := prog_1_method_44_code
def yX9_restore : MethodName := ⟨RX9, "restore", "()I"⟩
abbrev cX9_change : ByteArray := prog_1_method_45_code
def yX9_change : MethodName := ⟨RX9, "change", "(LStarBailiff$Command;III)I"⟩
abbrev cX9_carryOut : ByteArray := prog_1_method_46_code
def yX9_carryOut : MethodName := ⟨RX9, "carryOut", "(LStarBailiff$Command;III)I"⟩
abbrev cX9_carryOutInput : ByteArray := prog_1_method_47_code
def yX9_carryOutInput : MethodName := ⟨RX9, "carryOutInput", "()I"⟩
abbrev cX9_writeIfAny : ByteArray := prog_1_method_48_code
def yX9_writeIfAny : MethodName := ⟨RX9, "writeIfAny", "(CI)V"⟩
abbrev cX9_isWithin : ByteArray := prog_1_method_49_code
def yX9_isWithin : MethodName := ⟨RX9, "isWithin", "(III)Z"⟩
abbrev cX9_isSector : ByteArray := prog_1_method_50_code
def yX9_isSector : MethodName := ⟨RX9, "isSector", "(I)Z"⟩
abbrev cX9_sum : ByteArray := prog_1_method_51_code
def yX9_sum : MethodName := ⟨RX9, "sum", "([II)I"⟩
abbrev cX9_countAlike : ByteArray := prog_1_method_52_code
def yX9_countAlike : MethodName := ⟨RX9, "countAlike", "([III)I"⟩
abbrev cX9_copyRow : ByteArray := prog_1_method_53_code
def yX9_copyRow : MethodName := ⟨RX9, "copyRow", "([I[I)V"⟩
def RX10 : String := "StarBailiffModel"
def TX10 : u_T := fun k => match k with
  | _ => ("", "", "", false)
def tyX10 : Nat → FieldType := fun k => match k with
  | _ => .int
abbrev wsX100 : List Cond := u_ws RX10 TX10 0
theorem nmX10 : ∀ a, a < 0 → ∀ b, b < 0 → a ≠ b → (TX10 a).2.1 ≠ (TX10 b).2.1 := by decide +kernel
theorem tyX10_ok : ∀ k, k < 0 → parseFieldDescriptor (TX10 k).2.2.1 = some (tyX10 k) := by decide +kernel
def RJ5 : String := "java/lang/AbstractStringBuilder"
def TJ5 : u_T := fun k => match k with
  | _ => ("", "", "", false)
def tyJ5 : Nat → FieldType := fun k => match k with
  | _ => .int
abbrev wsJ50 : List Cond := u_ws RJ5 TJ5 0
theorem nmJ5 : ∀ a, a < 0 → ∀ b, b < 0 → a ≠ b → (TJ5 a).2.1 ≠ (TJ5 b).2.1 := by decide +kernel
theorem tyJ5_ok : ∀ k, k < 0 → parseFieldDescriptor (TJ5 k).2.2.1 = some (tyJ5 k) := by decide +kernel
abbrev cJ5_init_d00df : ByteArray := prog_13_method_2_code
def yJ5_init_d00df : MethodName := ⟨RJ5, "<init>", "(I)V"⟩
abbrev cJ5_length_8abf5 : ByteArray := prog_13_method_6_code
def yJ5_length_8abf5 : MethodName := ⟨RJ5, "length", "()I"⟩
abbrev cJ5_ensureCapacityInternal_d00df : ByteArray := prog_13_method_9_code
def yJ5_ensureCapacityInternal_d00df : MethodName := ⟨RJ5, "ensureCapacityInternal", "(I)V"⟩
abbrev cJ5_newCapacity_0f7a4 : ByteArray := prog_13_method_10_code
def yJ5_newCapacity_0f7a4 : MethodName := ⟨RJ5, "newCapacity", "(I)I"⟩
abbrev cJ5_inflate_da8c8 : ByteArray := prog_13_method_11_code
def yJ5_inflate_da8c8 : MethodName := ⟨RJ5, "inflate", "()V"⟩
abbrev cJ5_setLength_d00df : ByteArray := prog_13_method_13_code
def yJ5_setLength_d00df : MethodName := ⟨RJ5, "setLength", "(I)V"⟩
abbrev cJ5_charAt_5068e : ByteArray := prog_13_method_14_code
def yJ5_charAt_5068e : MethodName := ⟨RJ5, "charAt", "(I)C"⟩
abbrev cJ5_append_3fe6f : ByteArray := prog_13_method_31_code
def yJ5_append_3fe6f : MethodName := ⟨RJ5, "append", "(C)Ljava/lang/AbstractStringBuilder;"⟩
abbrev cJ5_append_c97b9 : ByteArray := prog_13_method_32_code
def yJ5_append_c97b9 : MethodName := ⟨RJ5, "append", "(I)Ljava/lang/AbstractStringBuilder;"⟩
abbrev cJ5_isLatin1_aae02 : ByteArray := prog_13_method_68_code
def yJ5_isLatin1_aae02 : MethodName := ⟨RJ5, "isLatin1", "()Z"⟩
def RJx8e188 : String := "java/lang/Cloneable"
def TJx8e188 : u_T := fun k => match k with
  | _ => ("", "", "", false)
def tyJx8e188 : Nat → FieldType := fun k => match k with
  | _ => .int
abbrev wsJx8e1880 : List Cond := u_ws RJx8e188 TJx8e188 0
theorem nmJx8e188 : ∀ a, a < 0 → ∀ b, b < 0 → a ≠ b → (TJx8e188 a).2.1 ≠ (TJx8e188 b).2.1 := by decide +kernel
theorem tyJx8e188_ok : ∀ k, k < 0 → parseFieldDescriptor (TJx8e188 k).2.2.1 = some (tyJx8e188 k) := by decide +kernel
def RJx29ce0 : String := "java/lang/Enum"
def TJx29ce0 : u_T := fun k => match k with
  | _ => ("", "", "", false)
def tyJx29ce0 : Nat → FieldType := fun k => match k with
  | _ => .int
abbrev wsJx29ce00 : List Cond := u_ws RJx29ce0 TJx29ce0 0
theorem nmJx29ce0 : ∀ a, a < 0 → ∀ b, b < 0 → a ≠ b → (TJx29ce0 a).2.1 ≠ (TJx29ce0 b).2.1 := by decide +kernel
theorem tyJx29ce0_ok : ∀ k, k < 0 → parseFieldDescriptor (TJx29ce0 k).2.2.1 = some (tyJx29ce0 k) := by decide +kernel
abbrev cJx29ce0_ordinal_8abf5 : ByteArray := prog_15_method_2_code
def yJx29ce0_ordinal_8abf5 : MethodName := ⟨RJx29ce0, "ordinal", "()I"⟩
def RJ6 : String := "java/lang/Integer"
def TJ6 : u_T := fun k => match k with
  | _ => ("", "", "", false)
def tyJ6 : Nat → FieldType := fun k => match k with
  | _ => .int
abbrev wsJ60 : List Cond := u_ws RJ6 TJ6 0
theorem nmJ6 : ∀ a, a < 0 → ∀ b, b < 0 → a ≠ b → (TJ6 a).2.1 ≠ (TJ6 b).2.1 := by decide +kernel
theorem tyJ6_ok : ∀ k, k < 0 → parseFieldDescriptor (TJ6 k).2.2.1 = some (tyJ6 k) := by decide +kernel
abbrev cJ6_getChars_ba4f3 : ByteArray := prog_16_method_12_code
def yJ6_getChars_ba4f3 : MethodName := ⟨RJ6, "getChars", "(II[B)I"⟩
abbrev cJ6_stringSize_0f7a4 : ByteArray := prog_16_method_13_code
def yJ6_stringSize_0f7a4 : MethodName := ⟨RJ6, "stringSize", "(I)I"⟩
abbrev cJ6_bitCount_0f7a4 : ByteArray := prog_16_method_49_code
def yJ6_bitCount_0f7a4 : MethodName := ⟨RJ6, "bitCount", "(I)I"⟩
def RJ9 : String := "java/lang/Math"
def TJ9 : u_T := fun k => match k with
  | _ => ("", "", "", false)
def tyJ9 : Nat → FieldType := fun k => match k with
  | _ => .int
abbrev wsJ90 : List Cond := u_ws RJ9 TJ9 0
theorem nmJ9 : ∀ a, a < 0 → ∀ b, b < 0 → a ≠ b → (TJ9 a).2.1 ≠ (TJ9 b).2.1 := by decide +kernel
theorem tyJ9_ok : ∀ k, k < 0 → parseFieldDescriptor (TJ9 k).2.2.1 = some (tyJ9 k) := by decide +kernel
abbrev cJ9_max_7cf53 : ByteArray := prog_17_method_65_code
def yJ9_max_7cf53 : MethodName := ⟨RJ9, "max", "(II)I"⟩
abbrev cJ9_min_7cf53 : ByteArray := prog_17_method_69_code
def yJ9_min_7cf53 : MethodName := ⟨RJ9, "min", "(II)I"⟩
def RJ0 : String := "java/lang/String"
def TJ0 : u_T := fun k => match k with
  | _ => ("", "", "", false)
def tyJ0 : Nat → FieldType := fun k => match k with
  | _ => .int
abbrev wsJ00 : List Cond := u_ws RJ0 TJ0 0
theorem nmJ0 : ∀ a, a < 0 → ∀ b, b < 0 → a ≠ b → (TJ0 a).2.1 ≠ (TJ0 b).2.1 := by decide +kernel
theorem tyJ0_ok : ∀ k, k < 0 → parseFieldDescriptor (TJ0 k).2.2.1 = some (tyJ0 k) := by decide +kernel
abbrev cJ0_length_8abf5 : ByteArray := prog_18_method_54_code
def yJ0_length_8abf5 : MethodName := ⟨RJ0, "length", "()I"⟩
abbrev cJ0_charAt_5068e : ByteArray := prog_18_method_56_code
def yJ0_charAt_5068e : MethodName := ⟨RJ0, "charAt", "(I)C"⟩
abbrev cJ0_coder_7d493 : ByteArray := prog_18_method_152_code
def yJ0_coder_7d493 : MethodName := ⟨RJ0, "coder", "()B"⟩
abbrev cJ0_isLatin1_aae02 : ByteArray := prog_18_method_154_code
def yJ0_isLatin1_aae02 : MethodName := ⟨RJ0, "isLatin1", "()Z"⟩
abbrev cJ0_checkIndex_df160 : ByteArray := prog_18_method_155_code
def yJ0_checkIndex_df160 : MethodName := ⟨RJ0, "checkIndex", "(II)V"⟩
abbrev cJ0_checkBoundsOffCount_cabcc : ByteArray := prog_18_method_157_code
def yJ0_checkBoundsOffCount_cabcc : MethodName := ⟨RJ0, "checkBoundsOffCount", "(III)I"⟩
abbrev cJ0_checkBoundsBeginEnd_23922 : ByteArray := prog_18_method_158_code
def yJ0_checkBoundsBeginEnd_23922 : MethodName := ⟨RJ0, "checkBoundsBeginEnd", "(III)V"⟩
def RJ4 : String := "java/lang/StringBuilder"
def TJ4 : u_T := fun k => match k with
  | 0 => ("java/lang/AbstractStringBuilder", "value", "[B", false)
  | 1 => ("java/lang/AbstractStringBuilder", "coder", "B", false)
  | 2 => ("java/lang/AbstractStringBuilder", "maybeLatin1", "Z", false)
  | _ => ("java/lang/AbstractStringBuilder", "count", "I", false)
def tyJ4 : Nat → FieldType := fun k => match k with
  | 0 => .array .byte
  | 1 => .byte
  | 2 => .boolean
  | _ => .int
abbrev wsJ40 : List Cond := u_ws RJ4 TJ4 4
theorem nmJ4 : ∀ a, a < 4 → ∀ b, b < 4 → a ≠ b → (TJ4 a).2.1 ≠ (TJ4 b).2.1 := by decide +kernel
theorem tyJ4_ok : ∀ k, k < 4 → parseFieldDescriptor (TJ4 k).2.2.1 = some (tyJ4 k) := by decide +kernel
abbrev cJ4_init_da8c8 : ByteArray := prog_19_method_1_code
def yJ4_init_da8c8 : MethodName := ⟨RJ4, "<init>", "()V"⟩
abbrev cJ4_append_cf468 : ByteArray := prog_19_method_14_code
def yJ4_append_cf468 : MethodName := ⟨RJ4, "append", "(C)Ljava/lang/StringBuilder;"⟩
abbrev cJ4_append_bf812 : ByteArray := prog_19_method_15_code
def yJ4_append_bf812 : MethodName := ⟨RJ4, "append", "(I)Ljava/lang/StringBuilder;"⟩
abbrev cJ4_charAt_5068e : ByteArray := prog_19_method_88_code
def yJ4_charAt_5068e : MethodName := ⟨RJ4, "charAt", "(I)C"⟩
abbrev cJ4_setLength_d00df : ByteArray := prog_19_method_89_code
def yJ4_setLength_d00df : MethodName := ⟨RJ4, "setLength", "(I)V"⟩
abbrev cJ4_length_8abf5 : ByteArray := prog_19_method_93_code
def yJ4_length_8abf5 : MethodName := ⟨RJ4, "length", "()I"⟩
def RJ1 : String := "java/lang/StringLatin1"
def TJ1 : u_T := fun k => match k with
  | _ => ("", "", "", false)
def tyJ1 : Nat → FieldType := fun k => match k with
  | _ => .int
abbrev wsJ10 : List Cond := u_ws RJ1 TJ1 0
theorem nmJ1 : ∀ a, a < 0 → ∀ b, b < 0 → a ≠ b → (TJ1 a).2.1 ≠ (TJ1 b).2.1 := by decide +kernel
theorem tyJ1_ok : ∀ k, k < 0 → parseFieldDescriptor (TJ1 k).2.2.1 = some (tyJ1 k) := by decide +kernel
abbrev cJ1_charAt_3b067 : ByteArray := prog_20_method_2_code
def yJ1_charAt_3b067 : MethodName := ⟨RJ1, "charAt", "([BI)C"⟩
abbrev cJ1_canEncode_fc78d : ByteArray := prog_20_method_3_code
def yJ1_canEncode_fc78d : MethodName := ⟨RJ1, "canEncode", "(C)Z"⟩
abbrev cJ1_fillNull_b72d1 : ByteArray := prog_20_method_48_code
def yJ1_fillNull_b72d1 : MethodName := ⟨RJ1, "fillNull", "([BII)V"⟩
abbrev cJ1_inflate_0e8fd : ByteArray := prog_20_method_50_code
def yJ1_inflate_0e8fd : MethodName := ⟨RJ1, "inflate", "([BI[BII)V"⟩
def RJ2 : String := "java/lang/StringUTF16"
def TJ2 : u_T := fun k => match k with
  | _ => ("", "", "", false)
def tyJ2 : Nat → FieldType := fun k => match k with
  | _ => .int
abbrev wsJ20 : List Cond := u_ws RJ2 TJ2 0
theorem nmJ2 : ∀ a, a < 0 → ∀ b, b < 0 → a ≠ b → (TJ2 a).2.1 ≠ (TJ2 b).2.1 := by decide +kernel
theorem tyJ2_ok : ∀ k, k < 0 → parseFieldDescriptor (TJ2 k).2.2.1 = some (tyJ2 k) := by decide +kernel
abbrev cJ2_newBytesFor_77867 : ByteArray := prog_21_method_2_code
def yJ2_newBytesFor_77867 : MethodName := ⟨RJ2, "newBytesFor", "(I)[B"⟩
abbrev cJ2_newBytesLength_0f7a4 : ByteArray := prog_21_method_3_code
def yJ2_newBytesLength_0f7a4 : MethodName := ⟨RJ2, "newBytesLength", "(I)I"⟩
abbrev cJ2_putChar_b72d1 : ByteArray := prog_21_method_4_code
def yJ2_putChar_b72d1 : MethodName := ⟨RJ2, "putChar", "([BII)V"⟩
abbrev cJ2_getChar_3b067 : ByteArray := prog_21_method_5_code
def yJ2_getChar_3b067 : MethodName := ⟨RJ2, "getChar", "([BI)C"⟩
abbrev cJ2_length_9d52b : ByteArray := prog_21_method_6_code
def yJ2_length_9d52b : MethodName := ⟨RJ2, "length", "([B)I"⟩
abbrev cJ2_fillNull_b72d1 : ByteArray := prog_21_method_70_code
def yJ2_fillNull_b72d1 : MethodName := ⟨RJ2, "fillNull", "([BII)V"⟩
abbrev cJ2_putCharSB_b72d1 : ByteArray := prog_21_method_71_code
def yJ2_putCharSB_b72d1 : MethodName := ⟨RJ2, "putCharSB", "([BII)V"⟩
abbrev cJ2_getChars_46870 : ByteArray := prog_21_method_77_code
def yJ2_getChars_46870 : MethodName := ⟨RJ2, "getChars", "(III[B)I"⟩
abbrev cJ2_charAt_3b067 : ByteArray := prog_21_method_83_code
def yJ2_charAt_3b067 : MethodName := ⟨RJ2, "charAt", "([BI)C"⟩
abbrev cJ2_inflate_0e8fd : ByteArray := prog_21_method_86_code
def yJ2_inflate_0e8fd : MethodName := ⟨RJ2, "inflate", "([BI[BII)V"⟩
abbrev cJ2_getChars_ba4f3 : ByteArray := prog_21_method_89_code
def yJ2_getChars_ba4f3 : MethodName := ⟨RJ2, "getChars", "(II[B)I"⟩
abbrev cJ2_checkIndex_2214a : ByteArray := prog_21_method_91_code
def yJ2_checkIndex_2214a : MethodName := ⟨RJ2, "checkIndex", "(I[B)V"⟩
abbrev cJ2_checkBoundsBeginEnd_d044e : ByteArray := prog_21_method_93_code
def yJ2_checkBoundsBeginEnd_d044e : MethodName := ⟨RJ2, "checkBoundsBeginEnd", "(II[B)V"⟩
abbrev cJ2_checkBoundsOffCount_d044e : ByteArray := prog_21_method_94_code
def yJ2_checkBoundsOffCount_d044e : MethodName := ⟨RJ2, "checkBoundsOffCount", "(II[B)V"⟩
def RJ10 : String := "java/lang/System"
def TJ10 : u_T := fun k => match k with
  | _ => ("", "", "", false)
def tyJ10 : Nat → FieldType := fun k => match k with
  | _ => .int
abbrev wsJ100 : List Cond := u_ws RJ10 TJ10 0
theorem nmJ10 : ∀ a, a < 0 → ∀ b, b < 0 → a ≠ b → (TJ10 a).2.1 ≠ (TJ10 b).2.1 := by decide +kernel
theorem tyJ10_ok : ∀ k, k < 0 → parseFieldDescriptor (TJ10 k).2.2.1 = some (tyJ10 k) := by decide +kernel
def RJ7 : String := "java/util/Arrays"
def TJ7 : u_T := fun k => match k with
  | _ => ("", "", "", false)
def tyJ7 : Nat → FieldType := fun k => match k with
  | _ => .int
abbrev wsJ70 : List Cond := u_ws RJ7 TJ7 0
theorem nmJ7 : ∀ a, a < 0 → ∀ b, b < 0 → a ≠ b → (TJ7 a).2.1 ≠ (TJ7 b).2.1 := by decide +kernel
theorem tyJ7_ok : ∀ k, k < 0 → parseFieldDescriptor (TJ7 k).2.2.1 = some (tyJ7 k) := by decide +kernel
abbrev cJ7_rangeCheck_23922 : ByteArray := prog_23_method_30_code
def yJ7_rangeCheck_23922 : MethodName := ⟨RJ7, "rangeCheck", "(III)V"⟩
abbrev cJ7_fill_eb02e : ByteArray := prog_23_method_110_code
def yJ7_fill_eb02e : MethodName := ⟨RJ7, "fill", "([BIIB)V"⟩
abbrev cJ7_copyOf_9075b : ByteArray := prog_23_method_121_code
def yJ7_copyOf_9075b : MethodName := ⟨RJ7, "copyOf", "([BI)[B"⟩
def RJ8 : String := "jdk/internal/util/ArraysSupport"
def TJ8 : u_T := fun k => match k with
  | _ => ("", "", "", false)
def tyJ8 : Nat → FieldType := fun k => match k with
  | _ => .int
abbrev wsJ80 : List Cond := u_ws RJ8 TJ8 0
theorem nmJ8 : ∀ a, a < 0 → ∀ b, b < 0 → a ≠ b → (TJ8 a).2.1 ≠ (TJ8 b).2.1 := by decide +kernel
theorem tyJ8_ok : ∀ k, k < 0 → parseFieldDescriptor (TJ8 k).2.2.1 = some (tyJ8 k) := by decide +kernel
abbrev cJ8_newLength_cabcc : ByteArray := prog_24_method_27_code
def yJ8_newLength_cabcc : MethodName := ⟨RJ8, "newLength", "(III)I"⟩
abbrev cJ8_hugeLength_7cf53 : ByteArray := prog_24_method_28_code
def yJ8_hugeLength_7cf53 : MethodName := ⟨RJ8, "hugeLength", "(II)I"⟩
def RJ3 : String := "jdk/internal/util/Preconditions"
def TJ3 : u_T := fun k => match k with
  | _ => ("", "", "", false)
def tyJ3 : Nat → FieldType := fun k => match k with
  | _ => .int
abbrev wsJ30 : List Cond := u_ws RJ3 TJ3 0
theorem nmJ3 : ∀ a, a < 0 → ∀ b, b < 0 → a ≠ b → (TJ3 a).2.1 ≠ (TJ3 b).2.1 := by decide +kernel
theorem tyJ3_ok : ∀ k, k < 0 → parseFieldDescriptor (TJ3 k).2.2.1 = some (tyJ3 k) := by decide +kernel
abbrev cJ3_checkIndex_8e157 : ByteArray := prog_25_method_11_code
def yJ3_checkIndex_8e157 : MethodName := ⟨RJ3, "checkIndex", "(IILjava/util/function/BiFunction;)I"⟩
abbrev cJ3_checkFromToIndex_8c36e : ByteArray := prog_25_method_12_code
def yJ3_checkFromToIndex_8c36e : MethodName := ⟨RJ3, "checkFromToIndex", "(IIILjava/util/function/BiFunction;)I"⟩
abbrev cJ3_checkFromIndexSize_8c36e : ByteArray := prog_25_method_13_code
def yJ3_checkFromIndexSize_8c36e : MethodName := ⟨RJ3, "checkFromIndexSize", "(IIILjava/util/function/BiFunction;)I"⟩
def RL : String := "StarBailiffLaw"
abbrev cL_cell : ByteArray := method_2_code
def yL_cell : MethodName := ⟨RL, "cell", "([II)I"⟩
abbrev cL_write : ByteArray := method_3_code
def yL_write : MethodName := ⟨RL, "write", "(LStarBailiff;Ljava/lang/String;)LStarBailiff;"⟩
abbrev cL_act : ByteArray := method_4_code
def yL_act : MethodName := ⟨RL, "act", "(LStarBailiff;I)I"⟩
abbrev cL_digest : ByteArray := method_5_code
def yL_digest : MethodName := ⟨RL, "digest", "(LStarBailiff;)J"⟩
abbrev cL_areStars : ByteArray := method_6_code
def yL_areStars : MethodName := ⟨RL, "areStars", "(LStarBailiff;)Z"⟩
abbrev cL_areRoofs : ByteArray := method_7_code
def yL_areRoofs : MethodName := ⟨RL, "areRoofs", "(LStarBailiff;)Z"⟩
abbrev cL_isSighted : ByteArray := method_8_code
def yL_isSighted : MethodName := ⟨RL, "isSighted", "(LStarBailiff;II)Z"⟩
abbrev cL_isDawn : ByteArray := method_9_code
def yL_isDawn : MethodName := ⟨RL, "isDawn", "(LStarBailiff;)Z"⟩
abbrev cL_isPound : ByteArray := method_10_code
def yL_isPound : MethodName := ⟨RL, "isPound", "(LStarBailiff;I)Z"⟩
abbrev cL_areOrders : ByteArray := method_11_code
def yL_areOrders : MethodName := ⟨RL, "areOrders", "(LStarBailiff;)Z"⟩
abbrev cL_isFit : ByteArray := method_12_code
def yL_isFit : MethodName := ⟨RL, "isFit", "(LStarBailiff;)Z"⟩
abbrev cL_law : ByteArray := code
def yL_law : MethodName := ⟨RL, "law", "([I)Z"⟩
abbrev vwCl : List vw_C := [(RJ4, TJ4, 4), (RX2, TX2, 3), (RX3, TX3, 4), (RX4, TX4, 10), (RX5, TX5, 5), (RX6, TX6, 6), (RX7, TX7, 6), (RX8, TX8, 3), (RX9, TX9, 9)]

/-- the words of the tables that hold in every state that a run comes to -/
def gTs : List Cond := lw_tbl.filter goodWord
theorem gmem (k : Nat) {w : Cond} (h : lw_tbl[k]? = some w) (g : goodWord w = true) : w ∈ gTs := List.mem_filter.mpr ⟨List.mem_of_getElem? h, g⟩
theorem tmem (k : Nat) {w : Cond} (h : lw_tbl[k]? = some w) : w ∈ lw_tbl := List.mem_of_getElem? h
