section
-- ===== PART A: goes FIRST, ahead of the names: the tables' words, and 'selects' of the private methods out of them =====
/-- a private method of a class that the tables say can be made, by its rows of tables_1 -/
def lw_okq (q : MethodName × Nat) : Prop := (q.1.cls ≠ "java/lang/invoke/MethodHandle" ∧ q.1.cls ≠ "java/lang/invoke/VarHandle") ∧ Cond.instantiable q.1.cls q.2 ∈ tables_1 ∧ Cond.privateMethod q.1 ∈ tables_1 ∧ Cond.instanceMethod q.1 ∈ tables_1
theorem lw_p0 : lw_okq (⟨"StarBailiff", "change", "(LStarBailiff$Command;III)I"⟩, 9) := ⟨⟨by decide +kernel, by decide +kernel⟩, List.mem_of_getElem? (i := 24) (by decide +kernel), List.mem_of_getElem? (i := 314) (by decide +kernel), List.mem_of_getElem? (i := 315) (by decide +kernel)⟩
theorem lw_p1 : lw_okq (⟨"StarBailiff", "carryOut", "(LStarBailiff$Command;III)I"⟩, 9) := ⟨⟨by decide +kernel, by decide +kernel⟩, List.mem_of_getElem? (i := 24) (by decide +kernel), List.mem_of_getElem? (i := 349) (by decide +kernel), List.mem_of_getElem? (i := 350) (by decide +kernel)⟩
theorem lw_p2 : lw_okq (⟨"StarBailiff$Sky", "isGrantable", "(I)Z"⟩, 5) := ⟨⟨by decide +kernel, by decide +kernel⟩, List.mem_of_getElem? (i := 32) (by decide +kernel), List.mem_of_getElem? (i := 492) (by decide +kernel), List.mem_of_getElem? (i := 493) (by decide +kernel)⟩
theorem lw_p3 : lw_okq (⟨"StarBailiff$Sky", "staysAtDawn", "(I)Z"⟩, 5) := ⟨⟨by decide +kernel, by decide +kernel⟩, List.mem_of_getElem? (i := 32) (by decide +kernel), List.mem_of_getElem? (i := 496) (by decide +kernel), List.mem_of_getElem? (i := 497) (by decide +kernel)⟩
theorem lw_p4 : lw_okq (⟨"StarBailiff", "carryOutInput", "()I"⟩, 9) := ⟨⟨by decide +kernel, by decide +kernel⟩, List.mem_of_getElem? (i := 24) (by decide +kernel), List.mem_of_getElem? (i := 566) (by decide +kernel), List.mem_of_getElem? (i := 567) (by decide +kernel)⟩
theorem lw_p5 : lw_okq (⟨"StarBailiff$Words", "follows", "(Ljava/lang/String;Ljava/lang/StringBuilder;I)Z"⟩, 3) := ⟨⟨by decide +kernel, by decide +kernel⟩, List.mem_of_getElem? (i := 227) (by decide +kernel), List.mem_of_getElem? (i := 580) (by decide +kernel), List.mem_of_getElem? (i := 581) (by decide +kernel)⟩
theorem lw_p6 : lw_okq (⟨"StarBailiff$Stars", "countOfBrightness", "(II)I"⟩, 6) := ⟨⟨by decide +kernel, by decide +kernel⟩, List.mem_of_getElem? (i := 38) (by decide +kernel), List.mem_of_getElem? (i := 916) (by decide +kernel), List.mem_of_getElem? (i := 917) (by decide +kernel)⟩
theorem lw_p7 : lw_okq (⟨"StarBailiff", "writeIfAny", "(CI)V"⟩, 9) := ⟨⟨by decide +kernel, by decide +kernel⟩, List.mem_of_getElem? (i := 24) (by decide +kernel), List.mem_of_getElem? (i := 932) (by decide +kernel), List.mem_of_getElem? (i := 933) (by decide +kernel)⟩
theorem lw_p8 : lw_okq (⟨"StarBailiff$Sky", "cheapestWish", "(I)I"⟩, 5) := ⟨⟨by decide +kernel, by decide +kernel⟩, List.mem_of_getElem? (i := 32) (by decide +kernel), List.mem_of_getElem? (i := 994) (by decide +kernel), List.mem_of_getElem? (i := 995) (by decide +kernel)⟩
theorem lw_p9 : lw_okq (⟨"StarBailiff$Sky", "costOfSet", "(I)I"⟩, 5) := ⟨⟨by decide +kernel, by decide +kernel⟩, List.mem_of_getElem? (i := 32) (by decide +kernel), List.mem_of_getElem? (i := 1006) (by decide +kernel), List.mem_of_getElem? (i := 1007) (by decide +kernel)⟩
theorem lw_p10 : lw_okq (⟨"StarBailiff$Sky", "isRicher", "(II)Z"⟩, 5) := ⟨⟨by decide +kernel, by decide +kernel⟩, List.mem_of_getElem? (i := 32) (by decide +kernel), List.mem_of_getElem? (i := 1041) (by decide +kernel), List.mem_of_getElem? (i := 1042) (by decide +kernel)⟩
theorem lw_p11 : lw_okq (⟨"StarBailiff$Stars", "isBrighter", "(II)Z"⟩, 6) := ⟨⟨by decide +kernel, by decide +kernel⟩, List.mem_of_getElem? (i := 38) (by decide +kernel), List.mem_of_getElem? (i := 1053) (by decide +kernel), List.mem_of_getElem? (i := 1054) (by decide +kernel)⟩
theorem lw_p12 : lw_okq (⟨"StarBailiff$Sky", "isCheaper", "(III)Z"⟩, 5) := ⟨⟨by decide +kernel, by decide +kernel⟩, List.mem_of_getElem? (i := 32) (by decide +kernel), List.mem_of_getElem? (i := 1065) (by decide +kernel), List.mem_of_getElem? (i := 1066) (by decide +kernel)⟩
def lw_privs_1 : List (MethodName × Nat) := [(⟨"StarBailiff", "change", "(LStarBailiff$Command;III)I"⟩, 9), (⟨"StarBailiff", "carryOut", "(LStarBailiff$Command;III)I"⟩, 9), (⟨"StarBailiff$Sky", "isGrantable", "(I)Z"⟩, 5), (⟨"StarBailiff$Sky", "staysAtDawn", "(I)Z"⟩, 5), (⟨"StarBailiff", "carryOutInput", "()I"⟩, 9), (⟨"StarBailiff$Words", "follows", "(Ljava/lang/String;Ljava/lang/StringBuilder;I)Z"⟩, 3), (⟨"StarBailiff$Stars", "countOfBrightness", "(II)I"⟩, 6), (⟨"StarBailiff", "writeIfAny", "(CI)V"⟩, 9), (⟨"StarBailiff$Sky", "cheapestWish", "(I)I"⟩, 5), (⟨"StarBailiff$Sky", "costOfSet", "(I)I"⟩, 5), (⟨"StarBailiff$Sky", "isRicher", "(II)Z"⟩, 5), (⟨"StarBailiff$Stars", "isBrighter", "(II)Z"⟩, 6), (⟨"StarBailiff$Sky", "isCheaper", "(III)Z"⟩, 5)]
theorem lw_r1 : ∀ q ∈ lw_privs_1, lw_okq q := List.forall_mem_cons.mpr ⟨lw_p0, List.forall_mem_cons.mpr ⟨lw_p1, List.forall_mem_cons.mpr ⟨lw_p2, List.forall_mem_cons.mpr ⟨lw_p3, List.forall_mem_cons.mpr ⟨lw_p4, List.forall_mem_cons.mpr ⟨lw_p5, List.forall_mem_cons.mpr ⟨lw_p6, List.forall_mem_cons.mpr ⟨lw_p7, List.forall_mem_cons.mpr ⟨lw_p8, List.forall_mem_cons.mpr ⟨lw_p9, List.forall_mem_cons.mpr ⟨lw_p10, List.forall_mem_cons.mpr ⟨lw_p11, List.forall_mem_cons.mpr ⟨lw_p12, fun _ h => absurd h List.not_mem_nil⟩⟩⟩⟩⟩⟩⟩⟩⟩⟩⟩⟩⟩
def lw_privs : List (MethodName × Nat) := lw_privs_1
def lw_tbl : List Cond := k2_sels lw_privs ++ tables_1
theorem lw_privs_ok : ∀ q ∈ lw_privs, lw_okq q := lw_r1
/-- the streams that the claim lets the run draw from -/
abbrev lw_cs : List Choice := [Jvm.Choice.named "NaN.bits"]
theorem lw_bits : nanBits ∈ lw_cs := by first | decide | exact List.mem_cons_self | simp [lw_cs, nanBits]
-- ===== end of PART A; then your names; then what follows =====
end
section
/-! names of the claim, by program (wip/gen/names.py), out of the task's own printed names -/
def RX0 : String := "StarBailiff$1"
def TX0 : u_T := fun k => match k with
  | _ => ("", "", "", false)
def tyX0 : Nat → FieldType := fun k => match k with
  | _ => .int
abbrev wsX00 : List Cond := u_ws RX0 TX0 0
theorem nmX0 : ∀ a, a < 0 → ∀ b, b < 0 → a ≠ b → (TX0 a).2.1 ≠ (TX0 b).2.1 := by decide +kernel
theorem tyX0_ok : ∀ k, k < 0 → parseFieldDescriptor (TX0 k).2.2.1 = some (tyX0 k) := by decide +kernel
def RX1 : String := "StarBailiff$Command"
def TX1 : u_T := fun k => match k with
  | _ => ("", "", "", false)
def tyX1 : Nat → FieldType := fun k => match k with
  | _ => .int
abbrev wsX10 : List Cond := u_ws RX1 TX1 0
theorem nmX1 : ∀ a, a < 0 → ∀ b, b < 0 → a ≠ b → (TX1 a).2.1 ≠ (TX1 b).2.1 := by decide +kernel
theorem tyX1_ok : ∀ k, k < 0 → parseFieldDescriptor (TX1 k).2.2.1 = some (tyX1 k) := by decide +kernel
def RX2 : String := "StarBailiff$Past"
def TX2 : u_T := fun k => match k with
  | 0 => ("StarBailiff$Past", "count", "I", false)
  | 1 => ("StarBailiff$Past", "next", "I", false)
  | _ => ("StarBailiff$Past", "skies", "[LStarBailiff$Sky;", true)
def tyX2 : Nat → FieldType := fun k => match k with
  | 0 => .int
  | 1 => .int
  | _ => .array (.object "StarBailiff$Sky")
abbrev wsX20 : List Cond := u_ws RX2 TX2 3
theorem nmX2 : ∀ a, a < 3 → ∀ b, b < 3 → a ≠ b → (TX2 a).2.1 ≠ (TX2 b).2.1 := by decide +kernel
theorem tyX2_ok : ∀ k, k < 3 → parseFieldDescriptor (TX2 k).2.2.1 = some (tyX2 k) := by decide +kernel
abbrev cX2_init : ByteArray := prog_4_method_1_code
def yX2_init : MethodName := ⟨RX2, "<init>", "()V"⟩
abbrev cX2_note : ByteArray := prog_4_method_2_code
def yX2_note : MethodName := ⟨RX2, "note", "(LStarBailiff$Sky;)V"⟩
abbrev cX2_noted : ByteArray := prog_4_method_3_code
def yX2_noted : MethodName := ⟨RX2, "noted", "()LStarBailiff$Sky;"⟩
abbrev cX2_keepNoted : ByteArray := prog_4_method_4_code
def yX2_keepNoted : MethodName := ⟨RX2, "keepNoted", "()V"⟩
abbrev cX2_forget : ByteArray := prog_4_method_5_code
def yX2_forget : MethodName := ⟨RX2, "forget", "()V"⟩
abbrev cX2_takeBack : ByteArray := prog_4_method_6_code
def yX2_takeBack : MethodName := ⟨RX2, "takeBack", "(LStarBailiff$Sky;)I"⟩
def RX3 : String := "StarBailiff$Refusal"
def TX3 : u_T := fun k => match k with
  | 0 => ("StarBailiff$Refusal", "reason", "I", false)
  | 1 => ("StarBailiff$Refusal", "detail", "I", false)
  | 2 => ("StarBailiff$Refusal", "reasonBehind", "I", false)
  | _ => ("StarBailiff$Refusal", "detailBehind", "I", false)
def tyX3 : Nat → FieldType := fun k => match k with
  | 0 => .int
  | 1 => .int
  | 2 => .int
  | _ => .int
abbrev wsX30 : List Cond := u_ws RX3 TX3 4
theorem nmX3 : ∀ a, a < 4 → ∀ b, b < 4 → a ≠ b → (TX3 a).2.1 ≠ (TX3 b).2.1 := by decide +kernel
theorem tyX3_ok : ∀ k, k < 4 → parseFieldDescriptor (TX3 k).2.2.1 = some (tyX3 k) := by decide +kernel
abbrev cX3_init : ByteArray := prog_5_method_1_code
def yX3_init : MethodName := ⟨RX3, "<init>", "()V"⟩
abbrev cX3_because : ByteArray := prog_5_method_2_code
def yX3_because : MethodName := ⟨RX3, "because", "(II)I"⟩
abbrev cX3_ofCommand : ByteArray := prog_5_method_3_code
def yX3_ofCommand : MethodName := ⟨RX3, "ofCommand", "(II)I"⟩
abbrev cX3_told : ByteArray := prog_5_method_4_code
def yX3_told : MethodName := ⟨RX3, "told", "(IZ)I"⟩
def RX4 : String := "StarBailiff$Roofs"
def TX4 : u_T := fun k => match k with
  | 0 => ("StarBailiff$Roofs", "count", "I", false)
  | 1 => ("StarBailiff$Roofs", "coins", "[I", true)
  | 2 => ("StarBailiff$Roofs", "debt", "[I", true)
  | 3 => ("StarBailiff$Roofs", "stay", "[I", true)
  | 4 => ("StarBailiff$Roofs", "levied", "[I", true)
  | 5 => ("StarBailiff$Roofs", "paid", "[I", true)
  | 6 => ("StarBailiff$Roofs", "granted", "[I", true)
  | 7 => ("StarBailiff$Roofs", "forfeited", "[I", true)
  | 8 => ("StarBailiff$Roofs", "sighted", "[I", true)
  | _ => ("StarBailiff$Roofs", "sightedSeen", "[I", true)
def tyX4 : Nat → FieldType := fun k => match k with
  | 0 => .int
  | 1 => .array .int
  | 2 => .array .int
  | 3 => .array .int
  | 4 => .array .int
  | 5 => .array .int
  | 6 => .array .int
  | 7 => .array .int
  | 8 => .array .int
  | _ => .array .int
abbrev wsX40 : List Cond := u_ws RX4 TX4 10
theorem nmX4 : ∀ a, a < 10 → ∀ b, b < 10 → a ≠ b → (TX4 a).2.1 ≠ (TX4 b).2.1 := by decide +kernel
theorem tyX4_ok : ∀ k, k < 10 → parseFieldDescriptor (TX4 k).2.2.1 = some (tyX4 k) := by decide +kernel
abbrev cX4_init : ByteArray := prog_6_method_1_code
def yX4_init : MethodName := ⟨RX4, "<init>", "()V"⟩
abbrev cX4_copyFrom : ByteArray := prog_6_method_3_code
def yX4_copyFrom : MethodName := ⟨RX4, "copyFrom", "(LStarBailiff$Roofs;)V"⟩
abbrev cX4_add : ByteArray := prog_6_method_4_code
def yX4_add : MethodName := ⟨RX4, "add", "(I)I"⟩
abbrev cX4_has : ByteArray := prog_6_method_5_code
def yX4_has : MethodName := ⟨RX4, "has", "(I)Z"⟩
abbrev cX4_collect : ByteArray := prog_6_method_6_code
def yX4_collect : MethodName := ⟨RX4, "collect", "(III)V"⟩
abbrev cX4_beginNight : ByteArray := prog_6_method_7_code
def yX4_beginNight : MethodName := ⟨RX4, "beginNight", "()V"⟩
def RX5 : String := "StarBailiff$Sky"
def TX5 : u_T := fun k => match k with
  | 0 => ("StarBailiff$Sky", "stars", "LStarBailiff$Stars;", true)
  | 1 => ("StarBailiff$Sky", "roofs", "LStarBailiff$Roofs;", true)
  | 2 => ("StarBailiff$Sky", "wishes", "LStarBailiff$Wishes;", true)
  | 3 => ("StarBailiff$Sky", "nights", "I", false)
  | _ => ("StarBailiff$Sky", "exempt", "I", false)
def tyX5 : Nat → FieldType := fun k => match k with
  | 0 => .object "StarBailiff$Stars"
  | 1 => .object "StarBailiff$Roofs"
  | 2 => .object "StarBailiff$Wishes"
  | 3 => .int
  | _ => .int
abbrev wsX50 : List Cond := u_ws RX5 TX5 5
theorem nmX5 : ∀ a, a < 5 → ∀ b, b < 5 → a ≠ b → (TX5 a).2.1 ≠ (TX5 b).2.1 := by decide +kernel
theorem tyX5_ok : ∀ k, k < 5 → parseFieldDescriptor (TX5 k).2.2.1 = some (tyX5 k) := by decide +kernel
abbrev cX5_init : ByteArray := prog_7_method_1_code
def yX5_init : MethodName := ⟨RX5, "<init>", "()V"⟩
abbrev cX5_copyFrom : ByteArray := prog_7_method_3_code
def yX5_copyFrom : MethodName := ⟨RX5, "copyFrom", "(LStarBailiff$Sky;)V"⟩
abbrev cX5_hasBoth : ByteArray := prog_7_method_4_code
def yX5_hasBoth : MethodName := ⟨RX5, "hasBoth", "(II)Z"⟩
abbrev cX5_addStar : ByteArray := prog_7_method_5_code
def yX5_addStar : MethodName := ⟨RX5, "addStar", "(IILStarBailiff$Refusal;)I"⟩
abbrev cX5_addRoof : ByteArray := prog_7_method_6_code
def yX5_addRoof : MethodName := ⟨RX5, "addRoof", "(ILStarBailiff$Refusal;)I"⟩
abbrev cX5_tellCloud : ByteArray := prog_7_method_7_code
def yX5_tellCloud : MethodName := ⟨RX5, "tellCloud", "(IILStarBailiff$Refusal;)I"⟩
abbrev cX5_sightStar : ByteArray := prog_7_method_8_code
def yX5_sightStar : MethodName := ⟨RX5, "sightStar", "(IILStarBailiff$Refusal;)I"⟩
abbrev cX5_levyOn : ByteArray := prog_7_method_9_code
def yX5_levyOn : MethodName := ⟨RX5, "levyOn", "(II)I"⟩
abbrev cX5_claimStar : ByteArray := prog_7_method_10_code
def yX5_claimStar : MethodName := ⟨RX5, "claimStar", "(IILStarBailiff$Refusal;)I"⟩
abbrev cX5_dropClaim : ByteArray := prog_7_method_11_code
def yX5_dropClaim : MethodName := ⟨RX5, "dropClaim", "(ILStarBailiff$Refusal;)I"⟩
abbrev cX5_addWish : ByteArray := prog_7_method_12_code
def yX5_addWish : MethodName := ⟨RX5, "addWish", "(IIILStarBailiff$Refusal;)I"⟩
abbrev cX5_payDebt : ByteArray := prog_7_method_13_code
def yX5_payDebt : MethodName := ⟨RX5, "payDebt", "(IILStarBailiff$Refusal;)I"⟩
abbrev cX5_poundWishes : ByteArray := prog_7_method_14_code
def yX5_poundWishes : MethodName := ⟨RX5, "poundWishes", "(ILStarBailiff$Refusal;)I"⟩
abbrev cX5_costToRedeem : ByteArray := prog_7_method_15_code
def yX5_costToRedeem : MethodName := ⟨RX5, "costToRedeem", "(I)I"⟩
abbrev cX5_redeemWish : ByteArray := prog_7_method_16_code
def yX5_redeemWish : MethodName := ⟨RX5, "redeemWish", "(ILStarBailiff$Refusal;)I"⟩
abbrev cX5_giveStay : ByteArray := prog_7_method_17_code
def yX5_giveStay : MethodName := ⟨RX5, "giveStay", "(IILStarBailiff$Refusal;)I"⟩
abbrev cX5_passNight : ByteArray := prog_7_method_18_code
def yX5_passNight : MethodName := ⟨RX5, "passNight", "()I"⟩
abbrev cX5_staysAtDawn : ByteArray := prog_7_method_19_code
def yX5_staysAtDawn : MethodName := ⟨RX5, "staysAtDawn", "(I)Z"⟩
abbrev cX5_isGrantable : ByteArray := prog_7_method_20_code
def yX5_isGrantable : MethodName := ⟨RX5, "isGrantable", "(I)Z"⟩
abbrev cX5_countGrantable : ByteArray := prog_7_method_21_code
def yX5_countGrantable : MethodName := ⟨RX5, "countGrantable", "()I"⟩
abbrev cX5_countRedeemable : ByteArray := prog_7_method_22_code
def yX5_countRedeemable : MethodName := ⟨RX5, "countRedeemable", "(I)I"⟩
abbrev cX5_cheapestWish : ByteArray := prog_7_method_23_code
def yX5_cheapestWish : MethodName := ⟨RX5, "cheapestWish", "(I)I"⟩
abbrev cX5_countRedeemableByTrying : ByteArray := prog_7_method_24_code
def yX5_countRedeemableByTrying : MethodName := ⟨RX5, "countRedeemableByTrying", "(I)I"⟩
abbrev cX5_costOfSet : ByteArray := prog_7_method_25_code
def yX5_costOfSet : MethodName := ⟨RX5, "costOfSet", "(I)I"⟩
abbrev cX5_cheapestStar : ByteArray := prog_7_method_26_code
def yX5_cheapestStar : MethodName := ⟨RX5, "cheapestStar", "(I)I"⟩
abbrev cX5_isCheaper : ByteArray := prog_7_method_27_code
def yX5_isCheaper : MethodName := ⟨RX5, "isCheaper", "(III)Z"⟩
abbrev cX5_roofAtPlace : ByteArray := prog_7_method_28_code
def yX5_roofAtPlace : MethodName := ⟨RX5, "roofAtPlace", "(I)I"⟩
abbrev cX5_isRicher : ByteArray := prog_7_method_29_code
def yX5_isRicher : MethodName := ⟨RX5, "isRicher", "(II)Z"⟩
def RX6 : String := "StarBailiff$Stars"
def TX6 : u_T := fun k => match k with
  | 0 => ("StarBailiff$Stars", "count", "I", false)
  | 1 => ("StarBailiff$Stars", "brightness", "[I", true)
  | 2 => ("StarBailiff$Stars", "sector", "[I", true)
  | 3 => ("StarBailiff$Stars", "claimant", "[I", true)
  | 4 => ("StarBailiff$Stars", "sightings", "[I", true)
  | _ => ("StarBailiff$Stars", "clouds", "[I", true)
def tyX6 : Nat → FieldType := fun k => match k with
  | 0 => .int
  | 1 => .array .int
  | 2 => .array .int
  | 3 => .array .int
  | 4 => .array .int
  | _ => .array .int
abbrev wsX60 : List Cond := u_ws RX6 TX6 6
theorem nmX6 : ∀ a, a < 6 → ∀ b, b < 6 → a ≠ b → (TX6 a).2.1 ≠ (TX6 b).2.1 := by decide +kernel
theorem tyX6_ok : ∀ k, k < 6 → parseFieldDescriptor (TX6 k).2.2.1 = some (tyX6 k) := by decide +kernel
abbrev cX6_init : ByteArray := prog_8_method_1_code
def yX6_init : MethodName := ⟨RX6, "<init>", "()V"⟩
abbrev cX6_copyFrom : ByteArray := prog_8_method_3_code
def yX6_copyFrom : MethodName := ⟨RX6, "copyFrom", "(LStarBailiff$Stars;)V"⟩
abbrev cX6_add : ByteArray := prog_8_method_4_code
def yX6_add : MethodName := ⟨RX6, "add", "(II)I"⟩
abbrev cX6_has : ByteArray := prog_8_method_5_code
def yX6_has : MethodName := ⟨RX6, "has", "(I)Z"⟩
abbrev cX6_isSeen : ByteArray := prog_8_method_6_code
def yX6_isSeen : MethodName := ⟨RX6, "isSeen", "(I)Z"⟩
abbrev cX6_countSeen : ByteArray := prog_8_method_7_code
def yX6_countSeen : MethodName := ⟨RX6, "countSeen", "(I)I"⟩
abbrev cX6_countSeenByBrightness : ByteArray := prog_8_method_8_code
def yX6_countSeenByBrightness : MethodName := ⟨RX6, "countSeenByBrightness", "(I)I"⟩
abbrev cX6_countOfBrightness : ByteArray := prog_8_method_9_code
def yX6_countOfBrightness : MethodName := ⟨RX6, "countOfBrightness", "(II)I"⟩
abbrev cX6_dawnsUntilAllSeen : ByteArray := prog_8_method_10_code
def yX6_dawnsUntilAllSeen : MethodName := ⟨RX6, "dawnsUntilAllSeen", "(I)I"⟩
abbrev cX6_countClaimed : ByteArray := prog_8_method_11_code
def yX6_countClaimed : MethodName := ⟨RX6, "countClaimed", "()I"⟩
abbrev cX6_countClaimedBy : ByteArray := prog_8_method_12_code
def yX6_countClaimedBy : MethodName := ⟨RX6, "countClaimedBy", "(I)I"⟩
abbrev cX6_starAtPlace : ByteArray := prog_8_method_13_code
def yX6_starAtPlace : MethodName := ⟨RX6, "starAtPlace", "(I)I"⟩
abbrev cX6_isBrighter : ByteArray := prog_8_method_14_code
def yX6_isBrighter : MethodName := ⟨RX6, "isBrighter", "(II)Z"⟩
abbrev cX6_thinClouds : ByteArray := prog_8_method_15_code
def yX6_thinClouds : MethodName := ⟨RX6, "thinClouds", "()V"⟩
def RX7 : String := "StarBailiff$Wishes"
def TX7 : u_T := fun k => match k with
  | 0 => ("StarBailiff$Wishes", "count", "I", false)
  | 1 => ("StarBailiff$Wishes", "roof", "[I", true)
  | 2 => ("StarBailiff$Wishes", "star", "[I", true)
  | 3 => ("StarBailiff$Wishes", "kind", "[I", true)
  | 4 => ("StarBailiff$Wishes", "age", "[I", true)
  | _ => ("StarBailiff$Wishes", "impounded", "[I", true)
def tyX7 : Nat → FieldType := fun k => match k with
  | 0 => .int
  | 1 => .array .int
  | 2 => .array .int
  | 3 => .array .int
  | 4 => .array .int
  | _ => .array .int
abbrev wsX70 : List Cond := u_ws RX7 TX7 6
theorem nmX7 : ∀ a, a < 6 → ∀ b, b < 6 → a ≠ b → (TX7 a).2.1 ≠ (TX7 b).2.1 := by decide +kernel
theorem tyX7_ok : ∀ k, k < 6 → parseFieldDescriptor (TX7 k).2.2.1 = some (tyX7 k) := by decide +kernel
abbrev cX7_init : ByteArray := prog_9_method_1_code
def yX7_init : MethodName := ⟨RX7, "<init>", "()V"⟩
abbrev cX7_copyFrom : ByteArray := prog_9_method_3_code
def yX7_copyFrom : MethodName := ⟨RX7, "copyFrom", "(LStarBailiff$Wishes;)V"⟩
abbrev cX7_add : ByteArray := prog_9_method_4_code
def yX7_add : MethodName := ⟨RX7, "add", "(III)I"⟩
abbrev cX7_move : ByteArray := prog_9_method_5_code
def yX7_move : MethodName := ⟨RX7, "move", "(II)V"⟩
abbrev cX7_has : ByteArray := prog_9_method_6_code
def yX7_has : MethodName := ⟨RX7, "has", "(I)Z"⟩
abbrev cX7_isImpounded : ByteArray := prog_9_method_7_code
def yX7_isImpounded : MethodName := ⟨RX7, "isImpounded", "(I)Z"⟩
abbrev cX7_countOn : ByteArray := prog_9_method_8_code
def yX7_countOn : MethodName := ⟨RX7, "countOn", "(I)I"⟩
abbrev cX7_countOf : ByteArray := prog_9_method_9_code
def yX7_countOf : MethodName := ⟨RX7, "countOf", "(I)I"⟩
abbrev cX7_countImpounded : ByteArray := prog_9_method_10_code
def yX7_countImpounded : MethodName := ⟨RX7, "countImpounded", "()I"⟩
abbrev cX7_impoundedSetOf : ByteArray := prog_9_method_11_code
def yX7_impoundedSetOf : MethodName := ⟨RX7, "impoundedSetOf", "(I)I"⟩
abbrev cX7_impoundAllOf : ByteArray := prog_9_method_12_code
def yX7_impoundAllOf : MethodName := ⟨RX7, "impoundAllOf", "(I)I"⟩
def RX8 : String := "StarBailiff$Words"
def TX8 : u_T := fun k => match k with
  | 0 => ("StarBailiff$Words", "command", "LStarBailiff$Command;", false)
  | 1 => ("StarBailiff$Words", "end", "I", false)
  | _ => ("StarBailiff$Words", "numbers", "[I", true)
def tyX8 : Nat → FieldType := fun k => match k with
  | 0 => .object "StarBailiff$Command"
  | 1 => .int
  | _ => .array .int
abbrev wsX80 : List Cond := u_ws RX8 TX8 3
theorem nmX8 : ∀ a, a < 3 → ∀ b, b < 3 → a ≠ b → (TX8 a).2.1 ≠ (TX8 b).2.1 := by decide +kernel
theorem tyX8_ok : ∀ k, k < 3 → parseFieldDescriptor (TX8 k).2.2.1 = some (tyX8 k) := by decide +kernel
abbrev cX8_init : ByteArray := prog_10_method_1_code
def yX8_init : MethodName := ⟨RX8, "<init>", "()V"⟩
abbrev cX8_countCommands : ByteArray := prog_10_method_2_code
def yX8_countCommands : MethodName := ⟨RX8, "countCommands", "(Ljava/lang/StringBuilder;)I"⟩
abbrev cX8_findCommand : ByteArray := prog_10_method_3_code
def yX8_findCommand : MethodName := ⟨RX8, "findCommand", "(Ljava/lang/StringBuilder;I)Z"⟩
abbrev cX8_follows : ByteArray := prog_10_method_4_code
def yX8_follows : MethodName := ⟨RX8, "follows", "(Ljava/lang/String;Ljava/lang/StringBuilder;I)Z"⟩
abbrev cX8_isPlace : ByteArray := prog_10_method_5_code
def yX8_isPlace : MethodName := ⟨RX8, "isPlace", "(C)Z"⟩
abbrev cX8_fits : ByteArray := prog_10_method_6_code
def yX8_fits : MethodName := ⟨RX8, "fits", "(CC)Z"⟩
def RX9 : String := "StarBailiff"
def TX9 : u_T := fun k => match k with
  | 0 => ("StarBailiff", "sky", "LStarBailiff$Sky;", true)
  | 1 => ("StarBailiff", "saved", "LStarBailiff$Sky;", true)
  | 2 => ("StarBailiff", "past", "LStarBailiff$Past;", true)
  | 3 => ("StarBailiff", "refusal", "LStarBailiff$Refusal;", true)
  | 4 => ("StarBailiff", "words", "LStarBailiff$Words;", true)
  | 5 => ("StarBailiff", "input", "Ljava/lang/StringBuilder;", true)
  | 6 => ("StarBailiff", "line", "Ljava/lang/StringBuilder;", true)
  | 7 => ("StarBailiff", "isSaved", "Z", false)
  | _ => ("StarBailiff", "faultAt", "I", false)
def tyX9 : Nat → FieldType := fun k => match k with
  | 0 => .object "StarBailiff$Sky"
  | 1 => .object "StarBailiff$Sky"
  | 2 => .object "StarBailiff$Past"
  | 3 => .object "StarBailiff$Refusal"
  | 4 => .object "StarBailiff$Words"
  | 5 => .object "java/lang/StringBuilder"
  | 6 => .object "java/lang/StringBuilder"
  | 7 => .boolean
  | _ => .int
abbrev wsX90 : List Cond := u_ws RX9 TX9 9
theorem nmX9 : ∀ a, a < 9 → ∀ b, b < 9 → a ≠ b → (TX9 a).2.1 ≠ (TX9 b).2.1 := by decide +kernel
theorem tyX9_ok : ∀ k, k < 9 → parseFieldDescriptor (TX9 k).2.2.1 = some (tyX9 k) := by decide +kernel
abbrev cX9_init : ByteArray := prog_1_method_1_code
def yX9_init : MethodName := ⟨RX9, "<init>", "()V"⟩
abbrev cX9_append : ByteArray := prog_1_method_3_code
def yX9_append : MethodName := ⟨RX9, "append", "(C)I"⟩
abbrev cX9_star : ByteArray := prog_1_method_4_code
def yX9_star : MethodName := ⟨RX9, "star", "(II)I"⟩
abbrev cX9_roof : ByteArray := prog_1_method_5_code
def yX9_roof : MethodName := ⟨RX9, "roof", "(I)I"⟩
abbrev cX9_cloud : ByteArray := prog_1_method_6_code
def yX9_cloud : MethodName := ⟨RX9, "cloud", "(II)I"⟩
abbrev cX9_sight : ByteArray := prog_1_method_7_code
def yX9_sight : MethodName := ⟨RX9, "sight", "(II)I"⟩
abbrev cX9_claim : ByteArray := prog_1_method_8_code
def yX9_claim : MethodName := ⟨RX9, "claim", "(II)I"⟩
abbrev cX9_drop : ByteArray := prog_1_method_9_code
def yX9_drop : MethodName := ⟨RX9, "drop", "(I)I"⟩
abbrev cX9_wish : ByteArray := prog_1_method_10_code
def yX9_wish : MethodName := ⟨RX9, "wish", "(III)I"⟩
abbrev cX9_pay : ByteArray := prog_1_method_11_code
def yX9_pay : MethodName := ⟨RX9, "pay", "(II)I"⟩
abbrev cX9_pound : ByteArray := prog_1_method_12_code
def yX9_pound : MethodName := ⟨RX9, "pound", "(I)I"⟩
abbrev cX9_redeem : ByteArray := prog_1_method_13_code
def yX9_redeem : MethodName := ⟨RX9, "redeem", "(I)I"⟩
abbrev cX9_stay : ByteArray := prog_1_method_14_code
def yX9_stay : MethodName := ⟨RX9, "stay", "(II)I"⟩
abbrev cX9_dawn : ByteArray := prog_1_method_15_code
def yX9_dawn : MethodName := ⟨RX9, "dawn", "()I"⟩
abbrev cX9_read : ByteArray := prog_1_method_16_code
def yX9_read : MethodName := ⟨RX9, "read", "()I"⟩
abbrev cX9_reason : ByteArray := prog_1_method_18_code
def yX9_reason : MethodName := ⟨RX9, "reason", "(IZ)I"⟩
abbrev cX9_starOf : ByteArray := prog_1_method_19_code
def yX9_starOf : MethodName := ⟨RX9, "starOf", "(II)I"⟩
abbrev cX9_roofOf : ByteArray := prog_1_method_20_code
def yX9_roofOf : MethodName := ⟨RX9, "roofOf", "(II)I"⟩
abbrev cX9_wishOf : ByteArray := prog_1_method_21_code
def yX9_wishOf : MethodName := ⟨RX9, "wishOf", "(II)I"⟩
abbrev cX9_cloudOf : ByteArray := prog_1_method_22_code
def yX9_cloudOf : MethodName := ⟨RX9, "cloudOf", "(I)I"⟩
abbrev cX9_debt : ByteArray := prog_1_method_23_code
def yX9_debt : MethodName := ⟨RX9, "debt", "(I)I"⟩
abbrev cX9_debtAgain : ByteArray := prog_1_method_24_code
def yX9_debtAgain : MethodName := ⟨RX9, "debtAgain", "(I)I"⟩
abbrev cX9_seen : ByteArray := prog_1_method_25_code
def yX9_seen : MethodName := ⟨RX9, "seen", "(I)I"⟩
abbrev cX9_seenAgain : ByteArray := prog_1_method_26_code
def yX9_seenAgain : MethodName := ⟨RX9, "seenAgain", "(I)I"⟩
abbrev cX9_levy : ByteArray := prog_1_method_27_code
def yX9_levy : MethodName := ⟨RX9, "levy", "(II)I"⟩
abbrev cX9_could : ByteArray := prog_1_method_28_code
def yX9_could : MethodName := ⟨RX9, "could", "(I)I"⟩
abbrev cX9_couldAgain : ByteArray := prog_1_method_29_code
def yX9_couldAgain : MethodName := ⟨RX9, "couldAgain", "(I)I"⟩
abbrev cX9_brightens : ByteArray := prog_1_method_30_code
def yX9_brightens : MethodName := ⟨RX9, "brightens", "(I)I"⟩
abbrev cX9_cheapest : ByteArray := prog_1_method_31_code
def yX9_cheapest : MethodName := ⟨RX9, "cheapest", "(I)I"⟩
abbrev cX9_wouldGrant : ByteArray := prog_1_method_32_code
def yX9_wouldGrant : MethodName := ⟨RX9, "wouldGrant", "()I"⟩
abbrev cX9_richest : ByteArray := prog_1_method_33_code
def yX9_richest : MethodName := ⟨RX9, "richest", "(I)I"⟩
abbrev cX9_brightest : ByteArray := prog_1_method_34_code
def yX9_brightest : MethodName := ⟨RX9, "brightest", "(I)I"⟩
abbrev cX9_write : ByteArray := prog_1_method_35_code
def yX9_write : MethodName := ⟨RX9, "write", "(I)I"⟩
abbrev cX9_writeSky : ByteArray := prog_1_method_36_code
def yX9_writeSky : MethodName := ⟨RX9, "writeSky", "(I)I"⟩
abbrev cX9_isWell : ByteArray := prog_1_method_38_code
def yX9_isWell : MethodName := ⟨RX9, "isWell", "()I"⟩
abbrev cX9_meanCloud : ByteArray := prog_1_method_39_code
def yX9_meanCloud : MethodName := ⟨RX9, "meanCloud", "()D"⟩
abbrev cX9_poundShare : ByteArray := prog_1_method_40_code
def yX9_poundShare : MethodName := ⟨RX9, "poundShare", "()F"⟩
abbrev cX9_account : ByteArray := prog_1_method_41_code
def yX9_account : MethodName := ⟨RX9, "account", "(I)I"⟩
abbrev cX9_undo : ByteArray := prog_1_method_42_code
def yX9_undo : MethodName := ⟨RX9, "undo", "()I"⟩
abbrev cX9_save : ByteArray := prog_1_method_43_code
def yX9_save : MethodName := ⟨RX9, "save", "()I"⟩
abbrev cX9_restore : ByteArray := prog_1_method_44_code
def yX9_restore : MethodName := ⟨RX9, "restore", "()I"⟩
abbrev cX9_change : ByteArray := prog_1_method_45_code
def yX9_change : MethodName := ⟨RX9, "change", "(LStarBailiff$Command;III)I"⟩
abbrev cX9_carryOut : ByteArray := prog_1_method_46_code
def yX9_carryOut : MethodName := ⟨RX9, "carryOut", "(LStarBailiff$Command;III)I"⟩
abbrev cX9_carryOutInput : ByteArray := prog_1_method_47_code
def yX9_carryOutInput : MethodName := ⟨RX9, "carryOutInput", "()I"⟩
abbrev cX9_writeIfAny : ByteArray := prog_1_method_48_code
def yX9_writeIfAny : MethodName := ⟨RX9, "writeIfAny", "(CI)V"⟩
abbrev cX9_isWithin : ByteArray := prog_1_method_49_code
def yX9_isWithin : MethodName := ⟨RX9, "isWithin", "(III)Z"⟩
abbrev cX9_isSector : ByteArray := prog_1_method_50_code
def yX9_isSector : MethodName := ⟨RX9, "isSector", "(I)Z"⟩
abbrev cX9_sum : ByteArray := prog_1_method_51_code
def yX9_sum : MethodName := ⟨RX9, "sum", "([II)I"⟩
abbrev cX9_countAlike : ByteArray := prog_1_method_52_code
def yX9_countAlike : MethodName := ⟨RX9, "countAlike", "([III)I"⟩
abbrev cX9_copyRow : ByteArray := prog_1_method_53_code
def yX9_copyRow : MethodName := ⟨RX9, "copyRow", "([I[I)V"⟩
def RX10 : String := "StarBailiffModel"
def TX10 : u_T := fun k => match k with
  | _ => ("", "", "", false)
def tyX10 : Nat → FieldType := fun k => match k with
  | _ => .int
abbrev wsX100 : List Cond := u_ws RX10 TX10 0
theorem nmX10 : ∀ a, a < 0 → ∀ b, b < 0 → a ≠ b → (TX10 a).2.1 ≠ (TX10 b).2.1 := by decide +kernel
theorem tyX10_ok : ∀ k, k < 0 → parseFieldDescriptor (TX10 k).2.2.1 = some (tyX10 k) := by decide +kernel
def RJ5 : String := "java/lang/AbstractStringBuilder"
def TJ5 : u_T := fun k => match k with
  | _ => ("", "", "", false)
def tyJ5 : Nat → FieldType := fun k => match k with
  | _ => .int
abbrev wsJ50 : List Cond := u_ws RJ5 TJ5 0
theorem nmJ5 : ∀ a, a < 0 → ∀ b, b < 0 → a ≠ b → (TJ5 a).2.1 ≠ (TJ5 b).2.1 := by decide +kernel
theorem tyJ5_ok : ∀ k, k < 0 → parseFieldDescriptor (TJ5 k).2.2.1 = some (tyJ5 k) := by decide +kernel
abbrev cJ5_init_d00df : ByteArray := prog_13_method_2_code
def yJ5_init_d00df : MethodName := ⟨RJ5, "<init>", "(I)V"⟩
abbrev cJ5_length_8abf5 : ByteArray := prog_13_method_6_code
def yJ5_length_8abf5 : MethodName := ⟨RJ5, "length", "()I"⟩
abbrev cJ5_ensureCapacityInternal_d00df : ByteArray := prog_13_method_9_code
def yJ5_ensureCapacityInternal_d00df : MethodName := ⟨RJ5, "ensureCapacityInternal", "(I)V"⟩
abbrev cJ5_newCapacity_0f7a4 : ByteArray := prog_13_method_10_code
def yJ5_newCapacity_0f7a4 : MethodName := ⟨RJ5, "newCapacity", "(I)I"⟩
abbrev cJ5_inflate_da8c8 : ByteArray := prog_13_method_11_code
def yJ5_inflate_da8c8 : MethodName := ⟨RJ5, "inflate", "()V"⟩
abbrev cJ5_setLength_d00df : ByteArray := prog_13_method_13_code
def yJ5_setLength_d00df : MethodName := ⟨RJ5, "setLength", "(I)V"⟩
abbrev cJ5_charAt_5068e : ByteArray := prog_13_method_14_code
def yJ5_charAt_5068e : MethodName := ⟨RJ5, "charAt", "(I)C"⟩
abbrev cJ5_append_3fe6f : ByteArray := prog_13_method_31_code
def yJ5_append_3fe6f : MethodName := ⟨RJ5, "append", "(C)Ljava/lang/AbstractStringBuilder;"⟩
abbrev cJ5_append_c97b9 : ByteArray := prog_13_method_32_code
def yJ5_append_c97b9 : MethodName := ⟨RJ5, "append", "(I)Ljava/lang/AbstractStringBuilder;"⟩
abbrev cJ5_isLatin1_aae02 : ByteArray := prog_13_method_68_code
def yJ5_isLatin1_aae02 : MethodName := ⟨RJ5, "isLatin1", "()Z"⟩
def RJx8e188 : String := "java/lang/Cloneable"
def TJx8e188 : u_T := fun k => match k with
  | _ => ("", "", "", false)
def tyJx8e188 : Nat → FieldType := fun k => match k with
  | _ => .int
abbrev wsJx8e1880 : List Cond := u_ws RJx8e188 TJx8e188 0
theorem nmJx8e188 : ∀ a, a < 0 → ∀ b, b < 0 → a ≠ b → (TJx8e188 a).2.1 ≠ (TJx8e188 b).2.1 := by decide +kernel
theorem tyJx8e188_ok : ∀ k, k < 0 → parseFieldDescriptor (TJx8e188 k).2.2.1 = some (tyJx8e188 k) := by decide +kernel
def RJx29ce0 : String := "java/lang/Enum"
def TJx29ce0 : u_T := fun k => match k with
  | _ => ("", "", "", false)
def tyJx29ce0 : Nat → FieldType := fun k => match k with
  | _ => .int
abbrev wsJx29ce00 : List Cond := u_ws RJx29ce0 TJx29ce0 0
theorem nmJx29ce0 : ∀ a, a < 0 → ∀ b, b < 0 → a ≠ b → (TJx29ce0 a).2.1 ≠ (TJx29ce0 b).2.1 := by decide +kernel
theorem tyJx29ce0_ok : ∀ k, k < 0 → parseFieldDescriptor (TJx29ce0 k).2.2.1 = some (tyJx29ce0 k) := by decide +kernel
abbrev cJx29ce0_ordinal_8abf5 : ByteArray := prog_15_method_2_code
def yJx29ce0_ordinal_8abf5 : MethodName := ⟨RJx29ce0, "ordinal", "()I"⟩
def RJ6 : String := "java/lang/Integer"
def TJ6 : u_T := fun k => match k with
  | _ => ("", "", "", false)
def tyJ6 : Nat → FieldType := fun k => match k with
  | _ => .int
abbrev wsJ60 : List Cond := u_ws RJ6 TJ6 0
theorem nmJ6 : ∀ a, a < 0 → ∀ b, b < 0 → a ≠ b → (TJ6 a).2.1 ≠ (TJ6 b).2.1 := by decide +kernel
theorem tyJ6_ok : ∀ k, k < 0 → parseFieldDescriptor (TJ6 k).2.2.1 = some (tyJ6 k) := by decide +kernel
abbrev cJ6_getChars_ba4f3 : ByteArray := prog_16_method_12_code
def yJ6_getChars_ba4f3 : MethodName := ⟨RJ6, "getChars", "(II[B)I"⟩
abbrev cJ6_stringSize_0f7a4 : ByteArray := prog_16_method_13_code
def yJ6_stringSize_0f7a4 : MethodName := ⟨RJ6, "stringSize", "(I)I"⟩
abbrev cJ6_bitCount_0f7a4 : ByteArray := prog_16_method_49_code
def yJ6_bitCount_0f7a4 : MethodName := ⟨RJ6, "bitCount", "(I)I"⟩
def RJ9 : String := "java/lang/Math"
def TJ9 : u_T := fun k => match k with
  | _ => ("", "", "", false)
def tyJ9 : Nat → FieldType := fun k => match k with
  | _ => .int
abbrev wsJ90 : List Cond := u_ws RJ9 TJ9 0
theorem nmJ9 : ∀ a, a < 0 → ∀ b, b < 0 → a ≠ b → (TJ9 a).2.1 ≠ (TJ9 b).2.1 := by decide +kernel
theorem tyJ9_ok : ∀ k, k < 0 → parseFieldDescriptor (TJ9 k).2.2.1 = some (tyJ9 k) := by decide +kernel
abbrev cJ9_max_7cf53 : ByteArray := prog_17_method_65_code
def yJ9_max_7cf53 : MethodName := ⟨RJ9, "max", "(II)I"⟩
abbrev cJ9_min_7cf53 : ByteArray := prog_17_method_69_code
def yJ9_min_7cf53 : MethodName := ⟨RJ9, "min", "(II)I"⟩
def RJ0 : String := "java/lang/String"
def TJ0 : u_T := fun k => match k with
  | _ => ("", "", "", false)
def tyJ0 : Nat → FieldType := fun k => match k with
  | _ => .int
abbrev wsJ00 : List Cond := u_ws RJ0 TJ0 0
theorem nmJ0 : ∀ a, a < 0 → ∀ b, b < 0 → a ≠ b → (TJ0 a).2.1 ≠ (TJ0 b).2.1 := by decide +kernel
theorem tyJ0_ok : ∀ k, k < 0 → parseFieldDescriptor (TJ0 k).2.2.1 = some (tyJ0 k) := by decide +kernel
abbrev cJ0_length_8abf5 : ByteArray := prog_18_method_54_code
def yJ0_length_8abf5 : MethodName := ⟨RJ0, "length", "()I"⟩
abbrev cJ0_charAt_5068e : ByteArray := prog_18_method_56_code
def yJ0_charAt_5068e : MethodName := ⟨RJ0, "charAt", "(I)C"⟩
abbrev cJ0_coder_7d493 : ByteArray := prog_18_method_152_code
def yJ0_coder_7d493 : MethodName := ⟨RJ0, "coder", "()B"⟩
abbrev cJ0_isLatin1_aae02 : ByteArray := prog_18_method_154_code
def yJ0_isLatin1_aae02 : MethodName := ⟨RJ0, "isLatin1", "()Z"⟩
abbrev cJ0_checkIndex_df160 : ByteArray := prog_18_method_155_code
def yJ0_checkIndex_df160 : MethodName := ⟨RJ0, "checkIndex", "(II)V"⟩
abbrev cJ0_checkBoundsOffCount_cabcc : ByteArray := prog_18_method_157_code
def yJ0_checkBoundsOffCount_cabcc : MethodName := ⟨RJ0, "checkBoundsOffCount", "(III)I"⟩
abbrev cJ0_checkBoundsBeginEnd_23922 : ByteArray := prog_18_method_158_code
def yJ0_checkBoundsBeginEnd_23922 : MethodName := ⟨RJ0, "checkBoundsBeginEnd", "(III)V"⟩
def RJ4 : String := "java/lang/StringBuilder"
def TJ4 : u_T := fun k => match k with
  | 0 => ("java/lang/AbstractStringBuilder", "value", "[B", false)
  | 1 => ("java/lang/AbstractStringBuilder", "coder", "B", false)
  | 2 => ("java/lang/AbstractStringBuilder", "maybeLatin1", "Z", false)
  | _ => ("java/lang/AbstractStringBuilder", "count", "I", false)
def tyJ4 : Nat → FieldType := fun k => match k with
  | 0 => .array .byte
  | 1 => .byte
  | 2 => .boolean
  | _ => .int
abbrev wsJ40 : List Cond := u_ws RJ4 TJ4 4
theorem nmJ4 : ∀ a, a < 4 → ∀ b, b < 4 → a ≠ b → (TJ4 a).2.1 ≠ (TJ4 b).2.1 := by decide +kernel
theorem tyJ4_ok : ∀ k, k < 4 → parseFieldDescriptor (TJ4 k).2.2.1 = some (tyJ4 k) := by decide +kernel
abbrev cJ4_init_da8c8 : ByteArray := prog_19_method_1_code
def yJ4_init_da8c8 : MethodName := ⟨RJ4, "<init>", "()V"⟩
abbrev cJ4_append_cf468 : ByteArray := prog_19_method_14_code
def yJ4_append_cf468 : MethodName := ⟨RJ4, "append", "(C)Ljava/lang/StringBuilder;"⟩
abbrev cJ4_append_bf812 : ByteArray := prog_19_method_15_code
def yJ4_append_bf812 : MethodName := ⟨RJ4, "append", "(I)Ljava/lang/StringBuilder;"⟩
abbrev cJ4_charAt_5068e : ByteArray := prog_19_method_88_code
def yJ4_charAt_5068e : MethodName := ⟨RJ4, "charAt", "(I)C"⟩
abbrev cJ4_setLength_d00df : ByteArray := prog_19_method_89_code
def yJ4_setLength_d00df : MethodName := ⟨RJ4, "setLength", "(I)V"⟩
abbrev cJ4_length_8abf5 : ByteArray := prog_19_method_93_code
def yJ4_length_8abf5 : MethodName := ⟨RJ4, "length", "()I"⟩
def RJ1 : String := "java/lang/StringLatin1"
def TJ1 : u_T := fun k => match k with
  | _ => ("", "", "", false)
def tyJ1 : Nat → FieldType := fun k => match k with
  | _ => .int
abbrev wsJ10 : List Cond := u_ws RJ1 TJ1 0
theorem nmJ1 : ∀ a, a < 0 → ∀ b, b < 0 → a ≠ b → (TJ1 a).2.1 ≠ (TJ1 b).2.1 := by decide +kernel
theorem tyJ1_ok : ∀ k, k < 0 → parseFieldDescriptor (TJ1 k).2.2.1 = some (tyJ1 k) := by decide +kernel
abbrev cJ1_charAt_3b067 : ByteArray := prog_20_method_2_code
def yJ1_charAt_3b067 : MethodName := ⟨RJ1, "charAt", "([BI)C"⟩
abbrev cJ1_canEncode_fc78d : ByteArray := prog_20_method_3_code
def yJ1_canEncode_fc78d : MethodName := ⟨RJ1, "canEncode", "(C)Z"⟩
abbrev cJ1_fillNull_b72d1 : ByteArray := prog_20_method_48_code
def yJ1_fillNull_b72d1 : MethodName := ⟨RJ1, "fillNull", "([BII)V"⟩
abbrev cJ1_inflate_0e8fd : ByteArray := prog_20_method_50_code
def yJ1_inflate_0e8fd : MethodName := ⟨RJ1, "inflate", "([BI[BII)V"⟩
def RJ2 : String := "java/lang/StringUTF16"
def TJ2 : u_T := fun k => match k with
  | _ => ("", "", "", false)
def tyJ2 : Nat → FieldType := fun k => match k with
  | _ => .int
abbrev wsJ20 : List Cond := u_ws RJ2 TJ2 0
theorem nmJ2 : ∀ a, a < 0 → ∀ b, b < 0 → a ≠ b → (TJ2 a).2.1 ≠ (TJ2 b).2.1 := by decide +kernel
theorem tyJ2_ok : ∀ k, k < 0 → parseFieldDescriptor (TJ2 k).2.2.1 = some (tyJ2 k) := by decide +kernel
abbrev cJ2_newBytesFor_77867 : ByteArray := prog_21_method_2_code
def yJ2_newBytesFor_77867 : MethodName := ⟨RJ2, "newBytesFor", "(I)[B"⟩
abbrev cJ2_newBytesLength_0f7a4 : ByteArray := prog_21_method_3_code
def yJ2_newBytesLength_0f7a4 : MethodName := ⟨RJ2, "newBytesLength", "(I)I"⟩
abbrev cJ2_putChar_b72d1 : ByteArray := prog_21_method_4_code
def yJ2_putChar_b72d1 : MethodName := ⟨RJ2, "putChar", "([BII)V"⟩
abbrev cJ2_getChar_3b067 : ByteArray := prog_21_method_5_code
def yJ2_getChar_3b067 : MethodName := ⟨RJ2, "getChar", "([BI)C"⟩
abbrev cJ2_length_9d52b : ByteArray := prog_21_method_6_code
def yJ2_length_9d52b : MethodName := ⟨RJ2, "length", "([B)I"⟩
abbrev cJ2_fillNull_b72d1 : ByteArray := prog_21_method_70_code
def yJ2_fillNull_b72d1 : MethodName := ⟨RJ2, "fillNull", "([BII)V"⟩
abbrev cJ2_putCharSB_b72d1 : ByteArray := prog_21_method_71_code
def yJ2_putCharSB_b72d1 : MethodName := ⟨RJ2, "putCharSB", "([BII)V"⟩
abbrev cJ2_getChars_46870 : ByteArray := prog_21_method_77_code
def yJ2_getChars_46870 : MethodName := ⟨RJ2, "getChars", "(III[B)I"⟩
abbrev cJ2_charAt_3b067 : ByteArray := prog_21_method_83_code
def yJ2_charAt_3b067 : MethodName := ⟨RJ2, "charAt", "([BI)C"⟩
abbrev cJ2_inflate_0e8fd : ByteArray := prog_21_method_86_code
def yJ2_inflate_0e8fd : MethodName := ⟨RJ2, "inflate", "([BI[BII)V"⟩
abbrev cJ2_getChars_ba4f3 : ByteArray := prog_21_method_89_code
def yJ2_getChars_ba4f3 : MethodName := ⟨RJ2, "getChars", "(II[B)I"⟩
abbrev cJ2_checkIndex_2214a : ByteArray := prog_21_method_91_code
def yJ2_checkIndex_2214a : MethodName := ⟨RJ2, "checkIndex", "(I[B)V"⟩
abbrev cJ2_checkBoundsBeginEnd_d044e : ByteArray := prog_21_method_93_code
def yJ2_checkBoundsBeginEnd_d044e : MethodName := ⟨RJ2, "checkBoundsBeginEnd", "(II[B)V"⟩
abbrev cJ2_checkBoundsOffCount_d044e : ByteArray := prog_21_method_94_code
def yJ2_checkBoundsOffCount_d044e : MethodName := ⟨RJ2, "checkBoundsOffCount", "(II[B)V"⟩
def RJ10 : String := "java/lang/System"
def TJ10 : u_T := fun k => match k with
  | _ => ("", "", "", false)
def tyJ10 : Nat → FieldType := fun k => match k with
  | _ => .int
abbrev wsJ100 : List Cond := u_ws RJ10 TJ10 0
theorem nmJ10 : ∀ a, a < 0 → ∀ b, b < 0 → a ≠ b → (TJ10 a).2.1 ≠ (TJ10 b).2.1 := by decide +kernel
theorem tyJ10_ok : ∀ k, k < 0 → parseFieldDescriptor (TJ10 k).2.2.1 = some (tyJ10 k) := by decide +kernel
def RJ7 : String := "java/util/Arrays"
def TJ7 : u_T := fun k => match k with
  | _ => ("", "", "", false)
def tyJ7 : Nat → FieldType := fun k => match k with
  | _ => .int
abbrev wsJ70 : List Cond := u_ws RJ7 TJ7 0
theorem nmJ7 : ∀ a, a < 0 → ∀ b, b < 0 → a ≠ b → (TJ7 a).2.1 ≠ (TJ7 b).2.1 := by decide +kernel
theorem tyJ7_ok : ∀ k, k < 0 → parseFieldDescriptor (TJ7 k).2.2.1 = some (tyJ7 k) := by decide +kernel
abbrev cJ7_rangeCheck_23922 : ByteArray := prog_23_method_30_code
def yJ7_rangeCheck_23922 : MethodName := ⟨RJ7, "rangeCheck", "(III)V"⟩
abbrev cJ7_fill_eb02e : ByteArray := prog_23_method_110_code
def yJ7_fill_eb02e : MethodName := ⟨RJ7, "fill", "([BIIB)V"⟩
abbrev cJ7_copyOf_9075b : ByteArray := prog_23_method_121_code
def yJ7_copyOf_9075b : MethodName := ⟨RJ7, "copyOf", "([BI)[B"⟩
def RJ8 : String := "jdk/internal/util/ArraysSupport"
def TJ8 : u_T := fun k => match k with
  | _ => ("", "", "", false)
def tyJ8 : Nat → FieldType := fun k => match k with
  | _ => .int
abbrev wsJ80 : List Cond := u_ws RJ8 TJ8 0
theorem nmJ8 : ∀ a, a < 0 → ∀ b, b < 0 → a ≠ b → (TJ8 a).2.1 ≠ (TJ8 b).2.1 := by decide +kernel
theorem tyJ8_ok : ∀ k, k < 0 → parseFieldDescriptor (TJ8 k).2.2.1 = some (tyJ8 k) := by decide +kernel
abbrev cJ8_newLength_cabcc : ByteArray := prog_24_method_27_code
def yJ8_newLength_cabcc : MethodName := ⟨RJ8, "newLength", "(III)I"⟩
abbrev cJ8_hugeLength_7cf53 : ByteArray := prog_24_method_28_code
def yJ8_hugeLength_7cf53 : MethodName := ⟨RJ8, "hugeLength", "(II)I"⟩
def RJ3 : String := "jdk/internal/util/Preconditions"
def TJ3 : u_T := fun k => match k with
  | _ => ("", "", "", false)
def tyJ3 : Nat → FieldType := fun k => match k with
  | _ => .int
abbrev wsJ30 : List Cond := u_ws RJ3 TJ3 0
theorem nmJ3 : ∀ a, a < 0 → ∀ b, b < 0 → a ≠ b → (TJ3 a).2.1 ≠ (TJ3 b).2.1 := by decide +kernel
theorem tyJ3_ok : ∀ k, k < 0 → parseFieldDescriptor (TJ3 k).2.2.1 = some (tyJ3 k) := by decide +kernel
abbrev cJ3_checkIndex_8e157 : ByteArray := prog_25_method_11_code
def yJ3_checkIndex_8e157 : MethodName := ⟨RJ3, "checkIndex", "(IILjava/util/function/BiFunction;)I"⟩
abbrev cJ3_checkFromToIndex_8c36e : ByteArray := prog_25_method_12_code
def yJ3_checkFromToIndex_8c36e : MethodName := ⟨RJ3, "checkFromToIndex", "(IIILjava/util/function/BiFunction;)I"⟩
abbrev cJ3_checkFromIndexSize_8c36e : ByteArray := prog_25_method_13_code
def yJ3_checkFromIndexSize_8c36e : MethodName := ⟨RJ3, "checkFromIndexSize", "(IIILjava/util/function/BiFunction;)I"⟩
def RL : String := "StarBailiffLaw"
abbrev cL_cell : ByteArray := method_2_code
def yL_cell : MethodName := ⟨RL, "cell", "([II)I"⟩
abbrev cL_write : ByteArray := method_3_code
def yL_write : MethodName := ⟨RL, "write", "(LStarBailiff;Ljava/lang/String;)LStarBailiff;"⟩
abbrev cL_act : ByteArray := method_4_code
def yL_act : MethodName := ⟨RL, "act", "(LStarBailiff;I)I"⟩
abbrev cL_digest : ByteArray := method_5_code
def yL_digest : MethodName := ⟨RL, "digest", "(LStarBailiff;)J"⟩
abbrev cL_areStars : ByteArray := method_6_code
def yL_areStars : MethodName := ⟨RL, "areStars", "(LStarBailiff;)Z"⟩
abbrev cL_areRoofs : ByteArray := method_7_code
def yL_areRoofs : MethodName := ⟨RL, "areRoofs", "(LStarBailiff;)Z"⟩
abbrev cL_isSighted : ByteArray := method_8_code
def yL_isSighted : MethodName := ⟨RL, "isSighted", "(LStarBailiff;II)Z"⟩
abbrev cL_isDawn : ByteArray := method_9_code
def yL_isDawn : MethodName := ⟨RL, "isDawn", "(LStarBailiff;)Z"⟩
abbrev cL_isPound : ByteArray := method_10_code
def yL_isPound : MethodName := ⟨RL, "isPound", "(LStarBailiff;I)Z"⟩
abbrev cL_areOrders : ByteArray := method_11_code
def yL_areOrders : MethodName := ⟨RL, "areOrders", "(LStarBailiff;)Z"⟩
abbrev cL_isFit : ByteArray := method_12_code
def yL_isFit : MethodName := ⟨RL, "isFit", "(LStarBailiff;)Z"⟩
abbrev cL_law : ByteArray := code
def yL_law : MethodName := ⟨RL, "law", "([I)Z"⟩
abbrev vwCl : List vw_C := [(RJ4, TJ4, 4), (RX2, TX2, 3), (RX3, TX3, 4), (RX4, TX4, 10), (RX5, TX5, 5), (RX6, TX6, 6), (RX7, TX7, 6), (RX8, TX8, 3), (RX9, TX9, 9)]

/-- the words of the tables that hold in every state that a run comes to -/
def gTs : List Cond := lw_tbl.filter goodWord
theorem gmem (k : Nat) {w : Cond} (h : lw_tbl[k]? = some w) (g : goodWord w = true) : w ∈ gTs := List.mem_filter.mpr ⟨List.mem_of_getElem? h, g⟩
theorem tmem (k : Nat) {w : Cond} (h : lw_tbl[k]? = some w) : w ∈ lw_tbl := List.mem_of_getElem? h
end
section
/-! the words of the tables, by their places -/
theorem wz_L : Cond.initialized RL ∈ gTs := gmem 13 (by decide +kernel) (by decide +kernel)
theorem wz_X9 : Cond.initialized RX9 ∈ gTs := gmem 14 (by decide +kernel) (by decide +kernel)
theorem wz_X5 : Cond.initialized RX5 ∈ gTs := gmem 15 (by decide +kernel) (by decide +kernel)
theorem wz_X6 : Cond.initialized RX6 ∈ gTs := gmem 16 (by decide +kernel) (by decide +kernel)
theorem wz_X4 : Cond.initialized RX4 ∈ gTs := gmem 17 (by decide +kernel) (by decide +kernel)
theorem wz_X7 : Cond.initialized RX7 ∈ gTs := gmem 18 (by decide +kernel) (by decide +kernel)
theorem wz_X2 : Cond.initialized RX2 ∈ gTs := gmem 19 (by decide +kernel) (by decide +kernel)
theorem wz_X3 : Cond.initialized RX3 ∈ gTs := gmem 20 (by decide +kernel) (by decide +kernel)
theorem wz_X8 : Cond.initialized RX8 ∈ gTs := gmem 21 (by decide +kernel) (by decide +kernel)
theorem wz_Jx29ce0 : Cond.initialized RJx29ce0 ∈ gTs := gmem 22 (by decide +kernel) (by decide +kernel)
theorem wz_X1 : Cond.initialized RX1 ∈ gTs := gmem 23 (by decide +kernel) (by decide +kernel)
theorem wz_J5 : Cond.initialized RJ5 ∈ gTs := gmem 24 (by decide +kernel) (by decide +kernel)
theorem wz_J4 : Cond.initialized RJ4 ∈ gTs := gmem 25 (by decide +kernel) (by decide +kernel)
theorem wz_J0 : Cond.initialized RJ0 ∈ gTs := gmem 26 (by decide +kernel) (by decide +kernel)
theorem wz_J2 : Cond.initialized RJ2 ∈ gTs := gmem 27 (by decide +kernel) (by decide +kernel)
theorem wz_J9 : Cond.initialized RJ9 ∈ gTs := gmem 28 (by decide +kernel) (by decide +kernel)
theorem wz_J10 : Cond.initialized RJ10 ∈ gTs := gmem 29 (by decide +kernel) (by decide +kernel)
theorem wz_X0 : Cond.initialized RX0 ∈ gTs := gmem 30 (by decide +kernel) (by decide +kernel)
theorem wz_J6 : Cond.initialized RJ6 ∈ gTs := gmem 31 (by decide +kernel) (by decide +kernel)
theorem wz_J1 : Cond.initialized RJ1 ∈ gTs := gmem 32 (by decide +kernel) (by decide +kernel)
theorem wz_J3 : Cond.initialized RJ3 ∈ gTs := gmem 33 (by decide +kernel) (by decide +kernel)
theorem wz_J8 : Cond.initialized RJ8 ∈ gTs := gmem 34 (by decide +kernel) (by decide +kernel)
theorem wz_J7 : Cond.initialized RJ7 ∈ gTs := gmem 35 (by decide +kernel) (by decide +kernel)
theorem wk_L_1 : Cond.classLink RL 1 RX9 ∈ gTs := gmem 36 (by decide +kernel) (by decide +kernel)
theorem wi_X9 : Cond.instantiable RX9 9 ∈ gTs := gmem 37 (by decide +kernel) (by decide +kernel)
theorem wm_L_200 : Cond.methodLink RL 200 yX9_init ∈ gTs := gmem 38 (by decide +kernel) (by decide +kernel)
theorem wo_X9_init : Cond.instanceMethod yX9_init ∈ gTs := gmem 39 (by decide +kernel) (by decide +kernel)
theorem wc_X9_init : Cond.code yX9_init cX9_init 1 none ∈ gTs := gmem 40 (by decide +kernel) (by decide +kernel)
theorem wm_X9_3 : Cond.methodLink RX9 3 ⟨"java/lang/Object", "<init>", "()V"⟩ ∈ gTs := gmem 41 (by decide +kernel) (by decide +kernel)
theorem wo_java_lang_Object__init____V : Cond.instanceMethod ⟨"java/lang/Object", "<init>", "()V"⟩ ∈ gTs := gmem 42 (by decide +kernel) (by decide +kernel)
theorem wc_java_lang_Object__init____V : Cond.code ⟨"java/lang/Object", "<init>", "()V"⟩ object_method_1_code 1 none ∈ gTs := gmem 43 (by decide +kernel) (by decide +kernel)
theorem wk_X9_9 : Cond.classLink RX9 9 RX5 ∈ gTs := gmem 44 (by decide +kernel) (by decide +kernel)
theorem wi_X5 : Cond.instantiable RX5 5 ∈ gTs := gmem 45 (by decide +kernel) (by decide +kernel)
theorem wmn_X9_11 : Cond.methodLinkNest RX9 11 yX5_init RX9 ∈ lw_tbl := tmem 46 (by decide +kernel)
theorem wo_X5_init : Cond.instanceMethod yX5_init ∈ gTs := gmem 47 (by decide +kernel) (by decide +kernel)
theorem wc_X5_init : Cond.code yX5_init cX5_init 1 none ∈ gTs := gmem 48 (by decide +kernel) (by decide +kernel)
theorem wm_X5_3 : Cond.methodLink RX5 3 ⟨"java/lang/Object", "<init>", "()V"⟩ ∈ gTs := gmem 49 (by decide +kernel) (by decide +kernel)
theorem wk_X5_9 : Cond.classLink RX5 9 RX6 ∈ gTs := gmem 50 (by decide +kernel) (by decide +kernel)
theorem wi_X6 : Cond.instantiable RX6 6 ∈ gTs := gmem 51 (by decide +kernel) (by decide +kernel)
theorem wmn_X5_11 : Cond.methodLinkNest RX5 11 yX6_init RX9 ∈ lw_tbl := tmem 52 (by decide +kernel)
theorem wo_X6_init : Cond.instanceMethod yX6_init ∈ gTs := gmem 53 (by decide +kernel) (by decide +kernel)
theorem wc_X6_init : Cond.code yX6_init cX6_init 1 none ∈ gTs := gmem 54 (by decide +kernel) (by decide +kernel)
theorem wm_X6_3 : Cond.methodLink RX6 3 ⟨"java/lang/Object", "<init>", "()V"⟩ ∈ gTs := gmem 55 (by decide +kernel) (by decide +kernel)
theorem wf_X6_27 : Cond.fieldLink RX6 27 "StarBailiff$Stars" "count" "I" ∈ gTs := gmem 56 (by decide +kernel) (by decide +kernel)
theorem wf_X5_66 : Cond.fieldLink RX5 66 "StarBailiff$Stars" "count" "I" ∈ gTs := gmem 57 (by decide +kernel) (by decide +kernel)
theorem wf_X9_58 : Cond.fieldLink RX9 58 "StarBailiff$Stars" "count" "I" ∈ gTs := gmem 58 (by decide +kernel) (by decide +kernel)
theorem wf_X6_9 : Cond.fieldLink RX6 9 "StarBailiff$Stars" "brightness" "[I" ∈ gTs := gmem 59 (by decide +kernel) (by decide +kernel)
theorem wf_X5_117 : Cond.fieldLink RX5 117 "StarBailiff$Stars" "brightness" "[I" ∈ gTs := gmem 60 (by decide +kernel) (by decide +kernel)
theorem wf_X9_139 : Cond.fieldLink RX9 139 "StarBailiff$Stars" "brightness" "[I" ∈ gTs := gmem 61 (by decide +kernel) (by decide +kernel)
theorem wf_X6_15 : Cond.fieldLink RX6 15 "StarBailiff$Stars" "sector" "[I" ∈ gTs := gmem 62 (by decide +kernel) (by decide +kernel)
theorem wf_X9_143 : Cond.fieldLink RX9 143 "StarBailiff$Stars" "sector" "[I" ∈ gTs := gmem 63 (by decide +kernel) (by decide +kernel)
theorem wf_X6_18 : Cond.fieldLink RX6 18 "StarBailiff$Stars" "claimant" "[I" ∈ gTs := gmem 64 (by decide +kernel) (by decide +kernel)
theorem wf_X5_110 : Cond.fieldLink RX5 110 "StarBailiff$Stars" "claimant" "[I" ∈ gTs := gmem 65 (by decide +kernel) (by decide +kernel)
theorem wf_X9_149 : Cond.fieldLink RX9 149 "StarBailiff$Stars" "claimant" "[I" ∈ gTs := gmem 66 (by decide +kernel) (by decide +kernel)
theorem wf_X6_21 : Cond.fieldLink RX6 21 "StarBailiff$Stars" "sightings" "[I" ∈ gTs := gmem 67 (by decide +kernel) (by decide +kernel)
theorem wf_X5_98 : Cond.fieldLink RX5 98 "StarBailiff$Stars" "sightings" "[I" ∈ gTs := gmem 68 (by decide +kernel) (by decide +kernel)
theorem wf_X9_152 : Cond.fieldLink RX9 152 "StarBailiff$Stars" "sightings" "[I" ∈ gTs := gmem 69 (by decide +kernel) (by decide +kernel)
theorem wf_X6_24 : Cond.fieldLink RX6 24 "StarBailiff$Stars" "clouds" "[I" ∈ gTs := gmem 70 (by decide +kernel) (by decide +kernel)
theorem wf_X5_82 : Cond.fieldLink RX5 82 "StarBailiff$Stars" "clouds" "[I" ∈ gTs := gmem 71 (by decide +kernel) (by decide +kernel)
theorem wf_X9_229 : Cond.fieldLink RX9 229 "StarBailiff$Stars" "clouds" "[I" ∈ gTs := gmem 72 (by decide +kernel) (by decide +kernel)
theorem wu_X6 : Cond.superclass RX6 "java/lang/Object" ∈ gTs := gmem 85 (by decide +kernel) (by decide +kernel)
theorem wa_int : Cond.arrayClass .int ∈ gTs := gmem 86 (by decide +kernel) (by decide +kernel)
theorem wk_X5_18 : Cond.classLink RX5 18 RX4 ∈ gTs := gmem 87 (by decide +kernel) (by decide +kernel)
theorem wi_X4 : Cond.instantiable RX4 10 ∈ gTs := gmem 88 (by decide +kernel) (by decide +kernel)
theorem wmn_X5_20 : Cond.methodLinkNest RX5 20 yX4_init RX9 ∈ lw_tbl := tmem 89 (by decide +kernel)
theorem wo_X4_init : Cond.instanceMethod yX4_init ∈ gTs := gmem 90 (by decide +kernel) (by decide +kernel)
theorem wc_X4_init : Cond.code yX4_init cX4_init 1 none ∈ gTs := gmem 91 (by decide +kernel) (by decide +kernel)
theorem wm_X4_3 : Cond.methodLink RX4 3 ⟨"java/lang/Object", "<init>", "()V"⟩ ∈ gTs := gmem 92 (by decide +kernel) (by decide +kernel)
theorem wf_X4_39 : Cond.fieldLink RX4 39 "StarBailiff$Roofs" "count" "I" ∈ gTs := gmem 93 (by decide +kernel) (by decide +kernel)
theorem wf_X5_78 : Cond.fieldLink RX5 78 "StarBailiff$Roofs" "count" "I" ∈ gTs := gmem 94 (by decide +kernel) (by decide +kernel)
theorem wf_X9_287 : Cond.fieldLink RX9 287 "StarBailiff$Roofs" "count" "I" ∈ gTs := gmem 95 (by decide +kernel) (by decide +kernel)
theorem wf_X4_9 : Cond.fieldLink RX4 9 "StarBailiff$Roofs" "coins" "[I" ∈ gTs := gmem 96 (by decide +kernel) (by decide +kernel)
theorem wf_X5_120 : Cond.fieldLink RX5 120 "StarBailiff$Roofs" "coins" "[I" ∈ gTs := gmem 97 (by decide +kernel) (by decide +kernel)
theorem wf_X9_172 : Cond.fieldLink RX9 172 "StarBailiff$Roofs" "coins" "[I" ∈ gTs := gmem 98 (by decide +kernel) (by decide +kernel)
theorem wf_X4_15 : Cond.fieldLink RX4 15 "StarBailiff$Roofs" "debt" "[I" ∈ gTs := gmem 99 (by decide +kernel) (by decide +kernel)
theorem wf_X5_127 : Cond.fieldLink RX5 127 "StarBailiff$Roofs" "debt" "[I" ∈ gTs := gmem 100 (by decide +kernel) (by decide +kernel)
theorem wf_X9_232 : Cond.fieldLink RX9 232 "StarBailiff$Roofs" "debt" "[I" ∈ gTs := gmem 101 (by decide +kernel) (by decide +kernel)
theorem wf_X4_18 : Cond.fieldLink RX4 18 "StarBailiff$Roofs" "stay" "[I" ∈ gTs := gmem 102 (by decide +kernel) (by decide +kernel)
theorem wf_X5_133 : Cond.fieldLink RX5 133 "StarBailiff$Roofs" "stay" "[I" ∈ gTs := gmem 103 (by decide +kernel) (by decide +kernel)
theorem wf_X9_175 : Cond.fieldLink RX9 175 "StarBailiff$Roofs" "stay" "[I" ∈ gTs := gmem 104 (by decide +kernel) (by decide +kernel)
theorem wf_X4_21 : Cond.fieldLink RX4 21 "StarBailiff$Roofs" "levied" "[I" ∈ gTs := gmem 105 (by decide +kernel) (by decide +kernel)
theorem wf_X9_235 : Cond.fieldLink RX9 235 "StarBailiff$Roofs" "levied" "[I" ∈ gTs := gmem 106 (by decide +kernel) (by decide +kernel)
theorem wf_X4_24 : Cond.fieldLink RX4 24 "StarBailiff$Roofs" "paid" "[I" ∈ gTs := gmem 107 (by decide +kernel) (by decide +kernel)
theorem wf_X5_130 : Cond.fieldLink RX5 130 "StarBailiff$Roofs" "paid" "[I" ∈ gTs := gmem 108 (by decide +kernel) (by decide +kernel)
theorem wf_X9_238 : Cond.fieldLink RX9 238 "StarBailiff$Roofs" "paid" "[I" ∈ gTs := gmem 109 (by decide +kernel) (by decide +kernel)
theorem wf_X4_27 : Cond.fieldLink RX4 27 "StarBailiff$Roofs" "granted" "[I" ∈ gTs := gmem 110 (by decide +kernel) (by decide +kernel)
theorem wf_X5_181 : Cond.fieldLink RX5 181 "StarBailiff$Roofs" "granted" "[I" ∈ gTs := gmem 111 (by decide +kernel) (by decide +kernel)
theorem wf_X9_189 : Cond.fieldLink RX9 189 "StarBailiff$Roofs" "granted" "[I" ∈ gTs := gmem 112 (by decide +kernel) (by decide +kernel)
theorem wf_X4_30 : Cond.fieldLink RX4 30 "StarBailiff$Roofs" "forfeited" "[I" ∈ gTs := gmem 113 (by decide +kernel) (by decide +kernel)
theorem wf_X5_184 : Cond.fieldLink RX5 184 "StarBailiff$Roofs" "forfeited" "[I" ∈ gTs := gmem 114 (by decide +kernel) (by decide +kernel)
theorem wf_X9_192 : Cond.fieldLink RX9 192 "StarBailiff$Roofs" "forfeited" "[I" ∈ gTs := gmem 115 (by decide +kernel) (by decide +kernel)
theorem wf_X4_33 : Cond.fieldLink RX4 33 "StarBailiff$Roofs" "sighted" "[I" ∈ gTs := gmem 116 (by decide +kernel) (by decide +kernel)
theorem wf_X5_90 : Cond.fieldLink RX5 90 "StarBailiff$Roofs" "sighted" "[I" ∈ gTs := gmem 117 (by decide +kernel) (by decide +kernel)
theorem wf_X9_198 : Cond.fieldLink RX9 198 "StarBailiff$Roofs" "sighted" "[I" ∈ gTs := gmem 118 (by decide +kernel) (by decide +kernel)
theorem wf_X4_36 : Cond.fieldLink RX4 36 "StarBailiff$Roofs" "sightedSeen" "[I" ∈ gTs := gmem 119 (by decide +kernel) (by decide +kernel)
theorem wf_X5_104 : Cond.fieldLink RX5 104 "StarBailiff$Roofs" "sightedSeen" "[I" ∈ gTs := gmem 120 (by decide +kernel) (by decide +kernel)
theorem wf_X9_201 : Cond.fieldLink RX9 201 "StarBailiff$Roofs" "sightedSeen" "[I" ∈ gTs := gmem 121 (by decide +kernel) (by decide +kernel)
theorem wu_X4 : Cond.superclass RX4 "java/lang/Object" ∈ gTs := gmem 142 (by decide +kernel) (by decide +kernel)
theorem wk_X5_25 : Cond.classLink RX5 25 RX7 ∈ gTs := gmem 143 (by decide +kernel) (by decide +kernel)
theorem wi_X7 : Cond.instantiable RX7 6 ∈ gTs := gmem 144 (by decide +kernel) (by decide +kernel)
theorem wmn_X5_27 : Cond.methodLinkNest RX5 27 yX7_init RX9 ∈ lw_tbl := tmem 145 (by decide +kernel)
theorem wo_X7_init : Cond.instanceMethod yX7_init ∈ gTs := gmem 146 (by decide +kernel) (by decide +kernel)
theorem wc_X7_init : Cond.code yX7_init cX7_init 1 none ∈ gTs := gmem 147 (by decide +kernel) (by decide +kernel)
theorem wm_X7_3 : Cond.methodLink RX7 3 ⟨"java/lang/Object", "<init>", "()V"⟩ ∈ gTs := gmem 148 (by decide +kernel) (by decide +kernel)
theorem wf_X7_27 : Cond.fieldLink RX7 27 "StarBailiff$Wishes" "count" "I" ∈ gTs := gmem 149 (by decide +kernel) (by decide +kernel)
theorem wf_X5_123 : Cond.fieldLink RX5 123 "StarBailiff$Wishes" "count" "I" ∈ gTs := gmem 150 (by decide +kernel) (by decide +kernel)
theorem wf_X9_311 : Cond.fieldLink RX9 311 "StarBailiff$Wishes" "count" "I" ∈ gTs := gmem 151 (by decide +kernel) (by decide +kernel)
theorem wf_X7_9 : Cond.fieldLink RX7 9 "StarBailiff$Wishes" "roof" "[I" ∈ gTs := gmem 152 (by decide +kernel) (by decide +kernel)
theorem wf_X5_155 : Cond.fieldLink RX5 155 "StarBailiff$Wishes" "roof" "[I" ∈ gTs := gmem 153 (by decide +kernel) (by decide +kernel)
theorem wf_X9_205 : Cond.fieldLink RX9 205 "StarBailiff$Wishes" "roof" "[I" ∈ gTs := gmem 154 (by decide +kernel) (by decide +kernel)
theorem wf_X7_15 : Cond.fieldLink RX7 15 "StarBailiff$Wishes" "star" "[I" ∈ gTs := gmem 155 (by decide +kernel) (by decide +kernel)
theorem wf_X5_142 : Cond.fieldLink RX5 142 "StarBailiff$Wishes" "star" "[I" ∈ gTs := gmem 156 (by decide +kernel) (by decide +kernel)
theorem wf_X9_208 : Cond.fieldLink RX9 208 "StarBailiff$Wishes" "star" "[I" ∈ gTs := gmem 157 (by decide +kernel) (by decide +kernel)
theorem wf_X7_18 : Cond.fieldLink RX7 18 "StarBailiff$Wishes" "kind" "[I" ∈ gTs := gmem 158 (by decide +kernel) (by decide +kernel)
theorem wf_X9_211 : Cond.fieldLink RX9 211 "StarBailiff$Wishes" "kind" "[I" ∈ gTs := gmem 159 (by decide +kernel) (by decide +kernel)
theorem wf_X7_21 : Cond.fieldLink RX7 21 "StarBailiff$Wishes" "age" "[I" ∈ gTs := gmem 160 (by decide +kernel) (by decide +kernel)
theorem wf_X5_152 : Cond.fieldLink RX5 152 "StarBailiff$Wishes" "age" "[I" ∈ gTs := gmem 161 (by decide +kernel) (by decide +kernel)
theorem wf_X9_214 : Cond.fieldLink RX9 214 "StarBailiff$Wishes" "age" "[I" ∈ gTs := gmem 162 (by decide +kernel) (by decide +kernel)
theorem wf_X7_24 : Cond.fieldLink RX7 24 "StarBailiff$Wishes" "impounded" "[I" ∈ gTs := gmem 163 (by decide +kernel) (by decide +kernel)
theorem wf_X5_145 : Cond.fieldLink RX5 145 "StarBailiff$Wishes" "impounded" "[I" ∈ gTs := gmem 164 (by decide +kernel) (by decide +kernel)
theorem wf_X9_217 : Cond.fieldLink RX9 217 "StarBailiff$Wishes" "impounded" "[I" ∈ gTs := gmem 165 (by decide +kernel) (by decide +kernel)
theorem wu_X7 : Cond.superclass RX7 "java/lang/Object" ∈ gTs := gmem 178 (by decide +kernel) (by decide +kernel)
theorem wf_X5_12 : Cond.fieldLink RX5 12 "StarBailiff$Sky" "stars" "LStarBailiff$Stars;" ∈ gTs := gmem 179 (by decide +kernel) (by decide +kernel)
theorem wf_X9_54 : Cond.fieldLink RX9 54 "StarBailiff$Sky" "stars" "LStarBailiff$Stars;" ∈ gTs := gmem 180 (by decide +kernel) (by decide +kernel)
theorem wf_X5_21 : Cond.fieldLink RX5 21 "StarBailiff$Sky" "roofs" "LStarBailiff$Roofs;" ∈ gTs := gmem 181 (by decide +kernel) (by decide +kernel)
theorem wf_X9_165 : Cond.fieldLink RX9 165 "StarBailiff$Sky" "roofs" "LStarBailiff$Roofs;" ∈ gTs := gmem 182 (by decide +kernel) (by decide +kernel)
theorem wf_X5_28 : Cond.fieldLink RX5 28 "StarBailiff$Sky" "wishes" "LStarBailiff$Wishes;" ∈ gTs := gmem 183 (by decide +kernel) (by decide +kernel)
theorem wf_X9_155 : Cond.fieldLink RX9 155 "StarBailiff$Sky" "wishes" "LStarBailiff$Wishes;" ∈ gTs := gmem 184 (by decide +kernel) (by decide +kernel)
theorem wf_X5_37 : Cond.fieldLink RX5 37 "StarBailiff$Sky" "nights" "I" ∈ gTs := gmem 185 (by decide +kernel) (by decide +kernel)
theorem wf_X9_318 : Cond.fieldLink RX9 318 "StarBailiff$Sky" "nights" "I" ∈ gTs := gmem 186 (by decide +kernel) (by decide +kernel)
theorem wf_X5_41 : Cond.fieldLink RX5 41 "StarBailiff$Sky" "exempt" "I" ∈ gTs := gmem 187 (by decide +kernel) (by decide +kernel)
theorem wf_X9_321 : Cond.fieldLink RX9 321 "StarBailiff$Sky" "exempt" "I" ∈ gTs := gmem 188 (by decide +kernel) (by decide +kernel)
theorem wu_X5 : Cond.superclass RX5 "java/lang/Object" ∈ gTs := gmem 199 (by decide +kernel) (by decide +kernel)
theorem wk_X9_19 : Cond.classLink RX9 19 RX2 ∈ gTs := gmem 200 (by decide +kernel) (by decide +kernel)
theorem wi_X2 : Cond.instantiable RX2 3 ∈ gTs := gmem 201 (by decide +kernel) (by decide +kernel)
theorem wm_X9_21 : Cond.methodLink RX9 21 yX2_init ∈ gTs := gmem 202 (by decide +kernel) (by decide +kernel)
theorem wo_X2_init : Cond.instanceMethod yX2_init ∈ gTs := gmem 203 (by decide +kernel) (by decide +kernel)
theorem wc_X2_init : Cond.code yX2_init cX2_init 2 none ∈ gTs := gmem 204 (by decide +kernel) (by decide +kernel)
theorem wm_X2_3 : Cond.methodLink RX2 3 ⟨"java/lang/Object", "<init>", "()V"⟩ ∈ gTs := gmem 205 (by decide +kernel) (by decide +kernel)
theorem wk_X2_9 : Cond.classLink RX2 9 RX5 ∈ gTs := gmem 206 (by decide +kernel) (by decide +kernel)
theorem wmn_X2_17 : Cond.methodLinkNest RX2 17 yX5_init RX9 ∈ lw_tbl := tmem 208 (by decide +kernel)
theorem wf_X2_26 : Cond.fieldLink RX2 26 "StarBailiff$Past" "count" "I" ∈ gTs := gmem 209 (by decide +kernel) (by decide +kernel)
theorem wf_X9_324 : Cond.fieldLink RX9 324 "StarBailiff$Past" "count" "I" ∈ gTs := gmem 210 (by decide +kernel) (by decide +kernel)
theorem wf_X2_18 : Cond.fieldLink RX2 18 "StarBailiff$Past" "next" "I" ∈ gTs := gmem 211 (by decide +kernel) (by decide +kernel)
theorem wf_X2_11 : Cond.fieldLink RX2 11 "StarBailiff$Past" "skies" "[LStarBailiff$Sky;" ∈ gTs := gmem 212 (by decide +kernel) (by decide +kernel)
theorem wu_X2 : Cond.superclass RX2 "java/lang/Object" ∈ gTs := gmem 219 (by decide +kernel) (by decide +kernel)
theorem wk_X9_26 : Cond.classLink RX9 26 RX3 ∈ gTs := gmem 220 (by decide +kernel) (by decide +kernel)
theorem wi_X3 : Cond.instantiable RX3 4 ∈ gTs := gmem 221 (by decide +kernel) (by decide +kernel)
theorem wmn_X9_28 : Cond.methodLinkNest RX9 28 yX3_init RX9 ∈ lw_tbl := tmem 222 (by decide +kernel)
theorem wo_X3_init : Cond.instanceMethod yX3_init ∈ gTs := gmem 223 (by decide +kernel) (by decide +kernel)
theorem wc_X3_init : Cond.code yX3_init cX3_init 1 none ∈ gTs := gmem 224 (by decide +kernel) (by decide +kernel)
theorem wm_X3_3 : Cond.methodLink RX3 3 ⟨"java/lang/Object", "<init>", "()V"⟩ ∈ gTs := gmem 225 (by decide +kernel) (by decide +kernel)
theorem wf_X3_9 : Cond.fieldLink RX3 9 "StarBailiff$Refusal" "reason" "I" ∈ gTs := gmem 226 (by decide +kernel) (by decide +kernel)
theorem wf_X3_15 : Cond.fieldLink RX3 15 "StarBailiff$Refusal" "detail" "I" ∈ gTs := gmem 227 (by decide +kernel) (by decide +kernel)
theorem wf_X3_18 : Cond.fieldLink RX3 18 "StarBailiff$Refusal" "reasonBehind" "I" ∈ gTs := gmem 228 (by decide +kernel) (by decide +kernel)
theorem wf_X3_21 : Cond.fieldLink RX3 21 "StarBailiff$Refusal" "detailBehind" "I" ∈ gTs := gmem 229 (by decide +kernel) (by decide +kernel)
theorem wu_X3 : Cond.superclass RX3 "java/lang/Object" ∈ gTs := gmem 238 (by decide +kernel) (by decide +kernel)
theorem wk_X9_33 : Cond.classLink RX9 33 RX8 ∈ gTs := gmem 239 (by decide +kernel) (by decide +kernel)
theorem wi_X8 : Cond.instantiable RX8 3 ∈ gTs := gmem 240 (by decide +kernel) (by decide +kernel)
theorem wmn_X9_35 : Cond.methodLinkNest RX9 35 yX8_init RX9 ∈ lw_tbl := tmem 241 (by decide +kernel)
theorem wo_X8_init : Cond.instanceMethod yX8_init ∈ gTs := gmem 242 (by decide +kernel) (by decide +kernel)
theorem wc_X8_init : Cond.code yX8_init cX8_init 1 none ∈ gTs := gmem 243 (by decide +kernel) (by decide +kernel)
theorem wm_X8_3 : Cond.methodLink RX8 3 ⟨"java/lang/Object", "<init>", "()V"⟩ ∈ gTs := gmem 244 (by decide +kernel) (by decide +kernel)
theorem wf_X8_9 : Cond.fieldLink RX8 9 "StarBailiff$Command" "DAWN" "LStarBailiff$Command;" ∈ gTs := gmem 245 (by decide +kernel) (by decide +kernel)
theorem wls_X1_DAWN : Cond.laysStatic "StarBailiff$Command" "DAWN" "LStarBailiff$Command;" ∈ lw_tbl := tmem 246 (by decide +kernel)
theorem wf_X8_15 : Cond.fieldLink RX8 15 "StarBailiff$Words" "command" "LStarBailiff$Command;" ∈ gTs := gmem 247 (by decide +kernel) (by decide +kernel)
theorem wf_X9_404 : Cond.fieldLink RX9 404 "StarBailiff$Words" "command" "LStarBailiff$Command;" ∈ gTs := gmem 248 (by decide +kernel) (by decide +kernel)
theorem wf_X8_28 : Cond.fieldLink RX8 28 "StarBailiff$Words" "end" "I" ∈ gTs := gmem 249 (by decide +kernel) (by decide +kernel)
theorem wf_X9_397 : Cond.fieldLink RX9 397 "StarBailiff$Words" "end" "I" ∈ gTs := gmem 250 (by decide +kernel) (by decide +kernel)
theorem wf_X8_20 : Cond.fieldLink RX8 20 "StarBailiff$Words" "numbers" "[I" ∈ gTs := gmem 251 (by decide +kernel) (by decide +kernel)
theorem wf_X9_407 : Cond.fieldLink RX9 407 "StarBailiff$Words" "numbers" "[I" ∈ gTs := gmem 252 (by decide +kernel) (by decide +kernel)
theorem wu_X8 : Cond.superclass RX8 "java/lang/Object" ∈ gTs := gmem 259 (by decide +kernel) (by decide +kernel)
theorem wk_X9_40 : Cond.classLink RX9 40 RJ4 ∈ gTs := gmem 260 (by decide +kernel) (by decide +kernel)
theorem wi_J4 : Cond.instantiable RJ4 4 ∈ gTs := gmem 261 (by decide +kernel) (by decide +kernel)
theorem wm_X9_42 : Cond.methodLink RX9 42 yJ4_init_da8c8 ∈ gTs := gmem 262 (by decide +kernel) (by decide +kernel)
theorem wo_J4_init_da8c8 : Cond.instanceMethod yJ4_init_da8c8 ∈ gTs := gmem 263 (by decide +kernel) (by decide +kernel)
theorem wc_J4_init_da8c8 : Cond.code yJ4_init_da8c8 cJ4_init_da8c8 1 none ∈ gTs := gmem 264 (by decide +kernel) (by decide +kernel)
theorem wm_J4_1 : Cond.methodLink RJ4 1 yJ5_init_d00df ∈ gTs := gmem 265 (by decide +kernel) (by decide +kernel)
theorem wo_J5_init_d00df : Cond.instanceMethod yJ5_init_d00df ∈ gTs := gmem 266 (by decide +kernel) (by decide +kernel)
theorem wc_J5_init_d00df : Cond.code yJ5_init_d00df cJ5_init_d00df 2 none ∈ gTs := gmem 267 (by decide +kernel) (by decide +kernel)
theorem wm_J5_3 : Cond.methodLink RJ5 3 ⟨"java/lang/Object", "<init>", "()V"⟩ ∈ gTs := gmem 268 (by decide +kernel) (by decide +kernel)
theorem wf_J5_18 : Cond.fieldLink RJ5 18 "java/lang/String" "COMPACT_STRINGS" "Z" ∈ gTs := gmem 269 (by decide +kernel) (by decide +kernel)
theorem wls_J0_COMPACT_STRINGS : Cond.laysStatic "java/lang/String" "COMPACT_STRINGS" "Z" ∈ lw_tbl := tmem 270 (by decide +kernel)
theorem wm_J5_26 : Cond.methodLink RJ5 26 yJ2_newBytesFor_77867 ∈ gTs := gmem 271 (by decide +kernel) (by decide +kernel)
theorem wt_J2_newBytesFor_77867 : Cond.static yJ2_newBytesFor_77867 ∈ gTs := gmem 272 (by decide +kernel) (by decide +kernel)
theorem wc_J2_newBytesFor_77867 : Cond.code yJ2_newBytesFor_77867 cJ2_newBytesFor_77867 1 ((some (.array .byte))) ∈ gTs := gmem 273 (by decide +kernel) (by decide +kernel)
theorem wm_J2_11 : Cond.methodLink RJ2 11 yJ2_newBytesLength_0f7a4 ∈ gTs := gmem 274 (by decide +kernel) (by decide +kernel)
theorem wt_J2_newBytesLength_0f7a4 : Cond.static yJ2_newBytesLength_0f7a4 ∈ gTs := gmem 275 (by decide +kernel) (by decide +kernel)
theorem wc_J2_newBytesLength_0f7a4 : Cond.code yJ2_newBytesLength_0f7a4 cJ2_newBytesLength_0f7a4 1 (some .int) ∈ gTs := gmem 276 (by decide +kernel) (by decide +kernel)
theorem wn_J2_20 : Cond.constant RJ2 20 1073741823 ∈ gTs := gmem 277 (by decide +kernel) (by decide +kernel)
theorem wf_J5_15 : Cond.fieldLink RJ5 15 "java/lang/AbstractStringBuilder" "value" "[B" ∈ gTs := gmem 278 (by decide +kernel) (by decide +kernel)
theorem wf_J5_22 : Cond.fieldLink RJ5 22 "java/lang/AbstractStringBuilder" "coder" "B" ∈ gTs := gmem 279 (by decide +kernel) (by decide +kernel)
theorem wf_J5_73 : Cond.fieldLink RJ5 73 "java/lang/AbstractStringBuilder" "maybeLatin1" "Z" ∈ gTs := gmem 280 (by decide +kernel) (by decide +kernel)
theorem wf_J5_79 : Cond.fieldLink RJ5 79 "java/lang/AbstractStringBuilder" "count" "I" ∈ gTs := gmem 281 (by decide +kernel) (by decide +kernel)
theorem wu_J4 : Cond.superclass RJ4 RJ5 ∈ gTs := gmem 290 (by decide +kernel) (by decide +kernel)
theorem wa_byte : Cond.arrayClass .byte ∈ gTs := gmem 291 (by decide +kernel) (by decide +kernel)
theorem wf_X9_12 : Cond.fieldLink RX9 12 "StarBailiff" "sky" "LStarBailiff$Sky;" ∈ gTs := gmem 292 (by decide +kernel) (by decide +kernel)
theorem wf_X9_16 : Cond.fieldLink RX9 16 "StarBailiff" "saved" "LStarBailiff$Sky;" ∈ gTs := gmem 293 (by decide +kernel) (by decide +kernel)
theorem wf_X9_22 : Cond.fieldLink RX9 22 "StarBailiff" "past" "LStarBailiff$Past;" ∈ gTs := gmem 294 (by decide +kernel) (by decide +kernel)
theorem wf_X9_29 : Cond.fieldLink RX9 29 "StarBailiff" "refusal" "LStarBailiff$Refusal;" ∈ gTs := gmem 295 (by decide +kernel) (by decide +kernel)
theorem wf_X9_36 : Cond.fieldLink RX9 36 "StarBailiff" "words" "LStarBailiff$Words;" ∈ gTs := gmem 296 (by decide +kernel) (by decide +kernel)
theorem wf_X9_43 : Cond.fieldLink RX9 43 "StarBailiff" "input" "Ljava/lang/StringBuilder;" ∈ gTs := gmem 297 (by decide +kernel) (by decide +kernel)
theorem wf_X9_47 : Cond.fieldLink RX9 47 "StarBailiff" "line" "Ljava/lang/StringBuilder;" ∈ gTs := gmem 298 (by decide +kernel) (by decide +kernel)
theorem wf_X9_333 : Cond.fieldLink RX9 333 "StarBailiff" "isSaved" "Z" ∈ gTs := gmem 299 (by decide +kernel) (by decide +kernel)
theorem wf_X9_50 : Cond.fieldLink RX9 50 "StarBailiff" "faultAt" "I" ∈ gTs := gmem 300 (by decide +kernel) (by decide +kernel)
theorem wu_X9 : Cond.superclass RX9 "java/lang/Object" ∈ gTs := gmem 319 (by decide +kernel) (by decide +kernel)
theorem wm_L_24 : Cond.methodLink RL 24 yX9_star ∈ gTs := gmem 320 (by decide +kernel) (by decide +kernel)
theorem wo_X9_star : Cond.instanceMethod yX9_star ∈ gTs := gmem 321 (by decide +kernel) (by decide +kernel)
theorem ws_X9__X9_star : Cond.selects RX9 yX9_star yX9_star ∈ gTs := gmem 322 (by decide +kernel) (by decide +kernel)
theorem wc_X9_star : Cond.code yX9_star cX9_star 3 (some .int) ∈ gTs := gmem 323 (by decide +kernel) (by decide +kernel)
theorem wf_X9_81 : Cond.fieldLink RX9 81 "StarBailiff$Command" "STAR" "LStarBailiff$Command;" ∈ gTs := gmem 324 (by decide +kernel) (by decide +kernel)
theorem wls_X1_STAR : Cond.laysStatic "StarBailiff$Command" "STAR" "LStarBailiff$Command;" ∈ lw_tbl := tmem 325 (by decide +kernel)
theorem wm_X9_87 : Cond.methodLink RX9 87 yX9_change ∈ gTs := gmem 326 (by decide +kernel) (by decide +kernel)
theorem wo_X9_change : Cond.instanceMethod yX9_change ∈ gTs := gmem 328 (by decide +kernel) (by decide +kernel)
theorem wc_X9_change : Cond.code yX9_change cX9_change 6 (some .int) ∈ gTs := gmem 329 (by decide +kernel) (by decide +kernel)
theorem wm_X9_337 : Cond.methodLink RX9 337 yX2_note ∈ gTs := gmem 330 (by decide +kernel) (by decide +kernel)
theorem wo_X2_note : Cond.instanceMethod yX2_note ∈ gTs := gmem 331 (by decide +kernel) (by decide +kernel)
theorem ws_X2__X2_note : Cond.selects RX2 yX2_note yX2_note ∈ gTs := gmem 332 (by decide +kernel) (by decide +kernel)
theorem wc_X2_note : Cond.code yX2_note cX2_note 2 none ∈ gTs := gmem 333 (by decide +kernel) (by decide +kernel)
theorem wm_X2_22 : Cond.methodLink RX2 22 yX5_copyFrom ∈ gTs := gmem 334 (by decide +kernel) (by decide +kernel)
theorem wo_X5_copyFrom : Cond.instanceMethod yX5_copyFrom ∈ gTs := gmem 335 (by decide +kernel) (by decide +kernel)
theorem ws_X5__X5_copyFrom : Cond.selects RX5 yX5_copyFrom yX5_copyFrom ∈ gTs := gmem 336 (by decide +kernel) (by decide +kernel)
theorem wc_X5_copyFrom : Cond.code yX5_copyFrom cX5_copyFrom 2 none ∈ gTs := gmem 337 (by decide +kernel) (by decide +kernel)
theorem wm_X5_44 : Cond.methodLink RX5 44 yX6_copyFrom ∈ gTs := gmem 338 (by decide +kernel) (by decide +kernel)
theorem wo_X6_copyFrom : Cond.instanceMethod yX6_copyFrom ∈ gTs := gmem 339 (by decide +kernel) (by decide +kernel)
theorem ws_X6__X6_copyFrom : Cond.selects RX6 yX6_copyFrom yX6_copyFrom ∈ gTs := gmem 340 (by decide +kernel) (by decide +kernel)
theorem wc_X6_copyFrom : Cond.code yX6_copyFrom cX6_copyFrom 2 none ∈ gTs := gmem 341 (by decide +kernel) (by decide +kernel)
theorem wmn_X6_31 : Cond.methodLinkNest RX6 31 yX9_copyRow RX9 ∈ lw_tbl := tmem 342 (by decide +kernel)
theorem wt_X9_copyRow : Cond.static yX9_copyRow ∈ gTs := gmem 343 (by decide +kernel) (by decide +kernel)
theorem wc_X9_copyRow : Cond.code yX9_copyRow cX9_copyRow 2 none ∈ gTs := gmem 344 (by decide +kernel) (by decide +kernel)
theorem wm_X9_417 : Cond.methodLink RX9 417 yJ9_min_7cf53 ∈ gTs := gmem 345 (by decide +kernel) (by decide +kernel)
theorem wt_J9_min_7cf53 : Cond.static yJ9_min_7cf53 ∈ gTs := gmem 346 (by decide +kernel) (by decide +kernel)
theorem wc_J9_min_7cf53 : Cond.code yJ9_min_7cf53 cJ9_min_7cf53 2 (some .int) ∈ gTs := gmem 347 (by decide +kernel) (by decide +kernel)
theorem wm_X9_422 : Cond.methodLink RX9 422 ⟨RJ10, "arraycopy", "(Ljava/lang/Object;ILjava/lang/Object;II)V"⟩ ∈ gTs := gmem 348 (by decide +kernel) (by decide +kernel)
theorem wt_J10_arraycopy__Ljava_lang_Object_ILjava_lang_Object_II_V : Cond.static ⟨RJ10, "arraycopy", "(Ljava/lang/Object;ILjava/lang/Object;II)V"⟩ ∈ gTs := gmem 349 (by decide +kernel) (by decide +kernel)
theorem wv_J10_arraycopy__Ljava_lang_Object_ILjava_lang_Object_II_V : Cond.native ⟨RJ10, "arraycopy", "(Ljava/lang/Object;ILjava/lang/Object;II)V"⟩ ∈ gTs := gmem 350 (by decide +kernel) (by decide +kernel)
theorem wm_X5_48 : Cond.methodLink RX5 48 yX4_copyFrom ∈ gTs := gmem 351 (by decide +kernel) (by decide +kernel)
theorem wo_X4_copyFrom : Cond.instanceMethod yX4_copyFrom ∈ gTs := gmem 352 (by decide +kernel) (by decide +kernel)
theorem ws_X4__X4_copyFrom : Cond.selects RX4 yX4_copyFrom yX4_copyFrom ∈ gTs := gmem 353 (by decide +kernel) (by decide +kernel)
theorem wc_X4_copyFrom : Cond.code yX4_copyFrom cX4_copyFrom 2 none ∈ gTs := gmem 354 (by decide +kernel) (by decide +kernel)
theorem wmn_X4_43 : Cond.methodLinkNest RX4 43 yX9_copyRow RX9 ∈ lw_tbl := tmem 355 (by decide +kernel)
theorem wm_X5_51 : Cond.methodLink RX5 51 yX7_copyFrom ∈ gTs := gmem 356 (by decide +kernel) (by decide +kernel)
theorem wo_X7_copyFrom : Cond.instanceMethod yX7_copyFrom ∈ gTs := gmem 357 (by decide +kernel) (by decide +kernel)
theorem ws_X7__X7_copyFrom : Cond.selects RX7 yX7_copyFrom yX7_copyFrom ∈ gTs := gmem 358 (by decide +kernel) (by decide +kernel)
theorem wc_X7_copyFrom : Cond.code yX7_copyFrom cX7_copyFrom 2 none ∈ gTs := gmem 359 (by decide +kernel) (by decide +kernel)
theorem wmn_X7_31 : Cond.methodLinkNest RX7 31 yX9_copyRow RX9 ∈ lw_tbl := tmem 360 (by decide +kernel)
theorem wm_X9_340 : Cond.methodLink RX9 340 yX9_carryOut ∈ gTs := gmem 361 (by decide +kernel) (by decide +kernel)
theorem wo_X9_carryOut : Cond.instanceMethod yX9_carryOut ∈ gTs := gmem 363 (by decide +kernel) (by decide +kernel)
theorem wc_X9_carryOut : Cond.code yX9_carryOut cX9_carryOut 5 (some .int) ∈ gTs := gmem 364 (by decide +kernel) (by decide +kernel)
theorem wf_X9_346 : Cond.fieldLink RX9 346 "StarBailiff$1" "$SwitchMap$StarBailiff$Command" "[I" ∈ gTs := gmem 365 (by decide +kernel) (by decide +kernel)
theorem wls_X0__SwitchMap_StarBailiff_Command : Cond.laysStatic "StarBailiff$1" "$SwitchMap$StarBailiff$Command" "[I" ∈ lw_tbl := tmem 366 (by decide +kernel)
theorem wm_X9_351 : Cond.methodLink RX9 351 ⟨RX1, "ordinal", "()I"⟩ ∈ gTs := gmem 367 (by decide +kernel) (by decide +kernel)
theorem wy_StarBailiff_Command_Jx29ce0_ordinal___I : Cond.sameMethod "StarBailiff$Command" "java/lang/Enum" "ordinal" "()I" ∈ gTs := gmem 368 (by decide +kernel) (by decide +kernel)
theorem wd_Jx29ce0_ordinal_8abf5 : Cond.declares yJx29ce0_ordinal_8abf5 ∈ lw_tbl := tmem 369 (by decide +kernel)
theorem ws_X1__X1_ordinal___I : Cond.selects RX1 ⟨RX1, "ordinal", "()I"⟩ yJx29ce0_ordinal_8abf5 ∈ gTs := gmem 370 (by decide +kernel) (by decide +kernel)
theorem wo_Jx29ce0_ordinal_8abf5 : Cond.instanceMethod yJx29ce0_ordinal_8abf5 ∈ gTs := gmem 371 (by decide +kernel) (by decide +kernel)
theorem wc_Jx29ce0_ordinal_8abf5 : Cond.code yJx29ce0_ordinal_8abf5 cJx29ce0_ordinal_8abf5 1 (some .int) ∈ gTs := gmem 372 (by decide +kernel) (by decide +kernel)
theorem wm_X9_354 : Cond.methodLink RX9 354 yX5_addStar ∈ gTs := gmem 373 (by decide +kernel) (by decide +kernel)
theorem wo_X5_addStar : Cond.instanceMethod yX5_addStar ∈ gTs := gmem 374 (by decide +kernel) (by decide +kernel)
theorem ws_X5__X5_addStar : Cond.selects RX5 yX5_addStar yX5_addStar ∈ gTs := gmem 375 (by decide +kernel) (by decide +kernel)
theorem wc_X5_addStar : Cond.code yX5_addStar cX5_addStar 4 (some .int) ∈ gTs := gmem 376 (by decide +kernel) (by decide +kernel)
theorem wmn_X5_59 : Cond.methodLinkNest RX5 59 yX9_isSector RX9 ∈ lw_tbl := tmem 377 (by decide +kernel)
theorem wt_X9_isSector : Cond.static yX9_isSector ∈ gTs := gmem 378 (by decide +kernel) (by decide +kernel)
theorem wc_X9_isSector : Cond.code yX9_isSector cX9_isSector 1 (some .boolean) ∈ gTs := gmem 379 (by decide +kernel) (by decide +kernel)
theorem wm_X9_69 : Cond.methodLink RX9 69 yX9_isWithin ∈ gTs := gmem 380 (by decide +kernel) (by decide +kernel)
theorem wt_X9_isWithin : Cond.static yX9_isWithin ∈ gTs := gmem 381 (by decide +kernel) (by decide +kernel)
theorem wc_X9_isWithin : Cond.code yX9_isWithin cX9_isWithin 3 (some .boolean) ∈ gTs := gmem 382 (by decide +kernel) (by decide +kernel)
theorem wmn_X5_62 : Cond.methodLinkNest RX5 62 yX9_isWithin RX9 ∈ lw_tbl := tmem 383 (by decide +kernel)
theorem wm_X5_69 : Cond.methodLink RX5 69 yX3_because ∈ gTs := gmem 384 (by decide +kernel) (by decide +kernel)
theorem wo_X3_because : Cond.instanceMethod yX3_because ∈ gTs := gmem 385 (by decide +kernel) (by decide +kernel)
theorem ws_X3__X3_because : Cond.selects RX3 yX3_because yX3_because ∈ gTs := gmem 386 (by decide +kernel) (by decide +kernel)
theorem wc_X3_because : Cond.code yX3_because cX3_because 3 (some .int) ∈ gTs := gmem 387 (by decide +kernel) (by decide +kernel)
theorem wm_X5_75 : Cond.methodLink RX5 75 yX6_add ∈ gTs := gmem 388 (by decide +kernel) (by decide +kernel)
theorem wo_X6_add : Cond.instanceMethod yX6_add ∈ gTs := gmem 389 (by decide +kernel) (by decide +kernel)
theorem ws_X6__X6_add : Cond.selects RX6 yX6_add yX6_add ∈ gTs := gmem 390 (by decide +kernel) (by decide +kernel)
theorem wc_X6_add : Cond.code yX6_add cX6_add 4 (some .int) ∈ gTs := gmem 391 (by decide +kernel) (by decide +kernel)
theorem wm_X9_358 : Cond.methodLink RX9 358 yX5_addRoof ∈ gTs := gmem 392 (by decide +kernel) (by decide +kernel)
theorem wo_X5_addRoof : Cond.instanceMethod yX5_addRoof ∈ gTs := gmem 393 (by decide +kernel) (by decide +kernel)
theorem ws_X5__X5_addRoof : Cond.selects RX5 yX5_addRoof yX5_addRoof ∈ gTs := gmem 394 (by decide +kernel) (by decide +kernel)
theorem wc_X5_addRoof : Cond.code yX5_addRoof cX5_addRoof 3 (some .int) ∈ gTs := gmem 395 (by decide +kernel) (by decide +kernel)
theorem wm_X5_79 : Cond.methodLink RX5 79 yX4_add ∈ gTs := gmem 396 (by decide +kernel) (by decide +kernel)
theorem wo_X4_add : Cond.instanceMethod yX4_add ∈ gTs := gmem 397 (by decide +kernel) (by decide +kernel)
theorem ws_X4__X4_add : Cond.selects RX4 yX4_add yX4_add ∈ gTs := gmem 398 (by decide +kernel) (by decide +kernel)
theorem wc_X4_add : Cond.code yX4_add cX4_add 3 (some .int) ∈ gTs := gmem 399 (by decide +kernel) (by decide +kernel)
theorem wm_X9_362 : Cond.methodLink RX9 362 yX5_tellCloud ∈ gTs := gmem 400 (by decide +kernel) (by decide +kernel)
theorem wo_X5_tellCloud : Cond.instanceMethod yX5_tellCloud ∈ gTs := gmem 401 (by decide +kernel) (by decide +kernel)
theorem ws_X5__X5_tellCloud : Cond.selects RX5 yX5_tellCloud yX5_tellCloud ∈ gTs := gmem 402 (by decide +kernel) (by decide +kernel)
theorem wc_X5_tellCloud : Cond.code yX5_tellCloud cX5_tellCloud 5 (some .int) ∈ gTs := gmem 403 (by decide +kernel) (by decide +kernel)
theorem wm_X9_365 : Cond.methodLink RX9 365 yX5_sightStar ∈ gTs := gmem 404 (by decide +kernel) (by decide +kernel)
theorem wo_X5_sightStar : Cond.instanceMethod yX5_sightStar ∈ gTs := gmem 405 (by decide +kernel) (by decide +kernel)
theorem ws_X5__X5_sightStar : Cond.selects RX5 yX5_sightStar yX5_sightStar ∈ gTs := gmem 406 (by decide +kernel) (by decide +kernel)
theorem wc_X5_sightStar : Cond.code yX5_sightStar cX5_sightStar 6 (some .int) ∈ gTs := gmem 407 (by decide +kernel) (by decide +kernel)
theorem wm_X5_86 : Cond.methodLink RX5 86 yX5_hasBoth ∈ gTs := gmem 408 (by decide +kernel) (by decide +kernel)
theorem wo_X5_hasBoth : Cond.instanceMethod yX5_hasBoth ∈ gTs := gmem 409 (by decide +kernel) (by decide +kernel)
theorem ws_X5__X5_hasBoth : Cond.selects RX5 yX5_hasBoth yX5_hasBoth ∈ gTs := gmem 410 (by decide +kernel) (by decide +kernel)
theorem wc_X5_hasBoth : Cond.code yX5_hasBoth cX5_hasBoth 3 (some .boolean) ∈ gTs := gmem 411 (by decide +kernel) (by decide +kernel)
theorem wm_X5_54 : Cond.methodLink RX5 54 yX4_has ∈ gTs := gmem 412 (by decide +kernel) (by decide +kernel)
theorem wo_X4_has : Cond.instanceMethod yX4_has ∈ gTs := gmem 413 (by decide +kernel) (by decide +kernel)
theorem ws_X4__X4_has : Cond.selects RX4 yX4_has yX4_has ∈ gTs := gmem 414 (by decide +kernel) (by decide +kernel)
theorem wc_X4_has : Cond.code yX4_has cX4_has 2 (some .boolean) ∈ gTs := gmem 415 (by decide +kernel) (by decide +kernel)
theorem wm_X5_58 : Cond.methodLink RX5 58 yX6_has ∈ gTs := gmem 416 (by decide +kernel) (by decide +kernel)
theorem wo_X6_has : Cond.instanceMethod yX6_has ∈ gTs := gmem 417 (by decide +kernel) (by decide +kernel)
theorem ws_X6__X6_has : Cond.selects RX6 yX6_has yX6_has ∈ gTs := gmem 418 (by decide +kernel) (by decide +kernel)
theorem wc_X6_has : Cond.code yX6_has cX6_has 2 (some .boolean) ∈ gTs := gmem 419 (by decide +kernel) (by decide +kernel)
theorem wm_X5_93 : Cond.methodLink RX5 93 yJ6_bitCount_0f7a4 ∈ gTs := gmem 420 (by decide +kernel) (by decide +kernel)
theorem wt_J6_bitCount_0f7a4 : Cond.static yJ6_bitCount_0f7a4 ∈ gTs := gmem 421 (by decide +kernel) (by decide +kernel)
theorem wc_J6_bitCount_0f7a4 : Cond.code yJ6_bitCount_0f7a4 cJ6_bitCount_0f7a4 1 (some .int) ∈ gTs := gmem 422 (by decide +kernel) (by decide +kernel)
theorem wn_J6_265 : Cond.constant RJ6 265 1431655765 ∈ gTs := gmem 423 (by decide +kernel) (by decide +kernel)
theorem wn_J6_266 : Cond.constant RJ6 266 858993459 ∈ gTs := gmem 424 (by decide +kernel) (by decide +kernel)
theorem wn_J6_267 : Cond.constant RJ6 267 252645135 ∈ gTs := gmem 425 (by decide +kernel) (by decide +kernel)
theorem wm_X5_101 : Cond.methodLink RX5 101 yX6_isSeen ∈ gTs := gmem 426 (by decide +kernel) (by decide +kernel)
theorem wo_X6_isSeen : Cond.instanceMethod yX6_isSeen ∈ gTs := gmem 427 (by decide +kernel) (by decide +kernel)
theorem ws_X6__X6_isSeen : Cond.selects RX6 yX6_isSeen yX6_isSeen ∈ gTs := gmem 428 (by decide +kernel) (by decide +kernel)
theorem wc_X6_isSeen : Cond.code yX6_isSeen cX6_isSeen 2 (some .boolean) ∈ gTs := gmem 429 (by decide +kernel) (by decide +kernel)
theorem wm_X5_107 : Cond.methodLink RX5 107 yX5_levyOn ∈ gTs := gmem 430 (by decide +kernel) (by decide +kernel)
theorem wo_X5_levyOn : Cond.instanceMethod yX5_levyOn ∈ gTs := gmem 431 (by decide +kernel) (by decide +kernel)
theorem ws_X5__X5_levyOn : Cond.selects RX5 yX5_levyOn yX5_levyOn ∈ gTs := gmem 432 (by decide +kernel) (by decide +kernel)
theorem wc_X5_levyOn : Cond.code yX5_levyOn cX5_levyOn 4 (some .int) ∈ gTs := gmem 433 (by decide +kernel) (by decide +kernel)
theorem wm_X5_113 : Cond.methodLink RX5 113 yX4_collect ∈ gTs := gmem 434 (by decide +kernel) (by decide +kernel)
theorem wo_X4_collect : Cond.instanceMethod yX4_collect ∈ gTs := gmem 435 (by decide +kernel) (by decide +kernel)
theorem ws_X4__X4_collect : Cond.selects RX4 yX4_collect yX4_collect ∈ gTs := gmem 436 (by decide +kernel) (by decide +kernel)
theorem wc_X4_collect : Cond.code yX4_collect cX4_collect 5 none ∈ gTs := gmem 437 (by decide +kernel) (by decide +kernel)
theorem wm_X4_47 : Cond.methodLink RX4 47 yJ9_min_7cf53 ∈ gTs := gmem 438 (by decide +kernel) (by decide +kernel)
theorem wm_X4_53 : Cond.methodLink RX4 53 yX4_has ∈ gTs := gmem 439 (by decide +kernel) (by decide +kernel)
theorem wm_X9_368 : Cond.methodLink RX9 368 yX5_claimStar ∈ gTs := gmem 440 (by decide +kernel) (by decide +kernel)
theorem wo_X5_claimStar : Cond.instanceMethod yX5_claimStar ∈ gTs := gmem 441 (by decide +kernel) (by decide +kernel)
theorem ws_X5__X5_claimStar : Cond.selects RX5 yX5_claimStar yX5_claimStar ∈ gTs := gmem 442 (by decide +kernel) (by decide +kernel)
theorem wc_X5_claimStar : Cond.code yX5_claimStar cX5_claimStar 5 (some .int) ∈ gTs := gmem 443 (by decide +kernel) (by decide +kernel)
theorem wm_X9_371 : Cond.methodLink RX9 371 yX5_dropClaim ∈ gTs := gmem 444 (by decide +kernel) (by decide +kernel)
theorem wo_X5_dropClaim : Cond.instanceMethod yX5_dropClaim ∈ gTs := gmem 445 (by decide +kernel) (by decide +kernel)
theorem ws_X5__X5_dropClaim : Cond.selects RX5 yX5_dropClaim yX5_dropClaim ∈ gTs := gmem 446 (by decide +kernel) (by decide +kernel)
theorem wc_X5_dropClaim : Cond.code yX5_dropClaim cX5_dropClaim 4 (some .int) ∈ gTs := gmem 447 (by decide +kernel) (by decide +kernel)
theorem wm_X9_374 : Cond.methodLink RX9 374 yX5_addWish ∈ gTs := gmem 448 (by decide +kernel) (by decide +kernel)
theorem wo_X5_addWish : Cond.instanceMethod yX5_addWish ∈ gTs := gmem 449 (by decide +kernel) (by decide +kernel)
theorem ws_X5__X5_addWish : Cond.selects RX5 yX5_addWish yX5_addWish ∈ gTs := gmem 450 (by decide +kernel) (by decide +kernel)
theorem wc_X5_addWish : Cond.code yX5_addWish cX5_addWish 5 (some .int) ∈ gTs := gmem 451 (by decide +kernel) (by decide +kernel)
theorem wm_X5_124 : Cond.methodLink RX5 124 yX7_add ∈ gTs := gmem 452 (by decide +kernel) (by decide +kernel)
theorem wo_X7_add : Cond.instanceMethod yX7_add ∈ gTs := gmem 453 (by decide +kernel) (by decide +kernel)
theorem ws_X7__X7_add : Cond.selects RX7 yX7_add yX7_add ∈ gTs := gmem 454 (by decide +kernel) (by decide +kernel)
theorem wc_X7_add : Cond.code yX7_add cX7_add 5 (some .int) ∈ gTs := gmem 455 (by decide +kernel) (by decide +kernel)
theorem wm_X9_378 : Cond.methodLink RX9 378 yX5_payDebt ∈ gTs := gmem 456 (by decide +kernel) (by decide +kernel)
theorem wo_X5_payDebt : Cond.instanceMethod yX5_payDebt ∈ gTs := gmem 457 (by decide +kernel) (by decide +kernel)
theorem ws_X5__X5_payDebt : Cond.selects RX5 yX5_payDebt yX5_payDebt ∈ gTs := gmem 458 (by decide +kernel) (by decide +kernel)
theorem wc_X5_payDebt : Cond.code yX5_payDebt cX5_payDebt 4 (some .int) ∈ gTs := gmem 459 (by decide +kernel) (by decide +kernel)
theorem wm_X9_381 : Cond.methodLink RX9 381 yX5_poundWishes ∈ gTs := gmem 460 (by decide +kernel) (by decide +kernel)
theorem wo_X5_poundWishes : Cond.instanceMethod yX5_poundWishes ∈ gTs := gmem 461 (by decide +kernel) (by decide +kernel)
theorem ws_X5__X5_poundWishes : Cond.selects RX5 yX5_poundWishes yX5_poundWishes ∈ gTs := gmem 462 (by decide +kernel) (by decide +kernel)
theorem wc_X5_poundWishes : Cond.code yX5_poundWishes cX5_poundWishes 4 (some .int) ∈ gTs := gmem 463 (by decide +kernel) (by decide +kernel)
theorem wm_X5_136 : Cond.methodLink RX5 136 yX7_impoundAllOf ∈ gTs := gmem 464 (by decide +kernel) (by decide +kernel)
theorem wo_X7_impoundAllOf : Cond.instanceMethod yX7_impoundAllOf ∈ gTs := gmem 465 (by decide +kernel) (by decide +kernel)
theorem ws_X7__X7_impoundAllOf : Cond.selects RX7 yX7_impoundAllOf yX7_impoundAllOf ∈ gTs := gmem 466 (by decide +kernel) (by decide +kernel)
theorem wc_X7_impoundAllOf : Cond.code yX7_impoundAllOf cX7_impoundAllOf 4 (some .int) ∈ gTs := gmem 467 (by decide +kernel) (by decide +kernel)
theorem wm_X7_39 : Cond.methodLink RX7 39 yX7_isImpounded ∈ gTs := gmem 468 (by decide +kernel) (by decide +kernel)
theorem wo_X7_isImpounded : Cond.instanceMethod yX7_isImpounded ∈ gTs := gmem 469 (by decide +kernel) (by decide +kernel)
theorem ws_X7__X7_isImpounded : Cond.selects RX7 yX7_isImpounded yX7_isImpounded ∈ gTs := gmem 470 (by decide +kernel) (by decide +kernel)
theorem wc_X7_isImpounded : Cond.code yX7_isImpounded cX7_isImpounded 2 (some .boolean) ∈ gTs := gmem 471 (by decide +kernel) (by decide +kernel)
theorem wm_X5_139 : Cond.methodLink RX5 139 yX7_countOf ∈ gTs := gmem 472 (by decide +kernel) (by decide +kernel)
theorem wo_X7_countOf : Cond.instanceMethod yX7_countOf ∈ gTs := gmem 473 (by decide +kernel) (by decide +kernel)
theorem ws_X7__X7_countOf : Cond.selects RX7 yX7_countOf yX7_countOf ∈ gTs := gmem 474 (by decide +kernel) (by decide +kernel)
theorem wc_X7_countOf : Cond.code yX7_countOf cX7_countOf 2 (some .int) ∈ gTs := gmem 475 (by decide +kernel) (by decide +kernel)
theorem wmn_X7_35 : Cond.methodLinkNest RX7 35 yX9_countAlike RX9 ∈ lw_tbl := tmem 476 (by decide +kernel)
theorem wt_X9_countAlike : Cond.static yX9_countAlike ∈ gTs := gmem 477 (by decide +kernel) (by decide +kernel)
theorem wc_X9_countAlike : Cond.code yX9_countAlike cX9_countAlike 5 (some .int) ∈ gTs := gmem 478 (by decide +kernel) (by decide +kernel)
theorem wm_X9_384 : Cond.methodLink RX9 384 yX5_redeemWish ∈ gTs := gmem 479 (by decide +kernel) (by decide +kernel)
theorem wo_X5_redeemWish : Cond.instanceMethod yX5_redeemWish ∈ gTs := gmem 480 (by decide +kernel) (by decide +kernel)
theorem ws_X5__X5_redeemWish : Cond.selects RX5 yX5_redeemWish yX5_redeemWish ∈ gTs := gmem 481 (by decide +kernel) (by decide +kernel)
theorem wc_X5_redeemWish : Cond.code yX5_redeemWish cX5_redeemWish 5 (some .int) ∈ gTs := gmem 482 (by decide +kernel) (by decide +kernel)
theorem wm_X5_148 : Cond.methodLink RX5 148 yX7_has ∈ gTs := gmem 483 (by decide +kernel) (by decide +kernel)
theorem wo_X7_has : Cond.instanceMethod yX7_has ∈ gTs := gmem 484 (by decide +kernel) (by decide +kernel)
theorem ws_X7__X7_has : Cond.selects RX7 yX7_has yX7_has ∈ gTs := gmem 485 (by decide +kernel) (by decide +kernel)
theorem wc_X7_has : Cond.code yX7_has cX7_has 2 (some .boolean) ∈ gTs := gmem 486 (by decide +kernel) (by decide +kernel)
theorem wm_X5_149 : Cond.methodLink RX5 149 yX7_isImpounded ∈ gTs := gmem 487 (by decide +kernel) (by decide +kernel)
theorem wm_X5_158 : Cond.methodLink RX5 158 yX5_costToRedeem ∈ gTs := gmem 488 (by decide +kernel) (by decide +kernel)
theorem wo_X5_costToRedeem : Cond.instanceMethod yX5_costToRedeem ∈ gTs := gmem 489 (by decide +kernel) (by decide +kernel)
theorem ws_X5__X5_costToRedeem : Cond.selects RX5 yX5_costToRedeem yX5_costToRedeem ∈ gTs := gmem 490 (by decide +kernel) (by decide +kernel)
theorem wc_X5_costToRedeem : Cond.code yX5_costToRedeem cX5_costToRedeem 2 (some .int) ∈ gTs := gmem 491 (by decide +kernel) (by decide +kernel)
theorem wm_X9_387 : Cond.methodLink RX9 387 yX5_giveStay ∈ gTs := gmem 492 (by decide +kernel) (by decide +kernel)
theorem wo_X5_giveStay : Cond.instanceMethod yX5_giveStay ∈ gTs := gmem 493 (by decide +kernel) (by decide +kernel)
theorem ws_X5__X5_giveStay : Cond.selects RX5 yX5_giveStay yX5_giveStay ∈ gTs := gmem 494 (by decide +kernel) (by decide +kernel)
theorem wc_X5_giveStay : Cond.code yX5_giveStay cX5_giveStay 5 (some .int) ∈ gTs := gmem 495 (by decide +kernel) (by decide +kernel)
theorem wm_X9_390 : Cond.methodLink RX9 390 yX5_passNight ∈ gTs := gmem 496 (by decide +kernel) (by decide +kernel)
theorem wo_X5_passNight : Cond.instanceMethod yX5_passNight ∈ gTs := gmem 497 (by decide +kernel) (by decide +kernel)
theorem ws_X5__X5_passNight : Cond.selects RX5 yX5_passNight yX5_passNight ∈ gTs := gmem 498 (by decide +kernel) (by decide +kernel)
theorem wc_X5_passNight : Cond.code yX5_passNight cX5_passNight 4 (some .int) ∈ gTs := gmem 499 (by decide +kernel) (by decide +kernel)
theorem wm_X5_161 : Cond.methodLink RX5 161 yX5_countGrantable ∈ gTs := gmem 500 (by decide +kernel) (by decide +kernel)
theorem wo_X5_countGrantable : Cond.instanceMethod yX5_countGrantable ∈ gTs := gmem 501 (by decide +kernel) (by decide +kernel)
theorem ws_X5__X5_countGrantable : Cond.selects RX5 yX5_countGrantable yX5_countGrantable ∈ gTs := gmem 502 (by decide +kernel) (by decide +kernel)
theorem wc_X5_countGrantable : Cond.code yX5_countGrantable cX5_countGrantable 3 (some .int) ∈ gTs := gmem 503 (by decide +kernel) (by decide +kernel)
theorem wm_X5_178 : Cond.methodLink RX5 178 yX5_isGrantable ∈ gTs := gmem 504 (by decide +kernel) (by decide +kernel)
theorem wo_X5_isGrantable : Cond.instanceMethod yX5_isGrantable ∈ gTs := gmem 506 (by decide +kernel) (by decide +kernel)
theorem wc_X5_isGrantable : Cond.code yX5_isGrantable cX5_isGrantable 2 (some .boolean) ∈ gTs := gmem 507 (by decide +kernel) (by decide +kernel)
theorem wm_X5_165 : Cond.methodLink RX5 165 yX5_staysAtDawn ∈ gTs := gmem 508 (by decide +kernel) (by decide +kernel)
theorem wo_X5_staysAtDawn : Cond.instanceMethod yX5_staysAtDawn ∈ gTs := gmem 510 (by decide +kernel) (by decide +kernel)
theorem wc_X5_staysAtDawn : Cond.code yX5_staysAtDawn cX5_staysAtDawn 3 (some .boolean) ∈ gTs := gmem 511 (by decide +kernel) (by decide +kernel)
theorem wm_X5_168 : Cond.methodLink RX5 168 yX7_move ∈ gTs := gmem 512 (by decide +kernel) (by decide +kernel)
theorem wo_X7_move : Cond.instanceMethod yX7_move ∈ gTs := gmem 513 (by decide +kernel) (by decide +kernel)
theorem ws_X7__X7_move : Cond.selects RX7 yX7_move yX7_move ∈ gTs := gmem 514 (by decide +kernel) (by decide +kernel)
theorem wc_X7_move : Cond.code yX7_move cX7_move 3 none ∈ gTs := gmem 515 (by decide +kernel) (by decide +kernel)
theorem wm_X5_172 : Cond.methodLink RX5 172 yX6_thinClouds ∈ gTs := gmem 516 (by decide +kernel) (by decide +kernel)
theorem wo_X6_thinClouds : Cond.instanceMethod yX6_thinClouds ∈ gTs := gmem 517 (by decide +kernel) (by decide +kernel)
theorem ws_X6__X6_thinClouds : Cond.selects RX6 yX6_thinClouds yX6_thinClouds ∈ gTs := gmem 518 (by decide +kernel) (by decide +kernel)
theorem wc_X6_thinClouds : Cond.code yX6_thinClouds cX6_thinClouds 2 none ∈ gTs := gmem 519 (by decide +kernel) (by decide +kernel)
theorem wm_X6_43 : Cond.methodLink RX6 43 yJ9_max_7cf53 ∈ gTs := gmem 520 (by decide +kernel) (by decide +kernel)
theorem wt_J9_max_7cf53 : Cond.static yJ9_max_7cf53 ∈ gTs := gmem 521 (by decide +kernel) (by decide +kernel)
theorem wc_J9_max_7cf53 : Cond.code yJ9_max_7cf53 cJ9_max_7cf53 2 (some .int) ∈ gTs := gmem 522 (by decide +kernel) (by decide +kernel)
theorem wm_X5_175 : Cond.methodLink RX5 175 yX4_beginNight ∈ gTs := gmem 523 (by decide +kernel) (by decide +kernel)
theorem wo_X4_beginNight : Cond.instanceMethod yX4_beginNight ∈ gTs := gmem 524 (by decide +kernel) (by decide +kernel)
theorem ws_X4__X4_beginNight : Cond.selects RX4 yX4_beginNight yX4_beginNight ∈ gTs := gmem 525 (by decide +kernel) (by decide +kernel)
theorem wc_X4_beginNight : Cond.code yX4_beginNight cX4_beginNight 2 none ∈ gTs := gmem 526 (by decide +kernel) (by decide +kernel)
theorem wm_X4_57 : Cond.methodLink RX4 57 yJ9_max_7cf53 ∈ gTs := gmem 527 (by decide +kernel) (by decide +kernel)
theorem wm_X9_343 : Cond.methodLink RX9 343 yX2_keepNoted ∈ gTs := gmem 528 (by decide +kernel) (by decide +kernel)
theorem wo_X2_keepNoted : Cond.instanceMethod yX2_keepNoted ∈ gTs := gmem 529 (by decide +kernel) (by decide +kernel)
theorem ws_X2__X2_keepNoted : Cond.selects RX2 yX2_keepNoted yX2_keepNoted ∈ gTs := gmem 530 (by decide +kernel) (by decide +kernel)
theorem wc_X2_keepNoted : Cond.code yX2_keepNoted cX2_keepNoted 1 none ∈ gTs := gmem 531 (by decide +kernel) (by decide +kernel)
theorem wm_X2_29 : Cond.methodLink RX2 29 yJ9_min_7cf53 ∈ gTs := gmem 532 (by decide +kernel) (by decide +kernel)
theorem wm_L_28 : Cond.methodLink RL 28 yX9_roof ∈ gTs := gmem 533 (by decide +kernel) (by decide +kernel)
theorem wo_X9_roof : Cond.instanceMethod yX9_roof ∈ gTs := gmem 534 (by decide +kernel) (by decide +kernel)
theorem ws_X9__X9_roof : Cond.selects RX9 yX9_roof yX9_roof ∈ gTs := gmem 535 (by decide +kernel) (by decide +kernel)
theorem wc_X9_roof : Cond.code yX9_roof cX9_roof 2 (some .int) ∈ gTs := gmem 536 (by decide +kernel) (by decide +kernel)
theorem wf_X9_91 : Cond.fieldLink RX9 91 "StarBailiff$Command" "ROOF" "LStarBailiff$Command;" ∈ gTs := gmem 537 (by decide +kernel) (by decide +kernel)
theorem wls_X1_ROOF : Cond.laysStatic "StarBailiff$Command" "ROOF" "LStarBailiff$Command;" ∈ lw_tbl := tmem 538 (by decide +kernel)
theorem wm_L_32 : Cond.methodLink RL 32 yX9_cloud ∈ gTs := gmem 539 (by decide +kernel) (by decide +kernel)
theorem wo_X9_cloud : Cond.instanceMethod yX9_cloud ∈ gTs := gmem 540 (by decide +kernel) (by decide +kernel)
theorem ws_X9__X9_cloud : Cond.selects RX9 yX9_cloud yX9_cloud ∈ gTs := gmem 541 (by decide +kernel) (by decide +kernel)
theorem wc_X9_cloud : Cond.code yX9_cloud cX9_cloud 3 (some .int) ∈ gTs := gmem 542 (by decide +kernel) (by decide +kernel)
theorem wf_X9_94 : Cond.fieldLink RX9 94 "StarBailiff$Command" "CLOUD" "LStarBailiff$Command;" ∈ gTs := gmem 543 (by decide +kernel) (by decide +kernel)
theorem wls_X1_CLOUD : Cond.laysStatic "StarBailiff$Command" "CLOUD" "LStarBailiff$Command;" ∈ lw_tbl := tmem 544 (by decide +kernel)
theorem wm_L_35 : Cond.methodLink RL 35 yX9_sight ∈ gTs := gmem 545 (by decide +kernel) (by decide +kernel)
theorem wo_X9_sight : Cond.instanceMethod yX9_sight ∈ gTs := gmem 546 (by decide +kernel) (by decide +kernel)
theorem ws_X9__X9_sight : Cond.selects RX9 yX9_sight yX9_sight ∈ gTs := gmem 547 (by decide +kernel) (by decide +kernel)
theorem wc_X9_sight : Cond.code yX9_sight cX9_sight 3 (some .int) ∈ gTs := gmem 548 (by decide +kernel) (by decide +kernel)
theorem wf_X9_97 : Cond.fieldLink RX9 97 "StarBailiff$Command" "SIGHT" "LStarBailiff$Command;" ∈ gTs := gmem 549 (by decide +kernel) (by decide +kernel)
theorem wls_X1_SIGHT : Cond.laysStatic "StarBailiff$Command" "SIGHT" "LStarBailiff$Command;" ∈ lw_tbl := tmem 550 (by decide +kernel)
theorem wm_L_38 : Cond.methodLink RL 38 yX9_claim ∈ gTs := gmem 551 (by decide +kernel) (by decide +kernel)
theorem wo_X9_claim : Cond.instanceMethod yX9_claim ∈ gTs := gmem 552 (by decide +kernel) (by decide +kernel)
theorem ws_X9__X9_claim : Cond.selects RX9 yX9_claim yX9_claim ∈ gTs := gmem 553 (by decide +kernel) (by decide +kernel)
theorem wc_X9_claim : Cond.code yX9_claim cX9_claim 3 (some .int) ∈ gTs := gmem 554 (by decide +kernel) (by decide +kernel)
theorem wf_X9_100 : Cond.fieldLink RX9 100 "StarBailiff$Command" "CLAIM" "LStarBailiff$Command;" ∈ gTs := gmem 555 (by decide +kernel) (by decide +kernel)
theorem wls_X1_CLAIM : Cond.laysStatic "StarBailiff$Command" "CLAIM" "LStarBailiff$Command;" ∈ lw_tbl := tmem 556 (by decide +kernel)
theorem wm_L_47 : Cond.methodLink RL 47 yX9_wish ∈ gTs := gmem 557 (by decide +kernel) (by decide +kernel)
theorem wo_X9_wish : Cond.instanceMethod yX9_wish ∈ gTs := gmem 558 (by decide +kernel) (by decide +kernel)
theorem ws_X9__X9_wish : Cond.selects RX9 yX9_wish yX9_wish ∈ gTs := gmem 559 (by decide +kernel) (by decide +kernel)
theorem wc_X9_wish : Cond.code yX9_wish cX9_wish 4 (some .int) ∈ gTs := gmem 560 (by decide +kernel) (by decide +kernel)
theorem wf_X9_106 : Cond.fieldLink RX9 106 "StarBailiff$Command" "WISH" "LStarBailiff$Command;" ∈ gTs := gmem 561 (by decide +kernel) (by decide +kernel)
theorem wls_X1_WISH : Cond.laysStatic "StarBailiff$Command" "WISH" "LStarBailiff$Command;" ∈ lw_tbl := tmem 562 (by decide +kernel)
theorem wm_L_54 : Cond.methodLink RL 54 yX9_pound ∈ gTs := gmem 563 (by decide +kernel) (by decide +kernel)
theorem wo_X9_pound : Cond.instanceMethod yX9_pound ∈ gTs := gmem 564 (by decide +kernel) (by decide +kernel)
theorem ws_X9__X9_pound : Cond.selects RX9 yX9_pound yX9_pound ∈ gTs := gmem 565 (by decide +kernel) (by decide +kernel)
theorem wc_X9_pound : Cond.code yX9_pound cX9_pound 2 (some .int) ∈ gTs := gmem 566 (by decide +kernel) (by decide +kernel)
theorem wf_X9_112 : Cond.fieldLink RX9 112 "StarBailiff$Command" "POUND" "LStarBailiff$Command;" ∈ gTs := gmem 567 (by decide +kernel) (by decide +kernel)
theorem wls_X1_POUND : Cond.laysStatic "StarBailiff$Command" "POUND" "LStarBailiff$Command;" ∈ lw_tbl := tmem 568 (by decide +kernel)
theorem wm_L_60 : Cond.methodLink RL 60 yX9_dawn ∈ gTs := gmem 569 (by decide +kernel) (by decide +kernel)
theorem wo_X9_dawn : Cond.instanceMethod yX9_dawn ∈ gTs := gmem 570 (by decide +kernel) (by decide +kernel)
theorem ws_X9__X9_dawn : Cond.selects RX9 yX9_dawn yX9_dawn ∈ gTs := gmem 571 (by decide +kernel) (by decide +kernel)
theorem wc_X9_dawn : Cond.code yX9_dawn cX9_dawn 1 (some .int) ∈ gTs := gmem 572 (by decide +kernel) (by decide +kernel)
theorem wf_X9_121 : Cond.fieldLink RX9 121 "StarBailiff$Command" "DAWN" "LStarBailiff$Command;" ∈ gTs := gmem 573 (by decide +kernel) (by decide +kernel)
theorem wm_L_73 : Cond.methodLink RL 73 yX9_read ∈ gTs := gmem 574 (by decide +kernel) (by decide +kernel)
theorem wo_X9_read : Cond.instanceMethod yX9_read ∈ gTs := gmem 575 (by decide +kernel) (by decide +kernel)
theorem ws_X9__X9_read : Cond.selects RX9 yX9_read yX9_read ∈ gTs := gmem 576 (by decide +kernel) (by decide +kernel)
theorem wc_X9_read : Cond.code yX9_read cX9_read 2 (some .int) ∈ gTs := gmem 577 (by decide +kernel) (by decide +kernel)
theorem wm_X9_124 : Cond.methodLink RX9 124 yX9_carryOutInput ∈ gTs := gmem 578 (by decide +kernel) (by decide +kernel)
theorem wo_X9_carryOutInput : Cond.instanceMethod yX9_carryOutInput ∈ gTs := gmem 580 (by decide +kernel) (by decide +kernel)
theorem wc_X9_carryOutInput : Cond.code yX9_carryOutInput cX9_carryOutInput 5 (some .int) ∈ gTs := gmem 581 (by decide +kernel) (by decide +kernel)
theorem wm_X9_393 : Cond.methodLink RX9 393 yX8_countCommands ∈ gTs := gmem 582 (by decide +kernel) (by decide +kernel)
theorem wo_X8_countCommands : Cond.instanceMethod yX8_countCommands ∈ gTs := gmem 583 (by decide +kernel) (by decide +kernel)
theorem ws_X8__X8_countCommands : Cond.selects RX8 yX8_countCommands yX8_countCommands ∈ gTs := gmem 584 (by decide +kernel) (by decide +kernel)
theorem wc_X8_countCommands : Cond.code yX8_countCommands cX8_countCommands 4 (some .int) ∈ gTs := gmem 585 (by decide +kernel) (by decide +kernel)
theorem wm_X8_24 : Cond.methodLink RX8 24 yX8_findCommand ∈ gTs := gmem 586 (by decide +kernel) (by decide +kernel)
theorem wo_X8_findCommand : Cond.instanceMethod yX8_findCommand ∈ gTs := gmem 587 (by decide +kernel) (by decide +kernel)
theorem ws_X8__X8_findCommand : Cond.selects RX8 yX8_findCommand yX8_findCommand ∈ gTs := gmem 588 (by decide +kernel) (by decide +kernel)
theorem wc_X8_findCommand : Cond.code yX8_findCommand cX8_findCommand 4 (some .boolean) ∈ gTs := gmem 589 (by decide +kernel) (by decide +kernel)
theorem wfn_X8_42 : Cond.fieldLinkNest RX8 42 "StarBailiff" "COMMANDS" "[LStarBailiff$Command;" "StarBailiff" ∈ lw_tbl := tmem 590 (by decide +kernel)
theorem wls_X9_COMMANDS : Cond.laysStatic "StarBailiff" "COMMANDS" "[LStarBailiff$Command;" ∈ lw_tbl := tmem 591 (by decide +kernel)
theorem wm_X8_50 : Cond.methodLink RX8 50 yX8_follows ∈ gTs := gmem 592 (by decide +kernel) (by decide +kernel)
theorem wo_X8_follows : Cond.instanceMethod yX8_follows ∈ gTs := gmem 594 (by decide +kernel) (by decide +kernel)
theorem wc_X8_follows : Cond.code yX8_follows cX8_follows 8 (some .boolean) ∈ gTs := gmem 595 (by decide +kernel) (by decide +kernel)
theorem wm_X8_54 : Cond.methodLink RX8 54 yJ0_length_8abf5 ∈ gTs := gmem 596 (by decide +kernel) (by decide +kernel)
theorem wo_J0_length_8abf5 : Cond.instanceMethod yJ0_length_8abf5 ∈ gTs := gmem 597 (by decide +kernel) (by decide +kernel)
theorem ws_J0__J0_length_8abf5 : Cond.selects RJ0 yJ0_length_8abf5 yJ0_length_8abf5 ∈ gTs := gmem 598 (by decide +kernel) (by decide +kernel)
theorem wc_J0_length_8abf5 : Cond.code yJ0_length_8abf5 cJ0_length_8abf5 1 (some .int) ∈ gTs := gmem 599 (by decide +kernel) (by decide +kernel)
theorem wm_J0_335 : Cond.methodLink RJ0 335 yJ0_coder_7d493 ∈ gTs := gmem 600 (by decide +kernel) (by decide +kernel)
theorem wo_J0_coder_7d493 : Cond.instanceMethod yJ0_coder_7d493 ∈ gTs := gmem 601 (by decide +kernel) (by decide +kernel)
theorem ws_J0__J0_coder_7d493 : Cond.selects RJ0 yJ0_coder_7d493 yJ0_coder_7d493 ∈ gTs := gmem 602 (by decide +kernel) (by decide +kernel)
theorem wc_J0_coder_7d493 : Cond.code yJ0_coder_7d493 cJ0_coder_7d493 1 (some .byte) ∈ gTs := gmem 603 (by decide +kernel) (by decide +kernel)
theorem wf_J0_38 : Cond.fieldLink RJ0 38 "java/lang/String" "COMPACT_STRINGS" "Z" ∈ gTs := gmem 604 (by decide +kernel) (by decide +kernel)
theorem wm_X8_57 : Cond.methodLink RX8 57 yJ0_charAt_5068e ∈ gTs := gmem 605 (by decide +kernel) (by decide +kernel)
theorem wo_J0_charAt_5068e : Cond.instanceMethod yJ0_charAt_5068e ∈ gTs := gmem 606 (by decide +kernel) (by decide +kernel)
theorem ws_J0__J0_charAt_5068e : Cond.selects RJ0 yJ0_charAt_5068e yJ0_charAt_5068e ∈ gTs := gmem 607 (by decide +kernel) (by decide +kernel)
theorem wc_J0_charAt_5068e : Cond.code yJ0_charAt_5068e cJ0_charAt_5068e 2 (some .char) ∈ gTs := gmem 608 (by decide +kernel) (by decide +kernel)
theorem wm_J0_492 : Cond.methodLink RJ0 492 yJ0_isLatin1_aae02 ∈ gTs := gmem 609 (by decide +kernel) (by decide +kernel)
theorem wo_J0_isLatin1_aae02 : Cond.instanceMethod yJ0_isLatin1_aae02 ∈ gTs := gmem 610 (by decide +kernel) (by decide +kernel)
theorem ws_J0__J0_isLatin1_aae02 : Cond.selects RJ0 yJ0_isLatin1_aae02 yJ0_isLatin1_aae02 ∈ gTs := gmem 611 (by decide +kernel) (by decide +kernel)
theorem wc_J0_isLatin1_aae02 : Cond.code yJ0_isLatin1_aae02 cJ0_isLatin1_aae02 1 (some .boolean) ∈ gTs := gmem 612 (by decide +kernel) (by decide +kernel)
theorem wm_J0_495 : Cond.methodLink RJ0 495 yJ1_charAt_3b067 ∈ gTs := gmem 613 (by decide +kernel) (by decide +kernel)
theorem wt_J1_charAt_3b067 : Cond.static yJ1_charAt_3b067 ∈ gTs := gmem 614 (by decide +kernel) (by decide +kernel)
theorem wc_J1_charAt_3b067 : Cond.code yJ1_charAt_3b067 cJ1_charAt_3b067 2 (some .char) ∈ gTs := gmem 615 (by decide +kernel) (by decide +kernel)
theorem wm_J1_9 : Cond.methodLink RJ1 9 yJ0_checkIndex_df160 ∈ gTs := gmem 616 (by decide +kernel) (by decide +kernel)
theorem wt_J0_checkIndex_df160 : Cond.static yJ0_checkIndex_df160 ∈ gTs := gmem 617 (by decide +kernel) (by decide +kernel)
theorem wc_J0_checkIndex_df160 : Cond.code yJ0_checkIndex_df160 cJ0_checkIndex_df160 2 none ∈ gTs := gmem 618 (by decide +kernel) (by decide +kernel)
theorem wf_J0_1053 : Cond.fieldLink RJ0 1053 "jdk/internal/util/Preconditions" "SIOOBE_FORMATTER" "Ljava/util/function/BiFunction;" ∈ gTs := gmem 619 (by decide +kernel) (by decide +kernel)
theorem wls_J3_SIOOBE_FORMATTER : Cond.laysStatic "jdk/internal/util/Preconditions" "SIOOBE_FORMATTER" "Ljava/util/function/BiFunction;" ∈ lw_tbl := tmem 620 (by decide +kernel)
theorem wm_J0_1059 : Cond.methodLink RJ0 1059 yJ3_checkIndex_8e157 ∈ gTs := gmem 621 (by decide +kernel) (by decide +kernel)
theorem wt_J3_checkIndex_8e157 : Cond.static yJ3_checkIndex_8e157 ∈ gTs := gmem 622 (by decide +kernel) (by decide +kernel)
theorem wc_J3_checkIndex_8e157 : Cond.code yJ3_checkIndex_8e157 cJ3_checkIndex_8e157 3 (some .int) ∈ gTs := gmem 623 (by decide +kernel) (by decide +kernel)
theorem wm_J0_498 : Cond.methodLink RJ0 498 yJ2_charAt_3b067 ∈ gTs := gmem 624 (by decide +kernel) (by decide +kernel)
theorem wt_J2_charAt_3b067 : Cond.static yJ2_charAt_3b067 ∈ gTs := gmem 625 (by decide +kernel) (by decide +kernel)
theorem wc_J2_charAt_3b067 : Cond.code yJ2_charAt_3b067 cJ2_charAt_3b067 2 (some .char) ∈ gTs := gmem 626 (by decide +kernel) (by decide +kernel)
theorem wm_J2_67 : Cond.methodLink RJ2 67 yJ2_checkIndex_2214a ∈ gTs := gmem 627 (by decide +kernel) (by decide +kernel)
theorem wt_J2_checkIndex_2214a : Cond.static yJ2_checkIndex_2214a ∈ gTs := gmem 628 (by decide +kernel) (by decide +kernel)
theorem wc_J2_checkIndex_2214a : Cond.code yJ2_checkIndex_2214a cJ2_checkIndex_2214a 2 none ∈ gTs := gmem 629 (by decide +kernel) (by decide +kernel)
theorem wm_J2_48 : Cond.methodLink RJ2 48 yJ2_length_9d52b ∈ gTs := gmem 630 (by decide +kernel) (by decide +kernel)
theorem wt_J2_length_9d52b : Cond.static yJ2_length_9d52b ∈ gTs := gmem 631 (by decide +kernel) (by decide +kernel)
theorem wc_J2_length_9d52b : Cond.code yJ2_length_9d52b cJ2_length_9d52b 1 (some .int) ∈ gTs := gmem 632 (by decide +kernel) (by decide +kernel)
theorem wm_J2_414 : Cond.methodLink RJ2 414 yJ0_checkIndex_df160 ∈ gTs := gmem 633 (by decide +kernel) (by decide +kernel)
theorem wm_J2_71 : Cond.methodLink RJ2 71 yJ2_getChar_3b067 ∈ gTs := gmem 634 (by decide +kernel) (by decide +kernel)
theorem wt_J2_getChar_3b067 : Cond.static yJ2_getChar_3b067 ∈ gTs := gmem 635 (by decide +kernel) (by decide +kernel)
theorem wc_J2_getChar_3b067 : Cond.code yJ2_getChar_3b067 cJ2_getChar_3b067 2 (some .char) ∈ gTs := gmem 636 (by decide +kernel) (by decide +kernel)
theorem wf_J2_44 : Cond.fieldLink RJ2 44 "java/lang/StringUTF16" "$assertionsDisabled" "Z" ∈ gTs := gmem 637 (by decide +kernel) (by decide +kernel)
theorem wls_J2__assertionsDisabled : Cond.laysStatic "java/lang/StringUTF16" "$assertionsDisabled" "Z" ∈ lw_tbl := tmem 638 (by decide +kernel)
theorem wf_J2_59 : Cond.fieldLink RJ2 59 "java/lang/StringUTF16" "HI_BYTE_SHIFT" "I" ∈ gTs := gmem 639 (by decide +kernel) (by decide +kernel)
theorem wls_J2_HI_BYTE_SHIFT : Cond.laysStatic "java/lang/StringUTF16" "HI_BYTE_SHIFT" "I" ∈ lw_tbl := tmem 640 (by decide +kernel)
theorem wf_J2_63 : Cond.fieldLink RJ2 63 "java/lang/StringUTF16" "LO_BYTE_SHIFT" "I" ∈ gTs := gmem 641 (by decide +kernel) (by decide +kernel)
theorem wls_J2_LO_BYTE_SHIFT : Cond.laysStatic "java/lang/StringUTF16" "LO_BYTE_SHIFT" "I" ∈ lw_tbl := tmem 642 (by decide +kernel)
theorem wm_X8_32 : Cond.methodLink RX8 32 yJ4_length_8abf5 ∈ gTs := gmem 643 (by decide +kernel) (by decide +kernel)
theorem wo_J4_length_8abf5 : Cond.instanceMethod yJ4_length_8abf5 ∈ gTs := gmem 644 (by decide +kernel) (by decide +kernel)
theorem ws_J4__J4_length_8abf5 : Cond.selects RJ4 yJ4_length_8abf5 yJ4_length_8abf5 ∈ gTs := gmem 645 (by decide +kernel) (by decide +kernel)
theorem wc_J4_length_8abf5 : Cond.code yJ4_length_8abf5 cJ4_length_8abf5 1 (some .int) ∈ gTs := gmem 646 (by decide +kernel) (by decide +kernel)
theorem wm_J4_343 : Cond.methodLink RJ4 343 yJ5_length_8abf5 ∈ gTs := gmem 647 (by decide +kernel) (by decide +kernel)
theorem wo_J5_length_8abf5 : Cond.instanceMethod yJ5_length_8abf5 ∈ gTs := gmem 648 (by decide +kernel) (by decide +kernel)
theorem wc_J5_length_8abf5 : Cond.code yJ5_length_8abf5 cJ5_length_8abf5 1 (some .int) ∈ gTs := gmem 649 (by decide +kernel) (by decide +kernel)
theorem wm_X8_38 : Cond.methodLink RX8 38 yJ4_charAt_5068e ∈ gTs := gmem 650 (by decide +kernel) (by decide +kernel)
theorem wo_J4_charAt_5068e : Cond.instanceMethod yJ4_charAt_5068e ∈ gTs := gmem 651 (by decide +kernel) (by decide +kernel)
theorem ws_J4__J4_charAt_5068e : Cond.selects RJ4 yJ4_charAt_5068e yJ4_charAt_5068e ∈ gTs := gmem 652 (by decide +kernel) (by decide +kernel)
theorem wc_J4_charAt_5068e : Cond.code yJ4_charAt_5068e cJ4_charAt_5068e 2 (some .char) ∈ gTs := gmem 653 (by decide +kernel) (by decide +kernel)
theorem wm_J4_329 : Cond.methodLink RJ4 329 yJ5_charAt_5068e ∈ gTs := gmem 654 (by decide +kernel) (by decide +kernel)
theorem wo_J5_charAt_5068e : Cond.instanceMethod yJ5_charAt_5068e ∈ gTs := gmem 655 (by decide +kernel) (by decide +kernel)
theorem wc_J5_charAt_5068e : Cond.code yJ5_charAt_5068e cJ5_charAt_5068e 5 (some .char) ∈ gTs := gmem 656 (by decide +kernel) (by decide +kernel)
theorem wm_J5_138 : Cond.methodLink RJ5 138 yJ9_min_7cf53 ∈ gTs := gmem 657 (by decide +kernel) (by decide +kernel)
theorem wm_J5_144 : Cond.methodLink RJ5 144 yJ0_checkIndex_df160 ∈ gTs := gmem 658 (by decide +kernel) (by decide +kernel)
theorem wm_J5_148 : Cond.methodLink RJ5 148 yJ2_getChar_3b067 ∈ gTs := gmem 659 (by decide +kernel) (by decide +kernel)
theorem wm_X8_58 : Cond.methodLink RX8 58 yX8_fits ∈ gTs := gmem 660 (by decide +kernel) (by decide +kernel)
theorem wt_X8_fits : Cond.static yX8_fits ∈ gTs := gmem 661 (by decide +kernel) (by decide +kernel)
theorem wc_X8_fits : Cond.code yX8_fits cX8_fits 2 (some .boolean) ∈ gTs := gmem 662 (by decide +kernel) (by decide +kernel)
theorem wmn_X8_72 : Cond.methodLinkNest RX8 72 yX9_isWithin RX9 ∈ lw_tbl := tmem 663 (by decide +kernel)
theorem wm_X8_68 : Cond.methodLink RX8 68 yX8_isPlace ∈ gTs := gmem 664 (by decide +kernel) (by decide +kernel)
theorem wt_X8_isPlace : Cond.static yX8_isPlace ∈ gTs := gmem 665 (by decide +kernel) (by decide +kernel)
theorem wc_X8_isPlace : Cond.code yX8_isPlace cX8_isPlace 1 (some .boolean) ∈ gTs := gmem 666 (by decide +kernel) (by decide +kernel)
theorem wm_X8_62 : Cond.methodLink RX8 62 yJ9_max_7cf53 ∈ gTs := gmem 667 (by decide +kernel) (by decide +kernel)
theorem wm_X9_400 : Cond.methodLink RX9 400 yX8_findCommand ∈ gTs := gmem 668 (by decide +kernel) (by decide +kernel)
theorem wm_X9_410 : Cond.methodLink RX9 410 yX2_noted ∈ gTs := gmem 669 (by decide +kernel) (by decide +kernel)
theorem wo_X2_noted : Cond.instanceMethod yX2_noted ∈ gTs := gmem 670 (by decide +kernel) (by decide +kernel)
theorem ws_X2__X2_noted : Cond.selects RX2 yX2_noted yX2_noted ∈ gTs := gmem 671 (by decide +kernel) (by decide +kernel)
theorem wc_X2_noted : Cond.code yX2_noted cX2_noted 1 ((some (.object "StarBailiff$Sky"))) ∈ gTs := gmem 672 (by decide +kernel) (by decide +kernel)
theorem wm_X9_329 : Cond.methodLink RX9 329 yX5_copyFrom ∈ gTs := gmem 673 (by decide +kernel) (by decide +kernel)
theorem wm_X9_414 : Cond.methodLink RX9 414 yX3_ofCommand ∈ gTs := gmem 674 (by decide +kernel) (by decide +kernel)
theorem wo_X3_ofCommand : Cond.instanceMethod yX3_ofCommand ∈ gTs := gmem 675 (by decide +kernel) (by decide +kernel)
theorem ws_X3__X3_ofCommand : Cond.selects RX3 yX3_ofCommand yX3_ofCommand ∈ gTs := gmem 676 (by decide +kernel) (by decide +kernel)
theorem wc_X3_ofCommand : Cond.code yX3_ofCommand cX3_ofCommand 3 (some .int) ∈ gTs := gmem 677 (by decide +kernel) (by decide +kernel)
theorem wm_X3_24 : Cond.methodLink RX3 24 yX3_because ∈ gTs := gmem 678 (by decide +kernel) (by decide +kernel)
theorem wm_X9_127 : Cond.methodLink RX9 127 yJ4_setLength_d00df ∈ gTs := gmem 679 (by decide +kernel) (by decide +kernel)
theorem wo_J4_setLength_d00df : Cond.instanceMethod yJ4_setLength_d00df ∈ gTs := gmem 680 (by decide +kernel) (by decide +kernel)
theorem ws_J4__J4_setLength_d00df : Cond.selects RJ4 yJ4_setLength_d00df yJ4_setLength_d00df ∈ gTs := gmem 681 (by decide +kernel) (by decide +kernel)
theorem wc_J4_setLength_d00df : Cond.code yJ4_setLength_d00df cJ4_setLength_d00df 2 none ∈ gTs := gmem 682 (by decide +kernel) (by decide +kernel)
theorem wm_J4_333 : Cond.methodLink RJ4 333 yJ5_setLength_d00df ∈ gTs := gmem 683 (by decide +kernel) (by decide +kernel)
theorem wo_J5_setLength_d00df : Cond.instanceMethod yJ5_setLength_d00df ∈ gTs := gmem 684 (by decide +kernel) (by decide +kernel)
theorem wc_J5_setLength_d00df : Cond.code yJ5_setLength_d00df cJ5_setLength_d00df 2 none ∈ gTs := gmem 685 (by decide +kernel) (by decide +kernel)
theorem wm_J5_100 : Cond.methodLink RJ5 100 yJ5_ensureCapacityInternal_d00df ∈ gTs := gmem 686 (by decide +kernel) (by decide +kernel)
theorem wo_J5_ensureCapacityInternal_d00df : Cond.instanceMethod yJ5_ensureCapacityInternal_d00df ∈ gTs := gmem 688 (by decide +kernel) (by decide +kernel)
theorem wc_J5_ensureCapacityInternal_d00df : Cond.code yJ5_ensureCapacityInternal_d00df cJ5_ensureCapacityInternal_d00df 3 none ∈ gTs := gmem 689 (by decide +kernel) (by decide +kernel)
theorem wm_J5_104 : Cond.methodLink RJ5 104 yJ5_newCapacity_0f7a4 ∈ gTs := gmem 690 (by decide +kernel) (by decide +kernel)
theorem wo_J5_newCapacity_0f7a4 : Cond.instanceMethod yJ5_newCapacity_0f7a4 ∈ gTs := gmem 692 (by decide +kernel) (by decide +kernel)
theorem wc_J5_newCapacity_0f7a4 : Cond.code yJ5_newCapacity_0f7a4 cJ5_newCapacity_0f7a4 6 (some .int) ∈ gTs := gmem 693 (by decide +kernel) (by decide +kernel)
theorem wm_J5_114 : Cond.methodLink RJ5 114 yJ8_newLength_cabcc ∈ gTs := gmem 694 (by decide +kernel) (by decide +kernel)
theorem wt_J8_newLength_cabcc : Cond.static yJ8_newLength_cabcc ∈ gTs := gmem 695 (by decide +kernel) (by decide +kernel)
theorem wc_J8_newLength_cabcc : Cond.code yJ8_newLength_cabcc cJ8_newLength_cabcc 4 (some .int) ∈ gTs := gmem 696 (by decide +kernel) (by decide +kernel)
theorem wm_J8_194 : Cond.methodLink RJ8 194 yJ9_max_7cf53 ∈ gTs := gmem 697 (by decide +kernel) (by decide +kernel)
theorem wn_J8_200 : Cond.constant RJ8 200 2147483639 ∈ gTs := gmem 698 (by decide +kernel) (by decide +kernel)
theorem wm_J8_201 : Cond.methodLink RJ8 201 yJ8_hugeLength_7cf53 ∈ gTs := gmem 699 (by decide +kernel) (by decide +kernel)
theorem wt_J8_hugeLength_7cf53 : Cond.static yJ8_hugeLength_7cf53 ∈ gTs := gmem 700 (by decide +kernel) (by decide +kernel)
theorem wc_J8_hugeLength_7cf53 : Cond.code yJ8_hugeLength_7cf53 cJ8_hugeLength_7cf53 3 (some .int) ∈ gTs := gmem 701 (by decide +kernel) (by decide +kernel)
theorem wn_J5_39 : Cond.constant RJ5 39 2147483647 ∈ gTs := gmem 702 (by decide +kernel) (by decide +kernel)
theorem wm_J5_108 : Cond.methodLink RJ5 108 yJ7_copyOf_9075b ∈ gTs := gmem 703 (by decide +kernel) (by decide +kernel)
theorem wt_J7_copyOf_9075b : Cond.static yJ7_copyOf_9075b ∈ gTs := gmem 704 (by decide +kernel) (by decide +kernel)
theorem wc_J7_copyOf_9075b : Cond.code yJ7_copyOf_9075b cJ7_copyOf_9075b 3 ((some (.array .byte))) ∈ gTs := gmem 705 (by decide +kernel) (by decide +kernel)
theorem wm_J7_310 : Cond.methodLink RJ7 310 ⟨"[B", "clone", "()Ljava/lang/Object;"⟩ ∈ gTs := gmem 706 (by decide +kernel) (by decide +kernel)
theorem wy__B_java_lang_Object_clone___Ljava_lang_Object_ : Cond.sameMethod "[B" "java/lang/Object" "clone" "()Ljava/lang/Object;" ∈ gTs := gmem 707 (by decide +kernel) (by decide +kernel)
theorem wv_java_lang_Object_clone___Ljava_lang_Object_ : Cond.native ⟨"java/lang/Object", "clone", "()Ljava/lang/Object;"⟩ ∈ gTs := gmem 708 (by decide +kernel) (by decide +kernel)
theorem wo_java_lang_Object_clone___Ljava_lang_Object_ : Cond.instanceMethod ⟨"java/lang/Object", "clone", "()Ljava/lang/Object;"⟩ ∈ gTs := gmem 709 (by decide +kernel) (by decide +kernel)
theorem ws__B___B_clone___Ljava_lang_Object_ : Cond.selects "[B" ⟨"[B", "clone", "()Ljava/lang/Object;"⟩ ⟨"java/lang/Object", "clone", "()Ljava/lang/Object;"⟩ ∈ gTs := gmem 710 (by decide +kernel) (by decide +kernel)
theorem wcast : Cond.castable "[B" "java/lang/Cloneable" ∈ lw_tbl := tmem 711 (by decide +kernel)
theorem wk_J7_311 : Cond.classLink RJ7 311 "[B" ∈ gTs := gmem 712 (by decide +kernel) (by decide +kernel)
theorem wm_J7_304 : Cond.methodLink RJ7 304 yJ9_min_7cf53 ∈ gTs := gmem 713 (by decide +kernel) (by decide +kernel)
theorem wm_J7_150 : Cond.methodLink RJ7 150 ⟨RJ10, "arraycopy", "(Ljava/lang/Object;ILjava/lang/Object;II)V"⟩ ∈ gTs := gmem 714 (by decide +kernel) (by decide +kernel)
theorem wm_J5_83 : Cond.methodLink RJ5 83 yJ5_isLatin1_aae02 ∈ gTs := gmem 715 (by decide +kernel) (by decide +kernel)
theorem wo_J5_isLatin1_aae02 : Cond.instanceMethod yJ5_isLatin1_aae02 ∈ gTs := gmem 716 (by decide +kernel) (by decide +kernel)
theorem wy_java_lang_AbstractStringBuilder_J5_isLatin1___Z : Cond.sameMethod "java/lang/AbstractStringBuilder" "java/lang/AbstractStringBuilder" "isLatin1" "()Z" ∈ gTs := gmem 717 (by decide +kernel) (by decide +kernel)
theorem ws_J4__J5_isLatin1_aae02 : Cond.selects RJ4 yJ5_isLatin1_aae02 yJ5_isLatin1_aae02 ∈ gTs := gmem 718 (by decide +kernel) (by decide +kernel)
theorem wc_J5_isLatin1_aae02 : Cond.code yJ5_isLatin1_aae02 cJ5_isLatin1_aae02 1 (some .boolean) ∈ gTs := gmem 719 (by decide +kernel) (by decide +kernel)
theorem wm_J5_133 : Cond.methodLink RJ5 133 yJ1_fillNull_b72d1 ∈ gTs := gmem 720 (by decide +kernel) (by decide +kernel)
theorem wt_J1_fillNull_b72d1 : Cond.static yJ1_fillNull_b72d1 ∈ gTs := gmem 721 (by decide +kernel) (by decide +kernel)
theorem wc_J1_fillNull_b72d1 : Cond.code yJ1_fillNull_b72d1 cJ1_fillNull_b72d1 3 none ∈ gTs := gmem 722 (by decide +kernel) (by decide +kernel)
theorem wm_J1_236 : Cond.methodLink RJ1 236 yJ7_fill_eb02e ∈ gTs := gmem 723 (by decide +kernel) (by decide +kernel)
theorem wt_J7_fill_eb02e : Cond.static yJ7_fill_eb02e ∈ gTs := gmem 724 (by decide +kernel) (by decide +kernel)
theorem wc_J7_fill_eb02e : Cond.code yJ7_fill_eb02e cJ7_fill_eb02e 5 none ∈ gTs := gmem 725 (by decide +kernel) (by decide +kernel)
theorem wm_J7_13 : Cond.methodLink RJ7 13 yJ7_rangeCheck_23922 ∈ gTs := gmem 726 (by decide +kernel) (by decide +kernel)
theorem wt_J7_rangeCheck_23922 : Cond.static yJ7_rangeCheck_23922 ∈ gTs := gmem 727 (by decide +kernel) (by decide +kernel)
theorem wc_J7_rangeCheck_23922 : Cond.code yJ7_rangeCheck_23922 cJ7_rangeCheck_23922 3 none ∈ gTs := gmem 728 (by decide +kernel) (by decide +kernel)
theorem wm_J5_137 : Cond.methodLink RJ5 137 yJ2_fillNull_b72d1 ∈ gTs := gmem 729 (by decide +kernel) (by decide +kernel)
theorem wt_J2_fillNull_b72d1 : Cond.static yJ2_fillNull_b72d1 ∈ gTs := gmem 730 (by decide +kernel) (by decide +kernel)
theorem wc_J2_fillNull_b72d1 : Cond.code yJ2_fillNull_b72d1 cJ2_fillNull_b72d1 3 none ∈ gTs := gmem 731 (by decide +kernel) (by decide +kernel)
theorem wm_J2_380 : Cond.methodLink RJ2 380 yJ7_fill_eb02e ∈ gTs := gmem 732 (by decide +kernel) (by decide +kernel)
theorem wm_L_155 : Cond.methodLink RL 155 yX9_reason ∈ gTs := gmem 733 (by decide +kernel) (by decide +kernel)
theorem wo_X9_reason : Cond.instanceMethod yX9_reason ∈ gTs := gmem 734 (by decide +kernel) (by decide +kernel)
theorem ws_X9__X9_reason : Cond.selects RX9 yX9_reason yX9_reason ∈ gTs := gmem 735 (by decide +kernel) (by decide +kernel)
theorem wc_X9_reason : Cond.code yX9_reason cX9_reason 3 (some .int) ∈ gTs := gmem 736 (by decide +kernel) (by decide +kernel)
theorem wm_X9_131 : Cond.methodLink RX9 131 yX3_told ∈ gTs := gmem 737 (by decide +kernel) (by decide +kernel)
theorem wo_X3_told : Cond.instanceMethod yX3_told ∈ gTs := gmem 738 (by decide +kernel) (by decide +kernel)
theorem ws_X3__X3_told : Cond.selects RX3 yX3_told yX3_told ∈ gTs := gmem 739 (by decide +kernel) (by decide +kernel)
theorem wc_X3_told : Cond.code yX3_told cX3_told 3 (some .int) ∈ gTs := gmem 740 (by decide +kernel) (by decide +kernel)
theorem wm_L_82 : Cond.methodLink RL 82 yX9_undo ∈ gTs := gmem 741 (by decide +kernel) (by decide +kernel)
theorem wo_X9_undo : Cond.instanceMethod yX9_undo ∈ gTs := gmem 742 (by decide +kernel) (by decide +kernel)
theorem ws_X9__X9_undo : Cond.selects RX9 yX9_undo yX9_undo ∈ gTs := gmem 743 (by decide +kernel) (by decide +kernel)
theorem wc_X9_undo : Cond.code yX9_undo cX9_undo 1 (some .int) ∈ gTs := gmem 744 (by decide +kernel) (by decide +kernel)
theorem wm_X9_325 : Cond.methodLink RX9 325 yX2_takeBack ∈ gTs := gmem 745 (by decide +kernel) (by decide +kernel)
theorem wo_X2_takeBack : Cond.instanceMethod yX2_takeBack ∈ gTs := gmem 746 (by decide +kernel) (by decide +kernel)
theorem ws_X2__X2_takeBack : Cond.selects RX2 yX2_takeBack yX2_takeBack ∈ gTs := gmem 747 (by decide +kernel) (by decide +kernel)
theorem wc_X2_takeBack : Cond.code yX2_takeBack cX2_takeBack 2 (some .int) ∈ gTs := gmem 748 (by decide +kernel) (by decide +kernel)
theorem wm_L_76 : Cond.methodLink RL 76 yX9_save ∈ gTs := gmem 749 (by decide +kernel) (by decide +kernel)
theorem wo_X9_save : Cond.instanceMethod yX9_save ∈ gTs := gmem 750 (by decide +kernel) (by decide +kernel)
theorem ws_X9__X9_save : Cond.selects RX9 yX9_save yX9_save ∈ gTs := gmem 751 (by decide +kernel) (by decide +kernel)
theorem wc_X9_save : Cond.code yX9_save cX9_save 1 (some .int) ∈ gTs := gmem 752 (by decide +kernel) (by decide +kernel)
theorem wm_L_79 : Cond.methodLink RL 79 yX9_restore ∈ gTs := gmem 753 (by decide +kernel) (by decide +kernel)
theorem wo_X9_restore : Cond.instanceMethod yX9_restore ∈ gTs := gmem 754 (by decide +kernel) (by decide +kernel)
theorem ws_X9__X9_restore : Cond.selects RX9 yX9_restore yX9_restore ∈ gTs := gmem 755 (by decide +kernel) (by decide +kernel)
theorem wc_X9_restore : Cond.code yX9_restore cX9_restore 1 (some .int) ∈ gTs := gmem 756 (by decide +kernel) (by decide +kernel)
theorem wm_X9_66 : Cond.methodLink RX9 66 yX2_forget ∈ gTs := gmem 757 (by decide +kernel) (by decide +kernel)
theorem wo_X2_forget : Cond.instanceMethod yX2_forget ∈ gTs := gmem 758 (by decide +kernel) (by decide +kernel)
theorem ws_X2__X2_forget : Cond.selects RX2 yX2_forget yX2_forget ∈ gTs := gmem 759 (by decide +kernel) (by decide +kernel)
theorem wc_X2_forget : Cond.code yX2_forget cX2_forget 1 none ∈ gTs := gmem 760 (by decide +kernel) (by decide +kernel)
theorem wm_L_201 : Cond.methodLink RL 201 yL_cell ∈ gTs := gmem 761 (by decide +kernel) (by decide +kernel)
theorem wt_L_cell : Cond.static yL_cell ∈ gTs := gmem 762 (by decide +kernel) (by decide +kernel)
theorem wc_L_cell : Cond.code yL_cell cL_cell 2 (some .int) ∈ gTs := gmem 763 (by decide +kernel) (by decide +kernel)
theorem wn_L_9 : Cond.constant RL 9 65535 ∈ gTs := gmem 764 (by decide +kernel) (by decide +kernel)
theorem wm_L_69 : Cond.methodLink RL 69 yL_write ∈ gTs := gmem 765 (by decide +kernel) (by decide +kernel)
theorem wt_L_write : Cond.static yL_write ∈ gTs := gmem 766 (by decide +kernel) (by decide +kernel)
theorem wc_L_write : Cond.code yL_write cL_write 3 ((some (.object "StarBailiff"))) ∈ gTs := gmem 767 (by decide +kernel) (by decide +kernel)
theorem wm_L_10 : Cond.methodLink RL 10 yJ0_length_8abf5 ∈ gTs := gmem 768 (by decide +kernel) (by decide +kernel)
theorem wm_L_16 : Cond.methodLink RL 16 yJ0_charAt_5068e ∈ gTs := gmem 769 (by decide +kernel) (by decide +kernel)
theorem wm_L_20 : Cond.methodLink RL 20 yX9_append ∈ gTs := gmem 770 (by decide +kernel) (by decide +kernel)
theorem wo_X9_append : Cond.instanceMethod yX9_append ∈ gTs := gmem 771 (by decide +kernel) (by decide +kernel)
theorem ws_X9__X9_append : Cond.selects RX9 yX9_append yX9_append ∈ gTs := gmem 772 (by decide +kernel) (by decide +kernel)
theorem wc_X9_append : Cond.code yX9_append cX9_append 2 (some .int) ∈ gTs := gmem 773 (by decide +kernel) (by decide +kernel)
theorem wm_X9_73 : Cond.methodLink RX9 73 yJ4_length_8abf5 ∈ gTs := gmem 774 (by decide +kernel) (by decide +kernel)
theorem wm_X9_77 : Cond.methodLink RX9 77 yJ4_append_cf468 ∈ gTs := gmem 775 (by decide +kernel) (by decide +kernel)
theorem wo_J4_append_cf468 : Cond.instanceMethod yJ4_append_cf468 ∈ gTs := gmem 776 (by decide +kernel) (by decide +kernel)
theorem ws_J4__J4_append_cf468 : Cond.selects RJ4 yJ4_append_cf468 yJ4_append_cf468 ∈ gTs := gmem 777 (by decide +kernel) (by decide +kernel)
theorem wc_J4_append_cf468 : Cond.code yJ4_append_cf468 cJ4_append_cf468 2 ((some (.object "java/lang/StringBuilder"))) ∈ gTs := gmem 778 (by decide +kernel) (by decide +kernel)
theorem wm_J4_50 : Cond.methodLink RJ4 50 yJ5_append_3fe6f ∈ gTs := gmem 779 (by decide +kernel) (by decide +kernel)
theorem wo_J5_append_3fe6f : Cond.instanceMethod yJ5_append_3fe6f ∈ gTs := gmem 780 (by decide +kernel) (by decide +kernel)
theorem wc_J5_append_3fe6f : Cond.code yJ5_append_3fe6f cJ5_append_3fe6f 2 ((some (.object "java/lang/AbstractStringBuilder"))) ∈ gTs := gmem 781 (by decide +kernel) (by decide +kernel)
theorem wm_J5_191 : Cond.methodLink RJ5 191 yJ1_canEncode_fc78d ∈ gTs := gmem 782 (by decide +kernel) (by decide +kernel)
theorem wt_J1_canEncode_fc78d : Cond.static yJ1_canEncode_fc78d ∈ gTs := gmem 783 (by decide +kernel) (by decide +kernel)
theorem wc_J1_canEncode_fc78d : Cond.code yJ1_canEncode_fc78d cJ1_canEncode_fc78d 1 (some .boolean) ∈ gTs := gmem 784 (by decide +kernel) (by decide +kernel)
theorem wm_J5_195 : Cond.methodLink RJ5 195 yJ5_inflate_da8c8 ∈ gTs := gmem 785 (by decide +kernel) (by decide +kernel)
theorem wo_J5_inflate_da8c8 : Cond.instanceMethod yJ5_inflate_da8c8 ∈ gTs := gmem 787 (by decide +kernel) (by decide +kernel)
theorem wc_J5_inflate_da8c8 : Cond.code yJ5_inflate_da8c8 cJ5_inflate_da8c8 2 none ∈ gTs := gmem 788 (by decide +kernel) (by decide +kernel)
theorem wm_J5_125 : Cond.methodLink RJ5 125 yJ1_inflate_0e8fd ∈ gTs := gmem 789 (by decide +kernel) (by decide +kernel)
theorem wt_J1_inflate_0e8fd : Cond.static yJ1_inflate_0e8fd ∈ gTs := gmem 790 (by decide +kernel) (by decide +kernel)
theorem wc_J1_inflate_0e8fd : Cond.code yJ1_inflate_0e8fd cJ1_inflate_0e8fd 5 none ∈ gTs := gmem 791 (by decide +kernel) (by decide +kernel)
theorem wm_J1_240 : Cond.methodLink RJ1 240 yJ2_inflate_0e8fd ∈ gTs := gmem 792 (by decide +kernel) (by decide +kernel)
theorem wt_J2_inflate_0e8fd : Cond.static yJ2_inflate_0e8fd ∈ gTs := gmem 793 (by decide +kernel) (by decide +kernel)
theorem wc_J2_inflate_0e8fd : Cond.code yJ2_inflate_0e8fd cJ2_inflate_0e8fd 6 none ∈ gTs := gmem 794 (by decide +kernel) (by decide +kernel)
theorem wm_J2_173 : Cond.methodLink RJ2 173 yJ2_checkBoundsOffCount_d044e ∈ gTs := gmem 795 (by decide +kernel) (by decide +kernel)
theorem wt_J2_checkBoundsOffCount_d044e : Cond.static yJ2_checkBoundsOffCount_d044e ∈ gTs := gmem 796 (by decide +kernel) (by decide +kernel)
theorem wc_J2_checkBoundsOffCount_d044e : Cond.code yJ2_checkBoundsOffCount_d044e cJ2_checkBoundsOffCount_d044e 3 none ∈ gTs := gmem 797 (by decide +kernel) (by decide +kernel)
theorem wm_J2_419 : Cond.methodLink RJ2 419 yJ0_checkBoundsOffCount_cabcc ∈ gTs := gmem 798 (by decide +kernel) (by decide +kernel)
theorem wt_J0_checkBoundsOffCount_cabcc : Cond.static yJ0_checkBoundsOffCount_cabcc ∈ gTs := gmem 799 (by decide +kernel) (by decide +kernel)
theorem wc_J0_checkBoundsOffCount_cabcc : Cond.code yJ0_checkBoundsOffCount_cabcc cJ0_checkBoundsOffCount_cabcc 3 (some .int) ∈ gTs := gmem 800 (by decide +kernel) (by decide +kernel)
theorem wm_J0_1065 : Cond.methodLink RJ0 1065 yJ3_checkFromIndexSize_8c36e ∈ gTs := gmem 801 (by decide +kernel) (by decide +kernel)
theorem wt_J3_checkFromIndexSize_8c36e : Cond.static yJ3_checkFromIndexSize_8c36e ∈ gTs := gmem 802 (by decide +kernel) (by decide +kernel)
theorem wc_J3_checkFromIndexSize_8c36e : Cond.code yJ3_checkFromIndexSize_8c36e cJ3_checkFromIndexSize_8c36e 4 (some .int) ∈ gTs := gmem 803 (by decide +kernel) (by decide +kernel)
theorem wm_J2_111 : Cond.methodLink RJ2 111 yJ2_putChar_b72d1 ∈ gTs := gmem 804 (by decide +kernel) (by decide +kernel)
theorem wt_J2_putChar_b72d1 : Cond.static yJ2_putChar_b72d1 ∈ gTs := gmem 805 (by decide +kernel) (by decide +kernel)
theorem wc_J2_putChar_b72d1 : Cond.code yJ2_putChar_b72d1 cJ2_putChar_b72d1 3 none ∈ gTs := gmem 806 (by decide +kernel) (by decide +kernel)
theorem wm_J5_197 : Cond.methodLink RJ5 197 yJ2_putCharSB_b72d1 ∈ gTs := gmem 807 (by decide +kernel) (by decide +kernel)
theorem wt_J2_putCharSB_b72d1 : Cond.static yJ2_putCharSB_b72d1 ∈ gTs := gmem 808 (by decide +kernel) (by decide +kernel)
theorem wc_J2_putCharSB_b72d1 : Cond.code yJ2_putCharSB_b72d1 cJ2_putCharSB_b72d1 3 none ∈ gTs := gmem 809 (by decide +kernel) (by decide +kernel)
theorem wm_L_205 : Cond.methodLink RL 205 yL_act ∈ gTs := gmem 810 (by decide +kernel) (by decide +kernel)
theorem wt_L_act : Cond.static yL_act ∈ gTs := gmem 811 (by decide +kernel) (by decide +kernel)
theorem wc_L_act : Cond.code yL_act cL_act 5 (some .int) ∈ gTs := gmem 812 (by decide +kernel) (by decide +kernel)
theorem wm_L_41 : Cond.methodLink RL 41 yX9_drop ∈ gTs := gmem 813 (by decide +kernel) (by decide +kernel)
theorem wo_X9_drop : Cond.instanceMethod yX9_drop ∈ gTs := gmem 814 (by decide +kernel) (by decide +kernel)
theorem ws_X9__X9_drop : Cond.selects RX9 yX9_drop yX9_drop ∈ gTs := gmem 815 (by decide +kernel) (by decide +kernel)
theorem wc_X9_drop : Cond.code yX9_drop cX9_drop 2 (some .int) ∈ gTs := gmem 816 (by decide +kernel) (by decide +kernel)
theorem wf_X9_103 : Cond.fieldLink RX9 103 "StarBailiff$Command" "DROP" "LStarBailiff$Command;" ∈ gTs := gmem 817 (by decide +kernel) (by decide +kernel)
theorem wls_X1_DROP : Cond.laysStatic "StarBailiff$Command" "DROP" "LStarBailiff$Command;" ∈ lw_tbl := tmem 818 (by decide +kernel)
theorem wm_L_44 : Cond.methodLink RL 44 yX9_stay ∈ gTs := gmem 819 (by decide +kernel) (by decide +kernel)
theorem wo_X9_stay : Cond.instanceMethod yX9_stay ∈ gTs := gmem 820 (by decide +kernel) (by decide +kernel)
theorem ws_X9__X9_stay : Cond.selects RX9 yX9_stay yX9_stay ∈ gTs := gmem 821 (by decide +kernel) (by decide +kernel)
theorem wc_X9_stay : Cond.code yX9_stay cX9_stay 3 (some .int) ∈ gTs := gmem 822 (by decide +kernel) (by decide +kernel)
theorem wf_X9_118 : Cond.fieldLink RX9 118 "StarBailiff$Command" "STAY" "LStarBailiff$Command;" ∈ gTs := gmem 823 (by decide +kernel) (by decide +kernel)
theorem wls_X1_STAY : Cond.laysStatic "StarBailiff$Command" "STAY" "LStarBailiff$Command;" ∈ lw_tbl := tmem 824 (by decide +kernel)
theorem wm_L_51 : Cond.methodLink RL 51 yX9_pay ∈ gTs := gmem 825 (by decide +kernel) (by decide +kernel)
theorem wo_X9_pay : Cond.instanceMethod yX9_pay ∈ gTs := gmem 826 (by decide +kernel) (by decide +kernel)
theorem ws_X9__X9_pay : Cond.selects RX9 yX9_pay yX9_pay ∈ gTs := gmem 827 (by decide +kernel) (by decide +kernel)
theorem wc_X9_pay : Cond.code yX9_pay cX9_pay 3 (some .int) ∈ gTs := gmem 828 (by decide +kernel) (by decide +kernel)
theorem wf_X9_109 : Cond.fieldLink RX9 109 "StarBailiff$Command" "PAY" "LStarBailiff$Command;" ∈ gTs := gmem 829 (by decide +kernel) (by decide +kernel)
theorem wls_X1_PAY : Cond.laysStatic "StarBailiff$Command" "PAY" "LStarBailiff$Command;" ∈ lw_tbl := tmem 830 (by decide +kernel)
theorem wm_L_57 : Cond.methodLink RL 57 yX9_redeem ∈ gTs := gmem 831 (by decide +kernel) (by decide +kernel)
theorem wo_X9_redeem : Cond.instanceMethod yX9_redeem ∈ gTs := gmem 832 (by decide +kernel) (by decide +kernel)
theorem ws_X9__X9_redeem : Cond.selects RX9 yX9_redeem yX9_redeem ∈ gTs := gmem 833 (by decide +kernel) (by decide +kernel)
theorem wc_X9_redeem : Cond.code yX9_redeem cX9_redeem 2 (some .int) ∈ gTs := gmem 834 (by decide +kernel) (by decide +kernel)
theorem wf_X9_115 : Cond.fieldLink RX9 115 "StarBailiff$Command" "REDEEM" "LStarBailiff$Command;" ∈ gTs := gmem 835 (by decide +kernel) (by decide +kernel)
theorem wls_X1_REDEEM : Cond.laysStatic "StarBailiff$Command" "REDEEM" "LStarBailiff$Command;" ∈ lw_tbl := tmem 836 (by decide +kernel)
theorem wf_L_63 : Cond.fieldLink RL 63 "StarBailiffLaw" "TEXTS" "[Ljava/lang/String;" ∈ gTs := gmem 837 (by decide +kernel) (by decide +kernel)
theorem wls_L_TEXTS : Cond.laysStatic "StarBailiffLaw" "TEXTS" "[Ljava/lang/String;" ∈ lw_tbl := tmem 838 (by decide +kernel)
theorem wm_L_151 : Cond.methodLink RL 151 yL_digest ∈ gTs := gmem 839 (by decide +kernel) (by decide +kernel)
theorem wt_L_digest : Cond.static yL_digest ∈ gTs := gmem 840 (by decide +kernel) (by decide +kernel)
theorem wc_L_digest : Cond.code yL_digest cL_digest 5 (some .long) ∈ gTs := gmem 841 (by decide +kernel) (by decide +kernel)
theorem wnl_L_85 : Cond.constantLong RL 85 7 ∈ gTs := gmem 842 (by decide +kernel) (by decide +kernel)
theorem wnl_L_87 : Cond.constantLong RL 87 31 ∈ gTs := gmem 843 (by decide +kernel) (by decide +kernel)
theorem wm_L_89 : Cond.methodLink RL 89 yX9_account ∈ gTs := gmem 844 (by decide +kernel) (by decide +kernel)
theorem wo_X9_account : Cond.instanceMethod yX9_account ∈ gTs := gmem 845 (by decide +kernel) (by decide +kernel)
theorem ws_X9__X9_account : Cond.selects RX9 yX9_account yX9_account ∈ gTs := gmem 846 (by decide +kernel) (by decide +kernel)
theorem wc_X9_account : Cond.code yX9_account cX9_account 2 (some .int) ∈ gTs := gmem 847 (by decide +kernel) (by decide +kernel)
theorem wm_X9_312 : Cond.methodLink RX9 312 yX7_countImpounded ∈ gTs := gmem 848 (by decide +kernel) (by decide +kernel)
theorem wo_X7_countImpounded : Cond.instanceMethod yX7_countImpounded ∈ gTs := gmem 849 (by decide +kernel) (by decide +kernel)
theorem ws_X7__X7_countImpounded : Cond.selects RX7 yX7_countImpounded yX7_countImpounded ∈ gTs := gmem 850 (by decide +kernel) (by decide +kernel)
theorem wc_X7_countImpounded : Cond.code yX7_countImpounded cX7_countImpounded 1 (some .int) ∈ gTs := gmem 851 (by decide +kernel) (by decide +kernel)
theorem wm_X9_315 : Cond.methodLink RX9 315 yX6_countClaimed ∈ gTs := gmem 852 (by decide +kernel) (by decide +kernel)
theorem wo_X6_countClaimed : Cond.instanceMethod yX6_countClaimed ∈ gTs := gmem 853 (by decide +kernel) (by decide +kernel)
theorem ws_X6__X6_countClaimed : Cond.selects RX6 yX6_countClaimed yX6_countClaimed ∈ gTs := gmem 854 (by decide +kernel) (by decide +kernel)
theorem wc_X6_countClaimed : Cond.code yX6_countClaimed cX6_countClaimed 1 (some .int) ∈ gTs := gmem 855 (by decide +kernel) (by decide +kernel)
theorem wmn_X6_48 : Cond.methodLinkNest RX6 48 yX9_countAlike RX9 ∈ lw_tbl := tmem 856 (by decide +kernel)
theorem wm_X9_305 : Cond.methodLink RX9 305 yX9_sum ∈ gTs := gmem 857 (by decide +kernel) (by decide +kernel)
theorem wt_X9_sum : Cond.static yX9_sum ∈ gTs := gmem 858 (by decide +kernel) (by decide +kernel)
theorem wc_X9_sum : Cond.code yX9_sum cX9_sum 4 (some .int) ∈ gTs := gmem 859 (by decide +kernel) (by decide +kernel)
theorem wm_L_92 : Cond.methodLink RL 92 yX9_cloudOf ∈ gTs := gmem 860 (by decide +kernel) (by decide +kernel)
theorem wo_X9_cloudOf : Cond.instanceMethod yX9_cloudOf ∈ gTs := gmem 861 (by decide +kernel) (by decide +kernel)
theorem ws_X9__X9_cloudOf : Cond.selects RX9 yX9_cloudOf yX9_cloudOf ∈ gTs := gmem 862 (by decide +kernel) (by decide +kernel)
theorem wc_X9_cloudOf : Cond.code yX9_cloudOf cX9_cloudOf 2 (some .int) ∈ gTs := gmem 863 (by decide +kernel) (by decide +kernel)
theorem wm_X9_226 : Cond.methodLink RX9 226 yX9_isSector ∈ gTs := gmem 864 (by decide +kernel) (by decide +kernel)
theorem wm_L_95 : Cond.methodLink RL 95 yX9_starOf ∈ gTs := gmem 865 (by decide +kernel) (by decide +kernel)
theorem wo_X9_starOf : Cond.instanceMethod yX9_starOf ∈ gTs := gmem 866 (by decide +kernel) (by decide +kernel)
theorem ws_X9__X9_starOf : Cond.selects RX9 yX9_starOf yX9_starOf ∈ gTs := gmem 867 (by decide +kernel) (by decide +kernel)
theorem wc_X9_starOf : Cond.code yX9_starOf cX9_starOf 3 (some .int) ∈ gTs := gmem 868 (by decide +kernel) (by decide +kernel)
theorem wm_X9_135 : Cond.methodLink RX9 135 yX6_has ∈ gTs := gmem 869 (by decide +kernel) (by decide +kernel)
theorem wm_X9_146 : Cond.methodLink RX9 146 yX6_isSeen ∈ gTs := gmem 870 (by decide +kernel) (by decide +kernel)
theorem wm_X9_159 : Cond.methodLink RX9 159 yX7_countOn ∈ gTs := gmem 871 (by decide +kernel) (by decide +kernel)
theorem wo_X7_countOn : Cond.instanceMethod yX7_countOn ∈ gTs := gmem 872 (by decide +kernel) (by decide +kernel)
theorem ws_X7__X7_countOn : Cond.selects RX7 yX7_countOn yX7_countOn ∈ gTs := gmem 873 (by decide +kernel) (by decide +kernel)
theorem wc_X7_countOn : Cond.code yX7_countOn cX7_countOn 2 (some .int) ∈ gTs := gmem 874 (by decide +kernel) (by decide +kernel)
theorem wm_L_98 : Cond.methodLink RL 98 yX9_roofOf ∈ gTs := gmem 875 (by decide +kernel) (by decide +kernel)
theorem wo_X9_roofOf : Cond.instanceMethod yX9_roofOf ∈ gTs := gmem 876 (by decide +kernel) (by decide +kernel)
theorem ws_X9__X9_roofOf : Cond.selects RX9 yX9_roofOf yX9_roofOf ∈ gTs := gmem 877 (by decide +kernel) (by decide +kernel)
theorem wc_X9_roofOf : Cond.code yX9_roofOf cX9_roofOf 3 (some .int) ∈ gTs := gmem 878 (by decide +kernel) (by decide +kernel)
theorem wm_X9_169 : Cond.methodLink RX9 169 yX4_has ∈ gTs := gmem 879 (by decide +kernel) (by decide +kernel)
theorem wm_X9_178 : Cond.methodLink RX9 178 yX7_countOf ∈ gTs := gmem 880 (by decide +kernel) (by decide +kernel)
theorem wm_X9_181 : Cond.methodLink RX9 181 yX7_impoundedSetOf ∈ gTs := gmem 881 (by decide +kernel) (by decide +kernel)
theorem wo_X7_impoundedSetOf : Cond.instanceMethod yX7_impoundedSetOf ∈ gTs := gmem 882 (by decide +kernel) (by decide +kernel)
theorem ws_X7__X7_impoundedSetOf : Cond.selects RX7 yX7_impoundedSetOf yX7_impoundedSetOf ∈ gTs := gmem 883 (by decide +kernel) (by decide +kernel)
theorem wc_X7_impoundedSetOf : Cond.code yX7_impoundedSetOf cX7_impoundedSetOf 4 (some .int) ∈ gTs := gmem 884 (by decide +kernel) (by decide +kernel)
theorem wm_X9_184 : Cond.methodLink RX9 184 yJ6_bitCount_0f7a4 ∈ gTs := gmem 885 (by decide +kernel) (by decide +kernel)
theorem wm_X9_195 : Cond.methodLink RX9 195 yX6_countClaimedBy ∈ gTs := gmem 886 (by decide +kernel) (by decide +kernel)
theorem wo_X6_countClaimedBy : Cond.instanceMethod yX6_countClaimedBy ∈ gTs := gmem 887 (by decide +kernel) (by decide +kernel)
theorem ws_X6__X6_countClaimedBy : Cond.selects RX6 yX6_countClaimedBy yX6_countClaimedBy ∈ gTs := gmem 888 (by decide +kernel) (by decide +kernel)
theorem wc_X6_countClaimedBy : Cond.code yX6_countClaimedBy cX6_countClaimedBy 2 (some .int) ∈ gTs := gmem 889 (by decide +kernel) (by decide +kernel)
theorem wm_L_101 : Cond.methodLink RL 101 yX9_debt ∈ gTs := gmem 890 (by decide +kernel) (by decide +kernel)
theorem wo_X9_debt : Cond.instanceMethod yX9_debt ∈ gTs := gmem 891 (by decide +kernel) (by decide +kernel)
theorem ws_X9__X9_debt : Cond.selects RX9 yX9_debt yX9_debt ∈ gTs := gmem 892 (by decide +kernel) (by decide +kernel)
theorem wc_X9_debt : Cond.code yX9_debt cX9_debt 2 (some .int) ∈ gTs := gmem 893 (by decide +kernel) (by decide +kernel)
theorem wm_L_104 : Cond.methodLink RL 104 yX9_wishOf ∈ gTs := gmem 894 (by decide +kernel) (by decide +kernel)
theorem wo_X9_wishOf : Cond.instanceMethod yX9_wishOf ∈ gTs := gmem 895 (by decide +kernel) (by decide +kernel)
theorem ws_X9__X9_wishOf : Cond.selects RX9 yX9_wishOf yX9_wishOf ∈ gTs := gmem 896 (by decide +kernel) (by decide +kernel)
theorem wc_X9_wishOf : Cond.code yX9_wishOf cX9_wishOf 3 (some .int) ∈ gTs := gmem 897 (by decide +kernel) (by decide +kernel)
theorem wm_X9_204 : Cond.methodLink RX9 204 yX7_has ∈ gTs := gmem 898 (by decide +kernel) (by decide +kernel)
theorem wm_X9_220 : Cond.methodLink RX9 220 yX7_isImpounded ∈ gTs := gmem 899 (by decide +kernel) (by decide +kernel)
theorem wm_X9_223 : Cond.methodLink RX9 223 yX5_costToRedeem ∈ gTs := gmem 900 (by decide +kernel) (by decide +kernel)
theorem wm_L_170 : Cond.methodLink RL 170 yL_areStars ∈ gTs := gmem 901 (by decide +kernel) (by decide +kernel)
theorem wt_L_areStars : Cond.static yL_areStars ∈ gTs := gmem 902 (by decide +kernel) (by decide +kernel)
theorem wc_L_areStars : Cond.code yL_areStars cL_areStars 10 (some .boolean) ∈ gTs := gmem 903 (by decide +kernel) (by decide +kernel)
theorem wm_L_107 : Cond.methodLink RL 107 yX9_levy ∈ gTs := gmem 904 (by decide +kernel) (by decide +kernel)
theorem wo_X9_levy : Cond.instanceMethod yX9_levy ∈ gTs := gmem 905 (by decide +kernel) (by decide +kernel)
theorem ws_X9__X9_levy : Cond.selects RX9 yX9_levy yX9_levy ∈ gTs := gmem 906 (by decide +kernel) (by decide +kernel)
theorem wc_X9_levy : Cond.code yX9_levy cX9_levy 3 (some .int) ∈ gTs := gmem 907 (by decide +kernel) (by decide +kernel)
theorem wm_X9_247 : Cond.methodLink RX9 247 yX5_hasBoth ∈ gTs := gmem 908 (by decide +kernel) (by decide +kernel)
theorem wm_X9_251 : Cond.methodLink RX9 251 yX5_levyOn ∈ gTs := gmem 909 (by decide +kernel) (by decide +kernel)
theorem wm_L_110 : Cond.methodLink RL 110 yJ9_max_7cf53 ∈ gTs := gmem 910 (by decide +kernel) (by decide +kernel)
theorem wm_L_115 : Cond.methodLink RL 115 yX9_seen ∈ gTs := gmem 911 (by decide +kernel) (by decide +kernel)
theorem wo_X9_seen : Cond.instanceMethod yX9_seen ∈ gTs := gmem 912 (by decide +kernel) (by decide +kernel)
theorem ws_X9__X9_seen : Cond.selects RX9 yX9_seen yX9_seen ∈ gTs := gmem 913 (by decide +kernel) (by decide +kernel)
theorem wc_X9_seen : Cond.code yX9_seen cX9_seen 2 (some .int) ∈ gTs := gmem 914 (by decide +kernel) (by decide +kernel)
theorem wm_X9_241 : Cond.methodLink RX9 241 yX6_countSeen ∈ gTs := gmem 915 (by decide +kernel) (by decide +kernel)
theorem wo_X6_countSeen : Cond.instanceMethod yX6_countSeen ∈ gTs := gmem 916 (by decide +kernel) (by decide +kernel)
theorem ws_X6__X6_countSeen : Cond.selects RX6 yX6_countSeen yX6_countSeen ∈ gTs := gmem 917 (by decide +kernel) (by decide +kernel)
theorem wc_X6_countSeen : Cond.code yX6_countSeen cX6_countSeen 4 (some .int) ∈ gTs := gmem 918 (by decide +kernel) (by decide +kernel)
theorem wm_X6_35 : Cond.methodLink RX6 35 yX6_isSeen ∈ gTs := gmem 919 (by decide +kernel) (by decide +kernel)
theorem wm_L_118 : Cond.methodLink RL 118 yX9_seenAgain ∈ gTs := gmem 920 (by decide +kernel) (by decide +kernel)
theorem wo_X9_seenAgain : Cond.instanceMethod yX9_seenAgain ∈ gTs := gmem 921 (by decide +kernel) (by decide +kernel)
theorem ws_X9__X9_seenAgain : Cond.selects RX9 yX9_seenAgain yX9_seenAgain ∈ gTs := gmem 922 (by decide +kernel) (by decide +kernel)
theorem wc_X9_seenAgain : Cond.code yX9_seenAgain cX9_seenAgain 2 (some .int) ∈ gTs := gmem 923 (by decide +kernel) (by decide +kernel)
theorem wm_X9_244 : Cond.methodLink RX9 244 yX6_countSeenByBrightness ∈ gTs := gmem 924 (by decide +kernel) (by decide +kernel)
theorem wo_X6_countSeenByBrightness : Cond.instanceMethod yX6_countSeenByBrightness ∈ gTs := gmem 925 (by decide +kernel) (by decide +kernel)
theorem ws_X6__X6_countSeenByBrightness : Cond.selects RX6 yX6_countSeenByBrightness yX6_countSeenByBrightness ∈ gTs := gmem 926 (by decide +kernel) (by decide +kernel)
theorem wc_X6_countSeenByBrightness : Cond.code yX6_countSeenByBrightness cX6_countSeenByBrightness 4 (some .int) ∈ gTs := gmem 927 (by decide +kernel) (by decide +kernel)
theorem wm_X6_39 : Cond.methodLink RX6 39 yX6_countOfBrightness ∈ gTs := gmem 928 (by decide +kernel) (by decide +kernel)
theorem wo_X6_countOfBrightness : Cond.instanceMethod yX6_countOfBrightness ∈ gTs := gmem 930 (by decide +kernel) (by decide +kernel)
theorem wc_X6_countOfBrightness : Cond.code yX6_countOfBrightness cX6_countOfBrightness 5 (some .int) ∈ gTs := gmem 931 (by decide +kernel) (by decide +kernel)
theorem wm_L_121 : Cond.methodLink RL 121 yX9_brightens ∈ gTs := gmem 932 (by decide +kernel) (by decide +kernel)
theorem wo_X9_brightens : Cond.instanceMethod yX9_brightens ∈ gTs := gmem 933 (by decide +kernel) (by decide +kernel)
theorem ws_X9__X9_brightens : Cond.selects RX9 yX9_brightens yX9_brightens ∈ gTs := gmem 934 (by decide +kernel) (by decide +kernel)
theorem wc_X9_brightens : Cond.code yX9_brightens cX9_brightens 2 (some .int) ∈ gTs := gmem 935 (by decide +kernel) (by decide +kernel)
theorem wm_X9_261 : Cond.methodLink RX9 261 yX6_dawnsUntilAllSeen ∈ gTs := gmem 936 (by decide +kernel) (by decide +kernel)
theorem wo_X6_dawnsUntilAllSeen : Cond.instanceMethod yX6_dawnsUntilAllSeen ∈ gTs := gmem 937 (by decide +kernel) (by decide +kernel)
theorem ws_X6__X6_dawnsUntilAllSeen : Cond.selects RX6 yX6_dawnsUntilAllSeen yX6_dawnsUntilAllSeen ∈ gTs := gmem 938 (by decide +kernel) (by decide +kernel)
theorem wc_X6_dawnsUntilAllSeen : Cond.code yX6_dawnsUntilAllSeen cX6_dawnsUntilAllSeen 4 (some .int) ∈ gTs := gmem 939 (by decide +kernel) (by decide +kernel)
theorem wm_L_124 : Cond.methodLink RL 124 yX9_writeSky ∈ gTs := gmem 940 (by decide +kernel) (by decide +kernel)
theorem wo_X9_writeSky : Cond.instanceMethod yX9_writeSky ∈ gTs := gmem 941 (by decide +kernel) (by decide +kernel)
theorem ws_X9__X9_writeSky : Cond.selects RX9 yX9_writeSky yX9_writeSky ∈ gTs := gmem 942 (by decide +kernel) (by decide +kernel)
theorem wc_X9_writeSky : Cond.code yX9_writeSky cX9_writeSky 3 (some .int) ∈ gTs := gmem 943 (by decide +kernel) (by decide +kernel)
theorem wm_X9_279 : Cond.methodLink RX9 279 yX9_writeIfAny ∈ gTs := gmem 944 (by decide +kernel) (by decide +kernel)
theorem wo_X9_writeIfAny : Cond.instanceMethod yX9_writeIfAny ∈ gTs := gmem 946 (by decide +kernel) (by decide +kernel)
theorem wc_X9_writeIfAny : Cond.code yX9_writeIfAny cX9_writeIfAny 3 none ∈ gTs := gmem 947 (by decide +kernel) (by decide +kernel)
theorem wm_X9_276 : Cond.methodLink RX9 276 yJ4_append_bf812 ∈ gTs := gmem 948 (by decide +kernel) (by decide +kernel)
theorem wo_J4_append_bf812 : Cond.instanceMethod yJ4_append_bf812 ∈ gTs := gmem 949 (by decide +kernel) (by decide +kernel)
theorem ws_J4__J4_append_bf812 : Cond.selects RJ4 yJ4_append_bf812 yJ4_append_bf812 ∈ gTs := gmem 950 (by decide +kernel) (by decide +kernel)
theorem wc_J4_append_bf812 : Cond.code yJ4_append_bf812 cJ4_append_bf812 2 ((some (.object "java/lang/StringBuilder"))) ∈ gTs := gmem 951 (by decide +kernel) (by decide +kernel)
theorem wm_J4_53 : Cond.methodLink RJ4 53 yJ5_append_c97b9 ∈ gTs := gmem 952 (by decide +kernel) (by decide +kernel)
theorem wo_J5_append_c97b9 : Cond.instanceMethod yJ5_append_c97b9 ∈ gTs := gmem 953 (by decide +kernel) (by decide +kernel)
theorem wc_J5_append_c97b9 : Cond.code yJ5_append_c97b9 cJ5_append_c97b9 4 ((some (.object "java/lang/AbstractStringBuilder"))) ∈ gTs := gmem 954 (by decide +kernel) (by decide +kernel)
theorem wm_J5_245 : Cond.methodLink RJ5 245 yJ6_stringSize_0f7a4 ∈ gTs := gmem 955 (by decide +kernel) (by decide +kernel)
theorem wt_J6_stringSize_0f7a4 : Cond.static yJ6_stringSize_0f7a4 ∈ gTs := gmem 956 (by decide +kernel) (by decide +kernel)
theorem wc_J6_stringSize_0f7a4 : Cond.code yJ6_stringSize_0f7a4 cJ6_stringSize_0f7a4 4 (some .int) ∈ gTs := gmem 957 (by decide +kernel) (by decide +kernel)
theorem wm_J5_248 : Cond.methodLink RJ5 248 yJ6_getChars_ba4f3 ∈ gTs := gmem 958 (by decide +kernel) (by decide +kernel)
theorem wt_J6_getChars_ba4f3 : Cond.static yJ6_getChars_ba4f3 ∈ gTs := gmem 959 (by decide +kernel) (by decide +kernel)
theorem wc_J6_getChars_ba4f3 : Cond.code yJ6_getChars_ba4f3 cJ6_getChars_ba4f3 7 (some .int) ∈ gTs := gmem 960 (by decide +kernel) (by decide +kernel)
theorem wf_J6_83 : Cond.fieldLink RJ6 83 "java/lang/Integer" "DigitOnes" "[B" ∈ gTs := gmem 961 (by decide +kernel) (by decide +kernel)
theorem wls_J6_DigitOnes : Cond.laysStatic "java/lang/Integer" "DigitOnes" "[B" ∈ lw_tbl := tmem 962 (by decide +kernel)
theorem wf_J6_87 : Cond.fieldLink RJ6 87 "java/lang/Integer" "DigitTens" "[B" ∈ gTs := gmem 963 (by decide +kernel) (by decide +kernel)
theorem wls_J6_DigitTens : Cond.laysStatic "java/lang/Integer" "DigitTens" "[B" ∈ lw_tbl := tmem 964 (by decide +kernel)
theorem wm_J5_251 : Cond.methodLink RJ5 251 yJ2_getChars_46870 ∈ gTs := gmem 965 (by decide +kernel) (by decide +kernel)
theorem wt_J2_getChars_46870 : Cond.static yJ2_getChars_46870 ∈ gTs := gmem 966 (by decide +kernel) (by decide +kernel)
theorem wc_J2_getChars_46870 : Cond.code yJ2_getChars_46870 cJ2_getChars_46870 5 (some .int) ∈ gTs := gmem 967 (by decide +kernel) (by decide +kernel)
theorem wm_J2_96 : Cond.methodLink RJ2 96 yJ2_checkBoundsBeginEnd_d044e ∈ gTs := gmem 968 (by decide +kernel) (by decide +kernel)
theorem wt_J2_checkBoundsBeginEnd_d044e : Cond.static yJ2_checkBoundsBeginEnd_d044e ∈ gTs := gmem 969 (by decide +kernel) (by decide +kernel)
theorem wc_J2_checkBoundsBeginEnd_d044e : Cond.code yJ2_checkBoundsBeginEnd_d044e cJ2_checkBoundsBeginEnd_d044e 3 none ∈ gTs := gmem 970 (by decide +kernel) (by decide +kernel)
theorem wm_J2_241 : Cond.methodLink RJ2 241 yJ0_checkBoundsBeginEnd_23922 ∈ gTs := gmem 971 (by decide +kernel) (by decide +kernel)
theorem wt_J0_checkBoundsBeginEnd_23922 : Cond.static yJ0_checkBoundsBeginEnd_23922 ∈ gTs := gmem 972 (by decide +kernel) (by decide +kernel)
theorem wc_J0_checkBoundsBeginEnd_23922 : Cond.code yJ0_checkBoundsBeginEnd_23922 cJ0_checkBoundsBeginEnd_23922 3 none ∈ gTs := gmem 973 (by decide +kernel) (by decide +kernel)
theorem wm_J0_1062 : Cond.methodLink RJ0 1062 yJ3_checkFromToIndex_8c36e ∈ gTs := gmem 974 (by decide +kernel) (by decide +kernel)
theorem wt_J3_checkFromToIndex_8c36e : Cond.static yJ3_checkFromToIndex_8c36e ∈ gTs := gmem 975 (by decide +kernel) (by decide +kernel)
theorem wc_J3_checkFromToIndex_8c36e : Cond.code yJ3_checkFromToIndex_8c36e cJ3_checkFromToIndex_8c36e 4 (some .int) ∈ gTs := gmem 976 (by decide +kernel) (by decide +kernel)
theorem wm_J2_393 : Cond.methodLink RJ2 393 yJ2_getChars_ba4f3 ∈ gTs := gmem 977 (by decide +kernel) (by decide +kernel)
theorem wt_J2_getChars_ba4f3 : Cond.static yJ2_getChars_ba4f3 ∈ gTs := gmem 978 (by decide +kernel) (by decide +kernel)
theorem wc_J2_getChars_ba4f3 : Cond.code yJ2_getChars_ba4f3 cJ2_getChars_ba4f3 7 (some .int) ∈ gTs := gmem 979 (by decide +kernel) (by decide +kernel)
theorem wf_J2_403 : Cond.fieldLink RJ2 403 "java/lang/Integer" "DigitOnes" "[B" ∈ gTs := gmem 980 (by decide +kernel) (by decide +kernel)
theorem wf_J2_407 : Cond.fieldLink RJ2 407 "java/lang/Integer" "DigitTens" "[B" ∈ gTs := gmem 981 (by decide +kernel) (by decide +kernel)
theorem wm_L_127 : Cond.methodLink RL 127 yX9_meanCloud ∈ gTs := gmem 982 (by decide +kernel) (by decide +kernel)
theorem wo_X9_meanCloud : Cond.instanceMethod yX9_meanCloud ∈ gTs := gmem 983 (by decide +kernel) (by decide +kernel)
theorem ws_X9__X9_meanCloud : Cond.selects RX9 yX9_meanCloud yX9_meanCloud ∈ gTs := gmem 984 (by decide +kernel) (by decide +kernel)
theorem wc_X9_meanCloud : Cond.code yX9_meanCloud cX9_meanCloud 1 (some .double) ∈ gTs := gmem 985 (by decide +kernel) (by decide +kernel)
theorem wnd_X9_309 : Cond.constantDouble RX9 309 4616189618054758400 ∈ gTs := gmem 986 (by decide +kernel) (by decide +kernel)
theorem wnd_L_131 : Cond.constantDouble RL 131 4616189618054758400 ∈ gTs := gmem 987 (by decide +kernel) (by decide +kernel)
theorem wm_L_133 : Cond.methodLink RL 133 yX9_isWell ∈ gTs := gmem 988 (by decide +kernel) (by decide +kernel)
theorem wo_X9_isWell : Cond.instanceMethod yX9_isWell ∈ gTs := gmem 989 (by decide +kernel) (by decide +kernel)
theorem ws_X9__X9_isWell : Cond.selects RX9 yX9_isWell yX9_isWell ∈ gTs := gmem 990 (by decide +kernel) (by decide +kernel)
theorem wc_X9_isWell : Cond.code yX9_isWell cX9_isWell 2 (some .int) ∈ gTs := gmem 991 (by decide +kernel) (by decide +kernel)
theorem wm_X9_288 : Cond.methodLink RX9 288 yX9_debt ∈ gTs := gmem 992 (by decide +kernel) (by decide +kernel)
theorem wm_X9_290 : Cond.methodLink RX9 290 yX9_debtAgain ∈ gTs := gmem 993 (by decide +kernel) (by decide +kernel)
theorem wo_X9_debtAgain : Cond.instanceMethod yX9_debtAgain ∈ gTs := gmem 994 (by decide +kernel) (by decide +kernel)
theorem ws_X9__X9_debtAgain : Cond.selects RX9 yX9_debtAgain yX9_debtAgain ∈ gTs := gmem 995 (by decide +kernel) (by decide +kernel)
theorem wc_X9_debtAgain : Cond.code yX9_debtAgain cX9_debtAgain 2 (some .int) ∈ gTs := gmem 996 (by decide +kernel) (by decide +kernel)
theorem wm_X9_293 : Cond.methodLink RX9 293 yX9_could ∈ gTs := gmem 997 (by decide +kernel) (by decide +kernel)
theorem wo_X9_could : Cond.instanceMethod yX9_could ∈ gTs := gmem 998 (by decide +kernel) (by decide +kernel)
theorem ws_X9__X9_could : Cond.selects RX9 yX9_could yX9_could ∈ gTs := gmem 999 (by decide +kernel) (by decide +kernel)
theorem wc_X9_could : Cond.code yX9_could cX9_could 2 (some .int) ∈ gTs := gmem 1000 (by decide +kernel) (by decide +kernel)
theorem wm_X9_255 : Cond.methodLink RX9 255 yX5_countRedeemable ∈ gTs := gmem 1001 (by decide +kernel) (by decide +kernel)
theorem wo_X5_countRedeemable : Cond.instanceMethod yX5_countRedeemable ∈ gTs := gmem 1002 (by decide +kernel) (by decide +kernel)
theorem ws_X5__X5_countRedeemable : Cond.selects RX5 yX5_countRedeemable yX5_countRedeemable ∈ gTs := gmem 1003 (by decide +kernel) (by decide +kernel)
theorem wc_X5_countRedeemable : Cond.code yX5_countRedeemable cX5_countRedeemable 6 (some .int) ∈ gTs := gmem 1004 (by decide +kernel) (by decide +kernel)
theorem wm_X5_187 : Cond.methodLink RX5 187 yX7_impoundedSetOf ∈ gTs := gmem 1005 (by decide +kernel) (by decide +kernel)
theorem wm_X5_190 : Cond.methodLink RX5 190 yX5_cheapestWish ∈ gTs := gmem 1006 (by decide +kernel) (by decide +kernel)
theorem wo_X5_cheapestWish : Cond.instanceMethod yX5_cheapestWish ∈ gTs := gmem 1008 (by decide +kernel) (by decide +kernel)
theorem wc_X5_cheapestWish : Cond.code yX5_cheapestWish cX5_cheapestWish 4 (some .int) ∈ gTs := gmem 1009 (by decide +kernel) (by decide +kernel)
theorem wm_X9_296 : Cond.methodLink RX9 296 yX9_couldAgain ∈ gTs := gmem 1010 (by decide +kernel) (by decide +kernel)
theorem wo_X9_couldAgain : Cond.instanceMethod yX9_couldAgain ∈ gTs := gmem 1011 (by decide +kernel) (by decide +kernel)
theorem ws_X9__X9_couldAgain : Cond.selects RX9 yX9_couldAgain yX9_couldAgain ∈ gTs := gmem 1012 (by decide +kernel) (by decide +kernel)
theorem wc_X9_couldAgain : Cond.code yX9_couldAgain cX9_couldAgain 2 (some .int) ∈ gTs := gmem 1013 (by decide +kernel) (by decide +kernel)
theorem wm_X9_258 : Cond.methodLink RX9 258 yX5_countRedeemableByTrying ∈ gTs := gmem 1014 (by decide +kernel) (by decide +kernel)
theorem wo_X5_countRedeemableByTrying : Cond.instanceMethod yX5_countRedeemableByTrying ∈ gTs := gmem 1015 (by decide +kernel) (by decide +kernel)
theorem ws_X5__X5_countRedeemableByTrying : Cond.selects RX5 yX5_countRedeemableByTrying yX5_countRedeemableByTrying ∈ gTs := gmem 1016 (by decide +kernel) (by decide +kernel)
theorem wc_X5_countRedeemableByTrying : Cond.code yX5_countRedeemableByTrying cX5_countRedeemableByTrying 5 (some .int) ∈ gTs := gmem 1017 (by decide +kernel) (by decide +kernel)
theorem wm_X5_193 : Cond.methodLink RX5 193 yX5_costOfSet ∈ gTs := gmem 1018 (by decide +kernel) (by decide +kernel)
theorem wo_X5_costOfSet : Cond.instanceMethod yX5_costOfSet ∈ gTs := gmem 1020 (by decide +kernel) (by decide +kernel)
theorem wc_X5_costOfSet : Cond.code yX5_costOfSet cX5_costOfSet 4 (some .int) ∈ gTs := gmem 1021 (by decide +kernel) (by decide +kernel)
theorem wm_X5_196 : Cond.methodLink RX5 196 yJ9_max_7cf53 ∈ gTs := gmem 1022 (by decide +kernel) (by decide +kernel)
theorem wm_X9_299 : Cond.methodLink RX9 299 yX9_seen ∈ gTs := gmem 1023 (by decide +kernel) (by decide +kernel)
theorem wm_X9_302 : Cond.methodLink RX9 302 yX9_seenAgain ∈ gTs := gmem 1024 (by decide +kernel) (by decide +kernel)
theorem wm_L_174 : Cond.methodLink RL 174 yL_areRoofs ∈ gTs := gmem 1025 (by decide +kernel) (by decide +kernel)
theorem wt_L_areRoofs : Cond.static yL_areRoofs ∈ gTs := gmem 1026 (by decide +kernel) (by decide +kernel)
theorem wc_L_areRoofs : Cond.code yL_areRoofs cL_areRoofs 15 (some .boolean) ∈ gTs := gmem 1027 (by decide +kernel) (by decide +kernel)
theorem wm_L_136 : Cond.methodLink RL 136 yX9_could ∈ gTs := gmem 1028 (by decide +kernel) (by decide +kernel)
theorem wm_L_139 : Cond.methodLink RL 139 yX9_debtAgain ∈ gTs := gmem 1029 (by decide +kernel) (by decide +kernel)
theorem wm_L_142 : Cond.methodLink RL 142 yX9_couldAgain ∈ gTs := gmem 1030 (by decide +kernel) (by decide +kernel)
theorem wm_L_145 : Cond.methodLink RL 145 yX9_write ∈ gTs := gmem 1031 (by decide +kernel) (by decide +kernel)
theorem wo_X9_write : Cond.instanceMethod yX9_write ∈ gTs := gmem 1032 (by decide +kernel) (by decide +kernel)
theorem ws_X9__X9_write : Cond.selects RX9 yX9_write yX9_write ∈ gTs := gmem 1033 (by decide +kernel) (by decide +kernel)
theorem wc_X9_write : Cond.code yX9_write cX9_write 2 (some .int) ∈ gTs := gmem 1034 (by decide +kernel) (by decide +kernel)
theorem wm_L_147 : Cond.methodLink RL 147 yX9_poundShare ∈ gTs := gmem 1035 (by decide +kernel) (by decide +kernel)
theorem wo_X9_poundShare : Cond.instanceMethod yX9_poundShare ∈ gTs := gmem 1036 (by decide +kernel) (by decide +kernel)
theorem ws_X9__X9_poundShare : Cond.selects RX9 yX9_poundShare yX9_poundShare ∈ gTs := gmem 1037 (by decide +kernel) (by decide +kernel)
theorem wc_X9_poundShare : Cond.code yX9_poundShare cX9_poundShare 1 (some .float) ∈ gTs := gmem 1038 (by decide +kernel) (by decide +kernel)
theorem wm_L_209 : Cond.methodLink RL 209 yL_isFit ∈ gTs := gmem 1039 (by decide +kernel) (by decide +kernel)
theorem wt_L_isFit : Cond.static yL_isFit ∈ gTs := gmem 1040 (by decide +kernel) (by decide +kernel)
theorem wc_L_isFit : Cond.code yL_isFit cL_isFit 3 (some .boolean) ∈ gTs := gmem 1041 (by decide +kernel) (by decide +kernel)
theorem wm_L_186 : Cond.methodLink RL 186 yL_areOrders ∈ gTs := gmem 1042 (by decide +kernel) (by decide +kernel)
theorem wt_L_areOrders : Cond.static yL_areOrders ∈ gTs := gmem 1043 (by decide +kernel) (by decide +kernel)
theorem wc_L_areOrders : Cond.code yL_areOrders cL_areOrders 9 (some .boolean) ∈ gTs := gmem 1044 (by decide +kernel) (by decide +kernel)
theorem wm_L_177 : Cond.methodLink RL 177 yX9_richest ∈ gTs := gmem 1045 (by decide +kernel) (by decide +kernel)
theorem wo_X9_richest : Cond.instanceMethod yX9_richest ∈ gTs := gmem 1046 (by decide +kernel) (by decide +kernel)
theorem ws_X9__X9_richest : Cond.selects RX9 yX9_richest yX9_richest ∈ gTs := gmem 1047 (by decide +kernel) (by decide +kernel)
theorem wc_X9_richest : Cond.code yX9_richest cX9_richest 2 (some .int) ∈ gTs := gmem 1048 (by decide +kernel) (by decide +kernel)
theorem wm_X9_270 : Cond.methodLink RX9 270 yX5_roofAtPlace ∈ gTs := gmem 1049 (by decide +kernel) (by decide +kernel)
theorem wo_X5_roofAtPlace : Cond.instanceMethod yX5_roofAtPlace ∈ gTs := gmem 1050 (by decide +kernel) (by decide +kernel)
theorem ws_X5__X5_roofAtPlace : Cond.selects RX5 yX5_roofAtPlace yX5_roofAtPlace ∈ gTs := gmem 1051 (by decide +kernel) (by decide +kernel)
theorem wc_X5_roofAtPlace : Cond.code yX5_roofAtPlace cX5_roofAtPlace 5 (some .int) ∈ gTs := gmem 1052 (by decide +kernel) (by decide +kernel)
theorem wm_X5_204 : Cond.methodLink RX5 204 yX5_isRicher ∈ gTs := gmem 1053 (by decide +kernel) (by decide +kernel)
theorem wo_X5_isRicher : Cond.instanceMethod yX5_isRicher ∈ gTs := gmem 1055 (by decide +kernel) (by decide +kernel)
theorem wc_X5_isRicher : Cond.code yX5_isRicher cX5_isRicher 7 (some .boolean) ∈ gTs := gmem 1056 (by decide +kernel) (by decide +kernel)
theorem wm_L_180 : Cond.methodLink RL 180 yX9_brightest ∈ gTs := gmem 1057 (by decide +kernel) (by decide +kernel)
theorem wo_X9_brightest : Cond.instanceMethod yX9_brightest ∈ gTs := gmem 1058 (by decide +kernel) (by decide +kernel)
theorem ws_X9__X9_brightest : Cond.selects RX9 yX9_brightest yX9_brightest ∈ gTs := gmem 1059 (by decide +kernel) (by decide +kernel)
theorem wc_X9_brightest : Cond.code yX9_brightest cX9_brightest 2 (some .int) ∈ gTs := gmem 1060 (by decide +kernel) (by decide +kernel)
theorem wm_X9_273 : Cond.methodLink RX9 273 yX6_starAtPlace ∈ gTs := gmem 1061 (by decide +kernel) (by decide +kernel)
theorem wo_X6_starAtPlace : Cond.instanceMethod yX6_starAtPlace ∈ gTs := gmem 1062 (by decide +kernel) (by decide +kernel)
theorem ws_X6__X6_starAtPlace : Cond.selects RX6 yX6_starAtPlace yX6_starAtPlace ∈ gTs := gmem 1063 (by decide +kernel) (by decide +kernel)
theorem wc_X6_starAtPlace : Cond.code yX6_starAtPlace cX6_starAtPlace 5 (some .int) ∈ gTs := gmem 1064 (by decide +kernel) (by decide +kernel)
theorem wm_X6_52 : Cond.methodLink RX6 52 yX6_isBrighter ∈ gTs := gmem 1065 (by decide +kernel) (by decide +kernel)
theorem wo_X6_isBrighter : Cond.instanceMethod yX6_isBrighter ∈ gTs := gmem 1067 (by decide +kernel) (by decide +kernel)
theorem wc_X6_isBrighter : Cond.code yX6_isBrighter cX6_isBrighter 3 (some .boolean) ∈ gTs := gmem 1068 (by decide +kernel) (by decide +kernel)
theorem wm_L_183 : Cond.methodLink RL 183 yX9_cheapest ∈ gTs := gmem 1069 (by decide +kernel) (by decide +kernel)
theorem wo_X9_cheapest : Cond.instanceMethod yX9_cheapest ∈ gTs := gmem 1070 (by decide +kernel) (by decide +kernel)
theorem ws_X9__X9_cheapest : Cond.selects RX9 yX9_cheapest yX9_cheapest ∈ gTs := gmem 1071 (by decide +kernel) (by decide +kernel)
theorem wc_X9_cheapest : Cond.code yX9_cheapest cX9_cheapest 2 (some .int) ∈ gTs := gmem 1072 (by decide +kernel) (by decide +kernel)
theorem wm_X9_264 : Cond.methodLink RX9 264 yX5_cheapestStar ∈ gTs := gmem 1073 (by decide +kernel) (by decide +kernel)
theorem wo_X5_cheapestStar : Cond.instanceMethod yX5_cheapestStar ∈ gTs := gmem 1074 (by decide +kernel) (by decide +kernel)
theorem ws_X5__X5_cheapestStar : Cond.selects RX5 yX5_cheapestStar yX5_cheapestStar ∈ gTs := gmem 1075 (by decide +kernel) (by decide +kernel)
theorem wc_X5_cheapestStar : Cond.code yX5_cheapestStar cX5_cheapestStar 5 (some .int) ∈ gTs := gmem 1076 (by decide +kernel) (by decide +kernel)
theorem wm_X5_201 : Cond.methodLink RX5 201 yX5_isCheaper ∈ gTs := gmem 1077 (by decide +kernel) (by decide +kernel)
theorem wo_X5_isCheaper : Cond.instanceMethod yX5_isCheaper ∈ gTs := gmem 1079 (by decide +kernel) (by decide +kernel)
theorem wc_X5_isCheaper : Cond.code yX5_isCheaper cX5_isCheaper 6 (some .boolean) ∈ gTs := gmem 1080 (by decide +kernel) (by decide +kernel)
theorem wm_L_189 : Cond.methodLink RL 189 yL_isDawn ∈ gTs := gmem 1081 (by decide +kernel) (by decide +kernel)
theorem wt_L_isDawn : Cond.static yL_isDawn ∈ gTs := gmem 1082 (by decide +kernel) (by decide +kernel)
theorem wc_L_isDawn : Cond.code yL_isDawn cL_isDawn 10 (some .boolean) ∈ gTs := gmem 1083 (by decide +kernel) (by decide +kernel)
theorem wm_L_167 : Cond.methodLink RL 167 yX9_wouldGrant ∈ gTs := gmem 1084 (by decide +kernel) (by decide +kernel)
theorem wo_X9_wouldGrant : Cond.instanceMethod yX9_wouldGrant ∈ gTs := gmem 1085 (by decide +kernel) (by decide +kernel)
theorem ws_X9__X9_wouldGrant : Cond.selects RX9 yX9_wouldGrant yX9_wouldGrant ∈ gTs := gmem 1086 (by decide +kernel) (by decide +kernel)
theorem wc_X9_wouldGrant : Cond.code yX9_wouldGrant cX9_wouldGrant 1 (some .int) ∈ gTs := gmem 1087 (by decide +kernel) (by decide +kernel)
theorem wm_X9_267 : Cond.methodLink RX9 267 yX5_countGrantable ∈ gTs := gmem 1088 (by decide +kernel) (by decide +kernel)
theorem wm_L_192 : Cond.methodLink RL 192 yL_isPound ∈ gTs := gmem 1089 (by decide +kernel) (by decide +kernel)
theorem wt_L_isPound : Cond.static yL_isPound ∈ gTs := gmem 1090 (by decide +kernel) (by decide +kernel)
theorem wc_L_isPound : Cond.code yL_isPound cL_isPound 13 (some .boolean) ∈ gTs := gmem 1091 (by decide +kernel) (by decide +kernel)
theorem wm_L_196 : Cond.methodLink RL 196 yL_isSighted ∈ gTs := gmem 1092 (by decide +kernel) (by decide +kernel)
theorem wt_L_isSighted : Cond.static yL_isSighted ∈ gTs := gmem 1093 (by decide +kernel) (by decide +kernel)
theorem wc_L_isSighted : Cond.code yL_isSighted cL_isSighted 14 (some .boolean) ∈ gTs := gmem 1094 (by decide +kernel) (by decide +kernel)
theorem wm_L_159 : Cond.methodLink RL 159 yJ6_bitCount_0f7a4 ∈ gTs := gmem 1095 (by decide +kernel) (by decide +kernel)
theorem wm_L_164 : Cond.methodLink RL 164 yJ9_min_7cf53 ∈ gTs := gmem 1096 (by decide +kernel) (by decide +kernel)
theorem wy_java_lang_AbstractStringBuilder_J5_length___I : Cond.sameMethod "java/lang/AbstractStringBuilder" "java/lang/AbstractStringBuilder" "length" "()I" ∈ gTs := gmem 1097 (by decide +kernel) (by decide +kernel)
theorem wy_java_lang_AbstractStringBuilder_J5_charAt__I_C : Cond.sameMethod "java/lang/AbstractStringBuilder" "java/lang/AbstractStringBuilder" "charAt" "(I)C" ∈ gTs := gmem 1098 (by decide +kernel) (by decide +kernel)
theorem wy_java_lang_AbstractStringBuilder_J5_setLength__I_V : Cond.sameMethod "java/lang/AbstractStringBuilder" "java/lang/AbstractStringBuilder" "setLength" "(I)V" ∈ gTs := gmem 1099 (by decide +kernel) (by decide +kernel)
theorem wy_java_lang_AbstractStringBuilder_J5_ensureCapacityInternal__I_V : Cond.sameMethod "java/lang/AbstractStringBuilder" "java/lang/AbstractStringBuilder" "ensureCapacityInternal" "(I)V" ∈ gTs := gmem 1100 (by decide +kernel) (by decide +kernel)
theorem wy_java_lang_AbstractStringBuilder_J5_newCapacity__I_I : Cond.sameMethod "java/lang/AbstractStringBuilder" "java/lang/AbstractStringBuilder" "newCapacity" "(I)I" ∈ gTs := gmem 1101 (by decide +kernel) (by decide +kernel)
theorem wy_java_lang_AbstractStringBuilder_J5_append__C_Ljava_lang_AbstractStringBuilder_ : Cond.sameMethod "java/lang/AbstractStringBuilder" "java/lang/AbstractStringBuilder" "append" "(C)Ljava/lang/AbstractStringBuilder;" ∈ gTs := gmem 1102 (by decide +kernel) (by decide +kernel)
theorem wy_java_lang_AbstractStringBuilder_J5_inflate___V : Cond.sameMethod "java/lang/AbstractStringBuilder" "java/lang/AbstractStringBuilder" "inflate" "()V" ∈ gTs := gmem 1103 (by decide +kernel) (by decide +kernel)
theorem wy_java_lang_AbstractStringBuilder_J5_append__I_Ljava_lang_AbstractStringBuilder_ : Cond.sameMethod "java/lang/AbstractStringBuilder" "java/lang/AbstractStringBuilder" "append" "(I)Ljava/lang/AbstractStringBuilder;" ∈ gTs := gmem 1104 (by decide +kernel) (by decide +kernel)
theorem wf_Jx29ce0_7 : Cond.fieldLink RJx29ce0 7 "java/lang/Enum" "ordinal" "I" ∈ gTs := gmem 1105 (by decide +kernel) (by decide +kernel)
theorem wf_J0_9 : Cond.fieldLink RJ0 9 "java/lang/String" "value" "[B" ∈ gTs := gmem 1106 (by decide +kernel) (by decide +kernel)
theorem wf_J0_15 : Cond.fieldLink RJ0 15 "java/lang/String" "coder" "B" ∈ gTs := gmem 1107 (by decide +kernel) (by decide +kernel)
theorem wf_X8_46 : Cond.fieldLink RX8 46 "StarBailiff$Command" "form" "Ljava/lang/String;" ∈ gTs := gmem 1108 (by decide +kernel) (by decide +kernel)
theorem wsr_X1_100 : Cond.stringRef "StarBailiff$Command" 100 "dawn" ∈ lw_tbl := tmem 1109 (by decide +kernel)
theorem wsr_X1_64 : Cond.stringRef "StarBailiff$Command" 64 "star D D" ∈ lw_tbl := tmem 1110 (by decide +kernel)
theorem wsr_X1_70 : Cond.stringRef "StarBailiff$Command" 70 "roof N" ∈ lw_tbl := tmem 1111 (by decide +kernel)
theorem wsr_X1_73 : Cond.stringRef "StarBailiff$Command" 73 "cloud D D" ∈ lw_tbl := tmem 1112 (by decide +kernel)
theorem wsr_X1_76 : Cond.stringRef "StarBailiff$Command" 76 "sight DL" ∈ lw_tbl := tmem 1113 (by decide +kernel)
theorem wsr_X1_79 : Cond.stringRef "StarBailiff$Command" 79 "claim DL" ∈ lw_tbl := tmem 1114 (by decide +kernel)
theorem wsr_X1_85 : Cond.stringRef "StarBailiff$Command" 85 "wish DLD" ∈ lw_tbl := tmem 1115 (by decide +kernel)
theorem wsr_X1_91 : Cond.stringRef "StarBailiff$Command" 91 "pound D" ∈ lw_tbl := tmem 1116 (by decide +kernel)
theorem wsr_X1_82 : Cond.stringRef "StarBailiff$Command" 82 "drop L" ∈ lw_tbl := tmem 1117 (by decide +kernel)
theorem wsr_X1_97 : Cond.stringRef "StarBailiff$Command" 97 "stay D D" ∈ lw_tbl := tmem 1118 (by decide +kernel)
theorem wsr_X1_88 : Cond.stringRef "StarBailiff$Command" 88 "pay D N" ∈ lw_tbl := tmem 1119 (by decide +kernel)
theorem wsr_X1_94 : Cond.stringRef "StarBailiff$Command" 94 "redeem D" ∈ lw_tbl := tmem 1120 (by decide +kernel)
theorem wsr_L_212 : Cond.stringRef "StarBailiffLaw" 212 "star 9 3" ∈ lw_tbl := tmem 1121 (by decide +kernel)
theorem wsr_L_214 : Cond.stringRef "StarBailiffLaw" 214 "star 1 0;star 5 0" ∈ lw_tbl := tmem 1122 (by decide +kernel)
theorem wsr_L_216 : Cond.stringRef "StarBailiffLaw" 216 "roof 12" ∈ lw_tbl := tmem 1123 (by decide +kernel)
theorem wsr_L_218 : Cond.stringRef "StarBailiffLaw" 218 "roof 0;roof 99" ∈ lw_tbl := tmem 1124 (by decide +kernel)
theorem wsr_L_220 : Cond.stringRef "StarBailiffLaw" 220 "cloud 0 5" ∈ lw_tbl := tmem 1125 (by decide +kernel)
theorem wsr_L_222 : Cond.stringRef "StarBailiffLaw" 222 "cloud 1 0;cloud 1 9" ∈ lw_tbl := tmem 1126 (by decide +kernel)
theorem wsr_L_224 : Cond.stringRef "StarBailiffLaw" 224 "sight 0a" ∈ lw_tbl := tmem 1127 (by decide +kernel)
theorem wsr_L_226 : Cond.stringRef "StarBailiffLaw" 226 "sight 1b;sight 1b" ∈ lw_tbl := tmem 1128 (by decide +kernel)
theorem wsr_L_228 : Cond.stringRef "StarBailiffLaw" 228 "claim 0a" ∈ lw_tbl := tmem 1129 (by decide +kernel)
theorem wsr_L_230 : Cond.stringRef "StarBailiffLaw" 230 "claim 1b;claim 0b" ∈ lw_tbl := tmem 1130 (by decide +kernel)
theorem wsr_L_232 : Cond.stringRef "StarBailiffLaw" 232 "drop a" ∈ lw_tbl := tmem 1131 (by decide +kernel)
theorem wsr_L_234 : Cond.stringRef "StarBailiffLaw" 234 "drop b;drop b" ∈ lw_tbl := tmem 1132 (by decide +kernel)
theorem wsr_L_236 : Cond.stringRef "StarBailiffLaw" 236 "wish 0a5" ∈ lw_tbl := tmem 1133 (by decide +kernel)
theorem wsr_L_238 : Cond.stringRef "StarBailiffLaw" 238 "sight 0c;wish 0c9" ∈ lw_tbl := tmem 1134 (by decide +kernel)
theorem wsr_L_240 : Cond.stringRef "StarBailiffLaw" 240 "pay 0 1" ∈ lw_tbl := tmem 1135 (by decide +kernel)
theorem wsr_L_242 : Cond.stringRef "StarBailiffLaw" 242 "pay 1 99" ∈ lw_tbl := tmem 1136 (by decide +kernel)
theorem wsr_L_244 : Cond.stringRef "StarBailiffLaw" 244 "pound 0" ∈ lw_tbl := tmem 1137 (by decide +kernel)
theorem wsr_L_246 : Cond.stringRef "StarBailiffLaw" 246 "pound 1;pound 1" ∈ lw_tbl := tmem 1138 (by decide +kernel)
theorem wsr_L_248 : Cond.stringRef "StarBailiffLaw" 248 "redeem 0" ∈ lw_tbl := tmem 1139 (by decide +kernel)
theorem wsr_L_250 : Cond.stringRef "StarBailiffLaw" 250 "redeem 1;redeem 1" ∈ lw_tbl := tmem 1140 (by decide +kernel)
theorem wsr_L_252 : Cond.stringRef "StarBailiffLaw" 252 "stay 0 2" ∈ lw_tbl := tmem 1141 (by decide +kernel)
theorem wsr_L_254 : Cond.stringRef "StarBailiffLaw" 254 "stay 1 0" ∈ lw_tbl := tmem 1142 (by decide +kernel)
theorem wsr_L_256 : Cond.stringRef "StarBailiffLaw" 256 "dawn" ∈ lw_tbl := tmem 1143 (by decide +kernel)
theorem wsr_L_257 : Cond.stringRef "StarBailiffLaw" 257 "dawn;dawn;dawn;dawn" ∈ lw_tbl := tmem 1144 (by decide +kernel)
theorem wsr_L_259 : Cond.stringRef "StarBailiffLaw" 259 "star 0 0" ∈ lw_tbl := tmem 1145 (by decide +kernel)
theorem wsr_L_261 : Cond.stringRef "StarBailiffLaw" 261 "star 1 4" ∈ lw_tbl := tmem 1146 (by decide +kernel)
theorem wsr_L_263 : Cond.stringRef "StarBailiffLaw" 263 "cloud 4 1" ∈ lw_tbl := tmem 1147 (by decide +kernel)
theorem wsr_L_265 : Cond.stringRef "StarBailiffLaw" 265 "sight 9a" ∈ lw_tbl := tmem 1148 (by decide +kernel)
theorem wsr_L_267 : Cond.stringRef "StarBailiffLaw" 267 "sight 0h" ∈ lw_tbl := tmem 1149 (by decide +kernel)
theorem wsr_L_269 : Cond.stringRef "StarBailiffLaw" 269 "stay 9 1" ∈ lw_tbl := tmem 1150 (by decide +kernel)
theorem ws_X9__X9_change : Cond.selects RX9 yX9_change yX9_change ∈ gTs := gmem 0 (by decide +kernel) (by decide +kernel)
theorem ws_X9__X9_carryOut : Cond.selects RX9 yX9_carryOut yX9_carryOut ∈ gTs := gmem 1 (by decide +kernel) (by decide +kernel)
theorem ws_X5__X5_isGrantable : Cond.selects RX5 yX5_isGrantable yX5_isGrantable ∈ gTs := gmem 2 (by decide +kernel) (by decide +kernel)
theorem ws_X5__X5_staysAtDawn : Cond.selects RX5 yX5_staysAtDawn yX5_staysAtDawn ∈ gTs := gmem 3 (by decide +kernel) (by decide +kernel)
theorem ws_X9__X9_carryOutInput : Cond.selects RX9 yX9_carryOutInput yX9_carryOutInput ∈ gTs := gmem 4 (by decide +kernel) (by decide +kernel)
theorem ws_X8__X8_follows : Cond.selects RX8 yX8_follows yX8_follows ∈ gTs := gmem 5 (by decide +kernel) (by decide +kernel)
theorem ws_X6__X6_countOfBrightness : Cond.selects RX6 yX6_countOfBrightness yX6_countOfBrightness ∈ gTs := gmem 6 (by decide +kernel) (by decide +kernel)
theorem ws_X9__X9_writeIfAny : Cond.selects RX9 yX9_writeIfAny yX9_writeIfAny ∈ gTs := gmem 7 (by decide +kernel) (by decide +kernel)
theorem ws_X5__X5_cheapestWish : Cond.selects RX5 yX5_cheapestWish yX5_cheapestWish ∈ gTs := gmem 8 (by decide +kernel) (by decide +kernel)
theorem ws_X5__X5_costOfSet : Cond.selects RX5 yX5_costOfSet yX5_costOfSet ∈ gTs := gmem 9 (by decide +kernel) (by decide +kernel)
theorem ws_X5__X5_isRicher : Cond.selects RX5 yX5_isRicher yX5_isRicher ∈ gTs := gmem 10 (by decide +kernel) (by decide +kernel)
theorem ws_X6__X6_isBrighter : Cond.selects RX6 yX6_isBrighter yX6_isBrighter ∈ gTs := gmem 11 (by decide +kernel) (by decide +kernel)
theorem ws_X5__X5_isCheaper : Cond.selects RX5 yX5_isCheaper yX5_isCheaper ∈ gTs := gmem 12 (by decide +kernel) (by decide +kernel)
theorem inJ4 : ∀ w ∈ wsJ40, w ∈ gTs := by
  have h0 : u_lay RJ4 TJ4 0 ∈ gTs := gmem 282 (by decide +kernel) (by decide +kernel)
  have h1 : u_lay RJ4 TJ4 1 ∈ gTs := gmem 284 (by decide +kernel) (by decide +kernel)
  have h2 : u_lay RJ4 TJ4 2 ∈ gTs := gmem 286 (by decide +kernel) (by decide +kernel)
  have h3 : u_lay RJ4 TJ4 3 ∈ gTs := gmem 288 (by decide +kernel) (by decide +kernel)
  exact List.forall_mem_cons.mpr ⟨h0, List.forall_mem_cons.mpr ⟨h1, List.forall_mem_cons.mpr ⟨h2, List.forall_mem_cons.mpr ⟨h3, fun _ h => absurd h List.not_mem_nil⟩⟩⟩⟩
theorem inX2 : ∀ w ∈ wsX20, w ∈ gTs := by
  have h0 : u_lay RX2 TX2 0 ∈ gTs := gmem 213 (by decide +kernel) (by decide +kernel)
  have h1 : u_lay RX2 TX2 1 ∈ gTs := gmem 215 (by decide +kernel) (by decide +kernel)
  have h2 : u_lay RX2 TX2 2 ∈ gTs := gmem 217 (by decide +kernel) (by decide +kernel)
  exact List.forall_mem_cons.mpr ⟨h0, List.forall_mem_cons.mpr ⟨h1, List.forall_mem_cons.mpr ⟨h2, fun _ h => absurd h List.not_mem_nil⟩⟩⟩
theorem inX3 : ∀ w ∈ wsX30, w ∈ gTs := by
  have h0 : u_lay RX3 TX3 0 ∈ gTs := gmem 230 (by decide +kernel) (by decide +kernel)
  have h1 : u_lay RX3 TX3 1 ∈ gTs := gmem 232 (by decide +kernel) (by decide +kernel)
  have h2 : u_lay RX3 TX3 2 ∈ gTs := gmem 234 (by decide +kernel) (by decide +kernel)
  have h3 : u_lay RX3 TX3 3 ∈ gTs := gmem 236 (by decide +kernel) (by decide +kernel)
  exact List.forall_mem_cons.mpr ⟨h0, List.forall_mem_cons.mpr ⟨h1, List.forall_mem_cons.mpr ⟨h2, List.forall_mem_cons.mpr ⟨h3, fun _ h => absurd h List.not_mem_nil⟩⟩⟩⟩
theorem inX4 : ∀ w ∈ wsX40, w ∈ gTs := by
  have h0 : u_lay RX4 TX4 0 ∈ gTs := gmem 122 (by decide +kernel) (by decide +kernel)
  have h1 : u_lay RX4 TX4 1 ∈ gTs := gmem 124 (by decide +kernel) (by decide +kernel)
  have h2 : u_lay RX4 TX4 2 ∈ gTs := gmem 126 (by decide +kernel) (by decide +kernel)
  have h3 : u_lay RX4 TX4 3 ∈ gTs := gmem 128 (by decide +kernel) (by decide +kernel)
  have h4 : u_lay RX4 TX4 4 ∈ gTs := gmem 130 (by decide +kernel) (by decide +kernel)
  have h5 : u_lay RX4 TX4 5 ∈ gTs := gmem 132 (by decide +kernel) (by decide +kernel)
  have h6 : u_lay RX4 TX4 6 ∈ gTs := gmem 134 (by decide +kernel) (by decide +kernel)
  have h7 : u_lay RX4 TX4 7 ∈ gTs := gmem 136 (by decide +kernel) (by decide +kernel)
  have h8 : u_lay RX4 TX4 8 ∈ gTs := gmem 138 (by decide +kernel) (by decide +kernel)
  have h9 : u_lay RX4 TX4 9 ∈ gTs := gmem 140 (by decide +kernel) (by decide +kernel)
  exact List.forall_mem_cons.mpr ⟨h0, List.forall_mem_cons.mpr ⟨h1, List.forall_mem_cons.mpr ⟨h2, List.forall_mem_cons.mpr ⟨h3, List.forall_mem_cons.mpr ⟨h4, List.forall_mem_cons.mpr ⟨h5, List.forall_mem_cons.mpr ⟨h6, List.forall_mem_cons.mpr ⟨h7, List.forall_mem_cons.mpr ⟨h8, List.forall_mem_cons.mpr ⟨h9, fun _ h => absurd h List.not_mem_nil⟩⟩⟩⟩⟩⟩⟩⟩⟩⟩
theorem inX5 : ∀ w ∈ wsX50, w ∈ gTs := by
  have h0 : u_lay RX5 TX5 0 ∈ gTs := gmem 189 (by decide +kernel) (by decide +kernel)
  have h1 : u_lay RX5 TX5 1 ∈ gTs := gmem 191 (by decide +kernel) (by decide +kernel)
  have h2 : u_lay RX5 TX5 2 ∈ gTs := gmem 193 (by decide +kernel) (by decide +kernel)
  have h3 : u_lay RX5 TX5 3 ∈ gTs := gmem 195 (by decide +kernel) (by decide +kernel)
  have h4 : u_lay RX5 TX5 4 ∈ gTs := gmem 197 (by decide +kernel) (by decide +kernel)
  exact List.forall_mem_cons.mpr ⟨h0, List.forall_mem_cons.mpr ⟨h1, List.forall_mem_cons.mpr ⟨h2, List.forall_mem_cons.mpr ⟨h3, List.forall_mem_cons.mpr ⟨h4, fun _ h => absurd h List.not_mem_nil⟩⟩⟩⟩⟩
theorem inX6 : ∀ w ∈ wsX60, w ∈ gTs := by
  have h0 : u_lay RX6 TX6 0 ∈ gTs := gmem 73 (by decide +kernel) (by decide +kernel)
  have h1 : u_lay RX6 TX6 1 ∈ gTs := gmem 75 (by decide +kernel) (by decide +kernel)
  have h2 : u_lay RX6 TX6 2 ∈ gTs := gmem 77 (by decide +kernel) (by decide +kernel)
  have h3 : u_lay RX6 TX6 3 ∈ gTs := gmem 79 (by decide +kernel) (by decide +kernel)
  have h4 : u_lay RX6 TX6 4 ∈ gTs := gmem 81 (by decide +kernel) (by decide +kernel)
  have h5 : u_lay RX6 TX6 5 ∈ gTs := gmem 83 (by decide +kernel) (by decide +kernel)
  exact List.forall_mem_cons.mpr ⟨h0, List.forall_mem_cons.mpr ⟨h1, List.forall_mem_cons.mpr ⟨h2, List.forall_mem_cons.mpr ⟨h3, List.forall_mem_cons.mpr ⟨h4, List.forall_mem_cons.mpr ⟨h5, fun _ h => absurd h List.not_mem_nil⟩⟩⟩⟩⟩⟩
theorem inX7 : ∀ w ∈ wsX70, w ∈ gTs := by
  have h0 : u_lay RX7 TX7 0 ∈ gTs := gmem 166 (by decide +kernel) (by decide +kernel)
  have h1 : u_lay RX7 TX7 1 ∈ gTs := gmem 168 (by decide +kernel) (by decide +kernel)
  have h2 : u_lay RX7 TX7 2 ∈ gTs := gmem 170 (by decide +kernel) (by decide +kernel)
  have h3 : u_lay RX7 TX7 3 ∈ gTs := gmem 172 (by decide +kernel) (by decide +kernel)
  have h4 : u_lay RX7 TX7 4 ∈ gTs := gmem 174 (by decide +kernel) (by decide +kernel)
  have h5 : u_lay RX7 TX7 5 ∈ gTs := gmem 176 (by decide +kernel) (by decide +kernel)
  exact List.forall_mem_cons.mpr ⟨h0, List.forall_mem_cons.mpr ⟨h1, List.forall_mem_cons.mpr ⟨h2, List.forall_mem_cons.mpr ⟨h3, List.forall_mem_cons.mpr ⟨h4, List.forall_mem_cons.mpr ⟨h5, fun _ h => absurd h List.not_mem_nil⟩⟩⟩⟩⟩⟩
theorem inX8 : ∀ w ∈ wsX80, w ∈ gTs := by
  have h0 : u_lay RX8 TX8 0 ∈ gTs := gmem 253 (by decide +kernel) (by decide +kernel)
  have h1 : u_lay RX8 TX8 1 ∈ gTs := gmem 255 (by decide +kernel) (by decide +kernel)
  have h2 : u_lay RX8 TX8 2 ∈ gTs := gmem 257 (by decide +kernel) (by decide +kernel)
  exact List.forall_mem_cons.mpr ⟨h0, List.forall_mem_cons.mpr ⟨h1, List.forall_mem_cons.mpr ⟨h2, fun _ h => absurd h List.not_mem_nil⟩⟩⟩
theorem inX9 : ∀ w ∈ wsX90, w ∈ gTs := by
  have h0 : u_lay RX9 TX9 0 ∈ gTs := gmem 301 (by decide +kernel) (by decide +kernel)
  have h1 : u_lay RX9 TX9 1 ∈ gTs := gmem 303 (by decide +kernel) (by decide +kernel)
  have h2 : u_lay RX9 TX9 2 ∈ gTs := gmem 305 (by decide +kernel) (by decide +kernel)
  have h3 : u_lay RX9 TX9 3 ∈ gTs := gmem 307 (by decide +kernel) (by decide +kernel)
  have h4 : u_lay RX9 TX9 4 ∈ gTs := gmem 309 (by decide +kernel) (by decide +kernel)
  have h5 : u_lay RX9 TX9 5 ∈ gTs := gmem 311 (by decide +kernel) (by decide +kernel)
  have h6 : u_lay RX9 TX9 6 ∈ gTs := gmem 313 (by decide +kernel) (by decide +kernel)
  have h7 : u_lay RX9 TX9 7 ∈ gTs := gmem 315 (by decide +kernel) (by decide +kernel)
  have h8 : u_lay RX9 TX9 8 ∈ gTs := gmem 317 (by decide +kernel) (by decide +kernel)
  exact List.forall_mem_cons.mpr ⟨h0, List.forall_mem_cons.mpr ⟨h1, List.forall_mem_cons.mpr ⟨h2, List.forall_mem_cons.mpr ⟨h3, List.forall_mem_cons.mpr ⟨h4, List.forall_mem_cons.mpr ⟨h5, List.forall_mem_cons.mpr ⟨h6, List.forall_mem_cons.mpr ⟨h7, List.forall_mem_cons.mpr ⟨h8, fun _ h => absurd h List.not_mem_nil⟩⟩⟩⟩⟩⟩⟩⟩⟩
end
section
theorem dX2_init_0 : decode cX2_init 0 = .ok (.aload_n 0, 1) := by decide +kernel
theorem dX2_init_1 : decode cX2_init 1 = .ok (.invokespecial 3, 3) := by decide +kernel
theorem dX2_init_4 : decode cX2_init 4 = .ok (.aload_n 0, 1) := by decide +kernel
theorem dX2_init_5 : decode cX2_init 5 = .ok (.bipush 9, 2) := by decide +kernel
theorem dX2_init_7 : decode cX2_init 7 = .ok (.anewarray 9, 3) := by decide +kernel
theorem dX2_init_10 : decode cX2_init 10 = .ok (.putfield 11, 3) := by decide +kernel
theorem dX2_init_13 : decode cX2_init 13 = .ok (.iconst 0, 1) := by decide +kernel
theorem dX2_init_14 : decode cX2_init 14 = .ok (.istore_n 1, 1) := by decide +kernel
theorem dX2_init_15 : decode cX2_init 15 = .ok (.iload_n 1, 1) := by decide +kernel
theorem dX2_init_16 : decode cX2_init 16 = .ok (.bipush 9, 2) := by decide +kernel
theorem dX2_init_18 : decode cX2_init 18 = .ok (.if_icmp .ge 22, 3) := by decide +kernel
theorem dX2_init_21 : decode cX2_init 21 = .ok (.aload_n 0, 1) := by decide +kernel
theorem dX2_init_22 : decode cX2_init 22 = .ok (.getfield 11, 3) := by decide +kernel
theorem dX2_init_25 : decode cX2_init 25 = .ok (.iload_n 1, 1) := by decide +kernel
theorem dX2_init_26 : decode cX2_init 26 = .ok (.new 9, 3) := by decide +kernel
theorem dX2_init_29 : decode cX2_init 29 = .ok (.dup, 1) := by decide +kernel
theorem dX2_init_30 : decode cX2_init 30 = .ok (.invokespecial 17, 3) := by decide +kernel
theorem dX2_init_33 : decode cX2_init 33 = .ok (.aastore, 1) := by decide +kernel
theorem dX2_init_34 : decode cX2_init 34 = .ok (.iinc 1 1, 3) := by decide +kernel
theorem dX2_init_37 : decode cX2_init 37 = .ok (.goto (-22), 3) := by decide +kernel
theorem dX2_init_40 : decode cX2_init 40 = .ok (.return_, 1) := by decide +kernel
theorem dX2_note_0 : decode cX2_note 0 = .ok (.aload_n 0, 1) := by decide +kernel
theorem dX2_note_1 : decode cX2_note 1 = .ok (.getfield 11, 3) := by decide +kernel
theorem dX2_note_4 : decode cX2_note 4 = .ok (.aload_n 0, 1) := by decide +kernel
theorem dX2_note_5 : decode cX2_note 5 = .ok (.getfield 18, 3) := by decide +kernel
theorem dX2_note_8 : decode cX2_note 8 = .ok (.aaload, 1) := by decide +kernel
theorem dX2_note_9 : decode cX2_note 9 = .ok (.aload_n 1, 1) := by decide +kernel
theorem dX2_note_10 : decode cX2_note 10 = .ok (.invokevirtual 22, 3) := by decide +kernel
theorem dX2_note_13 : decode cX2_note 13 = .ok (.return_, 1) := by decide +kernel
theorem dX2_noted_0 : decode cX2_noted 0 = .ok (.aload_n 0, 1) := by decide +kernel
theorem dX2_noted_1 : decode cX2_noted 1 = .ok (.getfield 11, 3) := by decide +kernel
theorem dX2_noted_4 : decode cX2_noted 4 = .ok (.aload_n 0, 1) := by decide +kernel
theorem dX2_noted_5 : decode cX2_noted 5 = .ok (.getfield 18, 3) := by decide +kernel
theorem dX2_noted_8 : decode cX2_noted 8 = .ok (.aaload, 1) := by decide +kernel
theorem dX2_noted_9 : decode cX2_noted 9 = .ok (.areturn, 1) := by decide +kernel
theorem dX2_keepNoted_0 : decode cX2_keepNoted 0 = .ok (.aload_n 0, 1) := by decide +kernel
theorem dX2_keepNoted_1 : decode cX2_keepNoted 1 = .ok (.aload_n 0, 1) := by decide +kernel
theorem dX2_keepNoted_2 : decode cX2_keepNoted 2 = .ok (.getfield 18, 3) := by decide +kernel
theorem dX2_keepNoted_5 : decode cX2_keepNoted 5 = .ok (.iconst 1, 1) := by decide +kernel
theorem dX2_keepNoted_6 : decode cX2_keepNoted 6 = .ok (.iadd, 1) := by decide +kernel
theorem dX2_keepNoted_7 : decode cX2_keepNoted 7 = .ok (.bipush 9, 2) := by decide +kernel
theorem dX2_keepNoted_9 : decode cX2_keepNoted 9 = .ok (.irem, 1) := by decide +kernel
theorem dX2_keepNoted_10 : decode cX2_keepNoted 10 = .ok (.putfield 18, 3) := by decide +kernel
theorem dX2_keepNoted_13 : decode cX2_keepNoted 13 = .ok (.aload_n 0, 1) := by decide +kernel
theorem dX2_keepNoted_14 : decode cX2_keepNoted 14 = .ok (.aload_n 0, 1) := by decide +kernel
theorem dX2_keepNoted_15 : decode cX2_keepNoted 15 = .ok (.getfield 26, 3) := by decide +kernel
theorem dX2_keepNoted_18 : decode cX2_keepNoted 18 = .ok (.iconst 1, 1) := by decide +kernel
theorem dX2_keepNoted_19 : decode cX2_keepNoted 19 = .ok (.iadd, 1) := by decide +kernel
theorem dX2_keepNoted_20 : decode cX2_keepNoted 20 = .ok (.bipush 8, 2) := by decide +kernel
theorem dX2_keepNoted_22 : decode cX2_keepNoted 22 = .ok (.invokestatic 29, 3) := by decide +kernel
theorem dX2_keepNoted_25 : decode cX2_keepNoted 25 = .ok (.putfield 26, 3) := by decide +kernel
theorem dX2_keepNoted_28 : decode cX2_keepNoted 28 = .ok (.return_, 1) := by decide +kernel
theorem dX2_forget_0 : decode cX2_forget 0 = .ok (.aload_n 0, 1) := by decide +kernel
theorem dX2_forget_1 : decode cX2_forget 1 = .ok (.iconst 0, 1) := by decide +kernel
theorem dX2_forget_2 : decode cX2_forget 2 = .ok (.putfield 26, 3) := by decide +kernel
theorem dX2_forget_5 : decode cX2_forget 5 = .ok (.return_, 1) := by decide +kernel
theorem dX2_takeBack_0 : decode cX2_takeBack 0 = .ok (.aload_n 0, 1) := by decide +kernel
theorem dX2_takeBack_1 : decode cX2_takeBack 1 = .ok (.getfield 26, 3) := by decide +kernel
theorem dX2_takeBack_4 : decode cX2_takeBack 4 = .ok (.ifCond .ne 6, 3) := by decide +kernel
theorem dX2_takeBack_7 : decode cX2_takeBack 7 = .ok (.bipush (-4), 2) := by decide +kernel
theorem dX2_takeBack_9 : decode cX2_takeBack 9 = .ok (.ireturn, 1) := by decide +kernel
theorem dX2_takeBack_10 : decode cX2_takeBack 10 = .ok (.aload_n 0, 1) := by decide +kernel
theorem dX2_takeBack_11 : decode cX2_takeBack 11 = .ok (.aload_n 0, 1) := by decide +kernel
theorem dX2_takeBack_12 : decode cX2_takeBack 12 = .ok (.getfield 18, 3) := by decide +kernel
theorem dX2_takeBack_15 : decode cX2_takeBack 15 = .ok (.bipush 9, 2) := by decide +kernel
theorem dX2_takeBack_17 : decode cX2_takeBack 17 = .ok (.iadd, 1) := by decide +kernel
theorem dX2_takeBack_18 : decode cX2_takeBack 18 = .ok (.iconst 1, 1) := by decide +kernel
theorem dX2_takeBack_19 : decode cX2_takeBack 19 = .ok (.isub, 1) := by decide +kernel
theorem dX2_takeBack_20 : decode cX2_takeBack 20 = .ok (.bipush 9, 2) := by decide +kernel
theorem dX2_takeBack_22 : decode cX2_takeBack 22 = .ok (.irem, 1) := by decide +kernel
theorem dX2_takeBack_23 : decode cX2_takeBack 23 = .ok (.putfield 18, 3) := by decide +kernel
theorem dX2_takeBack_26 : decode cX2_takeBack 26 = .ok (.aload_n 0, 1) := by decide +kernel
theorem dX2_takeBack_27 : decode cX2_takeBack 27 = .ok (.dup, 1) := by decide +kernel
theorem dX2_takeBack_28 : decode cX2_takeBack 28 = .ok (.getfield 26, 3) := by decide +kernel
theorem dX2_takeBack_31 : decode cX2_takeBack 31 = .ok (.iconst 1, 1) := by decide +kernel
theorem dX2_takeBack_32 : decode cX2_takeBack 32 = .ok (.isub, 1) := by decide +kernel
theorem dX2_takeBack_33 : decode cX2_takeBack 33 = .ok (.putfield 26, 3) := by decide +kernel
theorem dX2_takeBack_36 : decode cX2_takeBack 36 = .ok (.aload_n 1, 1) := by decide +kernel
theorem dX2_takeBack_37 : decode cX2_takeBack 37 = .ok (.aload_n 0, 1) := by decide +kernel
theorem dX2_takeBack_38 : decode cX2_takeBack 38 = .ok (.getfield 11, 3) := by decide +kernel
theorem dX2_takeBack_41 : decode cX2_takeBack 41 = .ok (.aload_n 0, 1) := by decide +kernel
theorem dX2_takeBack_42 : decode cX2_takeBack 42 = .ok (.getfield 18, 3) := by decide +kernel
theorem dX2_takeBack_45 : decode cX2_takeBack 45 = .ok (.aaload, 1) := by decide +kernel
theorem dX2_takeBack_46 : decode cX2_takeBack 46 = .ok (.invokevirtual 22, 3) := by decide +kernel
theorem dX2_takeBack_49 : decode cX2_takeBack 49 = .ok (.aload_n 0, 1) := by decide +kernel
theorem dX2_takeBack_50 : decode cX2_takeBack 50 = .ok (.getfield 26, 3) := by decide +kernel
theorem dX2_takeBack_53 : decode cX2_takeBack 53 = .ok (.ireturn, 1) := by decide +kernel
theorem dX3_init_0 : decode cX3_init 0 = .ok (.aload_n 0, 1) := by decide +kernel
theorem dX3_init_1 : decode cX3_init 1 = .ok (.invokespecial 3, 3) := by decide +kernel
theorem dX3_init_4 : decode cX3_init 4 = .ok (.aload_n 0, 1) := by decide +kernel
theorem dX3_init_5 : decode cX3_init 5 = .ok (.bipush (-4), 2) := by decide +kernel
theorem dX3_init_7 : decode cX3_init 7 = .ok (.putfield 9, 3) := by decide +kernel
theorem dX3_init_10 : decode cX3_init 10 = .ok (.aload_n 0, 1) := by decide +kernel
theorem dX3_init_11 : decode cX3_init 11 = .ok (.bipush (-4), 2) := by decide +kernel
theorem dX3_init_13 : decode cX3_init 13 = .ok (.putfield 15, 3) := by decide +kernel
theorem dX3_init_16 : decode cX3_init 16 = .ok (.aload_n 0, 1) := by decide +kernel
theorem dX3_init_17 : decode cX3_init 17 = .ok (.bipush (-4), 2) := by decide +kernel
theorem dX3_init_19 : decode cX3_init 19 = .ok (.putfield 18, 3) := by decide +kernel
theorem dX3_init_22 : decode cX3_init 22 = .ok (.aload_n 0, 1) := by decide +kernel
theorem dX3_init_23 : decode cX3_init 23 = .ok (.bipush (-4), 2) := by decide +kernel
theorem dX3_init_25 : decode cX3_init 25 = .ok (.putfield 21, 3) := by decide +kernel
theorem dX3_init_28 : decode cX3_init 28 = .ok (.return_, 1) := by decide +kernel
theorem dX3_because_0 : decode cX3_because 0 = .ok (.aload_n 0, 1) := by decide +kernel
theorem dX3_because_1 : decode cX3_because 1 = .ok (.iload_n 1, 1) := by decide +kernel
theorem dX3_because_2 : decode cX3_because 2 = .ok (.putfield 9, 3) := by decide +kernel
theorem dX3_because_5 : decode cX3_because 5 = .ok (.aload_n 0, 1) := by decide +kernel
theorem dX3_because_6 : decode cX3_because 6 = .ok (.iload_n 2, 1) := by decide +kernel
theorem dX3_because_7 : decode cX3_because 7 = .ok (.putfield 15, 3) := by decide +kernel
theorem dX3_because_10 : decode cX3_because 10 = .ok (.aload_n 0, 1) := by decide +kernel
theorem dX3_because_11 : decode cX3_because 11 = .ok (.bipush (-4), 2) := by decide +kernel
theorem dX3_because_13 : decode cX3_because 13 = .ok (.putfield 18, 3) := by decide +kernel
theorem dX3_because_16 : decode cX3_because 16 = .ok (.aload_n 0, 1) := by decide +kernel
theorem dX3_because_17 : decode cX3_because 17 = .ok (.bipush (-4), 2) := by decide +kernel
theorem dX3_because_19 : decode cX3_because 19 = .ok (.putfield 21, 3) := by decide +kernel
theorem dX3_because_22 : decode cX3_because 22 = .ok (.bipush (-3), 2) := by decide +kernel
theorem dX3_because_24 : decode cX3_because 24 = .ok (.ireturn, 1) := by decide +kernel
theorem dX3_ofCommand_0 : decode cX3_ofCommand 0 = .ok (.iload_n 1, 1) := by decide +kernel
theorem dX3_ofCommand_1 : decode cX3_ofCommand 1 = .ok (.bipush (-3), 2) := by decide +kernel
theorem dX3_ofCommand_3 : decode cX3_ofCommand 3 = .ok (.if_icmp .eq 11, 3) := by decide +kernel
theorem dX3_ofCommand_6 : decode cX3_ofCommand 6 = .ok (.aload_n 0, 1) := by decide +kernel
theorem dX3_ofCommand_7 : decode cX3_ofCommand 7 = .ok (.bipush 14, 2) := by decide +kernel
theorem dX3_ofCommand_9 : decode cX3_ofCommand 9 = .ok (.iload_n 2, 1) := by decide +kernel
theorem dX3_ofCommand_10 : decode cX3_ofCommand 10 = .ok (.invokevirtual 24, 3) := by decide +kernel
theorem dX3_ofCommand_13 : decode cX3_ofCommand 13 = .ok (.ireturn, 1) := by decide +kernel
theorem dX3_ofCommand_14 : decode cX3_ofCommand 14 = .ok (.aload_n 0, 1) := by decide +kernel
theorem dX3_ofCommand_15 : decode cX3_ofCommand 15 = .ok (.aload_n 0, 1) := by decide +kernel
theorem dX3_ofCommand_16 : decode cX3_ofCommand 16 = .ok (.getfield 9, 3) := by decide +kernel
theorem dX3_ofCommand_19 : decode cX3_ofCommand 19 = .ok (.putfield 18, 3) := by decide +kernel
theorem dX3_ofCommand_22 : decode cX3_ofCommand 22 = .ok (.aload_n 0, 1) := by decide +kernel
theorem dX3_ofCommand_23 : decode cX3_ofCommand 23 = .ok (.aload_n 0, 1) := by decide +kernel
theorem dX3_ofCommand_24 : decode cX3_ofCommand 24 = .ok (.getfield 15, 3) := by decide +kernel
theorem dX3_ofCommand_27 : decode cX3_ofCommand 27 = .ok (.putfield 21, 3) := by decide +kernel
theorem dX3_ofCommand_30 : decode cX3_ofCommand 30 = .ok (.aload_n 0, 1) := by decide +kernel
theorem dX3_ofCommand_31 : decode cX3_ofCommand 31 = .ok (.bipush 13, 2) := by decide +kernel
theorem dX3_ofCommand_33 : decode cX3_ofCommand 33 = .ok (.putfield 9, 3) := by decide +kernel
theorem dX3_ofCommand_36 : decode cX3_ofCommand 36 = .ok (.aload_n 0, 1) := by decide +kernel
theorem dX3_ofCommand_37 : decode cX3_ofCommand 37 = .ok (.iload_n 2, 1) := by decide +kernel
theorem dX3_ofCommand_38 : decode cX3_ofCommand 38 = .ok (.putfield 15, 3) := by decide +kernel
theorem dX3_ofCommand_41 : decode cX3_ofCommand 41 = .ok (.bipush (-3), 2) := by decide +kernel
theorem dX3_ofCommand_43 : decode cX3_ofCommand 43 = .ok (.ireturn, 1) := by decide +kernel
theorem dX3_told_0 : decode cX3_told 0 = .ok (.iload_n 1, 1) := by decide +kernel
theorem dX3_told_1 : decode cX3_told 1 = .ok (.lookupswitch 59 #[(0, 27), (1, 43)], 27) := by decide +kernel
theorem dX3_told_28 : decode cX3_told 28 = .ok (.iload_n 2, 1) := by decide +kernel
theorem dX3_told_29 : decode cX3_told 29 = .ok (.ifCond .eq 10, 3) := by decide +kernel
theorem dX3_told_32 : decode cX3_told 32 = .ok (.aload_n 0, 1) := by decide +kernel
theorem dX3_told_33 : decode cX3_told 33 = .ok (.getfield 15, 3) := by decide +kernel
theorem dX3_told_36 : decode cX3_told 36 = .ok (.goto 7, 3) := by decide +kernel
theorem dX3_told_39 : decode cX3_told 39 = .ok (.aload_n 0, 1) := by decide +kernel
theorem dX3_told_40 : decode cX3_told 40 = .ok (.getfield 9, 3) := by decide +kernel
theorem dX3_told_43 : decode cX3_told 43 = .ok (.ireturn, 1) := by decide +kernel
theorem dX3_told_44 : decode cX3_told 44 = .ok (.iload_n 2, 1) := by decide +kernel
theorem dX3_told_45 : decode cX3_told 45 = .ok (.ifCond .eq 10, 3) := by decide +kernel
theorem dX3_told_48 : decode cX3_told 48 = .ok (.aload_n 0, 1) := by decide +kernel
theorem dX3_told_49 : decode cX3_told 49 = .ok (.getfield 21, 3) := by decide +kernel
theorem dX3_told_52 : decode cX3_told 52 = .ok (.goto 7, 3) := by decide +kernel
theorem dX3_told_55 : decode cX3_told 55 = .ok (.aload_n 0, 1) := by decide +kernel
theorem dX3_told_56 : decode cX3_told 56 = .ok (.getfield 18, 3) := by decide +kernel
theorem dX3_told_59 : decode cX3_told 59 = .ok (.ireturn, 1) := by decide +kernel
theorem dX3_told_60 : decode cX3_told 60 = .ok (.bipush (-2), 2) := by decide +kernel
theorem dX3_told_62 : decode cX3_told 62 = .ok (.ireturn, 1) := by decide +kernel
theorem dX4_init_0 : decode cX4_init 0 = .ok (.aload_n 0, 1) := by decide +kernel
theorem dX4_init_1 : decode cX4_init 1 = .ok (.invokespecial 3, 3) := by decide +kernel
theorem dX4_init_4 : decode cX4_init 4 = .ok (.aload_n 0, 1) := by decide +kernel
theorem dX4_init_5 : decode cX4_init 5 = .ok (.iconst 5, 1) := by decide +kernel
theorem dX4_init_6 : decode cX4_init 6 = .ok (.newarray .int, 2) := by decide +kernel
theorem dX4_init_8 : decode cX4_init 8 = .ok (.putfield 9, 3) := by decide +kernel
theorem dX4_init_11 : decode cX4_init 11 = .ok (.aload_n 0, 1) := by decide +kernel
theorem dX4_init_12 : decode cX4_init 12 = .ok (.iconst 5, 1) := by decide +kernel
theorem dX4_init_13 : decode cX4_init 13 = .ok (.newarray .int, 2) := by decide +kernel
theorem dX4_init_15 : decode cX4_init 15 = .ok (.putfield 15, 3) := by decide +kernel
theorem dX4_init_18 : decode cX4_init 18 = .ok (.aload_n 0, 1) := by decide +kernel
theorem dX4_init_19 : decode cX4_init 19 = .ok (.iconst 5, 1) := by decide +kernel
theorem dX4_init_20 : decode cX4_init 20 = .ok (.newarray .int, 2) := by decide +kernel
theorem dX4_init_22 : decode cX4_init 22 = .ok (.putfield 18, 3) := by decide +kernel
theorem dX4_init_25 : decode cX4_init 25 = .ok (.aload_n 0, 1) := by decide +kernel
theorem dX4_init_26 : decode cX4_init 26 = .ok (.iconst 5, 1) := by decide +kernel
theorem dX4_init_27 : decode cX4_init 27 = .ok (.newarray .int, 2) := by decide +kernel
theorem dX4_init_29 : decode cX4_init 29 = .ok (.putfield 21, 3) := by decide +kernel
theorem dX4_init_32 : decode cX4_init 32 = .ok (.aload_n 0, 1) := by decide +kernel
theorem dX4_init_33 : decode cX4_init 33 = .ok (.iconst 5, 1) := by decide +kernel
theorem dX4_init_34 : decode cX4_init 34 = .ok (.newarray .int, 2) := by decide +kernel
theorem dX4_init_36 : decode cX4_init 36 = .ok (.putfield 24, 3) := by decide +kernel
theorem dX4_init_39 : decode cX4_init 39 = .ok (.aload_n 0, 1) := by decide +kernel
theorem dX4_init_40 : decode cX4_init 40 = .ok (.iconst 5, 1) := by decide +kernel
theorem dX4_init_41 : decode cX4_init 41 = .ok (.newarray .int, 2) := by decide +kernel
theorem dX4_init_43 : decode cX4_init 43 = .ok (.putfield 27, 3) := by decide +kernel
theorem dX4_init_46 : decode cX4_init 46 = .ok (.aload_n 0, 1) := by decide +kernel
theorem dX4_init_47 : decode cX4_init 47 = .ok (.iconst 5, 1) := by decide +kernel
theorem dX4_init_48 : decode cX4_init 48 = .ok (.newarray .int, 2) := by decide +kernel
theorem dX4_init_50 : decode cX4_init 50 = .ok (.putfield 30, 3) := by decide +kernel
theorem dX4_init_53 : decode cX4_init 53 = .ok (.aload_n 0, 1) := by decide +kernel
theorem dX4_init_54 : decode cX4_init 54 = .ok (.iconst 5, 1) := by decide +kernel
theorem dX4_init_55 : decode cX4_init 55 = .ok (.newarray .int, 2) := by decide +kernel
theorem dX4_init_57 : decode cX4_init 57 = .ok (.putfield 33, 3) := by decide +kernel
theorem dX4_init_60 : decode cX4_init 60 = .ok (.aload_n 0, 1) := by decide +kernel
theorem dX4_init_61 : decode cX4_init 61 = .ok (.iconst 5, 1) := by decide +kernel
theorem dX4_init_62 : decode cX4_init 62 = .ok (.newarray .int, 2) := by decide +kernel
theorem dX4_init_64 : decode cX4_init 64 = .ok (.putfield 36, 3) := by decide +kernel
theorem dX4_init_67 : decode cX4_init 67 = .ok (.return_, 1) := by decide +kernel
theorem dX4_copyFrom_0 : decode cX4_copyFrom 0 = .ok (.aload_n 0, 1) := by decide +kernel
theorem dX4_copyFrom_1 : decode cX4_copyFrom 1 = .ok (.aload_n 1, 1) := by decide +kernel
theorem dX4_copyFrom_2 : decode cX4_copyFrom 2 = .ok (.getfield 39, 3) := by decide +kernel
theorem dX4_copyFrom_5 : decode cX4_copyFrom 5 = .ok (.putfield 39, 3) := by decide +kernel
theorem dX4_copyFrom_8 : decode cX4_copyFrom 8 = .ok (.aload_n 1, 1) := by decide +kernel
theorem dX4_copyFrom_9 : decode cX4_copyFrom 9 = .ok (.getfield 9, 3) := by decide +kernel
theorem dX4_copyFrom_12 : decode cX4_copyFrom 12 = .ok (.aload_n 0, 1) := by decide +kernel
theorem dX4_copyFrom_13 : decode cX4_copyFrom 13 = .ok (.getfield 9, 3) := by decide +kernel
theorem dX4_copyFrom_16 : decode cX4_copyFrom 16 = .ok (.invokestatic 43, 3) := by decide +kernel
theorem dX4_copyFrom_19 : decode cX4_copyFrom 19 = .ok (.aload_n 1, 1) := by decide +kernel
theorem dX4_copyFrom_20 : decode cX4_copyFrom 20 = .ok (.getfield 15, 3) := by decide +kernel
theorem dX4_copyFrom_23 : decode cX4_copyFrom 23 = .ok (.aload_n 0, 1) := by decide +kernel
theorem dX4_copyFrom_24 : decode cX4_copyFrom 24 = .ok (.getfield 15, 3) := by decide +kernel
theorem dX4_copyFrom_27 : decode cX4_copyFrom 27 = .ok (.invokestatic 43, 3) := by decide +kernel
theorem dX4_copyFrom_30 : decode cX4_copyFrom 30 = .ok (.aload_n 1, 1) := by decide +kernel
theorem dX4_copyFrom_31 : decode cX4_copyFrom 31 = .ok (.getfield 18, 3) := by decide +kernel
theorem dX4_copyFrom_34 : decode cX4_copyFrom 34 = .ok (.aload_n 0, 1) := by decide +kernel
theorem dX4_copyFrom_35 : decode cX4_copyFrom 35 = .ok (.getfield 18, 3) := by decide +kernel
theorem dX4_copyFrom_38 : decode cX4_copyFrom 38 = .ok (.invokestatic 43, 3) := by decide +kernel
theorem dX4_copyFrom_41 : decode cX4_copyFrom 41 = .ok (.aload_n 1, 1) := by decide +kernel
theorem dX4_copyFrom_42 : decode cX4_copyFrom 42 = .ok (.getfield 21, 3) := by decide +kernel
theorem dX4_copyFrom_45 : decode cX4_copyFrom 45 = .ok (.aload_n 0, 1) := by decide +kernel
theorem dX4_copyFrom_46 : decode cX4_copyFrom 46 = .ok (.getfield 21, 3) := by decide +kernel
theorem dX4_copyFrom_49 : decode cX4_copyFrom 49 = .ok (.invokestatic 43, 3) := by decide +kernel
theorem dX4_copyFrom_52 : decode cX4_copyFrom 52 = .ok (.aload_n 1, 1) := by decide +kernel
theorem dX4_copyFrom_53 : decode cX4_copyFrom 53 = .ok (.getfield 24, 3) := by decide +kernel
theorem dX4_copyFrom_56 : decode cX4_copyFrom 56 = .ok (.aload_n 0, 1) := by decide +kernel
theorem dX4_copyFrom_57 : decode cX4_copyFrom 57 = .ok (.getfield 24, 3) := by decide +kernel
theorem dX4_copyFrom_60 : decode cX4_copyFrom 60 = .ok (.invokestatic 43, 3) := by decide +kernel
theorem dX4_copyFrom_63 : decode cX4_copyFrom 63 = .ok (.aload_n 1, 1) := by decide +kernel
theorem dX4_copyFrom_64 : decode cX4_copyFrom 64 = .ok (.getfield 27, 3) := by decide +kernel
theorem dX4_copyFrom_67 : decode cX4_copyFrom 67 = .ok (.aload_n 0, 1) := by decide +kernel
theorem dX4_copyFrom_68 : decode cX4_copyFrom 68 = .ok (.getfield 27, 3) := by decide +kernel
theorem dX4_copyFrom_71 : decode cX4_copyFrom 71 = .ok (.invokestatic 43, 3) := by decide +kernel
theorem dX4_copyFrom_74 : decode cX4_copyFrom 74 = .ok (.aload_n 1, 1) := by decide +kernel
theorem dX4_copyFrom_75 : decode cX4_copyFrom 75 = .ok (.getfield 30, 3) := by decide +kernel
theorem dX4_copyFrom_78 : decode cX4_copyFrom 78 = .ok (.aload_n 0, 1) := by decide +kernel
theorem dX4_copyFrom_79 : decode cX4_copyFrom 79 = .ok (.getfield 30, 3) := by decide +kernel
theorem dX4_copyFrom_82 : decode cX4_copyFrom 82 = .ok (.invokestatic 43, 3) := by decide +kernel
theorem dX4_copyFrom_85 : decode cX4_copyFrom 85 = .ok (.aload_n 1, 1) := by decide +kernel
theorem dX4_copyFrom_86 : decode cX4_copyFrom 86 = .ok (.getfield 33, 3) := by decide +kernel
theorem dX4_copyFrom_89 : decode cX4_copyFrom 89 = .ok (.aload_n 0, 1) := by decide +kernel
theorem dX4_copyFrom_90 : decode cX4_copyFrom 90 = .ok (.getfield 33, 3) := by decide +kernel
theorem dX4_copyFrom_93 : decode cX4_copyFrom 93 = .ok (.invokestatic 43, 3) := by decide +kernel
theorem dX4_copyFrom_96 : decode cX4_copyFrom 96 = .ok (.aload_n 1, 1) := by decide +kernel
theorem dX4_copyFrom_97 : decode cX4_copyFrom 97 = .ok (.getfield 36, 3) := by decide +kernel
theorem dX4_copyFrom_100 : decode cX4_copyFrom 100 = .ok (.aload_n 0, 1) := by decide +kernel
theorem dX4_copyFrom_101 : decode cX4_copyFrom 101 = .ok (.getfield 36, 3) := by decide +kernel
theorem dX4_copyFrom_104 : decode cX4_copyFrom 104 = .ok (.invokestatic 43, 3) := by decide +kernel
theorem dX4_copyFrom_107 : decode cX4_copyFrom 107 = .ok (.return_, 1) := by decide +kernel
theorem dX4_add_0 : decode cX4_add 0 = .ok (.aload_n 0, 1) := by decide +kernel
theorem dX4_add_1 : decode cX4_add 1 = .ok (.getfield 39, 3) := by decide +kernel
theorem dX4_add_4 : decode cX4_add 4 = .ok (.istore_n 2, 1) := by decide +kernel
theorem dX4_add_5 : decode cX4_add 5 = .ok (.aload_n 0, 1) := by decide +kernel
theorem dX4_add_6 : decode cX4_add 6 = .ok (.getfield 9, 3) := by decide +kernel
theorem dX4_add_9 : decode cX4_add 9 = .ok (.iload_n 2, 1) := by decide +kernel
theorem dX4_add_10 : decode cX4_add 10 = .ok (.iload_n 1, 1) := by decide +kernel
theorem dX4_add_11 : decode cX4_add 11 = .ok (.iastore, 1) := by decide +kernel
theorem dX4_add_12 : decode cX4_add 12 = .ok (.aload_n 0, 1) := by decide +kernel
theorem dX4_add_13 : decode cX4_add 13 = .ok (.getfield 15, 3) := by decide +kernel
theorem dX4_add_16 : decode cX4_add 16 = .ok (.iload_n 2, 1) := by decide +kernel
theorem dX4_add_17 : decode cX4_add 17 = .ok (.iconst 0, 1) := by decide +kernel
theorem dX4_add_18 : decode cX4_add 18 = .ok (.iastore, 1) := by decide +kernel
theorem dX4_add_19 : decode cX4_add 19 = .ok (.aload_n 0, 1) := by decide +kernel
theorem dX4_add_20 : decode cX4_add 20 = .ok (.getfield 18, 3) := by decide +kernel
theorem dX4_add_23 : decode cX4_add 23 = .ok (.iload_n 2, 1) := by decide +kernel
theorem dX4_add_24 : decode cX4_add 24 = .ok (.iconst 0, 1) := by decide +kernel
theorem dX4_add_25 : decode cX4_add 25 = .ok (.iastore, 1) := by decide +kernel
theorem dX4_add_26 : decode cX4_add 26 = .ok (.aload_n 0, 1) := by decide +kernel
theorem dX4_add_27 : decode cX4_add 27 = .ok (.getfield 21, 3) := by decide +kernel
theorem dX4_add_30 : decode cX4_add 30 = .ok (.iload_n 2, 1) := by decide +kernel
theorem dX4_add_31 : decode cX4_add 31 = .ok (.iconst 0, 1) := by decide +kernel
theorem dX4_add_32 : decode cX4_add 32 = .ok (.iastore, 1) := by decide +kernel
theorem dX4_add_33 : decode cX4_add 33 = .ok (.aload_n 0, 1) := by decide +kernel
theorem dX4_add_34 : decode cX4_add 34 = .ok (.getfield 24, 3) := by decide +kernel
theorem dX4_add_37 : decode cX4_add 37 = .ok (.iload_n 2, 1) := by decide +kernel
theorem dX4_add_38 : decode cX4_add 38 = .ok (.iconst 0, 1) := by decide +kernel
theorem dX4_add_39 : decode cX4_add 39 = .ok (.iastore, 1) := by decide +kernel
theorem dX4_add_40 : decode cX4_add 40 = .ok (.aload_n 0, 1) := by decide +kernel
theorem dX4_add_41 : decode cX4_add 41 = .ok (.getfield 27, 3) := by decide +kernel
theorem dX4_add_44 : decode cX4_add 44 = .ok (.iload_n 2, 1) := by decide +kernel
theorem dX4_add_45 : decode cX4_add 45 = .ok (.iconst 0, 1) := by decide +kernel
theorem dX4_add_46 : decode cX4_add 46 = .ok (.iastore, 1) := by decide +kernel
theorem dX4_add_47 : decode cX4_add 47 = .ok (.aload_n 0, 1) := by decide +kernel
theorem dX4_add_48 : decode cX4_add 48 = .ok (.getfield 30, 3) := by decide +kernel
theorem dX4_add_51 : decode cX4_add 51 = .ok (.iload_n 2, 1) := by decide +kernel
theorem dX4_add_52 : decode cX4_add 52 = .ok (.iconst 0, 1) := by decide +kernel
theorem dX4_add_53 : decode cX4_add 53 = .ok (.iastore, 1) := by decide +kernel
theorem dX4_add_54 : decode cX4_add 54 = .ok (.aload_n 0, 1) := by decide +kernel
theorem dX4_add_55 : decode cX4_add 55 = .ok (.getfield 33, 3) := by decide +kernel
theorem dX4_add_58 : decode cX4_add 58 = .ok (.iload_n 2, 1) := by decide +kernel
theorem dX4_add_59 : decode cX4_add 59 = .ok (.iconst 0, 1) := by decide +kernel
theorem dX4_add_60 : decode cX4_add 60 = .ok (.iastore, 1) := by decide +kernel
theorem dX4_add_61 : decode cX4_add 61 = .ok (.aload_n 0, 1) := by decide +kernel
theorem dX4_add_62 : decode cX4_add 62 = .ok (.getfield 36, 3) := by decide +kernel
theorem dX4_add_65 : decode cX4_add 65 = .ok (.iload_n 2, 1) := by decide +kernel
theorem dX4_add_66 : decode cX4_add 66 = .ok (.iconst 0, 1) := by decide +kernel
theorem dX4_add_67 : decode cX4_add 67 = .ok (.iastore, 1) := by decide +kernel
theorem dX4_add_68 : decode cX4_add 68 = .ok (.aload_n 0, 1) := by decide +kernel
theorem dX4_add_69 : decode cX4_add 69 = .ok (.dup, 1) := by decide +kernel
theorem dX4_add_70 : decode cX4_add 70 = .ok (.getfield 39, 3) := by decide +kernel
theorem dX4_add_73 : decode cX4_add 73 = .ok (.iconst 1, 1) := by decide +kernel
theorem dX4_add_74 : decode cX4_add 74 = .ok (.iadd, 1) := by decide +kernel
theorem dX4_add_75 : decode cX4_add 75 = .ok (.putfield 39, 3) := by decide +kernel
theorem dX4_add_78 : decode cX4_add 78 = .ok (.iload_n 2, 1) := by decide +kernel
theorem dX4_add_79 : decode cX4_add 79 = .ok (.ireturn, 1) := by decide +kernel
theorem dX4_has_0 : decode cX4_has 0 = .ok (.iload_n 1, 1) := by decide +kernel
theorem dX4_has_1 : decode cX4_has 1 = .ok (.ifCond .lt 15, 3) := by decide +kernel
theorem dX4_has_4 : decode cX4_has 4 = .ok (.iload_n 1, 1) := by decide +kernel
theorem dX4_has_5 : decode cX4_has 5 = .ok (.aload_n 0, 1) := by decide +kernel
theorem dX4_has_6 : decode cX4_has 6 = .ok (.getfield 39, 3) := by decide +kernel
theorem dX4_has_9 : decode cX4_has 9 = .ok (.if_icmp .ge 7, 3) := by decide +kernel
theorem dX4_has_12 : decode cX4_has 12 = .ok (.iconst 1, 1) := by decide +kernel
theorem dX4_has_13 : decode cX4_has 13 = .ok (.goto 4, 3) := by decide +kernel
theorem dX4_has_16 : decode cX4_has 16 = .ok (.iconst 0, 1) := by decide +kernel
theorem dX4_has_17 : decode cX4_has 17 = .ok (.ireturn, 1) := by decide +kernel
theorem dX4_collect_0 : decode cX4_collect 0 = .ok (.aload_n 0, 1) := by decide +kernel
theorem dX4_collect_1 : decode cX4_collect 1 = .ok (.getfield 9, 3) := by decide +kernel
theorem dX4_collect_4 : decode cX4_collect 4 = .ok (.iload_n 1, 1) := by decide +kernel
theorem dX4_collect_5 : decode cX4_collect 5 = .ok (.iaload, 1) := by decide +kernel
theorem dX4_collect_6 : decode cX4_collect 6 = .ok (.iload_n 2, 1) := by decide +kernel
theorem dX4_collect_7 : decode cX4_collect 7 = .ok (.invokestatic 47, 3) := by decide +kernel
theorem dX4_collect_10 : decode cX4_collect 10 = .ok (.istore 4, 2) := by decide +kernel
theorem dX4_collect_12 : decode cX4_collect 12 = .ok (.aload_n 0, 1) := by decide +kernel
theorem dX4_collect_13 : decode cX4_collect 13 = .ok (.getfield 9, 3) := by decide +kernel
theorem dX4_collect_16 : decode cX4_collect 16 = .ok (.iload_n 1, 1) := by decide +kernel
theorem dX4_collect_17 : decode cX4_collect 17 = .ok (.dup2, 1) := by decide +kernel
theorem dX4_collect_18 : decode cX4_collect 18 = .ok (.iaload, 1) := by decide +kernel
theorem dX4_collect_19 : decode cX4_collect 19 = .ok (.iload 4, 2) := by decide +kernel
theorem dX4_collect_21 : decode cX4_collect 21 = .ok (.isub, 1) := by decide +kernel
theorem dX4_collect_22 : decode cX4_collect 22 = .ok (.iastore, 1) := by decide +kernel
theorem dX4_collect_23 : decode cX4_collect 23 = .ok (.aload_n 0, 1) := by decide +kernel
theorem dX4_collect_24 : decode cX4_collect 24 = .ok (.getfield 15, 3) := by decide +kernel
theorem dX4_collect_27 : decode cX4_collect 27 = .ok (.iload_n 1, 1) := by decide +kernel
theorem dX4_collect_28 : decode cX4_collect 28 = .ok (.dup2, 1) := by decide +kernel
theorem dX4_collect_29 : decode cX4_collect 29 = .ok (.iaload, 1) := by decide +kernel
theorem dX4_collect_30 : decode cX4_collect 30 = .ok (.iload_n 2, 1) := by decide +kernel
theorem dX4_collect_31 : decode cX4_collect 31 = .ok (.iload 4, 2) := by decide +kernel
theorem dX4_collect_33 : decode cX4_collect 33 = .ok (.isub, 1) := by decide +kernel
theorem dX4_collect_34 : decode cX4_collect 34 = .ok (.iadd, 1) := by decide +kernel
theorem dX4_collect_35 : decode cX4_collect 35 = .ok (.iastore, 1) := by decide +kernel
theorem dX4_collect_36 : decode cX4_collect 36 = .ok (.aload_n 0, 1) := by decide +kernel
theorem dX4_collect_37 : decode cX4_collect 37 = .ok (.getfield 21, 3) := by decide +kernel
theorem dX4_collect_40 : decode cX4_collect 40 = .ok (.iload_n 1, 1) := by decide +kernel
theorem dX4_collect_41 : decode cX4_collect 41 = .ok (.dup2, 1) := by decide +kernel
theorem dX4_collect_42 : decode cX4_collect 42 = .ok (.iaload, 1) := by decide +kernel
theorem dX4_collect_43 : decode cX4_collect 43 = .ok (.iload_n 2, 1) := by decide +kernel
theorem dX4_collect_44 : decode cX4_collect 44 = .ok (.iadd, 1) := by decide +kernel
theorem dX4_collect_45 : decode cX4_collect 45 = .ok (.iastore, 1) := by decide +kernel
theorem dX4_collect_46 : decode cX4_collect 46 = .ok (.aload_n 0, 1) := by decide +kernel
theorem dX4_collect_47 : decode cX4_collect 47 = .ok (.getfield 24, 3) := by decide +kernel
theorem dX4_collect_50 : decode cX4_collect 50 = .ok (.iload_n 1, 1) := by decide +kernel
theorem dX4_collect_51 : decode cX4_collect 51 = .ok (.dup2, 1) := by decide +kernel
theorem dX4_collect_52 : decode cX4_collect 52 = .ok (.iaload, 1) := by decide +kernel
theorem dX4_collect_53 : decode cX4_collect 53 = .ok (.iload 4, 2) := by decide +kernel
theorem dX4_collect_55 : decode cX4_collect 55 = .ok (.iadd, 1) := by decide +kernel
theorem dX4_collect_56 : decode cX4_collect 56 = .ok (.iastore, 1) := by decide +kernel
theorem dX4_collect_57 : decode cX4_collect 57 = .ok (.aload_n 0, 1) := by decide +kernel
theorem dX4_collect_58 : decode cX4_collect 58 = .ok (.iload_n 3, 1) := by decide +kernel
theorem dX4_collect_59 : decode cX4_collect 59 = .ok (.invokevirtual 53, 3) := by decide +kernel
theorem dX4_collect_62 : decode cX4_collect 62 = .ok (.ifCond .eq 16, 3) := by decide +kernel
theorem dX4_collect_65 : decode cX4_collect 65 = .ok (.aload_n 0, 1) := by decide +kernel
theorem dX4_collect_66 : decode cX4_collect 66 = .ok (.getfield 9, 3) := by decide +kernel
theorem dX4_collect_69 : decode cX4_collect 69 = .ok (.iload_n 3, 1) := by decide +kernel
theorem dX4_collect_70 : decode cX4_collect 70 = .ok (.dup2, 1) := by decide +kernel
theorem dX4_collect_71 : decode cX4_collect 71 = .ok (.iaload, 1) := by decide +kernel
theorem dX4_collect_72 : decode cX4_collect 72 = .ok (.iload 4, 2) := by decide +kernel
theorem dX4_collect_74 : decode cX4_collect 74 = .ok (.iconst 2, 1) := by decide +kernel
theorem dX4_collect_75 : decode cX4_collect 75 = .ok (.idiv, 1) := by decide +kernel
theorem dX4_collect_76 : decode cX4_collect 76 = .ok (.iadd, 1) := by decide +kernel
theorem dX4_collect_77 : decode cX4_collect 77 = .ok (.iastore, 1) := by decide +kernel
theorem dX4_collect_78 : decode cX4_collect 78 = .ok (.return_, 1) := by decide +kernel
theorem dX4_beginNight_0 : decode cX4_beginNight 0 = .ok (.iconst 0, 1) := by decide +kernel
theorem dX4_beginNight_1 : decode cX4_beginNight 1 = .ok (.istore_n 1, 1) := by decide +kernel
theorem dX4_beginNight_2 : decode cX4_beginNight 2 = .ok (.iload_n 1, 1) := by decide +kernel
theorem dX4_beginNight_3 : decode cX4_beginNight 3 = .ok (.aload_n 0, 1) := by decide +kernel
theorem dX4_beginNight_4 : decode cX4_beginNight 4 = .ok (.getfield 39, 3) := by decide +kernel
theorem dX4_beginNight_7 : decode cX4_beginNight 7 = .ok (.if_icmp .ge 41, 3) := by decide +kernel
theorem dX4_beginNight_10 : decode cX4_beginNight 10 = .ok (.aload_n 0, 1) := by decide +kernel
theorem dX4_beginNight_11 : decode cX4_beginNight 11 = .ok (.getfield 18, 3) := by decide +kernel
theorem dX4_beginNight_14 : decode cX4_beginNight 14 = .ok (.iload_n 1, 1) := by decide +kernel
theorem dX4_beginNight_15 : decode cX4_beginNight 15 = .ok (.aload_n 0, 1) := by decide +kernel
theorem dX4_beginNight_16 : decode cX4_beginNight 16 = .ok (.getfield 18, 3) := by decide +kernel
theorem dX4_beginNight_19 : decode cX4_beginNight 19 = .ok (.iload_n 1, 1) := by decide +kernel
theorem dX4_beginNight_20 : decode cX4_beginNight 20 = .ok (.iaload, 1) := by decide +kernel
theorem dX4_beginNight_21 : decode cX4_beginNight 21 = .ok (.iconst 1, 1) := by decide +kernel
theorem dX4_beginNight_22 : decode cX4_beginNight 22 = .ok (.isub, 1) := by decide +kernel
theorem dX4_beginNight_23 : decode cX4_beginNight 23 = .ok (.iconst 0, 1) := by decide +kernel
theorem dX4_beginNight_24 : decode cX4_beginNight 24 = .ok (.invokestatic 57, 3) := by decide +kernel
theorem dX4_beginNight_27 : decode cX4_beginNight 27 = .ok (.iastore, 1) := by decide +kernel
theorem dX4_beginNight_28 : decode cX4_beginNight 28 = .ok (.aload_n 0, 1) := by decide +kernel
theorem dX4_beginNight_29 : decode cX4_beginNight 29 = .ok (.getfield 33, 3) := by decide +kernel
theorem dX4_beginNight_32 : decode cX4_beginNight 32 = .ok (.iload_n 1, 1) := by decide +kernel
theorem dX4_beginNight_33 : decode cX4_beginNight 33 = .ok (.iconst 0, 1) := by decide +kernel
theorem dX4_beginNight_34 : decode cX4_beginNight 34 = .ok (.iastore, 1) := by decide +kernel
theorem dX4_beginNight_35 : decode cX4_beginNight 35 = .ok (.aload_n 0, 1) := by decide +kernel
theorem dX4_beginNight_36 : decode cX4_beginNight 36 = .ok (.getfield 36, 3) := by decide +kernel
theorem dX4_beginNight_39 : decode cX4_beginNight 39 = .ok (.iload_n 1, 1) := by decide +kernel
theorem dX4_beginNight_40 : decode cX4_beginNight 40 = .ok (.iconst 0, 1) := by decide +kernel
theorem dX4_beginNight_41 : decode cX4_beginNight 41 = .ok (.iastore, 1) := by decide +kernel
theorem dX4_beginNight_42 : decode cX4_beginNight 42 = .ok (.iinc 1 1, 3) := by decide +kernel
theorem dX4_beginNight_45 : decode cX4_beginNight 45 = .ok (.goto (-43), 3) := by decide +kernel
theorem dX4_beginNight_48 : decode cX4_beginNight 48 = .ok (.return_, 1) := by decide +kernel
theorem dX5_init_0 : decode cX5_init 0 = .ok (.aload_n 0, 1) := by decide +kernel
theorem dX5_init_1 : decode cX5_init 1 = .ok (.invokespecial 3, 3) := by decide +kernel
theorem dX5_init_4 : decode cX5_init 4 = .ok (.aload_n 0, 1) := by decide +kernel
theorem dX5_init_5 : decode cX5_init 5 = .ok (.new 9, 3) := by decide +kernel
theorem dX5_init_8 : decode cX5_init 8 = .ok (.dup, 1) := by decide +kernel
theorem dX5_init_9 : decode cX5_init 9 = .ok (.invokespecial 11, 3) := by decide +kernel
theorem dX5_init_12 : decode cX5_init 12 = .ok (.putfield 12, 3) := by decide +kernel
theorem dX5_init_15 : decode cX5_init 15 = .ok (.aload_n 0, 1) := by decide +kernel
theorem dX5_init_16 : decode cX5_init 16 = .ok (.new 18, 3) := by decide +kernel
theorem dX5_init_19 : decode cX5_init 19 = .ok (.dup, 1) := by decide +kernel
theorem dX5_init_20 : decode cX5_init 20 = .ok (.invokespecial 20, 3) := by decide +kernel
theorem dX5_init_23 : decode cX5_init 23 = .ok (.putfield 21, 3) := by decide +kernel
theorem dX5_init_26 : decode cX5_init 26 = .ok (.aload_n 0, 1) := by decide +kernel
theorem dX5_init_27 : decode cX5_init 27 = .ok (.new 25, 3) := by decide +kernel
theorem dX5_init_30 : decode cX5_init 30 = .ok (.dup, 1) := by decide +kernel
theorem dX5_init_31 : decode cX5_init 31 = .ok (.invokespecial 27, 3) := by decide +kernel
theorem dX5_init_34 : decode cX5_init 34 = .ok (.putfield 28, 3) := by decide +kernel
theorem dX5_init_37 : decode cX5_init 37 = .ok (.return_, 1) := by decide +kernel
theorem dX5_copyFrom_0 : decode cX5_copyFrom 0 = .ok (.aload_n 0, 1) := by decide +kernel
theorem dX5_copyFrom_1 : decode cX5_copyFrom 1 = .ok (.getfield 12, 3) := by decide +kernel
theorem dX5_copyFrom_4 : decode cX5_copyFrom 4 = .ok (.aload_n 1, 1) := by decide +kernel
theorem dX5_copyFrom_5 : decode cX5_copyFrom 5 = .ok (.getfield 12, 3) := by decide +kernel
theorem dX5_copyFrom_8 : decode cX5_copyFrom 8 = .ok (.invokevirtual 44, 3) := by decide +kernel
theorem dX5_copyFrom_11 : decode cX5_copyFrom 11 = .ok (.aload_n 0, 1) := by decide +kernel
theorem dX5_copyFrom_12 : decode cX5_copyFrom 12 = .ok (.getfield 21, 3) := by decide +kernel
theorem dX5_copyFrom_15 : decode cX5_copyFrom 15 = .ok (.aload_n 1, 1) := by decide +kernel
theorem dX5_copyFrom_16 : decode cX5_copyFrom 16 = .ok (.getfield 21, 3) := by decide +kernel
theorem dX5_copyFrom_19 : decode cX5_copyFrom 19 = .ok (.invokevirtual 48, 3) := by decide +kernel
theorem dX5_copyFrom_22 : decode cX5_copyFrom 22 = .ok (.aload_n 0, 1) := by decide +kernel
theorem dX5_copyFrom_23 : decode cX5_copyFrom 23 = .ok (.getfield 28, 3) := by decide +kernel
theorem dX5_copyFrom_26 : decode cX5_copyFrom 26 = .ok (.aload_n 1, 1) := by decide +kernel
theorem dX5_copyFrom_27 : decode cX5_copyFrom 27 = .ok (.getfield 28, 3) := by decide +kernel
theorem dX5_copyFrom_30 : decode cX5_copyFrom 30 = .ok (.invokevirtual 51, 3) := by decide +kernel
theorem dX5_copyFrom_33 : decode cX5_copyFrom 33 = .ok (.aload_n 0, 1) := by decide +kernel
theorem dX5_copyFrom_34 : decode cX5_copyFrom 34 = .ok (.aload_n 1, 1) := by decide +kernel
theorem dX5_copyFrom_35 : decode cX5_copyFrom 35 = .ok (.getfield 37, 3) := by decide +kernel
theorem dX5_copyFrom_38 : decode cX5_copyFrom 38 = .ok (.putfield 37, 3) := by decide +kernel
theorem dX5_copyFrom_41 : decode cX5_copyFrom 41 = .ok (.aload_n 0, 1) := by decide +kernel
theorem dX5_copyFrom_42 : decode cX5_copyFrom 42 = .ok (.aload_n 1, 1) := by decide +kernel
theorem dX5_copyFrom_43 : decode cX5_copyFrom 43 = .ok (.getfield 41, 3) := by decide +kernel
theorem dX5_copyFrom_46 : decode cX5_copyFrom 46 = .ok (.putfield 41, 3) := by decide +kernel
theorem dX5_copyFrom_49 : decode cX5_copyFrom 49 = .ok (.return_, 1) := by decide +kernel
theorem dX5_hasBoth_0 : decode cX5_hasBoth 0 = .ok (.aload_n 0, 1) := by decide +kernel
theorem dX5_hasBoth_1 : decode cX5_hasBoth 1 = .ok (.getfield 21, 3) := by decide +kernel
theorem dX5_hasBoth_4 : decode cX5_hasBoth 4 = .ok (.iload_n 1, 1) := by decide +kernel
theorem dX5_hasBoth_5 : decode cX5_hasBoth 5 = .ok (.invokevirtual 54, 3) := by decide +kernel
theorem dX5_hasBoth_8 : decode cX5_hasBoth 8 = .ok (.ifCond .eq 18, 3) := by decide +kernel
theorem dX5_hasBoth_11 : decode cX5_hasBoth 11 = .ok (.aload_n 0, 1) := by decide +kernel
theorem dX5_hasBoth_12 : decode cX5_hasBoth 12 = .ok (.getfield 12, 3) := by decide +kernel
theorem dX5_hasBoth_15 : decode cX5_hasBoth 15 = .ok (.iload_n 2, 1) := by decide +kernel
theorem dX5_hasBoth_16 : decode cX5_hasBoth 16 = .ok (.invokevirtual 58, 3) := by decide +kernel
theorem dX5_hasBoth_19 : decode cX5_hasBoth 19 = .ok (.ifCond .eq 7, 3) := by decide +kernel
theorem dX5_hasBoth_22 : decode cX5_hasBoth 22 = .ok (.iconst 1, 1) := by decide +kernel
theorem dX5_hasBoth_23 : decode cX5_hasBoth 23 = .ok (.goto 4, 3) := by decide +kernel
theorem dX5_hasBoth_26 : decode cX5_hasBoth 26 = .ok (.iconst 0, 1) := by decide +kernel
theorem dX5_hasBoth_27 : decode cX5_hasBoth 27 = .ok (.ireturn, 1) := by decide +kernel
theorem dX5_addStar_0 : decode cX5_addStar 0 = .ok (.iload_n 2, 1) := by decide +kernel
theorem dX5_addStar_1 : decode cX5_addStar 1 = .ok (.invokestatic 59, 3) := by decide +kernel
theorem dX5_addStar_4 : decode cX5_addStar 4 = .ok (.ifCond .ne 5, 3) := by decide +kernel
theorem dX5_addStar_7 : decode cX5_addStar 7 = .ok (.iconst (-1), 1) := by decide +kernel
theorem dX5_addStar_8 : decode cX5_addStar 8 = .ok (.ireturn, 1) := by decide +kernel
theorem dX5_addStar_9 : decode cX5_addStar 9 = .ok (.iload_n 1, 1) := by decide +kernel
theorem dX5_addStar_10 : decode cX5_addStar 10 = .ok (.iconst 1, 1) := by decide +kernel
theorem dX5_addStar_11 : decode cX5_addStar 11 = .ok (.bipush 9, 2) := by decide +kernel
theorem dX5_addStar_13 : decode cX5_addStar 13 = .ok (.invokestatic 62, 3) := by decide +kernel
theorem dX5_addStar_16 : decode cX5_addStar 16 = .ok (.ifCond .ne 6, 3) := by decide +kernel
theorem dX5_addStar_19 : decode cX5_addStar 19 = .ok (.bipush (-2), 2) := by decide +kernel
theorem dX5_addStar_21 : decode cX5_addStar 21 = .ok (.ireturn, 1) := by decide +kernel
theorem dX5_addStar_22 : decode cX5_addStar 22 = .ok (.aload_n 0, 1) := by decide +kernel
theorem dX5_addStar_23 : decode cX5_addStar 23 = .ok (.getfield 12, 3) := by decide +kernel
theorem dX5_addStar_26 : decode cX5_addStar 26 = .ok (.getfield 66, 3) := by decide +kernel
theorem dX5_addStar_29 : decode cX5_addStar 29 = .ok (.bipush 8, 2) := by decide +kernel
theorem dX5_addStar_31 : decode cX5_addStar 31 = .ok (.if_icmp .lt 11, 3) := by decide +kernel
theorem dX5_addStar_34 : decode cX5_addStar 34 = .ok (.aload_n 3, 1) := by decide +kernel
theorem dX5_addStar_35 : decode cX5_addStar 35 = .ok (.iconst 1, 1) := by decide +kernel
theorem dX5_addStar_36 : decode cX5_addStar 36 = .ok (.bipush 8, 2) := by decide +kernel
theorem dX5_addStar_38 : decode cX5_addStar 38 = .ok (.invokevirtual 69, 3) := by decide +kernel
theorem dX5_addStar_41 : decode cX5_addStar 41 = .ok (.ireturn, 1) := by decide +kernel
theorem dX5_addStar_42 : decode cX5_addStar 42 = .ok (.aload_n 0, 1) := by decide +kernel
theorem dX5_addStar_43 : decode cX5_addStar 43 = .ok (.getfield 12, 3) := by decide +kernel
theorem dX5_addStar_46 : decode cX5_addStar 46 = .ok (.iload_n 1, 1) := by decide +kernel
theorem dX5_addStar_47 : decode cX5_addStar 47 = .ok (.iload_n 2, 1) := by decide +kernel
theorem dX5_addStar_48 : decode cX5_addStar 48 = .ok (.invokevirtual 75, 3) := by decide +kernel
theorem dX5_addStar_51 : decode cX5_addStar 51 = .ok (.ireturn, 1) := by decide +kernel
theorem dX5_addRoof_0 : decode cX5_addRoof 0 = .ok (.iload_n 1, 1) := by decide +kernel
theorem dX5_addRoof_1 : decode cX5_addRoof 1 = .ok (.iconst 0, 1) := by decide +kernel
theorem dX5_addRoof_2 : decode cX5_addRoof 2 = .ok (.bipush 99, 2) := by decide +kernel
theorem dX5_addRoof_4 : decode cX5_addRoof 4 = .ok (.invokestatic 62, 3) := by decide +kernel
theorem dX5_addRoof_7 : decode cX5_addRoof 7 = .ok (.ifCond .ne 6, 3) := by decide +kernel
theorem dX5_addRoof_10 : decode cX5_addRoof 10 = .ok (.bipush (-2), 2) := by decide +kernel
theorem dX5_addRoof_12 : decode cX5_addRoof 12 = .ok (.ireturn, 1) := by decide +kernel
theorem dX5_addRoof_13 : decode cX5_addRoof 13 = .ok (.aload_n 0, 1) := by decide +kernel
theorem dX5_addRoof_14 : decode cX5_addRoof 14 = .ok (.getfield 21, 3) := by decide +kernel
theorem dX5_addRoof_17 : decode cX5_addRoof 17 = .ok (.getfield 78, 3) := by decide +kernel
theorem dX5_addRoof_20 : decode cX5_addRoof 20 = .ok (.iconst 5, 1) := by decide +kernel
theorem dX5_addRoof_21 : decode cX5_addRoof 21 = .ok (.if_icmp .lt 10, 3) := by decide +kernel
theorem dX5_addRoof_24 : decode cX5_addRoof 24 = .ok (.aload_n 2, 1) := by decide +kernel
theorem dX5_addRoof_25 : decode cX5_addRoof 25 = .ok (.iconst 1, 1) := by decide +kernel
theorem dX5_addRoof_26 : decode cX5_addRoof 26 = .ok (.iconst 5, 1) := by decide +kernel
theorem dX5_addRoof_27 : decode cX5_addRoof 27 = .ok (.invokevirtual 69, 3) := by decide +kernel
theorem dX5_addRoof_30 : decode cX5_addRoof 30 = .ok (.ireturn, 1) := by decide +kernel
theorem dX5_addRoof_31 : decode cX5_addRoof 31 = .ok (.aload_n 0, 1) := by decide +kernel
theorem dX5_addRoof_32 : decode cX5_addRoof 32 = .ok (.getfield 21, 3) := by decide +kernel
theorem dX5_addRoof_35 : decode cX5_addRoof 35 = .ok (.iload_n 1, 1) := by decide +kernel
theorem dX5_addRoof_36 : decode cX5_addRoof 36 = .ok (.invokevirtual 79, 3) := by decide +kernel
theorem dX5_addRoof_39 : decode cX5_addRoof 39 = .ok (.ireturn, 1) := by decide +kernel
theorem dX5_tellCloud_0 : decode cX5_tellCloud 0 = .ok (.iload_n 1, 1) := by decide +kernel
theorem dX5_tellCloud_1 : decode cX5_tellCloud 1 = .ok (.invokestatic 59, 3) := by decide +kernel
theorem dX5_tellCloud_4 : decode cX5_tellCloud 4 = .ok (.ifCond .ne 5, 3) := by decide +kernel
theorem dX5_tellCloud_7 : decode cX5_tellCloud 7 = .ok (.iconst (-1), 1) := by decide +kernel
theorem dX5_tellCloud_8 : decode cX5_tellCloud 8 = .ok (.ireturn, 1) := by decide +kernel
theorem dX5_tellCloud_9 : decode cX5_tellCloud 9 = .ok (.iload_n 2, 1) := by decide +kernel
theorem dX5_tellCloud_10 : decode cX5_tellCloud 10 = .ok (.iconst 0, 1) := by decide +kernel
theorem dX5_tellCloud_11 : decode cX5_tellCloud 11 = .ok (.bipush 9, 2) := by decide +kernel
theorem dX5_tellCloud_13 : decode cX5_tellCloud 13 = .ok (.invokestatic 62, 3) := by decide +kernel
theorem dX5_tellCloud_16 : decode cX5_tellCloud 16 = .ok (.ifCond .ne 6, 3) := by decide +kernel
theorem dX5_tellCloud_19 : decode cX5_tellCloud 19 = .ok (.bipush (-2), 2) := by decide +kernel
theorem dX5_tellCloud_21 : decode cX5_tellCloud 21 = .ok (.ireturn, 1) := by decide +kernel
theorem dX5_tellCloud_22 : decode cX5_tellCloud 22 = .ok (.aload_n 0, 1) := by decide +kernel
theorem dX5_tellCloud_23 : decode cX5_tellCloud 23 = .ok (.getfield 12, 3) := by decide +kernel
theorem dX5_tellCloud_26 : decode cX5_tellCloud 26 = .ok (.getfield 82, 3) := by decide +kernel
theorem dX5_tellCloud_29 : decode cX5_tellCloud 29 = .ok (.iload_n 1, 1) := by decide +kernel
theorem dX5_tellCloud_30 : decode cX5_tellCloud 30 = .ok (.iaload, 1) := by decide +kernel
theorem dX5_tellCloud_31 : decode cX5_tellCloud 31 = .ok (.istore 4, 2) := by decide +kernel
theorem dX5_tellCloud_33 : decode cX5_tellCloud 33 = .ok (.iload 4, 2) := by decide +kernel
theorem dX5_tellCloud_35 : decode cX5_tellCloud 35 = .ok (.iload_n 2, 1) := by decide +kernel
theorem dX5_tellCloud_36 : decode cX5_tellCloud 36 = .ok (.if_icmp .ne 10, 3) := by decide +kernel
theorem dX5_tellCloud_39 : decode cX5_tellCloud 39 = .ok (.aload_n 3, 1) := by decide +kernel
theorem dX5_tellCloud_40 : decode cX5_tellCloud 40 = .ok (.iconst 2, 1) := by decide +kernel
theorem dX5_tellCloud_41 : decode cX5_tellCloud 41 = .ok (.iload_n 2, 1) := by decide +kernel
theorem dX5_tellCloud_42 : decode cX5_tellCloud 42 = .ok (.invokevirtual 69, 3) := by decide +kernel
theorem dX5_tellCloud_45 : decode cX5_tellCloud 45 = .ok (.ireturn, 1) := by decide +kernel
theorem dX5_tellCloud_46 : decode cX5_tellCloud 46 = .ok (.aload_n 0, 1) := by decide +kernel
theorem dX5_tellCloud_47 : decode cX5_tellCloud 47 = .ok (.getfield 12, 3) := by decide +kernel
theorem dX5_tellCloud_50 : decode cX5_tellCloud 50 = .ok (.getfield 82, 3) := by decide +kernel
theorem dX5_tellCloud_53 : decode cX5_tellCloud 53 = .ok (.iload_n 1, 1) := by decide +kernel
theorem dX5_tellCloud_54 : decode cX5_tellCloud 54 = .ok (.iload_n 2, 1) := by decide +kernel
theorem dX5_tellCloud_55 : decode cX5_tellCloud 55 = .ok (.iastore, 1) := by decide +kernel
theorem dX5_tellCloud_56 : decode cX5_tellCloud 56 = .ok (.iload 4, 2) := by decide +kernel
theorem dX5_tellCloud_58 : decode cX5_tellCloud 58 = .ok (.ireturn, 1) := by decide +kernel
theorem dX5_sightStar_0 : decode cX5_sightStar 0 = .ok (.aload_n 0, 1) := by decide +kernel
theorem dX5_sightStar_1 : decode cX5_sightStar 1 = .ok (.iload_n 1, 1) := by decide +kernel
theorem dX5_sightStar_2 : decode cX5_sightStar 2 = .ok (.iload_n 2, 1) := by decide +kernel
theorem dX5_sightStar_3 : decode cX5_sightStar 3 = .ok (.invokevirtual 86, 3) := by decide +kernel
theorem dX5_sightStar_6 : decode cX5_sightStar 6 = .ok (.ifCond .ne 5, 3) := by decide +kernel
theorem dX5_sightStar_9 : decode cX5_sightStar 9 = .ok (.iconst (-1), 1) := by decide +kernel
theorem dX5_sightStar_10 : decode cX5_sightStar 10 = .ok (.ireturn, 1) := by decide +kernel
theorem dX5_sightStar_11 : decode cX5_sightStar 11 = .ok (.iconst 1, 1) := by decide +kernel
theorem dX5_sightStar_12 : decode cX5_sightStar 12 = .ok (.iload_n 2, 1) := by decide +kernel
theorem dX5_sightStar_13 : decode cX5_sightStar 13 = .ok (.ishl, 1) := by decide +kernel
theorem dX5_sightStar_14 : decode cX5_sightStar 14 = .ok (.istore 4, 2) := by decide +kernel
theorem dX5_sightStar_16 : decode cX5_sightStar 16 = .ok (.aload_n 0, 1) := by decide +kernel
theorem dX5_sightStar_17 : decode cX5_sightStar 17 = .ok (.getfield 21, 3) := by decide +kernel
theorem dX5_sightStar_20 : decode cX5_sightStar 20 = .ok (.getfield 90, 3) := by decide +kernel
theorem dX5_sightStar_23 : decode cX5_sightStar 23 = .ok (.iload_n 1, 1) := by decide +kernel
theorem dX5_sightStar_24 : decode cX5_sightStar 24 = .ok (.iaload, 1) := by decide +kernel
theorem dX5_sightStar_25 : decode cX5_sightStar 25 = .ok (.iload 4, 2) := by decide +kernel
theorem dX5_sightStar_27 : decode cX5_sightStar 27 = .ok (.iand, 1) := by decide +kernel
theorem dX5_sightStar_28 : decode cX5_sightStar 28 = .ok (.ifCond .eq 21, 3) := by decide +kernel
theorem dX5_sightStar_31 : decode cX5_sightStar 31 = .ok (.aload_n 3, 1) := by decide +kernel
theorem dX5_sightStar_32 : decode cX5_sightStar 32 = .ok (.iconst 3, 1) := by decide +kernel
theorem dX5_sightStar_33 : decode cX5_sightStar 33 = .ok (.aload_n 0, 1) := by decide +kernel
theorem dX5_sightStar_34 : decode cX5_sightStar 34 = .ok (.getfield 21, 3) := by decide +kernel
theorem dX5_sightStar_37 : decode cX5_sightStar 37 = .ok (.getfield 90, 3) := by decide +kernel
theorem dX5_sightStar_40 : decode cX5_sightStar 40 = .ok (.iload_n 1, 1) := by decide +kernel
theorem dX5_sightStar_41 : decode cX5_sightStar 41 = .ok (.iaload, 1) := by decide +kernel
theorem dX5_sightStar_42 : decode cX5_sightStar 42 = .ok (.invokestatic 93, 3) := by decide +kernel
theorem dX5_sightStar_45 : decode cX5_sightStar 45 = .ok (.invokevirtual 69, 3) := by decide +kernel
theorem dX5_sightStar_48 : decode cX5_sightStar 48 = .ok (.ireturn, 1) := by decide +kernel
theorem dX5_sightStar_49 : decode cX5_sightStar 49 = .ok (.aload_n 0, 1) := by decide +kernel
theorem dX5_sightStar_50 : decode cX5_sightStar 50 = .ok (.getfield 21, 3) := by decide +kernel
theorem dX5_sightStar_53 : decode cX5_sightStar 53 = .ok (.getfield 90, 3) := by decide +kernel
theorem dX5_sightStar_56 : decode cX5_sightStar 56 = .ok (.iload_n 1, 1) := by decide +kernel
theorem dX5_sightStar_57 : decode cX5_sightStar 57 = .ok (.dup2, 1) := by decide +kernel
theorem dX5_sightStar_58 : decode cX5_sightStar 58 = .ok (.iaload, 1) := by decide +kernel
theorem dX5_sightStar_59 : decode cX5_sightStar 59 = .ok (.iload 4, 2) := by decide +kernel
theorem dX5_sightStar_61 : decode cX5_sightStar 61 = .ok (.ior, 1) := by decide +kernel
theorem dX5_sightStar_62 : decode cX5_sightStar 62 = .ok (.iastore, 1) := by decide +kernel
theorem dX5_sightStar_63 : decode cX5_sightStar 63 = .ok (.aload_n 0, 1) := by decide +kernel
theorem dX5_sightStar_64 : decode cX5_sightStar 64 = .ok (.getfield 12, 3) := by decide +kernel
theorem dX5_sightStar_67 : decode cX5_sightStar 67 = .ok (.getfield 98, 3) := by decide +kernel
theorem dX5_sightStar_70 : decode cX5_sightStar 70 = .ok (.iload_n 2, 1) := by decide +kernel
theorem dX5_sightStar_71 : decode cX5_sightStar 71 = .ok (.dup2, 1) := by decide +kernel
theorem dX5_sightStar_72 : decode cX5_sightStar 72 = .ok (.iaload, 1) := by decide +kernel
theorem dX5_sightStar_73 : decode cX5_sightStar 73 = .ok (.iconst 1, 1) := by decide +kernel
theorem dX5_sightStar_74 : decode cX5_sightStar 74 = .ok (.iadd, 1) := by decide +kernel
theorem dX5_sightStar_75 : decode cX5_sightStar 75 = .ok (.iastore, 1) := by decide +kernel
theorem dX5_sightStar_76 : decode cX5_sightStar 76 = .ok (.aload_n 0, 1) := by decide +kernel
theorem dX5_sightStar_77 : decode cX5_sightStar 77 = .ok (.getfield 12, 3) := by decide +kernel
theorem dX5_sightStar_80 : decode cX5_sightStar 80 = .ok (.iload_n 2, 1) := by decide +kernel
theorem dX5_sightStar_81 : decode cX5_sightStar 81 = .ok (.invokevirtual 101, 3) := by decide +kernel
theorem dX5_sightStar_84 : decode cX5_sightStar 84 = .ok (.ifCond .ne 15, 3) := by decide +kernel
theorem dX5_sightStar_87 : decode cX5_sightStar 87 = .ok (.aload_n 0, 1) := by decide +kernel
theorem dX5_sightStar_88 : decode cX5_sightStar 88 = .ok (.dup, 1) := by decide +kernel
theorem dX5_sightStar_89 : decode cX5_sightStar 89 = .ok (.getfield 41, 3) := by decide +kernel
theorem dX5_sightStar_92 : decode cX5_sightStar 92 = .ok (.iconst 1, 1) := by decide +kernel
theorem dX5_sightStar_93 : decode cX5_sightStar 93 = .ok (.iadd, 1) := by decide +kernel
theorem dX5_sightStar_94 : decode cX5_sightStar 94 = .ok (.putfield 41, 3) := by decide +kernel
theorem dX5_sightStar_97 : decode cX5_sightStar 97 = .ok (.iconst 0, 1) := by decide +kernel
theorem dX5_sightStar_98 : decode cX5_sightStar 98 = .ok (.ireturn, 1) := by decide +kernel
theorem dX5_sightStar_99 : decode cX5_sightStar 99 = .ok (.aload_n 0, 1) := by decide +kernel
theorem dX5_sightStar_100 : decode cX5_sightStar 100 = .ok (.getfield 21, 3) := by decide +kernel
theorem dX5_sightStar_103 : decode cX5_sightStar 103 = .ok (.getfield 104, 3) := by decide +kernel
theorem dX5_sightStar_106 : decode cX5_sightStar 106 = .ok (.iload_n 1, 1) := by decide +kernel
theorem dX5_sightStar_107 : decode cX5_sightStar 107 = .ok (.dup2, 1) := by decide +kernel
theorem dX5_sightStar_108 : decode cX5_sightStar 108 = .ok (.iaload, 1) := by decide +kernel
theorem dX5_sightStar_109 : decode cX5_sightStar 109 = .ok (.iload 4, 2) := by decide +kernel
theorem dX5_sightStar_111 : decode cX5_sightStar 111 = .ok (.ior, 1) := by decide +kernel
theorem dX5_sightStar_112 : decode cX5_sightStar 112 = .ok (.iastore, 1) := by decide +kernel
theorem dX5_sightStar_113 : decode cX5_sightStar 113 = .ok (.aload_n 0, 1) := by decide +kernel
theorem dX5_sightStar_114 : decode cX5_sightStar 114 = .ok (.iload_n 1, 1) := by decide +kernel
theorem dX5_sightStar_115 : decode cX5_sightStar 115 = .ok (.iload_n 2, 1) := by decide +kernel
theorem dX5_sightStar_116 : decode cX5_sightStar 116 = .ok (.invokevirtual 107, 3) := by decide +kernel
theorem dX5_sightStar_119 : decode cX5_sightStar 119 = .ok (.istore 5, 2) := by decide +kernel
theorem dX5_sightStar_121 : decode cX5_sightStar 121 = .ok (.aload_n 0, 1) := by decide +kernel
theorem dX5_sightStar_122 : decode cX5_sightStar 122 = .ok (.getfield 21, 3) := by decide +kernel
theorem dX5_sightStar_125 : decode cX5_sightStar 125 = .ok (.iload_n 1, 1) := by decide +kernel
theorem dX5_sightStar_126 : decode cX5_sightStar 126 = .ok (.iload 5, 2) := by decide +kernel
theorem dX5_sightStar_128 : decode cX5_sightStar 128 = .ok (.aload_n 0, 1) := by decide +kernel
theorem dX5_sightStar_129 : decode cX5_sightStar 129 = .ok (.getfield 12, 3) := by decide +kernel
theorem dX5_sightStar_132 : decode cX5_sightStar 132 = .ok (.getfield 110, 3) := by decide +kernel
theorem dX5_sightStar_135 : decode cX5_sightStar 135 = .ok (.iload_n 2, 1) := by decide +kernel
theorem dX5_sightStar_136 : decode cX5_sightStar 136 = .ok (.iaload, 1) := by decide +kernel
theorem dX5_sightStar_137 : decode cX5_sightStar 137 = .ok (.invokevirtual 113, 3) := by decide +kernel
theorem dX5_sightStar_140 : decode cX5_sightStar 140 = .ok (.iload 5, 2) := by decide +kernel
theorem dX5_sightStar_142 : decode cX5_sightStar 142 = .ok (.ireturn, 1) := by decide +kernel
theorem dX5_levyOn_0 : decode cX5_levyOn 0 = .ok (.aload_n 0, 1) := by decide +kernel
theorem dX5_levyOn_1 : decode cX5_levyOn 1 = .ok (.getfield 12, 3) := by decide +kernel
theorem dX5_levyOn_4 : decode cX5_levyOn 4 = .ok (.iload_n 2, 1) := by decide +kernel
theorem dX5_levyOn_5 : decode cX5_levyOn 5 = .ok (.invokevirtual 101, 3) := by decide +kernel
theorem dX5_levyOn_8 : decode cX5_levyOn 8 = .ok (.ifCond .eq 16, 3) := by decide +kernel
theorem dX5_levyOn_11 : decode cX5_levyOn 11 = .ok (.aload_n 0, 1) := by decide +kernel
theorem dX5_levyOn_12 : decode cX5_levyOn 12 = .ok (.getfield 12, 3) := by decide +kernel
theorem dX5_levyOn_15 : decode cX5_levyOn 15 = .ok (.getfield 110, 3) := by decide +kernel
theorem dX5_levyOn_18 : decode cX5_levyOn 18 = .ok (.iload_n 2, 1) := by decide +kernel
theorem dX5_levyOn_19 : decode cX5_levyOn 19 = .ok (.iaload, 1) := by decide +kernel
theorem dX5_levyOn_20 : decode cX5_levyOn 20 = .ok (.iload_n 1, 1) := by decide +kernel
theorem dX5_levyOn_21 : decode cX5_levyOn 21 = .ok (.if_icmp .ne 7, 3) := by decide +kernel
theorem dX5_levyOn_24 : decode cX5_levyOn 24 = .ok (.iconst 1, 1) := by decide +kernel
theorem dX5_levyOn_25 : decode cX5_levyOn 25 = .ok (.goto 4, 3) := by decide +kernel
theorem dX5_levyOn_28 : decode cX5_levyOn 28 = .ok (.iconst 0, 1) := by decide +kernel
theorem dX5_levyOn_29 : decode cX5_levyOn 29 = .ok (.istore_n 3, 1) := by decide +kernel
theorem dX5_levyOn_30 : decode cX5_levyOn 30 = .ok (.iload_n 3, 1) := by decide +kernel
theorem dX5_levyOn_31 : decode cX5_levyOn 31 = .ok (.ifCond .eq 7, 3) := by decide +kernel
theorem dX5_levyOn_34 : decode cX5_levyOn 34 = .ok (.iconst 0, 1) := by decide +kernel
theorem dX5_levyOn_35 : decode cX5_levyOn 35 = .ok (.goto 12, 3) := by decide +kernel
theorem dX5_levyOn_38 : decode cX5_levyOn 38 = .ok (.aload_n 0, 1) := by decide +kernel
theorem dX5_levyOn_39 : decode cX5_levyOn 39 = .ok (.getfield 12, 3) := by decide +kernel
theorem dX5_levyOn_42 : decode cX5_levyOn 42 = .ok (.getfield 117, 3) := by decide +kernel
theorem dX5_levyOn_45 : decode cX5_levyOn 45 = .ok (.iload_n 2, 1) := by decide +kernel
theorem dX5_levyOn_46 : decode cX5_levyOn 46 = .ok (.iaload, 1) := by decide +kernel
theorem dX5_levyOn_47 : decode cX5_levyOn 47 = .ok (.ireturn, 1) := by decide +kernel
theorem dX5_claimStar_0 : decode cX5_claimStar 0 = .ok (.aload_n 0, 1) := by decide +kernel
theorem dX5_claimStar_1 : decode cX5_claimStar 1 = .ok (.iload_n 1, 1) := by decide +kernel
theorem dX5_claimStar_2 : decode cX5_claimStar 2 = .ok (.iload_n 2, 1) := by decide +kernel
theorem dX5_claimStar_3 : decode cX5_claimStar 3 = .ok (.invokevirtual 86, 3) := by decide +kernel
theorem dX5_claimStar_6 : decode cX5_claimStar 6 = .ok (.ifCond .ne 5, 3) := by decide +kernel
theorem dX5_claimStar_9 : decode cX5_claimStar 9 = .ok (.iconst (-1), 1) := by decide +kernel
theorem dX5_claimStar_10 : decode cX5_claimStar 10 = .ok (.ireturn, 1) := by decide +kernel
theorem dX5_claimStar_11 : decode cX5_claimStar 11 = .ok (.aload_n 0, 1) := by decide +kernel
theorem dX5_claimStar_12 : decode cX5_claimStar 12 = .ok (.getfield 12, 3) := by decide +kernel
theorem dX5_claimStar_15 : decode cX5_claimStar 15 = .ok (.getfield 110, 3) := by decide +kernel
theorem dX5_claimStar_18 : decode cX5_claimStar 18 = .ok (.iload_n 2, 1) := by decide +kernel
theorem dX5_claimStar_19 : decode cX5_claimStar 19 = .ok (.iaload, 1) := by decide +kernel
theorem dX5_claimStar_20 : decode cX5_claimStar 20 = .ok (.bipush (-4), 2) := by decide +kernel
theorem dX5_claimStar_22 : decode cX5_claimStar 22 = .ok (.if_icmp .eq 18, 3) := by decide +kernel
theorem dX5_claimStar_25 : decode cX5_claimStar 25 = .ok (.aload_n 3, 1) := by decide +kernel
theorem dX5_claimStar_26 : decode cX5_claimStar 26 = .ok (.iconst 5, 1) := by decide +kernel
theorem dX5_claimStar_27 : decode cX5_claimStar 27 = .ok (.aload_n 0, 1) := by decide +kernel
theorem dX5_claimStar_28 : decode cX5_claimStar 28 = .ok (.getfield 12, 3) := by decide +kernel
theorem dX5_claimStar_31 : decode cX5_claimStar 31 = .ok (.getfield 110, 3) := by decide +kernel
theorem dX5_claimStar_34 : decode cX5_claimStar 34 = .ok (.iload_n 2, 1) := by decide +kernel
theorem dX5_claimStar_35 : decode cX5_claimStar 35 = .ok (.iaload, 1) := by decide +kernel
theorem dX5_claimStar_36 : decode cX5_claimStar 36 = .ok (.invokevirtual 69, 3) := by decide +kernel
theorem dX5_claimStar_39 : decode cX5_claimStar 39 = .ok (.ireturn, 1) := by decide +kernel
theorem dX5_claimStar_40 : decode cX5_claimStar 40 = .ok (.iconst 2, 1) := by decide +kernel
theorem dX5_claimStar_41 : decode cX5_claimStar 41 = .ok (.aload_n 0, 1) := by decide +kernel
theorem dX5_claimStar_42 : decode cX5_claimStar 42 = .ok (.getfield 12, 3) := by decide +kernel
theorem dX5_claimStar_45 : decode cX5_claimStar 45 = .ok (.getfield 117, 3) := by decide +kernel
theorem dX5_claimStar_48 : decode cX5_claimStar 48 = .ok (.iload_n 2, 1) := by decide +kernel
theorem dX5_claimStar_49 : decode cX5_claimStar 49 = .ok (.iaload, 1) := by decide +kernel
theorem dX5_claimStar_50 : decode cX5_claimStar 50 = .ok (.imul, 1) := by decide +kernel
theorem dX5_claimStar_51 : decode cX5_claimStar 51 = .ok (.istore 4, 2) := by decide +kernel
theorem dX5_claimStar_53 : decode cX5_claimStar 53 = .ok (.aload_n 0, 1) := by decide +kernel
theorem dX5_claimStar_54 : decode cX5_claimStar 54 = .ok (.getfield 21, 3) := by decide +kernel
theorem dX5_claimStar_57 : decode cX5_claimStar 57 = .ok (.getfield 120, 3) := by decide +kernel
theorem dX5_claimStar_60 : decode cX5_claimStar 60 = .ok (.iload_n 1, 1) := by decide +kernel
theorem dX5_claimStar_61 : decode cX5_claimStar 61 = .ok (.iaload, 1) := by decide +kernel
theorem dX5_claimStar_62 : decode cX5_claimStar 62 = .ok (.iload 4, 2) := by decide +kernel
theorem dX5_claimStar_64 : decode cX5_claimStar 64 = .ok (.if_icmp .ge 22, 3) := by decide +kernel
theorem dX5_claimStar_67 : decode cX5_claimStar 67 = .ok (.aload_n 3, 1) := by decide +kernel
theorem dX5_claimStar_68 : decode cX5_claimStar 68 = .ok (.bipush 6, 2) := by decide +kernel
theorem dX5_claimStar_70 : decode cX5_claimStar 70 = .ok (.iload 4, 2) := by decide +kernel
theorem dX5_claimStar_72 : decode cX5_claimStar 72 = .ok (.aload_n 0, 1) := by decide +kernel
theorem dX5_claimStar_73 : decode cX5_claimStar 73 = .ok (.getfield 21, 3) := by decide +kernel
theorem dX5_claimStar_76 : decode cX5_claimStar 76 = .ok (.getfield 120, 3) := by decide +kernel
theorem dX5_claimStar_79 : decode cX5_claimStar 79 = .ok (.iload_n 1, 1) := by decide +kernel
theorem dX5_claimStar_80 : decode cX5_claimStar 80 = .ok (.iaload, 1) := by decide +kernel
theorem dX5_claimStar_81 : decode cX5_claimStar 81 = .ok (.isub, 1) := by decide +kernel
theorem dX5_claimStar_82 : decode cX5_claimStar 82 = .ok (.invokevirtual 69, 3) := by decide +kernel
theorem dX5_claimStar_85 : decode cX5_claimStar 85 = .ok (.ireturn, 1) := by decide +kernel
theorem dX5_claimStar_86 : decode cX5_claimStar 86 = .ok (.aload_n 0, 1) := by decide +kernel
theorem dX5_claimStar_87 : decode cX5_claimStar 87 = .ok (.getfield 21, 3) := by decide +kernel
theorem dX5_claimStar_90 : decode cX5_claimStar 90 = .ok (.getfield 120, 3) := by decide +kernel
theorem dX5_claimStar_93 : decode cX5_claimStar 93 = .ok (.iload_n 1, 1) := by decide +kernel
theorem dX5_claimStar_94 : decode cX5_claimStar 94 = .ok (.dup2, 1) := by decide +kernel
theorem dX5_claimStar_95 : decode cX5_claimStar 95 = .ok (.iaload, 1) := by decide +kernel
theorem dX5_claimStar_96 : decode cX5_claimStar 96 = .ok (.iload 4, 2) := by decide +kernel
theorem dX5_claimStar_98 : decode cX5_claimStar 98 = .ok (.isub, 1) := by decide +kernel
theorem dX5_claimStar_99 : decode cX5_claimStar 99 = .ok (.iastore, 1) := by decide +kernel
theorem dX5_claimStar_100 : decode cX5_claimStar 100 = .ok (.aload_n 0, 1) := by decide +kernel
theorem dX5_claimStar_101 : decode cX5_claimStar 101 = .ok (.getfield 12, 3) := by decide +kernel
theorem dX5_claimStar_104 : decode cX5_claimStar 104 = .ok (.getfield 110, 3) := by decide +kernel
theorem dX5_claimStar_107 : decode cX5_claimStar 107 = .ok (.iload_n 2, 1) := by decide +kernel
theorem dX5_claimStar_108 : decode cX5_claimStar 108 = .ok (.iload_n 1, 1) := by decide +kernel
theorem dX5_claimStar_109 : decode cX5_claimStar 109 = .ok (.iastore, 1) := by decide +kernel
theorem dX5_claimStar_110 : decode cX5_claimStar 110 = .ok (.iload 4, 2) := by decide +kernel
theorem dX5_claimStar_112 : decode cX5_claimStar 112 = .ok (.ireturn, 1) := by decide +kernel
theorem dX5_dropClaim_0 : decode cX5_dropClaim 0 = .ok (.aload_n 0, 1) := by decide +kernel
theorem dX5_dropClaim_1 : decode cX5_dropClaim 1 = .ok (.getfield 12, 3) := by decide +kernel
theorem dX5_dropClaim_4 : decode cX5_dropClaim 4 = .ok (.iload_n 1, 1) := by decide +kernel
theorem dX5_dropClaim_5 : decode cX5_dropClaim 5 = .ok (.invokevirtual 58, 3) := by decide +kernel
theorem dX5_dropClaim_8 : decode cX5_dropClaim 8 = .ok (.ifCond .ne 5, 3) := by decide +kernel
theorem dX5_dropClaim_11 : decode cX5_dropClaim 11 = .ok (.iconst (-1), 1) := by decide +kernel
theorem dX5_dropClaim_12 : decode cX5_dropClaim 12 = .ok (.ireturn, 1) := by decide +kernel
theorem dX5_dropClaim_13 : decode cX5_dropClaim 13 = .ok (.aload_n 0, 1) := by decide +kernel
theorem dX5_dropClaim_14 : decode cX5_dropClaim 14 = .ok (.getfield 12, 3) := by decide +kernel
theorem dX5_dropClaim_17 : decode cX5_dropClaim 17 = .ok (.getfield 110, 3) := by decide +kernel
theorem dX5_dropClaim_20 : decode cX5_dropClaim 20 = .ok (.iload_n 1, 1) := by decide +kernel
theorem dX5_dropClaim_21 : decode cX5_dropClaim 21 = .ok (.iaload, 1) := by decide +kernel
theorem dX5_dropClaim_22 : decode cX5_dropClaim 22 = .ok (.istore_n 3, 1) := by decide +kernel
theorem dX5_dropClaim_23 : decode cX5_dropClaim 23 = .ok (.iload_n 3, 1) := by decide +kernel
theorem dX5_dropClaim_24 : decode cX5_dropClaim 24 = .ok (.bipush (-4), 2) := by decide +kernel
theorem dX5_dropClaim_26 : decode cX5_dropClaim 26 = .ok (.if_icmp .ne 11, 3) := by decide +kernel
theorem dX5_dropClaim_29 : decode cX5_dropClaim 29 = .ok (.aload_n 2, 1) := by decide +kernel
theorem dX5_dropClaim_30 : decode cX5_dropClaim 30 = .ok (.bipush 7, 2) := by decide +kernel
theorem dX5_dropClaim_32 : decode cX5_dropClaim 32 = .ok (.iload_n 1, 1) := by decide +kernel
theorem dX5_dropClaim_33 : decode cX5_dropClaim 33 = .ok (.invokevirtual 69, 3) := by decide +kernel
theorem dX5_dropClaim_36 : decode cX5_dropClaim 36 = .ok (.ireturn, 1) := by decide +kernel
theorem dX5_dropClaim_37 : decode cX5_dropClaim 37 = .ok (.aload_n 0, 1) := by decide +kernel
theorem dX5_dropClaim_38 : decode cX5_dropClaim 38 = .ok (.getfield 12, 3) := by decide +kernel
theorem dX5_dropClaim_41 : decode cX5_dropClaim 41 = .ok (.getfield 110, 3) := by decide +kernel
theorem dX5_dropClaim_44 : decode cX5_dropClaim 44 = .ok (.iload_n 1, 1) := by decide +kernel
theorem dX5_dropClaim_45 : decode cX5_dropClaim 45 = .ok (.bipush (-4), 2) := by decide +kernel
theorem dX5_dropClaim_47 : decode cX5_dropClaim 47 = .ok (.iastore, 1) := by decide +kernel
theorem dX5_dropClaim_48 : decode cX5_dropClaim 48 = .ok (.iload_n 3, 1) := by decide +kernel
theorem dX5_dropClaim_49 : decode cX5_dropClaim 49 = .ok (.ireturn, 1) := by decide +kernel
theorem dX5_addWish_0 : decode cX5_addWish 0 = .ok (.aload_n 0, 1) := by decide +kernel
theorem dX5_addWish_1 : decode cX5_addWish 1 = .ok (.iload_n 1, 1) := by decide +kernel
theorem dX5_addWish_2 : decode cX5_addWish 2 = .ok (.iload_n 2, 1) := by decide +kernel
theorem dX5_addWish_3 : decode cX5_addWish 3 = .ok (.invokevirtual 86, 3) := by decide +kernel
theorem dX5_addWish_6 : decode cX5_addWish 6 = .ok (.ifCond .ne 5, 3) := by decide +kernel
theorem dX5_addWish_9 : decode cX5_addWish 9 = .ok (.iconst (-1), 1) := by decide +kernel
theorem dX5_addWish_10 : decode cX5_addWish 10 = .ok (.ireturn, 1) := by decide +kernel
theorem dX5_addWish_11 : decode cX5_addWish 11 = .ok (.iload_n 3, 1) := by decide +kernel
theorem dX5_addWish_12 : decode cX5_addWish 12 = .ok (.iconst 0, 1) := by decide +kernel
theorem dX5_addWish_13 : decode cX5_addWish 13 = .ok (.bipush 9, 2) := by decide +kernel
theorem dX5_addWish_15 : decode cX5_addWish 15 = .ok (.invokestatic 62, 3) := by decide +kernel
theorem dX5_addWish_18 : decode cX5_addWish 18 = .ok (.ifCond .ne 6, 3) := by decide +kernel
theorem dX5_addWish_21 : decode cX5_addWish 21 = .ok (.bipush (-2), 2) := by decide +kernel
theorem dX5_addWish_23 : decode cX5_addWish 23 = .ok (.ireturn, 1) := by decide +kernel
theorem dX5_addWish_24 : decode cX5_addWish 24 = .ok (.aload_n 0, 1) := by decide +kernel
theorem dX5_addWish_25 : decode cX5_addWish 25 = .ok (.getfield 21, 3) := by decide +kernel
theorem dX5_addWish_28 : decode cX5_addWish 28 = .ok (.getfield 104, 3) := by decide +kernel
theorem dX5_addWish_31 : decode cX5_addWish 31 = .ok (.iload_n 1, 1) := by decide +kernel
theorem dX5_addWish_32 : decode cX5_addWish 32 = .ok (.iaload, 1) := by decide +kernel
theorem dX5_addWish_33 : decode cX5_addWish 33 = .ok (.iconst 1, 1) := by decide +kernel
theorem dX5_addWish_34 : decode cX5_addWish 34 = .ok (.iload_n 2, 1) := by decide +kernel
theorem dX5_addWish_35 : decode cX5_addWish 35 = .ok (.ishl, 1) := by decide +kernel
theorem dX5_addWish_36 : decode cX5_addWish 36 = .ok (.iand, 1) := by decide +kernel
theorem dX5_addWish_37 : decode cX5_addWish 37 = .ok (.ifCond .ne 22, 3) := by decide +kernel
theorem dX5_addWish_40 : decode cX5_addWish 40 = .ok (.aload 4, 2) := by decide +kernel
theorem dX5_addWish_42 : decode cX5_addWish 42 = .ok (.iconst 4, 1) := by decide +kernel
theorem dX5_addWish_43 : decode cX5_addWish 43 = .ok (.aload_n 0, 1) := by decide +kernel
theorem dX5_addWish_44 : decode cX5_addWish 44 = .ok (.getfield 21, 3) := by decide +kernel
theorem dX5_addWish_47 : decode cX5_addWish 47 = .ok (.getfield 104, 3) := by decide +kernel
theorem dX5_addWish_50 : decode cX5_addWish 50 = .ok (.iload_n 1, 1) := by decide +kernel
theorem dX5_addWish_51 : decode cX5_addWish 51 = .ok (.iaload, 1) := by decide +kernel
theorem dX5_addWish_52 : decode cX5_addWish 52 = .ok (.invokestatic 93, 3) := by decide +kernel
theorem dX5_addWish_55 : decode cX5_addWish 55 = .ok (.invokevirtual 69, 3) := by decide +kernel
theorem dX5_addWish_58 : decode cX5_addWish 58 = .ok (.ireturn, 1) := by decide +kernel
theorem dX5_addWish_59 : decode cX5_addWish 59 = .ok (.aload_n 0, 1) := by decide +kernel
theorem dX5_addWish_60 : decode cX5_addWish 60 = .ok (.getfield 28, 3) := by decide +kernel
theorem dX5_addWish_63 : decode cX5_addWish 63 = .ok (.getfield 123, 3) := by decide +kernel
theorem dX5_addWish_66 : decode cX5_addWish 66 = .ok (.bipush 8, 2) := by decide +kernel
theorem dX5_addWish_68 : decode cX5_addWish 68 = .ok (.if_icmp .lt 12, 3) := by decide +kernel
theorem dX5_addWish_71 : decode cX5_addWish 71 = .ok (.aload 4, 2) := by decide +kernel
theorem dX5_addWish_73 : decode cX5_addWish 73 = .ok (.iconst 1, 1) := by decide +kernel
theorem dX5_addWish_74 : decode cX5_addWish 74 = .ok (.bipush 8, 2) := by decide +kernel
theorem dX5_addWish_76 : decode cX5_addWish 76 = .ok (.invokevirtual 69, 3) := by decide +kernel
theorem dX5_addWish_79 : decode cX5_addWish 79 = .ok (.ireturn, 1) := by decide +kernel
theorem dX5_addWish_80 : decode cX5_addWish 80 = .ok (.aload_n 0, 1) := by decide +kernel
theorem dX5_addWish_81 : decode cX5_addWish 81 = .ok (.getfield 28, 3) := by decide +kernel
theorem dX5_addWish_84 : decode cX5_addWish 84 = .ok (.iload_n 1, 1) := by decide +kernel
theorem dX5_addWish_85 : decode cX5_addWish 85 = .ok (.iload_n 2, 1) := by decide +kernel
theorem dX5_addWish_86 : decode cX5_addWish 86 = .ok (.iload_n 3, 1) := by decide +kernel
theorem dX5_addWish_87 : decode cX5_addWish 87 = .ok (.invokevirtual 124, 3) := by decide +kernel
theorem dX5_addWish_90 : decode cX5_addWish 90 = .ok (.ireturn, 1) := by decide +kernel
theorem dX5_payDebt_0 : decode cX5_payDebt 0 = .ok (.aload_n 0, 1) := by decide +kernel
theorem dX5_payDebt_1 : decode cX5_payDebt 1 = .ok (.getfield 21, 3) := by decide +kernel
theorem dX5_payDebt_4 : decode cX5_payDebt 4 = .ok (.iload_n 1, 1) := by decide +kernel
theorem dX5_payDebt_5 : decode cX5_payDebt 5 = .ok (.invokevirtual 54, 3) := by decide +kernel
theorem dX5_payDebt_8 : decode cX5_payDebt 8 = .ok (.ifCond .ne 5, 3) := by decide +kernel
theorem dX5_payDebt_11 : decode cX5_payDebt 11 = .ok (.iconst (-1), 1) := by decide +kernel
theorem dX5_payDebt_12 : decode cX5_payDebt 12 = .ok (.ireturn, 1) := by decide +kernel
theorem dX5_payDebt_13 : decode cX5_payDebt 13 = .ok (.iload_n 2, 1) := by decide +kernel
theorem dX5_payDebt_14 : decode cX5_payDebt 14 = .ok (.iconst 1, 1) := by decide +kernel
theorem dX5_payDebt_15 : decode cX5_payDebt 15 = .ok (.bipush 99, 2) := by decide +kernel
theorem dX5_payDebt_17 : decode cX5_payDebt 17 = .ok (.invokestatic 62, 3) := by decide +kernel
theorem dX5_payDebt_20 : decode cX5_payDebt 20 = .ok (.ifCond .ne 6, 3) := by decide +kernel
theorem dX5_payDebt_23 : decode cX5_payDebt 23 = .ok (.bipush (-2), 2) := by decide +kernel
theorem dX5_payDebt_25 : decode cX5_payDebt 25 = .ok (.ireturn, 1) := by decide +kernel
theorem dX5_payDebt_26 : decode cX5_payDebt 26 = .ok (.aload_n 0, 1) := by decide +kernel
theorem dX5_payDebt_27 : decode cX5_payDebt 27 = .ok (.getfield 21, 3) := by decide +kernel
theorem dX5_payDebt_30 : decode cX5_payDebt 30 = .ok (.getfield 120, 3) := by decide +kernel
theorem dX5_payDebt_33 : decode cX5_payDebt 33 = .ok (.iload_n 1, 1) := by decide +kernel
theorem dX5_payDebt_34 : decode cX5_payDebt 34 = .ok (.iaload, 1) := by decide +kernel
theorem dX5_payDebt_35 : decode cX5_payDebt 35 = .ok (.iload_n 2, 1) := by decide +kernel
theorem dX5_payDebt_36 : decode cX5_payDebt 36 = .ok (.if_icmp .ge 21, 3) := by decide +kernel
theorem dX5_payDebt_39 : decode cX5_payDebt 39 = .ok (.aload_n 3, 1) := by decide +kernel
theorem dX5_payDebt_40 : decode cX5_payDebt 40 = .ok (.bipush 6, 2) := by decide +kernel
theorem dX5_payDebt_42 : decode cX5_payDebt 42 = .ok (.iload_n 2, 1) := by decide +kernel
theorem dX5_payDebt_43 : decode cX5_payDebt 43 = .ok (.aload_n 0, 1) := by decide +kernel
theorem dX5_payDebt_44 : decode cX5_payDebt 44 = .ok (.getfield 21, 3) := by decide +kernel
theorem dX5_payDebt_47 : decode cX5_payDebt 47 = .ok (.getfield 120, 3) := by decide +kernel
theorem dX5_payDebt_50 : decode cX5_payDebt 50 = .ok (.iload_n 1, 1) := by decide +kernel
theorem dX5_payDebt_51 : decode cX5_payDebt 51 = .ok (.iaload, 1) := by decide +kernel
theorem dX5_payDebt_52 : decode cX5_payDebt 52 = .ok (.isub, 1) := by decide +kernel
theorem dX5_payDebt_53 : decode cX5_payDebt 53 = .ok (.invokevirtual 69, 3) := by decide +kernel
theorem dX5_payDebt_56 : decode cX5_payDebt 56 = .ok (.ireturn, 1) := by decide +kernel
theorem dX5_payDebt_57 : decode cX5_payDebt 57 = .ok (.aload_n 0, 1) := by decide +kernel
theorem dX5_payDebt_58 : decode cX5_payDebt 58 = .ok (.getfield 21, 3) := by decide +kernel
theorem dX5_payDebt_61 : decode cX5_payDebt 61 = .ok (.getfield 127, 3) := by decide +kernel
theorem dX5_payDebt_64 : decode cX5_payDebt 64 = .ok (.iload_n 1, 1) := by decide +kernel
theorem dX5_payDebt_65 : decode cX5_payDebt 65 = .ok (.iaload, 1) := by decide +kernel
theorem dX5_payDebt_66 : decode cX5_payDebt 66 = .ok (.iload_n 2, 1) := by decide +kernel
theorem dX5_payDebt_67 : decode cX5_payDebt 67 = .ok (.if_icmp .ge 19, 3) := by decide +kernel
theorem dX5_payDebt_70 : decode cX5_payDebt 70 = .ok (.aload_n 3, 1) := by decide +kernel
theorem dX5_payDebt_71 : decode cX5_payDebt 71 = .ok (.bipush 8, 2) := by decide +kernel
theorem dX5_payDebt_73 : decode cX5_payDebt 73 = .ok (.aload_n 0, 1) := by decide +kernel
theorem dX5_payDebt_74 : decode cX5_payDebt 74 = .ok (.getfield 21, 3) := by decide +kernel
theorem dX5_payDebt_77 : decode cX5_payDebt 77 = .ok (.getfield 127, 3) := by decide +kernel
theorem dX5_payDebt_80 : decode cX5_payDebt 80 = .ok (.iload_n 1, 1) := by decide +kernel
theorem dX5_payDebt_81 : decode cX5_payDebt 81 = .ok (.iaload, 1) := by decide +kernel
theorem dX5_payDebt_82 : decode cX5_payDebt 82 = .ok (.invokevirtual 69, 3) := by decide +kernel
theorem dX5_payDebt_85 : decode cX5_payDebt 85 = .ok (.ireturn, 1) := by decide +kernel
theorem dX5_payDebt_86 : decode cX5_payDebt 86 = .ok (.aload_n 0, 1) := by decide +kernel
theorem dX5_payDebt_87 : decode cX5_payDebt 87 = .ok (.getfield 21, 3) := by decide +kernel
theorem dX5_payDebt_90 : decode cX5_payDebt 90 = .ok (.getfield 120, 3) := by decide +kernel
theorem dX5_payDebt_93 : decode cX5_payDebt 93 = .ok (.iload_n 1, 1) := by decide +kernel
theorem dX5_payDebt_94 : decode cX5_payDebt 94 = .ok (.dup2, 1) := by decide +kernel
theorem dX5_payDebt_95 : decode cX5_payDebt 95 = .ok (.iaload, 1) := by decide +kernel
theorem dX5_payDebt_96 : decode cX5_payDebt 96 = .ok (.iload_n 2, 1) := by decide +kernel
theorem dX5_payDebt_97 : decode cX5_payDebt 97 = .ok (.isub, 1) := by decide +kernel
theorem dX5_payDebt_98 : decode cX5_payDebt 98 = .ok (.iastore, 1) := by decide +kernel
theorem dX5_payDebt_99 : decode cX5_payDebt 99 = .ok (.aload_n 0, 1) := by decide +kernel
theorem dX5_payDebt_100 : decode cX5_payDebt 100 = .ok (.getfield 21, 3) := by decide +kernel
theorem dX5_payDebt_103 : decode cX5_payDebt 103 = .ok (.getfield 130, 3) := by decide +kernel
theorem dX5_payDebt_106 : decode cX5_payDebt 106 = .ok (.iload_n 1, 1) := by decide +kernel
theorem dX5_payDebt_107 : decode cX5_payDebt 107 = .ok (.dup2, 1) := by decide +kernel
theorem dX5_payDebt_108 : decode cX5_payDebt 108 = .ok (.iaload, 1) := by decide +kernel
theorem dX5_payDebt_109 : decode cX5_payDebt 109 = .ok (.iload_n 2, 1) := by decide +kernel
theorem dX5_payDebt_110 : decode cX5_payDebt 110 = .ok (.iadd, 1) := by decide +kernel
theorem dX5_payDebt_111 : decode cX5_payDebt 111 = .ok (.iastore, 1) := by decide +kernel
theorem dX5_payDebt_112 : decode cX5_payDebt 112 = .ok (.aload_n 0, 1) := by decide +kernel
theorem dX5_payDebt_113 : decode cX5_payDebt 113 = .ok (.getfield 21, 3) := by decide +kernel
theorem dX5_payDebt_116 : decode cX5_payDebt 116 = .ok (.getfield 127, 3) := by decide +kernel
theorem dX5_payDebt_119 : decode cX5_payDebt 119 = .ok (.iload_n 1, 1) := by decide +kernel
theorem dX5_payDebt_120 : decode cX5_payDebt 120 = .ok (.dup2, 1) := by decide +kernel
theorem dX5_payDebt_121 : decode cX5_payDebt 121 = .ok (.iaload, 1) := by decide +kernel
theorem dX5_payDebt_122 : decode cX5_payDebt 122 = .ok (.iload_n 2, 1) := by decide +kernel
theorem dX5_payDebt_123 : decode cX5_payDebt 123 = .ok (.isub, 1) := by decide +kernel
theorem dX5_payDebt_124 : decode cX5_payDebt 124 = .ok (.iastore, 1) := by decide +kernel
theorem dX5_payDebt_125 : decode cX5_payDebt 125 = .ok (.aload_n 0, 1) := by decide +kernel
theorem dX5_payDebt_126 : decode cX5_payDebt 126 = .ok (.getfield 21, 3) := by decide +kernel
theorem dX5_payDebt_129 : decode cX5_payDebt 129 = .ok (.getfield 127, 3) := by decide +kernel
theorem dX5_payDebt_132 : decode cX5_payDebt 132 = .ok (.iload_n 1, 1) := by decide +kernel
theorem dX5_payDebt_133 : decode cX5_payDebt 133 = .ok (.iaload, 1) := by decide +kernel
theorem dX5_payDebt_134 : decode cX5_payDebt 134 = .ok (.ireturn, 1) := by decide +kernel
theorem dX5_poundWishes_0 : decode cX5_poundWishes 0 = .ok (.aload_n 0, 1) := by decide +kernel
theorem dX5_poundWishes_1 : decode cX5_poundWishes 1 = .ok (.getfield 21, 3) := by decide +kernel
theorem dX5_poundWishes_4 : decode cX5_poundWishes 4 = .ok (.iload_n 1, 1) := by decide +kernel
theorem dX5_poundWishes_5 : decode cX5_poundWishes 5 = .ok (.invokevirtual 54, 3) := by decide +kernel
theorem dX5_poundWishes_8 : decode cX5_poundWishes 8 = .ok (.ifCond .ne 5, 3) := by decide +kernel
theorem dX5_poundWishes_11 : decode cX5_poundWishes 11 = .ok (.iconst (-1), 1) := by decide +kernel
theorem dX5_poundWishes_12 : decode cX5_poundWishes 12 = .ok (.ireturn, 1) := by decide +kernel
theorem dX5_poundWishes_13 : decode cX5_poundWishes 13 = .ok (.aload_n 0, 1) := by decide +kernel
theorem dX5_poundWishes_14 : decode cX5_poundWishes 14 = .ok (.getfield 21, 3) := by decide +kernel
theorem dX5_poundWishes_17 : decode cX5_poundWishes 17 = .ok (.getfield 133, 3) := by decide +kernel
theorem dX5_poundWishes_20 : decode cX5_poundWishes 20 = .ok (.iload_n 1, 1) := by decide +kernel
theorem dX5_poundWishes_21 : decode cX5_poundWishes 21 = .ok (.iaload, 1) := by decide +kernel
theorem dX5_poundWishes_22 : decode cX5_poundWishes 22 = .ok (.ifCond .le 19, 3) := by decide +kernel
theorem dX5_poundWishes_25 : decode cX5_poundWishes 25 = .ok (.aload_n 2, 1) := by decide +kernel
theorem dX5_poundWishes_26 : decode cX5_poundWishes 26 = .ok (.bipush 9, 2) := by decide +kernel
theorem dX5_poundWishes_28 : decode cX5_poundWishes 28 = .ok (.aload_n 0, 1) := by decide +kernel
theorem dX5_poundWishes_29 : decode cX5_poundWishes 29 = .ok (.getfield 21, 3) := by decide +kernel
theorem dX5_poundWishes_32 : decode cX5_poundWishes 32 = .ok (.getfield 133, 3) := by decide +kernel
theorem dX5_poundWishes_35 : decode cX5_poundWishes 35 = .ok (.iload_n 1, 1) := by decide +kernel
theorem dX5_poundWishes_36 : decode cX5_poundWishes 36 = .ok (.iaload, 1) := by decide +kernel
theorem dX5_poundWishes_37 : decode cX5_poundWishes 37 = .ok (.invokevirtual 69, 3) := by decide +kernel
theorem dX5_poundWishes_40 : decode cX5_poundWishes 40 = .ok (.ireturn, 1) := by decide +kernel
theorem dX5_poundWishes_41 : decode cX5_poundWishes 41 = .ok (.aload_n 0, 1) := by decide +kernel
theorem dX5_poundWishes_42 : decode cX5_poundWishes 42 = .ok (.getfield 21, 3) := by decide +kernel
theorem dX5_poundWishes_45 : decode cX5_poundWishes 45 = .ok (.getfield 127, 3) := by decide +kernel
theorem dX5_poundWishes_48 : decode cX5_poundWishes 48 = .ok (.iload_n 1, 1) := by decide +kernel
theorem dX5_poundWishes_49 : decode cX5_poundWishes 49 = .ok (.iaload, 1) := by decide +kernel
theorem dX5_poundWishes_50 : decode cX5_poundWishes 50 = .ok (.bipush 10, 2) := by decide +kernel
theorem dX5_poundWishes_52 : decode cX5_poundWishes 52 = .ok (.if_icmp .ge 19, 3) := by decide +kernel
theorem dX5_poundWishes_55 : decode cX5_poundWishes 55 = .ok (.aload_n 2, 1) := by decide +kernel
theorem dX5_poundWishes_56 : decode cX5_poundWishes 56 = .ok (.bipush 10, 2) := by decide +kernel
theorem dX5_poundWishes_58 : decode cX5_poundWishes 58 = .ok (.aload_n 0, 1) := by decide +kernel
theorem dX5_poundWishes_59 : decode cX5_poundWishes 59 = .ok (.getfield 21, 3) := by decide +kernel
theorem dX5_poundWishes_62 : decode cX5_poundWishes 62 = .ok (.getfield 127, 3) := by decide +kernel
theorem dX5_poundWishes_65 : decode cX5_poundWishes 65 = .ok (.iload_n 1, 1) := by decide +kernel
theorem dX5_poundWishes_66 : decode cX5_poundWishes 66 = .ok (.iaload, 1) := by decide +kernel
theorem dX5_poundWishes_67 : decode cX5_poundWishes 67 = .ok (.invokevirtual 69, 3) := by decide +kernel
theorem dX5_poundWishes_70 : decode cX5_poundWishes 70 = .ok (.ireturn, 1) := by decide +kernel
theorem dX5_poundWishes_71 : decode cX5_poundWishes 71 = .ok (.aload_n 0, 1) := by decide +kernel
theorem dX5_poundWishes_72 : decode cX5_poundWishes 72 = .ok (.getfield 28, 3) := by decide +kernel
theorem dX5_poundWishes_75 : decode cX5_poundWishes 75 = .ok (.iload_n 1, 1) := by decide +kernel
theorem dX5_poundWishes_76 : decode cX5_poundWishes 76 = .ok (.invokevirtual 136, 3) := by decide +kernel
theorem dX5_poundWishes_79 : decode cX5_poundWishes 79 = .ok (.istore_n 3, 1) := by decide +kernel
theorem dX5_poundWishes_80 : decode cX5_poundWishes 80 = .ok (.iload_n 3, 1) := by decide +kernel
theorem dX5_poundWishes_81 : decode cX5_poundWishes 81 = .ok (.ifCond .le 7, 3) := by decide +kernel
theorem dX5_poundWishes_84 : decode cX5_poundWishes 84 = .ok (.iload_n 3, 1) := by decide +kernel
theorem dX5_poundWishes_85 : decode cX5_poundWishes 85 = .ok (.goto 17, 3) := by decide +kernel
theorem dX5_poundWishes_88 : decode cX5_poundWishes 88 = .ok (.aload_n 2, 1) := by decide +kernel
theorem dX5_poundWishes_89 : decode cX5_poundWishes 89 = .ok (.bipush 11, 2) := by decide +kernel
theorem dX5_poundWishes_91 : decode cX5_poundWishes 91 = .ok (.aload_n 0, 1) := by decide +kernel
theorem dX5_poundWishes_92 : decode cX5_poundWishes 92 = .ok (.getfield 28, 3) := by decide +kernel
theorem dX5_poundWishes_95 : decode cX5_poundWishes 95 = .ok (.iload_n 1, 1) := by decide +kernel
theorem dX5_poundWishes_96 : decode cX5_poundWishes 96 = .ok (.invokevirtual 139, 3) := by decide +kernel
theorem dX5_poundWishes_99 : decode cX5_poundWishes 99 = .ok (.invokevirtual 69, 3) := by decide +kernel
theorem dX5_poundWishes_102 : decode cX5_poundWishes 102 = .ok (.ireturn, 1) := by decide +kernel
theorem dX5_costToRedeem_0 : decode cX5_costToRedeem 0 = .ok (.aload_n 0, 1) := by decide +kernel
theorem dX5_costToRedeem_1 : decode cX5_costToRedeem 1 = .ok (.getfield 12, 3) := by decide +kernel
theorem dX5_costToRedeem_4 : decode cX5_costToRedeem 4 = .ok (.getfield 117, 3) := by decide +kernel
theorem dX5_costToRedeem_7 : decode cX5_costToRedeem 7 = .ok (.aload_n 0, 1) := by decide +kernel
theorem dX5_costToRedeem_8 : decode cX5_costToRedeem 8 = .ok (.getfield 28, 3) := by decide +kernel
theorem dX5_costToRedeem_11 : decode cX5_costToRedeem 11 = .ok (.getfield 142, 3) := by decide +kernel
theorem dX5_costToRedeem_14 : decode cX5_costToRedeem 14 = .ok (.iload_n 1, 1) := by decide +kernel
theorem dX5_costToRedeem_15 : decode cX5_costToRedeem 15 = .ok (.iaload, 1) := by decide +kernel
theorem dX5_costToRedeem_16 : decode cX5_costToRedeem 16 = .ok (.iaload, 1) := by decide +kernel
theorem dX5_costToRedeem_17 : decode cX5_costToRedeem 17 = .ok (.aload_n 0, 1) := by decide +kernel
theorem dX5_costToRedeem_18 : decode cX5_costToRedeem 18 = .ok (.getfield 28, 3) := by decide +kernel
theorem dX5_costToRedeem_21 : decode cX5_costToRedeem 21 = .ok (.getfield 145, 3) := by decide +kernel
theorem dX5_costToRedeem_24 : decode cX5_costToRedeem 24 = .ok (.iload_n 1, 1) := by decide +kernel
theorem dX5_costToRedeem_25 : decode cX5_costToRedeem 25 = .ok (.iaload, 1) := by decide +kernel
theorem dX5_costToRedeem_26 : decode cX5_costToRedeem 26 = .ok (.iadd, 1) := by decide +kernel
theorem dX5_costToRedeem_27 : decode cX5_costToRedeem 27 = .ok (.ireturn, 1) := by decide +kernel
theorem dX5_redeemWish_0 : decode cX5_redeemWish 0 = .ok (.aload_n 0, 1) := by decide +kernel
theorem dX5_redeemWish_1 : decode cX5_redeemWish 1 = .ok (.getfield 28, 3) := by decide +kernel
theorem dX5_redeemWish_4 : decode cX5_redeemWish 4 = .ok (.iload_n 1, 1) := by decide +kernel
theorem dX5_redeemWish_5 : decode cX5_redeemWish 5 = .ok (.invokevirtual 148, 3) := by decide +kernel
theorem dX5_redeemWish_8 : decode cX5_redeemWish 8 = .ok (.ifCond .ne 5, 3) := by decide +kernel
theorem dX5_redeemWish_11 : decode cX5_redeemWish 11 = .ok (.iconst (-1), 1) := by decide +kernel
theorem dX5_redeemWish_12 : decode cX5_redeemWish 12 = .ok (.ireturn, 1) := by decide +kernel
theorem dX5_redeemWish_13 : decode cX5_redeemWish 13 = .ok (.aload_n 0, 1) := by decide +kernel
theorem dX5_redeemWish_14 : decode cX5_redeemWish 14 = .ok (.getfield 28, 3) := by decide +kernel
theorem dX5_redeemWish_17 : decode cX5_redeemWish 17 = .ok (.iload_n 1, 1) := by decide +kernel
theorem dX5_redeemWish_18 : decode cX5_redeemWish 18 = .ok (.invokevirtual 149, 3) := by decide +kernel
theorem dX5_redeemWish_21 : decode cX5_redeemWish 21 = .ok (.ifCond .ne 19, 3) := by decide +kernel
theorem dX5_redeemWish_24 : decode cX5_redeemWish 24 = .ok (.aload_n 2, 1) := by decide +kernel
theorem dX5_redeemWish_25 : decode cX5_redeemWish 25 = .ok (.bipush 12, 2) := by decide +kernel
theorem dX5_redeemWish_27 : decode cX5_redeemWish 27 = .ok (.aload_n 0, 1) := by decide +kernel
theorem dX5_redeemWish_28 : decode cX5_redeemWish 28 = .ok (.getfield 28, 3) := by decide +kernel
theorem dX5_redeemWish_31 : decode cX5_redeemWish 31 = .ok (.getfield 152, 3) := by decide +kernel
theorem dX5_redeemWish_34 : decode cX5_redeemWish 34 = .ok (.iload_n 1, 1) := by decide +kernel
theorem dX5_redeemWish_35 : decode cX5_redeemWish 35 = .ok (.iaload, 1) := by decide +kernel
theorem dX5_redeemWish_36 : decode cX5_redeemWish 36 = .ok (.invokevirtual 69, 3) := by decide +kernel
theorem dX5_redeemWish_39 : decode cX5_redeemWish 39 = .ok (.ireturn, 1) := by decide +kernel
theorem dX5_redeemWish_40 : decode cX5_redeemWish 40 = .ok (.aload_n 0, 1) := by decide +kernel
theorem dX5_redeemWish_41 : decode cX5_redeemWish 41 = .ok (.getfield 28, 3) := by decide +kernel
theorem dX5_redeemWish_44 : decode cX5_redeemWish 44 = .ok (.getfield 155, 3) := by decide +kernel
theorem dX5_redeemWish_47 : decode cX5_redeemWish 47 = .ok (.iload_n 1, 1) := by decide +kernel
theorem dX5_redeemWish_48 : decode cX5_redeemWish 48 = .ok (.iaload, 1) := by decide +kernel
theorem dX5_redeemWish_49 : decode cX5_redeemWish 49 = .ok (.istore_n 3, 1) := by decide +kernel
theorem dX5_redeemWish_50 : decode cX5_redeemWish 50 = .ok (.aload_n 0, 1) := by decide +kernel
theorem dX5_redeemWish_51 : decode cX5_redeemWish 51 = .ok (.iload_n 1, 1) := by decide +kernel
theorem dX5_redeemWish_52 : decode cX5_redeemWish 52 = .ok (.invokevirtual 158, 3) := by decide +kernel
theorem dX5_redeemWish_55 : decode cX5_redeemWish 55 = .ok (.istore 4, 2) := by decide +kernel
theorem dX5_redeemWish_57 : decode cX5_redeemWish 57 = .ok (.aload_n 0, 1) := by decide +kernel
theorem dX5_redeemWish_58 : decode cX5_redeemWish 58 = .ok (.getfield 21, 3) := by decide +kernel
theorem dX5_redeemWish_61 : decode cX5_redeemWish 61 = .ok (.getfield 120, 3) := by decide +kernel
theorem dX5_redeemWish_64 : decode cX5_redeemWish 64 = .ok (.iload_n 3, 1) := by decide +kernel
theorem dX5_redeemWish_65 : decode cX5_redeemWish 65 = .ok (.iaload, 1) := by decide +kernel
theorem dX5_redeemWish_66 : decode cX5_redeemWish 66 = .ok (.iload 4, 2) := by decide +kernel
theorem dX5_redeemWish_68 : decode cX5_redeemWish 68 = .ok (.if_icmp .ge 22, 3) := by decide +kernel
theorem dX5_redeemWish_71 : decode cX5_redeemWish 71 = .ok (.aload_n 2, 1) := by decide +kernel
theorem dX5_redeemWish_72 : decode cX5_redeemWish 72 = .ok (.bipush 6, 2) := by decide +kernel
theorem dX5_redeemWish_74 : decode cX5_redeemWish 74 = .ok (.iload 4, 2) := by decide +kernel
theorem dX5_redeemWish_76 : decode cX5_redeemWish 76 = .ok (.aload_n 0, 1) := by decide +kernel
theorem dX5_redeemWish_77 : decode cX5_redeemWish 77 = .ok (.getfield 21, 3) := by decide +kernel
theorem dX5_redeemWish_80 : decode cX5_redeemWish 80 = .ok (.getfield 120, 3) := by decide +kernel
theorem dX5_redeemWish_83 : decode cX5_redeemWish 83 = .ok (.iload_n 3, 1) := by decide +kernel
theorem dX5_redeemWish_84 : decode cX5_redeemWish 84 = .ok (.iaload, 1) := by decide +kernel
theorem dX5_redeemWish_85 : decode cX5_redeemWish 85 = .ok (.isub, 1) := by decide +kernel
theorem dX5_redeemWish_86 : decode cX5_redeemWish 86 = .ok (.invokevirtual 69, 3) := by decide +kernel
theorem dX5_redeemWish_89 : decode cX5_redeemWish 89 = .ok (.ireturn, 1) := by decide +kernel
theorem dX5_redeemWish_90 : decode cX5_redeemWish 90 = .ok (.aload_n 0, 1) := by decide +kernel
theorem dX5_redeemWish_91 : decode cX5_redeemWish 91 = .ok (.getfield 21, 3) := by decide +kernel
theorem dX5_redeemWish_94 : decode cX5_redeemWish 94 = .ok (.getfield 120, 3) := by decide +kernel
theorem dX5_redeemWish_97 : decode cX5_redeemWish 97 = .ok (.iload_n 3, 1) := by decide +kernel
theorem dX5_redeemWish_98 : decode cX5_redeemWish 98 = .ok (.dup2, 1) := by decide +kernel
theorem dX5_redeemWish_99 : decode cX5_redeemWish 99 = .ok (.iaload, 1) := by decide +kernel
theorem dX5_redeemWish_100 : decode cX5_redeemWish 100 = .ok (.iload 4, 2) := by decide +kernel
theorem dX5_redeemWish_102 : decode cX5_redeemWish 102 = .ok (.isub, 1) := by decide +kernel
theorem dX5_redeemWish_103 : decode cX5_redeemWish 103 = .ok (.iastore, 1) := by decide +kernel
theorem dX5_redeemWish_104 : decode cX5_redeemWish 104 = .ok (.aload_n 0, 1) := by decide +kernel
theorem dX5_redeemWish_105 : decode cX5_redeemWish 105 = .ok (.getfield 28, 3) := by decide +kernel
theorem dX5_redeemWish_108 : decode cX5_redeemWish 108 = .ok (.getfield 145, 3) := by decide +kernel
theorem dX5_redeemWish_111 : decode cX5_redeemWish 111 = .ok (.iload_n 1, 1) := by decide +kernel
theorem dX5_redeemWish_112 : decode cX5_redeemWish 112 = .ok (.bipush (-4), 2) := by decide +kernel
theorem dX5_redeemWish_114 : decode cX5_redeemWish 114 = .ok (.iastore, 1) := by decide +kernel
theorem dX5_redeemWish_115 : decode cX5_redeemWish 115 = .ok (.iload 4, 2) := by decide +kernel
theorem dX5_redeemWish_117 : decode cX5_redeemWish 117 = .ok (.ireturn, 1) := by decide +kernel
theorem dX5_giveStay_0 : decode cX5_giveStay 0 = .ok (.aload_n 0, 1) := by decide +kernel
theorem dX5_giveStay_1 : decode cX5_giveStay 1 = .ok (.getfield 21, 3) := by decide +kernel
theorem dX5_giveStay_4 : decode cX5_giveStay 4 = .ok (.iload_n 1, 1) := by decide +kernel
theorem dX5_giveStay_5 : decode cX5_giveStay 5 = .ok (.invokevirtual 54, 3) := by decide +kernel
theorem dX5_giveStay_8 : decode cX5_giveStay 8 = .ok (.ifCond .ne 5, 3) := by decide +kernel
theorem dX5_giveStay_11 : decode cX5_giveStay 11 = .ok (.iconst (-1), 1) := by decide +kernel
theorem dX5_giveStay_12 : decode cX5_giveStay 12 = .ok (.ireturn, 1) := by decide +kernel
theorem dX5_giveStay_13 : decode cX5_giveStay 13 = .ok (.iload_n 2, 1) := by decide +kernel
theorem dX5_giveStay_14 : decode cX5_giveStay 14 = .ok (.iconst 0, 1) := by decide +kernel
theorem dX5_giveStay_15 : decode cX5_giveStay 15 = .ok (.bipush 9, 2) := by decide +kernel
theorem dX5_giveStay_17 : decode cX5_giveStay 17 = .ok (.invokestatic 62, 3) := by decide +kernel
theorem dX5_giveStay_20 : decode cX5_giveStay 20 = .ok (.ifCond .ne 6, 3) := by decide +kernel
theorem dX5_giveStay_23 : decode cX5_giveStay 23 = .ok (.bipush (-2), 2) := by decide +kernel
theorem dX5_giveStay_25 : decode cX5_giveStay 25 = .ok (.ireturn, 1) := by decide +kernel
theorem dX5_giveStay_26 : decode cX5_giveStay 26 = .ok (.aload_n 0, 1) := by decide +kernel
theorem dX5_giveStay_27 : decode cX5_giveStay 27 = .ok (.getfield 21, 3) := by decide +kernel
theorem dX5_giveStay_30 : decode cX5_giveStay 30 = .ok (.getfield 133, 3) := by decide +kernel
theorem dX5_giveStay_33 : decode cX5_giveStay 33 = .ok (.iload_n 1, 1) := by decide +kernel
theorem dX5_giveStay_34 : decode cX5_giveStay 34 = .ok (.iaload, 1) := by decide +kernel
theorem dX5_giveStay_35 : decode cX5_giveStay 35 = .ok (.istore 4, 2) := by decide +kernel
theorem dX5_giveStay_37 : decode cX5_giveStay 37 = .ok (.iload 4, 2) := by decide +kernel
theorem dX5_giveStay_39 : decode cX5_giveStay 39 = .ok (.iload_n 2, 1) := by decide +kernel
theorem dX5_giveStay_40 : decode cX5_giveStay 40 = .ok (.if_icmp .ne 10, 3) := by decide +kernel
theorem dX5_giveStay_43 : decode cX5_giveStay 43 = .ok (.aload_n 3, 1) := by decide +kernel
theorem dX5_giveStay_44 : decode cX5_giveStay 44 = .ok (.iconst 2, 1) := by decide +kernel
theorem dX5_giveStay_45 : decode cX5_giveStay 45 = .ok (.iload_n 2, 1) := by decide +kernel
theorem dX5_giveStay_46 : decode cX5_giveStay 46 = .ok (.invokevirtual 69, 3) := by decide +kernel
theorem dX5_giveStay_49 : decode cX5_giveStay 49 = .ok (.ireturn, 1) := by decide +kernel
theorem dX5_giveStay_50 : decode cX5_giveStay 50 = .ok (.aload_n 0, 1) := by decide +kernel
theorem dX5_giveStay_51 : decode cX5_giveStay 51 = .ok (.getfield 21, 3) := by decide +kernel
theorem dX5_giveStay_54 : decode cX5_giveStay 54 = .ok (.getfield 133, 3) := by decide +kernel
theorem dX5_giveStay_57 : decode cX5_giveStay 57 = .ok (.iload_n 1, 1) := by decide +kernel
theorem dX5_giveStay_58 : decode cX5_giveStay 58 = .ok (.iload_n 2, 1) := by decide +kernel
theorem dX5_giveStay_59 : decode cX5_giveStay 59 = .ok (.iastore, 1) := by decide +kernel
theorem dX5_giveStay_60 : decode cX5_giveStay 60 = .ok (.iload 4, 2) := by decide +kernel
theorem dX5_giveStay_62 : decode cX5_giveStay 62 = .ok (.ireturn, 1) := by decide +kernel
theorem dX5_passNight_0 : decode cX5_passNight 0 = .ok (.aload_n 0, 1) := by decide +kernel
theorem dX5_passNight_1 : decode cX5_passNight 1 = .ok (.invokevirtual 161, 3) := by decide +kernel
theorem dX5_passNight_4 : decode cX5_passNight 4 = .ok (.istore_n 1, 1) := by decide +kernel
theorem dX5_passNight_5 : decode cX5_passNight 5 = .ok (.iconst 0, 1) := by decide +kernel
theorem dX5_passNight_6 : decode cX5_passNight 6 = .ok (.istore_n 2, 1) := by decide +kernel
theorem dX5_passNight_7 : decode cX5_passNight 7 = .ok (.iconst 0, 1) := by decide +kernel
theorem dX5_passNight_8 : decode cX5_passNight 8 = .ok (.istore_n 3, 1) := by decide +kernel
theorem dX5_passNight_9 : decode cX5_passNight 9 = .ok (.iload_n 3, 1) := by decide +kernel
theorem dX5_passNight_10 : decode cX5_passNight 10 = .ok (.aload_n 0, 1) := by decide +kernel
theorem dX5_passNight_11 : decode cX5_passNight 11 = .ok (.getfield 28, 3) := by decide +kernel
theorem dX5_passNight_14 : decode cX5_passNight 14 = .ok (.getfield 123, 3) := by decide +kernel
theorem dX5_passNight_17 : decode cX5_passNight 17 = .ok (.if_icmp .ge 29, 3) := by decide +kernel
theorem dX5_passNight_20 : decode cX5_passNight 20 = .ok (.aload_n 0, 1) := by decide +kernel
theorem dX5_passNight_21 : decode cX5_passNight 21 = .ok (.iload_n 3, 1) := by decide +kernel
theorem dX5_passNight_22 : decode cX5_passNight 22 = .ok (.invokevirtual 165, 3) := by decide +kernel
theorem dX5_passNight_25 : decode cX5_passNight 25 = .ok (.ifCond .eq 15, 3) := by decide +kernel
theorem dX5_passNight_28 : decode cX5_passNight 28 = .ok (.aload_n 0, 1) := by decide +kernel
theorem dX5_passNight_29 : decode cX5_passNight 29 = .ok (.getfield 28, 3) := by decide +kernel
theorem dX5_passNight_32 : decode cX5_passNight 32 = .ok (.iload_n 3, 1) := by decide +kernel
theorem dX5_passNight_33 : decode cX5_passNight 33 = .ok (.iload_n 2, 1) := by decide +kernel
theorem dX5_passNight_34 : decode cX5_passNight 34 = .ok (.invokevirtual 168, 3) := by decide +kernel
theorem dX5_passNight_37 : decode cX5_passNight 37 = .ok (.iinc 2 1, 3) := by decide +kernel
theorem dX5_passNight_40 : decode cX5_passNight 40 = .ok (.iinc 3 1, 3) := by decide +kernel
theorem dX5_passNight_43 : decode cX5_passNight 43 = .ok (.goto (-34), 3) := by decide +kernel
theorem dX5_passNight_46 : decode cX5_passNight 46 = .ok (.aload_n 0, 1) := by decide +kernel
theorem dX5_passNight_47 : decode cX5_passNight 47 = .ok (.getfield 28, 3) := by decide +kernel
theorem dX5_passNight_50 : decode cX5_passNight 50 = .ok (.iload_n 2, 1) := by decide +kernel
theorem dX5_passNight_51 : decode cX5_passNight 51 = .ok (.putfield 123, 3) := by decide +kernel
theorem dX5_passNight_54 : decode cX5_passNight 54 = .ok (.aload_n 0, 1) := by decide +kernel
theorem dX5_passNight_55 : decode cX5_passNight 55 = .ok (.getfield 12, 3) := by decide +kernel
theorem dX5_passNight_58 : decode cX5_passNight 58 = .ok (.invokevirtual 172, 3) := by decide +kernel
theorem dX5_passNight_61 : decode cX5_passNight 61 = .ok (.aload_n 0, 1) := by decide +kernel
theorem dX5_passNight_62 : decode cX5_passNight 62 = .ok (.getfield 21, 3) := by decide +kernel
theorem dX5_passNight_65 : decode cX5_passNight 65 = .ok (.invokevirtual 175, 3) := by decide +kernel
theorem dX5_passNight_68 : decode cX5_passNight 68 = .ok (.aload_n 0, 1) := by decide +kernel
theorem dX5_passNight_69 : decode cX5_passNight 69 = .ok (.dup, 1) := by decide +kernel
theorem dX5_passNight_70 : decode cX5_passNight 70 = .ok (.getfield 37, 3) := by decide +kernel
theorem dX5_passNight_73 : decode cX5_passNight 73 = .ok (.iconst 1, 1) := by decide +kernel
theorem dX5_passNight_74 : decode cX5_passNight 74 = .ok (.iadd, 1) := by decide +kernel
theorem dX5_passNight_75 : decode cX5_passNight 75 = .ok (.putfield 37, 3) := by decide +kernel
theorem dX5_passNight_78 : decode cX5_passNight 78 = .ok (.iload_n 1, 1) := by decide +kernel
theorem dX5_passNight_79 : decode cX5_passNight 79 = .ok (.ireturn, 1) := by decide +kernel
theorem dX5_staysAtDawn_0 : decode cX5_staysAtDawn 0 = .ok (.aload_n 0, 1) := by decide +kernel
theorem dX5_staysAtDawn_1 : decode cX5_staysAtDawn 1 = .ok (.getfield 28, 3) := by decide +kernel
theorem dX5_staysAtDawn_4 : decode cX5_staysAtDawn 4 = .ok (.getfield 155, 3) := by decide +kernel
theorem dX5_staysAtDawn_7 : decode cX5_staysAtDawn 7 = .ok (.iload_n 1, 1) := by decide +kernel
theorem dX5_staysAtDawn_8 : decode cX5_staysAtDawn 8 = .ok (.iaload, 1) := by decide +kernel
theorem dX5_staysAtDawn_9 : decode cX5_staysAtDawn 9 = .ok (.istore_n 2, 1) := by decide +kernel
theorem dX5_staysAtDawn_10 : decode cX5_staysAtDawn 10 = .ok (.aload_n 0, 1) := by decide +kernel
theorem dX5_staysAtDawn_11 : decode cX5_staysAtDawn 11 = .ok (.iload_n 1, 1) := by decide +kernel
theorem dX5_staysAtDawn_12 : decode cX5_staysAtDawn 12 = .ok (.invokevirtual 178, 3) := by decide +kernel
theorem dX5_staysAtDawn_15 : decode cX5_staysAtDawn 15 = .ok (.ifCond .eq 18, 3) := by decide +kernel
theorem dX5_staysAtDawn_18 : decode cX5_staysAtDawn 18 = .ok (.aload_n 0, 1) := by decide +kernel
theorem dX5_staysAtDawn_19 : decode cX5_staysAtDawn 19 = .ok (.getfield 21, 3) := by decide +kernel
theorem dX5_staysAtDawn_22 : decode cX5_staysAtDawn 22 = .ok (.getfield 181, 3) := by decide +kernel
theorem dX5_staysAtDawn_25 : decode cX5_staysAtDawn 25 = .ok (.iload_n 2, 1) := by decide +kernel
theorem dX5_staysAtDawn_26 : decode cX5_staysAtDawn 26 = .ok (.dup2, 1) := by decide +kernel
theorem dX5_staysAtDawn_27 : decode cX5_staysAtDawn 27 = .ok (.iaload, 1) := by decide +kernel
theorem dX5_staysAtDawn_28 : decode cX5_staysAtDawn 28 = .ok (.iconst 1, 1) := by decide +kernel
theorem dX5_staysAtDawn_29 : decode cX5_staysAtDawn 29 = .ok (.iadd, 1) := by decide +kernel
theorem dX5_staysAtDawn_30 : decode cX5_staysAtDawn 30 = .ok (.iastore, 1) := by decide +kernel
theorem dX5_staysAtDawn_31 : decode cX5_staysAtDawn 31 = .ok (.iconst 0, 1) := by decide +kernel
theorem dX5_staysAtDawn_32 : decode cX5_staysAtDawn 32 = .ok (.ireturn, 1) := by decide +kernel
theorem dX5_staysAtDawn_33 : decode cX5_staysAtDawn 33 = .ok (.aload_n 0, 1) := by decide +kernel
theorem dX5_staysAtDawn_34 : decode cX5_staysAtDawn 34 = .ok (.getfield 28, 3) := by decide +kernel
theorem dX5_staysAtDawn_37 : decode cX5_staysAtDawn 37 = .ok (.iload_n 1, 1) := by decide +kernel
theorem dX5_staysAtDawn_38 : decode cX5_staysAtDawn 38 = .ok (.invokevirtual 149, 3) := by decide +kernel
theorem dX5_staysAtDawn_41 : decode cX5_staysAtDawn 41 = .ok (.ifCond .ne 18, 3) := by decide +kernel
theorem dX5_staysAtDawn_44 : decode cX5_staysAtDawn 44 = .ok (.aload_n 0, 1) := by decide +kernel
theorem dX5_staysAtDawn_45 : decode cX5_staysAtDawn 45 = .ok (.getfield 28, 3) := by decide +kernel
theorem dX5_staysAtDawn_48 : decode cX5_staysAtDawn 48 = .ok (.getfield 152, 3) := by decide +kernel
theorem dX5_staysAtDawn_51 : decode cX5_staysAtDawn 51 = .ok (.iload_n 1, 1) := by decide +kernel
theorem dX5_staysAtDawn_52 : decode cX5_staysAtDawn 52 = .ok (.dup2, 1) := by decide +kernel
theorem dX5_staysAtDawn_53 : decode cX5_staysAtDawn 53 = .ok (.iaload, 1) := by decide +kernel
theorem dX5_staysAtDawn_54 : decode cX5_staysAtDawn 54 = .ok (.iconst 1, 1) := by decide +kernel
theorem dX5_staysAtDawn_55 : decode cX5_staysAtDawn 55 = .ok (.iadd, 1) := by decide +kernel
theorem dX5_staysAtDawn_56 : decode cX5_staysAtDawn 56 = .ok (.iastore, 1) := by decide +kernel
theorem dX5_staysAtDawn_57 : decode cX5_staysAtDawn 57 = .ok (.iconst 1, 1) := by decide +kernel
theorem dX5_staysAtDawn_58 : decode cX5_staysAtDawn 58 = .ok (.ireturn, 1) := by decide +kernel
theorem dX5_staysAtDawn_59 : decode cX5_staysAtDawn 59 = .ok (.aload_n 0, 1) := by decide +kernel
theorem dX5_staysAtDawn_60 : decode cX5_staysAtDawn 60 = .ok (.getfield 28, 3) := by decide +kernel
theorem dX5_staysAtDawn_63 : decode cX5_staysAtDawn 63 = .ok (.getfield 145, 3) := by decide +kernel
theorem dX5_staysAtDawn_66 : decode cX5_staysAtDawn 66 = .ok (.iload_n 1, 1) := by decide +kernel
theorem dX5_staysAtDawn_67 : decode cX5_staysAtDawn 67 = .ok (.dup2, 1) := by decide +kernel
theorem dX5_staysAtDawn_68 : decode cX5_staysAtDawn 68 = .ok (.iaload, 1) := by decide +kernel
theorem dX5_staysAtDawn_69 : decode cX5_staysAtDawn 69 = .ok (.iconst 1, 1) := by decide +kernel
theorem dX5_staysAtDawn_70 : decode cX5_staysAtDawn 70 = .ok (.iadd, 1) := by decide +kernel
theorem dX5_staysAtDawn_71 : decode cX5_staysAtDawn 71 = .ok (.iastore, 1) := by decide +kernel
theorem dX5_staysAtDawn_72 : decode cX5_staysAtDawn 72 = .ok (.aload_n 0, 1) := by decide +kernel
theorem dX5_staysAtDawn_73 : decode cX5_staysAtDawn 73 = .ok (.getfield 28, 3) := by decide +kernel
theorem dX5_staysAtDawn_76 : decode cX5_staysAtDawn 76 = .ok (.getfield 145, 3) := by decide +kernel
theorem dX5_staysAtDawn_79 : decode cX5_staysAtDawn 79 = .ok (.iload_n 1, 1) := by decide +kernel
theorem dX5_staysAtDawn_80 : decode cX5_staysAtDawn 80 = .ok (.iaload, 1) := by decide +kernel
theorem dX5_staysAtDawn_81 : decode cX5_staysAtDawn 81 = .ok (.iconst 3, 1) := by decide +kernel
theorem dX5_staysAtDawn_82 : decode cX5_staysAtDawn 82 = .ok (.if_icmp .ge 5, 3) := by decide +kernel
theorem dX5_staysAtDawn_85 : decode cX5_staysAtDawn 85 = .ok (.iconst 1, 1) := by decide +kernel
theorem dX5_staysAtDawn_86 : decode cX5_staysAtDawn 86 = .ok (.ireturn, 1) := by decide +kernel
theorem dX5_staysAtDawn_87 : decode cX5_staysAtDawn 87 = .ok (.aload_n 0, 1) := by decide +kernel
theorem dX5_staysAtDawn_88 : decode cX5_staysAtDawn 88 = .ok (.getfield 21, 3) := by decide +kernel
theorem dX5_staysAtDawn_91 : decode cX5_staysAtDawn 91 = .ok (.getfield 184, 3) := by decide +kernel
theorem dX5_staysAtDawn_94 : decode cX5_staysAtDawn 94 = .ok (.iload_n 2, 1) := by decide +kernel
theorem dX5_staysAtDawn_95 : decode cX5_staysAtDawn 95 = .ok (.dup2, 1) := by decide +kernel
theorem dX5_staysAtDawn_96 : decode cX5_staysAtDawn 96 = .ok (.iaload, 1) := by decide +kernel
theorem dX5_staysAtDawn_97 : decode cX5_staysAtDawn 97 = .ok (.iconst 1, 1) := by decide +kernel
theorem dX5_staysAtDawn_98 : decode cX5_staysAtDawn 98 = .ok (.iadd, 1) := by decide +kernel
theorem dX5_staysAtDawn_99 : decode cX5_staysAtDawn 99 = .ok (.iastore, 1) := by decide +kernel
theorem dX5_staysAtDawn_100 : decode cX5_staysAtDawn 100 = .ok (.iconst 0, 1) := by decide +kernel
theorem dX5_staysAtDawn_101 : decode cX5_staysAtDawn 101 = .ok (.ireturn, 1) := by decide +kernel
theorem dX5_isGrantable_0 : decode cX5_isGrantable 0 = .ok (.aload_n 0, 1) := by decide +kernel
theorem dX5_isGrantable_1 : decode cX5_isGrantable 1 = .ok (.getfield 28, 3) := by decide +kernel
theorem dX5_isGrantable_4 : decode cX5_isGrantable 4 = .ok (.iload_n 1, 1) := by decide +kernel
theorem dX5_isGrantable_5 : decode cX5_isGrantable 5 = .ok (.invokevirtual 149, 3) := by decide +kernel
theorem dX5_isGrantable_8 : decode cX5_isGrantable 8 = .ok (.ifCond .ne 26, 3) := by decide +kernel
theorem dX5_isGrantable_11 : decode cX5_isGrantable 11 = .ok (.aload_n 0, 1) := by decide +kernel
theorem dX5_isGrantable_12 : decode cX5_isGrantable 12 = .ok (.getfield 12, 3) := by decide +kernel
theorem dX5_isGrantable_15 : decode cX5_isGrantable 15 = .ok (.aload_n 0, 1) := by decide +kernel
theorem dX5_isGrantable_16 : decode cX5_isGrantable 16 = .ok (.getfield 28, 3) := by decide +kernel
theorem dX5_isGrantable_19 : decode cX5_isGrantable 19 = .ok (.getfield 142, 3) := by decide +kernel
theorem dX5_isGrantable_22 : decode cX5_isGrantable 22 = .ok (.iload_n 1, 1) := by decide +kernel
theorem dX5_isGrantable_23 : decode cX5_isGrantable 23 = .ok (.iaload, 1) := by decide +kernel
theorem dX5_isGrantable_24 : decode cX5_isGrantable 24 = .ok (.invokevirtual 101, 3) := by decide +kernel
theorem dX5_isGrantable_27 : decode cX5_isGrantable 27 = .ok (.ifCond .eq 7, 3) := by decide +kernel
theorem dX5_isGrantable_30 : decode cX5_isGrantable 30 = .ok (.iconst 1, 1) := by decide +kernel
theorem dX5_isGrantable_31 : decode cX5_isGrantable 31 = .ok (.goto 4, 3) := by decide +kernel
theorem dX5_isGrantable_34 : decode cX5_isGrantable 34 = .ok (.iconst 0, 1) := by decide +kernel
theorem dX5_isGrantable_35 : decode cX5_isGrantable 35 = .ok (.ireturn, 1) := by decide +kernel
theorem dX5_countGrantable_0 : decode cX5_countGrantable 0 = .ok (.iconst 0, 1) := by decide +kernel
theorem dX5_countGrantable_1 : decode cX5_countGrantable 1 = .ok (.istore_n 1, 1) := by decide +kernel
theorem dX5_countGrantable_2 : decode cX5_countGrantable 2 = .ok (.iconst 0, 1) := by decide +kernel
theorem dX5_countGrantable_3 : decode cX5_countGrantable 3 = .ok (.istore_n 2, 1) := by decide +kernel
theorem dX5_countGrantable_4 : decode cX5_countGrantable 4 = .ok (.iload_n 2, 1) := by decide +kernel
theorem dX5_countGrantable_5 : decode cX5_countGrantable 5 = .ok (.aload_n 0, 1) := by decide +kernel
theorem dX5_countGrantable_6 : decode cX5_countGrantable 6 = .ok (.getfield 28, 3) := by decide +kernel
theorem dX5_countGrantable_9 : decode cX5_countGrantable 9 = .ok (.getfield 123, 3) := by decide +kernel
theorem dX5_countGrantable_12 : decode cX5_countGrantable 12 = .ok (.if_icmp .ge 20, 3) := by decide +kernel
theorem dX5_countGrantable_15 : decode cX5_countGrantable 15 = .ok (.aload_n 0, 1) := by decide +kernel
theorem dX5_countGrantable_16 : decode cX5_countGrantable 16 = .ok (.iload_n 2, 1) := by decide +kernel
theorem dX5_countGrantable_17 : decode cX5_countGrantable 17 = .ok (.invokevirtual 178, 3) := by decide +kernel
theorem dX5_countGrantable_20 : decode cX5_countGrantable 20 = .ok (.ifCond .eq 6, 3) := by decide +kernel
theorem dX5_countGrantable_23 : decode cX5_countGrantable 23 = .ok (.iinc 1 1, 3) := by decide +kernel
theorem dX5_countGrantable_26 : decode cX5_countGrantable 26 = .ok (.iinc 2 1, 3) := by decide +kernel
theorem dX5_countGrantable_29 : decode cX5_countGrantable 29 = .ok (.goto (-25), 3) := by decide +kernel
theorem dX5_countGrantable_32 : decode cX5_countGrantable 32 = .ok (.iload_n 1, 1) := by decide +kernel
theorem dX5_countGrantable_33 : decode cX5_countGrantable 33 = .ok (.ireturn, 1) := by decide +kernel
theorem dX5_countRedeemable_0 : decode cX5_countRedeemable 0 = .ok (.aload_n 0, 1) := by decide +kernel
theorem dX5_countRedeemable_1 : decode cX5_countRedeemable 1 = .ok (.getfield 21, 3) := by decide +kernel
theorem dX5_countRedeemable_4 : decode cX5_countRedeemable 4 = .ok (.getfield 120, 3) := by decide +kernel
theorem dX5_countRedeemable_7 : decode cX5_countRedeemable 7 = .ok (.iload_n 1, 1) := by decide +kernel
theorem dX5_countRedeemable_8 : decode cX5_countRedeemable 8 = .ok (.iaload, 1) := by decide +kernel
theorem dX5_countRedeemable_9 : decode cX5_countRedeemable 9 = .ok (.istore_n 2, 1) := by decide +kernel
theorem dX5_countRedeemable_10 : decode cX5_countRedeemable 10 = .ok (.aload_n 0, 1) := by decide +kernel
theorem dX5_countRedeemable_11 : decode cX5_countRedeemable 11 = .ok (.getfield 28, 3) := by decide +kernel
theorem dX5_countRedeemable_14 : decode cX5_countRedeemable 14 = .ok (.iload_n 1, 1) := by decide +kernel
theorem dX5_countRedeemable_15 : decode cX5_countRedeemable 15 = .ok (.invokevirtual 187, 3) := by decide +kernel
theorem dX5_countRedeemable_18 : decode cX5_countRedeemable 18 = .ok (.istore_n 3, 1) := by decide +kernel
theorem dX5_countRedeemable_19 : decode cX5_countRedeemable 19 = .ok (.iconst 0, 1) := by decide +kernel
theorem dX5_countRedeemable_20 : decode cX5_countRedeemable 20 = .ok (.istore 4, 2) := by decide +kernel
theorem dX5_countRedeemable_22 : decode cX5_countRedeemable 22 = .ok (.iload 4, 2) := by decide +kernel
theorem dX5_countRedeemable_24 : decode cX5_countRedeemable 24 = .ok (.bipush 8, 2) := by decide +kernel
theorem dX5_countRedeemable_26 : decode cX5_countRedeemable 26 = .ok (.if_icmp .ge 54, 3) := by decide +kernel
theorem dX5_countRedeemable_29 : decode cX5_countRedeemable 29 = .ok (.aload_n 0, 1) := by decide +kernel
theorem dX5_countRedeemable_30 : decode cX5_countRedeemable 30 = .ok (.iload_n 3, 1) := by decide +kernel
theorem dX5_countRedeemable_31 : decode cX5_countRedeemable 31 = .ok (.invokevirtual 190, 3) := by decide +kernel
theorem dX5_countRedeemable_34 : decode cX5_countRedeemable 34 = .ok (.istore 5, 2) := by decide +kernel
theorem dX5_countRedeemable_36 : decode cX5_countRedeemable 36 = .ok (.iload 5, 2) := by decide +kernel
theorem dX5_countRedeemable_38 : decode cX5_countRedeemable 38 = .ok (.bipush (-4), 2) := by decide +kernel
theorem dX5_countRedeemable_40 : decode cX5_countRedeemable 40 = .ok (.if_icmp .eq 13, 3) := by decide +kernel
theorem dX5_countRedeemable_43 : decode cX5_countRedeemable 43 = .ok (.aload_n 0, 1) := by decide +kernel
theorem dX5_countRedeemable_44 : decode cX5_countRedeemable 44 = .ok (.iload 5, 2) := by decide +kernel
theorem dX5_countRedeemable_46 : decode cX5_countRedeemable 46 = .ok (.invokevirtual 158, 3) := by decide +kernel
theorem dX5_countRedeemable_49 : decode cX5_countRedeemable 49 = .ok (.iload_n 2, 1) := by decide +kernel
theorem dX5_countRedeemable_50 : decode cX5_countRedeemable 50 = .ok (.if_icmp .le 6, 3) := by decide +kernel
theorem dX5_countRedeemable_53 : decode cX5_countRedeemable 53 = .ok (.iload 4, 2) := by decide +kernel
theorem dX5_countRedeemable_55 : decode cX5_countRedeemable 55 = .ok (.ireturn, 1) := by decide +kernel
theorem dX5_countRedeemable_56 : decode cX5_countRedeemable 56 = .ok (.iload_n 2, 1) := by decide +kernel
theorem dX5_countRedeemable_57 : decode cX5_countRedeemable 57 = .ok (.aload_n 0, 1) := by decide +kernel
theorem dX5_countRedeemable_58 : decode cX5_countRedeemable 58 = .ok (.iload 5, 2) := by decide +kernel
theorem dX5_countRedeemable_60 : decode cX5_countRedeemable 60 = .ok (.invokevirtual 158, 3) := by decide +kernel
theorem dX5_countRedeemable_63 : decode cX5_countRedeemable 63 = .ok (.isub, 1) := by decide +kernel
theorem dX5_countRedeemable_64 : decode cX5_countRedeemable 64 = .ok (.istore_n 2, 1) := by decide +kernel
theorem dX5_countRedeemable_65 : decode cX5_countRedeemable 65 = .ok (.iload_n 3, 1) := by decide +kernel
theorem dX5_countRedeemable_66 : decode cX5_countRedeemable 66 = .ok (.iconst 1, 1) := by decide +kernel
theorem dX5_countRedeemable_67 : decode cX5_countRedeemable 67 = .ok (.iload 5, 2) := by decide +kernel
theorem dX5_countRedeemable_69 : decode cX5_countRedeemable 69 = .ok (.ishl, 1) := by decide +kernel
theorem dX5_countRedeemable_70 : decode cX5_countRedeemable 70 = .ok (.iconst (-1), 1) := by decide +kernel
theorem dX5_countRedeemable_71 : decode cX5_countRedeemable 71 = .ok (.ixor, 1) := by decide +kernel
theorem dX5_countRedeemable_72 : decode cX5_countRedeemable 72 = .ok (.iand, 1) := by decide +kernel
theorem dX5_countRedeemable_73 : decode cX5_countRedeemable 73 = .ok (.istore_n 3, 1) := by decide +kernel
theorem dX5_countRedeemable_74 : decode cX5_countRedeemable 74 = .ok (.iinc 4 1, 3) := by decide +kernel
theorem dX5_countRedeemable_77 : decode cX5_countRedeemable 77 = .ok (.goto (-55), 3) := by decide +kernel
theorem dX5_countRedeemable_80 : decode cX5_countRedeemable 80 = .ok (.bipush 8, 2) := by decide +kernel
theorem dX5_countRedeemable_82 : decode cX5_countRedeemable 82 = .ok (.ireturn, 1) := by decide +kernel
theorem dX5_cheapestWish_0 : decode cX5_cheapestWish 0 = .ok (.bipush (-4), 2) := by decide +kernel
theorem dX5_cheapestWish_2 : decode cX5_cheapestWish 2 = .ok (.istore_n 2, 1) := by decide +kernel
theorem dX5_cheapestWish_3 : decode cX5_cheapestWish 3 = .ok (.iconst 0, 1) := by decide +kernel
theorem dX5_cheapestWish_4 : decode cX5_cheapestWish 4 = .ok (.istore_n 3, 1) := by decide +kernel
theorem dX5_cheapestWish_5 : decode cX5_cheapestWish 5 = .ok (.iload_n 3, 1) := by decide +kernel
theorem dX5_cheapestWish_6 : decode cX5_cheapestWish 6 = .ok (.aload_n 0, 1) := by decide +kernel
theorem dX5_cheapestWish_7 : decode cX5_cheapestWish 7 = .ok (.getfield 28, 3) := by decide +kernel
theorem dX5_cheapestWish_10 : decode cX5_cheapestWish 10 = .ok (.getfield 123, 3) := by decide +kernel
theorem dX5_cheapestWish_13 : decode cX5_cheapestWish 13 = .ok (.if_icmp .ge 38, 3) := by decide +kernel
theorem dX5_cheapestWish_16 : decode cX5_cheapestWish 16 = .ok (.iload_n 1, 1) := by decide +kernel
theorem dX5_cheapestWish_17 : decode cX5_cheapestWish 17 = .ok (.iconst 1, 1) := by decide +kernel
theorem dX5_cheapestWish_18 : decode cX5_cheapestWish 18 = .ok (.iload_n 3, 1) := by decide +kernel
theorem dX5_cheapestWish_19 : decode cX5_cheapestWish 19 = .ok (.ishl, 1) := by decide +kernel
theorem dX5_cheapestWish_20 : decode cX5_cheapestWish 20 = .ok (.iand, 1) := by decide +kernel
theorem dX5_cheapestWish_21 : decode cX5_cheapestWish 21 = .ok (.ifCond .eq 24, 3) := by decide +kernel
theorem dX5_cheapestWish_24 : decode cX5_cheapestWish 24 = .ok (.iload_n 2, 1) := by decide +kernel
theorem dX5_cheapestWish_25 : decode cX5_cheapestWish 25 = .ok (.bipush (-4), 2) := by decide +kernel
theorem dX5_cheapestWish_27 : decode cX5_cheapestWish 27 = .ok (.if_icmp .eq 16, 3) := by decide +kernel
theorem dX5_cheapestWish_30 : decode cX5_cheapestWish 30 = .ok (.aload_n 0, 1) := by decide +kernel
theorem dX5_cheapestWish_31 : decode cX5_cheapestWish 31 = .ok (.iload_n 3, 1) := by decide +kernel
theorem dX5_cheapestWish_32 : decode cX5_cheapestWish 32 = .ok (.invokevirtual 158, 3) := by decide +kernel
theorem dX5_cheapestWish_35 : decode cX5_cheapestWish 35 = .ok (.aload_n 0, 1) := by decide +kernel
theorem dX5_cheapestWish_36 : decode cX5_cheapestWish 36 = .ok (.iload_n 2, 1) := by decide +kernel
theorem dX5_cheapestWish_37 : decode cX5_cheapestWish 37 = .ok (.invokevirtual 158, 3) := by decide +kernel
theorem dX5_cheapestWish_40 : decode cX5_cheapestWish 40 = .ok (.if_icmp .ge 5, 3) := by decide +kernel
theorem dX5_cheapestWish_43 : decode cX5_cheapestWish 43 = .ok (.iload_n 3, 1) := by decide +kernel
theorem dX5_cheapestWish_44 : decode cX5_cheapestWish 44 = .ok (.istore_n 2, 1) := by decide +kernel
theorem dX5_cheapestWish_45 : decode cX5_cheapestWish 45 = .ok (.iinc 3 1, 3) := by decide +kernel
theorem dX5_cheapestWish_48 : decode cX5_cheapestWish 48 = .ok (.goto (-43), 3) := by decide +kernel
theorem dX5_cheapestWish_51 : decode cX5_cheapestWish 51 = .ok (.iload_n 2, 1) := by decide +kernel
theorem dX5_cheapestWish_52 : decode cX5_cheapestWish 52 = .ok (.ireturn, 1) := by decide +kernel
theorem dX5_countRedeemableByTrying_0 : decode cX5_countRedeemableByTrying 0 = .ok (.aload_n 0, 1) := by decide +kernel
theorem dX5_countRedeemableByTrying_1 : decode cX5_countRedeemableByTrying 1 = .ok (.getfield 28, 3) := by decide +kernel
theorem dX5_countRedeemableByTrying_4 : decode cX5_countRedeemableByTrying 4 = .ok (.iload_n 1, 1) := by decide +kernel
theorem dX5_countRedeemableByTrying_5 : decode cX5_countRedeemableByTrying 5 = .ok (.invokevirtual 187, 3) := by decide +kernel
theorem dX5_countRedeemableByTrying_8 : decode cX5_countRedeemableByTrying 8 = .ok (.istore_n 2, 1) := by decide +kernel
theorem dX5_countRedeemableByTrying_9 : decode cX5_countRedeemableByTrying 9 = .ok (.iconst 0, 1) := by decide +kernel
theorem dX5_countRedeemableByTrying_10 : decode cX5_countRedeemableByTrying 10 = .ok (.istore_n 3, 1) := by decide +kernel
theorem dX5_countRedeemableByTrying_11 : decode cX5_countRedeemableByTrying 11 = .ok (.iconst 0, 1) := by decide +kernel
theorem dX5_countRedeemableByTrying_12 : decode cX5_countRedeemableByTrying 12 = .ok (.istore 4, 2) := by decide +kernel
theorem dX5_countRedeemableByTrying_14 : decode cX5_countRedeemableByTrying 14 = .ok (.iload 4, 2) := by decide +kernel
theorem dX5_countRedeemableByTrying_16 : decode cX5_countRedeemableByTrying 16 = .ok (.iload_n 2, 1) := by decide +kernel
theorem dX5_countRedeemableByTrying_17 : decode cX5_countRedeemableByTrying 17 = .ok (.if_icmp .gt 46, 3) := by decide +kernel
theorem dX5_countRedeemableByTrying_20 : decode cX5_countRedeemableByTrying 20 = .ok (.iload 4, 2) := by decide +kernel
theorem dX5_countRedeemableByTrying_22 : decode cX5_countRedeemableByTrying 22 = .ok (.iload_n 2, 1) := by decide +kernel
theorem dX5_countRedeemableByTrying_23 : decode cX5_countRedeemableByTrying 23 = .ok (.iconst (-1), 1) := by decide +kernel
theorem dX5_countRedeemableByTrying_24 : decode cX5_countRedeemableByTrying 24 = .ok (.ixor, 1) := by decide +kernel
theorem dX5_countRedeemableByTrying_25 : decode cX5_countRedeemableByTrying 25 = .ok (.iand, 1) := by decide +kernel
theorem dX5_countRedeemableByTrying_26 : decode cX5_countRedeemableByTrying 26 = .ok (.ifCond .ne 31, 3) := by decide +kernel
theorem dX5_countRedeemableByTrying_29 : decode cX5_countRedeemableByTrying 29 = .ok (.aload_n 0, 1) := by decide +kernel
theorem dX5_countRedeemableByTrying_30 : decode cX5_countRedeemableByTrying 30 = .ok (.iload 4, 2) := by decide +kernel
theorem dX5_countRedeemableByTrying_32 : decode cX5_countRedeemableByTrying 32 = .ok (.invokevirtual 193, 3) := by decide +kernel
theorem dX5_countRedeemableByTrying_35 : decode cX5_countRedeemableByTrying 35 = .ok (.aload_n 0, 1) := by decide +kernel
theorem dX5_countRedeemableByTrying_36 : decode cX5_countRedeemableByTrying 36 = .ok (.getfield 21, 3) := by decide +kernel
theorem dX5_countRedeemableByTrying_39 : decode cX5_countRedeemableByTrying 39 = .ok (.getfield 120, 3) := by decide +kernel
theorem dX5_countRedeemableByTrying_42 : decode cX5_countRedeemableByTrying 42 = .ok (.iload_n 1, 1) := by decide +kernel
theorem dX5_countRedeemableByTrying_43 : decode cX5_countRedeemableByTrying 43 = .ok (.iaload, 1) := by decide +kernel
theorem dX5_countRedeemableByTrying_44 : decode cX5_countRedeemableByTrying 44 = .ok (.if_icmp .gt 13, 3) := by decide +kernel
theorem dX5_countRedeemableByTrying_47 : decode cX5_countRedeemableByTrying 47 = .ok (.iload_n 3, 1) := by decide +kernel
theorem dX5_countRedeemableByTrying_48 : decode cX5_countRedeemableByTrying 48 = .ok (.iload 4, 2) := by decide +kernel
theorem dX5_countRedeemableByTrying_50 : decode cX5_countRedeemableByTrying 50 = .ok (.invokestatic 93, 3) := by decide +kernel
theorem dX5_countRedeemableByTrying_53 : decode cX5_countRedeemableByTrying 53 = .ok (.invokestatic 196, 3) := by decide +kernel
theorem dX5_countRedeemableByTrying_56 : decode cX5_countRedeemableByTrying 56 = .ok (.istore_n 3, 1) := by decide +kernel
theorem dX5_countRedeemableByTrying_57 : decode cX5_countRedeemableByTrying 57 = .ok (.iinc 4 1, 3) := by decide +kernel
theorem dX5_countRedeemableByTrying_60 : decode cX5_countRedeemableByTrying 60 = .ok (.goto (-46), 3) := by decide +kernel
theorem dX5_countRedeemableByTrying_63 : decode cX5_countRedeemableByTrying 63 = .ok (.iload_n 3, 1) := by decide +kernel
theorem dX5_countRedeemableByTrying_64 : decode cX5_countRedeemableByTrying 64 = .ok (.ireturn, 1) := by decide +kernel
theorem dX5_costOfSet_0 : decode cX5_costOfSet 0 = .ok (.iconst 0, 1) := by decide +kernel
theorem dX5_costOfSet_1 : decode cX5_costOfSet 1 = .ok (.istore_n 2, 1) := by decide +kernel
theorem dX5_costOfSet_2 : decode cX5_costOfSet 2 = .ok (.iconst 0, 1) := by decide +kernel
theorem dX5_costOfSet_3 : decode cX5_costOfSet 3 = .ok (.istore_n 3, 1) := by decide +kernel
theorem dX5_costOfSet_4 : decode cX5_costOfSet 4 = .ok (.iload_n 3, 1) := by decide +kernel
theorem dX5_costOfSet_5 : decode cX5_costOfSet 5 = .ok (.aload_n 0, 1) := by decide +kernel
theorem dX5_costOfSet_6 : decode cX5_costOfSet 6 = .ok (.getfield 28, 3) := by decide +kernel
theorem dX5_costOfSet_9 : decode cX5_costOfSet 9 = .ok (.getfield 123, 3) := by decide +kernel
theorem dX5_costOfSet_12 : decode cX5_costOfSet 12 = .ok (.if_icmp .ge 25, 3) := by decide +kernel
theorem dX5_costOfSet_15 : decode cX5_costOfSet 15 = .ok (.iload_n 1, 1) := by decide +kernel
theorem dX5_costOfSet_16 : decode cX5_costOfSet 16 = .ok (.iconst 1, 1) := by decide +kernel
theorem dX5_costOfSet_17 : decode cX5_costOfSet 17 = .ok (.iload_n 3, 1) := by decide +kernel
theorem dX5_costOfSet_18 : decode cX5_costOfSet 18 = .ok (.ishl, 1) := by decide +kernel
theorem dX5_costOfSet_19 : decode cX5_costOfSet 19 = .ok (.iand, 1) := by decide +kernel
theorem dX5_costOfSet_20 : decode cX5_costOfSet 20 = .ok (.ifCond .eq 11, 3) := by decide +kernel
theorem dX5_costOfSet_23 : decode cX5_costOfSet 23 = .ok (.iload_n 2, 1) := by decide +kernel
theorem dX5_costOfSet_24 : decode cX5_costOfSet 24 = .ok (.aload_n 0, 1) := by decide +kernel
theorem dX5_costOfSet_25 : decode cX5_costOfSet 25 = .ok (.iload_n 3, 1) := by decide +kernel
theorem dX5_costOfSet_26 : decode cX5_costOfSet 26 = .ok (.invokevirtual 158, 3) := by decide +kernel
theorem dX5_costOfSet_29 : decode cX5_costOfSet 29 = .ok (.iadd, 1) := by decide +kernel
theorem dX5_costOfSet_30 : decode cX5_costOfSet 30 = .ok (.istore_n 2, 1) := by decide +kernel
theorem dX5_costOfSet_31 : decode cX5_costOfSet 31 = .ok (.iinc 3 1, 3) := by decide +kernel
theorem dX5_costOfSet_34 : decode cX5_costOfSet 34 = .ok (.goto (-30), 3) := by decide +kernel
theorem dX5_costOfSet_37 : decode cX5_costOfSet 37 = .ok (.iload_n 2, 1) := by decide +kernel
theorem dX5_costOfSet_38 : decode cX5_costOfSet 38 = .ok (.ireturn, 1) := by decide +kernel
theorem dX5_cheapestStar_0 : decode cX5_cheapestStar 0 = .ok (.bipush (-4), 2) := by decide +kernel
theorem dX5_cheapestStar_2 : decode cX5_cheapestStar 2 = .ok (.istore_n 2, 1) := by decide +kernel
theorem dX5_cheapestStar_3 : decode cX5_cheapestStar 3 = .ok (.iconst 0, 1) := by decide +kernel
theorem dX5_cheapestStar_4 : decode cX5_cheapestStar 4 = .ok (.istore_n 3, 1) := by decide +kernel
theorem dX5_cheapestStar_5 : decode cX5_cheapestStar 5 = .ok (.iload_n 3, 1) := by decide +kernel
theorem dX5_cheapestStar_6 : decode cX5_cheapestStar 6 = .ok (.aload_n 0, 1) := by decide +kernel
theorem dX5_cheapestStar_7 : decode cX5_cheapestStar 7 = .ok (.getfield 12, 3) := by decide +kernel
theorem dX5_cheapestStar_10 : decode cX5_cheapestStar 10 = .ok (.getfield 66, 3) := by decide +kernel
theorem dX5_cheapestStar_13 : decode cX5_cheapestStar 13 = .ok (.if_icmp .ge 66, 3) := by decide +kernel
theorem dX5_cheapestStar_16 : decode cX5_cheapestStar 16 = .ok (.aload_n 0, 1) := by decide +kernel
theorem dX5_cheapestStar_17 : decode cX5_cheapestStar 17 = .ok (.getfield 12, 3) := by decide +kernel
theorem dX5_cheapestStar_20 : decode cX5_cheapestStar 20 = .ok (.iload_n 3, 1) := by decide +kernel
theorem dX5_cheapestStar_21 : decode cX5_cheapestStar 21 = .ok (.invokevirtual 101, 3) := by decide +kernel
theorem dX5_cheapestStar_24 : decode cX5_cheapestStar 24 = .ok (.ifCond .eq 23, 3) := by decide +kernel
theorem dX5_cheapestStar_27 : decode cX5_cheapestStar 27 = .ok (.aload_n 0, 1) := by decide +kernel
theorem dX5_cheapestStar_28 : decode cX5_cheapestStar 28 = .ok (.getfield 21, 3) := by decide +kernel
theorem dX5_cheapestStar_31 : decode cX5_cheapestStar 31 = .ok (.getfield 90, 3) := by decide +kernel
theorem dX5_cheapestStar_34 : decode cX5_cheapestStar 34 = .ok (.iload_n 1, 1) := by decide +kernel
theorem dX5_cheapestStar_35 : decode cX5_cheapestStar 35 = .ok (.iaload, 1) := by decide +kernel
theorem dX5_cheapestStar_36 : decode cX5_cheapestStar 36 = .ok (.iconst 1, 1) := by decide +kernel
theorem dX5_cheapestStar_37 : decode cX5_cheapestStar 37 = .ok (.iload_n 3, 1) := by decide +kernel
theorem dX5_cheapestStar_38 : decode cX5_cheapestStar 38 = .ok (.ishl, 1) := by decide +kernel
theorem dX5_cheapestStar_39 : decode cX5_cheapestStar 39 = .ok (.iand, 1) := by decide +kernel
theorem dX5_cheapestStar_40 : decode cX5_cheapestStar 40 = .ok (.ifCond .ne 7, 3) := by decide +kernel
theorem dX5_cheapestStar_43 : decode cX5_cheapestStar 43 = .ok (.iconst 1, 1) := by decide +kernel
theorem dX5_cheapestStar_44 : decode cX5_cheapestStar 44 = .ok (.goto 4, 3) := by decide +kernel
theorem dX5_cheapestStar_47 : decode cX5_cheapestStar 47 = .ok (.iconst 0, 1) := by decide +kernel
theorem dX5_cheapestStar_48 : decode cX5_cheapestStar 48 = .ok (.istore 4, 2) := by decide +kernel
theorem dX5_cheapestStar_50 : decode cX5_cheapestStar 50 = .ok (.iload 4, 2) := by decide +kernel
theorem dX5_cheapestStar_52 : decode cX5_cheapestStar 52 = .ok (.ifCond .eq 21, 3) := by decide +kernel
theorem dX5_cheapestStar_55 : decode cX5_cheapestStar 55 = .ok (.iload_n 2, 1) := by decide +kernel
theorem dX5_cheapestStar_56 : decode cX5_cheapestStar 56 = .ok (.bipush (-4), 2) := by decide +kernel
theorem dX5_cheapestStar_58 : decode cX5_cheapestStar 58 = .ok (.if_icmp .eq 13, 3) := by decide +kernel
theorem dX5_cheapestStar_61 : decode cX5_cheapestStar 61 = .ok (.aload_n 0, 1) := by decide +kernel
theorem dX5_cheapestStar_62 : decode cX5_cheapestStar 62 = .ok (.iload_n 1, 1) := by decide +kernel
theorem dX5_cheapestStar_63 : decode cX5_cheapestStar 63 = .ok (.iload_n 3, 1) := by decide +kernel
theorem dX5_cheapestStar_64 : decode cX5_cheapestStar 64 = .ok (.iload_n 2, 1) := by decide +kernel
theorem dX5_cheapestStar_65 : decode cX5_cheapestStar 65 = .ok (.invokevirtual 201, 3) := by decide +kernel
theorem dX5_cheapestStar_68 : decode cX5_cheapestStar 68 = .ok (.ifCond .eq 5, 3) := by decide +kernel
theorem dX5_cheapestStar_71 : decode cX5_cheapestStar 71 = .ok (.iload_n 3, 1) := by decide +kernel
theorem dX5_cheapestStar_72 : decode cX5_cheapestStar 72 = .ok (.istore_n 2, 1) := by decide +kernel
theorem dX5_cheapestStar_73 : decode cX5_cheapestStar 73 = .ok (.iinc 3 1, 3) := by decide +kernel
theorem dX5_cheapestStar_76 : decode cX5_cheapestStar 76 = .ok (.goto (-71), 3) := by decide +kernel
theorem dX5_cheapestStar_79 : decode cX5_cheapestStar 79 = .ok (.iload_n 2, 1) := by decide +kernel
theorem dX5_cheapestStar_80 : decode cX5_cheapestStar 80 = .ok (.ireturn, 1) := by decide +kernel
theorem dX5_isCheaper_0 : decode cX5_isCheaper 0 = .ok (.aload_n 0, 1) := by decide +kernel
theorem dX5_isCheaper_1 : decode cX5_isCheaper 1 = .ok (.iload_n 1, 1) := by decide +kernel
theorem dX5_isCheaper_2 : decode cX5_isCheaper 2 = .ok (.iload_n 2, 1) := by decide +kernel
theorem dX5_isCheaper_3 : decode cX5_isCheaper 3 = .ok (.invokevirtual 107, 3) := by decide +kernel
theorem dX5_isCheaper_6 : decode cX5_isCheaper 6 = .ok (.istore 4, 2) := by decide +kernel
theorem dX5_isCheaper_8 : decode cX5_isCheaper 8 = .ok (.aload_n 0, 1) := by decide +kernel
theorem dX5_isCheaper_9 : decode cX5_isCheaper 9 = .ok (.iload_n 1, 1) := by decide +kernel
theorem dX5_isCheaper_10 : decode cX5_isCheaper 10 = .ok (.iload_n 3, 1) := by decide +kernel
theorem dX5_isCheaper_11 : decode cX5_isCheaper 11 = .ok (.invokevirtual 107, 3) := by decide +kernel
theorem dX5_isCheaper_14 : decode cX5_isCheaper 14 = .ok (.istore 5, 2) := by decide +kernel
theorem dX5_isCheaper_16 : decode cX5_isCheaper 16 = .ok (.iload 4, 2) := by decide +kernel
theorem dX5_isCheaper_18 : decode cX5_isCheaper 18 = .ok (.iload 5, 2) := by decide +kernel
theorem dX5_isCheaper_20 : decode cX5_isCheaper 20 = .ok (.if_icmp .eq 16, 3) := by decide +kernel
theorem dX5_isCheaper_23 : decode cX5_isCheaper 23 = .ok (.iload 4, 2) := by decide +kernel
theorem dX5_isCheaper_25 : decode cX5_isCheaper 25 = .ok (.iload 5, 2) := by decide +kernel
theorem dX5_isCheaper_27 : decode cX5_isCheaper 27 = .ok (.if_icmp .ge 7, 3) := by decide +kernel
theorem dX5_isCheaper_30 : decode cX5_isCheaper 30 = .ok (.iconst 1, 1) := by decide +kernel
theorem dX5_isCheaper_31 : decode cX5_isCheaper 31 = .ok (.goto 4, 3) := by decide +kernel
theorem dX5_isCheaper_34 : decode cX5_isCheaper 34 = .ok (.iconst 0, 1) := by decide +kernel
theorem dX5_isCheaper_35 : decode cX5_isCheaper 35 = .ok (.ireturn, 1) := by decide +kernel
theorem dX5_isCheaper_36 : decode cX5_isCheaper 36 = .ok (.aload_n 0, 1) := by decide +kernel
theorem dX5_isCheaper_37 : decode cX5_isCheaper 37 = .ok (.getfield 12, 3) := by decide +kernel
theorem dX5_isCheaper_40 : decode cX5_isCheaper 40 = .ok (.getfield 117, 3) := by decide +kernel
theorem dX5_isCheaper_43 : decode cX5_isCheaper 43 = .ok (.iload_n 2, 1) := by decide +kernel
theorem dX5_isCheaper_44 : decode cX5_isCheaper 44 = .ok (.iaload, 1) := by decide +kernel
theorem dX5_isCheaper_45 : decode cX5_isCheaper 45 = .ok (.aload_n 0, 1) := by decide +kernel
theorem dX5_isCheaper_46 : decode cX5_isCheaper 46 = .ok (.getfield 12, 3) := by decide +kernel
theorem dX5_isCheaper_49 : decode cX5_isCheaper 49 = .ok (.getfield 117, 3) := by decide +kernel
theorem dX5_isCheaper_52 : decode cX5_isCheaper 52 = .ok (.iload_n 3, 1) := by decide +kernel
theorem dX5_isCheaper_53 : decode cX5_isCheaper 53 = .ok (.iaload, 1) := by decide +kernel
theorem dX5_isCheaper_54 : decode cX5_isCheaper 54 = .ok (.if_icmp .le 7, 3) := by decide +kernel
theorem dX5_isCheaper_57 : decode cX5_isCheaper 57 = .ok (.iconst 1, 1) := by decide +kernel
theorem dX5_isCheaper_58 : decode cX5_isCheaper 58 = .ok (.goto 4, 3) := by decide +kernel
theorem dX5_isCheaper_61 : decode cX5_isCheaper 61 = .ok (.iconst 0, 1) := by decide +kernel
theorem dX5_isCheaper_62 : decode cX5_isCheaper 62 = .ok (.ireturn, 1) := by decide +kernel
theorem dX5_roofAtPlace_0 : decode cX5_roofAtPlace 0 = .ok (.iconst 0, 1) := by decide +kernel
theorem dX5_roofAtPlace_1 : decode cX5_roofAtPlace 1 = .ok (.istore_n 2, 1) := by decide +kernel
theorem dX5_roofAtPlace_2 : decode cX5_roofAtPlace 2 = .ok (.iload_n 2, 1) := by decide +kernel
theorem dX5_roofAtPlace_3 : decode cX5_roofAtPlace 3 = .ok (.aload_n 0, 1) := by decide +kernel
theorem dX5_roofAtPlace_4 : decode cX5_roofAtPlace 4 = .ok (.getfield 21, 3) := by decide +kernel
theorem dX5_roofAtPlace_7 : decode cX5_roofAtPlace 7 = .ok (.getfield 78, 3) := by decide +kernel
theorem dX5_roofAtPlace_10 : decode cX5_roofAtPlace 10 = .ok (.if_icmp .ge 52, 3) := by decide +kernel
theorem dX5_roofAtPlace_13 : decode cX5_roofAtPlace 13 = .ok (.iconst 0, 1) := by decide +kernel
theorem dX5_roofAtPlace_14 : decode cX5_roofAtPlace 14 = .ok (.istore_n 3, 1) := by decide +kernel
theorem dX5_roofAtPlace_15 : decode cX5_roofAtPlace 15 = .ok (.iconst 0, 1) := by decide +kernel
theorem dX5_roofAtPlace_16 : decode cX5_roofAtPlace 16 = .ok (.istore 4, 2) := by decide +kernel
theorem dX5_roofAtPlace_18 : decode cX5_roofAtPlace 18 = .ok (.iload 4, 2) := by decide +kernel
theorem dX5_roofAtPlace_20 : decode cX5_roofAtPlace 20 = .ok (.aload_n 0, 1) := by decide +kernel
theorem dX5_roofAtPlace_21 : decode cX5_roofAtPlace 21 = .ok (.getfield 21, 3) := by decide +kernel
theorem dX5_roofAtPlace_24 : decode cX5_roofAtPlace 24 = .ok (.getfield 78, 3) := by decide +kernel
theorem dX5_roofAtPlace_27 : decode cX5_roofAtPlace 27 = .ok (.if_icmp .ge 22, 3) := by decide +kernel
theorem dX5_roofAtPlace_30 : decode cX5_roofAtPlace 30 = .ok (.aload_n 0, 1) := by decide +kernel
theorem dX5_roofAtPlace_31 : decode cX5_roofAtPlace 31 = .ok (.iload 4, 2) := by decide +kernel
theorem dX5_roofAtPlace_33 : decode cX5_roofAtPlace 33 = .ok (.iload_n 2, 1) := by decide +kernel
theorem dX5_roofAtPlace_34 : decode cX5_roofAtPlace 34 = .ok (.invokevirtual 204, 3) := by decide +kernel
theorem dX5_roofAtPlace_37 : decode cX5_roofAtPlace 37 = .ok (.ifCond .eq 6, 3) := by decide +kernel
theorem dX5_roofAtPlace_40 : decode cX5_roofAtPlace 40 = .ok (.iinc 3 1, 3) := by decide +kernel
theorem dX5_roofAtPlace_43 : decode cX5_roofAtPlace 43 = .ok (.iinc 4 1, 3) := by decide +kernel
theorem dX5_roofAtPlace_46 : decode cX5_roofAtPlace 46 = .ok (.goto (-28), 3) := by decide +kernel
theorem dX5_roofAtPlace_49 : decode cX5_roofAtPlace 49 = .ok (.iload_n 3, 1) := by decide +kernel
theorem dX5_roofAtPlace_50 : decode cX5_roofAtPlace 50 = .ok (.iload_n 1, 1) := by decide +kernel
theorem dX5_roofAtPlace_51 : decode cX5_roofAtPlace 51 = .ok (.if_icmp .ne 5, 3) := by decide +kernel
theorem dX5_roofAtPlace_54 : decode cX5_roofAtPlace 54 = .ok (.iload_n 2, 1) := by decide +kernel
theorem dX5_roofAtPlace_55 : decode cX5_roofAtPlace 55 = .ok (.ireturn, 1) := by decide +kernel
theorem dX5_roofAtPlace_56 : decode cX5_roofAtPlace 56 = .ok (.iinc 2 1, 3) := by decide +kernel
theorem dX5_roofAtPlace_59 : decode cX5_roofAtPlace 59 = .ok (.goto (-57), 3) := by decide +kernel
theorem dX5_roofAtPlace_62 : decode cX5_roofAtPlace 62 = .ok (.iconst (-1), 1) := by decide +kernel
theorem dX5_roofAtPlace_63 : decode cX5_roofAtPlace 63 = .ok (.ireturn, 1) := by decide +kernel
theorem dX5_isRicher_0 : decode cX5_isRicher 0 = .ok (.aload_n 0, 1) := by decide +kernel
theorem dX5_isRicher_1 : decode cX5_isRicher 1 = .ok (.getfield 21, 3) := by decide +kernel
theorem dX5_isRicher_4 : decode cX5_isRicher 4 = .ok (.getfield 120, 3) := by decide +kernel
theorem dX5_isRicher_7 : decode cX5_isRicher 7 = .ok (.iload_n 1, 1) := by decide +kernel
theorem dX5_isRicher_8 : decode cX5_isRicher 8 = .ok (.iaload, 1) := by decide +kernel
theorem dX5_isRicher_9 : decode cX5_isRicher 9 = .ok (.aload_n 0, 1) := by decide +kernel
theorem dX5_isRicher_10 : decode cX5_isRicher 10 = .ok (.getfield 21, 3) := by decide +kernel
theorem dX5_isRicher_13 : decode cX5_isRicher 13 = .ok (.getfield 127, 3) := by decide +kernel
theorem dX5_isRicher_16 : decode cX5_isRicher 16 = .ok (.iload_n 1, 1) := by decide +kernel
theorem dX5_isRicher_17 : decode cX5_isRicher 17 = .ok (.iaload, 1) := by decide +kernel
theorem dX5_isRicher_18 : decode cX5_isRicher 18 = .ok (.isub, 1) := by decide +kernel
theorem dX5_isRicher_19 : decode cX5_isRicher 19 = .ok (.istore_n 3, 1) := by decide +kernel
theorem dX5_isRicher_20 : decode cX5_isRicher 20 = .ok (.aload_n 0, 1) := by decide +kernel
theorem dX5_isRicher_21 : decode cX5_isRicher 21 = .ok (.getfield 21, 3) := by decide +kernel
theorem dX5_isRicher_24 : decode cX5_isRicher 24 = .ok (.getfield 120, 3) := by decide +kernel
theorem dX5_isRicher_27 : decode cX5_isRicher 27 = .ok (.iload_n 2, 1) := by decide +kernel
theorem dX5_isRicher_28 : decode cX5_isRicher 28 = .ok (.iaload, 1) := by decide +kernel
theorem dX5_isRicher_29 : decode cX5_isRicher 29 = .ok (.aload_n 0, 1) := by decide +kernel
theorem dX5_isRicher_30 : decode cX5_isRicher 30 = .ok (.getfield 21, 3) := by decide +kernel
theorem dX5_isRicher_33 : decode cX5_isRicher 33 = .ok (.getfield 127, 3) := by decide +kernel
theorem dX5_isRicher_36 : decode cX5_isRicher 36 = .ok (.iload_n 2, 1) := by decide +kernel
theorem dX5_isRicher_37 : decode cX5_isRicher 37 = .ok (.iaload, 1) := by decide +kernel
theorem dX5_isRicher_38 : decode cX5_isRicher 38 = .ok (.isub, 1) := by decide +kernel
theorem dX5_isRicher_39 : decode cX5_isRicher 39 = .ok (.istore 4, 2) := by decide +kernel
theorem dX5_isRicher_41 : decode cX5_isRicher 41 = .ok (.iload_n 3, 1) := by decide +kernel
theorem dX5_isRicher_42 : decode cX5_isRicher 42 = .ok (.iload 4, 2) := by decide +kernel
theorem dX5_isRicher_44 : decode cX5_isRicher 44 = .ok (.if_icmp .eq 15, 3) := by decide +kernel
theorem dX5_isRicher_47 : decode cX5_isRicher 47 = .ok (.iload_n 3, 1) := by decide +kernel
theorem dX5_isRicher_48 : decode cX5_isRicher 48 = .ok (.iload 4, 2) := by decide +kernel
theorem dX5_isRicher_50 : decode cX5_isRicher 50 = .ok (.if_icmp .le 7, 3) := by decide +kernel
theorem dX5_isRicher_53 : decode cX5_isRicher 53 = .ok (.iconst 1, 1) := by decide +kernel
theorem dX5_isRicher_54 : decode cX5_isRicher 54 = .ok (.goto 4, 3) := by decide +kernel
theorem dX5_isRicher_57 : decode cX5_isRicher 57 = .ok (.iconst 0, 1) := by decide +kernel
theorem dX5_isRicher_58 : decode cX5_isRicher 58 = .ok (.ireturn, 1) := by decide +kernel
theorem dX5_isRicher_59 : decode cX5_isRicher 59 = .ok (.aload_n 0, 1) := by decide +kernel
theorem dX5_isRicher_60 : decode cX5_isRicher 60 = .ok (.getfield 28, 3) := by decide +kernel
theorem dX5_isRicher_63 : decode cX5_isRicher 63 = .ok (.iload_n 1, 1) := by decide +kernel
theorem dX5_isRicher_64 : decode cX5_isRicher 64 = .ok (.invokevirtual 139, 3) := by decide +kernel
theorem dX5_isRicher_67 : decode cX5_isRicher 67 = .ok (.istore 5, 2) := by decide +kernel
theorem dX5_isRicher_69 : decode cX5_isRicher 69 = .ok (.aload_n 0, 1) := by decide +kernel
theorem dX5_isRicher_70 : decode cX5_isRicher 70 = .ok (.getfield 28, 3) := by decide +kernel
theorem dX5_isRicher_73 : decode cX5_isRicher 73 = .ok (.iload_n 2, 1) := by decide +kernel
theorem dX5_isRicher_74 : decode cX5_isRicher 74 = .ok (.invokevirtual 139, 3) := by decide +kernel
theorem dX5_isRicher_77 : decode cX5_isRicher 77 = .ok (.istore 6, 2) := by decide +kernel
theorem dX5_isRicher_79 : decode cX5_isRicher 79 = .ok (.iload 5, 2) := by decide +kernel
theorem dX5_isRicher_81 : decode cX5_isRicher 81 = .ok (.iload 6, 2) := by decide +kernel
theorem dX5_isRicher_83 : decode cX5_isRicher 83 = .ok (.if_icmp .eq 16, 3) := by decide +kernel
theorem dX5_isRicher_86 : decode cX5_isRicher 86 = .ok (.iload 5, 2) := by decide +kernel
theorem dX5_isRicher_88 : decode cX5_isRicher 88 = .ok (.iload 6, 2) := by decide +kernel
theorem dX5_isRicher_90 : decode cX5_isRicher 90 = .ok (.if_icmp .ge 7, 3) := by decide +kernel
theorem dX5_isRicher_93 : decode cX5_isRicher 93 = .ok (.iconst 1, 1) := by decide +kernel
theorem dX5_isRicher_94 : decode cX5_isRicher 94 = .ok (.goto 4, 3) := by decide +kernel
theorem dX5_isRicher_97 : decode cX5_isRicher 97 = .ok (.iconst 0, 1) := by decide +kernel
theorem dX5_isRicher_98 : decode cX5_isRicher 98 = .ok (.ireturn, 1) := by decide +kernel
theorem dX5_isRicher_99 : decode cX5_isRicher 99 = .ok (.iload_n 1, 1) := by decide +kernel
theorem dX5_isRicher_100 : decode cX5_isRicher 100 = .ok (.iload_n 2, 1) := by decide +kernel
theorem dX5_isRicher_101 : decode cX5_isRicher 101 = .ok (.if_icmp .ge 7, 3) := by decide +kernel
theorem dX5_isRicher_104 : decode cX5_isRicher 104 = .ok (.iconst 1, 1) := by decide +kernel
theorem dX5_isRicher_105 : decode cX5_isRicher 105 = .ok (.goto 4, 3) := by decide +kernel
theorem dX5_isRicher_108 : decode cX5_isRicher 108 = .ok (.iconst 0, 1) := by decide +kernel
theorem dX5_isRicher_109 : decode cX5_isRicher 109 = .ok (.ireturn, 1) := by decide +kernel
theorem dX6_init_0 : decode cX6_init 0 = .ok (.aload_n 0, 1) := by decide +kernel
theorem dX6_init_1 : decode cX6_init 1 = .ok (.invokespecial 3, 3) := by decide +kernel
theorem dX6_init_4 : decode cX6_init 4 = .ok (.aload_n 0, 1) := by decide +kernel
theorem dX6_init_5 : decode cX6_init 5 = .ok (.bipush 8, 2) := by decide +kernel
theorem dX6_init_7 : decode cX6_init 7 = .ok (.newarray .int, 2) := by decide +kernel
theorem dX6_init_9 : decode cX6_init 9 = .ok (.putfield 9, 3) := by decide +kernel
theorem dX6_init_12 : decode cX6_init 12 = .ok (.aload_n 0, 1) := by decide +kernel
theorem dX6_init_13 : decode cX6_init 13 = .ok (.bipush 8, 2) := by decide +kernel
theorem dX6_init_15 : decode cX6_init 15 = .ok (.newarray .int, 2) := by decide +kernel
theorem dX6_init_17 : decode cX6_init 17 = .ok (.putfield 15, 3) := by decide +kernel
theorem dX6_init_20 : decode cX6_init 20 = .ok (.aload_n 0, 1) := by decide +kernel
theorem dX6_init_21 : decode cX6_init 21 = .ok (.bipush 8, 2) := by decide +kernel
theorem dX6_init_23 : decode cX6_init 23 = .ok (.newarray .int, 2) := by decide +kernel
theorem dX6_init_25 : decode cX6_init 25 = .ok (.putfield 18, 3) := by decide +kernel
theorem dX6_init_28 : decode cX6_init 28 = .ok (.aload_n 0, 1) := by decide +kernel
theorem dX6_init_29 : decode cX6_init 29 = .ok (.bipush 8, 2) := by decide +kernel
theorem dX6_init_31 : decode cX6_init 31 = .ok (.newarray .int, 2) := by decide +kernel
theorem dX6_init_33 : decode cX6_init 33 = .ok (.putfield 21, 3) := by decide +kernel
theorem dX6_init_36 : decode cX6_init 36 = .ok (.aload_n 0, 1) := by decide +kernel
theorem dX6_init_37 : decode cX6_init 37 = .ok (.iconst 4, 1) := by decide +kernel
theorem dX6_init_38 : decode cX6_init 38 = .ok (.newarray .int, 2) := by decide +kernel
theorem dX6_init_40 : decode cX6_init 40 = .ok (.putfield 24, 3) := by decide +kernel
theorem dX6_init_43 : decode cX6_init 43 = .ok (.return_, 1) := by decide +kernel
theorem dX6_copyFrom_0 : decode cX6_copyFrom 0 = .ok (.aload_n 0, 1) := by decide +kernel
theorem dX6_copyFrom_1 : decode cX6_copyFrom 1 = .ok (.aload_n 1, 1) := by decide +kernel
theorem dX6_copyFrom_2 : decode cX6_copyFrom 2 = .ok (.getfield 27, 3) := by decide +kernel
theorem dX6_copyFrom_5 : decode cX6_copyFrom 5 = .ok (.putfield 27, 3) := by decide +kernel
theorem dX6_copyFrom_8 : decode cX6_copyFrom 8 = .ok (.aload_n 1, 1) := by decide +kernel
theorem dX6_copyFrom_9 : decode cX6_copyFrom 9 = .ok (.getfield 9, 3) := by decide +kernel
theorem dX6_copyFrom_12 : decode cX6_copyFrom 12 = .ok (.aload_n 0, 1) := by decide +kernel
theorem dX6_copyFrom_13 : decode cX6_copyFrom 13 = .ok (.getfield 9, 3) := by decide +kernel
theorem dX6_copyFrom_16 : decode cX6_copyFrom 16 = .ok (.invokestatic 31, 3) := by decide +kernel
theorem dX6_copyFrom_19 : decode cX6_copyFrom 19 = .ok (.aload_n 1, 1) := by decide +kernel
theorem dX6_copyFrom_20 : decode cX6_copyFrom 20 = .ok (.getfield 15, 3) := by decide +kernel
theorem dX6_copyFrom_23 : decode cX6_copyFrom 23 = .ok (.aload_n 0, 1) := by decide +kernel
theorem dX6_copyFrom_24 : decode cX6_copyFrom 24 = .ok (.getfield 15, 3) := by decide +kernel
theorem dX6_copyFrom_27 : decode cX6_copyFrom 27 = .ok (.invokestatic 31, 3) := by decide +kernel
theorem dX6_copyFrom_30 : decode cX6_copyFrom 30 = .ok (.aload_n 1, 1) := by decide +kernel
theorem dX6_copyFrom_31 : decode cX6_copyFrom 31 = .ok (.getfield 18, 3) := by decide +kernel
theorem dX6_copyFrom_34 : decode cX6_copyFrom 34 = .ok (.aload_n 0, 1) := by decide +kernel
theorem dX6_copyFrom_35 : decode cX6_copyFrom 35 = .ok (.getfield 18, 3) := by decide +kernel
theorem dX6_copyFrom_38 : decode cX6_copyFrom 38 = .ok (.invokestatic 31, 3) := by decide +kernel
theorem dX6_copyFrom_41 : decode cX6_copyFrom 41 = .ok (.aload_n 1, 1) := by decide +kernel
theorem dX6_copyFrom_42 : decode cX6_copyFrom 42 = .ok (.getfield 21, 3) := by decide +kernel
theorem dX6_copyFrom_45 : decode cX6_copyFrom 45 = .ok (.aload_n 0, 1) := by decide +kernel
theorem dX6_copyFrom_46 : decode cX6_copyFrom 46 = .ok (.getfield 21, 3) := by decide +kernel
theorem dX6_copyFrom_49 : decode cX6_copyFrom 49 = .ok (.invokestatic 31, 3) := by decide +kernel
theorem dX6_copyFrom_52 : decode cX6_copyFrom 52 = .ok (.aload_n 1, 1) := by decide +kernel
theorem dX6_copyFrom_53 : decode cX6_copyFrom 53 = .ok (.getfield 24, 3) := by decide +kernel
theorem dX6_copyFrom_56 : decode cX6_copyFrom 56 = .ok (.aload_n 0, 1) := by decide +kernel
theorem dX6_copyFrom_57 : decode cX6_copyFrom 57 = .ok (.getfield 24, 3) := by decide +kernel
theorem dX6_copyFrom_60 : decode cX6_copyFrom 60 = .ok (.invokestatic 31, 3) := by decide +kernel
theorem dX6_copyFrom_63 : decode cX6_copyFrom 63 = .ok (.return_, 1) := by decide +kernel
theorem dX6_add_0 : decode cX6_add 0 = .ok (.aload_n 0, 1) := by decide +kernel
theorem dX6_add_1 : decode cX6_add 1 = .ok (.getfield 27, 3) := by decide +kernel
theorem dX6_add_4 : decode cX6_add 4 = .ok (.istore_n 3, 1) := by decide +kernel
theorem dX6_add_5 : decode cX6_add 5 = .ok (.aload_n 0, 1) := by decide +kernel
theorem dX6_add_6 : decode cX6_add 6 = .ok (.getfield 9, 3) := by decide +kernel
theorem dX6_add_9 : decode cX6_add 9 = .ok (.iload_n 3, 1) := by decide +kernel
theorem dX6_add_10 : decode cX6_add 10 = .ok (.iload_n 1, 1) := by decide +kernel
theorem dX6_add_11 : decode cX6_add 11 = .ok (.iastore, 1) := by decide +kernel
theorem dX6_add_12 : decode cX6_add 12 = .ok (.aload_n 0, 1) := by decide +kernel
theorem dX6_add_13 : decode cX6_add 13 = .ok (.getfield 15, 3) := by decide +kernel
theorem dX6_add_16 : decode cX6_add 16 = .ok (.iload_n 3, 1) := by decide +kernel
theorem dX6_add_17 : decode cX6_add 17 = .ok (.iload_n 2, 1) := by decide +kernel
theorem dX6_add_18 : decode cX6_add 18 = .ok (.iastore, 1) := by decide +kernel
theorem dX6_add_19 : decode cX6_add 19 = .ok (.aload_n 0, 1) := by decide +kernel
theorem dX6_add_20 : decode cX6_add 20 = .ok (.getfield 18, 3) := by decide +kernel
theorem dX6_add_23 : decode cX6_add 23 = .ok (.iload_n 3, 1) := by decide +kernel
theorem dX6_add_24 : decode cX6_add 24 = .ok (.bipush (-4), 2) := by decide +kernel
theorem dX6_add_26 : decode cX6_add 26 = .ok (.iastore, 1) := by decide +kernel
theorem dX6_add_27 : decode cX6_add 27 = .ok (.aload_n 0, 1) := by decide +kernel
theorem dX6_add_28 : decode cX6_add 28 = .ok (.getfield 21, 3) := by decide +kernel
theorem dX6_add_31 : decode cX6_add 31 = .ok (.iload_n 3, 1) := by decide +kernel
theorem dX6_add_32 : decode cX6_add 32 = .ok (.iconst 0, 1) := by decide +kernel
theorem dX6_add_33 : decode cX6_add 33 = .ok (.iastore, 1) := by decide +kernel
theorem dX6_add_34 : decode cX6_add 34 = .ok (.aload_n 0, 1) := by decide +kernel
theorem dX6_add_35 : decode cX6_add 35 = .ok (.dup, 1) := by decide +kernel
theorem dX6_add_36 : decode cX6_add 36 = .ok (.getfield 27, 3) := by decide +kernel
theorem dX6_add_39 : decode cX6_add 39 = .ok (.iconst 1, 1) := by decide +kernel
theorem dX6_add_40 : decode cX6_add 40 = .ok (.iadd, 1) := by decide +kernel
theorem dX6_add_41 : decode cX6_add 41 = .ok (.putfield 27, 3) := by decide +kernel
theorem dX6_add_44 : decode cX6_add 44 = .ok (.iload_n 3, 1) := by decide +kernel
theorem dX6_add_45 : decode cX6_add 45 = .ok (.ireturn, 1) := by decide +kernel
theorem dX6_has_0 : decode cX6_has 0 = .ok (.iload_n 1, 1) := by decide +kernel
theorem dX6_has_1 : decode cX6_has 1 = .ok (.ifCond .lt 15, 3) := by decide +kernel
theorem dX6_has_4 : decode cX6_has 4 = .ok (.iload_n 1, 1) := by decide +kernel
theorem dX6_has_5 : decode cX6_has 5 = .ok (.aload_n 0, 1) := by decide +kernel
theorem dX6_has_6 : decode cX6_has 6 = .ok (.getfield 27, 3) := by decide +kernel
theorem dX6_has_9 : decode cX6_has 9 = .ok (.if_icmp .ge 7, 3) := by decide +kernel
theorem dX6_has_12 : decode cX6_has 12 = .ok (.iconst 1, 1) := by decide +kernel
theorem dX6_has_13 : decode cX6_has 13 = .ok (.goto 4, 3) := by decide +kernel
theorem dX6_has_16 : decode cX6_has 16 = .ok (.iconst 0, 1) := by decide +kernel
theorem dX6_has_17 : decode cX6_has 17 = .ok (.ireturn, 1) := by decide +kernel
theorem dX6_isSeen_0 : decode cX6_isSeen 0 = .ok (.aload_n 0, 1) := by decide +kernel
theorem dX6_isSeen_1 : decode cX6_isSeen 1 = .ok (.getfield 9, 3) := by decide +kernel
theorem dX6_isSeen_4 : decode cX6_isSeen 4 = .ok (.iload_n 1, 1) := by decide +kernel
theorem dX6_isSeen_5 : decode cX6_isSeen 5 = .ok (.iaload, 1) := by decide +kernel
theorem dX6_isSeen_6 : decode cX6_isSeen 6 = .ok (.aload_n 0, 1) := by decide +kernel
theorem dX6_isSeen_7 : decode cX6_isSeen 7 = .ok (.getfield 24, 3) := by decide +kernel
theorem dX6_isSeen_10 : decode cX6_isSeen 10 = .ok (.aload_n 0, 1) := by decide +kernel
theorem dX6_isSeen_11 : decode cX6_isSeen 11 = .ok (.getfield 15, 3) := by decide +kernel
theorem dX6_isSeen_14 : decode cX6_isSeen 14 = .ok (.iload_n 1, 1) := by decide +kernel
theorem dX6_isSeen_15 : decode cX6_isSeen 15 = .ok (.iaload, 1) := by decide +kernel
theorem dX6_isSeen_16 : decode cX6_isSeen 16 = .ok (.iaload, 1) := by decide +kernel
theorem dX6_isSeen_17 : decode cX6_isSeen 17 = .ok (.if_icmp .le 7, 3) := by decide +kernel
theorem dX6_isSeen_20 : decode cX6_isSeen 20 = .ok (.iconst 1, 1) := by decide +kernel
theorem dX6_isSeen_21 : decode cX6_isSeen 21 = .ok (.goto 4, 3) := by decide +kernel
theorem dX6_isSeen_24 : decode cX6_isSeen 24 = .ok (.iconst 0, 1) := by decide +kernel
theorem dX6_isSeen_25 : decode cX6_isSeen 25 = .ok (.ireturn, 1) := by decide +kernel
theorem dX6_countSeen_0 : decode cX6_countSeen 0 = .ok (.iconst 0, 1) := by decide +kernel
theorem dX6_countSeen_1 : decode cX6_countSeen 1 = .ok (.istore_n 2, 1) := by decide +kernel
theorem dX6_countSeen_2 : decode cX6_countSeen 2 = .ok (.iconst 0, 1) := by decide +kernel
theorem dX6_countSeen_3 : decode cX6_countSeen 3 = .ok (.istore_n 3, 1) := by decide +kernel
theorem dX6_countSeen_4 : decode cX6_countSeen 4 = .ok (.iload_n 3, 1) := by decide +kernel
theorem dX6_countSeen_5 : decode cX6_countSeen 5 = .ok (.aload_n 0, 1) := by decide +kernel
theorem dX6_countSeen_6 : decode cX6_countSeen 6 = .ok (.getfield 27, 3) := by decide +kernel
theorem dX6_countSeen_9 : decode cX6_countSeen 9 = .ok (.if_icmp .ge 30, 3) := by decide +kernel
theorem dX6_countSeen_12 : decode cX6_countSeen 12 = .ok (.aload_n 0, 1) := by decide +kernel
theorem dX6_countSeen_13 : decode cX6_countSeen 13 = .ok (.getfield 15, 3) := by decide +kernel
theorem dX6_countSeen_16 : decode cX6_countSeen 16 = .ok (.iload_n 3, 1) := by decide +kernel
theorem dX6_countSeen_17 : decode cX6_countSeen 17 = .ok (.iaload, 1) := by decide +kernel
theorem dX6_countSeen_18 : decode cX6_countSeen 18 = .ok (.iload_n 1, 1) := by decide +kernel
theorem dX6_countSeen_19 : decode cX6_countSeen 19 = .ok (.if_icmp .ne 14, 3) := by decide +kernel
theorem dX6_countSeen_22 : decode cX6_countSeen 22 = .ok (.aload_n 0, 1) := by decide +kernel
theorem dX6_countSeen_23 : decode cX6_countSeen 23 = .ok (.iload_n 3, 1) := by decide +kernel
theorem dX6_countSeen_24 : decode cX6_countSeen 24 = .ok (.invokevirtual 35, 3) := by decide +kernel
theorem dX6_countSeen_27 : decode cX6_countSeen 27 = .ok (.ifCond .eq 6, 3) := by decide +kernel
theorem dX6_countSeen_30 : decode cX6_countSeen 30 = .ok (.iinc 2 1, 3) := by decide +kernel
theorem dX6_countSeen_33 : decode cX6_countSeen 33 = .ok (.iinc 3 1, 3) := by decide +kernel
theorem dX6_countSeen_36 : decode cX6_countSeen 36 = .ok (.goto (-32), 3) := by decide +kernel
theorem dX6_countSeen_39 : decode cX6_countSeen 39 = .ok (.iload_n 2, 1) := by decide +kernel
theorem dX6_countSeen_40 : decode cX6_countSeen 40 = .ok (.ireturn, 1) := by decide +kernel
theorem dX6_countSeenByBrightness_0 : decode cX6_countSeenByBrightness 0 = .ok (.iconst 0, 1) := by decide +kernel
theorem dX6_countSeenByBrightness_1 : decode cX6_countSeenByBrightness 1 = .ok (.istore_n 2, 1) := by decide +kernel
theorem dX6_countSeenByBrightness_2 : decode cX6_countSeenByBrightness 2 = .ok (.aload_n 0, 1) := by decide +kernel
theorem dX6_countSeenByBrightness_3 : decode cX6_countSeenByBrightness 3 = .ok (.getfield 24, 3) := by decide +kernel
theorem dX6_countSeenByBrightness_6 : decode cX6_countSeenByBrightness 6 = .ok (.iload_n 1, 1) := by decide +kernel
theorem dX6_countSeenByBrightness_7 : decode cX6_countSeenByBrightness 7 = .ok (.iaload, 1) := by decide +kernel
theorem dX6_countSeenByBrightness_8 : decode cX6_countSeenByBrightness 8 = .ok (.iconst 1, 1) := by decide +kernel
theorem dX6_countSeenByBrightness_9 : decode cX6_countSeenByBrightness 9 = .ok (.iadd, 1) := by decide +kernel
theorem dX6_countSeenByBrightness_10 : decode cX6_countSeenByBrightness 10 = .ok (.istore_n 3, 1) := by decide +kernel
theorem dX6_countSeenByBrightness_11 : decode cX6_countSeenByBrightness 11 = .ok (.iload_n 3, 1) := by decide +kernel
theorem dX6_countSeenByBrightness_12 : decode cX6_countSeenByBrightness 12 = .ok (.bipush 9, 2) := by decide +kernel
theorem dX6_countSeenByBrightness_14 : decode cX6_countSeenByBrightness 14 = .ok (.if_icmp .gt 18, 3) := by decide +kernel
theorem dX6_countSeenByBrightness_17 : decode cX6_countSeenByBrightness 17 = .ok (.iload_n 2, 1) := by decide +kernel
theorem dX6_countSeenByBrightness_18 : decode cX6_countSeenByBrightness 18 = .ok (.aload_n 0, 1) := by decide +kernel
theorem dX6_countSeenByBrightness_19 : decode cX6_countSeenByBrightness 19 = .ok (.iload_n 1, 1) := by decide +kernel
theorem dX6_countSeenByBrightness_20 : decode cX6_countSeenByBrightness 20 = .ok (.iload_n 3, 1) := by decide +kernel
theorem dX6_countSeenByBrightness_21 : decode cX6_countSeenByBrightness 21 = .ok (.invokevirtual 39, 3) := by decide +kernel
theorem dX6_countSeenByBrightness_24 : decode cX6_countSeenByBrightness 24 = .ok (.iadd, 1) := by decide +kernel
theorem dX6_countSeenByBrightness_25 : decode cX6_countSeenByBrightness 25 = .ok (.istore_n 2, 1) := by decide +kernel
theorem dX6_countSeenByBrightness_26 : decode cX6_countSeenByBrightness 26 = .ok (.iinc 3 1, 3) := by decide +kernel
theorem dX6_countSeenByBrightness_29 : decode cX6_countSeenByBrightness 29 = .ok (.goto (-18), 3) := by decide +kernel
theorem dX6_countSeenByBrightness_32 : decode cX6_countSeenByBrightness 32 = .ok (.iload_n 2, 1) := by decide +kernel
theorem dX6_countSeenByBrightness_33 : decode cX6_countSeenByBrightness 33 = .ok (.ireturn, 1) := by decide +kernel
theorem dX6_countOfBrightness_0 : decode cX6_countOfBrightness 0 = .ok (.iconst 0, 1) := by decide +kernel
theorem dX6_countOfBrightness_1 : decode cX6_countOfBrightness 1 = .ok (.istore_n 3, 1) := by decide +kernel
theorem dX6_countOfBrightness_2 : decode cX6_countOfBrightness 2 = .ok (.iconst 0, 1) := by decide +kernel
theorem dX6_countOfBrightness_3 : decode cX6_countOfBrightness 3 = .ok (.istore 4, 2) := by decide +kernel
theorem dX6_countOfBrightness_5 : decode cX6_countOfBrightness 5 = .ok (.iload 4, 2) := by decide +kernel
theorem dX6_countOfBrightness_7 : decode cX6_countOfBrightness 7 = .ok (.aload_n 0, 1) := by decide +kernel
theorem dX6_countOfBrightness_8 : decode cX6_countOfBrightness 8 = .ok (.getfield 27, 3) := by decide +kernel
theorem dX6_countOfBrightness_11 : decode cX6_countOfBrightness 11 = .ok (.if_icmp .ge 34, 3) := by decide +kernel
theorem dX6_countOfBrightness_14 : decode cX6_countOfBrightness 14 = .ok (.aload_n 0, 1) := by decide +kernel
theorem dX6_countOfBrightness_15 : decode cX6_countOfBrightness 15 = .ok (.getfield 15, 3) := by decide +kernel
theorem dX6_countOfBrightness_18 : decode cX6_countOfBrightness 18 = .ok (.iload 4, 2) := by decide +kernel
theorem dX6_countOfBrightness_20 : decode cX6_countOfBrightness 20 = .ok (.iaload, 1) := by decide +kernel
theorem dX6_countOfBrightness_21 : decode cX6_countOfBrightness 21 = .ok (.iload_n 1, 1) := by decide +kernel
theorem dX6_countOfBrightness_22 : decode cX6_countOfBrightness 22 = .ok (.if_icmp .ne 17, 3) := by decide +kernel
theorem dX6_countOfBrightness_25 : decode cX6_countOfBrightness 25 = .ok (.aload_n 0, 1) := by decide +kernel
theorem dX6_countOfBrightness_26 : decode cX6_countOfBrightness 26 = .ok (.getfield 9, 3) := by decide +kernel
theorem dX6_countOfBrightness_29 : decode cX6_countOfBrightness 29 = .ok (.iload 4, 2) := by decide +kernel
theorem dX6_countOfBrightness_31 : decode cX6_countOfBrightness 31 = .ok (.iaload, 1) := by decide +kernel
theorem dX6_countOfBrightness_32 : decode cX6_countOfBrightness 32 = .ok (.iload_n 2, 1) := by decide +kernel
theorem dX6_countOfBrightness_33 : decode cX6_countOfBrightness 33 = .ok (.if_icmp .ne 6, 3) := by decide +kernel
theorem dX6_countOfBrightness_36 : decode cX6_countOfBrightness 36 = .ok (.iinc 3 1, 3) := by decide +kernel
theorem dX6_countOfBrightness_39 : decode cX6_countOfBrightness 39 = .ok (.iinc 4 1, 3) := by decide +kernel
theorem dX6_countOfBrightness_42 : decode cX6_countOfBrightness 42 = .ok (.goto (-37), 3) := by decide +kernel
theorem dX6_countOfBrightness_45 : decode cX6_countOfBrightness 45 = .ok (.iload_n 3, 1) := by decide +kernel
theorem dX6_countOfBrightness_46 : decode cX6_countOfBrightness 46 = .ok (.ireturn, 1) := by decide +kernel
theorem dX6_dawnsUntilAllSeen_0 : decode cX6_dawnsUntilAllSeen 0 = .ok (.iconst 0, 1) := by decide +kernel
theorem dX6_dawnsUntilAllSeen_1 : decode cX6_dawnsUntilAllSeen 1 = .ok (.istore_n 2, 1) := by decide +kernel
theorem dX6_dawnsUntilAllSeen_2 : decode cX6_dawnsUntilAllSeen 2 = .ok (.iconst 0, 1) := by decide +kernel
theorem dX6_dawnsUntilAllSeen_3 : decode cX6_dawnsUntilAllSeen 3 = .ok (.istore_n 3, 1) := by decide +kernel
theorem dX6_dawnsUntilAllSeen_4 : decode cX6_dawnsUntilAllSeen 4 = .ok (.iload_n 3, 1) := by decide +kernel
theorem dX6_dawnsUntilAllSeen_5 : decode cX6_dawnsUntilAllSeen 5 = .ok (.aload_n 0, 1) := by decide +kernel
theorem dX6_dawnsUntilAllSeen_6 : decode cX6_dawnsUntilAllSeen 6 = .ok (.getfield 27, 3) := by decide +kernel
theorem dX6_dawnsUntilAllSeen_9 : decode cX6_dawnsUntilAllSeen 9 = .ok (.if_icmp .ge 39, 3) := by decide +kernel
theorem dX6_dawnsUntilAllSeen_12 : decode cX6_dawnsUntilAllSeen 12 = .ok (.aload_n 0, 1) := by decide +kernel
theorem dX6_dawnsUntilAllSeen_13 : decode cX6_dawnsUntilAllSeen 13 = .ok (.getfield 15, 3) := by decide +kernel
theorem dX6_dawnsUntilAllSeen_16 : decode cX6_dawnsUntilAllSeen 16 = .ok (.iload_n 3, 1) := by decide +kernel
theorem dX6_dawnsUntilAllSeen_17 : decode cX6_dawnsUntilAllSeen 17 = .ok (.iaload, 1) := by decide +kernel
theorem dX6_dawnsUntilAllSeen_18 : decode cX6_dawnsUntilAllSeen 18 = .ok (.iload_n 1, 1) := by decide +kernel
theorem dX6_dawnsUntilAllSeen_19 : decode cX6_dawnsUntilAllSeen 19 = .ok (.if_icmp .ne 23, 3) := by decide +kernel
theorem dX6_dawnsUntilAllSeen_22 : decode cX6_dawnsUntilAllSeen 22 = .ok (.iload_n 2, 1) := by decide +kernel
theorem dX6_dawnsUntilAllSeen_23 : decode cX6_dawnsUntilAllSeen 23 = .ok (.aload_n 0, 1) := by decide +kernel
theorem dX6_dawnsUntilAllSeen_24 : decode cX6_dawnsUntilAllSeen 24 = .ok (.getfield 24, 3) := by decide +kernel
theorem dX6_dawnsUntilAllSeen_27 : decode cX6_dawnsUntilAllSeen 27 = .ok (.iload_n 1, 1) := by decide +kernel
theorem dX6_dawnsUntilAllSeen_28 : decode cX6_dawnsUntilAllSeen 28 = .ok (.iaload, 1) := by decide +kernel
theorem dX6_dawnsUntilAllSeen_29 : decode cX6_dawnsUntilAllSeen 29 = .ok (.aload_n 0, 1) := by decide +kernel
theorem dX6_dawnsUntilAllSeen_30 : decode cX6_dawnsUntilAllSeen 30 = .ok (.getfield 9, 3) := by decide +kernel
theorem dX6_dawnsUntilAllSeen_33 : decode cX6_dawnsUntilAllSeen 33 = .ok (.iload_n 3, 1) := by decide +kernel
theorem dX6_dawnsUntilAllSeen_34 : decode cX6_dawnsUntilAllSeen 34 = .ok (.iaload, 1) := by decide +kernel
theorem dX6_dawnsUntilAllSeen_35 : decode cX6_dawnsUntilAllSeen 35 = .ok (.isub, 1) := by decide +kernel
theorem dX6_dawnsUntilAllSeen_36 : decode cX6_dawnsUntilAllSeen 36 = .ok (.iconst 1, 1) := by decide +kernel
theorem dX6_dawnsUntilAllSeen_37 : decode cX6_dawnsUntilAllSeen 37 = .ok (.iadd, 1) := by decide +kernel
theorem dX6_dawnsUntilAllSeen_38 : decode cX6_dawnsUntilAllSeen 38 = .ok (.invokestatic 43, 3) := by decide +kernel
theorem dX6_dawnsUntilAllSeen_41 : decode cX6_dawnsUntilAllSeen 41 = .ok (.istore_n 2, 1) := by decide +kernel
theorem dX6_dawnsUntilAllSeen_42 : decode cX6_dawnsUntilAllSeen 42 = .ok (.iinc 3 1, 3) := by decide +kernel
theorem dX6_dawnsUntilAllSeen_45 : decode cX6_dawnsUntilAllSeen 45 = .ok (.goto (-41), 3) := by decide +kernel
theorem dX6_dawnsUntilAllSeen_48 : decode cX6_dawnsUntilAllSeen 48 = .ok (.iload_n 2, 1) := by decide +kernel
theorem dX6_dawnsUntilAllSeen_49 : decode cX6_dawnsUntilAllSeen 49 = .ok (.ireturn, 1) := by decide +kernel
theorem dX6_countClaimed_0 : decode cX6_countClaimed 0 = .ok (.aload_n 0, 1) := by decide +kernel
theorem dX6_countClaimed_1 : decode cX6_countClaimed 1 = .ok (.getfield 27, 3) := by decide +kernel
theorem dX6_countClaimed_4 : decode cX6_countClaimed 4 = .ok (.aload_n 0, 1) := by decide +kernel
theorem dX6_countClaimed_5 : decode cX6_countClaimed 5 = .ok (.getfield 18, 3) := by decide +kernel
theorem dX6_countClaimed_8 : decode cX6_countClaimed 8 = .ok (.aload_n 0, 1) := by decide +kernel
theorem dX6_countClaimed_9 : decode cX6_countClaimed 9 = .ok (.getfield 27, 3) := by decide +kernel
theorem dX6_countClaimed_12 : decode cX6_countClaimed 12 = .ok (.bipush (-4), 2) := by decide +kernel
theorem dX6_countClaimed_14 : decode cX6_countClaimed 14 = .ok (.invokestatic 48, 3) := by decide +kernel
theorem dX6_countClaimed_17 : decode cX6_countClaimed 17 = .ok (.isub, 1) := by decide +kernel
theorem dX6_countClaimed_18 : decode cX6_countClaimed 18 = .ok (.ireturn, 1) := by decide +kernel
theorem dX6_countClaimedBy_0 : decode cX6_countClaimedBy 0 = .ok (.aload_n 0, 1) := by decide +kernel
theorem dX6_countClaimedBy_1 : decode cX6_countClaimedBy 1 = .ok (.getfield 18, 3) := by decide +kernel
theorem dX6_countClaimedBy_4 : decode cX6_countClaimedBy 4 = .ok (.aload_n 0, 1) := by decide +kernel
theorem dX6_countClaimedBy_5 : decode cX6_countClaimedBy 5 = .ok (.getfield 27, 3) := by decide +kernel
theorem dX6_countClaimedBy_8 : decode cX6_countClaimedBy 8 = .ok (.iload_n 1, 1) := by decide +kernel
theorem dX6_countClaimedBy_9 : decode cX6_countClaimedBy 9 = .ok (.invokestatic 48, 3) := by decide +kernel
theorem dX6_countClaimedBy_12 : decode cX6_countClaimedBy 12 = .ok (.ireturn, 1) := by decide +kernel
theorem dX6_starAtPlace_0 : decode cX6_starAtPlace 0 = .ok (.iconst 0, 1) := by decide +kernel
theorem dX6_starAtPlace_1 : decode cX6_starAtPlace 1 = .ok (.istore_n 2, 1) := by decide +kernel
theorem dX6_starAtPlace_2 : decode cX6_starAtPlace 2 = .ok (.iload_n 2, 1) := by decide +kernel
theorem dX6_starAtPlace_3 : decode cX6_starAtPlace 3 = .ok (.aload_n 0, 1) := by decide +kernel
theorem dX6_starAtPlace_4 : decode cX6_starAtPlace 4 = .ok (.getfield 27, 3) := by decide +kernel
theorem dX6_starAtPlace_7 : decode cX6_starAtPlace 7 = .ok (.if_icmp .ge 49, 3) := by decide +kernel
theorem dX6_starAtPlace_10 : decode cX6_starAtPlace 10 = .ok (.iconst 0, 1) := by decide +kernel
theorem dX6_starAtPlace_11 : decode cX6_starAtPlace 11 = .ok (.istore_n 3, 1) := by decide +kernel
theorem dX6_starAtPlace_12 : decode cX6_starAtPlace 12 = .ok (.iconst 0, 1) := by decide +kernel
theorem dX6_starAtPlace_13 : decode cX6_starAtPlace 13 = .ok (.istore 4, 2) := by decide +kernel
theorem dX6_starAtPlace_15 : decode cX6_starAtPlace 15 = .ok (.iload 4, 2) := by decide +kernel
theorem dX6_starAtPlace_17 : decode cX6_starAtPlace 17 = .ok (.aload_n 0, 1) := by decide +kernel
theorem dX6_starAtPlace_18 : decode cX6_starAtPlace 18 = .ok (.getfield 27, 3) := by decide +kernel
theorem dX6_starAtPlace_21 : decode cX6_starAtPlace 21 = .ok (.if_icmp .ge 22, 3) := by decide +kernel
theorem dX6_starAtPlace_24 : decode cX6_starAtPlace 24 = .ok (.aload_n 0, 1) := by decide +kernel
theorem dX6_starAtPlace_25 : decode cX6_starAtPlace 25 = .ok (.iload 4, 2) := by decide +kernel
theorem dX6_starAtPlace_27 : decode cX6_starAtPlace 27 = .ok (.iload_n 2, 1) := by decide +kernel
theorem dX6_starAtPlace_28 : decode cX6_starAtPlace 28 = .ok (.invokevirtual 52, 3) := by decide +kernel
theorem dX6_starAtPlace_31 : decode cX6_starAtPlace 31 = .ok (.ifCond .eq 6, 3) := by decide +kernel
theorem dX6_starAtPlace_34 : decode cX6_starAtPlace 34 = .ok (.iinc 3 1, 3) := by decide +kernel
theorem dX6_starAtPlace_37 : decode cX6_starAtPlace 37 = .ok (.iinc 4 1, 3) := by decide +kernel
theorem dX6_starAtPlace_40 : decode cX6_starAtPlace 40 = .ok (.goto (-25), 3) := by decide +kernel
theorem dX6_starAtPlace_43 : decode cX6_starAtPlace 43 = .ok (.iload_n 3, 1) := by decide +kernel
theorem dX6_starAtPlace_44 : decode cX6_starAtPlace 44 = .ok (.iload_n 1, 1) := by decide +kernel
theorem dX6_starAtPlace_45 : decode cX6_starAtPlace 45 = .ok (.if_icmp .ne 5, 3) := by decide +kernel
theorem dX6_starAtPlace_48 : decode cX6_starAtPlace 48 = .ok (.iload_n 2, 1) := by decide +kernel
theorem dX6_starAtPlace_49 : decode cX6_starAtPlace 49 = .ok (.ireturn, 1) := by decide +kernel
theorem dX6_starAtPlace_50 : decode cX6_starAtPlace 50 = .ok (.iinc 2 1, 3) := by decide +kernel
theorem dX6_starAtPlace_53 : decode cX6_starAtPlace 53 = .ok (.goto (-51), 3) := by decide +kernel
theorem dX6_starAtPlace_56 : decode cX6_starAtPlace 56 = .ok (.iconst (-1), 1) := by decide +kernel
theorem dX6_starAtPlace_57 : decode cX6_starAtPlace 57 = .ok (.ireturn, 1) := by decide +kernel
theorem dX6_isBrighter_0 : decode cX6_isBrighter 0 = .ok (.aload_n 0, 1) := by decide +kernel
theorem dX6_isBrighter_1 : decode cX6_isBrighter 1 = .ok (.getfield 9, 3) := by decide +kernel
theorem dX6_isBrighter_4 : decode cX6_isBrighter 4 = .ok (.iload_n 1, 1) := by decide +kernel
theorem dX6_isBrighter_5 : decode cX6_isBrighter 5 = .ok (.iaload, 1) := by decide +kernel
theorem dX6_isBrighter_6 : decode cX6_isBrighter 6 = .ok (.aload_n 0, 1) := by decide +kernel
theorem dX6_isBrighter_7 : decode cX6_isBrighter 7 = .ok (.getfield 9, 3) := by decide +kernel
theorem dX6_isBrighter_10 : decode cX6_isBrighter 10 = .ok (.iload_n 2, 1) := by decide +kernel
theorem dX6_isBrighter_11 : decode cX6_isBrighter 11 = .ok (.iaload, 1) := by decide +kernel
theorem dX6_isBrighter_12 : decode cX6_isBrighter 12 = .ok (.if_icmp .eq 24, 3) := by decide +kernel
theorem dX6_isBrighter_15 : decode cX6_isBrighter 15 = .ok (.aload_n 0, 1) := by decide +kernel
theorem dX6_isBrighter_16 : decode cX6_isBrighter 16 = .ok (.getfield 9, 3) := by decide +kernel
theorem dX6_isBrighter_19 : decode cX6_isBrighter 19 = .ok (.iload_n 1, 1) := by decide +kernel
theorem dX6_isBrighter_20 : decode cX6_isBrighter 20 = .ok (.iaload, 1) := by decide +kernel
theorem dX6_isBrighter_21 : decode cX6_isBrighter 21 = .ok (.aload_n 0, 1) := by decide +kernel
theorem dX6_isBrighter_22 : decode cX6_isBrighter 22 = .ok (.getfield 9, 3) := by decide +kernel
theorem dX6_isBrighter_25 : decode cX6_isBrighter 25 = .ok (.iload_n 2, 1) := by decide +kernel
theorem dX6_isBrighter_26 : decode cX6_isBrighter 26 = .ok (.iaload, 1) := by decide +kernel
theorem dX6_isBrighter_27 : decode cX6_isBrighter 27 = .ok (.if_icmp .le 7, 3) := by decide +kernel
theorem dX6_isBrighter_30 : decode cX6_isBrighter 30 = .ok (.iconst 1, 1) := by decide +kernel
theorem dX6_isBrighter_31 : decode cX6_isBrighter 31 = .ok (.goto 4, 3) := by decide +kernel
theorem dX6_isBrighter_34 : decode cX6_isBrighter 34 = .ok (.iconst 0, 1) := by decide +kernel
theorem dX6_isBrighter_35 : decode cX6_isBrighter 35 = .ok (.ireturn, 1) := by decide +kernel
theorem dX6_isBrighter_36 : decode cX6_isBrighter 36 = .ok (.aload_n 0, 1) := by decide +kernel
theorem dX6_isBrighter_37 : decode cX6_isBrighter 37 = .ok (.getfield 21, 3) := by decide +kernel
theorem dX6_isBrighter_40 : decode cX6_isBrighter 40 = .ok (.iload_n 1, 1) := by decide +kernel
theorem dX6_isBrighter_41 : decode cX6_isBrighter 41 = .ok (.iaload, 1) := by decide +kernel
theorem dX6_isBrighter_42 : decode cX6_isBrighter 42 = .ok (.aload_n 0, 1) := by decide +kernel
theorem dX6_isBrighter_43 : decode cX6_isBrighter 43 = .ok (.getfield 21, 3) := by decide +kernel
theorem dX6_isBrighter_46 : decode cX6_isBrighter 46 = .ok (.iload_n 2, 1) := by decide +kernel
theorem dX6_isBrighter_47 : decode cX6_isBrighter 47 = .ok (.iaload, 1) := by decide +kernel
theorem dX6_isBrighter_48 : decode cX6_isBrighter 48 = .ok (.if_icmp .eq 24, 3) := by decide +kernel
theorem dX6_isBrighter_51 : decode cX6_isBrighter 51 = .ok (.aload_n 0, 1) := by decide +kernel
theorem dX6_isBrighter_52 : decode cX6_isBrighter 52 = .ok (.getfield 21, 3) := by decide +kernel
theorem dX6_isBrighter_55 : decode cX6_isBrighter 55 = .ok (.iload_n 1, 1) := by decide +kernel
theorem dX6_isBrighter_56 : decode cX6_isBrighter 56 = .ok (.iaload, 1) := by decide +kernel
theorem dX6_isBrighter_57 : decode cX6_isBrighter 57 = .ok (.aload_n 0, 1) := by decide +kernel
theorem dX6_isBrighter_58 : decode cX6_isBrighter 58 = .ok (.getfield 21, 3) := by decide +kernel
theorem dX6_isBrighter_61 : decode cX6_isBrighter 61 = .ok (.iload_n 2, 1) := by decide +kernel
theorem dX6_isBrighter_62 : decode cX6_isBrighter 62 = .ok (.iaload, 1) := by decide +kernel
theorem dX6_isBrighter_63 : decode cX6_isBrighter 63 = .ok (.if_icmp .le 7, 3) := by decide +kernel
theorem dX6_isBrighter_66 : decode cX6_isBrighter 66 = .ok (.iconst 1, 1) := by decide +kernel
theorem dX6_isBrighter_67 : decode cX6_isBrighter 67 = .ok (.goto 4, 3) := by decide +kernel
theorem dX6_isBrighter_70 : decode cX6_isBrighter 70 = .ok (.iconst 0, 1) := by decide +kernel
theorem dX6_isBrighter_71 : decode cX6_isBrighter 71 = .ok (.ireturn, 1) := by decide +kernel
theorem dX6_isBrighter_72 : decode cX6_isBrighter 72 = .ok (.iload_n 1, 1) := by decide +kernel
theorem dX6_isBrighter_73 : decode cX6_isBrighter 73 = .ok (.iload_n 2, 1) := by decide +kernel
theorem dX6_isBrighter_74 : decode cX6_isBrighter 74 = .ok (.if_icmp .ge 7, 3) := by decide +kernel
theorem dX6_isBrighter_77 : decode cX6_isBrighter 77 = .ok (.iconst 1, 1) := by decide +kernel
theorem dX6_isBrighter_78 : decode cX6_isBrighter 78 = .ok (.goto 4, 3) := by decide +kernel
theorem dX6_isBrighter_81 : decode cX6_isBrighter 81 = .ok (.iconst 0, 1) := by decide +kernel
theorem dX6_isBrighter_82 : decode cX6_isBrighter 82 = .ok (.ireturn, 1) := by decide +kernel
theorem dX6_thinClouds_0 : decode cX6_thinClouds 0 = .ok (.iconst 0, 1) := by decide +kernel
theorem dX6_thinClouds_1 : decode cX6_thinClouds 1 = .ok (.istore_n 1, 1) := by decide +kernel
theorem dX6_thinClouds_2 : decode cX6_thinClouds 2 = .ok (.iload_n 1, 1) := by decide +kernel
theorem dX6_thinClouds_3 : decode cX6_thinClouds 3 = .ok (.iconst 4, 1) := by decide +kernel
theorem dX6_thinClouds_4 : decode cX6_thinClouds 4 = .ok (.if_icmp .ge 27, 3) := by decide +kernel
theorem dX6_thinClouds_7 : decode cX6_thinClouds 7 = .ok (.aload_n 0, 1) := by decide +kernel
theorem dX6_thinClouds_8 : decode cX6_thinClouds 8 = .ok (.getfield 24, 3) := by decide +kernel
theorem dX6_thinClouds_11 : decode cX6_thinClouds 11 = .ok (.iload_n 1, 1) := by decide +kernel
theorem dX6_thinClouds_12 : decode cX6_thinClouds 12 = .ok (.aload_n 0, 1) := by decide +kernel
theorem dX6_thinClouds_13 : decode cX6_thinClouds 13 = .ok (.getfield 24, 3) := by decide +kernel
theorem dX6_thinClouds_16 : decode cX6_thinClouds 16 = .ok (.iload_n 1, 1) := by decide +kernel
theorem dX6_thinClouds_17 : decode cX6_thinClouds 17 = .ok (.iaload, 1) := by decide +kernel
theorem dX6_thinClouds_18 : decode cX6_thinClouds 18 = .ok (.iconst 1, 1) := by decide +kernel
theorem dX6_thinClouds_19 : decode cX6_thinClouds 19 = .ok (.isub, 1) := by decide +kernel
theorem dX6_thinClouds_20 : decode cX6_thinClouds 20 = .ok (.iconst 0, 1) := by decide +kernel
theorem dX6_thinClouds_21 : decode cX6_thinClouds 21 = .ok (.invokestatic 43, 3) := by decide +kernel
theorem dX6_thinClouds_24 : decode cX6_thinClouds 24 = .ok (.iastore, 1) := by decide +kernel
theorem dX6_thinClouds_25 : decode cX6_thinClouds 25 = .ok (.iinc 1 1, 3) := by decide +kernel
theorem dX6_thinClouds_28 : decode cX6_thinClouds 28 = .ok (.goto (-26), 3) := by decide +kernel
theorem dX6_thinClouds_31 : decode cX6_thinClouds 31 = .ok (.return_, 1) := by decide +kernel
theorem dX7_init_0 : decode cX7_init 0 = .ok (.aload_n 0, 1) := by decide +kernel
theorem dX7_init_1 : decode cX7_init 1 = .ok (.invokespecial 3, 3) := by decide +kernel
theorem dX7_init_4 : decode cX7_init 4 = .ok (.aload_n 0, 1) := by decide +kernel
theorem dX7_init_5 : decode cX7_init 5 = .ok (.bipush 8, 2) := by decide +kernel
theorem dX7_init_7 : decode cX7_init 7 = .ok (.newarray .int, 2) := by decide +kernel
theorem dX7_init_9 : decode cX7_init 9 = .ok (.putfield 9, 3) := by decide +kernel
theorem dX7_init_12 : decode cX7_init 12 = .ok (.aload_n 0, 1) := by decide +kernel
theorem dX7_init_13 : decode cX7_init 13 = .ok (.bipush 8, 2) := by decide +kernel
theorem dX7_init_15 : decode cX7_init 15 = .ok (.newarray .int, 2) := by decide +kernel
theorem dX7_init_17 : decode cX7_init 17 = .ok (.putfield 15, 3) := by decide +kernel
theorem dX7_init_20 : decode cX7_init 20 = .ok (.aload_n 0, 1) := by decide +kernel
theorem dX7_init_21 : decode cX7_init 21 = .ok (.bipush 8, 2) := by decide +kernel
theorem dX7_init_23 : decode cX7_init 23 = .ok (.newarray .int, 2) := by decide +kernel
theorem dX7_init_25 : decode cX7_init 25 = .ok (.putfield 18, 3) := by decide +kernel
theorem dX7_init_28 : decode cX7_init 28 = .ok (.aload_n 0, 1) := by decide +kernel
theorem dX7_init_29 : decode cX7_init 29 = .ok (.bipush 8, 2) := by decide +kernel
theorem dX7_init_31 : decode cX7_init 31 = .ok (.newarray .int, 2) := by decide +kernel
theorem dX7_init_33 : decode cX7_init 33 = .ok (.putfield 21, 3) := by decide +kernel
theorem dX7_init_36 : decode cX7_init 36 = .ok (.aload_n 0, 1) := by decide +kernel
theorem dX7_init_37 : decode cX7_init 37 = .ok (.bipush 8, 2) := by decide +kernel
theorem dX7_init_39 : decode cX7_init 39 = .ok (.newarray .int, 2) := by decide +kernel
theorem dX7_init_41 : decode cX7_init 41 = .ok (.putfield 24, 3) := by decide +kernel
theorem dX7_init_44 : decode cX7_init 44 = .ok (.return_, 1) := by decide +kernel
theorem dX7_copyFrom_0 : decode cX7_copyFrom 0 = .ok (.aload_n 0, 1) := by decide +kernel
theorem dX7_copyFrom_1 : decode cX7_copyFrom 1 = .ok (.aload_n 1, 1) := by decide +kernel
theorem dX7_copyFrom_2 : decode cX7_copyFrom 2 = .ok (.getfield 27, 3) := by decide +kernel
theorem dX7_copyFrom_5 : decode cX7_copyFrom 5 = .ok (.putfield 27, 3) := by decide +kernel
theorem dX7_copyFrom_8 : decode cX7_copyFrom 8 = .ok (.aload_n 1, 1) := by decide +kernel
theorem dX7_copyFrom_9 : decode cX7_copyFrom 9 = .ok (.getfield 9, 3) := by decide +kernel
theorem dX7_copyFrom_12 : decode cX7_copyFrom 12 = .ok (.aload_n 0, 1) := by decide +kernel
theorem dX7_copyFrom_13 : decode cX7_copyFrom 13 = .ok (.getfield 9, 3) := by decide +kernel
theorem dX7_copyFrom_16 : decode cX7_copyFrom 16 = .ok (.invokestatic 31, 3) := by decide +kernel
theorem dX7_copyFrom_19 : decode cX7_copyFrom 19 = .ok (.aload_n 1, 1) := by decide +kernel
theorem dX7_copyFrom_20 : decode cX7_copyFrom 20 = .ok (.getfield 15, 3) := by decide +kernel
theorem dX7_copyFrom_23 : decode cX7_copyFrom 23 = .ok (.aload_n 0, 1) := by decide +kernel
theorem dX7_copyFrom_24 : decode cX7_copyFrom 24 = .ok (.getfield 15, 3) := by decide +kernel
theorem dX7_copyFrom_27 : decode cX7_copyFrom 27 = .ok (.invokestatic 31, 3) := by decide +kernel
theorem dX7_copyFrom_30 : decode cX7_copyFrom 30 = .ok (.aload_n 1, 1) := by decide +kernel
theorem dX7_copyFrom_31 : decode cX7_copyFrom 31 = .ok (.getfield 18, 3) := by decide +kernel
theorem dX7_copyFrom_34 : decode cX7_copyFrom 34 = .ok (.aload_n 0, 1) := by decide +kernel
theorem dX7_copyFrom_35 : decode cX7_copyFrom 35 = .ok (.getfield 18, 3) := by decide +kernel
theorem dX7_copyFrom_38 : decode cX7_copyFrom 38 = .ok (.invokestatic 31, 3) := by decide +kernel
theorem dX7_copyFrom_41 : decode cX7_copyFrom 41 = .ok (.aload_n 1, 1) := by decide +kernel
theorem dX7_copyFrom_42 : decode cX7_copyFrom 42 = .ok (.getfield 21, 3) := by decide +kernel
theorem dX7_copyFrom_45 : decode cX7_copyFrom 45 = .ok (.aload_n 0, 1) := by decide +kernel
theorem dX7_copyFrom_46 : decode cX7_copyFrom 46 = .ok (.getfield 21, 3) := by decide +kernel
theorem dX7_copyFrom_49 : decode cX7_copyFrom 49 = .ok (.invokestatic 31, 3) := by decide +kernel
theorem dX7_copyFrom_52 : decode cX7_copyFrom 52 = .ok (.aload_n 1, 1) := by decide +kernel
theorem dX7_copyFrom_53 : decode cX7_copyFrom 53 = .ok (.getfield 24, 3) := by decide +kernel
theorem dX7_copyFrom_56 : decode cX7_copyFrom 56 = .ok (.aload_n 0, 1) := by decide +kernel
theorem dX7_copyFrom_57 : decode cX7_copyFrom 57 = .ok (.getfield 24, 3) := by decide +kernel
theorem dX7_copyFrom_60 : decode cX7_copyFrom 60 = .ok (.invokestatic 31, 3) := by decide +kernel
theorem dX7_copyFrom_63 : decode cX7_copyFrom 63 = .ok (.return_, 1) := by decide +kernel
theorem dX7_add_0 : decode cX7_add 0 = .ok (.aload_n 0, 1) := by decide +kernel
theorem dX7_add_1 : decode cX7_add 1 = .ok (.getfield 27, 3) := by decide +kernel
theorem dX7_add_4 : decode cX7_add 4 = .ok (.istore 4, 2) := by decide +kernel
theorem dX7_add_6 : decode cX7_add 6 = .ok (.aload_n 0, 1) := by decide +kernel
theorem dX7_add_7 : decode cX7_add 7 = .ok (.getfield 9, 3) := by decide +kernel
theorem dX7_add_10 : decode cX7_add 10 = .ok (.iload 4, 2) := by decide +kernel
theorem dX7_add_12 : decode cX7_add 12 = .ok (.iload_n 1, 1) := by decide +kernel
theorem dX7_add_13 : decode cX7_add 13 = .ok (.iastore, 1) := by decide +kernel
theorem dX7_add_14 : decode cX7_add 14 = .ok (.aload_n 0, 1) := by decide +kernel
theorem dX7_add_15 : decode cX7_add 15 = .ok (.getfield 15, 3) := by decide +kernel
theorem dX7_add_18 : decode cX7_add 18 = .ok (.iload 4, 2) := by decide +kernel
theorem dX7_add_20 : decode cX7_add 20 = .ok (.iload_n 2, 1) := by decide +kernel
theorem dX7_add_21 : decode cX7_add 21 = .ok (.iastore, 1) := by decide +kernel
theorem dX7_add_22 : decode cX7_add 22 = .ok (.aload_n 0, 1) := by decide +kernel
theorem dX7_add_23 : decode cX7_add 23 = .ok (.getfield 18, 3) := by decide +kernel
theorem dX7_add_26 : decode cX7_add 26 = .ok (.iload 4, 2) := by decide +kernel
theorem dX7_add_28 : decode cX7_add 28 = .ok (.iload_n 3, 1) := by decide +kernel
theorem dX7_add_29 : decode cX7_add 29 = .ok (.iastore, 1) := by decide +kernel
theorem dX7_add_30 : decode cX7_add 30 = .ok (.aload_n 0, 1) := by decide +kernel
theorem dX7_add_31 : decode cX7_add 31 = .ok (.getfield 21, 3) := by decide +kernel
theorem dX7_add_34 : decode cX7_add 34 = .ok (.iload 4, 2) := by decide +kernel
theorem dX7_add_36 : decode cX7_add 36 = .ok (.iconst 0, 1) := by decide +kernel
theorem dX7_add_37 : decode cX7_add 37 = .ok (.iastore, 1) := by decide +kernel
theorem dX7_add_38 : decode cX7_add 38 = .ok (.aload_n 0, 1) := by decide +kernel
theorem dX7_add_39 : decode cX7_add 39 = .ok (.getfield 24, 3) := by decide +kernel
theorem dX7_add_42 : decode cX7_add 42 = .ok (.iload 4, 2) := by decide +kernel
theorem dX7_add_44 : decode cX7_add 44 = .ok (.bipush (-4), 2) := by decide +kernel
theorem dX7_add_46 : decode cX7_add 46 = .ok (.iastore, 1) := by decide +kernel
theorem dX7_add_47 : decode cX7_add 47 = .ok (.aload_n 0, 1) := by decide +kernel
theorem dX7_add_48 : decode cX7_add 48 = .ok (.dup, 1) := by decide +kernel
theorem dX7_add_49 : decode cX7_add 49 = .ok (.getfield 27, 3) := by decide +kernel
theorem dX7_add_52 : decode cX7_add 52 = .ok (.iconst 1, 1) := by decide +kernel
theorem dX7_add_53 : decode cX7_add 53 = .ok (.iadd, 1) := by decide +kernel
theorem dX7_add_54 : decode cX7_add 54 = .ok (.putfield 27, 3) := by decide +kernel
theorem dX7_add_57 : decode cX7_add 57 = .ok (.iload 4, 2) := by decide +kernel
theorem dX7_add_59 : decode cX7_add 59 = .ok (.ireturn, 1) := by decide +kernel
theorem dX7_move_0 : decode cX7_move 0 = .ok (.aload_n 0, 1) := by decide +kernel
theorem dX7_move_1 : decode cX7_move 1 = .ok (.getfield 9, 3) := by decide +kernel
theorem dX7_move_4 : decode cX7_move 4 = .ok (.iload_n 2, 1) := by decide +kernel
theorem dX7_move_5 : decode cX7_move 5 = .ok (.aload_n 0, 1) := by decide +kernel
theorem dX7_move_6 : decode cX7_move 6 = .ok (.getfield 9, 3) := by decide +kernel
theorem dX7_move_9 : decode cX7_move 9 = .ok (.iload_n 1, 1) := by decide +kernel
theorem dX7_move_10 : decode cX7_move 10 = .ok (.iaload, 1) := by decide +kernel
theorem dX7_move_11 : decode cX7_move 11 = .ok (.iastore, 1) := by decide +kernel
theorem dX7_move_12 : decode cX7_move 12 = .ok (.aload_n 0, 1) := by decide +kernel
theorem dX7_move_13 : decode cX7_move 13 = .ok (.getfield 15, 3) := by decide +kernel
theorem dX7_move_16 : decode cX7_move 16 = .ok (.iload_n 2, 1) := by decide +kernel
theorem dX7_move_17 : decode cX7_move 17 = .ok (.aload_n 0, 1) := by decide +kernel
theorem dX7_move_18 : decode cX7_move 18 = .ok (.getfield 15, 3) := by decide +kernel
theorem dX7_move_21 : decode cX7_move 21 = .ok (.iload_n 1, 1) := by decide +kernel
theorem dX7_move_22 : decode cX7_move 22 = .ok (.iaload, 1) := by decide +kernel
theorem dX7_move_23 : decode cX7_move 23 = .ok (.iastore, 1) := by decide +kernel
theorem dX7_move_24 : decode cX7_move 24 = .ok (.aload_n 0, 1) := by decide +kernel
theorem dX7_move_25 : decode cX7_move 25 = .ok (.getfield 18, 3) := by decide +kernel
theorem dX7_move_28 : decode cX7_move 28 = .ok (.iload_n 2, 1) := by decide +kernel
theorem dX7_move_29 : decode cX7_move 29 = .ok (.aload_n 0, 1) := by decide +kernel
theorem dX7_move_30 : decode cX7_move 30 = .ok (.getfield 18, 3) := by decide +kernel
theorem dX7_move_33 : decode cX7_move 33 = .ok (.iload_n 1, 1) := by decide +kernel
theorem dX7_move_34 : decode cX7_move 34 = .ok (.iaload, 1) := by decide +kernel
theorem dX7_move_35 : decode cX7_move 35 = .ok (.iastore, 1) := by decide +kernel
theorem dX7_move_36 : decode cX7_move 36 = .ok (.aload_n 0, 1) := by decide +kernel
theorem dX7_move_37 : decode cX7_move 37 = .ok (.getfield 21, 3) := by decide +kernel
theorem dX7_move_40 : decode cX7_move 40 = .ok (.iload_n 2, 1) := by decide +kernel
theorem dX7_move_41 : decode cX7_move 41 = .ok (.aload_n 0, 1) := by decide +kernel
theorem dX7_move_42 : decode cX7_move 42 = .ok (.getfield 21, 3) := by decide +kernel
theorem dX7_move_45 : decode cX7_move 45 = .ok (.iload_n 1, 1) := by decide +kernel
theorem dX7_move_46 : decode cX7_move 46 = .ok (.iaload, 1) := by decide +kernel
theorem dX7_move_47 : decode cX7_move 47 = .ok (.iastore, 1) := by decide +kernel
theorem dX7_move_48 : decode cX7_move 48 = .ok (.aload_n 0, 1) := by decide +kernel
theorem dX7_move_49 : decode cX7_move 49 = .ok (.getfield 24, 3) := by decide +kernel
theorem dX7_move_52 : decode cX7_move 52 = .ok (.iload_n 2, 1) := by decide +kernel
theorem dX7_move_53 : decode cX7_move 53 = .ok (.aload_n 0, 1) := by decide +kernel
theorem dX7_move_54 : decode cX7_move 54 = .ok (.getfield 24, 3) := by decide +kernel
theorem dX7_move_57 : decode cX7_move 57 = .ok (.iload_n 1, 1) := by decide +kernel
theorem dX7_move_58 : decode cX7_move 58 = .ok (.iaload, 1) := by decide +kernel
theorem dX7_move_59 : decode cX7_move 59 = .ok (.iastore, 1) := by decide +kernel
theorem dX7_move_60 : decode cX7_move 60 = .ok (.return_, 1) := by decide +kernel
theorem dX7_has_0 : decode cX7_has 0 = .ok (.iload_n 1, 1) := by decide +kernel
theorem dX7_has_1 : decode cX7_has 1 = .ok (.ifCond .lt 15, 3) := by decide +kernel
theorem dX7_has_4 : decode cX7_has 4 = .ok (.iload_n 1, 1) := by decide +kernel
theorem dX7_has_5 : decode cX7_has 5 = .ok (.aload_n 0, 1) := by decide +kernel
theorem dX7_has_6 : decode cX7_has 6 = .ok (.getfield 27, 3) := by decide +kernel
theorem dX7_has_9 : decode cX7_has 9 = .ok (.if_icmp .ge 7, 3) := by decide +kernel
theorem dX7_has_12 : decode cX7_has 12 = .ok (.iconst 1, 1) := by decide +kernel
theorem dX7_has_13 : decode cX7_has 13 = .ok (.goto 4, 3) := by decide +kernel
theorem dX7_has_16 : decode cX7_has 16 = .ok (.iconst 0, 1) := by decide +kernel
theorem dX7_has_17 : decode cX7_has 17 = .ok (.ireturn, 1) := by decide +kernel
theorem dX7_isImpounded_0 : decode cX7_isImpounded 0 = .ok (.aload_n 0, 1) := by decide +kernel
theorem dX7_isImpounded_1 : decode cX7_isImpounded 1 = .ok (.getfield 24, 3) := by decide +kernel
theorem dX7_isImpounded_4 : decode cX7_isImpounded 4 = .ok (.iload_n 1, 1) := by decide +kernel
theorem dX7_isImpounded_5 : decode cX7_isImpounded 5 = .ok (.iaload, 1) := by decide +kernel
theorem dX7_isImpounded_6 : decode cX7_isImpounded 6 = .ok (.bipush (-4), 2) := by decide +kernel
theorem dX7_isImpounded_8 : decode cX7_isImpounded 8 = .ok (.if_icmp .eq 7, 3) := by decide +kernel
theorem dX7_isImpounded_11 : decode cX7_isImpounded 11 = .ok (.iconst 1, 1) := by decide +kernel
theorem dX7_isImpounded_12 : decode cX7_isImpounded 12 = .ok (.goto 4, 3) := by decide +kernel
theorem dX7_isImpounded_15 : decode cX7_isImpounded 15 = .ok (.iconst 0, 1) := by decide +kernel
theorem dX7_isImpounded_16 : decode cX7_isImpounded 16 = .ok (.ireturn, 1) := by decide +kernel
theorem dX7_countOn_0 : decode cX7_countOn 0 = .ok (.aload_n 0, 1) := by decide +kernel
theorem dX7_countOn_1 : decode cX7_countOn 1 = .ok (.getfield 15, 3) := by decide +kernel
theorem dX7_countOn_4 : decode cX7_countOn 4 = .ok (.aload_n 0, 1) := by decide +kernel
theorem dX7_countOn_5 : decode cX7_countOn 5 = .ok (.getfield 27, 3) := by decide +kernel
theorem dX7_countOn_8 : decode cX7_countOn 8 = .ok (.iload_n 1, 1) := by decide +kernel
theorem dX7_countOn_9 : decode cX7_countOn 9 = .ok (.invokestatic 35, 3) := by decide +kernel
end
section
theorem dX7_countOn_12 : decode cX7_countOn 12 = .ok (.ireturn, 1) := by decide +kernel
theorem dX7_countOf_0 : decode cX7_countOf 0 = .ok (.aload_n 0, 1) := by decide +kernel
theorem dX7_countOf_1 : decode cX7_countOf 1 = .ok (.getfield 9, 3) := by decide +kernel
theorem dX7_countOf_4 : decode cX7_countOf 4 = .ok (.aload_n 0, 1) := by decide +kernel
theorem dX7_countOf_5 : decode cX7_countOf 5 = .ok (.getfield 27, 3) := by decide +kernel
theorem dX7_countOf_8 : decode cX7_countOf 8 = .ok (.iload_n 1, 1) := by decide +kernel
theorem dX7_countOf_9 : decode cX7_countOf 9 = .ok (.invokestatic 35, 3) := by decide +kernel
theorem dX7_countOf_12 : decode cX7_countOf 12 = .ok (.ireturn, 1) := by decide +kernel
theorem dX7_countImpounded_0 : decode cX7_countImpounded 0 = .ok (.aload_n 0, 1) := by decide +kernel
theorem dX7_countImpounded_1 : decode cX7_countImpounded 1 = .ok (.getfield 27, 3) := by decide +kernel
theorem dX7_countImpounded_4 : decode cX7_countImpounded 4 = .ok (.aload_n 0, 1) := by decide +kernel
theorem dX7_countImpounded_5 : decode cX7_countImpounded 5 = .ok (.getfield 24, 3) := by decide +kernel
theorem dX7_countImpounded_8 : decode cX7_countImpounded 8 = .ok (.aload_n 0, 1) := by decide +kernel
theorem dX7_countImpounded_9 : decode cX7_countImpounded 9 = .ok (.getfield 27, 3) := by decide +kernel
theorem dX7_countImpounded_12 : decode cX7_countImpounded 12 = .ok (.bipush (-4), 2) := by decide +kernel
theorem dX7_countImpounded_14 : decode cX7_countImpounded 14 = .ok (.invokestatic 35, 3) := by decide +kernel
theorem dX7_countImpounded_17 : decode cX7_countImpounded 17 = .ok (.isub, 1) := by decide +kernel
theorem dX7_countImpounded_18 : decode cX7_countImpounded 18 = .ok (.ireturn, 1) := by decide +kernel
theorem dX7_impoundedSetOf_0 : decode cX7_impoundedSetOf 0 = .ok (.iconst 0, 1) := by decide +kernel
theorem dX7_impoundedSetOf_1 : decode cX7_impoundedSetOf 1 = .ok (.istore_n 2, 1) := by decide +kernel
theorem dX7_impoundedSetOf_2 : decode cX7_impoundedSetOf 2 = .ok (.iconst 0, 1) := by decide +kernel
theorem dX7_impoundedSetOf_3 : decode cX7_impoundedSetOf 3 = .ok (.istore_n 3, 1) := by decide +kernel
theorem dX7_impoundedSetOf_4 : decode cX7_impoundedSetOf 4 = .ok (.iload_n 3, 1) := by decide +kernel
theorem dX7_impoundedSetOf_5 : decode cX7_impoundedSetOf 5 = .ok (.aload_n 0, 1) := by decide +kernel
theorem dX7_impoundedSetOf_6 : decode cX7_impoundedSetOf 6 = .ok (.getfield 27, 3) := by decide +kernel
theorem dX7_impoundedSetOf_9 : decode cX7_impoundedSetOf 9 = .ok (.if_icmp .ge 33, 3) := by decide +kernel
theorem dX7_impoundedSetOf_12 : decode cX7_impoundedSetOf 12 = .ok (.aload_n 0, 1) := by decide +kernel
theorem dX7_impoundedSetOf_13 : decode cX7_impoundedSetOf 13 = .ok (.getfield 9, 3) := by decide +kernel
theorem dX7_impoundedSetOf_16 : decode cX7_impoundedSetOf 16 = .ok (.iload_n 3, 1) := by decide +kernel
theorem dX7_impoundedSetOf_17 : decode cX7_impoundedSetOf 17 = .ok (.iaload, 1) := by decide +kernel
theorem dX7_impoundedSetOf_18 : decode cX7_impoundedSetOf 18 = .ok (.iload_n 1, 1) := by decide +kernel
theorem dX7_impoundedSetOf_19 : decode cX7_impoundedSetOf 19 = .ok (.if_icmp .ne 17, 3) := by decide +kernel
theorem dX7_impoundedSetOf_22 : decode cX7_impoundedSetOf 22 = .ok (.aload_n 0, 1) := by decide +kernel
theorem dX7_impoundedSetOf_23 : decode cX7_impoundedSetOf 23 = .ok (.iload_n 3, 1) := by decide +kernel
theorem dX7_impoundedSetOf_24 : decode cX7_impoundedSetOf 24 = .ok (.invokevirtual 39, 3) := by decide +kernel
theorem dX7_impoundedSetOf_27 : decode cX7_impoundedSetOf 27 = .ok (.ifCond .eq 9, 3) := by decide +kernel
theorem dX7_impoundedSetOf_30 : decode cX7_impoundedSetOf 30 = .ok (.iload_n 2, 1) := by decide +kernel
theorem dX7_impoundedSetOf_31 : decode cX7_impoundedSetOf 31 = .ok (.iconst 1, 1) := by decide +kernel
theorem dX7_impoundedSetOf_32 : decode cX7_impoundedSetOf 32 = .ok (.iload_n 3, 1) := by decide +kernel
theorem dX7_impoundedSetOf_33 : decode cX7_impoundedSetOf 33 = .ok (.ishl, 1) := by decide +kernel
theorem dX7_impoundedSetOf_34 : decode cX7_impoundedSetOf 34 = .ok (.ior, 1) := by decide +kernel
theorem dX7_impoundedSetOf_35 : decode cX7_impoundedSetOf 35 = .ok (.istore_n 2, 1) := by decide +kernel
theorem dX7_impoundedSetOf_36 : decode cX7_impoundedSetOf 36 = .ok (.iinc 3 1, 3) := by decide +kernel
theorem dX7_impoundedSetOf_39 : decode cX7_impoundedSetOf 39 = .ok (.goto (-35), 3) := by decide +kernel
theorem dX7_impoundedSetOf_42 : decode cX7_impoundedSetOf 42 = .ok (.iload_n 2, 1) := by decide +kernel
theorem dX7_impoundedSetOf_43 : decode cX7_impoundedSetOf 43 = .ok (.ireturn, 1) := by decide +kernel
theorem dX7_impoundAllOf_0 : decode cX7_impoundAllOf 0 = .ok (.iconst 0, 1) := by decide +kernel
theorem dX7_impoundAllOf_1 : decode cX7_impoundAllOf 1 = .ok (.istore_n 2, 1) := by decide +kernel
theorem dX7_impoundAllOf_2 : decode cX7_impoundAllOf 2 = .ok (.iconst 0, 1) := by decide +kernel
theorem dX7_impoundAllOf_3 : decode cX7_impoundAllOf 3 = .ok (.istore_n 3, 1) := by decide +kernel
theorem dX7_impoundAllOf_4 : decode cX7_impoundAllOf 4 = .ok (.iload_n 3, 1) := by decide +kernel
theorem dX7_impoundAllOf_5 : decode cX7_impoundAllOf 5 = .ok (.aload_n 0, 1) := by decide +kernel
theorem dX7_impoundAllOf_6 : decode cX7_impoundAllOf 6 = .ok (.getfield 27, 3) := by decide +kernel
theorem dX7_impoundAllOf_9 : decode cX7_impoundAllOf 9 = .ok (.if_icmp .ge 37, 3) := by decide +kernel
theorem dX7_impoundAllOf_12 : decode cX7_impoundAllOf 12 = .ok (.aload_n 0, 1) := by decide +kernel
theorem dX7_impoundAllOf_13 : decode cX7_impoundAllOf 13 = .ok (.getfield 9, 3) := by decide +kernel
theorem dX7_impoundAllOf_16 : decode cX7_impoundAllOf 16 = .ok (.iload_n 3, 1) := by decide +kernel
theorem dX7_impoundAllOf_17 : decode cX7_impoundAllOf 17 = .ok (.iaload, 1) := by decide +kernel
theorem dX7_impoundAllOf_18 : decode cX7_impoundAllOf 18 = .ok (.iload_n 1, 1) := by decide +kernel
theorem dX7_impoundAllOf_19 : decode cX7_impoundAllOf 19 = .ok (.if_icmp .ne 21, 3) := by decide +kernel
theorem dX7_impoundAllOf_22 : decode cX7_impoundAllOf 22 = .ok (.aload_n 0, 1) := by decide +kernel
theorem dX7_impoundAllOf_23 : decode cX7_impoundAllOf 23 = .ok (.iload_n 3, 1) := by decide +kernel
theorem dX7_impoundAllOf_24 : decode cX7_impoundAllOf 24 = .ok (.invokevirtual 39, 3) := by decide +kernel
theorem dX7_impoundAllOf_27 : decode cX7_impoundAllOf 27 = .ok (.ifCond .ne 13, 3) := by decide +kernel
theorem dX7_impoundAllOf_30 : decode cX7_impoundAllOf 30 = .ok (.aload_n 0, 1) := by decide +kernel
theorem dX7_impoundAllOf_31 : decode cX7_impoundAllOf 31 = .ok (.getfield 24, 3) := by decide +kernel
theorem dX7_impoundAllOf_34 : decode cX7_impoundAllOf 34 = .ok (.iload_n 3, 1) := by decide +kernel
theorem dX7_impoundAllOf_35 : decode cX7_impoundAllOf 35 = .ok (.iconst 0, 1) := by decide +kernel
theorem dX7_impoundAllOf_36 : decode cX7_impoundAllOf 36 = .ok (.iastore, 1) := by decide +kernel
theorem dX7_impoundAllOf_37 : decode cX7_impoundAllOf 37 = .ok (.iinc 2 1, 3) := by decide +kernel
theorem dX7_impoundAllOf_40 : decode cX7_impoundAllOf 40 = .ok (.iinc 3 1, 3) := by decide +kernel
theorem dX7_impoundAllOf_43 : decode cX7_impoundAllOf 43 = .ok (.goto (-39), 3) := by decide +kernel
theorem dX7_impoundAllOf_46 : decode cX7_impoundAllOf 46 = .ok (.iload_n 2, 1) := by decide +kernel
theorem dX7_impoundAllOf_47 : decode cX7_impoundAllOf 47 = .ok (.ireturn, 1) := by decide +kernel
theorem dX8_init_0 : decode cX8_init 0 = .ok (.aload_n 0, 1) := by decide +kernel
theorem dX8_init_1 : decode cX8_init 1 = .ok (.invokespecial 3, 3) := by decide +kernel
theorem dX8_init_4 : decode cX8_init 4 = .ok (.aload_n 0, 1) := by decide +kernel
theorem dX8_init_5 : decode cX8_init 5 = .ok (.getstatic 9, 3) := by decide +kernel
theorem dX8_init_8 : decode cX8_init 8 = .ok (.putfield 15, 3) := by decide +kernel
theorem dX8_init_11 : decode cX8_init 11 = .ok (.aload_n 0, 1) := by decide +kernel
theorem dX8_init_12 : decode cX8_init 12 = .ok (.iconst 3, 1) := by decide +kernel
theorem dX8_init_13 : decode cX8_init 13 = .ok (.newarray .int, 2) := by decide +kernel
theorem dX8_init_15 : decode cX8_init 15 = .ok (.putfield 20, 3) := by decide +kernel
theorem dX8_init_18 : decode cX8_init 18 = .ok (.return_, 1) := by decide +kernel
theorem dX8_countCommands_0 : decode cX8_countCommands 0 = .ok (.iconst 0, 1) := by decide +kernel
theorem dX8_countCommands_1 : decode cX8_countCommands 1 = .ok (.istore_n 2, 1) := by decide +kernel
theorem dX8_countCommands_2 : decode cX8_countCommands 2 = .ok (.iconst 1, 1) := by decide +kernel
theorem dX8_countCommands_3 : decode cX8_countCommands 3 = .ok (.istore_n 3, 1) := by decide +kernel
theorem dX8_countCommands_4 : decode cX8_countCommands 4 = .ok (.iload_n 3, 1) := by decide +kernel
theorem dX8_countCommands_5 : decode cX8_countCommands 5 = .ok (.bipush 60, 2) := by decide +kernel
theorem dX8_countCommands_7 : decode cX8_countCommands 7 = .ok (.if_icmp .gt 57, 3) := by decide +kernel
theorem dX8_countCommands_10 : decode cX8_countCommands 10 = .ok (.aload_n 0, 1) := by decide +kernel
theorem dX8_countCommands_11 : decode cX8_countCommands 11 = .ok (.aload_n 1, 1) := by decide +kernel
theorem dX8_countCommands_12 : decode cX8_countCommands 12 = .ok (.iload_n 2, 1) := by decide +kernel
theorem dX8_countCommands_13 : decode cX8_countCommands 13 = .ok (.invokevirtual 24, 3) := by decide +kernel
theorem dX8_countCommands_16 : decode cX8_countCommands 16 = .ok (.ifCond .ne 6, 3) := by decide +kernel
theorem dX8_countCommands_19 : decode cX8_countCommands 19 = .ok (.bipush (-2), 2) := by decide +kernel
theorem dX8_countCommands_21 : decode cX8_countCommands 21 = .ok (.ireturn, 1) := by decide +kernel
theorem dX8_countCommands_22 : decode cX8_countCommands 22 = .ok (.aload_n 0, 1) := by decide +kernel
theorem dX8_countCommands_23 : decode cX8_countCommands 23 = .ok (.getfield 28, 3) := by decide +kernel
theorem dX8_countCommands_26 : decode cX8_countCommands 26 = .ok (.aload_n 1, 1) := by decide +kernel
theorem dX8_countCommands_27 : decode cX8_countCommands 27 = .ok (.invokevirtual 32, 3) := by decide +kernel
theorem dX8_countCommands_30 : decode cX8_countCommands 30 = .ok (.if_icmp .lt 5, 3) := by decide +kernel
theorem dX8_countCommands_33 : decode cX8_countCommands 33 = .ok (.iload_n 3, 1) := by decide +kernel
theorem dX8_countCommands_34 : decode cX8_countCommands 34 = .ok (.ireturn, 1) := by decide +kernel
theorem dX8_countCommands_35 : decode cX8_countCommands 35 = .ok (.aload_n 1, 1) := by decide +kernel
theorem dX8_countCommands_36 : decode cX8_countCommands 36 = .ok (.aload_n 0, 1) := by decide +kernel
theorem dX8_countCommands_37 : decode cX8_countCommands 37 = .ok (.getfield 28, 3) := by decide +kernel
theorem dX8_countCommands_40 : decode cX8_countCommands 40 = .ok (.invokevirtual 38, 3) := by decide +kernel
theorem dX8_countCommands_43 : decode cX8_countCommands 43 = .ok (.bipush 59, 2) := by decide +kernel
theorem dX8_countCommands_45 : decode cX8_countCommands 45 = .ok (.if_icmp .eq 6, 3) := by decide +kernel
theorem dX8_countCommands_48 : decode cX8_countCommands 48 = .ok (.bipush (-2), 2) := by decide +kernel
theorem dX8_countCommands_50 : decode cX8_countCommands 50 = .ok (.ireturn, 1) := by decide +kernel
theorem dX8_countCommands_51 : decode cX8_countCommands 51 = .ok (.aload_n 0, 1) := by decide +kernel
theorem dX8_countCommands_52 : decode cX8_countCommands 52 = .ok (.getfield 28, 3) := by decide +kernel
theorem dX8_countCommands_55 : decode cX8_countCommands 55 = .ok (.iconst 1, 1) := by decide +kernel
theorem dX8_countCommands_56 : decode cX8_countCommands 56 = .ok (.iadd, 1) := by decide +kernel
theorem dX8_countCommands_57 : decode cX8_countCommands 57 = .ok (.istore_n 2, 1) := by decide +kernel
theorem dX8_countCommands_58 : decode cX8_countCommands 58 = .ok (.iinc 3 1, 3) := by decide +kernel
theorem dX8_countCommands_61 : decode cX8_countCommands 61 = .ok (.goto (-57), 3) := by decide +kernel
theorem dX8_countCommands_64 : decode cX8_countCommands 64 = .ok (.bipush (-2), 2) := by decide +kernel
theorem dX8_countCommands_66 : decode cX8_countCommands 66 = .ok (.ireturn, 1) := by decide +kernel
theorem dX8_findCommand_0 : decode cX8_findCommand 0 = .ok (.aload_n 0, 1) := by decide +kernel
theorem dX8_findCommand_1 : decode cX8_findCommand 1 = .ok (.iload_n 2, 1) := by decide +kernel
theorem dX8_findCommand_2 : decode cX8_findCommand 2 = .ok (.putfield 28, 3) := by decide +kernel
theorem dX8_findCommand_5 : decode cX8_findCommand 5 = .ok (.iconst 0, 1) := by decide +kernel
theorem dX8_findCommand_6 : decode cX8_findCommand 6 = .ok (.istore_n 3, 1) := by decide +kernel
theorem dX8_findCommand_7 : decode cX8_findCommand 7 = .ok (.iload_n 3, 1) := by decide +kernel
theorem dX8_findCommand_8 : decode cX8_findCommand 8 = .ok (.getstatic 42, 3) := by decide +kernel
theorem dX8_findCommand_11 : decode cX8_findCommand 11 = .ok (.arraylength, 1) := by decide +kernel
theorem dX8_findCommand_12 : decode cX8_findCommand 12 = .ok (.if_icmp .ge 37, 3) := by decide +kernel
theorem dX8_findCommand_15 : decode cX8_findCommand 15 = .ok (.aload_n 0, 1) := by decide +kernel
theorem dX8_findCommand_16 : decode cX8_findCommand 16 = .ok (.getstatic 42, 3) := by decide +kernel
theorem dX8_findCommand_19 : decode cX8_findCommand 19 = .ok (.iload_n 3, 1) := by decide +kernel
theorem dX8_findCommand_20 : decode cX8_findCommand 20 = .ok (.aaload, 1) := by decide +kernel
theorem dX8_findCommand_21 : decode cX8_findCommand 21 = .ok (.getfield 46, 3) := by decide +kernel
theorem dX8_findCommand_24 : decode cX8_findCommand 24 = .ok (.aload_n 1, 1) := by decide +kernel
theorem dX8_findCommand_25 : decode cX8_findCommand 25 = .ok (.iload_n 2, 1) := by decide +kernel
theorem dX8_findCommand_26 : decode cX8_findCommand 26 = .ok (.invokevirtual 50, 3) := by decide +kernel
theorem dX8_findCommand_29 : decode cX8_findCommand 29 = .ok (.ifCond .eq 14, 3) := by decide +kernel
theorem dX8_findCommand_32 : decode cX8_findCommand 32 = .ok (.aload_n 0, 1) := by decide +kernel
theorem dX8_findCommand_33 : decode cX8_findCommand 33 = .ok (.getstatic 42, 3) := by decide +kernel
theorem dX8_findCommand_36 : decode cX8_findCommand 36 = .ok (.iload_n 3, 1) := by decide +kernel
theorem dX8_findCommand_37 : decode cX8_findCommand 37 = .ok (.aaload, 1) := by decide +kernel
theorem dX8_findCommand_38 : decode cX8_findCommand 38 = .ok (.putfield 15, 3) := by decide +kernel
theorem dX8_findCommand_41 : decode cX8_findCommand 41 = .ok (.iconst 1, 1) := by decide +kernel
theorem dX8_findCommand_42 : decode cX8_findCommand 42 = .ok (.ireturn, 1) := by decide +kernel
theorem dX8_findCommand_43 : decode cX8_findCommand 43 = .ok (.iinc 3 1, 3) := by decide +kernel
theorem dX8_findCommand_46 : decode cX8_findCommand 46 = .ok (.goto (-39), 3) := by decide +kernel
theorem dX8_findCommand_49 : decode cX8_findCommand 49 = .ok (.iconst 0, 1) := by decide +kernel
theorem dX8_findCommand_50 : decode cX8_findCommand 50 = .ok (.ireturn, 1) := by decide +kernel
theorem dX8_follows_0 : decode cX8_follows 0 = .ok (.iload_n 3, 1) := by decide +kernel
theorem dX8_follows_1 : decode cX8_follows 1 = .ok (.istore 4, 2) := by decide +kernel
theorem dX8_follows_3 : decode cX8_follows 3 = .ok (.iconst 0, 1) := by decide +kernel
theorem dX8_follows_4 : decode cX8_follows 4 = .ok (.istore 5, 2) := by decide +kernel
theorem dX8_follows_6 : decode cX8_follows 6 = .ok (.iconst 0, 1) := by decide +kernel
theorem dX8_follows_7 : decode cX8_follows 7 = .ok (.istore 6, 2) := by decide +kernel
theorem dX8_follows_9 : decode cX8_follows 9 = .ok (.iload 6, 2) := by decide +kernel
theorem dX8_follows_11 : decode cX8_follows 11 = .ok (.aload_n 1, 1) := by decide +kernel
theorem dX8_follows_12 : decode cX8_follows 12 = .ok (.invokevirtual 54, 3) := by decide +kernel
theorem dX8_follows_15 : decode cX8_follows 15 = .ok (.if_icmp .ge 171, 3) := by decide +kernel
theorem dX8_follows_18 : decode cX8_follows 18 = .ok (.aload_n 1, 1) := by decide +kernel
theorem dX8_follows_19 : decode cX8_follows 19 = .ok (.iload 6, 2) := by decide +kernel
theorem dX8_follows_21 : decode cX8_follows 21 = .ok (.invokevirtual 57, 3) := by decide +kernel
theorem dX8_follows_24 : decode cX8_follows 24 = .ok (.istore 7, 2) := by decide +kernel
theorem dX8_follows_26 : decode cX8_follows 26 = .ok (.iload 4, 2) := by decide +kernel
theorem dX8_follows_28 : decode cX8_follows 28 = .ok (.aload_n 2, 1) := by decide +kernel
theorem dX8_follows_29 : decode cX8_follows 29 = .ok (.invokevirtual 32, 3) := by decide +kernel
theorem dX8_follows_32 : decode cX8_follows 32 = .ok (.if_icmp .ge 17, 3) := by decide +kernel
theorem dX8_follows_35 : decode cX8_follows 35 = .ok (.aload_n 2, 1) := by decide +kernel
theorem dX8_follows_36 : decode cX8_follows 36 = .ok (.iload 4, 2) := by decide +kernel
theorem dX8_follows_38 : decode cX8_follows 38 = .ok (.invokevirtual 38, 3) := by decide +kernel
theorem dX8_follows_41 : decode cX8_follows 41 = .ok (.iload 7, 2) := by decide +kernel
theorem dX8_follows_43 : decode cX8_follows 43 = .ok (.invokestatic 58, 3) := by decide +kernel
theorem dX8_follows_46 : decode cX8_follows 46 = .ok (.ifCond .ne 18, 3) := by decide +kernel
theorem dX8_follows_49 : decode cX8_follows 49 = .ok (.aload_n 0, 1) := by decide +kernel
theorem dX8_follows_50 : decode cX8_follows 50 = .ok (.aload_n 0, 1) := by decide +kernel
theorem dX8_follows_51 : decode cX8_follows 51 = .ok (.getfield 28, 3) := by decide +kernel
theorem dX8_follows_54 : decode cX8_follows 54 = .ok (.iload 4, 2) := by decide +kernel
theorem dX8_follows_56 : decode cX8_follows 56 = .ok (.invokestatic 62, 3) := by decide +kernel
theorem dX8_follows_59 : decode cX8_follows 59 = .ok (.putfield 28, 3) := by decide +kernel
theorem dX8_follows_62 : decode cX8_follows 62 = .ok (.iconst 0, 1) := by decide +kernel
theorem dX8_follows_63 : decode cX8_follows 63 = .ok (.ireturn, 1) := by decide +kernel
theorem dX8_follows_64 : decode cX8_follows 64 = .ok (.iload 7, 2) := by decide +kernel
theorem dX8_follows_66 : decode cX8_follows 66 = .ok (.invokestatic 68, 3) := by decide +kernel
theorem dX8_follows_69 : decode cX8_follows 69 = .ok (.ifCond .eq 108, 3) := by decide +kernel
theorem dX8_follows_72 : decode cX8_follows 72 = .ok (.iload 5, 2) := by decide +kernel
theorem dX8_follows_74 : decode cX8_follows 74 = .ok (.aload_n 0, 1) := by decide +kernel
theorem dX8_follows_75 : decode cX8_follows 75 = .ok (.getfield 20, 3) := by decide +kernel
theorem dX8_follows_78 : decode cX8_follows 78 = .ok (.arraylength, 1) := by decide +kernel
theorem dX8_follows_79 : decode cX8_follows 79 = .ok (.if_icmp .ge 98, 3) := by decide +kernel
theorem dX8_follows_82 : decode cX8_follows 82 = .ok (.aload_n 0, 1) := by decide +kernel
theorem dX8_follows_83 : decode cX8_follows 83 = .ok (.getfield 20, 3) := by decide +kernel
theorem dX8_follows_86 : decode cX8_follows 86 = .ok (.iload 5, 2) := by decide +kernel
theorem dX8_follows_88 : decode cX8_follows 88 = .ok (.aload_n 2, 1) := by decide +kernel
theorem dX8_follows_89 : decode cX8_follows 89 = .ok (.iload 4, 2) := by decide +kernel
theorem dX8_follows_91 : decode cX8_follows 91 = .ok (.invokevirtual 38, 3) := by decide +kernel
theorem dX8_follows_94 : decode cX8_follows 94 = .ok (.iload 7, 2) := by decide +kernel
theorem dX8_follows_96 : decode cX8_follows 96 = .ok (.bipush 76, 2) := by decide +kernel
theorem dX8_follows_98 : decode cX8_follows 98 = .ok (.if_icmp .ne 8, 3) := by decide +kernel
theorem dX8_follows_101 : decode cX8_follows 101 = .ok (.bipush 97, 2) := by decide +kernel
theorem dX8_follows_103 : decode cX8_follows 103 = .ok (.goto 5, 3) := by decide +kernel
theorem dX8_follows_106 : decode cX8_follows 106 = .ok (.bipush 48, 2) := by decide +kernel
theorem dX8_follows_108 : decode cX8_follows 108 = .ok (.isub, 1) := by decide +kernel
theorem dX8_follows_109 : decode cX8_follows 109 = .ok (.iastore, 1) := by decide +kernel
theorem dX8_follows_110 : decode cX8_follows 110 = .ok (.iload 7, 2) := by decide +kernel
theorem dX8_follows_112 : decode cX8_follows 112 = .ok (.bipush 78, 2) := by decide +kernel
theorem dX8_follows_114 : decode cX8_follows 114 = .ok (.if_icmp .ne 60, 3) := by decide +kernel
theorem dX8_follows_117 : decode cX8_follows 117 = .ok (.iload 4, 2) := by decide +kernel
theorem dX8_follows_119 : decode cX8_follows 119 = .ok (.iconst 1, 1) := by decide +kernel
theorem dX8_follows_120 : decode cX8_follows 120 = .ok (.iadd, 1) := by decide +kernel
theorem dX8_follows_121 : decode cX8_follows 121 = .ok (.aload_n 2, 1) := by decide +kernel
theorem dX8_follows_122 : decode cX8_follows 122 = .ok (.invokevirtual 32, 3) := by decide +kernel
theorem dX8_follows_125 : decode cX8_follows 125 = .ok (.if_icmp .ge 49, 3) := by decide +kernel
theorem dX8_follows_128 : decode cX8_follows 128 = .ok (.aload_n 2, 1) := by decide +kernel
theorem dX8_follows_129 : decode cX8_follows 129 = .ok (.iload 4, 2) := by decide +kernel
theorem dX8_follows_131 : decode cX8_follows 131 = .ok (.iconst 1, 1) := by decide +kernel
theorem dX8_follows_132 : decode cX8_follows 132 = .ok (.iadd, 1) := by decide +kernel
theorem dX8_follows_133 : decode cX8_follows 133 = .ok (.invokevirtual 38, 3) := by decide +kernel
theorem dX8_follows_136 : decode cX8_follows 136 = .ok (.bipush 68, 2) := by decide +kernel
theorem dX8_follows_138 : decode cX8_follows 138 = .ok (.invokestatic 58, 3) := by decide +kernel
theorem dX8_follows_141 : decode cX8_follows 141 = .ok (.ifCond .eq 33, 3) := by decide +kernel
theorem dX8_follows_144 : decode cX8_follows 144 = .ok (.iinc 4 1, 3) := by decide +kernel
theorem dX8_follows_147 : decode cX8_follows 147 = .ok (.aload_n 0, 1) := by decide +kernel
theorem dX8_follows_148 : decode cX8_follows 148 = .ok (.getfield 20, 3) := by decide +kernel
theorem dX8_follows_151 : decode cX8_follows 151 = .ok (.iload 5, 2) := by decide +kernel
theorem dX8_follows_153 : decode cX8_follows 153 = .ok (.bipush 10, 2) := by decide +kernel
theorem dX8_follows_155 : decode cX8_follows 155 = .ok (.aload_n 0, 1) := by decide +kernel
theorem dX8_follows_156 : decode cX8_follows 156 = .ok (.getfield 20, 3) := by decide +kernel
theorem dX8_follows_159 : decode cX8_follows 159 = .ok (.iload 5, 2) := by decide +kernel
theorem dX8_follows_161 : decode cX8_follows 161 = .ok (.iaload, 1) := by decide +kernel
theorem dX8_follows_162 : decode cX8_follows 162 = .ok (.imul, 1) := by decide +kernel
theorem dX8_follows_163 : decode cX8_follows 163 = .ok (.aload_n 2, 1) := by decide +kernel
theorem dX8_follows_164 : decode cX8_follows 164 = .ok (.iload 4, 2) := by decide +kernel
theorem dX8_follows_166 : decode cX8_follows 166 = .ok (.invokevirtual 38, 3) := by decide +kernel
theorem dX8_follows_169 : decode cX8_follows 169 = .ok (.iadd, 1) := by decide +kernel
theorem dX8_follows_170 : decode cX8_follows 170 = .ok (.bipush 48, 2) := by decide +kernel
theorem dX8_follows_172 : decode cX8_follows 172 = .ok (.isub, 1) := by decide +kernel
theorem dX8_follows_173 : decode cX8_follows 173 = .ok (.iastore, 1) := by decide +kernel
theorem dX8_follows_174 : decode cX8_follows 174 = .ok (.iinc 5 1, 3) := by decide +kernel
theorem dX8_follows_177 : decode cX8_follows 177 = .ok (.iinc 4 1, 3) := by decide +kernel
theorem dX8_follows_180 : decode cX8_follows 180 = .ok (.iinc 6 1, 3) := by decide +kernel
theorem dX8_follows_183 : decode cX8_follows 183 = .ok (.goto (-174), 3) := by decide +kernel
theorem dX8_follows_186 : decode cX8_follows 186 = .ok (.aload_n 0, 1) := by decide +kernel
theorem dX8_follows_187 : decode cX8_follows 187 = .ok (.iload 4, 2) := by decide +kernel
theorem dX8_follows_189 : decode cX8_follows 189 = .ok (.putfield 28, 3) := by decide +kernel
theorem dX8_follows_192 : decode cX8_follows 192 = .ok (.iconst 1, 1) := by decide +kernel
theorem dX8_follows_193 : decode cX8_follows 193 = .ok (.ireturn, 1) := by decide +kernel
theorem dX8_isPlace_0 : decode cX8_isPlace 0 = .ok (.iload_n 0, 1) := by decide +kernel
theorem dX8_isPlace_1 : decode cX8_isPlace 1 = .ok (.bipush 68, 2) := by decide +kernel
theorem dX8_isPlace_3 : decode cX8_isPlace 3 = .ok (.if_icmp .eq 15, 3) := by decide +kernel
theorem dX8_isPlace_6 : decode cX8_isPlace 6 = .ok (.iload_n 0, 1) := by decide +kernel
theorem dX8_isPlace_7 : decode cX8_isPlace 7 = .ok (.bipush 78, 2) := by decide +kernel
theorem dX8_isPlace_9 : decode cX8_isPlace 9 = .ok (.if_icmp .eq 9, 3) := by decide +kernel
theorem dX8_isPlace_12 : decode cX8_isPlace 12 = .ok (.iload_n 0, 1) := by decide +kernel
theorem dX8_isPlace_13 : decode cX8_isPlace 13 = .ok (.bipush 76, 2) := by decide +kernel
theorem dX8_isPlace_15 : decode cX8_isPlace 15 = .ok (.if_icmp .ne 7, 3) := by decide +kernel
theorem dX8_isPlace_18 : decode cX8_isPlace 18 = .ok (.iconst 1, 1) := by decide +kernel
theorem dX8_isPlace_19 : decode cX8_isPlace 19 = .ok (.goto 4, 3) := by decide +kernel
theorem dX8_isPlace_22 : decode cX8_isPlace 22 = .ok (.iconst 0, 1) := by decide +kernel
theorem dX8_isPlace_23 : decode cX8_isPlace 23 = .ok (.ireturn, 1) := by decide +kernel
theorem dX8_fits_0 : decode cX8_fits 0 = .ok (.iload_n 1, 1) := by decide +kernel
theorem dX8_fits_1 : decode cX8_fits 1 = .ok (.bipush 76, 2) := by decide +kernel
theorem dX8_fits_3 : decode cX8_fits 3 = .ok (.if_icmp .ne 12, 3) := by decide +kernel
theorem dX8_fits_6 : decode cX8_fits 6 = .ok (.iload_n 0, 1) := by decide +kernel
theorem dX8_fits_7 : decode cX8_fits 7 = .ok (.bipush 97, 2) := by decide +kernel
theorem dX8_fits_9 : decode cX8_fits 9 = .ok (.bipush 104, 2) := by decide +kernel
theorem dX8_fits_11 : decode cX8_fits 11 = .ok (.invokestatic 72, 3) := by decide +kernel
theorem dX8_fits_14 : decode cX8_fits 14 = .ok (.ireturn, 1) := by decide +kernel
theorem dX8_fits_15 : decode cX8_fits 15 = .ok (.iload_n 1, 1) := by decide +kernel
theorem dX8_fits_16 : decode cX8_fits 16 = .ok (.invokestatic 68, 3) := by decide +kernel
theorem dX8_fits_19 : decode cX8_fits 19 = .ok (.ifCond .eq 14, 3) := by decide +kernel
theorem dX8_fits_22 : decode cX8_fits 22 = .ok (.iload_n 0, 1) := by decide +kernel
theorem dX8_fits_23 : decode cX8_fits 23 = .ok (.bipush 48, 2) := by decide +kernel
theorem dX8_fits_25 : decode cX8_fits 25 = .ok (.bipush 57, 2) := by decide +kernel
theorem dX8_fits_27 : decode cX8_fits 27 = .ok (.invokestatic 72, 3) := by decide +kernel
theorem dX8_fits_30 : decode cX8_fits 30 = .ok (.goto 13, 3) := by decide +kernel
theorem dX8_fits_33 : decode cX8_fits 33 = .ok (.iload_n 0, 1) := by decide +kernel
theorem dX8_fits_34 : decode cX8_fits 34 = .ok (.iload_n 1, 1) := by decide +kernel
theorem dX8_fits_35 : decode cX8_fits 35 = .ok (.if_icmp .ne 7, 3) := by decide +kernel
theorem dX8_fits_38 : decode cX8_fits 38 = .ok (.iconst 1, 1) := by decide +kernel
theorem dX8_fits_39 : decode cX8_fits 39 = .ok (.goto 4, 3) := by decide +kernel
theorem dX8_fits_42 : decode cX8_fits 42 = .ok (.iconst 0, 1) := by decide +kernel
theorem dX8_fits_43 : decode cX8_fits 43 = .ok (.ireturn, 1) := by decide +kernel
theorem dX9_init_0 : decode cX9_init 0 = .ok (.aload_n 0, 1) := by decide +kernel
theorem dX9_init_1 : decode cX9_init 1 = .ok (.invokespecial 3, 3) := by decide +kernel
theorem dX9_init_4 : decode cX9_init 4 = .ok (.aload_n 0, 1) := by decide +kernel
theorem dX9_init_5 : decode cX9_init 5 = .ok (.new 9, 3) := by decide +kernel
theorem dX9_init_8 : decode cX9_init 8 = .ok (.dup, 1) := by decide +kernel
theorem dX9_init_9 : decode cX9_init 9 = .ok (.invokespecial 11, 3) := by decide +kernel
theorem dX9_init_12 : decode cX9_init 12 = .ok (.putfield 12, 3) := by decide +kernel
theorem dX9_init_15 : decode cX9_init 15 = .ok (.aload_n 0, 1) := by decide +kernel
theorem dX9_init_16 : decode cX9_init 16 = .ok (.new 9, 3) := by decide +kernel
theorem dX9_init_19 : decode cX9_init 19 = .ok (.dup, 1) := by decide +kernel
theorem dX9_init_20 : decode cX9_init 20 = .ok (.invokespecial 11, 3) := by decide +kernel
theorem dX9_init_23 : decode cX9_init 23 = .ok (.putfield 16, 3) := by decide +kernel
theorem dX9_init_26 : decode cX9_init 26 = .ok (.aload_n 0, 1) := by decide +kernel
theorem dX9_init_27 : decode cX9_init 27 = .ok (.new 19, 3) := by decide +kernel
theorem dX9_init_30 : decode cX9_init 30 = .ok (.dup, 1) := by decide +kernel
theorem dX9_init_31 : decode cX9_init 31 = .ok (.invokespecial 21, 3) := by decide +kernel
theorem dX9_init_34 : decode cX9_init 34 = .ok (.putfield 22, 3) := by decide +kernel
theorem dX9_init_37 : decode cX9_init 37 = .ok (.aload_n 0, 1) := by decide +kernel
theorem dX9_init_38 : decode cX9_init 38 = .ok (.new 26, 3) := by decide +kernel
theorem dX9_init_41 : decode cX9_init 41 = .ok (.dup, 1) := by decide +kernel
theorem dX9_init_42 : decode cX9_init 42 = .ok (.invokespecial 28, 3) := by decide +kernel
theorem dX9_init_45 : decode cX9_init 45 = .ok (.putfield 29, 3) := by decide +kernel
theorem dX9_init_48 : decode cX9_init 48 = .ok (.aload_n 0, 1) := by decide +kernel
theorem dX9_init_49 : decode cX9_init 49 = .ok (.new 33, 3) := by decide +kernel
theorem dX9_init_52 : decode cX9_init 52 = .ok (.dup, 1) := by decide +kernel
theorem dX9_init_53 : decode cX9_init 53 = .ok (.invokespecial 35, 3) := by decide +kernel
theorem dX9_init_56 : decode cX9_init 56 = .ok (.putfield 36, 3) := by decide +kernel
theorem dX9_init_59 : decode cX9_init 59 = .ok (.aload_n 0, 1) := by decide +kernel
theorem dX9_init_60 : decode cX9_init 60 = .ok (.new 40, 3) := by decide +kernel
theorem dX9_init_63 : decode cX9_init 63 = .ok (.dup, 1) := by decide +kernel
theorem dX9_init_64 : decode cX9_init 64 = .ok (.invokespecial 42, 3) := by decide +kernel
theorem dX9_init_67 : decode cX9_init 67 = .ok (.putfield 43, 3) := by decide +kernel
theorem dX9_init_70 : decode cX9_init 70 = .ok (.aload_n 0, 1) := by decide +kernel
theorem dX9_init_71 : decode cX9_init 71 = .ok (.new 40, 3) := by decide +kernel
theorem dX9_init_74 : decode cX9_init 74 = .ok (.dup, 1) := by decide +kernel
theorem dX9_init_75 : decode cX9_init 75 = .ok (.invokespecial 42, 3) := by decide +kernel
theorem dX9_init_78 : decode cX9_init 78 = .ok (.putfield 47, 3) := by decide +kernel
theorem dX9_init_81 : decode cX9_init 81 = .ok (.aload_n 0, 1) := by decide +kernel
theorem dX9_init_82 : decode cX9_init 82 = .ok (.bipush (-4), 2) := by decide +kernel
theorem dX9_init_84 : decode cX9_init 84 = .ok (.putfield 50, 3) := by decide +kernel
theorem dX9_init_87 : decode cX9_init 87 = .ok (.return_, 1) := by decide +kernel
theorem dX9_append_0 : decode cX9_append 0 = .ok (.iload_n 1, 1) := by decide +kernel
theorem dX9_append_1 : decode cX9_append 1 = .ok (.bipush 32, 2) := by decide +kernel
theorem dX9_append_3 : decode cX9_append 3 = .ok (.bipush 126, 2) := by decide +kernel
theorem dX9_append_5 : decode cX9_append 5 = .ok (.invokestatic 69, 3) := by decide +kernel
theorem dX9_append_8 : decode cX9_append 8 = .ok (.ifCond .eq 15, 3) := by decide +kernel
theorem dX9_append_11 : decode cX9_append 11 = .ok (.aload_n 0, 1) := by decide +kernel
theorem dX9_append_12 : decode cX9_append 12 = .ok (.getfield 43, 3) := by decide +kernel
theorem dX9_append_15 : decode cX9_append 15 = .ok (.invokevirtual 73, 3) := by decide +kernel
theorem dX9_append_18 : decode cX9_append 18 = .ok (.bipush 60, 2) := by decide +kernel
theorem dX9_append_20 : decode cX9_append 20 = .ok (.if_icmp .lt 6, 3) := by decide +kernel
theorem dX9_append_23 : decode cX9_append 23 = .ok (.bipush (-2), 2) := by decide +kernel
theorem dX9_append_25 : decode cX9_append 25 = .ok (.ireturn, 1) := by decide +kernel
theorem dX9_append_26 : decode cX9_append 26 = .ok (.aload_n 0, 1) := by decide +kernel
theorem dX9_append_27 : decode cX9_append 27 = .ok (.getfield 43, 3) := by decide +kernel
theorem dX9_append_30 : decode cX9_append 30 = .ok (.iload_n 1, 1) := by decide +kernel
theorem dX9_append_31 : decode cX9_append 31 = .ok (.invokevirtual 77, 3) := by decide +kernel
theorem dX9_append_34 : decode cX9_append 34 = .ok (.pop, 1) := by decide +kernel
theorem dX9_append_35 : decode cX9_append 35 = .ok (.aload_n 0, 1) := by decide +kernel
theorem dX9_append_36 : decode cX9_append 36 = .ok (.getfield 43, 3) := by decide +kernel
theorem dX9_append_39 : decode cX9_append 39 = .ok (.invokevirtual 73, 3) := by decide +kernel
theorem dX9_append_42 : decode cX9_append 42 = .ok (.ireturn, 1) := by decide +kernel
theorem dX9_star_0 : decode cX9_star 0 = .ok (.aload_n 0, 1) := by decide +kernel
theorem dX9_star_1 : decode cX9_star 1 = .ok (.getstatic 81, 3) := by decide +kernel
theorem dX9_star_4 : decode cX9_star 4 = .ok (.iload_n 1, 1) := by decide +kernel
theorem dX9_star_5 : decode cX9_star 5 = .ok (.iload_n 2, 1) := by decide +kernel
theorem dX9_star_6 : decode cX9_star 6 = .ok (.iconst 0, 1) := by decide +kernel
theorem dX9_star_7 : decode cX9_star 7 = .ok (.invokevirtual 87, 3) := by decide +kernel
theorem dX9_star_10 : decode cX9_star 10 = .ok (.ireturn, 1) := by decide +kernel
theorem dX9_roof_0 : decode cX9_roof 0 = .ok (.aload_n 0, 1) := by decide +kernel
theorem dX9_roof_1 : decode cX9_roof 1 = .ok (.getstatic 91, 3) := by decide +kernel
theorem dX9_roof_4 : decode cX9_roof 4 = .ok (.iload_n 1, 1) := by decide +kernel
theorem dX9_roof_5 : decode cX9_roof 5 = .ok (.iconst 0, 1) := by decide +kernel
theorem dX9_roof_6 : decode cX9_roof 6 = .ok (.iconst 0, 1) := by decide +kernel
theorem dX9_roof_7 : decode cX9_roof 7 = .ok (.invokevirtual 87, 3) := by decide +kernel
theorem dX9_roof_10 : decode cX9_roof 10 = .ok (.ireturn, 1) := by decide +kernel
theorem dX9_cloud_0 : decode cX9_cloud 0 = .ok (.aload_n 0, 1) := by decide +kernel
theorem dX9_cloud_1 : decode cX9_cloud 1 = .ok (.getstatic 94, 3) := by decide +kernel
theorem dX9_cloud_4 : decode cX9_cloud 4 = .ok (.iload_n 1, 1) := by decide +kernel
theorem dX9_cloud_5 : decode cX9_cloud 5 = .ok (.iload_n 2, 1) := by decide +kernel
theorem dX9_cloud_6 : decode cX9_cloud 6 = .ok (.iconst 0, 1) := by decide +kernel
theorem dX9_cloud_7 : decode cX9_cloud 7 = .ok (.invokevirtual 87, 3) := by decide +kernel
theorem dX9_cloud_10 : decode cX9_cloud 10 = .ok (.ireturn, 1) := by decide +kernel
theorem dX9_sight_0 : decode cX9_sight 0 = .ok (.aload_n 0, 1) := by decide +kernel
theorem dX9_sight_1 : decode cX9_sight 1 = .ok (.getstatic 97, 3) := by decide +kernel
theorem dX9_sight_4 : decode cX9_sight 4 = .ok (.iload_n 1, 1) := by decide +kernel
theorem dX9_sight_5 : decode cX9_sight 5 = .ok (.iload_n 2, 1) := by decide +kernel
theorem dX9_sight_6 : decode cX9_sight 6 = .ok (.iconst 0, 1) := by decide +kernel
theorem dX9_sight_7 : decode cX9_sight 7 = .ok (.invokevirtual 87, 3) := by decide +kernel
theorem dX9_sight_10 : decode cX9_sight 10 = .ok (.ireturn, 1) := by decide +kernel
theorem dX9_claim_0 : decode cX9_claim 0 = .ok (.aload_n 0, 1) := by decide +kernel
theorem dX9_claim_1 : decode cX9_claim 1 = .ok (.getstatic 100, 3) := by decide +kernel
theorem dX9_claim_4 : decode cX9_claim 4 = .ok (.iload_n 1, 1) := by decide +kernel
theorem dX9_claim_5 : decode cX9_claim 5 = .ok (.iload_n 2, 1) := by decide +kernel
theorem dX9_claim_6 : decode cX9_claim 6 = .ok (.iconst 0, 1) := by decide +kernel
theorem dX9_claim_7 : decode cX9_claim 7 = .ok (.invokevirtual 87, 3) := by decide +kernel
theorem dX9_claim_10 : decode cX9_claim 10 = .ok (.ireturn, 1) := by decide +kernel
theorem dX9_drop_0 : decode cX9_drop 0 = .ok (.aload_n 0, 1) := by decide +kernel
theorem dX9_drop_1 : decode cX9_drop 1 = .ok (.getstatic 103, 3) := by decide +kernel
theorem dX9_drop_4 : decode cX9_drop 4 = .ok (.iload_n 1, 1) := by decide +kernel
theorem dX9_drop_5 : decode cX9_drop 5 = .ok (.iconst 0, 1) := by decide +kernel
theorem dX9_drop_6 : decode cX9_drop 6 = .ok (.iconst 0, 1) := by decide +kernel
theorem dX9_drop_7 : decode cX9_drop 7 = .ok (.invokevirtual 87, 3) := by decide +kernel
theorem dX9_drop_10 : decode cX9_drop 10 = .ok (.ireturn, 1) := by decide +kernel
theorem dX9_wish_0 : decode cX9_wish 0 = .ok (.aload_n 0, 1) := by decide +kernel
theorem dX9_wish_1 : decode cX9_wish 1 = .ok (.getstatic 106, 3) := by decide +kernel
theorem dX9_wish_4 : decode cX9_wish 4 = .ok (.iload_n 1, 1) := by decide +kernel
theorem dX9_wish_5 : decode cX9_wish 5 = .ok (.iload_n 2, 1) := by decide +kernel
theorem dX9_wish_6 : decode cX9_wish 6 = .ok (.iload_n 3, 1) := by decide +kernel
theorem dX9_wish_7 : decode cX9_wish 7 = .ok (.invokevirtual 87, 3) := by decide +kernel
theorem dX9_wish_10 : decode cX9_wish 10 = .ok (.ireturn, 1) := by decide +kernel
theorem dX9_pay_0 : decode cX9_pay 0 = .ok (.aload_n 0, 1) := by decide +kernel
theorem dX9_pay_1 : decode cX9_pay 1 = .ok (.getstatic 109, 3) := by decide +kernel
theorem dX9_pay_4 : decode cX9_pay 4 = .ok (.iload_n 1, 1) := by decide +kernel
theorem dX9_pay_5 : decode cX9_pay 5 = .ok (.iload_n 2, 1) := by decide +kernel
theorem dX9_pay_6 : decode cX9_pay 6 = .ok (.iconst 0, 1) := by decide +kernel
theorem dX9_pay_7 : decode cX9_pay 7 = .ok (.invokevirtual 87, 3) := by decide +kernel
theorem dX9_pay_10 : decode cX9_pay 10 = .ok (.ireturn, 1) := by decide +kernel
theorem dX9_pound_0 : decode cX9_pound 0 = .ok (.aload_n 0, 1) := by decide +kernel
theorem dX9_pound_1 : decode cX9_pound 1 = .ok (.getstatic 112, 3) := by decide +kernel
theorem dX9_pound_4 : decode cX9_pound 4 = .ok (.iload_n 1, 1) := by decide +kernel
theorem dX9_pound_5 : decode cX9_pound 5 = .ok (.iconst 0, 1) := by decide +kernel
theorem dX9_pound_6 : decode cX9_pound 6 = .ok (.iconst 0, 1) := by decide +kernel
theorem dX9_pound_7 : decode cX9_pound 7 = .ok (.invokevirtual 87, 3) := by decide +kernel
theorem dX9_pound_10 : decode cX9_pound 10 = .ok (.ireturn, 1) := by decide +kernel
theorem dX9_redeem_0 : decode cX9_redeem 0 = .ok (.aload_n 0, 1) := by decide +kernel
theorem dX9_redeem_1 : decode cX9_redeem 1 = .ok (.getstatic 115, 3) := by decide +kernel
theorem dX9_redeem_4 : decode cX9_redeem 4 = .ok (.iload_n 1, 1) := by decide +kernel
theorem dX9_redeem_5 : decode cX9_redeem 5 = .ok (.iconst 0, 1) := by decide +kernel
theorem dX9_redeem_6 : decode cX9_redeem 6 = .ok (.iconst 0, 1) := by decide +kernel
theorem dX9_redeem_7 : decode cX9_redeem 7 = .ok (.invokevirtual 87, 3) := by decide +kernel
theorem dX9_redeem_10 : decode cX9_redeem 10 = .ok (.ireturn, 1) := by decide +kernel
theorem dX9_stay_0 : decode cX9_stay 0 = .ok (.aload_n 0, 1) := by decide +kernel
theorem dX9_stay_1 : decode cX9_stay 1 = .ok (.getstatic 118, 3) := by decide +kernel
theorem dX9_stay_4 : decode cX9_stay 4 = .ok (.iload_n 1, 1) := by decide +kernel
theorem dX9_stay_5 : decode cX9_stay 5 = .ok (.iload_n 2, 1) := by decide +kernel
theorem dX9_stay_6 : decode cX9_stay 6 = .ok (.iconst 0, 1) := by decide +kernel
theorem dX9_stay_7 : decode cX9_stay 7 = .ok (.invokevirtual 87, 3) := by decide +kernel
theorem dX9_stay_10 : decode cX9_stay 10 = .ok (.ireturn, 1) := by decide +kernel
theorem dX9_dawn_0 : decode cX9_dawn 0 = .ok (.aload_n 0, 1) := by decide +kernel
theorem dX9_dawn_1 : decode cX9_dawn 1 = .ok (.getstatic 121, 3) := by decide +kernel
theorem dX9_dawn_4 : decode cX9_dawn 4 = .ok (.iconst 0, 1) := by decide +kernel
theorem dX9_dawn_5 : decode cX9_dawn 5 = .ok (.iconst 0, 1) := by decide +kernel
theorem dX9_dawn_6 : decode cX9_dawn 6 = .ok (.iconst 0, 1) := by decide +kernel
theorem dX9_dawn_7 : decode cX9_dawn 7 = .ok (.invokevirtual 87, 3) := by decide +kernel
theorem dX9_dawn_10 : decode cX9_dawn 10 = .ok (.ireturn, 1) := by decide +kernel
theorem dX9_read_0 : decode cX9_read 0 = .ok (.aload_n 0, 1) := by decide +kernel
theorem dX9_read_1 : decode cX9_read 1 = .ok (.invokevirtual 124, 3) := by decide +kernel
theorem dX9_read_4 : decode cX9_read 4 = .ok (.istore_n 1, 1) := by decide +kernel
theorem dX9_read_5 : decode cX9_read 5 = .ok (.aload_n 0, 1) := by decide +kernel
theorem dX9_read_6 : decode cX9_read 6 = .ok (.getfield 43, 3) := by decide +kernel
theorem dX9_read_9 : decode cX9_read 9 = .ok (.iconst 0, 1) := by decide +kernel
theorem dX9_read_10 : decode cX9_read 10 = .ok (.invokevirtual 127, 3) := by decide +kernel
theorem dX9_read_13 : decode cX9_read 13 = .ok (.iload_n 1, 1) := by decide +kernel
theorem dX9_read_14 : decode cX9_read 14 = .ok (.ireturn, 1) := by decide +kernel
theorem dX9_reason_0 : decode cX9_reason 0 = .ok (.aload_n 0, 1) := by decide +kernel
theorem dX9_reason_1 : decode cX9_reason 1 = .ok (.getfield 29, 3) := by decide +kernel
theorem dX9_reason_4 : decode cX9_reason 4 = .ok (.iload_n 1, 1) := by decide +kernel
theorem dX9_reason_5 : decode cX9_reason 5 = .ok (.iload_n 2, 1) := by decide +kernel
theorem dX9_reason_6 : decode cX9_reason 6 = .ok (.invokevirtual 131, 3) := by decide +kernel
theorem dX9_reason_9 : decode cX9_reason 9 = .ok (.ireturn, 1) := by decide +kernel
theorem dX9_starOf_0 : decode cX9_starOf 0 = .ok (.aload_n 0, 1) := by decide +kernel
theorem dX9_starOf_1 : decode cX9_starOf 1 = .ok (.getfield 12, 3) := by decide +kernel
theorem dX9_starOf_4 : decode cX9_starOf 4 = .ok (.getfield 54, 3) := by decide +kernel
theorem dX9_starOf_7 : decode cX9_starOf 7 = .ok (.iload_n 1, 1) := by decide +kernel
theorem dX9_starOf_8 : decode cX9_starOf 8 = .ok (.invokevirtual 135, 3) := by decide +kernel
theorem dX9_starOf_11 : decode cX9_starOf 11 = .ok (.ifCond .ne 5, 3) := by decide +kernel
theorem dX9_starOf_14 : decode cX9_starOf 14 = .ok (.iconst (-1), 1) := by decide +kernel
theorem dX9_starOf_15 : decode cX9_starOf 15 = .ok (.ireturn, 1) := by decide +kernel
theorem dX9_starOf_16 : decode cX9_starOf 16 = .ok (.iload_n 2, 1) := by decide +kernel
theorem dX9_starOf_17 : decode cX9_starOf 17 = .ok (.tableswitch 123 0 5 #[39, 52, 65, 85, 98, 111], 39) := by decide +kernel
theorem dX9_starOf_56 : decode cX9_starOf 56 = .ok (.aload_n 0, 1) := by decide +kernel
theorem dX9_starOf_57 : decode cX9_starOf 57 = .ok (.getfield 12, 3) := by decide +kernel
theorem dX9_starOf_60 : decode cX9_starOf 60 = .ok (.getfield 54, 3) := by decide +kernel
theorem dX9_starOf_63 : decode cX9_starOf 63 = .ok (.getfield 139, 3) := by decide +kernel
theorem dX9_starOf_66 : decode cX9_starOf 66 = .ok (.iload_n 1, 1) := by decide +kernel
theorem dX9_starOf_67 : decode cX9_starOf 67 = .ok (.iaload, 1) := by decide +kernel
theorem dX9_starOf_68 : decode cX9_starOf 68 = .ok (.ireturn, 1) := by decide +kernel
theorem dX9_starOf_69 : decode cX9_starOf 69 = .ok (.aload_n 0, 1) := by decide +kernel
theorem dX9_starOf_70 : decode cX9_starOf 70 = .ok (.getfield 12, 3) := by decide +kernel
theorem dX9_starOf_73 : decode cX9_starOf 73 = .ok (.getfield 54, 3) := by decide +kernel
theorem dX9_starOf_76 : decode cX9_starOf 76 = .ok (.getfield 143, 3) := by decide +kernel
theorem dX9_starOf_79 : decode cX9_starOf 79 = .ok (.iload_n 1, 1) := by decide +kernel
theorem dX9_starOf_80 : decode cX9_starOf 80 = .ok (.iaload, 1) := by decide +kernel
theorem dX9_starOf_81 : decode cX9_starOf 81 = .ok (.ireturn, 1) := by decide +kernel
theorem dX9_starOf_82 : decode cX9_starOf 82 = .ok (.aload_n 0, 1) := by decide +kernel
theorem dX9_starOf_83 : decode cX9_starOf 83 = .ok (.getfield 12, 3) := by decide +kernel
theorem dX9_starOf_86 : decode cX9_starOf 86 = .ok (.getfield 54, 3) := by decide +kernel
theorem dX9_starOf_89 : decode cX9_starOf 89 = .ok (.iload_n 1, 1) := by decide +kernel
theorem dX9_starOf_90 : decode cX9_starOf 90 = .ok (.invokevirtual 146, 3) := by decide +kernel
theorem dX9_starOf_93 : decode cX9_starOf 93 = .ok (.ifCond .eq 7, 3) := by decide +kernel
theorem dX9_starOf_96 : decode cX9_starOf 96 = .ok (.iconst 1, 1) := by decide +kernel
theorem dX9_starOf_97 : decode cX9_starOf 97 = .ok (.goto 4, 3) := by decide +kernel
theorem dX9_starOf_100 : decode cX9_starOf 100 = .ok (.iconst 0, 1) := by decide +kernel
theorem dX9_starOf_101 : decode cX9_starOf 101 = .ok (.ireturn, 1) := by decide +kernel
theorem dX9_starOf_102 : decode cX9_starOf 102 = .ok (.aload_n 0, 1) := by decide +kernel
theorem dX9_starOf_103 : decode cX9_starOf 103 = .ok (.getfield 12, 3) := by decide +kernel
theorem dX9_starOf_106 : decode cX9_starOf 106 = .ok (.getfield 54, 3) := by decide +kernel
theorem dX9_starOf_109 : decode cX9_starOf 109 = .ok (.getfield 149, 3) := by decide +kernel
theorem dX9_starOf_112 : decode cX9_starOf 112 = .ok (.iload_n 1, 1) := by decide +kernel
theorem dX9_starOf_113 : decode cX9_starOf 113 = .ok (.iaload, 1) := by decide +kernel
theorem dX9_starOf_114 : decode cX9_starOf 114 = .ok (.ireturn, 1) := by decide +kernel
theorem dX9_starOf_115 : decode cX9_starOf 115 = .ok (.aload_n 0, 1) := by decide +kernel
theorem dX9_starOf_116 : decode cX9_starOf 116 = .ok (.getfield 12, 3) := by decide +kernel
theorem dX9_starOf_119 : decode cX9_starOf 119 = .ok (.getfield 54, 3) := by decide +kernel
theorem dX9_starOf_122 : decode cX9_starOf 122 = .ok (.getfield 152, 3) := by decide +kernel
theorem dX9_starOf_125 : decode cX9_starOf 125 = .ok (.iload_n 1, 1) := by decide +kernel
theorem dX9_starOf_126 : decode cX9_starOf 126 = .ok (.iaload, 1) := by decide +kernel
theorem dX9_starOf_127 : decode cX9_starOf 127 = .ok (.ireturn, 1) := by decide +kernel
theorem dX9_starOf_128 : decode cX9_starOf 128 = .ok (.aload_n 0, 1) := by decide +kernel
theorem dX9_starOf_129 : decode cX9_starOf 129 = .ok (.getfield 12, 3) := by decide +kernel
theorem dX9_starOf_132 : decode cX9_starOf 132 = .ok (.getfield 155, 3) := by decide +kernel
theorem dX9_starOf_135 : decode cX9_starOf 135 = .ok (.iload_n 1, 1) := by decide +kernel
theorem dX9_starOf_136 : decode cX9_starOf 136 = .ok (.invokevirtual 159, 3) := by decide +kernel
theorem dX9_starOf_139 : decode cX9_starOf 139 = .ok (.ireturn, 1) := by decide +kernel
theorem dX9_starOf_140 : decode cX9_starOf 140 = .ok (.bipush (-2), 2) := by decide +kernel
theorem dX9_starOf_142 : decode cX9_starOf 142 = .ok (.ireturn, 1) := by decide +kernel
theorem dX9_roofOf_0 : decode cX9_roofOf 0 = .ok (.aload_n 0, 1) := by decide +kernel
theorem dX9_roofOf_1 : decode cX9_roofOf 1 = .ok (.getfield 12, 3) := by decide +kernel
theorem dX9_roofOf_4 : decode cX9_roofOf 4 = .ok (.getfield 165, 3) := by decide +kernel
theorem dX9_roofOf_7 : decode cX9_roofOf 7 = .ok (.iload_n 1, 1) := by decide +kernel
theorem dX9_roofOf_8 : decode cX9_roofOf 8 = .ok (.invokevirtual 169, 3) := by decide +kernel
theorem dX9_roofOf_11 : decode cX9_roofOf 11 = .ok (.ifCond .ne 5, 3) := by decide +kernel
theorem dX9_roofOf_14 : decode cX9_roofOf 14 = .ok (.iconst (-1), 1) := by decide +kernel
theorem dX9_roofOf_15 : decode cX9_roofOf 15 = .ok (.ireturn, 1) := by decide +kernel
theorem dX9_roofOf_16 : decode cX9_roofOf 16 = .ok (.iload_n 2, 1) := by decide +kernel
theorem dX9_roofOf_17 : decode cX9_roofOf 17 = .ok (.tableswitch 168 0 8 #[51, 64, 77, 89, 104, 117, 130, 142, 155], 51) := by decide +kernel
theorem dX9_roofOf_68 : decode cX9_roofOf 68 = .ok (.aload_n 0, 1) := by decide +kernel
theorem dX9_roofOf_69 : decode cX9_roofOf 69 = .ok (.getfield 12, 3) := by decide +kernel
theorem dX9_roofOf_72 : decode cX9_roofOf 72 = .ok (.getfield 165, 3) := by decide +kernel
theorem dX9_roofOf_75 : decode cX9_roofOf 75 = .ok (.getfield 172, 3) := by decide +kernel
theorem dX9_roofOf_78 : decode cX9_roofOf 78 = .ok (.iload_n 1, 1) := by decide +kernel
theorem dX9_roofOf_79 : decode cX9_roofOf 79 = .ok (.iaload, 1) := by decide +kernel
theorem dX9_roofOf_80 : decode cX9_roofOf 80 = .ok (.ireturn, 1) := by decide +kernel
theorem dX9_roofOf_81 : decode cX9_roofOf 81 = .ok (.aload_n 0, 1) := by decide +kernel
theorem dX9_roofOf_82 : decode cX9_roofOf 82 = .ok (.getfield 12, 3) := by decide +kernel
theorem dX9_roofOf_85 : decode cX9_roofOf 85 = .ok (.getfield 165, 3) := by decide +kernel
theorem dX9_roofOf_88 : decode cX9_roofOf 88 = .ok (.getfield 175, 3) := by decide +kernel
theorem dX9_roofOf_91 : decode cX9_roofOf 91 = .ok (.iload_n 1, 1) := by decide +kernel
theorem dX9_roofOf_92 : decode cX9_roofOf 92 = .ok (.iaload, 1) := by decide +kernel
theorem dX9_roofOf_93 : decode cX9_roofOf 93 = .ok (.ireturn, 1) := by decide +kernel
theorem dX9_roofOf_94 : decode cX9_roofOf 94 = .ok (.aload_n 0, 1) := by decide +kernel
theorem dX9_roofOf_95 : decode cX9_roofOf 95 = .ok (.getfield 12, 3) := by decide +kernel
theorem dX9_roofOf_98 : decode cX9_roofOf 98 = .ok (.getfield 155, 3) := by decide +kernel
theorem dX9_roofOf_101 : decode cX9_roofOf 101 = .ok (.iload_n 1, 1) := by decide +kernel
theorem dX9_roofOf_102 : decode cX9_roofOf 102 = .ok (.invokevirtual 178, 3) := by decide +kernel
theorem dX9_roofOf_105 : decode cX9_roofOf 105 = .ok (.ireturn, 1) := by decide +kernel
theorem dX9_roofOf_106 : decode cX9_roofOf 106 = .ok (.aload_n 0, 1) := by decide +kernel
theorem dX9_roofOf_107 : decode cX9_roofOf 107 = .ok (.getfield 12, 3) := by decide +kernel
theorem dX9_roofOf_110 : decode cX9_roofOf 110 = .ok (.getfield 155, 3) := by decide +kernel
theorem dX9_roofOf_113 : decode cX9_roofOf 113 = .ok (.iload_n 1, 1) := by decide +kernel
theorem dX9_roofOf_114 : decode cX9_roofOf 114 = .ok (.invokevirtual 181, 3) := by decide +kernel
theorem dX9_roofOf_117 : decode cX9_roofOf 117 = .ok (.invokestatic 184, 3) := by decide +kernel
theorem dX9_roofOf_120 : decode cX9_roofOf 120 = .ok (.ireturn, 1) := by decide +kernel
theorem dX9_roofOf_121 : decode cX9_roofOf 121 = .ok (.aload_n 0, 1) := by decide +kernel
theorem dX9_roofOf_122 : decode cX9_roofOf 122 = .ok (.getfield 12, 3) := by decide +kernel
theorem dX9_roofOf_125 : decode cX9_roofOf 125 = .ok (.getfield 165, 3) := by decide +kernel
theorem dX9_roofOf_128 : decode cX9_roofOf 128 = .ok (.getfield 189, 3) := by decide +kernel
theorem dX9_roofOf_131 : decode cX9_roofOf 131 = .ok (.iload_n 1, 1) := by decide +kernel
theorem dX9_roofOf_132 : decode cX9_roofOf 132 = .ok (.iaload, 1) := by decide +kernel
theorem dX9_roofOf_133 : decode cX9_roofOf 133 = .ok (.ireturn, 1) := by decide +kernel
theorem dX9_roofOf_134 : decode cX9_roofOf 134 = .ok (.aload_n 0, 1) := by decide +kernel
theorem dX9_roofOf_135 : decode cX9_roofOf 135 = .ok (.getfield 12, 3) := by decide +kernel
theorem dX9_roofOf_138 : decode cX9_roofOf 138 = .ok (.getfield 165, 3) := by decide +kernel
theorem dX9_roofOf_141 : decode cX9_roofOf 141 = .ok (.getfield 192, 3) := by decide +kernel
theorem dX9_roofOf_144 : decode cX9_roofOf 144 = .ok (.iload_n 1, 1) := by decide +kernel
theorem dX9_roofOf_145 : decode cX9_roofOf 145 = .ok (.iaload, 1) := by decide +kernel
theorem dX9_roofOf_146 : decode cX9_roofOf 146 = .ok (.ireturn, 1) := by decide +kernel
theorem dX9_roofOf_147 : decode cX9_roofOf 147 = .ok (.aload_n 0, 1) := by decide +kernel
theorem dX9_roofOf_148 : decode cX9_roofOf 148 = .ok (.getfield 12, 3) := by decide +kernel
theorem dX9_roofOf_151 : decode cX9_roofOf 151 = .ok (.getfield 54, 3) := by decide +kernel
theorem dX9_roofOf_154 : decode cX9_roofOf 154 = .ok (.iload_n 1, 1) := by decide +kernel
theorem dX9_roofOf_155 : decode cX9_roofOf 155 = .ok (.invokevirtual 195, 3) := by decide +kernel
theorem dX9_roofOf_158 : decode cX9_roofOf 158 = .ok (.ireturn, 1) := by decide +kernel
theorem dX9_roofOf_159 : decode cX9_roofOf 159 = .ok (.aload_n 0, 1) := by decide +kernel
theorem dX9_roofOf_160 : decode cX9_roofOf 160 = .ok (.getfield 12, 3) := by decide +kernel
theorem dX9_roofOf_163 : decode cX9_roofOf 163 = .ok (.getfield 165, 3) := by decide +kernel
theorem dX9_roofOf_166 : decode cX9_roofOf 166 = .ok (.getfield 198, 3) := by decide +kernel
theorem dX9_roofOf_169 : decode cX9_roofOf 169 = .ok (.iload_n 1, 1) := by decide +kernel
theorem dX9_roofOf_170 : decode cX9_roofOf 170 = .ok (.iaload, 1) := by decide +kernel
theorem dX9_roofOf_171 : decode cX9_roofOf 171 = .ok (.ireturn, 1) := by decide +kernel
theorem dX9_roofOf_172 : decode cX9_roofOf 172 = .ok (.aload_n 0, 1) := by decide +kernel
theorem dX9_roofOf_173 : decode cX9_roofOf 173 = .ok (.getfield 12, 3) := by decide +kernel
theorem dX9_roofOf_176 : decode cX9_roofOf 176 = .ok (.getfield 165, 3) := by decide +kernel
theorem dX9_roofOf_179 : decode cX9_roofOf 179 = .ok (.getfield 201, 3) := by decide +kernel
theorem dX9_roofOf_182 : decode cX9_roofOf 182 = .ok (.iload_n 1, 1) := by decide +kernel
theorem dX9_roofOf_183 : decode cX9_roofOf 183 = .ok (.iaload, 1) := by decide +kernel
theorem dX9_roofOf_184 : decode cX9_roofOf 184 = .ok (.ireturn, 1) := by decide +kernel
theorem dX9_roofOf_185 : decode cX9_roofOf 185 = .ok (.bipush (-2), 2) := by decide +kernel
theorem dX9_roofOf_187 : decode cX9_roofOf 187 = .ok (.ireturn, 1) := by decide +kernel
theorem dX9_wishOf_0 : decode cX9_wishOf 0 = .ok (.aload_n 0, 1) := by decide +kernel
theorem dX9_wishOf_1 : decode cX9_wishOf 1 = .ok (.getfield 12, 3) := by decide +kernel
theorem dX9_wishOf_4 : decode cX9_wishOf 4 = .ok (.getfield 155, 3) := by decide +kernel
theorem dX9_wishOf_7 : decode cX9_wishOf 7 = .ok (.iload_n 1, 1) := by decide +kernel
theorem dX9_wishOf_8 : decode cX9_wishOf 8 = .ok (.invokevirtual 204, 3) := by decide +kernel
theorem dX9_wishOf_11 : decode cX9_wishOf 11 = .ok (.ifCond .ne 5, 3) := by decide +kernel
theorem dX9_wishOf_14 : decode cX9_wishOf 14 = .ok (.iconst (-1), 1) := by decide +kernel
theorem dX9_wishOf_15 : decode cX9_wishOf 15 = .ok (.ireturn, 1) := by decide +kernel
theorem dX9_wishOf_16 : decode cX9_wishOf 16 = .ok (.iload_n 2, 1) := by decide +kernel
theorem dX9_wishOf_17 : decode cX9_wishOf 17 = .ok (.tableswitch 132 0 5 #[39, 52, 65, 78, 91, 104], 39) := by decide +kernel
theorem dX9_wishOf_56 : decode cX9_wishOf 56 = .ok (.aload_n 0, 1) := by decide +kernel
theorem dX9_wishOf_57 : decode cX9_wishOf 57 = .ok (.getfield 12, 3) := by decide +kernel
theorem dX9_wishOf_60 : decode cX9_wishOf 60 = .ok (.getfield 155, 3) := by decide +kernel
theorem dX9_wishOf_63 : decode cX9_wishOf 63 = .ok (.getfield 205, 3) := by decide +kernel
theorem dX9_wishOf_66 : decode cX9_wishOf 66 = .ok (.iload_n 1, 1) := by decide +kernel
theorem dX9_wishOf_67 : decode cX9_wishOf 67 = .ok (.iaload, 1) := by decide +kernel
theorem dX9_wishOf_68 : decode cX9_wishOf 68 = .ok (.ireturn, 1) := by decide +kernel
theorem dX9_wishOf_69 : decode cX9_wishOf 69 = .ok (.aload_n 0, 1) := by decide +kernel
theorem dX9_wishOf_70 : decode cX9_wishOf 70 = .ok (.getfield 12, 3) := by decide +kernel
theorem dX9_wishOf_73 : decode cX9_wishOf 73 = .ok (.getfield 155, 3) := by decide +kernel
theorem dX9_wishOf_76 : decode cX9_wishOf 76 = .ok (.getfield 208, 3) := by decide +kernel
theorem dX9_wishOf_79 : decode cX9_wishOf 79 = .ok (.iload_n 1, 1) := by decide +kernel
theorem dX9_wishOf_80 : decode cX9_wishOf 80 = .ok (.iaload, 1) := by decide +kernel
theorem dX9_wishOf_81 : decode cX9_wishOf 81 = .ok (.ireturn, 1) := by decide +kernel
theorem dX9_wishOf_82 : decode cX9_wishOf 82 = .ok (.aload_n 0, 1) := by decide +kernel
theorem dX9_wishOf_83 : decode cX9_wishOf 83 = .ok (.getfield 12, 3) := by decide +kernel
theorem dX9_wishOf_86 : decode cX9_wishOf 86 = .ok (.getfield 155, 3) := by decide +kernel
theorem dX9_wishOf_89 : decode cX9_wishOf 89 = .ok (.getfield 211, 3) := by decide +kernel
theorem dX9_wishOf_92 : decode cX9_wishOf 92 = .ok (.iload_n 1, 1) := by decide +kernel
theorem dX9_wishOf_93 : decode cX9_wishOf 93 = .ok (.iaload, 1) := by decide +kernel
theorem dX9_wishOf_94 : decode cX9_wishOf 94 = .ok (.ireturn, 1) := by decide +kernel
theorem dX9_wishOf_95 : decode cX9_wishOf 95 = .ok (.aload_n 0, 1) := by decide +kernel
theorem dX9_wishOf_96 : decode cX9_wishOf 96 = .ok (.getfield 12, 3) := by decide +kernel
theorem dX9_wishOf_99 : decode cX9_wishOf 99 = .ok (.getfield 155, 3) := by decide +kernel
theorem dX9_wishOf_102 : decode cX9_wishOf 102 = .ok (.getfield 214, 3) := by decide +kernel
theorem dX9_wishOf_105 : decode cX9_wishOf 105 = .ok (.iload_n 1, 1) := by decide +kernel
theorem dX9_wishOf_106 : decode cX9_wishOf 106 = .ok (.iaload, 1) := by decide +kernel
theorem dX9_wishOf_107 : decode cX9_wishOf 107 = .ok (.ireturn, 1) := by decide +kernel
theorem dX9_wishOf_108 : decode cX9_wishOf 108 = .ok (.aload_n 0, 1) := by decide +kernel
theorem dX9_wishOf_109 : decode cX9_wishOf 109 = .ok (.getfield 12, 3) := by decide +kernel
theorem dX9_wishOf_112 : decode cX9_wishOf 112 = .ok (.getfield 155, 3) := by decide +kernel
theorem dX9_wishOf_115 : decode cX9_wishOf 115 = .ok (.getfield 217, 3) := by decide +kernel
theorem dX9_wishOf_118 : decode cX9_wishOf 118 = .ok (.iload_n 1, 1) := by decide +kernel
theorem dX9_wishOf_119 : decode cX9_wishOf 119 = .ok (.iaload, 1) := by decide +kernel
theorem dX9_wishOf_120 : decode cX9_wishOf 120 = .ok (.ireturn, 1) := by decide +kernel
theorem dX9_wishOf_121 : decode cX9_wishOf 121 = .ok (.aload_n 0, 1) := by decide +kernel
theorem dX9_wishOf_122 : decode cX9_wishOf 122 = .ok (.getfield 12, 3) := by decide +kernel
theorem dX9_wishOf_125 : decode cX9_wishOf 125 = .ok (.getfield 155, 3) := by decide +kernel
theorem dX9_wishOf_128 : decode cX9_wishOf 128 = .ok (.iload_n 1, 1) := by decide +kernel
theorem dX9_wishOf_129 : decode cX9_wishOf 129 = .ok (.invokevirtual 220, 3) := by decide +kernel
theorem dX9_wishOf_132 : decode cX9_wishOf 132 = .ok (.ifCond .eq 14, 3) := by decide +kernel
theorem dX9_wishOf_135 : decode cX9_wishOf 135 = .ok (.aload_n 0, 1) := by decide +kernel
theorem dX9_wishOf_136 : decode cX9_wishOf 136 = .ok (.getfield 12, 3) := by decide +kernel
theorem dX9_wishOf_139 : decode cX9_wishOf 139 = .ok (.iload_n 1, 1) := by decide +kernel
theorem dX9_wishOf_140 : decode cX9_wishOf 140 = .ok (.invokevirtual 223, 3) := by decide +kernel
theorem dX9_wishOf_143 : decode cX9_wishOf 143 = .ok (.goto 5, 3) := by decide +kernel
theorem dX9_wishOf_146 : decode cX9_wishOf 146 = .ok (.bipush (-4), 2) := by decide +kernel
theorem dX9_wishOf_148 : decode cX9_wishOf 148 = .ok (.ireturn, 1) := by decide +kernel
theorem dX9_wishOf_149 : decode cX9_wishOf 149 = .ok (.bipush (-2), 2) := by decide +kernel
theorem dX9_wishOf_151 : decode cX9_wishOf 151 = .ok (.ireturn, 1) := by decide +kernel
theorem dX9_cloudOf_0 : decode cX9_cloudOf 0 = .ok (.iload_n 1, 1) := by decide +kernel
theorem dX9_cloudOf_1 : decode cX9_cloudOf 1 = .ok (.invokestatic 226, 3) := by decide +kernel
theorem dX9_cloudOf_4 : decode cX9_cloudOf 4 = .ok (.ifCond .eq 18, 3) := by decide +kernel
theorem dX9_cloudOf_7 : decode cX9_cloudOf 7 = .ok (.aload_n 0, 1) := by decide +kernel
theorem dX9_cloudOf_8 : decode cX9_cloudOf 8 = .ok (.getfield 12, 3) := by decide +kernel
theorem dX9_cloudOf_11 : decode cX9_cloudOf 11 = .ok (.getfield 54, 3) := by decide +kernel
theorem dX9_cloudOf_14 : decode cX9_cloudOf 14 = .ok (.getfield 229, 3) := by decide +kernel
theorem dX9_cloudOf_17 : decode cX9_cloudOf 17 = .ok (.iload_n 1, 1) := by decide +kernel
theorem dX9_cloudOf_18 : decode cX9_cloudOf 18 = .ok (.iaload, 1) := by decide +kernel
theorem dX9_cloudOf_19 : decode cX9_cloudOf 19 = .ok (.goto 4, 3) := by decide +kernel
theorem dX9_cloudOf_22 : decode cX9_cloudOf 22 = .ok (.iconst (-1), 1) := by decide +kernel
theorem dX9_cloudOf_23 : decode cX9_cloudOf 23 = .ok (.ireturn, 1) := by decide +kernel
theorem dX9_debt_0 : decode cX9_debt 0 = .ok (.aload_n 0, 1) := by decide +kernel
theorem dX9_debt_1 : decode cX9_debt 1 = .ok (.getfield 12, 3) := by decide +kernel
theorem dX9_debt_4 : decode cX9_debt 4 = .ok (.getfield 165, 3) := by decide +kernel
theorem dX9_debt_7 : decode cX9_debt 7 = .ok (.iload_n 1, 1) := by decide +kernel
theorem dX9_debt_8 : decode cX9_debt 8 = .ok (.invokevirtual 169, 3) := by decide +kernel
theorem dX9_debt_11 : decode cX9_debt 11 = .ok (.ifCond .eq 18, 3) := by decide +kernel
theorem dX9_debt_14 : decode cX9_debt 14 = .ok (.aload_n 0, 1) := by decide +kernel
theorem dX9_debt_15 : decode cX9_debt 15 = .ok (.getfield 12, 3) := by decide +kernel
theorem dX9_debt_18 : decode cX9_debt 18 = .ok (.getfield 165, 3) := by decide +kernel
theorem dX9_debt_21 : decode cX9_debt 21 = .ok (.getfield 232, 3) := by decide +kernel
theorem dX9_debt_24 : decode cX9_debt 24 = .ok (.iload_n 1, 1) := by decide +kernel
theorem dX9_debt_25 : decode cX9_debt 25 = .ok (.iaload, 1) := by decide +kernel
theorem dX9_debt_26 : decode cX9_debt 26 = .ok (.goto 4, 3) := by decide +kernel
theorem dX9_debt_29 : decode cX9_debt 29 = .ok (.iconst (-1), 1) := by decide +kernel
theorem dX9_debt_30 : decode cX9_debt 30 = .ok (.ireturn, 1) := by decide +kernel
theorem dX9_debtAgain_0 : decode cX9_debtAgain 0 = .ok (.aload_n 0, 1) := by decide +kernel
theorem dX9_debtAgain_1 : decode cX9_debtAgain 1 = .ok (.getfield 12, 3) := by decide +kernel
theorem dX9_debtAgain_4 : decode cX9_debtAgain 4 = .ok (.getfield 165, 3) := by decide +kernel
theorem dX9_debtAgain_7 : decode cX9_debtAgain 7 = .ok (.iload_n 1, 1) := by decide +kernel
theorem dX9_debtAgain_8 : decode cX9_debtAgain 8 = .ok (.invokevirtual 169, 3) := by decide +kernel
theorem dX9_debtAgain_11 : decode cX9_debtAgain 11 = .ok (.ifCond .eq 31, 3) := by decide +kernel
theorem dX9_debtAgain_14 : decode cX9_debtAgain 14 = .ok (.aload_n 0, 1) := by decide +kernel
theorem dX9_debtAgain_15 : decode cX9_debtAgain 15 = .ok (.getfield 12, 3) := by decide +kernel
theorem dX9_debtAgain_18 : decode cX9_debtAgain 18 = .ok (.getfield 165, 3) := by decide +kernel
theorem dX9_debtAgain_21 : decode cX9_debtAgain 21 = .ok (.getfield 235, 3) := by decide +kernel
theorem dX9_debtAgain_24 : decode cX9_debtAgain 24 = .ok (.iload_n 1, 1) := by decide +kernel
theorem dX9_debtAgain_25 : decode cX9_debtAgain 25 = .ok (.iaload, 1) := by decide +kernel
theorem dX9_debtAgain_26 : decode cX9_debtAgain 26 = .ok (.aload_n 0, 1) := by decide +kernel
theorem dX9_debtAgain_27 : decode cX9_debtAgain 27 = .ok (.getfield 12, 3) := by decide +kernel
theorem dX9_debtAgain_30 : decode cX9_debtAgain 30 = .ok (.getfield 165, 3) := by decide +kernel
theorem dX9_debtAgain_33 : decode cX9_debtAgain 33 = .ok (.getfield 238, 3) := by decide +kernel
theorem dX9_debtAgain_36 : decode cX9_debtAgain 36 = .ok (.iload_n 1, 1) := by decide +kernel
theorem dX9_debtAgain_37 : decode cX9_debtAgain 37 = .ok (.iaload, 1) := by decide +kernel
theorem dX9_debtAgain_38 : decode cX9_debtAgain 38 = .ok (.isub, 1) := by decide +kernel
theorem dX9_debtAgain_39 : decode cX9_debtAgain 39 = .ok (.goto 4, 3) := by decide +kernel
theorem dX9_debtAgain_42 : decode cX9_debtAgain 42 = .ok (.iconst (-1), 1) := by decide +kernel
theorem dX9_debtAgain_43 : decode cX9_debtAgain 43 = .ok (.ireturn, 1) := by decide +kernel
theorem dX9_seen_0 : decode cX9_seen 0 = .ok (.iload_n 1, 1) := by decide +kernel
theorem dX9_seen_1 : decode cX9_seen 1 = .ok (.invokestatic 226, 3) := by decide +kernel
theorem dX9_seen_4 : decode cX9_seen 4 = .ok (.ifCond .eq 17, 3) := by decide +kernel
theorem dX9_seen_7 : decode cX9_seen 7 = .ok (.aload_n 0, 1) := by decide +kernel
theorem dX9_seen_8 : decode cX9_seen 8 = .ok (.getfield 12, 3) := by decide +kernel
theorem dX9_seen_11 : decode cX9_seen 11 = .ok (.getfield 54, 3) := by decide +kernel
theorem dX9_seen_14 : decode cX9_seen 14 = .ok (.iload_n 1, 1) := by decide +kernel
theorem dX9_seen_15 : decode cX9_seen 15 = .ok (.invokevirtual 241, 3) := by decide +kernel
theorem dX9_seen_18 : decode cX9_seen 18 = .ok (.goto 4, 3) := by decide +kernel
theorem dX9_seen_21 : decode cX9_seen 21 = .ok (.iconst (-1), 1) := by decide +kernel
theorem dX9_seen_22 : decode cX9_seen 22 = .ok (.ireturn, 1) := by decide +kernel
theorem dX9_seenAgain_0 : decode cX9_seenAgain 0 = .ok (.iload_n 1, 1) := by decide +kernel
theorem dX9_seenAgain_1 : decode cX9_seenAgain 1 = .ok (.invokestatic 226, 3) := by decide +kernel
theorem dX9_seenAgain_4 : decode cX9_seenAgain 4 = .ok (.ifCond .eq 17, 3) := by decide +kernel
theorem dX9_seenAgain_7 : decode cX9_seenAgain 7 = .ok (.aload_n 0, 1) := by decide +kernel
theorem dX9_seenAgain_8 : decode cX9_seenAgain 8 = .ok (.getfield 12, 3) := by decide +kernel
theorem dX9_seenAgain_11 : decode cX9_seenAgain 11 = .ok (.getfield 54, 3) := by decide +kernel
theorem dX9_seenAgain_14 : decode cX9_seenAgain 14 = .ok (.iload_n 1, 1) := by decide +kernel
theorem dX9_seenAgain_15 : decode cX9_seenAgain 15 = .ok (.invokevirtual 244, 3) := by decide +kernel
theorem dX9_seenAgain_18 : decode cX9_seenAgain 18 = .ok (.goto 4, 3) := by decide +kernel
theorem dX9_seenAgain_21 : decode cX9_seenAgain 21 = .ok (.iconst (-1), 1) := by decide +kernel
theorem dX9_seenAgain_22 : decode cX9_seenAgain 22 = .ok (.ireturn, 1) := by decide +kernel
theorem dX9_levy_0 : decode cX9_levy 0 = .ok (.aload_n 0, 1) := by decide +kernel
theorem dX9_levy_1 : decode cX9_levy 1 = .ok (.getfield 12, 3) := by decide +kernel
theorem dX9_levy_4 : decode cX9_levy 4 = .ok (.iload_n 1, 1) := by decide +kernel
theorem dX9_levy_5 : decode cX9_levy 5 = .ok (.iload_n 2, 1) := by decide +kernel
theorem dX9_levy_6 : decode cX9_levy 6 = .ok (.invokevirtual 247, 3) := by decide +kernel
theorem dX9_levy_9 : decode cX9_levy 9 = .ok (.ifCond .eq 15, 3) := by decide +kernel
theorem dX9_levy_12 : decode cX9_levy 12 = .ok (.aload_n 0, 1) := by decide +kernel
theorem dX9_levy_13 : decode cX9_levy 13 = .ok (.getfield 12, 3) := by decide +kernel
theorem dX9_levy_16 : decode cX9_levy 16 = .ok (.iload_n 1, 1) := by decide +kernel
theorem dX9_levy_17 : decode cX9_levy 17 = .ok (.iload_n 2, 1) := by decide +kernel
theorem dX9_levy_18 : decode cX9_levy 18 = .ok (.invokevirtual 251, 3) := by decide +kernel
theorem dX9_levy_21 : decode cX9_levy 21 = .ok (.goto 4, 3) := by decide +kernel
theorem dX9_levy_24 : decode cX9_levy 24 = .ok (.iconst (-1), 1) := by decide +kernel
theorem dX9_levy_25 : decode cX9_levy 25 = .ok (.ireturn, 1) := by decide +kernel
theorem dX9_could_0 : decode cX9_could 0 = .ok (.aload_n 0, 1) := by decide +kernel
theorem dX9_could_1 : decode cX9_could 1 = .ok (.getfield 12, 3) := by decide +kernel
theorem dX9_could_4 : decode cX9_could 4 = .ok (.getfield 165, 3) := by decide +kernel
theorem dX9_could_7 : decode cX9_could 7 = .ok (.iload_n 1, 1) := by decide +kernel
theorem dX9_could_8 : decode cX9_could 8 = .ok (.invokevirtual 169, 3) := by decide +kernel
theorem dX9_could_11 : decode cX9_could 11 = .ok (.ifCond .eq 14, 3) := by decide +kernel
theorem dX9_could_14 : decode cX9_could 14 = .ok (.aload_n 0, 1) := by decide +kernel
theorem dX9_could_15 : decode cX9_could 15 = .ok (.getfield 12, 3) := by decide +kernel
theorem dX9_could_18 : decode cX9_could 18 = .ok (.iload_n 1, 1) := by decide +kernel
theorem dX9_could_19 : decode cX9_could 19 = .ok (.invokevirtual 255, 3) := by decide +kernel
theorem dX9_could_22 : decode cX9_could 22 = .ok (.goto 4, 3) := by decide +kernel
theorem dX9_could_25 : decode cX9_could 25 = .ok (.iconst (-1), 1) := by decide +kernel
theorem dX9_could_26 : decode cX9_could 26 = .ok (.ireturn, 1) := by decide +kernel
theorem dX9_couldAgain_0 : decode cX9_couldAgain 0 = .ok (.aload_n 0, 1) := by decide +kernel
theorem dX9_couldAgain_1 : decode cX9_couldAgain 1 = .ok (.getfield 12, 3) := by decide +kernel
theorem dX9_couldAgain_4 : decode cX9_couldAgain 4 = .ok (.getfield 165, 3) := by decide +kernel
theorem dX9_couldAgain_7 : decode cX9_couldAgain 7 = .ok (.iload_n 1, 1) := by decide +kernel
theorem dX9_couldAgain_8 : decode cX9_couldAgain 8 = .ok (.invokevirtual 169, 3) := by decide +kernel
theorem dX9_couldAgain_11 : decode cX9_couldAgain 11 = .ok (.ifCond .eq 14, 3) := by decide +kernel
theorem dX9_couldAgain_14 : decode cX9_couldAgain 14 = .ok (.aload_n 0, 1) := by decide +kernel
theorem dX9_couldAgain_15 : decode cX9_couldAgain 15 = .ok (.getfield 12, 3) := by decide +kernel
theorem dX9_couldAgain_18 : decode cX9_couldAgain 18 = .ok (.iload_n 1, 1) := by decide +kernel
theorem dX9_couldAgain_19 : decode cX9_couldAgain 19 = .ok (.invokevirtual 258, 3) := by decide +kernel
theorem dX9_couldAgain_22 : decode cX9_couldAgain 22 = .ok (.goto 4, 3) := by decide +kernel
theorem dX9_couldAgain_25 : decode cX9_couldAgain 25 = .ok (.iconst (-1), 1) := by decide +kernel
theorem dX9_couldAgain_26 : decode cX9_couldAgain 26 = .ok (.ireturn, 1) := by decide +kernel
theorem dX9_brightens_0 : decode cX9_brightens 0 = .ok (.iload_n 1, 1) := by decide +kernel
theorem dX9_brightens_1 : decode cX9_brightens 1 = .ok (.invokestatic 226, 3) := by decide +kernel
theorem dX9_brightens_4 : decode cX9_brightens 4 = .ok (.ifCond .eq 17, 3) := by decide +kernel
theorem dX9_brightens_7 : decode cX9_brightens 7 = .ok (.aload_n 0, 1) := by decide +kernel
theorem dX9_brightens_8 : decode cX9_brightens 8 = .ok (.getfield 12, 3) := by decide +kernel
theorem dX9_brightens_11 : decode cX9_brightens 11 = .ok (.getfield 54, 3) := by decide +kernel
theorem dX9_brightens_14 : decode cX9_brightens 14 = .ok (.iload_n 1, 1) := by decide +kernel
theorem dX9_brightens_15 : decode cX9_brightens 15 = .ok (.invokevirtual 261, 3) := by decide +kernel
theorem dX9_brightens_18 : decode cX9_brightens 18 = .ok (.goto 4, 3) := by decide +kernel
theorem dX9_brightens_21 : decode cX9_brightens 21 = .ok (.iconst (-1), 1) := by decide +kernel
theorem dX9_brightens_22 : decode cX9_brightens 22 = .ok (.ireturn, 1) := by decide +kernel
theorem dX9_cheapest_0 : decode cX9_cheapest 0 = .ok (.aload_n 0, 1) := by decide +kernel
theorem dX9_cheapest_1 : decode cX9_cheapest 1 = .ok (.getfield 12, 3) := by decide +kernel
theorem dX9_cheapest_4 : decode cX9_cheapest 4 = .ok (.getfield 165, 3) := by decide +kernel
theorem dX9_cheapest_7 : decode cX9_cheapest 7 = .ok (.iload_n 1, 1) := by decide +kernel
theorem dX9_cheapest_8 : decode cX9_cheapest 8 = .ok (.invokevirtual 169, 3) := by decide +kernel
theorem dX9_cheapest_11 : decode cX9_cheapest 11 = .ok (.ifCond .eq 14, 3) := by decide +kernel
theorem dX9_cheapest_14 : decode cX9_cheapest 14 = .ok (.aload_n 0, 1) := by decide +kernel
theorem dX9_cheapest_15 : decode cX9_cheapest 15 = .ok (.getfield 12, 3) := by decide +kernel
theorem dX9_cheapest_18 : decode cX9_cheapest 18 = .ok (.iload_n 1, 1) := by decide +kernel
theorem dX9_cheapest_19 : decode cX9_cheapest 19 = .ok (.invokevirtual 264, 3) := by decide +kernel
theorem dX9_cheapest_22 : decode cX9_cheapest 22 = .ok (.goto 4, 3) := by decide +kernel
theorem dX9_cheapest_25 : decode cX9_cheapest 25 = .ok (.iconst (-1), 1) := by decide +kernel
theorem dX9_cheapest_26 : decode cX9_cheapest 26 = .ok (.ireturn, 1) := by decide +kernel
theorem dX9_wouldGrant_0 : decode cX9_wouldGrant 0 = .ok (.aload_n 0, 1) := by decide +kernel
theorem dX9_wouldGrant_1 : decode cX9_wouldGrant 1 = .ok (.getfield 12, 3) := by decide +kernel
theorem dX9_wouldGrant_4 : decode cX9_wouldGrant 4 = .ok (.invokevirtual 267, 3) := by decide +kernel
theorem dX9_wouldGrant_7 : decode cX9_wouldGrant 7 = .ok (.ireturn, 1) := by decide +kernel
theorem dX9_richest_0 : decode cX9_richest 0 = .ok (.aload_n 0, 1) := by decide +kernel
theorem dX9_richest_1 : decode cX9_richest 1 = .ok (.getfield 12, 3) := by decide +kernel
theorem dX9_richest_4 : decode cX9_richest 4 = .ok (.iload_n 1, 1) := by decide +kernel
theorem dX9_richest_5 : decode cX9_richest 5 = .ok (.invokevirtual 270, 3) := by decide +kernel
theorem dX9_richest_8 : decode cX9_richest 8 = .ok (.ireturn, 1) := by decide +kernel
theorem dX9_brightest_0 : decode cX9_brightest 0 = .ok (.aload_n 0, 1) := by decide +kernel
theorem dX9_brightest_1 : decode cX9_brightest 1 = .ok (.getfield 12, 3) := by decide +kernel
theorem dX9_brightest_4 : decode cX9_brightest 4 = .ok (.getfield 54, 3) := by decide +kernel
theorem dX9_brightest_7 : decode cX9_brightest 7 = .ok (.iload_n 1, 1) := by decide +kernel
theorem dX9_brightest_8 : decode cX9_brightest 8 = .ok (.invokevirtual 273, 3) := by decide +kernel
theorem dX9_brightest_11 : decode cX9_brightest 11 = .ok (.ireturn, 1) := by decide +kernel
theorem dX9_write_0 : decode cX9_write 0 = .ok (.aload_n 0, 1) := by decide +kernel
theorem dX9_write_1 : decode cX9_write 1 = .ok (.getfield 12, 3) := by decide +kernel
theorem dX9_write_4 : decode cX9_write 4 = .ok (.getfield 165, 3) := by decide +kernel
theorem dX9_write_7 : decode cX9_write 7 = .ok (.iload_n 1, 1) := by decide +kernel
theorem dX9_write_8 : decode cX9_write 8 = .ok (.invokevirtual 169, 3) := by decide +kernel
theorem dX9_write_11 : decode cX9_write 11 = .ok (.ifCond .ne 5, 3) := by decide +kernel
theorem dX9_write_14 : decode cX9_write 14 = .ok (.iconst (-1), 1) := by decide +kernel
theorem dX9_write_15 : decode cX9_write 15 = .ok (.ireturn, 1) := by decide +kernel
theorem dX9_write_16 : decode cX9_write 16 = .ok (.aload_n 0, 1) := by decide +kernel
theorem dX9_write_17 : decode cX9_write 17 = .ok (.getfield 47, 3) := by decide +kernel
theorem dX9_write_20 : decode cX9_write 20 = .ok (.iconst 0, 1) := by decide +kernel
theorem dX9_write_21 : decode cX9_write 21 = .ok (.invokevirtual 127, 3) := by decide +kernel
theorem dX9_write_24 : decode cX9_write 24 = .ok (.aload_n 0, 1) := by decide +kernel
theorem dX9_write_25 : decode cX9_write 25 = .ok (.getfield 47, 3) := by decide +kernel
theorem dX9_write_28 : decode cX9_write 28 = .ok (.iload_n 1, 1) := by decide +kernel
theorem dX9_write_29 : decode cX9_write 29 = .ok (.invokevirtual 276, 3) := by decide +kernel
theorem dX9_write_32 : decode cX9_write 32 = .ok (.pop, 1) := by decide +kernel
theorem dX9_write_33 : decode cX9_write 33 = .ok (.aload_n 0, 1) := by decide +kernel
theorem dX9_write_34 : decode cX9_write 34 = .ok (.getfield 47, 3) := by decide +kernel
theorem dX9_write_37 : decode cX9_write 37 = .ok (.bipush 36, 2) := by decide +kernel
theorem dX9_write_39 : decode cX9_write 39 = .ok (.invokevirtual 77, 3) := by decide +kernel
theorem dX9_write_42 : decode cX9_write 42 = .ok (.pop, 1) := by decide +kernel
theorem dX9_write_43 : decode cX9_write 43 = .ok (.aload_n 0, 1) := by decide +kernel
theorem dX9_write_44 : decode cX9_write 44 = .ok (.getfield 47, 3) := by decide +kernel
theorem dX9_write_47 : decode cX9_write 47 = .ok (.aload_n 0, 1) := by decide +kernel
theorem dX9_write_48 : decode cX9_write 48 = .ok (.getfield 12, 3) := by decide +kernel
theorem dX9_write_51 : decode cX9_write 51 = .ok (.getfield 165, 3) := by decide +kernel
theorem dX9_write_54 : decode cX9_write 54 = .ok (.getfield 172, 3) := by decide +kernel
theorem dX9_write_57 : decode cX9_write 57 = .ok (.iload_n 1, 1) := by decide +kernel
theorem dX9_write_58 : decode cX9_write 58 = .ok (.iaload, 1) := by decide +kernel
theorem dX9_write_59 : decode cX9_write 59 = .ok (.invokevirtual 276, 3) := by decide +kernel
theorem dX9_write_62 : decode cX9_write 62 = .ok (.pop, 1) := by decide +kernel
theorem dX9_write_63 : decode cX9_write 63 = .ok (.aload_n 0, 1) := by decide +kernel
theorem dX9_write_64 : decode cX9_write 64 = .ok (.bipush 45, 2) := by decide +kernel
theorem dX9_write_66 : decode cX9_write 66 = .ok (.aload_n 0, 1) := by decide +kernel
theorem dX9_write_67 : decode cX9_write 67 = .ok (.getfield 12, 3) := by decide +kernel
theorem dX9_write_70 : decode cX9_write 70 = .ok (.getfield 165, 3) := by decide +kernel
theorem dX9_write_73 : decode cX9_write 73 = .ok (.getfield 232, 3) := by decide +kernel
theorem dX9_write_76 : decode cX9_write 76 = .ok (.iload_n 1, 1) := by decide +kernel
theorem dX9_write_77 : decode cX9_write 77 = .ok (.iaload, 1) := by decide +kernel
theorem dX9_write_78 : decode cX9_write 78 = .ok (.invokevirtual 279, 3) := by decide +kernel
theorem dX9_write_81 : decode cX9_write 81 = .ok (.aload_n 0, 1) := by decide +kernel
theorem dX9_write_82 : decode cX9_write 82 = .ok (.bipush 115, 2) := by decide +kernel
theorem dX9_write_84 : decode cX9_write 84 = .ok (.aload_n 0, 1) := by decide +kernel
theorem dX9_write_85 : decode cX9_write 85 = .ok (.getfield 12, 3) := by decide +kernel
theorem dX9_write_88 : decode cX9_write 88 = .ok (.getfield 165, 3) := by decide +kernel
theorem dX9_write_91 : decode cX9_write 91 = .ok (.getfield 175, 3) := by decide +kernel
theorem dX9_write_94 : decode cX9_write 94 = .ok (.iload_n 1, 1) := by decide +kernel
theorem dX9_write_95 : decode cX9_write 95 = .ok (.iaload, 1) := by decide +kernel
theorem dX9_write_96 : decode cX9_write 96 = .ok (.invokevirtual 279, 3) := by decide +kernel
theorem dX9_write_99 : decode cX9_write 99 = .ok (.aload_n 0, 1) := by decide +kernel
theorem dX9_write_100 : decode cX9_write 100 = .ok (.bipush 119, 2) := by decide +kernel
theorem dX9_write_102 : decode cX9_write 102 = .ok (.aload_n 0, 1) := by decide +kernel
theorem dX9_write_103 : decode cX9_write 103 = .ok (.getfield 12, 3) := by decide +kernel
theorem dX9_write_106 : decode cX9_write 106 = .ok (.getfield 155, 3) := by decide +kernel
theorem dX9_write_109 : decode cX9_write 109 = .ok (.iload_n 1, 1) := by decide +kernel
theorem dX9_write_110 : decode cX9_write 110 = .ok (.invokevirtual 178, 3) := by decide +kernel
theorem dX9_write_113 : decode cX9_write 113 = .ok (.invokevirtual 279, 3) := by decide +kernel
theorem dX9_write_116 : decode cX9_write 116 = .ok (.aload_n 0, 1) := by decide +kernel
theorem dX9_write_117 : decode cX9_write 117 = .ok (.getfield 47, 3) := by decide +kernel
theorem dX9_write_120 : decode cX9_write 120 = .ok (.invokevirtual 73, 3) := by decide +kernel
theorem dX9_write_123 : decode cX9_write 123 = .ok (.ireturn, 1) := by decide +kernel
theorem dX9_writeSky_0 : decode cX9_writeSky 0 = .ok (.iload_n 1, 1) := by decide +kernel
theorem dX9_writeSky_1 : decode cX9_writeSky 1 = .ok (.invokestatic 226, 3) := by decide +kernel
theorem dX9_writeSky_4 : decode cX9_writeSky 4 = .ok (.ifCond .ne 5, 3) := by decide +kernel
theorem dX9_writeSky_7 : decode cX9_writeSky 7 = .ok (.iconst (-1), 1) := by decide +kernel
theorem dX9_writeSky_8 : decode cX9_writeSky 8 = .ok (.ireturn, 1) := by decide +kernel
theorem dX9_writeSky_9 : decode cX9_writeSky 9 = .ok (.aload_n 0, 1) := by decide +kernel
theorem dX9_writeSky_10 : decode cX9_writeSky 10 = .ok (.getfield 47, 3) := by decide +kernel
theorem dX9_writeSky_13 : decode cX9_writeSky 13 = .ok (.iconst 0, 1) := by decide +kernel
theorem dX9_writeSky_14 : decode cX9_writeSky 14 = .ok (.invokevirtual 127, 3) := by decide +kernel
theorem dX9_writeSky_17 : decode cX9_writeSky 17 = .ok (.iconst 0, 1) := by decide +kernel
theorem dX9_writeSky_18 : decode cX9_writeSky 18 = .ok (.istore_n 2, 1) := by decide +kernel
theorem dX9_writeSky_19 : decode cX9_writeSky 19 = .ok (.iload_n 2, 1) := by decide +kernel
theorem dX9_writeSky_20 : decode cX9_writeSky 20 = .ok (.aload_n 0, 1) := by decide +kernel
theorem dX9_writeSky_21 : decode cX9_writeSky 21 = .ok (.getfield 12, 3) := by decide +kernel
theorem dX9_writeSky_24 : decode cX9_writeSky 24 = .ok (.getfield 54, 3) := by decide +kernel
theorem dX9_writeSky_27 : decode cX9_writeSky 27 = .ok (.getfield 58, 3) := by decide +kernel
theorem dX9_writeSky_30 : decode cX9_writeSky 30 = .ok (.if_icmp .ge 57, 3) := by decide +kernel
theorem dX9_writeSky_33 : decode cX9_writeSky 33 = .ok (.aload_n 0, 1) := by decide +kernel
theorem dX9_writeSky_34 : decode cX9_writeSky 34 = .ok (.getfield 12, 3) := by decide +kernel
theorem dX9_writeSky_37 : decode cX9_writeSky 37 = .ok (.getfield 54, 3) := by decide +kernel
theorem dX9_writeSky_40 : decode cX9_writeSky 40 = .ok (.getfield 143, 3) := by decide +kernel
theorem dX9_writeSky_43 : decode cX9_writeSky 43 = .ok (.iload_n 2, 1) := by decide +kernel
theorem dX9_writeSky_44 : decode cX9_writeSky 44 = .ok (.iaload, 1) := by decide +kernel
theorem dX9_writeSky_45 : decode cX9_writeSky 45 = .ok (.iload_n 1, 1) := by decide +kernel
theorem dX9_writeSky_46 : decode cX9_writeSky 46 = .ok (.if_icmp .ne 35, 3) := by decide +kernel
theorem dX9_writeSky_49 : decode cX9_writeSky 49 = .ok (.aload_n 0, 1) := by decide +kernel
theorem dX9_writeSky_50 : decode cX9_writeSky 50 = .ok (.getfield 47, 3) := by decide +kernel
theorem dX9_writeSky_53 : decode cX9_writeSky 53 = .ok (.aload_n 0, 1) := by decide +kernel
theorem dX9_writeSky_54 : decode cX9_writeSky 54 = .ok (.getfield 12, 3) := by decide +kernel
theorem dX9_writeSky_57 : decode cX9_writeSky 57 = .ok (.getfield 54, 3) := by decide +kernel
theorem dX9_writeSky_60 : decode cX9_writeSky 60 = .ok (.iload_n 2, 1) := by decide +kernel
theorem dX9_writeSky_61 : decode cX9_writeSky 61 = .ok (.invokevirtual 146, 3) := by decide +kernel
theorem dX9_writeSky_64 : decode cX9_writeSky 64 = .ok (.ifCond .eq 8, 3) := by decide +kernel
theorem dX9_writeSky_67 : decode cX9_writeSky 67 = .ok (.bipush 65, 2) := by decide +kernel
theorem dX9_writeSky_69 : decode cX9_writeSky 69 = .ok (.goto 5, 3) := by decide +kernel
theorem dX9_writeSky_72 : decode cX9_writeSky 72 = .ok (.bipush 97, 2) := by decide +kernel
theorem dX9_writeSky_74 : decode cX9_writeSky 74 = .ok (.iload_n 2, 1) := by decide +kernel
theorem dX9_writeSky_75 : decode cX9_writeSky 75 = .ok (.iadd, 1) := by decide +kernel
theorem dX9_writeSky_76 : decode cX9_writeSky 76 = .ok (.i2c, 1) := by decide +kernel
theorem dX9_writeSky_77 : decode cX9_writeSky 77 = .ok (.invokevirtual 77, 3) := by decide +kernel
theorem dX9_writeSky_80 : decode cX9_writeSky 80 = .ok (.pop, 1) := by decide +kernel
theorem dX9_writeSky_81 : decode cX9_writeSky 81 = .ok (.iinc 2 1, 3) := by decide +kernel
theorem dX9_writeSky_84 : decode cX9_writeSky 84 = .ok (.goto (-65), 3) := by decide +kernel
theorem dX9_writeSky_87 : decode cX9_writeSky 87 = .ok (.aload_n 0, 1) := by decide +kernel
theorem dX9_writeSky_88 : decode cX9_writeSky 88 = .ok (.bipush 126, 2) := by decide +kernel
theorem dX9_writeSky_90 : decode cX9_writeSky 90 = .ok (.aload_n 0, 1) := by decide +kernel
theorem dX9_writeSky_91 : decode cX9_writeSky 91 = .ok (.getfield 12, 3) := by decide +kernel
theorem dX9_writeSky_94 : decode cX9_writeSky 94 = .ok (.getfield 54, 3) := by decide +kernel
theorem dX9_writeSky_97 : decode cX9_writeSky 97 = .ok (.getfield 229, 3) := by decide +kernel
theorem dX9_writeSky_100 : decode cX9_writeSky 100 = .ok (.iload_n 1, 1) := by decide +kernel
theorem dX9_writeSky_101 : decode cX9_writeSky 101 = .ok (.iaload, 1) := by decide +kernel
theorem dX9_writeSky_102 : decode cX9_writeSky 102 = .ok (.invokevirtual 279, 3) := by decide +kernel
theorem dX9_writeSky_105 : decode cX9_writeSky 105 = .ok (.aload_n 0, 1) := by decide +kernel
theorem dX9_writeSky_106 : decode cX9_writeSky 106 = .ok (.getfield 47, 3) := by decide +kernel
theorem dX9_writeSky_109 : decode cX9_writeSky 109 = .ok (.invokevirtual 73, 3) := by decide +kernel
theorem dX9_writeSky_112 : decode cX9_writeSky 112 = .ok (.ireturn, 1) := by decide +kernel
theorem dX9_isWell_0 : decode cX9_isWell 0 = .ok (.iconst 0, 1) := by decide +kernel
theorem dX9_isWell_1 : decode cX9_isWell 1 = .ok (.istore_n 1, 1) := by decide +kernel
theorem dX9_isWell_2 : decode cX9_isWell 2 = .ok (.iload_n 1, 1) := by decide +kernel
theorem dX9_isWell_3 : decode cX9_isWell 3 = .ok (.aload_n 0, 1) := by decide +kernel
theorem dX9_isWell_4 : decode cX9_isWell 4 = .ok (.getfield 12, 3) := by decide +kernel
theorem dX9_isWell_7 : decode cX9_isWell 7 = .ok (.getfield 165, 3) := by decide +kernel
theorem dX9_isWell_10 : decode cX9_isWell 10 = .ok (.getfield 287, 3) := by decide +kernel
theorem dX9_isWell_13 : decode cX9_isWell 13 = .ok (.if_icmp .ge 37, 3) := by decide +kernel
theorem dX9_isWell_16 : decode cX9_isWell 16 = .ok (.aload_n 0, 1) := by decide +kernel
theorem dX9_isWell_17 : decode cX9_isWell 17 = .ok (.iload_n 1, 1) := by decide +kernel
theorem dX9_isWell_18 : decode cX9_isWell 18 = .ok (.invokevirtual 288, 3) := by decide +kernel
theorem dX9_isWell_21 : decode cX9_isWell 21 = .ok (.aload_n 0, 1) := by decide +kernel
theorem dX9_isWell_22 : decode cX9_isWell 22 = .ok (.iload_n 1, 1) := by decide +kernel
theorem dX9_isWell_23 : decode cX9_isWell 23 = .ok (.invokevirtual 290, 3) := by decide +kernel
theorem dX9_isWell_26 : decode cX9_isWell 26 = .ok (.if_icmp .ne 16, 3) := by decide +kernel
theorem dX9_isWell_29 : decode cX9_isWell 29 = .ok (.aload_n 0, 1) := by decide +kernel
theorem dX9_isWell_30 : decode cX9_isWell 30 = .ok (.iload_n 1, 1) := by decide +kernel
theorem dX9_isWell_31 : decode cX9_isWell 31 = .ok (.invokevirtual 293, 3) := by decide +kernel
theorem dX9_isWell_34 : decode cX9_isWell 34 = .ok (.aload_n 0, 1) := by decide +kernel
theorem dX9_isWell_35 : decode cX9_isWell 35 = .ok (.iload_n 1, 1) := by decide +kernel
theorem dX9_isWell_36 : decode cX9_isWell 36 = .ok (.invokevirtual 296, 3) := by decide +kernel
theorem dX9_isWell_39 : decode cX9_isWell 39 = .ok (.if_icmp .eq 5, 3) := by decide +kernel
theorem dX9_isWell_42 : decode cX9_isWell 42 = .ok (.iconst 0, 1) := by decide +kernel
theorem dX9_isWell_43 : decode cX9_isWell 43 = .ok (.ireturn, 1) := by decide +kernel
theorem dX9_isWell_44 : decode cX9_isWell 44 = .ok (.iinc 1 1, 3) := by decide +kernel
theorem dX9_isWell_47 : decode cX9_isWell 47 = .ok (.goto (-45), 3) := by decide +kernel
theorem dX9_isWell_50 : decode cX9_isWell 50 = .ok (.iconst 0, 1) := by decide +kernel
theorem dX9_isWell_51 : decode cX9_isWell 51 = .ok (.istore_n 1, 1) := by decide +kernel
theorem dX9_isWell_52 : decode cX9_isWell 52 = .ok (.iload_n 1, 1) := by decide +kernel
theorem dX9_isWell_53 : decode cX9_isWell 53 = .ok (.iconst 4, 1) := by decide +kernel
theorem dX9_isWell_54 : decode cX9_isWell 54 = .ok (.if_icmp .ge 24, 3) := by decide +kernel
theorem dX9_isWell_57 : decode cX9_isWell 57 = .ok (.aload_n 0, 1) := by decide +kernel
theorem dX9_isWell_58 : decode cX9_isWell 58 = .ok (.iload_n 1, 1) := by decide +kernel
theorem dX9_isWell_59 : decode cX9_isWell 59 = .ok (.invokevirtual 299, 3) := by decide +kernel
theorem dX9_isWell_62 : decode cX9_isWell 62 = .ok (.aload_n 0, 1) := by decide +kernel
theorem dX9_isWell_63 : decode cX9_isWell 63 = .ok (.iload_n 1, 1) := by decide +kernel
theorem dX9_isWell_64 : decode cX9_isWell 64 = .ok (.invokevirtual 302, 3) := by decide +kernel
theorem dX9_isWell_67 : decode cX9_isWell 67 = .ok (.if_icmp .eq 5, 3) := by decide +kernel
theorem dX9_isWell_70 : decode cX9_isWell 70 = .ok (.iconst 0, 1) := by decide +kernel
theorem dX9_isWell_71 : decode cX9_isWell 71 = .ok (.ireturn, 1) := by decide +kernel
theorem dX9_isWell_72 : decode cX9_isWell 72 = .ok (.iinc 1 1, 3) := by decide +kernel
theorem dX9_isWell_75 : decode cX9_isWell 75 = .ok (.goto (-23), 3) := by decide +kernel
theorem dX9_isWell_78 : decode cX9_isWell 78 = .ok (.iconst 1, 1) := by decide +kernel
theorem dX9_isWell_79 : decode cX9_isWell 79 = .ok (.ireturn, 1) := by decide +kernel
theorem dX9_meanCloud_0 : decode cX9_meanCloud 0 = .ok (.aload_n 0, 1) := by decide +kernel
theorem dX9_meanCloud_1 : decode cX9_meanCloud 1 = .ok (.getfield 12, 3) := by decide +kernel
theorem dX9_meanCloud_4 : decode cX9_meanCloud 4 = .ok (.getfield 54, 3) := by decide +kernel
theorem dX9_meanCloud_7 : decode cX9_meanCloud 7 = .ok (.getfield 229, 3) := by decide +kernel
theorem dX9_meanCloud_10 : decode cX9_meanCloud 10 = .ok (.iconst 4, 1) := by decide +kernel
theorem dX9_meanCloud_11 : decode cX9_meanCloud 11 = .ok (.invokestatic 305, 3) := by decide +kernel
theorem dX9_meanCloud_14 : decode cX9_meanCloud 14 = .ok (.i2d, 1) := by decide +kernel
theorem dX9_meanCloud_15 : decode cX9_meanCloud 15 = .ok (.ldc2_w 309, 3) := by decide +kernel
theorem dX9_meanCloud_18 : decode cX9_meanCloud 18 = .ok (.ddiv, 1) := by decide +kernel
theorem dX9_meanCloud_19 : decode cX9_meanCloud 19 = .ok (.dreturn, 1) := by decide +kernel
theorem dX9_poundShare_0 : decode cX9_poundShare 0 = .ok (.aload_n 0, 1) := by decide +kernel
theorem dX9_poundShare_1 : decode cX9_poundShare 1 = .ok (.getfield 12, 3) := by decide +kernel
theorem dX9_poundShare_4 : decode cX9_poundShare 4 = .ok (.getfield 155, 3) := by decide +kernel
theorem dX9_poundShare_7 : decode cX9_poundShare 7 = .ok (.getfield 311, 3) := by decide +kernel
theorem dX9_poundShare_10 : decode cX9_poundShare 10 = .ok (.ifCond .ne 5, 3) := by decide +kernel
theorem dX9_poundShare_13 : decode cX9_poundShare 13 = .ok (.fconst 0, 1) := by decide +kernel
theorem dX9_poundShare_14 : decode cX9_poundShare 14 = .ok (.freturn, 1) := by decide +kernel
theorem dX9_poundShare_15 : decode cX9_poundShare 15 = .ok (.aload_n 0, 1) := by decide +kernel
theorem dX9_poundShare_16 : decode cX9_poundShare 16 = .ok (.getfield 12, 3) := by decide +kernel
theorem dX9_poundShare_19 : decode cX9_poundShare 19 = .ok (.getfield 155, 3) := by decide +kernel
theorem dX9_poundShare_22 : decode cX9_poundShare 22 = .ok (.invokevirtual 312, 3) := by decide +kernel
theorem dX9_poundShare_25 : decode cX9_poundShare 25 = .ok (.i2f, 1) := by decide +kernel
theorem dX9_poundShare_26 : decode cX9_poundShare 26 = .ok (.aload_n 0, 1) := by decide +kernel
theorem dX9_poundShare_27 : decode cX9_poundShare 27 = .ok (.getfield 12, 3) := by decide +kernel
theorem dX9_poundShare_30 : decode cX9_poundShare 30 = .ok (.getfield 155, 3) := by decide +kernel
theorem dX9_poundShare_33 : decode cX9_poundShare 33 = .ok (.getfield 311, 3) := by decide +kernel
theorem dX9_poundShare_36 : decode cX9_poundShare 36 = .ok (.i2f, 1) := by decide +kernel
theorem dX9_poundShare_37 : decode cX9_poundShare 37 = .ok (.fdiv, 1) := by decide +kernel
theorem dX9_poundShare_38 : decode cX9_poundShare 38 = .ok (.freturn, 1) := by decide +kernel
theorem dX9_account_0 : decode cX9_account 0 = .ok (.iload_n 1, 1) := by decide +kernel
theorem dX9_account_1 : decode cX9_account 1 = .ok (.tableswitch 278 0 13 #[71, 82, 93, 104, 115, 126, 134, 158, 166, 190, 214, 238, 262, 270], 71) := by decide +kernel
theorem dX9_account_72 : decode cX9_account 72 = .ok (.aload_n 0, 1) := by decide +kernel
theorem dX9_account_73 : decode cX9_account 73 = .ok (.getfield 12, 3) := by decide +kernel
theorem dX9_account_76 : decode cX9_account 76 = .ok (.getfield 54, 3) := by decide +kernel
theorem dX9_account_79 : decode cX9_account 79 = .ok (.getfield 58, 3) := by decide +kernel
theorem dX9_account_82 : decode cX9_account 82 = .ok (.ireturn, 1) := by decide +kernel
theorem dX9_account_83 : decode cX9_account 83 = .ok (.aload_n 0, 1) := by decide +kernel
theorem dX9_account_84 : decode cX9_account 84 = .ok (.getfield 12, 3) := by decide +kernel
theorem dX9_account_87 : decode cX9_account 87 = .ok (.getfield 165, 3) := by decide +kernel
theorem dX9_account_90 : decode cX9_account 90 = .ok (.getfield 287, 3) := by decide +kernel
theorem dX9_account_93 : decode cX9_account 93 = .ok (.ireturn, 1) := by decide +kernel
theorem dX9_account_94 : decode cX9_account 94 = .ok (.aload_n 0, 1) := by decide +kernel
theorem dX9_account_95 : decode cX9_account 95 = .ok (.getfield 12, 3) := by decide +kernel
theorem dX9_account_98 : decode cX9_account 98 = .ok (.getfield 155, 3) := by decide +kernel
theorem dX9_account_101 : decode cX9_account 101 = .ok (.getfield 311, 3) := by decide +kernel
theorem dX9_account_104 : decode cX9_account 104 = .ok (.ireturn, 1) := by decide +kernel
theorem dX9_account_105 : decode cX9_account 105 = .ok (.aload_n 0, 1) := by decide +kernel
theorem dX9_account_106 : decode cX9_account 106 = .ok (.getfield 12, 3) := by decide +kernel
theorem dX9_account_109 : decode cX9_account 109 = .ok (.getfield 155, 3) := by decide +kernel
theorem dX9_account_112 : decode cX9_account 112 = .ok (.invokevirtual 312, 3) := by decide +kernel
theorem dX9_account_115 : decode cX9_account 115 = .ok (.ireturn, 1) := by decide +kernel
theorem dX9_account_116 : decode cX9_account 116 = .ok (.aload_n 0, 1) := by decide +kernel
theorem dX9_account_117 : decode cX9_account 117 = .ok (.getfield 12, 3) := by decide +kernel
theorem dX9_account_120 : decode cX9_account 120 = .ok (.getfield 54, 3) := by decide +kernel
theorem dX9_account_123 : decode cX9_account 123 = .ok (.invokevirtual 315, 3) := by decide +kernel
theorem dX9_account_126 : decode cX9_account 126 = .ok (.ireturn, 1) := by decide +kernel
theorem dX9_account_127 : decode cX9_account 127 = .ok (.aload_n 0, 1) := by decide +kernel
theorem dX9_account_128 : decode cX9_account 128 = .ok (.getfield 12, 3) := by decide +kernel
theorem dX9_account_131 : decode cX9_account 131 = .ok (.getfield 318, 3) := by decide +kernel
theorem dX9_account_134 : decode cX9_account 134 = .ok (.ireturn, 1) := by decide +kernel
theorem dX9_account_135 : decode cX9_account 135 = .ok (.aload_n 0, 1) := by decide +kernel
theorem dX9_account_136 : decode cX9_account 136 = .ok (.getfield 12, 3) := by decide +kernel
theorem dX9_account_139 : decode cX9_account 139 = .ok (.getfield 54, 3) := by decide +kernel
theorem dX9_account_142 : decode cX9_account 142 = .ok (.getfield 152, 3) := by decide +kernel
theorem dX9_account_145 : decode cX9_account 145 = .ok (.aload_n 0, 1) := by decide +kernel
theorem dX9_account_146 : decode cX9_account 146 = .ok (.getfield 12, 3) := by decide +kernel
theorem dX9_account_149 : decode cX9_account 149 = .ok (.getfield 54, 3) := by decide +kernel
theorem dX9_account_152 : decode cX9_account 152 = .ok (.getfield 58, 3) := by decide +kernel
theorem dX9_account_155 : decode cX9_account 155 = .ok (.invokestatic 305, 3) := by decide +kernel
theorem dX9_account_158 : decode cX9_account 158 = .ok (.ireturn, 1) := by decide +kernel
theorem dX9_account_159 : decode cX9_account 159 = .ok (.aload_n 0, 1) := by decide +kernel
theorem dX9_account_160 : decode cX9_account 160 = .ok (.getfield 12, 3) := by decide +kernel
theorem dX9_account_163 : decode cX9_account 163 = .ok (.getfield 321, 3) := by decide +kernel
theorem dX9_account_166 : decode cX9_account 166 = .ok (.ireturn, 1) := by decide +kernel
theorem dX9_account_167 : decode cX9_account 167 = .ok (.aload_n 0, 1) := by decide +kernel
theorem dX9_account_168 : decode cX9_account 168 = .ok (.getfield 12, 3) := by decide +kernel
theorem dX9_account_171 : decode cX9_account 171 = .ok (.getfield 165, 3) := by decide +kernel
theorem dX9_account_174 : decode cX9_account 174 = .ok (.getfield 235, 3) := by decide +kernel
theorem dX9_account_177 : decode cX9_account 177 = .ok (.aload_n 0, 1) := by decide +kernel
theorem dX9_account_178 : decode cX9_account 178 = .ok (.getfield 12, 3) := by decide +kernel
theorem dX9_account_181 : decode cX9_account 181 = .ok (.getfield 165, 3) := by decide +kernel
theorem dX9_account_184 : decode cX9_account 184 = .ok (.getfield 287, 3) := by decide +kernel
theorem dX9_account_187 : decode cX9_account 187 = .ok (.invokestatic 305, 3) := by decide +kernel
theorem dX9_account_190 : decode cX9_account 190 = .ok (.ireturn, 1) := by decide +kernel
theorem dX9_account_191 : decode cX9_account 191 = .ok (.aload_n 0, 1) := by decide +kernel
theorem dX9_account_192 : decode cX9_account 192 = .ok (.getfield 12, 3) := by decide +kernel
theorem dX9_account_195 : decode cX9_account 195 = .ok (.getfield 165, 3) := by decide +kernel
theorem dX9_account_198 : decode cX9_account 198 = .ok (.getfield 238, 3) := by decide +kernel
theorem dX9_account_201 : decode cX9_account 201 = .ok (.aload_n 0, 1) := by decide +kernel
theorem dX9_account_202 : decode cX9_account 202 = .ok (.getfield 12, 3) := by decide +kernel
theorem dX9_account_205 : decode cX9_account 205 = .ok (.getfield 165, 3) := by decide +kernel
theorem dX9_account_208 : decode cX9_account 208 = .ok (.getfield 287, 3) := by decide +kernel
theorem dX9_account_211 : decode cX9_account 211 = .ok (.invokestatic 305, 3) := by decide +kernel
theorem dX9_account_214 : decode cX9_account 214 = .ok (.ireturn, 1) := by decide +kernel
theorem dX9_account_215 : decode cX9_account 215 = .ok (.aload_n 0, 1) := by decide +kernel
theorem dX9_account_216 : decode cX9_account 216 = .ok (.getfield 12, 3) := by decide +kernel
theorem dX9_account_219 : decode cX9_account 219 = .ok (.getfield 165, 3) := by decide +kernel
theorem dX9_account_222 : decode cX9_account 222 = .ok (.getfield 189, 3) := by decide +kernel
theorem dX9_account_225 : decode cX9_account 225 = .ok (.aload_n 0, 1) := by decide +kernel
theorem dX9_account_226 : decode cX9_account 226 = .ok (.getfield 12, 3) := by decide +kernel
theorem dX9_account_229 : decode cX9_account 229 = .ok (.getfield 165, 3) := by decide +kernel
theorem dX9_account_232 : decode cX9_account 232 = .ok (.getfield 287, 3) := by decide +kernel
theorem dX9_account_235 : decode cX9_account 235 = .ok (.invokestatic 305, 3) := by decide +kernel
theorem dX9_account_238 : decode cX9_account 238 = .ok (.ireturn, 1) := by decide +kernel
theorem dX9_account_239 : decode cX9_account 239 = .ok (.aload_n 0, 1) := by decide +kernel
theorem dX9_account_240 : decode cX9_account 240 = .ok (.getfield 12, 3) := by decide +kernel
theorem dX9_account_243 : decode cX9_account 243 = .ok (.getfield 165, 3) := by decide +kernel
theorem dX9_account_246 : decode cX9_account 246 = .ok (.getfield 192, 3) := by decide +kernel
theorem dX9_account_249 : decode cX9_account 249 = .ok (.aload_n 0, 1) := by decide +kernel
theorem dX9_account_250 : decode cX9_account 250 = .ok (.getfield 12, 3) := by decide +kernel
theorem dX9_account_253 : decode cX9_account 253 = .ok (.getfield 165, 3) := by decide +kernel
theorem dX9_account_256 : decode cX9_account 256 = .ok (.getfield 287, 3) := by decide +kernel
theorem dX9_account_259 : decode cX9_account 259 = .ok (.invokestatic 305, 3) := by decide +kernel
theorem dX9_account_262 : decode cX9_account 262 = .ok (.ireturn, 1) := by decide +kernel
theorem dX9_account_263 : decode cX9_account 263 = .ok (.aload_n 0, 1) := by decide +kernel
theorem dX9_account_264 : decode cX9_account 264 = .ok (.getfield 43, 3) := by decide +kernel
theorem dX9_account_267 : decode cX9_account 267 = .ok (.invokevirtual 73, 3) := by decide +kernel
theorem dX9_account_270 : decode cX9_account 270 = .ok (.ireturn, 1) := by decide +kernel
theorem dX9_account_271 : decode cX9_account 271 = .ok (.aload_n 0, 1) := by decide +kernel
theorem dX9_account_272 : decode cX9_account 272 = .ok (.getfield 22, 3) := by decide +kernel
theorem dX9_account_275 : decode cX9_account 275 = .ok (.getfield 324, 3) := by decide +kernel
theorem dX9_account_278 : decode cX9_account 278 = .ok (.ireturn, 1) := by decide +kernel
theorem dX9_account_279 : decode cX9_account 279 = .ok (.bipush (-2), 2) := by decide +kernel
theorem dX9_account_281 : decode cX9_account 281 = .ok (.ireturn, 1) := by decide +kernel
theorem dX9_undo_0 : decode cX9_undo 0 = .ok (.aload_n 0, 1) := by decide +kernel
theorem dX9_undo_1 : decode cX9_undo 1 = .ok (.getfield 22, 3) := by decide +kernel
theorem dX9_undo_4 : decode cX9_undo 4 = .ok (.aload_n 0, 1) := by decide +kernel
theorem dX9_undo_5 : decode cX9_undo 5 = .ok (.getfield 12, 3) := by decide +kernel
theorem dX9_undo_8 : decode cX9_undo 8 = .ok (.invokevirtual 325, 3) := by decide +kernel
theorem dX9_undo_11 : decode cX9_undo 11 = .ok (.ireturn, 1) := by decide +kernel
theorem dX9_save_0 : decode cX9_save 0 = .ok (.aload_n 0, 1) := by decide +kernel
theorem dX9_save_1 : decode cX9_save 1 = .ok (.getfield 16, 3) := by decide +kernel
theorem dX9_save_4 : decode cX9_save 4 = .ok (.aload_n 0, 1) := by decide +kernel
theorem dX9_save_5 : decode cX9_save 5 = .ok (.getfield 12, 3) := by decide +kernel
theorem dX9_save_8 : decode cX9_save 8 = .ok (.invokevirtual 329, 3) := by decide +kernel
theorem dX9_save_11 : decode cX9_save 11 = .ok (.aload_n 0, 1) := by decide +kernel
theorem dX9_save_12 : decode cX9_save 12 = .ok (.iconst 1, 1) := by decide +kernel
theorem dX9_save_13 : decode cX9_save 13 = .ok (.putfield 333, 3) := by decide +kernel
theorem dX9_save_16 : decode cX9_save 16 = .ok (.aload_n 0, 1) := by decide +kernel
theorem dX9_save_17 : decode cX9_save 17 = .ok (.getfield 12, 3) := by decide +kernel
theorem dX9_save_20 : decode cX9_save 20 = .ok (.getfield 54, 3) := by decide +kernel
theorem dX9_save_23 : decode cX9_save 23 = .ok (.getfield 58, 3) := by decide +kernel
theorem dX9_save_26 : decode cX9_save 26 = .ok (.ireturn, 1) := by decide +kernel
theorem dX9_restore_0 : decode cX9_restore 0 = .ok (.aload_n 0, 1) := by decide +kernel
theorem dX9_restore_1 : decode cX9_restore 1 = .ok (.getfield 333, 3) := by decide +kernel
theorem dX9_restore_4 : decode cX9_restore 4 = .ok (.ifCond .ne 6, 3) := by decide +kernel
theorem dX9_restore_7 : decode cX9_restore 7 = .ok (.bipush (-4), 2) := by decide +kernel
theorem dX9_restore_9 : decode cX9_restore 9 = .ok (.ireturn, 1) := by decide +kernel
theorem dX9_restore_10 : decode cX9_restore 10 = .ok (.aload_n 0, 1) := by decide +kernel
theorem dX9_restore_11 : decode cX9_restore 11 = .ok (.getfield 12, 3) := by decide +kernel
theorem dX9_restore_14 : decode cX9_restore 14 = .ok (.aload_n 0, 1) := by decide +kernel
theorem dX9_restore_15 : decode cX9_restore 15 = .ok (.getfield 16, 3) := by decide +kernel
theorem dX9_restore_18 : decode cX9_restore 18 = .ok (.invokevirtual 329, 3) := by decide +kernel
theorem dX9_restore_21 : decode cX9_restore 21 = .ok (.aload_n 0, 1) := by decide +kernel
theorem dX9_restore_22 : decode cX9_restore 22 = .ok (.getfield 22, 3) := by decide +kernel
theorem dX9_restore_25 : decode cX9_restore 25 = .ok (.invokevirtual 66, 3) := by decide +kernel
theorem dX9_restore_28 : decode cX9_restore 28 = .ok (.aload_n 0, 1) := by decide +kernel
theorem dX9_restore_29 : decode cX9_restore 29 = .ok (.getfield 12, 3) := by decide +kernel
theorem dX9_restore_32 : decode cX9_restore 32 = .ok (.getfield 54, 3) := by decide +kernel
theorem dX9_restore_35 : decode cX9_restore 35 = .ok (.getfield 58, 3) := by decide +kernel
theorem dX9_restore_38 : decode cX9_restore 38 = .ok (.ireturn, 1) := by decide +kernel
theorem dX9_change_0 : decode cX9_change 0 = .ok (.aload_n 0, 1) := by decide +kernel
theorem dX9_change_1 : decode cX9_change 1 = .ok (.getfield 22, 3) := by decide +kernel
theorem dX9_change_4 : decode cX9_change 4 = .ok (.aload_n 0, 1) := by decide +kernel
theorem dX9_change_5 : decode cX9_change 5 = .ok (.getfield 12, 3) := by decide +kernel
theorem dX9_change_8 : decode cX9_change 8 = .ok (.invokevirtual 337, 3) := by decide +kernel
theorem dX9_change_11 : decode cX9_change 11 = .ok (.aload_n 0, 1) := by decide +kernel
theorem dX9_change_12 : decode cX9_change 12 = .ok (.aload_n 1, 1) := by decide +kernel
theorem dX9_change_13 : decode cX9_change 13 = .ok (.iload_n 2, 1) := by decide +kernel
theorem dX9_change_14 : decode cX9_change 14 = .ok (.iload_n 3, 1) := by decide +kernel
theorem dX9_change_15 : decode cX9_change 15 = .ok (.iload 4, 2) := by decide +kernel
theorem dX9_change_17 : decode cX9_change 17 = .ok (.invokevirtual 340, 3) := by decide +kernel
theorem dX9_change_20 : decode cX9_change 20 = .ok (.istore 5, 2) := by decide +kernel
theorem dX9_change_22 : decode cX9_change 22 = .ok (.iload 5, 2) := by decide +kernel
theorem dX9_change_24 : decode cX9_change 24 = .ok (.ifCond .lt 10, 3) := by decide +kernel
theorem dX9_change_27 : decode cX9_change 27 = .ok (.aload_n 0, 1) := by decide +kernel
theorem dX9_change_28 : decode cX9_change 28 = .ok (.getfield 22, 3) := by decide +kernel
theorem dX9_change_31 : decode cX9_change 31 = .ok (.invokevirtual 343, 3) := by decide +kernel
theorem dX9_change_34 : decode cX9_change 34 = .ok (.iload 5, 2) := by decide +kernel
theorem dX9_change_36 : decode cX9_change 36 = .ok (.ireturn, 1) := by decide +kernel
theorem dX9_carryOut_0 : decode cX9_carryOut 0 = .ok (.getstatic 346, 3) := by decide +kernel
theorem dX9_carryOut_3 : decode cX9_carryOut 3 = .ok (.aload_n 1, 1) := by decide +kernel
theorem dX9_carryOut_4 : decode cX9_carryOut 4 = .ok (.invokevirtual 351, 3) := by decide +kernel
theorem dX9_carryOut_7 : decode cX9_carryOut 7 = .ok (.iaload, 1) := by decide +kernel
theorem dX9_carryOut_8 : decode cX9_carryOut 8 = .ok (.tableswitch 224 1 12 #[64, 78, 91, 105, 119, 133, 146, 162, 176, 189, 202, 216], 64) := by decide +kernel
theorem dX9_carryOut_72 : decode cX9_carryOut 72 = .ok (.aload_n 0, 1) := by decide +kernel
theorem dX9_carryOut_73 : decode cX9_carryOut 73 = .ok (.getfield 12, 3) := by decide +kernel
theorem dX9_carryOut_76 : decode cX9_carryOut 76 = .ok (.iload_n 2, 1) := by decide +kernel
theorem dX9_carryOut_77 : decode cX9_carryOut 77 = .ok (.iload_n 3, 1) := by decide +kernel
theorem dX9_carryOut_78 : decode cX9_carryOut 78 = .ok (.aload_n 0, 1) := by decide +kernel
theorem dX9_carryOut_79 : decode cX9_carryOut 79 = .ok (.getfield 29, 3) := by decide +kernel
theorem dX9_carryOut_82 : decode cX9_carryOut 82 = .ok (.invokevirtual 354, 3) := by decide +kernel
theorem dX9_carryOut_85 : decode cX9_carryOut 85 = .ok (.ireturn, 1) := by decide +kernel
theorem dX9_carryOut_86 : decode cX9_carryOut 86 = .ok (.aload_n 0, 1) := by decide +kernel
theorem dX9_carryOut_87 : decode cX9_carryOut 87 = .ok (.getfield 12, 3) := by decide +kernel
theorem dX9_carryOut_90 : decode cX9_carryOut 90 = .ok (.iload_n 2, 1) := by decide +kernel
theorem dX9_carryOut_91 : decode cX9_carryOut 91 = .ok (.aload_n 0, 1) := by decide +kernel
theorem dX9_carryOut_92 : decode cX9_carryOut 92 = .ok (.getfield 29, 3) := by decide +kernel
theorem dX9_carryOut_95 : decode cX9_carryOut 95 = .ok (.invokevirtual 358, 3) := by decide +kernel
theorem dX9_carryOut_98 : decode cX9_carryOut 98 = .ok (.ireturn, 1) := by decide +kernel
theorem dX9_carryOut_99 : decode cX9_carryOut 99 = .ok (.aload_n 0, 1) := by decide +kernel
theorem dX9_carryOut_100 : decode cX9_carryOut 100 = .ok (.getfield 12, 3) := by decide +kernel
theorem dX9_carryOut_103 : decode cX9_carryOut 103 = .ok (.iload_n 2, 1) := by decide +kernel
theorem dX9_carryOut_104 : decode cX9_carryOut 104 = .ok (.iload_n 3, 1) := by decide +kernel
theorem dX9_carryOut_105 : decode cX9_carryOut 105 = .ok (.aload_n 0, 1) := by decide +kernel
theorem dX9_carryOut_106 : decode cX9_carryOut 106 = .ok (.getfield 29, 3) := by decide +kernel
theorem dX9_carryOut_109 : decode cX9_carryOut 109 = .ok (.invokevirtual 362, 3) := by decide +kernel
theorem dX9_carryOut_112 : decode cX9_carryOut 112 = .ok (.ireturn, 1) := by decide +kernel
theorem dX9_carryOut_113 : decode cX9_carryOut 113 = .ok (.aload_n 0, 1) := by decide +kernel
theorem dX9_carryOut_114 : decode cX9_carryOut 114 = .ok (.getfield 12, 3) := by decide +kernel
theorem dX9_carryOut_117 : decode cX9_carryOut 117 = .ok (.iload_n 2, 1) := by decide +kernel
theorem dX9_carryOut_118 : decode cX9_carryOut 118 = .ok (.iload_n 3, 1) := by decide +kernel
theorem dX9_carryOut_119 : decode cX9_carryOut 119 = .ok (.aload_n 0, 1) := by decide +kernel
theorem dX9_carryOut_120 : decode cX9_carryOut 120 = .ok (.getfield 29, 3) := by decide +kernel
theorem dX9_carryOut_123 : decode cX9_carryOut 123 = .ok (.invokevirtual 365, 3) := by decide +kernel
theorem dX9_carryOut_126 : decode cX9_carryOut 126 = .ok (.ireturn, 1) := by decide +kernel
theorem dX9_carryOut_127 : decode cX9_carryOut 127 = .ok (.aload_n 0, 1) := by decide +kernel
theorem dX9_carryOut_128 : decode cX9_carryOut 128 = .ok (.getfield 12, 3) := by decide +kernel
theorem dX9_carryOut_131 : decode cX9_carryOut 131 = .ok (.iload_n 2, 1) := by decide +kernel
theorem dX9_carryOut_132 : decode cX9_carryOut 132 = .ok (.iload_n 3, 1) := by decide +kernel
theorem dX9_carryOut_133 : decode cX9_carryOut 133 = .ok (.aload_n 0, 1) := by decide +kernel
theorem dX9_carryOut_134 : decode cX9_carryOut 134 = .ok (.getfield 29, 3) := by decide +kernel
theorem dX9_carryOut_137 : decode cX9_carryOut 137 = .ok (.invokevirtual 368, 3) := by decide +kernel
theorem dX9_carryOut_140 : decode cX9_carryOut 140 = .ok (.ireturn, 1) := by decide +kernel
theorem dX9_carryOut_141 : decode cX9_carryOut 141 = .ok (.aload_n 0, 1) := by decide +kernel
theorem dX9_carryOut_142 : decode cX9_carryOut 142 = .ok (.getfield 12, 3) := by decide +kernel
theorem dX9_carryOut_145 : decode cX9_carryOut 145 = .ok (.iload_n 2, 1) := by decide +kernel
theorem dX9_carryOut_146 : decode cX9_carryOut 146 = .ok (.aload_n 0, 1) := by decide +kernel
theorem dX9_carryOut_147 : decode cX9_carryOut 147 = .ok (.getfield 29, 3) := by decide +kernel
theorem dX9_carryOut_150 : decode cX9_carryOut 150 = .ok (.invokevirtual 371, 3) := by decide +kernel
theorem dX9_carryOut_153 : decode cX9_carryOut 153 = .ok (.ireturn, 1) := by decide +kernel
theorem dX9_carryOut_154 : decode cX9_carryOut 154 = .ok (.aload_n 0, 1) := by decide +kernel
theorem dX9_carryOut_155 : decode cX9_carryOut 155 = .ok (.getfield 12, 3) := by decide +kernel
theorem dX9_carryOut_158 : decode cX9_carryOut 158 = .ok (.iload_n 2, 1) := by decide +kernel
theorem dX9_carryOut_159 : decode cX9_carryOut 159 = .ok (.iload_n 3, 1) := by decide +kernel
theorem dX9_carryOut_160 : decode cX9_carryOut 160 = .ok (.iload 4, 2) := by decide +kernel
theorem dX9_carryOut_162 : decode cX9_carryOut 162 = .ok (.aload_n 0, 1) := by decide +kernel
theorem dX9_carryOut_163 : decode cX9_carryOut 163 = .ok (.getfield 29, 3) := by decide +kernel
theorem dX9_carryOut_166 : decode cX9_carryOut 166 = .ok (.invokevirtual 374, 3) := by decide +kernel
theorem dX9_carryOut_169 : decode cX9_carryOut 169 = .ok (.ireturn, 1) := by decide +kernel
theorem dX9_carryOut_170 : decode cX9_carryOut 170 = .ok (.aload_n 0, 1) := by decide +kernel
theorem dX9_carryOut_171 : decode cX9_carryOut 171 = .ok (.getfield 12, 3) := by decide +kernel
theorem dX9_carryOut_174 : decode cX9_carryOut 174 = .ok (.iload_n 2, 1) := by decide +kernel
theorem dX9_carryOut_175 : decode cX9_carryOut 175 = .ok (.iload_n 3, 1) := by decide +kernel
theorem dX9_carryOut_176 : decode cX9_carryOut 176 = .ok (.aload_n 0, 1) := by decide +kernel
theorem dX9_carryOut_177 : decode cX9_carryOut 177 = .ok (.getfield 29, 3) := by decide +kernel
theorem dX9_carryOut_180 : decode cX9_carryOut 180 = .ok (.invokevirtual 378, 3) := by decide +kernel
theorem dX9_carryOut_183 : decode cX9_carryOut 183 = .ok (.ireturn, 1) := by decide +kernel
theorem dX9_carryOut_184 : decode cX9_carryOut 184 = .ok (.aload_n 0, 1) := by decide +kernel
theorem dX9_carryOut_185 : decode cX9_carryOut 185 = .ok (.getfield 12, 3) := by decide +kernel
theorem dX9_carryOut_188 : decode cX9_carryOut 188 = .ok (.iload_n 2, 1) := by decide +kernel
theorem dX9_carryOut_189 : decode cX9_carryOut 189 = .ok (.aload_n 0, 1) := by decide +kernel
theorem dX9_carryOut_190 : decode cX9_carryOut 190 = .ok (.getfield 29, 3) := by decide +kernel
theorem dX9_carryOut_193 : decode cX9_carryOut 193 = .ok (.invokevirtual 381, 3) := by decide +kernel
theorem dX9_carryOut_196 : decode cX9_carryOut 196 = .ok (.ireturn, 1) := by decide +kernel
theorem dX9_carryOut_197 : decode cX9_carryOut 197 = .ok (.aload_n 0, 1) := by decide +kernel
theorem dX9_carryOut_198 : decode cX9_carryOut 198 = .ok (.getfield 12, 3) := by decide +kernel
theorem dX9_carryOut_201 : decode cX9_carryOut 201 = .ok (.iload_n 2, 1) := by decide +kernel
theorem dX9_carryOut_202 : decode cX9_carryOut 202 = .ok (.aload_n 0, 1) := by decide +kernel
theorem dX9_carryOut_203 : decode cX9_carryOut 203 = .ok (.getfield 29, 3) := by decide +kernel
theorem dX9_carryOut_206 : decode cX9_carryOut 206 = .ok (.invokevirtual 384, 3) := by decide +kernel
theorem dX9_carryOut_209 : decode cX9_carryOut 209 = .ok (.ireturn, 1) := by decide +kernel
theorem dX9_carryOut_210 : decode cX9_carryOut 210 = .ok (.aload_n 0, 1) := by decide +kernel
theorem dX9_carryOut_211 : decode cX9_carryOut 211 = .ok (.getfield 12, 3) := by decide +kernel
theorem dX9_carryOut_214 : decode cX9_carryOut 214 = .ok (.iload_n 2, 1) := by decide +kernel
theorem dX9_carryOut_215 : decode cX9_carryOut 215 = .ok (.iload_n 3, 1) := by decide +kernel
theorem dX9_carryOut_216 : decode cX9_carryOut 216 = .ok (.aload_n 0, 1) := by decide +kernel
theorem dX9_carryOut_217 : decode cX9_carryOut 217 = .ok (.getfield 29, 3) := by decide +kernel
theorem dX9_carryOut_220 : decode cX9_carryOut 220 = .ok (.invokevirtual 387, 3) := by decide +kernel
theorem dX9_carryOut_223 : decode cX9_carryOut 223 = .ok (.ireturn, 1) := by decide +kernel
theorem dX9_carryOut_224 : decode cX9_carryOut 224 = .ok (.aload_n 0, 1) := by decide +kernel
theorem dX9_carryOut_225 : decode cX9_carryOut 225 = .ok (.getfield 12, 3) := by decide +kernel
theorem dX9_carryOut_228 : decode cX9_carryOut 228 = .ok (.invokevirtual 390, 3) := by decide +kernel
theorem dX9_carryOut_231 : decode cX9_carryOut 231 = .ok (.ireturn, 1) := by decide +kernel
theorem dX9_carryOut_232 : decode cX9_carryOut 232 = .ok (.bipush (-2), 2) := by decide +kernel
theorem dX9_carryOut_234 : decode cX9_carryOut 234 = .ok (.ireturn, 1) := by decide +kernel
theorem dX9_carryOutInput_0 : decode cX9_carryOutInput 0 = .ok (.aload_n 0, 1) := by decide +kernel
theorem dX9_carryOutInput_1 : decode cX9_carryOutInput 1 = .ok (.getfield 36, 3) := by decide +kernel
theorem dX9_carryOutInput_4 : decode cX9_carryOutInput 4 = .ok (.aload_n 0, 1) := by decide +kernel
theorem dX9_carryOutInput_5 : decode cX9_carryOutInput 5 = .ok (.getfield 43, 3) := by decide +kernel
theorem dX9_carryOutInput_8 : decode cX9_carryOutInput 8 = .ok (.invokevirtual 393, 3) := by decide +kernel
theorem dX9_carryOutInput_11 : decode cX9_carryOutInput 11 = .ok (.istore_n 1, 1) := by decide +kernel
theorem dX9_carryOutInput_12 : decode cX9_carryOutInput 12 = .ok (.iload_n 1, 1) := by decide +kernel
theorem dX9_carryOutInput_13 : decode cX9_carryOutInput 13 = .ok (.ifCond .ge 17, 3) := by decide +kernel
theorem dX9_carryOutInput_16 : decode cX9_carryOutInput 16 = .ok (.aload_n 0, 1) := by decide +kernel
theorem dX9_carryOutInput_17 : decode cX9_carryOutInput 17 = .ok (.aload_n 0, 1) := by decide +kernel
theorem dX9_carryOutInput_18 : decode cX9_carryOutInput 18 = .ok (.getfield 36, 3) := by decide +kernel
theorem dX9_carryOutInput_21 : decode cX9_carryOutInput 21 = .ok (.getfield 397, 3) := by decide +kernel
theorem dX9_carryOutInput_24 : decode cX9_carryOutInput 24 = .ok (.putfield 50, 3) := by decide +kernel
theorem dX9_carryOutInput_27 : decode cX9_carryOutInput 27 = .ok (.bipush (-2), 2) := by decide +kernel
theorem dX9_carryOutInput_29 : decode cX9_carryOutInput 29 = .ok (.ireturn, 1) := by decide +kernel
theorem dX9_carryOutInput_30 : decode cX9_carryOutInput 30 = .ok (.aload_n 0, 1) := by decide +kernel
theorem dX9_carryOutInput_31 : decode cX9_carryOutInput 31 = .ok (.getfield 22, 3) := by decide +kernel
theorem dX9_carryOutInput_34 : decode cX9_carryOutInput 34 = .ok (.aload_n 0, 1) := by decide +kernel
theorem dX9_carryOutInput_35 : decode cX9_carryOutInput 35 = .ok (.getfield 12, 3) := by decide +kernel
theorem dX9_carryOutInput_38 : decode cX9_carryOutInput 38 = .ok (.invokevirtual 337, 3) := by decide +kernel
theorem dX9_carryOutInput_41 : decode cX9_carryOutInput 41 = .ok (.iconst 0, 1) := by decide +kernel
theorem dX9_carryOutInput_42 : decode cX9_carryOutInput 42 = .ok (.istore_n 2, 1) := by decide +kernel
theorem dX9_carryOutInput_43 : decode cX9_carryOutInput 43 = .ok (.iconst 0, 1) := by decide +kernel
theorem dX9_carryOutInput_44 : decode cX9_carryOutInput 44 = .ok (.istore_n 3, 1) := by decide +kernel
theorem dX9_carryOutInput_45 : decode cX9_carryOutInput 45 = .ok (.iload_n 3, 1) := by decide +kernel
theorem dX9_carryOutInput_46 : decode cX9_carryOutInput 46 = .ok (.iload_n 1, 1) := by decide +kernel
theorem dX9_carryOutInput_47 : decode cX9_carryOutInput 47 = .ok (.if_icmp .ge 102, 3) := by decide +kernel
theorem dX9_carryOutInput_50 : decode cX9_carryOutInput 50 = .ok (.aload_n 0, 1) := by decide +kernel
theorem dX9_carryOutInput_51 : decode cX9_carryOutInput 51 = .ok (.getfield 36, 3) := by decide +kernel
theorem dX9_carryOutInput_54 : decode cX9_carryOutInput 54 = .ok (.aload_n 0, 1) := by decide +kernel
theorem dX9_carryOutInput_55 : decode cX9_carryOutInput 55 = .ok (.getfield 43, 3) := by decide +kernel
theorem dX9_carryOutInput_58 : decode cX9_carryOutInput 58 = .ok (.iload_n 2, 1) := by decide +kernel
theorem dX9_carryOutInput_59 : decode cX9_carryOutInput 59 = .ok (.invokevirtual 400, 3) := by decide +kernel
theorem dX9_carryOutInput_62 : decode cX9_carryOutInput 62 = .ok (.pop, 1) := by decide +kernel
theorem dX9_carryOutInput_63 : decode cX9_carryOutInput 63 = .ok (.aload_n 0, 1) := by decide +kernel
theorem dX9_carryOutInput_64 : decode cX9_carryOutInput 64 = .ok (.aload_n 0, 1) := by decide +kernel
theorem dX9_carryOutInput_65 : decode cX9_carryOutInput 65 = .ok (.getfield 36, 3) := by decide +kernel
theorem dX9_carryOutInput_68 : decode cX9_carryOutInput 68 = .ok (.getfield 404, 3) := by decide +kernel
theorem dX9_carryOutInput_71 : decode cX9_carryOutInput 71 = .ok (.aload_n 0, 1) := by decide +kernel
theorem dX9_carryOutInput_72 : decode cX9_carryOutInput 72 = .ok (.getfield 36, 3) := by decide +kernel
theorem dX9_carryOutInput_75 : decode cX9_carryOutInput 75 = .ok (.getfield 407, 3) := by decide +kernel
theorem dX9_carryOutInput_78 : decode cX9_carryOutInput 78 = .ok (.iconst 0, 1) := by decide +kernel
theorem dX9_carryOutInput_79 : decode cX9_carryOutInput 79 = .ok (.iaload, 1) := by decide +kernel
theorem dX9_carryOutInput_80 : decode cX9_carryOutInput 80 = .ok (.aload_n 0, 1) := by decide +kernel
theorem dX9_carryOutInput_81 : decode cX9_carryOutInput 81 = .ok (.getfield 36, 3) := by decide +kernel
theorem dX9_carryOutInput_84 : decode cX9_carryOutInput 84 = .ok (.getfield 407, 3) := by decide +kernel
theorem dX9_carryOutInput_87 : decode cX9_carryOutInput 87 = .ok (.iconst 1, 1) := by decide +kernel
theorem dX9_carryOutInput_88 : decode cX9_carryOutInput 88 = .ok (.iaload, 1) := by decide +kernel
theorem dX9_carryOutInput_89 : decode cX9_carryOutInput 89 = .ok (.aload_n 0, 1) := by decide +kernel
theorem dX9_carryOutInput_90 : decode cX9_carryOutInput 90 = .ok (.getfield 36, 3) := by decide +kernel
theorem dX9_carryOutInput_93 : decode cX9_carryOutInput 93 = .ok (.getfield 407, 3) := by decide +kernel
theorem dX9_carryOutInput_96 : decode cX9_carryOutInput 96 = .ok (.iconst 2, 1) := by decide +kernel
theorem dX9_carryOutInput_97 : decode cX9_carryOutInput 97 = .ok (.iaload, 1) := by decide +kernel
theorem dX9_carryOutInput_98 : decode cX9_carryOutInput 98 = .ok (.invokevirtual 340, 3) := by decide +kernel
theorem dX9_carryOutInput_101 : decode cX9_carryOutInput 101 = .ok (.istore 4, 2) := by decide +kernel
theorem dX9_carryOutInput_103 : decode cX9_carryOutInput 103 = .ok (.iload 4, 2) := by decide +kernel
theorem dX9_carryOutInput_105 : decode cX9_carryOutInput 105 = .ok (.ifCond .ge 28, 3) := by decide +kernel
theorem dX9_carryOutInput_108 : decode cX9_carryOutInput 108 = .ok (.aload_n 0, 1) := by decide +kernel
theorem dX9_carryOutInput_109 : decode cX9_carryOutInput 109 = .ok (.getfield 12, 3) := by decide +kernel
theorem dX9_carryOutInput_112 : decode cX9_carryOutInput 112 = .ok (.aload_n 0, 1) := by decide +kernel
theorem dX9_carryOutInput_113 : decode cX9_carryOutInput 113 = .ok (.getfield 22, 3) := by decide +kernel
theorem dX9_carryOutInput_116 : decode cX9_carryOutInput 116 = .ok (.invokevirtual 410, 3) := by decide +kernel
theorem dX9_carryOutInput_119 : decode cX9_carryOutInput 119 = .ok (.invokevirtual 329, 3) := by decide +kernel
theorem dX9_carryOutInput_122 : decode cX9_carryOutInput 122 = .ok (.aload_n 0, 1) := by decide +kernel
theorem dX9_carryOutInput_123 : decode cX9_carryOutInput 123 = .ok (.getfield 29, 3) := by decide +kernel
theorem dX9_carryOutInput_126 : decode cX9_carryOutInput 126 = .ok (.iload 4, 2) := by decide +kernel
theorem dX9_carryOutInput_128 : decode cX9_carryOutInput 128 = .ok (.iload_n 3, 1) := by decide +kernel
theorem dX9_carryOutInput_129 : decode cX9_carryOutInput 129 = .ok (.invokevirtual 414, 3) := by decide +kernel
theorem dX9_carryOutInput_132 : decode cX9_carryOutInput 132 = .ok (.ireturn, 1) := by decide +kernel
theorem dX9_carryOutInput_133 : decode cX9_carryOutInput 133 = .ok (.aload_n 0, 1) := by decide +kernel
theorem dX9_carryOutInput_134 : decode cX9_carryOutInput 134 = .ok (.getfield 36, 3) := by decide +kernel
theorem dX9_carryOutInput_137 : decode cX9_carryOutInput 137 = .ok (.getfield 397, 3) := by decide +kernel
theorem dX9_carryOutInput_140 : decode cX9_carryOutInput 140 = .ok (.iconst 1, 1) := by decide +kernel
theorem dX9_carryOutInput_141 : decode cX9_carryOutInput 141 = .ok (.iadd, 1) := by decide +kernel
theorem dX9_carryOutInput_142 : decode cX9_carryOutInput 142 = .ok (.istore_n 2, 1) := by decide +kernel
theorem dX9_carryOutInput_143 : decode cX9_carryOutInput 143 = .ok (.iinc 3 1, 3) := by decide +kernel
theorem dX9_carryOutInput_146 : decode cX9_carryOutInput 146 = .ok (.goto (-101), 3) := by decide +kernel
theorem dX9_carryOutInput_149 : decode cX9_carryOutInput 149 = .ok (.aload_n 0, 1) := by decide +kernel
theorem dX9_carryOutInput_150 : decode cX9_carryOutInput 150 = .ok (.getfield 22, 3) := by decide +kernel
theorem dX9_carryOutInput_153 : decode cX9_carryOutInput 153 = .ok (.invokevirtual 343, 3) := by decide +kernel
theorem dX9_carryOutInput_156 : decode cX9_carryOutInput 156 = .ok (.iload_n 1, 1) := by decide +kernel
theorem dX9_carryOutInput_157 : decode cX9_carryOutInput 157 = .ok (.ireturn, 1) := by decide +kernel
theorem dX9_writeIfAny_0 : decode cX9_writeIfAny 0 = .ok (.iload_n 2, 1) := by decide +kernel
theorem dX9_writeIfAny_1 : decode cX9_writeIfAny 1 = .ok (.ifCond .le 21, 3) := by decide +kernel
theorem dX9_writeIfAny_4 : decode cX9_writeIfAny 4 = .ok (.aload_n 0, 1) := by decide +kernel
theorem dX9_writeIfAny_5 : decode cX9_writeIfAny 5 = .ok (.getfield 47, 3) := by decide +kernel
theorem dX9_writeIfAny_8 : decode cX9_writeIfAny 8 = .ok (.iload_n 1, 1) := by decide +kernel
theorem dX9_writeIfAny_9 : decode cX9_writeIfAny 9 = .ok (.invokevirtual 77, 3) := by decide +kernel
theorem dX9_writeIfAny_12 : decode cX9_writeIfAny 12 = .ok (.pop, 1) := by decide +kernel
theorem dX9_writeIfAny_13 : decode cX9_writeIfAny 13 = .ok (.aload_n 0, 1) := by decide +kernel
theorem dX9_writeIfAny_14 : decode cX9_writeIfAny 14 = .ok (.getfield 47, 3) := by decide +kernel
theorem dX9_writeIfAny_17 : decode cX9_writeIfAny 17 = .ok (.iload_n 2, 1) := by decide +kernel
theorem dX9_writeIfAny_18 : decode cX9_writeIfAny 18 = .ok (.invokevirtual 276, 3) := by decide +kernel
theorem dX9_writeIfAny_21 : decode cX9_writeIfAny 21 = .ok (.pop, 1) := by decide +kernel
theorem dX9_writeIfAny_22 : decode cX9_writeIfAny 22 = .ok (.return_, 1) := by decide +kernel
theorem dX9_isWithin_0 : decode cX9_isWithin 0 = .ok (.iload_n 0, 1) := by decide +kernel
theorem dX9_isWithin_1 : decode cX9_isWithin 1 = .ok (.iload_n 1, 1) := by decide +kernel
theorem dX9_isWithin_2 : decode cX9_isWithin 2 = .ok (.if_icmp .lt 12, 3) := by decide +kernel
theorem dX9_isWithin_5 : decode cX9_isWithin 5 = .ok (.iload_n 0, 1) := by decide +kernel
theorem dX9_isWithin_6 : decode cX9_isWithin 6 = .ok (.iload_n 2, 1) := by decide +kernel
theorem dX9_isWithin_7 : decode cX9_isWithin 7 = .ok (.if_icmp .gt 7, 3) := by decide +kernel
theorem dX9_isWithin_10 : decode cX9_isWithin 10 = .ok (.iconst 1, 1) := by decide +kernel
theorem dX9_isWithin_11 : decode cX9_isWithin 11 = .ok (.goto 4, 3) := by decide +kernel
theorem dX9_isWithin_14 : decode cX9_isWithin 14 = .ok (.iconst 0, 1) := by decide +kernel
theorem dX9_isWithin_15 : decode cX9_isWithin 15 = .ok (.ireturn, 1) := by decide +kernel
theorem dX9_isSector_0 : decode cX9_isSector 0 = .ok (.iload_n 0, 1) := by decide +kernel
theorem dX9_isSector_1 : decode cX9_isSector 1 = .ok (.iconst 0, 1) := by decide +kernel
theorem dX9_isSector_2 : decode cX9_isSector 2 = .ok (.iconst 3, 1) := by decide +kernel
theorem dX9_isSector_3 : decode cX9_isSector 3 = .ok (.invokestatic 69, 3) := by decide +kernel
theorem dX9_isSector_6 : decode cX9_isSector 6 = .ok (.ireturn, 1) := by decide +kernel
theorem dX9_sum_0 : decode cX9_sum 0 = .ok (.iconst 0, 1) := by decide +kernel
theorem dX9_sum_1 : decode cX9_sum 1 = .ok (.istore_n 2, 1) := by decide +kernel
theorem dX9_sum_2 : decode cX9_sum 2 = .ok (.iconst 0, 1) := by decide +kernel
theorem dX9_sum_3 : decode cX9_sum 3 = .ok (.istore_n 3, 1) := by decide +kernel
theorem dX9_sum_4 : decode cX9_sum 4 = .ok (.iload_n 3, 1) := by decide +kernel
theorem dX9_sum_5 : decode cX9_sum 5 = .ok (.iload_n 1, 1) := by decide +kernel
theorem dX9_sum_6 : decode cX9_sum 6 = .ok (.if_icmp .ge 21, 3) := by decide +kernel
theorem dX9_sum_9 : decode cX9_sum 9 = .ok (.iload_n 3, 1) := by decide +kernel
theorem dX9_sum_10 : decode cX9_sum 10 = .ok (.aload_n 0, 1) := by decide +kernel
theorem dX9_sum_11 : decode cX9_sum 11 = .ok (.arraylength, 1) := by decide +kernel
theorem dX9_sum_12 : decode cX9_sum 12 = .ok (.if_icmp .ge 15, 3) := by decide +kernel
theorem dX9_sum_15 : decode cX9_sum 15 = .ok (.iload_n 2, 1) := by decide +kernel
theorem dX9_sum_16 : decode cX9_sum 16 = .ok (.aload_n 0, 1) := by decide +kernel
theorem dX9_sum_17 : decode cX9_sum 17 = .ok (.iload_n 3, 1) := by decide +kernel
theorem dX9_sum_18 : decode cX9_sum 18 = .ok (.iaload, 1) := by decide +kernel
theorem dX9_sum_19 : decode cX9_sum 19 = .ok (.iadd, 1) := by decide +kernel
theorem dX9_sum_20 : decode cX9_sum 20 = .ok (.istore_n 2, 1) := by decide +kernel
theorem dX9_sum_21 : decode cX9_sum 21 = .ok (.iinc 3 1, 3) := by decide +kernel
theorem dX9_sum_24 : decode cX9_sum 24 = .ok (.goto (-20), 3) := by decide +kernel
theorem dX9_sum_27 : decode cX9_sum 27 = .ok (.iload_n 2, 1) := by decide +kernel
theorem dX9_sum_28 : decode cX9_sum 28 = .ok (.ireturn, 1) := by decide +kernel
theorem dX9_countAlike_0 : decode cX9_countAlike 0 = .ok (.iconst 0, 1) := by decide +kernel
theorem dX9_countAlike_1 : decode cX9_countAlike 1 = .ok (.istore_n 3, 1) := by decide +kernel
theorem dX9_countAlike_2 : decode cX9_countAlike 2 = .ok (.iconst 0, 1) := by decide +kernel
theorem dX9_countAlike_3 : decode cX9_countAlike 3 = .ok (.istore 4, 2) := by decide +kernel
theorem dX9_countAlike_5 : decode cX9_countAlike 5 = .ok (.iload 4, 2) := by decide +kernel
theorem dX9_countAlike_7 : decode cX9_countAlike 7 = .ok (.iload_n 1, 1) := by decide +kernel
theorem dX9_countAlike_8 : decode cX9_countAlike 8 = .ok (.if_icmp .ge 27, 3) := by decide +kernel
theorem dX9_countAlike_11 : decode cX9_countAlike 11 = .ok (.iload 4, 2) := by decide +kernel
theorem dX9_countAlike_13 : decode cX9_countAlike 13 = .ok (.aload_n 0, 1) := by decide +kernel
theorem dX9_countAlike_14 : decode cX9_countAlike 14 = .ok (.arraylength, 1) := by decide +kernel
theorem dX9_countAlike_15 : decode cX9_countAlike 15 = .ok (.if_icmp .ge 20, 3) := by decide +kernel
theorem dX9_countAlike_18 : decode cX9_countAlike 18 = .ok (.aload_n 0, 1) := by decide +kernel
theorem dX9_countAlike_19 : decode cX9_countAlike 19 = .ok (.iload 4, 2) := by decide +kernel
theorem dX9_countAlike_21 : decode cX9_countAlike 21 = .ok (.iaload, 1) := by decide +kernel
theorem dX9_countAlike_22 : decode cX9_countAlike 22 = .ok (.iload_n 2, 1) := by decide +kernel
theorem dX9_countAlike_23 : decode cX9_countAlike 23 = .ok (.if_icmp .ne 6, 3) := by decide +kernel
theorem dX9_countAlike_26 : decode cX9_countAlike 26 = .ok (.iinc 3 1, 3) := by decide +kernel
theorem dX9_countAlike_29 : decode cX9_countAlike 29 = .ok (.iinc 4 1, 3) := by decide +kernel
theorem dX9_countAlike_32 : decode cX9_countAlike 32 = .ok (.goto (-27), 3) := by decide +kernel
theorem dX9_countAlike_35 : decode cX9_countAlike 35 = .ok (.iload_n 3, 1) := by decide +kernel
theorem dX9_countAlike_36 : decode cX9_countAlike 36 = .ok (.ireturn, 1) := by decide +kernel
theorem dX9_copyRow_0 : decode cX9_copyRow 0 = .ok (.aload_n 0, 1) := by decide +kernel
theorem dX9_copyRow_1 : decode cX9_copyRow 1 = .ok (.iconst 0, 1) := by decide +kernel
theorem dX9_copyRow_2 : decode cX9_copyRow 2 = .ok (.aload_n 1, 1) := by decide +kernel
theorem dX9_copyRow_3 : decode cX9_copyRow 3 = .ok (.iconst 0, 1) := by decide +kernel
theorem dX9_copyRow_4 : decode cX9_copyRow 4 = .ok (.aload_n 0, 1) := by decide +kernel
theorem dX9_copyRow_5 : decode cX9_copyRow 5 = .ok (.arraylength, 1) := by decide +kernel
theorem dX9_copyRow_6 : decode cX9_copyRow 6 = .ok (.aload_n 1, 1) := by decide +kernel
theorem dX9_copyRow_7 : decode cX9_copyRow 7 = .ok (.arraylength, 1) := by decide +kernel
theorem dX9_copyRow_8 : decode cX9_copyRow 8 = .ok (.invokestatic 417, 3) := by decide +kernel
theorem dX9_copyRow_11 : decode cX9_copyRow 11 = .ok (.invokestatic 422, 3) := by decide +kernel
theorem dX9_copyRow_14 : decode cX9_copyRow 14 = .ok (.return_, 1) := by decide +kernel
theorem dJ5_init_d00df_0 : decode cJ5_init_d00df 0 = .ok (.aload_n 0, 1) := by decide +kernel
theorem dJ5_init_d00df_1 : decode cJ5_init_d00df 1 = .ok (.invokespecial 3, 3) := by decide +kernel
theorem dJ5_init_d00df_4 : decode cJ5_init_d00df 4 = .ok (.getstatic 18, 3) := by decide +kernel
theorem dJ5_init_d00df_7 : decode cJ5_init_d00df 7 = .ok (.ifCond .eq 18, 3) := by decide +kernel
theorem dJ5_init_d00df_10 : decode cJ5_init_d00df 10 = .ok (.aload_n 0, 1) := by decide +kernel
theorem dJ5_init_d00df_11 : decode cJ5_init_d00df 11 = .ok (.iload_n 1, 1) := by decide +kernel
theorem dJ5_init_d00df_12 : decode cJ5_init_d00df 12 = .ok (.newarray .byte, 2) := by decide +kernel
theorem dJ5_init_d00df_14 : decode cJ5_init_d00df 14 = .ok (.putfield 15, 3) := by decide +kernel
theorem dJ5_init_d00df_17 : decode cJ5_init_d00df 17 = .ok (.aload_n 0, 1) := by decide +kernel
theorem dJ5_init_d00df_18 : decode cJ5_init_d00df 18 = .ok (.iconst 0, 1) := by decide +kernel
theorem dJ5_init_d00df_19 : decode cJ5_init_d00df 19 = .ok (.putfield 22, 3) := by decide +kernel
theorem dJ5_init_d00df_22 : decode cJ5_init_d00df 22 = .ok (.goto 16, 3) := by decide +kernel
theorem dJ5_init_d00df_25 : decode cJ5_init_d00df 25 = .ok (.aload_n 0, 1) := by decide +kernel
theorem dJ5_init_d00df_26 : decode cJ5_init_d00df 26 = .ok (.iload_n 1, 1) := by decide +kernel
theorem dJ5_init_d00df_27 : decode cJ5_init_d00df 27 = .ok (.invokestatic 26, 3) := by decide +kernel
theorem dJ5_init_d00df_30 : decode cJ5_init_d00df 30 = .ok (.putfield 15, 3) := by decide +kernel
theorem dJ5_init_d00df_33 : decode cJ5_init_d00df 33 = .ok (.aload_n 0, 1) := by decide +kernel
theorem dJ5_init_d00df_34 : decode cJ5_init_d00df 34 = .ok (.iconst 1, 1) := by decide +kernel
theorem dJ5_init_d00df_35 : decode cJ5_init_d00df 35 = .ok (.putfield 22, 3) := by decide +kernel
theorem dJ5_init_d00df_38 : decode cJ5_init_d00df 38 = .ok (.return_, 1) := by decide +kernel
theorem dJ5_length_8abf5_0 : decode cJ5_length_8abf5 0 = .ok (.aload_n 0, 1) := by decide +kernel
theorem dJ5_length_8abf5_1 : decode cJ5_length_8abf5 1 = .ok (.getfield 79, 3) := by decide +kernel
theorem dJ5_length_8abf5_4 : decode cJ5_length_8abf5 4 = .ok (.ireturn, 1) := by decide +kernel
theorem dJ5_ensureCapacityInternal_d00df_0 : decode cJ5_ensureCapacityInternal_d00df 0 = .ok (.aload_n 0, 1) := by decide +kernel
theorem dJ5_ensureCapacityInternal_d00df_1 : decode cJ5_ensureCapacityInternal_d00df 1 = .ok (.getfield 15, 3) := by decide +kernel
theorem dJ5_ensureCapacityInternal_d00df_4 : decode cJ5_ensureCapacityInternal_d00df 4 = .ok (.arraylength, 1) := by decide +kernel
theorem dJ5_ensureCapacityInternal_d00df_5 : decode cJ5_ensureCapacityInternal_d00df 5 = .ok (.aload_n 0, 1) := by decide +kernel
theorem dJ5_ensureCapacityInternal_d00df_6 : decode cJ5_ensureCapacityInternal_d00df 6 = .ok (.getfield 22, 3) := by decide +kernel
theorem dJ5_ensureCapacityInternal_d00df_9 : decode cJ5_ensureCapacityInternal_d00df 9 = .ok (.ishr, 1) := by decide +kernel
theorem dJ5_ensureCapacityInternal_d00df_10 : decode cJ5_ensureCapacityInternal_d00df 10 = .ok (.istore_n 2, 1) := by decide +kernel
theorem dJ5_ensureCapacityInternal_d00df_11 : decode cJ5_ensureCapacityInternal_d00df 11 = .ok (.iload_n 1, 1) := by decide +kernel
theorem dJ5_ensureCapacityInternal_d00df_12 : decode cJ5_ensureCapacityInternal_d00df 12 = .ok (.iload_n 2, 1) := by decide +kernel
theorem dJ5_ensureCapacityInternal_d00df_13 : decode cJ5_ensureCapacityInternal_d00df 13 = .ok (.isub, 1) := by decide +kernel
theorem dJ5_ensureCapacityInternal_d00df_14 : decode cJ5_ensureCapacityInternal_d00df 14 = .ok (.ifCond .le 24, 3) := by decide +kernel
theorem dJ5_ensureCapacityInternal_d00df_17 : decode cJ5_ensureCapacityInternal_d00df 17 = .ok (.aload_n 0, 1) := by decide +kernel
theorem dJ5_ensureCapacityInternal_d00df_18 : decode cJ5_ensureCapacityInternal_d00df 18 = .ok (.aload_n 0, 1) := by decide +kernel
theorem dJ5_ensureCapacityInternal_d00df_19 : decode cJ5_ensureCapacityInternal_d00df 19 = .ok (.getfield 15, 3) := by decide +kernel
theorem dJ5_ensureCapacityInternal_d00df_22 : decode cJ5_ensureCapacityInternal_d00df 22 = .ok (.aload_n 0, 1) := by decide +kernel
theorem dJ5_ensureCapacityInternal_d00df_23 : decode cJ5_ensureCapacityInternal_d00df 23 = .ok (.iload_n 1, 1) := by decide +kernel
theorem dJ5_ensureCapacityInternal_d00df_24 : decode cJ5_ensureCapacityInternal_d00df 24 = .ok (.invokevirtual 104, 3) := by decide +kernel
theorem dJ5_ensureCapacityInternal_d00df_27 : decode cJ5_ensureCapacityInternal_d00df 27 = .ok (.aload_n 0, 1) := by decide +kernel
theorem dJ5_ensureCapacityInternal_d00df_28 : decode cJ5_ensureCapacityInternal_d00df 28 = .ok (.getfield 22, 3) := by decide +kernel
theorem dJ5_ensureCapacityInternal_d00df_31 : decode cJ5_ensureCapacityInternal_d00df 31 = .ok (.ishl, 1) := by decide +kernel
theorem dJ5_ensureCapacityInternal_d00df_32 : decode cJ5_ensureCapacityInternal_d00df 32 = .ok (.invokestatic 108, 3) := by decide +kernel
theorem dJ5_ensureCapacityInternal_d00df_35 : decode cJ5_ensureCapacityInternal_d00df 35 = .ok (.putfield 15, 3) := by decide +kernel
theorem dJ5_ensureCapacityInternal_d00df_38 : decode cJ5_ensureCapacityInternal_d00df 38 = .ok (.return_, 1) := by decide +kernel
theorem dJ5_newCapacity_0f7a4_0 : decode cJ5_newCapacity_0f7a4 0 = .ok (.aload_n 0, 1) := by decide +kernel
theorem dJ5_newCapacity_0f7a4_1 : decode cJ5_newCapacity_0f7a4 1 = .ok (.getfield 15, 3) := by decide +kernel
theorem dJ5_newCapacity_0f7a4_4 : decode cJ5_newCapacity_0f7a4 4 = .ok (.arraylength, 1) := by decide +kernel
theorem dJ5_newCapacity_0f7a4_5 : decode cJ5_newCapacity_0f7a4 5 = .ok (.istore_n 2, 1) := by decide +kernel
theorem dJ5_newCapacity_0f7a4_6 : decode cJ5_newCapacity_0f7a4 6 = .ok (.iload_n 1, 1) := by decide +kernel
theorem dJ5_newCapacity_0f7a4_7 : decode cJ5_newCapacity_0f7a4 7 = .ok (.aload_n 0, 1) := by decide +kernel
theorem dJ5_newCapacity_0f7a4_8 : decode cJ5_newCapacity_0f7a4 8 = .ok (.getfield 22, 3) := by decide +kernel
theorem dJ5_newCapacity_0f7a4_11 : decode cJ5_newCapacity_0f7a4 11 = .ok (.ishl, 1) := by decide +kernel
theorem dJ5_newCapacity_0f7a4_12 : decode cJ5_newCapacity_0f7a4 12 = .ok (.istore_n 3, 1) := by decide +kernel
theorem dJ5_newCapacity_0f7a4_13 : decode cJ5_newCapacity_0f7a4 13 = .ok (.iload_n 3, 1) := by decide +kernel
theorem dJ5_newCapacity_0f7a4_14 : decode cJ5_newCapacity_0f7a4 14 = .ok (.iload_n 2, 1) := by decide +kernel
theorem dJ5_newCapacity_0f7a4_15 : decode cJ5_newCapacity_0f7a4 15 = .ok (.isub, 1) := by decide +kernel
theorem dJ5_newCapacity_0f7a4_16 : decode cJ5_newCapacity_0f7a4 16 = .ok (.istore 4, 2) := by decide +kernel
theorem dJ5_newCapacity_0f7a4_18 : decode cJ5_newCapacity_0f7a4 18 = .ok (.iload_n 2, 1) := by decide +kernel
theorem dJ5_newCapacity_0f7a4_19 : decode cJ5_newCapacity_0f7a4 19 = .ok (.iload 4, 2) := by decide +kernel
theorem dJ5_newCapacity_0f7a4_21 : decode cJ5_newCapacity_0f7a4 21 = .ok (.iload_n 2, 1) := by decide +kernel
theorem dJ5_newCapacity_0f7a4_22 : decode cJ5_newCapacity_0f7a4 22 = .ok (.iconst 2, 1) := by decide +kernel
theorem dJ5_newCapacity_0f7a4_23 : decode cJ5_newCapacity_0f7a4 23 = .ok (.aload_n 0, 1) := by decide +kernel
theorem dJ5_newCapacity_0f7a4_24 : decode cJ5_newCapacity_0f7a4 24 = .ok (.getfield 22, 3) := by decide +kernel
theorem dJ5_newCapacity_0f7a4_27 : decode cJ5_newCapacity_0f7a4 27 = .ok (.ishl, 1) := by decide +kernel
theorem dJ5_newCapacity_0f7a4_28 : decode cJ5_newCapacity_0f7a4 28 = .ok (.iadd, 1) := by decide +kernel
theorem dJ5_newCapacity_0f7a4_29 : decode cJ5_newCapacity_0f7a4 29 = .ok (.invokestatic 114, 3) := by decide +kernel
theorem dJ5_newCapacity_0f7a4_32 : decode cJ5_newCapacity_0f7a4 32 = .ok (.istore 5, 2) := by decide +kernel
theorem dJ5_newCapacity_0f7a4_34 : decode cJ5_newCapacity_0f7a4 34 = .ok (.iload 5, 2) := by decide +kernel
theorem dJ5_newCapacity_0f7a4_36 : decode cJ5_newCapacity_0f7a4 36 = .ok (.ldc 39, 2) := by decide +kernel
theorem dJ5_newCapacity_0f7a4_38 : decode cJ5_newCapacity_0f7a4 38 = .ok (.if_icmp .ne 13, 3) := by decide +kernel
theorem dJ5_newCapacity_0f7a4_41 : decode cJ5_newCapacity_0f7a4 41 = .ok (.new 120, 3) := by decide +kernel
theorem dJ5_newCapacity_0f7a4_44 : decode cJ5_newCapacity_0f7a4 44 = .ok (.dup, 1) := by decide +kernel
theorem dJ5_newCapacity_0f7a4_45 : decode cJ5_newCapacity_0f7a4 45 = .ok (.ldc 122, 2) := by decide +kernel
theorem dJ5_newCapacity_0f7a4_47 : decode cJ5_newCapacity_0f7a4 47 = .ok (.invokespecial 124, 3) := by decide +kernel
theorem dJ5_newCapacity_0f7a4_50 : decode cJ5_newCapacity_0f7a4 50 = .ok (.athrow, 1) := by decide +kernel
theorem dJ5_newCapacity_0f7a4_51 : decode cJ5_newCapacity_0f7a4 51 = .ok (.iload 5, 2) := by decide +kernel
theorem dJ5_newCapacity_0f7a4_53 : decode cJ5_newCapacity_0f7a4 53 = .ok (.aload_n 0, 1) := by decide +kernel
theorem dJ5_newCapacity_0f7a4_54 : decode cJ5_newCapacity_0f7a4 54 = .ok (.getfield 22, 3) := by decide +kernel
theorem dJ5_newCapacity_0f7a4_57 : decode cJ5_newCapacity_0f7a4 57 = .ok (.ishr, 1) := by decide +kernel
theorem dJ5_newCapacity_0f7a4_58 : decode cJ5_newCapacity_0f7a4 58 = .ok (.ireturn, 1) := by decide +kernel
theorem dJ5_inflate_da8c8_0 : decode cJ5_inflate_da8c8 0 = .ok (.aload_n 0, 1) := by decide +kernel
theorem dJ5_inflate_da8c8_1 : decode cJ5_inflate_da8c8 1 = .ok (.invokevirtual 83, 3) := by decide +kernel
theorem dJ5_inflate_da8c8_4 : decode cJ5_inflate_da8c8 4 = .ok (.ifCond .ne 4, 3) := by decide +kernel
theorem dJ5_inflate_da8c8_7 : decode cJ5_inflate_da8c8 7 = .ok (.return_, 1) := by decide +kernel
theorem dJ5_inflate_da8c8_8 : decode cJ5_inflate_da8c8 8 = .ok (.aload_n 0, 1) := by decide +kernel
theorem dJ5_inflate_da8c8_9 : decode cJ5_inflate_da8c8 9 = .ok (.getfield 15, 3) := by decide +kernel
theorem dJ5_inflate_da8c8_12 : decode cJ5_inflate_da8c8 12 = .ok (.arraylength, 1) := by decide +kernel
theorem dJ5_inflate_da8c8_13 : decode cJ5_inflate_da8c8 13 = .ok (.invokestatic 26, 3) := by decide +kernel
theorem dJ5_inflate_da8c8_16 : decode cJ5_inflate_da8c8 16 = .ok (.astore_n 1, 1) := by decide +kernel
theorem dJ5_inflate_da8c8_17 : decode cJ5_inflate_da8c8 17 = .ok (.aload_n 0, 1) := by decide +kernel
theorem dJ5_inflate_da8c8_18 : decode cJ5_inflate_da8c8 18 = .ok (.getfield 15, 3) := by decide +kernel
theorem dJ5_inflate_da8c8_21 : decode cJ5_inflate_da8c8 21 = .ok (.iconst 0, 1) := by decide +kernel
theorem dJ5_inflate_da8c8_22 : decode cJ5_inflate_da8c8 22 = .ok (.aload_n 1, 1) := by decide +kernel
theorem dJ5_inflate_da8c8_23 : decode cJ5_inflate_da8c8 23 = .ok (.iconst 0, 1) := by decide +kernel
theorem dJ5_inflate_da8c8_24 : decode cJ5_inflate_da8c8 24 = .ok (.aload_n 0, 1) := by decide +kernel
theorem dJ5_inflate_da8c8_25 : decode cJ5_inflate_da8c8 25 = .ok (.getfield 79, 3) := by decide +kernel
theorem dJ5_inflate_da8c8_28 : decode cJ5_inflate_da8c8 28 = .ok (.invokestatic 125, 3) := by decide +kernel
theorem dJ5_inflate_da8c8_31 : decode cJ5_inflate_da8c8 31 = .ok (.aload_n 0, 1) := by decide +kernel
theorem dJ5_inflate_da8c8_32 : decode cJ5_inflate_da8c8 32 = .ok (.aload_n 1, 1) := by decide +kernel
theorem dJ5_inflate_da8c8_33 : decode cJ5_inflate_da8c8 33 = .ok (.putfield 15, 3) := by decide +kernel
theorem dJ5_inflate_da8c8_36 : decode cJ5_inflate_da8c8 36 = .ok (.aload_n 0, 1) := by decide +kernel
theorem dJ5_inflate_da8c8_37 : decode cJ5_inflate_da8c8 37 = .ok (.iconst 1, 1) := by decide +kernel
theorem dJ5_inflate_da8c8_38 : decode cJ5_inflate_da8c8 38 = .ok (.putfield 22, 3) := by decide +kernel
theorem dJ5_inflate_da8c8_41 : decode cJ5_inflate_da8c8 41 = .ok (.return_, 1) := by decide +kernel
theorem dJ5_setLength_d00df_0 : decode cJ5_setLength_d00df 0 = .ok (.iload_n 1, 1) := by decide +kernel
theorem dJ5_setLength_d00df_1 : decode cJ5_setLength_d00df 1 = .ok (.ifCond .ge 12, 3) := by decide +kernel
theorem dJ5_setLength_d00df_4 : decode cJ5_setLength_d00df 4 = .ok (.new 129, 3) := by decide +kernel
theorem dJ5_setLength_d00df_7 : decode cJ5_setLength_d00df 7 = .ok (.dup, 1) := by decide +kernel
theorem dJ5_setLength_d00df_8 : decode cJ5_setLength_d00df 8 = .ok (.iload_n 1, 1) := by decide +kernel
theorem dJ5_setLength_d00df_9 : decode cJ5_setLength_d00df 9 = .ok (.invokespecial 131, 3) := by decide +kernel
theorem dJ5_setLength_d00df_12 : decode cJ5_setLength_d00df 12 = .ok (.athrow, 1) := by decide +kernel
theorem dJ5_setLength_d00df_13 : decode cJ5_setLength_d00df 13 = .ok (.aload_n 0, 1) := by decide +kernel
theorem dJ5_setLength_d00df_14 : decode cJ5_setLength_d00df 14 = .ok (.iload_n 1, 1) := by decide +kernel
theorem dJ5_setLength_d00df_15 : decode cJ5_setLength_d00df 15 = .ok (.invokevirtual 100, 3) := by decide +kernel
theorem dJ5_setLength_d00df_18 : decode cJ5_setLength_d00df 18 = .ok (.aload_n 0, 1) := by decide +kernel
theorem dJ5_setLength_d00df_19 : decode cJ5_setLength_d00df 19 = .ok (.getfield 79, 3) := by decide +kernel
theorem dJ5_setLength_d00df_22 : decode cJ5_setLength_d00df 22 = .ok (.iload_n 1, 1) := by decide +kernel
theorem dJ5_setLength_d00df_23 : decode cJ5_setLength_d00df 23 = .ok (.if_icmp .ge 40, 3) := by decide +kernel
theorem dJ5_setLength_d00df_26 : decode cJ5_setLength_d00df 26 = .ok (.aload_n 0, 1) := by decide +kernel
theorem dJ5_setLength_d00df_27 : decode cJ5_setLength_d00df 27 = .ok (.invokevirtual 83, 3) := by decide +kernel
theorem dJ5_setLength_d00df_30 : decode cJ5_setLength_d00df 30 = .ok (.ifCond .eq 18, 3) := by decide +kernel
theorem dJ5_setLength_d00df_33 : decode cJ5_setLength_d00df 33 = .ok (.aload_n 0, 1) := by decide +kernel
theorem dJ5_setLength_d00df_34 : decode cJ5_setLength_d00df 34 = .ok (.getfield 15, 3) := by decide +kernel
theorem dJ5_setLength_d00df_37 : decode cJ5_setLength_d00df 37 = .ok (.aload_n 0, 1) := by decide +kernel
theorem dJ5_setLength_d00df_38 : decode cJ5_setLength_d00df 38 = .ok (.getfield 79, 3) := by decide +kernel
theorem dJ5_setLength_d00df_41 : decode cJ5_setLength_d00df 41 = .ok (.iload_n 1, 1) := by decide +kernel
theorem dJ5_setLength_d00df_42 : decode cJ5_setLength_d00df 42 = .ok (.invokestatic 133, 3) := by decide +kernel
theorem dJ5_setLength_d00df_45 : decode cJ5_setLength_d00df 45 = .ok (.goto 31, 3) := by decide +kernel
theorem dJ5_setLength_d00df_48 : decode cJ5_setLength_d00df 48 = .ok (.aload_n 0, 1) := by decide +kernel
theorem dJ5_setLength_d00df_49 : decode cJ5_setLength_d00df 49 = .ok (.getfield 15, 3) := by decide +kernel
theorem dJ5_setLength_d00df_52 : decode cJ5_setLength_d00df 52 = .ok (.aload_n 0, 1) := by decide +kernel
theorem dJ5_setLength_d00df_53 : decode cJ5_setLength_d00df 53 = .ok (.getfield 79, 3) := by decide +kernel
theorem dJ5_setLength_d00df_56 : decode cJ5_setLength_d00df 56 = .ok (.iload_n 1, 1) := by decide +kernel
theorem dJ5_setLength_d00df_57 : decode cJ5_setLength_d00df 57 = .ok (.invokestatic 137, 3) := by decide +kernel
theorem dJ5_setLength_d00df_60 : decode cJ5_setLength_d00df 60 = .ok (.goto 16, 3) := by decide +kernel
theorem dJ5_setLength_d00df_63 : decode cJ5_setLength_d00df 63 = .ok (.aload_n 0, 1) := by decide +kernel
theorem dJ5_setLength_d00df_64 : decode cJ5_setLength_d00df 64 = .ok (.getfield 79, 3) := by decide +kernel
theorem dJ5_setLength_d00df_67 : decode cJ5_setLength_d00df 67 = .ok (.iload_n 1, 1) := by decide +kernel
theorem dJ5_setLength_d00df_68 : decode cJ5_setLength_d00df 68 = .ok (.if_icmp .le 8, 3) := by decide +kernel
theorem dJ5_setLength_d00df_71 : decode cJ5_setLength_d00df 71 = .ok (.aload_n 0, 1) := by decide +kernel
theorem dJ5_setLength_d00df_72 : decode cJ5_setLength_d00df 72 = .ok (.iconst 1, 1) := by decide +kernel
theorem dJ5_setLength_d00df_73 : decode cJ5_setLength_d00df 73 = .ok (.putfield 73, 3) := by decide +kernel
theorem dJ5_setLength_d00df_76 : decode cJ5_setLength_d00df 76 = .ok (.aload_n 0, 1) := by decide +kernel
theorem dJ5_setLength_d00df_77 : decode cJ5_setLength_d00df 77 = .ok (.iload_n 1, 1) := by decide +kernel
theorem dJ5_setLength_d00df_78 : decode cJ5_setLength_d00df 78 = .ok (.putfield 79, 3) := by decide +kernel
theorem dJ5_setLength_d00df_81 : decode cJ5_setLength_d00df 81 = .ok (.return_, 1) := by decide +kernel
theorem dJ5_charAt_5068e_0 : decode cJ5_charAt_5068e 0 = .ok (.aload_n 0, 1) := by decide +kernel
theorem dJ5_charAt_5068e_1 : decode cJ5_charAt_5068e 1 = .ok (.getfield 22, 3) := by decide +kernel
theorem dJ5_charAt_5068e_4 : decode cJ5_charAt_5068e 4 = .ok (.istore_n 2, 1) := by decide +kernel
theorem dJ5_charAt_5068e_5 : decode cJ5_charAt_5068e 5 = .ok (.aload_n 0, 1) := by decide +kernel
theorem dJ5_charAt_5068e_6 : decode cJ5_charAt_5068e 6 = .ok (.getfield 15, 3) := by decide +kernel
theorem dJ5_charAt_5068e_9 : decode cJ5_charAt_5068e 9 = .ok (.astore_n 3, 1) := by decide +kernel
theorem dJ5_charAt_5068e_10 : decode cJ5_charAt_5068e 10 = .ok (.aload_n 0, 1) := by decide +kernel
theorem dJ5_charAt_5068e_11 : decode cJ5_charAt_5068e 11 = .ok (.getfield 79, 3) := by decide +kernel
theorem dJ5_charAt_5068e_14 : decode cJ5_charAt_5068e 14 = .ok (.aload_n 3, 1) := by decide +kernel
theorem dJ5_charAt_5068e_15 : decode cJ5_charAt_5068e 15 = .ok (.arraylength, 1) := by decide +kernel
theorem dJ5_charAt_5068e_16 : decode cJ5_charAt_5068e 16 = .ok (.iload_n 2, 1) := by decide +kernel
theorem dJ5_charAt_5068e_17 : decode cJ5_charAt_5068e 17 = .ok (.ishr, 1) := by decide +kernel
theorem dJ5_charAt_5068e_18 : decode cJ5_charAt_5068e 18 = .ok (.invokestatic 138, 3) := by decide +kernel
theorem dJ5_charAt_5068e_21 : decode cJ5_charAt_5068e 21 = .ok (.istore 4, 2) := by decide +kernel
theorem dJ5_charAt_5068e_23 : decode cJ5_charAt_5068e 23 = .ok (.iload_n 1, 1) := by decide +kernel
theorem dJ5_charAt_5068e_24 : decode cJ5_charAt_5068e 24 = .ok (.iload 4, 2) := by decide +kernel
theorem dJ5_charAt_5068e_26 : decode cJ5_charAt_5068e 26 = .ok (.invokestatic 144, 3) := by decide +kernel
theorem dJ5_charAt_5068e_29 : decode cJ5_charAt_5068e 29 = .ok (.iload_n 2, 1) := by decide +kernel
theorem dJ5_charAt_5068e_30 : decode cJ5_charAt_5068e 30 = .ok (.ifCond .ne 12, 3) := by decide +kernel
theorem dJ5_charAt_5068e_33 : decode cJ5_charAt_5068e 33 = .ok (.aload_n 3, 1) := by decide +kernel
theorem dJ5_charAt_5068e_34 : decode cJ5_charAt_5068e 34 = .ok (.iload_n 1, 1) := by decide +kernel
theorem dJ5_charAt_5068e_35 : decode cJ5_charAt_5068e 35 = .ok (.baload, 1) := by decide +kernel
theorem dJ5_charAt_5068e_36 : decode cJ5_charAt_5068e 36 = .ok (.sipush 255, 3) := by decide +kernel
theorem dJ5_charAt_5068e_39 : decode cJ5_charAt_5068e 39 = .ok (.iand, 1) := by decide +kernel
theorem dJ5_charAt_5068e_40 : decode cJ5_charAt_5068e 40 = .ok (.i2c, 1) := by decide +kernel
theorem dJ5_charAt_5068e_41 : decode cJ5_charAt_5068e 41 = .ok (.ireturn, 1) := by decide +kernel
theorem dJ5_charAt_5068e_42 : decode cJ5_charAt_5068e 42 = .ok (.aload_n 3, 1) := by decide +kernel
theorem dJ5_charAt_5068e_43 : decode cJ5_charAt_5068e 43 = .ok (.iload_n 1, 1) := by decide +kernel
theorem dJ5_charAt_5068e_44 : decode cJ5_charAt_5068e 44 = .ok (.invokestatic 148, 3) := by decide +kernel
theorem dJ5_charAt_5068e_47 : decode cJ5_charAt_5068e 47 = .ok (.ireturn, 1) := by decide +kernel
theorem dJ5_append_3fe6f_0 : decode cJ5_append_3fe6f 0 = .ok (.aload_n 0, 1) := by decide +kernel
theorem dJ5_append_3fe6f_1 : decode cJ5_append_3fe6f 1 = .ok (.aload_n 0, 1) := by decide +kernel
theorem dJ5_append_3fe6f_2 : decode cJ5_append_3fe6f 2 = .ok (.getfield 79, 3) := by decide +kernel
theorem dJ5_append_3fe6f_5 : decode cJ5_append_3fe6f 5 = .ok (.iconst 1, 1) := by decide +kernel
theorem dJ5_append_3fe6f_6 : decode cJ5_append_3fe6f 6 = .ok (.iadd, 1) := by decide +kernel
theorem dJ5_append_3fe6f_7 : decode cJ5_append_3fe6f 7 = .ok (.invokevirtual 100, 3) := by decide +kernel
theorem dJ5_append_3fe6f_10 : decode cJ5_append_3fe6f 10 = .ok (.aload_n 0, 1) := by decide +kernel
theorem dJ5_append_3fe6f_11 : decode cJ5_append_3fe6f 11 = .ok (.invokevirtual 83, 3) := by decide +kernel
theorem dJ5_append_3fe6f_14 : decode cJ5_append_3fe6f 14 = .ok (.ifCond .eq 31, 3) := by decide +kernel
theorem dJ5_append_3fe6f_17 : decode cJ5_append_3fe6f 17 = .ok (.iload_n 1, 1) := by decide +kernel
theorem dJ5_append_3fe6f_18 : decode cJ5_append_3fe6f 18 = .ok (.invokestatic 191, 3) := by decide +kernel
theorem dJ5_append_3fe6f_21 : decode cJ5_append_3fe6f 21 = .ok (.ifCond .eq 24, 3) := by decide +kernel
theorem dJ5_append_3fe6f_24 : decode cJ5_append_3fe6f 24 = .ok (.aload_n 0, 1) := by decide +kernel
theorem dJ5_append_3fe6f_25 : decode cJ5_append_3fe6f 25 = .ok (.getfield 15, 3) := by decide +kernel
theorem dJ5_append_3fe6f_28 : decode cJ5_append_3fe6f 28 = .ok (.aload_n 0, 1) := by decide +kernel
theorem dJ5_append_3fe6f_29 : decode cJ5_append_3fe6f 29 = .ok (.dup, 1) := by decide +kernel
theorem dJ5_append_3fe6f_30 : decode cJ5_append_3fe6f 30 = .ok (.getfield 79, 3) := by decide +kernel
theorem dJ5_append_3fe6f_33 : decode cJ5_append_3fe6f 33 = .ok (.dup_x1, 1) := by decide +kernel
theorem dJ5_append_3fe6f_34 : decode cJ5_append_3fe6f 34 = .ok (.iconst 1, 1) := by decide +kernel
theorem dJ5_append_3fe6f_35 : decode cJ5_append_3fe6f 35 = .ok (.iadd, 1) := by decide +kernel
theorem dJ5_append_3fe6f_36 : decode cJ5_append_3fe6f 36 = .ok (.putfield 79, 3) := by decide +kernel
theorem dJ5_append_3fe6f_39 : decode cJ5_append_3fe6f 39 = .ok (.iload_n 1, 1) := by decide +kernel
theorem dJ5_append_3fe6f_40 : decode cJ5_append_3fe6f 40 = .ok (.i2b, 1) := by decide +kernel
theorem dJ5_append_3fe6f_41 : decode cJ5_append_3fe6f 41 = .ok (.bastore, 1) := by decide +kernel
theorem dJ5_append_3fe6f_42 : decode cJ5_append_3fe6f 42 = .ok (.goto 33, 3) := by decide +kernel
theorem dJ5_append_3fe6f_45 : decode cJ5_append_3fe6f 45 = .ok (.aload_n 0, 1) := by decide +kernel
theorem dJ5_append_3fe6f_46 : decode cJ5_append_3fe6f 46 = .ok (.invokevirtual 83, 3) := by decide +kernel
theorem dJ5_append_3fe6f_49 : decode cJ5_append_3fe6f 49 = .ok (.ifCond .eq 7, 3) := by decide +kernel
theorem dJ5_append_3fe6f_52 : decode cJ5_append_3fe6f 52 = .ok (.aload_n 0, 1) := by decide +kernel
theorem dJ5_append_3fe6f_53 : decode cJ5_append_3fe6f 53 = .ok (.invokevirtual 195, 3) := by decide +kernel
theorem dJ5_append_3fe6f_56 : decode cJ5_append_3fe6f 56 = .ok (.aload_n 0, 1) := by decide +kernel
theorem dJ5_append_3fe6f_57 : decode cJ5_append_3fe6f 57 = .ok (.getfield 15, 3) := by decide +kernel
theorem dJ5_append_3fe6f_60 : decode cJ5_append_3fe6f 60 = .ok (.aload_n 0, 1) := by decide +kernel
theorem dJ5_append_3fe6f_61 : decode cJ5_append_3fe6f 61 = .ok (.dup, 1) := by decide +kernel
theorem dJ5_append_3fe6f_62 : decode cJ5_append_3fe6f 62 = .ok (.getfield 79, 3) := by decide +kernel
theorem dJ5_append_3fe6f_65 : decode cJ5_append_3fe6f 65 = .ok (.dup_x1, 1) := by decide +kernel
theorem dJ5_append_3fe6f_66 : decode cJ5_append_3fe6f 66 = .ok (.iconst 1, 1) := by decide +kernel
theorem dJ5_append_3fe6f_67 : decode cJ5_append_3fe6f 67 = .ok (.iadd, 1) := by decide +kernel
theorem dJ5_append_3fe6f_68 : decode cJ5_append_3fe6f 68 = .ok (.putfield 79, 3) := by decide +kernel
theorem dJ5_append_3fe6f_71 : decode cJ5_append_3fe6f 71 = .ok (.iload_n 1, 1) := by decide +kernel
theorem dJ5_append_3fe6f_72 : decode cJ5_append_3fe6f 72 = .ok (.invokestatic 197, 3) := by decide +kernel
theorem dJ5_append_3fe6f_75 : decode cJ5_append_3fe6f 75 = .ok (.aload_n 0, 1) := by decide +kernel
theorem dJ5_append_3fe6f_76 : decode cJ5_append_3fe6f 76 = .ok (.areturn, 1) := by decide +kernel
theorem dJ5_append_c97b9_0 : decode cJ5_append_c97b9 0 = .ok (.aload_n 0, 1) := by decide +kernel
theorem dJ5_append_c97b9_1 : decode cJ5_append_c97b9 1 = .ok (.getfield 79, 3) := by decide +kernel
theorem dJ5_append_c97b9_4 : decode cJ5_append_c97b9 4 = .ok (.istore_n 2, 1) := by decide +kernel
theorem dJ5_append_c97b9_5 : decode cJ5_append_c97b9 5 = .ok (.iload_n 2, 1) := by decide +kernel
theorem dJ5_append_c97b9_6 : decode cJ5_append_c97b9 6 = .ok (.iload_n 1, 1) := by decide +kernel
theorem dJ5_append_c97b9_7 : decode cJ5_append_c97b9 7 = .ok (.invokestatic 245, 3) := by decide +kernel
theorem dJ5_append_c97b9_10 : decode cJ5_append_c97b9 10 = .ok (.iadd, 1) := by decide +kernel
theorem dJ5_append_c97b9_11 : decode cJ5_append_c97b9 11 = .ok (.istore_n 3, 1) := by decide +kernel
theorem dJ5_append_c97b9_12 : decode cJ5_append_c97b9 12 = .ok (.aload_n 0, 1) := by decide +kernel
theorem dJ5_append_c97b9_13 : decode cJ5_append_c97b9 13 = .ok (.iload_n 3, 1) := by decide +kernel
theorem dJ5_append_c97b9_14 : decode cJ5_append_c97b9 14 = .ok (.invokevirtual 100, 3) := by decide +kernel
theorem dJ5_append_c97b9_17 : decode cJ5_append_c97b9 17 = .ok (.aload_n 0, 1) := by decide +kernel
theorem dJ5_append_c97b9_18 : decode cJ5_append_c97b9 18 = .ok (.invokevirtual 83, 3) := by decide +kernel
theorem dJ5_append_c97b9_21 : decode cJ5_append_c97b9 21 = .ok (.ifCond .eq 16, 3) := by decide +kernel
theorem dJ5_append_c97b9_24 : decode cJ5_append_c97b9 24 = .ok (.iload_n 1, 1) := by decide +kernel
theorem dJ5_append_c97b9_25 : decode cJ5_append_c97b9 25 = .ok (.iload_n 3, 1) := by decide +kernel
theorem dJ5_append_c97b9_26 : decode cJ5_append_c97b9 26 = .ok (.aload_n 0, 1) := by decide +kernel
theorem dJ5_append_c97b9_27 : decode cJ5_append_c97b9 27 = .ok (.getfield 15, 3) := by decide +kernel
theorem dJ5_append_c97b9_30 : decode cJ5_append_c97b9 30 = .ok (.invokestatic 248, 3) := by decide +kernel
theorem dJ5_append_c97b9_33 : decode cJ5_append_c97b9 33 = .ok (.pop, 1) := by decide +kernel
theorem dJ5_append_c97b9_34 : decode cJ5_append_c97b9 34 = .ok (.goto 14, 3) := by decide +kernel
theorem dJ5_append_c97b9_37 : decode cJ5_append_c97b9 37 = .ok (.iload_n 1, 1) := by decide +kernel
theorem dJ5_append_c97b9_38 : decode cJ5_append_c97b9 38 = .ok (.iload_n 2, 1) := by decide +kernel
theorem dJ5_append_c97b9_39 : decode cJ5_append_c97b9 39 = .ok (.iload_n 3, 1) := by decide +kernel
theorem dJ5_append_c97b9_40 : decode cJ5_append_c97b9 40 = .ok (.aload_n 0, 1) := by decide +kernel
theorem dJ5_append_c97b9_41 : decode cJ5_append_c97b9 41 = .ok (.getfield 15, 3) := by decide +kernel
theorem dJ5_append_c97b9_44 : decode cJ5_append_c97b9 44 = .ok (.invokestatic 251, 3) := by decide +kernel
theorem dJ5_append_c97b9_47 : decode cJ5_append_c97b9 47 = .ok (.pop, 1) := by decide +kernel
theorem dJ5_append_c97b9_48 : decode cJ5_append_c97b9 48 = .ok (.aload_n 0, 1) := by decide +kernel
theorem dJ5_append_c97b9_49 : decode cJ5_append_c97b9 49 = .ok (.iload_n 3, 1) := by decide +kernel
theorem dJ5_append_c97b9_50 : decode cJ5_append_c97b9 50 = .ok (.putfield 79, 3) := by decide +kernel
theorem dJ5_append_c97b9_53 : decode cJ5_append_c97b9 53 = .ok (.aload_n 0, 1) := by decide +kernel
theorem dJ5_append_c97b9_54 : decode cJ5_append_c97b9 54 = .ok (.areturn, 1) := by decide +kernel
theorem dJ5_isLatin1_aae02_0 : decode cJ5_isLatin1_aae02 0 = .ok (.getstatic 18, 3) := by decide +kernel
theorem dJ5_isLatin1_aae02_3 : decode cJ5_isLatin1_aae02 3 = .ok (.ifCond .eq 14, 3) := by decide +kernel
theorem dJ5_isLatin1_aae02_6 : decode cJ5_isLatin1_aae02 6 = .ok (.aload_n 0, 1) := by decide +kernel
theorem dJ5_isLatin1_aae02_7 : decode cJ5_isLatin1_aae02 7 = .ok (.getfield 22, 3) := by decide +kernel
theorem dJ5_isLatin1_aae02_10 : decode cJ5_isLatin1_aae02 10 = .ok (.ifCond .ne 7, 3) := by decide +kernel
theorem dJ5_isLatin1_aae02_13 : decode cJ5_isLatin1_aae02 13 = .ok (.iconst 1, 1) := by decide +kernel
theorem dJ5_isLatin1_aae02_14 : decode cJ5_isLatin1_aae02 14 = .ok (.goto 4, 3) := by decide +kernel
theorem dJ5_isLatin1_aae02_17 : decode cJ5_isLatin1_aae02 17 = .ok (.iconst 0, 1) := by decide +kernel
theorem dJ5_isLatin1_aae02_18 : decode cJ5_isLatin1_aae02 18 = .ok (.ireturn, 1) := by decide +kernel
theorem dJx29ce0_ordinal_8abf5_0 : decode cJx29ce0_ordinal_8abf5 0 = .ok (.aload_n 0, 1) := by decide +kernel
theorem dJx29ce0_ordinal_8abf5_1 : decode cJx29ce0_ordinal_8abf5 1 = .ok (.getfield 7, 3) := by decide +kernel
theorem dJx29ce0_ordinal_8abf5_4 : decode cJx29ce0_ordinal_8abf5 4 = .ok (.ireturn, 1) := by decide +kernel
theorem dJ6_getChars_ba4f3_0 : decode cJ6_getChars_ba4f3 0 = .ok (.iload_n 1, 1) := by decide +kernel
theorem dJ6_getChars_ba4f3_1 : decode cJ6_getChars_ba4f3 1 = .ok (.istore 5, 2) := by decide +kernel
theorem dJ6_getChars_ba4f3_3 : decode cJ6_getChars_ba4f3 3 = .ok (.iload_n 0, 1) := by decide +kernel
theorem dJ6_getChars_ba4f3_4 : decode cJ6_getChars_ba4f3 4 = .ok (.ifCond .ge 7, 3) := by decide +kernel
theorem dJ6_getChars_ba4f3_7 : decode cJ6_getChars_ba4f3 7 = .ok (.iconst 1, 1) := by decide +kernel
theorem dJ6_getChars_ba4f3_8 : decode cJ6_getChars_ba4f3 8 = .ok (.goto 4, 3) := by decide +kernel
theorem dJ6_getChars_ba4f3_11 : decode cJ6_getChars_ba4f3 11 = .ok (.iconst 0, 1) := by decide +kernel
theorem dJ6_getChars_ba4f3_12 : decode cJ6_getChars_ba4f3 12 = .ok (.istore 6, 2) := by decide +kernel
theorem dJ6_getChars_ba4f3_14 : decode cJ6_getChars_ba4f3 14 = .ok (.iload 6, 2) := by decide +kernel
theorem dJ6_getChars_ba4f3_16 : decode cJ6_getChars_ba4f3 16 = .ok (.ifCond .ne 6, 3) := by decide +kernel
theorem dJ6_getChars_ba4f3_19 : decode cJ6_getChars_ba4f3 19 = .ok (.iload_n 0, 1) := by decide +kernel
theorem dJ6_getChars_ba4f3_20 : decode cJ6_getChars_ba4f3 20 = .ok (.ineg, 1) := by decide +kernel
theorem dJ6_getChars_ba4f3_21 : decode cJ6_getChars_ba4f3 21 = .ok (.istore_n 0, 1) := by decide +kernel
theorem dJ6_getChars_ba4f3_22 : decode cJ6_getChars_ba4f3 22 = .ok (.iload_n 0, 1) := by decide +kernel
theorem dJ6_getChars_ba4f3_23 : decode cJ6_getChars_ba4f3 23 = .ok (.bipush (-100), 2) := by decide +kernel
theorem dJ6_getChars_ba4f3_25 : decode cJ6_getChars_ba4f3 25 = .ok (.if_icmp .gt 47, 3) := by decide +kernel
theorem dJ6_getChars_ba4f3_28 : decode cJ6_getChars_ba4f3 28 = .ok (.iload_n 0, 1) := by decide +kernel
theorem dJ6_getChars_ba4f3_29 : decode cJ6_getChars_ba4f3 29 = .ok (.bipush 100, 2) := by decide +kernel
theorem dJ6_getChars_ba4f3_31 : decode cJ6_getChars_ba4f3 31 = .ok (.idiv, 1) := by decide +kernel
theorem dJ6_getChars_ba4f3_32 : decode cJ6_getChars_ba4f3 32 = .ok (.istore_n 3, 1) := by decide +kernel
theorem dJ6_getChars_ba4f3_33 : decode cJ6_getChars_ba4f3 33 = .ok (.iload_n 3, 1) := by decide +kernel
theorem dJ6_getChars_ba4f3_34 : decode cJ6_getChars_ba4f3 34 = .ok (.bipush 100, 2) := by decide +kernel
theorem dJ6_getChars_ba4f3_36 : decode cJ6_getChars_ba4f3 36 = .ok (.imul, 1) := by decide +kernel
theorem dJ6_getChars_ba4f3_37 : decode cJ6_getChars_ba4f3 37 = .ok (.iload_n 0, 1) := by decide +kernel
theorem dJ6_getChars_ba4f3_38 : decode cJ6_getChars_ba4f3 38 = .ok (.isub, 1) := by decide +kernel
theorem dJ6_getChars_ba4f3_39 : decode cJ6_getChars_ba4f3 39 = .ok (.istore 4, 2) := by decide +kernel
theorem dJ6_getChars_ba4f3_41 : decode cJ6_getChars_ba4f3 41 = .ok (.iload_n 3, 1) := by decide +kernel
theorem dJ6_getChars_ba4f3_42 : decode cJ6_getChars_ba4f3 42 = .ok (.istore_n 0, 1) := by decide +kernel
theorem dJ6_getChars_ba4f3_43 : decode cJ6_getChars_ba4f3 43 = .ok (.aload_n 2, 1) := by decide +kernel
theorem dJ6_getChars_ba4f3_44 : decode cJ6_getChars_ba4f3 44 = .ok (.iinc 5 (-1), 3) := by decide +kernel
theorem dJ6_getChars_ba4f3_47 : decode cJ6_getChars_ba4f3 47 = .ok (.iload 5, 2) := by decide +kernel
theorem dJ6_getChars_ba4f3_49 : decode cJ6_getChars_ba4f3 49 = .ok (.getstatic 83, 3) := by decide +kernel
theorem dJ6_getChars_ba4f3_52 : decode cJ6_getChars_ba4f3 52 = .ok (.iload 4, 2) := by decide +kernel
theorem dJ6_getChars_ba4f3_54 : decode cJ6_getChars_ba4f3 54 = .ok (.baload, 1) := by decide +kernel
theorem dJ6_getChars_ba4f3_55 : decode cJ6_getChars_ba4f3 55 = .ok (.bastore, 1) := by decide +kernel
theorem dJ6_getChars_ba4f3_56 : decode cJ6_getChars_ba4f3 56 = .ok (.aload_n 2, 1) := by decide +kernel
theorem dJ6_getChars_ba4f3_57 : decode cJ6_getChars_ba4f3 57 = .ok (.iinc 5 (-1), 3) := by decide +kernel
theorem dJ6_getChars_ba4f3_60 : decode cJ6_getChars_ba4f3 60 = .ok (.iload 5, 2) := by decide +kernel
theorem dJ6_getChars_ba4f3_62 : decode cJ6_getChars_ba4f3 62 = .ok (.getstatic 87, 3) := by decide +kernel
theorem dJ6_getChars_ba4f3_65 : decode cJ6_getChars_ba4f3 65 = .ok (.iload 4, 2) := by decide +kernel
theorem dJ6_getChars_ba4f3_67 : decode cJ6_getChars_ba4f3 67 = .ok (.baload, 1) := by decide +kernel
theorem dJ6_getChars_ba4f3_68 : decode cJ6_getChars_ba4f3 68 = .ok (.bastore, 1) := by decide +kernel
theorem dJ6_getChars_ba4f3_69 : decode cJ6_getChars_ba4f3 69 = .ok (.goto (-47), 3) := by decide +kernel
theorem dJ6_getChars_ba4f3_72 : decode cJ6_getChars_ba4f3 72 = .ok (.aload_n 2, 1) := by decide +kernel
theorem dJ6_getChars_ba4f3_73 : decode cJ6_getChars_ba4f3 73 = .ok (.iinc 5 (-1), 3) := by decide +kernel
theorem dJ6_getChars_ba4f3_76 : decode cJ6_getChars_ba4f3 76 = .ok (.iload 5, 2) := by decide +kernel
theorem dJ6_getChars_ba4f3_78 : decode cJ6_getChars_ba4f3 78 = .ok (.getstatic 83, 3) := by decide +kernel
theorem dJ6_getChars_ba4f3_81 : decode cJ6_getChars_ba4f3 81 = .ok (.iload_n 0, 1) := by decide +kernel
theorem dJ6_getChars_ba4f3_82 : decode cJ6_getChars_ba4f3 82 = .ok (.ineg, 1) := by decide +kernel
theorem dJ6_getChars_ba4f3_83 : decode cJ6_getChars_ba4f3 83 = .ok (.baload, 1) := by decide +kernel
theorem dJ6_getChars_ba4f3_84 : decode cJ6_getChars_ba4f3 84 = .ok (.bastore, 1) := by decide +kernel
theorem dJ6_getChars_ba4f3_85 : decode cJ6_getChars_ba4f3 85 = .ok (.iload_n 0, 1) := by decide +kernel
theorem dJ6_getChars_ba4f3_86 : decode cJ6_getChars_ba4f3 86 = .ok (.bipush (-9), 2) := by decide +kernel
theorem dJ6_getChars_ba4f3_88 : decode cJ6_getChars_ba4f3 88 = .ok (.if_icmp .ge 16, 3) := by decide +kernel
theorem dJ6_getChars_ba4f3_91 : decode cJ6_getChars_ba4f3 91 = .ok (.aload_n 2, 1) := by decide +kernel
theorem dJ6_getChars_ba4f3_92 : decode cJ6_getChars_ba4f3 92 = .ok (.iinc 5 (-1), 3) := by decide +kernel
theorem dJ6_getChars_ba4f3_95 : decode cJ6_getChars_ba4f3 95 = .ok (.iload 5, 2) := by decide +kernel
theorem dJ6_getChars_ba4f3_97 : decode cJ6_getChars_ba4f3 97 = .ok (.getstatic 87, 3) := by decide +kernel
theorem dJ6_getChars_ba4f3_100 : decode cJ6_getChars_ba4f3 100 = .ok (.iload_n 0, 1) := by decide +kernel
theorem dJ6_getChars_ba4f3_101 : decode cJ6_getChars_ba4f3 101 = .ok (.ineg, 1) := by decide +kernel
theorem dJ6_getChars_ba4f3_102 : decode cJ6_getChars_ba4f3 102 = .ok (.baload, 1) := by decide +kernel
theorem dJ6_getChars_ba4f3_103 : decode cJ6_getChars_ba4f3 103 = .ok (.bastore, 1) := by decide +kernel
theorem dJ6_getChars_ba4f3_104 : decode cJ6_getChars_ba4f3 104 = .ok (.iload 6, 2) := by decide +kernel
theorem dJ6_getChars_ba4f3_106 : decode cJ6_getChars_ba4f3 106 = .ok (.ifCond .eq 12, 3) := by decide +kernel
theorem dJ6_getChars_ba4f3_109 : decode cJ6_getChars_ba4f3 109 = .ok (.aload_n 2, 1) := by decide +kernel
theorem dJ6_getChars_ba4f3_110 : decode cJ6_getChars_ba4f3 110 = .ok (.iinc 5 (-1), 3) := by decide +kernel
theorem dJ6_getChars_ba4f3_113 : decode cJ6_getChars_ba4f3 113 = .ok (.iload 5, 2) := by decide +kernel
theorem dJ6_getChars_ba4f3_115 : decode cJ6_getChars_ba4f3 115 = .ok (.bipush 45, 2) := by decide +kernel
theorem dJ6_getChars_ba4f3_117 : decode cJ6_getChars_ba4f3 117 = .ok (.bastore, 1) := by decide +kernel
theorem dJ6_getChars_ba4f3_118 : decode cJ6_getChars_ba4f3 118 = .ok (.iload 5, 2) := by decide +kernel
theorem dJ6_getChars_ba4f3_120 : decode cJ6_getChars_ba4f3 120 = .ok (.ireturn, 1) := by decide +kernel
theorem dJ6_stringSize_0f7a4_0 : decode cJ6_stringSize_0f7a4 0 = .ok (.iconst 1, 1) := by decide +kernel
theorem dJ6_stringSize_0f7a4_1 : decode cJ6_stringSize_0f7a4 1 = .ok (.istore_n 1, 1) := by decide +kernel
theorem dJ6_stringSize_0f7a4_2 : decode cJ6_stringSize_0f7a4 2 = .ok (.iload_n 0, 1) := by decide +kernel
theorem dJ6_stringSize_0f7a4_3 : decode cJ6_stringSize_0f7a4 3 = .ok (.ifCond .lt 8, 3) := by decide +kernel
theorem dJ6_stringSize_0f7a4_6 : decode cJ6_stringSize_0f7a4 6 = .ok (.iconst 0, 1) := by decide +kernel
theorem dJ6_stringSize_0f7a4_7 : decode cJ6_stringSize_0f7a4 7 = .ok (.istore_n 1, 1) := by decide +kernel
theorem dJ6_stringSize_0f7a4_8 : decode cJ6_stringSize_0f7a4 8 = .ok (.iload_n 0, 1) := by decide +kernel
theorem dJ6_stringSize_0f7a4_9 : decode cJ6_stringSize_0f7a4 9 = .ok (.ineg, 1) := by decide +kernel
theorem dJ6_stringSize_0f7a4_10 : decode cJ6_stringSize_0f7a4 10 = .ok (.istore_n 0, 1) := by decide +kernel
theorem dJ6_stringSize_0f7a4_11 : decode cJ6_stringSize_0f7a4 11 = .ok (.bipush (-10), 2) := by decide +kernel
theorem dJ6_stringSize_0f7a4_13 : decode cJ6_stringSize_0f7a4 13 = .ok (.istore_n 2, 1) := by decide +kernel
theorem dJ6_stringSize_0f7a4_14 : decode cJ6_stringSize_0f7a4 14 = .ok (.iconst 1, 1) := by decide +kernel
theorem dJ6_stringSize_0f7a4_15 : decode cJ6_stringSize_0f7a4 15 = .ok (.istore_n 3, 1) := by decide +kernel
theorem dJ6_stringSize_0f7a4_16 : decode cJ6_stringSize_0f7a4 16 = .ok (.iload_n 3, 1) := by decide +kernel
theorem dJ6_stringSize_0f7a4_17 : decode cJ6_stringSize_0f7a4 17 = .ok (.bipush 10, 2) := by decide +kernel
theorem dJ6_stringSize_0f7a4_19 : decode cJ6_stringSize_0f7a4 19 = .ok (.if_icmp .ge 23, 3) := by decide +kernel
theorem dJ6_stringSize_0f7a4_22 : decode cJ6_stringSize_0f7a4 22 = .ok (.iload_n 0, 1) := by decide +kernel
theorem dJ6_stringSize_0f7a4_23 : decode cJ6_stringSize_0f7a4 23 = .ok (.iload_n 2, 1) := by decide +kernel
theorem dJ6_stringSize_0f7a4_24 : decode cJ6_stringSize_0f7a4 24 = .ok (.if_icmp .le 7, 3) := by decide +kernel
theorem dJ6_stringSize_0f7a4_27 : decode cJ6_stringSize_0f7a4 27 = .ok (.iload_n 3, 1) := by decide +kernel
theorem dJ6_stringSize_0f7a4_28 : decode cJ6_stringSize_0f7a4 28 = .ok (.iload_n 1, 1) := by decide +kernel
theorem dJ6_stringSize_0f7a4_29 : decode cJ6_stringSize_0f7a4 29 = .ok (.iadd, 1) := by decide +kernel
theorem dJ6_stringSize_0f7a4_30 : decode cJ6_stringSize_0f7a4 30 = .ok (.ireturn, 1) := by decide +kernel
theorem dJ6_stringSize_0f7a4_31 : decode cJ6_stringSize_0f7a4 31 = .ok (.bipush 10, 2) := by decide +kernel
theorem dJ6_stringSize_0f7a4_33 : decode cJ6_stringSize_0f7a4 33 = .ok (.iload_n 2, 1) := by decide +kernel
theorem dJ6_stringSize_0f7a4_34 : decode cJ6_stringSize_0f7a4 34 = .ok (.imul, 1) := by decide +kernel
theorem dJ6_stringSize_0f7a4_35 : decode cJ6_stringSize_0f7a4 35 = .ok (.istore_n 2, 1) := by decide +kernel
theorem dJ6_stringSize_0f7a4_36 : decode cJ6_stringSize_0f7a4 36 = .ok (.iinc 3 1, 3) := by decide +kernel
theorem dJ6_stringSize_0f7a4_39 : decode cJ6_stringSize_0f7a4 39 = .ok (.goto (-23), 3) := by decide +kernel
theorem dJ6_stringSize_0f7a4_42 : decode cJ6_stringSize_0f7a4 42 = .ok (.bipush 10, 2) := by decide +kernel
theorem dJ6_stringSize_0f7a4_44 : decode cJ6_stringSize_0f7a4 44 = .ok (.iload_n 1, 1) := by decide +kernel
theorem dJ6_stringSize_0f7a4_45 : decode cJ6_stringSize_0f7a4 45 = .ok (.iadd, 1) := by decide +kernel
theorem dJ6_stringSize_0f7a4_46 : decode cJ6_stringSize_0f7a4 46 = .ok (.ireturn, 1) := by decide +kernel
theorem dJ6_bitCount_0f7a4_0 : decode cJ6_bitCount_0f7a4 0 = .ok (.iload_n 0, 1) := by decide +kernel
theorem dJ6_bitCount_0f7a4_1 : decode cJ6_bitCount_0f7a4 1 = .ok (.iload_n 0, 1) := by decide +kernel
theorem dJ6_bitCount_0f7a4_2 : decode cJ6_bitCount_0f7a4 2 = .ok (.iconst 1, 1) := by decide +kernel
theorem dJ6_bitCount_0f7a4_3 : decode cJ6_bitCount_0f7a4 3 = .ok (.iushr, 1) := by decide +kernel
theorem dJ6_bitCount_0f7a4_4 : decode cJ6_bitCount_0f7a4 4 = .ok (.ldc_w 265, 3) := by decide +kernel
theorem dJ6_bitCount_0f7a4_7 : decode cJ6_bitCount_0f7a4 7 = .ok (.iand, 1) := by decide +kernel
theorem dJ6_bitCount_0f7a4_8 : decode cJ6_bitCount_0f7a4 8 = .ok (.isub, 1) := by decide +kernel
theorem dJ6_bitCount_0f7a4_9 : decode cJ6_bitCount_0f7a4 9 = .ok (.istore_n 0, 1) := by decide +kernel
theorem dJ6_bitCount_0f7a4_10 : decode cJ6_bitCount_0f7a4 10 = .ok (.iload_n 0, 1) := by decide +kernel
theorem dJ6_bitCount_0f7a4_11 : decode cJ6_bitCount_0f7a4 11 = .ok (.ldc_w 266, 3) := by decide +kernel
theorem dJ6_bitCount_0f7a4_14 : decode cJ6_bitCount_0f7a4 14 = .ok (.iand, 1) := by decide +kernel
theorem dJ6_bitCount_0f7a4_15 : decode cJ6_bitCount_0f7a4 15 = .ok (.iload_n 0, 1) := by decide +kernel
theorem dJ6_bitCount_0f7a4_16 : decode cJ6_bitCount_0f7a4 16 = .ok (.iconst 2, 1) := by decide +kernel
theorem dJ6_bitCount_0f7a4_17 : decode cJ6_bitCount_0f7a4 17 = .ok (.iushr, 1) := by decide +kernel
theorem dJ6_bitCount_0f7a4_18 : decode cJ6_bitCount_0f7a4 18 = .ok (.ldc_w 266, 3) := by decide +kernel
theorem dJ6_bitCount_0f7a4_21 : decode cJ6_bitCount_0f7a4 21 = .ok (.iand, 1) := by decide +kernel
theorem dJ6_bitCount_0f7a4_22 : decode cJ6_bitCount_0f7a4 22 = .ok (.iadd, 1) := by decide +kernel
theorem dJ6_bitCount_0f7a4_23 : decode cJ6_bitCount_0f7a4 23 = .ok (.istore_n 0, 1) := by decide +kernel
theorem dJ6_bitCount_0f7a4_24 : decode cJ6_bitCount_0f7a4 24 = .ok (.iload_n 0, 1) := by decide +kernel
theorem dJ6_bitCount_0f7a4_25 : decode cJ6_bitCount_0f7a4 25 = .ok (.iload_n 0, 1) := by decide +kernel
theorem dJ6_bitCount_0f7a4_26 : decode cJ6_bitCount_0f7a4 26 = .ok (.iconst 4, 1) := by decide +kernel
theorem dJ6_bitCount_0f7a4_27 : decode cJ6_bitCount_0f7a4 27 = .ok (.iushr, 1) := by decide +kernel
theorem dJ6_bitCount_0f7a4_28 : decode cJ6_bitCount_0f7a4 28 = .ok (.iadd, 1) := by decide +kernel
theorem dJ6_bitCount_0f7a4_29 : decode cJ6_bitCount_0f7a4 29 = .ok (.ldc_w 267, 3) := by decide +kernel
theorem dJ6_bitCount_0f7a4_32 : decode cJ6_bitCount_0f7a4 32 = .ok (.iand, 1) := by decide +kernel
theorem dJ6_bitCount_0f7a4_33 : decode cJ6_bitCount_0f7a4 33 = .ok (.istore_n 0, 1) := by decide +kernel
theorem dJ6_bitCount_0f7a4_34 : decode cJ6_bitCount_0f7a4 34 = .ok (.iload_n 0, 1) := by decide +kernel
theorem dJ6_bitCount_0f7a4_35 : decode cJ6_bitCount_0f7a4 35 = .ok (.iload_n 0, 1) := by decide +kernel
theorem dJ6_bitCount_0f7a4_36 : decode cJ6_bitCount_0f7a4 36 = .ok (.bipush 8, 2) := by decide +kernel
theorem dJ6_bitCount_0f7a4_38 : decode cJ6_bitCount_0f7a4 38 = .ok (.iushr, 1) := by decide +kernel
theorem dJ6_bitCount_0f7a4_39 : decode cJ6_bitCount_0f7a4 39 = .ok (.iadd, 1) := by decide +kernel
theorem dJ6_bitCount_0f7a4_40 : decode cJ6_bitCount_0f7a4 40 = .ok (.istore_n 0, 1) := by decide +kernel
theorem dJ6_bitCount_0f7a4_41 : decode cJ6_bitCount_0f7a4 41 = .ok (.iload_n 0, 1) := by decide +kernel
theorem dJ6_bitCount_0f7a4_42 : decode cJ6_bitCount_0f7a4 42 = .ok (.iload_n 0, 1) := by decide +kernel
theorem dJ6_bitCount_0f7a4_43 : decode cJ6_bitCount_0f7a4 43 = .ok (.bipush 16, 2) := by decide +kernel
theorem dJ6_bitCount_0f7a4_45 : decode cJ6_bitCount_0f7a4 45 = .ok (.iushr, 1) := by decide +kernel
theorem dJ6_bitCount_0f7a4_46 : decode cJ6_bitCount_0f7a4 46 = .ok (.iadd, 1) := by decide +kernel
theorem dJ6_bitCount_0f7a4_47 : decode cJ6_bitCount_0f7a4 47 = .ok (.istore_n 0, 1) := by decide +kernel
theorem dJ6_bitCount_0f7a4_48 : decode cJ6_bitCount_0f7a4 48 = .ok (.iload_n 0, 1) := by decide +kernel
theorem dJ6_bitCount_0f7a4_49 : decode cJ6_bitCount_0f7a4 49 = .ok (.bipush 63, 2) := by decide +kernel
theorem dJ6_bitCount_0f7a4_51 : decode cJ6_bitCount_0f7a4 51 = .ok (.iand, 1) := by decide +kernel
theorem dJ6_bitCount_0f7a4_52 : decode cJ6_bitCount_0f7a4 52 = .ok (.ireturn, 1) := by decide +kernel
theorem dJ9_max_7cf53_0 : decode cJ9_max_7cf53 0 = .ok (.iload_n 0, 1) := by decide +kernel
theorem dJ9_max_7cf53_1 : decode cJ9_max_7cf53 1 = .ok (.iload_n 1, 1) := by decide +kernel
theorem dJ9_max_7cf53_2 : decode cJ9_max_7cf53 2 = .ok (.if_icmp .lt 7, 3) := by decide +kernel
theorem dJ9_max_7cf53_5 : decode cJ9_max_7cf53 5 = .ok (.iload_n 0, 1) := by decide +kernel
theorem dJ9_max_7cf53_6 : decode cJ9_max_7cf53 6 = .ok (.goto 4, 3) := by decide +kernel
theorem dJ9_max_7cf53_9 : decode cJ9_max_7cf53 9 = .ok (.iload_n 1, 1) := by decide +kernel
theorem dJ9_max_7cf53_10 : decode cJ9_max_7cf53 10 = .ok (.ireturn, 1) := by decide +kernel
theorem dJ9_min_7cf53_0 : decode cJ9_min_7cf53 0 = .ok (.iload_n 0, 1) := by decide +kernel
theorem dJ9_min_7cf53_1 : decode cJ9_min_7cf53 1 = .ok (.iload_n 1, 1) := by decide +kernel
theorem dJ9_min_7cf53_2 : decode cJ9_min_7cf53 2 = .ok (.if_icmp .gt 7, 3) := by decide +kernel
theorem dJ9_min_7cf53_5 : decode cJ9_min_7cf53 5 = .ok (.iload_n 0, 1) := by decide +kernel
theorem dJ9_min_7cf53_6 : decode cJ9_min_7cf53 6 = .ok (.goto 4, 3) := by decide +kernel
theorem dJ9_min_7cf53_9 : decode cJ9_min_7cf53 9 = .ok (.iload_n 1, 1) := by decide +kernel
theorem dJ9_min_7cf53_10 : decode cJ9_min_7cf53 10 = .ok (.ireturn, 1) := by decide +kernel
theorem dJ0_length_8abf5_0 : decode cJ0_length_8abf5 0 = .ok (.aload_n 0, 1) := by decide +kernel
theorem dJ0_length_8abf5_1 : decode cJ0_length_8abf5 1 = .ok (.getfield 9, 3) := by decide +kernel
theorem dJ0_length_8abf5_4 : decode cJ0_length_8abf5 4 = .ok (.arraylength, 1) := by decide +kernel
theorem dJ0_length_8abf5_5 : decode cJ0_length_8abf5 5 = .ok (.aload_n 0, 1) := by decide +kernel
theorem dJ0_length_8abf5_6 : decode cJ0_length_8abf5 6 = .ok (.invokevirtual 335, 3) := by decide +kernel
theorem dJ0_length_8abf5_9 : decode cJ0_length_8abf5 9 = .ok (.ishr, 1) := by decide +kernel
theorem dJ0_length_8abf5_10 : decode cJ0_length_8abf5 10 = .ok (.ireturn, 1) := by decide +kernel
theorem dJ0_charAt_5068e_0 : decode cJ0_charAt_5068e 0 = .ok (.aload_n 0, 1) := by decide +kernel
theorem dJ0_charAt_5068e_1 : decode cJ0_charAt_5068e 1 = .ok (.invokevirtual 492, 3) := by decide +kernel
theorem dJ0_charAt_5068e_4 : decode cJ0_charAt_5068e 4 = .ok (.ifCond .eq 12, 3) := by decide +kernel
theorem dJ0_charAt_5068e_7 : decode cJ0_charAt_5068e 7 = .ok (.aload_n 0, 1) := by decide +kernel
theorem dJ0_charAt_5068e_8 : decode cJ0_charAt_5068e 8 = .ok (.getfield 9, 3) := by decide +kernel
theorem dJ0_charAt_5068e_11 : decode cJ0_charAt_5068e 11 = .ok (.iload_n 1, 1) := by decide +kernel
theorem dJ0_charAt_5068e_12 : decode cJ0_charAt_5068e 12 = .ok (.invokestatic 495, 3) := by decide +kernel
theorem dJ0_charAt_5068e_15 : decode cJ0_charAt_5068e 15 = .ok (.ireturn, 1) := by decide +kernel
theorem dJ0_charAt_5068e_16 : decode cJ0_charAt_5068e 16 = .ok (.aload_n 0, 1) := by decide +kernel
theorem dJ0_charAt_5068e_17 : decode cJ0_charAt_5068e 17 = .ok (.getfield 9, 3) := by decide +kernel
theorem dJ0_charAt_5068e_20 : decode cJ0_charAt_5068e 20 = .ok (.iload_n 1, 1) := by decide +kernel
theorem dJ0_charAt_5068e_21 : decode cJ0_charAt_5068e 21 = .ok (.invokestatic 498, 3) := by decide +kernel
theorem dJ0_charAt_5068e_24 : decode cJ0_charAt_5068e 24 = .ok (.ireturn, 1) := by decide +kernel
theorem dJ0_coder_7d493_0 : decode cJ0_coder_7d493 0 = .ok (.getstatic 38, 3) := by decide +kernel
theorem dJ0_coder_7d493_3 : decode cJ0_coder_7d493 3 = .ok (.ifCond .eq 10, 3) := by decide +kernel
theorem dJ0_coder_7d493_6 : decode cJ0_coder_7d493 6 = .ok (.aload_n 0, 1) := by decide +kernel
theorem dJ0_coder_7d493_7 : decode cJ0_coder_7d493 7 = .ok (.getfield 15, 3) := by decide +kernel
theorem dJ0_coder_7d493_10 : decode cJ0_coder_7d493 10 = .ok (.goto 4, 3) := by decide +kernel
theorem dJ0_coder_7d493_13 : decode cJ0_coder_7d493 13 = .ok (.iconst 1, 1) := by decide +kernel
theorem dJ0_coder_7d493_14 : decode cJ0_coder_7d493 14 = .ok (.ireturn, 1) := by decide +kernel
theorem dJ0_isLatin1_aae02_0 : decode cJ0_isLatin1_aae02 0 = .ok (.getstatic 38, 3) := by decide +kernel
theorem dJ0_isLatin1_aae02_3 : decode cJ0_isLatin1_aae02 3 = .ok (.ifCond .eq 14, 3) := by decide +kernel
theorem dJ0_isLatin1_aae02_6 : decode cJ0_isLatin1_aae02 6 = .ok (.aload_n 0, 1) := by decide +kernel
theorem dJ0_isLatin1_aae02_7 : decode cJ0_isLatin1_aae02 7 = .ok (.getfield 15, 3) := by decide +kernel
theorem dJ0_isLatin1_aae02_10 : decode cJ0_isLatin1_aae02 10 = .ok (.ifCond .ne 7, 3) := by decide +kernel
theorem dJ0_isLatin1_aae02_13 : decode cJ0_isLatin1_aae02 13 = .ok (.iconst 1, 1) := by decide +kernel
theorem dJ0_isLatin1_aae02_14 : decode cJ0_isLatin1_aae02 14 = .ok (.goto 4, 3) := by decide +kernel
theorem dJ0_isLatin1_aae02_17 : decode cJ0_isLatin1_aae02 17 = .ok (.iconst 0, 1) := by decide +kernel
theorem dJ0_isLatin1_aae02_18 : decode cJ0_isLatin1_aae02 18 = .ok (.ireturn, 1) := by decide +kernel
theorem dJ0_checkIndex_df160_0 : decode cJ0_checkIndex_df160 0 = .ok (.iload_n 0, 1) := by decide +kernel
theorem dJ0_checkIndex_df160_1 : decode cJ0_checkIndex_df160 1 = .ok (.iload_n 1, 1) := by decide +kernel
theorem dJ0_checkIndex_df160_2 : decode cJ0_checkIndex_df160 2 = .ok (.getstatic 1053, 3) := by decide +kernel
theorem dJ0_checkIndex_df160_5 : decode cJ0_checkIndex_df160 5 = .ok (.invokestatic 1059, 3) := by decide +kernel
theorem dJ0_checkIndex_df160_8 : decode cJ0_checkIndex_df160 8 = .ok (.pop, 1) := by decide +kernel
theorem dJ0_checkIndex_df160_9 : decode cJ0_checkIndex_df160 9 = .ok (.return_, 1) := by decide +kernel
theorem dJ0_checkBoundsOffCount_cabcc_0 : decode cJ0_checkBoundsOffCount_cabcc 0 = .ok (.iload_n 0, 1) := by decide +kernel
theorem dJ0_checkBoundsOffCount_cabcc_1 : decode cJ0_checkBoundsOffCount_cabcc 1 = .ok (.iload_n 1, 1) := by decide +kernel
theorem dJ0_checkBoundsOffCount_cabcc_2 : decode cJ0_checkBoundsOffCount_cabcc 2 = .ok (.iload_n 2, 1) := by decide +kernel
theorem dJ0_checkBoundsOffCount_cabcc_3 : decode cJ0_checkBoundsOffCount_cabcc 3 = .ok (.getstatic 1053, 3) := by decide +kernel
theorem dJ0_checkBoundsOffCount_cabcc_6 : decode cJ0_checkBoundsOffCount_cabcc 6 = .ok (.invokestatic 1065, 3) := by decide +kernel
theorem dJ0_checkBoundsOffCount_cabcc_9 : decode cJ0_checkBoundsOffCount_cabcc 9 = .ok (.ireturn, 1) := by decide +kernel
theorem dJ0_checkBoundsBeginEnd_23922_0 : decode cJ0_checkBoundsBeginEnd_23922 0 = .ok (.iload_n 0, 1) := by decide +kernel
theorem dJ0_checkBoundsBeginEnd_23922_1 : decode cJ0_checkBoundsBeginEnd_23922 1 = .ok (.iload_n 1, 1) := by decide +kernel
theorem dJ0_checkBoundsBeginEnd_23922_2 : decode cJ0_checkBoundsBeginEnd_23922 2 = .ok (.iload_n 2, 1) := by decide +kernel
theorem dJ0_checkBoundsBeginEnd_23922_3 : decode cJ0_checkBoundsBeginEnd_23922 3 = .ok (.getstatic 1053, 3) := by decide +kernel
theorem dJ0_checkBoundsBeginEnd_23922_6 : decode cJ0_checkBoundsBeginEnd_23922 6 = .ok (.invokestatic 1062, 3) := by decide +kernel
theorem dJ0_checkBoundsBeginEnd_23922_9 : decode cJ0_checkBoundsBeginEnd_23922 9 = .ok (.pop, 1) := by decide +kernel
theorem dJ0_checkBoundsBeginEnd_23922_10 : decode cJ0_checkBoundsBeginEnd_23922 10 = .ok (.return_, 1) := by decide +kernel
theorem dJ4_init_da8c8_0 : decode cJ4_init_da8c8 0 = .ok (.aload_n 0, 1) := by decide +kernel
theorem dJ4_init_da8c8_1 : decode cJ4_init_da8c8 1 = .ok (.bipush 16, 2) := by decide +kernel
theorem dJ4_init_da8c8_3 : decode cJ4_init_da8c8 3 = .ok (.invokespecial 1, 3) := by decide +kernel
theorem dJ4_init_da8c8_6 : decode cJ4_init_da8c8 6 = .ok (.return_, 1) := by decide +kernel
theorem dJ4_append_cf468_0 : decode cJ4_append_cf468 0 = .ok (.aload_n 0, 1) := by decide +kernel
theorem dJ4_append_cf468_1 : decode cJ4_append_cf468 1 = .ok (.iload_n 1, 1) := by decide +kernel
theorem dJ4_append_cf468_2 : decode cJ4_append_cf468 2 = .ok (.invokespecial 50, 3) := by decide +kernel
theorem dJ4_append_cf468_5 : decode cJ4_append_cf468 5 = .ok (.pop, 1) := by decide +kernel
theorem dJ4_append_cf468_6 : decode cJ4_append_cf468 6 = .ok (.aload_n 0, 1) := by decide +kernel
theorem dJ4_append_cf468_7 : decode cJ4_append_cf468 7 = .ok (.areturn, 1) := by decide +kernel
theorem dJ4_append_bf812_0 : decode cJ4_append_bf812 0 = .ok (.aload_n 0, 1) := by decide +kernel
theorem dJ4_append_bf812_1 : decode cJ4_append_bf812 1 = .ok (.iload_n 1, 1) := by decide +kernel
theorem dJ4_append_bf812_2 : decode cJ4_append_bf812 2 = .ok (.invokespecial 53, 3) := by decide +kernel
theorem dJ4_append_bf812_5 : decode cJ4_append_bf812 5 = .ok (.pop, 1) := by decide +kernel
theorem dJ4_append_bf812_6 : decode cJ4_append_bf812 6 = .ok (.aload_n 0, 1) := by decide +kernel
theorem dJ4_append_bf812_7 : decode cJ4_append_bf812 7 = .ok (.areturn, 1) := by decide +kernel
theorem dJ4_charAt_5068e_0 : decode cJ4_charAt_5068e 0 = .ok (.aload_n 0, 1) := by decide +kernel
theorem dJ4_charAt_5068e_1 : decode cJ4_charAt_5068e 1 = .ok (.iload_n 1, 1) := by decide +kernel
theorem dJ4_charAt_5068e_2 : decode cJ4_charAt_5068e 2 = .ok (.invokespecial 329, 3) := by decide +kernel
theorem dJ4_charAt_5068e_5 : decode cJ4_charAt_5068e 5 = .ok (.ireturn, 1) := by decide +kernel
theorem dJ4_setLength_d00df_0 : decode cJ4_setLength_d00df 0 = .ok (.aload_n 0, 1) := by decide +kernel
theorem dJ4_setLength_d00df_1 : decode cJ4_setLength_d00df 1 = .ok (.iload_n 1, 1) := by decide +kernel
theorem dJ4_setLength_d00df_2 : decode cJ4_setLength_d00df 2 = .ok (.invokespecial 333, 3) := by decide +kernel
theorem dJ4_setLength_d00df_5 : decode cJ4_setLength_d00df 5 = .ok (.return_, 1) := by decide +kernel
theorem dJ4_length_8abf5_0 : decode cJ4_length_8abf5 0 = .ok (.aload_n 0, 1) := by decide +kernel
theorem dJ4_length_8abf5_1 : decode cJ4_length_8abf5 1 = .ok (.invokespecial 343, 3) := by decide +kernel
theorem dJ4_length_8abf5_4 : decode cJ4_length_8abf5 4 = .ok (.ireturn, 1) := by decide +kernel
theorem dJ1_charAt_3b067_0 : decode cJ1_charAt_3b067 0 = .ok (.iload_n 1, 1) := by decide +kernel
theorem dJ1_charAt_3b067_1 : decode cJ1_charAt_3b067 1 = .ok (.aload_n 0, 1) := by decide +kernel
theorem dJ1_charAt_3b067_2 : decode cJ1_charAt_3b067 2 = .ok (.arraylength, 1) := by decide +kernel
theorem dJ1_charAt_3b067_3 : decode cJ1_charAt_3b067 3 = .ok (.invokestatic 9, 3) := by decide +kernel
theorem dJ1_charAt_3b067_6 : decode cJ1_charAt_3b067 6 = .ok (.aload_n 0, 1) := by decide +kernel
theorem dJ1_charAt_3b067_7 : decode cJ1_charAt_3b067 7 = .ok (.iload_n 1, 1) := by decide +kernel
theorem dJ1_charAt_3b067_8 : decode cJ1_charAt_3b067 8 = .ok (.baload, 1) := by decide +kernel
theorem dJ1_charAt_3b067_9 : decode cJ1_charAt_3b067 9 = .ok (.sipush 255, 3) := by decide +kernel
theorem dJ1_charAt_3b067_12 : decode cJ1_charAt_3b067 12 = .ok (.iand, 1) := by decide +kernel
theorem dJ1_charAt_3b067_13 : decode cJ1_charAt_3b067 13 = .ok (.i2c, 1) := by decide +kernel
theorem dJ1_charAt_3b067_14 : decode cJ1_charAt_3b067 14 = .ok (.ireturn, 1) := by decide +kernel
theorem dJ1_canEncode_fc78d_0 : decode cJ1_canEncode_fc78d 0 = .ok (.iload_n 0, 1) := by decide +kernel
theorem dJ1_canEncode_fc78d_1 : decode cJ1_canEncode_fc78d 1 = .ok (.sipush 255, 3) := by decide +kernel
theorem dJ1_canEncode_fc78d_4 : decode cJ1_canEncode_fc78d 4 = .ok (.if_icmp .gt 7, 3) := by decide +kernel
theorem dJ1_canEncode_fc78d_7 : decode cJ1_canEncode_fc78d 7 = .ok (.iconst 1, 1) := by decide +kernel
theorem dJ1_canEncode_fc78d_8 : decode cJ1_canEncode_fc78d 8 = .ok (.goto 4, 3) := by decide +kernel
theorem dJ1_canEncode_fc78d_11 : decode cJ1_canEncode_fc78d 11 = .ok (.iconst 0, 1) := by decide +kernel
theorem dJ1_canEncode_fc78d_12 : decode cJ1_canEncode_fc78d 12 = .ok (.ireturn, 1) := by decide +kernel
theorem dJ1_fillNull_b72d1_0 : decode cJ1_fillNull_b72d1 0 = .ok (.aload_n 0, 1) := by decide +kernel
theorem dJ1_fillNull_b72d1_1 : decode cJ1_fillNull_b72d1 1 = .ok (.iload_n 1, 1) := by decide +kernel
theorem dJ1_fillNull_b72d1_2 : decode cJ1_fillNull_b72d1 2 = .ok (.iload_n 2, 1) := by decide +kernel
theorem dJ1_fillNull_b72d1_3 : decode cJ1_fillNull_b72d1 3 = .ok (.iconst 0, 1) := by decide +kernel
theorem dJ1_fillNull_b72d1_4 : decode cJ1_fillNull_b72d1 4 = .ok (.invokestatic 236, 3) := by decide +kernel
theorem dJ1_fillNull_b72d1_7 : decode cJ1_fillNull_b72d1 7 = .ok (.return_, 1) := by decide +kernel
theorem dJ1_inflate_0e8fd_0 : decode cJ1_inflate_0e8fd 0 = .ok (.aload_n 0, 1) := by decide +kernel
theorem dJ1_inflate_0e8fd_1 : decode cJ1_inflate_0e8fd 1 = .ok (.iload_n 1, 1) := by decide +kernel
theorem dJ1_inflate_0e8fd_2 : decode cJ1_inflate_0e8fd 2 = .ok (.aload_n 2, 1) := by decide +kernel
theorem dJ1_inflate_0e8fd_3 : decode cJ1_inflate_0e8fd 3 = .ok (.iload_n 3, 1) := by decide +kernel
theorem dJ1_inflate_0e8fd_4 : decode cJ1_inflate_0e8fd 4 = .ok (.iload 4, 2) := by decide +kernel
theorem dJ1_inflate_0e8fd_6 : decode cJ1_inflate_0e8fd 6 = .ok (.invokestatic 240, 3) := by decide +kernel
theorem dJ1_inflate_0e8fd_9 : decode cJ1_inflate_0e8fd 9 = .ok (.return_, 1) := by decide +kernel
theorem dJ2_newBytesFor_77867_0 : decode cJ2_newBytesFor_77867 0 = .ok (.iload_n 0, 1) := by decide +kernel
theorem dJ2_newBytesFor_77867_1 : decode cJ2_newBytesFor_77867 1 = .ok (.invokestatic 11, 3) := by decide +kernel
theorem dJ2_newBytesFor_77867_4 : decode cJ2_newBytesFor_77867 4 = .ok (.newarray .byte, 2) := by decide +kernel
theorem dJ2_newBytesFor_77867_6 : decode cJ2_newBytesFor_77867 6 = .ok (.areturn, 1) := by decide +kernel
theorem dJ2_newBytesLength_0f7a4_0 : decode cJ2_newBytesLength_0f7a4 0 = .ok (.iload_n 0, 1) := by decide +kernel
theorem dJ2_newBytesLength_0f7a4_1 : decode cJ2_newBytesLength_0f7a4 1 = .ok (.ifCond .ge 11, 3) := by decide +kernel
theorem dJ2_newBytesLength_0f7a4_4 : decode cJ2_newBytesLength_0f7a4 4 = .ok (.new 17, 3) := by decide +kernel
theorem dJ2_newBytesLength_0f7a4_7 : decode cJ2_newBytesLength_0f7a4 7 = .ok (.dup, 1) := by decide +kernel
theorem dJ2_newBytesLength_0f7a4_8 : decode cJ2_newBytesLength_0f7a4 8 = .ok (.invokespecial 19, 3) := by decide +kernel
theorem dJ2_newBytesLength_0f7a4_11 : decode cJ2_newBytesLength_0f7a4 11 = .ok (.athrow, 1) := by decide +kernel
theorem dJ2_newBytesLength_0f7a4_12 : decode cJ2_newBytesLength_0f7a4 12 = .ok (.iload_n 0, 1) := by decide +kernel
theorem dJ2_newBytesLength_0f7a4_13 : decode cJ2_newBytesLength_0f7a4 13 = .ok (.ldc 20, 2) := by decide +kernel
theorem dJ2_newBytesLength_0f7a4_15 : decode cJ2_newBytesLength_0f7a4 15 = .ok (.if_icmp .lt 40, 3) := by decide +kernel
theorem dJ2_newBytesLength_0f7a4_18 : decode cJ2_newBytesLength_0f7a4 18 = .ok (.new 21, 3) := by decide +kernel
theorem dJ2_newBytesLength_0f7a4_21 : decode cJ2_newBytesLength_0f7a4 21 = .ok (.dup, 1) := by decide +kernel
theorem dJ2_newBytesLength_0f7a4_22 : decode cJ2_newBytesLength_0f7a4 22 = .ok (.new 23, 3) := by decide +kernel
theorem dJ2_newBytesLength_0f7a4_25 : decode cJ2_newBytesLength_0f7a4 25 = .ok (.dup, 1) := by decide +kernel
theorem dJ2_newBytesLength_0f7a4_26 : decode cJ2_newBytesLength_0f7a4 26 = .ok (.invokespecial 25, 3) := by decide +kernel
theorem dJ2_newBytesLength_0f7a4_29 : decode cJ2_newBytesLength_0f7a4 29 = .ok (.ldc 26, 2) := by decide +kernel
theorem dJ2_newBytesLength_0f7a4_31 : decode cJ2_newBytesLength_0f7a4 31 = .ok (.invokevirtual 28, 3) := by decide +kernel
theorem dJ2_newBytesLength_0f7a4_34 : decode cJ2_newBytesLength_0f7a4 34 = .ok (.iload_n 0, 1) := by decide +kernel
theorem dJ2_newBytesLength_0f7a4_35 : decode cJ2_newBytesLength_0f7a4 35 = .ok (.invokevirtual 32, 3) := by decide +kernel
theorem dJ2_newBytesLength_0f7a4_38 : decode cJ2_newBytesLength_0f7a4 38 = .ok (.ldc 35, 2) := by decide +kernel
theorem dJ2_newBytesLength_0f7a4_40 : decode cJ2_newBytesLength_0f7a4 40 = .ok (.invokevirtual 28, 3) := by decide +kernel
theorem dJ2_newBytesLength_0f7a4_43 : decode cJ2_newBytesLength_0f7a4 43 = .ok (.ldc 20, 2) := by decide +kernel
theorem dJ2_newBytesLength_0f7a4_45 : decode cJ2_newBytesLength_0f7a4 45 = .ok (.invokevirtual 32, 3) := by decide +kernel
theorem dJ2_newBytesLength_0f7a4_48 : decode cJ2_newBytesLength_0f7a4 48 = .ok (.invokevirtual 37, 3) := by decide +kernel
theorem dJ2_newBytesLength_0f7a4_51 : decode cJ2_newBytesLength_0f7a4 51 = .ok (.invokespecial 41, 3) := by decide +kernel
theorem dJ2_newBytesLength_0f7a4_54 : decode cJ2_newBytesLength_0f7a4 54 = .ok (.athrow, 1) := by decide +kernel
theorem dJ2_newBytesLength_0f7a4_55 : decode cJ2_newBytesLength_0f7a4 55 = .ok (.iload_n 0, 1) := by decide +kernel
theorem dJ2_newBytesLength_0f7a4_56 : decode cJ2_newBytesLength_0f7a4 56 = .ok (.iconst 1, 1) := by decide +kernel
theorem dJ2_newBytesLength_0f7a4_57 : decode cJ2_newBytesLength_0f7a4 57 = .ok (.ishl, 1) := by decide +kernel
theorem dJ2_newBytesLength_0f7a4_58 : decode cJ2_newBytesLength_0f7a4 58 = .ok (.ireturn, 1) := by decide +kernel
theorem dJ2_putChar_b72d1_0 : decode cJ2_putChar_b72d1 0 = .ok (.getstatic 44, 3) := by decide +kernel
theorem dJ2_putChar_b72d1_3 : decode cJ2_putChar_b72d1 3 = .ok (.ifCond .ne 25, 3) := by decide +kernel
theorem dJ2_putChar_b72d1_6 : decode cJ2_putChar_b72d1 6 = .ok (.iload_n 1, 1) := by decide +kernel
theorem dJ2_putChar_b72d1_7 : decode cJ2_putChar_b72d1 7 = .ok (.ifCond .lt 11, 3) := by decide +kernel
theorem dJ2_putChar_b72d1_10 : decode cJ2_putChar_b72d1 10 = .ok (.iload_n 1, 1) := by decide +kernel
theorem dJ2_putChar_b72d1_11 : decode cJ2_putChar_b72d1 11 = .ok (.aload_n 0, 1) := by decide +kernel
theorem dJ2_putChar_b72d1_12 : decode cJ2_putChar_b72d1 12 = .ok (.invokestatic 48, 3) := by decide +kernel
theorem dJ2_putChar_b72d1_15 : decode cJ2_putChar_b72d1 15 = .ok (.if_icmp .lt 13, 3) := by decide +kernel
theorem dJ2_putChar_b72d1_18 : decode cJ2_putChar_b72d1 18 = .ok (.new 52, 3) := by decide +kernel
theorem dJ2_putChar_b72d1_21 : decode cJ2_putChar_b72d1 21 = .ok (.dup, 1) := by decide +kernel
theorem dJ2_putChar_b72d1_22 : decode cJ2_putChar_b72d1 22 = .ok (.ldc 54, 2) := by decide +kernel
theorem dJ2_putChar_b72d1_24 : decode cJ2_putChar_b72d1 24 = .ok (.invokespecial 56, 3) := by decide +kernel
theorem dJ2_putChar_b72d1_27 : decode cJ2_putChar_b72d1 27 = .ok (.athrow, 1) := by decide +kernel
theorem dJ2_putChar_b72d1_28 : decode cJ2_putChar_b72d1 28 = .ok (.iload_n 1, 1) := by decide +kernel
theorem dJ2_putChar_b72d1_29 : decode cJ2_putChar_b72d1 29 = .ok (.iconst 1, 1) := by decide +kernel
theorem dJ2_putChar_b72d1_30 : decode cJ2_putChar_b72d1 30 = .ok (.ishl, 1) := by decide +kernel
theorem dJ2_putChar_b72d1_31 : decode cJ2_putChar_b72d1 31 = .ok (.istore_n 1, 1) := by decide +kernel
theorem dJ2_putChar_b72d1_32 : decode cJ2_putChar_b72d1 32 = .ok (.aload_n 0, 1) := by decide +kernel
theorem dJ2_putChar_b72d1_33 : decode cJ2_putChar_b72d1 33 = .ok (.iload_n 1, 1) := by decide +kernel
theorem dJ2_putChar_b72d1_34 : decode cJ2_putChar_b72d1 34 = .ok (.iinc 1 1, 3) := by decide +kernel
theorem dJ2_putChar_b72d1_37 : decode cJ2_putChar_b72d1 37 = .ok (.iload_n 2, 1) := by decide +kernel
theorem dJ2_putChar_b72d1_38 : decode cJ2_putChar_b72d1 38 = .ok (.getstatic 59, 3) := by decide +kernel
theorem dJ2_putChar_b72d1_41 : decode cJ2_putChar_b72d1 41 = .ok (.ishr, 1) := by decide +kernel
theorem dJ2_putChar_b72d1_42 : decode cJ2_putChar_b72d1 42 = .ok (.i2b, 1) := by decide +kernel
theorem dJ2_putChar_b72d1_43 : decode cJ2_putChar_b72d1 43 = .ok (.bastore, 1) := by decide +kernel
theorem dJ2_putChar_b72d1_44 : decode cJ2_putChar_b72d1 44 = .ok (.aload_n 0, 1) := by decide +kernel
theorem dJ2_putChar_b72d1_45 : decode cJ2_putChar_b72d1 45 = .ok (.iload_n 1, 1) := by decide +kernel
theorem dJ2_putChar_b72d1_46 : decode cJ2_putChar_b72d1 46 = .ok (.iload_n 2, 1) := by decide +kernel
theorem dJ2_putChar_b72d1_47 : decode cJ2_putChar_b72d1 47 = .ok (.getstatic 63, 3) := by decide +kernel
theorem dJ2_putChar_b72d1_50 : decode cJ2_putChar_b72d1 50 = .ok (.ishr, 1) := by decide +kernel
theorem dJ2_putChar_b72d1_51 : decode cJ2_putChar_b72d1 51 = .ok (.i2b, 1) := by decide +kernel
theorem dJ2_putChar_b72d1_52 : decode cJ2_putChar_b72d1 52 = .ok (.bastore, 1) := by decide +kernel
theorem dJ2_putChar_b72d1_53 : decode cJ2_putChar_b72d1 53 = .ok (.return_, 1) := by decide +kernel
theorem dJ2_getChar_3b067_0 : decode cJ2_getChar_3b067 0 = .ok (.getstatic 44, 3) := by decide +kernel
theorem dJ2_getChar_3b067_3 : decode cJ2_getChar_3b067 3 = .ok (.ifCond .ne 25, 3) := by decide +kernel
theorem dJ2_getChar_3b067_6 : decode cJ2_getChar_3b067 6 = .ok (.iload_n 1, 1) := by decide +kernel
theorem dJ2_getChar_3b067_7 : decode cJ2_getChar_3b067 7 = .ok (.ifCond .lt 11, 3) := by decide +kernel
theorem dJ2_getChar_3b067_10 : decode cJ2_getChar_3b067 10 = .ok (.iload_n 1, 1) := by decide +kernel
theorem dJ2_getChar_3b067_11 : decode cJ2_getChar_3b067 11 = .ok (.aload_n 0, 1) := by decide +kernel
theorem dJ2_getChar_3b067_12 : decode cJ2_getChar_3b067 12 = .ok (.invokestatic 48, 3) := by decide +kernel
theorem dJ2_getChar_3b067_15 : decode cJ2_getChar_3b067 15 = .ok (.if_icmp .lt 13, 3) := by decide +kernel
theorem dJ2_getChar_3b067_18 : decode cJ2_getChar_3b067 18 = .ok (.new 52, 3) := by decide +kernel
theorem dJ2_getChar_3b067_21 : decode cJ2_getChar_3b067 21 = .ok (.dup, 1) := by decide +kernel
end
section
theorem dJ2_getChar_3b067_22 : decode cJ2_getChar_3b067 22 = .ok (.ldc 54, 2) := by decide +kernel
theorem dJ2_getChar_3b067_24 : decode cJ2_getChar_3b067 24 = .ok (.invokespecial 56, 3) := by decide +kernel
theorem dJ2_getChar_3b067_27 : decode cJ2_getChar_3b067 27 = .ok (.athrow, 1) := by decide +kernel
theorem dJ2_getChar_3b067_28 : decode cJ2_getChar_3b067 28 = .ok (.iload_n 1, 1) := by decide +kernel
theorem dJ2_getChar_3b067_29 : decode cJ2_getChar_3b067 29 = .ok (.iconst 1, 1) := by decide +kernel
theorem dJ2_getChar_3b067_30 : decode cJ2_getChar_3b067 30 = .ok (.ishl, 1) := by decide +kernel
theorem dJ2_getChar_3b067_31 : decode cJ2_getChar_3b067 31 = .ok (.istore_n 1, 1) := by decide +kernel
theorem dJ2_getChar_3b067_32 : decode cJ2_getChar_3b067 32 = .ok (.aload_n 0, 1) := by decide +kernel
theorem dJ2_getChar_3b067_33 : decode cJ2_getChar_3b067 33 = .ok (.iload_n 1, 1) := by decide +kernel
theorem dJ2_getChar_3b067_34 : decode cJ2_getChar_3b067 34 = .ok (.iinc 1 1, 3) := by decide +kernel
theorem dJ2_getChar_3b067_37 : decode cJ2_getChar_3b067 37 = .ok (.baload, 1) := by decide +kernel
theorem dJ2_getChar_3b067_38 : decode cJ2_getChar_3b067 38 = .ok (.sipush 255, 3) := by decide +kernel
theorem dJ2_getChar_3b067_41 : decode cJ2_getChar_3b067 41 = .ok (.iand, 1) := by decide +kernel
theorem dJ2_getChar_3b067_42 : decode cJ2_getChar_3b067 42 = .ok (.getstatic 59, 3) := by decide +kernel
theorem dJ2_getChar_3b067_45 : decode cJ2_getChar_3b067 45 = .ok (.ishl, 1) := by decide +kernel
theorem dJ2_getChar_3b067_46 : decode cJ2_getChar_3b067 46 = .ok (.aload_n 0, 1) := by decide +kernel
theorem dJ2_getChar_3b067_47 : decode cJ2_getChar_3b067 47 = .ok (.iload_n 1, 1) := by decide +kernel
theorem dJ2_getChar_3b067_48 : decode cJ2_getChar_3b067 48 = .ok (.baload, 1) := by decide +kernel
theorem dJ2_getChar_3b067_49 : decode cJ2_getChar_3b067 49 = .ok (.sipush 255, 3) := by decide +kernel
theorem dJ2_getChar_3b067_52 : decode cJ2_getChar_3b067 52 = .ok (.iand, 1) := by decide +kernel
theorem dJ2_getChar_3b067_53 : decode cJ2_getChar_3b067 53 = .ok (.getstatic 63, 3) := by decide +kernel
theorem dJ2_getChar_3b067_56 : decode cJ2_getChar_3b067 56 = .ok (.ishl, 1) := by decide +kernel
theorem dJ2_getChar_3b067_57 : decode cJ2_getChar_3b067 57 = .ok (.ior, 1) := by decide +kernel
theorem dJ2_getChar_3b067_58 : decode cJ2_getChar_3b067 58 = .ok (.i2c, 1) := by decide +kernel
theorem dJ2_getChar_3b067_59 : decode cJ2_getChar_3b067 59 = .ok (.ireturn, 1) := by decide +kernel
theorem dJ2_length_9d52b_0 : decode cJ2_length_9d52b 0 = .ok (.aload_n 0, 1) := by decide +kernel
theorem dJ2_length_9d52b_1 : decode cJ2_length_9d52b 1 = .ok (.arraylength, 1) := by decide +kernel
theorem dJ2_length_9d52b_2 : decode cJ2_length_9d52b 2 = .ok (.iconst 1, 1) := by decide +kernel
theorem dJ2_length_9d52b_3 : decode cJ2_length_9d52b 3 = .ok (.ishr, 1) := by decide +kernel
theorem dJ2_length_9d52b_4 : decode cJ2_length_9d52b 4 = .ok (.ireturn, 1) := by decide +kernel
theorem dJ2_fillNull_b72d1_0 : decode cJ2_fillNull_b72d1 0 = .ok (.aload_n 0, 1) := by decide +kernel
theorem dJ2_fillNull_b72d1_1 : decode cJ2_fillNull_b72d1 1 = .ok (.iload_n 1, 1) := by decide +kernel
theorem dJ2_fillNull_b72d1_2 : decode cJ2_fillNull_b72d1 2 = .ok (.iconst 1, 1) := by decide +kernel
theorem dJ2_fillNull_b72d1_3 : decode cJ2_fillNull_b72d1 3 = .ok (.ishl, 1) := by decide +kernel
theorem dJ2_fillNull_b72d1_4 : decode cJ2_fillNull_b72d1 4 = .ok (.iload_n 2, 1) := by decide +kernel
theorem dJ2_fillNull_b72d1_5 : decode cJ2_fillNull_b72d1 5 = .ok (.iconst 1, 1) := by decide +kernel
theorem dJ2_fillNull_b72d1_6 : decode cJ2_fillNull_b72d1 6 = .ok (.ishl, 1) := by decide +kernel
theorem dJ2_fillNull_b72d1_7 : decode cJ2_fillNull_b72d1 7 = .ok (.iconst 0, 1) := by decide +kernel
theorem dJ2_fillNull_b72d1_8 : decode cJ2_fillNull_b72d1 8 = .ok (.invokestatic 380, 3) := by decide +kernel
theorem dJ2_fillNull_b72d1_11 : decode cJ2_fillNull_b72d1 11 = .ok (.return_, 1) := by decide +kernel
theorem dJ2_putCharSB_b72d1_0 : decode cJ2_putCharSB_b72d1 0 = .ok (.iload_n 1, 1) := by decide +kernel
theorem dJ2_putCharSB_b72d1_1 : decode cJ2_putCharSB_b72d1 1 = .ok (.aload_n 0, 1) := by decide +kernel
theorem dJ2_putCharSB_b72d1_2 : decode cJ2_putCharSB_b72d1 2 = .ok (.invokestatic 67, 3) := by decide +kernel
theorem dJ2_putCharSB_b72d1_5 : decode cJ2_putCharSB_b72d1 5 = .ok (.aload_n 0, 1) := by decide +kernel
theorem dJ2_putCharSB_b72d1_6 : decode cJ2_putCharSB_b72d1 6 = .ok (.iload_n 1, 1) := by decide +kernel
theorem dJ2_putCharSB_b72d1_7 : decode cJ2_putCharSB_b72d1 7 = .ok (.iload_n 2, 1) := by decide +kernel
theorem dJ2_putCharSB_b72d1_8 : decode cJ2_putCharSB_b72d1 8 = .ok (.invokestatic 111, 3) := by decide +kernel
theorem dJ2_putCharSB_b72d1_11 : decode cJ2_putCharSB_b72d1 11 = .ok (.return_, 1) := by decide +kernel
theorem dJ2_getChars_46870_0 : decode cJ2_getChars_46870 0 = .ok (.iload_n 1, 1) := by decide +kernel
theorem dJ2_getChars_46870_1 : decode cJ2_getChars_46870 1 = .ok (.iload_n 2, 1) := by decide +kernel
theorem dJ2_getChars_46870_2 : decode cJ2_getChars_46870 2 = .ok (.aload_n 3, 1) := by decide +kernel
theorem dJ2_getChars_46870_3 : decode cJ2_getChars_46870 3 = .ok (.invokestatic 96, 3) := by decide +kernel
theorem dJ2_getChars_46870_6 : decode cJ2_getChars_46870 6 = .ok (.iload_n 0, 1) := by decide +kernel
theorem dJ2_getChars_46870_7 : decode cJ2_getChars_46870 7 = .ok (.iload_n 2, 1) := by decide +kernel
theorem dJ2_getChars_46870_8 : decode cJ2_getChars_46870 8 = .ok (.aload_n 3, 1) := by decide +kernel
theorem dJ2_getChars_46870_9 : decode cJ2_getChars_46870 9 = .ok (.invokestatic 393, 3) := by decide +kernel
theorem dJ2_getChars_46870_12 : decode cJ2_getChars_46870 12 = .ok (.istore 4, 2) := by decide +kernel
theorem dJ2_getChars_46870_14 : decode cJ2_getChars_46870 14 = .ok (.getstatic 44, 3) := by decide +kernel
theorem dJ2_getChars_46870_17 : decode cJ2_getChars_46870 17 = .ok (.ifCond .ne 17, 3) := by decide +kernel
theorem dJ2_getChars_46870_20 : decode cJ2_getChars_46870 20 = .ok (.iload_n 1, 1) := by decide +kernel
theorem dJ2_getChars_46870_21 : decode cJ2_getChars_46870 21 = .ok (.iload 4, 2) := by decide +kernel
theorem dJ2_getChars_46870_23 : decode cJ2_getChars_46870 23 = .ok (.if_icmp .eq 11, 3) := by decide +kernel
theorem dJ2_getChars_46870_26 : decode cJ2_getChars_46870 26 = .ok (.new 52, 3) := by decide +kernel
theorem dJ2_getChars_46870_29 : decode cJ2_getChars_46870 29 = .ok (.dup, 1) := by decide +kernel
theorem dJ2_getChars_46870_30 : decode cJ2_getChars_46870 30 = .ok (.invokespecial 66, 3) := by decide +kernel
theorem dJ2_getChars_46870_33 : decode cJ2_getChars_46870 33 = .ok (.athrow, 1) := by decide +kernel
theorem dJ2_getChars_46870_34 : decode cJ2_getChars_46870 34 = .ok (.iload 4, 2) := by decide +kernel
theorem dJ2_getChars_46870_36 : decode cJ2_getChars_46870 36 = .ok (.ireturn, 1) := by decide +kernel
theorem dJ2_charAt_3b067_0 : decode cJ2_charAt_3b067 0 = .ok (.iload_n 1, 1) := by decide +kernel
theorem dJ2_charAt_3b067_1 : decode cJ2_charAt_3b067 1 = .ok (.aload_n 0, 1) := by decide +kernel
theorem dJ2_charAt_3b067_2 : decode cJ2_charAt_3b067 2 = .ok (.invokestatic 67, 3) := by decide +kernel
theorem dJ2_charAt_3b067_5 : decode cJ2_charAt_3b067 5 = .ok (.aload_n 0, 1) := by decide +kernel
theorem dJ2_charAt_3b067_6 : decode cJ2_charAt_3b067 6 = .ok (.iload_n 1, 1) := by decide +kernel
theorem dJ2_charAt_3b067_7 : decode cJ2_charAt_3b067 7 = .ok (.invokestatic 71, 3) := by decide +kernel
theorem dJ2_charAt_3b067_10 : decode cJ2_charAt_3b067 10 = .ok (.ireturn, 1) := by decide +kernel
theorem dJ2_inflate_0e8fd_0 : decode cJ2_inflate_0e8fd 0 = .ok (.iload_n 3, 1) := by decide +kernel
theorem dJ2_inflate_0e8fd_1 : decode cJ2_inflate_0e8fd 1 = .ok (.iload 4, 2) := by decide +kernel
theorem dJ2_inflate_0e8fd_3 : decode cJ2_inflate_0e8fd 3 = .ok (.aload_n 2, 1) := by decide +kernel
theorem dJ2_inflate_0e8fd_4 : decode cJ2_inflate_0e8fd 4 = .ok (.invokestatic 173, 3) := by decide +kernel
theorem dJ2_inflate_0e8fd_7 : decode cJ2_inflate_0e8fd 7 = .ok (.iconst 0, 1) := by decide +kernel
theorem dJ2_inflate_0e8fd_8 : decode cJ2_inflate_0e8fd 8 = .ok (.istore 5, 2) := by decide +kernel
theorem dJ2_inflate_0e8fd_10 : decode cJ2_inflate_0e8fd 10 = .ok (.iload 5, 2) := by decide +kernel
theorem dJ2_inflate_0e8fd_12 : decode cJ2_inflate_0e8fd 12 = .ok (.iload 4, 2) := by decide +kernel
theorem dJ2_inflate_0e8fd_14 : decode cJ2_inflate_0e8fd 14 = .ok (.if_icmp .ge 27, 3) := by decide +kernel
theorem dJ2_inflate_0e8fd_17 : decode cJ2_inflate_0e8fd 17 = .ok (.aload_n 2, 1) := by decide +kernel
theorem dJ2_inflate_0e8fd_18 : decode cJ2_inflate_0e8fd 18 = .ok (.iload_n 3, 1) := by decide +kernel
theorem dJ2_inflate_0e8fd_19 : decode cJ2_inflate_0e8fd 19 = .ok (.iinc 3 1, 3) := by decide +kernel
theorem dJ2_inflate_0e8fd_22 : decode cJ2_inflate_0e8fd 22 = .ok (.aload_n 0, 1) := by decide +kernel
theorem dJ2_inflate_0e8fd_23 : decode cJ2_inflate_0e8fd 23 = .ok (.iload_n 1, 1) := by decide +kernel
theorem dJ2_inflate_0e8fd_24 : decode cJ2_inflate_0e8fd 24 = .ok (.iinc 1 1, 3) := by decide +kernel
theorem dJ2_inflate_0e8fd_27 : decode cJ2_inflate_0e8fd 27 = .ok (.baload, 1) := by decide +kernel
theorem dJ2_inflate_0e8fd_28 : decode cJ2_inflate_0e8fd 28 = .ok (.sipush 255, 3) := by decide +kernel
theorem dJ2_inflate_0e8fd_31 : decode cJ2_inflate_0e8fd 31 = .ok (.iand, 1) := by decide +kernel
theorem dJ2_inflate_0e8fd_32 : decode cJ2_inflate_0e8fd 32 = .ok (.invokestatic 111, 3) := by decide +kernel
theorem dJ2_inflate_0e8fd_35 : decode cJ2_inflate_0e8fd 35 = .ok (.iinc 5 1, 3) := by decide +kernel
theorem dJ2_inflate_0e8fd_38 : decode cJ2_inflate_0e8fd 38 = .ok (.goto (-28), 3) := by decide +kernel
theorem dJ2_inflate_0e8fd_41 : decode cJ2_inflate_0e8fd 41 = .ok (.return_, 1) := by decide +kernel
theorem dJ2_getChars_ba4f3_0 : decode cJ2_getChars_ba4f3 0 = .ok (.iload_n 1, 1) := by decide +kernel
theorem dJ2_getChars_ba4f3_1 : decode cJ2_getChars_ba4f3 1 = .ok (.istore 5, 2) := by decide +kernel
theorem dJ2_getChars_ba4f3_3 : decode cJ2_getChars_ba4f3 3 = .ok (.iload_n 0, 1) := by decide +kernel
theorem dJ2_getChars_ba4f3_4 : decode cJ2_getChars_ba4f3 4 = .ok (.ifCond .ge 7, 3) := by decide +kernel
theorem dJ2_getChars_ba4f3_7 : decode cJ2_getChars_ba4f3 7 = .ok (.iconst 1, 1) := by decide +kernel
theorem dJ2_getChars_ba4f3_8 : decode cJ2_getChars_ba4f3 8 = .ok (.goto 4, 3) := by decide +kernel
theorem dJ2_getChars_ba4f3_11 : decode cJ2_getChars_ba4f3 11 = .ok (.iconst 0, 1) := by decide +kernel
theorem dJ2_getChars_ba4f3_12 : decode cJ2_getChars_ba4f3 12 = .ok (.istore 6, 2) := by decide +kernel
theorem dJ2_getChars_ba4f3_14 : decode cJ2_getChars_ba4f3 14 = .ok (.iload 6, 2) := by decide +kernel
theorem dJ2_getChars_ba4f3_16 : decode cJ2_getChars_ba4f3 16 = .ok (.ifCond .ne 6, 3) := by decide +kernel
theorem dJ2_getChars_ba4f3_19 : decode cJ2_getChars_ba4f3 19 = .ok (.iload_n 0, 1) := by decide +kernel
theorem dJ2_getChars_ba4f3_20 : decode cJ2_getChars_ba4f3 20 = .ok (.ineg, 1) := by decide +kernel
theorem dJ2_getChars_ba4f3_21 : decode cJ2_getChars_ba4f3 21 = .ok (.istore_n 0, 1) := by decide +kernel
theorem dJ2_getChars_ba4f3_22 : decode cJ2_getChars_ba4f3 22 = .ok (.iload_n 0, 1) := by decide +kernel
theorem dJ2_getChars_ba4f3_23 : decode cJ2_getChars_ba4f3 23 = .ok (.bipush (-100), 2) := by decide +kernel
theorem dJ2_getChars_ba4f3_25 : decode cJ2_getChars_ba4f3 25 = .ok (.if_icmp .gt 51, 3) := by decide +kernel
theorem dJ2_getChars_ba4f3_28 : decode cJ2_getChars_ba4f3 28 = .ok (.iload_n 0, 1) := by decide +kernel
theorem dJ2_getChars_ba4f3_29 : decode cJ2_getChars_ba4f3 29 = .ok (.bipush 100, 2) := by decide +kernel
theorem dJ2_getChars_ba4f3_31 : decode cJ2_getChars_ba4f3 31 = .ok (.idiv, 1) := by decide +kernel
theorem dJ2_getChars_ba4f3_32 : decode cJ2_getChars_ba4f3 32 = .ok (.istore_n 3, 1) := by decide +kernel
theorem dJ2_getChars_ba4f3_33 : decode cJ2_getChars_ba4f3 33 = .ok (.iload_n 3, 1) := by decide +kernel
theorem dJ2_getChars_ba4f3_34 : decode cJ2_getChars_ba4f3 34 = .ok (.bipush 100, 2) := by decide +kernel
theorem dJ2_getChars_ba4f3_36 : decode cJ2_getChars_ba4f3 36 = .ok (.imul, 1) := by decide +kernel
theorem dJ2_getChars_ba4f3_37 : decode cJ2_getChars_ba4f3 37 = .ok (.iload_n 0, 1) := by decide +kernel
theorem dJ2_getChars_ba4f3_38 : decode cJ2_getChars_ba4f3 38 = .ok (.isub, 1) := by decide +kernel
theorem dJ2_getChars_ba4f3_39 : decode cJ2_getChars_ba4f3 39 = .ok (.istore 4, 2) := by decide +kernel
theorem dJ2_getChars_ba4f3_41 : decode cJ2_getChars_ba4f3 41 = .ok (.iload_n 3, 1) := by decide +kernel
theorem dJ2_getChars_ba4f3_42 : decode cJ2_getChars_ba4f3 42 = .ok (.istore_n 0, 1) := by decide +kernel
theorem dJ2_getChars_ba4f3_43 : decode cJ2_getChars_ba4f3 43 = .ok (.aload_n 2, 1) := by decide +kernel
theorem dJ2_getChars_ba4f3_44 : decode cJ2_getChars_ba4f3 44 = .ok (.iinc 5 (-1), 3) := by decide +kernel
theorem dJ2_getChars_ba4f3_47 : decode cJ2_getChars_ba4f3 47 = .ok (.iload 5, 2) := by decide +kernel
theorem dJ2_getChars_ba4f3_49 : decode cJ2_getChars_ba4f3 49 = .ok (.getstatic 403, 3) := by decide +kernel
theorem dJ2_getChars_ba4f3_52 : decode cJ2_getChars_ba4f3 52 = .ok (.iload 4, 2) := by decide +kernel
theorem dJ2_getChars_ba4f3_54 : decode cJ2_getChars_ba4f3 54 = .ok (.baload, 1) := by decide +kernel
theorem dJ2_getChars_ba4f3_55 : decode cJ2_getChars_ba4f3 55 = .ok (.invokestatic 111, 3) := by decide +kernel
theorem dJ2_getChars_ba4f3_58 : decode cJ2_getChars_ba4f3 58 = .ok (.aload_n 2, 1) := by decide +kernel
theorem dJ2_getChars_ba4f3_59 : decode cJ2_getChars_ba4f3 59 = .ok (.iinc 5 (-1), 3) := by decide +kernel
theorem dJ2_getChars_ba4f3_62 : decode cJ2_getChars_ba4f3 62 = .ok (.iload 5, 2) := by decide +kernel
theorem dJ2_getChars_ba4f3_64 : decode cJ2_getChars_ba4f3 64 = .ok (.getstatic 407, 3) := by decide +kernel
theorem dJ2_getChars_ba4f3_67 : decode cJ2_getChars_ba4f3 67 = .ok (.iload 4, 2) := by decide +kernel
theorem dJ2_getChars_ba4f3_69 : decode cJ2_getChars_ba4f3 69 = .ok (.baload, 1) := by decide +kernel
theorem dJ2_getChars_ba4f3_70 : decode cJ2_getChars_ba4f3 70 = .ok (.invokestatic 111, 3) := by decide +kernel
theorem dJ2_getChars_ba4f3_73 : decode cJ2_getChars_ba4f3 73 = .ok (.goto (-51), 3) := by decide +kernel
theorem dJ2_getChars_ba4f3_76 : decode cJ2_getChars_ba4f3 76 = .ok (.aload_n 2, 1) := by decide +kernel
theorem dJ2_getChars_ba4f3_77 : decode cJ2_getChars_ba4f3 77 = .ok (.iinc 5 (-1), 3) := by decide +kernel
theorem dJ2_getChars_ba4f3_80 : decode cJ2_getChars_ba4f3 80 = .ok (.iload 5, 2) := by decide +kernel
theorem dJ2_getChars_ba4f3_82 : decode cJ2_getChars_ba4f3 82 = .ok (.getstatic 403, 3) := by decide +kernel
theorem dJ2_getChars_ba4f3_85 : decode cJ2_getChars_ba4f3 85 = .ok (.iload_n 0, 1) := by decide +kernel
theorem dJ2_getChars_ba4f3_86 : decode cJ2_getChars_ba4f3 86 = .ok (.ineg, 1) := by decide +kernel
theorem dJ2_getChars_ba4f3_87 : decode cJ2_getChars_ba4f3 87 = .ok (.baload, 1) := by decide +kernel
theorem dJ2_getChars_ba4f3_88 : decode cJ2_getChars_ba4f3 88 = .ok (.invokestatic 111, 3) := by decide +kernel
theorem dJ2_getChars_ba4f3_91 : decode cJ2_getChars_ba4f3 91 = .ok (.iload_n 0, 1) := by decide +kernel
theorem dJ2_getChars_ba4f3_92 : decode cJ2_getChars_ba4f3 92 = .ok (.bipush (-9), 2) := by decide +kernel
theorem dJ2_getChars_ba4f3_94 : decode cJ2_getChars_ba4f3 94 = .ok (.if_icmp .ge 18, 3) := by decide +kernel
theorem dJ2_getChars_ba4f3_97 : decode cJ2_getChars_ba4f3 97 = .ok (.aload_n 2, 1) := by decide +kernel
theorem dJ2_getChars_ba4f3_98 : decode cJ2_getChars_ba4f3 98 = .ok (.iinc 5 (-1), 3) := by decide +kernel
theorem dJ2_getChars_ba4f3_101 : decode cJ2_getChars_ba4f3 101 = .ok (.iload 5, 2) := by decide +kernel
theorem dJ2_getChars_ba4f3_103 : decode cJ2_getChars_ba4f3 103 = .ok (.getstatic 407, 3) := by decide +kernel
theorem dJ2_getChars_ba4f3_106 : decode cJ2_getChars_ba4f3 106 = .ok (.iload_n 0, 1) := by decide +kernel
theorem dJ2_getChars_ba4f3_107 : decode cJ2_getChars_ba4f3 107 = .ok (.ineg, 1) := by decide +kernel
theorem dJ2_getChars_ba4f3_108 : decode cJ2_getChars_ba4f3 108 = .ok (.baload, 1) := by decide +kernel
theorem dJ2_getChars_ba4f3_109 : decode cJ2_getChars_ba4f3 109 = .ok (.invokestatic 111, 3) := by decide +kernel
theorem dJ2_getChars_ba4f3_112 : decode cJ2_getChars_ba4f3 112 = .ok (.iload 6, 2) := by decide +kernel
theorem dJ2_getChars_ba4f3_114 : decode cJ2_getChars_ba4f3 114 = .ok (.ifCond .eq 14, 3) := by decide +kernel
theorem dJ2_getChars_ba4f3_117 : decode cJ2_getChars_ba4f3 117 = .ok (.aload_n 2, 1) := by decide +kernel
theorem dJ2_getChars_ba4f3_118 : decode cJ2_getChars_ba4f3 118 = .ok (.iinc 5 (-1), 3) := by decide +kernel
theorem dJ2_getChars_ba4f3_121 : decode cJ2_getChars_ba4f3 121 = .ok (.iload 5, 2) := by decide +kernel
theorem dJ2_getChars_ba4f3_123 : decode cJ2_getChars_ba4f3 123 = .ok (.bipush 45, 2) := by decide +kernel
theorem dJ2_getChars_ba4f3_125 : decode cJ2_getChars_ba4f3 125 = .ok (.invokestatic 111, 3) := by decide +kernel
theorem dJ2_getChars_ba4f3_128 : decode cJ2_getChars_ba4f3 128 = .ok (.iload 5, 2) := by decide +kernel
theorem dJ2_getChars_ba4f3_130 : decode cJ2_getChars_ba4f3 130 = .ok (.ireturn, 1) := by decide +kernel
theorem dJ2_checkIndex_2214a_0 : decode cJ2_checkIndex_2214a 0 = .ok (.iload_n 0, 1) := by decide +kernel
theorem dJ2_checkIndex_2214a_1 : decode cJ2_checkIndex_2214a 1 = .ok (.aload_n 1, 1) := by decide +kernel
theorem dJ2_checkIndex_2214a_2 : decode cJ2_checkIndex_2214a 2 = .ok (.invokestatic 48, 3) := by decide +kernel
theorem dJ2_checkIndex_2214a_5 : decode cJ2_checkIndex_2214a 5 = .ok (.invokestatic 414, 3) := by decide +kernel
theorem dJ2_checkIndex_2214a_8 : decode cJ2_checkIndex_2214a 8 = .ok (.return_, 1) := by decide +kernel
theorem dJ2_checkBoundsBeginEnd_d044e_0 : decode cJ2_checkBoundsBeginEnd_d044e 0 = .ok (.iload_n 0, 1) := by decide +kernel
theorem dJ2_checkBoundsBeginEnd_d044e_1 : decode cJ2_checkBoundsBeginEnd_d044e 1 = .ok (.iload_n 1, 1) := by decide +kernel
theorem dJ2_checkBoundsBeginEnd_d044e_2 : decode cJ2_checkBoundsBeginEnd_d044e 2 = .ok (.aload_n 2, 1) := by decide +kernel
theorem dJ2_checkBoundsBeginEnd_d044e_3 : decode cJ2_checkBoundsBeginEnd_d044e 3 = .ok (.invokestatic 48, 3) := by decide +kernel
theorem dJ2_checkBoundsBeginEnd_d044e_6 : decode cJ2_checkBoundsBeginEnd_d044e 6 = .ok (.invokestatic 241, 3) := by decide +kernel
theorem dJ2_checkBoundsBeginEnd_d044e_9 : decode cJ2_checkBoundsBeginEnd_d044e 9 = .ok (.return_, 1) := by decide +kernel
theorem dJ2_checkBoundsOffCount_d044e_0 : decode cJ2_checkBoundsOffCount_d044e 0 = .ok (.iload_n 0, 1) := by decide +kernel
theorem dJ2_checkBoundsOffCount_d044e_1 : decode cJ2_checkBoundsOffCount_d044e 1 = .ok (.iload_n 1, 1) := by decide +kernel
theorem dJ2_checkBoundsOffCount_d044e_2 : decode cJ2_checkBoundsOffCount_d044e 2 = .ok (.aload_n 2, 1) := by decide +kernel
theorem dJ2_checkBoundsOffCount_d044e_3 : decode cJ2_checkBoundsOffCount_d044e 3 = .ok (.invokestatic 48, 3) := by decide +kernel
theorem dJ2_checkBoundsOffCount_d044e_6 : decode cJ2_checkBoundsOffCount_d044e 6 = .ok (.invokestatic 419, 3) := by decide +kernel
theorem dJ2_checkBoundsOffCount_d044e_9 : decode cJ2_checkBoundsOffCount_d044e 9 = .ok (.pop, 1) := by decide +kernel
theorem dJ2_checkBoundsOffCount_d044e_10 : decode cJ2_checkBoundsOffCount_d044e 10 = .ok (.return_, 1) := by decide +kernel
theorem dJ7_rangeCheck_23922_0 : decode cJ7_rangeCheck_23922 0 = .ok (.iload_n 1, 1) := by decide +kernel
theorem dJ7_rangeCheck_23922_1 : decode cJ7_rangeCheck_23922 1 = .ok (.iload_n 2, 1) := by decide +kernel
theorem dJ7_rangeCheck_23922_2 : decode cJ7_rangeCheck_23922 2 = .ok (.if_icmp .le 44, 3) := by decide +kernel
theorem dJ7_rangeCheck_23922_5 : decode cJ7_rangeCheck_23922 5 = .ok (.new 43, 3) := by decide +kernel
theorem dJ7_rangeCheck_23922_8 : decode cJ7_rangeCheck_23922 8 = .ok (.dup, 1) := by decide +kernel
theorem dJ7_rangeCheck_23922_9 : decode cJ7_rangeCheck_23922 9 = .ok (.new 45, 3) := by decide +kernel
theorem dJ7_rangeCheck_23922_12 : decode cJ7_rangeCheck_23922 12 = .ok (.dup, 1) := by decide +kernel
theorem dJ7_rangeCheck_23922_13 : decode cJ7_rangeCheck_23922 13 = .ok (.invokespecial 47, 3) := by decide +kernel
theorem dJ7_rangeCheck_23922_16 : decode cJ7_rangeCheck_23922 16 = .ok (.ldc 48, 2) := by decide +kernel
theorem dJ7_rangeCheck_23922_18 : decode cJ7_rangeCheck_23922 18 = .ok (.invokevirtual 50, 3) := by decide +kernel
theorem dJ7_rangeCheck_23922_21 : decode cJ7_rangeCheck_23922 21 = .ok (.iload_n 1, 1) := by decide +kernel
theorem dJ7_rangeCheck_23922_22 : decode cJ7_rangeCheck_23922 22 = .ok (.invokevirtual 54, 3) := by decide +kernel
theorem dJ7_rangeCheck_23922_25 : decode cJ7_rangeCheck_23922 25 = .ok (.ldc 57, 2) := by decide +kernel
theorem dJ7_rangeCheck_23922_27 : decode cJ7_rangeCheck_23922 27 = .ok (.invokevirtual 50, 3) := by decide +kernel
theorem dJ7_rangeCheck_23922_30 : decode cJ7_rangeCheck_23922 30 = .ok (.iload_n 2, 1) := by decide +kernel
theorem dJ7_rangeCheck_23922_31 : decode cJ7_rangeCheck_23922 31 = .ok (.invokevirtual 54, 3) := by decide +kernel
theorem dJ7_rangeCheck_23922_34 : decode cJ7_rangeCheck_23922 34 = .ok (.ldc 59, 2) := by decide +kernel
theorem dJ7_rangeCheck_23922_36 : decode cJ7_rangeCheck_23922 36 = .ok (.invokevirtual 50, 3) := by decide +kernel
theorem dJ7_rangeCheck_23922_39 : decode cJ7_rangeCheck_23922 39 = .ok (.invokevirtual 61, 3) := by decide +kernel
theorem dJ7_rangeCheck_23922_42 : decode cJ7_rangeCheck_23922 42 = .ok (.invokespecial 65, 3) := by decide +kernel
theorem dJ7_rangeCheck_23922_45 : decode cJ7_rangeCheck_23922 45 = .ok (.athrow, 1) := by decide +kernel
theorem dJ7_rangeCheck_23922_46 : decode cJ7_rangeCheck_23922 46 = .ok (.iload_n 1, 1) := by decide +kernel
theorem dJ7_rangeCheck_23922_47 : decode cJ7_rangeCheck_23922 47 = .ok (.ifCond .ge 12, 3) := by decide +kernel
theorem dJ7_rangeCheck_23922_50 : decode cJ7_rangeCheck_23922 50 = .ok (.new 68, 3) := by decide +kernel
theorem dJ7_rangeCheck_23922_53 : decode cJ7_rangeCheck_23922 53 = .ok (.dup, 1) := by decide +kernel
theorem dJ7_rangeCheck_23922_54 : decode cJ7_rangeCheck_23922 54 = .ok (.iload_n 1, 1) := by decide +kernel
theorem dJ7_rangeCheck_23922_55 : decode cJ7_rangeCheck_23922 55 = .ok (.invokespecial 70, 3) := by decide +kernel
theorem dJ7_rangeCheck_23922_58 : decode cJ7_rangeCheck_23922 58 = .ok (.athrow, 1) := by decide +kernel
theorem dJ7_rangeCheck_23922_59 : decode cJ7_rangeCheck_23922 59 = .ok (.iload_n 2, 1) := by decide +kernel
theorem dJ7_rangeCheck_23922_60 : decode cJ7_rangeCheck_23922 60 = .ok (.iload_n 0, 1) := by decide +kernel
theorem dJ7_rangeCheck_23922_61 : decode cJ7_rangeCheck_23922 61 = .ok (.if_icmp .le 12, 3) := by decide +kernel
theorem dJ7_rangeCheck_23922_64 : decode cJ7_rangeCheck_23922 64 = .ok (.new 68, 3) := by decide +kernel
theorem dJ7_rangeCheck_23922_67 : decode cJ7_rangeCheck_23922 67 = .ok (.dup, 1) := by decide +kernel
theorem dJ7_rangeCheck_23922_68 : decode cJ7_rangeCheck_23922 68 = .ok (.iload_n 2, 1) := by decide +kernel
theorem dJ7_rangeCheck_23922_69 : decode cJ7_rangeCheck_23922 69 = .ok (.invokespecial 70, 3) := by decide +kernel
theorem dJ7_rangeCheck_23922_72 : decode cJ7_rangeCheck_23922 72 = .ok (.athrow, 1) := by decide +kernel
theorem dJ7_rangeCheck_23922_73 : decode cJ7_rangeCheck_23922 73 = .ok (.return_, 1) := by decide +kernel
theorem dJ7_fill_eb02e_0 : decode cJ7_fill_eb02e 0 = .ok (.aload_n 0, 1) := by decide +kernel
theorem dJ7_fill_eb02e_1 : decode cJ7_fill_eb02e 1 = .ok (.arraylength, 1) := by decide +kernel
theorem dJ7_fill_eb02e_2 : decode cJ7_fill_eb02e 2 = .ok (.iload_n 1, 1) := by decide +kernel
theorem dJ7_fill_eb02e_3 : decode cJ7_fill_eb02e 3 = .ok (.iload_n 2, 1) := by decide +kernel
theorem dJ7_fill_eb02e_4 : decode cJ7_fill_eb02e 4 = .ok (.invokestatic 13, 3) := by decide +kernel
theorem dJ7_fill_eb02e_7 : decode cJ7_fill_eb02e 7 = .ok (.iload_n 1, 1) := by decide +kernel
theorem dJ7_fill_eb02e_8 : decode cJ7_fill_eb02e 8 = .ok (.istore 4, 2) := by decide +kernel
theorem dJ7_fill_eb02e_10 : decode cJ7_fill_eb02e 10 = .ok (.iload 4, 2) := by decide +kernel
theorem dJ7_fill_eb02e_12 : decode cJ7_fill_eb02e 12 = .ok (.iload_n 2, 1) := by decide +kernel
theorem dJ7_fill_eb02e_13 : decode cJ7_fill_eb02e 13 = .ok (.if_icmp .ge 14, 3) := by decide +kernel
theorem dJ7_fill_eb02e_16 : decode cJ7_fill_eb02e 16 = .ok (.aload_n 0, 1) := by decide +kernel
theorem dJ7_fill_eb02e_17 : decode cJ7_fill_eb02e 17 = .ok (.iload 4, 2) := by decide +kernel
theorem dJ7_fill_eb02e_19 : decode cJ7_fill_eb02e 19 = .ok (.iload_n 3, 1) := by decide +kernel
theorem dJ7_fill_eb02e_20 : decode cJ7_fill_eb02e 20 = .ok (.bastore, 1) := by decide +kernel
theorem dJ7_fill_eb02e_21 : decode cJ7_fill_eb02e 21 = .ok (.iinc 4 1, 3) := by decide +kernel
theorem dJ7_fill_eb02e_24 : decode cJ7_fill_eb02e 24 = .ok (.goto (-14), 3) := by decide +kernel
theorem dJ7_fill_eb02e_27 : decode cJ7_fill_eb02e 27 = .ok (.return_, 1) := by decide +kernel
theorem dJ7_copyOf_9075b_0 : decode cJ7_copyOf_9075b 0 = .ok (.iload_n 1, 1) := by decide +kernel
theorem dJ7_copyOf_9075b_1 : decode cJ7_copyOf_9075b 1 = .ok (.aload_n 0, 1) := by decide +kernel
theorem dJ7_copyOf_9075b_2 : decode cJ7_copyOf_9075b 2 = .ok (.arraylength, 1) := by decide +kernel
theorem dJ7_copyOf_9075b_3 : decode cJ7_copyOf_9075b 3 = .ok (.if_icmp .ne 11, 3) := by decide +kernel
theorem dJ7_copyOf_9075b_6 : decode cJ7_copyOf_9075b 6 = .ok (.aload_n 0, 1) := by decide +kernel
theorem dJ7_copyOf_9075b_7 : decode cJ7_copyOf_9075b 7 = .ok (.invokevirtual 310, 3) := by decide +kernel
theorem dJ7_copyOf_9075b_10 : decode cJ7_copyOf_9075b 10 = .ok (.checkcast 311, 3) := by decide +kernel
theorem dJ7_copyOf_9075b_13 : decode cJ7_copyOf_9075b 13 = .ok (.areturn, 1) := by decide +kernel
theorem dJ7_copyOf_9075b_14 : decode cJ7_copyOf_9075b 14 = .ok (.iload_n 1, 1) := by decide +kernel
theorem dJ7_copyOf_9075b_15 : decode cJ7_copyOf_9075b 15 = .ok (.newarray .byte, 2) := by decide +kernel
theorem dJ7_copyOf_9075b_17 : decode cJ7_copyOf_9075b 17 = .ok (.astore_n 2, 1) := by decide +kernel
theorem dJ7_copyOf_9075b_18 : decode cJ7_copyOf_9075b 18 = .ok (.aload_n 0, 1) := by decide +kernel
theorem dJ7_copyOf_9075b_19 : decode cJ7_copyOf_9075b 19 = .ok (.iconst 0, 1) := by decide +kernel
theorem dJ7_copyOf_9075b_20 : decode cJ7_copyOf_9075b 20 = .ok (.aload_n 2, 1) := by decide +kernel
theorem dJ7_copyOf_9075b_21 : decode cJ7_copyOf_9075b 21 = .ok (.iconst 0, 1) := by decide +kernel
theorem dJ7_copyOf_9075b_22 : decode cJ7_copyOf_9075b 22 = .ok (.aload_n 0, 1) := by decide +kernel
theorem dJ7_copyOf_9075b_23 : decode cJ7_copyOf_9075b 23 = .ok (.arraylength, 1) := by decide +kernel
theorem dJ7_copyOf_9075b_24 : decode cJ7_copyOf_9075b 24 = .ok (.iload_n 1, 1) := by decide +kernel
theorem dJ7_copyOf_9075b_25 : decode cJ7_copyOf_9075b 25 = .ok (.invokestatic 304, 3) := by decide +kernel
theorem dJ7_copyOf_9075b_28 : decode cJ7_copyOf_9075b 28 = .ok (.invokestatic 150, 3) := by decide +kernel
theorem dJ7_copyOf_9075b_31 : decode cJ7_copyOf_9075b 31 = .ok (.aload_n 2, 1) := by decide +kernel
theorem dJ7_copyOf_9075b_32 : decode cJ7_copyOf_9075b 32 = .ok (.areturn, 1) := by decide +kernel
theorem dJ8_newLength_cabcc_0 : decode cJ8_newLength_cabcc 0 = .ok (.iload_n 0, 1) := by decide +kernel
theorem dJ8_newLength_cabcc_1 : decode cJ8_newLength_cabcc 1 = .ok (.iload_n 1, 1) := by decide +kernel
theorem dJ8_newLength_cabcc_2 : decode cJ8_newLength_cabcc 2 = .ok (.iload_n 2, 1) := by decide +kernel
theorem dJ8_newLength_cabcc_3 : decode cJ8_newLength_cabcc 3 = .ok (.invokestatic 194, 3) := by decide +kernel
theorem dJ8_newLength_cabcc_6 : decode cJ8_newLength_cabcc 6 = .ok (.iadd, 1) := by decide +kernel
theorem dJ8_newLength_cabcc_7 : decode cJ8_newLength_cabcc 7 = .ok (.istore_n 3, 1) := by decide +kernel
theorem dJ8_newLength_cabcc_8 : decode cJ8_newLength_cabcc 8 = .ok (.iconst 0, 1) := by decide +kernel
theorem dJ8_newLength_cabcc_9 : decode cJ8_newLength_cabcc 9 = .ok (.iload_n 3, 1) := by decide +kernel
theorem dJ8_newLength_cabcc_10 : decode cJ8_newLength_cabcc 10 = .ok (.if_icmp .ge 11, 3) := by decide +kernel
theorem dJ8_newLength_cabcc_13 : decode cJ8_newLength_cabcc 13 = .ok (.iload_n 3, 1) := by decide +kernel
theorem dJ8_newLength_cabcc_14 : decode cJ8_newLength_cabcc 14 = .ok (.ldc 200, 2) := by decide +kernel
theorem dJ8_newLength_cabcc_16 : decode cJ8_newLength_cabcc 16 = .ok (.if_icmp .gt 5, 3) := by decide +kernel
theorem dJ8_newLength_cabcc_19 : decode cJ8_newLength_cabcc 19 = .ok (.iload_n 3, 1) := by decide +kernel
theorem dJ8_newLength_cabcc_20 : decode cJ8_newLength_cabcc 20 = .ok (.ireturn, 1) := by decide +kernel
theorem dJ8_newLength_cabcc_21 : decode cJ8_newLength_cabcc 21 = .ok (.iload_n 0, 1) := by decide +kernel
theorem dJ8_newLength_cabcc_22 : decode cJ8_newLength_cabcc 22 = .ok (.iload_n 1, 1) := by decide +kernel
theorem dJ8_newLength_cabcc_23 : decode cJ8_newLength_cabcc 23 = .ok (.invokestatic 201, 3) := by decide +kernel
theorem dJ8_newLength_cabcc_26 : decode cJ8_newLength_cabcc 26 = .ok (.ireturn, 1) := by decide +kernel
theorem dJ8_hugeLength_7cf53_0 : decode cJ8_hugeLength_7cf53 0 = .ok (.iload_n 0, 1) := by decide +kernel
theorem dJ8_hugeLength_7cf53_1 : decode cJ8_hugeLength_7cf53 1 = .ok (.iload_n 1, 1) := by decide +kernel
theorem dJ8_hugeLength_7cf53_2 : decode cJ8_hugeLength_7cf53 2 = .ok (.iadd, 1) := by decide +kernel
theorem dJ8_hugeLength_7cf53_3 : decode cJ8_hugeLength_7cf53 3 = .ok (.istore_n 2, 1) := by decide +kernel
theorem dJ8_hugeLength_7cf53_4 : decode cJ8_hugeLength_7cf53 4 = .ok (.iload_n 2, 1) := by decide +kernel
theorem dJ8_hugeLength_7cf53_5 : decode cJ8_hugeLength_7cf53 5 = .ok (.ifCond .ge 44, 3) := by decide +kernel
theorem dJ8_hugeLength_7cf53_8 : decode cJ8_hugeLength_7cf53 8 = .ok (.new 204, 3) := by decide +kernel
theorem dJ8_hugeLength_7cf53_11 : decode cJ8_hugeLength_7cf53 11 = .ok (.dup, 1) := by decide +kernel
theorem dJ8_hugeLength_7cf53_12 : decode cJ8_hugeLength_7cf53 12 = .ok (.new 89, 3) := by decide +kernel
theorem dJ8_hugeLength_7cf53_15 : decode cJ8_hugeLength_7cf53 15 = .ok (.dup, 1) := by decide +kernel
theorem dJ8_hugeLength_7cf53_16 : decode cJ8_hugeLength_7cf53 16 = .ok (.invokespecial 91, 3) := by decide +kernel
theorem dJ8_hugeLength_7cf53_19 : decode cJ8_hugeLength_7cf53 19 = .ok (.ldc 206, 2) := by decide +kernel
theorem dJ8_hugeLength_7cf53_21 : decode cJ8_hugeLength_7cf53 21 = .ok (.invokevirtual 94, 3) := by decide +kernel
theorem dJ8_hugeLength_7cf53_24 : decode cJ8_hugeLength_7cf53 24 = .ok (.iload_n 0, 1) := by decide +kernel
theorem dJ8_hugeLength_7cf53_25 : decode cJ8_hugeLength_7cf53 25 = .ok (.invokevirtual 98, 3) := by decide +kernel
theorem dJ8_hugeLength_7cf53_28 : decode cJ8_hugeLength_7cf53 28 = .ok (.ldc 208, 2) := by decide +kernel
theorem dJ8_hugeLength_7cf53_30 : decode cJ8_hugeLength_7cf53 30 = .ok (.invokevirtual 94, 3) := by decide +kernel
theorem dJ8_hugeLength_7cf53_33 : decode cJ8_hugeLength_7cf53 33 = .ok (.iload_n 1, 1) := by decide +kernel
theorem dJ8_hugeLength_7cf53_34 : decode cJ8_hugeLength_7cf53 34 = .ok (.invokevirtual 98, 3) := by decide +kernel
theorem dJ8_hugeLength_7cf53_37 : decode cJ8_hugeLength_7cf53 37 = .ok (.ldc 210, 2) := by decide +kernel
theorem dJ8_hugeLength_7cf53_39 : decode cJ8_hugeLength_7cf53 39 = .ok (.invokevirtual 94, 3) := by decide +kernel
theorem dJ8_hugeLength_7cf53_42 : decode cJ8_hugeLength_7cf53 42 = .ok (.invokevirtual 101, 3) := by decide +kernel
theorem dJ8_hugeLength_7cf53_45 : decode cJ8_hugeLength_7cf53 45 = .ok (.invokespecial 212, 3) := by decide +kernel
theorem dJ8_hugeLength_7cf53_48 : decode cJ8_hugeLength_7cf53 48 = .ok (.athrow, 1) := by decide +kernel
theorem dJ8_hugeLength_7cf53_49 : decode cJ8_hugeLength_7cf53 49 = .ok (.iload_n 2, 1) := by decide +kernel
theorem dJ8_hugeLength_7cf53_50 : decode cJ8_hugeLength_7cf53 50 = .ok (.ldc 200, 2) := by decide +kernel
theorem dJ8_hugeLength_7cf53_52 : decode cJ8_hugeLength_7cf53 52 = .ok (.if_icmp .gt 6, 3) := by decide +kernel
theorem dJ8_hugeLength_7cf53_55 : decode cJ8_hugeLength_7cf53 55 = .ok (.ldc 200, 2) := by decide +kernel
theorem dJ8_hugeLength_7cf53_57 : decode cJ8_hugeLength_7cf53 57 = .ok (.ireturn, 1) := by decide +kernel
theorem dJ8_hugeLength_7cf53_58 : decode cJ8_hugeLength_7cf53 58 = .ok (.iload_n 2, 1) := by decide +kernel
theorem dJ8_hugeLength_7cf53_59 : decode cJ8_hugeLength_7cf53 59 = .ok (.ireturn, 1) := by decide +kernel
theorem dJ3_checkIndex_8e157_0 : decode cJ3_checkIndex_8e157 0 = .ok (.iload_n 0, 1) := by decide +kernel
theorem dJ3_checkIndex_8e157_1 : decode cJ3_checkIndex_8e157 1 = .ok (.ifCond .lt 8, 3) := by decide +kernel
theorem dJ3_checkIndex_8e157_4 : decode cJ3_checkIndex_8e157 4 = .ok (.iload_n 0, 1) := by decide +kernel
theorem dJ3_checkIndex_8e157_5 : decode cJ3_checkIndex_8e157 5 = .ok (.iload_n 1, 1) := by decide +kernel
theorem dJ3_checkIndex_8e157_6 : decode cJ3_checkIndex_8e157 6 = .ok (.if_icmp .lt 10, 3) := by decide +kernel
theorem dJ3_checkIndex_8e157_9 : decode cJ3_checkIndex_8e157 9 = .ok (.aload_n 2, 1) := by decide +kernel
theorem dJ3_checkIndex_8e157_10 : decode cJ3_checkIndex_8e157 10 = .ok (.iload_n 0, 1) := by decide +kernel
theorem dJ3_checkIndex_8e157_11 : decode cJ3_checkIndex_8e157 11 = .ok (.iload_n 1, 1) := by decide +kernel
theorem dJ3_checkIndex_8e157_12 : decode cJ3_checkIndex_8e157 12 = .ok (.invokestatic 95, 3) := by decide +kernel
theorem dJ3_checkIndex_8e157_15 : decode cJ3_checkIndex_8e157 15 = .ok (.athrow, 1) := by decide +kernel
theorem dJ3_checkIndex_8e157_16 : decode cJ3_checkIndex_8e157 16 = .ok (.iload_n 0, 1) := by decide +kernel
theorem dJ3_checkIndex_8e157_17 : decode cJ3_checkIndex_8e157 17 = .ok (.ireturn, 1) := by decide +kernel
theorem dJ3_checkFromToIndex_8c36e_0 : decode cJ3_checkFromToIndex_8c36e 0 = .ok (.iload_n 0, 1) := by decide +kernel
theorem dJ3_checkFromToIndex_8c36e_1 : decode cJ3_checkFromToIndex_8c36e 1 = .ok (.ifCond .lt 13, 3) := by decide +kernel
theorem dJ3_checkFromToIndex_8c36e_4 : decode cJ3_checkFromToIndex_8c36e 4 = .ok (.iload_n 0, 1) := by decide +kernel
theorem dJ3_checkFromToIndex_8c36e_5 : decode cJ3_checkFromToIndex_8c36e 5 = .ok (.iload_n 1, 1) := by decide +kernel
theorem dJ3_checkFromToIndex_8c36e_6 : decode cJ3_checkFromToIndex_8c36e 6 = .ok (.if_icmp .gt 8, 3) := by decide +kernel
theorem dJ3_checkFromToIndex_8c36e_9 : decode cJ3_checkFromToIndex_8c36e 9 = .ok (.iload_n 1, 1) := by decide +kernel
theorem dJ3_checkFromToIndex_8c36e_10 : decode cJ3_checkFromToIndex_8c36e 10 = .ok (.iload_n 2, 1) := by decide +kernel
theorem dJ3_checkFromToIndex_8c36e_11 : decode cJ3_checkFromToIndex_8c36e 11 = .ok (.if_icmp .le 11, 3) := by decide +kernel
theorem dJ3_checkFromToIndex_8c36e_14 : decode cJ3_checkFromToIndex_8c36e 14 = .ok (.aload_n 3, 1) := by decide +kernel
theorem dJ3_checkFromToIndex_8c36e_15 : decode cJ3_checkFromToIndex_8c36e 15 = .ok (.iload_n 0, 1) := by decide +kernel
theorem dJ3_checkFromToIndex_8c36e_16 : decode cJ3_checkFromToIndex_8c36e 16 = .ok (.iload_n 1, 1) := by decide +kernel
theorem dJ3_checkFromToIndex_8c36e_17 : decode cJ3_checkFromToIndex_8c36e 17 = .ok (.iload_n 2, 1) := by decide +kernel
theorem dJ3_checkFromToIndex_8c36e_18 : decode cJ3_checkFromToIndex_8c36e 18 = .ok (.invokestatic 99, 3) := by decide +kernel
theorem dJ3_checkFromToIndex_8c36e_21 : decode cJ3_checkFromToIndex_8c36e 21 = .ok (.athrow, 1) := by decide +kernel
theorem dJ3_checkFromToIndex_8c36e_22 : decode cJ3_checkFromToIndex_8c36e 22 = .ok (.iload_n 0, 1) := by decide +kernel
theorem dJ3_checkFromToIndex_8c36e_23 : decode cJ3_checkFromToIndex_8c36e 23 = .ok (.ireturn, 1) := by decide +kernel
theorem dJ3_checkFromIndexSize_8c36e_0 : decode cJ3_checkFromIndexSize_8c36e 0 = .ok (.iload_n 2, 1) := by decide +kernel
theorem dJ3_checkFromIndexSize_8c36e_1 : decode cJ3_checkFromIndexSize_8c36e 1 = .ok (.iload_n 0, 1) := by decide +kernel
theorem dJ3_checkFromIndexSize_8c36e_2 : decode cJ3_checkFromIndexSize_8c36e 2 = .ok (.ior, 1) := by decide +kernel
theorem dJ3_checkFromIndexSize_8c36e_3 : decode cJ3_checkFromIndexSize_8c36e 3 = .ok (.iload_n 1, 1) := by decide +kernel
theorem dJ3_checkFromIndexSize_8c36e_4 : decode cJ3_checkFromIndexSize_8c36e 4 = .ok (.ior, 1) := by decide +kernel
theorem dJ3_checkFromIndexSize_8c36e_5 : decode cJ3_checkFromIndexSize_8c36e 5 = .ok (.ifCond .lt 10, 3) := by decide +kernel
theorem dJ3_checkFromIndexSize_8c36e_8 : decode cJ3_checkFromIndexSize_8c36e 8 = .ok (.iload_n 1, 1) := by decide +kernel
theorem dJ3_checkFromIndexSize_8c36e_9 : decode cJ3_checkFromIndexSize_8c36e 9 = .ok (.iload_n 2, 1) := by decide +kernel
theorem dJ3_checkFromIndexSize_8c36e_10 : decode cJ3_checkFromIndexSize_8c36e 10 = .ok (.iload_n 0, 1) := by decide +kernel
theorem dJ3_checkFromIndexSize_8c36e_11 : decode cJ3_checkFromIndexSize_8c36e 11 = .ok (.isub, 1) := by decide +kernel
theorem dJ3_checkFromIndexSize_8c36e_12 : decode cJ3_checkFromIndexSize_8c36e 12 = .ok (.if_icmp .le 11, 3) := by decide +kernel
theorem dJ3_checkFromIndexSize_8c36e_15 : decode cJ3_checkFromIndexSize_8c36e 15 = .ok (.aload_n 3, 1) := by decide +kernel
theorem dJ3_checkFromIndexSize_8c36e_16 : decode cJ3_checkFromIndexSize_8c36e 16 = .ok (.iload_n 0, 1) := by decide +kernel
theorem dJ3_checkFromIndexSize_8c36e_17 : decode cJ3_checkFromIndexSize_8c36e 17 = .ok (.iload_n 1, 1) := by decide +kernel
theorem dJ3_checkFromIndexSize_8c36e_18 : decode cJ3_checkFromIndexSize_8c36e 18 = .ok (.iload_n 2, 1) := by decide +kernel
theorem dJ3_checkFromIndexSize_8c36e_19 : decode cJ3_checkFromIndexSize_8c36e 19 = .ok (.invokestatic 103, 3) := by decide +kernel
theorem dJ3_checkFromIndexSize_8c36e_22 : decode cJ3_checkFromIndexSize_8c36e 22 = .ok (.athrow, 1) := by decide +kernel
theorem dJ3_checkFromIndexSize_8c36e_23 : decode cJ3_checkFromIndexSize_8c36e 23 = .ok (.iload_n 0, 1) := by decide +kernel
theorem dJ3_checkFromIndexSize_8c36e_24 : decode cJ3_checkFromIndexSize_8c36e 24 = .ok (.ireturn, 1) := by decide +kernel
theorem dL_cell_0 : decode cL_cell 0 = .ok (.aload_n 0, 1) := by decide +kernel
theorem dL_cell_1 : decode cL_cell 1 = .ok (.arraylength, 1) := by decide +kernel
theorem dL_cell_2 : decode cL_cell 2 = .ok (.ifCond .ne 11, 3) := by decide +kernel
theorem dL_cell_5 : decode cL_cell 5 = .ok (.sipush 577, 3) := by decide +kernel
theorem dL_cell_8 : decode cL_cell 8 = .ok (.iload_n 1, 1) := by decide +kernel
theorem dL_cell_9 : decode cL_cell 9 = .ok (.imul, 1) := by decide +kernel
theorem dL_cell_10 : decode cL_cell 10 = .ok (.goto 12, 3) := by decide +kernel
theorem dL_cell_13 : decode cL_cell 13 = .ok (.aload_n 0, 1) := by decide +kernel
theorem dL_cell_14 : decode cL_cell 14 = .ok (.iload_n 1, 1) := by decide +kernel
theorem dL_cell_15 : decode cL_cell 15 = .ok (.ldc 9, 2) := by decide +kernel
theorem dL_cell_17 : decode cL_cell 17 = .ok (.iand, 1) := by decide +kernel
theorem dL_cell_18 : decode cL_cell 18 = .ok (.aload_n 0, 1) := by decide +kernel
theorem dL_cell_19 : decode cL_cell 19 = .ok (.arraylength, 1) := by decide +kernel
theorem dL_cell_20 : decode cL_cell 20 = .ok (.irem, 1) := by decide +kernel
theorem dL_cell_21 : decode cL_cell 21 = .ok (.iaload, 1) := by decide +kernel
theorem dL_cell_22 : decode cL_cell 22 = .ok (.ireturn, 1) := by decide +kernel
theorem dL_write_0 : decode cL_write 0 = .ok (.iconst 0, 1) := by decide +kernel
theorem dL_write_1 : decode cL_write 1 = .ok (.istore_n 2, 1) := by decide +kernel
theorem dL_write_2 : decode cL_write 2 = .ok (.iload_n 2, 1) := by decide +kernel
theorem dL_write_3 : decode cL_write 3 = .ok (.aload_n 1, 1) := by decide +kernel
theorem dL_write_4 : decode cL_write 4 = .ok (.invokevirtual 10, 3) := by decide +kernel
theorem dL_write_7 : decode cL_write 7 = .ok (.if_icmp .ge 19, 3) := by decide +kernel
theorem dL_write_10 : decode cL_write 10 = .ok (.aload_n 0, 1) := by decide +kernel
theorem dL_write_11 : decode cL_write 11 = .ok (.aload_n 1, 1) := by decide +kernel
theorem dL_write_12 : decode cL_write 12 = .ok (.iload_n 2, 1) := by decide +kernel
theorem dL_write_13 : decode cL_write 13 = .ok (.invokevirtual 16, 3) := by decide +kernel
theorem dL_write_16 : decode cL_write 16 = .ok (.invokevirtual 20, 3) := by decide +kernel
theorem dL_write_19 : decode cL_write 19 = .ok (.pop, 1) := by decide +kernel
theorem dL_write_20 : decode cL_write 20 = .ok (.iinc 2 1, 3) := by decide +kernel
theorem dL_write_23 : decode cL_write 23 = .ok (.goto (-21), 3) := by decide +kernel
theorem dL_write_26 : decode cL_write 26 = .ok (.aload_n 0, 1) := by decide +kernel
theorem dL_write_27 : decode cL_write 27 = .ok (.areturn, 1) := by decide +kernel
theorem dL_act_0 : decode cL_act 0 = .ok (.iload_n 1, 1) := by decide +kernel
theorem dL_act_1 : decode cL_act 1 = .ok (.iconst 4, 1) := by decide +kernel
theorem dL_act_2 : decode cL_act 2 = .ok (.ishr, 1) := by decide +kernel
theorem dL_act_3 : decode cL_act 3 = .ok (.ldc 9, 2) := by decide +kernel
theorem dL_act_5 : decode cL_act 5 = .ok (.iand, 1) := by decide +kernel
theorem dL_act_6 : decode cL_act 6 = .ok (.istore_n 2, 1) := by decide +kernel
theorem dL_act_7 : decode cL_act 7 = .ok (.iload_n 2, 1) := by decide +kernel
theorem dL_act_8 : decode cL_act 8 = .ok (.iconst 4, 1) := by decide +kernel
theorem dL_act_9 : decode cL_act 9 = .ok (.irem, 1) := by decide +kernel
theorem dL_act_10 : decode cL_act 10 = .ok (.istore_n 3, 1) := by decide +kernel
theorem dL_act_11 : decode cL_act 11 = .ok (.iload_n 2, 1) := by decide +kernel
theorem dL_act_12 : decode cL_act 12 = .ok (.iconst 3, 1) := by decide +kernel
theorem dL_act_13 : decode cL_act 13 = .ok (.ishr, 1) := by decide +kernel
theorem dL_act_14 : decode cL_act 14 = .ok (.bipush 7, 2) := by decide +kernel
theorem dL_act_16 : decode cL_act 16 = .ok (.irem, 1) := by decide +kernel
theorem dL_act_17 : decode cL_act 17 = .ok (.istore 4, 2) := by decide +kernel
theorem dL_act_19 : decode cL_act 19 = .ok (.iload_n 1, 1) := by decide +kernel
theorem dL_act_20 : decode cL_act 20 = .ok (.bipush 15, 2) := by decide +kernel
theorem dL_act_22 : decode cL_act 22 = .ok (.iand, 1) := by decide +kernel
theorem dL_act_23 : decode cL_act 23 = .ok (.tableswitch 247 0 14 #[73, 111, 127, 127, 127, 135, 143, 171, 171, 171, 186, 198, 204, 229, 229], 73) := by decide +kernel
theorem dL_act_96 : decode cL_act 96 = .ok (.iload_n 2, 1) := by decide +kernel
theorem dL_act_97 : decode cL_act 97 = .ok (.bipush 32, 2) := by decide +kernel
theorem dL_act_99 : decode cL_act 99 = .ok (.iand, 1) := by decide +kernel
theorem dL_act_100 : decode cL_act 100 = .ok (.ifCond .ne 22, 3) := by decide +kernel
theorem dL_act_103 : decode cL_act 103 = .ok (.aload_n 0, 1) := by decide +kernel
theorem dL_act_104 : decode cL_act 104 = .ok (.iload_n 2, 1) := by decide +kernel
theorem dL_act_105 : decode cL_act 105 = .ok (.iconst 3, 1) := by decide +kernel
theorem dL_act_106 : decode cL_act 106 = .ok (.ishr, 1) := by decide +kernel
theorem dL_act_107 : decode cL_act 107 = .ok (.bipush 11, 2) := by decide +kernel
theorem dL_act_109 : decode cL_act 109 = .ok (.irem, 1) := by decide +kernel
theorem dL_act_110 : decode cL_act 110 = .ok (.iload_n 2, 1) := by decide +kernel
theorem dL_act_111 : decode cL_act 111 = .ok (.bipush 6, 2) := by decide +kernel
theorem dL_act_113 : decode cL_act 113 = .ok (.ishr, 1) := by decide +kernel
theorem dL_act_114 : decode cL_act 114 = .ok (.iconst 5, 1) := by decide +kernel
theorem dL_act_115 : decode cL_act 115 = .ok (.irem, 1) := by decide +kernel
theorem dL_act_116 : decode cL_act 116 = .ok (.invokevirtual 24, 3) := by decide +kernel
theorem dL_act_119 : decode cL_act 119 = .ok (.goto 14, 3) := by decide +kernel
theorem dL_act_122 : decode cL_act 122 = .ok (.aload_n 0, 1) := by decide +kernel
theorem dL_act_123 : decode cL_act 123 = .ok (.iload_n 2, 1) := by decide +kernel
theorem dL_act_124 : decode cL_act 124 = .ok (.bipush 6, 2) := by decide +kernel
theorem dL_act_126 : decode cL_act 126 = .ok (.ishr, 1) := by decide +kernel
theorem dL_act_127 : decode cL_act 127 = .ok (.bipush 40, 2) := by decide +kernel
theorem dL_act_129 : decode cL_act 129 = .ok (.irem, 1) := by decide +kernel
theorem dL_act_130 : decode cL_act 130 = .ok (.invokevirtual 28, 3) := by decide +kernel
theorem dL_act_133 : decode cL_act 133 = .ok (.ireturn, 1) := by decide +kernel
theorem dL_act_134 : decode cL_act 134 = .ok (.aload_n 0, 1) := by decide +kernel
theorem dL_act_135 : decode cL_act 135 = .ok (.iload_n 2, 1) := by decide +kernel
theorem dL_act_136 : decode cL_act 136 = .ok (.iconst 3, 1) := by decide +kernel
theorem dL_act_137 : decode cL_act 137 = .ok (.ishr, 1) := by decide +kernel
theorem dL_act_138 : decode cL_act 138 = .ok (.iconst 5, 1) := by decide +kernel
theorem dL_act_139 : decode cL_act 139 = .ok (.irem, 1) := by decide +kernel
theorem dL_act_140 : decode cL_act 140 = .ok (.iload_n 2, 1) := by decide +kernel
theorem dL_act_141 : decode cL_act 141 = .ok (.iconst 5, 1) := by decide +kernel
theorem dL_act_142 : decode cL_act 142 = .ok (.ishr, 1) := by decide +kernel
theorem dL_act_143 : decode cL_act 143 = .ok (.bipush 11, 2) := by decide +kernel
theorem dL_act_145 : decode cL_act 145 = .ok (.irem, 1) := by decide +kernel
theorem dL_act_146 : decode cL_act 146 = .ok (.invokevirtual 32, 3) := by decide +kernel
theorem dL_act_149 : decode cL_act 149 = .ok (.ireturn, 1) := by decide +kernel
theorem dL_act_150 : decode cL_act 150 = .ok (.aload_n 0, 1) := by decide +kernel
theorem dL_act_151 : decode cL_act 151 = .ok (.iload_n 3, 1) := by decide +kernel
theorem dL_act_152 : decode cL_act 152 = .ok (.iload 4, 2) := by decide +kernel
theorem dL_act_154 : decode cL_act 154 = .ok (.invokevirtual 35, 3) := by decide +kernel
theorem dL_act_157 : decode cL_act 157 = .ok (.ireturn, 1) := by decide +kernel
theorem dL_act_158 : decode cL_act 158 = .ok (.aload_n 0, 1) := by decide +kernel
theorem dL_act_159 : decode cL_act 159 = .ok (.iload_n 3, 1) := by decide +kernel
theorem dL_act_160 : decode cL_act 160 = .ok (.iload 4, 2) := by decide +kernel
theorem dL_act_162 : decode cL_act 162 = .ok (.invokevirtual 38, 3) := by decide +kernel
theorem dL_act_165 : decode cL_act 165 = .ok (.ireturn, 1) := by decide +kernel
theorem dL_act_166 : decode cL_act 166 = .ok (.iload_n 2, 1) := by decide +kernel
theorem dL_act_167 : decode cL_act 167 = .ok (.bipush 32, 2) := by decide +kernel
theorem dL_act_169 : decode cL_act 169 = .ok (.iand, 1) := by decide +kernel
theorem dL_act_170 : decode cL_act 170 = .ok (.ifCond .ne 12, 3) := by decide +kernel
theorem dL_act_173 : decode cL_act 173 = .ok (.aload_n 0, 1) := by decide +kernel
theorem dL_act_174 : decode cL_act 174 = .ok (.iload 4, 2) := by decide +kernel
theorem dL_act_176 : decode cL_act 176 = .ok (.invokevirtual 41, 3) := by decide +kernel
theorem dL_act_179 : decode cL_act 179 = .ok (.goto 14, 3) := by decide +kernel
theorem dL_act_182 : decode cL_act 182 = .ok (.aload_n 0, 1) := by decide +kernel
theorem dL_act_183 : decode cL_act 183 = .ok (.iload_n 3, 1) := by decide +kernel
theorem dL_act_184 : decode cL_act 184 = .ok (.iload_n 2, 1) := by decide +kernel
theorem dL_act_185 : decode cL_act 185 = .ok (.bipush 6, 2) := by decide +kernel
theorem dL_act_187 : decode cL_act 187 = .ok (.ishr, 1) := by decide +kernel
theorem dL_act_188 : decode cL_act 188 = .ok (.iconst 4, 1) := by decide +kernel
theorem dL_act_189 : decode cL_act 189 = .ok (.irem, 1) := by decide +kernel
theorem dL_act_190 : decode cL_act 190 = .ok (.invokevirtual 44, 3) := by decide +kernel
theorem dL_act_193 : decode cL_act 193 = .ok (.ireturn, 1) := by decide +kernel
theorem dL_act_194 : decode cL_act 194 = .ok (.aload_n 0, 1) := by decide +kernel
theorem dL_act_195 : decode cL_act 195 = .ok (.iload_n 3, 1) := by decide +kernel
theorem dL_act_196 : decode cL_act 196 = .ok (.iload 4, 2) := by decide +kernel
theorem dL_act_198 : decode cL_act 198 = .ok (.iload_n 2, 1) := by decide +kernel
theorem dL_act_199 : decode cL_act 199 = .ok (.bipush 6, 2) := by decide +kernel
theorem dL_act_201 : decode cL_act 201 = .ok (.ishr, 1) := by decide +kernel
theorem dL_act_202 : decode cL_act 202 = .ok (.bipush 11, 2) := by decide +kernel
theorem dL_act_204 : decode cL_act 204 = .ok (.irem, 1) := by decide +kernel
theorem dL_act_205 : decode cL_act 205 = .ok (.invokevirtual 47, 3) := by decide +kernel
theorem dL_act_208 : decode cL_act 208 = .ok (.ireturn, 1) := by decide +kernel
theorem dL_act_209 : decode cL_act 209 = .ok (.aload_n 0, 1) := by decide +kernel
theorem dL_act_210 : decode cL_act 210 = .ok (.iload_n 3, 1) := by decide +kernel
theorem dL_act_211 : decode cL_act 211 = .ok (.iload_n 2, 1) := by decide +kernel
theorem dL_act_212 : decode cL_act 212 = .ok (.iconst 5, 1) := by decide +kernel
theorem dL_act_213 : decode cL_act 213 = .ok (.ishr, 1) := by decide +kernel
theorem dL_act_214 : decode cL_act 214 = .ok (.bipush 12, 2) := by decide +kernel
theorem dL_act_216 : decode cL_act 216 = .ok (.irem, 1) := by decide +kernel
theorem dL_act_217 : decode cL_act 217 = .ok (.invokevirtual 51, 3) := by decide +kernel
theorem dL_act_220 : decode cL_act 220 = .ok (.ireturn, 1) := by decide +kernel
theorem dL_act_221 : decode cL_act 221 = .ok (.aload_n 0, 1) := by decide +kernel
theorem dL_act_222 : decode cL_act 222 = .ok (.iload_n 3, 1) := by decide +kernel
theorem dL_act_223 : decode cL_act 223 = .ok (.invokevirtual 54, 3) := by decide +kernel
theorem dL_act_226 : decode cL_act 226 = .ok (.ireturn, 1) := by decide +kernel
theorem dL_act_227 : decode cL_act 227 = .ok (.iload_n 2, 1) := by decide +kernel
theorem dL_act_228 : decode cL_act 228 = .ok (.bipush 32, 2) := by decide +kernel
theorem dL_act_230 : decode cL_act 230 = .ok (.iand, 1) := by decide +kernel
theorem dL_act_231 : decode cL_act 231 = .ok (.ifCond .ne 16, 3) := by decide +kernel
theorem dL_act_234 : decode cL_act 234 = .ok (.aload_n 0, 1) := by decide +kernel
theorem dL_act_235 : decode cL_act 235 = .ok (.iload_n 2, 1) := by decide +kernel
theorem dL_act_236 : decode cL_act 236 = .ok (.iconst 3, 1) := by decide +kernel
theorem dL_act_237 : decode cL_act 237 = .ok (.ishr, 1) := by decide +kernel
theorem dL_act_238 : decode cL_act 238 = .ok (.bipush 6, 2) := by decide +kernel
theorem dL_act_240 : decode cL_act 240 = .ok (.irem, 1) := by decide +kernel
theorem dL_act_241 : decode cL_act 241 = .ok (.invokevirtual 57, 3) := by decide +kernel
theorem dL_act_244 : decode cL_act 244 = .ok (.goto 7, 3) := by decide +kernel
theorem dL_act_247 : decode cL_act 247 = .ok (.aload_n 0, 1) := by decide +kernel
theorem dL_act_248 : decode cL_act 248 = .ok (.invokevirtual 60, 3) := by decide +kernel
theorem dL_act_251 : decode cL_act 251 = .ok (.ireturn, 1) := by decide +kernel
theorem dL_act_252 : decode cL_act 252 = .ok (.aload_n 0, 1) := by decide +kernel
theorem dL_act_253 : decode cL_act 253 = .ok (.getstatic 63, 3) := by decide +kernel
theorem dL_act_256 : decode cL_act 256 = .ok (.iload_n 2, 1) := by decide +kernel
theorem dL_act_257 : decode cL_act 257 = .ok (.getstatic 63, 3) := by decide +kernel
theorem dL_act_260 : decode cL_act 260 = .ok (.arraylength, 1) := by decide +kernel
theorem dL_act_261 : decode cL_act 261 = .ok (.irem, 1) := by decide +kernel
theorem dL_act_262 : decode cL_act 262 = .ok (.aaload, 1) := by decide +kernel
theorem dL_act_263 : decode cL_act 263 = .ok (.invokestatic 69, 3) := by decide +kernel
theorem dL_act_266 : decode cL_act 266 = .ok (.invokevirtual 73, 3) := by decide +kernel
theorem dL_act_269 : decode cL_act 269 = .ok (.ireturn, 1) := by decide +kernel
theorem dL_act_270 : decode cL_act 270 = .ok (.iload_n 2, 1) := by decide +kernel
theorem dL_act_271 : decode cL_act 271 = .ok (.iconst 3, 1) := by decide +kernel
theorem dL_act_272 : decode cL_act 272 = .ok (.iand, 1) := by decide +kernel
theorem dL_act_273 : decode cL_act 273 = .ok (.ifCond .ne 10, 3) := by decide +kernel
theorem dL_act_276 : decode cL_act 276 = .ok (.aload_n 0, 1) := by decide +kernel
theorem dL_act_277 : decode cL_act 277 = .ok (.invokevirtual 76, 3) := by decide +kernel
theorem dL_act_280 : decode cL_act 280 = .ok (.goto 21, 3) := by decide +kernel
theorem dL_act_283 : decode cL_act 283 = .ok (.iload_n 2, 1) := by decide +kernel
theorem dL_act_284 : decode cL_act 284 = .ok (.iconst 3, 1) := by decide +kernel
theorem dL_act_285 : decode cL_act 285 = .ok (.iand, 1) := by decide +kernel
theorem dL_act_286 : decode cL_act 286 = .ok (.iconst 1, 1) := by decide +kernel
theorem dL_act_287 : decode cL_act 287 = .ok (.if_icmp .ne 10, 3) := by decide +kernel
theorem dL_act_290 : decode cL_act 290 = .ok (.aload_n 0, 1) := by decide +kernel
theorem dL_act_291 : decode cL_act 291 = .ok (.invokevirtual 79, 3) := by decide +kernel
theorem dL_act_294 : decode cL_act 294 = .ok (.goto 7, 3) := by decide +kernel
theorem dL_act_297 : decode cL_act 297 = .ok (.aload_n 0, 1) := by decide +kernel
theorem dL_act_298 : decode cL_act 298 = .ok (.invokevirtual 82, 3) := by decide +kernel
theorem dL_act_301 : decode cL_act 301 = .ok (.ireturn, 1) := by decide +kernel
theorem dL_digest_0 : decode cL_digest 0 = .ok (.ldc2_w 85, 3) := by decide +kernel
theorem dL_digest_3 : decode cL_digest 3 = .ok (.lstore_n 1, 1) := by decide +kernel
theorem dL_digest_4 : decode cL_digest 4 = .ok (.iconst 0, 1) := by decide +kernel
theorem dL_digest_5 : decode cL_digest 5 = .ok (.istore_n 3, 1) := by decide +kernel
theorem dL_digest_6 : decode cL_digest 6 = .ok (.iload_n 3, 1) := by decide +kernel
theorem dL_digest_7 : decode cL_digest 7 = .ok (.bipush 12, 2) := by decide +kernel
theorem dL_digest_9 : decode cL_digest 9 = .ok (.if_icmp .ge 22, 3) := by decide +kernel
theorem dL_digest_12 : decode cL_digest 12 = .ok (.ldc2_w 87, 3) := by decide +kernel
theorem dL_digest_15 : decode cL_digest 15 = .ok (.lload_n 1, 1) := by decide +kernel
theorem dL_digest_16 : decode cL_digest 16 = .ok (.lmul, 1) := by decide +kernel
theorem dL_digest_17 : decode cL_digest 17 = .ok (.aload_n 0, 1) := by decide +kernel
theorem dL_digest_18 : decode cL_digest 18 = .ok (.iload_n 3, 1) := by decide +kernel
theorem dL_digest_19 : decode cL_digest 19 = .ok (.invokevirtual 89, 3) := by decide +kernel
theorem dL_digest_22 : decode cL_digest 22 = .ok (.i2l, 1) := by decide +kernel
theorem dL_digest_23 : decode cL_digest 23 = .ok (.ladd, 1) := by decide +kernel
theorem dL_digest_24 : decode cL_digest 24 = .ok (.lstore_n 1, 1) := by decide +kernel
theorem dL_digest_25 : decode cL_digest 25 = .ok (.iinc 3 1, 3) := by decide +kernel
theorem dL_digest_28 : decode cL_digest 28 = .ok (.goto (-22), 3) := by decide +kernel
theorem dL_digest_31 : decode cL_digest 31 = .ok (.iconst 0, 1) := by decide +kernel
theorem dL_digest_32 : decode cL_digest 32 = .ok (.istore_n 3, 1) := by decide +kernel
theorem dL_digest_33 : decode cL_digest 33 = .ok (.iload_n 3, 1) := by decide +kernel
theorem dL_digest_34 : decode cL_digest 34 = .ok (.iconst 4, 1) := by decide +kernel
theorem dL_digest_35 : decode cL_digest 35 = .ok (.if_icmp .ge 22, 3) := by decide +kernel
theorem dL_digest_38 : decode cL_digest 38 = .ok (.ldc2_w 87, 3) := by decide +kernel
theorem dL_digest_41 : decode cL_digest 41 = .ok (.lload_n 1, 1) := by decide +kernel
theorem dL_digest_42 : decode cL_digest 42 = .ok (.lmul, 1) := by decide +kernel
theorem dL_digest_43 : decode cL_digest 43 = .ok (.aload_n 0, 1) := by decide +kernel
theorem dL_digest_44 : decode cL_digest 44 = .ok (.iload_n 3, 1) := by decide +kernel
theorem dL_digest_45 : decode cL_digest 45 = .ok (.invokevirtual 92, 3) := by decide +kernel
theorem dL_digest_48 : decode cL_digest 48 = .ok (.i2l, 1) := by decide +kernel
theorem dL_digest_49 : decode cL_digest 49 = .ok (.ladd, 1) := by decide +kernel
theorem dL_digest_50 : decode cL_digest 50 = .ok (.lstore_n 1, 1) := by decide +kernel
theorem dL_digest_51 : decode cL_digest 51 = .ok (.iinc 3 1, 3) := by decide +kernel
theorem dL_digest_54 : decode cL_digest 54 = .ok (.goto (-21), 3) := by decide +kernel
theorem dL_digest_57 : decode cL_digest 57 = .ok (.iconst 0, 1) := by decide +kernel
theorem dL_digest_58 : decode cL_digest 58 = .ok (.istore_n 3, 1) := by decide +kernel
theorem dL_digest_59 : decode cL_digest 59 = .ok (.iload_n 3, 1) := by decide +kernel
theorem dL_digest_60 : decode cL_digest 60 = .ok (.aload_n 0, 1) := by decide +kernel
theorem dL_digest_61 : decode cL_digest 61 = .ok (.iconst 0, 1) := by decide +kernel
theorem dL_digest_62 : decode cL_digest 62 = .ok (.invokevirtual 89, 3) := by decide +kernel
theorem dL_digest_65 : decode cL_digest 65 = .ok (.if_icmp .ge 40, 3) := by decide +kernel
theorem dL_digest_68 : decode cL_digest 68 = .ok (.iconst 0, 1) := by decide +kernel
theorem dL_digest_69 : decode cL_digest 69 = .ok (.istore 4, 2) := by decide +kernel
theorem dL_digest_71 : decode cL_digest 71 = .ok (.iload 4, 2) := by decide +kernel
theorem dL_digest_73 : decode cL_digest 73 = .ok (.bipush 6, 2) := by decide +kernel
theorem dL_digest_75 : decode cL_digest 75 = .ok (.if_icmp .ge 24, 3) := by decide +kernel
theorem dL_digest_78 : decode cL_digest 78 = .ok (.ldc2_w 87, 3) := by decide +kernel
theorem dL_digest_81 : decode cL_digest 81 = .ok (.lload_n 1, 1) := by decide +kernel
theorem dL_digest_82 : decode cL_digest 82 = .ok (.lmul, 1) := by decide +kernel
theorem dL_digest_83 : decode cL_digest 83 = .ok (.aload_n 0, 1) := by decide +kernel
theorem dL_digest_84 : decode cL_digest 84 = .ok (.iload_n 3, 1) := by decide +kernel
theorem dL_digest_85 : decode cL_digest 85 = .ok (.iload 4, 2) := by decide +kernel
theorem dL_digest_87 : decode cL_digest 87 = .ok (.invokevirtual 95, 3) := by decide +kernel
theorem dL_digest_90 : decode cL_digest 90 = .ok (.i2l, 1) := by decide +kernel
theorem dL_digest_91 : decode cL_digest 91 = .ok (.ladd, 1) := by decide +kernel
theorem dL_digest_92 : decode cL_digest 92 = .ok (.lstore_n 1, 1) := by decide +kernel
theorem dL_digest_93 : decode cL_digest 93 = .ok (.iinc 4 1, 3) := by decide +kernel
theorem dL_digest_96 : decode cL_digest 96 = .ok (.goto (-25), 3) := by decide +kernel
theorem dL_digest_99 : decode cL_digest 99 = .ok (.iinc 3 1, 3) := by decide +kernel
theorem dL_digest_102 : decode cL_digest 102 = .ok (.goto (-43), 3) := by decide +kernel
theorem dL_digest_105 : decode cL_digest 105 = .ok (.iconst 0, 1) := by decide +kernel
theorem dL_digest_106 : decode cL_digest 106 = .ok (.istore_n 3, 1) := by decide +kernel
theorem dL_digest_107 : decode cL_digest 107 = .ok (.iload_n 3, 1) := by decide +kernel
theorem dL_digest_108 : decode cL_digest 108 = .ok (.aload_n 0, 1) := by decide +kernel
theorem dL_digest_109 : decode cL_digest 109 = .ok (.iconst 1, 1) := by decide +kernel
theorem dL_digest_110 : decode cL_digest 110 = .ok (.invokevirtual 89, 3) := by decide +kernel
theorem dL_digest_113 : decode cL_digest 113 = .ok (.if_icmp .ge 53, 3) := by decide +kernel
theorem dL_digest_116 : decode cL_digest 116 = .ok (.iconst 0, 1) := by decide +kernel
theorem dL_digest_117 : decode cL_digest 117 = .ok (.istore 4, 2) := by decide +kernel
theorem dL_digest_119 : decode cL_digest 119 = .ok (.iload 4, 2) := by decide +kernel
theorem dL_digest_121 : decode cL_digest 121 = .ok (.bipush 9, 2) := by decide +kernel
theorem dL_digest_123 : decode cL_digest 123 = .ok (.if_icmp .ge 24, 3) := by decide +kernel
theorem dL_digest_126 : decode cL_digest 126 = .ok (.ldc2_w 87, 3) := by decide +kernel
theorem dL_digest_129 : decode cL_digest 129 = .ok (.lload_n 1, 1) := by decide +kernel
theorem dL_digest_130 : decode cL_digest 130 = .ok (.lmul, 1) := by decide +kernel
theorem dL_digest_131 : decode cL_digest 131 = .ok (.aload_n 0, 1) := by decide +kernel
theorem dL_digest_132 : decode cL_digest 132 = .ok (.iload_n 3, 1) := by decide +kernel
theorem dL_digest_133 : decode cL_digest 133 = .ok (.iload 4, 2) := by decide +kernel
theorem dL_digest_135 : decode cL_digest 135 = .ok (.invokevirtual 98, 3) := by decide +kernel
theorem dL_digest_138 : decode cL_digest 138 = .ok (.i2l, 1) := by decide +kernel
theorem dL_digest_139 : decode cL_digest 139 = .ok (.ladd, 1) := by decide +kernel
theorem dL_digest_140 : decode cL_digest 140 = .ok (.lstore_n 1, 1) := by decide +kernel
theorem dL_digest_141 : decode cL_digest 141 = .ok (.iinc 4 1, 3) := by decide +kernel
theorem dL_digest_144 : decode cL_digest 144 = .ok (.goto (-25), 3) := by decide +kernel
theorem dL_digest_147 : decode cL_digest 147 = .ok (.ldc2_w 87, 3) := by decide +kernel
theorem dL_digest_150 : decode cL_digest 150 = .ok (.lload_n 1, 1) := by decide +kernel
theorem dL_digest_151 : decode cL_digest 151 = .ok (.lmul, 1) := by decide +kernel
theorem dL_digest_152 : decode cL_digest 152 = .ok (.aload_n 0, 1) := by decide +kernel
theorem dL_digest_153 : decode cL_digest 153 = .ok (.iload_n 3, 1) := by decide +kernel
theorem dL_digest_154 : decode cL_digest 154 = .ok (.invokevirtual 101, 3) := by decide +kernel
theorem dL_digest_157 : decode cL_digest 157 = .ok (.i2l, 1) := by decide +kernel
theorem dL_digest_158 : decode cL_digest 158 = .ok (.ladd, 1) := by decide +kernel
theorem dL_digest_159 : decode cL_digest 159 = .ok (.lstore_n 1, 1) := by decide +kernel
theorem dL_digest_160 : decode cL_digest 160 = .ok (.iinc 3 1, 3) := by decide +kernel
theorem dL_digest_163 : decode cL_digest 163 = .ok (.goto (-56), 3) := by decide +kernel
theorem dL_digest_166 : decode cL_digest 166 = .ok (.iconst 0, 1) := by decide +kernel
theorem dL_digest_167 : decode cL_digest 167 = .ok (.istore_n 3, 1) := by decide +kernel
theorem dL_digest_168 : decode cL_digest 168 = .ok (.iload_n 3, 1) := by decide +kernel
theorem dL_digest_169 : decode cL_digest 169 = .ok (.aload_n 0, 1) := by decide +kernel
theorem dL_digest_170 : decode cL_digest 170 = .ok (.iconst 2, 1) := by decide +kernel
theorem dL_digest_171 : decode cL_digest 171 = .ok (.invokevirtual 89, 3) := by decide +kernel
theorem dL_digest_174 : decode cL_digest 174 = .ok (.if_icmp .ge 40, 3) := by decide +kernel
theorem dL_digest_177 : decode cL_digest 177 = .ok (.iconst 0, 1) := by decide +kernel
theorem dL_digest_178 : decode cL_digest 178 = .ok (.istore 4, 2) := by decide +kernel
theorem dL_digest_180 : decode cL_digest 180 = .ok (.iload 4, 2) := by decide +kernel
theorem dL_digest_182 : decode cL_digest 182 = .ok (.bipush 6, 2) := by decide +kernel
theorem dL_digest_184 : decode cL_digest 184 = .ok (.if_icmp .ge 24, 3) := by decide +kernel
theorem dL_digest_187 : decode cL_digest 187 = .ok (.ldc2_w 87, 3) := by decide +kernel
theorem dL_digest_190 : decode cL_digest 190 = .ok (.lload_n 1, 1) := by decide +kernel
theorem dL_digest_191 : decode cL_digest 191 = .ok (.lmul, 1) := by decide +kernel
theorem dL_digest_192 : decode cL_digest 192 = .ok (.aload_n 0, 1) := by decide +kernel
theorem dL_digest_193 : decode cL_digest 193 = .ok (.iload_n 3, 1) := by decide +kernel
theorem dL_digest_194 : decode cL_digest 194 = .ok (.iload 4, 2) := by decide +kernel
theorem dL_digest_196 : decode cL_digest 196 = .ok (.invokevirtual 104, 3) := by decide +kernel
theorem dL_digest_199 : decode cL_digest 199 = .ok (.i2l, 1) := by decide +kernel
theorem dL_digest_200 : decode cL_digest 200 = .ok (.ladd, 1) := by decide +kernel
theorem dL_digest_201 : decode cL_digest 201 = .ok (.lstore_n 1, 1) := by decide +kernel
theorem dL_digest_202 : decode cL_digest 202 = .ok (.iinc 4 1, 3) := by decide +kernel
theorem dL_digest_205 : decode cL_digest 205 = .ok (.goto (-25), 3) := by decide +kernel
theorem dL_digest_208 : decode cL_digest 208 = .ok (.iinc 3 1, 3) := by decide +kernel
theorem dL_digest_211 : decode cL_digest 211 = .ok (.goto (-43), 3) := by decide +kernel
theorem dL_digest_214 : decode cL_digest 214 = .ok (.lload_n 1, 1) := by decide +kernel
theorem dL_digest_215 : decode cL_digest 215 = .ok (.lreturn, 1) := by decide +kernel
theorem dL_areStars_0 : decode cL_areStars 0 = .ok (.iconst 0, 1) := by decide +kernel
theorem dL_areStars_1 : decode cL_areStars 1 = .ok (.istore_n 1, 1) := by decide +kernel
theorem dL_areStars_2 : decode cL_areStars 2 = .ok (.iconst 0, 1) := by decide +kernel
theorem dL_areStars_3 : decode cL_areStars 3 = .ok (.istore_n 2, 1) := by decide +kernel
theorem dL_areStars_4 : decode cL_areStars 4 = .ok (.iconst 0, 1) := by decide +kernel
theorem dL_areStars_5 : decode cL_areStars 5 = .ok (.istore_n 3, 1) := by decide +kernel
theorem dL_areStars_6 : decode cL_areStars 6 = .ok (.iconst 1, 1) := by decide +kernel
theorem dL_areStars_7 : decode cL_areStars 7 = .ok (.istore 4, 2) := by decide +kernel
theorem dL_areStars_9 : decode cL_areStars 9 = .ok (.iconst 0, 1) := by decide +kernel
theorem dL_areStars_10 : decode cL_areStars 10 = .ok (.istore 5, 2) := by decide +kernel
theorem dL_areStars_12 : decode cL_areStars 12 = .ok (.iload 4, 2) := by decide +kernel
theorem dL_areStars_14 : decode cL_areStars 14 = .ok (.ifCond .eq 175, 3) := by decide +kernel
theorem dL_areStars_17 : decode cL_areStars 17 = .ok (.iload 5, 2) := by decide +kernel
theorem dL_areStars_19 : decode cL_areStars 19 = .ok (.aload_n 0, 1) := by decide +kernel
theorem dL_areStars_20 : decode cL_areStars 20 = .ok (.iconst 0, 1) := by decide +kernel
theorem dL_areStars_21 : decode cL_areStars 21 = .ok (.invokevirtual 89, 3) := by decide +kernel
theorem dL_areStars_24 : decode cL_areStars 24 = .ok (.if_icmp .ge 165, 3) := by decide +kernel
theorem dL_areStars_27 : decode cL_areStars 27 = .ok (.aload_n 0, 1) := by decide +kernel
theorem dL_areStars_28 : decode cL_areStars 28 = .ok (.iload 5, 2) := by decide +kernel
theorem dL_areStars_30 : decode cL_areStars 30 = .ok (.iconst 0, 1) := by decide +kernel
theorem dL_areStars_31 : decode cL_areStars 31 = .ok (.invokevirtual 95, 3) := by decide +kernel
theorem dL_areStars_34 : decode cL_areStars 34 = .ok (.aload_n 0, 1) := by decide +kernel
theorem dL_areStars_35 : decode cL_areStars 35 = .ok (.aload_n 0, 1) := by decide +kernel
theorem dL_areStars_36 : decode cL_areStars 36 = .ok (.iload 5, 2) := by decide +kernel
theorem dL_areStars_38 : decode cL_areStars 38 = .ok (.iconst 1, 1) := by decide +kernel
theorem dL_areStars_39 : decode cL_areStars 39 = .ok (.invokevirtual 95, 3) := by decide +kernel
theorem dL_areStars_42 : decode cL_areStars 42 = .ok (.invokevirtual 92, 3) := by decide +kernel
theorem dL_areStars_45 : decode cL_areStars 45 = .ok (.if_icmp .le 7, 3) := by decide +kernel
theorem dL_areStars_48 : decode cL_areStars 48 = .ok (.iconst 1, 1) := by decide +kernel
theorem dL_areStars_49 : decode cL_areStars 49 = .ok (.goto 4, 3) := by decide +kernel
theorem dL_areStars_52 : decode cL_areStars 52 = .ok (.iconst 0, 1) := by decide +kernel
theorem dL_areStars_53 : decode cL_areStars 53 = .ok (.istore 6, 2) := by decide +kernel
theorem dL_areStars_55 : decode cL_areStars 55 = .ok (.iload_n 1, 1) := by decide +kernel
theorem dL_areStars_56 : decode cL_areStars 56 = .ok (.aload_n 0, 1) := by decide +kernel
theorem dL_areStars_57 : decode cL_areStars 57 = .ok (.iload 5, 2) := by decide +kernel
theorem dL_areStars_59 : decode cL_areStars 59 = .ok (.iconst 3, 1) := by decide +kernel
theorem dL_areStars_60 : decode cL_areStars 60 = .ok (.invokevirtual 95, 3) := by decide +kernel
theorem dL_areStars_63 : decode cL_areStars 63 = .ok (.bipush (-4), 2) := by decide +kernel
theorem dL_areStars_65 : decode cL_areStars 65 = .ok (.if_icmp .ne 7, 3) := by decide +kernel
theorem dL_areStars_68 : decode cL_areStars 68 = .ok (.iconst 0, 1) := by decide +kernel
theorem dL_areStars_69 : decode cL_areStars 69 = .ok (.goto 4, 3) := by decide +kernel
theorem dL_areStars_72 : decode cL_areStars 72 = .ok (.iconst 1, 1) := by decide +kernel
theorem dL_areStars_73 : decode cL_areStars 73 = .ok (.iadd, 1) := by decide +kernel
theorem dL_areStars_74 : decode cL_areStars 74 = .ok (.istore_n 1, 1) := by decide +kernel
theorem dL_areStars_75 : decode cL_areStars 75 = .ok (.iload_n 2, 1) := by decide +kernel
theorem dL_areStars_76 : decode cL_areStars 76 = .ok (.aload_n 0, 1) := by decide +kernel
theorem dL_areStars_77 : decode cL_areStars 77 = .ok (.iload 5, 2) := by decide +kernel
theorem dL_areStars_79 : decode cL_areStars 79 = .ok (.iconst 4, 1) := by decide +kernel
theorem dL_areStars_80 : decode cL_areStars 80 = .ok (.invokevirtual 95, 3) := by decide +kernel
theorem dL_areStars_83 : decode cL_areStars 83 = .ok (.iadd, 1) := by decide +kernel
theorem dL_areStars_84 : decode cL_areStars 84 = .ok (.istore_n 2, 1) := by decide +kernel
theorem dL_areStars_85 : decode cL_areStars 85 = .ok (.aload_n 0, 1) := by decide +kernel
theorem dL_areStars_86 : decode cL_areStars 86 = .ok (.iload 5, 2) := by decide +kernel
theorem dL_areStars_88 : decode cL_areStars 88 = .ok (.iconst 2, 1) := by decide +kernel
theorem dL_areStars_89 : decode cL_areStars 89 = .ok (.invokevirtual 95, 3) := by decide +kernel
theorem dL_areStars_92 : decode cL_areStars 92 = .ok (.iconst 1, 1) := by decide +kernel
theorem dL_areStars_93 : decode cL_areStars 93 = .ok (.if_icmp .ne 7, 3) := by decide +kernel
theorem dL_areStars_96 : decode cL_areStars 96 = .ok (.iconst 1, 1) := by decide +kernel
theorem dL_areStars_97 : decode cL_areStars 97 = .ok (.goto 4, 3) := by decide +kernel
theorem dL_areStars_100 : decode cL_areStars 100 = .ok (.iconst 0, 1) := by decide +kernel
theorem dL_areStars_101 : decode cL_areStars 101 = .ok (.iload 6, 2) := by decide +kernel
theorem dL_areStars_103 : decode cL_areStars 103 = .ok (.if_icmp .ne 7, 3) := by decide +kernel
theorem dL_areStars_106 : decode cL_areStars 106 = .ok (.iconst 1, 1) := by decide +kernel
theorem dL_areStars_107 : decode cL_areStars 107 = .ok (.goto 4, 3) := by decide +kernel
theorem dL_areStars_110 : decode cL_areStars 110 = .ok (.iconst 0, 1) := by decide +kernel
theorem dL_areStars_111 : decode cL_areStars 111 = .ok (.istore 4, 2) := by decide +kernel
theorem dL_areStars_113 : decode cL_areStars 113 = .ok (.iconst 0, 1) := by decide +kernel
theorem dL_areStars_114 : decode cL_areStars 114 = .ok (.istore 7, 2) := by decide +kernel
theorem dL_areStars_116 : decode cL_areStars 116 = .ok (.iload 4, 2) := by decide +kernel
theorem dL_areStars_118 : decode cL_areStars 118 = .ok (.ifCond .eq 65, 3) := by decide +kernel
theorem dL_areStars_121 : decode cL_areStars 121 = .ok (.iload 7, 2) := by decide +kernel
theorem dL_areStars_123 : decode cL_areStars 123 = .ok (.aload_n 0, 1) := by decide +kernel
theorem dL_areStars_124 : decode cL_areStars 124 = .ok (.iconst 1, 1) := by decide +kernel
theorem dL_areStars_125 : decode cL_areStars 125 = .ok (.invokevirtual 89, 3) := by decide +kernel
theorem dL_areStars_128 : decode cL_areStars 128 = .ok (.if_icmp .ge 55, 3) := by decide +kernel
theorem dL_areStars_131 : decode cL_areStars 131 = .ok (.aload_n 0, 1) := by decide +kernel
theorem dL_areStars_132 : decode cL_areStars 132 = .ok (.iload 7, 2) := by decide +kernel
theorem dL_areStars_134 : decode cL_areStars 134 = .ok (.iload 5, 2) := by decide +kernel
theorem dL_areStars_136 : decode cL_areStars 136 = .ok (.invokevirtual 107, 3) := by decide +kernel
theorem dL_areStars_139 : decode cL_areStars 139 = .ok (.iload 6, 2) := by decide +kernel
theorem dL_areStars_141 : decode cL_areStars 141 = .ok (.ifCond .eq 25, 3) := by decide +kernel
theorem dL_areStars_144 : decode cL_areStars 144 = .ok (.aload_n 0, 1) := by decide +kernel
theorem dL_areStars_145 : decode cL_areStars 145 = .ok (.iload 5, 2) := by decide +kernel
theorem dL_areStars_147 : decode cL_areStars 147 = .ok (.iconst 3, 1) := by decide +kernel
theorem dL_areStars_148 : decode cL_areStars 148 = .ok (.invokevirtual 95, 3) := by decide +kernel
theorem dL_areStars_151 : decode cL_areStars 151 = .ok (.iload 7, 2) := by decide +kernel
theorem dL_areStars_153 : decode cL_areStars 153 = .ok (.if_icmp .eq 13, 3) := by decide +kernel
theorem dL_areStars_156 : decode cL_areStars 156 = .ok (.aload_n 0, 1) := by decide +kernel
theorem dL_areStars_157 : decode cL_areStars 157 = .ok (.iload 5, 2) := by decide +kernel
theorem dL_areStars_159 : decode cL_areStars 159 = .ok (.iconst 0, 1) := by decide +kernel
theorem dL_areStars_160 : decode cL_areStars 160 = .ok (.invokevirtual 95, 3) := by decide +kernel
theorem dL_areStars_163 : decode cL_areStars 163 = .ok (.goto 4, 3) := by decide +kernel
theorem dL_areStars_166 : decode cL_areStars 166 = .ok (.iconst 0, 1) := by decide +kernel
theorem dL_areStars_167 : decode cL_areStars 167 = .ok (.if_icmp .ne 7, 3) := by decide +kernel
theorem dL_areStars_170 : decode cL_areStars 170 = .ok (.iconst 1, 1) := by decide +kernel
theorem dL_areStars_171 : decode cL_areStars 171 = .ok (.goto 4, 3) := by decide +kernel
theorem dL_areStars_174 : decode cL_areStars 174 = .ok (.iconst 0, 1) := by decide +kernel
theorem dL_areStars_175 : decode cL_areStars 175 = .ok (.istore 4, 2) := by decide +kernel
theorem dL_areStars_177 : decode cL_areStars 177 = .ok (.iinc 7 1, 3) := by decide +kernel
theorem dL_areStars_180 : decode cL_areStars 180 = .ok (.goto (-64), 3) := by decide +kernel
theorem dL_areStars_183 : decode cL_areStars 183 = .ok (.iinc 5 1, 3) := by decide +kernel
theorem dL_areStars_186 : decode cL_areStars 186 = .ok (.goto (-174), 3) := by decide +kernel
theorem dL_areStars_189 : decode cL_areStars 189 = .ok (.iconst 0, 1) := by decide +kernel
theorem dL_areStars_190 : decode cL_areStars 190 = .ok (.istore 5, 2) := by decide +kernel
theorem dL_areStars_192 : decode cL_areStars 192 = .ok (.iload 4, 2) := by decide +kernel
theorem dL_areStars_194 : decode cL_areStars 194 = .ok (.ifCond .eq 171, 3) := by decide +kernel
theorem dL_areStars_197 : decode cL_areStars 197 = .ok (.iload 5, 2) := by decide +kernel
theorem dL_areStars_199 : decode cL_areStars 199 = .ok (.iconst 4, 1) := by decide +kernel
theorem dL_areStars_200 : decode cL_areStars 200 = .ok (.if_icmp .ge 165, 3) := by decide +kernel
theorem dL_areStars_203 : decode cL_areStars 203 = .ok (.iconst 0, 1) := by decide +kernel
theorem dL_areStars_204 : decode cL_areStars 204 = .ok (.istore 6, 2) := by decide +kernel
theorem dL_areStars_206 : decode cL_areStars 206 = .ok (.iconst 0, 1) := by decide +kernel
theorem dL_areStars_207 : decode cL_areStars 207 = .ok (.istore 7, 2) := by decide +kernel
theorem dL_areStars_209 : decode cL_areStars 209 = .ok (.iload_n 3, 1) := by decide +kernel
theorem dL_areStars_210 : decode cL_areStars 210 = .ok (.aload_n 0, 1) := by decide +kernel
theorem dL_areStars_211 : decode cL_areStars 211 = .ok (.iload 5, 2) := by decide +kernel
theorem dL_areStars_213 : decode cL_areStars 213 = .ok (.invokevirtual 92, 3) := by decide +kernel
theorem dL_areStars_216 : decode cL_areStars 216 = .ok (.iadd, 1) := by decide +kernel
theorem dL_areStars_217 : decode cL_areStars 217 = .ok (.istore_n 3, 1) := by decide +kernel
theorem dL_areStars_218 : decode cL_areStars 218 = .ok (.iconst 0, 1) := by decide +kernel
theorem dL_areStars_219 : decode cL_areStars 219 = .ok (.istore 8, 2) := by decide +kernel
theorem dL_areStars_221 : decode cL_areStars 221 = .ok (.iload 8, 2) := by decide +kernel
theorem dL_areStars_223 : decode cL_areStars 223 = .ok (.aload_n 0, 1) := by decide +kernel
theorem dL_areStars_224 : decode cL_areStars 224 = .ok (.iconst 0, 1) := by decide +kernel
theorem dL_areStars_225 : decode cL_areStars 225 = .ok (.invokevirtual 89, 3) := by decide +kernel
theorem dL_areStars_228 : decode cL_areStars 228 = .ok (.if_icmp .ge 82, 3) := by decide +kernel
theorem dL_areStars_231 : decode cL_areStars 231 = .ok (.aload_n 0, 1) := by decide +kernel
theorem dL_areStars_232 : decode cL_areStars 232 = .ok (.iload 8, 2) := by decide +kernel
theorem dL_areStars_234 : decode cL_areStars 234 = .ok (.iconst 1, 1) := by decide +kernel
theorem dL_areStars_235 : decode cL_areStars 235 = .ok (.invokevirtual 95, 3) := by decide +kernel
theorem dL_areStars_238 : decode cL_areStars 238 = .ok (.iload 5, 2) := by decide +kernel
theorem dL_areStars_240 : decode cL_areStars 240 = .ok (.if_icmp .ne 7, 3) := by decide +kernel
theorem dL_areStars_243 : decode cL_areStars 243 = .ok (.iconst 1, 1) := by decide +kernel
theorem dL_areStars_244 : decode cL_areStars 244 = .ok (.goto 4, 3) := by decide +kernel
theorem dL_areStars_247 : decode cL_areStars 247 = .ok (.iconst 0, 1) := by decide +kernel
theorem dL_areStars_248 : decode cL_areStars 248 = .ok (.istore 9, 2) := by decide +kernel
theorem dL_areStars_250 : decode cL_areStars 250 = .ok (.iload 6, 2) := by decide +kernel
theorem dL_areStars_252 : decode cL_areStars 252 = .ok (.iload 9, 2) := by decide +kernel
theorem dL_areStars_254 : decode cL_areStars 254 = .ok (.ifCond .eq 13, 3) := by decide +kernel
theorem dL_areStars_257 : decode cL_areStars 257 = .ok (.aload_n 0, 1) := by decide +kernel
theorem dL_areStars_258 : decode cL_areStars 258 = .ok (.iload 8, 2) := by decide +kernel
theorem dL_areStars_260 : decode cL_areStars 260 = .ok (.iconst 2, 1) := by decide +kernel
theorem dL_areStars_261 : decode cL_areStars 261 = .ok (.invokevirtual 95, 3) := by decide +kernel
theorem dL_areStars_264 : decode cL_areStars 264 = .ok (.goto 4, 3) := by decide +kernel
theorem dL_areStars_267 : decode cL_areStars 267 = .ok (.iconst 0, 1) := by decide +kernel
theorem dL_areStars_268 : decode cL_areStars 268 = .ok (.iadd, 1) := by decide +kernel
theorem dL_areStars_269 : decode cL_areStars 269 = .ok (.istore 6, 2) := by decide +kernel
theorem dL_areStars_271 : decode cL_areStars 271 = .ok (.iload 9, 2) := by decide +kernel
theorem dL_areStars_273 : decode cL_areStars 273 = .ok (.ifCond .eq 27, 3) := by decide +kernel
theorem dL_areStars_276 : decode cL_areStars 276 = .ok (.iload 7, 2) := by decide +kernel
theorem dL_areStars_278 : decode cL_areStars 278 = .ok (.aload_n 0, 1) := by decide +kernel
theorem dL_areStars_279 : decode cL_areStars 279 = .ok (.iload 5, 2) := by decide +kernel
theorem dL_areStars_281 : decode cL_areStars 281 = .ok (.invokevirtual 92, 3) := by decide +kernel
theorem dL_areStars_284 : decode cL_areStars 284 = .ok (.iconst 1, 1) := by decide +kernel
theorem dL_areStars_285 : decode cL_areStars 285 = .ok (.iadd, 1) := by decide +kernel
theorem dL_areStars_286 : decode cL_areStars 286 = .ok (.aload_n 0, 1) := by decide +kernel
theorem dL_areStars_287 : decode cL_areStars 287 = .ok (.iload 8, 2) := by decide +kernel
theorem dL_areStars_289 : decode cL_areStars 289 = .ok (.iconst 0, 1) := by decide +kernel
theorem dL_areStars_290 : decode cL_areStars 290 = .ok (.invokevirtual 95, 3) := by decide +kernel
theorem dL_areStars_293 : decode cL_areStars 293 = .ok (.isub, 1) := by decide +kernel
theorem dL_areStars_294 : decode cL_areStars 294 = .ok (.invokestatic 110, 3) := by decide +kernel
theorem dL_areStars_297 : decode cL_areStars 297 = .ok (.goto 5, 3) := by decide +kernel
theorem dL_areStars_300 : decode cL_areStars 300 = .ok (.iload 7, 2) := by decide +kernel
theorem dL_areStars_302 : decode cL_areStars 302 = .ok (.istore 7, 2) := by decide +kernel
theorem dL_areStars_304 : decode cL_areStars 304 = .ok (.iinc 8 1, 3) := by decide +kernel
theorem dL_areStars_307 : decode cL_areStars 307 = .ok (.goto (-86), 3) := by decide +kernel
theorem dL_areStars_310 : decode cL_areStars 310 = .ok (.aload_n 0, 1) := by decide +kernel
theorem dL_areStars_311 : decode cL_areStars 311 = .ok (.iload 5, 2) := by decide +kernel
theorem dL_areStars_313 : decode cL_areStars 313 = .ok (.invokevirtual 115, 3) := by decide +kernel
theorem dL_areStars_316 : decode cL_areStars 316 = .ok (.iload 6, 2) := by decide +kernel
theorem dL_areStars_318 : decode cL_areStars 318 = .ok (.if_icmp .ne 38, 3) := by decide +kernel
theorem dL_areStars_321 : decode cL_areStars 321 = .ok (.aload_n 0, 1) := by decide +kernel
theorem dL_areStars_322 : decode cL_areStars 322 = .ok (.iload 5, 2) := by decide +kernel
theorem dL_areStars_324 : decode cL_areStars 324 = .ok (.invokevirtual 118, 3) := by decide +kernel
theorem dL_areStars_327 : decode cL_areStars 327 = .ok (.iload 6, 2) := by decide +kernel
theorem dL_areStars_329 : decode cL_areStars 329 = .ok (.if_icmp .ne 27, 3) := by decide +kernel
theorem dL_areStars_332 : decode cL_areStars 332 = .ok (.aload_n 0, 1) := by decide +kernel
theorem dL_areStars_333 : decode cL_areStars 333 = .ok (.iload 5, 2) := by decide +kernel
theorem dL_areStars_335 : decode cL_areStars 335 = .ok (.invokevirtual 121, 3) := by decide +kernel
theorem dL_areStars_338 : decode cL_areStars 338 = .ok (.iload 7, 2) := by decide +kernel
theorem dL_areStars_340 : decode cL_areStars 340 = .ok (.if_icmp .ne 16, 3) := by decide +kernel
theorem dL_areStars_343 : decode cL_areStars 343 = .ok (.aload_n 0, 1) := by decide +kernel
theorem dL_areStars_344 : decode cL_areStars 344 = .ok (.iload 5, 2) := by decide +kernel
theorem dL_areStars_346 : decode cL_areStars 346 = .ok (.invokevirtual 124, 3) := by decide +kernel
theorem dL_areStars_349 : decode cL_areStars 349 = .ok (.ifCond .lt 7, 3) := by decide +kernel
theorem dL_areStars_352 : decode cL_areStars 352 = .ok (.iconst 1, 1) := by decide +kernel
theorem dL_areStars_353 : decode cL_areStars 353 = .ok (.goto 4, 3) := by decide +kernel
theorem dL_areStars_356 : decode cL_areStars 356 = .ok (.iconst 0, 1) := by decide +kernel
theorem dL_areStars_357 : decode cL_areStars 357 = .ok (.istore 4, 2) := by decide +kernel
theorem dL_areStars_359 : decode cL_areStars 359 = .ok (.iinc 5 1, 3) := by decide +kernel
theorem dL_areStars_362 : decode cL_areStars 362 = .ok (.goto (-170), 3) := by decide +kernel
theorem dL_areStars_365 : decode cL_areStars 365 = .ok (.iload 4, 2) := by decide +kernel
theorem dL_areStars_367 : decode cL_areStars 367 = .ok (.ifCond .eq 63, 3) := by decide +kernel
theorem dL_areStars_370 : decode cL_areStars 370 = .ok (.iload_n 1, 1) := by decide +kernel
theorem dL_areStars_371 : decode cL_areStars 371 = .ok (.aload_n 0, 1) := by decide +kernel
theorem dL_areStars_372 : decode cL_areStars 372 = .ok (.iconst 4, 1) := by decide +kernel
theorem dL_areStars_373 : decode cL_areStars 373 = .ok (.invokevirtual 89, 3) := by decide +kernel
theorem dL_areStars_376 : decode cL_areStars 376 = .ok (.if_icmp .ne 54, 3) := by decide +kernel
theorem dL_areStars_379 : decode cL_areStars 379 = .ok (.iload_n 2, 1) := by decide +kernel
theorem dL_areStars_380 : decode cL_areStars 380 = .ok (.aload_n 0, 1) := by decide +kernel
theorem dL_areStars_381 : decode cL_areStars 381 = .ok (.bipush 6, 2) := by decide +kernel
theorem dL_areStars_383 : decode cL_areStars 383 = .ok (.invokevirtual 89, 3) := by decide +kernel
theorem dL_areStars_386 : decode cL_areStars 386 = .ok (.if_icmp .ne 44, 3) := by decide +kernel
theorem dL_areStars_389 : decode cL_areStars 389 = .ok (.aload_n 0, 1) := by decide +kernel
theorem dL_areStars_390 : decode cL_areStars 390 = .ok (.bipush 7, 2) := by decide +kernel
theorem dL_areStars_392 : decode cL_areStars 392 = .ok (.invokevirtual 89, 3) := by decide +kernel
theorem dL_areStars_395 : decode cL_areStars 395 = .ok (.aload_n 0, 1) := by decide +kernel
theorem dL_areStars_396 : decode cL_areStars 396 = .ok (.bipush 6, 2) := by decide +kernel
theorem dL_areStars_398 : decode cL_areStars 398 = .ok (.invokevirtual 89, 3) := by decide +kernel
theorem dL_areStars_401 : decode cL_areStars 401 = .ok (.if_icmp .gt 29, 3) := by decide +kernel
theorem dL_areStars_404 : decode cL_areStars 404 = .ok (.aload_n 0, 1) := by decide +kernel
theorem dL_areStars_405 : decode cL_areStars 405 = .ok (.invokevirtual 127, 3) := by decide +kernel
theorem dL_areStars_408 : decode cL_areStars 408 = .ok (.iload_n 3, 1) := by decide +kernel
theorem dL_areStars_409 : decode cL_areStars 409 = .ok (.i2d, 1) := by decide +kernel
theorem dL_areStars_410 : decode cL_areStars 410 = .ok (.ldc2_w 131, 3) := by decide +kernel
theorem dL_areStars_413 : decode cL_areStars 413 = .ok (.ddiv, 1) := by decide +kernel
theorem dL_areStars_414 : decode cL_areStars 414 = .ok (.dcmp .l, 1) := by decide +kernel
theorem dL_areStars_415 : decode cL_areStars 415 = .ok (.ifCond .ne 15, 3) := by decide +kernel
theorem dL_areStars_418 : decode cL_areStars 418 = .ok (.aload_n 0, 1) := by decide +kernel
theorem dL_areStars_419 : decode cL_areStars 419 = .ok (.invokevirtual 133, 3) := by decide +kernel
theorem dL_areStars_422 : decode cL_areStars 422 = .ok (.iconst 1, 1) := by decide +kernel
theorem dL_areStars_423 : decode cL_areStars 423 = .ok (.if_icmp .ne 7, 3) := by decide +kernel
theorem dL_areStars_426 : decode cL_areStars 426 = .ok (.iconst 1, 1) := by decide +kernel
theorem dL_areStars_427 : decode cL_areStars 427 = .ok (.goto 4, 3) := by decide +kernel
theorem dL_areStars_430 : decode cL_areStars 430 = .ok (.iconst 0, 1) := by decide +kernel
theorem dL_areStars_431 : decode cL_areStars 431 = .ok (.ireturn, 1) := by decide +kernel
theorem dL_areRoofs_0 : decode cL_areRoofs 0 = .ok (.iconst 0, 1) := by decide +kernel
theorem dL_areRoofs_1 : decode cL_areRoofs 1 = .ok (.istore_n 1, 1) := by decide +kernel
theorem dL_areRoofs_2 : decode cL_areRoofs 2 = .ok (.iconst 0, 1) := by decide +kernel
theorem dL_areRoofs_3 : decode cL_areRoofs 3 = .ok (.istore_n 2, 1) := by decide +kernel
theorem dL_areRoofs_4 : decode cL_areRoofs 4 = .ok (.iconst 0, 1) := by decide +kernel
theorem dL_areRoofs_5 : decode cL_areRoofs 5 = .ok (.istore_n 3, 1) := by decide +kernel
theorem dL_areRoofs_6 : decode cL_areRoofs 6 = .ok (.iconst 0, 1) := by decide +kernel
theorem dL_areRoofs_7 : decode cL_areRoofs 7 = .ok (.istore 4, 2) := by decide +kernel
theorem dL_areRoofs_9 : decode cL_areRoofs 9 = .ok (.iconst 0, 1) := by decide +kernel
theorem dL_areRoofs_10 : decode cL_areRoofs 10 = .ok (.istore 5, 2) := by decide +kernel
theorem dL_areRoofs_12 : decode cL_areRoofs 12 = .ok (.iconst 1, 1) := by decide +kernel
theorem dL_areRoofs_13 : decode cL_areRoofs 13 = .ok (.istore 6, 2) := by decide +kernel
theorem dL_areRoofs_15 : decode cL_areRoofs 15 = .ok (.iconst 0, 1) := by decide +kernel
theorem dL_areRoofs_16 : decode cL_areRoofs 16 = .ok (.istore 7, 2) := by decide +kernel
theorem dL_areRoofs_18 : decode cL_areRoofs 18 = .ok (.iload 6, 2) := by decide +kernel
theorem dL_areRoofs_20 : decode cL_areRoofs 20 = .ok (.ifCond .eq 368, 3) := by decide +kernel
theorem dL_areRoofs_23 : decode cL_areRoofs 23 = .ok (.iload 7, 2) := by decide +kernel
theorem dL_areRoofs_25 : decode cL_areRoofs 25 = .ok (.aload_n 0, 1) := by decide +kernel
theorem dL_areRoofs_26 : decode cL_areRoofs 26 = .ok (.iconst 1, 1) := by decide +kernel
theorem dL_areRoofs_27 : decode cL_areRoofs 27 = .ok (.invokevirtual 89, 3) := by decide +kernel
theorem dL_areRoofs_30 : decode cL_areRoofs 30 = .ok (.if_icmp .ge 358, 3) := by decide +kernel
theorem dL_areRoofs_33 : decode cL_areRoofs 33 = .ok (.iconst 0, 1) := by decide +kernel
theorem dL_areRoofs_34 : decode cL_areRoofs 34 = .ok (.istore 8, 2) := by decide +kernel
theorem dL_areRoofs_36 : decode cL_areRoofs 36 = .ok (.iconst 0, 1) := by decide +kernel
theorem dL_areRoofs_37 : decode cL_areRoofs 37 = .ok (.istore 9, 2) := by decide +kernel
theorem dL_areRoofs_39 : decode cL_areRoofs 39 = .ok (.iconst 0, 1) := by decide +kernel
theorem dL_areRoofs_40 : decode cL_areRoofs 40 = .ok (.istore 10, 2) := by decide +kernel
theorem dL_areRoofs_42 : decode cL_areRoofs 42 = .ok (.iconst 0, 1) := by decide +kernel
theorem dL_areRoofs_43 : decode cL_areRoofs 43 = .ok (.istore 11, 2) := by decide +kernel
theorem dL_areRoofs_45 : decode cL_areRoofs 45 = .ok (.iconst 0, 1) := by decide +kernel
theorem dL_areRoofs_46 : decode cL_areRoofs 46 = .ok (.istore 12, 2) := by decide +kernel
theorem dL_areRoofs_48 : decode cL_areRoofs 48 = .ok (.iload 12, 2) := by decide +kernel
theorem dL_areRoofs_50 : decode cL_areRoofs 50 = .ok (.aload_n 0, 1) := by decide +kernel
theorem dL_areRoofs_51 : decode cL_areRoofs 51 = .ok (.iconst 2, 1) := by decide +kernel
theorem dL_areRoofs_52 : decode cL_areRoofs 52 = .ok (.invokevirtual 89, 3) := by decide +kernel
theorem dL_areRoofs_55 : decode cL_areRoofs 55 = .ok (.if_icmp .ge 127, 3) := by decide +kernel
theorem dL_areRoofs_58 : decode cL_areRoofs 58 = .ok (.aload_n 0, 1) := by decide +kernel
theorem dL_areRoofs_59 : decode cL_areRoofs 59 = .ok (.iload 12, 2) := by decide +kernel
theorem dL_areRoofs_61 : decode cL_areRoofs 61 = .ok (.iconst 0, 1) := by decide +kernel
theorem dL_areRoofs_62 : decode cL_areRoofs 62 = .ok (.invokevirtual 104, 3) := by decide +kernel
theorem dL_areRoofs_65 : decode cL_areRoofs 65 = .ok (.iload 7, 2) := by decide +kernel
theorem dL_areRoofs_67 : decode cL_areRoofs 67 = .ok (.if_icmp .ne 7, 3) := by decide +kernel
theorem dL_areRoofs_70 : decode cL_areRoofs 70 = .ok (.iconst 1, 1) := by decide +kernel
theorem dL_areRoofs_71 : decode cL_areRoofs 71 = .ok (.goto 4, 3) := by decide +kernel
theorem dL_areRoofs_74 : decode cL_areRoofs 74 = .ok (.iconst 0, 1) := by decide +kernel
theorem dL_areRoofs_75 : decode cL_areRoofs 75 = .ok (.istore 13, 2) := by decide +kernel
theorem dL_areRoofs_77 : decode cL_areRoofs 77 = .ok (.iload 13, 2) := by decide +kernel
theorem dL_areRoofs_79 : decode cL_areRoofs 79 = .ok (.ifCond .eq 19, 3) := by decide +kernel
theorem dL_areRoofs_82 : decode cL_areRoofs 82 = .ok (.aload_n 0, 1) := by decide +kernel
theorem dL_areRoofs_83 : decode cL_areRoofs 83 = .ok (.iload 12, 2) := by decide +kernel
theorem dL_areRoofs_85 : decode cL_areRoofs 85 = .ok (.iconst 4, 1) := by decide +kernel
theorem dL_areRoofs_86 : decode cL_areRoofs 86 = .ok (.invokevirtual 104, 3) := by decide +kernel
theorem dL_areRoofs_89 : decode cL_areRoofs 89 = .ok (.bipush (-4), 2) := by decide +kernel
theorem dL_areRoofs_91 : decode cL_areRoofs 91 = .ok (.if_icmp .eq 7, 3) := by decide +kernel
theorem dL_areRoofs_94 : decode cL_areRoofs 94 = .ok (.iconst 1, 1) := by decide +kernel
theorem dL_areRoofs_95 : decode cL_areRoofs 95 = .ok (.goto 4, 3) := by decide +kernel
theorem dL_areRoofs_98 : decode cL_areRoofs 98 = .ok (.iconst 0, 1) := by decide +kernel
theorem dL_areRoofs_99 : decode cL_areRoofs 99 = .ok (.istore 14, 2) := by decide +kernel
theorem dL_areRoofs_101 : decode cL_areRoofs 101 = .ok (.iload 8, 2) := by decide +kernel
theorem dL_areRoofs_103 : decode cL_areRoofs 103 = .ok (.iload 13, 2) := by decide +kernel
theorem dL_areRoofs_105 : decode cL_areRoofs 105 = .ok (.ifCond .eq 7, 3) := by decide +kernel
theorem dL_areRoofs_108 : decode cL_areRoofs 108 = .ok (.iconst 1, 1) := by decide +kernel
theorem dL_areRoofs_109 : decode cL_areRoofs 109 = .ok (.goto 4, 3) := by decide +kernel
theorem dL_areRoofs_112 : decode cL_areRoofs 112 = .ok (.iconst 0, 1) := by decide +kernel
theorem dL_areRoofs_113 : decode cL_areRoofs 113 = .ok (.iadd, 1) := by decide +kernel
theorem dL_areRoofs_114 : decode cL_areRoofs 114 = .ok (.istore 8, 2) := by decide +kernel
theorem dL_areRoofs_116 : decode cL_areRoofs 116 = .ok (.iload 9, 2) := by decide +kernel
theorem dL_areRoofs_118 : decode cL_areRoofs 118 = .ok (.iload 14, 2) := by decide +kernel
theorem dL_areRoofs_120 : decode cL_areRoofs 120 = .ok (.ifCond .eq 7, 3) := by decide +kernel
theorem dL_areRoofs_123 : decode cL_areRoofs 123 = .ok (.iconst 1, 1) := by decide +kernel
theorem dL_areRoofs_124 : decode cL_areRoofs 124 = .ok (.goto 4, 3) := by decide +kernel
theorem dL_areRoofs_127 : decode cL_areRoofs 127 = .ok (.iconst 0, 1) := by decide +kernel
theorem dL_areRoofs_128 : decode cL_areRoofs 128 = .ok (.iadd, 1) := by decide +kernel
theorem dL_areRoofs_129 : decode cL_areRoofs 129 = .ok (.istore 9, 2) := by decide +kernel
theorem dL_areRoofs_131 : decode cL_areRoofs 131 = .ok (.iload 10, 2) := by decide +kernel
theorem dL_areRoofs_133 : decode cL_areRoofs 133 = .ok (.iload 14, 2) := by decide +kernel
theorem dL_areRoofs_135 : decode cL_areRoofs 135 = .ok (.ifCond .eq 13, 3) := by decide +kernel
theorem dL_areRoofs_138 : decode cL_areRoofs 138 = .ok (.aload_n 0, 1) := by decide +kernel
theorem dL_areRoofs_139 : decode cL_areRoofs 139 = .ok (.iload 12, 2) := by decide +kernel
theorem dL_areRoofs_141 : decode cL_areRoofs 141 = .ok (.iconst 5, 1) := by decide +kernel
theorem dL_areRoofs_142 : decode cL_areRoofs 142 = .ok (.invokevirtual 104, 3) := by decide +kernel
theorem dL_areRoofs_145 : decode cL_areRoofs 145 = .ok (.goto 4, 3) := by decide +kernel
theorem dL_areRoofs_148 : decode cL_areRoofs 148 = .ok (.iconst 0, 1) := by decide +kernel
theorem dL_areRoofs_149 : decode cL_areRoofs 149 = .ok (.iadd, 1) := by decide +kernel
theorem dL_areRoofs_150 : decode cL_areRoofs 150 = .ok (.istore 10, 2) := by decide +kernel
theorem dL_areRoofs_152 : decode cL_areRoofs 152 = .ok (.iload 14, 2) := by decide +kernel
theorem dL_areRoofs_154 : decode cL_areRoofs 154 = .ok (.ifCond .eq 18, 3) := by decide +kernel
theorem dL_areRoofs_157 : decode cL_areRoofs 157 = .ok (.iload 11, 2) := by decide +kernel
theorem dL_areRoofs_159 : decode cL_areRoofs 159 = .ok (.aload_n 0, 1) := by decide +kernel
theorem dL_areRoofs_160 : decode cL_areRoofs 160 = .ok (.iload 12, 2) := by decide +kernel
theorem dL_areRoofs_162 : decode cL_areRoofs 162 = .ok (.iconst 5, 1) := by decide +kernel
theorem dL_areRoofs_163 : decode cL_areRoofs 163 = .ok (.invokevirtual 104, 3) := by decide +kernel
theorem dL_areRoofs_166 : decode cL_areRoofs 166 = .ok (.invokestatic 110, 3) := by decide +kernel
theorem dL_areRoofs_169 : decode cL_areRoofs 169 = .ok (.goto 5, 3) := by decide +kernel
theorem dL_areRoofs_172 : decode cL_areRoofs 172 = .ok (.iload 11, 2) := by decide +kernel
theorem dL_areRoofs_174 : decode cL_areRoofs 174 = .ok (.istore 11, 2) := by decide +kernel
theorem dL_areRoofs_176 : decode cL_areRoofs 176 = .ok (.iinc 12 1, 3) := by decide +kernel
theorem dL_areRoofs_179 : decode cL_areRoofs 179 = .ok (.goto (-131), 3) := by decide +kernel
theorem dL_areRoofs_182 : decode cL_areRoofs 182 = .ok (.iload_n 1, 1) := by decide +kernel
theorem dL_areRoofs_183 : decode cL_areRoofs 183 = .ok (.iload 8, 2) := by decide +kernel
theorem dL_areRoofs_185 : decode cL_areRoofs 185 = .ok (.iadd, 1) := by decide +kernel
theorem dL_areRoofs_186 : decode cL_areRoofs 186 = .ok (.istore_n 1, 1) := by decide +kernel
theorem dL_areRoofs_187 : decode cL_areRoofs 187 = .ok (.iload_n 2, 1) := by decide +kernel
theorem dL_areRoofs_188 : decode cL_areRoofs 188 = .ok (.iload 9, 2) := by decide +kernel
theorem dL_areRoofs_190 : decode cL_areRoofs 190 = .ok (.iadd, 1) := by decide +kernel
theorem dL_areRoofs_191 : decode cL_areRoofs 191 = .ok (.istore_n 2, 1) := by decide +kernel
theorem dL_areRoofs_192 : decode cL_areRoofs 192 = .ok (.iload_n 3, 1) := by decide +kernel
theorem dL_areRoofs_193 : decode cL_areRoofs 193 = .ok (.aload_n 0, 1) := by decide +kernel
theorem dL_areRoofs_194 : decode cL_areRoofs 194 = .ok (.iload 7, 2) := by decide +kernel
theorem dL_areRoofs_196 : decode cL_areRoofs 196 = .ok (.iconst 4, 1) := by decide +kernel
theorem dL_areRoofs_197 : decode cL_areRoofs 197 = .ok (.invokevirtual 98, 3) := by decide +kernel
theorem dL_areRoofs_200 : decode cL_areRoofs 200 = .ok (.iadd, 1) := by decide +kernel
theorem dL_areRoofs_201 : decode cL_areRoofs 201 = .ok (.istore_n 3, 1) := by decide +kernel
theorem dL_areRoofs_202 : decode cL_areRoofs 202 = .ok (.iload 4, 2) := by decide +kernel
theorem dL_areRoofs_204 : decode cL_areRoofs 204 = .ok (.aload_n 0, 1) := by decide +kernel
theorem dL_areRoofs_205 : decode cL_areRoofs 205 = .ok (.iload 7, 2) := by decide +kernel
theorem dL_areRoofs_207 : decode cL_areRoofs 207 = .ok (.iconst 5, 1) := by decide +kernel
theorem dL_areRoofs_208 : decode cL_areRoofs 208 = .ok (.invokevirtual 98, 3) := by decide +kernel
theorem dL_areRoofs_211 : decode cL_areRoofs 211 = .ok (.iadd, 1) := by decide +kernel
theorem dL_areRoofs_212 : decode cL_areRoofs 212 = .ok (.istore 4, 2) := by decide +kernel
theorem dL_areRoofs_214 : decode cL_areRoofs 214 = .ok (.iload 5, 2) := by decide +kernel
theorem dL_areRoofs_216 : decode cL_areRoofs 216 = .ok (.aload_n 0, 1) := by decide +kernel
theorem dL_areRoofs_217 : decode cL_areRoofs 217 = .ok (.iload 7, 2) := by decide +kernel
theorem dL_areRoofs_219 : decode cL_areRoofs 219 = .ok (.bipush 6, 2) := by decide +kernel
theorem dL_areRoofs_221 : decode cL_areRoofs 221 = .ok (.invokevirtual 98, 3) := by decide +kernel
theorem dL_areRoofs_224 : decode cL_areRoofs 224 = .ok (.iadd, 1) := by decide +kernel
theorem dL_areRoofs_225 : decode cL_areRoofs 225 = .ok (.istore 5, 2) := by decide +kernel
theorem dL_areRoofs_227 : decode cL_areRoofs 227 = .ok (.aload_n 0, 1) := by decide +kernel
theorem dL_areRoofs_228 : decode cL_areRoofs 228 = .ok (.iload 7, 2) := by decide +kernel
theorem dL_areRoofs_230 : decode cL_areRoofs 230 = .ok (.invokevirtual 136, 3) := by decide +kernel
theorem dL_areRoofs_233 : decode cL_areRoofs 233 = .ok (.istore 12, 2) := by decide +kernel
theorem dL_areRoofs_235 : decode cL_areRoofs 235 = .ok (.aload_n 0, 1) := by decide +kernel
theorem dL_areRoofs_236 : decode cL_areRoofs 236 = .ok (.iload 7, 2) := by decide +kernel
theorem dL_areRoofs_238 : decode cL_areRoofs 238 = .ok (.iconst 2, 1) := by decide +kernel
theorem dL_areRoofs_239 : decode cL_areRoofs 239 = .ok (.invokevirtual 98, 3) := by decide +kernel
theorem dL_areRoofs_242 : decode cL_areRoofs 242 = .ok (.iload 8, 2) := by decide +kernel
theorem dL_areRoofs_244 : decode cL_areRoofs 244 = .ok (.if_icmp .ne 135, 3) := by decide +kernel
theorem dL_areRoofs_247 : decode cL_areRoofs 247 = .ok (.aload_n 0, 1) := by decide +kernel
theorem dL_areRoofs_248 : decode cL_areRoofs 248 = .ok (.iload 7, 2) := by decide +kernel
theorem dL_areRoofs_250 : decode cL_areRoofs 250 = .ok (.iconst 3, 1) := by decide +kernel
theorem dL_areRoofs_251 : decode cL_areRoofs 251 = .ok (.invokevirtual 98, 3) := by decide +kernel
theorem dL_areRoofs_254 : decode cL_areRoofs 254 = .ok (.iload 9, 2) := by decide +kernel
theorem dL_areRoofs_256 : decode cL_areRoofs 256 = .ok (.if_icmp .ne 123, 3) := by decide +kernel
theorem dL_areRoofs_259 : decode cL_areRoofs 259 = .ok (.aload_n 0, 1) := by decide +kernel
theorem dL_areRoofs_260 : decode cL_areRoofs 260 = .ok (.iload 7, 2) := by decide +kernel
theorem dL_areRoofs_262 : decode cL_areRoofs 262 = .ok (.invokevirtual 101, 3) := by decide +kernel
theorem dL_areRoofs_265 : decode cL_areRoofs 265 = .ok (.aload_n 0, 1) := by decide +kernel
theorem dL_areRoofs_266 : decode cL_areRoofs 266 = .ok (.iload 7, 2) := by decide +kernel
theorem dL_areRoofs_268 : decode cL_areRoofs 268 = .ok (.invokevirtual 139, 3) := by decide +kernel
theorem dL_areRoofs_271 : decode cL_areRoofs 271 = .ok (.if_icmp .ne 108, 3) := by decide +kernel
theorem dL_areRoofs_274 : decode cL_areRoofs 274 = .ok (.aload_n 0, 1) := by decide +kernel
theorem dL_areRoofs_275 : decode cL_areRoofs 275 = .ok (.iload 7, 2) := by decide +kernel
theorem dL_areRoofs_277 : decode cL_areRoofs 277 = .ok (.invokevirtual 101, 3) := by decide +kernel
theorem dL_areRoofs_280 : decode cL_areRoofs 280 = .ok (.ifCond .lt 99, 3) := by decide +kernel
theorem dL_areRoofs_283 : decode cL_areRoofs 283 = .ok (.aload_n 0, 1) := by decide +kernel
theorem dL_areRoofs_284 : decode cL_areRoofs 284 = .ok (.iload 7, 2) := by decide +kernel
theorem dL_areRoofs_286 : decode cL_areRoofs 286 = .ok (.iconst 0, 1) := by decide +kernel
theorem dL_areRoofs_287 : decode cL_areRoofs 287 = .ok (.invokevirtual 98, 3) := by decide +kernel
theorem dL_areRoofs_290 : decode cL_areRoofs 290 = .ok (.ifCond .lt 89, 3) := by decide +kernel
theorem dL_areRoofs_293 : decode cL_areRoofs 293 = .ok (.aload_n 0, 1) := by decide +kernel
theorem dL_areRoofs_294 : decode cL_areRoofs 294 = .ok (.iload 7, 2) := by decide +kernel
theorem dL_areRoofs_296 : decode cL_areRoofs 296 = .ok (.bipush 8, 2) := by decide +kernel
theorem dL_areRoofs_298 : decode cL_areRoofs 298 = .ok (.invokevirtual 98, 3) := by decide +kernel
theorem dL_areRoofs_301 : decode cL_areRoofs 301 = .ok (.aload_n 0, 1) := by decide +kernel
theorem dL_areRoofs_302 : decode cL_areRoofs 302 = .ok (.iload 7, 2) := by decide +kernel
theorem dL_areRoofs_304 : decode cL_areRoofs 304 = .ok (.bipush 7, 2) := by decide +kernel
theorem dL_areRoofs_306 : decode cL_areRoofs 306 = .ok (.invokevirtual 98, 3) := by decide +kernel
theorem dL_areRoofs_309 : decode cL_areRoofs 309 = .ok (.iconst (-1), 1) := by decide +kernel
theorem dL_areRoofs_310 : decode cL_areRoofs 310 = .ok (.ixor, 1) := by decide +kernel
theorem dL_areRoofs_311 : decode cL_areRoofs 311 = .ok (.iand, 1) := by decide +kernel
theorem dL_areRoofs_312 : decode cL_areRoofs 312 = .ok (.ifCond .ne 67, 3) := by decide +kernel
theorem dL_areRoofs_315 : decode cL_areRoofs 315 = .ok (.iload 12, 2) := by decide +kernel
theorem dL_areRoofs_317 : decode cL_areRoofs 317 = .ok (.aload_n 0, 1) := by decide +kernel
theorem dL_areRoofs_318 : decode cL_areRoofs 318 = .ok (.iload 7, 2) := by decide +kernel
theorem dL_areRoofs_320 : decode cL_areRoofs 320 = .ok (.invokevirtual 142, 3) := by decide +kernel
theorem dL_areRoofs_323 : decode cL_areRoofs 323 = .ok (.if_icmp .ne 56, 3) := by decide +kernel
theorem dL_areRoofs_326 : decode cL_areRoofs 326 = .ok (.iload 12, 2) := by decide +kernel
theorem dL_areRoofs_328 : decode cL_areRoofs 328 = .ok (.iload 9, 2) := by decide +kernel
theorem dL_areRoofs_330 : decode cL_areRoofs 330 = .ok (.if_icmp .gt 49, 3) := by decide +kernel
theorem dL_areRoofs_333 : decode cL_areRoofs 333 = .ok (.iload 12, 2) := by decide +kernel
theorem dL_areRoofs_335 : decode cL_areRoofs 335 = .ok (.iload 9, 2) := by decide +kernel
theorem dL_areRoofs_337 : decode cL_areRoofs 337 = .ok (.if_icmp .ne 7, 3) := by decide +kernel
theorem dL_areRoofs_340 : decode cL_areRoofs 340 = .ok (.iconst 1, 1) := by decide +kernel
theorem dL_areRoofs_341 : decode cL_areRoofs 341 = .ok (.goto 4, 3) := by decide +kernel
theorem dL_areRoofs_344 : decode cL_areRoofs 344 = .ok (.iconst 0, 1) := by decide +kernel
theorem dL_areRoofs_345 : decode cL_areRoofs 345 = .ok (.iload 10, 2) := by decide +kernel
theorem dL_areRoofs_347 : decode cL_areRoofs 347 = .ok (.aload_n 0, 1) := by decide +kernel
theorem dL_areRoofs_348 : decode cL_areRoofs 348 = .ok (.iload 7, 2) := by decide +kernel
theorem dL_areRoofs_350 : decode cL_areRoofs 350 = .ok (.iconst 0, 1) := by decide +kernel
theorem dL_areRoofs_351 : decode cL_areRoofs 351 = .ok (.invokevirtual 98, 3) := by decide +kernel
theorem dL_areRoofs_354 : decode cL_areRoofs 354 = .ok (.if_icmp .gt 7, 3) := by decide +kernel
theorem dL_areRoofs_357 : decode cL_areRoofs 357 = .ok (.iconst 1, 1) := by decide +kernel
theorem dL_areRoofs_358 : decode cL_areRoofs 358 = .ok (.goto 4, 3) := by decide +kernel
theorem dL_areRoofs_361 : decode cL_areRoofs 361 = .ok (.iconst 0, 1) := by decide +kernel
theorem dL_areRoofs_362 : decode cL_areRoofs 362 = .ok (.if_icmp .ne 17, 3) := by decide +kernel
theorem dL_areRoofs_365 : decode cL_areRoofs 365 = .ok (.aload_n 0, 1) := by decide +kernel
theorem dL_areRoofs_366 : decode cL_areRoofs 366 = .ok (.iload 7, 2) := by decide +kernel
theorem dL_areRoofs_368 : decode cL_areRoofs 368 = .ok (.invokevirtual 145, 3) := by decide +kernel
theorem dL_areRoofs_371 : decode cL_areRoofs 371 = .ok (.iconst 3, 1) := by decide +kernel
theorem dL_areRoofs_372 : decode cL_areRoofs 372 = .ok (.if_icmp .lt 7, 3) := by decide +kernel
theorem dL_areRoofs_375 : decode cL_areRoofs 375 = .ok (.iconst 1, 1) := by decide +kernel
theorem dL_areRoofs_376 : decode cL_areRoofs 376 = .ok (.goto 4, 3) := by decide +kernel
theorem dL_areRoofs_379 : decode cL_areRoofs 379 = .ok (.iconst 0, 1) := by decide +kernel
theorem dL_areRoofs_380 : decode cL_areRoofs 380 = .ok (.istore 6, 2) := by decide +kernel
theorem dL_areRoofs_382 : decode cL_areRoofs 382 = .ok (.iinc 7 1, 3) := by decide +kernel
theorem dL_areRoofs_385 : decode cL_areRoofs 385 = .ok (.goto (-367), 3) := by decide +kernel
theorem dL_areRoofs_388 : decode cL_areRoofs 388 = .ok (.iconst 0, 1) := by decide +kernel
theorem dL_areRoofs_389 : decode cL_areRoofs 389 = .ok (.istore 7, 2) := by decide +kernel
theorem dL_areRoofs_391 : decode cL_areRoofs 391 = .ok (.iload 6, 2) := by decide +kernel
theorem dL_areRoofs_393 : decode cL_areRoofs 393 = .ok (.ifCond .eq 98, 3) := by decide +kernel
theorem dL_areRoofs_396 : decode cL_areRoofs 396 = .ok (.iload 7, 2) := by decide +kernel
theorem dL_areRoofs_398 : decode cL_areRoofs 398 = .ok (.aload_n 0, 1) := by decide +kernel
theorem dL_areRoofs_399 : decode cL_areRoofs 399 = .ok (.iconst 2, 1) := by decide +kernel
theorem dL_areRoofs_400 : decode cL_areRoofs 400 = .ok (.invokevirtual 89, 3) := by decide +kernel
theorem dL_areRoofs_403 : decode cL_areRoofs 403 = .ok (.if_icmp .ge 88, 3) := by decide +kernel
theorem dL_areRoofs_406 : decode cL_areRoofs 406 = .ok (.aload_n 0, 1) := by decide +kernel
theorem dL_areRoofs_407 : decode cL_areRoofs 407 = .ok (.iload 7, 2) := by decide +kernel
theorem dL_areRoofs_409 : decode cL_areRoofs 409 = .ok (.iconst 4, 1) := by decide +kernel
theorem dL_areRoofs_410 : decode cL_areRoofs 410 = .ok (.invokevirtual 104, 3) := by decide +kernel
theorem dL_areRoofs_413 : decode cL_areRoofs 413 = .ok (.istore 8, 2) := by decide +kernel
theorem dL_areRoofs_415 : decode cL_areRoofs 415 = .ok (.iload 8, 2) := by decide +kernel
theorem dL_areRoofs_417 : decode cL_areRoofs 417 = .ok (.bipush (-4), 2) := by decide +kernel
theorem dL_areRoofs_419 : decode cL_areRoofs 419 = .ok (.if_icmp .ne 23, 3) := by decide +kernel
theorem dL_areRoofs_422 : decode cL_areRoofs 422 = .ok (.aload_n 0, 1) := by decide +kernel
theorem dL_areRoofs_423 : decode cL_areRoofs 423 = .ok (.iload 7, 2) := by decide +kernel
theorem dL_areRoofs_425 : decode cL_areRoofs 425 = .ok (.iconst 5, 1) := by decide +kernel
theorem dL_areRoofs_426 : decode cL_areRoofs 426 = .ok (.invokevirtual 104, 3) := by decide +kernel
theorem dL_areRoofs_429 : decode cL_areRoofs 429 = .ok (.bipush (-4), 2) := by decide +kernel
theorem dL_areRoofs_431 : decode cL_areRoofs 431 = .ok (.if_icmp .ne 7, 3) := by decide +kernel
theorem dL_areRoofs_434 : decode cL_areRoofs 434 = .ok (.iconst 1, 1) := by decide +kernel
theorem dL_areRoofs_435 : decode cL_areRoofs 435 = .ok (.goto 48, 3) := by decide +kernel
theorem dL_areRoofs_438 : decode cL_areRoofs 438 = .ok (.iconst 0, 1) := by decide +kernel
theorem dL_areRoofs_439 : decode cL_areRoofs 439 = .ok (.goto 44, 3) := by decide +kernel
theorem dL_areRoofs_442 : decode cL_areRoofs 442 = .ok (.iload 8, 2) := by decide +kernel
theorem dL_areRoofs_444 : decode cL_areRoofs 444 = .ok (.ifCond .lt 38, 3) := by decide +kernel
theorem dL_areRoofs_447 : decode cL_areRoofs 447 = .ok (.iload 8, 2) := by decide +kernel
theorem dL_areRoofs_449 : decode cL_areRoofs 449 = .ok (.iconst 3, 1) := by decide +kernel
theorem dL_areRoofs_450 : decode cL_areRoofs 450 = .ok (.if_icmp .ge 32, 3) := by decide +kernel
theorem dL_areRoofs_453 : decode cL_areRoofs 453 = .ok (.aload_n 0, 1) := by decide +kernel
theorem dL_areRoofs_454 : decode cL_areRoofs 454 = .ok (.iload 7, 2) := by decide +kernel
theorem dL_areRoofs_456 : decode cL_areRoofs 456 = .ok (.iconst 5, 1) := by decide +kernel
theorem dL_areRoofs_457 : decode cL_areRoofs 457 = .ok (.invokevirtual 104, 3) := by decide +kernel
theorem dL_areRoofs_460 : decode cL_areRoofs 460 = .ok (.iload 8, 2) := by decide +kernel
theorem dL_areRoofs_462 : decode cL_areRoofs 462 = .ok (.aload_n 0, 1) := by decide +kernel
theorem dL_areRoofs_463 : decode cL_areRoofs 463 = .ok (.aload_n 0, 1) := by decide +kernel
theorem dL_areRoofs_464 : decode cL_areRoofs 464 = .ok (.iload 7, 2) := by decide +kernel
theorem dL_areRoofs_466 : decode cL_areRoofs 466 = .ok (.iconst 1, 1) := by decide +kernel
theorem dL_areRoofs_467 : decode cL_areRoofs 467 = .ok (.invokevirtual 104, 3) := by decide +kernel
theorem dL_areRoofs_470 : decode cL_areRoofs 470 = .ok (.iconst 0, 1) := by decide +kernel
theorem dL_areRoofs_471 : decode cL_areRoofs 471 = .ok (.invokevirtual 95, 3) := by decide +kernel
theorem dL_areRoofs_474 : decode cL_areRoofs 474 = .ok (.iadd, 1) := by decide +kernel
theorem dL_areRoofs_475 : decode cL_areRoofs 475 = .ok (.if_icmp .ne 7, 3) := by decide +kernel
theorem dL_areRoofs_478 : decode cL_areRoofs 478 = .ok (.iconst 1, 1) := by decide +kernel
theorem dL_areRoofs_479 : decode cL_areRoofs 479 = .ok (.goto 4, 3) := by decide +kernel
theorem dL_areRoofs_482 : decode cL_areRoofs 482 = .ok (.iconst 0, 1) := by decide +kernel
theorem dL_areRoofs_483 : decode cL_areRoofs 483 = .ok (.istore 6, 2) := by decide +kernel
theorem dL_areRoofs_485 : decode cL_areRoofs 485 = .ok (.iinc 7 1, 3) := by decide +kernel
theorem dL_areRoofs_488 : decode cL_areRoofs 488 = .ok (.goto (-97), 3) := by decide +kernel
theorem dL_areRoofs_491 : decode cL_areRoofs 491 = .ok (.iload 6, 2) := by decide +kernel
theorem dL_areRoofs_493 : decode cL_areRoofs 493 = .ok (.ifCond .eq 77, 3) := by decide +kernel
theorem dL_areRoofs_496 : decode cL_areRoofs 496 = .ok (.iload_n 1, 1) := by decide +kernel
theorem dL_areRoofs_497 : decode cL_areRoofs 497 = .ok (.aload_n 0, 1) := by decide +kernel
theorem dL_areRoofs_498 : decode cL_areRoofs 498 = .ok (.iconst 2, 1) := by decide +kernel
theorem dL_areRoofs_499 : decode cL_areRoofs 499 = .ok (.invokevirtual 89, 3) := by decide +kernel
theorem dL_areRoofs_502 : decode cL_areRoofs 502 = .ok (.if_icmp .ne 68, 3) := by decide +kernel
theorem dL_areRoofs_505 : decode cL_areRoofs 505 = .ok (.iload_n 2, 1) := by decide +kernel
theorem dL_areRoofs_506 : decode cL_areRoofs 506 = .ok (.aload_n 0, 1) := by decide +kernel
theorem dL_areRoofs_507 : decode cL_areRoofs 507 = .ok (.iconst 3, 1) := by decide +kernel
theorem dL_areRoofs_508 : decode cL_areRoofs 508 = .ok (.invokevirtual 89, 3) := by decide +kernel
theorem dL_areRoofs_511 : decode cL_areRoofs 511 = .ok (.if_icmp .ne 59, 3) := by decide +kernel
theorem dL_areRoofs_514 : decode cL_areRoofs 514 = .ok (.iload_n 3, 1) := by decide +kernel
theorem dL_areRoofs_515 : decode cL_areRoofs 515 = .ok (.aload_n 0, 1) := by decide +kernel
theorem dL_areRoofs_516 : decode cL_areRoofs 516 = .ok (.bipush 10, 2) := by decide +kernel
theorem dL_areRoofs_518 : decode cL_areRoofs 518 = .ok (.invokevirtual 89, 3) := by decide +kernel
theorem dL_areRoofs_521 : decode cL_areRoofs 521 = .ok (.if_icmp .ne 49, 3) := by decide +kernel
theorem dL_areRoofs_524 : decode cL_areRoofs 524 = .ok (.iload 4, 2) := by decide +kernel
theorem dL_areRoofs_526 : decode cL_areRoofs 526 = .ok (.aload_n 0, 1) := by decide +kernel
theorem dL_areRoofs_527 : decode cL_areRoofs 527 = .ok (.bipush 11, 2) := by decide +kernel
theorem dL_areRoofs_529 : decode cL_areRoofs 529 = .ok (.invokevirtual 89, 3) := by decide +kernel
theorem dL_areRoofs_532 : decode cL_areRoofs 532 = .ok (.if_icmp .ne 38, 3) := by decide +kernel
theorem dL_areRoofs_535 : decode cL_areRoofs 535 = .ok (.iload 5, 2) := by decide +kernel
theorem dL_areRoofs_537 : decode cL_areRoofs 537 = .ok (.aload_n 0, 1) := by decide +kernel
theorem dL_areRoofs_538 : decode cL_areRoofs 538 = .ok (.iconst 4, 1) := by decide +kernel
theorem dL_areRoofs_539 : decode cL_areRoofs 539 = .ok (.invokevirtual 89, 3) := by decide +kernel
theorem dL_areRoofs_542 : decode cL_areRoofs 542 = .ok (.if_icmp .ne 28, 3) := by decide +kernel
theorem dL_areRoofs_545 : decode cL_areRoofs 545 = .ok (.aload_n 0, 1) := by decide +kernel
theorem dL_areRoofs_546 : decode cL_areRoofs 546 = .ok (.invokevirtual 147, 3) := by decide +kernel
theorem dL_areRoofs_549 : decode cL_areRoofs 549 = .ok (.iload_n 1, 1) := by decide +kernel
theorem dL_areRoofs_550 : decode cL_areRoofs 550 = .ok (.ifCond .ne 7, 3) := by decide +kernel
theorem dL_areRoofs_553 : decode cL_areRoofs 553 = .ok (.fconst 0, 1) := by decide +kernel
theorem dL_areRoofs_554 : decode cL_areRoofs 554 = .ok (.goto 8, 3) := by decide +kernel
theorem dL_areRoofs_557 : decode cL_areRoofs 557 = .ok (.iload_n 2, 1) := by decide +kernel
theorem dL_areRoofs_558 : decode cL_areRoofs 558 = .ok (.i2f, 1) := by decide +kernel
theorem dL_areRoofs_559 : decode cL_areRoofs 559 = .ok (.iload_n 1, 1) := by decide +kernel
theorem dL_areRoofs_560 : decode cL_areRoofs 560 = .ok (.i2f, 1) := by decide +kernel
theorem dL_areRoofs_561 : decode cL_areRoofs 561 = .ok (.fdiv, 1) := by decide +kernel
theorem dL_areRoofs_562 : decode cL_areRoofs 562 = .ok (.fcmp .l, 1) := by decide +kernel
theorem dL_areRoofs_563 : decode cL_areRoofs 563 = .ok (.ifCond .ne 7, 3) := by decide +kernel
theorem dL_areRoofs_566 : decode cL_areRoofs 566 = .ok (.iconst 1, 1) := by decide +kernel
theorem dL_areRoofs_567 : decode cL_areRoofs 567 = .ok (.goto 4, 3) := by decide +kernel
theorem dL_areRoofs_570 : decode cL_areRoofs 570 = .ok (.iconst 0, 1) := by decide +kernel
theorem dL_areRoofs_571 : decode cL_areRoofs 571 = .ok (.ireturn, 1) := by decide +kernel
theorem dL_isSighted_0 : decode cL_isSighted 0 = .ok (.aload_n 0, 1) := by decide +kernel
theorem dL_isSighted_1 : decode cL_isSighted 1 = .ok (.invokestatic 151, 3) := by decide +kernel
theorem dL_isSighted_4 : decode cL_isSighted 4 = .ok (.lstore_n 3, 1) := by decide +kernel
theorem dL_isSighted_5 : decode cL_isSighted 5 = .ok (.aload_n 0, 1) := by decide +kernel
theorem dL_isSighted_6 : decode cL_isSighted 6 = .ok (.iload_n 1, 1) := by decide +kernel
theorem dL_isSighted_7 : decode cL_isSighted 7 = .ok (.iload_n 2, 1) := by decide +kernel
theorem dL_isSighted_8 : decode cL_isSighted 8 = .ok (.invokevirtual 107, 3) := by decide +kernel
theorem dL_isSighted_11 : decode cL_isSighted 11 = .ok (.istore 5, 2) := by decide +kernel
theorem dL_isSighted_13 : decode cL_isSighted 13 = .ok (.aload_n 0, 1) := by decide +kernel
theorem dL_isSighted_14 : decode cL_isSighted 14 = .ok (.iload_n 1, 1) := by decide +kernel
theorem dL_isSighted_15 : decode cL_isSighted 15 = .ok (.iconst 0, 1) := by decide +kernel
theorem dL_isSighted_16 : decode cL_isSighted 16 = .ok (.invokevirtual 98, 3) := by decide +kernel
theorem dL_isSighted_19 : decode cL_isSighted 19 = .ok (.istore 6, 2) := by decide +kernel
theorem dL_isSighted_21 : decode cL_isSighted 21 = .ok (.aload_n 0, 1) := by decide +kernel
theorem dL_isSighted_22 : decode cL_isSighted 22 = .ok (.iload_n 1, 1) := by decide +kernel
theorem dL_isSighted_23 : decode cL_isSighted 23 = .ok (.invokevirtual 101, 3) := by decide +kernel
theorem dL_isSighted_26 : decode cL_isSighted 26 = .ok (.istore 7, 2) := by decide +kernel
theorem dL_isSighted_28 : decode cL_isSighted 28 = .ok (.aload_n 0, 1) := by decide +kernel
theorem dL_isSighted_29 : decode cL_isSighted 29 = .ok (.iload_n 2, 1) := by decide +kernel
theorem dL_isSighted_30 : decode cL_isSighted 30 = .ok (.iconst 3, 1) := by decide +kernel
theorem dL_isSighted_31 : decode cL_isSighted 31 = .ok (.invokevirtual 95, 3) := by decide +kernel
theorem dL_isSighted_34 : decode cL_isSighted 34 = .ok (.istore 8, 2) := by decide +kernel
theorem dL_isSighted_36 : decode cL_isSighted 36 = .ok (.iload 8, 2) := by decide +kernel
theorem dL_isSighted_38 : decode cL_isSighted 38 = .ok (.bipush (-4), 2) := by decide +kernel
theorem dL_isSighted_40 : decode cL_isSighted 40 = .ok (.if_icmp .ne 7, 3) := by decide +kernel
theorem dL_isSighted_43 : decode cL_isSighted 43 = .ok (.iconst 0, 1) := by decide +kernel
theorem dL_isSighted_44 : decode cL_isSighted 44 = .ok (.goto 10, 3) := by decide +kernel
theorem dL_isSighted_47 : decode cL_isSighted 47 = .ok (.aload_n 0, 1) := by decide +kernel
theorem dL_isSighted_48 : decode cL_isSighted 48 = .ok (.iload 8, 2) := by decide +kernel
theorem dL_isSighted_50 : decode cL_isSighted 50 = .ok (.iconst 0, 1) := by decide +kernel
theorem dL_isSighted_51 : decode cL_isSighted 51 = .ok (.invokevirtual 98, 3) := by decide +kernel
theorem dL_isSighted_54 : decode cL_isSighted 54 = .ok (.istore 9, 2) := by decide +kernel
theorem dL_isSighted_56 : decode cL_isSighted 56 = .ok (.aload_n 0, 1) := by decide +kernel
theorem dL_isSighted_57 : decode cL_isSighted 57 = .ok (.iload_n 1, 1) := by decide +kernel
theorem dL_isSighted_58 : decode cL_isSighted 58 = .ok (.bipush 7, 2) := by decide +kernel
theorem dL_isSighted_60 : decode cL_isSighted 60 = .ok (.invokevirtual 98, 3) := by decide +kernel
theorem dL_isSighted_63 : decode cL_isSighted 63 = .ok (.istore 10, 2) := by decide +kernel
theorem dL_isSighted_65 : decode cL_isSighted 65 = .ok (.aload_n 0, 1) := by decide +kernel
theorem dL_isSighted_66 : decode cL_isSighted 66 = .ok (.iload_n 1, 1) := by decide +kernel
theorem dL_isSighted_67 : decode cL_isSighted 67 = .ok (.iload_n 2, 1) := by decide +kernel
theorem dL_isSighted_68 : decode cL_isSighted 68 = .ok (.invokevirtual 35, 3) := by decide +kernel
theorem dL_isSighted_71 : decode cL_isSighted 71 = .ok (.istore 11, 2) := by decide +kernel
theorem dL_isSighted_73 : decode cL_isSighted 73 = .ok (.iload 11, 2) := by decide +kernel
theorem dL_isSighted_75 : decode cL_isSighted 75 = .ok (.bipush (-3), 2) := by decide +kernel
theorem dL_isSighted_77 : decode cL_isSighted 77 = .ok (.if_icmp .ne 52, 3) := by decide +kernel
theorem dL_isSighted_80 : decode cL_isSighted 80 = .ok (.iload 10, 2) := by decide +kernel
theorem dL_isSighted_82 : decode cL_isSighted 82 = .ok (.iload_n 2, 1) := by decide +kernel
theorem dL_isSighted_83 : decode cL_isSighted 83 = .ok (.ishr, 1) := by decide +kernel
theorem dL_isSighted_84 : decode cL_isSighted 84 = .ok (.iconst 1, 1) := by decide +kernel
theorem dL_isSighted_85 : decode cL_isSighted 85 = .ok (.iand, 1) := by decide +kernel
theorem dL_isSighted_86 : decode cL_isSighted 86 = .ok (.iconst 1, 1) := by decide +kernel
theorem dL_isSighted_87 : decode cL_isSighted 87 = .ok (.if_icmp .ne 40, 3) := by decide +kernel
theorem dL_isSighted_90 : decode cL_isSighted 90 = .ok (.aload_n 0, 1) := by decide +kernel
theorem dL_isSighted_91 : decode cL_isSighted 91 = .ok (.iconst 0, 1) := by decide +kernel
theorem dL_isSighted_92 : decode cL_isSighted 92 = .ok (.iconst 0, 1) := by decide +kernel
theorem dL_isSighted_93 : decode cL_isSighted 93 = .ok (.invokevirtual 155, 3) := by decide +kernel
theorem dL_isSighted_96 : decode cL_isSighted 96 = .ok (.iconst 3, 1) := by decide +kernel
theorem dL_isSighted_97 : decode cL_isSighted 97 = .ok (.if_icmp .ne 30, 3) := by decide +kernel
theorem dL_isSighted_100 : decode cL_isSighted 100 = .ok (.aload_n 0, 1) := by decide +kernel
theorem dL_isSighted_101 : decode cL_isSighted 101 = .ok (.iconst 0, 1) := by decide +kernel
theorem dL_isSighted_102 : decode cL_isSighted 102 = .ok (.iconst 1, 1) := by decide +kernel
theorem dL_isSighted_103 : decode cL_isSighted 103 = .ok (.invokevirtual 155, 3) := by decide +kernel
theorem dL_isSighted_106 : decode cL_isSighted 106 = .ok (.iload 10, 2) := by decide +kernel
theorem dL_isSighted_108 : decode cL_isSighted 108 = .ok (.invokestatic 159, 3) := by decide +kernel
theorem dL_isSighted_111 : decode cL_isSighted 111 = .ok (.if_icmp .ne 16, 3) := by decide +kernel
theorem dL_isSighted_114 : decode cL_isSighted 114 = .ok (.aload_n 0, 1) := by decide +kernel
theorem dL_isSighted_115 : decode cL_isSighted 115 = .ok (.invokestatic 151, 3) := by decide +kernel
theorem dL_isSighted_118 : decode cL_isSighted 118 = .ok (.lload_n 3, 1) := by decide +kernel
theorem dL_isSighted_119 : decode cL_isSighted 119 = .ok (.lcmp, 1) := by decide +kernel
theorem dL_isSighted_120 : decode cL_isSighted 120 = .ok (.ifCond .ne 7, 3) := by decide +kernel
theorem dL_isSighted_123 : decode cL_isSighted 123 = .ok (.iconst 1, 1) := by decide +kernel
theorem dL_isSighted_124 : decode cL_isSighted 124 = .ok (.goto 4, 3) := by decide +kernel
theorem dL_isSighted_127 : decode cL_isSighted 127 = .ok (.iconst 0, 1) := by decide +kernel
theorem dL_isSighted_128 : decode cL_isSighted 128 = .ok (.ireturn, 1) := by decide +kernel
theorem dL_isSighted_129 : decode cL_isSighted 129 = .ok (.iload 6, 2) := by decide +kernel
theorem dL_isSighted_131 : decode cL_isSighted 131 = .ok (.iload 5, 2) := by decide +kernel
theorem dL_isSighted_133 : decode cL_isSighted 133 = .ok (.invokestatic 164, 3) := by decide +kernel
theorem dL_isSighted_136 : decode cL_isSighted 136 = .ok (.istore 12, 2) := by decide +kernel
theorem dL_isSighted_138 : decode cL_isSighted 138 = .ok (.iload 10, 2) := by decide +kernel
theorem dL_isSighted_140 : decode cL_isSighted 140 = .ok (.iload_n 2, 1) := by decide +kernel
theorem dL_isSighted_141 : decode cL_isSighted 141 = .ok (.ishr, 1) := by decide +kernel
theorem dL_isSighted_142 : decode cL_isSighted 142 = .ok (.iconst 1, 1) := by decide +kernel
theorem dL_isSighted_143 : decode cL_isSighted 143 = .ok (.iand, 1) := by decide +kernel
theorem dL_isSighted_144 : decode cL_isSighted 144 = .ok (.ifCond .ne 60, 3) := by decide +kernel
theorem dL_isSighted_147 : decode cL_isSighted 147 = .ok (.iload 11, 2) := by decide +kernel
theorem dL_isSighted_149 : decode cL_isSighted 149 = .ok (.iload 5, 2) := by decide +kernel
theorem dL_isSighted_151 : decode cL_isSighted 151 = .ok (.if_icmp .ne 53, 3) := by decide +kernel
theorem dL_isSighted_154 : decode cL_isSighted 154 = .ok (.aload_n 0, 1) := by decide +kernel
theorem dL_isSighted_155 : decode cL_isSighted 155 = .ok (.iload_n 1, 1) := by decide +kernel
theorem dL_isSighted_156 : decode cL_isSighted 156 = .ok (.iconst 0, 1) := by decide +kernel
theorem dL_isSighted_157 : decode cL_isSighted 157 = .ok (.invokevirtual 98, 3) := by decide +kernel
theorem dL_isSighted_160 : decode cL_isSighted 160 = .ok (.iload 6, 2) := by decide +kernel
theorem dL_isSighted_162 : decode cL_isSighted 162 = .ok (.iload 12, 2) := by decide +kernel
theorem dL_isSighted_164 : decode cL_isSighted 164 = .ok (.isub, 1) := by decide +kernel
theorem dL_isSighted_165 : decode cL_isSighted 165 = .ok (.if_icmp .ne 39, 3) := by decide +kernel
theorem dL_isSighted_168 : decode cL_isSighted 168 = .ok (.aload_n 0, 1) := by decide +kernel
theorem dL_isSighted_169 : decode cL_isSighted 169 = .ok (.iload_n 1, 1) := by decide +kernel
theorem dL_isSighted_170 : decode cL_isSighted 170 = .ok (.invokevirtual 101, 3) := by decide +kernel
theorem dL_isSighted_173 : decode cL_isSighted 173 = .ok (.iload 7, 2) := by decide +kernel
theorem dL_isSighted_175 : decode cL_isSighted 175 = .ok (.iload 5, 2) := by decide +kernel
theorem dL_isSighted_177 : decode cL_isSighted 177 = .ok (.iadd, 1) := by decide +kernel
theorem dL_isSighted_178 : decode cL_isSighted 178 = .ok (.iload 12, 2) := by decide +kernel
theorem dL_isSighted_180 : decode cL_isSighted 180 = .ok (.isub, 1) := by decide +kernel
theorem dL_isSighted_181 : decode cL_isSighted 181 = .ok (.if_icmp .ne 23, 3) := by decide +kernel
theorem dL_isSighted_184 : decode cL_isSighted 184 = .ok (.aload_n 0, 1) := by decide +kernel
theorem dL_isSighted_185 : decode cL_isSighted 185 = .ok (.iload_n 1, 1) := by decide +kernel
theorem dL_isSighted_186 : decode cL_isSighted 186 = .ok (.bipush 7, 2) := by decide +kernel
theorem dL_isSighted_188 : decode cL_isSighted 188 = .ok (.invokevirtual 98, 3) := by decide +kernel
theorem dL_isSighted_191 : decode cL_isSighted 191 = .ok (.iload 10, 2) := by decide +kernel
theorem dL_isSighted_193 : decode cL_isSighted 193 = .ok (.iconst 1, 1) := by decide +kernel
theorem dL_isSighted_194 : decode cL_isSighted 194 = .ok (.iload_n 2, 1) := by decide +kernel
theorem dL_isSighted_195 : decode cL_isSighted 195 = .ok (.ishl, 1) := by decide +kernel
theorem dL_isSighted_196 : decode cL_isSighted 196 = .ok (.ior, 1) := by decide +kernel
theorem dL_isSighted_197 : decode cL_isSighted 197 = .ok (.if_icmp .ne 7, 3) := by decide +kernel
theorem dL_isSighted_200 : decode cL_isSighted 200 = .ok (.iconst 1, 1) := by decide +kernel
theorem dL_isSighted_201 : decode cL_isSighted 201 = .ok (.goto 4, 3) := by decide +kernel
theorem dL_isSighted_204 : decode cL_isSighted 204 = .ok (.iconst 0, 1) := by decide +kernel
theorem dL_isSighted_205 : decode cL_isSighted 205 = .ok (.istore 13, 2) := by decide +kernel
theorem dL_isSighted_207 : decode cL_isSighted 207 = .ok (.iload 13, 2) := by decide +kernel
theorem dL_isSighted_209 : decode cL_isSighted 209 = .ok (.ifCond .eq 57, 3) := by decide +kernel
theorem dL_isSighted_212 : decode cL_isSighted 212 = .ok (.iload 8, 2) := by decide +kernel
theorem dL_isSighted_214 : decode cL_isSighted 214 = .ok (.bipush (-4), 2) := by decide +kernel
theorem dL_isSighted_216 : decode cL_isSighted 216 = .ok (.if_icmp .eq 26, 3) := by decide +kernel
theorem dL_isSighted_219 : decode cL_isSighted 219 = .ok (.iload 8, 2) := by decide +kernel
theorem dL_isSighted_221 : decode cL_isSighted 221 = .ok (.iload_n 1, 1) := by decide +kernel
theorem dL_isSighted_222 : decode cL_isSighted 222 = .ok (.if_icmp .eq 20, 3) := by decide +kernel
theorem dL_isSighted_225 : decode cL_isSighted 225 = .ok (.aload_n 0, 1) := by decide +kernel
theorem dL_isSighted_226 : decode cL_isSighted 226 = .ok (.iload 8, 2) := by decide +kernel
theorem dL_isSighted_228 : decode cL_isSighted 228 = .ok (.iconst 0, 1) := by decide +kernel
theorem dL_isSighted_229 : decode cL_isSighted 229 = .ok (.invokevirtual 98, 3) := by decide +kernel
theorem dL_isSighted_232 : decode cL_isSighted 232 = .ok (.iload 9, 2) := by decide +kernel
theorem dL_isSighted_234 : decode cL_isSighted 234 = .ok (.iload 12, 2) := by decide +kernel
theorem dL_isSighted_236 : decode cL_isSighted 236 = .ok (.iconst 2, 1) := by decide +kernel
theorem dL_isSighted_237 : decode cL_isSighted 237 = .ok (.idiv, 1) := by decide +kernel
theorem dL_isSighted_238 : decode cL_isSighted 238 = .ok (.iadd, 1) := by decide +kernel
theorem dL_isSighted_239 : decode cL_isSighted 239 = .ok (.if_icmp .ne 27, 3) := by decide +kernel
theorem dL_isSighted_242 : decode cL_isSighted 242 = .ok (.aload_n 0, 1) := by decide +kernel
theorem dL_isSighted_243 : decode cL_isSighted 243 = .ok (.iload_n 1, 1) := by decide +kernel
theorem dL_isSighted_244 : decode cL_isSighted 244 = .ok (.bipush 8, 2) := by decide +kernel
theorem dL_isSighted_246 : decode cL_isSighted 246 = .ok (.invokevirtual 98, 3) := by decide +kernel
theorem dL_isSighted_249 : decode cL_isSighted 249 = .ok (.iload_n 2, 1) := by decide +kernel
theorem dL_isSighted_250 : decode cL_isSighted 250 = .ok (.ishr, 1) := by decide +kernel
theorem dL_isSighted_251 : decode cL_isSighted 251 = .ok (.iconst 1, 1) := by decide +kernel
theorem dL_isSighted_252 : decode cL_isSighted 252 = .ok (.iand, 1) := by decide +kernel
theorem dL_isSighted_253 : decode cL_isSighted 253 = .ok (.aload_n 0, 1) := by decide +kernel
theorem dL_isSighted_254 : decode cL_isSighted 254 = .ok (.iload_n 2, 1) := by decide +kernel
theorem dL_isSighted_255 : decode cL_isSighted 255 = .ok (.iconst 2, 1) := by decide +kernel
theorem dL_isSighted_256 : decode cL_isSighted 256 = .ok (.invokevirtual 95, 3) := by decide +kernel
theorem dL_isSighted_259 : decode cL_isSighted 259 = .ok (.if_icmp .ne 7, 3) := by decide +kernel
theorem dL_isSighted_262 : decode cL_isSighted 262 = .ok (.iconst 1, 1) := by decide +kernel
theorem dL_isSighted_263 : decode cL_isSighted 263 = .ok (.goto 4, 3) := by decide +kernel
theorem dL_isSighted_266 : decode cL_isSighted 266 = .ok (.iconst 0, 1) := by decide +kernel
theorem dL_isSighted_267 : decode cL_isSighted 267 = .ok (.istore 13, 2) := by decide +kernel
theorem dL_isSighted_269 : decode cL_isSighted 269 = .ok (.iload 13, 2) := by decide +kernel
theorem dL_isSighted_271 : decode cL_isSighted 271 = .ok (.ifCond .eq 23, 3) := by decide +kernel
theorem dL_isSighted_274 : decode cL_isSighted 274 = .ok (.aload_n 0, 1) := by decide +kernel
theorem dL_isSighted_275 : decode cL_isSighted 275 = .ok (.invokevirtual 82, 3) := by decide +kernel
theorem dL_isSighted_278 : decode cL_isSighted 278 = .ok (.ifCond .lt 16, 3) := by decide +kernel
theorem dL_isSighted_281 : decode cL_isSighted 281 = .ok (.aload_n 0, 1) := by decide +kernel
theorem dL_isSighted_282 : decode cL_isSighted 282 = .ok (.invokestatic 151, 3) := by decide +kernel
theorem dL_isSighted_285 : decode cL_isSighted 285 = .ok (.lload_n 3, 1) := by decide +kernel
theorem dL_isSighted_286 : decode cL_isSighted 286 = .ok (.lcmp, 1) := by decide +kernel
theorem dL_isSighted_287 : decode cL_isSighted 287 = .ok (.ifCond .ne 7, 3) := by decide +kernel
theorem dL_isSighted_290 : decode cL_isSighted 290 = .ok (.iconst 1, 1) := by decide +kernel
theorem dL_isSighted_291 : decode cL_isSighted 291 = .ok (.goto 4, 3) := by decide +kernel
theorem dL_isSighted_294 : decode cL_isSighted 294 = .ok (.iconst 0, 1) := by decide +kernel
theorem dL_isSighted_295 : decode cL_isSighted 295 = .ok (.ireturn, 1) := by decide +kernel
theorem dL_isDawn_0 : decode cL_isDawn 0 = .ok (.aload_n 0, 1) := by decide +kernel
theorem dL_isDawn_1 : decode cL_isDawn 1 = .ok (.invokestatic 151, 3) := by decide +kernel
theorem dL_isDawn_4 : decode cL_isDawn 4 = .ok (.lstore_n 1, 1) := by decide +kernel
theorem dL_isDawn_5 : decode cL_isDawn 5 = .ok (.aload_n 0, 1) := by decide +kernel
theorem dL_isDawn_6 : decode cL_isDawn 6 = .ok (.invokevirtual 167, 3) := by decide +kernel
theorem dL_isDawn_9 : decode cL_isDawn 9 = .ok (.istore_n 3, 1) := by decide +kernel
theorem dL_isDawn_10 : decode cL_isDawn 10 = .ok (.aload_n 0, 1) := by decide +kernel
theorem dL_isDawn_11 : decode cL_isDawn 11 = .ok (.iconst 3, 1) := by decide +kernel
theorem dL_isDawn_12 : decode cL_isDawn 12 = .ok (.invokevirtual 89, 3) := by decide +kernel
theorem dL_isDawn_15 : decode cL_isDawn 15 = .ok (.istore 4, 2) := by decide +kernel
theorem dL_isDawn_17 : decode cL_isDawn 17 = .ok (.aload_n 0, 1) := by decide +kernel
theorem dL_isDawn_18 : decode cL_isDawn 18 = .ok (.iconst 2, 1) := by decide +kernel
theorem dL_isDawn_19 : decode cL_isDawn 19 = .ok (.invokevirtual 89, 3) := by decide +kernel
theorem dL_isDawn_22 : decode cL_isDawn 22 = .ok (.istore 5, 2) := by decide +kernel
theorem dL_isDawn_24 : decode cL_isDawn 24 = .ok (.aload_n 0, 1) := by decide +kernel
theorem dL_isDawn_25 : decode cL_isDawn 25 = .ok (.bipush 11, 2) := by decide +kernel
theorem dL_isDawn_27 : decode cL_isDawn 27 = .ok (.invokevirtual 89, 3) := by decide +kernel
theorem dL_isDawn_30 : decode cL_isDawn 30 = .ok (.istore 6, 2) := by decide +kernel
theorem dL_isDawn_32 : decode cL_isDawn 32 = .ok (.iconst 0, 1) := by decide +kernel
theorem dL_isDawn_33 : decode cL_isDawn 33 = .ok (.istore 7, 2) := by decide +kernel
theorem dL_isDawn_35 : decode cL_isDawn 35 = .ok (.iconst 0, 1) := by decide +kernel
theorem dL_isDawn_36 : decode cL_isDawn 36 = .ok (.istore 8, 2) := by decide +kernel
theorem dL_isDawn_38 : decode cL_isDawn 38 = .ok (.iload 8, 2) := by decide +kernel
theorem dL_isDawn_40 : decode cL_isDawn 40 = .ok (.iload 5, 2) := by decide +kernel
theorem dL_isDawn_42 : decode cL_isDawn 42 = .ok (.if_icmp .ge 30, 3) := by decide +kernel
theorem dL_isDawn_45 : decode cL_isDawn 45 = .ok (.iload 7, 2) := by decide +kernel
theorem dL_isDawn_47 : decode cL_isDawn 47 = .ok (.aload_n 0, 1) := by decide +kernel
theorem dL_isDawn_48 : decode cL_isDawn 48 = .ok (.iload 8, 2) := by decide +kernel
theorem dL_isDawn_50 : decode cL_isDawn 50 = .ok (.iconst 4, 1) := by decide +kernel
theorem dL_isDawn_51 : decode cL_isDawn 51 = .ok (.invokevirtual 104, 3) := by decide +kernel
theorem dL_isDawn_54 : decode cL_isDawn 54 = .ok (.iconst 2, 1) := by decide +kernel
theorem dL_isDawn_55 : decode cL_isDawn 55 = .ok (.if_icmp .ne 7, 3) := by decide +kernel
theorem dL_isDawn_58 : decode cL_isDawn 58 = .ok (.iconst 1, 1) := by decide +kernel
theorem dL_isDawn_59 : decode cL_isDawn 59 = .ok (.goto 4, 3) := by decide +kernel
theorem dL_isDawn_62 : decode cL_isDawn 62 = .ok (.iconst 0, 1) := by decide +kernel
theorem dL_isDawn_63 : decode cL_isDawn 63 = .ok (.iadd, 1) := by decide +kernel
theorem dL_isDawn_64 : decode cL_isDawn 64 = .ok (.istore 7, 2) := by decide +kernel
theorem dL_isDawn_66 : decode cL_isDawn 66 = .ok (.iinc 8 1, 3) := by decide +kernel
theorem dL_isDawn_69 : decode cL_isDawn 69 = .ok (.goto (-31), 3) := by decide +kernel
theorem dL_isDawn_72 : decode cL_isDawn 72 = .ok (.aload_n 0, 1) := by decide +kernel
theorem dL_isDawn_73 : decode cL_isDawn 73 = .ok (.invokevirtual 60, 3) := by decide +kernel
theorem dL_isDawn_76 : decode cL_isDawn 76 = .ok (.iload_n 3, 1) := by decide +kernel
theorem dL_isDawn_77 : decode cL_isDawn 77 = .ok (.if_icmp .ne 49, 3) := by decide +kernel
theorem dL_isDawn_80 : decode cL_isDawn 80 = .ok (.aload_n 0, 1) := by decide +kernel
theorem dL_isDawn_81 : decode cL_isDawn 81 = .ok (.iconst 2, 1) := by decide +kernel
theorem dL_isDawn_82 : decode cL_isDawn 82 = .ok (.invokevirtual 89, 3) := by decide +kernel
theorem dL_isDawn_85 : decode cL_isDawn 85 = .ok (.iload 5, 2) := by decide +kernel
theorem dL_isDawn_87 : decode cL_isDawn 87 = .ok (.iload_n 3, 1) := by decide +kernel
theorem dL_isDawn_88 : decode cL_isDawn 88 = .ok (.isub, 1) := by decide +kernel
theorem dL_isDawn_89 : decode cL_isDawn 89 = .ok (.iload 7, 2) := by decide +kernel
theorem dL_isDawn_91 : decode cL_isDawn 91 = .ok (.isub, 1) := by decide +kernel
theorem dL_isDawn_92 : decode cL_isDawn 92 = .ok (.if_icmp .ne 34, 3) := by decide +kernel
theorem dL_isDawn_95 : decode cL_isDawn 95 = .ok (.aload_n 0, 1) := by decide +kernel
theorem dL_isDawn_96 : decode cL_isDawn 96 = .ok (.iconst 3, 1) := by decide +kernel
theorem dL_isDawn_97 : decode cL_isDawn 97 = .ok (.invokevirtual 89, 3) := by decide +kernel
theorem dL_isDawn_100 : decode cL_isDawn 100 = .ok (.iload 4, 2) := by decide +kernel
theorem dL_isDawn_102 : decode cL_isDawn 102 = .ok (.iload 7, 2) := by decide +kernel
theorem dL_isDawn_104 : decode cL_isDawn 104 = .ok (.isub, 1) := by decide +kernel
theorem dL_isDawn_105 : decode cL_isDawn 105 = .ok (.if_icmp .ne 21, 3) := by decide +kernel
theorem dL_isDawn_108 : decode cL_isDawn 108 = .ok (.aload_n 0, 1) := by decide +kernel
theorem dL_isDawn_109 : decode cL_isDawn 109 = .ok (.bipush 11, 2) := by decide +kernel
theorem dL_isDawn_111 : decode cL_isDawn 111 = .ok (.invokevirtual 89, 3) := by decide +kernel
theorem dL_isDawn_114 : decode cL_isDawn 114 = .ok (.iload 6, 2) := by decide +kernel
theorem dL_isDawn_116 : decode cL_isDawn 116 = .ok (.iload 7, 2) := by decide +kernel
theorem dL_isDawn_118 : decode cL_isDawn 118 = .ok (.iadd, 1) := by decide +kernel
theorem dL_isDawn_119 : decode cL_isDawn 119 = .ok (.if_icmp .ne 7, 3) := by decide +kernel
theorem dL_isDawn_122 : decode cL_isDawn 122 = .ok (.iconst 1, 1) := by decide +kernel
theorem dL_isDawn_123 : decode cL_isDawn 123 = .ok (.goto 4, 3) := by decide +kernel
theorem dL_isDawn_126 : decode cL_isDawn 126 = .ok (.iconst 0, 1) := by decide +kernel
theorem dL_isDawn_127 : decode cL_isDawn 127 = .ok (.istore 8, 2) := by decide +kernel
theorem dL_isDawn_129 : decode cL_isDawn 129 = .ok (.iconst 0, 1) := by decide +kernel
theorem dL_isDawn_130 : decode cL_isDawn 130 = .ok (.istore 9, 2) := by decide +kernel
theorem dL_isDawn_132 : decode cL_isDawn 132 = .ok (.iload 8, 2) := by decide +kernel
theorem dL_isDawn_134 : decode cL_isDawn 134 = .ok (.ifCond .eq 48, 3) := by decide +kernel
theorem dL_isDawn_137 : decode cL_isDawn 137 = .ok (.iload 9, 2) := by decide +kernel
theorem dL_isDawn_139 : decode cL_isDawn 139 = .ok (.aload_n 0, 1) := by decide +kernel
theorem dL_isDawn_140 : decode cL_isDawn 140 = .ok (.iconst 1, 1) := by decide +kernel
theorem dL_isDawn_141 : decode cL_isDawn 141 = .ok (.invokevirtual 89, 3) := by decide +kernel
theorem dL_isDawn_144 : decode cL_isDawn 144 = .ok (.if_icmp .ge 38, 3) := by decide +kernel
theorem dL_isDawn_147 : decode cL_isDawn 147 = .ok (.aload_n 0, 1) := by decide +kernel
theorem dL_isDawn_148 : decode cL_isDawn 148 = .ok (.iload 9, 2) := by decide +kernel
theorem dL_isDawn_150 : decode cL_isDawn 150 = .ok (.bipush 7, 2) := by decide +kernel
theorem dL_isDawn_152 : decode cL_isDawn 152 = .ok (.invokevirtual 98, 3) := by decide +kernel
theorem dL_isDawn_155 : decode cL_isDawn 155 = .ok (.ifCond .ne 18, 3) := by decide +kernel
theorem dL_isDawn_158 : decode cL_isDawn 158 = .ok (.aload_n 0, 1) := by decide +kernel
theorem dL_isDawn_159 : decode cL_isDawn 159 = .ok (.iload 9, 2) := by decide +kernel
theorem dL_isDawn_161 : decode cL_isDawn 161 = .ok (.bipush 8, 2) := by decide +kernel
theorem dL_isDawn_163 : decode cL_isDawn 163 = .ok (.invokevirtual 98, 3) := by decide +kernel
theorem dL_isDawn_166 : decode cL_isDawn 166 = .ok (.ifCond .ne 7, 3) := by decide +kernel
theorem dL_isDawn_169 : decode cL_isDawn 169 = .ok (.iconst 1, 1) := by decide +kernel
theorem dL_isDawn_170 : decode cL_isDawn 170 = .ok (.goto 4, 3) := by decide +kernel
theorem dL_isDawn_173 : decode cL_isDawn 173 = .ok (.iconst 0, 1) := by decide +kernel
theorem dL_isDawn_174 : decode cL_isDawn 174 = .ok (.istore 8, 2) := by decide +kernel
theorem dL_isDawn_176 : decode cL_isDawn 176 = .ok (.iinc 9 1, 3) := by decide +kernel
theorem dL_isDawn_179 : decode cL_isDawn 179 = .ok (.goto (-47), 3) := by decide +kernel
theorem dL_isDawn_182 : decode cL_isDawn 182 = .ok (.iload 8, 2) := by decide +kernel
theorem dL_isDawn_184 : decode cL_isDawn 184 = .ok (.ifCond .eq 37, 3) := by decide +kernel
theorem dL_isDawn_187 : decode cL_isDawn 187 = .ok (.aload_n 0, 1) := by decide +kernel
theorem dL_isDawn_188 : decode cL_isDawn 188 = .ok (.invokestatic 170, 3) := by decide +kernel
theorem dL_isDawn_191 : decode cL_isDawn 191 = .ok (.ifCond .eq 30, 3) := by decide +kernel
theorem dL_isDawn_194 : decode cL_isDawn 194 = .ok (.aload_n 0, 1) := by decide +kernel
theorem dL_isDawn_195 : decode cL_isDawn 195 = .ok (.invokestatic 174, 3) := by decide +kernel
theorem dL_isDawn_198 : decode cL_isDawn 198 = .ok (.ifCond .eq 23, 3) := by decide +kernel
theorem dL_isDawn_201 : decode cL_isDawn 201 = .ok (.aload_n 0, 1) := by decide +kernel
theorem dL_isDawn_202 : decode cL_isDawn 202 = .ok (.invokevirtual 82, 3) := by decide +kernel
theorem dL_isDawn_205 : decode cL_isDawn 205 = .ok (.ifCond .lt 16, 3) := by decide +kernel
theorem dL_isDawn_208 : decode cL_isDawn 208 = .ok (.aload_n 0, 1) := by decide +kernel
theorem dL_isDawn_209 : decode cL_isDawn 209 = .ok (.invokestatic 151, 3) := by decide +kernel
theorem dL_isDawn_212 : decode cL_isDawn 212 = .ok (.lload_n 1, 1) := by decide +kernel
theorem dL_isDawn_213 : decode cL_isDawn 213 = .ok (.lcmp, 1) := by decide +kernel
theorem dL_isDawn_214 : decode cL_isDawn 214 = .ok (.ifCond .ne 7, 3) := by decide +kernel
theorem dL_isDawn_217 : decode cL_isDawn 217 = .ok (.iconst 1, 1) := by decide +kernel
theorem dL_isDawn_218 : decode cL_isDawn 218 = .ok (.goto 4, 3) := by decide +kernel
theorem dL_isDawn_221 : decode cL_isDawn 221 = .ok (.iconst 0, 1) := by decide +kernel
theorem dL_isDawn_222 : decode cL_isDawn 222 = .ok (.ireturn, 1) := by decide +kernel
theorem dL_isPound_0 : decode cL_isPound 0 = .ok (.aload_n 0, 1) := by decide +kernel
theorem dL_isPound_1 : decode cL_isPound 1 = .ok (.invokestatic 151, 3) := by decide +kernel
theorem dL_isPound_4 : decode cL_isPound 4 = .ok (.lstore_n 2, 1) := by decide +kernel
theorem dL_isPound_5 : decode cL_isPound 5 = .ok (.aload_n 0, 1) := by decide +kernel
theorem dL_isPound_6 : decode cL_isPound 6 = .ok (.iload_n 1, 1) := by decide +kernel
theorem dL_isPound_7 : decode cL_isPound 7 = .ok (.iconst 2, 1) := by decide +kernel
theorem dL_isPound_8 : decode cL_isPound 8 = .ok (.invokevirtual 98, 3) := by decide +kernel
theorem dL_isPound_11 : decode cL_isPound 11 = .ok (.aload_n 0, 1) := by decide +kernel
theorem dL_isPound_12 : decode cL_isPound 12 = .ok (.iload_n 1, 1) := by decide +kernel
theorem dL_isPound_13 : decode cL_isPound 13 = .ok (.iconst 3, 1) := by decide +kernel
theorem dL_isPound_14 : decode cL_isPound 14 = .ok (.invokevirtual 98, 3) := by decide +kernel
theorem dL_isPound_17 : decode cL_isPound 17 = .ok (.isub, 1) := by decide +kernel
theorem dL_isPound_18 : decode cL_isPound 18 = .ok (.istore 4, 2) := by decide +kernel
theorem dL_isPound_20 : decode cL_isPound 20 = .ok (.aload_n 0, 1) := by decide +kernel
theorem dL_isPound_21 : decode cL_isPound 21 = .ok (.iload_n 1, 1) := by decide +kernel
theorem dL_isPound_22 : decode cL_isPound 22 = .ok (.iconst 1, 1) := by decide +kernel
theorem dL_isPound_23 : decode cL_isPound 23 = .ok (.invokevirtual 98, 3) := by decide +kernel
theorem dL_isPound_26 : decode cL_isPound 26 = .ok (.ifCond .ne 22, 3) := by decide +kernel
theorem dL_isPound_29 : decode cL_isPound 29 = .ok (.aload_n 0, 1) := by decide +kernel
theorem dL_isPound_30 : decode cL_isPound 30 = .ok (.iload_n 1, 1) := by decide +kernel
theorem dL_isPound_31 : decode cL_isPound 31 = .ok (.invokevirtual 101, 3) := by decide +kernel
theorem dL_isPound_34 : decode cL_isPound 34 = .ok (.bipush 10, 2) := by decide +kernel
theorem dL_isPound_36 : decode cL_isPound 36 = .ok (.if_icmp .lt 12, 3) := by decide +kernel
theorem dL_isPound_39 : decode cL_isPound 39 = .ok (.iload 4, 2) := by decide +kernel
theorem dL_isPound_41 : decode cL_isPound 41 = .ok (.ifCond .le 7, 3) := by decide +kernel
theorem dL_isPound_44 : decode cL_isPound 44 = .ok (.iconst 1, 1) := by decide +kernel
theorem dL_isPound_45 : decode cL_isPound 45 = .ok (.goto 4, 3) := by decide +kernel
theorem dL_isPound_48 : decode cL_isPound 48 = .ok (.iconst 0, 1) := by decide +kernel
theorem dL_isPound_49 : decode cL_isPound 49 = .ok (.istore 5, 2) := by decide +kernel
theorem dL_isPound_51 : decode cL_isPound 51 = .ok (.aload_n 0, 1) := by decide +kernel
theorem dL_isPound_52 : decode cL_isPound 52 = .ok (.iload_n 1, 1) := by decide +kernel
theorem dL_isPound_53 : decode cL_isPound 53 = .ok (.invokevirtual 54, 3) := by decide +kernel
theorem dL_isPound_56 : decode cL_isPound 56 = .ok (.istore 6, 2) := by decide +kernel
theorem dL_isPound_58 : decode cL_isPound 58 = .ok (.iload 6, 2) := by decide +kernel
theorem dL_isPound_60 : decode cL_isPound 60 = .ok (.bipush (-3), 2) := by decide +kernel
theorem dL_isPound_62 : decode cL_isPound 62 = .ok (.if_icmp .ne 23, 3) := by decide +kernel
theorem dL_isPound_65 : decode cL_isPound 65 = .ok (.iload 5, 2) := by decide +kernel
theorem dL_isPound_67 : decode cL_isPound 67 = .ok (.ifCond .ne 16, 3) := by decide +kernel
theorem dL_isPound_70 : decode cL_isPound 70 = .ok (.aload_n 0, 1) := by decide +kernel
theorem dL_isPound_71 : decode cL_isPound 71 = .ok (.invokestatic 151, 3) := by decide +kernel
theorem dL_isPound_74 : decode cL_isPound 74 = .ok (.lload_n 2, 1) := by decide +kernel
theorem dL_isPound_75 : decode cL_isPound 75 = .ok (.lcmp, 1) := by decide +kernel
theorem dL_isPound_76 : decode cL_isPound 76 = .ok (.ifCond .ne 7, 3) := by decide +kernel
theorem dL_isPound_79 : decode cL_isPound 79 = .ok (.iconst 1, 1) := by decide +kernel
theorem dL_isPound_80 : decode cL_isPound 80 = .ok (.goto 4, 3) := by decide +kernel
theorem dL_isPound_83 : decode cL_isPound 83 = .ok (.iconst 0, 1) := by decide +kernel
theorem dL_isPound_84 : decode cL_isPound 84 = .ok (.ireturn, 1) := by decide +kernel
theorem dL_isPound_85 : decode cL_isPound 85 = .ok (.iload 5, 2) := by decide +kernel
theorem dL_isPound_87 : decode cL_isPound 87 = .ok (.ifCond .eq 36, 3) := by decide +kernel
theorem dL_isPound_90 : decode cL_isPound 90 = .ok (.iload 6, 2) := by decide +kernel
theorem dL_isPound_92 : decode cL_isPound 92 = .ok (.iload 4, 2) := by decide +kernel
theorem dL_isPound_94 : decode cL_isPound 94 = .ok (.if_icmp .ne 29, 3) := by decide +kernel
theorem dL_isPound_97 : decode cL_isPound 97 = .ok (.aload_n 0, 1) := by decide +kernel
theorem dL_isPound_98 : decode cL_isPound 98 = .ok (.iload_n 1, 1) := by decide +kernel
theorem dL_isPound_99 : decode cL_isPound 99 = .ok (.iconst 3, 1) := by decide +kernel
theorem dL_isPound_100 : decode cL_isPound 100 = .ok (.invokevirtual 98, 3) := by decide +kernel
theorem dL_isPound_103 : decode cL_isPound 103 = .ok (.aload_n 0, 1) := by decide +kernel
theorem dL_isPound_104 : decode cL_isPound 104 = .ok (.iload_n 1, 1) := by decide +kernel
theorem dL_isPound_105 : decode cL_isPound 105 = .ok (.iconst 2, 1) := by decide +kernel
theorem dL_isPound_106 : decode cL_isPound 106 = .ok (.invokevirtual 98, 3) := by decide +kernel
theorem dL_isPound_109 : decode cL_isPound 109 = .ok (.if_icmp .ne 14, 3) := by decide +kernel
theorem dL_isPound_112 : decode cL_isPound 112 = .ok (.aload_n 0, 1) := by decide +kernel
theorem dL_isPound_113 : decode cL_isPound 113 = .ok (.invokestatic 174, 3) := by decide +kernel
theorem dL_isPound_116 : decode cL_isPound 116 = .ok (.ifCond .eq 7, 3) := by decide +kernel
theorem dL_isPound_119 : decode cL_isPound 119 = .ok (.iconst 1, 1) := by decide +kernel
theorem dL_isPound_120 : decode cL_isPound 120 = .ok (.goto 4, 3) := by decide +kernel
theorem dL_isPound_123 : decode cL_isPound 123 = .ok (.iconst 0, 1) := by decide +kernel
theorem dL_isPound_124 : decode cL_isPound 124 = .ok (.istore 7, 2) := by decide +kernel
theorem dL_isPound_126 : decode cL_isPound 126 = .ok (.iconst 0, 1) := by decide +kernel
theorem dL_isPound_127 : decode cL_isPound 127 = .ok (.istore 8, 2) := by decide +kernel
theorem dL_isPound_129 : decode cL_isPound 129 = .ok (.iconst 0, 1) := by decide +kernel
theorem dL_isPound_130 : decode cL_isPound 130 = .ok (.istore 9, 2) := by decide +kernel
theorem dL_isPound_132 : decode cL_isPound 132 = .ok (.iload 7, 2) := by decide +kernel
theorem dL_isPound_134 : decode cL_isPound 134 = .ok (.ifCond .eq 118, 3) := by decide +kernel
theorem dL_isPound_137 : decode cL_isPound 137 = .ok (.iload 9, 2) := by decide +kernel
theorem dL_isPound_139 : decode cL_isPound 139 = .ok (.aload_n 0, 1) := by decide +kernel
theorem dL_isPound_140 : decode cL_isPound 140 = .ok (.iconst 2, 1) := by decide +kernel
theorem dL_isPound_141 : decode cL_isPound 141 = .ok (.invokevirtual 89, 3) := by decide +kernel
theorem dL_isPound_144 : decode cL_isPound 144 = .ok (.if_icmp .ge 108, 3) := by decide +kernel
theorem dL_isPound_147 : decode cL_isPound 147 = .ok (.aload_n 0, 1) := by decide +kernel
theorem dL_isPound_148 : decode cL_isPound 148 = .ok (.iload 9, 2) := by decide +kernel
theorem dL_isPound_150 : decode cL_isPound 150 = .ok (.iconst 5, 1) := by decide +kernel
theorem dL_isPound_151 : decode cL_isPound 151 = .ok (.invokevirtual 104, 3) := by decide +kernel
theorem dL_isPound_154 : decode cL_isPound 154 = .ok (.istore 10, 2) := by decide +kernel
theorem dL_isPound_156 : decode cL_isPound 156 = .ok (.aload_n 0, 1) := by decide +kernel
theorem dL_isPound_157 : decode cL_isPound 157 = .ok (.aload_n 0, 1) := by decide +kernel
theorem dL_isPound_158 : decode cL_isPound 158 = .ok (.iload 9, 2) := by decide +kernel
theorem dL_isPound_160 : decode cL_isPound 160 = .ok (.iconst 0, 1) := by decide +kernel
theorem dL_isPound_161 : decode cL_isPound 161 = .ok (.invokevirtual 104, 3) := by decide +kernel
theorem dL_isPound_164 : decode cL_isPound 164 = .ok (.iconst 0, 1) := by decide +kernel
theorem dL_isPound_165 : decode cL_isPound 165 = .ok (.invokevirtual 98, 3) := by decide +kernel
theorem dL_isPound_168 : decode cL_isPound 168 = .ok (.istore 11, 2) := by decide +kernel
theorem dL_isPound_170 : decode cL_isPound 170 = .ok (.iload 8, 2) := by decide +kernel
theorem dL_isPound_172 : decode cL_isPound 172 = .ok (.ifCond .ne 74, 3) := by decide +kernel
theorem dL_isPound_175 : decode cL_isPound 175 = .ok (.iload 10, 2) := by decide +kernel
theorem dL_isPound_177 : decode cL_isPound 177 = .ok (.bipush (-4), 2) := by decide +kernel
theorem dL_isPound_179 : decode cL_isPound 179 = .ok (.if_icmp .eq 67, 3) := by decide +kernel
theorem dL_isPound_182 : decode cL_isPound 182 = .ok (.iload 10, 2) := by decide +kernel
theorem dL_isPound_184 : decode cL_isPound 184 = .ok (.iload 11, 2) := by decide +kernel
theorem dL_isPound_186 : decode cL_isPound 186 = .ok (.if_icmp .gt 60, 3) := by decide +kernel
theorem dL_isPound_189 : decode cL_isPound 189 = .ok (.aload_n 0, 1) := by decide +kernel
theorem dL_isPound_190 : decode cL_isPound 190 = .ok (.iload 9, 2) := by decide +kernel
theorem dL_isPound_192 : decode cL_isPound 192 = .ok (.iconst 0, 1) := by decide +kernel
theorem dL_isPound_193 : decode cL_isPound 193 = .ok (.invokevirtual 104, 3) := by decide +kernel
theorem dL_isPound_196 : decode cL_isPound 196 = .ok (.istore 12, 2) := by decide +kernel
theorem dL_isPound_198 : decode cL_isPound 198 = .ok (.aload_n 0, 1) := by decide +kernel
theorem dL_isPound_199 : decode cL_isPound 199 = .ok (.iload 9, 2) := by decide +kernel
theorem dL_isPound_201 : decode cL_isPound 201 = .ok (.invokevirtual 57, 3) := by decide +kernel
theorem dL_isPound_204 : decode cL_isPound 204 = .ok (.iload 10, 2) := by decide +kernel
theorem dL_isPound_206 : decode cL_isPound 206 = .ok (.if_icmp .ne 34, 3) := by decide +kernel
theorem dL_isPound_209 : decode cL_isPound 209 = .ok (.aload_n 0, 1) := by decide +kernel
theorem dL_isPound_210 : decode cL_isPound 210 = .ok (.iload 12, 2) := by decide +kernel
theorem dL_isPound_212 : decode cL_isPound 212 = .ok (.iconst 0, 1) := by decide +kernel
theorem dL_isPound_213 : decode cL_isPound 213 = .ok (.invokevirtual 98, 3) := by decide +kernel
theorem dL_isPound_216 : decode cL_isPound 216 = .ok (.iload 11, 2) := by decide +kernel
theorem dL_isPound_218 : decode cL_isPound 218 = .ok (.iload 10, 2) := by decide +kernel
theorem dL_isPound_220 : decode cL_isPound 220 = .ok (.isub, 1) := by decide +kernel
theorem dL_isPound_221 : decode cL_isPound 221 = .ok (.if_icmp .ne 19, 3) := by decide +kernel
theorem dL_isPound_224 : decode cL_isPound 224 = .ok (.aload_n 0, 1) := by decide +kernel
theorem dL_isPound_225 : decode cL_isPound 225 = .ok (.iload 9, 2) := by decide +kernel
theorem dL_isPound_227 : decode cL_isPound 227 = .ok (.iconst 4, 1) := by decide +kernel
theorem dL_isPound_228 : decode cL_isPound 228 = .ok (.invokevirtual 104, 3) := by decide +kernel
theorem dL_isPound_231 : decode cL_isPound 231 = .ok (.bipush (-4), 2) := by decide +kernel
theorem dL_isPound_233 : decode cL_isPound 233 = .ok (.if_icmp .ne 7, 3) := by decide +kernel
theorem dL_isPound_236 : decode cL_isPound 236 = .ok (.iconst 1, 1) := by decide +kernel
theorem dL_isPound_237 : decode cL_isPound 237 = .ok (.goto 4, 3) := by decide +kernel
theorem dL_isPound_240 : decode cL_isPound 240 = .ok (.iconst 0, 1) := by decide +kernel
theorem dL_isPound_241 : decode cL_isPound 241 = .ok (.istore 7, 2) := by decide +kernel
theorem dL_isPound_243 : decode cL_isPound 243 = .ok (.iinc 8 1, 3) := by decide +kernel
theorem dL_isPound_246 : decode cL_isPound 246 = .ok (.iinc 9 1, 3) := by decide +kernel
theorem dL_isPound_249 : decode cL_isPound 249 = .ok (.goto (-117), 3) := by decide +kernel
theorem dL_isPound_252 : decode cL_isPound 252 = .ok (.iload 7, 2) := by decide +kernel
theorem dL_isPound_254 : decode cL_isPound 254 = .ok (.ifCond .eq 35, 3) := by decide +kernel
theorem dL_isPound_257 : decode cL_isPound 257 = .ok (.iload 8, 2) := by decide +kernel
theorem dL_isPound_259 : decode cL_isPound 259 = .ok (.ifCond .eq 10, 3) := by decide +kernel
theorem dL_isPound_262 : decode cL_isPound 262 = .ok (.aload_n 0, 1) := by decide +kernel
theorem dL_isPound_263 : decode cL_isPound 263 = .ok (.invokevirtual 82, 3) := by decide +kernel
theorem dL_isPound_266 : decode cL_isPound 266 = .ok (.ifCond .lt 23, 3) := by decide +kernel
theorem dL_isPound_269 : decode cL_isPound 269 = .ok (.aload_n 0, 1) := by decide +kernel
theorem dL_isPound_270 : decode cL_isPound 270 = .ok (.invokevirtual 82, 3) := by decide +kernel
theorem dL_isPound_273 : decode cL_isPound 273 = .ok (.ifCond .lt 16, 3) := by decide +kernel
theorem dL_isPound_276 : decode cL_isPound 276 = .ok (.aload_n 0, 1) := by decide +kernel
theorem dL_isPound_277 : decode cL_isPound 277 = .ok (.invokestatic 151, 3) := by decide +kernel
theorem dL_isPound_280 : decode cL_isPound 280 = .ok (.lload_n 2, 1) := by decide +kernel
theorem dL_isPound_281 : decode cL_isPound 281 = .ok (.lcmp, 1) := by decide +kernel
theorem dL_isPound_282 : decode cL_isPound 282 = .ok (.ifCond .ne 7, 3) := by decide +kernel
theorem dL_isPound_285 : decode cL_isPound 285 = .ok (.iconst 1, 1) := by decide +kernel
theorem dL_isPound_286 : decode cL_isPound 286 = .ok (.goto 4, 3) := by decide +kernel
theorem dL_isPound_289 : decode cL_isPound 289 = .ok (.iconst 0, 1) := by decide +kernel
theorem dL_isPound_290 : decode cL_isPound 290 = .ok (.ireturn, 1) := by decide +kernel
theorem dL_areOrders_0 : decode cL_areOrders 0 = .ok (.aload_n 0, 1) := by decide +kernel
theorem dL_areOrders_1 : decode cL_areOrders 1 = .ok (.iconst 1, 1) := by decide +kernel
theorem dL_areOrders_2 : decode cL_areOrders 2 = .ok (.invokevirtual 89, 3) := by decide +kernel
theorem dL_areOrders_5 : decode cL_areOrders 5 = .ok (.istore_n 1, 1) := by decide +kernel
theorem dL_areOrders_6 : decode cL_areOrders 6 = .ok (.aload_n 0, 1) := by decide +kernel
theorem dL_areOrders_7 : decode cL_areOrders 7 = .ok (.iconst 0, 1) := by decide +kernel
theorem dL_areOrders_8 : decode cL_areOrders 8 = .ok (.invokevirtual 89, 3) := by decide +kernel
theorem dL_areOrders_11 : decode cL_areOrders 11 = .ok (.istore_n 2, 1) := by decide +kernel
theorem dL_areOrders_12 : decode cL_areOrders 12 = .ok (.aload_n 0, 1) := by decide +kernel
theorem dL_areOrders_13 : decode cL_areOrders 13 = .ok (.iload_n 1, 1) := by decide +kernel
theorem dL_areOrders_14 : decode cL_areOrders 14 = .ok (.invokevirtual 177, 3) := by decide +kernel
theorem dL_areOrders_17 : decode cL_areOrders 17 = .ok (.iconst (-1), 1) := by decide +kernel
theorem dL_areOrders_18 : decode cL_areOrders 18 = .ok (.if_icmp .ne 25, 3) := by decide +kernel
theorem dL_areOrders_21 : decode cL_areOrders 21 = .ok (.aload_n 0, 1) := by decide +kernel
theorem dL_areOrders_22 : decode cL_areOrders 22 = .ok (.iload_n 2, 1) := by decide +kernel
theorem dL_areOrders_23 : decode cL_areOrders 23 = .ok (.invokevirtual 180, 3) := by decide +kernel
theorem dL_areOrders_26 : decode cL_areOrders 26 = .ok (.iconst (-1), 1) := by decide +kernel
theorem dL_areOrders_27 : decode cL_areOrders 27 = .ok (.if_icmp .ne 16, 3) := by decide +kernel
theorem dL_areOrders_30 : decode cL_areOrders 30 = .ok (.aload_n 0, 1) := by decide +kernel
theorem dL_areOrders_31 : decode cL_areOrders 31 = .ok (.iconst (-1), 1) := by decide +kernel
theorem dL_areOrders_32 : decode cL_areOrders 32 = .ok (.invokevirtual 180, 3) := by decide +kernel
theorem dL_areOrders_35 : decode cL_areOrders 35 = .ok (.iconst (-1), 1) := by decide +kernel
theorem dL_areOrders_36 : decode cL_areOrders 36 = .ok (.if_icmp .ne 7, 3) := by decide +kernel
theorem dL_areOrders_39 : decode cL_areOrders 39 = .ok (.iconst 1, 1) := by decide +kernel
theorem dL_areOrders_40 : decode cL_areOrders 40 = .ok (.goto 4, 3) := by decide +kernel
theorem dL_areOrders_43 : decode cL_areOrders 43 = .ok (.iconst 0, 1) := by decide +kernel
theorem dL_areOrders_44 : decode cL_areOrders 44 = .ok (.istore_n 3, 1) := by decide +kernel
theorem dL_areOrders_45 : decode cL_areOrders 45 = .ok (.iconst 1, 1) := by decide +kernel
theorem dL_areOrders_46 : decode cL_areOrders 46 = .ok (.istore 4, 2) := by decide +kernel
theorem dL_areOrders_48 : decode cL_areOrders 48 = .ok (.iload_n 3, 1) := by decide +kernel
theorem dL_areOrders_49 : decode cL_areOrders 49 = .ok (.ifCond .eq 114, 3) := by decide +kernel
theorem dL_areOrders_52 : decode cL_areOrders 52 = .ok (.iload 4, 2) := by decide +kernel
theorem dL_areOrders_54 : decode cL_areOrders 54 = .ok (.iload_n 1, 1) := by decide +kernel
theorem dL_areOrders_55 : decode cL_areOrders 55 = .ok (.if_icmp .ge 108, 3) := by decide +kernel
theorem dL_areOrders_58 : decode cL_areOrders 58 = .ok (.aload_n 0, 1) := by decide +kernel
theorem dL_areOrders_59 : decode cL_areOrders 59 = .ok (.iload 4, 2) := by decide +kernel
theorem dL_areOrders_61 : decode cL_areOrders 61 = .ok (.iconst 1, 1) := by decide +kernel
theorem dL_areOrders_62 : decode cL_areOrders 62 = .ok (.isub, 1) := by decide +kernel
theorem dL_areOrders_63 : decode cL_areOrders 63 = .ok (.invokevirtual 177, 3) := by decide +kernel
theorem dL_areOrders_66 : decode cL_areOrders 66 = .ok (.istore 5, 2) := by decide +kernel
theorem dL_areOrders_68 : decode cL_areOrders 68 = .ok (.aload_n 0, 1) := by decide +kernel
theorem dL_areOrders_69 : decode cL_areOrders 69 = .ok (.iload 4, 2) := by decide +kernel
theorem dL_areOrders_71 : decode cL_areOrders 71 = .ok (.invokevirtual 177, 3) := by decide +kernel
theorem dL_areOrders_74 : decode cL_areOrders 74 = .ok (.istore 6, 2) := by decide +kernel
theorem dL_areOrders_76 : decode cL_areOrders 76 = .ok (.aload_n 0, 1) := by decide +kernel
theorem dL_areOrders_77 : decode cL_areOrders 77 = .ok (.iload 5, 2) := by decide +kernel
theorem dL_areOrders_79 : decode cL_areOrders 79 = .ok (.iconst 0, 1) := by decide +kernel
theorem dL_areOrders_80 : decode cL_areOrders 80 = .ok (.invokevirtual 98, 3) := by decide +kernel
theorem dL_areOrders_83 : decode cL_areOrders 83 = .ok (.aload_n 0, 1) := by decide +kernel
theorem dL_areOrders_84 : decode cL_areOrders 84 = .ok (.iload 5, 2) := by decide +kernel
theorem dL_areOrders_86 : decode cL_areOrders 86 = .ok (.invokevirtual 101, 3) := by decide +kernel
theorem dL_areOrders_89 : decode cL_areOrders 89 = .ok (.isub, 1) := by decide +kernel
theorem dL_areOrders_90 : decode cL_areOrders 90 = .ok (.aload_n 0, 1) := by decide +kernel
theorem dL_areOrders_91 : decode cL_areOrders 91 = .ok (.iload 6, 2) := by decide +kernel
theorem dL_areOrders_93 : decode cL_areOrders 93 = .ok (.iconst 0, 1) := by decide +kernel
theorem dL_areOrders_94 : decode cL_areOrders 94 = .ok (.invokevirtual 98, 3) := by decide +kernel
theorem dL_areOrders_97 : decode cL_areOrders 97 = .ok (.isub, 1) := by decide +kernel
theorem dL_areOrders_98 : decode cL_areOrders 98 = .ok (.aload_n 0, 1) := by decide +kernel
theorem dL_areOrders_99 : decode cL_areOrders 99 = .ok (.iload 6, 2) := by decide +kernel
theorem dL_areOrders_101 : decode cL_areOrders 101 = .ok (.invokevirtual 101, 3) := by decide +kernel
theorem dL_areOrders_104 : decode cL_areOrders 104 = .ok (.iadd, 1) := by decide +kernel
theorem dL_areOrders_105 : decode cL_areOrders 105 = .ok (.istore 7, 2) := by decide +kernel
theorem dL_areOrders_107 : decode cL_areOrders 107 = .ok (.aload_n 0, 1) := by decide +kernel
theorem dL_areOrders_108 : decode cL_areOrders 108 = .ok (.iload 6, 2) := by decide +kernel
theorem dL_areOrders_110 : decode cL_areOrders 110 = .ok (.iconst 2, 1) := by decide +kernel
theorem dL_areOrders_111 : decode cL_areOrders 111 = .ok (.invokevirtual 98, 3) := by decide +kernel
theorem dL_areOrders_114 : decode cL_areOrders 114 = .ok (.aload_n 0, 1) := by decide +kernel
theorem dL_areOrders_115 : decode cL_areOrders 115 = .ok (.iload 5, 2) := by decide +kernel
theorem dL_areOrders_117 : decode cL_areOrders 117 = .ok (.iconst 2, 1) := by decide +kernel
theorem dL_areOrders_118 : decode cL_areOrders 118 = .ok (.invokevirtual 98, 3) := by decide +kernel
theorem dL_areOrders_121 : decode cL_areOrders 121 = .ok (.isub, 1) := by decide +kernel
theorem dL_areOrders_122 : decode cL_areOrders 122 = .ok (.istore 8, 2) := by decide +kernel
theorem dL_areOrders_124 : decode cL_areOrders 124 = .ok (.iload 7, 2) := by decide +kernel
theorem dL_areOrders_126 : decode cL_areOrders 126 = .ok (.ifCond .gt 25, 3) := by decide +kernel
theorem dL_areOrders_129 : decode cL_areOrders 129 = .ok (.iload 7, 2) := by decide +kernel
theorem dL_areOrders_131 : decode cL_areOrders 131 = .ok (.ifCond .ne 24, 3) := by decide +kernel
theorem dL_areOrders_134 : decode cL_areOrders 134 = .ok (.iload 8, 2) := by decide +kernel
theorem dL_areOrders_136 : decode cL_areOrders 136 = .ok (.ifCond .gt 15, 3) := by decide +kernel
theorem dL_areOrders_139 : decode cL_areOrders 139 = .ok (.iload 8, 2) := by decide +kernel
theorem dL_areOrders_141 : decode cL_areOrders 141 = .ok (.ifCond .ne 14, 3) := by decide +kernel
theorem dL_areOrders_144 : decode cL_areOrders 144 = .ok (.iload 5, 2) := by decide +kernel
theorem dL_areOrders_146 : decode cL_areOrders 146 = .ok (.iload 6, 2) := by decide +kernel
theorem dL_areOrders_148 : decode cL_areOrders 148 = .ok (.if_icmp .ge 7, 3) := by decide +kernel
theorem dL_areOrders_151 : decode cL_areOrders 151 = .ok (.iconst 1, 1) := by decide +kernel
theorem dL_areOrders_152 : decode cL_areOrders 152 = .ok (.goto 4, 3) := by decide +kernel
theorem dL_areOrders_155 : decode cL_areOrders 155 = .ok (.iconst 0, 1) := by decide +kernel
theorem dL_areOrders_156 : decode cL_areOrders 156 = .ok (.istore_n 3, 1) := by decide +kernel
theorem dL_areOrders_157 : decode cL_areOrders 157 = .ok (.iinc 4 1, 3) := by decide +kernel
theorem dL_areOrders_160 : decode cL_areOrders 160 = .ok (.goto (-112), 3) := by decide +kernel
theorem dL_areOrders_163 : decode cL_areOrders 163 = .ok (.iconst 1, 1) := by decide +kernel
theorem dL_areOrders_164 : decode cL_areOrders 164 = .ok (.istore 4, 2) := by decide +kernel
theorem dL_areOrders_166 : decode cL_areOrders 166 = .ok (.iload_n 3, 1) := by decide +kernel
theorem dL_areOrders_167 : decode cL_areOrders 167 = .ok (.ifCond .eq 100, 3) := by decide +kernel
theorem dL_areOrders_170 : decode cL_areOrders 170 = .ok (.iload 4, 2) := by decide +kernel
theorem dL_areOrders_172 : decode cL_areOrders 172 = .ok (.iload_n 2, 1) := by decide +kernel
theorem dL_areOrders_173 : decode cL_areOrders 173 = .ok (.if_icmp .ge 94, 3) := by decide +kernel
theorem dL_areOrders_176 : decode cL_areOrders 176 = .ok (.aload_n 0, 1) := by decide +kernel
theorem dL_areOrders_177 : decode cL_areOrders 177 = .ok (.iload 4, 2) := by decide +kernel
theorem dL_areOrders_179 : decode cL_areOrders 179 = .ok (.iconst 1, 1) := by decide +kernel
theorem dL_areOrders_180 : decode cL_areOrders 180 = .ok (.isub, 1) := by decide +kernel
theorem dL_areOrders_181 : decode cL_areOrders 181 = .ok (.invokevirtual 180, 3) := by decide +kernel
theorem dL_areOrders_184 : decode cL_areOrders 184 = .ok (.istore 5, 2) := by decide +kernel
theorem dL_areOrders_186 : decode cL_areOrders 186 = .ok (.aload_n 0, 1) := by decide +kernel
theorem dL_areOrders_187 : decode cL_areOrders 187 = .ok (.iload 4, 2) := by decide +kernel
theorem dL_areOrders_189 : decode cL_areOrders 189 = .ok (.invokevirtual 180, 3) := by decide +kernel
theorem dL_areOrders_192 : decode cL_areOrders 192 = .ok (.istore 6, 2) := by decide +kernel
theorem dL_areOrders_194 : decode cL_areOrders 194 = .ok (.aload_n 0, 1) := by decide +kernel
theorem dL_areOrders_195 : decode cL_areOrders 195 = .ok (.iload 5, 2) := by decide +kernel
theorem dL_areOrders_197 : decode cL_areOrders 197 = .ok (.iconst 0, 1) := by decide +kernel
theorem dL_areOrders_198 : decode cL_areOrders 198 = .ok (.invokevirtual 95, 3) := by decide +kernel
theorem dL_areOrders_201 : decode cL_areOrders 201 = .ok (.aload_n 0, 1) := by decide +kernel
theorem dL_areOrders_202 : decode cL_areOrders 202 = .ok (.iload 6, 2) := by decide +kernel
theorem dL_areOrders_204 : decode cL_areOrders 204 = .ok (.iconst 0, 1) := by decide +kernel
theorem dL_areOrders_205 : decode cL_areOrders 205 = .ok (.invokevirtual 95, 3) := by decide +kernel
theorem dL_areOrders_208 : decode cL_areOrders 208 = .ok (.isub, 1) := by decide +kernel
theorem dL_areOrders_209 : decode cL_areOrders 209 = .ok (.istore 7, 2) := by decide +kernel
theorem dL_areOrders_211 : decode cL_areOrders 211 = .ok (.aload_n 0, 1) := by decide +kernel
theorem dL_areOrders_212 : decode cL_areOrders 212 = .ok (.iload 5, 2) := by decide +kernel
theorem dL_areOrders_214 : decode cL_areOrders 214 = .ok (.iconst 4, 1) := by decide +kernel
theorem dL_areOrders_215 : decode cL_areOrders 215 = .ok (.invokevirtual 95, 3) := by decide +kernel
theorem dL_areOrders_218 : decode cL_areOrders 218 = .ok (.aload_n 0, 1) := by decide +kernel
theorem dL_areOrders_219 : decode cL_areOrders 219 = .ok (.iload 6, 2) := by decide +kernel
theorem dL_areOrders_221 : decode cL_areOrders 221 = .ok (.iconst 4, 1) := by decide +kernel
theorem dL_areOrders_222 : decode cL_areOrders 222 = .ok (.invokevirtual 95, 3) := by decide +kernel
theorem dL_areOrders_225 : decode cL_areOrders 225 = .ok (.isub, 1) := by decide +kernel
theorem dL_areOrders_226 : decode cL_areOrders 226 = .ok (.istore 8, 2) := by decide +kernel
theorem dL_areOrders_228 : decode cL_areOrders 228 = .ok (.iload 7, 2) := by decide +kernel
theorem dL_areOrders_230 : decode cL_areOrders 230 = .ok (.ifCond .gt 25, 3) := by decide +kernel
theorem dL_areOrders_233 : decode cL_areOrders 233 = .ok (.iload 7, 2) := by decide +kernel
theorem dL_areOrders_235 : decode cL_areOrders 235 = .ok (.ifCond .ne 24, 3) := by decide +kernel
theorem dL_areOrders_238 : decode cL_areOrders 238 = .ok (.iload 8, 2) := by decide +kernel
theorem dL_areOrders_240 : decode cL_areOrders 240 = .ok (.ifCond .gt 15, 3) := by decide +kernel
theorem dL_areOrders_243 : decode cL_areOrders 243 = .ok (.iload 8, 2) := by decide +kernel
theorem dL_areOrders_245 : decode cL_areOrders 245 = .ok (.ifCond .ne 14, 3) := by decide +kernel
theorem dL_areOrders_248 : decode cL_areOrders 248 = .ok (.iload 5, 2) := by decide +kernel
theorem dL_areOrders_250 : decode cL_areOrders 250 = .ok (.iload 6, 2) := by decide +kernel
theorem dL_areOrders_252 : decode cL_areOrders 252 = .ok (.if_icmp .ge 7, 3) := by decide +kernel
theorem dL_areOrders_255 : decode cL_areOrders 255 = .ok (.iconst 1, 1) := by decide +kernel
theorem dL_areOrders_256 : decode cL_areOrders 256 = .ok (.goto 4, 3) := by decide +kernel
theorem dL_areOrders_259 : decode cL_areOrders 259 = .ok (.iconst 0, 1) := by decide +kernel
theorem dL_areOrders_260 : decode cL_areOrders 260 = .ok (.istore_n 3, 1) := by decide +kernel
theorem dL_areOrders_261 : decode cL_areOrders 261 = .ok (.iinc 4 1, 3) := by decide +kernel
theorem dL_areOrders_264 : decode cL_areOrders 264 = .ok (.goto (-98), 3) := by decide +kernel
theorem dL_areOrders_267 : decode cL_areOrders 267 = .ok (.iconst 0, 1) := by decide +kernel
theorem dL_areOrders_268 : decode cL_areOrders 268 = .ok (.istore 4, 2) := by decide +kernel
theorem dL_areOrders_270 : decode cL_areOrders 270 = .ok (.iload_n 3, 1) := by decide +kernel
theorem dL_areOrders_271 : decode cL_areOrders 271 = .ok (.ifCond .eq 113, 3) := by decide +kernel
theorem dL_areOrders_274 : decode cL_areOrders 274 = .ok (.iload 4, 2) := by decide +kernel
theorem dL_areOrders_276 : decode cL_areOrders 276 = .ok (.iload_n 1, 1) := by decide +kernel
theorem dL_areOrders_277 : decode cL_areOrders 277 = .ok (.if_icmp .ge 107, 3) := by decide +kernel
theorem dL_areOrders_280 : decode cL_areOrders 280 = .ok (.aload_n 0, 1) := by decide +kernel
theorem dL_areOrders_281 : decode cL_areOrders 281 = .ok (.iload 4, 2) := by decide +kernel
theorem dL_areOrders_283 : decode cL_areOrders 283 = .ok (.invokevirtual 183, 3) := by decide +kernel
theorem dL_areOrders_286 : decode cL_areOrders 286 = .ok (.istore 5, 2) := by decide +kernel
theorem dL_areOrders_288 : decode cL_areOrders 288 = .ok (.iconst 0, 1) := by decide +kernel
theorem dL_areOrders_289 : decode cL_areOrders 289 = .ok (.istore 6, 2) := by decide +kernel
theorem dL_areOrders_291 : decode cL_areOrders 291 = .ok (.iload_n 3, 1) := by decide +kernel
theorem dL_areOrders_292 : decode cL_areOrders 292 = .ok (.ifCond .eq 86, 3) := by decide +kernel
theorem dL_areOrders_295 : decode cL_areOrders 295 = .ok (.iload 6, 2) := by decide +kernel
theorem dL_areOrders_297 : decode cL_areOrders 297 = .ok (.iload_n 2, 1) := by decide +kernel
theorem dL_areOrders_298 : decode cL_areOrders 298 = .ok (.if_icmp .ge 80, 3) := by decide +kernel
theorem dL_areOrders_301 : decode cL_areOrders 301 = .ok (.aload_n 0, 1) := by decide +kernel
theorem dL_areOrders_302 : decode cL_areOrders 302 = .ok (.iload 6, 2) := by decide +kernel
theorem dL_areOrders_304 : decode cL_areOrders 304 = .ok (.iconst 2, 1) := by decide +kernel
theorem dL_areOrders_305 : decode cL_areOrders 305 = .ok (.invokevirtual 95, 3) := by decide +kernel
theorem dL_areOrders_308 : decode cL_areOrders 308 = .ok (.iconst 1, 1) := by decide +kernel
theorem dL_areOrders_309 : decode cL_areOrders 309 = .ok (.if_icmp .ne 23, 3) := by decide +kernel
theorem dL_areOrders_312 : decode cL_areOrders 312 = .ok (.aload_n 0, 1) := by decide +kernel
theorem dL_areOrders_313 : decode cL_areOrders 313 = .ok (.iload 4, 2) := by decide +kernel
theorem dL_areOrders_315 : decode cL_areOrders 315 = .ok (.bipush 7, 2) := by decide +kernel
theorem dL_areOrders_317 : decode cL_areOrders 317 = .ok (.invokevirtual 98, 3) := by decide +kernel
theorem dL_areOrders_320 : decode cL_areOrders 320 = .ok (.iload 6, 2) := by decide +kernel
theorem dL_areOrders_322 : decode cL_areOrders 322 = .ok (.ishr, 1) := by decide +kernel
theorem dL_areOrders_323 : decode cL_areOrders 323 = .ok (.iconst 1, 1) := by decide +kernel
theorem dL_areOrders_324 : decode cL_areOrders 324 = .ok (.iand, 1) := by decide +kernel
theorem dL_areOrders_325 : decode cL_areOrders 325 = .ok (.ifCond .ne 7, 3) := by decide +kernel
theorem dL_areOrders_328 : decode cL_areOrders 328 = .ok (.iconst 1, 1) := by decide +kernel
theorem dL_areOrders_329 : decode cL_areOrders 329 = .ok (.goto 4, 3) := by decide +kernel
theorem dL_areOrders_332 : decode cL_areOrders 332 = .ok (.iconst 0, 1) := by decide +kernel
theorem dL_areOrders_333 : decode cL_areOrders 333 = .ok (.istore 7, 2) := by decide +kernel
theorem dL_areOrders_335 : decode cL_areOrders 335 = .ok (.iload 7, 2) := by decide +kernel
theorem dL_areOrders_337 : decode cL_areOrders 337 = .ok (.ifCond .eq 29, 3) := by decide +kernel
theorem dL_areOrders_340 : decode cL_areOrders 340 = .ok (.iload 5, 2) := by decide +kernel
theorem dL_areOrders_342 : decode cL_areOrders 342 = .ok (.bipush (-4), 2) := by decide +kernel
theorem dL_areOrders_344 : decode cL_areOrders 344 = .ok (.if_icmp .eq 26, 3) := by decide +kernel
theorem dL_areOrders_347 : decode cL_areOrders 347 = .ok (.aload_n 0, 1) := by decide +kernel
theorem dL_areOrders_348 : decode cL_areOrders 348 = .ok (.iload 4, 2) := by decide +kernel
theorem dL_areOrders_350 : decode cL_areOrders 350 = .ok (.iload 5, 2) := by decide +kernel
theorem dL_areOrders_352 : decode cL_areOrders 352 = .ok (.invokevirtual 107, 3) := by decide +kernel
theorem dL_areOrders_355 : decode cL_areOrders 355 = .ok (.aload_n 0, 1) := by decide +kernel
theorem dL_areOrders_356 : decode cL_areOrders 356 = .ok (.iload 4, 2) := by decide +kernel
theorem dL_areOrders_358 : decode cL_areOrders 358 = .ok (.iload 6, 2) := by decide +kernel
theorem dL_areOrders_360 : decode cL_areOrders 360 = .ok (.invokevirtual 107, 3) := by decide +kernel
theorem dL_areOrders_363 : decode cL_areOrders 363 = .ok (.if_icmp .gt 7, 3) := by decide +kernel
theorem dL_areOrders_366 : decode cL_areOrders 366 = .ok (.iconst 1, 1) := by decide +kernel
theorem dL_areOrders_367 : decode cL_areOrders 367 = .ok (.goto 4, 3) := by decide +kernel
theorem dL_areOrders_370 : decode cL_areOrders 370 = .ok (.iconst 0, 1) := by decide +kernel
theorem dL_areOrders_371 : decode cL_areOrders 371 = .ok (.istore_n 3, 1) := by decide +kernel
theorem dL_areOrders_372 : decode cL_areOrders 372 = .ok (.iinc 6 1, 3) := by decide +kernel
theorem dL_areOrders_375 : decode cL_areOrders 375 = .ok (.goto (-84), 3) := by decide +kernel
theorem dL_areOrders_378 : decode cL_areOrders 378 = .ok (.iinc 4 1, 3) := by decide +kernel
theorem dL_areOrders_381 : decode cL_areOrders 381 = .ok (.goto (-111), 3) := by decide +kernel
theorem dL_areOrders_384 : decode cL_areOrders 384 = .ok (.iload_n 3, 1) := by decide +kernel
theorem dL_areOrders_385 : decode cL_areOrders 385 = .ok (.ireturn, 1) := by decide +kernel
theorem dL_isFit_0 : decode cL_isFit 0 = .ok (.aload_n 0, 1) := by decide +kernel
theorem dL_isFit_1 : decode cL_isFit 1 = .ok (.invokestatic 170, 3) := by decide +kernel
theorem dL_isFit_4 : decode cL_isFit 4 = .ok (.ifCond .eq 28, 3) := by decide +kernel
theorem dL_isFit_7 : decode cL_isFit 7 = .ok (.aload_n 0, 1) := by decide +kernel
theorem dL_isFit_8 : decode cL_isFit 8 = .ok (.invokestatic 174, 3) := by decide +kernel
theorem dL_isFit_11 : decode cL_isFit 11 = .ok (.ifCond .eq 21, 3) := by decide +kernel
theorem dL_isFit_14 : decode cL_isFit 14 = .ok (.aload_n 0, 1) := by decide +kernel
theorem dL_isFit_15 : decode cL_isFit 15 = .ok (.invokestatic 186, 3) := by decide +kernel
theorem dL_isFit_18 : decode cL_isFit 18 = .ok (.ifCond .eq 14, 3) := by decide +kernel
theorem dL_isFit_21 : decode cL_isFit 21 = .ok (.aload_n 0, 1) := by decide +kernel
theorem dL_isFit_22 : decode cL_isFit 22 = .ok (.invokestatic 189, 3) := by decide +kernel
theorem dL_isFit_25 : decode cL_isFit 25 = .ok (.ifCond .eq 7, 3) := by decide +kernel
theorem dL_isFit_28 : decode cL_isFit 28 = .ok (.iconst 1, 1) := by decide +kernel
theorem dL_isFit_29 : decode cL_isFit 29 = .ok (.goto 4, 3) := by decide +kernel
theorem dL_isFit_32 : decode cL_isFit 32 = .ok (.iconst 0, 1) := by decide +kernel
theorem dL_isFit_33 : decode cL_isFit 33 = .ok (.istore_n 1, 1) := by decide +kernel
theorem dL_isFit_34 : decode cL_isFit 34 = .ok (.iconst 0, 1) := by decide +kernel
theorem dL_isFit_35 : decode cL_isFit 35 = .ok (.istore_n 2, 1) := by decide +kernel
theorem dL_isFit_36 : decode cL_isFit 36 = .ok (.iload_n 1, 1) := by decide +kernel
theorem dL_isFit_37 : decode cL_isFit 37 = .ok (.ifCond .eq 70, 3) := by decide +kernel
theorem dL_isFit_40 : decode cL_isFit 40 = .ok (.iload_n 2, 1) := by decide +kernel
theorem dL_isFit_41 : decode cL_isFit 41 = .ok (.aload_n 0, 1) := by decide +kernel
theorem dL_isFit_42 : decode cL_isFit 42 = .ok (.iconst 1, 1) := by decide +kernel
theorem dL_isFit_43 : decode cL_isFit 43 = .ok (.invokevirtual 89, 3) := by decide +kernel
theorem dL_isFit_46 : decode cL_isFit 46 = .ok (.if_icmp .ge 61, 3) := by decide +kernel
theorem dL_isFit_49 : decode cL_isFit 49 = .ok (.aload_n 0, 1) := by decide +kernel
theorem dL_isFit_50 : decode cL_isFit 50 = .ok (.iload_n 2, 1) := by decide +kernel
theorem dL_isFit_51 : decode cL_isFit 51 = .ok (.invokestatic 192, 3) := by decide +kernel
theorem dL_isFit_54 : decode cL_isFit 54 = .ok (.ifCond .eq 45, 3) := by decide +kernel
theorem dL_isFit_57 : decode cL_isFit 57 = .ok (.aload_n 0, 1) := by decide +kernel
theorem dL_isFit_58 : decode cL_isFit 58 = .ok (.iconst 0, 1) := by decide +kernel
theorem dL_isFit_59 : decode cL_isFit 59 = .ok (.invokevirtual 89, 3) := by decide +kernel
theorem dL_isFit_62 : decode cL_isFit 62 = .ok (.ifCond .eq 33, 3) := by decide +kernel
theorem dL_isFit_65 : decode cL_isFit 65 = .ok (.aload_n 0, 1) := by decide +kernel
theorem dL_isFit_66 : decode cL_isFit 66 = .ok (.iload_n 2, 1) := by decide +kernel
theorem dL_isFit_67 : decode cL_isFit 67 = .ok (.iload_n 2, 1) := by decide +kernel
theorem dL_isFit_68 : decode cL_isFit 68 = .ok (.aload_n 0, 1) := by decide +kernel
theorem dL_isFit_69 : decode cL_isFit 69 = .ok (.iconst 0, 1) := by decide +kernel
theorem dL_isFit_70 : decode cL_isFit 70 = .ok (.invokevirtual 89, 3) := by decide +kernel
theorem dL_isFit_73 : decode cL_isFit 73 = .ok (.irem, 1) := by decide +kernel
theorem dL_isFit_74 : decode cL_isFit 74 = .ok (.invokestatic 196, 3) := by decide +kernel
theorem dL_isFit_77 : decode cL_isFit 77 = .ok (.ifCond .eq 22, 3) := by decide +kernel
theorem dL_isFit_80 : decode cL_isFit 80 = .ok (.aload_n 0, 1) := by decide +kernel
theorem dL_isFit_81 : decode cL_isFit 81 = .ok (.iload_n 2, 1) := by decide +kernel
theorem dL_isFit_82 : decode cL_isFit 82 = .ok (.aload_n 0, 1) := by decide +kernel
theorem dL_isFit_83 : decode cL_isFit 83 = .ok (.iconst 0, 1) := by decide +kernel
theorem dL_isFit_84 : decode cL_isFit 84 = .ok (.invokevirtual 89, 3) := by decide +kernel
theorem dL_isFit_87 : decode cL_isFit 87 = .ok (.iconst 1, 1) := by decide +kernel
theorem dL_isFit_88 : decode cL_isFit 88 = .ok (.isub, 1) := by decide +kernel
theorem dL_isFit_89 : decode cL_isFit 89 = .ok (.invokestatic 196, 3) := by decide +kernel
theorem dL_isFit_92 : decode cL_isFit 92 = .ok (.ifCond .eq 7, 3) := by decide +kernel
theorem dL_isFit_95 : decode cL_isFit 95 = .ok (.iconst 1, 1) := by decide +kernel
theorem dL_isFit_96 : decode cL_isFit 96 = .ok (.goto 4, 3) := by decide +kernel
theorem dL_isFit_99 : decode cL_isFit 99 = .ok (.iconst 0, 1) := by decide +kernel
theorem dL_isFit_100 : decode cL_isFit 100 = .ok (.istore_n 1, 1) := by decide +kernel
theorem dL_isFit_101 : decode cL_isFit 101 = .ok (.iinc 2 1, 3) := by decide +kernel
theorem dL_isFit_104 : decode cL_isFit 104 = .ok (.goto (-68), 3) := by decide +kernel
theorem dL_isFit_107 : decode cL_isFit 107 = .ok (.iload_n 1, 1) := by decide +kernel
theorem dL_isFit_108 : decode cL_isFit 108 = .ok (.ireturn, 1) := by decide +kernel
theorem dL_law_0 : decode cL_law 0 = .ok (.new 1, 3) := by decide +kernel
theorem dL_law_3 : decode cL_law 3 = .ok (.dup, 1) := by decide +kernel
theorem dL_law_4 : decode cL_law 4 = .ok (.invokespecial 200, 3) := by decide +kernel
theorem dL_law_7 : decode cL_law 7 = .ok (.astore_n 1, 1) := by decide +kernel
theorem dL_law_8 : decode cL_law 8 = .ok (.iconst 0, 1) := by decide +kernel
theorem dL_law_9 : decode cL_law 9 = .ok (.istore_n 2, 1) := by decide +kernel
theorem dL_law_10 : decode cL_law 10 = .ok (.iload_n 2, 1) := by decide +kernel
theorem dL_law_11 : decode cL_law 11 = .ok (.iconst 5, 1) := by decide +kernel
theorem dL_law_12 : decode cL_law 12 = .ok (.if_icmp .ge 20, 3) := by decide +kernel
theorem dL_law_15 : decode cL_law 15 = .ok (.aload_n 1, 1) := by decide +kernel
theorem dL_law_16 : decode cL_law 16 = .ok (.iconst 3, 1) := by decide +kernel
theorem dL_law_17 : decode cL_law 17 = .ok (.iload_n 2, 1) := by decide +kernel
theorem dL_law_18 : decode cL_law 18 = .ok (.iadd, 1) := by decide +kernel
theorem dL_law_19 : decode cL_law 19 = .ok (.iload_n 2, 1) := by decide +kernel
theorem dL_law_20 : decode cL_law 20 = .ok (.iconst 3, 1) := by decide +kernel
theorem dL_law_21 : decode cL_law 21 = .ok (.irem, 1) := by decide +kernel
theorem dL_law_22 : decode cL_law 22 = .ok (.invokevirtual 24, 3) := by decide +kernel
theorem dL_law_25 : decode cL_law 25 = .ok (.pop, 1) := by decide +kernel
theorem dL_law_26 : decode cL_law 26 = .ok (.iinc 2 1, 3) := by decide +kernel
theorem dL_law_29 : decode cL_law 29 = .ok (.goto (-19), 3) := by decide +kernel
theorem dL_law_32 : decode cL_law 32 = .ok (.iconst 0, 1) := by decide +kernel
theorem dL_law_33 : decode cL_law 33 = .ok (.istore_n 2, 1) := by decide +kernel
theorem dL_law_34 : decode cL_law 34 = .ok (.iload_n 2, 1) := by decide +kernel
theorem dL_law_35 : decode cL_law 35 = .ok (.iconst 3, 1) := by decide +kernel
theorem dL_law_36 : decode cL_law 36 = .ok (.if_icmp .ge 55, 3) := by decide +kernel
theorem dL_law_39 : decode cL_law 39 = .ok (.aload_n 1, 1) := by decide +kernel
theorem dL_law_40 : decode cL_law 40 = .ok (.bipush 6, 2) := by decide +kernel
theorem dL_law_42 : decode cL_law 42 = .ok (.iload_n 2, 1) := by decide +kernel
theorem dL_law_43 : decode cL_law 43 = .ok (.imul, 1) := by decide +kernel
theorem dL_law_44 : decode cL_law 44 = .ok (.invokevirtual 28, 3) := by decide +kernel
theorem dL_law_47 : decode cL_law 47 = .ok (.pop, 1) := by decide +kernel
theorem dL_law_48 : decode cL_law 48 = .ok (.aload_n 1, 1) := by decide +kernel
theorem dL_law_49 : decode cL_law 49 = .ok (.iload_n 2, 1) := by decide +kernel
theorem dL_law_50 : decode cL_law 50 = .ok (.iload_n 2, 1) := by decide +kernel
theorem dL_law_51 : decode cL_law 51 = .ok (.iconst 1, 1) := by decide +kernel
theorem dL_law_52 : decode cL_law 52 = .ok (.iadd, 1) := by decide +kernel
theorem dL_law_53 : decode cL_law 53 = .ok (.invokevirtual 35, 3) := by decide +kernel
theorem dL_law_56 : decode cL_law 56 = .ok (.pop, 1) := by decide +kernel
theorem dL_law_57 : decode cL_law 57 = .ok (.aload_n 1, 1) := by decide +kernel
theorem dL_law_58 : decode cL_law 58 = .ok (.iload_n 2, 1) := by decide +kernel
theorem dL_law_59 : decode cL_law 59 = .ok (.iload_n 2, 1) := by decide +kernel
theorem dL_law_60 : decode cL_law 60 = .ok (.iconst 1, 1) := by decide +kernel
theorem dL_law_61 : decode cL_law 61 = .ok (.iadd, 1) := by decide +kernel
theorem dL_law_62 : decode cL_law 62 = .ok (.iload_n 2, 1) := by decide +kernel
theorem dL_law_63 : decode cL_law 63 = .ok (.invokevirtual 47, 3) := by decide +kernel
theorem dL_law_66 : decode cL_law 66 = .ok (.pop, 1) := by decide +kernel
theorem dL_law_67 : decode cL_law 67 = .ok (.aload_n 1, 1) := by decide +kernel
theorem dL_law_68 : decode cL_law 68 = .ok (.iload_n 2, 1) := by decide +kernel
theorem dL_law_69 : decode cL_law 69 = .ok (.iconst 4, 1) := by decide +kernel
theorem dL_law_70 : decode cL_law 70 = .ok (.invokevirtual 35, 3) := by decide +kernel
theorem dL_law_73 : decode cL_law 73 = .ok (.pop, 1) := by decide +kernel
theorem dL_law_74 : decode cL_law 74 = .ok (.aload_n 1, 1) := by decide +kernel
theorem dL_law_75 : decode cL_law 75 = .ok (.iload_n 2, 1) := by decide +kernel
theorem dL_law_76 : decode cL_law 76 = .ok (.iconst 4, 1) := by decide +kernel
theorem dL_law_77 : decode cL_law 77 = .ok (.bipush 9, 2) := by decide +kernel
theorem dL_law_79 : decode cL_law 79 = .ok (.iload_n 2, 1) := by decide +kernel
theorem dL_law_80 : decode cL_law 80 = .ok (.isub, 1) := by decide +kernel
theorem dL_law_81 : decode cL_law 81 = .ok (.invokevirtual 47, 3) := by decide +kernel
theorem dL_law_84 : decode cL_law 84 = .ok (.pop, 1) := by decide +kernel
theorem dL_law_85 : decode cL_law 85 = .ok (.iinc 2 1, 3) := by decide +kernel
theorem dL_law_88 : decode cL_law 88 = .ok (.goto (-54), 3) := by decide +kernel
theorem dL_law_91 : decode cL_law 91 = .ok (.aload_n 1, 1) := by decide +kernel
theorem dL_law_92 : decode cL_law 92 = .ok (.iconst 2, 1) := by decide +kernel
theorem dL_law_93 : decode cL_law 93 = .ok (.iconst 0, 1) := by decide +kernel
theorem dL_law_94 : decode cL_law 94 = .ok (.invokevirtual 38, 3) := by decide +kernel
theorem dL_law_97 : decode cL_law 97 = .ok (.pop, 1) := by decide +kernel
theorem dL_law_98 : decode cL_law 98 = .ok (.aload_n 0, 1) := by decide +kernel
theorem dL_law_99 : decode cL_law 99 = .ok (.arraylength, 1) := by decide +kernel
theorem dL_law_100 : decode cL_law 100 = .ok (.bipush 36, 2) := by decide +kernel
theorem dL_law_102 : decode cL_law 102 = .ok (.if_icmp .ge 8, 3) := by decide +kernel
theorem dL_law_105 : decode cL_law 105 = .ok (.aload_n 0, 1) := by decide +kernel
theorem dL_law_106 : decode cL_law 106 = .ok (.arraylength, 1) := by decide +kernel
theorem dL_law_107 : decode cL_law 107 = .ok (.goto 5, 3) := by decide +kernel
theorem dL_law_110 : decode cL_law 110 = .ok (.bipush 36, 2) := by decide +kernel
theorem dL_law_112 : decode cL_law 112 = .ok (.istore_n 2, 1) := by decide +kernel
theorem dL_law_113 : decode cL_law 113 = .ok (.iconst 0, 1) := by decide +kernel
theorem dL_law_114 : decode cL_law 114 = .ok (.istore_n 3, 1) := by decide +kernel
theorem dL_law_115 : decode cL_law 115 = .ok (.iload_n 3, 1) := by decide +kernel
theorem dL_law_116 : decode cL_law 116 = .ok (.iload_n 2, 1) := by decide +kernel
theorem dL_law_117 : decode cL_law 117 = .ok (.if_icmp .ge 58, 3) := by decide +kernel
theorem dL_law_120 : decode cL_law 120 = .ok (.aload_n 1, 1) := by decide +kernel
theorem dL_law_121 : decode cL_law 121 = .ok (.invokestatic 151, 3) := by decide +kernel
theorem dL_law_124 : decode cL_law 124 = .ok (.lstore 4, 2) := by decide +kernel
theorem dL_law_126 : decode cL_law 126 = .ok (.aload_n 1, 1) := by decide +kernel
theorem dL_law_127 : decode cL_law 127 = .ok (.aload_n 0, 1) := by decide +kernel
theorem dL_law_128 : decode cL_law 128 = .ok (.iload_n 3, 1) := by decide +kernel
theorem dL_law_129 : decode cL_law 129 = .ok (.invokestatic 201, 3) := by decide +kernel
theorem dL_law_132 : decode cL_law 132 = .ok (.invokestatic 205, 3) := by decide +kernel
theorem dL_law_135 : decode cL_law 135 = .ok (.istore 6, 2) := by decide +kernel
theorem dL_law_137 : decode cL_law 137 = .ok (.iload 6, 2) := by decide +kernel
theorem dL_law_139 : decode cL_law 139 = .ok (.bipush (-3), 2) := by decide +kernel
theorem dL_law_141 : decode cL_law 141 = .ok (.if_icmp .eq 16, 3) := by decide +kernel
theorem dL_law_144 : decode cL_law 144 = .ok (.iload 6, 2) := by decide +kernel
theorem dL_law_146 : decode cL_law 146 = .ok (.bipush (-2), 2) := by decide +kernel
theorem dL_law_148 : decode cL_law 148 = .ok (.if_icmp .eq 9, 3) := by decide +kernel
theorem dL_law_151 : decode cL_law 151 = .ok (.iload 6, 2) := by decide +kernel
theorem dL_law_153 : decode cL_law 153 = .ok (.iconst (-1), 1) := by decide +kernel
theorem dL_law_154 : decode cL_law 154 = .ok (.if_icmp .ne 15, 3) := by decide +kernel
theorem dL_law_157 : decode cL_law 157 = .ok (.aload_n 1, 1) := by decide +kernel
theorem dL_law_158 : decode cL_law 158 = .ok (.invokestatic 151, 3) := by decide +kernel
theorem dL_law_161 : decode cL_law 161 = .ok (.lload 4, 2) := by decide +kernel
theorem dL_law_163 : decode cL_law 163 = .ok (.lcmp, 1) := by decide +kernel
theorem dL_law_164 : decode cL_law 164 = .ok (.ifCond .eq 5, 3) := by decide +kernel
theorem dL_law_167 : decode cL_law 167 = .ok (.iconst 0, 1) := by decide +kernel
theorem dL_law_168 : decode cL_law 168 = .ok (.ireturn, 1) := by decide +kernel
theorem dL_law_169 : decode cL_law 169 = .ok (.iinc 3 1, 3) := by decide +kernel
theorem dL_law_172 : decode cL_law 172 = .ok (.goto (-57), 3) := by decide +kernel
theorem dL_law_175 : decode cL_law 175 = .ok (.aload_n 1, 1) := by decide +kernel
theorem dL_law_176 : decode cL_law 176 = .ok (.invokestatic 209, 3) := by decide +kernel
theorem dL_law_179 : decode cL_law 179 = .ok (.istore_n 3, 1) := by decide +kernel
theorem dL_law_180 : decode cL_law 180 = .ok (.aload_n 1, 1) := by decide +kernel
theorem dL_law_181 : decode cL_law 181 = .ok (.invokevirtual 73, 3) := by decide +kernel
theorem dL_law_184 : decode cL_law 184 = .ok (.pop, 1) := by decide +kernel
end
section
theorem dL_law_185 : decode cL_law 185 = .ok (.aload_n 1, 1) := by decide +kernel
theorem dL_law_186 : decode cL_law 186 = .ok (.invokestatic 151, 3) := by decide +kernel
theorem dL_law_189 : decode cL_law 189 = .ok (.lstore 4, 2) := by decide +kernel
theorem dL_law_191 : decode cL_law 191 = .ok (.aload_n 1, 1) := by decide +kernel
theorem dL_law_192 : decode cL_law 192 = .ok (.invokevirtual 76, 3) := by decide +kernel
theorem dL_law_195 : decode cL_law 195 = .ok (.istore 6, 2) := by decide +kernel
theorem dL_law_197 : decode cL_law 197 = .ok (.iconst 0, 1) := by decide +kernel
theorem dL_law_198 : decode cL_law 198 = .ok (.istore 7, 2) := by decide +kernel
theorem dL_law_200 : decode cL_law 200 = .ok (.iload_n 3, 1) := by decide +kernel
theorem dL_law_201 : decode cL_law 201 = .ok (.ifCond .eq 142, 3) := by decide +kernel
theorem dL_law_204 : decode cL_law 204 = .ok (.iload 7, 2) := by decide +kernel
theorem dL_law_206 : decode cL_law 206 = .ok (.getstatic 63, 3) := by decide +kernel
theorem dL_law_209 : decode cL_law 209 = .ok (.arraylength, 1) := by decide +kernel
theorem dL_law_210 : decode cL_law 210 = .ok (.if_icmp .ge 133, 3) := by decide +kernel
theorem dL_law_213 : decode cL_law 213 = .ok (.aload_n 1, 1) := by decide +kernel
theorem dL_law_214 : decode cL_law 214 = .ok (.getstatic 63, 3) := by decide +kernel
theorem dL_law_217 : decode cL_law 217 = .ok (.iload 7, 2) := by decide +kernel
theorem dL_law_219 : decode cL_law 219 = .ok (.aaload, 1) := by decide +kernel
theorem dL_law_220 : decode cL_law 220 = .ok (.invokestatic 69, 3) := by decide +kernel
theorem dL_law_223 : decode cL_law 223 = .ok (.invokevirtual 73, 3) := by decide +kernel
theorem dL_law_226 : decode cL_law 226 = .ok (.istore 8, 2) := by decide +kernel
theorem dL_law_228 : decode cL_law 228 = .ok (.iload 8, 2) := by decide +kernel
theorem dL_law_230 : decode cL_law 230 = .ok (.bipush (-3), 2) := by decide +kernel
theorem dL_law_232 : decode cL_law 232 = .ok (.if_icmp .ne 52, 3) := by decide +kernel
theorem dL_law_235 : decode cL_law 235 = .ok (.aload_n 1, 1) := by decide +kernel
theorem dL_law_236 : decode cL_law 236 = .ok (.iconst 0, 1) := by decide +kernel
theorem dL_law_237 : decode cL_law 237 = .ok (.iconst 0, 1) := by decide +kernel
theorem dL_law_238 : decode cL_law 238 = .ok (.invokevirtual 155, 3) := by decide +kernel
theorem dL_law_241 : decode cL_law 241 = .ok (.bipush 13, 2) := by decide +kernel
theorem dL_law_243 : decode cL_law 243 = .ok (.if_icmp .ne 15, 3) := by decide +kernel
theorem dL_law_246 : decode cL_law 246 = .ok (.aload_n 1, 1) := by decide +kernel
theorem dL_law_247 : decode cL_law 247 = .ok (.iconst 1, 1) := by decide +kernel
theorem dL_law_248 : decode cL_law 248 = .ok (.iconst 0, 1) := by decide +kernel
theorem dL_law_249 : decode cL_law 249 = .ok (.invokevirtual 155, 3) := by decide +kernel
theorem dL_law_252 : decode cL_law 252 = .ok (.ifCond .le 32, 3) := by decide +kernel
theorem dL_law_255 : decode cL_law 255 = .ok (.goto 25, 3) := by decide +kernel
theorem dL_law_258 : decode cL_law 258 = .ok (.aload_n 1, 1) := by decide +kernel
theorem dL_law_259 : decode cL_law 259 = .ok (.iconst 0, 1) := by decide +kernel
theorem dL_law_260 : decode cL_law 260 = .ok (.iconst 0, 1) := by decide +kernel
theorem dL_law_261 : decode cL_law 261 = .ok (.invokevirtual 155, 3) := by decide +kernel
theorem dL_law_264 : decode cL_law 264 = .ok (.bipush 14, 2) := by decide +kernel
theorem dL_law_266 : decode cL_law 266 = .ok (.if_icmp .ne 18, 3) := by decide +kernel
theorem dL_law_269 : decode cL_law 269 = .ok (.aload_n 1, 1) := by decide +kernel
theorem dL_law_270 : decode cL_law 270 = .ok (.iconst 1, 1) := by decide +kernel
theorem dL_law_271 : decode cL_law 271 = .ok (.iconst 0, 1) := by decide +kernel
theorem dL_law_272 : decode cL_law 272 = .ok (.invokevirtual 155, 3) := by decide +kernel
theorem dL_law_275 : decode cL_law 275 = .ok (.bipush (-4), 2) := by decide +kernel
theorem dL_law_277 : decode cL_law 277 = .ok (.if_icmp .ne 7, 3) := by decide +kernel
theorem dL_law_280 : decode cL_law 280 = .ok (.iconst 1, 1) := by decide +kernel
theorem dL_law_281 : decode cL_law 281 = .ok (.goto 4, 3) := by decide +kernel
theorem dL_law_284 : decode cL_law 284 = .ok (.iconst 0, 1) := by decide +kernel
theorem dL_law_285 : decode cL_law 285 = .ok (.istore 9, 2) := by decide +kernel
theorem dL_law_287 : decode cL_law 287 = .ok (.iload 8, 2) := by decide +kernel
theorem dL_law_289 : decode cL_law 289 = .ok (.ifCond .ge 11, 3) := by decide +kernel
theorem dL_law_292 : decode cL_law 292 = .ok (.iload 9, 2) := by decide +kernel
theorem dL_law_294 : decode cL_law 294 = .ok (.ifCond .eq 41, 3) := by decide +kernel
theorem dL_law_297 : decode cL_law 297 = .ok (.goto 24, 3) := by decide +kernel
theorem dL_law_300 : decode cL_law 300 = .ok (.aload_n 1, 1) := by decide +kernel
theorem dL_law_301 : decode cL_law 301 = .ok (.invokestatic 170, 3) := by decide +kernel
theorem dL_law_304 : decode cL_law 304 = .ok (.ifCond .eq 31, 3) := by decide +kernel
theorem dL_law_307 : decode cL_law 307 = .ok (.aload_n 1, 1) := by decide +kernel
theorem dL_law_308 : decode cL_law 308 = .ok (.invokestatic 174, 3) := by decide +kernel
theorem dL_law_311 : decode cL_law 311 = .ok (.ifCond .eq 24, 3) := by decide +kernel
theorem dL_law_314 : decode cL_law 314 = .ok (.aload_n 1, 1) := by decide +kernel
theorem dL_law_315 : decode cL_law 315 = .ok (.invokevirtual 82, 3) := by decide +kernel
theorem dL_law_318 : decode cL_law 318 = .ok (.ifCond .lt 17, 3) := by decide +kernel
theorem dL_law_321 : decode cL_law 321 = .ok (.aload_n 1, 1) := by decide +kernel
theorem dL_law_322 : decode cL_law 322 = .ok (.invokestatic 151, 3) := by decide +kernel
theorem dL_law_325 : decode cL_law 325 = .ok (.lload 4, 2) := by decide +kernel
theorem dL_law_327 : decode cL_law 327 = .ok (.lcmp, 1) := by decide +kernel
theorem dL_law_328 : decode cL_law 328 = .ok (.ifCond .ne 7, 3) := by decide +kernel
theorem dL_law_331 : decode cL_law 331 = .ok (.iconst 1, 1) := by decide +kernel
theorem dL_law_332 : decode cL_law 332 = .ok (.goto 4, 3) := by decide +kernel
theorem dL_law_335 : decode cL_law 335 = .ok (.iconst 0, 1) := by decide +kernel
theorem dL_law_336 : decode cL_law 336 = .ok (.istore_n 3, 1) := by decide +kernel
theorem dL_law_337 : decode cL_law 337 = .ok (.iinc 7 1, 3) := by decide +kernel
theorem dL_law_340 : decode cL_law 340 = .ok (.goto (-140), 3) := by decide +kernel
theorem dL_law_343 : decode cL_law 343 = .ok (.iconst 0, 1) := by decide +kernel
theorem dL_law_344 : decode cL_law 344 = .ok (.istore 7, 2) := by decide +kernel
theorem dL_law_346 : decode cL_law 346 = .ok (.iload_n 3, 1) := by decide +kernel
theorem dL_law_347 : decode cL_law 347 = .ok (.ifCond .eq 82, 3) := by decide +kernel
theorem dL_law_350 : decode cL_law 350 = .ok (.iload 7, 2) := by decide +kernel
theorem dL_law_352 : decode cL_law 352 = .ok (.iconst 3, 1) := by decide +kernel
theorem dL_law_353 : decode cL_law 353 = .ok (.if_icmp .ge 76, 3) := by decide +kernel
theorem dL_law_356 : decode cL_law 356 = .ok (.aload_n 1, 1) := by decide +kernel
theorem dL_law_357 : decode cL_law 357 = .ok (.invokevirtual 60, 3) := by decide +kernel
theorem dL_law_360 : decode cL_law 360 = .ok (.pop, 1) := by decide +kernel
theorem dL_law_361 : decode cL_law 361 = .ok (.aload_n 1, 1) := by decide +kernel
theorem dL_law_362 : decode cL_law 362 = .ok (.iconst 0, 1) := by decide +kernel
theorem dL_law_363 : decode cL_law 363 = .ok (.iload 7, 2) := by decide +kernel
theorem dL_law_365 : decode cL_law 365 = .ok (.iconst 2, 1) := by decide +kernel
theorem dL_law_366 : decode cL_law 366 = .ok (.iadd, 1) := by decide +kernel
theorem dL_law_367 : decode cL_law 367 = .ok (.invokevirtual 35, 3) := by decide +kernel
theorem dL_law_370 : decode cL_law 370 = .ok (.pop, 1) := by decide +kernel
theorem dL_law_371 : decode cL_law 371 = .ok (.aload_n 1, 1) := by decide +kernel
theorem dL_law_372 : decode cL_law 372 = .ok (.iconst 0, 1) := by decide +kernel
theorem dL_law_373 : decode cL_law 373 = .ok (.iload 7, 2) := by decide +kernel
theorem dL_law_375 : decode cL_law 375 = .ok (.iconst 2, 1) := by decide +kernel
theorem dL_law_376 : decode cL_law 376 = .ok (.iadd, 1) := by decide +kernel
theorem dL_law_377 : decode cL_law 377 = .ok (.iload 7, 2) := by decide +kernel
theorem dL_law_379 : decode cL_law 379 = .ok (.invokevirtual 47, 3) := by decide +kernel
theorem dL_law_382 : decode cL_law 382 = .ok (.pop, 1) := by decide +kernel
theorem dL_law_383 : decode cL_law 383 = .ok (.aload_n 1, 1) := by decide +kernel
theorem dL_law_384 : decode cL_law 384 = .ok (.iconst 0, 1) := by decide +kernel
theorem dL_law_385 : decode cL_law 385 = .ok (.iconst 0, 1) := by decide +kernel
theorem dL_law_386 : decode cL_law 386 = .ok (.invokevirtual 35, 3) := by decide +kernel
theorem dL_law_389 : decode cL_law 389 = .ok (.pop, 1) := by decide +kernel
theorem dL_law_390 : decode cL_law 390 = .ok (.aload_n 1, 1) := by decide +kernel
theorem dL_law_391 : decode cL_law 391 = .ok (.iload 7, 2) := by decide +kernel
theorem dL_law_393 : decode cL_law 393 = .ok (.invokevirtual 54, 3) := by decide +kernel
theorem dL_law_396 : decode cL_law 396 = .ok (.pop, 1) := by decide +kernel
theorem dL_law_397 : decode cL_law 397 = .ok (.aload_n 1, 1) := by decide +kernel
theorem dL_law_398 : decode cL_law 398 = .ok (.iload 7, 2) := by decide +kernel
theorem dL_law_400 : decode cL_law 400 = .ok (.iconst 2, 1) := by decide +kernel
theorem dL_law_401 : decode cL_law 401 = .ok (.iload 7, 2) := by decide +kernel
theorem dL_law_403 : decode cL_law 403 = .ok (.iadd, 1) := by decide +kernel
theorem dL_law_404 : decode cL_law 404 = .ok (.invokevirtual 32, 3) := by decide +kernel
theorem dL_law_407 : decode cL_law 407 = .ok (.pop, 1) := by decide +kernel
theorem dL_law_408 : decode cL_law 408 = .ok (.aload_n 1, 1) := by decide +kernel
theorem dL_law_409 : decode cL_law 409 = .ok (.iconst 1, 1) := by decide +kernel
theorem dL_law_410 : decode cL_law 410 = .ok (.iload 7, 2) := by decide +kernel
theorem dL_law_412 : decode cL_law 412 = .ok (.iconst 2, 1) := by decide +kernel
theorem dL_law_413 : decode cL_law 413 = .ok (.iadd, 1) := by decide +kernel
theorem dL_law_414 : decode cL_law 414 = .ok (.invokevirtual 38, 3) := by decide +kernel
theorem dL_law_417 : decode cL_law 417 = .ok (.pop, 1) := by decide +kernel
theorem dL_law_418 : decode cL_law 418 = .ok (.aload_n 1, 1) := by decide +kernel
theorem dL_law_419 : decode cL_law 419 = .ok (.invokestatic 209, 3) := by decide +kernel
theorem dL_law_422 : decode cL_law 422 = .ok (.istore_n 3, 1) := by decide +kernel
theorem dL_law_423 : decode cL_law 423 = .ok (.iinc 7 1, 3) := by decide +kernel
theorem dL_law_426 : decode cL_law 426 = .ok (.goto (-80), 3) := by decide +kernel
theorem dL_law_429 : decode cL_law 429 = .ok (.iload_n 3, 1) := by decide +kernel
theorem dL_law_430 : decode cL_law 430 = .ok (.ifCond .eq 35, 3) := by decide +kernel
theorem dL_law_433 : decode cL_law 433 = .ok (.aload_n 1, 1) := by decide +kernel
theorem dL_law_434 : decode cL_law 434 = .ok (.invokevirtual 79, 3) := by decide +kernel
theorem dL_law_437 : decode cL_law 437 = .ok (.iload 6, 2) := by decide +kernel
theorem dL_law_439 : decode cL_law 439 = .ok (.if_icmp .ne 26, 3) := by decide +kernel
theorem dL_law_442 : decode cL_law 442 = .ok (.aload_n 1, 1) := by decide +kernel
theorem dL_law_443 : decode cL_law 443 = .ok (.invokestatic 151, 3) := by decide +kernel
theorem dL_law_446 : decode cL_law 446 = .ok (.lload 4, 2) := by decide +kernel
theorem dL_law_448 : decode cL_law 448 = .ok (.lcmp, 1) := by decide +kernel
theorem dL_law_449 : decode cL_law 449 = .ok (.ifCond .ne 16, 3) := by decide +kernel
theorem dL_law_452 : decode cL_law 452 = .ok (.aload_n 1, 1) := by decide +kernel
theorem dL_law_453 : decode cL_law 453 = .ok (.invokevirtual 82, 3) := by decide +kernel
theorem dL_law_456 : decode cL_law 456 = .ok (.bipush (-4), 2) := by decide +kernel
theorem dL_law_458 : decode cL_law 458 = .ok (.if_icmp .ne 7, 3) := by decide +kernel
theorem dL_law_461 : decode cL_law 461 = .ok (.iconst 1, 1) := by decide +kernel
theorem dL_law_462 : decode cL_law 462 = .ok (.goto 4, 3) := by decide +kernel
theorem dL_law_465 : decode cL_law 465 = .ok (.iconst 0, 1) := by decide +kernel
theorem dL_law_466 : decode cL_law 466 = .ok (.ireturn, 1) := by decide +kernel
end
section
/-! the own kit: a context, contracts over it, calls -/
/-- the class ids of the claim's tables, the script's cell, the law's start -/
def Cx : Type := va_G × (ClassId × ClassId × ClassId) × Nat × State
def Cx.D (X : Cx) : va_G := X.1
def Cx.cI (X : Cx) : ClassId := X.2.1.1
def Cx.cB (X : Cx) : ClassId := X.2.1.2.1
def Cx.cS (X : Cx) : ClassId := X.2.1.2.2
def Cx.b (X : Cx) : Nat := X.2.2.1
def Cx.s (X : Cx) : State := X.2.2.2
def Cx.z (X : Cx) : Nat := X.s.heap.size
abbrev gTY (X : Cx) : List (ClassId × FieldType) := [(X.cI, .int), (X.cB, .byte), (X.cS, .object RX5)]
def Init (X : Cx) : Prop := va_K X.D vwCl (gTY X) X.s ∧ (∀ w ∈ lw_tbl, w.before #[Value.ref X.b] X.s = true) ∧ (Jvm.Cond.and given_1 narrow_1).before #[Value.ref X.b] X.s = true
/-- a state that comes from the law's start: its tables are warmed, no old cell has changed -/
def GC (X : Cx) (U : State) : Prop := X.s.WarmedH U.vm ∧ X.z ≤ U.heap.size ∧ ∀ q : Nat, q < X.z → U.heap[q]? = X.s.heap[q]?
theorem GC.K {X : Cx} {U : State} (h0 : Init X) (h : GC X U) : va_K X.D vwCl (gTY X) U := va_K.moved h.1.alike h0.1
theorem GC.hts {X : Cx} {U : State} (h0 : Init X) (h : GC X U) (a : Array Value) : ∀ w ∈ gTs, w.before a U = true := fun w hw => by
  obtain ⟨h1, h2⟩ := List.mem_filter.mp hw
  exact word_at h.1 (good_of_word h2) (h0.2.1 w h1)
theorem GC.nestM {X : Cx} {U : State} (h0 : Init X) (h : GC X U) (A : Array Value) {a : String} {i : Nat} {x : MethodName} {n : String} (hw : Cond.methodLinkNest a i x n ∈ lw_tbl) : (Cond.methodLinkNest a i x n).before A U = true := va_Nw.use rfl (va_Nw.warmM h.1 (va_Nw.of rfl (h0.2.1 _ hw)))
theorem GC.move {X : Cx} {s U : State} {A : Nat → Prop} {H : Heap} {locs : List Loc} (hG : GC X s) (hS : va_S A s.heap H locs) (hA : ∀ q, q < X.z → ¬ A q) (hU : U.heap = H) (hW : s.WarmedH U.vm) : GC X U :=
  ⟨State.WarmedH.trans hG.1 hW, by rw [hU]; exact Nat.le_trans hG.2.1 hS.1, fun q hq => by rw [hU, hS.2.1 q (Nat.lt_of_lt_of_le hq hG.2.1) (hA q hq)]; exact hG.2.2 q hq⟩
/-- the posts: an answer and nothing changed; an answer, what the heap then holds, and the frame -/
def qP (v : Value) : Array Value → State → Outcome → State → Prop := fun _ st o t => o = .returned (some v) ∧ t.heap = st.heap
def qM (post : Option Value → Heap → Prop) (A : Nat → Prop) : Array Value → State → Outcome → State → Prop := fun _ st o t => ∃ v, o = .returned v ∧ post v t.heap ∧ va_F A st t
def noA : Nat → Prop := fun _ => False
def PM (X : Cx) (l : Launch) (y : MethodName) (cc : ByteArray) (nL : Nat) (ret : Option FieldType) (fr lo : Nat) (av : List Value) (Bh : Heap → Prop) (v : Value) : Prop :=
  Met l y [Cond.code y cc nL ret] ({ frames := fr, cells := 0, slots := 0, locals := lo } : Room) (va_Pc av (fun U => GC X U ∧ Bh U.heap)) (qP v) 0 0 noA
def MM (X : Cx) (l : Launch) (y : MethodName) (cc : ByteArray) (nL : Nat) (ret : Option FieldType) (fr lo mc ms : Nat) (av : List Value) (Bh : Heap → Prop) (post : Option Value → Heap → Prop) (A : Nat → Prop) : Prop :=
  Met l y [Cond.code y cc nL ret] ({ frames := fr, cells := mc, slots := ms, locals := lo } : Room) (va_Pc av (fun U => GC X U ∧ Bh U.heap)) (qM post A) mc ms A
def FX (X : Cx) (p : Program) (s : State) (m : MethodId) (meth : Method) (c : Code) (cc : ByteArray) (nL : Nat) (ret : Option FieldType) (own : String) : Prop :=
  p.tables.exec = Jvm.exec ∧ c.code = cc ∧ c.maxLocals = nL ∧ meth.sig.returnType = ret ∧ meth.locks = false ∧ s.vm.findClass own = some m.cls ∧ GC X s
section
variable {X : Cx} {l : Launch} {y : MethodName} {cc : ByteArray} {nL : Nat} {ret : Option FieldType} {fr lo mc ms : Nat} {av : List Value} {Bh : Heap → Prop} {v : Value} {post : Option Value → Heap → Prop} {A : Nat → Prop}
theorem Met.mk {Qc : Array Value → State → Outcome → State → Prop} {free : Addr → Prop} (hy : plainName y.cls = true) (hn : (lg_sl av).length ≤ nL)
    (body : ∀ (p : Program) (e : Env) (s : State) (m : MethodId) (below : List Frame) (meth : Method) (c : Code) (ls : Array Slot), FX X p s m meth c cc nL ret y.cls → Bh s.heap → lv_has ls nL (lv_args 0 av) →
      W p l e ({ frames := fr, cells := mc, slots := ms, locals := lo } : Room) s m av.toArray below meth c s.heap [] 0 0 (MQ below Qc av.toArray s mc ms free) (F0 m 0 ls [])) :
    Met l y [Cond.code y cc nL ret] ({ frames := fr, cells := mc, slots := ms, locals := lo } : Room) (va_Pc av (fun U => GC X U ∧ Bh U.heap)) Qc mc ms free := by
  refine Met.ofW (cc := cc) (maxL := nL) (ret := ret) hy rfl ?_
  intro p e s m args below meth c s₁ B hml hv
  obtain ⟨rfl, hG, hB⟩ := hv
  have hl := lv_entry av (n := nL) hn
  rw [lg_entry_eq]
  generalize (lg_sl av ++ List.replicate (nL - (lg_sl av).length) Slot.unset).toArray = ls at hl ⊢
  exact body p e s m below meth c ls ⟨B.exec, B.bytes, hml, B.returns, B.notSynchronized, findClass_of_methodNamed B.named, hG⟩ hB hl
end
section
variable {X : Cx} {p : Program} {l : Launch} {e : Env} {R : Room} {s : State} {m : MethodId} {args : Array Value} {below : List Frame} {meth : Method} {c : Code} {H : Heap} {locs : List Loc} {cells slots : Nat} {Q : State → Prop}
variable {cc : ByteArray} {nL pc : Nat} {ls : Array Slot} {st rest : List Value} {own : String} {ret : Option FieldType} {A : Nat → Prop} {Bh : Heap → Prop}
variable {y : MethodName} {bytes : ByteArray} {maxL idx n fr lo mc ms : Nat} {ret' : Option FieldType} {b : Addr} {As : List Value} {Qc : Array Value → State → Outcome → State → Prop} {free : Addr → Prop}
/-- behind a pure call nothing has changed -/
theorem core_p {v : Value} (hr : va_Run p l e R s m args below meth c H locs cells slots 0 0 (F0 m pc ls st) rest (fun st o t => o = .returned (some v) ∧ t.heap = st.heap) noA)
    (kk : W p l e R s m args below meth c H locs cells slots Q (F0 m (pc + 3) ls (v :: rest))) : W p l e R s m args below meth c H locs cells slots Q (F0 m pc ls st) := by
  intro T hT X1
  obtain ⟨v', st₀, t, T', L, h0, X', hL, e1, e2, ⟨hv, hh⟩, stp⟩ := hr T hT X1
  cases hv
  have hL0 : L = [] := by
    cases L with
    | nil => rfl
    | cons q L => exact absurd (hL q List.mem_cons_self) id
  subst hL0
  rw [List.append_nil] at X'
  obtain ⟨t2, a1, b1⟩ := kk T' (by rw [e1, hh, h0]) X'
  exact ⟨t2, stp t2 a1, b1⟩
theorem core_m {post : Option Value → Heap → Prop} {A1 : Nat → Prop} (hr : va_Run p l e R s m args below meth c H locs cells slots mc ms (F0 m pc ls st) rest (fun st o t => ∃ v, o = .returned v ∧ post v t.heap ∧ va_F A1 st t) A1)
    (hS : va_S A s.heap H locs) (hAA : ∀ q, A1 q → A q)
    (kk : ∀ (v : Option Value) (H1 : Heap) (locs1 : List Loc), post v H1 → H.size ≤ H1.size → (∀ q : Nat, q < H.size → ¬ A1 q → H1[q]? = H[q]?) → va_S A s.heap H1 locs1 → W p l e R s m args below meth c H1 locs1 (cells + mc) (slots + ms) Q (F0 m (pc + 3) ls (v.toList ++ rest))) : W p l e R s m args below meth c H locs cells slots Q (F0 m pc ls st) := by
  intro T hT X1
  obtain ⟨v', st₀, t, T', L, h0, X', hL, e1, e2, ⟨v, hv, hp, hz, hk⟩, stp⟩ := hr T hT X1
  cases hv
  rw [h0] at hz hk
  obtain ⟨t2, a1, b1⟩ := kk v' T'.heap (locs ++ L) (by rw [e1]; exact hp) (by rw [e1]; exact hz) (fun q h1 h2 => by rw [e1]; exact hk q h1 h2)
    ⟨Nat.le_trans hS.1 (by rw [e1]; exact hz), fun q h1 h2 => by rw [e1, hk q (Nat.lt_of_lt_of_le h1 hS.1) (fun z => h2 (hAA q z))]; exact hS.2.1 q h1 h2, fun q hq => by
      rcases List.mem_append.mp hq with h | h
      · exact hS.2.2 q h
      · exact hAA _ (hL q h)⟩ T' rfl X'
  exact ⟨t2, stp t2 a1, b1⟩
theorem gB (h0 : Init X) (hG : GC X s) {a : Array Value} (hw1 : Cond.methodLink own idx y ∈ gTs) (hw4 : Cond.initialized y.cls ∈ gTs) (hw5 : Cond.code y bytes maxL ret' ∈ gTs)
    (hy : y.cls ≠ "java/lang/invoke/MethodHandle" ∧ y.cls ≠ "java/lang/invoke/VarHandle" ∧ (parseMethodDescriptor y.desc).map (fun d => d.parameters.length) = some n) (hR : fr + 1 ≤ R.frames ∧ 8 + (maxL + 11) + lo ≤ R.locals) :
    CallB R s a own idx y bytes maxL ret' [Cond.code y bytes maxL ret'] ({ frames := fr, cells := mc, slots := ms, locals := lo } : Room) mc ms n := by
  have hts := hG.hts h0 a
  refine ⟨rfl, rfl, hR.1, hR.2, ?_, List.mem_cons_self, hts _ hw5, hts _ hw4, ⟨hy.1, hy.2.1⟩, fun sig h => ?_, hts _ hw1⟩
  · intro w hw a' U hW
    rw [List.mem_singleton.mp hw]
    exact word_at (State.WarmedH.trans hG.1 hW) (good_of_word (List.mem_filter.mp hw5).2) (h0.2.1 _ (List.mem_filter.mp hw5).1)
  · have h2 := hy.2.2
    rw [h] at h2
    exact (Option.some.inj h2).symm
theorem grV (h0 : Init X) (hF : FX X p s m meth c cc nL ret own) (hM : Met l y [Cond.code y bytes maxL ret'] ({ frames := fr, cells := mc, slots := ms, locals := lo } : Room) (va_Pc (.ref b :: As) (fun U => GC X U ∧ Bh U.heap)) Qc mc ms free)
    (hw1 : Cond.methodLink own idx y ∈ gTs) (hw2 : Cond.instanceMethod y ∈ gTs) (hw3 : Cond.selects y.cls y y ∈ gTs) (hw4 : Cond.initialized y.cls ∈ gTs) (hw5 : Cond.code y bytes maxL ret' ∈ gTs)
    (hy : y.cls ≠ "java/lang/invoke/MethodHandle" ∧ y.cls ≠ "java/lang/invoke/VarHandle" ∧ (parseMethodDescriptor y.desc).map (fun d => d.parameters.length) = some n) (hn : As.length = n) (hR : fr + 1 ≤ R.frames ∧ 8 + (maxL + 11) + lo ≤ R.locals)
    {ci N : Nat} {T : u_T} (hrec : ∃ fs, va_at X.D vwCl (b, .inr (ci, fs)) H) (hc : vwCl[ci]? = some (y.cls, T, N)) (hB : Bh H) (hS : va_S A s.heap H locs) (hA : ∀ q, q < X.z → ¬ A q) (hcs : cells + mc ≤ R.cells ∧ slots + ms ≤ R.slots)
    (hls : ls.size = nL) (hst : st = As.reverse ++ .ref b :: rest) (hW : (rest.map fun v => v.category).sum ≤ 8) (hdg : decode cc pc = .ok (.invokevirtual idx, 3)) :
    va_Run p l e R s m args below meth c H locs cells slots mc ms (F0 m pc ls st) rest (Qc (Value.ref b :: As).toArray) free := by
  obtain ⟨hx, hb, hml, hr, hlk, hown, hG⟩ := hF
  have hts := hG.hts h0 args
  obtain ⟨fs, q', h1, cell, g1, g2, g3, -⟩ := hrec
  refine va_runV (C := y.cls) ⟨hx, hb, hml, hown, hts⟩ hM ⟨gB h0 hG hw1 hw4 hw5 hy hR, hts _ hw2, hts _ hw3⟩ ⟨fun a U g mk q => q, ⟨cell, g1, by rw [g3]; rfl, by rw [g2]; exact ((hG.K h0).1 ci _ h1 |>.2.1 |> fun z => by
      have e := Option.some.inj (h1.symm.trans hc)
      rw [e] at z
      exact z)⟩, fun U hU hW => ⟨rfl, GC.move hG hS hA hU hW, by rw [hU]; exact hB⟩⟩ rfl hn hls hst (lv_room hW) hdg hcs
theorem grS (h0 : Init X) (hF : FX X p s m meth c cc nL ret own) (hM : Met l y [Cond.code y bytes maxL ret'] ({ frames := fr, cells := mc, slots := ms, locals := lo } : Room) (va_Pc As (fun U => GC X U ∧ Bh U.heap)) Qc mc ms free)
    (hw1 : Cond.methodLink own idx y ∈ gTs) (hw2 : Cond.static y ∈ gTs) (hw4 : Cond.initialized y.cls ∈ gTs) (hw5 : Cond.code y bytes maxL ret' ∈ gTs)
    (hy : y.cls ≠ "java/lang/invoke/MethodHandle" ∧ y.cls ≠ "java/lang/invoke/VarHandle" ∧ (parseMethodDescriptor y.desc).map (fun d => d.parameters.length) = some n) (hn : As.length = n) (hR : fr + 1 ≤ R.frames ∧ 8 + (maxL + 11) + lo ≤ R.locals)
    (hB : Bh H) (hS : va_S A s.heap H locs) (hA : ∀ q, q < X.z → ¬ A q) (hcs : cells + mc ≤ R.cells ∧ slots + ms ≤ R.slots)
    (hls : ls.size = nL) (hst : st = As.reverse ++ rest) (hW : (rest.map fun v => v.category).sum ≤ 8) (hdg : decode cc pc = .ok (.invokestatic idx, 3)) :
    va_Run p l e R s m args below meth c H locs cells slots mc ms (F0 m pc ls st) rest (Qc As.toArray) free := by
  obtain ⟨hx, hb, hml, hr, hlk, hown, hG⟩ := hF
  have hts := hG.hts h0 args
  exact va_runS ⟨hx, hb, hml, hown, hts⟩ hM ⟨gB h0 hG hw1 hw4 hw5 hy hR, hts _ hw2⟩ ⟨fun a U g mk q => q, fun U hU hW => ⟨rfl, GC.move hG hS hA hU hW, by rw [hU]; exact hB⟩⟩ rfl hn hls hst (lv_room hW) hdg hcs
theorem grSN {host : String} (h0 : Init X) (hF : FX X p s m meth c cc nL ret own) (hM : Met l y [Cond.code y bytes maxL ret'] ({ frames := fr, cells := mc, slots := ms, locals := lo } : Room) (va_Pc As (fun U => GC X U ∧ Bh U.heap)) Qc mc ms free)
    (hw1 : Cond.methodLinkNest own idx y host ∈ lw_tbl) (hw2 : Cond.static y ∈ gTs) (hw4 : Cond.initialized y.cls ∈ gTs) (hw5 : Cond.code y bytes maxL ret' ∈ gTs)
    (hy : y.cls ≠ "java/lang/invoke/MethodHandle" ∧ y.cls ≠ "java/lang/invoke/VarHandle" ∧ (parseMethodDescriptor y.desc).map (fun d => d.parameters.length) = some n) (hn : As.length = n) (hR : fr + 1 ≤ R.frames ∧ 8 + (maxL + 11) + lo ≤ R.locals)
    (hB : Bh H) (hS : va_S A s.heap H locs) (hA : ∀ q, q < X.z → ¬ A q) (hcs : cells + mc ≤ R.cells ∧ slots + ms ≤ R.slots)
    (hls : ls.size = nL) (hst : st = As.reverse ++ rest) (hW : (rest.map fun v => v.category).sum ≤ 8) (hdg : decode cc pc = .ok (.invokestatic idx, 3)) :
    va_Run p l e R s m args below meth c H locs cells slots mc ms (F0 m pc ls st) rest (Qc As.toArray) free := by
  obtain ⟨hx, hb, hml, hr, hlk, hown, hG⟩ := hF
  have hts := hG.hts h0 args
  refine va_runSN (own := own) (host := host) (n := n) ⟨hx, hb, hml, hown, hts⟩ hM ⟨⟨⟨rfl, rfl, hR.1, hR.2, ?_, List.mem_cons_self⟩, hts _ hw5, hts _ hw4, ⟨hy.1, hy.2.1⟩, fun sig h => ?_, hG.nestM h0 args hw1⟩, hts _ hw2, trivial⟩ ⟨fun a U g mk q => q, fun U hU hW => ⟨rfl, GC.move hG hS hA hU hW, by rw [hU]; exact hB⟩⟩ rfl hn hls hst (lv_room hW) hdg hcs
  · intro w hw a' U hW
    rw [List.mem_singleton.mp hw]
    exact word_at (State.WarmedH.trans hG.1 hW) (good_of_word (List.mem_filter.mp hw5).2) (h0.2.1 _ (List.mem_filter.mp hw5).1)
  · have h2 := hy.2.2
    rw [h] at h2
    exact (Option.some.inj h2).symm
theorem noA_old : ∀ q, q < X.z → ¬ noA q := fun _ _ h => h
theorem pm_iret {v : Value} {r : Int32} (hF : FX X p s m meth c cc nL (some .int) own) (hdg : decode cc pc = .ok (.ireturn, 1)) (he : v = .int r) : W p l e R s m args below meth c s.heap [] 0 0 (MQ below (qP v) args s 0 0 noA) (F0 m pc ls [.int r]) := by
  obtain ⟨hx, hb, hml, hr, hlk, hown, hG⟩ := hF
  subst he
  exact W.iret hx hb hr (fun t ht _ => ⟨rfl, ht⟩) (fun q hq => absurd hq List.not_mem_nil) hdg hlk
theorem pm_zret {v : Value} {r : Int32} {ty : FieldType} (hF : FX X p s m meth c cc nL (some ty) own) (hdg : decode cc pc = .ok (.ireturn, 1)) (hn : narrow ty (.int r) = .int r) (he : v = .int r) : W p l e R s m args below meth c s.heap [] 0 0 (MQ below (qP v) args s 0 0 noA) (F0 m pc ls [.int r]) := by
  obtain ⟨hx, hb, hml, hr, hlk, hown, hG⟩ := hF
  subst he
  exact W.zret hx hb hr hn (fun t ht _ => ⟨rfl, ht⟩) (fun q hq => absurd hq List.not_mem_nil) hdg hlk
theorem mm_iret {post : Option Value → Heap → Prop} {r : Int32} (hF : FX X p s m meth c cc nL (some .int) own) (hS : va_S A s.heap H locs) (hdg : decode cc pc = .ok (.ireturn, 1)) (hp : post (some (.int r)) H) : W p l e R s m args below meth c H locs mc ms (MQ below (qM post A) args s mc ms A) (F0 m pc ls [.int r]) := by
  obtain ⟨hx, hb, hml, hr, hlk, hown, hG⟩ := hF
  exact W.iret hx hb hr (fun t ht _ => ⟨_, rfl, by rw [ht]; exact hp, hS.F ht⟩) hS.2.2 hdg hlk
theorem mm_zret {post : Option Value → Heap → Prop} {r : Int32} {ty : FieldType} (hF : FX X p s m meth c cc nL (some ty) own) (hS : va_S A s.heap H locs) (hdg : decode cc pc = .ok (.ireturn, 1)) (hn : narrow ty (.int r) = .int r) (hp : post (some (.int r)) H) : W p l e R s m args below meth c H locs mc ms (MQ below (qM post A) args s mc ms A) (F0 m pc ls [.int r]) := by
  obtain ⟨hx, hb, hml, hr, hlk, hown, hG⟩ := hF
  exact W.zret hx hb hr hn (fun t ht _ => ⟨_, rfl, by rw [ht]; exact hp, hS.F ht⟩) hS.2.2 hdg hlk
theorem mm_vret {post : Option Value → Heap → Prop} (hF : FX X p s m meth c cc nL none own) (hS : va_S A s.heap H locs) (hdg : decode cc pc = .ok (.return_, 1)) (hp : post none H) : W p l e R s m args below meth c H locs mc ms (MQ below (qM post A) args s mc ms A) (F0 m pc ls []) := by
  obtain ⟨hx, hb, hml, hr, hlk, hown, hG⟩ := hF
  exact W.vret hx hb hr (fun t ht _ => ⟨_, rfl, by rw [ht]; exact hp, hS.F ht⟩) hS.2.2 hdg hlk
/-- the top of the stack, in other words -/
theorem lv_topE {x y : Int32} (h : x = y) (k : W p l e R s m args below meth c H locs cells slots Q (F0 m pc ls (.int y :: rest))) : W p l e R s m args below meth c H locs cells slots Q (F0 m pc ls (.int x :: rest)) := h ▸ k
/-- an array of ints is read at a place that is known to be j -/
theorem g_iald {D : va_G} {cl : List vw_C} {tys : List (ClassId × FieldType)} {ws : va_W} {a : Nat} (hx : p.tables.exec = Jvm.exec) (hb : c.code = cc) (hK : va_K D cl tys s) (hP : va_P D cl ws H) (q0 t0 : Nat) {cA : ClassId} {n' : Nat} {f : Nat → Int32} (ha : ws[q0]? = some (a, .inl (cA, n', .inl f))) (ht : tys[t0]? = some (cA, .int)) {i : Int32} (j : Nat) (hi : i = nI j) (hj : j < n') (hn : n' < 2147483648) (hdg : decode cc pc = .ok (.iaload, 1))
    (kk : W p l e R s m args below meth c H locs cells slots Q (F0 m (pc + 1) ls (.int (f j) :: rest))) : W p l e R s m args below meth c H locs cells slots Q (F0 m pc ls (.int i :: .ref a :: rest)) := by
  subst hi
  refine va_iald hx hb hK hP q0 t0 ha ht (vp_in_nI hj hn) hdg ?_
  rw [nI_clamp (Nat.lt_trans hj hn)]
  exact kk
/-- cells of one owner -/
def Tw (X : Cx) (ow : Nat → Nat) (t : Nat) (ws : va_W) (H : Heap) : Prop := va_P X.D vwCl ws H ∧ va_D (fun q => ow q = t) ws
theorem Tw.set {ow : Nat → Nat} {t a : Nat} {ws : va_W} {H1 : Heap} {e0 e1 : va_E} (h : Tw X ow t ws H) (k : Nat) (hp : ws[k]? = some (a, e0)) (he : va_at X.D vwCl (a, e1) H1) (oq : ∀ q : Nat, q ≠ a → H1[q]? = H[q]?) : Tw X ow t (ws.set k (a, e1)) H1 := ⟨h.1.set h.2 hp he oq, h.2.set hp⟩
theorem Tw.fr1 {ow : Nat → Nat} {t a : Nat} {ws : va_W} {H1 : Heap} (h : Tw X ow t ws H) (oq : ∀ q : Nat, q ≠ a → H1[q]? = H[q]?) (ha : ow a ≠ t) : Tw X ow t ws H1 := ⟨h.1.kept (fun k q hq => oq q.1 (fun z => ha (by rw [← z]; exact h.2.2 k q hq))), h.2⟩
theorem Tw.keep {ow : Nat → Nat} {t : Nat} {ws : va_W} {H1 : Heap} {A1 : Nat → Prop} (h : Tw X ow t ws H) (hk : ∀ q : Nat, q < H.size → ¬ A1 q → H1[q]? = H[q]?) (hA : ∀ q, ow q = t → ¬ A1 q) : Tw X ow t ws H1 := ⟨h.1.kept (fun k q hq => hk q.1 ((h.1 k q hq).lt) (hA _ (h.2.2 k q hq))), h.2⟩
theorem Tw.tag {ow : Nat → Nat} {t : Nat} {ws : va_W} (h : Tw X ow t ws H) (k : Nat) {a : Nat} {e0 : va_E} (hp : ws[k]? = some (a, e0)) : ow a = t := h.2.2 k _ hp
theorem g_iast {ow : Nat → Nat} {t a : Nat} {tys : List (ClassId × FieldType)} {ws : va_W} (hx : p.tables.exec = Jvm.exec) (hb : c.code = cc) (hK : va_K X.D vwCl tys s) (hT : Tw X ow t ws H) (hS : va_S A s.heap H locs) (hA : A a) (q0 t0 : Nat) {cA : ClassId} {n' : Nat} {f : Nat → Int32} (ha : ws[q0]? = some (a, .inl (cA, n', .inl f))) (ht : tys[t0]? = some (cA, .int)) {i x : Int32} (j : Nat) (hi : i = nI j) (hj : j < n') (hn : n' < 2147483648) (hdg : decode cc pc = .ok (.iastore, 1))
    (kk : ∀ (H1 : Heap) (locs1 : List Loc), (∀ q : Nat, q ≠ a → H1[q]? = H[q]?) → Tw X ow t (ws.set q0 (a, .inl (cA, n', .inl (upd f j x)))) H1 → va_S A s.heap H1 locs1 → W p l e R s m args below meth c H1 locs1 cells slots Q (F0 m (pc + 1) ls rest)) : W p l e R s m args below meth c H locs cells slots Q (F0 m pc ls (.int x :: .int i :: .ref a :: rest)) := by
  subst hi
  have hin : vp_in (nI j) n' := vp_in_nI hj hn
  refine W.iast hx hb (hT.1 q0 _ ha) ((hK.2 t0 _ ht).1 n' (fun j => .int (f j))) (fun q => by cases q) (by show ¬ (nI j < 0 ∨ (arrV _ _ _).slots.size ≤ _); rw [arrV_size]; exact hin) rfl rfl hdg fun H1 e1 z oq => ?_
  have he : va_at X.D vwCl (a, .inl (cA, n', .inl (upd f j x))) H1 := by
    show H1[a]? = some (vp_cell _ _)
    rw [e1, vp_cell_i, vp_cell_i, arrV_store, nI_clamp (Nat.lt_trans hj hn)]
    congr 2
    funext q
    by_cases hq : q = j
    · subst hq
      simp [updV, upd]
    · simp [updV, upd, hq]
  exact kk H1 _ oq (hT.set q0 ha he oq) (hS.put z oq hA)
theorem g_put {ow : Nat → Nat} {t a : Nat} {tys : List (ClassId × FieldType)} {ws : va_W} {T : u_T} {C ref : String} {ci N index : Nat} (h0 : Init X) (hF : FX X p s m meth c cc nL ret own) (hin : ∀ w ∈ u_ws C T N, w ∈ gTs) (ty0 : Nat → FieldType) (hty : ∀ k, k < N → parseFieldDescriptor (T k).2.2.1 = some (ty0 k)) (hnm : ∀ a, a < N → ∀ b, b < N → a ≠ b → (T a).2.1 ≠ (T b).2.1)
    (hT : Tw X ow t ws H) (hS : va_S A s.heap H locs) (hA : A a) (q0 : Nat) {fs : List Value} (he : ws[q0]? = some (a, .inr (ci, fs))) (hc : vwCl[ci]? = some (C, T, N)) (k : Nat) (hk : k < N) (hlink : Cond.fieldLink own index ref (T k).2.1 (T k).2.2.1 ∈ gTs) (href : (T k).1 = ref) (hfin : (T k).2.2.2 = false) {ty : FieldType} {v : Value} (hd : parseFieldDescriptor (T k).2.2.1 = some ty) (hn : narrow ty v = v) (hfit : fits ty v = true) (hl : k < fs.length)
    (hdg : decode cc pc = .ok (.putfield index, 3)) (kk : ∀ (H1 : Heap) (locs1 : List Loc), (∀ q : Nat, q ≠ a → H1[q]? = H[q]?) → Tw X ow t (ws.set q0 (a, .inr (ci, fs.set k v))) H1 → va_S A s.heap H1 locs1 → W p l e R s m args below meth c H1 locs1 cells slots Q (F0 m (pc + 3) ls rest)) : W p l e R s m args below meth c H locs cells slots Q (F0 m pc ls (v :: .ref a :: rest)) := by
  obtain ⟨hx, hb, hml, hr, hlk, hown, hG⟩ := hF
  have hts := hG.hts h0 args
  have hK := hG.K h0
  have hap := va_apart (own := own) hts hin ty0 hty hnm hK hc
  obtain ⟨r, h1, cell, q1, q2, q3, q4⟩ := hT.1 q0 _ he
  have hr : r = (C, T, N) := Option.some.inj (h1.symm.trans hc)
  subst hr
  obtain ⟨hSl, hfc, kC, hkC, hkind⟩ := hK.1 ci _ hc
  obtain ⟨cf, kf, fi, f, hi, hsl⟩ := hSl k hk
  have hlay := hts _ (hin _ (u_in_lay hk))
  unfold u_lay at hlay
  rw [if_neg (by rw [hfin]; decide)] at hlay
  have hst := (u_facts hfc hkC (u_lays hts hin hk) hi).1
  have h6 := u_store hfc hkC hkind hlay hi hd hn hfit
  refine W.putK hx hb (f := f) ⟨hown, hts _ hlink, ⟨_, _, _, by rw [← href]; exact hi⟩, hst⟩ (by rw [q2]; exact h6) q1 q3 (by rw [hsl]; exact k2_hasslot (q4 k hk)) rfl rfl hdg fun H' e1 e2 e3 => ?_
  rw [hsl] at e1 ⊢
  exact kk H' _ e3 (hT.set q0 he ⟨_, hc, t_OB.to (V := updV (vp_V fs) k v) ⟨_, e1, q2, q3, t_set q4 hap hk v⟩ (fun j _ => vp_updV_set hl v j)⟩ e3) (hS.put e2 e3 hA)
/-- a field is read -/
theorem g_get {ws : va_W} {T : u_T} {C ref : String} {ci N index : Nat} {a : Nat} (h0 : Init X) (hF : FX X p s m meth c cc nL ret own) (hin : ∀ w ∈ u_ws C T N, w ∈ gTs) (hP : va_P X.D vwCl ws H) (q0 : Nat) {fs : List Value} (he : ws[q0]? = some (a, .inr (ci, fs))) (hc : vwCl[ci]? = some (C, T, N)) (k : Nat) (hk : k < N) (hlink : Cond.fieldLink own index ref (T k).2.1 (T k).2.2.1 ∈ gTs) (href : (T k).1 = ref) {v : Value} (hv : fs[k]? = some v) (hdg : decode cc pc = .ok (.getfield index, 3))
    (kk : W p l e R s m args below meth c H locs cells slots Q (F0 m (pc + 3) ls (v :: rest))) : W p l e R s m args below meth c H locs cells slots Q (F0 m pc ls (.ref a :: rest)) := by
  obtain ⟨hx, hb, hml, hr, hlk, hown, hG⟩ := hF
  exact va_get hx hb (hG.hts h0 args) hin hown (hG.K h0) hP q0 he hc k hk (hG.hts h0 args _ hlink) (fun x hx => by rw [← href]; exact hx) hv hdg kk
end
end
section
/-! the state of a sky: rows (0 brightness, 1 sector, 2 claimant, 3 sightings, 4 clouds, 5 coins, 6 debt, 7 stay, 8 levied, 9 paid, 10 granted, 11 forfeited, 12 sighted, 13 sightedSeen, 14 the wishes' roof, 15 star, 16 kind, 17 age, 18 impounded; row 19: 0 nights, 1 exempt) and counts (0 stars, 1 roofs, 2 wishes) -/
abbrev Sk : Type := (Nat → Nat → Int32) × (Nat → Nat)
/-- the cells of a sky; f: their addresses -/
abbrev skW (X : Cx) (f : Nat → Nat) (k : Sk) : va_W := [
  (f 0, .inr (4, [.ref (f 1), .ref (f 2), .ref (f 3), .int (k.1 19 0), .int (k.1 19 1)])),
  (f 1, .inr (5, [.int (nI (k.2 0)), .ref (f 4), .ref (f 5), .ref (f 6), .ref (f 7), .ref (f 8)])),
  (f 2, .inr (3, [.int (nI (k.2 1)), .ref (f 9), .ref (f 10), .ref (f 11), .ref (f 12), .ref (f 13), .ref (f 14), .ref (f 15), .ref (f 16), .ref (f 17)])),
  (f 3, .inr (6, [.int (nI (k.2 2)), .ref (f 18), .ref (f 19), .ref (f 20), .ref (f 21), .ref (f 22)])),
  (f 4, .inl (X.cI, 8, .inl (k.1 0))), (f 5, .inl (X.cI, 8, .inl (k.1 1))), (f 6, .inl (X.cI, 8, .inl (k.1 2))), (f 7, .inl (X.cI, 8, .inl (k.1 3))), (f 8, .inl (X.cI, 4, .inl (k.1 4))),
  (f 9, .inl (X.cI, 5, .inl (k.1 5))), (f 10, .inl (X.cI, 5, .inl (k.1 6))), (f 11, .inl (X.cI, 5, .inl (k.1 7))), (f 12, .inl (X.cI, 5, .inl (k.1 8))), (f 13, .inl (X.cI, 5, .inl (k.1 9))), (f 14, .inl (X.cI, 5, .inl (k.1 10))), (f 15, .inl (X.cI, 5, .inl (k.1 11))), (f 16, .inl (X.cI, 5, .inl (k.1 12))), (f 17, .inl (X.cI, 5, .inl (k.1 13))),
  (f 18, .inl (X.cI, 8, .inl (k.1 14))), (f 19, .inl (X.cI, 8, .inl (k.1 15))), (f 20, .inl (X.cI, 8, .inl (k.1 16))), (f 21, .inl (X.cI, 8, .inl (k.1 17))), (f 22, .inl (X.cI, 8, .inl (k.1 18)))]
/-- a row changed at a place; a count changed -/
def sU (k : Sk) (r i : Nat) (v : Int32) : Sk := (fun r' => if r' = r then upd (k.1 r) i v else k.1 r', k.2)
def sC (k : Sk) (i n : Nat) : Sk := (k.1, fun i' => if i' = i then n else k.2 i')
/-- the number of places below n with p -/
def cN (p : Nat → Bool) : Nat → Nat
  | 0 => 0
  | n + 1 => cN p n + (if p n then 1 else 0)
theorem cN_le (p : Nat → Bool) (n : Nat) : cN p n ≤ n := by
  induction n with
  | zero => exact Nat.le_refl 0
  | succ n ih => unfold cN; split <;> omega
theorem cN_t {p : Nat → Bool} {n : Nat} (h : p n = true) : cN p (n + 1) = cN p n + 1 := by simp [cN, h]
theorem cN_f {p : Nat → Bool} {n : Nat} (h : p n = false) : cN p (n + 1) = cN p n := by simp [cN, h]
/-- what keeps every index within its row -/
def sN (k : Sk) (i : Nat) : Nat := (k.1 1 i).toNatClampNeg
def wR (k : Sk) (w : Nat) : Nat := (k.1 14 w).toNatClampNeg
def wS (k : Sk) (w : Nat) : Nat := (k.1 15 w).toNatClampNeg
def Ok (k : Sk) : Prop := k.2 0 ≤ 8 ∧ k.2 1 ≤ 5 ∧ k.2 2 ≤ 8 ∧ (∀ i, i < k.2 0 → k.1 1 i = nI (sN k i) ∧ sN k i < 4) ∧ (∀ w, w < k.2 2 → k.1 14 w = nI (wR k w) ∧ wR k w < k.2 1) ∧ (∀ w, w < k.2 2 → k.1 15 w = nI (wS k w) ∧ wS k w < k.2 0)
/-- a place that is there -/
def hasI (n : Nat) (i : Int32) : Int32 := if 0 ≤ i ∧ i < nI n then 1 else 0
theorem hasI_t {n : Nat} {i : Int32} (h : 0 ≤ i ∧ i < nI n) : hasI n i = 1 := if_pos h
theorem hasI_f {n : Nat} {i : Int32} (h : ¬ (0 ≤ i ∧ i < nI n)) : hasI n i = 0 := if_neg h
def winI (x a b : Int32) : Int32 := if a ≤ x ∧ x ≤ b then 1 else 0
def isSeen (k : Sk) (i : Nat) : Bool := decide (k.1 4 (sN k i) < k.1 0 i)
def bI (b : Bool) : Int32 := if b then 1 else 0
theorem bI_t {b : Bool} (h : b = true) : bI b = 1 := by simp [bI, h]
theorem bI_f {b : Bool} (h : b = false) : bI b = 0 := by simp [bI, h]
theorem bI_0 {b : Bool} : bI b = 0 ↔ b = false := by cases b <;> decide
theorem bI_n0 {b : Bool} : ¬ bI b = 0 ↔ b = true := by cases b <;> decide
theorem bI_nar (b : Bool) : narrow .boolean (.int (bI b)) = .int (bI b) := by cases b <;> rfl
theorem lv_eqv {ls : Array Slot} {n : Nat} {l1 l2 : List (Nat × Value)} (h : lv_has ls n l1) (e : l1 = l2) : lv_has ls n l2 := e ▸ h
def hasB (n : Nat) (i : Int32) : Bool := decide (0 ≤ i ∧ i < nI n)
def winB (x a b : Int32) : Bool := decide (a ≤ x ∧ x ≤ b)
theorem hasB_t {n : Nat} {i : Int32} (h : hasB n i = true) (hn : n < 1000) : ∃ j, j < n ∧ i = nI j := by
  have h1 := of_decide_eq_true h
  obtain ⟨j, hj, rfl⟩ := nI_of (Int32.not_lt.mpr h1.1)
  exact ⟨j, (nI_ltI (by omega) (by omega)).mp h1.2, rfl⟩
theorem hasB_nI {n j : Nat} (hj : j < n) (hn : n < 1000) : hasB n (nI j) = true := decide_eq_true ⟨nI_pos' (by omega), nI_lt hj (by omega)⟩
end
section
/-! what the reading methods answer, over a sky's model -/
def sI (F : Nat → Int32) : Nat → Int32
  | 0 => 0
  | n + 1 => sI F n + F n
def gS (F : Nat → Nat) (a : Nat) : Nat → Nat
  | 0 => 0
  | n + 1 => gS F a n + F (a + n)
def cl (k : Sk) (g : Nat) : Nat := (k.1 4 g).toNatClampNeg
/-- the clouds are from 0 to 9 -/
def Okc (k : Sk) : Prop := ∀ g, g < 4 → k.1 4 g = nI (cl k g) ∧ cl k g ≤ 9
def cBr (k : Sk) (g : Int32) (b : Int32) : Nat := cN (fun z => decide (k.1 1 z = g) && decide (k.1 0 z = b)) (k.2 0)
def dM (k : Sk) (g : Nat) : Nat → Int32
  | 0 => 0
  | j + 1 => if k.1 1 j = nI g then (if dM k g j < k.1 4 g - k.1 0 j + 1 then k.1 4 g - k.1 0 j + 1 else dM k g j) else dM k g j
def brB (k : Sk) (i j : Nat) : Bool := if k.1 0 i = k.1 0 j then (if k.1 3 i = k.1 3 j then decide (nI i < nI j) else decide (k.1 3 j < k.1 3 i)) else decide (k.1 0 j < k.1 0 i)
/-- the first place from j on with P, of n places; d without one -/
def fnd (P : Nat → Bool) (d : Int32) : Nat → Nat → Int32
  | 0, _ => d
  | n + 1, j => if P j then nI j else fnd P d n (j + 1)
def rankS (k : Sk) (j : Nat) : Nat := cN (fun z => brB k z j) (k.2 0)
def isImp (k : Sk) (w : Nat) : Bool := !decide (k.1 18 w = -4)
def iN (k : Sk) (g : Int32) : Nat → Nat
  | 0 => 0
  | j + 1 => if (decide (k.1 14 j = g) && isImp k j) = true then iN k g j + 2 ^ j else iN k g j
theorem iN_lt (k : Sk) (g : Int32) (j : Nat) : iN k g j < 2 ^ j := by
  induction j with
  | zero => exact Nat.one_pos
  | succ j ih => unfold iN; have := Nat.pow_succ 2 j; split <;> omega
theorem bit_add : ∀ j, j < 8 → ∀ a, a < 2 ^ j → nI a ||| (1 <<< (nI j &&& 31)) = nI (a + 2 ^ j) := by decide +kernel
def levI (k : Sk) (r : Int32) (i : Nat) : Int32 := if isSeen k i = true then (if k.1 2 i = r then 0 else k.1 0 i) else 0
def cost (k : Sk) (w : Nat) : Int32 := k.1 0 (wS k w) + k.1 18 w
def grB (k : Sk) (w : Nat) : Bool := !isImp k w && isSeen k (wS k w)
def bitI (j : Nat) : Int32 := 1 <<< (nI j &&& 31)
/-- the cheapest wish of a set -/
def cwR (k : Sk) (set : Int32) : Nat → Int32
  | 0 => -4
  | j + 1 => if set &&& bitI j = 0 then cwR k set j else if cwR k set j = -4 then nI j else if cost k j < cost k (cwR k set j).toNatClampNeg then nI j else cwR k set j
theorem cwR_in (k : Sk) (set : Int32) (j : Nat) (hj : j ≤ 8) (h : ¬ cwR k set j = -4) : cwR k set j = nI (cwR k set j).toNatClampNeg ∧ (cwR k set j).toNatClampNeg < j := by
  induction j with
  | zero => exact absurd rfl h
  | succ j ih =>
    have e : (nI j).toNatClampNeg = j := nI_clamp (by omega)
    unfold cwR at h ⊢
    split at h
    next h1 => rw [if_pos h1]; have := ih (by omega) h; exact ⟨this.1, by omega⟩
    next h1 =>
      rw [if_neg h1]
      split at h
      next h2 => rw [if_pos h2, e]; exact ⟨rfl, by omega⟩
      next h2 =>
        rw [if_neg h2]
        split at h
        next h3 => rw [if_pos h3, e]; exact ⟨rfl, by omega⟩
        next h3 => rw [if_neg h3]; have := ih (by omega) h; exact ⟨this.1, by omega⟩
def coS (k : Sk) (set : Int32) : Nat → Int32
  | 0 => 0
  | j + 1 => if set &&& bitI j = 0 then coS k set j else coS k set j + cost k j
def ush (x n : Int32) : Int32 := (x.toUInt32 >>> (n.toUInt32 &&& Int32.toUInt32 31)).toInt32
def bc1 (x : Int32) : Int32 := x - (ush x 1 &&& 1431655765)
def bc2 (x : Int32) : Int32 := (x &&& 858993459) + (ush x 2 &&& 858993459)
def bc3 (x : Int32) : Int32 := (x + ush x 4) &&& 252645135
def bc4 (x : Int32) : Int32 := x + ush x 8
def bc5 (x : Int32) : Int32 := x + ush x 16
def bcI (x : Int32) : Int32 := bc5 (bc4 (bc3 (bc2 (bc1 x)))) &&& 63
/-- the most wishes of the sets below d that the coins pay -/
def tR (k : Sk) (r A : Nat) : Nat → Int32
  | 0 => 0
  | d + 1 => if nI d &&& (nI A ^^^ (-1)) = 0 ∧ coS k (nI d) (k.2 2) ≤ k.1 5 r then (if tR k r A d < bcI (nI d) then bcI (nI d) else tR k r A d) else tR k r A d
/-- how many are redeemed, the cheapest first -/
def gre (k : Sk) : Nat → Int32 → Int32 → Nat → Int32
  | 0, _, _, _ => 8
  | n + 1, lf, op, c => if cwR k op (k.2 2) = -4 then nI c else if cost k (cwR k op (k.2 2)).toNatClampNeg ≤ lf then gre k n (lf - cost k (cwR k op (k.2 2)).toNatClampNeg) (op &&& ((1 <<< (cwR k op (k.2 2) &&& 31)) ^^^ (-1))) (c + 1) else nI c
def chB (k : Sk) (r i o : Nat) : Bool := if levI k (nI r) i = levI k (nI r) o then decide (k.1 0 o < k.1 0 i) else decide (levI k (nI r) i < levI k (nI r) o)
def opB (k : Sk) (r i : Nat) : Bool := isSeen k i && decide (k.1 12 r &&& bitI i = 0)
def csR (k : Sk) (r : Nat) : Nat → Int32
  | 0 => -4
  | j + 1 => if opB k r j = true then (if csR k r j = -4 then nI j else if chB k r j (csR k r j).toNatClampNeg = true then nI j else csR k r j) else csR k r j
theorem csR_in (k : Sk) (r : Nat) (j : Nat) (hj : j ≤ 8) (h : ¬ csR k r j = -4) : csR k r j = nI (csR k r j).toNatClampNeg ∧ (csR k r j).toNatClampNeg < j := by
  induction j with
  | zero => exact absurd rfl h
  | succ j ih =>
    have e : (nI j).toNatClampNeg = j := nI_clamp (by omega)
    unfold csR at h ⊢
    split at h
    next h1 =>
      rw [if_pos h1]
      split at h
      next h2 => rw [if_pos h2, e]; exact ⟨rfl, by omega⟩
      next h2 =>
        rw [if_neg h2]
        split at h
        next h3 => rw [if_pos h3, e]; exact ⟨rfl, by omega⟩
        next h3 => rw [if_neg h3]; have := ih (by omega) h; exact ⟨this.1, by omega⟩
    next h1 => rw [if_neg h1]; have := ih (by omega) h; exact ⟨this.1, by omega⟩
def cWr (k : Sk) (r : Nat) : Nat := cN (fun z => decide (k.1 14 z = nI r)) (k.2 2)
def riB (k : Sk) (i j : Nat) : Bool := if k.1 5 i - k.1 6 i = k.1 5 j - k.1 6 j then (if nI (cWr k i) = nI (cWr k j) then decide (nI i < nI j) else decide (nI (cWr k i) < nI (cWr k j))) else decide (k.1 5 j - k.1 6 j < k.1 5 i - k.1 6 i)
def rankR (k : Sk) (j : Nat) : Nat := cN (fun z => riB k z j) (k.2 1)
def noW : Heap → Prop := fun _ => True
end
section
set_option maxHeartbeats 4000000 in
set_option maxRecDepth 100000 in
theorem m_X6_has {X : Cx} {l : Launch} (h0 : Init X) {f : Nat → Nat} {k : Sk} (hO : Ok k)  (i : Int32) : PM X l yX6_has cX6_has 2 (some .boolean) 0 0 [.ref (f 1), .int i] (va_P X.D vwCl (skW X f k)) (.int (bI (hasB (k.2 0) i))) := by
  refine Met.mk (Bh := va_P X.D vwCl (skW X f k)) (by decide) (Nat.le_of_ble_eq_true rfl) ?_
  intro p e s m below meth c ls hF hB hl
  have hl : lv_has ls 2 [(0, .ref (f 1)), (1, .int i)] := hl
  obtain ⟨hx, hb, hml, hr, hlk, hown, hG⟩ := id hF
  have hK := hG.K h0
  have hS : va_S noA s.heap s.heap [] := va_S.rf
  have hO1 := hO.1
  have hO2 := hO.2.1
  have hO3 := hO.2.2.1
  refine lv_iload_n hx hb dX6_has_0 rfl (lv_at hl 1 rfl) ?_
  refine lv_if_lt (tgt := 16) hx hb dX6_has_1 (by decide) (fun c_1 => ?_) (fun c_1 => ?_)
  · have n_1 := Int32.not_le.mpr c_1
    refine lv_iconst (v := 0) hx hb dX6_has_16 (by decide) ?_
    exact pm_zret hF dX6_has_17 rfl (by simp [bI, hasB, c_1, n_1])
  · have n_1 := Int32.not_lt.mp c_1
    refine lv_iload_n hx hb dX6_has_4 rfl (lv_at hl 1 rfl) ?_
    refine lv_aload_n hx hb dX6_has_5 rfl (lv_at hl 0 rfl) ?_
    refine g_get (ci := 5) (v := .int (nI (k.2 0))) h0 hF inX6 hB 1 rfl rfl 0 (by decide) wf_X6_27 rfl rfl dX6_has_6 ?_
    refine lv_icmp_ge (tgt := 16) hx hb dX6_has_9 (by decide) (fun c_9 => ?_) (fun c_9 => ?_)
    · have n_9 := Int32.not_lt.mpr c_9
      refine lv_iconst (v := 0) hx hb dX6_has_16 (by decide) ?_
      exact pm_zret hF dX6_has_17 rfl (by simp [bI, hasB, c_1, n_1, c_9, n_9])
    · have n_9 := Int32.not_le.mp c_9
      refine lv_iconst (v := 1) hx hb dX6_has_12 (by decide) ?_
      refine lv_goto (tgt := 17) hx hb dX6_has_13 (by decide) ?_
      exact pm_zret hF dX6_has_17 rfl (by simp [bI, hasB, c_1, n_1, c_9, n_9])

set_option maxHeartbeats 4000000 in
set_option maxRecDepth 100000 in
theorem m_X4_has {X : Cx} {l : Launch} (h0 : Init X) {f : Nat → Nat} {k : Sk} (hO : Ok k)  (i : Int32) : PM X l yX4_has cX4_has 2 (some .boolean) 0 0 [.ref (f 2), .int i] (va_P X.D vwCl (skW X f k)) (.int (bI (hasB (k.2 1) i))) := by
  refine Met.mk (Bh := va_P X.D vwCl (skW X f k)) (by decide) (Nat.le_of_ble_eq_true rfl) ?_
  intro p e s m below meth c ls hF hB hl
  have hl : lv_has ls 2 [(0, .ref (f 2)), (1, .int i)] := hl
  obtain ⟨hx, hb, hml, hr, hlk, hown, hG⟩ := id hF
  have hK := hG.K h0
  have hS : va_S noA s.heap s.heap [] := va_S.rf
  have hO1 := hO.1
  have hO2 := hO.2.1
  have hO3 := hO.2.2.1
  refine lv_iload_n hx hb dX4_has_0 rfl (lv_at hl 1 rfl) ?_
  refine lv_if_lt (tgt := 16) hx hb dX4_has_1 (by decide) (fun c_1 => ?_) (fun c_1 => ?_)
  · have n_1 := Int32.not_le.mpr c_1
    refine lv_iconst (v := 0) hx hb dX4_has_16 (by decide) ?_
    exact pm_zret hF dX4_has_17 rfl (by simp [bI, hasB, c_1, n_1])
  · have n_1 := Int32.not_lt.mp c_1
    refine lv_iload_n hx hb dX4_has_4 rfl (lv_at hl 1 rfl) ?_
    refine lv_aload_n hx hb dX4_has_5 rfl (lv_at hl 0 rfl) ?_
    refine g_get (ci := 3) (v := .int (nI (k.2 1))) h0 hF inX4 hB 2 rfl rfl 0 (by decide) wf_X4_39 rfl rfl dX4_has_6 ?_
    refine lv_icmp_ge (tgt := 16) hx hb dX4_has_9 (by decide) (fun c_9 => ?_) (fun c_9 => ?_)
    · have n_9 := Int32.not_lt.mpr c_9
      refine lv_iconst (v := 0) hx hb dX4_has_16 (by decide) ?_
      exact pm_zret hF dX4_has_17 rfl (by simp [bI, hasB, c_1, n_1, c_9, n_9])
    · have n_9 := Int32.not_le.mp c_9
      refine lv_iconst (v := 1) hx hb dX4_has_12 (by decide) ?_
      refine lv_goto (tgt := 17) hx hb dX4_has_13 (by decide) ?_
      exact pm_zret hF dX4_has_17 rfl (by simp [bI, hasB, c_1, n_1, c_9, n_9])

set_option maxHeartbeats 4000000 in
set_option maxRecDepth 100000 in
theorem m_X7_has {X : Cx} {l : Launch} (h0 : Init X) {f : Nat → Nat} {k : Sk} (hO : Ok k)  (i : Int32) : PM X l yX7_has cX7_has 2 (some .boolean) 0 0 [.ref (f 3), .int i] (va_P X.D vwCl (skW X f k)) (.int (bI (hasB (k.2 2) i))) := by
  refine Met.mk (Bh := va_P X.D vwCl (skW X f k)) (by decide) (Nat.le_of_ble_eq_true rfl) ?_
  intro p e s m below meth c ls hF hB hl
  have hl : lv_has ls 2 [(0, .ref (f 3)), (1, .int i)] := hl
  obtain ⟨hx, hb, hml, hr, hlk, hown, hG⟩ := id hF
  have hK := hG.K h0
  have hS : va_S noA s.heap s.heap [] := va_S.rf
  have hO1 := hO.1
  have hO2 := hO.2.1
  have hO3 := hO.2.2.1
  refine lv_iload_n hx hb dX7_has_0 rfl (lv_at hl 1 rfl) ?_
  refine lv_if_lt (tgt := 16) hx hb dX7_has_1 (by decide) (fun c_1 => ?_) (fun c_1 => ?_)
  · have n_1 := Int32.not_le.mpr c_1
    refine lv_iconst (v := 0) hx hb dX7_has_16 (by decide) ?_
    exact pm_zret hF dX7_has_17 rfl (by simp [bI, hasB, c_1, n_1])
  · have n_1 := Int32.not_lt.mp c_1
    refine lv_iload_n hx hb dX7_has_4 rfl (lv_at hl 1 rfl) ?_
    refine lv_aload_n hx hb dX7_has_5 rfl (lv_at hl 0 rfl) ?_
    refine g_get (ci := 6) (v := .int (nI (k.2 2))) h0 hF inX7 hB 3 rfl rfl 0 (by decide) wf_X7_27 rfl rfl dX7_has_6 ?_
    refine lv_icmp_ge (tgt := 16) hx hb dX7_has_9 (by decide) (fun c_9 => ?_) (fun c_9 => ?_)
    · have n_9 := Int32.not_lt.mpr c_9
      refine lv_iconst (v := 0) hx hb dX7_has_16 (by decide) ?_
      exact pm_zret hF dX7_has_17 rfl (by simp [bI, hasB, c_1, n_1, c_9, n_9])
    · have n_9 := Int32.not_le.mp c_9
      refine lv_iconst (v := 1) hx hb dX7_has_12 (by decide) ?_
      refine lv_goto (tgt := 17) hx hb dX7_has_13 (by decide) ?_
      exact pm_zret hF dX7_has_17 rfl (by simp [bI, hasB, c_1, n_1, c_9, n_9])

set_option maxHeartbeats 4000000 in
set_option maxRecDepth 100000 in
theorem m_X6_isSeen {X : Cx} {l : Launch} (h0 : Init X) {f : Nat → Nat} {k : Sk} (hO : Ok k)  (x : Int32) (i : Nat) (hxi : x = nI i) (hi : i < k.2 0) : PM X l yX6_isSeen cX6_isSeen 2 (some .boolean) 0 0 [.ref (f 1), .int x] (va_P X.D vwCl (skW X f k)) (.int (bI (isSeen k i))) := by
  subst hxi
  refine Met.mk (Bh := va_P X.D vwCl (skW X f k)) (by decide) (Nat.le_of_ble_eq_true rfl) ?_
  intro p e s m below meth c ls hF hB hl
  have hl : lv_has ls 2 [(0, .ref (f 1)), (1, .int (nI i))] := hl
  obtain ⟨hx, hb, hml, hr, hlk, hown, hG⟩ := id hF
  have hK := hG.K h0
  have hS : va_S noA s.heap s.heap [] := va_S.rf
  have hO1 := hO.1
  have hO2 := hO.2.1
  have hO3 := hO.2.2.1
  refine lv_aload_n hx hb dX6_isSeen_0 rfl (lv_at hl 0 rfl) ?_
  refine g_get (ci := 5) (v := .ref (f 4)) h0 hF inX6 hB 1 rfl rfl 1 (by decide) wf_X6_9 rfl rfl dX6_isSeen_1 ?_
  refine lv_iload_n hx hb dX6_isSeen_4 rfl (lv_at hl 1 rfl) ?_
  refine g_iald hx hb hK hB 4 0 rfl rfl i (rfl) (by omega) (by decide) dX6_isSeen_5 ?_
  refine lv_aload_n hx hb dX6_isSeen_6 rfl (lv_at hl 0 rfl) ?_
  refine g_get (ci := 5) (v := .ref (f 8)) h0 hF inX6 hB 1 rfl rfl 5 (by decide) wf_X6_24 rfl rfl dX6_isSeen_7 ?_
  refine lv_aload_n hx hb dX6_isSeen_10 rfl (lv_at hl 0 rfl) ?_
  refine g_get (ci := 5) (v := .ref (f 5)) h0 hF inX6 hB 1 rfl rfl 2 (by decide) wf_X6_15 rfl rfl dX6_isSeen_11 ?_
  refine lv_iload_n hx hb dX6_isSeen_14 rfl (lv_at hl 1 rfl) ?_
  refine g_iald hx hb hK hB 5 0 rfl rfl i (rfl) (by omega) (by decide) dX6_isSeen_15 ?_
  refine g_iald hx hb hK hB 8 0 rfl rfl (sN k i) ((hO.2.2.2.1 i hi).1) (hO.2.2.2.1 i hi).2 (by decide) dX6_isSeen_16 ?_
  refine lv_icmp_le (tgt := 24) hx hb dX6_isSeen_17 (by decide) (fun c_17 => ?_) (fun c_17 => ?_)
  · have n_17 := Int32.not_lt.mpr c_17
    refine lv_iconst (v := 0) hx hb dX6_isSeen_24 (by decide) ?_
    exact pm_zret hF dX6_isSeen_25 rfl (by simp [bI, isSeen, c_17, n_17])
  · have n_17 := Int32.not_le.mp c_17
    refine lv_iconst (v := 1) hx hb dX6_isSeen_20 (by decide) ?_
    refine lv_goto (tgt := 25) hx hb dX6_isSeen_21 (by decide) ?_
    exact pm_zret hF dX6_isSeen_25 rfl (by simp [bI, isSeen, c_17, n_17])

set_option maxHeartbeats 4000000 in
set_option maxRecDepth 100000 in
theorem m_X6_countSeen {X : Cx} {l : Launch} (h0 : Init X) {f : Nat → Nat} {k : Sk} (hO : Ok k)  (g : Int32) : PM X l yX6_countSeen cX6_countSeen 4 (some .int) 1 21 [.ref (f 1), .int g] (va_P X.D vwCl (skW X f k)) (.int (nI (cN (fun z => decide (k.1 1 z = g) && isSeen k z) (k.2 0)))) := by
  refine Met.mk (Bh := va_P X.D vwCl (skW X f k)) (by decide) (Nat.le_of_ble_eq_true rfl) ?_
  intro p e s m below meth c ls hF hB hl
  have hl : lv_has ls 4 [(0, .ref (f 1)), (1, .int g)] := hl
  obtain ⟨hx, hb, hml, hr, hlk, hown, hG⟩ := id hF
  have hK := hG.K h0
  have hS : va_S noA s.heap s.heap [] := va_S.rf
  have hO1 := hO.1
  have hO2 := hO.2.1
  have hO3 := hO.2.2.1
  refine lv_iconst (v := 0) hx hb dX6_countSeen_0 (by decide) ?_
  refine lv_istore_n (lv' := [(2, .int 0), (0, .ref (f 1)), (1, .int g)]) hx hb dX6_countSeen_1 rfl hl (by decide) rfl (fun ls hl => ?_)
  refine lv_iconst (v := 0) hx hb dX6_countSeen_2 (by decide) ?_
  refine lv_istore_n (lv' := [(3, .int 0), (2, .int 0), (0, .ref (f 1)), (1, .int g)]) hx hb dX6_countSeen_3 rfl hl (by decide) rfl (fun ls hl => ?_)
  have key_4 : ∀ (nf j : Nat), j + nf = k.2 0 → ∀ (ls : Array Slot), lv_has ls 4 [(0, .ref (f 1)), (1, .int g), (2, .int (nI (cN (fun z => decide (k.1 1 z = g) && isSeen k z) j))), (3, .int (nI j))] → W p l e ({ frames := 1, cells := 0, slots := 0, locals := 21 } : Room) s m ([.ref (f 1), .int g] : List Value).toArray below meth c s.heap [] 0 0 (MQ below (qP (.int (nI (cN (fun z => decide (k.1 1 z = g) && isSeen k z) (k.2 0))))) ([.ref (f 1), .int g] : List Value).toArray s 0 0 noA) (F0 m 4 ls []) := by
    intro nf
    induction nf with
    | zero =>
      intro j hj ls hl
      have hj_e : j = k.2 0 := by omega
      refine lv_iload_n hx hb dX6_countSeen_4 rfl (lv_at hl 3 rfl) ?_
      refine lv_aload_n hx hb dX6_countSeen_5 rfl (lv_at hl 0 rfl) ?_
      refine g_get (ci := 5) (v := .int (nI (k.2 0))) h0 hF inX6 hB 1 rfl rfl 0 (by decide) wf_X6_27 rfl rfl dX6_countSeen_6 ?_
      refine lv_icmp_ge (tgt := 39) hx hb dX6_countSeen_9 (by decide) (fun c_9 => ?_) (fun c_9 => absurd (nI_le (a := k.2 0) (b := j) (by omega) (by omega)) c_9)
      have n_9 := Int32.not_lt.mpr c_9
      refine lv_iload_n hx hb dX6_countSeen_39 rfl (lv_at hl 2 rfl) ?_
      exact pm_iret hF dX6_countSeen_40 (by rw [hj_e])
    | succ nf ih_4 =>
      intro j hj ls hl
      have hj_l : j < k.2 0 := by omega
      refine lv_iload_n hx hb dX6_countSeen_4 rfl (lv_at hl 3 rfl) ?_
      refine lv_aload_n hx hb dX6_countSeen_5 rfl (lv_at hl 0 rfl) ?_
      refine g_get (ci := 5) (v := .int (nI (k.2 0))) h0 hF inX6 hB 1 rfl rfl 0 (by decide) wf_X6_27 rfl rfl dX6_countSeen_6 ?_
      refine lv_icmp_ge (tgt := 39) hx hb dX6_countSeen_9 (by decide) (fun c_9 => absurd c_9 (nI_ge (a := j) (b := k.2 0) (by omega) (by omega))) (fun c_9 => ?_)
      have n_9 := Int32.not_le.mp c_9
      refine lv_aload_n hx hb dX6_countSeen_12 rfl (lv_at hl 0 rfl) ?_
      refine g_get (ci := 5) (v := .ref (f 5)) h0 hF inX6 hB 1 rfl rfl 2 (by decide) wf_X6_15 rfl rfl dX6_countSeen_13 ?_
      refine lv_iload_n hx hb dX6_countSeen_16 rfl (lv_at hl 3 rfl) ?_
      refine g_iald hx hb hK hB 5 0 rfl rfl j (rfl) (by omega) (by decide) dX6_countSeen_17 ?_
      refine lv_iload_n hx hb dX6_countSeen_18 rfl (lv_at hl 1 rfl) ?_
      refine lv_icmp_ne (tgt := 33) hx hb dX6_countSeen_19 (by decide) (fun c_19 => ?_) (fun c_19 => ?_)
      · refine lv_iinc (v := nI (j + 1)) (lv' := [(3, .int (nI (j + 1))), (0, .ref (f 1)), (1, .int g), (2, .int (nI (cN (fun z => decide (k.1 1 z = g) && isSeen k z) j)))]) hx hb dX6_countSeen_33 hl (k := 3) rfl (nI_1 j) (by decide) rfl (fun ls hl => ?_)
        refine lv_goto (tgt := 4) hx hb dX6_countSeen_36 (by decide) ?_
        refine ih_4 (j + 1) (by omega) ls (lv_eqv (lv_sub (l' := [(0, .ref (f 1)), (1, .int g), (2, .int (nI (cN (fun z => decide (k.1 1 z = g) && isSeen k z) j))), (3, .int (nI (j + 1)))]) hl [1, 2, 3, 0] rfl) ?_)
        rw [show (nI (cN (fun z => decide (k.1 1 z = g) && isSeen k z) j)) = (nI (cN (fun z => decide (k.1 1 z = g) && isSeen k z) (j + 1))) from (congrArg nI (cN_f (by simp [c_9, n_9, c_19])).symm)]
      · refine lv_aload_n hx hb dX6_countSeen_22 rfl (lv_at hl 0 rfl) ?_
        refine lv_iload_n hx hb dX6_countSeen_23 rfl (lv_at hl 3 rfl) ?_
        refine core_p (grV (n := 1) (As := [.int (nI j)]) (rest := []) h0 hF (m_X6_isSeen h0 (f := f) (k := k) hO  (nI j) j rfl (by omega)) wm_X6_35 wo_X6_isSeen ws_X6__X6_isSeen wz_X6 wc_X6_isSeen ⟨by decide, by decide, by decide +kernel⟩ rfl ⟨Nat.le_of_ble_eq_true rfl, Nat.le_of_ble_eq_true rfl⟩ (ci := 5) ⟨_, hB 1 _ rfl⟩ rfl hB hS noA_old ⟨Nat.zero_le _, Nat.zero_le _⟩ hl.1 rfl (Nat.le_of_ble_eq_true rfl) dX6_countSeen_24) ?_
        refine lv_if_eq (tgt := 33) hx hb dX6_countSeen_27 (by decide) (fun c_27 => ?_) (fun c_27 => ?_)
        · have n_27 := bI_0.mp c_27
          refine lv_iinc (v := nI (j + 1)) (lv' := [(3, .int (nI (j + 1))), (0, .ref (f 1)), (1, .int g), (2, .int (nI (cN (fun z => decide (k.1 1 z = g) && isSeen k z) j)))]) hx hb dX6_countSeen_33 hl (k := 3) rfl (nI_1 j) (by decide) rfl (fun ls hl => ?_)
          refine lv_goto (tgt := 4) hx hb dX6_countSeen_36 (by decide) ?_
          refine ih_4 (j + 1) (by omega) ls (lv_eqv (lv_sub (l' := [(0, .ref (f 1)), (1, .int g), (2, .int (nI (cN (fun z => decide (k.1 1 z = g) && isSeen k z) j))), (3, .int (nI (j + 1)))]) hl [1, 2, 3, 0] rfl) ?_)
          rw [show (nI (cN (fun z => decide (k.1 1 z = g) && isSeen k z) j)) = (nI (cN (fun z => decide (k.1 1 z = g) && isSeen k z) (j + 1))) from (congrArg nI (cN_f (by simp [c_9, n_9, c_19, n_27])).symm)]
        · have n_27 := bI_n0.mp c_27
          refine lv_iinc (v := nI ((cN (fun z => decide (k.1 1 z = g) && isSeen k z) j) + 1)) (lv' := [(2, .int (nI ((cN (fun z => decide (k.1 1 z = g) && isSeen k z) j) + 1))), (0, .ref (f 1)), (1, .int g), (3, .int (nI j))]) hx hb dX6_countSeen_30 hl (k := 2) rfl (nI_1 (cN (fun z => decide (k.1 1 z = g) && isSeen k z) j)) (by decide) rfl (fun ls hl => ?_)
          refine lv_iinc (v := nI (j + 1)) (lv' := [(3, .int (nI (j + 1))), (2, .int (nI ((cN (fun z => decide (k.1 1 z = g) && isSeen k z) j) + 1))), (0, .ref (f 1)), (1, .int g)]) hx hb dX6_countSeen_33 hl (k := 3) rfl (nI_1 j) (by decide) rfl (fun ls hl => ?_)
          refine lv_goto (tgt := 4) hx hb dX6_countSeen_36 (by decide) ?_
          refine ih_4 (j + 1) (by omega) ls (lv_eqv (lv_sub (l' := [(0, .ref (f 1)), (1, .int g), (2, .int (nI ((cN (fun z => decide (k.1 1 z = g) && isSeen k z) j) + 1))), (3, .int (nI (j + 1)))]) hl [2, 3, 1, 0] rfl) ?_)
          rw [show (nI ((cN (fun z => decide (k.1 1 z = g) && isSeen k z) j) + 1)) = (nI (cN (fun z => decide (k.1 1 z = g) && isSeen k z) (j + 1))) from (congrArg nI (cN_t (by simp [c_9, n_9, c_19, n_27])).symm)]
  exact key_4 (k.2 0) 0 (by omega) ls (lv_sub hl [2, 3, 1, 0] rfl)

set_option maxHeartbeats 4000000 in
set_option maxRecDepth 100000 in
theorem m_X9_countAlike {X : Cx} {l : Launch} (h0 : Init X) {a N : Nat} {F : Nat → Int32} (n : Nat) (hn : n ≤ N) (hN : N < 1000) (g : Int32) : PM X l yX9_countAlike cX9_countAlike 5 (some .int) 0 0 [.ref a, .int (nI n), .int g] (va_P X.D vwCl [(a, .inl (X.cI, N, .inl F))]) (.int (nI (cN (fun z => decide (F z = g)) n))) := by
  refine Met.mk (Bh := va_P X.D vwCl [(a, .inl (X.cI, N, .inl F))]) (by decide) (Nat.le_of_ble_eq_true rfl) ?_
  intro p e s m below meth c ls hF hB hl
  have hl : lv_has ls 5 [(0, .ref a), (1, .int (nI n)), (2, .int g)] := hl
  obtain ⟨hx, hb, hml, hr, hlk, hown, hG⟩ := id hF
  have hK := hG.K h0
  have hS : va_S noA s.heap s.heap [] := va_S.rf
  refine lv_iconst (v := 0) hx hb dX9_countAlike_0 (by decide) ?_
  refine lv_istore_n (lv' := [(3, .int 0), (0, .ref a), (1, .int (nI n)), (2, .int g)]) hx hb dX9_countAlike_1 rfl hl (by decide) rfl (fun ls hl => ?_)
  refine lv_iconst (v := 0) hx hb dX9_countAlike_2 (by decide) ?_
  refine lv_istore (lv' := [(4, .int 0), (3, .int 0), (0, .ref a), (1, .int (nI n)), (2, .int g)]) hx hb dX9_countAlike_3 hl (by decide) rfl (fun ls hl => ?_)
  have key_5 : ∀ (nf j : Nat), j + nf = n → ∀ (ls : Array Slot), lv_has ls 5 [(0, .ref a), (1, .int (nI n)), (2, .int g), (3, .int (nI (cN (fun z => decide (F z = g)) j))), (4, .int (nI j))] → W p l e ({ frames := 0, cells := 0, slots := 0, locals := 0 } : Room) s m ([.ref a, .int (nI n), .int g] : List Value).toArray below meth c s.heap [] 0 0 (MQ below (qP (.int (nI (cN (fun z => decide (F z = g)) n)))) ([.ref a, .int (nI n), .int g] : List Value).toArray s 0 0 noA) (F0 m 5 ls []) := by
    intro nf
    induction nf with
    | zero =>
      intro j hj ls hl
      have hj_e : j = n := by omega
      refine lv_iload hx hb dX9_countAlike_5 (lv_at hl 4 rfl) ?_
      refine lv_iload_n hx hb dX9_countAlike_7 rfl (lv_at hl 1 rfl) ?_
      refine lv_icmp_ge (tgt := 35) hx hb dX9_countAlike_8 (by decide) (fun c_8 => ?_) (fun c_8 => absurd (nI_le (a := n) (b := j) (by omega) (by omega)) c_8)
      have n_8 := Int32.not_lt.mpr c_8
      refine lv_iload_n hx hb dX9_countAlike_35 rfl (lv_at hl 3 rfl) ?_
      exact pm_iret hF dX9_countAlike_36 (by rw [hj_e])
    | succ nf ih_5 =>
      intro j hj ls hl
      have hj_l : j < n := by omega
      refine lv_iload hx hb dX9_countAlike_5 (lv_at hl 4 rfl) ?_
      refine lv_iload_n hx hb dX9_countAlike_7 rfl (lv_at hl 1 rfl) ?_
      refine lv_icmp_ge (tgt := 35) hx hb dX9_countAlike_8 (by decide) (fun c_8 => absurd c_8 (nI_ge (a := j) (b := n) (by omega) (by omega))) (fun c_8 => ?_)
      have n_8 := Int32.not_le.mp c_8
      refine lv_iload hx hb dX9_countAlike_11 (lv_at hl 4 rfl) ?_
      refine lv_aload_n hx hb dX9_countAlike_13 rfl (lv_at hl 0 rfl) ?_
      refine va_alen hx hb hK hB 0 0 rfl rfl (v := nI N) rfl dX9_countAlike_14 ?_
      refine lv_icmp_ge (tgt := 35) hx hb dX9_countAlike_15 (by decide) (fun c_15 => absurd c_15 (nI_ge (a := j) (b := N) (by omega) (by omega))) (fun c_15 => ?_)
      have n_15 := Int32.not_le.mp c_15
      refine lv_aload_n hx hb dX9_countAlike_18 rfl (lv_at hl 0 rfl) ?_
      refine lv_iload hx hb dX9_countAlike_19 (lv_at hl 4 rfl) ?_
      refine g_iald hx hb hK hB 0 0 rfl rfl j (rfl) (by omega) (by omega) dX9_countAlike_21 ?_
      refine lv_iload_n hx hb dX9_countAlike_22 rfl (lv_at hl 2 rfl) ?_
      refine lv_icmp_ne (tgt := 29) hx hb dX9_countAlike_23 (by decide) (fun c_23 => ?_) (fun c_23 => ?_)
      · refine lv_iinc (v := nI (j + 1)) (lv' := [(4, .int (nI (j + 1))), (0, .ref a), (1, .int (nI n)), (2, .int g), (3, .int (nI (cN (fun z => decide (F z = g)) j)))]) hx hb dX9_countAlike_29 hl (k := 4) rfl (nI_1 j) (by decide) rfl (fun ls hl => ?_)
        refine lv_goto (tgt := 5) hx hb dX9_countAlike_32 (by decide) ?_
        refine ih_5 (j + 1) (by omega) ls (lv_eqv (lv_sub (l' := [(0, .ref a), (1, .int (nI n)), (2, .int g), (3, .int (nI (cN (fun z => decide (F z = g)) j))), (4, .int (nI (j + 1)))]) hl [1, 2, 3, 4, 0] rfl) ?_)
        rw [show (nI (cN (fun z => decide (F z = g)) j)) = (nI (cN (fun z => decide (F z = g)) (j + 1))) from (congrArg nI (cN_f (by simp [c_8, n_8, c_15, n_15, c_23])).symm)]
      · refine lv_iinc (v := nI ((cN (fun z => decide (F z = g)) j) + 1)) (lv' := [(3, .int (nI ((cN (fun z => decide (F z = g)) j) + 1))), (0, .ref a), (1, .int (nI n)), (2, .int g), (4, .int (nI j))]) hx hb dX9_countAlike_26 hl (k := 3) rfl (nI_1 (cN (fun z => decide (F z = g)) j)) (by decide) rfl (fun ls hl => ?_)
        refine lv_iinc (v := nI (j + 1)) (lv' := [(4, .int (nI (j + 1))), (3, .int (nI ((cN (fun z => decide (F z = g)) j) + 1))), (0, .ref a), (1, .int (nI n)), (2, .int g)]) hx hb dX9_countAlike_29 hl (k := 4) rfl (nI_1 j) (by decide) rfl (fun ls hl => ?_)
        refine lv_goto (tgt := 5) hx hb dX9_countAlike_32 (by decide) ?_
        refine ih_5 (j + 1) (by omega) ls (lv_eqv (lv_sub (l' := [(0, .ref a), (1, .int (nI n)), (2, .int g), (3, .int (nI ((cN (fun z => decide (F z = g)) j) + 1))), (4, .int (nI (j + 1)))]) hl [2, 3, 4, 1, 0] rfl) ?_)
        rw [show (nI ((cN (fun z => decide (F z = g)) j) + 1)) = (nI (cN (fun z => decide (F z = g)) (j + 1))) from (congrArg nI (cN_t (by simp [c_8, n_8, c_15, n_15, c_23])).symm)]
  exact key_5 (n) 0 (by omega) ls (lv_sub hl [2, 3, 4, 1, 0] rfl)

set_option maxHeartbeats 4000000 in
set_option maxRecDepth 100000 in
theorem m_X9_sum {X : Cx} {l : Launch} (h0 : Init X) {a N : Nat} {F : Nat → Int32} (n : Nat) (hn : n ≤ N) (hN : N < 1000)  : PM X l yX9_sum cX9_sum 4 (some .int) 0 0 [.ref a, .int (nI n)] (va_P X.D vwCl [(a, .inl (X.cI, N, .inl F))]) (.int (sI F n)) := by
  refine Met.mk (Bh := va_P X.D vwCl [(a, .inl (X.cI, N, .inl F))]) (by decide) (Nat.le_of_ble_eq_true rfl) ?_
  intro p e s m below meth c ls hF hB hl
  have hl : lv_has ls 4 [(0, .ref a), (1, .int (nI n))] := hl
  obtain ⟨hx, hb, hml, hr, hlk, hown, hG⟩ := id hF
  have hK := hG.K h0
  have hS : va_S noA s.heap s.heap [] := va_S.rf
  refine lv_iconst (v := 0) hx hb dX9_sum_0 (by decide) ?_
  refine lv_istore_n (lv' := [(2, .int 0), (0, .ref a), (1, .int (nI n))]) hx hb dX9_sum_1 rfl hl (by decide) rfl (fun ls hl => ?_)
  refine lv_iconst (v := 0) hx hb dX9_sum_2 (by decide) ?_
  refine lv_istore_n (lv' := [(3, .int 0), (2, .int 0), (0, .ref a), (1, .int (nI n))]) hx hb dX9_sum_3 rfl hl (by decide) rfl (fun ls hl => ?_)
  have key_4 : ∀ (nf j : Nat), j + nf = n → ∀ (ls : Array Slot), lv_has ls 4 [(0, .ref a), (1, .int (nI n)), (2, .int (sI F j)), (3, .int (nI j))] → W p l e ({ frames := 0, cells := 0, slots := 0, locals := 0 } : Room) s m ([.ref a, .int (nI n)] : List Value).toArray below meth c s.heap [] 0 0 (MQ below (qP (.int (sI F n))) ([.ref a, .int (nI n)] : List Value).toArray s 0 0 noA) (F0 m 4 ls []) := by
    intro nf
    induction nf with
    | zero =>
      intro j hj ls hl
      have hj_e : j = n := by omega
      refine lv_iload_n hx hb dX9_sum_4 rfl (lv_at hl 3 rfl) ?_
      refine lv_iload_n hx hb dX9_sum_5 rfl (lv_at hl 1 rfl) ?_
      refine lv_icmp_ge (tgt := 27) hx hb dX9_sum_6 (by decide) (fun c_6 => ?_) (fun c_6 => absurd (nI_le (a := n) (b := j) (by omega) (by omega)) c_6)
      have n_6 := Int32.not_lt.mpr c_6
      refine lv_iload_n hx hb dX9_sum_27 rfl (lv_at hl 2 rfl) ?_
      exact pm_iret hF dX9_sum_28 (by rw [hj_e])
    | succ nf ih_4 =>
      intro j hj ls hl
      have hj_l : j < n := by omega
      refine lv_iload_n hx hb dX9_sum_4 rfl (lv_at hl 3 rfl) ?_
      refine lv_iload_n hx hb dX9_sum_5 rfl (lv_at hl 1 rfl) ?_
      refine lv_icmp_ge (tgt := 27) hx hb dX9_sum_6 (by decide) (fun c_6 => absurd c_6 (nI_ge (a := j) (b := n) (by omega) (by omega))) (fun c_6 => ?_)
      have n_6 := Int32.not_le.mp c_6
      refine lv_iload_n hx hb dX9_sum_9 rfl (lv_at hl 3 rfl) ?_
      refine lv_aload_n hx hb dX9_sum_10 rfl (lv_at hl 0 rfl) ?_
      refine va_alen hx hb hK hB 0 0 rfl rfl (v := nI N) rfl dX9_sum_11 ?_
      refine lv_icmp_ge (tgt := 27) hx hb dX9_sum_12 (by decide) (fun c_12 => absurd c_12 (nI_ge (a := j) (b := N) (by omega) (by omega))) (fun c_12 => ?_)
      have n_12 := Int32.not_le.mp c_12
      refine lv_iload_n hx hb dX9_sum_15 rfl (lv_at hl 2 rfl) ?_
      refine lv_aload_n hx hb dX9_sum_16 rfl (lv_at hl 0 rfl) ?_
      refine lv_iload_n hx hb dX9_sum_17 rfl (lv_at hl 3 rfl) ?_
      refine g_iald hx hb hK hB 0 0 rfl rfl j (rfl) (by omega) (by omega) dX9_sum_18 ?_
      refine lv_iadd hx hb dX9_sum_19 ?_
      refine lv_istore_n (lv' := [(2, .int ((sI F j) + (F j))), (0, .ref a), (1, .int (nI n)), (3, .int (nI j))]) hx hb dX9_sum_20 rfl hl (by decide) rfl (fun ls hl => ?_)
      refine lv_iinc (v := nI (j + 1)) (lv' := [(3, .int (nI (j + 1))), (2, .int ((sI F j) + (F j))), (0, .ref a), (1, .int (nI n))]) hx hb dX9_sum_21 hl (k := 3) rfl (nI_1 j) (by decide) rfl (fun ls hl => ?_)
      refine lv_goto (tgt := 4) hx hb dX9_sum_24 (by decide) ?_
      refine ih_4 (j + 1) (by omega) ls (lv_eqv (lv_sub (l' := [(0, .ref a), (1, .int (nI n)), (2, .int ((sI F j) + (F j))), (3, .int (nI (j + 1)))]) hl [2, 3, 1, 0] rfl) ?_)
      rw [show ((sI F j) + (F j)) = (sI F (j + 1)) from (rfl)]
  exact key_4 (n) 0 (by omega) ls (lv_sub hl [2, 3, 1, 0] rfl)

set_option maxHeartbeats 4000000 in
set_option maxRecDepth 100000 in
theorem m_X9_isWithin {X : Cx} {l : Launch} (h0 : Init X) (x a b : Int32) : PM X l yX9_isWithin cX9_isWithin 3 (some .boolean) 0 0 [.int x, .int a, .int b] noW (.int (bI (winB x a b))) := by
  refine Met.mk (Bh := noW) (by decide) (Nat.le_of_ble_eq_true rfl) ?_
  intro p e s m below meth c ls hF hB hl
  have hl : lv_has ls 3 [(0, .int x), (1, .int a), (2, .int b)] := hl
  obtain ⟨hx, hb, hml, hr, hlk, hown, hG⟩ := id hF
  have hK := hG.K h0
  have hS : va_S noA s.heap s.heap [] := va_S.rf
  refine lv_iload_n hx hb dX9_isWithin_0 rfl (lv_at hl 0 rfl) ?_
  refine lv_iload_n hx hb dX9_isWithin_1 rfl (lv_at hl 1 rfl) ?_
  refine lv_icmp_lt (tgt := 14) hx hb dX9_isWithin_2 (by decide) (fun c_2 => ?_) (fun c_2 => ?_)
  · have n_2 := Int32.not_le.mpr c_2
    refine lv_iconst (v := 0) hx hb dX9_isWithin_14 (by decide) ?_
    exact pm_zret hF dX9_isWithin_15 rfl (by simp [bI, winB, c_2, n_2])
  · have n_2 := Int32.not_lt.mp c_2
    refine lv_iload_n hx hb dX9_isWithin_5 rfl (lv_at hl 0 rfl) ?_
    refine lv_iload_n hx hb dX9_isWithin_6 rfl (lv_at hl 2 rfl) ?_
    refine lv_icmp_gt (tgt := 14) hx hb dX9_isWithin_7 (by decide) (fun c_7 => ?_) (fun c_7 => ?_)
    · have n_7 := Int32.not_le.mpr c_7
      refine lv_iconst (v := 0) hx hb dX9_isWithin_14 (by decide) ?_
      exact pm_zret hF dX9_isWithin_15 rfl (by simp [bI, winB, c_2, n_2, c_7, n_7])
    · have n_7 := Int32.not_lt.mp c_7
      refine lv_iconst (v := 1) hx hb dX9_isWithin_10 (by decide) ?_
      refine lv_goto (tgt := 15) hx hb dX9_isWithin_11 (by decide) ?_
      exact pm_zret hF dX9_isWithin_15 rfl (by simp [bI, winB, c_2, n_2, c_7, n_7])

set_option maxHeartbeats 4000000 in
set_option maxRecDepth 100000 in
theorem m_X9_isSector {X : Cx} {l : Launch} (h0 : Init X) (x : Int32) : PM X l yX9_isSector cX9_isSector 1 (some .boolean) 1 22 [.int x] noW (.int (bI (winB x 0 3))) := by
  refine Met.mk (Bh := noW) (by decide) (Nat.le_of_ble_eq_true rfl) ?_
  intro p e s m below meth c ls hF hB hl
  have hl : lv_has ls 1 [(0, .int x)] := hl
  obtain ⟨hx, hb, hml, hr, hlk, hown, hG⟩ := id hF
  have hK := hG.K h0
  have hS : va_S noA s.heap s.heap [] := va_S.rf
  refine lv_iload_n hx hb dX9_isSector_0 rfl (lv_at hl 0 rfl) ?_
  refine lv_iconst (v := 0) hx hb dX9_isSector_1 (by decide) ?_
  refine lv_iconst (v := 3) hx hb dX9_isSector_2 (by decide) ?_
  refine core_p (grS (n := 3) (As := [.int x, .int 0, .int 3]) (rest := []) h0 hF (m_X9_isWithin h0 x 0 3) wm_X9_69 wt_X9_isWithin wz_X9 wc_X9_isWithin ⟨by decide, by decide, by decide +kernel⟩ rfl ⟨Nat.le_of_ble_eq_true rfl, Nat.le_of_ble_eq_true rfl⟩ trivial hS noA_old ⟨Nat.zero_le _, Nat.zero_le _⟩ hl.1 rfl (Nat.le_of_ble_eq_true rfl) dX9_isSector_3) ?_
  exact pm_zret hF dX9_isSector_6 (bI_nar _) (rfl)

set_option maxHeartbeats 4000000 in
set_option maxRecDepth 100000 in
theorem m_X6_countOfBrightness {X : Cx} {l : Launch} (h0 : Init X) {f : Nat → Nat} {k : Sk} (hO : Ok k)  (g b : Int32) : PM X l yX6_countOfBrightness cX6_countOfBrightness 5 (some .int) 0 0 [.ref (f 1), .int g, .int b] (va_P X.D vwCl (skW X f k)) (.int (nI (cBr k g b))) := by
  refine Met.mk (Bh := va_P X.D vwCl (skW X f k)) (by decide) (Nat.le_of_ble_eq_true rfl) ?_
  intro p e s m below meth c ls hF hB hl
  have hl : lv_has ls 5 [(0, .ref (f 1)), (1, .int g), (2, .int b)] := hl
  obtain ⟨hx, hb, hml, hr, hlk, hown, hG⟩ := id hF
  have hK := hG.K h0
  have hS : va_S noA s.heap s.heap [] := va_S.rf
  have hO1 := hO.1
  have hO2 := hO.2.1
  have hO3 := hO.2.2.1
  refine lv_iconst (v := 0) hx hb dX6_countOfBrightness_0 (by decide) ?_
  refine lv_istore_n (lv' := [(3, .int 0), (0, .ref (f 1)), (1, .int g), (2, .int b)]) hx hb dX6_countOfBrightness_1 rfl hl (by decide) rfl (fun ls hl => ?_)
  refine lv_iconst (v := 0) hx hb dX6_countOfBrightness_2 (by decide) ?_
  refine lv_istore (lv' := [(4, .int 0), (3, .int 0), (0, .ref (f 1)), (1, .int g), (2, .int b)]) hx hb dX6_countOfBrightness_3 hl (by decide) rfl (fun ls hl => ?_)
  have key_5 : ∀ (nf j : Nat), j + nf = k.2 0 → ∀ (ls : Array Slot), lv_has ls 5 [(0, .ref (f 1)), (1, .int g), (2, .int b), (3, .int (nI (cN (fun z => decide (k.1 1 z = g) && decide (k.1 0 z = b)) j))), (4, .int (nI j))] → W p l e ({ frames := 0, cells := 0, slots := 0, locals := 0 } : Room) s m ([.ref (f 1), .int g, .int b] : List Value).toArray below meth c s.heap [] 0 0 (MQ below (qP (.int (nI (cBr k g b)))) ([.ref (f 1), .int g, .int b] : List Value).toArray s 0 0 noA) (F0 m 5 ls []) := by
    intro nf
    induction nf with
    | zero =>
      intro j hj ls hl
      have hj_e : j = k.2 0 := by omega
      refine lv_iload hx hb dX6_countOfBrightness_5 (lv_at hl 4 rfl) ?_
      refine lv_aload_n hx hb dX6_countOfBrightness_7 rfl (lv_at hl 0 rfl) ?_
      refine g_get (ci := 5) (v := .int (nI (k.2 0))) h0 hF inX6 hB 1 rfl rfl 0 (by decide) wf_X6_27 rfl rfl dX6_countOfBrightness_8 ?_
      refine lv_icmp_ge (tgt := 45) hx hb dX6_countOfBrightness_11 (by decide) (fun c_11 => ?_) (fun c_11 => absurd (nI_le (a := k.2 0) (b := j) (by omega) (by omega)) c_11)
      have n_11 := Int32.not_lt.mpr c_11
      refine lv_iload_n hx hb dX6_countOfBrightness_45 rfl (lv_at hl 3 rfl) ?_
      exact pm_iret hF dX6_countOfBrightness_46 (by rw [hj_e]; rfl)
    | succ nf ih_5 =>
      intro j hj ls hl
      have hj_l : j < k.2 0 := by omega
      refine lv_iload hx hb dX6_countOfBrightness_5 (lv_at hl 4 rfl) ?_
      refine lv_aload_n hx hb dX6_countOfBrightness_7 rfl (lv_at hl 0 rfl) ?_
      refine g_get (ci := 5) (v := .int (nI (k.2 0))) h0 hF inX6 hB 1 rfl rfl 0 (by decide) wf_X6_27 rfl rfl dX6_countOfBrightness_8 ?_
      refine lv_icmp_ge (tgt := 45) hx hb dX6_countOfBrightness_11 (by decide) (fun c_11 => absurd c_11 (nI_ge (a := j) (b := k.2 0) (by omega) (by omega))) (fun c_11 => ?_)
      have n_11 := Int32.not_le.mp c_11
      refine lv_aload_n hx hb dX6_countOfBrightness_14 rfl (lv_at hl 0 rfl) ?_
      refine g_get (ci := 5) (v := .ref (f 5)) h0 hF inX6 hB 1 rfl rfl 2 (by decide) wf_X6_15 rfl rfl dX6_countOfBrightness_15 ?_
      refine lv_iload hx hb dX6_countOfBrightness_18 (lv_at hl 4 rfl) ?_
      refine g_iald hx hb hK hB 5 0 rfl rfl j (rfl) (by omega) (by decide) dX6_countOfBrightness_20 ?_
      refine lv_iload_n hx hb dX6_countOfBrightness_21 rfl (lv_at hl 1 rfl) ?_
      refine lv_icmp_ne (tgt := 39) hx hb dX6_countOfBrightness_22 (by decide) (fun c_22 => ?_) (fun c_22 => ?_)
      · refine lv_iinc (v := nI (j + 1)) (lv' := [(4, .int (nI (j + 1))), (0, .ref (f 1)), (1, .int g), (2, .int b), (3, .int (nI (cN (fun z => decide (k.1 1 z = g) && decide (k.1 0 z = b)) j)))]) hx hb dX6_countOfBrightness_39 hl (k := 4) rfl (nI_1 j) (by decide) rfl (fun ls hl => ?_)
        refine lv_goto (tgt := 5) hx hb dX6_countOfBrightness_42 (by decide) ?_
        refine ih_5 (j + 1) (by omega) ls (lv_eqv (lv_sub (l' := [(0, .ref (f 1)), (1, .int g), (2, .int b), (3, .int (nI (cN (fun z => decide (k.1 1 z = g) && decide (k.1 0 z = b)) j))), (4, .int (nI (j + 1)))]) hl [1, 2, 3, 4, 0] rfl) ?_)
        rw [show (nI (cN (fun z => decide (k.1 1 z = g) && decide (k.1 0 z = b)) j)) = (nI (cN (fun z => decide (k.1 1 z = g) && decide (k.1 0 z = b)) (j + 1))) from (congrArg nI (cN_f (by simp [c_11, n_11, c_22])).symm)]
      · refine lv_aload_n hx hb dX6_countOfBrightness_25 rfl (lv_at hl 0 rfl) ?_
        refine g_get (ci := 5) (v := .ref (f 4)) h0 hF inX6 hB 1 rfl rfl 1 (by decide) wf_X6_9 rfl rfl dX6_countOfBrightness_26 ?_
        refine lv_iload hx hb dX6_countOfBrightness_29 (lv_at hl 4 rfl) ?_
        refine g_iald hx hb hK hB 4 0 rfl rfl j (rfl) (by omega) (by decide) dX6_countOfBrightness_31 ?_
        refine lv_iload_n hx hb dX6_countOfBrightness_32 rfl (lv_at hl 2 rfl) ?_
        refine lv_icmp_ne (tgt := 39) hx hb dX6_countOfBrightness_33 (by decide) (fun c_33 => ?_) (fun c_33 => ?_)
        · refine lv_iinc (v := nI (j + 1)) (lv' := [(4, .int (nI (j + 1))), (0, .ref (f 1)), (1, .int g), (2, .int b), (3, .int (nI (cN (fun z => decide (k.1 1 z = g) && decide (k.1 0 z = b)) j)))]) hx hb dX6_countOfBrightness_39 hl (k := 4) rfl (nI_1 j) (by decide) rfl (fun ls hl => ?_)
          refine lv_goto (tgt := 5) hx hb dX6_countOfBrightness_42 (by decide) ?_
          refine ih_5 (j + 1) (by omega) ls (lv_eqv (lv_sub (l' := [(0, .ref (f 1)), (1, .int g), (2, .int b), (3, .int (nI (cN (fun z => decide (k.1 1 z = g) && decide (k.1 0 z = b)) j))), (4, .int (nI (j + 1)))]) hl [1, 2, 3, 4, 0] rfl) ?_)
          rw [show (nI (cN (fun z => decide (k.1 1 z = g) && decide (k.1 0 z = b)) j)) = (nI (cN (fun z => decide (k.1 1 z = g) && decide (k.1 0 z = b)) (j + 1))) from (congrArg nI (cN_f (by simp [c_11, n_11, c_22, c_33])).symm)]
        · refine lv_iinc (v := nI ((cN (fun z => decide (k.1 1 z = g) && decide (k.1 0 z = b)) j) + 1)) (lv' := [(3, .int (nI ((cN (fun z => decide (k.1 1 z = g) && decide (k.1 0 z = b)) j) + 1))), (0, .ref (f 1)), (1, .int g), (2, .int b), (4, .int (nI j))]) hx hb dX6_countOfBrightness_36 hl (k := 3) rfl (nI_1 (cN (fun z => decide (k.1 1 z = g) && decide (k.1 0 z = b)) j)) (by decide) rfl (fun ls hl => ?_)
          refine lv_iinc (v := nI (j + 1)) (lv' := [(4, .int (nI (j + 1))), (3, .int (nI ((cN (fun z => decide (k.1 1 z = g) && decide (k.1 0 z = b)) j) + 1))), (0, .ref (f 1)), (1, .int g), (2, .int b)]) hx hb dX6_countOfBrightness_39 hl (k := 4) rfl (nI_1 j) (by decide) rfl (fun ls hl => ?_)
          refine lv_goto (tgt := 5) hx hb dX6_countOfBrightness_42 (by decide) ?_
          refine ih_5 (j + 1) (by omega) ls (lv_eqv (lv_sub (l' := [(0, .ref (f 1)), (1, .int g), (2, .int b), (3, .int (nI ((cN (fun z => decide (k.1 1 z = g) && decide (k.1 0 z = b)) j) + 1))), (4, .int (nI (j + 1)))]) hl [2, 3, 4, 1, 0] rfl) ?_)
          rw [show (nI ((cN (fun z => decide (k.1 1 z = g) && decide (k.1 0 z = b)) j) + 1)) = (nI (cN (fun z => decide (k.1 1 z = g) && decide (k.1 0 z = b)) (j + 1))) from (congrArg nI (cN_t (by simp [c_11, n_11, c_22, c_33])).symm)]
  exact key_5 (k.2 0) 0 (by omega) ls (lv_sub hl [2, 3, 4, 1, 0] rfl)

set_option maxHeartbeats 4000000 in
set_option maxRecDepth 100000 in
theorem m_X6_countSeenByBrightness {X : Cx} {l : Launch} (h0 : Init X) {f : Nat → Nat} {k : Sk} (hO : Ok k) (hC : Okc k) (x : Int32) (g : Nat) (hxg : x = nI g) (hg : g < 4) : PM X l yX6_countSeenByBrightness cX6_countSeenByBrightness 4 (some .int) 1 24 [.ref (f 1), .int x] (va_P X.D vwCl (skW X f k)) (.int (nI (gS (fun b => cBr k (nI g) (nI b)) (cl k g + 1) (9 - cl k g)))) := by
  subst hxg
  refine Met.mk (Bh := va_P X.D vwCl (skW X f k)) (by decide) (Nat.le_of_ble_eq_true rfl) ?_
  intro p e s m below meth c ls hF hB hl
  have hl : lv_has ls 4 [(0, .ref (f 1)), (1, .int (nI g))] := hl
  obtain ⟨hx, hb, hml, hr, hlk, hown, hG⟩ := id hF
  have hK := hG.K h0
  have hS : va_S noA s.heap s.heap [] := va_S.rf
  have hO1 := hO.1
  have hO2 := hO.2.1
  have hO3 := hO.2.2.1
  have hC2 := (hC g hg).2
  refine lv_iconst (v := 0) hx hb dX6_countSeenByBrightness_0 (by decide) ?_
  refine lv_istore_n (lv' := [(2, .int 0), (0, .ref (f 1)), (1, .int (nI g))]) hx hb dX6_countSeenByBrightness_1 rfl hl (by decide) rfl (fun ls hl => ?_)
  refine lv_aload_n hx hb dX6_countSeenByBrightness_2 rfl (lv_at hl 1 rfl) ?_
  refine g_get (ci := 5) (v := .ref (f 8)) h0 hF inX6 hB 1 rfl rfl 5 (by decide) wf_X6_24 rfl rfl dX6_countSeenByBrightness_3 ?_
  refine lv_iload_n hx hb dX6_countSeenByBrightness_6 rfl (lv_at hl 2 rfl) ?_
  refine g_iald hx hb hK hB 8 0 rfl rfl g (rfl) (by omega) (by decide) dX6_countSeenByBrightness_7 ?_
  refine lv_iconst (v := 1) hx hb dX6_countSeenByBrightness_8 (by decide) ?_
  refine lv_iadd hx hb dX6_countSeenByBrightness_9 ?_
  refine lv_topE (y := nI (cl k g + 1)) (by rw [(hC g hg).1]; exact nI_1 _) ?_
  refine lv_istore_n (lv' := [(3, .int (nI (cl k g + 1))), (2, .int 0), (0, .ref (f 1)), (1, .int (nI g))]) hx hb dX6_countSeenByBrightness_10 rfl hl (by decide) rfl (fun ls hl => ?_)
  have key_11 : ∀ (nf j : Nat), j + nf = 9 - cl k g → ∀ (ls : Array Slot), lv_has ls 4 [(0, .ref (f 1)), (1, .int (nI g)), (2, .int (nI (gS (fun b => cBr k (nI g) (nI b)) (cl k g + 1) j))), (3, .int (nI (cl k g + 1 + j)))] → W p l e ({ frames := 1, cells := 0, slots := 0, locals := 24 } : Room) s m ([.ref (f 1), .int (nI g)] : List Value).toArray below meth c s.heap [] 0 0 (MQ below (qP (.int (nI (gS (fun b => cBr k (nI g) (nI b)) (cl k g + 1) (9 - cl k g))))) ([.ref (f 1), .int (nI g)] : List Value).toArray s 0 0 noA) (F0 m 11 ls []) := by
    intro nf
    induction nf with
    | zero =>
      intro j hj ls hl
      have hj_e : j = 9 - cl k g := by omega
      refine lv_iload_n hx hb dX6_countSeenByBrightness_11 rfl (lv_at hl 3 rfl) ?_
      refine lv_bipush (v := 9) hx hb dX6_countSeenByBrightness_12 (by decide) ?_
      refine lv_icmp_gt (tgt := 32) hx hb dX6_countSeenByBrightness_14 (by decide) (fun c_14 => ?_) (fun c_14 => absurd (nI_lt (a := 9) (b := cl k g + 1 + j) (by omega) (by omega)) c_14)
      have n_14 := Int32.not_le.mpr c_14
      refine lv_iload_n hx hb dX6_countSeenByBrightness_32 rfl (lv_at hl 2 rfl) ?_
      exact pm_iret hF dX6_countSeenByBrightness_33 (by rw [hj_e])
    | succ nf ih_11 =>
      intro j hj ls hl
      have hj_l : j < 9 - cl k g := by omega
      refine lv_iload_n hx hb dX6_countSeenByBrightness_11 rfl (lv_at hl 3 rfl) ?_
      refine lv_bipush (v := 9) hx hb dX6_countSeenByBrightness_12 (by decide) ?_
      refine lv_icmp_gt (tgt := 32) hx hb dX6_countSeenByBrightness_14 (by decide) (fun c_14 => absurd c_14 (nI_nlt (a := 9) (b := cl k g + 1 + j) (by omega) (by omega))) (fun c_14 => ?_)
      have n_14 := Int32.not_lt.mp c_14
      refine lv_iload_n hx hb dX6_countSeenByBrightness_17 rfl (lv_at hl 2 rfl) ?_
      refine lv_aload_n hx hb dX6_countSeenByBrightness_18 rfl (lv_at hl 0 rfl) ?_
      refine lv_iload_n hx hb dX6_countSeenByBrightness_19 rfl (lv_at hl 1 rfl) ?_
      refine lv_iload_n hx hb dX6_countSeenByBrightness_20 rfl (lv_at hl 3 rfl) ?_
      refine core_p (grV (n := 2) (As := [.int (nI g), .int (nI (cl k g + 1 + j))]) (rest := [.int (nI (gS (fun b => cBr k (nI g) (nI b)) (cl k g + 1) j))]) h0 hF (m_X6_countOfBrightness h0 (f := f) (k := k) hO  (nI g) (nI (cl k g + 1 + j))) wm_X6_39 wo_X6_countOfBrightness ws_X6__X6_countOfBrightness wz_X6 wc_X6_countOfBrightness ⟨by decide, by decide, by decide +kernel⟩ rfl ⟨Nat.le_of_ble_eq_true rfl, Nat.le_of_ble_eq_true rfl⟩ (ci := 5) ⟨_, hB 1 _ rfl⟩ rfl hB hS noA_old ⟨Nat.zero_le _, Nat.zero_le _⟩ hl.1 rfl (Nat.le_of_ble_eq_true rfl) dX6_countSeenByBrightness_21) ?_
      refine lv_iadd hx hb dX6_countSeenByBrightness_24 ?_
      refine lv_topE (y := nI (gS (fun b => cBr k (nI g) (nI b)) (cl k g + 1) (j + 1))) ((nI_add _ _)) ?_
      refine lv_istore_n (lv' := [(2, .int (nI (gS (fun b => cBr k (nI g) (nI b)) (cl k g + 1) (j + 1)))), (0, .ref (f 1)), (1, .int (nI g)), (3, .int (nI (cl k g + 1 + j)))]) hx hb dX6_countSeenByBrightness_25 rfl hl (by decide) rfl (fun ls hl => ?_)
      refine lv_iinc (v := nI (cl k g + 1 + (j + 1))) (lv' := [(3, .int (nI (cl k g + 1 + (j + 1)))), (2, .int (nI (gS (fun b => cBr k (nI g) (nI b)) (cl k g + 1) (j + 1)))), (0, .ref (f 1)), (1, .int (nI g))]) hx hb dX6_countSeenByBrightness_26 hl (k := 3) rfl (nI_1 _) (by decide) rfl (fun ls hl => ?_)
      refine lv_goto (tgt := 11) hx hb dX6_countSeenByBrightness_29 (by decide) ?_
      refine ih_11 (j + 1) (by omega) ls (lv_eqv (lv_sub (l' := [(0, .ref (f 1)), (1, .int (nI g)), (2, .int (nI (gS (fun b => cBr k (nI g) (nI b)) (cl k g + 1) (j + 1)))), (3, .int (nI (cl k g + 1 + (j + 1))))]) hl [2, 3, 1, 0] rfl) ?_)
      rfl
  exact key_11 (9 - cl k g) 0 (by omega) ls (lv_sub hl [2, 3, 1, 0] rfl)

set_option maxHeartbeats 4000000 in
set_option maxRecDepth 100000 in
theorem m_X6_dawnsUntilAllSeen {X : Cx} {l : Launch} (h0 : Init X) {f : Nat → Nat} {k : Sk} (hO : Ok k)  (x : Int32) (g : Nat) (hxg : x = nI g) (hg : g < 4) : PM X l yX6_dawnsUntilAllSeen cX6_dawnsUntilAllSeen 4 (some .int) 1 13 [.ref (f 1), .int x] (va_P X.D vwCl (skW X f k)) (.int (dM k g (k.2 0))) := by
  subst hxg
  refine Met.mk (Bh := va_P X.D vwCl (skW X f k)) (by decide) (Nat.le_of_ble_eq_true rfl) ?_
  intro p e s m below meth c ls hF hB hl
  have hl : lv_has ls 4 [(0, .ref (f 1)), (1, .int (nI g))] := hl
  obtain ⟨hx, hb, hml, hr, hlk, hown, hG⟩ := id hF
  have hK := hG.K h0
  have hS : va_S noA s.heap s.heap [] := va_S.rf
  have hO1 := hO.1
  have hO2 := hO.2.1
  have hO3 := hO.2.2.1
  refine lv_iconst (v := 0) hx hb dX6_dawnsUntilAllSeen_0 (by decide) ?_
  refine lv_istore_n (lv' := [(2, .int 0), (0, .ref (f 1)), (1, .int (nI g))]) hx hb dX6_dawnsUntilAllSeen_1 rfl hl (by decide) rfl (fun ls hl => ?_)
  refine lv_iconst (v := 0) hx hb dX6_dawnsUntilAllSeen_2 (by decide) ?_
  refine lv_istore_n (lv' := [(3, .int 0), (2, .int 0), (0, .ref (f 1)), (1, .int (nI g))]) hx hb dX6_dawnsUntilAllSeen_3 rfl hl (by decide) rfl (fun ls hl => ?_)
  have key_4 : ∀ (nf j : Nat), j + nf = k.2 0 → ∀ (ls : Array Slot), lv_has ls 4 [(0, .ref (f 1)), (1, .int (nI g)), (2, .int (dM k g j)), (3, .int (nI j))] → W p l e ({ frames := 1, cells := 0, slots := 0, locals := 13 } : Room) s m ([.ref (f 1), .int (nI g)] : List Value).toArray below meth c s.heap [] 0 0 (MQ below (qP (.int (dM k g (k.2 0)))) ([.ref (f 1), .int (nI g)] : List Value).toArray s 0 0 noA) (F0 m 4 ls []) := by
    intro nf
    induction nf with
    | zero =>
      intro j hj ls hl
      have hj_e : j = k.2 0 := by omega
      refine lv_iload_n hx hb dX6_dawnsUntilAllSeen_4 rfl (lv_at hl 3 rfl) ?_
      refine lv_aload_n hx hb dX6_dawnsUntilAllSeen_5 rfl (lv_at hl 0 rfl) ?_
      refine g_get (ci := 5) (v := .int (nI (k.2 0))) h0 hF inX6 hB 1 rfl rfl 0 (by decide) wf_X6_27 rfl rfl dX6_dawnsUntilAllSeen_6 ?_
      refine lv_icmp_ge (tgt := 48) hx hb dX6_dawnsUntilAllSeen_9 (by decide) (fun c_9 => ?_) (fun c_9 => absurd (nI_le (a := k.2 0) (b := j) (by omega) (by omega)) c_9)
      have n_9 := Int32.not_lt.mpr c_9
      refine lv_iload_n hx hb dX6_dawnsUntilAllSeen_48 rfl (lv_at hl 2 rfl) ?_
      exact pm_iret hF dX6_dawnsUntilAllSeen_49 (by rw [hj_e])
    | succ nf ih_4 =>
      intro j hj ls hl
      have hj_l : j < k.2 0 := by omega
      refine lv_iload_n hx hb dX6_dawnsUntilAllSeen_4 rfl (lv_at hl 3 rfl) ?_
      refine lv_aload_n hx hb dX6_dawnsUntilAllSeen_5 rfl (lv_at hl 0 rfl) ?_
      refine g_get (ci := 5) (v := .int (nI (k.2 0))) h0 hF inX6 hB 1 rfl rfl 0 (by decide) wf_X6_27 rfl rfl dX6_dawnsUntilAllSeen_6 ?_
      refine lv_icmp_ge (tgt := 48) hx hb dX6_dawnsUntilAllSeen_9 (by decide) (fun c_9 => absurd c_9 (nI_ge (a := j) (b := k.2 0) (by omega) (by omega))) (fun c_9 => ?_)
      have n_9 := Int32.not_le.mp c_9
      refine lv_aload_n hx hb dX6_dawnsUntilAllSeen_12 rfl (lv_at hl 0 rfl) ?_
      refine g_get (ci := 5) (v := .ref (f 5)) h0 hF inX6 hB 1 rfl rfl 2 (by decide) wf_X6_15 rfl rfl dX6_dawnsUntilAllSeen_13 ?_
      refine lv_iload_n hx hb dX6_dawnsUntilAllSeen_16 rfl (lv_at hl 3 rfl) ?_
      refine g_iald hx hb hK hB 5 0 rfl rfl j (rfl) (by omega) (by decide) dX6_dawnsUntilAllSeen_17 ?_
      refine lv_iload_n hx hb dX6_dawnsUntilAllSeen_18 rfl (lv_at hl 1 rfl) ?_
      refine lv_icmp_ne (tgt := 42) hx hb dX6_dawnsUntilAllSeen_19 (by decide) (fun c_19 => ?_) (fun c_19 => ?_)
      · refine lv_iinc (v := nI (j + 1)) (lv' := [(3, .int (nI (j + 1))), (0, .ref (f 1)), (1, .int (nI g)), (2, .int (dM k g j))]) hx hb dX6_dawnsUntilAllSeen_42 hl (k := 3) rfl (nI_1 j) (by decide) rfl (fun ls hl => ?_)
        refine lv_goto (tgt := 4) hx hb dX6_dawnsUntilAllSeen_45 (by decide) ?_
        refine ih_4 (j + 1) (by omega) ls (lv_eqv (lv_sub (l' := [(0, .ref (f 1)), (1, .int (nI g)), (2, .int (dM k g j)), (3, .int (nI (j + 1)))]) hl [1, 2, 3, 0] rfl) ?_)
        rw [show (dM k g j) = (dM k g (j + 1)) from (by rw [dM]; simp only [c_9, n_9, c_19, if_true, if_false])]
      · refine lv_iload_n hx hb dX6_dawnsUntilAllSeen_22 rfl (lv_at hl 2 rfl) ?_
        refine lv_aload_n hx hb dX6_dawnsUntilAllSeen_23 rfl (lv_at hl 0 rfl) ?_
        refine g_get (ci := 5) (v := .ref (f 8)) h0 hF inX6 hB 1 rfl rfl 5 (by decide) wf_X6_24 rfl rfl dX6_dawnsUntilAllSeen_24 ?_
        refine lv_iload_n hx hb dX6_dawnsUntilAllSeen_27 rfl (lv_at hl 1 rfl) ?_
        refine g_iald hx hb hK hB 8 0 rfl rfl g (rfl) (by omega) (by decide) dX6_dawnsUntilAllSeen_28 ?_
        refine lv_aload_n hx hb dX6_dawnsUntilAllSeen_29 rfl (lv_at hl 0 rfl) ?_
        refine g_get (ci := 5) (v := .ref (f 4)) h0 hF inX6 hB 1 rfl rfl 1 (by decide) wf_X6_9 rfl rfl dX6_dawnsUntilAllSeen_30 ?_
        refine lv_iload_n hx hb dX6_dawnsUntilAllSeen_33 rfl (lv_at hl 3 rfl) ?_
        refine g_iald hx hb hK hB 4 0 rfl rfl j (rfl) (by omega) (by decide) dX6_dawnsUntilAllSeen_34 ?_
        refine lv_isub hx hb dX6_dawnsUntilAllSeen_35 ?_
        refine lv_iconst (v := 1) hx hb dX6_dawnsUntilAllSeen_36 (by decide) ?_
        refine lv_iadd hx hb dX6_dawnsUntilAllSeen_37 ?_
        refine va_mmax hx hb (by rw [hl.1]; exact hml) hown (hG.hts h0 _ _ wm_X6_43) (hG.hts h0 _ _ wt_J9_max_7cf53) (hG.hts h0 _ _ wz_J9) (hG.hts h0 _ _ wc_J9_max_7cf53) (Nat.le_of_ble_eq_true rfl) (Nat.le_of_ble_eq_true rfl) (Nat.zero_le _) (Nat.zero_le _) dX6_dawnsUntilAllSeen_38 ?_
        refine lv_istore_n (lv' := [(2, .int (if dM k g j < ((k.1 4 g) - (k.1 0 j)) + 1 then ((k.1 4 g) - (k.1 0 j)) + 1 else dM k g j)), (0, .ref (f 1)), (1, .int (nI g)), (3, .int (nI j))]) hx hb dX6_dawnsUntilAllSeen_41 rfl hl (by decide) rfl (fun ls hl => ?_)
        refine lv_iinc (v := nI (j + 1)) (lv' := [(3, .int (nI (j + 1))), (2, .int (if dM k g j < ((k.1 4 g) - (k.1 0 j)) + 1 then ((k.1 4 g) - (k.1 0 j)) + 1 else dM k g j)), (0, .ref (f 1)), (1, .int (nI g))]) hx hb dX6_dawnsUntilAllSeen_42 hl (k := 3) rfl (nI_1 j) (by decide) rfl (fun ls hl => ?_)
        refine lv_goto (tgt := 4) hx hb dX6_dawnsUntilAllSeen_45 (by decide) ?_
        refine ih_4 (j + 1) (by omega) ls (lv_eqv (lv_sub (l' := [(0, .ref (f 1)), (1, .int (nI g)), (2, .int (if dM k g j < ((k.1 4 g) - (k.1 0 j)) + 1 then ((k.1 4 g) - (k.1 0 j)) + 1 else dM k g j)), (3, .int (nI (j + 1)))]) hl [2, 3, 1, 0] rfl) ?_)
        rw [show (if dM k g j < ((k.1 4 g) - (k.1 0 j)) + 1 then ((k.1 4 g) - (k.1 0 j)) + 1 else dM k g j) = (dM k g (j + 1)) from (by rw [dM]; simp only [c_9, n_9, c_19, if_true, if_false])]
  exact key_4 (k.2 0) 0 (by omega) ls (lv_sub hl [2, 3, 1, 0] rfl)

set_option maxHeartbeats 4000000 in
set_option maxRecDepth 100000 in
theorem m_X6_countClaimed {X : Cx} {l : Launch} (h0 : Init X) {f : Nat → Nat} {k : Sk} (hO : Ok k)   : PM X l yX6_countClaimed cX6_countClaimed 1 (some .int) 1 24 [.ref (f 1)] (va_P X.D vwCl (skW X f k)) (.int (nI (k.2 0) - nI (cN (fun z => decide (k.1 2 z = -4)) (k.2 0)))) := by
  refine Met.mk (Bh := va_P X.D vwCl (skW X f k)) (by decide) (Nat.le_of_ble_eq_true rfl) ?_
  intro p e s m below meth c ls hF hB hl
  have hl : lv_has ls 1 [(0, .ref (f 1))] := hl
  obtain ⟨hx, hb, hml, hr, hlk, hown, hG⟩ := id hF
  have hK := hG.K h0
  have hS : va_S noA s.heap s.heap [] := va_S.rf
  have hO1 := hO.1
  have hO2 := hO.2.1
  have hO3 := hO.2.2.1
  refine lv_aload_n hx hb dX6_countClaimed_0 rfl (lv_at hl 0 rfl) ?_
  refine g_get (ci := 5) (v := .int (nI (k.2 0))) h0 hF inX6 hB 1 rfl rfl 0 (by decide) wf_X6_27 rfl rfl dX6_countClaimed_1 ?_
  refine lv_aload_n hx hb dX6_countClaimed_4 rfl (lv_at hl 0 rfl) ?_
  refine g_get (ci := 5) (v := .ref (f 6)) h0 hF inX6 hB 1 rfl rfl 3 (by decide) wf_X6_18 rfl rfl dX6_countClaimed_5 ?_
  refine lv_aload_n hx hb dX6_countClaimed_8 rfl (lv_at hl 0 rfl) ?_
  refine g_get (ci := 5) (v := .int (nI (k.2 0))) h0 hF inX6 hB 1 rfl rfl 0 (by decide) wf_X6_27 rfl rfl dX6_countClaimed_9 ?_
  refine lv_bipush (v := (-4)) hx hb dX6_countClaimed_12 (by decide) ?_
  refine core_p (grSN (n := 3) (As := [.ref (f 6), .int (nI (k.2 0)), .int (-4)]) (rest := [.int (nI (k.2 0))]) h0 hF (m_X9_countAlike h0 (a := f 6) (N := 8) (F := k.1 2) (k.2 0) (by omega) (by omega) (-4)) wmn_X6_48 wt_X9_countAlike wz_X9 wc_X9_countAlike ⟨by decide, by decide, by decide +kernel⟩ rfl ⟨Nat.le_of_ble_eq_true rfl, Nat.le_of_ble_eq_true rfl⟩ (hB.sub [6] rfl) hS noA_old ⟨Nat.zero_le _, Nat.zero_le _⟩ hl.1 rfl (Nat.le_of_ble_eq_true rfl) dX6_countClaimed_14) ?_
  refine lv_isub hx hb dX6_countClaimed_17 ?_
  exact pm_iret hF dX6_countClaimed_18 (by simp [])

set_option maxHeartbeats 4000000 in
set_option maxRecDepth 100000 in
theorem m_X6_countClaimedBy {X : Cx} {l : Launch} (h0 : Init X) {f : Nat → Nat} {k : Sk} (hO : Ok k)  (g : Int32) : PM X l yX6_countClaimedBy cX6_countClaimedBy 2 (some .int) 1 24 [.ref (f 1), .int g] (va_P X.D vwCl (skW X f k)) (.int (nI (cN (fun z => decide (k.1 2 z = g)) (k.2 0)))) := by
  refine Met.mk (Bh := va_P X.D vwCl (skW X f k)) (by decide) (Nat.le_of_ble_eq_true rfl) ?_
  intro p e s m below meth c ls hF hB hl
  have hl : lv_has ls 2 [(0, .ref (f 1)), (1, .int g)] := hl
  obtain ⟨hx, hb, hml, hr, hlk, hown, hG⟩ := id hF
  have hK := hG.K h0
  have hS : va_S noA s.heap s.heap [] := va_S.rf
  have hO1 := hO.1
  have hO2 := hO.2.1
  have hO3 := hO.2.2.1
  refine lv_aload_n hx hb dX6_countClaimedBy_0 rfl (lv_at hl 0 rfl) ?_
  refine g_get (ci := 5) (v := .ref (f 6)) h0 hF inX6 hB 1 rfl rfl 3 (by decide) wf_X6_18 rfl rfl dX6_countClaimedBy_1 ?_
  refine lv_aload_n hx hb dX6_countClaimedBy_4 rfl (lv_at hl 0 rfl) ?_
  refine g_get (ci := 5) (v := .int (nI (k.2 0))) h0 hF inX6 hB 1 rfl rfl 0 (by decide) wf_X6_27 rfl rfl dX6_countClaimedBy_5 ?_
  refine lv_iload_n hx hb dX6_countClaimedBy_8 rfl (lv_at hl 1 rfl) ?_
  refine core_p (grSN (n := 3) (As := [.ref (f 6), .int (nI (k.2 0)), .int g]) (rest := []) h0 hF (m_X9_countAlike h0 (a := f 6) (N := 8) (F := k.1 2) (k.2 0) (by omega) (by omega) g) wmn_X6_48 wt_X9_countAlike wz_X9 wc_X9_countAlike ⟨by decide, by decide, by decide +kernel⟩ rfl ⟨Nat.le_of_ble_eq_true rfl, Nat.le_of_ble_eq_true rfl⟩ (hB.sub [6] rfl) hS noA_old ⟨Nat.zero_le _, Nat.zero_le _⟩ hl.1 rfl (Nat.le_of_ble_eq_true rfl) dX6_countClaimedBy_9) ?_
  exact pm_iret hF dX6_countClaimedBy_12 (rfl)

set_option maxHeartbeats 4000000 in
set_option maxRecDepth 100000 in
theorem m_X6_isBrighter {X : Cx} {l : Launch} (h0 : Init X) {f : Nat → Nat} {k : Sk} (hO : Ok k)  (x : Int32) (i : Nat) (hxi : x = nI i) (hi : i < k.2 0)(y : Int32) (j : Nat) (hxj : y = nI j) (hj : j < k.2 0) : PM X l yX6_isBrighter cX6_isBrighter 3 (some .boolean) 0 0 [.ref (f 1), .int x, .int y] (va_P X.D vwCl (skW X f k)) (.int (bI (brB k i j))) := by
  subst hxi
  subst hxj
  refine Met.mk (Bh := va_P X.D vwCl (skW X f k)) (by decide) (Nat.le_of_ble_eq_true rfl) ?_
  intro p e s m below meth c ls hF hB hl
  have hl : lv_has ls 3 [(0, .ref (f 1)), (1, .int (nI i)), (2, .int (nI j))] := hl
  obtain ⟨hx, hb, hml, hr, hlk, hown, hG⟩ := id hF
  have hK := hG.K h0
  have hS : va_S noA s.heap s.heap [] := va_S.rf
  have hO1 := hO.1
  have hO2 := hO.2.1
  have hO3 := hO.2.2.1
  refine lv_aload_n hx hb dX6_isBrighter_0 rfl (lv_at hl 0 rfl) ?_
  refine g_get (ci := 5) (v := .ref (f 4)) h0 hF inX6 hB 1 rfl rfl 1 (by decide) wf_X6_9 rfl rfl dX6_isBrighter_1 ?_
  refine lv_iload_n hx hb dX6_isBrighter_4 rfl (lv_at hl 1 rfl) ?_
  refine g_iald hx hb hK hB 4 0 rfl rfl i (rfl) (by omega) (by decide) dX6_isBrighter_5 ?_
  refine lv_aload_n hx hb dX6_isBrighter_6 rfl (lv_at hl 0 rfl) ?_
  refine g_get (ci := 5) (v := .ref (f 4)) h0 hF inX6 hB 1 rfl rfl 1 (by decide) wf_X6_9 rfl rfl dX6_isBrighter_7 ?_
  refine lv_iload_n hx hb dX6_isBrighter_10 rfl (lv_at hl 2 rfl) ?_
  refine g_iald hx hb hK hB 4 0 rfl rfl j (rfl) (by omega) (by decide) dX6_isBrighter_11 ?_
  refine lv_icmp_eq (tgt := 36) hx hb dX6_isBrighter_12 (by decide) (fun c_12 => ?_) (fun c_12 => ?_)
  · refine lv_aload_n hx hb dX6_isBrighter_36 rfl (lv_at hl 0 rfl) ?_
    refine g_get (ci := 5) (v := .ref (f 7)) h0 hF inX6 hB 1 rfl rfl 4 (by decide) wf_X6_21 rfl rfl dX6_isBrighter_37 ?_
    refine lv_iload_n hx hb dX6_isBrighter_40 rfl (lv_at hl 1 rfl) ?_
    refine g_iald hx hb hK hB 7 0 rfl rfl i (rfl) (by omega) (by decide) dX6_isBrighter_41 ?_
    refine lv_aload_n hx hb dX6_isBrighter_42 rfl (lv_at hl 0 rfl) ?_
    refine g_get (ci := 5) (v := .ref (f 7)) h0 hF inX6 hB 1 rfl rfl 4 (by decide) wf_X6_21 rfl rfl dX6_isBrighter_43 ?_
    refine lv_iload_n hx hb dX6_isBrighter_46 rfl (lv_at hl 2 rfl) ?_
    refine g_iald hx hb hK hB 7 0 rfl rfl j (rfl) (by omega) (by decide) dX6_isBrighter_47 ?_
    refine lv_icmp_eq (tgt := 72) hx hb dX6_isBrighter_48 (by decide) (fun c_48 => ?_) (fun c_48 => ?_)
    · refine lv_iload_n hx hb dX6_isBrighter_72 rfl (lv_at hl 1 rfl) ?_
      refine lv_iload_n hx hb dX6_isBrighter_73 rfl (lv_at hl 2 rfl) ?_
      refine lv_icmp_ge (tgt := 81) hx hb dX6_isBrighter_74 (by decide) (fun c_74 => ?_) (fun c_74 => ?_)
      · have n_74 := Int32.not_lt.mpr c_74
        refine lv_iconst (v := 0) hx hb dX6_isBrighter_81 (by decide) ?_
        exact pm_zret hF dX6_isBrighter_82 rfl (by simp [bI, brB, c_12, c_48, c_74, n_74])
      · have n_74 := Int32.not_le.mp c_74
        refine lv_iconst (v := 1) hx hb dX6_isBrighter_77 (by decide) ?_
        refine lv_goto (tgt := 82) hx hb dX6_isBrighter_78 (by decide) ?_
        exact pm_zret hF dX6_isBrighter_82 rfl (by simp [bI, brB, c_12, c_48, c_74, n_74])
    · refine lv_aload_n hx hb dX6_isBrighter_51 rfl (lv_at hl 0 rfl) ?_
      refine g_get (ci := 5) (v := .ref (f 7)) h0 hF inX6 hB 1 rfl rfl 4 (by decide) wf_X6_21 rfl rfl dX6_isBrighter_52 ?_
      refine lv_iload_n hx hb dX6_isBrighter_55 rfl (lv_at hl 1 rfl) ?_
      refine g_iald hx hb hK hB 7 0 rfl rfl i (rfl) (by omega) (by decide) dX6_isBrighter_56 ?_
      refine lv_aload_n hx hb dX6_isBrighter_57 rfl (lv_at hl 0 rfl) ?_
      refine g_get (ci := 5) (v := .ref (f 7)) h0 hF inX6 hB 1 rfl rfl 4 (by decide) wf_X6_21 rfl rfl dX6_isBrighter_58 ?_
      refine lv_iload_n hx hb dX6_isBrighter_61 rfl (lv_at hl 2 rfl) ?_
      refine g_iald hx hb hK hB 7 0 rfl rfl j (rfl) (by omega) (by decide) dX6_isBrighter_62 ?_
      refine lv_icmp_le (tgt := 70) hx hb dX6_isBrighter_63 (by decide) (fun c_63 => ?_) (fun c_63 => ?_)
      · have n_63 := Int32.not_lt.mpr c_63
        refine lv_iconst (v := 0) hx hb dX6_isBrighter_70 (by decide) ?_
        exact pm_zret hF dX6_isBrighter_71 rfl (by simp [bI, brB, c_12, c_48, c_63, n_63])
      · have n_63 := Int32.not_le.mp c_63
        refine lv_iconst (v := 1) hx hb dX6_isBrighter_66 (by decide) ?_
        refine lv_goto (tgt := 71) hx hb dX6_isBrighter_67 (by decide) ?_
        exact pm_zret hF dX6_isBrighter_71 rfl (by simp [bI, brB, c_12, c_48, c_63, n_63])
  · refine lv_aload_n hx hb dX6_isBrighter_15 rfl (lv_at hl 0 rfl) ?_
    refine g_get (ci := 5) (v := .ref (f 4)) h0 hF inX6 hB 1 rfl rfl 1 (by decide) wf_X6_9 rfl rfl dX6_isBrighter_16 ?_
    refine lv_iload_n hx hb dX6_isBrighter_19 rfl (lv_at hl 1 rfl) ?_
    refine g_iald hx hb hK hB 4 0 rfl rfl i (rfl) (by omega) (by decide) dX6_isBrighter_20 ?_
    refine lv_aload_n hx hb dX6_isBrighter_21 rfl (lv_at hl 0 rfl) ?_
    refine g_get (ci := 5) (v := .ref (f 4)) h0 hF inX6 hB 1 rfl rfl 1 (by decide) wf_X6_9 rfl rfl dX6_isBrighter_22 ?_
    refine lv_iload_n hx hb dX6_isBrighter_25 rfl (lv_at hl 2 rfl) ?_
    refine g_iald hx hb hK hB 4 0 rfl rfl j (rfl) (by omega) (by decide) dX6_isBrighter_26 ?_
    refine lv_icmp_le (tgt := 34) hx hb dX6_isBrighter_27 (by decide) (fun c_27 => ?_) (fun c_27 => ?_)
    · have n_27 := Int32.not_lt.mpr c_27
      refine lv_iconst (v := 0) hx hb dX6_isBrighter_34 (by decide) ?_
      exact pm_zret hF dX6_isBrighter_35 rfl (by simp [bI, brB, c_12, c_27, n_27])
    · have n_27 := Int32.not_le.mp c_27
      refine lv_iconst (v := 1) hx hb dX6_isBrighter_30 (by decide) ?_
      refine lv_goto (tgt := 35) hx hb dX6_isBrighter_31 (by decide) ?_
      exact pm_zret hF dX6_isBrighter_35 rfl (by simp [bI, brB, c_12, c_27, n_27])

set_option maxHeartbeats 4000000 in
set_option maxRecDepth 100000 in
theorem m_X6_starAtPlace {X : Cx} {l : Launch} (h0 : Init X) {f : Nat → Nat} {k : Sk} (hO : Ok k)  (q : Int32) : PM X l yX6_starAtPlace cX6_starAtPlace 5 (some .int) 1 22 [.ref (f 1), .int q] (va_P X.D vwCl (skW X f k)) (.int (fnd (fun z => decide (nI (rankS k z) = q)) (-1) (k.2 0) 0)) := by
  refine Met.mk (Bh := va_P X.D vwCl (skW X f k)) (by decide) (Nat.le_of_ble_eq_true rfl) ?_
  intro p e s m below meth c ls hF hB hl
  have hl : lv_has ls 5 [(0, .ref (f 1)), (1, .int q)] := hl
  obtain ⟨hx, hb, hml, hr, hlk, hown, hG⟩ := id hF
  have hK := hG.K h0
  have hS : va_S noA s.heap s.heap [] := va_S.rf
  have hO1 := hO.1
  have hO2 := hO.2.1
  have hO3 := hO.2.2.1
  refine lv_iconst (v := 0) hx hb dX6_starAtPlace_0 (by decide) ?_
  refine lv_istore_n (lv' := [(2, .int 0), (0, .ref (f 1)), (1, .int q)]) hx hb dX6_starAtPlace_1 rfl hl (by decide) rfl (fun ls hl => ?_)
  have key_2 : ∀ (nf j : Nat), j + nf = k.2 0 → fnd (fun z => decide (nI (rankS k z) = q)) (-1) (k.2 0) 0 = fnd (fun z => decide (nI (rankS k z) = q)) (-1) nf j → ∀ (ls : Array Slot), lv_has ls 5 [(0, .ref (f 1)), (1, .int q), (2, .int (nI j))] → W p l e ({ frames := 1, cells := 0, slots := 0, locals := 22 } : Room) s m ([.ref (f 1), .int q] : List Value).toArray below meth c s.heap [] 0 0 (MQ below (qP (.int (fnd (fun z => decide (nI (rankS k z) = q)) (-1) (k.2 0) 0))) ([.ref (f 1), .int q] : List Value).toArray s 0 0 noA) (F0 m 2 ls []) := by
    intro nf
    induction nf with
    | zero =>
      intro j hj hx_j ls hl
      have hj_e : j = k.2 0 := by omega
      refine lv_iload_n hx hb dX6_starAtPlace_2 rfl (lv_at hl 2 rfl) ?_
      refine lv_aload_n hx hb dX6_starAtPlace_3 rfl (lv_at hl 0 rfl) ?_
      refine g_get (ci := 5) (v := .int (nI (k.2 0))) h0 hF inX6 hB 1 rfl rfl 0 (by decide) wf_X6_27 rfl rfl dX6_starAtPlace_4 ?_
      refine lv_icmp_ge (tgt := 56) hx hb dX6_starAtPlace_7 (by decide) (fun c_7 => ?_) (fun c_7 => absurd (nI_le (a := k.2 0) (b := j) (by omega) (by omega)) c_7)
      have n_7 := Int32.not_lt.mpr c_7
      refine lv_iconst (v := (-1)) hx hb dX6_starAtPlace_56 (by decide) ?_
      exact pm_iret hF dX6_starAtPlace_57 (by rw [hx_j]; rfl)
    | succ nf ih_2 =>
      intro j hj hx_j ls hl
      have hj_l : j < k.2 0 := by omega
      refine lv_iload_n hx hb dX6_starAtPlace_2 rfl (lv_at hl 2 rfl) ?_
      refine lv_aload_n hx hb dX6_starAtPlace_3 rfl (lv_at hl 0 rfl) ?_
      refine g_get (ci := 5) (v := .int (nI (k.2 0))) h0 hF inX6 hB 1 rfl rfl 0 (by decide) wf_X6_27 rfl rfl dX6_starAtPlace_4 ?_
      refine lv_icmp_ge (tgt := 56) hx hb dX6_starAtPlace_7 (by decide) (fun c_7 => absurd c_7 (nI_ge (a := j) (b := k.2 0) (by omega) (by omega))) (fun c_7 => ?_)
      have n_7 := Int32.not_le.mp c_7
      refine lv_iconst (v := 0) hx hb dX6_starAtPlace_10 (by decide) ?_
      refine lv_istore_n (lv' := [(3, .int 0), (0, .ref (f 1)), (1, .int q), (2, .int (nI j))]) hx hb dX6_starAtPlace_11 rfl hl (by decide) rfl (fun ls hl => ?_)
      refine lv_iconst (v := 0) hx hb dX6_starAtPlace_12 (by decide) ?_
      refine lv_istore (lv' := [(4, .int 0), (3, .int 0), (0, .ref (f 1)), (1, .int q), (2, .int (nI j))]) hx hb dX6_starAtPlace_13 hl (by decide) rfl (fun ls hl => ?_)
      have key_15 : ∀ (nf i : Nat), i + nf = k.2 0 → ∀ (ls : Array Slot), lv_has ls 5 [(0, .ref (f 1)), (1, .int q), (2, .int (nI j)), (3, .int (nI (cN (fun z => brB k z j) i))), (4, .int (nI i))] → W p l e ({ frames := 1, cells := 0, slots := 0, locals := 22 } : Room) s m ([.ref (f 1), .int q] : List Value).toArray below meth c s.heap [] 0 0 (MQ below (qP (.int (fnd (fun z => decide (nI (rankS k z) = q)) (-1) (k.2 0) 0))) ([.ref (f 1), .int q] : List Value).toArray s 0 0 noA) (F0 m 15 ls []) := by
        intro nf
        induction nf with
        | zero =>
          intro i hi ls hl
          have hi_e : i = k.2 0 := by omega
          refine lv_iload hx hb dX6_starAtPlace_15 (lv_at hl 4 rfl) ?_
          refine lv_aload_n hx hb dX6_starAtPlace_17 rfl (lv_at hl 0 rfl) ?_
          refine g_get (ci := 5) (v := .int (nI (k.2 0))) h0 hF inX6 hB 1 rfl rfl 0 (by decide) wf_X6_27 rfl rfl dX6_starAtPlace_18 ?_
          refine lv_icmp_ge (tgt := 43) hx hb dX6_starAtPlace_21 (by decide) (fun c_21 => ?_) (fun c_21 => absurd (nI_le (a := k.2 0) (b := i) (by omega) (by omega)) c_21)
          have n_21 := Int32.not_lt.mpr c_21
          refine lv_iload_n hx hb dX6_starAtPlace_43 rfl (lv_at hl 3 rfl) ?_
          refine lv_iload_n hx hb dX6_starAtPlace_44 rfl (lv_at hl 1 rfl) ?_
          refine lv_icmp_ne (tgt := 50) hx hb dX6_starAtPlace_45 (by decide) (fun c_45 => ?_) (fun c_45 => ?_)
          · refine lv_iinc (v := nI (j + 1)) (lv' := [(2, .int (nI (j + 1))), (0, .ref (f 1)), (1, .int q), (3, .int (nI (cN (fun z => brB k z j) i))), (4, .int (nI i))]) hx hb dX6_starAtPlace_50 hl (k := 2) rfl (nI_1 j) (by decide) rfl (fun ls hl => ?_)
            refine lv_goto (tgt := 2) hx hb dX6_starAtPlace_53 (by decide) ?_
            refine ih_2 (j + 1) (by omega) (by rw [hx_j, fnd, if_neg (fun h9 => c_45 (by have h8 := of_decide_eq_true h9; rw [rankS, ← hi_e] at h8; exact h8))]) ls (lv_eqv (lv_sub (l' := [(0, .ref (f 1)), (1, .int q), (2, .int (nI (j + 1)))]) hl [1, 2, 0] rfl) ?_)
            rfl
          · refine lv_iload_n hx hb dX6_starAtPlace_48 rfl (lv_at hl 2 rfl) ?_
            exact pm_iret hF dX6_starAtPlace_49 (by rw [hx_j, fnd, if_pos (decide_eq_true (by rw [rankS, ← hi_e]; exact c_45))])
        | succ nf ih_15 =>
          intro i hi ls hl
          have hi_l : i < k.2 0 := by omega
          refine lv_iload hx hb dX6_starAtPlace_15 (lv_at hl 4 rfl) ?_
          refine lv_aload_n hx hb dX6_starAtPlace_17 rfl (lv_at hl 0 rfl) ?_
          refine g_get (ci := 5) (v := .int (nI (k.2 0))) h0 hF inX6 hB 1 rfl rfl 0 (by decide) wf_X6_27 rfl rfl dX6_starAtPlace_18 ?_
          refine lv_icmp_ge (tgt := 43) hx hb dX6_starAtPlace_21 (by decide) (fun c_21 => absurd c_21 (nI_ge (a := i) (b := k.2 0) (by omega) (by omega))) (fun c_21 => ?_)
          have n_21 := Int32.not_le.mp c_21
          refine lv_aload_n hx hb dX6_starAtPlace_24 rfl (lv_at hl 0 rfl) ?_
          refine lv_iload hx hb dX6_starAtPlace_25 (lv_at hl 4 rfl) ?_
          refine lv_iload_n hx hb dX6_starAtPlace_27 rfl (lv_at hl 2 rfl) ?_
          refine core_p (grV (n := 2) (As := [.int (nI i), .int (nI j)]) (rest := []) h0 hF (m_X6_isBrighter h0 (f := f) (k := k) hO  (nI i) i rfl (by omega) (nI j) j rfl (by omega)) wm_X6_52 wo_X6_isBrighter ws_X6__X6_isBrighter wz_X6 wc_X6_isBrighter ⟨by decide, by decide, by decide +kernel⟩ rfl ⟨Nat.le_of_ble_eq_true rfl, Nat.le_of_ble_eq_true rfl⟩ (ci := 5) ⟨_, hB 1 _ rfl⟩ rfl hB hS noA_old ⟨Nat.zero_le _, Nat.zero_le _⟩ hl.1 rfl (Nat.le_of_ble_eq_true rfl) dX6_starAtPlace_28) ?_
          refine lv_if_eq (tgt := 37) hx hb dX6_starAtPlace_31 (by decide) (fun c_31 => ?_) (fun c_31 => ?_)
          · have n_31 := bI_0.mp c_31
            refine lv_iinc (v := nI (i + 1)) (lv' := [(4, .int (nI (i + 1))), (0, .ref (f 1)), (1, .int q), (2, .int (nI j)), (3, .int (nI (cN (fun z => brB k z j) i)))]) hx hb dX6_starAtPlace_37 hl (k := 4) rfl (nI_1 i) (by decide) rfl (fun ls hl => ?_)
            refine lv_goto (tgt := 15) hx hb dX6_starAtPlace_40 (by decide) ?_
            refine ih_15 (i + 1) (by omega) ls (lv_eqv (lv_sub (l' := [(0, .ref (f 1)), (1, .int q), (2, .int (nI j)), (3, .int (nI (cN (fun z => brB k z j) i))), (4, .int (nI (i + 1)))]) hl [1, 2, 3, 4, 0] rfl) ?_)
            rw [show (nI (cN (fun z => brB k z j) i)) = (nI (cN (fun z => brB k z j) (i + 1))) from (congrArg nI (cN_f (by simp [c_7, n_7, c_21, n_21, n_31])).symm)]
          · have n_31 := bI_n0.mp c_31
            refine lv_iinc (v := nI ((cN (fun z => brB k z j) i) + 1)) (lv' := [(3, .int (nI ((cN (fun z => brB k z j) i) + 1))), (0, .ref (f 1)), (1, .int q), (2, .int (nI j)), (4, .int (nI i))]) hx hb dX6_starAtPlace_34 hl (k := 3) rfl (nI_1 (cN (fun z => brB k z j) i)) (by decide) rfl (fun ls hl => ?_)
            refine lv_iinc (v := nI (i + 1)) (lv' := [(4, .int (nI (i + 1))), (3, .int (nI ((cN (fun z => brB k z j) i) + 1))), (0, .ref (f 1)), (1, .int q), (2, .int (nI j))]) hx hb dX6_starAtPlace_37 hl (k := 4) rfl (nI_1 i) (by decide) rfl (fun ls hl => ?_)
            refine lv_goto (tgt := 15) hx hb dX6_starAtPlace_40 (by decide) ?_
            refine ih_15 (i + 1) (by omega) ls (lv_eqv (lv_sub (l' := [(0, .ref (f 1)), (1, .int q), (2, .int (nI j)), (3, .int (nI ((cN (fun z => brB k z j) i) + 1))), (4, .int (nI (i + 1)))]) hl [2, 3, 4, 1, 0] rfl) ?_)
            rw [show (nI ((cN (fun z => brB k z j) i) + 1)) = (nI (cN (fun z => brB k z j) (i + 1))) from (congrArg nI (cN_t (by simp [c_7, n_7, c_21, n_21, n_31])).symm)]
      exact key_15 (k.2 0) 0 (by omega) ls (lv_sub hl [2, 3, 4, 1, 0] rfl)
  exact key_2 (k.2 0) 0 (by omega) (rfl) ls (lv_sub hl [1, 2, 0] rfl)
end
section
set_option maxHeartbeats 4000000 in
set_option maxRecDepth 100000 in
theorem m_X7_isImpounded {X : Cx} {l : Launch} (h0 : Init X) {f : Nat → Nat} {k : Sk} (hO : Ok k)  (x : Int32) (w : Nat) (hxw : x = nI w) (hw : w < k.2 2) : PM X l yX7_isImpounded cX7_isImpounded 2 (some .boolean) 0 0 [.ref (f 3), .int x] (va_P X.D vwCl (skW X f k)) (.int (bI (isImp k w))) := by
  subst hxw
  refine Met.mk (Bh := va_P X.D vwCl (skW X f k)) (by decide) (Nat.le_of_ble_eq_true rfl) ?_
  intro p e s m below meth c ls hF hB hl
  have hl : lv_has ls 2 [(0, .ref (f 3)), (1, .int (nI w))] := hl
  obtain ⟨hx, hb, hml, hr, hlk, hown, hG⟩ := id hF
  have hK := hG.K h0
  have hS : va_S noA s.heap s.heap [] := va_S.rf
  have hO1 := hO.1
  have hO2 := hO.2.1
  have hO3 := hO.2.2.1
  refine lv_aload_n hx hb dX7_isImpounded_0 rfl (lv_at hl 0 rfl) ?_
  refine g_get (ci := 6) (v := .ref (f 22)) h0 hF inX7 hB 3 rfl rfl 5 (by decide) wf_X7_24 rfl rfl dX7_isImpounded_1 ?_
  refine lv_iload_n hx hb dX7_isImpounded_4 rfl (lv_at hl 1 rfl) ?_
  refine g_iald hx hb hK hB 22 0 rfl rfl w (rfl) (by omega) (by decide) dX7_isImpounded_5 ?_
  refine lv_bipush (v := (-4)) hx hb dX7_isImpounded_6 (by decide) ?_
  refine lv_icmp_eq (tgt := 15) hx hb dX7_isImpounded_8 (by decide) (fun c_8 => ?_) (fun c_8 => ?_)
  · refine lv_iconst (v := 0) hx hb dX7_isImpounded_15 (by decide) ?_
    exact pm_zret hF dX7_isImpounded_16 rfl (by simp [bI, isImp, c_8])
  · refine lv_iconst (v := 1) hx hb dX7_isImpounded_11 (by decide) ?_
    refine lv_goto (tgt := 16) hx hb dX7_isImpounded_12 (by decide) ?_
    exact pm_zret hF dX7_isImpounded_16 rfl (by simp [bI, isImp, c_8])

set_option maxHeartbeats 4000000 in
set_option maxRecDepth 100000 in
theorem m_X7_countOn {X : Cx} {l : Launch} (h0 : Init X) {f : Nat → Nat} {k : Sk} (hO : Ok k)  (g : Int32) : PM X l yX7_countOn cX7_countOn 2 (some .int) 1 24 [.ref (f 3), .int g] (va_P X.D vwCl (skW X f k)) (.int (nI (cN (fun z => decide (k.1 15 z = g)) (k.2 2)))) := by
  refine Met.mk (Bh := va_P X.D vwCl (skW X f k)) (by decide) (Nat.le_of_ble_eq_true rfl) ?_
  intro p e s m below meth c ls hF hB hl
  have hl : lv_has ls 2 [(0, .ref (f 3)), (1, .int g)] := hl
  obtain ⟨hx, hb, hml, hr, hlk, hown, hG⟩ := id hF
  have hK := hG.K h0
  have hS : va_S noA s.heap s.heap [] := va_S.rf
  have hO1 := hO.1
  have hO2 := hO.2.1
  have hO3 := hO.2.2.1
  refine lv_aload_n hx hb dX7_countOn_0 rfl (lv_at hl 0 rfl) ?_
  refine g_get (ci := 6) (v := .ref (f 19)) h0 hF inX7 hB 3 rfl rfl 2 (by decide) wf_X7_15 rfl rfl dX7_countOn_1 ?_
  refine lv_aload_n hx hb dX7_countOn_4 rfl (lv_at hl 0 rfl) ?_
  refine g_get (ci := 6) (v := .int (nI (k.2 2))) h0 hF inX7 hB 3 rfl rfl 0 (by decide) wf_X7_27 rfl rfl dX7_countOn_5 ?_
  refine lv_iload_n hx hb dX7_countOn_8 rfl (lv_at hl 1 rfl) ?_
  refine core_p (grSN (n := 3) (As := [.ref (f 19), .int (nI (k.2 2)), .int g]) (rest := []) h0 hF (m_X9_countAlike h0 (a := f 19) (N := 8) (F := k.1 15) (k.2 2) (by omega) (by omega) g) wmn_X7_35 wt_X9_countAlike wz_X9 wc_X9_countAlike ⟨by decide, by decide, by decide +kernel⟩ rfl ⟨Nat.le_of_ble_eq_true rfl, Nat.le_of_ble_eq_true rfl⟩ (hB.sub [19] rfl) hS noA_old ⟨Nat.zero_le _, Nat.zero_le _⟩ hl.1 rfl (Nat.le_of_ble_eq_true rfl) dX7_countOn_9) ?_
  exact pm_iret hF dX7_countOn_12 (rfl)

set_option maxHeartbeats 4000000 in
set_option maxRecDepth 100000 in
theorem m_X7_countOf {X : Cx} {l : Launch} (h0 : Init X) {f : Nat → Nat} {k : Sk} (hO : Ok k)  (g : Int32) : PM X l yX7_countOf cX7_countOf 2 (some .int) 1 24 [.ref (f 3), .int g] (va_P X.D vwCl (skW X f k)) (.int (nI (cN (fun z => decide (k.1 14 z = g)) (k.2 2)))) := by
  refine Met.mk (Bh := va_P X.D vwCl (skW X f k)) (by decide) (Nat.le_of_ble_eq_true rfl) ?_
  intro p e s m below meth c ls hF hB hl
  have hl : lv_has ls 2 [(0, .ref (f 3)), (1, .int g)] := hl
  obtain ⟨hx, hb, hml, hr, hlk, hown, hG⟩ := id hF
  have hK := hG.K h0
  have hS : va_S noA s.heap s.heap [] := va_S.rf
  have hO1 := hO.1
  have hO2 := hO.2.1
  have hO3 := hO.2.2.1
  refine lv_aload_n hx hb dX7_countOf_0 rfl (lv_at hl 0 rfl) ?_
  refine g_get (ci := 6) (v := .ref (f 18)) h0 hF inX7 hB 3 rfl rfl 1 (by decide) wf_X7_9 rfl rfl dX7_countOf_1 ?_
  refine lv_aload_n hx hb dX7_countOf_4 rfl (lv_at hl 0 rfl) ?_
  refine g_get (ci := 6) (v := .int (nI (k.2 2))) h0 hF inX7 hB 3 rfl rfl 0 (by decide) wf_X7_27 rfl rfl dX7_countOf_5 ?_
  refine lv_iload_n hx hb dX7_countOf_8 rfl (lv_at hl 1 rfl) ?_
  refine core_p (grSN (n := 3) (As := [.ref (f 18), .int (nI (k.2 2)), .int g]) (rest := []) h0 hF (m_X9_countAlike h0 (a := f 18) (N := 8) (F := k.1 14) (k.2 2) (by omega) (by omega) g) wmn_X7_35 wt_X9_countAlike wz_X9 wc_X9_countAlike ⟨by decide, by decide, by decide +kernel⟩ rfl ⟨Nat.le_of_ble_eq_true rfl, Nat.le_of_ble_eq_true rfl⟩ (hB.sub [18] rfl) hS noA_old ⟨Nat.zero_le _, Nat.zero_le _⟩ hl.1 rfl (Nat.le_of_ble_eq_true rfl) dX7_countOf_9) ?_
  exact pm_iret hF dX7_countOf_12 (rfl)

set_option maxHeartbeats 4000000 in
set_option maxRecDepth 100000 in
theorem m_X7_countImpounded {X : Cx} {l : Launch} (h0 : Init X) {f : Nat → Nat} {k : Sk} (hO : Ok k)   : PM X l yX7_countImpounded cX7_countImpounded 1 (some .int) 1 24 [.ref (f 3)] (va_P X.D vwCl (skW X f k)) (.int (nI (k.2 2) - nI (cN (fun z => decide (k.1 18 z = -4)) (k.2 2)))) := by
  refine Met.mk (Bh := va_P X.D vwCl (skW X f k)) (by decide) (Nat.le_of_ble_eq_true rfl) ?_
  intro p e s m below meth c ls hF hB hl
  have hl : lv_has ls 1 [(0, .ref (f 3))] := hl
  obtain ⟨hx, hb, hml, hr, hlk, hown, hG⟩ := id hF
  have hK := hG.K h0
  have hS : va_S noA s.heap s.heap [] := va_S.rf
  have hO1 := hO.1
  have hO2 := hO.2.1
  have hO3 := hO.2.2.1
  refine lv_aload_n hx hb dX7_countImpounded_0 rfl (lv_at hl 0 rfl) ?_
  refine g_get (ci := 6) (v := .int (nI (k.2 2))) h0 hF inX7 hB 3 rfl rfl 0 (by decide) wf_X7_27 rfl rfl dX7_countImpounded_1 ?_
  refine lv_aload_n hx hb dX7_countImpounded_4 rfl (lv_at hl 0 rfl) ?_
  refine g_get (ci := 6) (v := .ref (f 22)) h0 hF inX7 hB 3 rfl rfl 5 (by decide) wf_X7_24 rfl rfl dX7_countImpounded_5 ?_
  refine lv_aload_n hx hb dX7_countImpounded_8 rfl (lv_at hl 0 rfl) ?_
  refine g_get (ci := 6) (v := .int (nI (k.2 2))) h0 hF inX7 hB 3 rfl rfl 0 (by decide) wf_X7_27 rfl rfl dX7_countImpounded_9 ?_
  refine lv_bipush (v := (-4)) hx hb dX7_countImpounded_12 (by decide) ?_
  refine core_p (grSN (n := 3) (As := [.ref (f 22), .int (nI (k.2 2)), .int (-4)]) (rest := [.int (nI (k.2 2))]) h0 hF (m_X9_countAlike h0 (a := f 22) (N := 8) (F := k.1 18) (k.2 2) (by omega) (by omega) (-4)) wmn_X7_35 wt_X9_countAlike wz_X9 wc_X9_countAlike ⟨by decide, by decide, by decide +kernel⟩ rfl ⟨Nat.le_of_ble_eq_true rfl, Nat.le_of_ble_eq_true rfl⟩ (hB.sub [22] rfl) hS noA_old ⟨Nat.zero_le _, Nat.zero_le _⟩ hl.1 rfl (Nat.le_of_ble_eq_true rfl) dX7_countImpounded_14) ?_
  refine lv_isub hx hb dX7_countImpounded_17 ?_
  exact pm_iret hF dX7_countImpounded_18 (by simp [])

set_option maxHeartbeats 4000000 in
set_option maxRecDepth 100000 in
theorem m_X7_impoundedSetOf {X : Cx} {l : Launch} (h0 : Init X) {f : Nat → Nat} {k : Sk} (hO : Ok k)  (g : Int32) : PM X l yX7_impoundedSetOf cX7_impoundedSetOf 4 (some .int) 1 21 [.ref (f 3), .int g] (va_P X.D vwCl (skW X f k)) (.int (nI (iN k g (k.2 2)))) := by
  refine Met.mk (Bh := va_P X.D vwCl (skW X f k)) (by decide) (Nat.le_of_ble_eq_true rfl) ?_
  intro p e s m below meth c ls hF hB hl
  have hl : lv_has ls 4 [(0, .ref (f 3)), (1, .int g)] := hl
  obtain ⟨hx, hb, hml, hr, hlk, hown, hG⟩ := id hF
  have hK := hG.K h0
  have hS : va_S noA s.heap s.heap [] := va_S.rf
  have hO1 := hO.1
  have hO2 := hO.2.1
  have hO3 := hO.2.2.1
  refine lv_iconst (v := 0) hx hb dX7_impoundedSetOf_0 (by decide) ?_
  refine lv_istore_n (lv' := [(2, .int 0), (0, .ref (f 3)), (1, .int g)]) hx hb dX7_impoundedSetOf_1 rfl hl (by decide) rfl (fun ls hl => ?_)
  refine lv_iconst (v := 0) hx hb dX7_impoundedSetOf_2 (by decide) ?_
  refine lv_istore_n (lv' := [(3, .int 0), (2, .int 0), (0, .ref (f 3)), (1, .int g)]) hx hb dX7_impoundedSetOf_3 rfl hl (by decide) rfl (fun ls hl => ?_)
  have key_4 : ∀ (nf j : Nat), j + nf = k.2 2 → ∀ (ls : Array Slot), lv_has ls 4 [(0, .ref (f 3)), (1, .int g), (2, .int (nI (iN k g j))), (3, .int (nI j))] → W p l e ({ frames := 1, cells := 0, slots := 0, locals := 21 } : Room) s m ([.ref (f 3), .int g] : List Value).toArray below meth c s.heap [] 0 0 (MQ below (qP (.int (nI (iN k g (k.2 2))))) ([.ref (f 3), .int g] : List Value).toArray s 0 0 noA) (F0 m 4 ls []) := by
    intro nf
    induction nf with
    | zero =>
      intro j hj ls hl
      have hj_e : j = k.2 2 := by omega
      refine lv_iload_n hx hb dX7_impoundedSetOf_4 rfl (lv_at hl 3 rfl) ?_
      refine lv_aload_n hx hb dX7_impoundedSetOf_5 rfl (lv_at hl 0 rfl) ?_
      refine g_get (ci := 6) (v := .int (nI (k.2 2))) h0 hF inX7 hB 3 rfl rfl 0 (by decide) wf_X7_27 rfl rfl dX7_impoundedSetOf_6 ?_
      refine lv_icmp_ge (tgt := 42) hx hb dX7_impoundedSetOf_9 (by decide) (fun c_9 => ?_) (fun c_9 => absurd (nI_le (a := k.2 2) (b := j) (by omega) (by omega)) c_9)
      have n_9 := Int32.not_lt.mpr c_9
      refine lv_iload_n hx hb dX7_impoundedSetOf_42 rfl (lv_at hl 2 rfl) ?_
      exact pm_iret hF dX7_impoundedSetOf_43 (by rw [hj_e])
    | succ nf ih_4 =>
      intro j hj ls hl
      have hj_l : j < k.2 2 := by omega
      refine lv_iload_n hx hb dX7_impoundedSetOf_4 rfl (lv_at hl 3 rfl) ?_
      refine lv_aload_n hx hb dX7_impoundedSetOf_5 rfl (lv_at hl 0 rfl) ?_
      refine g_get (ci := 6) (v := .int (nI (k.2 2))) h0 hF inX7 hB 3 rfl rfl 0 (by decide) wf_X7_27 rfl rfl dX7_impoundedSetOf_6 ?_
      refine lv_icmp_ge (tgt := 42) hx hb dX7_impoundedSetOf_9 (by decide) (fun c_9 => absurd c_9 (nI_ge (a := j) (b := k.2 2) (by omega) (by omega))) (fun c_9 => ?_)
      have n_9 := Int32.not_le.mp c_9
      refine lv_aload_n hx hb dX7_impoundedSetOf_12 rfl (lv_at hl 0 rfl) ?_
      refine g_get (ci := 6) (v := .ref (f 18)) h0 hF inX7 hB 3 rfl rfl 1 (by decide) wf_X7_9 rfl rfl dX7_impoundedSetOf_13 ?_
      refine lv_iload_n hx hb dX7_impoundedSetOf_16 rfl (lv_at hl 3 rfl) ?_
      refine g_iald hx hb hK hB 18 0 rfl rfl j (rfl) (by omega) (by decide) dX7_impoundedSetOf_17 ?_
      refine lv_iload_n hx hb dX7_impoundedSetOf_18 rfl (lv_at hl 1 rfl) ?_
      refine lv_icmp_ne (tgt := 36) hx hb dX7_impoundedSetOf_19 (by decide) (fun c_19 => ?_) (fun c_19 => ?_)
      · refine lv_iinc (v := nI (j + 1)) (lv' := [(3, .int (nI (j + 1))), (0, .ref (f 3)), (1, .int g), (2, .int (nI (iN k g j)))]) hx hb dX7_impoundedSetOf_36 hl (k := 3) rfl (nI_1 j) (by decide) rfl (fun ls hl => ?_)
        refine lv_goto (tgt := 4) hx hb dX7_impoundedSetOf_39 (by decide) ?_
        refine ih_4 (j + 1) (by omega) ls (lv_eqv (lv_sub (l' := [(0, .ref (f 3)), (1, .int g), (2, .int (nI (iN k g j))), (3, .int (nI (j + 1)))]) hl [1, 2, 3, 0] rfl) ?_)
        rw [show (nI (iN k g j)) = (nI (iN k g (j + 1))) from (congrArg nI (by rw [iN, if_neg (by simp [c_9, n_9, c_19])]))]
      · refine lv_aload_n hx hb dX7_impoundedSetOf_22 rfl (lv_at hl 0 rfl) ?_
        refine lv_iload_n hx hb dX7_impoundedSetOf_23 rfl (lv_at hl 3 rfl) ?_
        refine core_p (grV (n := 1) (As := [.int (nI j)]) (rest := []) h0 hF (m_X7_isImpounded h0 (f := f) (k := k) hO  (nI j) j rfl (by omega)) wm_X7_39 wo_X7_isImpounded ws_X7__X7_isImpounded wz_X7 wc_X7_isImpounded ⟨by decide, by decide, by decide +kernel⟩ rfl ⟨Nat.le_of_ble_eq_true rfl, Nat.le_of_ble_eq_true rfl⟩ (ci := 6) ⟨_, hB 3 _ rfl⟩ rfl hB hS noA_old ⟨Nat.zero_le _, Nat.zero_le _⟩ hl.1 rfl (Nat.le_of_ble_eq_true rfl) dX7_impoundedSetOf_24) ?_
        refine lv_if_eq (tgt := 36) hx hb dX7_impoundedSetOf_27 (by decide) (fun c_27 => ?_) (fun c_27 => ?_)
        · have n_27 := bI_0.mp c_27
          refine lv_iinc (v := nI (j + 1)) (lv' := [(3, .int (nI (j + 1))), (0, .ref (f 3)), (1, .int g), (2, .int (nI (iN k g j)))]) hx hb dX7_impoundedSetOf_36 hl (k := 3) rfl (nI_1 j) (by decide) rfl (fun ls hl => ?_)
          refine lv_goto (tgt := 4) hx hb dX7_impoundedSetOf_39 (by decide) ?_
          refine ih_4 (j + 1) (by omega) ls (lv_eqv (lv_sub (l' := [(0, .ref (f 3)), (1, .int g), (2, .int (nI (iN k g j))), (3, .int (nI (j + 1)))]) hl [1, 2, 3, 0] rfl) ?_)
          rw [show (nI (iN k g j)) = (nI (iN k g (j + 1))) from (congrArg nI (by rw [iN, if_neg (by simp [c_9, n_9, c_19, n_27])]))]
        · have n_27 := bI_n0.mp c_27
          refine lv_iload_n hx hb dX7_impoundedSetOf_30 rfl (lv_at hl 2 rfl) ?_
          refine lv_iconst (v := 1) hx hb dX7_impoundedSetOf_31 (by decide) ?_
          refine lv_iload_n hx hb dX7_impoundedSetOf_32 rfl (lv_at hl 3 rfl) ?_
          refine lv_ishl hx hb dX7_impoundedSetOf_33 ?_
          refine lv_ior hx hb dX7_impoundedSetOf_34 ?_
          refine lv_topE (y := nI (iN k g j + 2 ^ j)) (bit_add j (by omega) (iN k g j) (iN_lt k g j)) ?_
          refine lv_istore_n (lv' := [(2, .int (nI (iN k g j + 2 ^ j))), (0, .ref (f 3)), (1, .int g), (3, .int (nI j))]) hx hb dX7_impoundedSetOf_35 rfl hl (by decide) rfl (fun ls hl => ?_)
          refine lv_iinc (v := nI (j + 1)) (lv' := [(3, .int (nI (j + 1))), (2, .int (nI (iN k g j + 2 ^ j))), (0, .ref (f 3)), (1, .int g)]) hx hb dX7_impoundedSetOf_36 hl (k := 3) rfl (nI_1 j) (by decide) rfl (fun ls hl => ?_)
          refine lv_goto (tgt := 4) hx hb dX7_impoundedSetOf_39 (by decide) ?_
          refine ih_4 (j + 1) (by omega) ls (lv_eqv (lv_sub (l' := [(0, .ref (f 3)), (1, .int g), (2, .int (nI (iN k g j + 2 ^ j))), (3, .int (nI (j + 1)))]) hl [2, 3, 1, 0] rfl) ?_)
          rw [show (nI (iN k g j + 2 ^ j)) = (nI (iN k g (j + 1))) from (by rw [iN, if_pos (by simp [c_9, n_9, c_19, n_27])])]
  exact key_4 (k.2 2) 0 (by omega) ls (lv_sub hl [2, 3, 1, 0] rfl)

set_option maxHeartbeats 4000000 in
set_option maxRecDepth 100000 in
theorem m_X5_hasBoth {X : Cx} {l : Launch} (h0 : Init X) {f : Nat → Nat} {k : Sk} (hO : Ok k)  (x y : Int32) : PM X l yX5_hasBoth cX5_hasBoth 3 (some .boolean) 1 21 [.ref (f 0), .int x, .int y] (va_P X.D vwCl (skW X f k)) (.int (bI (hasB (k.2 1) x && hasB (k.2 0) y))) := by
  refine Met.mk (Bh := va_P X.D vwCl (skW X f k)) (by decide) (Nat.le_of_ble_eq_true rfl) ?_
  intro p e s m below meth c ls hF hB hl
  have hl : lv_has ls 3 [(0, .ref (f 0)), (1, .int x), (2, .int y)] := hl
  obtain ⟨hx, hb, hml, hr, hlk, hown, hG⟩ := id hF
  have hK := hG.K h0
  have hS : va_S noA s.heap s.heap [] := va_S.rf
  have hO1 := hO.1
  have hO2 := hO.2.1
  have hO3 := hO.2.2.1
  refine lv_aload_n hx hb dX5_hasBoth_0 rfl (lv_at hl 0 rfl) ?_
  refine g_get (ci := 4) (v := .ref (f 2)) h0 hF inX5 hB 0 rfl rfl 1 (by decide) wf_X5_21 rfl rfl dX5_hasBoth_1 ?_
  refine lv_iload_n hx hb dX5_hasBoth_4 rfl (lv_at hl 1 rfl) ?_
  refine core_p (grV (n := 1) (As := [.int x]) (rest := []) h0 hF (m_X4_has h0 (f := f) (k := k) hO  x) wm_X5_54 wo_X4_has ws_X4__X4_has wz_X4 wc_X4_has ⟨by decide, by decide, by decide +kernel⟩ rfl ⟨Nat.le_of_ble_eq_true rfl, Nat.le_of_ble_eq_true rfl⟩ (ci := 3) ⟨_, hB 2 _ rfl⟩ rfl hB hS noA_old ⟨Nat.zero_le _, Nat.zero_le _⟩ hl.1 rfl (Nat.le_of_ble_eq_true rfl) dX5_hasBoth_5) ?_
  refine lv_if_eq (tgt := 26) hx hb dX5_hasBoth_8 (by decide) (fun c_8 => ?_) (fun c_8 => ?_)
  · have n_8 := bI_0.mp c_8
    refine lv_iconst (v := 0) hx hb dX5_hasBoth_26 (by decide) ?_
    exact pm_zret hF dX5_hasBoth_27 rfl (by simp [bI, n_8])
  · have n_8 := bI_n0.mp c_8
    refine lv_aload_n hx hb dX5_hasBoth_11 rfl (lv_at hl 0 rfl) ?_
    refine g_get (ci := 4) (v := .ref (f 1)) h0 hF inX5 hB 0 rfl rfl 0 (by decide) wf_X5_12 rfl rfl dX5_hasBoth_12 ?_
    refine lv_iload_n hx hb dX5_hasBoth_15 rfl (lv_at hl 2 rfl) ?_
    refine core_p (grV (n := 1) (As := [.int y]) (rest := []) h0 hF (m_X6_has h0 (f := f) (k := k) hO  y) wm_X5_58 wo_X6_has ws_X6__X6_has wz_X6 wc_X6_has ⟨by decide, by decide, by decide +kernel⟩ rfl ⟨Nat.le_of_ble_eq_true rfl, Nat.le_of_ble_eq_true rfl⟩ (ci := 5) ⟨_, hB 1 _ rfl⟩ rfl hB hS noA_old ⟨Nat.zero_le _, Nat.zero_le _⟩ hl.1 rfl (Nat.le_of_ble_eq_true rfl) dX5_hasBoth_16) ?_
    refine lv_if_eq (tgt := 26) hx hb dX5_hasBoth_19 (by decide) (fun c_19 => ?_) (fun c_19 => ?_)
    · have n_19 := bI_0.mp c_19
      refine lv_iconst (v := 0) hx hb dX5_hasBoth_26 (by decide) ?_
      exact pm_zret hF dX5_hasBoth_27 rfl (by simp [bI, n_8, n_19])
    · have n_19 := bI_n0.mp c_19
      refine lv_iconst (v := 1) hx hb dX5_hasBoth_22 (by decide) ?_
      refine lv_goto (tgt := 27) hx hb dX5_hasBoth_23 (by decide) ?_
      exact pm_zret hF dX5_hasBoth_27 rfl (by simp [bI, n_8, n_19])

set_option maxHeartbeats 4000000 in
set_option maxRecDepth 100000 in
theorem m_X5_levyOn {X : Cx} {l : Launch} (h0 : Init X) {f : Nat → Nat} {k : Sk} (hO : Ok k)  (r : Int32) (x : Int32) (i : Nat) (hxi : x = nI i) (hi : i < k.2 0) : PM X l yX5_levyOn cX5_levyOn 4 (some .int) 1 21 [.ref (f 0), .int r, .int x] (va_P X.D vwCl (skW X f k)) (.int (levI k r i)) := by
  subst hxi
  refine Met.mk (Bh := va_P X.D vwCl (skW X f k)) (by decide) (Nat.le_of_ble_eq_true rfl) ?_
  intro p e s m below meth c ls hF hB hl
  have hl : lv_has ls 4 [(0, .ref (f 0)), (1, .int r), (2, .int (nI i))] := hl
  obtain ⟨hx, hb, hml, hr, hlk, hown, hG⟩ := id hF
  have hK := hG.K h0
  have hS : va_S noA s.heap s.heap [] := va_S.rf
  have hO1 := hO.1
  have hO2 := hO.2.1
  have hO3 := hO.2.2.1
  refine lv_aload_n hx hb dX5_levyOn_0 rfl (lv_at hl 0 rfl) ?_
  refine g_get (ci := 4) (v := .ref (f 1)) h0 hF inX5 hB 0 rfl rfl 0 (by decide) wf_X5_12 rfl rfl dX5_levyOn_1 ?_
  refine lv_iload_n hx hb dX5_levyOn_4 rfl (lv_at hl 2 rfl) ?_
  refine core_p (grV (n := 1) (As := [.int (nI i)]) (rest := []) h0 hF (m_X6_isSeen h0 (f := f) (k := k) hO  (nI i) i rfl (by omega)) wm_X5_101 wo_X6_isSeen ws_X6__X6_isSeen wz_X6 wc_X6_isSeen ⟨by decide, by decide, by decide +kernel⟩ rfl ⟨Nat.le_of_ble_eq_true rfl, Nat.le_of_ble_eq_true rfl⟩ (ci := 5) ⟨_, hB 1 _ rfl⟩ rfl hB hS noA_old ⟨Nat.zero_le _, Nat.zero_le _⟩ hl.1 rfl (Nat.le_of_ble_eq_true rfl) dX5_levyOn_5) ?_
  refine lv_if_eq (tgt := 24) hx hb dX5_levyOn_8 (by decide) (fun c_8 => ?_) (fun c_8 => ?_)
  · have n_8 := bI_0.mp c_8
    refine lv_iconst (v := 1) hx hb dX5_levyOn_24 (by decide) ?_
    refine lv_goto (tgt := 29) hx hb dX5_levyOn_25 (by decide) ?_
    refine lv_istore_n (lv' := [(3, .int 1), (0, .ref (f 0)), (1, .int r), (2, .int (nI i))]) hx hb dX5_levyOn_29 rfl hl (by decide) rfl (fun ls hl => ?_)
    refine lv_iload_n hx hb dX5_levyOn_30 rfl (lv_at hl 0 rfl) ?_
    refine lv_if_eq (tgt := 38) hx hb dX5_levyOn_31 (by decide) (fun c_31 => absurd c_31 (by decide)) (fun c_31 => ?_)
    refine lv_iconst (v := 0) hx hb dX5_levyOn_34 (by decide) ?_
    refine lv_goto (tgt := 47) hx hb dX5_levyOn_35 (by decide) ?_
    exact pm_iret hF dX5_levyOn_47 (by simp [levI, n_8])
  · have n_8 := bI_n0.mp c_8
    refine lv_aload_n hx hb dX5_levyOn_11 rfl (lv_at hl 0 rfl) ?_
    refine g_get (ci := 4) (v := .ref (f 1)) h0 hF inX5 hB 0 rfl rfl 0 (by decide) wf_X5_12 rfl rfl dX5_levyOn_12 ?_
    refine g_get (ci := 5) (v := .ref (f 6)) h0 hF inX6 hB 1 rfl rfl 3 (by decide) wf_X5_110 rfl rfl dX5_levyOn_15 ?_
    refine lv_iload_n hx hb dX5_levyOn_18 rfl (lv_at hl 2 rfl) ?_
    refine g_iald hx hb hK hB 6 0 rfl rfl i (rfl) (by omega) (by decide) dX5_levyOn_19 ?_
    refine lv_iload_n hx hb dX5_levyOn_20 rfl (lv_at hl 1 rfl) ?_
    refine lv_icmp_ne (tgt := 28) hx hb dX5_levyOn_21 (by decide) (fun c_21 => ?_) (fun c_21 => ?_)
    · refine lv_iconst (v := 0) hx hb dX5_levyOn_28 (by decide) ?_
      refine lv_istore_n (lv' := [(3, .int 0), (0, .ref (f 0)), (1, .int r), (2, .int (nI i))]) hx hb dX5_levyOn_29 rfl hl (by decide) rfl (fun ls hl => ?_)
      refine lv_iload_n hx hb dX5_levyOn_30 rfl (lv_at hl 0 rfl) ?_
      refine lv_if_eq (tgt := 38) hx hb dX5_levyOn_31 (by decide) (fun c_31 => ?_) (fun c_31 => absurd c_31 (by decide))
      refine lv_aload_n hx hb dX5_levyOn_38 rfl (lv_at hl 1 rfl) ?_
      refine g_get (ci := 4) (v := .ref (f 1)) h0 hF inX5 hB 0 rfl rfl 0 (by decide) wf_X5_12 rfl rfl dX5_levyOn_39 ?_
      refine g_get (ci := 5) (v := .ref (f 4)) h0 hF inX6 hB 1 rfl rfl 1 (by decide) wf_X5_117 rfl rfl dX5_levyOn_42 ?_
      refine lv_iload_n hx hb dX5_levyOn_45 rfl (lv_at hl 3 rfl) ?_
      refine g_iald hx hb hK hB 4 0 rfl rfl i (rfl) (by omega) (by decide) dX5_levyOn_46 ?_
      exact pm_iret hF dX5_levyOn_47 (by simp [levI, n_8, c_21])
    · refine lv_iconst (v := 1) hx hb dX5_levyOn_24 (by decide) ?_
      refine lv_goto (tgt := 29) hx hb dX5_levyOn_25 (by decide) ?_
      refine lv_istore_n (lv' := [(3, .int 1), (0, .ref (f 0)), (1, .int r), (2, .int (nI i))]) hx hb dX5_levyOn_29 rfl hl (by decide) rfl (fun ls hl => ?_)
      refine lv_iload_n hx hb dX5_levyOn_30 rfl (lv_at hl 0 rfl) ?_
      refine lv_if_eq (tgt := 38) hx hb dX5_levyOn_31 (by decide) (fun c_31 => absurd c_31 (by decide)) (fun c_31 => ?_)
      refine lv_iconst (v := 0) hx hb dX5_levyOn_34 (by decide) ?_
      refine lv_goto (tgt := 47) hx hb dX5_levyOn_35 (by decide) ?_
      exact pm_iret hF dX5_levyOn_47 (by simp [levI, n_8, c_21])

set_option maxHeartbeats 4000000 in
set_option maxRecDepth 100000 in
theorem m_X5_costToRedeem {X : Cx} {l : Launch} (h0 : Init X) {f : Nat → Nat} {k : Sk} (hO : Ok k)  (x : Int32) (w : Nat) (hxw : x = nI w) (hw : w < k.2 2) : PM X l yX5_costToRedeem cX5_costToRedeem 2 (some .int) 0 0 [.ref (f 0), .int x] (va_P X.D vwCl (skW X f k)) (.int (cost k w)) := by
  subst hxw
  refine Met.mk (Bh := va_P X.D vwCl (skW X f k)) (by decide) (Nat.le_of_ble_eq_true rfl) ?_
  intro p e s m below meth c ls hF hB hl
  have hl : lv_has ls 2 [(0, .ref (f 0)), (1, .int (nI w))] := hl
  obtain ⟨hx, hb, hml, hr, hlk, hown, hG⟩ := id hF
  have hK := hG.K h0
  have hS : va_S noA s.heap s.heap [] := va_S.rf
  have hO1 := hO.1
  have hO2 := hO.2.1
  have hO3 := hO.2.2.1
  refine lv_aload_n hx hb dX5_costToRedeem_0 rfl (lv_at hl 0 rfl) ?_
  refine g_get (ci := 4) (v := .ref (f 1)) h0 hF inX5 hB 0 rfl rfl 0 (by decide) wf_X5_12 rfl rfl dX5_costToRedeem_1 ?_
  refine g_get (ci := 5) (v := .ref (f 4)) h0 hF inX6 hB 1 rfl rfl 1 (by decide) wf_X5_117 rfl rfl dX5_costToRedeem_4 ?_
  refine lv_aload_n hx hb dX5_costToRedeem_7 rfl (lv_at hl 0 rfl) ?_
  refine g_get (ci := 4) (v := .ref (f 3)) h0 hF inX5 hB 0 rfl rfl 2 (by decide) wf_X5_28 rfl rfl dX5_costToRedeem_8 ?_
  refine g_get (ci := 6) (v := .ref (f 19)) h0 hF inX7 hB 3 rfl rfl 2 (by decide) wf_X5_142 rfl rfl dX5_costToRedeem_11 ?_
  refine lv_iload_n hx hb dX5_costToRedeem_14 rfl (lv_at hl 1 rfl) ?_
  refine g_iald hx hb hK hB 19 0 rfl rfl w (rfl) (by omega) (by decide) dX5_costToRedeem_15 ?_
  refine g_iald hx hb hK hB 4 0 rfl rfl (wS k w) ((hO.2.2.2.2.2 w hw).1) (Nat.lt_of_lt_of_le (hO.2.2.2.2.2 w hw).2 hO1) (by decide) dX5_costToRedeem_16 ?_
  refine lv_aload_n hx hb dX5_costToRedeem_17 rfl (lv_at hl 0 rfl) ?_
  refine g_get (ci := 4) (v := .ref (f 3)) h0 hF inX5 hB 0 rfl rfl 2 (by decide) wf_X5_28 rfl rfl dX5_costToRedeem_18 ?_
  refine g_get (ci := 6) (v := .ref (f 22)) h0 hF inX7 hB 3 rfl rfl 5 (by decide) wf_X5_145 rfl rfl dX5_costToRedeem_21 ?_
  refine lv_iload_n hx hb dX5_costToRedeem_24 rfl (lv_at hl 1 rfl) ?_
  refine g_iald hx hb hK hB 22 0 rfl rfl w (rfl) (by omega) (by decide) dX5_costToRedeem_25 ?_
  refine lv_iadd hx hb dX5_costToRedeem_26 ?_
  exact pm_iret hF dX5_costToRedeem_27 (rfl)

set_option maxHeartbeats 4000000 in
set_option maxRecDepth 100000 in
theorem m_X5_isGrantable {X : Cx} {l : Launch} (h0 : Init X) {f : Nat → Nat} {k : Sk} (hO : Ok k)  (x : Int32) (w : Nat) (hxw : x = nI w) (hw : w < k.2 2) : PM X l yX5_isGrantable cX5_isGrantable 2 (some .boolean) 1 21 [.ref (f 0), .int x] (va_P X.D vwCl (skW X f k)) (.int (bI (grB k w))) := by
  subst hxw
  refine Met.mk (Bh := va_P X.D vwCl (skW X f k)) (by decide) (Nat.le_of_ble_eq_true rfl) ?_
  intro p e s m below meth c ls hF hB hl
  have hl : lv_has ls 2 [(0, .ref (f 0)), (1, .int (nI w))] := hl
  obtain ⟨hx, hb, hml, hr, hlk, hown, hG⟩ := id hF
  have hK := hG.K h0
  have hS : va_S noA s.heap s.heap [] := va_S.rf
  have hO1 := hO.1
  have hO2 := hO.2.1
  have hO3 := hO.2.2.1
  refine lv_aload_n hx hb dX5_isGrantable_0 rfl (lv_at hl 0 rfl) ?_
  refine g_get (ci := 4) (v := .ref (f 3)) h0 hF inX5 hB 0 rfl rfl 2 (by decide) wf_X5_28 rfl rfl dX5_isGrantable_1 ?_
  refine lv_iload_n hx hb dX5_isGrantable_4 rfl (lv_at hl 1 rfl) ?_
  refine core_p (grV (n := 1) (As := [.int (nI w)]) (rest := []) h0 hF (m_X7_isImpounded h0 (f := f) (k := k) hO  (nI w) w rfl (by omega)) wm_X5_149 wo_X7_isImpounded ws_X7__X7_isImpounded wz_X7 wc_X7_isImpounded ⟨by decide, by decide, by decide +kernel⟩ rfl ⟨Nat.le_of_ble_eq_true rfl, Nat.le_of_ble_eq_true rfl⟩ (ci := 6) ⟨_, hB 3 _ rfl⟩ rfl hB hS noA_old ⟨Nat.zero_le _, Nat.zero_le _⟩ hl.1 rfl (Nat.le_of_ble_eq_true rfl) dX5_isGrantable_5) ?_
  refine lv_if_ne (tgt := 34) hx hb dX5_isGrantable_8 (by decide) (fun c_8 => ?_) (fun c_8 => ?_)
  · have n_8 := bI_n0.mp c_8
    refine lv_iconst (v := 0) hx hb dX5_isGrantable_34 (by decide) ?_
    exact pm_zret hF dX5_isGrantable_35 rfl (by simp [bI, grB, n_8])
  · have n_8 := bI_0.mp c_8
    refine lv_aload_n hx hb dX5_isGrantable_11 rfl (lv_at hl 0 rfl) ?_
    refine g_get (ci := 4) (v := .ref (f 1)) h0 hF inX5 hB 0 rfl rfl 0 (by decide) wf_X5_12 rfl rfl dX5_isGrantable_12 ?_
    refine lv_aload_n hx hb dX5_isGrantable_15 rfl (lv_at hl 0 rfl) ?_
    refine g_get (ci := 4) (v := .ref (f 3)) h0 hF inX5 hB 0 rfl rfl 2 (by decide) wf_X5_28 rfl rfl dX5_isGrantable_16 ?_
    refine g_get (ci := 6) (v := .ref (f 19)) h0 hF inX7 hB 3 rfl rfl 2 (by decide) wf_X5_142 rfl rfl dX5_isGrantable_19 ?_
    refine lv_iload_n hx hb dX5_isGrantable_22 rfl (lv_at hl 1 rfl) ?_
    refine g_iald hx hb hK hB 19 0 rfl rfl w (rfl) (by omega) (by decide) dX5_isGrantable_23 ?_
    refine core_p (grV (n := 1) (As := [.int (k.1 15 w)]) (rest := []) h0 hF (m_X6_isSeen h0 (f := f) (k := k) hO  (k.1 15 w) (wS k w) (hO.2.2.2.2.2 w hw).1 (hO.2.2.2.2.2 w hw).2) wm_X5_101 wo_X6_isSeen ws_X6__X6_isSeen wz_X6 wc_X6_isSeen ⟨by decide, by decide, by decide +kernel⟩ rfl ⟨Nat.le_of_ble_eq_true rfl, Nat.le_of_ble_eq_true rfl⟩ (ci := 5) ⟨_, hB 1 _ rfl⟩ rfl hB hS noA_old ⟨Nat.zero_le _, Nat.zero_le _⟩ hl.1 rfl (Nat.le_of_ble_eq_true rfl) dX5_isGrantable_24) ?_
    refine lv_if_eq (tgt := 34) hx hb dX5_isGrantable_27 (by decide) (fun c_27 => ?_) (fun c_27 => ?_)
    · have n_27 := bI_0.mp c_27
      refine lv_iconst (v := 0) hx hb dX5_isGrantable_34 (by decide) ?_
      exact pm_zret hF dX5_isGrantable_35 rfl (by simp [bI, grB, n_8, n_27])
    · have n_27 := bI_n0.mp c_27
      refine lv_iconst (v := 1) hx hb dX5_isGrantable_30 (by decide) ?_
      refine lv_goto (tgt := 35) hx hb dX5_isGrantable_31 (by decide) ?_
      exact pm_zret hF dX5_isGrantable_35 rfl (by simp [bI, grB, n_8, n_27])

set_option maxHeartbeats 4000000 in
set_option maxRecDepth 100000 in
theorem m_X5_countGrantable {X : Cx} {l : Launch} (h0 : Init X) {f : Nat → Nat} {k : Sk} (hO : Ok k)   : PM X l yX5_countGrantable cX5_countGrantable 3 (some .int) 2 42 [.ref (f 0)] (va_P X.D vwCl (skW X f k)) (.int (nI (cN (fun z => grB k z) (k.2 2)))) := by
  refine Met.mk (Bh := va_P X.D vwCl (skW X f k)) (by decide) (Nat.le_of_ble_eq_true rfl) ?_
  intro p e s m below meth c ls hF hB hl
  have hl : lv_has ls 3 [(0, .ref (f 0))] := hl
  obtain ⟨hx, hb, hml, hr, hlk, hown, hG⟩ := id hF
  have hK := hG.K h0
  have hS : va_S noA s.heap s.heap [] := va_S.rf
  have hO1 := hO.1
  have hO2 := hO.2.1
  have hO3 := hO.2.2.1
  refine lv_iconst (v := 0) hx hb dX5_countGrantable_0 (by decide) ?_
  refine lv_istore_n (lv' := [(1, .int 0), (0, .ref (f 0))]) hx hb dX5_countGrantable_1 rfl hl (by decide) rfl (fun ls hl => ?_)
  refine lv_iconst (v := 0) hx hb dX5_countGrantable_2 (by decide) ?_
  refine lv_istore_n (lv' := [(2, .int 0), (1, .int 0), (0, .ref (f 0))]) hx hb dX5_countGrantable_3 rfl hl (by decide) rfl (fun ls hl => ?_)
  have key_4 : ∀ (nf j : Nat), j + nf = k.2 2 → ∀ (ls : Array Slot), lv_has ls 3 [(0, .ref (f 0)), (1, .int (nI (cN (fun z => grB k z) j))), (2, .int (nI j))] → W p l e ({ frames := 2, cells := 0, slots := 0, locals := 42 } : Room) s m ([.ref (f 0)] : List Value).toArray below meth c s.heap [] 0 0 (MQ below (qP (.int (nI (cN (fun z => grB k z) (k.2 2))))) ([.ref (f 0)] : List Value).toArray s 0 0 noA) (F0 m 4 ls []) := by
    intro nf
    induction nf with
    | zero =>
      intro j hj ls hl
      have hj_e : j = k.2 2 := by omega
      refine lv_iload_n hx hb dX5_countGrantable_4 rfl (lv_at hl 2 rfl) ?_
      refine lv_aload_n hx hb dX5_countGrantable_5 rfl (lv_at hl 0 rfl) ?_
      refine g_get (ci := 4) (v := .ref (f 3)) h0 hF inX5 hB 0 rfl rfl 2 (by decide) wf_X5_28 rfl rfl dX5_countGrantable_6 ?_
      refine g_get (ci := 6) (v := .int (nI (k.2 2))) h0 hF inX7 hB 3 rfl rfl 0 (by decide) wf_X5_123 rfl rfl dX5_countGrantable_9 ?_
      refine lv_icmp_ge (tgt := 32) hx hb dX5_countGrantable_12 (by decide) (fun c_12 => ?_) (fun c_12 => absurd (nI_le (a := k.2 2) (b := j) (by omega) (by omega)) c_12)
      have n_12 := Int32.not_lt.mpr c_12
      refine lv_iload_n hx hb dX5_countGrantable_32 rfl (lv_at hl 1 rfl) ?_
      exact pm_iret hF dX5_countGrantable_33 (by rw [hj_e])
    | succ nf ih_4 =>
      intro j hj ls hl
      have hj_l : j < k.2 2 := by omega
      refine lv_iload_n hx hb dX5_countGrantable_4 rfl (lv_at hl 2 rfl) ?_
      refine lv_aload_n hx hb dX5_countGrantable_5 rfl (lv_at hl 0 rfl) ?_
      refine g_get (ci := 4) (v := .ref (f 3)) h0 hF inX5 hB 0 rfl rfl 2 (by decide) wf_X5_28 rfl rfl dX5_countGrantable_6 ?_
      refine g_get (ci := 6) (v := .int (nI (k.2 2))) h0 hF inX7 hB 3 rfl rfl 0 (by decide) wf_X5_123 rfl rfl dX5_countGrantable_9 ?_
      refine lv_icmp_ge (tgt := 32) hx hb dX5_countGrantable_12 (by decide) (fun c_12 => absurd c_12 (nI_ge (a := j) (b := k.2 2) (by omega) (by omega))) (fun c_12 => ?_)
      have n_12 := Int32.not_le.mp c_12
      refine lv_aload_n hx hb dX5_countGrantable_15 rfl (lv_at hl 0 rfl) ?_
      refine lv_iload_n hx hb dX5_countGrantable_16 rfl (lv_at hl 2 rfl) ?_
      refine core_p (grV (n := 1) (As := [.int (nI j)]) (rest := []) h0 hF (m_X5_isGrantable h0 (f := f) (k := k) hO  (nI j) j rfl (by omega)) wm_X5_178 wo_X5_isGrantable ws_X5__X5_isGrantable wz_X5 wc_X5_isGrantable ⟨by decide, by decide, by decide +kernel⟩ rfl ⟨Nat.le_of_ble_eq_true rfl, Nat.le_of_ble_eq_true rfl⟩ (ci := 4) ⟨_, hB 0 _ rfl⟩ rfl hB hS noA_old ⟨Nat.zero_le _, Nat.zero_le _⟩ hl.1 rfl (Nat.le_of_ble_eq_true rfl) dX5_countGrantable_17) ?_
      refine lv_if_eq (tgt := 26) hx hb dX5_countGrantable_20 (by decide) (fun c_20 => ?_) (fun c_20 => ?_)
      · have n_20 := bI_0.mp c_20
        refine lv_iinc (v := nI (j + 1)) (lv' := [(2, .int (nI (j + 1))), (0, .ref (f 0)), (1, .int (nI (cN (fun z => grB k z) j)))]) hx hb dX5_countGrantable_26 hl (k := 2) rfl (nI_1 j) (by decide) rfl (fun ls hl => ?_)
        refine lv_goto (tgt := 4) hx hb dX5_countGrantable_29 (by decide) ?_
        refine ih_4 (j + 1) (by omega) ls (lv_eqv (lv_sub (l' := [(0, .ref (f 0)), (1, .int (nI (cN (fun z => grB k z) j))), (2, .int (nI (j + 1)))]) hl [1, 2, 0] rfl) ?_)
        rw [show (nI (cN (fun z => grB k z) j)) = (nI (cN (fun z => grB k z) (j + 1))) from (congrArg nI (cN_f (by simp [c_12, n_12, n_20])).symm)]
      · have n_20 := bI_n0.mp c_20
        refine lv_iinc (v := nI ((cN (fun z => grB k z) j) + 1)) (lv' := [(1, .int (nI ((cN (fun z => grB k z) j) + 1))), (0, .ref (f 0)), (2, .int (nI j))]) hx hb dX5_countGrantable_23 hl (k := 1) rfl (nI_1 (cN (fun z => grB k z) j)) (by decide) rfl (fun ls hl => ?_)
        refine lv_iinc (v := nI (j + 1)) (lv' := [(2, .int (nI (j + 1))), (1, .int (nI ((cN (fun z => grB k z) j) + 1))), (0, .ref (f 0))]) hx hb dX5_countGrantable_26 hl (k := 2) rfl (nI_1 j) (by decide) rfl (fun ls hl => ?_)
        refine lv_goto (tgt := 4) hx hb dX5_countGrantable_29 (by decide) ?_
        refine ih_4 (j + 1) (by omega) ls (lv_eqv (lv_sub (l' := [(0, .ref (f 0)), (1, .int (nI ((cN (fun z => grB k z) j) + 1))), (2, .int (nI (j + 1)))]) hl [2, 1, 0] rfl) ?_)
        rw [show (nI ((cN (fun z => grB k z) j) + 1)) = (nI (cN (fun z => grB k z) (j + 1))) from (congrArg nI (cN_t (by simp [c_12, n_12, n_20])).symm)]
  exact key_4 (k.2 2) 0 (by omega) ls (lv_sub hl [2, 1, 0] rfl)

set_option maxHeartbeats 4000000 in
set_option maxRecDepth 100000 in
theorem m_X5_cheapestWish {X : Cx} {l : Launch} (h0 : Init X) {f : Nat → Nat} {k : Sk} (hO : Ok k)  (set : Int32) : PM X l yX5_cheapestWish cX5_cheapestWish 4 (some .int) 1 21 [.ref (f 0), .int set] (va_P X.D vwCl (skW X f k)) (.int (cwR k set (k.2 2))) := by
  refine Met.mk (Bh := va_P X.D vwCl (skW X f k)) (by decide) (Nat.le_of_ble_eq_true rfl) ?_
  intro p e s m below meth c ls hF hB hl
  have hl : lv_has ls 4 [(0, .ref (f 0)), (1, .int set)] := hl
  obtain ⟨hx, hb, hml, hr, hlk, hown, hG⟩ := id hF
  have hK := hG.K h0
  have hS : va_S noA s.heap s.heap [] := va_S.rf
  have hO1 := hO.1
  have hO2 := hO.2.1
  have hO3 := hO.2.2.1
  refine lv_bipush (v := (-4)) hx hb dX5_cheapestWish_0 (by decide) ?_
  refine lv_istore_n (lv' := [(2, .int (-4)), (0, .ref (f 0)), (1, .int set)]) hx hb dX5_cheapestWish_2 rfl hl (by decide) rfl (fun ls hl => ?_)
  refine lv_iconst (v := 0) hx hb dX5_cheapestWish_3 (by decide) ?_
  refine lv_istore_n (lv' := [(3, .int 0), (2, .int (-4)), (0, .ref (f 0)), (1, .int set)]) hx hb dX5_cheapestWish_4 rfl hl (by decide) rfl (fun ls hl => ?_)
  have key_5 : ∀ (nf j : Nat), j + nf = k.2 2 → ∀ (ls : Array Slot), lv_has ls 4 [(0, .ref (f 0)), (1, .int set), (2, .int (cwR k set j)), (3, .int (nI j))] → W p l e ({ frames := 1, cells := 0, slots := 0, locals := 21 } : Room) s m ([.ref (f 0), .int set] : List Value).toArray below meth c s.heap [] 0 0 (MQ below (qP (.int (cwR k set (k.2 2)))) ([.ref (f 0), .int set] : List Value).toArray s 0 0 noA) (F0 m 5 ls []) := by
    intro nf
    induction nf with
    | zero =>
      intro j hj ls hl
      have hj_e : j = k.2 2 := by omega
      refine lv_iload_n hx hb dX5_cheapestWish_5 rfl (lv_at hl 3 rfl) ?_
      refine lv_aload_n hx hb dX5_cheapestWish_6 rfl (lv_at hl 0 rfl) ?_
      refine g_get (ci := 4) (v := .ref (f 3)) h0 hF inX5 hB 0 rfl rfl 2 (by decide) wf_X5_28 rfl rfl dX5_cheapestWish_7 ?_
      refine g_get (ci := 6) (v := .int (nI (k.2 2))) h0 hF inX7 hB 3 rfl rfl 0 (by decide) wf_X5_123 rfl rfl dX5_cheapestWish_10 ?_
      refine lv_icmp_ge (tgt := 51) hx hb dX5_cheapestWish_13 (by decide) (fun c_13 => ?_) (fun c_13 => absurd (nI_le (a := k.2 2) (b := j) (by omega) (by omega)) c_13)
      have n_13 := Int32.not_lt.mpr c_13
      refine lv_iload_n hx hb dX5_cheapestWish_51 rfl (lv_at hl 2 rfl) ?_
      exact pm_iret hF dX5_cheapestWish_52 (by rw [hj_e])
    | succ nf ih_5 =>
      intro j hj ls hl
      have hj_l : j < k.2 2 := by omega
      refine lv_iload_n hx hb dX5_cheapestWish_5 rfl (lv_at hl 3 rfl) ?_
      refine lv_aload_n hx hb dX5_cheapestWish_6 rfl (lv_at hl 0 rfl) ?_
      refine g_get (ci := 4) (v := .ref (f 3)) h0 hF inX5 hB 0 rfl rfl 2 (by decide) wf_X5_28 rfl rfl dX5_cheapestWish_7 ?_
      refine g_get (ci := 6) (v := .int (nI (k.2 2))) h0 hF inX7 hB 3 rfl rfl 0 (by decide) wf_X5_123 rfl rfl dX5_cheapestWish_10 ?_
      refine lv_icmp_ge (tgt := 51) hx hb dX5_cheapestWish_13 (by decide) (fun c_13 => absurd c_13 (nI_ge (a := j) (b := k.2 2) (by omega) (by omega))) (fun c_13 => ?_)
      have n_13 := Int32.not_le.mp c_13
      refine lv_iload_n hx hb dX5_cheapestWish_16 rfl (lv_at hl 1 rfl) ?_
      refine lv_iconst (v := 1) hx hb dX5_cheapestWish_17 (by decide) ?_
      refine lv_iload_n hx hb dX5_cheapestWish_18 rfl (lv_at hl 3 rfl) ?_
      refine lv_ishl hx hb dX5_cheapestWish_19 ?_
      refine lv_iand hx hb dX5_cheapestWish_20 ?_
      refine lv_if_eq (tgt := 45) hx hb dX5_cheapestWish_21 (by decide) (fun c_21 => ?_) (fun c_21 => ?_)
      · refine lv_iinc (v := nI (j + 1)) (lv' := [(3, .int (nI (j + 1))), (0, .ref (f 0)), (1, .int set), (2, .int (cwR k set j))]) hx hb dX5_cheapestWish_45 hl (k := 3) rfl (nI_1 j) (by decide) rfl (fun ls hl => ?_)
        refine lv_goto (tgt := 5) hx hb dX5_cheapestWish_48 (by decide) ?_
        refine ih_5 (j + 1) (by omega) ls (lv_eqv (lv_sub (l' := [(0, .ref (f 0)), (1, .int set), (2, .int (cwR k set j)), (3, .int (nI (j + 1)))]) hl [1, 2, 3, 0] rfl) ?_)
        rw [show (cwR k set j) = (cwR k set (j + 1)) from (by rw [cwR]; simp only [bitI, c_13, n_13, c_21, if_true, if_false, not_true, not_false_eq_true, ite_self])]
      · refine lv_iload_n hx hb dX5_cheapestWish_24 rfl (lv_at hl 2 rfl) ?_
        refine lv_bipush (v := (-4)) hx hb dX5_cheapestWish_25 (by decide) ?_
        refine lv_icmp_eq (tgt := 43) hx hb dX5_cheapestWish_27 (by decide) (fun c_27 => ?_) (fun c_27 => ?_)
        · refine lv_iload_n hx hb dX5_cheapestWish_43 rfl (lv_at hl 3 rfl) ?_
          refine lv_istore_n (lv' := [(2, .int (nI j)), (0, .ref (f 0)), (1, .int set), (3, .int (nI j))]) hx hb dX5_cheapestWish_44 rfl hl (by decide) rfl (fun ls hl => ?_)
          refine lv_iinc (v := nI (j + 1)) (lv' := [(3, .int (nI (j + 1))), (2, .int (nI j)), (0, .ref (f 0)), (1, .int set)]) hx hb dX5_cheapestWish_45 hl (k := 3) rfl (nI_1 j) (by decide) rfl (fun ls hl => ?_)
          refine lv_goto (tgt := 5) hx hb dX5_cheapestWish_48 (by decide) ?_
          refine ih_5 (j + 1) (by omega) ls (lv_eqv (lv_sub (l' := [(0, .ref (f 0)), (1, .int set), (2, .int (nI j)), (3, .int (nI (j + 1)))]) hl [2, 3, 1, 0] rfl) ?_)
          rw [show (nI j) = (cwR k set (j + 1)) from (by rw [cwR]; simp only [bitI, c_13, n_13, c_21, c_27, if_true, if_false, not_true, not_false_eq_true, ite_self])]
        · refine lv_aload_n hx hb dX5_cheapestWish_30 rfl (lv_at hl 0 rfl) ?_
          refine lv_iload_n hx hb dX5_cheapestWish_31 rfl (lv_at hl 3 rfl) ?_
          refine core_p (grV (n := 1) (As := [.int (nI j)]) (rest := []) h0 hF (m_X5_costToRedeem h0 (f := f) (k := k) hO  (nI j) j rfl (by omega)) wm_X5_158 wo_X5_costToRedeem ws_X5__X5_costToRedeem wz_X5 wc_X5_costToRedeem ⟨by decide, by decide, by decide +kernel⟩ rfl ⟨Nat.le_of_ble_eq_true rfl, Nat.le_of_ble_eq_true rfl⟩ (ci := 4) ⟨_, hB 0 _ rfl⟩ rfl hB hS noA_old ⟨Nat.zero_le _, Nat.zero_le _⟩ hl.1 rfl (Nat.le_of_ble_eq_true rfl) dX5_cheapestWish_32) ?_
          refine lv_aload_n hx hb dX5_cheapestWish_35 rfl (lv_at hl 0 rfl) ?_
          refine lv_iload_n hx hb dX5_cheapestWish_36 rfl (lv_at hl 2 rfl) ?_
          refine core_p (grV (n := 1) (As := [.int (cwR k set j)]) (rest := [.int (cost k j)]) h0 hF (m_X5_costToRedeem h0 (f := f) (k := k) hO  (cwR k set j) (cwR k set j).toNatClampNeg (cwR_in k set j (by omega) c_27).1 (Nat.lt_trans (cwR_in k set j (by omega) c_27).2 hj_l)) wm_X5_158 wo_X5_costToRedeem ws_X5__X5_costToRedeem wz_X5 wc_X5_costToRedeem ⟨by decide, by decide, by decide +kernel⟩ rfl ⟨Nat.le_of_ble_eq_true rfl, Nat.le_of_ble_eq_true rfl⟩ (ci := 4) ⟨_, hB 0 _ rfl⟩ rfl hB hS noA_old ⟨Nat.zero_le _, Nat.zero_le _⟩ hl.1 rfl (Nat.le_of_ble_eq_true rfl) dX5_cheapestWish_37) ?_
          refine lv_icmp_ge (tgt := 45) hx hb dX5_cheapestWish_40 (by decide) (fun c_40 => ?_) (fun c_40 => ?_)
          · have n_40 := Int32.not_lt.mpr c_40
            refine lv_iinc (v := nI (j + 1)) (lv' := [(3, .int (nI (j + 1))), (0, .ref (f 0)), (1, .int set), (2, .int (cwR k set j))]) hx hb dX5_cheapestWish_45 hl (k := 3) rfl (nI_1 j) (by decide) rfl (fun ls hl => ?_)
            refine lv_goto (tgt := 5) hx hb dX5_cheapestWish_48 (by decide) ?_
            refine ih_5 (j + 1) (by omega) ls (lv_eqv (lv_sub (l' := [(0, .ref (f 0)), (1, .int set), (2, .int (cwR k set j)), (3, .int (nI (j + 1)))]) hl [1, 2, 3, 0] rfl) ?_)
            rw [show (cwR k set j) = (cwR k set (j + 1)) from (by rw [cwR]; simp only [bitI, c_13, n_13, c_21, c_27, c_40, n_40, if_true, if_false, not_true, not_false_eq_true, ite_self])]
          · have n_40 := Int32.not_le.mp c_40
            refine lv_iload_n hx hb dX5_cheapestWish_43 rfl (lv_at hl 3 rfl) ?_
            refine lv_istore_n (lv' := [(2, .int (nI j)), (0, .ref (f 0)), (1, .int set), (3, .int (nI j))]) hx hb dX5_cheapestWish_44 rfl hl (by decide) rfl (fun ls hl => ?_)
            refine lv_iinc (v := nI (j + 1)) (lv' := [(3, .int (nI (j + 1))), (2, .int (nI j)), (0, .ref (f 0)), (1, .int set)]) hx hb dX5_cheapestWish_45 hl (k := 3) rfl (nI_1 j) (by decide) rfl (fun ls hl => ?_)
            refine lv_goto (tgt := 5) hx hb dX5_cheapestWish_48 (by decide) ?_
            refine ih_5 (j + 1) (by omega) ls (lv_eqv (lv_sub (l' := [(0, .ref (f 0)), (1, .int set), (2, .int (nI j)), (3, .int (nI (j + 1)))]) hl [2, 3, 1, 0] rfl) ?_)
            rw [show (nI j) = (cwR k set (j + 1)) from (by rw [cwR]; simp only [bitI, c_13, n_13, c_21, c_27, c_40, n_40, if_true, if_false, not_true, not_false_eq_true, ite_self])]
  exact key_5 (k.2 2) 0 (by omega) ls (lv_sub hl [2, 3, 1, 0] rfl)

set_option maxHeartbeats 4000000 in
set_option maxRecDepth 100000 in
theorem m_X5_costOfSet {X : Cx} {l : Launch} (h0 : Init X) {f : Nat → Nat} {k : Sk} (hO : Ok k)  (set : Int32) : PM X l yX5_costOfSet cX5_costOfSet 4 (some .int) 1 21 [.ref (f 0), .int set] (va_P X.D vwCl (skW X f k)) (.int (coS k set (k.2 2))) := by
  refine Met.mk (Bh := va_P X.D vwCl (skW X f k)) (by decide) (Nat.le_of_ble_eq_true rfl) ?_
  intro p e s m below meth c ls hF hB hl
  have hl : lv_has ls 4 [(0, .ref (f 0)), (1, .int set)] := hl
  obtain ⟨hx, hb, hml, hr, hlk, hown, hG⟩ := id hF
  have hK := hG.K h0
  have hS : va_S noA s.heap s.heap [] := va_S.rf
  have hO1 := hO.1
  have hO2 := hO.2.1
  have hO3 := hO.2.2.1
  refine lv_iconst (v := 0) hx hb dX5_costOfSet_0 (by decide) ?_
  refine lv_istore_n (lv' := [(2, .int 0), (0, .ref (f 0)), (1, .int set)]) hx hb dX5_costOfSet_1 rfl hl (by decide) rfl (fun ls hl => ?_)
  refine lv_iconst (v := 0) hx hb dX5_costOfSet_2 (by decide) ?_
  refine lv_istore_n (lv' := [(3, .int 0), (2, .int 0), (0, .ref (f 0)), (1, .int set)]) hx hb dX5_costOfSet_3 rfl hl (by decide) rfl (fun ls hl => ?_)
  have key_4 : ∀ (nf j : Nat), j + nf = k.2 2 → ∀ (ls : Array Slot), lv_has ls 4 [(0, .ref (f 0)), (1, .int set), (2, .int (coS k set j)), (3, .int (nI j))] → W p l e ({ frames := 1, cells := 0, slots := 0, locals := 21 } : Room) s m ([.ref (f 0), .int set] : List Value).toArray below meth c s.heap [] 0 0 (MQ below (qP (.int (coS k set (k.2 2)))) ([.ref (f 0), .int set] : List Value).toArray s 0 0 noA) (F0 m 4 ls []) := by
    intro nf
    induction nf with
    | zero =>
      intro j hj ls hl
      have hj_e : j = k.2 2 := by omega
      refine lv_iload_n hx hb dX5_costOfSet_4 rfl (lv_at hl 3 rfl) ?_
      refine lv_aload_n hx hb dX5_costOfSet_5 rfl (lv_at hl 0 rfl) ?_
      refine g_get (ci := 4) (v := .ref (f 3)) h0 hF inX5 hB 0 rfl rfl 2 (by decide) wf_X5_28 rfl rfl dX5_costOfSet_6 ?_
      refine g_get (ci := 6) (v := .int (nI (k.2 2))) h0 hF inX7 hB 3 rfl rfl 0 (by decide) wf_X5_123 rfl rfl dX5_costOfSet_9 ?_
      refine lv_icmp_ge (tgt := 37) hx hb dX5_costOfSet_12 (by decide) (fun c_12 => ?_) (fun c_12 => absurd (nI_le (a := k.2 2) (b := j) (by omega) (by omega)) c_12)
      have n_12 := Int32.not_lt.mpr c_12
      refine lv_iload_n hx hb dX5_costOfSet_37 rfl (lv_at hl 2 rfl) ?_
      exact pm_iret hF dX5_costOfSet_38 (by rw [hj_e])
    | succ nf ih_4 =>
      intro j hj ls hl
      have hj_l : j < k.2 2 := by omega
      refine lv_iload_n hx hb dX5_costOfSet_4 rfl (lv_at hl 3 rfl) ?_
      refine lv_aload_n hx hb dX5_costOfSet_5 rfl (lv_at hl 0 rfl) ?_
      refine g_get (ci := 4) (v := .ref (f 3)) h0 hF inX5 hB 0 rfl rfl 2 (by decide) wf_X5_28 rfl rfl dX5_costOfSet_6 ?_
      refine g_get (ci := 6) (v := .int (nI (k.2 2))) h0 hF inX7 hB 3 rfl rfl 0 (by decide) wf_X5_123 rfl rfl dX5_costOfSet_9 ?_
      refine lv_icmp_ge (tgt := 37) hx hb dX5_costOfSet_12 (by decide) (fun c_12 => absurd c_12 (nI_ge (a := j) (b := k.2 2) (by omega) (by omega))) (fun c_12 => ?_)
      have n_12 := Int32.not_le.mp c_12
      refine lv_iload_n hx hb dX5_costOfSet_15 rfl (lv_at hl 1 rfl) ?_
      refine lv_iconst (v := 1) hx hb dX5_costOfSet_16 (by decide) ?_
      refine lv_iload_n hx hb dX5_costOfSet_17 rfl (lv_at hl 3 rfl) ?_
      refine lv_ishl hx hb dX5_costOfSet_18 ?_
      refine lv_iand hx hb dX5_costOfSet_19 ?_
      refine lv_if_eq (tgt := 31) hx hb dX5_costOfSet_20 (by decide) (fun c_20 => ?_) (fun c_20 => ?_)
      · refine lv_iinc (v := nI (j + 1)) (lv' := [(3, .int (nI (j + 1))), (0, .ref (f 0)), (1, .int set), (2, .int (coS k set j))]) hx hb dX5_costOfSet_31 hl (k := 3) rfl (nI_1 j) (by decide) rfl (fun ls hl => ?_)
        refine lv_goto (tgt := 4) hx hb dX5_costOfSet_34 (by decide) ?_
        refine ih_4 (j + 1) (by omega) ls (lv_eqv (lv_sub (l' := [(0, .ref (f 0)), (1, .int set), (2, .int (coS k set j)), (3, .int (nI (j + 1)))]) hl [1, 2, 3, 0] rfl) ?_)
        rw [show (coS k set j) = (coS k set (j + 1)) from (by rw [coS]; simp only [bitI, c_12, n_12, c_20, if_true, if_false])]
      · refine lv_iload_n hx hb dX5_costOfSet_23 rfl (lv_at hl 2 rfl) ?_
        refine lv_aload_n hx hb dX5_costOfSet_24 rfl (lv_at hl 0 rfl) ?_
        refine lv_iload_n hx hb dX5_costOfSet_25 rfl (lv_at hl 3 rfl) ?_
        refine core_p (grV (n := 1) (As := [.int (nI j)]) (rest := [.int (coS k set j)]) h0 hF (m_X5_costToRedeem h0 (f := f) (k := k) hO  (nI j) j rfl (by omega)) wm_X5_158 wo_X5_costToRedeem ws_X5__X5_costToRedeem wz_X5 wc_X5_costToRedeem ⟨by decide, by decide, by decide +kernel⟩ rfl ⟨Nat.le_of_ble_eq_true rfl, Nat.le_of_ble_eq_true rfl⟩ (ci := 4) ⟨_, hB 0 _ rfl⟩ rfl hB hS noA_old ⟨Nat.zero_le _, Nat.zero_le _⟩ hl.1 rfl (Nat.le_of_ble_eq_true rfl) dX5_costOfSet_26) ?_
        refine lv_iadd hx hb dX5_costOfSet_29 ?_
        refine lv_istore_n (lv' := [(2, .int ((coS k set j) + (cost k j))), (0, .ref (f 0)), (1, .int set), (3, .int (nI j))]) hx hb dX5_costOfSet_30 rfl hl (by decide) rfl (fun ls hl => ?_)
        refine lv_iinc (v := nI (j + 1)) (lv' := [(3, .int (nI (j + 1))), (2, .int ((coS k set j) + (cost k j))), (0, .ref (f 0)), (1, .int set)]) hx hb dX5_costOfSet_31 hl (k := 3) rfl (nI_1 j) (by decide) rfl (fun ls hl => ?_)
        refine lv_goto (tgt := 4) hx hb dX5_costOfSet_34 (by decide) ?_
        refine ih_4 (j + 1) (by omega) ls (lv_eqv (lv_sub (l' := [(0, .ref (f 0)), (1, .int set), (2, .int ((coS k set j) + (cost k j))), (3, .int (nI (j + 1)))]) hl [2, 3, 1, 0] rfl) ?_)
        rw [show ((coS k set j) + (cost k j)) = (coS k set (j + 1)) from (by rw [coS]; simp only [bitI, c_12, n_12, c_20, if_true, if_false])]
  exact key_4 (k.2 2) 0 (by omega) ls (lv_sub hl [2, 3, 1, 0] rfl)

set_option maxHeartbeats 4000000 in
set_option maxRecDepth 100000 in
theorem m_J6_bitCount_0f7a4 {X : Cx} {l : Launch} (h0 : Init X) (x : Int32) : PM X l yJ6_bitCount_0f7a4 cJ6_bitCount_0f7a4 1 (some .int) 0 0 [.int x] noW (.int (bcI x)) := by
  refine Met.mk (Bh := noW) (by decide) (Nat.le_of_ble_eq_true rfl) ?_
  intro p e s m below meth c ls hF hB hl
  have hl : lv_has ls 1 [(0, .int x)] := hl
  obtain ⟨hx, hb, hml, hr, hlk, hown, hG⟩ := id hF
  have hK := hG.K h0
  have hS : va_S noA s.heap s.heap [] := va_S.rf
  refine lv_iload_n hx hb dJ6_bitCount_0f7a4_0 rfl (lv_at hl 0 rfl) ?_
  refine lv_iload_n hx hb dJ6_bitCount_0f7a4_1 rfl (lv_at hl 0 rfl) ?_
  refine lv_iconst (v := 1) hx hb dJ6_bitCount_0f7a4_2 (by decide) ?_
  refine lv_iushr (v := ush x 1) hx hb dJ6_bitCount_0f7a4_3 rfl ?_
  refine lv_ldcw hx hb hown (hG.hts h0 _ _ wn_J6_265) dJ6_bitCount_0f7a4_4 ?_
  refine lv_iand hx hb dJ6_bitCount_0f7a4_7 ?_
  refine lv_isub hx hb dJ6_bitCount_0f7a4_8 ?_
  refine lv_topE (y := bc1 x) (rfl) ?_
  refine lv_istore_n (lv' := [(0, .int (bc1 x))]) hx hb dJ6_bitCount_0f7a4_9 rfl hl (by decide) rfl (fun ls hl => ?_)
  refine lv_iload_n hx hb dJ6_bitCount_0f7a4_10 rfl (lv_at hl 0 rfl) ?_
  refine lv_ldcw hx hb hown (hG.hts h0 _ _ wn_J6_266) dJ6_bitCount_0f7a4_11 ?_
  refine lv_iand hx hb dJ6_bitCount_0f7a4_14 ?_
  refine lv_iload_n hx hb dJ6_bitCount_0f7a4_15 rfl (lv_at hl 0 rfl) ?_
  refine lv_iconst (v := 2) hx hb dJ6_bitCount_0f7a4_16 (by decide) ?_
  refine lv_iushr (v := ush (bc1 x) 2) hx hb dJ6_bitCount_0f7a4_17 rfl ?_
  refine lv_ldcw hx hb hown (hG.hts h0 _ _ wn_J6_266) dJ6_bitCount_0f7a4_18 ?_
  refine lv_iand hx hb dJ6_bitCount_0f7a4_21 ?_
  refine lv_iadd hx hb dJ6_bitCount_0f7a4_22 ?_
  refine lv_topE (y := bc2 (bc1 x)) (rfl) ?_
  refine lv_istore_n (lv' := [(0, .int (bc2 (bc1 x)))]) hx hb dJ6_bitCount_0f7a4_23 rfl hl (by decide) rfl (fun ls hl => ?_)
  refine lv_iload_n hx hb dJ6_bitCount_0f7a4_24 rfl (lv_at hl 0 rfl) ?_
  refine lv_iload_n hx hb dJ6_bitCount_0f7a4_25 rfl (lv_at hl 0 rfl) ?_
  refine lv_iconst (v := 4) hx hb dJ6_bitCount_0f7a4_26 (by decide) ?_
  refine lv_iushr (v := ush (bc2 (bc1 x)) 4) hx hb dJ6_bitCount_0f7a4_27 rfl ?_
  refine lv_iadd hx hb dJ6_bitCount_0f7a4_28 ?_
  refine lv_ldcw hx hb hown (hG.hts h0 _ _ wn_J6_267) dJ6_bitCount_0f7a4_29 ?_
  refine lv_iand hx hb dJ6_bitCount_0f7a4_32 ?_
  refine lv_topE (y := bc3 (bc2 (bc1 x))) (rfl) ?_
  refine lv_istore_n (lv' := [(0, .int (bc3 (bc2 (bc1 x))))]) hx hb dJ6_bitCount_0f7a4_33 rfl hl (by decide) rfl (fun ls hl => ?_)
  refine lv_iload_n hx hb dJ6_bitCount_0f7a4_34 rfl (lv_at hl 0 rfl) ?_
  refine lv_iload_n hx hb dJ6_bitCount_0f7a4_35 rfl (lv_at hl 0 rfl) ?_
  refine lv_bipush (v := 8) hx hb dJ6_bitCount_0f7a4_36 (by decide) ?_
  refine lv_iushr (v := ush (bc3 (bc2 (bc1 x))) 8) hx hb dJ6_bitCount_0f7a4_38 rfl ?_
  refine lv_iadd hx hb dJ6_bitCount_0f7a4_39 ?_
  refine lv_topE (y := bc4 (bc3 (bc2 (bc1 x)))) (rfl) ?_
  refine lv_istore_n (lv' := [(0, .int (bc4 (bc3 (bc2 (bc1 x)))))]) hx hb dJ6_bitCount_0f7a4_40 rfl hl (by decide) rfl (fun ls hl => ?_)
  refine lv_iload_n hx hb dJ6_bitCount_0f7a4_41 rfl (lv_at hl 0 rfl) ?_
  refine lv_iload_n hx hb dJ6_bitCount_0f7a4_42 rfl (lv_at hl 0 rfl) ?_
  refine lv_bipush (v := 16) hx hb dJ6_bitCount_0f7a4_43 (by decide) ?_
  refine lv_iushr (v := ush (bc4 (bc3 (bc2 (bc1 x)))) 16) hx hb dJ6_bitCount_0f7a4_45 rfl ?_
  refine lv_iadd hx hb dJ6_bitCount_0f7a4_46 ?_
  refine lv_topE (y := bc5 (bc4 (bc3 (bc2 (bc1 x))))) (rfl) ?_
  refine lv_istore_n (lv' := [(0, .int (bc5 (bc4 (bc3 (bc2 (bc1 x))))))]) hx hb dJ6_bitCount_0f7a4_47 rfl hl (by decide) rfl (fun ls hl => ?_)
  refine lv_iload_n hx hb dJ6_bitCount_0f7a4_48 rfl (lv_at hl 0 rfl) ?_
  refine lv_bipush (v := 63) hx hb dJ6_bitCount_0f7a4_49 (by decide) ?_
  refine lv_iand hx hb dJ6_bitCount_0f7a4_51 ?_
  exact pm_iret hF dJ6_bitCount_0f7a4_52 (rfl)

set_option maxHeartbeats 4000000 in
set_option maxRecDepth 100000 in
theorem m_X5_countRedeemableByTrying {X : Cx} {l : Launch} (h0 : Init X) {f : Nat → Nat} {k : Sk} (hO : Ok k)  (x : Int32) (r : Nat) (hxr : x = nI r) (hr : r < k.2 1) : PM X l yX5_countRedeemableByTrying cX5_countRedeemableByTrying 5 (some .int) 2 44 [.ref (f 0), .int x] (va_P X.D vwCl (skW X f k)) (.int (tR k r (iN k (nI r) (k.2 2)) (iN k (nI r) (k.2 2) + 1))) := by
  subst hxr
  refine Met.mk (Bh := va_P X.D vwCl (skW X f k)) (by decide) (Nat.le_of_ble_eq_true rfl) ?_
  intro p e s m below meth c ls hF hB hl
  have hl : lv_has ls 5 [(0, .ref (f 0)), (1, .int (nI r))] := hl
  obtain ⟨hx, hb, hml, hr, hlk, hown, hG⟩ := id hF
  have hK := hG.K h0
  have hS : va_S noA s.heap s.heap [] := va_S.rf
  have hO1 := hO.1
  have hO2 := hO.2.1
  have hO3 := hO.2.2.1
  have hA8 := iN_lt k (nI r) (k.2 2)
  have hA9 : 2 ^ (k.2 2) ≤ 2 ^ 8 := Nat.pow_le_pow_right (by decide) hO3
  refine lv_aload_n hx hb dX5_countRedeemableByTrying_0 rfl (lv_at hl 0 rfl) ?_
  refine g_get (ci := 4) (v := .ref (f 3)) h0 hF inX5 hB 0 rfl rfl 2 (by decide) wf_X5_28 rfl rfl dX5_countRedeemableByTrying_1 ?_
  refine lv_iload_n hx hb dX5_countRedeemableByTrying_4 rfl (lv_at hl 1 rfl) ?_
  refine core_p (grV (n := 1) (As := [.int (nI r)]) (rest := []) h0 hF (m_X7_impoundedSetOf h0 (f := f) (k := k) hO  (nI r)) wm_X5_187 wo_X7_impoundedSetOf ws_X7__X7_impoundedSetOf wz_X7 wc_X7_impoundedSetOf ⟨by decide, by decide, by decide +kernel⟩ rfl ⟨Nat.le_of_ble_eq_true rfl, Nat.le_of_ble_eq_true rfl⟩ (ci := 6) ⟨_, hB 3 _ rfl⟩ rfl hB hS noA_old ⟨Nat.zero_le _, Nat.zero_le _⟩ hl.1 rfl (Nat.le_of_ble_eq_true rfl) dX5_countRedeemableByTrying_5) ?_
  refine lv_istore_n (lv' := [(2, .int (nI (iN k (nI r) (k.2 2)))), (0, .ref (f 0)), (1, .int (nI r))]) hx hb dX5_countRedeemableByTrying_8 rfl hl (by decide) rfl (fun ls hl => ?_)
  refine lv_iconst (v := 0) hx hb dX5_countRedeemableByTrying_9 (by decide) ?_
  refine lv_istore_n (lv' := [(3, .int 0), (2, .int (nI (iN k (nI r) (k.2 2)))), (0, .ref (f 0)), (1, .int (nI r))]) hx hb dX5_countRedeemableByTrying_10 rfl hl (by decide) rfl (fun ls hl => ?_)
  refine lv_iconst (v := 0) hx hb dX5_countRedeemableByTrying_11 (by decide) ?_
  refine lv_istore (lv' := [(4, .int 0), (3, .int 0), (2, .int (nI (iN k (nI r) (k.2 2)))), (0, .ref (f 0)), (1, .int (nI r))]) hx hb dX5_countRedeemableByTrying_12 hl (by decide) rfl (fun ls hl => ?_)
  have key_14 : ∀ (nf j : Nat), j + nf = iN k (nI r) (k.2 2) + 1 → ∀ (ls : Array Slot), lv_has ls 5 [(0, .ref (f 0)), (1, .int (nI r)), (2, .int (nI (iN k (nI r) (k.2 2)))), (3, .int (tR k r (iN k (nI r) (k.2 2)) j)), (4, .int (nI j))] → W p l e ({ frames := 2, cells := 0, slots := 0, locals := 44 } : Room) s m ([.ref (f 0), .int (nI r)] : List Value).toArray below meth c s.heap [] 0 0 (MQ below (qP (.int (tR k r (iN k (nI r) (k.2 2)) (iN k (nI r) (k.2 2) + 1)))) ([.ref (f 0), .int (nI r)] : List Value).toArray s 0 0 noA) (F0 m 14 ls []) := by
    intro nf
    induction nf with
    | zero =>
      intro j hj ls hl
      have hj_e : j = iN k (nI r) (k.2 2) + 1 := by omega
      refine lv_iload hx hb dX5_countRedeemableByTrying_14 (lv_at hl 4 rfl) ?_
      refine lv_iload_n hx hb dX5_countRedeemableByTrying_16 rfl (lv_at hl 2 rfl) ?_
      refine lv_icmp_gt (tgt := 63) hx hb dX5_countRedeemableByTrying_17 (by decide) (fun c_17 => ?_) (fun c_17 => absurd (nI_lt (a := iN k (nI r) (k.2 2)) (b := j) (by omega) (by omega)) c_17)
      have n_17 := Int32.not_le.mpr c_17
      refine lv_iload_n hx hb dX5_countRedeemableByTrying_63 rfl (lv_at hl 3 rfl) ?_
      exact pm_iret hF dX5_countRedeemableByTrying_64 (by rw [hj_e])
    | succ nf ih_14 =>
      intro j hj ls hl
      have hj_l : j < iN k (nI r) (k.2 2) + 1 := by omega
      refine lv_iload hx hb dX5_countRedeemableByTrying_14 (lv_at hl 4 rfl) ?_
      refine lv_iload_n hx hb dX5_countRedeemableByTrying_16 rfl (lv_at hl 2 rfl) ?_
      refine lv_icmp_gt (tgt := 63) hx hb dX5_countRedeemableByTrying_17 (by decide) (fun c_17 => absurd c_17 (nI_nlt (a := iN k (nI r) (k.2 2)) (b := j) (by omega) (by omega))) (fun c_17 => ?_)
      have n_17 := Int32.not_lt.mp c_17
      refine lv_iload hx hb dX5_countRedeemableByTrying_20 (lv_at hl 4 rfl) ?_
      refine lv_iload_n hx hb dX5_countRedeemableByTrying_22 rfl (lv_at hl 2 rfl) ?_
      refine lv_iconst (v := (-1)) hx hb dX5_countRedeemableByTrying_23 (by decide) ?_
      refine lv_ixor hx hb dX5_countRedeemableByTrying_24 ?_
      refine lv_iand hx hb dX5_countRedeemableByTrying_25 ?_
      refine lv_if_ne (tgt := 57) hx hb dX5_countRedeemableByTrying_26 (by decide) (fun c_26 => ?_) (fun c_26 => ?_)
      · refine lv_iinc (v := nI (j + 1)) (lv' := [(4, .int (nI (j + 1))), (0, .ref (f 0)), (1, .int (nI r)), (2, .int (nI (iN k (nI r) (k.2 2)))), (3, .int (tR k r (iN k (nI r) (k.2 2)) j))]) hx hb dX5_countRedeemableByTrying_57 hl (k := 4) rfl (nI_1 j) (by decide) rfl (fun ls hl => ?_)
        refine lv_goto (tgt := 14) hx hb dX5_countRedeemableByTrying_60 (by decide) ?_
        refine ih_14 (j + 1) (by omega) ls (lv_eqv (lv_sub (l' := [(0, .ref (f 0)), (1, .int (nI r)), (2, .int (nI (iN k (nI r) (k.2 2)))), (3, .int (tR k r (iN k (nI r) (k.2 2)) j)), (4, .int (nI (j + 1)))]) hl [1, 2, 3, 4, 0] rfl) ?_)
        rw [show (tR k r (iN k (nI r) (k.2 2)) j) = (tR k r (iN k (nI r) (k.2 2)) (j + 1)) from (by rw [tR]; simp only [c_17, n_17, c_26, and_true, true_and, and_self, and_false, false_and, if_true, if_false])]
      · refine lv_aload_n hx hb dX5_countRedeemableByTrying_29 rfl (lv_at hl 0 rfl) ?_
        refine lv_iload hx hb dX5_countRedeemableByTrying_30 (lv_at hl 4 rfl) ?_
        refine core_p (grV (n := 1) (As := [.int (nI j)]) (rest := []) h0 hF (m_X5_costOfSet h0 (f := f) (k := k) hO  (nI j)) wm_X5_193 wo_X5_costOfSet ws_X5__X5_costOfSet wz_X5 wc_X5_costOfSet ⟨by decide, by decide, by decide +kernel⟩ rfl ⟨Nat.le_of_ble_eq_true rfl, Nat.le_of_ble_eq_true rfl⟩ (ci := 4) ⟨_, hB 0 _ rfl⟩ rfl hB hS noA_old ⟨Nat.zero_le _, Nat.zero_le _⟩ hl.1 rfl (Nat.le_of_ble_eq_true rfl) dX5_countRedeemableByTrying_32) ?_
        refine lv_aload_n hx hb dX5_countRedeemableByTrying_35 rfl (lv_at hl 0 rfl) ?_
        refine g_get (ci := 4) (v := .ref (f 2)) h0 hF inX5 hB 0 rfl rfl 1 (by decide) wf_X5_21 rfl rfl dX5_countRedeemableByTrying_36 ?_
        refine g_get (ci := 3) (v := .ref (f 9)) h0 hF inX4 hB 2 rfl rfl 1 (by decide) wf_X5_120 rfl rfl dX5_countRedeemableByTrying_39 ?_
        refine lv_iload_n hx hb dX5_countRedeemableByTrying_42 rfl (lv_at hl 1 rfl) ?_
        refine g_iald hx hb hK hB 9 0 rfl rfl r (rfl) (by omega) (by decide) dX5_countRedeemableByTrying_43 ?_
        refine lv_icmp_gt (tgt := 57) hx hb dX5_countRedeemableByTrying_44 (by decide) (fun c_44 => ?_) (fun c_44 => ?_)
        · have n_44 := Int32.not_le.mpr c_44
          refine lv_iinc (v := nI (j + 1)) (lv' := [(4, .int (nI (j + 1))), (0, .ref (f 0)), (1, .int (nI r)), (2, .int (nI (iN k (nI r) (k.2 2)))), (3, .int (tR k r (iN k (nI r) (k.2 2)) j))]) hx hb dX5_countRedeemableByTrying_57 hl (k := 4) rfl (nI_1 j) (by decide) rfl (fun ls hl => ?_)
          refine lv_goto (tgt := 14) hx hb dX5_countRedeemableByTrying_60 (by decide) ?_
          refine ih_14 (j + 1) (by omega) ls (lv_eqv (lv_sub (l' := [(0, .ref (f 0)), (1, .int (nI r)), (2, .int (nI (iN k (nI r) (k.2 2)))), (3, .int (tR k r (iN k (nI r) (k.2 2)) j)), (4, .int (nI (j + 1)))]) hl [1, 2, 3, 4, 0] rfl) ?_)
          rw [show (tR k r (iN k (nI r) (k.2 2)) j) = (tR k r (iN k (nI r) (k.2 2)) (j + 1)) from (by rw [tR]; simp only [c_17, n_17, c_26, c_44, n_44, and_true, true_and, and_self, and_false, false_and, if_true, if_false])]
        · have n_44 := Int32.not_lt.mp c_44
          refine lv_iload_n hx hb dX5_countRedeemableByTrying_47 rfl (lv_at hl 3 rfl) ?_
          refine lv_iload hx hb dX5_countRedeemableByTrying_48 (lv_at hl 4 rfl) ?_
          refine core_p (grS (n := 1) (As := [.int (nI j)]) (rest := [.int (tR k r (iN k (nI r) (k.2 2)) j)]) h0 hF (m_J6_bitCount_0f7a4 h0 (nI j)) wm_X5_93 wt_J6_bitCount_0f7a4 wz_J6 wc_J6_bitCount_0f7a4 ⟨by decide, by decide, by decide +kernel⟩ rfl ⟨Nat.le_of_ble_eq_true rfl, Nat.le_of_ble_eq_true rfl⟩ trivial hS noA_old ⟨Nat.zero_le _, Nat.zero_le _⟩ hl.1 rfl (Nat.le_of_ble_eq_true rfl) dX5_countRedeemableByTrying_50) ?_
          refine va_mmax hx hb (by rw [hl.1]; exact hml) hown (hG.hts h0 _ _ wm_X5_196) (hG.hts h0 _ _ wt_J9_max_7cf53) (hG.hts h0 _ _ wz_J9) (hG.hts h0 _ _ wc_J9_max_7cf53) (Nat.le_of_ble_eq_true rfl) (Nat.le_of_ble_eq_true rfl) (Nat.zero_le _) (Nat.zero_le _) dX5_countRedeemableByTrying_53 ?_
          refine lv_istore_n (lv' := [(3, .int (if tR k r (iN k (nI r) (k.2 2)) j < bcI (nI j) then bcI (nI j) else tR k r (iN k (nI r) (k.2 2)) j)), (0, .ref (f 0)), (1, .int (nI r)), (2, .int (nI (iN k (nI r) (k.2 2)))), (4, .int (nI j))]) hx hb dX5_countRedeemableByTrying_56 rfl hl (by decide) rfl (fun ls hl => ?_)
          refine lv_iinc (v := nI (j + 1)) (lv' := [(4, .int (nI (j + 1))), (3, .int (if tR k r (iN k (nI r) (k.2 2)) j < bcI (nI j) then bcI (nI j) else tR k r (iN k (nI r) (k.2 2)) j)), (0, .ref (f 0)), (1, .int (nI r)), (2, .int (nI (iN k (nI r) (k.2 2))))]) hx hb dX5_countRedeemableByTrying_57 hl (k := 4) rfl (nI_1 j) (by decide) rfl (fun ls hl => ?_)
          refine lv_goto (tgt := 14) hx hb dX5_countRedeemableByTrying_60 (by decide) ?_
          refine ih_14 (j + 1) (by omega) ls (lv_eqv (lv_sub (l' := [(0, .ref (f 0)), (1, .int (nI r)), (2, .int (nI (iN k (nI r) (k.2 2)))), (3, .int (if tR k r (iN k (nI r) (k.2 2)) j < bcI (nI j) then bcI (nI j) else tR k r (iN k (nI r) (k.2 2)) j)), (4, .int (nI (j + 1)))]) hl [2, 3, 4, 1, 0] rfl) ?_)
          rw [show (if tR k r (iN k (nI r) (k.2 2)) j < bcI (nI j) then bcI (nI j) else tR k r (iN k (nI r) (k.2 2)) j) = (tR k r (iN k (nI r) (k.2 2)) (j + 1)) from (by rw [tR]; simp only [c_17, n_17, c_26, c_44, n_44, and_true, true_and, and_self, and_false, false_and, if_true, if_false])]
  exact key_14 (iN k (nI r) (k.2 2) + 1) 0 (by omega) ls (lv_sub hl [3, 4, 2, 1, 0] rfl)

set_option maxHeartbeats 4000000 in
set_option maxRecDepth 100000 in
theorem m_X5_countRedeemable {X : Cx} {l : Launch} (h0 : Init X) {f : Nat → Nat} {k : Sk} (hO : Ok k)  (x : Int32) (r : Nat) (hxr : x = nI r) (hr : r < k.2 1) : PM X l yX5_countRedeemable cX5_countRedeemable 6 (some .int) 2 44 [.ref (f 0), .int x] (va_P X.D vwCl (skW X f k)) (.int (gre k 8 (k.1 5 r) (nI (iN k (nI r) (k.2 2))) 0)) := by
  subst hxr
  refine Met.mk (Bh := va_P X.D vwCl (skW X f k)) (by decide) (Nat.le_of_ble_eq_true rfl) ?_
  intro p e s m below meth c ls hF hB hl
  have hl : lv_has ls 6 [(0, .ref (f 0)), (1, .int (nI r))] := hl
  obtain ⟨hx, hb, hml, hr, hlk, hown, hG⟩ := id hF
  have hK := hG.K h0
  have hS : va_S noA s.heap s.heap [] := va_S.rf
  have hO1 := hO.1
  have hO2 := hO.2.1
  have hO3 := hO.2.2.1
  refine lv_aload_n hx hb dX5_countRedeemable_0 rfl (lv_at hl 0 rfl) ?_
  refine g_get (ci := 4) (v := .ref (f 2)) h0 hF inX5 hB 0 rfl rfl 1 (by decide) wf_X5_21 rfl rfl dX5_countRedeemable_1 ?_
  refine g_get (ci := 3) (v := .ref (f 9)) h0 hF inX4 hB 2 rfl rfl 1 (by decide) wf_X5_120 rfl rfl dX5_countRedeemable_4 ?_
  refine lv_iload_n hx hb dX5_countRedeemable_7 rfl (lv_at hl 1 rfl) ?_
  refine g_iald hx hb hK hB 9 0 rfl rfl r (rfl) (by omega) (by decide) dX5_countRedeemable_8 ?_
  refine lv_istore_n (lv' := [(2, .int (k.1 5 r)), (0, .ref (f 0)), (1, .int (nI r))]) hx hb dX5_countRedeemable_9 rfl hl (by decide) rfl (fun ls hl => ?_)
  refine lv_aload_n hx hb dX5_countRedeemable_10 rfl (lv_at hl 1 rfl) ?_
  refine g_get (ci := 4) (v := .ref (f 3)) h0 hF inX5 hB 0 rfl rfl 2 (by decide) wf_X5_28 rfl rfl dX5_countRedeemable_11 ?_
  refine lv_iload_n hx hb dX5_countRedeemable_14 rfl (lv_at hl 2 rfl) ?_
  refine core_p (grV (n := 1) (As := [.int (nI r)]) (rest := []) h0 hF (m_X7_impoundedSetOf h0 (f := f) (k := k) hO  (nI r)) wm_X5_187 wo_X7_impoundedSetOf ws_X7__X7_impoundedSetOf wz_X7 wc_X7_impoundedSetOf ⟨by decide, by decide, by decide +kernel⟩ rfl ⟨Nat.le_of_ble_eq_true rfl, Nat.le_of_ble_eq_true rfl⟩ (ci := 6) ⟨_, hB 3 _ rfl⟩ rfl hB hS noA_old ⟨Nat.zero_le _, Nat.zero_le _⟩ hl.1 rfl (Nat.le_of_ble_eq_true rfl) dX5_countRedeemable_15) ?_
  refine lv_istore_n (lv' := [(3, .int (nI (iN k (nI r) (k.2 2)))), (2, .int (k.1 5 r)), (0, .ref (f 0)), (1, .int (nI r))]) hx hb dX5_countRedeemable_18 rfl hl (by decide) rfl (fun ls hl => ?_)
  refine lv_iconst (v := 0) hx hb dX5_countRedeemable_19 (by decide) ?_
  refine lv_istore (lv' := [(4, .int 0), (3, .int (nI (iN k (nI r) (k.2 2)))), (2, .int (k.1 5 r)), (0, .ref (f 0)), (1, .int (nI r))]) hx hb dX5_countRedeemable_20 hl (by decide) rfl (fun ls hl => ?_)
  have key_22 : ∀ (nf j : Nat), j + nf = 8 → ∀ (lf op : Int32), gre k 8 (k.1 5 r) (nI (iN k (nI r) (k.2 2))) 0 = gre k nf lf op j → ∀ (ls : Array Slot), lv_has ls 6 [(0, .ref (f 0)), (1, .int (nI r)), (2, .int lf), (3, .int op), (4, .int (nI j))] → W p l e ({ frames := 2, cells := 0, slots := 0, locals := 44 } : Room) s m ([.ref (f 0), .int (nI r)] : List Value).toArray below meth c s.heap [] 0 0 (MQ below (qP (.int (gre k 8 (k.1 5 r) (nI (iN k (nI r) (k.2 2))) 0))) ([.ref (f 0), .int (nI r)] : List Value).toArray s 0 0 noA) (F0 m 22 ls []) := by
    intro nf
    induction nf with
    | zero =>
      intro j hj lf op hx_j ls hl
      have hj_e : j = 8 := by omega
      refine lv_iload hx hb dX5_countRedeemable_22 (lv_at hl 4 rfl) ?_
      refine lv_bipush (v := 8) hx hb dX5_countRedeemable_24 (by decide) ?_
      refine lv_icmp_ge (tgt := 80) hx hb dX5_countRedeemable_26 (by decide) (fun c_26 => ?_) (fun c_26 => absurd (nI_le (a := 8) (b := j) (by omega) (by omega)) c_26)
      have n_26 := Int32.not_lt.mpr c_26
      refine lv_bipush (v := 8) hx hb dX5_countRedeemable_80 (by decide) ?_
      exact pm_iret hF dX5_countRedeemable_82 (by rw [hx_j]; rfl)
    | succ nf ih_22 =>
      intro j hj lf op hx_j ls hl
      have hj_l : j < 8 := by omega
      refine lv_iload hx hb dX5_countRedeemable_22 (lv_at hl 4 rfl) ?_
      refine lv_bipush (v := 8) hx hb dX5_countRedeemable_24 (by decide) ?_
      refine lv_icmp_ge (tgt := 80) hx hb dX5_countRedeemable_26 (by decide) (fun c_26 => absurd c_26 (nI_ge (a := j) (b := 8) (by omega) (by omega))) (fun c_26 => ?_)
      have n_26 := Int32.not_le.mp c_26
      refine lv_aload_n hx hb dX5_countRedeemable_29 rfl (lv_at hl 0 rfl) ?_
      refine lv_iload_n hx hb dX5_countRedeemable_30 rfl (lv_at hl 3 rfl) ?_
      refine core_p (grV (n := 1) (As := [.int op]) (rest := []) h0 hF (m_X5_cheapestWish h0 (f := f) (k := k) hO  op) wm_X5_190 wo_X5_cheapestWish ws_X5__X5_cheapestWish wz_X5 wc_X5_cheapestWish ⟨by decide, by decide, by decide +kernel⟩ rfl ⟨Nat.le_of_ble_eq_true rfl, Nat.le_of_ble_eq_true rfl⟩ (ci := 4) ⟨_, hB 0 _ rfl⟩ rfl hB hS noA_old ⟨Nat.zero_le _, Nat.zero_le _⟩ hl.1 rfl (Nat.le_of_ble_eq_true rfl) dX5_countRedeemable_31) ?_
      refine lv_istore (lv' := [(5, .int (cwR k op (k.2 2))), (0, .ref (f 0)), (1, .int (nI r)), (2, .int lf), (3, .int op), (4, .int (nI j))]) hx hb dX5_countRedeemable_34 hl (by decide) rfl (fun ls hl => ?_)
      refine lv_iload hx hb dX5_countRedeemable_36 (lv_at hl 0 rfl) ?_
      refine lv_bipush (v := (-4)) hx hb dX5_countRedeemable_38 (by decide) ?_
      refine lv_icmp_eq (tgt := 53) hx hb dX5_countRedeemable_40 (by decide) (fun c_40 => ?_) (fun c_40 => ?_)
      · refine lv_iload hx hb dX5_countRedeemable_53 (lv_at hl 5 rfl) ?_
        exact pm_iret hF dX5_countRedeemable_55 (by rw [hx_j, gre, if_pos (by assumption)])
      · refine lv_aload_n hx hb dX5_countRedeemable_43 rfl (lv_at hl 1 rfl) ?_
        refine lv_iload hx hb dX5_countRedeemable_44 (lv_at hl 0 rfl) ?_
        refine core_p (grV (n := 1) (As := [.int (cwR k op (k.2 2))]) (rest := []) h0 hF (m_X5_costToRedeem h0 (f := f) (k := k) hO  (cwR k op (k.2 2)) (cwR k op (k.2 2)).toNatClampNeg (cwR_in k op (k.2 2) hO3 c_40).1 (cwR_in k op (k.2 2) hO3 c_40).2) wm_X5_158 wo_X5_costToRedeem ws_X5__X5_costToRedeem wz_X5 wc_X5_costToRedeem ⟨by decide, by decide, by decide +kernel⟩ rfl ⟨Nat.le_of_ble_eq_true rfl, Nat.le_of_ble_eq_true rfl⟩ (ci := 4) ⟨_, hB 0 _ rfl⟩ rfl hB hS noA_old ⟨Nat.zero_le _, Nat.zero_le _⟩ hl.1 rfl (Nat.le_of_ble_eq_true rfl) dX5_countRedeemable_46) ?_
        refine lv_iload_n hx hb dX5_countRedeemable_49 rfl (lv_at hl 3 rfl) ?_
        refine lv_icmp_le (tgt := 56) hx hb dX5_countRedeemable_50 (by decide) (fun c_50 => ?_) (fun c_50 => ?_)
        · have n_50 := Int32.not_lt.mpr c_50
          refine lv_iload_n hx hb dX5_countRedeemable_56 rfl (lv_at hl 3 rfl) ?_
          refine lv_aload_n hx hb dX5_countRedeemable_57 rfl (lv_at hl 1 rfl) ?_
          refine lv_iload hx hb dX5_countRedeemable_58 (lv_at hl 0 rfl) ?_
          refine core_p (grV (n := 1) (As := [.int (cwR k op (k.2 2))]) (rest := [.int lf]) h0 hF (m_X5_costToRedeem h0 (f := f) (k := k) hO  (cwR k op (k.2 2)) (cwR k op (k.2 2)).toNatClampNeg (cwR_in k op (k.2 2) hO3 c_40).1 (cwR_in k op (k.2 2) hO3 c_40).2) wm_X5_158 wo_X5_costToRedeem ws_X5__X5_costToRedeem wz_X5 wc_X5_costToRedeem ⟨by decide, by decide, by decide +kernel⟩ rfl ⟨Nat.le_of_ble_eq_true rfl, Nat.le_of_ble_eq_true rfl⟩ (ci := 4) ⟨_, hB 0 _ rfl⟩ rfl hB hS noA_old ⟨Nat.zero_le _, Nat.zero_le _⟩ hl.1 rfl (Nat.le_of_ble_eq_true rfl) dX5_countRedeemable_60) ?_
          refine lv_isub hx hb dX5_countRedeemable_63 ?_
          refine lv_istore_n (lv' := [(2, .int (lf - (cost k (cwR k op (k.2 2)).toNatClampNeg))), (5, .int (cwR k op (k.2 2))), (0, .ref (f 0)), (1, .int (nI r)), (3, .int op), (4, .int (nI j))]) hx hb dX5_countRedeemable_64 rfl hl (by decide) rfl (fun ls hl => ?_)
          refine lv_iload_n hx hb dX5_countRedeemable_65 rfl (lv_at hl 4 rfl) ?_
          refine lv_iconst (v := 1) hx hb dX5_countRedeemable_66 (by decide) ?_
          refine lv_iload hx hb dX5_countRedeemable_67 (lv_at hl 1 rfl) ?_
          refine lv_ishl hx hb dX5_countRedeemable_69 ?_
          refine lv_iconst (v := (-1)) hx hb dX5_countRedeemable_70 (by decide) ?_
          refine lv_ixor hx hb dX5_countRedeemable_71 ?_
          refine lv_iand hx hb dX5_countRedeemable_72 ?_
          refine lv_istore_n (lv' := [(3, .int (op &&& ((1 <<< ((cwR k op (k.2 2)) &&& 31)) ^^^ (-1)))), (2, .int (lf - (cost k (cwR k op (k.2 2)).toNatClampNeg))), (5, .int (cwR k op (k.2 2))), (0, .ref (f 0)), (1, .int (nI r)), (4, .int (nI j))]) hx hb dX5_countRedeemable_73 rfl hl (by decide) rfl (fun ls hl => ?_)
          refine lv_iinc (v := nI (j + 1)) (lv' := [(4, .int (nI (j + 1))), (3, .int (op &&& ((1 <<< ((cwR k op (k.2 2)) &&& 31)) ^^^ (-1)))), (2, .int (lf - (cost k (cwR k op (k.2 2)).toNatClampNeg))), (5, .int (cwR k op (k.2 2))), (0, .ref (f 0)), (1, .int (nI r))]) hx hb dX5_countRedeemable_74 hl (k := 5) rfl (nI_1 j) (by decide) rfl (fun ls hl => ?_)
          refine lv_goto (tgt := 22) hx hb dX5_countRedeemable_77 (by decide) ?_
          refine ih_22 (j + 1) (by omega) (lf - (cost k (cwR k op (k.2 2)).toNatClampNeg)) (op &&& ((1 <<< ((cwR k op (k.2 2)) &&& 31)) ^^^ (-1))) (by rw [hx_j, gre, if_neg (by simp only [c_26, n_26, c_40, c_50, n_50, not_false_eq_true]), if_pos (by assumption)]) ls (lv_eqv (lv_sub (l' := [(0, .ref (f 0)), (1, .int (nI r)), (2, .int (lf - (cost k (cwR k op (k.2 2)).toNatClampNeg))), (3, .int (op &&& ((1 <<< ((cwR k op (k.2 2)) &&& 31)) ^^^ (-1)))), (4, .int (nI (j + 1)))]) hl [4, 5, 2, 1, 0] rfl) ?_)
          rfl
        · have n_50 := Int32.not_le.mp c_50
          refine lv_iload hx hb dX5_countRedeemable_53 (lv_at hl 5 rfl) ?_
          exact pm_iret hF dX5_countRedeemable_55 (by rw [hx_j, gre, if_neg (by assumption), if_neg (by assumption)])
  exact key_22 (8) 0 (by omega) (k.1 5 r) (nI (iN k (nI r) (k.2 2))) (rfl) ls (lv_sub hl [3, 4, 2, 1, 0] rfl)

set_option maxHeartbeats 4000000 in
set_option maxRecDepth 100000 in
theorem m_X5_isCheaper {X : Cx} {l : Launch} (h0 : Init X) {f : Nat → Nat} {k : Sk} (hO : Ok k)  (x : Int32) (r : Nat) (hxr : x = nI r) (hr : r < k.2 1)(y : Int32) (i : Nat) (hxi : y = nI i) (hi : i < k.2 0)(u : Int32) (o : Nat) (hxo : u = nI o) (ho : o < k.2 0) : PM X l yX5_isCheaper cX5_isCheaper 6 (some .boolean) 2 44 [.ref (f 0), .int x, .int y, .int u] (va_P X.D vwCl (skW X f k)) (.int (bI (chB k r i o))) := by
  subst hxr
  subst hxi
  subst hxo
  refine Met.mk (Bh := va_P X.D vwCl (skW X f k)) (by decide) (Nat.le_of_ble_eq_true rfl) ?_
  intro p e s m below meth c ls hF hB hl
  have hl : lv_has ls 6 [(0, .ref (f 0)), (1, .int (nI r)), (2, .int (nI i)), (3, .int (nI o))] := hl
  obtain ⟨hx, hb, hml, hr, hlk, hown, hG⟩ := id hF
  have hK := hG.K h0
  have hS : va_S noA s.heap s.heap [] := va_S.rf
  have hO1 := hO.1
  have hO2 := hO.2.1
  have hO3 := hO.2.2.1
  refine lv_aload_n hx hb dX5_isCheaper_0 rfl (lv_at hl 0 rfl) ?_
  refine lv_iload_n hx hb dX5_isCheaper_1 rfl (lv_at hl 1 rfl) ?_
  refine lv_iload_n hx hb dX5_isCheaper_2 rfl (lv_at hl 2 rfl) ?_
  refine core_p (grV (n := 2) (As := [.int (nI r), .int (nI i)]) (rest := []) h0 hF (m_X5_levyOn h0 (f := f) (k := k) hO  (nI r) (nI i) i rfl (by omega)) wm_X5_107 wo_X5_levyOn ws_X5__X5_levyOn wz_X5 wc_X5_levyOn ⟨by decide, by decide, by decide +kernel⟩ rfl ⟨Nat.le_of_ble_eq_true rfl, Nat.le_of_ble_eq_true rfl⟩ (ci := 4) ⟨_, hB 0 _ rfl⟩ rfl hB hS noA_old ⟨Nat.zero_le _, Nat.zero_le _⟩ hl.1 rfl (Nat.le_of_ble_eq_true rfl) dX5_isCheaper_3) ?_
  refine lv_istore (lv' := [(4, .int (levI k (nI r) i)), (0, .ref (f 0)), (1, .int (nI r)), (2, .int (nI i)), (3, .int (nI o))]) hx hb dX5_isCheaper_6 hl (by decide) rfl (fun ls hl => ?_)
  refine lv_aload_n hx hb dX5_isCheaper_8 rfl (lv_at hl 1 rfl) ?_
  refine lv_iload_n hx hb dX5_isCheaper_9 rfl (lv_at hl 2 rfl) ?_
  refine lv_iload_n hx hb dX5_isCheaper_10 rfl (lv_at hl 4 rfl) ?_
  refine core_p (grV (n := 2) (As := [.int (nI r), .int (nI o)]) (rest := []) h0 hF (m_X5_levyOn h0 (f := f) (k := k) hO  (nI r) (nI o) o rfl (by omega)) wm_X5_107 wo_X5_levyOn ws_X5__X5_levyOn wz_X5 wc_X5_levyOn ⟨by decide, by decide, by decide +kernel⟩ rfl ⟨Nat.le_of_ble_eq_true rfl, Nat.le_of_ble_eq_true rfl⟩ (ci := 4) ⟨_, hB 0 _ rfl⟩ rfl hB hS noA_old ⟨Nat.zero_le _, Nat.zero_le _⟩ hl.1 rfl (Nat.le_of_ble_eq_true rfl) dX5_isCheaper_11) ?_
  refine lv_istore (lv' := [(5, .int (levI k (nI r) o)), (4, .int (levI k (nI r) i)), (0, .ref (f 0)), (1, .int (nI r)), (2, .int (nI i)), (3, .int (nI o))]) hx hb dX5_isCheaper_14 hl (by decide) rfl (fun ls hl => ?_)
  refine lv_iload hx hb dX5_isCheaper_16 (lv_at hl 1 rfl) ?_
  refine lv_iload hx hb dX5_isCheaper_18 (lv_at hl 0 rfl) ?_
  refine lv_icmp_eq (tgt := 36) hx hb dX5_isCheaper_20 (by decide) (fun c_20 => ?_) (fun c_20 => ?_)
  · refine lv_aload_n hx hb dX5_isCheaper_36 rfl (lv_at hl 2 rfl) ?_
    refine g_get (ci := 4) (v := .ref (f 1)) h0 hF inX5 hB 0 rfl rfl 0 (by decide) wf_X5_12 rfl rfl dX5_isCheaper_37 ?_
    refine g_get (ci := 5) (v := .ref (f 4)) h0 hF inX6 hB 1 rfl rfl 1 (by decide) wf_X5_117 rfl rfl dX5_isCheaper_40 ?_
    refine lv_iload_n hx hb dX5_isCheaper_43 rfl (lv_at hl 4 rfl) ?_
    refine g_iald hx hb hK hB 4 0 rfl rfl i (rfl) (by omega) (by decide) dX5_isCheaper_44 ?_
    refine lv_aload_n hx hb dX5_isCheaper_45 rfl (lv_at hl 2 rfl) ?_
    refine g_get (ci := 4) (v := .ref (f 1)) h0 hF inX5 hB 0 rfl rfl 0 (by decide) wf_X5_12 rfl rfl dX5_isCheaper_46 ?_
    refine g_get (ci := 5) (v := .ref (f 4)) h0 hF inX6 hB 1 rfl rfl 1 (by decide) wf_X5_117 rfl rfl dX5_isCheaper_49 ?_
    refine lv_iload_n hx hb dX5_isCheaper_52 rfl (lv_at hl 5 rfl) ?_
    refine g_iald hx hb hK hB 4 0 rfl rfl o (rfl) (by omega) (by decide) dX5_isCheaper_53 ?_
    refine lv_icmp_le (tgt := 61) hx hb dX5_isCheaper_54 (by decide) (fun c_54 => ?_) (fun c_54 => ?_)
    · have n_54 := Int32.not_lt.mpr c_54
      refine lv_iconst (v := 0) hx hb dX5_isCheaper_61 (by decide) ?_
      exact pm_zret hF dX5_isCheaper_62 rfl (by simp [bI, chB, c_20, c_54, n_54])
    · have n_54 := Int32.not_le.mp c_54
      refine lv_iconst (v := 1) hx hb dX5_isCheaper_57 (by decide) ?_
      refine lv_goto (tgt := 62) hx hb dX5_isCheaper_58 (by decide) ?_
      exact pm_zret hF dX5_isCheaper_62 rfl (by simp [bI, chB, c_20, c_54, n_54])
  · refine lv_iload hx hb dX5_isCheaper_23 (lv_at hl 1 rfl) ?_
    refine lv_iload hx hb dX5_isCheaper_25 (lv_at hl 0 rfl) ?_
    refine lv_icmp_ge (tgt := 34) hx hb dX5_isCheaper_27 (by decide) (fun c_27 => ?_) (fun c_27 => ?_)
    · have n_27 := Int32.not_lt.mpr c_27
      refine lv_iconst (v := 0) hx hb dX5_isCheaper_34 (by decide) ?_
      exact pm_zret hF dX5_isCheaper_35 rfl (by simp [bI, chB, c_20, c_27, n_27])
    · have n_27 := Int32.not_le.mp c_27
      refine lv_iconst (v := 1) hx hb dX5_isCheaper_30 (by decide) ?_
      refine lv_goto (tgt := 35) hx hb dX5_isCheaper_31 (by decide) ?_
      exact pm_zret hF dX5_isCheaper_35 rfl (by simp [bI, chB, c_20, c_27, n_27])

set_option maxHeartbeats 4000000 in
set_option maxRecDepth 100000 in
theorem m_X5_cheapestStar {X : Cx} {l : Launch} (h0 : Init X) {f : Nat → Nat} {k : Sk} (hO : Ok k)  (x : Int32) (r : Nat) (hxr : x = nI r) (hr : r < k.2 1) : PM X l yX5_cheapestStar cX5_cheapestStar 5 (some .int) 3 69 [.ref (f 0), .int x] (va_P X.D vwCl (skW X f k)) (.int (csR k r (k.2 0))) := by
  subst hxr
  refine Met.mk (Bh := va_P X.D vwCl (skW X f k)) (by decide) (Nat.le_of_ble_eq_true rfl) ?_
  intro p e s m below meth c ls hF hB hl
  have hl : lv_has ls 5 [(0, .ref (f 0)), (1, .int (nI r))] := hl
  obtain ⟨hx, hb, hml, hr, hlk, hown, hG⟩ := id hF
  have hK := hG.K h0
  have hS : va_S noA s.heap s.heap [] := va_S.rf
  have hO1 := hO.1
  have hO2 := hO.2.1
  have hO3 := hO.2.2.1
  refine lv_bipush (v := (-4)) hx hb dX5_cheapestStar_0 (by decide) ?_
  refine lv_istore_n (lv' := [(2, .int (-4)), (0, .ref (f 0)), (1, .int (nI r))]) hx hb dX5_cheapestStar_2 rfl hl (by decide) rfl (fun ls hl => ?_)
  refine lv_iconst (v := 0) hx hb dX5_cheapestStar_3 (by decide) ?_
  refine lv_istore_n (lv' := [(3, .int 0), (2, .int (-4)), (0, .ref (f 0)), (1, .int (nI r))]) hx hb dX5_cheapestStar_4 rfl hl (by decide) rfl (fun ls hl => ?_)
  have key_5 : ∀ (nf j : Nat), j + nf = k.2 0 → ∀ (ls : Array Slot), lv_has ls 5 [(0, .ref (f 0)), (1, .int (nI r)), (2, .int (csR k r j)), (3, .int (nI j))] → W p l e ({ frames := 3, cells := 0, slots := 0, locals := 69 } : Room) s m ([.ref (f 0), .int (nI r)] : List Value).toArray below meth c s.heap [] 0 0 (MQ below (qP (.int (csR k r (k.2 0)))) ([.ref (f 0), .int (nI r)] : List Value).toArray s 0 0 noA) (F0 m 5 ls []) := by
    intro nf
    induction nf with
    | zero =>
      intro j hj ls hl
      have hj_e : j = k.2 0 := by omega
      refine lv_iload_n hx hb dX5_cheapestStar_5 rfl (lv_at hl 3 rfl) ?_
      refine lv_aload_n hx hb dX5_cheapestStar_6 rfl (lv_at hl 0 rfl) ?_
      refine g_get (ci := 4) (v := .ref (f 1)) h0 hF inX5 hB 0 rfl rfl 0 (by decide) wf_X5_12 rfl rfl dX5_cheapestStar_7 ?_
      refine g_get (ci := 5) (v := .int (nI (k.2 0))) h0 hF inX6 hB 1 rfl rfl 0 (by decide) wf_X5_66 rfl rfl dX5_cheapestStar_10 ?_
      refine lv_icmp_ge (tgt := 79) hx hb dX5_cheapestStar_13 (by decide) (fun c_13 => ?_) (fun c_13 => absurd (nI_le (a := k.2 0) (b := j) (by omega) (by omega)) c_13)
      have n_13 := Int32.not_lt.mpr c_13
      refine lv_iload_n hx hb dX5_cheapestStar_79 rfl (lv_at hl 2 rfl) ?_
      exact pm_iret hF dX5_cheapestStar_80 (by rw [hj_e])
    | succ nf ih_5 =>
      intro j hj ls hl
      have hj_l : j < k.2 0 := by omega
      refine lv_iload_n hx hb dX5_cheapestStar_5 rfl (lv_at hl 3 rfl) ?_
      refine lv_aload_n hx hb dX5_cheapestStar_6 rfl (lv_at hl 0 rfl) ?_
      refine g_get (ci := 4) (v := .ref (f 1)) h0 hF inX5 hB 0 rfl rfl 0 (by decide) wf_X5_12 rfl rfl dX5_cheapestStar_7 ?_
      refine g_get (ci := 5) (v := .int (nI (k.2 0))) h0 hF inX6 hB 1 rfl rfl 0 (by decide) wf_X5_66 rfl rfl dX5_cheapestStar_10 ?_
      refine lv_icmp_ge (tgt := 79) hx hb dX5_cheapestStar_13 (by decide) (fun c_13 => absurd c_13 (nI_ge (a := j) (b := k.2 0) (by omega) (by omega))) (fun c_13 => ?_)
      have n_13 := Int32.not_le.mp c_13
      refine lv_aload_n hx hb dX5_cheapestStar_16 rfl (lv_at hl 0 rfl) ?_
      refine g_get (ci := 4) (v := .ref (f 1)) h0 hF inX5 hB 0 rfl rfl 0 (by decide) wf_X5_12 rfl rfl dX5_cheapestStar_17 ?_
      refine lv_iload_n hx hb dX5_cheapestStar_20 rfl (lv_at hl 3 rfl) ?_
      refine core_p (grV (n := 1) (As := [.int (nI j)]) (rest := []) h0 hF (m_X6_isSeen h0 (f := f) (k := k) hO  (nI j) j rfl (by omega)) wm_X5_101 wo_X6_isSeen ws_X6__X6_isSeen wz_X6 wc_X6_isSeen ⟨by decide, by decide, by decide +kernel⟩ rfl ⟨Nat.le_of_ble_eq_true rfl, Nat.le_of_ble_eq_true rfl⟩ (ci := 5) ⟨_, hB 1 _ rfl⟩ rfl hB hS noA_old ⟨Nat.zero_le _, Nat.zero_le _⟩ hl.1 rfl (Nat.le_of_ble_eq_true rfl) dX5_cheapestStar_21) ?_
      refine lv_if_eq (tgt := 47) hx hb dX5_cheapestStar_24 (by decide) (fun c_24 => ?_) (fun c_24 => ?_)
      · have n_24 := bI_0.mp c_24
        refine lv_iconst (v := 0) hx hb dX5_cheapestStar_47 (by decide) ?_
        refine lv_istore (lv' := [(4, .int 0), (0, .ref (f 0)), (1, .int (nI r)), (2, .int (csR k r j)), (3, .int (nI j))]) hx hb dX5_cheapestStar_48 hl (by decide) rfl (fun ls hl => ?_)
        refine lv_iload hx hb dX5_cheapestStar_50 (lv_at hl 0 rfl) ?_
        refine lv_if_eq (tgt := 73) hx hb dX5_cheapestStar_52 (by decide) (fun c_52 => ?_) (fun c_52 => absurd c_52 (by decide))
        refine lv_iinc (v := nI (j + 1)) (lv' := [(3, .int (nI (j + 1))), (4, .int 0), (0, .ref (f 0)), (1, .int (nI r)), (2, .int (csR k r j))]) hx hb dX5_cheapestStar_73 hl (k := 4) rfl (nI_1 j) (by decide) rfl (fun ls hl => ?_)
        refine lv_goto (tgt := 5) hx hb dX5_cheapestStar_76 (by decide) ?_
        refine ih_5 (j + 1) (by omega) ls (lv_eqv (lv_sub (l' := [(0, .ref (f 0)), (1, .int (nI r)), (2, .int (csR k r j)), (3, .int (nI (j + 1)))]) hl [2, 3, 4, 0] rfl) ?_)
        rw [show (csR k r j) = (csR k r (j + 1)) from (by rw [csR]; simp [opB, bitI, c_13, n_13, n_24])]
      · have n_24 := bI_n0.mp c_24
        refine lv_aload_n hx hb dX5_cheapestStar_27 rfl (lv_at hl 0 rfl) ?_
        refine g_get (ci := 4) (v := .ref (f 2)) h0 hF inX5 hB 0 rfl rfl 1 (by decide) wf_X5_21 rfl rfl dX5_cheapestStar_28 ?_
        refine g_get (ci := 3) (v := .ref (f 16)) h0 hF inX4 hB 2 rfl rfl 8 (by decide) wf_X5_90 rfl rfl dX5_cheapestStar_31 ?_
        refine lv_iload_n hx hb dX5_cheapestStar_34 rfl (lv_at hl 1 rfl) ?_
        refine g_iald hx hb hK hB 16 0 rfl rfl r (rfl) (by omega) (by decide) dX5_cheapestStar_35 ?_
        refine lv_iconst (v := 1) hx hb dX5_cheapestStar_36 (by decide) ?_
        refine lv_iload_n hx hb dX5_cheapestStar_37 rfl (lv_at hl 3 rfl) ?_
        refine lv_ishl hx hb dX5_cheapestStar_38 ?_
        refine lv_iand hx hb dX5_cheapestStar_39 ?_
        refine lv_if_ne (tgt := 47) hx hb dX5_cheapestStar_40 (by decide) (fun c_40 => ?_) (fun c_40 => ?_)
        · refine lv_iconst (v := 0) hx hb dX5_cheapestStar_47 (by decide) ?_
          refine lv_istore (lv' := [(4, .int 0), (0, .ref (f 0)), (1, .int (nI r)), (2, .int (csR k r j)), (3, .int (nI j))]) hx hb dX5_cheapestStar_48 hl (by decide) rfl (fun ls hl => ?_)
          refine lv_iload hx hb dX5_cheapestStar_50 (lv_at hl 0 rfl) ?_
          refine lv_if_eq (tgt := 73) hx hb dX5_cheapestStar_52 (by decide) (fun c_52 => ?_) (fun c_52 => absurd c_52 (by decide))
          refine lv_iinc (v := nI (j + 1)) (lv' := [(3, .int (nI (j + 1))), (4, .int 0), (0, .ref (f 0)), (1, .int (nI r)), (2, .int (csR k r j))]) hx hb dX5_cheapestStar_73 hl (k := 4) rfl (nI_1 j) (by decide) rfl (fun ls hl => ?_)
          refine lv_goto (tgt := 5) hx hb dX5_cheapestStar_76 (by decide) ?_
          refine ih_5 (j + 1) (by omega) ls (lv_eqv (lv_sub (l' := [(0, .ref (f 0)), (1, .int (nI r)), (2, .int (csR k r j)), (3, .int (nI (j + 1)))]) hl [2, 3, 4, 0] rfl) ?_)
          rw [show (csR k r j) = (csR k r (j + 1)) from (by rw [csR]; simp [opB, bitI, c_13, n_13, n_24, c_40])]
        · refine lv_iconst (v := 1) hx hb dX5_cheapestStar_43 (by decide) ?_
          refine lv_goto (tgt := 48) hx hb dX5_cheapestStar_44 (by decide) ?_
          refine lv_istore (lv' := [(4, .int 1), (0, .ref (f 0)), (1, .int (nI r)), (2, .int (csR k r j)), (3, .int (nI j))]) hx hb dX5_cheapestStar_48 hl (by decide) rfl (fun ls hl => ?_)
          refine lv_iload hx hb dX5_cheapestStar_50 (lv_at hl 0 rfl) ?_
          refine lv_if_eq (tgt := 73) hx hb dX5_cheapestStar_52 (by decide) (fun c_52 => absurd c_52 (by decide)) (fun c_52 => ?_)
          refine lv_iload_n hx hb dX5_cheapestStar_55 rfl (lv_at hl 3 rfl) ?_
          refine lv_bipush (v := (-4)) hx hb dX5_cheapestStar_56 (by decide) ?_
          refine lv_icmp_eq (tgt := 71) hx hb dX5_cheapestStar_58 (by decide) (fun c_58 => ?_) (fun c_58 => ?_)
          · refine lv_iload_n hx hb dX5_cheapestStar_71 rfl (lv_at hl 4 rfl) ?_
            refine lv_istore_n (lv' := [(2, .int (nI j)), (4, .int 1), (0, .ref (f 0)), (1, .int (nI r)), (3, .int (nI j))]) hx hb dX5_cheapestStar_72 rfl hl (by decide) rfl (fun ls hl => ?_)
            refine lv_iinc (v := nI (j + 1)) (lv' := [(3, .int (nI (j + 1))), (2, .int (nI j)), (4, .int 1), (0, .ref (f 0)), (1, .int (nI r))]) hx hb dX5_cheapestStar_73 hl (k := 4) rfl (nI_1 j) (by decide) rfl (fun ls hl => ?_)
            refine lv_goto (tgt := 5) hx hb dX5_cheapestStar_76 (by decide) ?_
            refine ih_5 (j + 1) (by omega) ls (lv_eqv (lv_sub (l' := [(0, .ref (f 0)), (1, .int (nI r)), (2, .int (nI j)), (3, .int (nI (j + 1)))]) hl [3, 4, 1, 0] rfl) ?_)
            rw [show (nI j) = (csR k r (j + 1)) from (by rw [csR]; simp [opB, bitI, c_13, n_13, n_24, c_40, c_58])]
          · refine lv_aload_n hx hb dX5_cheapestStar_61 rfl (lv_at hl 1 rfl) ?_
            refine lv_iload_n hx hb dX5_cheapestStar_62 rfl (lv_at hl 2 rfl) ?_
            refine lv_iload_n hx hb dX5_cheapestStar_63 rfl (lv_at hl 4 rfl) ?_
            refine lv_iload_n hx hb dX5_cheapestStar_64 rfl (lv_at hl 3 rfl) ?_
            refine core_p (grV (n := 3) (As := [.int (nI r), .int (nI j), .int (csR k r j)]) (rest := []) h0 hF (m_X5_isCheaper h0 (f := f) (k := k) hO  (nI r) r rfl (by omega) (nI j) j rfl (by omega) (csR k r j) (csR k r j).toNatClampNeg (csR_in k r j (by omega) c_58).1 (Nat.lt_trans (csR_in k r j (by omega) c_58).2 hj_l)) wm_X5_201 wo_X5_isCheaper ws_X5__X5_isCheaper wz_X5 wc_X5_isCheaper ⟨by decide, by decide, by decide +kernel⟩ rfl ⟨Nat.le_of_ble_eq_true rfl, Nat.le_of_ble_eq_true rfl⟩ (ci := 4) ⟨_, hB 0 _ rfl⟩ rfl hB hS noA_old ⟨Nat.zero_le _, Nat.zero_le _⟩ hl.1 rfl (Nat.le_of_ble_eq_true rfl) dX5_cheapestStar_65) ?_
            refine lv_if_eq (tgt := 73) hx hb dX5_cheapestStar_68 (by decide) (fun c_68 => ?_) (fun c_68 => ?_)
            · have n_68 := bI_0.mp c_68
              refine lv_iinc (v := nI (j + 1)) (lv' := [(3, .int (nI (j + 1))), (4, .int 1), (0, .ref (f 0)), (1, .int (nI r)), (2, .int (csR k r j))]) hx hb dX5_cheapestStar_73 hl (k := 4) rfl (nI_1 j) (by decide) rfl (fun ls hl => ?_)
              refine lv_goto (tgt := 5) hx hb dX5_cheapestStar_76 (by decide) ?_
              refine ih_5 (j + 1) (by omega) ls (lv_eqv (lv_sub (l' := [(0, .ref (f 0)), (1, .int (nI r)), (2, .int (csR k r j)), (3, .int (nI (j + 1)))]) hl [2, 3, 4, 0] rfl) ?_)
              rw [show (csR k r j) = (csR k r (j + 1)) from (by rw [csR]; simp [opB, bitI, c_13, n_13, n_24, c_40, c_58, n_68])]
            · have n_68 := bI_n0.mp c_68
              refine lv_iload_n hx hb dX5_cheapestStar_71 rfl (lv_at hl 4 rfl) ?_
              refine lv_istore_n (lv' := [(2, .int (nI j)), (4, .int 1), (0, .ref (f 0)), (1, .int (nI r)), (3, .int (nI j))]) hx hb dX5_cheapestStar_72 rfl hl (by decide) rfl (fun ls hl => ?_)
              refine lv_iinc (v := nI (j + 1)) (lv' := [(3, .int (nI (j + 1))), (2, .int (nI j)), (4, .int 1), (0, .ref (f 0)), (1, .int (nI r))]) hx hb dX5_cheapestStar_73 hl (k := 4) rfl (nI_1 j) (by decide) rfl (fun ls hl => ?_)
              refine lv_goto (tgt := 5) hx hb dX5_cheapestStar_76 (by decide) ?_
              refine ih_5 (j + 1) (by omega) ls (lv_eqv (lv_sub (l' := [(0, .ref (f 0)), (1, .int (nI r)), (2, .int (nI j)), (3, .int (nI (j + 1)))]) hl [3, 4, 1, 0] rfl) ?_)
              rw [show (nI j) = (csR k r (j + 1)) from (by rw [csR]; simp [opB, bitI, c_13, n_13, n_24, c_40, c_58, n_68])]
  exact key_5 (k.2 0) 0 (by omega) ls (lv_sub hl [2, 3, 1, 0] rfl)

set_option maxHeartbeats 4000000 in
set_option maxRecDepth 100000 in
theorem m_X5_isRicher {X : Cx} {l : Launch} (h0 : Init X) {f : Nat → Nat} {k : Sk} (hO : Ok k)  (x : Int32) (r : Nat) (hxr : x = nI r) (hr : r < k.2 1)(y : Int32) (j : Nat) (hxj : y = nI j) (hj : j < k.2 1) : PM X l yX5_isRicher cX5_isRicher 7 (some .boolean) 2 45 [.ref (f 0), .int x, .int y] (va_P X.D vwCl (skW X f k)) (.int (bI (riB k r j))) := by
  subst hxr
  subst hxj
  refine Met.mk (Bh := va_P X.D vwCl (skW X f k)) (by decide) (Nat.le_of_ble_eq_true rfl) ?_
  intro p e s m below meth c ls hF hB hl
  have hl : lv_has ls 7 [(0, .ref (f 0)), (1, .int (nI r)), (2, .int (nI j))] := hl
  obtain ⟨hx, hb, hml, hr, hlk, hown, hG⟩ := id hF
  have hK := hG.K h0
  have hS : va_S noA s.heap s.heap [] := va_S.rf
  have hO1 := hO.1
  have hO2 := hO.2.1
  have hO3 := hO.2.2.1
  refine lv_aload_n hx hb dX5_isRicher_0 rfl (lv_at hl 0 rfl) ?_
  refine g_get (ci := 4) (v := .ref (f 2)) h0 hF inX5 hB 0 rfl rfl 1 (by decide) wf_X5_21 rfl rfl dX5_isRicher_1 ?_
  refine g_get (ci := 3) (v := .ref (f 9)) h0 hF inX4 hB 2 rfl rfl 1 (by decide) wf_X5_120 rfl rfl dX5_isRicher_4 ?_
  refine lv_iload_n hx hb dX5_isRicher_7 rfl (lv_at hl 1 rfl) ?_
  refine g_iald hx hb hK hB 9 0 rfl rfl r (rfl) (by omega) (by decide) dX5_isRicher_8 ?_
  refine lv_aload_n hx hb dX5_isRicher_9 rfl (lv_at hl 0 rfl) ?_
  refine g_get (ci := 4) (v := .ref (f 2)) h0 hF inX5 hB 0 rfl rfl 1 (by decide) wf_X5_21 rfl rfl dX5_isRicher_10 ?_
  refine g_get (ci := 3) (v := .ref (f 10)) h0 hF inX4 hB 2 rfl rfl 2 (by decide) wf_X5_127 rfl rfl dX5_isRicher_13 ?_
  refine lv_iload_n hx hb dX5_isRicher_16 rfl (lv_at hl 1 rfl) ?_
  refine g_iald hx hb hK hB 10 0 rfl rfl r (rfl) (by omega) (by decide) dX5_isRicher_17 ?_
  refine lv_isub hx hb dX5_isRicher_18 ?_
  refine lv_istore_n (lv' := [(3, .int ((k.1 5 r) - (k.1 6 r))), (0, .ref (f 0)), (1, .int (nI r)), (2, .int (nI j))]) hx hb dX5_isRicher_19 rfl hl (by decide) rfl (fun ls hl => ?_)
  refine lv_aload_n hx hb dX5_isRicher_20 rfl (lv_at hl 1 rfl) ?_
  refine g_get (ci := 4) (v := .ref (f 2)) h0 hF inX5 hB 0 rfl rfl 1 (by decide) wf_X5_21 rfl rfl dX5_isRicher_21 ?_
  refine g_get (ci := 3) (v := .ref (f 9)) h0 hF inX4 hB 2 rfl rfl 1 (by decide) wf_X5_120 rfl rfl dX5_isRicher_24 ?_
  refine lv_iload_n hx hb dX5_isRicher_27 rfl (lv_at hl 3 rfl) ?_
  refine g_iald hx hb hK hB 9 0 rfl rfl j (rfl) (by omega) (by decide) dX5_isRicher_28 ?_
  refine lv_aload_n hx hb dX5_isRicher_29 rfl (lv_at hl 1 rfl) ?_
  refine g_get (ci := 4) (v := .ref (f 2)) h0 hF inX5 hB 0 rfl rfl 1 (by decide) wf_X5_21 rfl rfl dX5_isRicher_30 ?_
  refine g_get (ci := 3) (v := .ref (f 10)) h0 hF inX4 hB 2 rfl rfl 2 (by decide) wf_X5_127 rfl rfl dX5_isRicher_33 ?_
  refine lv_iload_n hx hb dX5_isRicher_36 rfl (lv_at hl 3 rfl) ?_
  refine g_iald hx hb hK hB 10 0 rfl rfl j (rfl) (by omega) (by decide) dX5_isRicher_37 ?_
  refine lv_isub hx hb dX5_isRicher_38 ?_
  refine lv_istore (lv' := [(4, .int ((k.1 5 j) - (k.1 6 j))), (3, .int ((k.1 5 r) - (k.1 6 r))), (0, .ref (f 0)), (1, .int (nI r)), (2, .int (nI j))]) hx hb dX5_isRicher_39 hl (by decide) rfl (fun ls hl => ?_)
  refine lv_iload_n hx hb dX5_isRicher_41 rfl (lv_at hl 1 rfl) ?_
  refine lv_iload hx hb dX5_isRicher_42 (lv_at hl 0 rfl) ?_
  refine lv_icmp_eq (tgt := 59) hx hb dX5_isRicher_44 (by decide) (fun c_44 => ?_) (fun c_44 => ?_)
  · refine lv_aload_n hx hb dX5_isRicher_59 rfl (lv_at hl 2 rfl) ?_
    refine g_get (ci := 4) (v := .ref (f 3)) h0 hF inX5 hB 0 rfl rfl 2 (by decide) wf_X5_28 rfl rfl dX5_isRicher_60 ?_
    refine lv_iload_n hx hb dX5_isRicher_63 rfl (lv_at hl 3 rfl) ?_
    refine core_p (grV (n := 1) (As := [.int (nI r)]) (rest := []) h0 hF (m_X7_countOf h0 (f := f) (k := k) hO  (nI r)) wm_X5_139 wo_X7_countOf ws_X7__X7_countOf wz_X7 wc_X7_countOf ⟨by decide, by decide, by decide +kernel⟩ rfl ⟨Nat.le_of_ble_eq_true rfl, Nat.le_of_ble_eq_true rfl⟩ (ci := 6) ⟨_, hB 3 _ rfl⟩ rfl hB hS noA_old ⟨Nat.zero_le _, Nat.zero_le _⟩ hl.1 rfl (Nat.le_of_ble_eq_true rfl) dX5_isRicher_64) ?_
    refine lv_istore (lv' := [(5, .int (nI (cN (fun z => decide (k.1 14 z = (nI r))) (k.2 2)))), (4, .int ((k.1 5 j) - (k.1 6 j))), (3, .int ((k.1 5 r) - (k.1 6 r))), (0, .ref (f 0)), (1, .int (nI r)), (2, .int (nI j))]) hx hb dX5_isRicher_67 hl (by decide) rfl (fun ls hl => ?_)
    refine lv_aload_n hx hb dX5_isRicher_69 rfl (lv_at hl 3 rfl) ?_
    refine g_get (ci := 4) (v := .ref (f 3)) h0 hF inX5 hB 0 rfl rfl 2 (by decide) wf_X5_28 rfl rfl dX5_isRicher_70 ?_
    refine lv_iload_n hx hb dX5_isRicher_73 rfl (lv_at hl 5 rfl) ?_
    refine core_p (grV (n := 1) (As := [.int (nI j)]) (rest := []) h0 hF (m_X7_countOf h0 (f := f) (k := k) hO  (nI j)) wm_X5_139 wo_X7_countOf ws_X7__X7_countOf wz_X7 wc_X7_countOf ⟨by decide, by decide, by decide +kernel⟩ rfl ⟨Nat.le_of_ble_eq_true rfl, Nat.le_of_ble_eq_true rfl⟩ (ci := 6) ⟨_, hB 3 _ rfl⟩ rfl hB hS noA_old ⟨Nat.zero_le _, Nat.zero_le _⟩ hl.1 rfl (Nat.le_of_ble_eq_true rfl) dX5_isRicher_74) ?_
    refine lv_istore (lv' := [(6, .int (nI (cN (fun z => decide (k.1 14 z = (nI j))) (k.2 2)))), (5, .int (nI (cN (fun z => decide (k.1 14 z = (nI r))) (k.2 2)))), (4, .int ((k.1 5 j) - (k.1 6 j))), (3, .int ((k.1 5 r) - (k.1 6 r))), (0, .ref (f 0)), (1, .int (nI r)), (2, .int (nI j))]) hx hb dX5_isRicher_77 hl (by decide) rfl (fun ls hl => ?_)
    refine lv_iload hx hb dX5_isRicher_79 (lv_at hl 1 rfl) ?_
    refine lv_iload hx hb dX5_isRicher_81 (lv_at hl 0 rfl) ?_
    refine lv_icmp_eq (tgt := 99) hx hb dX5_isRicher_83 (by decide) (fun c_83 => ?_) (fun c_83 => ?_)
    · refine lv_iload_n hx hb dX5_isRicher_99 rfl (lv_at hl 5 rfl) ?_
      refine lv_iload_n hx hb dX5_isRicher_100 rfl (lv_at hl 6 rfl) ?_
      refine lv_icmp_ge (tgt := 108) hx hb dX5_isRicher_101 (by decide) (fun c_101 => ?_) (fun c_101 => ?_)
      · have n_101 := Int32.not_lt.mpr c_101
        refine lv_iconst (v := 0) hx hb dX5_isRicher_108 (by decide) ?_
        exact pm_zret hF dX5_isRicher_109 rfl (by simp [bI, riB, cWr, c_44, c_83, c_101, n_101])
      · have n_101 := Int32.not_le.mp c_101
        refine lv_iconst (v := 1) hx hb dX5_isRicher_104 (by decide) ?_
        refine lv_goto (tgt := 109) hx hb dX5_isRicher_105 (by decide) ?_
        exact pm_zret hF dX5_isRicher_109 rfl (by simp [bI, riB, cWr, c_44, c_83, c_101, n_101])
    · refine lv_iload hx hb dX5_isRicher_86 (lv_at hl 1 rfl) ?_
      refine lv_iload hx hb dX5_isRicher_88 (lv_at hl 0 rfl) ?_
      refine lv_icmp_ge (tgt := 97) hx hb dX5_isRicher_90 (by decide) (fun c_90 => ?_) (fun c_90 => ?_)
      · have n_90 := Int32.not_lt.mpr c_90
        refine lv_iconst (v := 0) hx hb dX5_isRicher_97 (by decide) ?_
        exact pm_zret hF dX5_isRicher_98 rfl (by simp [bI, riB, cWr, c_44, c_83, c_90, n_90])
      · have n_90 := Int32.not_le.mp c_90
        refine lv_iconst (v := 1) hx hb dX5_isRicher_93 (by decide) ?_
        refine lv_goto (tgt := 98) hx hb dX5_isRicher_94 (by decide) ?_
        exact pm_zret hF dX5_isRicher_98 rfl (by simp [bI, riB, cWr, c_44, c_83, c_90, n_90])
  · refine lv_iload_n hx hb dX5_isRicher_47 rfl (lv_at hl 1 rfl) ?_
    refine lv_iload hx hb dX5_isRicher_48 (lv_at hl 0 rfl) ?_
    refine lv_icmp_le (tgt := 57) hx hb dX5_isRicher_50 (by decide) (fun c_50 => ?_) (fun c_50 => ?_)
    · have n_50 := Int32.not_lt.mpr c_50
      refine lv_iconst (v := 0) hx hb dX5_isRicher_57 (by decide) ?_
      exact pm_zret hF dX5_isRicher_58 rfl (by simp [bI, riB, cWr, c_44, c_50, n_50])
    · have n_50 := Int32.not_le.mp c_50
      refine lv_iconst (v := 1) hx hb dX5_isRicher_53 (by decide) ?_
      refine lv_goto (tgt := 58) hx hb dX5_isRicher_54 (by decide) ?_
      exact pm_zret hF dX5_isRicher_58 rfl (by simp [bI, riB, cWr, c_44, c_50, n_50])

set_option maxHeartbeats 4000000 in
set_option maxRecDepth 100000 in
theorem m_X5_roofAtPlace {X : Cx} {l : Launch} (h0 : Init X) {f : Nat → Nat} {k : Sk} (hO : Ok k)  (q : Int32) : PM X l yX5_roofAtPlace cX5_roofAtPlace 5 (some .int) 3 71 [.ref (f 0), .int q] (va_P X.D vwCl (skW X f k)) (.int (fnd (fun z => decide (nI (rankR k z) = q)) (-1) (k.2 1) 0)) := by
  refine Met.mk (Bh := va_P X.D vwCl (skW X f k)) (by decide) (Nat.le_of_ble_eq_true rfl) ?_
  intro p e s m below meth c ls hF hB hl
  have hl : lv_has ls 5 [(0, .ref (f 0)), (1, .int q)] := hl
  obtain ⟨hx, hb, hml, hr, hlk, hown, hG⟩ := id hF
  have hK := hG.K h0
  have hS : va_S noA s.heap s.heap [] := va_S.rf
  have hO1 := hO.1
  have hO2 := hO.2.1
  have hO3 := hO.2.2.1
  refine lv_iconst (v := 0) hx hb dX5_roofAtPlace_0 (by decide) ?_
  refine lv_istore_n (lv' := [(2, .int 0), (0, .ref (f 0)), (1, .int q)]) hx hb dX5_roofAtPlace_1 rfl hl (by decide) rfl (fun ls hl => ?_)
  have key_2 : ∀ (nf j : Nat), j + nf = k.2 1 → fnd (fun z => decide (nI (rankR k z) = q)) (-1) (k.2 1) 0 = fnd (fun z => decide (nI (rankR k z) = q)) (-1) nf j → ∀ (ls : Array Slot), lv_has ls 5 [(0, .ref (f 0)), (1, .int q), (2, .int (nI j))] → W p l e ({ frames := 3, cells := 0, slots := 0, locals := 71 } : Room) s m ([.ref (f 0), .int q] : List Value).toArray below meth c s.heap [] 0 0 (MQ below (qP (.int (fnd (fun z => decide (nI (rankR k z) = q)) (-1) (k.2 1) 0))) ([.ref (f 0), .int q] : List Value).toArray s 0 0 noA) (F0 m 2 ls []) := by
    intro nf
    induction nf with
    | zero =>
      intro j hj hx_j ls hl
      have hj_e : j = k.2 1 := by omega
      refine lv_iload_n hx hb dX5_roofAtPlace_2 rfl (lv_at hl 2 rfl) ?_
      refine lv_aload_n hx hb dX5_roofAtPlace_3 rfl (lv_at hl 0 rfl) ?_
      refine g_get (ci := 4) (v := .ref (f 2)) h0 hF inX5 hB 0 rfl rfl 1 (by decide) wf_X5_21 rfl rfl dX5_roofAtPlace_4 ?_
      refine g_get (ci := 3) (v := .int (nI (k.2 1))) h0 hF inX4 hB 2 rfl rfl 0 (by decide) wf_X5_78 rfl rfl dX5_roofAtPlace_7 ?_
      refine lv_icmp_ge (tgt := 62) hx hb dX5_roofAtPlace_10 (by decide) (fun c_10 => ?_) (fun c_10 => absurd (nI_le (a := k.2 1) (b := j) (by omega) (by omega)) c_10)
      have n_10 := Int32.not_lt.mpr c_10
      refine lv_iconst (v := (-1)) hx hb dX5_roofAtPlace_62 (by decide) ?_
      exact pm_iret hF dX5_roofAtPlace_63 (by rw [hx_j]; rfl)
    | succ nf ih_2 =>
      intro j hj hx_j ls hl
      have hj_l : j < k.2 1 := by omega
      refine lv_iload_n hx hb dX5_roofAtPlace_2 rfl (lv_at hl 2 rfl) ?_
      refine lv_aload_n hx hb dX5_roofAtPlace_3 rfl (lv_at hl 0 rfl) ?_
      refine g_get (ci := 4) (v := .ref (f 2)) h0 hF inX5 hB 0 rfl rfl 1 (by decide) wf_X5_21 rfl rfl dX5_roofAtPlace_4 ?_
      refine g_get (ci := 3) (v := .int (nI (k.2 1))) h0 hF inX4 hB 2 rfl rfl 0 (by decide) wf_X5_78 rfl rfl dX5_roofAtPlace_7 ?_
      refine lv_icmp_ge (tgt := 62) hx hb dX5_roofAtPlace_10 (by decide) (fun c_10 => absurd c_10 (nI_ge (a := j) (b := k.2 1) (by omega) (by omega))) (fun c_10 => ?_)
      have n_10 := Int32.not_le.mp c_10
      refine lv_iconst (v := 0) hx hb dX5_roofAtPlace_13 (by decide) ?_
      refine lv_istore_n (lv' := [(3, .int 0), (0, .ref (f 0)), (1, .int q), (2, .int (nI j))]) hx hb dX5_roofAtPlace_14 rfl hl (by decide) rfl (fun ls hl => ?_)
      refine lv_iconst (v := 0) hx hb dX5_roofAtPlace_15 (by decide) ?_
      refine lv_istore (lv' := [(4, .int 0), (3, .int 0), (0, .ref (f 0)), (1, .int q), (2, .int (nI j))]) hx hb dX5_roofAtPlace_16 hl (by decide) rfl (fun ls hl => ?_)
      have key_18 : ∀ (nf i : Nat), i + nf = k.2 1 → ∀ (ls : Array Slot), lv_has ls 5 [(0, .ref (f 0)), (1, .int q), (2, .int (nI j)), (3, .int (nI (cN (fun z => riB k z j) i))), (4, .int (nI i))] → W p l e ({ frames := 3, cells := 0, slots := 0, locals := 71 } : Room) s m ([.ref (f 0), .int q] : List Value).toArray below meth c s.heap [] 0 0 (MQ below (qP (.int (fnd (fun z => decide (nI (rankR k z) = q)) (-1) (k.2 1) 0))) ([.ref (f 0), .int q] : List Value).toArray s 0 0 noA) (F0 m 18 ls []) := by
        intro nf
        induction nf with
        | zero =>
          intro i hi ls hl
          have hi_e : i = k.2 1 := by omega
          refine lv_iload hx hb dX5_roofAtPlace_18 (lv_at hl 4 rfl) ?_
          refine lv_aload_n hx hb dX5_roofAtPlace_20 rfl (lv_at hl 0 rfl) ?_
          refine g_get (ci := 4) (v := .ref (f 2)) h0 hF inX5 hB 0 rfl rfl 1 (by decide) wf_X5_21 rfl rfl dX5_roofAtPlace_21 ?_
          refine g_get (ci := 3) (v := .int (nI (k.2 1))) h0 hF inX4 hB 2 rfl rfl 0 (by decide) wf_X5_78 rfl rfl dX5_roofAtPlace_24 ?_
          refine lv_icmp_ge (tgt := 49) hx hb dX5_roofAtPlace_27 (by decide) (fun c_27 => ?_) (fun c_27 => absurd (nI_le (a := k.2 1) (b := i) (by omega) (by omega)) c_27)
          have n_27 := Int32.not_lt.mpr c_27
          refine lv_iload_n hx hb dX5_roofAtPlace_49 rfl (lv_at hl 3 rfl) ?_
          refine lv_iload_n hx hb dX5_roofAtPlace_50 rfl (lv_at hl 1 rfl) ?_
          refine lv_icmp_ne (tgt := 56) hx hb dX5_roofAtPlace_51 (by decide) (fun c_51 => ?_) (fun c_51 => ?_)
          · refine lv_iinc (v := nI (j + 1)) (lv' := [(2, .int (nI (j + 1))), (0, .ref (f 0)), (1, .int q), (3, .int (nI (cN (fun z => riB k z j) i))), (4, .int (nI i))]) hx hb dX5_roofAtPlace_56 hl (k := 2) rfl (nI_1 j) (by decide) rfl (fun ls hl => ?_)
            refine lv_goto (tgt := 2) hx hb dX5_roofAtPlace_59 (by decide) ?_
            refine ih_2 (j + 1) (by omega) (by rw [hx_j, fnd, if_neg (fun h9 => c_51 (by have h8 := of_decide_eq_true h9; rw [rankR, ← hi_e] at h8; exact h8))]) ls (lv_eqv (lv_sub (l' := [(0, .ref (f 0)), (1, .int q), (2, .int (nI (j + 1)))]) hl [1, 2, 0] rfl) ?_)
            rfl
          · refine lv_iload_n hx hb dX5_roofAtPlace_54 rfl (lv_at hl 2 rfl) ?_
            exact pm_iret hF dX5_roofAtPlace_55 (by rw [hx_j, fnd, if_pos (decide_eq_true (by rw [rankR, ← hi_e]; exact c_51))])
        | succ nf ih_18 =>
          intro i hi ls hl
          have hi_l : i < k.2 1 := by omega
          refine lv_iload hx hb dX5_roofAtPlace_18 (lv_at hl 4 rfl) ?_
          refine lv_aload_n hx hb dX5_roofAtPlace_20 rfl (lv_at hl 0 rfl) ?_
          refine g_get (ci := 4) (v := .ref (f 2)) h0 hF inX5 hB 0 rfl rfl 1 (by decide) wf_X5_21 rfl rfl dX5_roofAtPlace_21 ?_
          refine g_get (ci := 3) (v := .int (nI (k.2 1))) h0 hF inX4 hB 2 rfl rfl 0 (by decide) wf_X5_78 rfl rfl dX5_roofAtPlace_24 ?_
          refine lv_icmp_ge (tgt := 49) hx hb dX5_roofAtPlace_27 (by decide) (fun c_27 => absurd c_27 (nI_ge (a := i) (b := k.2 1) (by omega) (by omega))) (fun c_27 => ?_)
          have n_27 := Int32.not_le.mp c_27
          refine lv_aload_n hx hb dX5_roofAtPlace_30 rfl (lv_at hl 0 rfl) ?_
          refine lv_iload hx hb dX5_roofAtPlace_31 (lv_at hl 4 rfl) ?_
          refine lv_iload_n hx hb dX5_roofAtPlace_33 rfl (lv_at hl 2 rfl) ?_
          refine core_p (grV (n := 2) (As := [.int (nI i), .int (nI j)]) (rest := []) h0 hF (m_X5_isRicher h0 (f := f) (k := k) hO  (nI i) i rfl (by omega) (nI j) j rfl (by omega)) wm_X5_204 wo_X5_isRicher ws_X5__X5_isRicher wz_X5 wc_X5_isRicher ⟨by decide, by decide, by decide +kernel⟩ rfl ⟨Nat.le_of_ble_eq_true rfl, Nat.le_of_ble_eq_true rfl⟩ (ci := 4) ⟨_, hB 0 _ rfl⟩ rfl hB hS noA_old ⟨Nat.zero_le _, Nat.zero_le _⟩ hl.1 rfl (Nat.le_of_ble_eq_true rfl) dX5_roofAtPlace_34) ?_
          refine lv_if_eq (tgt := 43) hx hb dX5_roofAtPlace_37 (by decide) (fun c_37 => ?_) (fun c_37 => ?_)
          · have n_37 := bI_0.mp c_37
            refine lv_iinc (v := nI (i + 1)) (lv' := [(4, .int (nI (i + 1))), (0, .ref (f 0)), (1, .int q), (2, .int (nI j)), (3, .int (nI (cN (fun z => riB k z j) i)))]) hx hb dX5_roofAtPlace_43 hl (k := 4) rfl (nI_1 i) (by decide) rfl (fun ls hl => ?_)
            refine lv_goto (tgt := 18) hx hb dX5_roofAtPlace_46 (by decide) ?_
            refine ih_18 (i + 1) (by omega) ls (lv_eqv (lv_sub (l' := [(0, .ref (f 0)), (1, .int q), (2, .int (nI j)), (3, .int (nI (cN (fun z => riB k z j) i))), (4, .int (nI (i + 1)))]) hl [1, 2, 3, 4, 0] rfl) ?_)
            rw [show (nI (cN (fun z => riB k z j) i)) = (nI (cN (fun z => riB k z j) (i + 1))) from (congrArg nI (cN_f (by simp [c_10, n_10, c_27, n_27, n_37])).symm)]
          · have n_37 := bI_n0.mp c_37
            refine lv_iinc (v := nI ((cN (fun z => riB k z j) i) + 1)) (lv' := [(3, .int (nI ((cN (fun z => riB k z j) i) + 1))), (0, .ref (f 0)), (1, .int q), (2, .int (nI j)), (4, .int (nI i))]) hx hb dX5_roofAtPlace_40 hl (k := 3) rfl (nI_1 (cN (fun z => riB k z j) i)) (by decide) rfl (fun ls hl => ?_)
            refine lv_iinc (v := nI (i + 1)) (lv' := [(4, .int (nI (i + 1))), (3, .int (nI ((cN (fun z => riB k z j) i) + 1))), (0, .ref (f 0)), (1, .int q), (2, .int (nI j))]) hx hb dX5_roofAtPlace_43 hl (k := 4) rfl (nI_1 i) (by decide) rfl (fun ls hl => ?_)
            refine lv_goto (tgt := 18) hx hb dX5_roofAtPlace_46 (by decide) ?_
            refine ih_18 (i + 1) (by omega) ls (lv_eqv (lv_sub (l' := [(0, .ref (f 0)), (1, .int q), (2, .int (nI j)), (3, .int (nI ((cN (fun z => riB k z j) i) + 1))), (4, .int (nI (i + 1)))]) hl [2, 3, 4, 1, 0] rfl) ?_)
            rw [show (nI ((cN (fun z => riB k z j) i) + 1)) = (nI (cN (fun z => riB k z j) (i + 1))) from (congrArg nI (cN_t (by simp [c_10, n_10, c_27, n_27, n_37])).symm)]
      exact key_18 (k.2 1) 0 (by omega) ls (lv_sub hl [2, 3, 4, 1, 0] rfl)
  exact key_2 (k.2 1) 0 (by omega) (rfl) ls (lv_sub hl [1, 2, 0] rfl)
end
