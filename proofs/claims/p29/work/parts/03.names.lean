/-! ===== BEGIN printed: names, fields, word lists, decode rows ===== -/
def RX0 : String := "Claimclub$Claim"
def TX0 : u_T := fun k => match k with
  | 0 => ("Claimclub$Claim", "kind", "I", true)
  | 1 => ("Claimclub$Claim", "lender", "I", true)
  | 2 => ("Claimclub$Claim", "rank", "I", true)
  | 3 => ("Claimclub$Claim", "series", "I", true)
  | 4 => ("Claimclub$Claim", "isHidden", "Z", false)
  | 5 => ("Claimclub$Claim", "principal", "J", false)
  | 6 => ("Claimclub$Claim", "coupon", "I", false)
  | 7 => ("Claimclub$Claim", "due", "I", false)
  | 8 => ("Claimclub$Claim", "status", "I", false)
  | 9 => ("Claimclub$Claim", "arrears", "J", false)
  | 10 => ("Claimclub$Claim", "aside", "J", false)
  | 11 => ("Claimclub$Claim", "suit", "I", false)
  | 12 => ("Claimclub$Claim", "origin", "I", false)
  | 13 => ("Claimclub$Claim", "worthBefore", "J", false)
  | 14 => ("Claimclub$Claim", "worthAfter", "J", false)
  | 15 => ("Claimclub$Claim", "paid", "J", false)
  | 16 => ("Claimclub$Claim", "payments", "[J", true)
  | _ => ("Claimclub$Claim", "paymentCount", "I", false)
def tyX0 : Nat → FieldType := fun k => match k with
  | 0 => .int
  | 1 => .int
  | 2 => .int
  | 3 => .int
  | 4 => .boolean
  | 5 => .long
  | 6 => .int
  | 7 => .int
  | 8 => .int
  | 9 => .long
  | 10 => .long
  | 11 => .int
  | 12 => .int
  | 13 => .long
  | 14 => .long
  | 15 => .long
  | 16 => .array .long
  | _ => .int
abbrev wsX00 : List Cond := u_ws RX0 TX0 18
theorem nmX0 : ∀ a, a < 18 → ∀ b, b < 18 → a ≠ b → (TX0 a).2.1 ≠ (TX0 b).2.1 := by decide +kernel
theorem tyX0_ok : ∀ k, k < 18 → parseFieldDescriptor (TX0 k).2.2.1 = some (tyX0 k) := by decide +kernel
abbrev cX0_init : ByteArray := prog_2_method_1_code
def yX0_init : MethodName := ⟨RX0, "<init>", "(IIIIZ)V"⟩
abbrev cX0_setTerms : ByteArray := prog_2_method_2_code
def yX0_setTerms : MethodName := ⟨RX0, "setTerms", "(JII)V"⟩
abbrev cX0_isOpen : ByteArray := prog_2_method_3_code
def yX0_isOpen : MethodName := ⟨RX0, "isOpen", "()Z"⟩
abbrev cX0_isOfState : ByteArray := prog_2_method_4_code
def yX0_isOfState : MethodName := ⟨RX0, "isOfState", "()Z"⟩
abbrev cX0_isVoter : ByteArray := prog_2_method_5_code
def yX0_isVoter : MethodName := ⟨RX0, "isVoter", "()Z"⟩
abbrev cX0_isOfficial : ByteArray := prog_2_method_6_code
def yX0_isOfficial : MethodName := ⟨RX0, "isOfficial", "()Z"⟩
abbrev cX0_owed : ByteArray := prog_2_method_7_code
def yX0_owed : MethodName := ⟨RX0, "owed", "()J"⟩
abbrev cX0_fallDue : ByteArray := prog_2_method_8_code
def yX0_fallDue : MethodName := ⟨RX0, "fallDue", "(I)V"⟩
abbrev cX0_receive : ByteArray := prog_2_method_9_code
def yX0_receive : MethodName := ⟨RX0, "receive", "(J)V"⟩
abbrev cX0_paymentsAdded : ByteArray := prog_2_method_10_code
def yX0_paymentsAdded : MethodName := ⟨RX0, "paymentsAdded", "()J"⟩
abbrev cX0_worth : ByteArray := prog_2_method_11_code
def yX0_worth : MethodName := ⟨RX0, "worth", "(II)J"⟩
def RX1 : String := "Claimclub$Offer"
def TX1 : u_T := fun k => match k with
  | 0 => ("Claimclub$Offer", "cut", "I", true)
  | 1 => ("Claimclub$Offer", "coupon", "I", true)
  | 2 => ("Claimclub$Offer", "years", "I", true)
  | _ => ("Claimclub$Offer", "yeses", "J", false)
def tyX1 : Nat → FieldType := fun k => match k with
  | 0 => .int
  | 1 => .int
  | 2 => .int
  | _ => .long
abbrev wsX10 : List Cond := u_ws RX1 TX1 4
theorem nmX1 : ∀ a, a < 4 → ∀ b, b < 4 → a ≠ b → (TX1 a).2.1 ≠ (TX1 b).2.1 := by decide +kernel
theorem tyX1_ok : ∀ k, k < 4 → parseFieldDescriptor (TX1 k).2.2.1 = some (tyX1 k) := by decide +kernel
abbrev cX1_init : ByteArray := prog_3_method_1_code
def yX1_init : MethodName := ⟨RX1, "<init>", "(III)V"⟩
abbrev cX1_principalFor : ByteArray := prog_3_method_2_code
def yX1_principalFor : MethodName := ⟨RX1, "principalFor", "(LClaimclub$Claim;)J"⟩
abbrev cX1_tell : ByteArray := prog_3_method_3_code
def yX1_tell : MethodName := ⟨RX1, "tell", "(IZ)V"⟩
abbrev cX1_hasYesOf : ByteArray := prog_3_method_4_code
def yX1_hasYesOf : MethodName := ⟨RX1, "hasYesOf", "(I)Z"⟩
abbrev cX1_forgetVotes : ByteArray := prog_3_method_5_code
def yX1_forgetVotes : MethodName := ⟨RX1, "forgetVotes", "()V"⟩
def RX2 : String := "Claimclub$Thing"
def TX2 : u_T := fun k => match k with
  | 0 => ("Claimclub$Thing", "worth", "I", true)
  | _ => ("Claimclub$Thing", "isSeized", "Z", false)
def tyX2 : Nat → FieldType := fun k => match k with
  | 0 => .int
  | _ => .boolean
abbrev wsX20 : List Cond := u_ws RX2 TX2 2
theorem nmX2 : ∀ a, a < 2 → ∀ b, b < 2 → a ≠ b → (TX2 a).2.1 ≠ (TX2 b).2.1 := by decide +kernel
theorem tyX2_ok : ∀ k, k < 2 → parseFieldDescriptor (TX2 k).2.2.1 = some (tyX2 k) := by decide +kernel
abbrev cX2_init : ByteArray := prog_4_method_1_code
def yX2_init : MethodName := ⟨RX2, "<init>", "(I)V"⟩
def RX3 : String := "Claimclub"
def TX3 : u_T := fun k => match k with
  | 0 => ("Claimclub", "claims", "Ljava/util/ArrayList;", true)
  | 1 => ("Claimclub", "offers", "Ljava/util/ArrayList;", true)
  | 2 => ("Claimclub", "things", "Ljava/util/ArrayList;", true)
  | 3 => ("Claimclub", "now", "I", false)
  | 4 => ("Claimclub", "purse", "J", false)
  | 5 => ("Claimclub", "output", "J", false)
  | 6 => ("Claimclub", "growthRate", "I", false)
  | 7 => ("Claimclub", "balanceRate", "I", false)
  | 8 => ("Claimclub", "discountRate", "I", false)
  | 9 => ("Claimclub", "moratoria", "I", false)
  | 10 => ("Claimclub", "assurances", "I", false)
  | 11 => ("Claimclub", "trancheSize", "I", false)
  | 12 => ("Claimclub", "balanceTarget", "I", false)
  | _ => ("Claimclub", "reviewsLeft", "I", false)
def tyX3 : Nat → FieldType := fun k => match k with
  | 0 => .object "java/util/ArrayList"
  | 1 => .object "java/util/ArrayList"
  | 2 => .object "java/util/ArrayList"
  | 3 => .int
  | 4 => .long
  | 5 => .long
  | 6 => .int
  | 7 => .int
  | 8 => .int
  | 9 => .int
  | 10 => .int
  | 11 => .int
  | 12 => .int
  | _ => .int
abbrev wsX30 : List Cond := u_ws RX3 TX3 14
theorem nmX3 : ∀ a, a < 14 → ∀ b, b < 14 → a ≠ b → (TX3 a).2.1 ≠ (TX3 b).2.1 := by decide +kernel
theorem tyX3_ok : ∀ k, k < 14 → parseFieldDescriptor (TX3 k).2.2.1 = some (tyX3 k) := by decide +kernel
abbrev cX3_init : ByteArray := prog_1_method_1_code
def yX3_init : MethodName := ⟨RX3, "<init>", "()V"⟩
abbrev cX3_claim : ByteArray := prog_1_method_2_code
def yX3_claim : MethodName := ⟨RX3, "claim", "(IIIIIIIZ)I"⟩
abbrev cX3_pledge : ByteArray := prog_1_method_3_code
def yX3_pledge : MethodName := ⟨RX3, "pledge", "(II)J"⟩
abbrev cX3_reveal : ByteArray := prog_1_method_4_code
def yX3_reveal : MethodName := ⟨RX3, "reveal", "(I)J"⟩
abbrev cX3_economy : ByteArray := prog_1_method_5_code
def yX3_economy : MethodName := ⟨RX3, "economy", "(III)J"⟩
abbrev cX3_moratorium : ByteArray := prog_1_method_6_code
def yX3_moratorium : MethodName := ⟨RX3, "moratorium", "(IZ)Z"⟩
abbrev cX3_year : ByteArray := prog_1_method_7_code
def yX3_year : MethodName := ⟨RX3, "year", "(I)J"⟩
abbrev cX3_passYear : ByteArray := prog_1_method_8_code
def yX3_passYear : MethodName := ⟨RX3, "passYear", "()J"⟩
abbrev cX3_broughtBy : ByteArray := prog_1_method_9_code
def yX3_broughtBy : MethodName := ⟨RX3, "broughtBy", "(J)J"⟩
abbrev cX3_grown : ByteArray := prog_1_method_10_code
def yX3_grown : MethodName := ⟨RX3, "grown", "(J)J"⟩
abbrev cX3_judgeSuits : ByteArray := prog_1_method_11_code
def yX3_judgeSuits : MethodName := ⟨RX3, "judgeSuits", "()V"⟩
abbrev cX3_serveRank : ByteArray := prog_1_method_12_code
def yX3_serveRank : MethodName := ⟨RX3, "serveRank", "(I)J"⟩
abbrev cX3_serve : ByteArray := prog_1_method_13_code
def yX3_serve : MethodName := ⟨RX3, "serve", "(LClaimclub$Claim;)J"⟩
abbrev cX3_payArrears : ByteArray := prog_1_method_14_code
def yX3_payArrears : MethodName := ⟨RX3, "payArrears", "(LClaimclub$Claim;)J"⟩
abbrev cX3_close : ByteArray := prog_1_method_15_code
def yX3_close : MethodName := ⟨RX3, "close", "(LClaimclub$Claim;)V"⟩
abbrev cX3_discount : ByteArray := prog_1_method_16_code
def yX3_discount : MethodName := ⟨RX3, "discount", "(I)I"⟩
abbrev cX3_offer : ByteArray := prog_1_method_17_code
def yX3_offer : MethodName := ⟨RX3, "offer", "(III)I"⟩
abbrev cX3_accept : ByteArray := prog_1_method_18_code
def yX3_accept : MethodName := ⟨RX3, "accept", "(II)I"⟩
abbrev cX3_swap : ByteArray := prog_1_method_19_code
def yX3_swap : MethodName := ⟨RX3, "swap", "(LClaimclub$Claim;ILClaimclub$Offer;)V"⟩
abbrev cX3_vote : ByteArray := prog_1_method_20_code
def yX3_vote : MethodName := ⟨RX3, "vote", "(IIZ)V"⟩
abbrev cX3_settle : ByteArray := prog_1_method_21_code
def yX3_settle : MethodName := ⟨RX3, "settle", "(I)I"⟩
abbrev cX3_seriesToSwap : ByteArray := prog_1_method_22_code
def yX3_seriesToSwap : MethodName := ⟨RX3, "seriesToSwap", "(LClaimclub$Offer;)I"⟩
abbrev cX3_isInSeries : ByteArray := prog_1_method_23_code
def yX3_isInSeries : MethodName := ⟨RX3, "isInSeries", "(LClaimclub$Claim;I)Z"⟩
abbrev cX3_arePooled : ByteArray := prog_1_method_24_code
def yX3_arePooled : MethodName := ⟨RX3, "arePooled", "(LClaimclub$Offer;)Z"⟩
abbrev cX3_hasMajority : ByteArray := prog_1_method_25_code
def yX3_hasMajority : MethodName := ⟨RX3, "hasMajority", "(LClaimclub$Offer;II)Z"⟩
abbrev cX3_bondsOwed : ByteArray := prog_1_method_26_code
def yX3_bondsOwed : MethodName := ⟨RX3, "bondsOwed", "(I)J"⟩
abbrev cX3_bondsOwedWithYes : ByteArray := prog_1_method_27_code
def yX3_bondsOwedWithYes : MethodName := ⟨RX3, "bondsOwedWithYes", "(LClaimclub$Offer;I)J"⟩
abbrev cX3_votingWeight : ByteArray := prog_1_method_28_code
def yX3_votingWeight : MethodName := ⟨RX3, "votingWeight", "(LClaimclub$Claim;I)J"⟩
abbrev cX3_thing : ByteArray := prog_1_method_29_code
def yX3_thing : MethodName := ⟨RX3, "thing", "(I)I"⟩
abbrev cX3_sue : ByteArray := prog_1_method_30_code
def yX3_sue : MethodName := ⟨RX3, "sue", "(I)V"⟩
abbrev cX3_seize : ByteArray := prog_1_method_31_code
def yX3_seize : MethodName := ⟨RX3, "seize", "(II)J"⟩
abbrev cX3_programme : ByteArray := prog_1_method_32_code
def yX3_programme : MethodName := ⟨RX3, "programme", "(III)V"⟩
abbrev cX3_assure : ByteArray := prog_1_method_33_code
def yX3_assure : MethodName := ⟨RX3, "assure", "(IZ)Z"⟩
abbrev cX3_review : ByteArray := prog_1_method_34_code
def yX3_review : MethodName := ⟨RX3, "review", "()I"⟩
abbrev cX3_reasonToFail : ByteArray := prog_1_method_35_code
def yX3_reasonToFail : MethodName := ⟨RX3, "reasonToFail", "()I"⟩
abbrev cX3_hasFundArrears : ByteArray := prog_1_method_36_code
def yX3_hasFundArrears : MethodName := ⟨RX3, "hasFundArrears", "()Z"⟩
abbrev cX3_owedToOfficials : ByteArray := prog_1_method_37_code
def yX3_owedToOfficials : MethodName := ⟨RX3, "owedToOfficials", "(Z)J"⟩
abbrev cX3_payTranche : ByteArray := prog_1_method_38_code
def yX3_payTranche : MethodName := ⟨RX3, "payTranche", "()V"⟩
abbrev cX3_value : ByteArray := prog_1_method_39_code
def yX3_value : MethodName := ⟨RX3, "value", "(II)J"⟩
abbrev cX3_offered : ByteArray := prog_1_method_40_code
def yX3_offered : MethodName := ⟨RX3, "offered", "(III)J"⟩
abbrev cX3_effort : ByteArray := prog_1_method_41_code
def yX3_effort : MethodName := ⟨RX3, "effort", "(I)I"⟩
abbrev cX3_effortOf : ByteArray := prog_1_method_42_code
def yX3_effortOf : MethodName := ⟨RX3, "effortOf", "(I)I"⟩
abbrev cX3_areAlike : ByteArray := prog_1_method_43_code
def yX3_areAlike : MethodName := ⟨RX3, "areAlike", "()Z"⟩
abbrev cX3_wasSwapped : ByteArray := prog_1_method_44_code
def yX3_wasSwapped : MethodName := ⟨RX3, "wasSwapped", "(I)Z"⟩
abbrev cX3_passes : ByteArray := prog_1_method_45_code
def yX3_passes : MethodName := ⟨RX3, "passes", "(II)Z"⟩
abbrev cX3_isBearable : ByteArray := prog_1_method_46_code
def yX3_isBearable : MethodName := ⟨RX3, "isBearable", "(I)Z"⟩
abbrev cX3_burden : ByteArray := prog_1_method_47_code
def yX3_burden : MethodName := ⟨RX3, "burden", "(JJ)J"⟩
abbrev cX3_debt : ByteArray := prog_1_method_48_code
def yX3_debt : MethodName := ⟨RX3, "debt", "()J"⟩
abbrev cX3_ofClaim : ByteArray := prog_1_method_49_code
def yX3_ofClaim : MethodName := ⟨RX3, "ofClaim", "(II)J"⟩
abbrev cX3_paidAnew : ByteArray := prog_1_method_50_code
def yX3_paidAnew : MethodName := ⟨RX3, "paidAnew", "(I)J"⟩
abbrev cX3_ofState : ByteArray := prog_1_method_51_code
def yX3_ofState : MethodName := ⟨RX3, "ofState", "(I)J"⟩
abbrev cX3_claimAt : ByteArray := prog_1_method_52_code
def yX3_claimAt : MethodName := ⟨RX3, "claimAt", "(I)LClaimclub$Claim;"⟩
abbrev cX3_offerAt : ByteArray := prog_1_method_53_code
def yX3_offerAt : MethodName := ⟨RX3, "offerAt", "(I)LClaimclub$Offer;"⟩
abbrev cX3_thingAt : ByteArray := prog_1_method_54_code
def yX3_thingAt : MethodName := ⟨RX3, "thingAt", "(I)LClaimclub$Thing;"⟩
abbrev cX3_needRoom : ByteArray := prog_1_method_55_code
def yX3_needRoom : MethodName := ⟨RX3, "needRoom", "(I)V"⟩
abbrev cX3_needKind : ByteArray := prog_1_method_56_code
def yX3_needKind : MethodName := ⟨RX3, "needKind", "(I)V"⟩
abbrev cX3_needRange : ByteArray := prog_1_method_57_code
def yX3_needRange : MethodName := ⟨RX3, "needRange", "(III)V"⟩
abbrev cX3_hasBit : ByteArray := prog_1_method_58_code
def yX3_hasBit : MethodName := ⟨RX3, "hasBit", "(JI)Z"⟩
abbrev cX3_withBit : ByteArray := prog_1_method_59_code
def yX3_withBit : MethodName := ⟨RX3, "withBit", "(IIZ)I"⟩
abbrev cX3_quotient : ByteArray := prog_1_method_60_code
def yX3_quotient : MethodName := ⟨RX3, "quotient", "(JJ)J"⟩
abbrev cX3_couponOf : ByteArray := prog_1_method_61_code
def yX3_couponOf : MethodName := ⟨RX3, "couponOf", "(JI)J"⟩
abbrev cX3_discounted : ByteArray := prog_1_method_62_code
def yX3_discounted : MethodName := ⟨RX3, "discounted", "(JIII)J"⟩
def RX4 : String := "ClaimclubModel"
def TX4 : u_T := fun k => match k with
  | _ => ("", "", "", false)
def tyX4 : Nat → FieldType := fun k => match k with
  | _ => .int
abbrev wsX40 : List Cond := u_ws RX4 TX4 0
theorem nmX4 : ∀ a, a < 0 → ∀ b, b < 0 → a ≠ b → (TX4 a).2.1 ≠ (TX4 b).2.1 := by decide +kernel
theorem tyX4_ok : ∀ k, k < 0 → parseFieldDescriptor (TX4 k).2.2.1 = some (tyX4 k) := by decide +kernel
def RJx145de : String := "java/io/Serializable"
def TJx145de : u_T := fun k => match k with
  | _ => ("", "", "", false)
def tyJx145de : Nat → FieldType := fun k => match k with
  | _ => .int
abbrev wsJx145de0 : List Cond := u_ws RJx145de TJx145de 0
theorem nmJx145de : ∀ a, a < 0 → ∀ b, b < 0 → a ≠ b → (TJx145de a).2.1 ≠ (TJx145de b).2.1 := by decide +kernel
theorem tyJx145de_ok : ∀ k, k < 0 → parseFieldDescriptor (TJx145de k).2.2.1 = some (tyJx145de k) := by decide +kernel
def RJx8e188 : String := "java/lang/Cloneable"
def TJx8e188 : u_T := fun k => match k with
  | _ => ("", "", "", false)
def tyJx8e188 : Nat → FieldType := fun k => match k with
  | _ => .int
abbrev wsJx8e1880 : List Cond := u_ws RJx8e188 TJx8e188 0
theorem nmJx8e188 : ∀ a, a < 0 → ∀ b, b < 0 → a ≠ b → (TJx8e188 a).2.1 ≠ (TJx8e188 b).2.1 := by decide +kernel
theorem tyJx8e188_ok : ∀ k, k < 0 → parseFieldDescriptor (TJx8e188 k).2.2.1 = some (tyJx8e188 k) := by decide +kernel
def RJxab1ab : String := "java/lang/Iterable"
def TJxab1ab : u_T := fun k => match k with
  | _ => ("", "", "", false)
def tyJxab1ab : Nat → FieldType := fun k => match k with
  | _ => .int
abbrev wsJxab1ab0 : List Cond := u_ws RJxab1ab TJxab1ab 0
theorem nmJxab1ab : ∀ a, a < 0 → ∀ b, b < 0 → a ≠ b → (TJxab1ab a).2.1 ≠ (TJxab1ab b).2.1 := by decide +kernel
theorem tyJxab1ab_ok : ∀ k, k < 0 → parseFieldDescriptor (TJxab1ab k).2.2.1 = some (tyJxab1ab k) := by decide +kernel
def RJ9 : String := "java/lang/Math"
def TJ9 : u_T := fun k => match k with
  | _ => ("", "", "", false)
def tyJ9 : Nat → FieldType := fun k => match k with
  | _ => .int
abbrev wsJ90 : List Cond := u_ws RJ9 TJ9 0
theorem nmJ9 : ∀ a, a < 0 → ∀ b, b < 0 → a ≠ b → (TJ9 a).2.1 ≠ (TJ9 b).2.1 := by decide +kernel
theorem tyJ9_ok : ∀ k, k < 0 → parseFieldDescriptor (TJ9 k).2.2.1 = some (tyJ9 k) := by decide +kernel
abbrev cJ9_floorDiv_f86c9 : ByteArray := prog_14_method_49_code
def yJ9_floorDiv_f86c9 : MethodName := ⟨RJ9, "floorDiv", "(JJ)J"⟩
abbrev cJ9_max_7cf53 : ByteArray := prog_14_method_65_code
def yJ9_max_7cf53 : MethodName := ⟨RJ9, "max", "(II)I"⟩
abbrev cJ9_max_f86c9 : ByteArray := prog_14_method_66_code
def yJ9_max_f86c9 : MethodName := ⟨RJ9, "max", "(JJ)J"⟩
abbrev cJ9_min_7cf53 : ByteArray := prog_14_method_69_code
def yJ9_min_7cf53 : MethodName := ⟨RJ9, "min", "(II)I"⟩
abbrev cJ9_min_f86c9 : ByteArray := prog_14_method_70_code
def yJ9_min_f86c9 : MethodName := ⟨RJ9, "min", "(JJ)J"⟩
def RJ0 : String := "java/lang/String"
def TJ0 : u_T := fun k => match k with
  | _ => ("", "", "", false)
def tyJ0 : Nat → FieldType := fun k => match k with
  | _ => .int
abbrev wsJ00 : List Cond := u_ws RJ0 TJ0 0
theorem nmJ0 : ∀ a, a < 0 → ∀ b, b < 0 → a ≠ b → (TJ0 a).2.1 ≠ (TJ0 b).2.1 := by decide +kernel
theorem tyJ0_ok : ∀ k, k < 0 → parseFieldDescriptor (TJ0 k).2.2.1 = some (tyJ0 k) := by decide +kernel
def RJ10 : String := "java/lang/System"
def TJ10 : u_T := fun k => match k with
  | _ => ("", "", "", false)
def tyJ10 : Nat → FieldType := fun k => match k with
  | _ => .int
abbrev wsJ100 : List Cond := u_ws RJ10 TJ10 0
theorem nmJ10 : ∀ a, a < 0 → ∀ b, b < 0 → a ≠ b → (TJ10 a).2.1 ≠ (TJ10 b).2.1 := by decide +kernel
theorem tyJ10_ok : ∀ k, k < 0 → parseFieldDescriptor (TJ10 k).2.2.1 = some (tyJ10 k) := by decide +kernel
def RJxa1e45 : String := "java/util/AbstractCollection"
def TJxa1e45 : u_T := fun k => match k with
  | _ => ("", "", "", false)
def tyJxa1e45 : Nat → FieldType := fun k => match k with
  | _ => .int
abbrev wsJxa1e450 : List Cond := u_ws RJxa1e45 TJxa1e45 0
theorem nmJxa1e45 : ∀ a, a < 0 → ∀ b, b < 0 → a ≠ b → (TJxa1e45 a).2.1 ≠ (TJxa1e45 b).2.1 := by decide +kernel
theorem tyJxa1e45_ok : ∀ k, k < 0 → parseFieldDescriptor (TJxa1e45 k).2.2.1 = some (tyJxa1e45 k) := by decide +kernel
abbrev cJxa1e45_init_da8c8 : ByteArray := prog_19_method_1_code
def yJxa1e45_init_da8c8 : MethodName := ⟨RJxa1e45, "<init>", "()V"⟩
def RJxc12de : String := "java/util/AbstractList"
def TJxc12de : u_T := fun k => match k with
  | _ => ("", "", "", false)
def tyJxc12de : Nat → FieldType := fun k => match k with
  | _ => .int
abbrev wsJxc12de0 : List Cond := u_ws RJxc12de TJxc12de 0
theorem nmJxc12de : ∀ a, a < 0 → ∀ b, b < 0 → a ≠ b → (TJxc12de a).2.1 ≠ (TJxc12de b).2.1 := by decide +kernel
theorem tyJxc12de_ok : ∀ k, k < 0 → parseFieldDescriptor (TJxc12de k).2.2.1 = some (tyJxc12de k) := by decide +kernel
abbrev cJxc12de_init_da8c8 : ByteArray := prog_20_method_1_code
def yJxc12de_init_da8c8 : MethodName := ⟨RJxc12de, "<init>", "()V"⟩
def RJx4a65c : String := "java/util/ArrayList"
def TJx4a65c : u_T := fun k => match k with
  | 0 => ("java/util/AbstractList", "modCount", "I", false)
  | 1 => ("java/util/ArrayList", "elementData", "[Ljava/lang/Object;", false)
  | _ => ("java/util/ArrayList", "size", "I", false)
def tyJx4a65c : Nat → FieldType := fun k => match k with
  | 0 => .int
  | 1 => .array (.object "java/lang/Object")
  | _ => .int
abbrev wsJx4a65c0 : List Cond := u_ws RJx4a65c TJx4a65c 3
theorem nmJx4a65c : ∀ a, a < 3 → ∀ b, b < 3 → a ≠ b → (TJx4a65c a).2.1 ≠ (TJx4a65c b).2.1 := by decide +kernel
theorem tyJx4a65c_ok : ∀ k, k < 3 → parseFieldDescriptor (TJx4a65c k).2.2.1 = some (tyJx4a65c k) := by decide +kernel
abbrev cJx4a65c_init_da8c8 : ByteArray := prog_21_method_2_code
def yJx4a65c_init_da8c8 : MethodName := ⟨RJx4a65c, "<init>", "()V"⟩
abbrev cJx4a65c_grow_92f84 : ByteArray := prog_21_method_6_code
def yJx4a65c_grow_92f84 : MethodName := ⟨RJx4a65c, "grow", "(I)[Ljava/lang/Object;"⟩
abbrev cJx4a65c_grow_d5877 : ByteArray := prog_21_method_7_code
def yJx4a65c_grow_d5877 : MethodName := ⟨RJx4a65c, "grow", "()[Ljava/lang/Object;"⟩
abbrev cJx4a65c_size_8abf5 : ByteArray := prog_21_method_8_code
def yJx4a65c_size_8abf5 : MethodName := ⟨RJx4a65c, "size", "()I"⟩
abbrev cJx4a65c_elementData_915e3 : ByteArray := prog_21_method_18_code
def yJx4a65c_elementData_915e3 : MethodName := ⟨RJx4a65c, "elementData", "(I)Ljava/lang/Object;"⟩
abbrev cJx4a65c_get_915e3 : ByteArray := prog_21_method_20_code
def yJx4a65c_get_915e3 : MethodName := ⟨RJx4a65c, "get", "(I)Ljava/lang/Object;"⟩
abbrev cJx4a65c_add_72be8 : ByteArray := prog_21_method_24_code
def yJx4a65c_add_72be8 : MethodName := ⟨RJx4a65c, "add", "(Ljava/lang/Object;[Ljava/lang/Object;I)V"⟩
abbrev cJx4a65c_add_9ea2d : ByteArray := prog_21_method_25_code
def yJx4a65c_add_9ea2d : MethodName := ⟨RJx4a65c, "add", "(Ljava/lang/Object;)Z"⟩
def RJ7 : String := "java/util/Arrays"
def TJ7 : u_T := fun k => match k with
  | _ => ("", "", "", false)
def tyJ7 : Nat → FieldType := fun k => match k with
  | _ => .int
abbrev wsJ70 : List Cond := u_ws RJ7 TJ7 0
theorem nmJ7 : ∀ a, a < 0 → ∀ b, b < 0 → a ≠ b → (TJ7 a).2.1 ≠ (TJ7 b).2.1 := by decide +kernel
theorem tyJ7_ok : ∀ k, k < 0 → parseFieldDescriptor (TJ7 k).2.2.1 = some (tyJ7 k) := by decide +kernel
abbrev cJ7_copyOf_1904c : ByteArray := prog_22_method_119_code
def yJ7_copyOf_1904c : MethodName := ⟨RJ7, "copyOf", "([Ljava/lang/Object;I)[Ljava/lang/Object;"⟩
abbrev cJ7_copyOf_6403c : ByteArray := prog_22_method_120_code
def yJ7_copyOf_6403c : MethodName := ⟨RJ7, "copyOf", "([Ljava/lang/Object;ILjava/lang/Class;)[Ljava/lang/Object;"⟩
def RJx5ef63 : String := "java/util/Collection"
def TJx5ef63 : u_T := fun k => match k with
  | _ => ("", "", "", false)
def tyJx5ef63 : Nat → FieldType := fun k => match k with
  | _ => .int
abbrev wsJx5ef630 : List Cond := u_ws RJx5ef63 TJx5ef63 0
theorem nmJx5ef63 : ∀ a, a < 0 → ∀ b, b < 0 → a ≠ b → (TJx5ef63 a).2.1 ≠ (TJx5ef63 b).2.1 := by decide +kernel
theorem tyJx5ef63_ok : ∀ k, k < 0 → parseFieldDescriptor (TJx5ef63 k).2.2.1 = some (tyJx5ef63 k) := by decide +kernel
def RJxbd725 : String := "java/util/List"
def TJxbd725 : u_T := fun k => match k with
  | _ => ("", "", "", false)
def tyJxbd725 : Nat → FieldType := fun k => match k with
  | _ => .int
abbrev wsJxbd7250 : List Cond := u_ws RJxbd725 TJxbd725 0
theorem nmJxbd725 : ∀ a, a < 0 → ∀ b, b < 0 → a ≠ b → (TJxbd725 a).2.1 ≠ (TJxbd725 b).2.1 := by decide +kernel
theorem tyJxbd725_ok : ∀ k, k < 0 → parseFieldDescriptor (TJxbd725 k).2.2.1 = some (tyJxbd725 k) := by decide +kernel
def RJ15 : String := "java/util/Objects"
def TJ15 : u_T := fun k => match k with
  | _ => ("", "", "", false)
def tyJ15 : Nat → FieldType := fun k => match k with
  | _ => .int
abbrev wsJ150 : List Cond := u_ws RJ15 TJ15 0
theorem nmJ15 : ∀ a, a < 0 → ∀ b, b < 0 → a ≠ b → (TJ15 a).2.1 ≠ (TJ15 b).2.1 := by decide +kernel
theorem tyJ15_ok : ∀ k, k < 0 → parseFieldDescriptor (TJ15 k).2.2.1 = some (tyJ15 k) := by decide +kernel
abbrev cJ15_checkIndex_7cf53 : ByteArray := prog_25_method_17_code
def yJ15_checkIndex_7cf53 : MethodName := ⟨RJ15, "checkIndex", "(II)I"⟩
def RJxf0a74 : String := "java/util/RandomAccess"
def TJxf0a74 : u_T := fun k => match k with
  | _ => ("", "", "", false)
def tyJxf0a74 : Nat → FieldType := fun k => match k with
  | _ => .int
abbrev wsJxf0a740 : List Cond := u_ws RJxf0a74 TJxf0a74 0
theorem nmJxf0a74 : ∀ a, a < 0 → ∀ b, b < 0 → a ≠ b → (TJxf0a74 a).2.1 ≠ (TJxf0a74 b).2.1 := by decide +kernel
theorem tyJxf0a74_ok : ∀ k, k < 0 → parseFieldDescriptor (TJxf0a74 k).2.2.1 = some (tyJxf0a74 k) := by decide +kernel
def RJxa66e6 : String := "java/util/SequencedCollection"
def TJxa66e6 : u_T := fun k => match k with
  | _ => ("", "", "", false)
def tyJxa66e6 : Nat → FieldType := fun k => match k with
  | _ => .int
abbrev wsJxa66e60 : List Cond := u_ws RJxa66e6 TJxa66e6 0
theorem nmJxa66e6 : ∀ a, a < 0 → ∀ b, b < 0 → a ≠ b → (TJxa66e6 a).2.1 ≠ (TJxa66e6 b).2.1 := by decide +kernel
theorem tyJxa66e6_ok : ∀ k, k < 0 → parseFieldDescriptor (TJxa66e6 k).2.2.1 = some (tyJxa66e6 k) := by decide +kernel
def RJ8 : String := "jdk/internal/util/ArraysSupport"
def TJ8 : u_T := fun k => match k with
  | _ => ("", "", "", false)
def tyJ8 : Nat → FieldType := fun k => match k with
  | _ => .int
abbrev wsJ80 : List Cond := u_ws RJ8 TJ8 0
theorem nmJ8 : ∀ a, a < 0 → ∀ b, b < 0 → a ≠ b → (TJ8 a).2.1 ≠ (TJ8 b).2.1 := by decide +kernel
theorem tyJ8_ok : ∀ k, k < 0 → parseFieldDescriptor (TJ8 k).2.2.1 = some (tyJ8 k) := by decide +kernel
abbrev cJ8_newLength_cabcc : ByteArray := prog_28_method_27_code
def yJ8_newLength_cabcc : MethodName := ⟨RJ8, "newLength", "(III)I"⟩
abbrev cJ8_hugeLength_7cf53 : ByteArray := prog_28_method_28_code
def yJ8_hugeLength_7cf53 : MethodName := ⟨RJ8, "hugeLength", "(II)I"⟩
def RJ3 : String := "jdk/internal/util/Preconditions"
def TJ3 : u_T := fun k => match k with
  | _ => ("", "", "", false)
def tyJ3 : Nat → FieldType := fun k => match k with
  | _ => .int
abbrev wsJ30 : List Cond := u_ws RJ3 TJ3 0
theorem nmJ3 : ∀ a, a < 0 → ∀ b, b < 0 → a ≠ b → (TJ3 a).2.1 ≠ (TJ3 b).2.1 := by decide +kernel
theorem tyJ3_ok : ∀ k, k < 0 → parseFieldDescriptor (TJ3 k).2.2.1 = some (tyJ3 k) := by decide +kernel
abbrev cJ3_checkIndex_8e157 : ByteArray := prog_29_method_11_code
def yJ3_checkIndex_8e157 : MethodName := ⟨RJ3, "checkIndex", "(IILjava/util/function/BiFunction;)I"⟩
def RL : String := "ClaimclubLaw"
abbrev cL_draw : ByteArray := method_2_code
def yL_draw : MethodName := ⟨RL, "draw", "([II)I"⟩
abbrev cL_claims : ByteArray := method_3_code
def yL_claims : MethodName := ⟨RL, "claims", "(LClaimclub;IIIIIIZ)I"⟩
abbrev cL_pledges : ByteArray := method_4_code
def yL_pledges : MethodName := ⟨RL, "pledges", "(LClaimclub;II)J"⟩
abbrev cL_years : ByteArray := method_5_code
def yL_years : MethodName := ⟨RL, "years", "(LClaimclub;)J"⟩
abbrev cL_acts : ByteArray := method_6_code
def yL_acts : MethodName := ⟨RL, "acts", "(LClaimclub;III)I"⟩
abbrev cL_votes : ByteArray := method_7_code
def yL_votes : MethodName := ⟨RL, "votes", "(LClaimclub;IIZ)Z"⟩
abbrev cL_sues : ByteArray := method_8_code
def yL_sues : MethodName := ⟨RL, "sues", "(LClaimclub;I)Z"⟩
abbrev cL_seizes : ByteArray := method_9_code
def yL_seizes : MethodName := ⟨RL, "seizes", "(LClaimclub;II)J"⟩
abbrev cL_reveals : ByteArray := method_10_code
def yL_reveals : MethodName := ⟨RL, "reveals", "(LClaimclub;I)J"⟩
abbrev cL_down : ByteArray := method_11_code
def yL_down : MethodName := ⟨RL, "down", "(JJ)J"⟩
abbrev cL_step : ByteArray := method_12_code
def yL_step : MethodName := ⟨RL, "step", "(LClaimclub;[I[JIII)Z"⟩
abbrev cL_isOffered : ByteArray := method_13_code
def yL_isOffered : MethodName := ⟨RL, "isOffered", "(LClaimclub;[III)Z"⟩
abbrev cL_isYear : ByteArray := method_14_code
def yL_isYear : MethodName := ⟨RL, "isYear", "(LClaimclub;[I[J)Z"⟩
abbrev cL_isAccepted : ByteArray := method_15_code
def yL_isAccepted : MethodName := ⟨RL, "isAccepted", "(LClaimclub;[III)Z"⟩
abbrev cL_isSeized : ByteArray := method_16_code
def yL_isSeized : MethodName := ⟨RL, "isSeized", "(LClaimclub;[JIII)Z"⟩
abbrev cL_isReviewed : ByteArray := method_17_code
def yL_isReviewed : MethodName := ⟨RL, "isReviewed", "(LClaimclub;[I[J)Z"⟩
abbrev cL_isWhole : ByteArray := method_18_code
def yL_isWhole : MethodName := ⟨RL, "isWhole", "(LClaimclub;[I[J)Z"⟩
abbrev cL_law : ByteArray := code
def yL_law : MethodName := ⟨RL, "law", "([I)Z"⟩
