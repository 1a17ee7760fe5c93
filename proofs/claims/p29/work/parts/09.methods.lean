/-! THE ABSTRACT MACHINE, 6: the methods and their links -/
abbrev M_X0_init : MT := (yX0_init, cX0_init, 6, none, 5, (1, 60, 1, 70), [])
abbrev M_X0_setTerms : MT := (yX0_setTerms, cX0_setTerms, 5, none, 3, (0, 0, 0, 0), [])
abbrev M_X0_isOpen : MT := (yX0_isOpen, cX0_isOpen, 1, (some .boolean), 0, (0, 0, 0, 0), [])
abbrev M_X0_isOfState : MT := (yX0_isOfState, cX0_isOfState, 1, (some .boolean), 0, (0, 0, 0, 0), [])
abbrev M_X0_isVoter : MT := (yX0_isVoter, cX0_isVoter, 1, (some .boolean), 0, (1, 20, 0, 0), [])
abbrev M_X0_isOfficial : MT := (yX0_isOfficial, cX0_isOfficial, 1, (some .boolean), 0, (1, 20, 0, 0), [])
abbrev M_X0_owed : MT := (yX0_owed, cX0_owed, 1, (some .long), 0, (0, 0, 0, 0), [])
abbrev M_J9_floorDiv_f86c9 : MT := (yJ9_floorDiv_f86c9, cJ9_floorDiv_f86c9, 6, (some .long), 2, (0, 0, 0, 0), [])
abbrev M_X3_quotient : MT := (yX3_quotient, cX3_quotient, 4, (some .long), 2, (1, 25, 0, 0), [])
abbrev M_X3_couponOf : MT := (yX3_couponOf, cX3_couponOf, 3, (some .long), 2, (2, 48, 0, 0), [])
abbrev M_X0_fallDue : MT := (yX0_fallDue, cX0_fallDue, 2, none, 1, (3, 70, 0, 0), [])
abbrev M_J9_min_f86c9 : MT := (yJ9_min_f86c9, cJ9_min_f86c9, 4, (some .long), 2, (0, 0, 0, 0), [])
abbrev M_X0_receive : MT := (yX0_receive, cX0_receive, 5, none, 1, (1, 23, 0, 0), [])
abbrev M_X0_paymentsAdded : MT := (yX0_paymentsAdded, cX0_paymentsAdded, 8, (some .long), 0, (0, 0, 0, 0), [])
abbrev M_X3_discounted : MT := (yX3_discounted, cX3_discounted, 10, (some .long), 4, (3, 70, 0, 0), [])
abbrev M_X0_worth : MT := (yX0_worth, cX0_worth, 3, (some .long), 2, (4, 99, 0, 0), [])
abbrev M_X1_init : MT := (yX1_init, cX1_init, 4, none, 3, (1, 60, 0, 0), [])
abbrev M_X1_principalFor : MT := (yX1_principalFor, cX1_principalFor, 2, (some .long), 1, (2, 48, 0, 0), [])
abbrev M_X1_tell : MT := (yX1_tell, cX1_tell, 3, none, 2, (0, 0, 0, 0), [])
abbrev M_X3_hasBit : MT := (yX3_hasBit, cX3_hasBit, 3, (some .boolean), 2, (0, 0, 0, 0), [])
abbrev M_X1_hasYesOf : MT := (yX1_hasYesOf, cX1_hasYesOf, 2, (some .boolean), 1, (1, 22, 0, 0), [])
abbrev M_X1_forgetVotes : MT := (yX1_forgetVotes, cX1_forgetVotes, 1, none, 0, (0, 0, 0, 0), [])
abbrev M_X2_init : MT := (yX2_init, cX2_init, 2, none, 1, (1, 60, 0, 0), [])
abbrev M_Jxa1e45_init_da8c8 : MT := (yJxa1e45_init_da8c8, cJxa1e45_init_da8c8, 1, none, 0, (1, 60, 0, 0), [])
abbrev M_Jxc12de_init_da8c8 : MT := (yJxc12de_init_da8c8, cJxc12de_init_da8c8, 1, none, 0, (2, 80, 0, 0), [])
abbrev M_Jx4a65c_init_da8c8 : MT := (yJx4a65c_init_da8c8, cJx4a65c_init_da8c8, 1, none, 0, (3, 100, 0, 0), [])
abbrev M_X3_init : MT := (yX3_init, cX3_init, 1, none, 0, (4, 120, 3, 9), [])
abbrev M_X3_needRange : MT := (yX3_needRange, cX3_needRange, 3, none, 3, (6, 90, 1, 6), [])
abbrev M_Jx4a65c_size_8abf5 : MT := (yJx4a65c_size_8abf5, cJx4a65c_size_8abf5, 1, (some .int), 0, (0, 0, 0, 0), [])
abbrev M_X3_needRoom : MT := (yX3_needRoom, cX3_needRoom, 2, none, 1, (6, 90, 1, 6), [])
abbrev M_J9_max_7cf53 : MT := (yJ9_max_7cf53, cJ9_max_7cf53, 2, (some .int), 2, (0, 0, 0, 0), [])
abbrev M_J8_hugeLength_7cf53 : MT := (yJ8_hugeLength_7cf53, cJ8_hugeLength_7cf53, 3, (some .int), 2, (0, 0, 0, 0), [])
abbrev M_J8_newLength_cabcc : MT := (yJ8_newLength_cabcc, cJ8_newLength_cabcc, 4, (some .int), 3, (1, 22, 0, 0), [])
abbrev M_J9_min_7cf53 : MT := (yJ9_min_7cf53, cJ9_min_7cf53, 2, (some .int), 2, (0, 0, 0, 0), [])
abbrev M_J7_copyOf_6403c : MT := (yJ7_copyOf_6403c, cJ7_copyOf_6403c, 4, (some (.array (.object "java/lang/Object"))), 3, (1, 60, 1, 100), [])
abbrev M_J7_copyOf_1904c : MT := (yJ7_copyOf_1904c, cJ7_copyOf_1904c, 2, (some (.array (.object "java/lang/Object"))), 2, (2, 83, 1, 100), [])
abbrev M_Jx4a65c_grow_92f84 : MT := (yJx4a65c_grow_92f84, cJx4a65c_grow_92f84, 4, (some (.array (.object "java/lang/Object"))), 1, (3, 104, 1, 100), [])
abbrev M_Jx4a65c_grow_d5877 : MT := (yJx4a65c_grow_d5877, cJx4a65c_grow_d5877, 1, (some (.array (.object "java/lang/Object"))), 0, (4, 127, 1, 100), [])
abbrev M_Jx4a65c_add_72be8 : MT := (yJx4a65c_add_72be8, cJx4a65c_add_72be8, 4, none, 3, (5, 147, 1, 100), [])
abbrev M_Jx4a65c_add_9ea2d : MT := (yJx4a65c_add_9ea2d, cJx4a65c_add_9ea2d, 2, (some .boolean), 1, (6, 170, 1, 100), [])
abbrev M_X3_claim : MT := (yX3_claim, cX3_claim, 10, (some .int), 8, (7, 191, 11, 236), [])
abbrev M_J3_checkIndex_8e157 : MT := (yJ3_checkIndex_8e157, cJ3_checkIndex_8e157, 3, (some .int), 3, (0, 0, 0, 0), [])
abbrev M_J15_checkIndex_7cf53 : MT := (yJ15_checkIndex_7cf53, cJ15_checkIndex_7cf53, 2, (some .int), 2, (1, 22, 0, 0), [])
abbrev M_Jx4a65c_elementData_915e3 : MT := (yJx4a65c_elementData_915e3, cJx4a65c_elementData_915e3, 2, (some (.object "java/lang/Object")), 1, (0, 0, 0, 0), [])
abbrev M_Jx4a65c_get_915e3 : MT := (yJx4a65c_get_915e3, cJx4a65c_get_915e3, 2, (some (.object "java/lang/Object")), 1, (2, 43, 0, 0), [])
abbrev M_X3_claimAt : MT := (yX3_claimAt, cX3_claimAt, 2, (some (.object "Claimclub$Claim")), 1, (6, 90, 1, 6), [])
abbrev M_X3_pledge : MT := (yX3_pledge, cX3_pledge, 4, (some .long), 2, (7, 112, 3, 18), [])
abbrev M_X3_debt : MT := (yX3_debt, cX3_debt, 6, (some .long), 0, (3, 64, 0, 0), [])
abbrev M_X3_reveal : MT := (yX3_reveal, cX3_reveal, 3, (some .long), 1, (7, 111, 2, 12), [])
abbrev M_X3_economy : MT := (yX3_economy, cX3_economy, 4, (some .long), 3, (7, 112, 3, 18), [])
abbrev M_X3_needKind : MT := (yX3_needKind, cX3_needKind, 1, none, 1, (6, 90, 1, 6), [])
abbrev M_X3_withBit : MT := (yX3_withBit, cX3_withBit, 3, (some .int), 3, (0, 0, 0, 0), [])
abbrev M_X3_moratorium : MT := (yX3_moratorium, cX3_moratorium, 4, (some .boolean), 2, (7, 110, 1, 6), [])
abbrev M_X3_broughtBy : MT := (yX3_broughtBy, cX3_broughtBy, 3, (some .long), 1, (2, 48, 0, 0), [])
abbrev M_X3_grown : MT := (yX3_grown, cX3_grown, 3, (some .long), 1, (2, 48, 0, 0), [])
abbrev M_X3_judgeSuits : MT := (yX3_judgeSuits, cX3_judgeSuits, 3, none, 0, (3, 64, 0, 0), [])
abbrev M_X3_payArrears : MT := (yX3_payArrears, cX3_payArrears, 6, (some .long), 1, (2, 47, 0, 0), [])
abbrev M_X3_close : MT := (yX3_close, cX3_close, 2, none, 1, (0, 0, 0, 0), [])
abbrev M_X3_serve : MT := (yX3_serve, cX3_serve, 4, (some .long), 1, (4, 91, 0, 0), [])
abbrev M_X3_serveRank : MT := (yX3_serveRank, cX3_serveRank, 6, (some .long), 1, (5, 114, 0, 0), [])
abbrev M_X3_passYear : MT := (yX3_passYear, cX3_passYear, 4, (some .long), 0, (6, 139, 0, 0), [])
abbrev M_X3_year : MT := (yX3_year, cX3_year, 5, (some .long), 1, (7, 162, 2, 12), [])
abbrev M_X3_discount : MT := (yX3_discount, cX3_discount, 3, (some .int), 1, (7, 112, 1, 6), [])
abbrev M_X3_offer : MT := (yX3_offer, cX3_offer, 4, (some .int), 3, (7, 191, 6, 128), [])
abbrev M_X3_offerAt : MT := (yX3_offerAt, cX3_offerAt, 2, (some (.object "Claimclub$Offer")), 1, (6, 90, 1, 6), [])
abbrev M_X3_swap : MT := (yX3_swap, cX3_swap, 5, none, 3, (7, 191, 3, 188), [])
abbrev M_X3_accept : MT := (yX3_accept, cX3_accept, 5, (some .int), 2, (8, 215, 7, 212), [])
abbrev M_X3_vote : MT := (yX3_vote, cX3_vote, 6, none, 3, (7, 111, 3, 18), [])
abbrev M_X3_votingWeight : MT := (yX3_votingWeight, cX3_votingWeight, 3, (some .long), 2, (2, 40, 0, 0), [])
abbrev M_X3_bondsOwed : MT := (yX3_bondsOwed, cX3_bondsOwed, 5, (some .long), 1, (3, 64, 0, 0), [])
abbrev M_X3_bondsOwedWithYes : MT := (yX3_bondsOwedWithYes, cX3_bondsOwedWithYes, 6, (some .long), 2, (3, 64, 0, 0), [])
abbrev M_X3_hasMajority : MT := (yX3_hasMajority, cX3_hasMajority, 6, (some .boolean), 3, (4, 89, 0, 0), [])
abbrev M_X3_arePooled : MT := (yX3_arePooled, cX3_arePooled, 4, (some .boolean), 1, (5, 114, 0, 0), [])
abbrev M_X3_seriesToSwap : MT := (yX3_seriesToSwap, cX3_seriesToSwap, 5, (some .int), 1, (6, 137, 0, 0), [])
abbrev M_X3_isInSeries : MT := (yX3_isInSeries, cX3_isInSeries, 2, (some .boolean), 2, (1, 22, 0, 0), [])
abbrev M_X3_settle : MT := (yX3_settle, cX3_settle, 8, (some .int), 1, (8, 215, 122, 7532), [])
abbrev M_X3_thing : MT := (yX3_thing, cX3_thing, 2, (some .int), 1, (7, 191, 4, 114), [])
abbrev M_X3_sue : MT := (yX3_sue, cX3_sue, 3, none, 1, (7, 111, 2, 12), [])
abbrev M_X3_thingAt : MT := (yX3_thingAt, cX3_thingAt, 2, (some (.object "Claimclub$Thing")), 1, (6, 90, 1, 6), [])
abbrev M_X3_seize : MT := (yX3_seize, cX3_seize, 7, (some .long), 2, (7, 111, 3, 18), [])
abbrev M_X3_programme : MT := (yX3_programme, cX3_programme, 4, none, 3, (7, 112, 3, 18), [])
abbrev M_X3_assure : MT := (yX3_assure, cX3_assure, 4, (some .boolean), 2, (6, 90, 1, 6), [])
abbrev M_X3_hasFundArrears : MT := (yX3_hasFundArrears, cX3_hasFundArrears, 4, (some .boolean), 0, (3, 64, 0, 0), [])
abbrev M_X3_owedToOfficials : MT := (yX3_owedToOfficials, cX3_owedToOfficials, 7, (some .long), 1, (3, 64, 0, 0), [])
abbrev M_X3_reasonToFail : MT := (yX3_reasonToFail, cX3_reasonToFail, 1, (some .int), 0, (4, 90, 0, 0), [])
abbrev M_X3_payTranche : MT := (yX3_payTranche, cX3_payTranche, 2, none, 0, (7, 191, 3, 188), [])
abbrev M_X3_review : MT := (yX3_review, cX3_review, 2, (some .int), 0, (8, 212, 5, 200), [])
abbrev M_X3_value : MT := (yX3_value, cX3_value, 4, (some .long), 2, (7, 121, 2, 12), [])
abbrev M_X3_offered : MT := (yX3_offered, cX3_offered, 6, (some .long), 3, (7, 112, 3, 18), [])
abbrev M_X3_effortOf : MT := (yX3_effortOf, cX3_effortOf, 8, (some .int), 1, (3, 64, 0, 0), [])
abbrev M_X3_effort : MT := (yX3_effort, cX3_effort, 2, (some .int), 1, (7, 110, 1, 6), [])
abbrev M_X3_wasSwapped : MT := (yX3_wasSwapped, cX3_wasSwapped, 5, (some .boolean), 1, (3, 64, 0, 0), [])
abbrev M_X3_areAlike : MT := (yX3_areAlike, cX3_areAlike, 3, (some .boolean), 0, (4, 91, 0, 0), [])
abbrev M_X3_passes : MT := (yX3_passes, cX3_passes, 4, (some .boolean), 2, (7, 137, 2, 12), [])
abbrev M_J9_max_f86c9 : MT := (yJ9_max_f86c9, cJ9_max_f86c9, 4, (some .long), 2, (0, 0, 0, 0), [])
abbrev M_X3_burden : MT := (yX3_burden, cX3_burden, 4, (some .long), 2, (2, 48, 0, 0), [])
abbrev M_X3_isBearable : MT := (yX3_isBearable, cX3_isBearable, 9, (some .boolean), 1, (7, 112, 1, 6), [])
abbrev M_X3_ofClaim : MT := (yX3_ofClaim, cX3_ofClaim, 4, (some .long), 2, (7, 111, 2, 12), [])
abbrev M_X3_paidAnew : MT := (yX3_paidAnew, cX3_paidAnew, 2, (some .long), 1, (7, 111, 1, 6), [])
abbrev M_X3_ofState : MT := (yX3_ofState, cX3_ofState, 2, (some .long), 1, (6, 90, 1, 6), [])
abbrev M_L_draw : MT := (yL_draw, cL_draw, 2, (some .int), 2, (0, 0, 0, 0), [])
abbrev M_L_claims : MT := (yL_claims, cL_claims, 9, (some .int), 8, (8, 220, 11, 236), [(0, (27, (28, 18)))])
abbrev M_L_pledges : MT := (yL_pledges, cL_pledges, 4, (some .long), 3, (8, 135, 3, 18), [(0, (6, (7, 18)))])
abbrev M_L_years : MT := (yL_years, cL_years, 2, (some .long), 1, (8, 186, 2, 12), [(0, (5, (6, 18)))])
abbrev M_L_acts : MT := (yL_acts, cL_acts, 5, (some .int), 4, (9, 242, 122, 7532), [(0, (73, (74, 18)))])
abbrev M_L_votes : MT := (yL_votes, cL_votes, 5, (some .boolean), 4, (8, 136, 3, 18), [(0, (8, (9, 18)))])
abbrev M_L_sues : MT := (yL_sues, cL_sues, 3, (some .boolean), 2, (8, 133, 2, 12), [(0, (6, (7, 18)))])
abbrev M_L_seizes : MT := (yL_seizes, cL_seizes, 4, (some .long), 3, (8, 137, 3, 18), [(0, (6, (7, 18)))])
abbrev M_L_reveals : MT := (yL_reveals, cL_reveals, 3, (some .long), 2, (8, 133, 2, 12), [(0, (5, (6, 18)))])
abbrev M_L_down : MT := (yL_down, cL_down, 4, (some .long), 2, (0, 0, 0, 0), [])
abbrev M_L_isOffered : MT := (yL_isOffered, cL_isOffered, 5, (some .boolean), 4, (10, 266, 124, 7544), [])
abbrev M_L_isYear : MT := (yL_isYear, cL_isYear, 13, (some .boolean), 3, (9, 207, 400, 2400), [])
abbrev M_L_isAccepted : MT := (yL_isAccepted, cL_isAccepted, 9, (some .boolean), 4, (10, 266, 160, 7800), [])
abbrev M_L_isSeized : MT := (yL_isSeized, cL_isSeized, 17, (some .boolean), 5, (9, 160, 60, 400), [])
abbrev M_L_isReviewed : MT := (yL_isReviewed, cL_isReviewed, 8, (some .boolean), 3, (10, 266, 160, 7800), [])
abbrev M_L_isWhole : MT := (yL_isWhole, cL_isWhole, 9, (some .boolean), 3, (8, 144, 1650, 10000), [])
abbrev M_L_step : MT := (yL_step, cL_step, 27, (some .boolean), 6, (11, 294, 420, 16000), [])
abbrev M_L_law : MT := (yL_law, cL_law, 7, (some .boolean), 1, (14, 610, 600056, 7301712), [])
def MOK (M : MT) : Prop := plainFor (mY M) = true ∧ cwM M ∈ UW ∧ Cond.initialized (mY M).cls ∈ UW ∧ ((mY M).cls ≠ "java/lang/invoke/MethodHandle" ∧ (mY M).cls ≠ "java/lang/invoke/VarHandle") ∧ (parseMethodDescriptor (mY M).desc).map (fun d => d.parameters.length) = some (mP M)
set_option maxRecDepth 20000 in
theorem inz_RX3 : Cond.initialized RX3 ∈ UW := uw (i := 30) rfl rfl
theorem pln_RX3 : plainName RX3 = true := by decide +kernel
theorem nmh_RX3 : RX3 ≠ "java/lang/invoke/MethodHandle" ∧ RX3 ≠ "java/lang/invoke/VarHandle" := ⟨by decide +kernel, by decide +kernel⟩
set_option maxRecDepth 20000 in
theorem inz_RX0 : Cond.initialized RX0 ∈ UW := uw (i := 42) rfl rfl
theorem pln_RX0 : plainName RX0 = true := by decide +kernel
theorem nmh_RX0 : RX0 ≠ "java/lang/invoke/MethodHandle" ∧ RX0 ≠ "java/lang/invoke/VarHandle" := ⟨by decide +kernel, by decide +kernel⟩
set_option maxRecDepth 20000 in
theorem inz_RX1 : Cond.initialized RX1 ∈ UW := uw (i := 47) rfl rfl
theorem pln_RX1 : plainName RX1 = true := by decide +kernel
theorem nmh_RX1 : RX1 ≠ "java/lang/invoke/MethodHandle" ∧ RX1 ≠ "java/lang/invoke/VarHandle" := ⟨by decide +kernel, by decide +kernel⟩
set_option maxRecDepth 20000 in
theorem inz_RX2 : Cond.initialized RX2 ∈ UW := uw (i := 48) rfl rfl
theorem pln_RX2 : plainName RX2 = true := by decide +kernel
theorem nmh_RX2 : RX2 ≠ "java/lang/invoke/MethodHandle" ∧ RX2 ≠ "java/lang/invoke/VarHandle" := ⟨by decide +kernel, by decide +kernel⟩
set_option maxRecDepth 20000 in
theorem inz_RL : Cond.initialized RL ∈ UW := uw (i := 29) rfl rfl
theorem pln_RL : plainName RL = true := by decide +kernel
theorem nmh_RL : RL ≠ "java/lang/invoke/MethodHandle" ∧ RL ≠ "java/lang/invoke/VarHandle" := ⟨by decide +kernel, by decide +kernel⟩
set_option maxRecDepth 20000 in
theorem inz_RJ9 : Cond.initialized RJ9 ∈ UW := uw (i := 40) rfl rfl
theorem nmh_RJ9 : RJ9 ≠ "java/lang/invoke/MethodHandle" ∧ RJ9 ≠ "java/lang/invoke/VarHandle" := ⟨by decide +kernel, by decide +kernel⟩
set_option maxRecDepth 20000 in
theorem inz_RJxa1e45 : Cond.initialized RJxa1e45 ∈ UW := uw (i := 31) rfl rfl
theorem pln_RJxa1e45 : plainName RJxa1e45 = true := by decide +kernel
theorem nmh_RJxa1e45 : RJxa1e45 ≠ "java/lang/invoke/MethodHandle" ∧ RJxa1e45 ≠ "java/lang/invoke/VarHandle" := ⟨by decide +kernel, by decide +kernel⟩
set_option maxRecDepth 20000 in
theorem inz_RJxc12de : Cond.initialized RJxc12de ∈ UW := uw (i := 32) rfl rfl
theorem pln_RJxc12de : plainName RJxc12de = true := by decide +kernel
theorem nmh_RJxc12de : RJxc12de ≠ "java/lang/invoke/MethodHandle" ∧ RJxc12de ≠ "java/lang/invoke/VarHandle" := ⟨by decide +kernel, by decide +kernel⟩
set_option maxRecDepth 20000 in
theorem inz_RJx4a65c : Cond.initialized RJx4a65c ∈ UW := uw (i := 33) rfl rfl
theorem pln_RJx4a65c : plainName RJx4a65c = true := by decide +kernel
theorem nmh_RJx4a65c : RJx4a65c ≠ "java/lang/invoke/MethodHandle" ∧ RJx4a65c ≠ "java/lang/invoke/VarHandle" := ⟨by decide +kernel, by decide +kernel⟩
set_option maxRecDepth 20000 in
theorem inz_RJ7 : Cond.initialized RJ7 ∈ UW := uw (i := 44) rfl rfl
theorem pln_RJ7 : plainName RJ7 = true := by decide +kernel
theorem nmh_RJ7 : RJ7 ≠ "java/lang/invoke/MethodHandle" ∧ RJ7 ≠ "java/lang/invoke/VarHandle" := ⟨by decide +kernel, by decide +kernel⟩
set_option maxRecDepth 20000 in
theorem inz_RJ15 : Cond.initialized RJ15 ∈ UW := uw (i := 34) rfl rfl
theorem pln_RJ15 : plainName RJ15 = true := by decide +kernel
theorem nmh_RJ15 : RJ15 ≠ "java/lang/invoke/MethodHandle" ∧ RJ15 ≠ "java/lang/invoke/VarHandle" := ⟨by decide +kernel, by decide +kernel⟩
set_option maxRecDepth 20000 in
theorem inz_RJ8 : Cond.initialized RJ8 ∈ UW := uw (i := 43) rfl rfl
theorem pln_RJ8 : plainName RJ8 = true := by decide +kernel
theorem nmh_RJ8 : RJ8 ≠ "java/lang/invoke/MethodHandle" ∧ RJ8 ≠ "java/lang/invoke/VarHandle" := ⟨by decide +kernel, by decide +kernel⟩
set_option maxRecDepth 20000 in
theorem inz_RJ3 : Cond.initialized RJ3 ∈ UW := uw (i := 35) rfl rfl
theorem pln_RJ3 : plainName RJ3 = true := by decide +kernel
theorem nmh_RJ3 : RJ3 ≠ "java/lang/invoke/MethodHandle" ∧ RJ3 ≠ "java/lang/invoke/VarHandle" := ⟨by decide +kernel, by decide +kernel⟩
set_option maxRecDepth 20000 in
theorem ok_X0_init : MOK M_X0_init := ⟨plainFor_of_name pln_RX0, uw (i := 320) rfl rfl, inz_RX0, nmh_RX0, by decide +kernel⟩
set_option maxRecDepth 20000 in
theorem ok_X0_setTerms : MOK M_X0_setTerms := ⟨plainFor_of_name pln_RX0, uw (i := 396) rfl rfl, inz_RX0, nmh_RX0, by decide +kernel⟩
set_option maxRecDepth 20000 in
theorem ok_X0_isOpen : MOK M_X0_isOpen := ⟨plainFor_of_name pln_RX0, uw (i := 247) rfl rfl, inz_RX0, nmh_RX0, by decide +kernel⟩
set_option maxRecDepth 20000 in
theorem ok_X0_isOfState : MOK M_X0_isOfState := ⟨plainFor_of_name pln_RX0, uw (i := 251) rfl rfl, inz_RX0, nmh_RX0, by decide +kernel⟩
set_option maxRecDepth 20000 in
theorem ok_X0_isVoter : MOK M_X0_isVoter := ⟨plainFor_of_name pln_RX0, uw (i := 606) rfl rfl, inz_RX0, nmh_RX0, by decide +kernel⟩
set_option maxRecDepth 20000 in
theorem ok_X0_isOfficial : MOK M_X0_isOfficial := ⟨plainFor_of_name pln_RX0, uw (i := 667) rfl rfl, inz_RX0, nmh_RX0, by decide +kernel⟩
set_option maxRecDepth 20000 in
theorem ok_X0_owed : MOK M_X0_owed := ⟨plainFor_of_name pln_RX0, uw (i := 255) rfl rfl, inz_RX0, nmh_RX0, by decide +kernel⟩
set_option maxRecDepth 20000 in
theorem ok_J9_floorDiv_f86c9 : MOK M_J9_floorDiv_f86c9 := ⟨by decide +kernel, uw (i := 164) rfl rfl, inz_RJ9, nmh_RJ9, by decide +kernel⟩
set_option maxRecDepth 20000 in
theorem ok_X3_quotient : MOK M_X3_quotient := ⟨plainFor_of_name pln_RX3, uw (i := 161) rfl rfl, inz_RX3, nmh_RX3, by decide +kernel⟩
set_option maxRecDepth 20000 in
theorem ok_X3_couponOf : MOK M_X3_couponOf := ⟨plainFor_of_name pln_RX3, uw (i := 579) rfl rfl, inz_RX3, nmh_RX3, by decide +kernel⟩
set_option maxRecDepth 20000 in
theorem ok_X0_fallDue : MOK M_X0_fallDue := ⟨plainFor_of_name pln_RX0, uw (i := 712) rfl rfl, inz_RX0, nmh_RX0, by decide +kernel⟩
set_option maxRecDepth 20000 in
theorem ok_J9_min_f86c9 : MOK M_J9_min_f86c9 := ⟨by decide +kernel, uw (i := 723) rfl rfl, inz_RJ9, nmh_RJ9, by decide +kernel⟩
set_option maxRecDepth 20000 in
theorem ok_X0_receive : MOK M_X0_receive := ⟨plainFor_of_name pln_RX0, uw (i := 727) rfl rfl, inz_RX0, nmh_RX0, by decide +kernel⟩
set_option maxRecDepth 20000 in
theorem ok_X0_paymentsAdded : MOK M_X0_paymentsAdded := ⟨plainFor_of_name pln_RX0, uw (i := 811) rfl rfl, inz_RX0, nmh_RX0, by decide +kernel⟩
set_option maxRecDepth 20000 in
theorem ok_X3_discounted : MOK M_X3_discounted := ⟨plainFor_of_name pln_RX3, uw (i := 576) rfl rfl, inz_RX3, nmh_RX3, by decide +kernel⟩
set_option maxRecDepth 20000 in
theorem ok_X0_worth : MOK M_X0_worth := ⟨plainFor_of_name pln_RX0, uw (i := 572) rfl rfl, inz_RX0, nmh_RX0, by decide +kernel⟩
set_option maxRecDepth 20000 in
theorem ok_X1_init : MOK M_X1_init := ⟨plainFor_of_name pln_RX1, uw (i := 531) rfl rfl, inz_RX1, nmh_RX1, by decide +kernel⟩
set_option maxRecDepth 20000 in
theorem ok_X1_principalFor : MOK M_X1_principalFor := ⟨plainFor_of_name pln_RX1, uw (i := 565) rfl rfl, inz_RX1, nmh_RX1, by decide +kernel⟩
set_option maxRecDepth 20000 in
theorem ok_X1_tell : MOK M_X1_tell := ⟨plainFor_of_name pln_RX1, uw (i := 758) rfl rfl, inz_RX1, nmh_RX1, by decide +kernel⟩
set_option maxRecDepth 20000 in
theorem ok_X3_hasBit : MOK M_X3_hasBit := ⟨plainFor_of_name pln_RX3, uw (i := 618) rfl rfl, inz_RX3, nmh_RX3, by decide +kernel⟩
set_option maxRecDepth 20000 in
theorem ok_X1_hasYesOf : MOK M_X1_hasYesOf := ⟨plainFor_of_name pln_RX1, uw (i := 615) rfl rfl, inz_RX1, nmh_RX1, by decide +kernel⟩
set_option maxRecDepth 20000 in
theorem ok_X1_forgetVotes : MOK M_X1_forgetVotes := ⟨plainFor_of_name pln_RX1, uw (i := 626) rfl rfl, inz_RX1, nmh_RX1, by decide +kernel⟩
set_option maxRecDepth 20000 in
theorem ok_X2_init : MOK M_X2_init := ⟨plainFor_of_name pln_RX2, uw (i := 636) rfl rfl, inz_RX2, nmh_RX2, by decide +kernel⟩
set_option maxRecDepth 20000 in
theorem ok_Jxa1e45_init_da8c8 : MOK M_Jxa1e45_init_da8c8 := ⟨plainFor_of_name pln_RJxa1e45, uw (i := 67) rfl rfl, inz_RJxa1e45, nmh_RJxa1e45, by decide +kernel⟩
set_option maxRecDepth 20000 in
theorem ok_Jxc12de_init_da8c8 : MOK M_Jxc12de_init_da8c8 := ⟨plainFor_of_name pln_RJxc12de, uw (i := 64) rfl rfl, inz_RJxc12de, nmh_RJxc12de, by decide +kernel⟩
set_option maxRecDepth 20000 in
theorem ok_Jx4a65c_init_da8c8 : MOK M_Jx4a65c_init_da8c8 := ⟨plainFor_of_name pln_RJx4a65c, uw (i := 61) rfl rfl, inz_RJx4a65c, nmh_RJx4a65c, by decide +kernel⟩
set_option maxRecDepth 20000 in
theorem ok_X3_init : MOK M_X3_init := ⟨plainFor_of_name pln_RX3, uw (i := 53) rfl rfl, inz_RX3, nmh_RX3, by decide +kernel⟩
set_option maxRecDepth 20000 in
theorem ok_X3_needRange : MOK M_X3_needRange := ⟨plainFor_of_name pln_RX3, uw (i := 171) rfl rfl, inz_RX3, nmh_RX3, by decide +kernel⟩
set_option maxRecDepth 20000 in
theorem ok_Jx4a65c_size_8abf5 : MOK M_Jx4a65c_size_8abf5 := ⟨plainFor_of_name pln_RJx4a65c, uw (i := 138) rfl rfl, inz_RJx4a65c, nmh_RJx4a65c, by decide +kernel⟩
set_option maxRecDepth 20000 in
theorem ok_X3_needRoom : MOK M_X3_needRoom := ⟨plainFor_of_name pln_RX3, uw (i := 300) rfl rfl, inz_RX3, nmh_RX3, by decide +kernel⟩
set_option maxRecDepth 20000 in
theorem ok_J9_max_7cf53 : MOK M_J9_max_7cf53 := ⟨by decide +kernel, uw (i := 418) rfl rfl, inz_RJ9, nmh_RJ9, by decide +kernel⟩
set_option maxRecDepth 20000 in
theorem ok_J8_hugeLength_7cf53 : MOK M_J8_hugeLength_7cf53 := ⟨plainFor_of_name pln_RJ8, uw (i := 422) rfl rfl, inz_RJ8, nmh_RJ8, by decide +kernel⟩
set_option maxRecDepth 20000 in
theorem ok_J8_newLength_cabcc : MOK M_J8_newLength_cabcc := ⟨plainFor_of_name pln_RJ8, uw (i := 415) rfl rfl, inz_RJ8, nmh_RJ8, by decide +kernel⟩
set_option maxRecDepth 20000 in
theorem ok_J9_min_7cf53 : MOK M_J9_min_7cf53 := ⟨by decide +kernel, uw (i := 446) rfl rfl, inz_RJ9, nmh_RJ9, by decide +kernel⟩
set_option maxRecDepth 20000 in
theorem ok_J7_copyOf_6403c : MOK M_J7_copyOf_6403c := ⟨plainFor_of_name pln_RJ7, uw (i := 440) rfl rfl, inz_RJ7, nmh_RJ7, by decide +kernel⟩
set_option maxRecDepth 20000 in
theorem ok_J7_copyOf_1904c : MOK M_J7_copyOf_1904c := ⟨plainFor_of_name pln_RJ7, uw (i := 425) rfl rfl, inz_RJ7, nmh_RJ7, by decide +kernel⟩
set_option maxRecDepth 20000 in
theorem ok_Jx4a65c_grow_92f84 : MOK M_Jx4a65c_grow_92f84 := ⟨plainFor_of_name pln_RJx4a65c, uw (i := 412) rfl rfl, inz_RJx4a65c, nmh_RJx4a65c, by decide +kernel⟩
set_option maxRecDepth 20000 in
theorem ok_Jx4a65c_grow_d5877 : MOK M_Jx4a65c_grow_d5877 := ⟨plainFor_of_name pln_RJx4a65c, uw (i := 408) rfl rfl, inz_RJx4a65c, nmh_RJx4a65c, by decide +kernel⟩
set_option maxRecDepth 20000 in
theorem ok_Jx4a65c_add_72be8 : MOK M_Jx4a65c_add_72be8 := ⟨plainFor_of_name pln_RJx4a65c, uw (i := 404) rfl rfl, inz_RJx4a65c, nmh_RJx4a65c, by decide +kernel⟩
set_option maxRecDepth 20000 in
theorem ok_Jx4a65c_add_9ea2d : MOK M_Jx4a65c_add_9ea2d := ⟨plainFor_of_name pln_RJx4a65c, uw (i := 400) rfl rfl, inz_RJx4a65c, nmh_RJx4a65c, by decide +kernel⟩
set_option maxRecDepth 20000 in
theorem ok_X3_claim : MOK M_X3_claim := ⟨plainFor_of_name pln_RX3, uw (i := 295) rfl rfl, inz_RX3, nmh_RX3, by decide +kernel⟩
set_option maxRecDepth 20000 in
theorem ok_J3_checkIndex_8e157 : MOK M_J3_checkIndex_8e157 := ⟨plainFor_of_name pln_RJ3, uw (i := 148) rfl rfl, inz_RJ3, nmh_RJ3, by decide +kernel⟩
set_option maxRecDepth 20000 in
theorem ok_J15_checkIndex_7cf53 : MOK M_J15_checkIndex_7cf53 := ⟨plainFor_of_name pln_RJ15, uw (i := 145) rfl rfl, inz_RJ15, nmh_RJ15, by decide +kernel⟩
set_option maxRecDepth 20000 in
theorem ok_Jx4a65c_elementData_915e3 : MOK M_Jx4a65c_elementData_915e3 := ⟨plainFor_of_name pln_RJx4a65c, uw (i := 152) rfl rfl, inz_RJx4a65c, nmh_RJx4a65c, by decide +kernel⟩
set_option maxRecDepth 20000 in
theorem ok_Jx4a65c_get_915e3 : MOK M_Jx4a65c_get_915e3 := ⟨plainFor_of_name pln_RJx4a65c, uw (i := 142) rfl rfl, inz_RJx4a65c, nmh_RJx4a65c, by decide +kernel⟩
set_option maxRecDepth 20000 in
theorem ok_X3_claimAt : MOK M_X3_claimAt := ⟨plainFor_of_name pln_RX3, uw (i := 459) rfl rfl, inz_RX3, nmh_RX3, by decide +kernel⟩
set_option maxRecDepth 20000 in
theorem ok_X3_pledge : MOK M_X3_pledge := ⟨plainFor_of_name pln_RX3, uw (i := 484) rfl rfl, inz_RX3, nmh_RX3, by decide +kernel⟩
set_option maxRecDepth 20000 in
theorem ok_X3_debt : MOK M_X3_debt := ⟨plainFor_of_name pln_RX3, uw (i := 243) rfl rfl, inz_RX3, nmh_RX3, by decide +kernel⟩
set_option maxRecDepth 20000 in
theorem ok_X3_reveal : MOK M_X3_reveal := ⟨plainFor_of_name pln_RX3, uw (i := 493) rfl rfl, inz_RX3, nmh_RX3, by decide +kernel⟩
set_option maxRecDepth 20000 in
theorem ok_X3_economy : MOK M_X3_economy := ⟨plainFor_of_name pln_RX3, uw (i := 499) rfl rfl, inz_RX3, nmh_RX3, by decide +kernel⟩
set_option maxRecDepth 20000 in
theorem ok_X3_needKind : MOK M_X3_needKind := ⟨plainFor_of_name pln_RX3, uw (i := 507) rfl rfl, inz_RX3, nmh_RX3, by decide +kernel⟩
set_option maxRecDepth 20000 in
theorem ok_X3_withBit : MOK M_X3_withBit := ⟨plainFor_of_name pln_RX3, uw (i := 511) rfl rfl, inz_RX3, nmh_RX3, by decide +kernel⟩
set_option maxRecDepth 20000 in
theorem ok_X3_moratorium : MOK M_X3_moratorium := ⟨plainFor_of_name pln_RX3, uw (i := 504) rfl rfl, inz_RX3, nmh_RX3, by decide +kernel⟩
set_option maxRecDepth 20000 in
theorem ok_X3_broughtBy : MOK M_X3_broughtBy := ⟨plainFor_of_name pln_RX3, uw (i := 259) rfl rfl, inz_RX3, nmh_RX3, by decide +kernel⟩
set_option maxRecDepth 20000 in
theorem ok_X3_grown : MOK M_X3_grown := ⟨plainFor_of_name pln_RX3, uw (i := 267) rfl rfl, inz_RX3, nmh_RX3, by decide +kernel⟩
set_option maxRecDepth 20000 in
theorem ok_X3_judgeSuits : MOK M_X3_judgeSuits := ⟨plainFor_of_name pln_RX3, uw (i := 700) rfl rfl, inz_RX3, nmh_RX3, by decide +kernel⟩
set_option maxRecDepth 20000 in
theorem ok_X3_payArrears : MOK M_X3_payArrears := ⟨plainFor_of_name pln_RX3, uw (i := 720) rfl rfl, inz_RX3, nmh_RX3, by decide +kernel⟩
set_option maxRecDepth 20000 in
theorem ok_X3_close : MOK M_X3_close := ⟨plainFor_of_name pln_RX3, uw (i := 732) rfl rfl, inz_RX3, nmh_RX3, by decide +kernel⟩
set_option maxRecDepth 20000 in
theorem ok_X3_serve : MOK M_X3_serve := ⟨plainFor_of_name pln_RX3, uw (i := 708) rfl rfl, inz_RX3, nmh_RX3, by decide +kernel⟩
set_option maxRecDepth 20000 in
theorem ok_X3_serveRank : MOK M_X3_serveRank := ⟨plainFor_of_name pln_RX3, uw (i := 704) rfl rfl, inz_RX3, nmh_RX3, by decide +kernel⟩
set_option maxRecDepth 20000 in
theorem ok_X3_passYear : MOK M_X3_passYear := ⟨plainFor_of_name pln_RX3, uw (i := 696) rfl rfl, inz_RX3, nmh_RX3, by decide +kernel⟩
set_option maxRecDepth 20000 in
theorem ok_X3_year : MOK M_X3_year := ⟨plainFor_of_name pln_RX3, uw (i := 691) rfl rfl, inz_RX3, nmh_RX3, by decide +kernel⟩
set_option maxRecDepth 20000 in
theorem ok_X3_discount : MOK M_X3_discount := ⟨plainFor_of_name pln_RX3, uw (i := 515) rfl rfl, inz_RX3, nmh_RX3, by decide +kernel⟩
set_option maxRecDepth 20000 in
theorem ok_X3_offer : MOK M_X3_offer := ⟨plainFor_of_name pln_RX3, uw (i := 525) rfl rfl, inz_RX3, nmh_RX3, by decide +kernel⟩
set_option maxRecDepth 20000 in
theorem ok_X3_offerAt : MOK M_X3_offerAt := ⟨plainFor_of_name pln_RX3, uw (i := 555) rfl rfl, inz_RX3, nmh_RX3, by decide +kernel⟩
set_option maxRecDepth 20000 in
theorem ok_X3_swap : MOK M_X3_swap := ⟨plainFor_of_name pln_RX3, uw (i := 561) rfl rfl, inz_RX3, nmh_RX3, by decide +kernel⟩
set_option maxRecDepth 20000 in
theorem ok_X3_accept : MOK M_X3_accept := ⟨plainFor_of_name pln_RX3, uw (i := 551) rfl rfl, inz_RX3, nmh_RX3, by decide +kernel⟩
set_option maxRecDepth 20000 in
theorem ok_X3_vote : MOK M_X3_vote := ⟨plainFor_of_name pln_RX3, uw (i := 753) rfl rfl, inz_RX3, nmh_RX3, by decide +kernel⟩
set_option maxRecDepth 20000 in
theorem ok_X3_votingWeight : MOK M_X3_votingWeight := ⟨plainFor_of_name pln_RX3, uw (i := 602) rfl rfl, inz_RX3, nmh_RX3, by decide +kernel⟩
set_option maxRecDepth 20000 in
theorem ok_X3_bondsOwed : MOK M_X3_bondsOwed := ⟨plainFor_of_name pln_RX3, uw (i := 599) rfl rfl, inz_RX3, nmh_RX3, by decide +kernel⟩
set_option maxRecDepth 20000 in
theorem ok_X3_bondsOwedWithYes : MOK M_X3_bondsOwedWithYes := ⟨plainFor_of_name pln_RX3, uw (i := 611) rfl rfl, inz_RX3, nmh_RX3, by decide +kernel⟩
set_option maxRecDepth 20000 in
theorem ok_X3_hasMajority : MOK M_X3_hasMajority := ⟨plainFor_of_name pln_RX3, uw (i := 595) rfl rfl, inz_RX3, nmh_RX3, by decide +kernel⟩
set_option maxRecDepth 20000 in
theorem ok_X3_arePooled : MOK M_X3_arePooled := ⟨plainFor_of_name pln_RX3, uw (i := 591) rfl rfl, inz_RX3, nmh_RX3, by decide +kernel⟩
set_option maxRecDepth 20000 in
theorem ok_X3_seriesToSwap : MOK M_X3_seriesToSwap := ⟨plainFor_of_name pln_RX3, uw (i := 587) rfl rfl, inz_RX3, nmh_RX3, by decide +kernel⟩
set_option maxRecDepth 20000 in
theorem ok_X3_isInSeries : MOK M_X3_isInSeries := ⟨plainFor_of_name pln_RX3, uw (i := 621) rfl rfl, inz_RX3, nmh_RX3, by decide +kernel⟩
set_option maxRecDepth 20000 in
theorem ok_X3_settle : MOK M_X3_settle := ⟨plainFor_of_name pln_RX3, uw (i := 583) rfl rfl, inz_RX3, nmh_RX3, by decide +kernel⟩
set_option maxRecDepth 20000 in
theorem ok_X3_thing : MOK M_X3_thing := ⟨plainFor_of_name pln_RX3, uw (i := 630) rfl rfl, inz_RX3, nmh_RX3, by decide +kernel⟩
set_option maxRecDepth 20000 in
theorem ok_X3_sue : MOK M_X3_sue := ⟨plainFor_of_name pln_RX3, uw (i := 766) rfl rfl, inz_RX3, nmh_RX3, by decide +kernel⟩
set_option maxRecDepth 20000 in
theorem ok_X3_thingAt : MOK M_X3_thingAt := ⟨plainFor_of_name pln_RX3, uw (i := 781) rfl rfl, inz_RX3, nmh_RX3, by decide +kernel⟩
set_option maxRecDepth 20000 in
theorem ok_X3_seize : MOK M_X3_seize := ⟨plainFor_of_name pln_RX3, uw (i := 777) rfl rfl, inz_RX3, nmh_RX3, by decide +kernel⟩
set_option maxRecDepth 20000 in
theorem ok_X3_programme : MOK M_X3_programme := ⟨plainFor_of_name pln_RX3, uw (i := 787) rfl rfl, inz_RX3, nmh_RX3, by decide +kernel⟩
set_option maxRecDepth 20000 in
theorem ok_X3_assure : MOK M_X3_assure := ⟨plainFor_of_name pln_RX3, uw (i := 791) rfl rfl, inz_RX3, nmh_RX3, by decide +kernel⟩
set_option maxRecDepth 20000 in
theorem ok_X3_hasFundArrears : MOK M_X3_hasFundArrears := ⟨plainFor_of_name pln_RX3, uw (i := 659) rfl rfl, inz_RX3, nmh_RX3, by decide +kernel⟩
set_option maxRecDepth 20000 in
theorem ok_X3_owedToOfficials : MOK M_X3_owedToOfficials := ⟨plainFor_of_name pln_RX3, uw (i := 663) rfl rfl, inz_RX3, nmh_RX3, by decide +kernel⟩
set_option maxRecDepth 20000 in
theorem ok_X3_reasonToFail : MOK M_X3_reasonToFail := ⟨plainFor_of_name pln_RX3, uw (i := 655) rfl rfl, inz_RX3, nmh_RX3, by decide +kernel⟩
set_option maxRecDepth 20000 in
theorem ok_X3_payTranche : MOK M_X3_payTranche := ⟨plainFor_of_name pln_RX3, uw (i := 672) rfl rfl, inz_RX3, nmh_RX3, by decide +kernel⟩
set_option maxRecDepth 20000 in
theorem ok_X3_review : MOK M_X3_review := ⟨plainFor_of_name pln_RX3, uw (i := 650) rfl rfl, inz_RX3, nmh_RX3, by decide +kernel⟩
set_option maxRecDepth 20000 in
theorem ok_X3_value : MOK M_X3_value := ⟨plainFor_of_name pln_RX3, uw (i := 745) rfl rfl, inz_RX3, nmh_RX3, by decide +kernel⟩
set_option maxRecDepth 20000 in
theorem ok_X3_offered : MOK M_X3_offered := ⟨plainFor_of_name pln_RX3, uw (i := 740) rfl rfl, inz_RX3, nmh_RX3, by decide +kernel⟩
set_option maxRecDepth 20000 in
theorem ok_X3_effortOf : MOK M_X3_effortOf := ⟨plainFor_of_name pln_RX3, uw (i := 157) rfl rfl, inz_RX3, nmh_RX3, by decide +kernel⟩
set_option maxRecDepth 20000 in
theorem ok_X3_effort : MOK M_X3_effort := ⟨plainFor_of_name pln_RX3, uw (i := 800) rfl rfl, inz_RX3, nmh_RX3, by decide +kernel⟩
set_option maxRecDepth 20000 in
theorem ok_X3_wasSwapped : MOK M_X3_wasSwapped := ⟨plainFor_of_name pln_RX3, uw (i := 134) rfl rfl, inz_RX3, nmh_RX3, by decide +kernel⟩
set_option maxRecDepth 20000 in
theorem ok_X3_areAlike : MOK M_X3_areAlike := ⟨plainFor_of_name pln_RX3, uw (i := 130) rfl rfl, inz_RX3, nmh_RX3, by decide +kernel⟩
set_option maxRecDepth 20000 in
theorem ok_X3_passes : MOK M_X3_passes := ⟨plainFor_of_name pln_RX3, uw (i := 676) rfl rfl, inz_RX3, nmh_RX3, by decide +kernel⟩
set_option maxRecDepth 20000 in
theorem ok_J9_max_f86c9 : MOK M_J9_max_f86c9 := ⟨by decide +kernel, uw (i := 263) rfl rfl, inz_RJ9, nmh_RJ9, by decide +kernel⟩
set_option maxRecDepth 20000 in
theorem ok_X3_burden : MOK M_X3_burden := ⟨plainFor_of_name pln_RX3, uw (i := 272) rfl rfl, inz_RX3, nmh_RX3, by decide +kernel⟩
set_option maxRecDepth 20000 in
theorem ok_X3_isBearable : MOK M_X3_isBearable := ⟨plainFor_of_name pln_RX3, uw (i := 168) rfl rfl, inz_RX3, nmh_RX3, by decide +kernel⟩
set_option maxRecDepth 20000 in
theorem ok_X3_ofClaim : MOK M_X3_ofClaim := ⟨plainFor_of_name pln_RX3, uw (i := 455) rfl rfl, inz_RX3, nmh_RX3, by decide +kernel⟩
set_option maxRecDepth 20000 in
theorem ok_X3_paidAnew : MOK M_X3_paidAnew := ⟨plainFor_of_name pln_RX3, uw (i := 807) rfl rfl, inz_RX3, nmh_RX3, by decide +kernel⟩
set_option maxRecDepth 20000 in
theorem ok_X3_ofState : MOK M_X3_ofState := ⟨plainFor_of_name pln_RX3, uw (i := 276) rfl rfl, inz_RX3, nmh_RX3, by decide +kernel⟩
set_option maxRecDepth 20000 in
theorem ok_L_draw : MOK M_L_draw := ⟨plainFor_of_name pln_RL, uw (i := 280) rfl rfl, inz_RL, nmh_RL, by decide +kernel⟩
set_option maxRecDepth 20000 in
theorem ok_L_claims : MOK M_L_claims := ⟨plainFor_of_name pln_RL, uw (i := 290) rfl rfl, inz_RL, nmh_RL, by decide +kernel⟩
set_option maxRecDepth 20000 in
theorem ok_L_pledges : MOK M_L_pledges := ⟨plainFor_of_name pln_RL, uw (i := 480) rfl rfl, inz_RL, nmh_RL, by decide +kernel⟩
set_option maxRecDepth 20000 in
theorem ok_L_years : MOK M_L_years := ⟨plainFor_of_name pln_RL, uw (i := 687) rfl rfl, inz_RL, nmh_RL, by decide +kernel⟩
set_option maxRecDepth 20000 in
theorem ok_L_acts : MOK M_L_acts := ⟨plainFor_of_name pln_RL, uw (i := 521) rfl rfl, inz_RL, nmh_RL, by decide +kernel⟩
set_option maxRecDepth 20000 in
theorem ok_L_votes : MOK M_L_votes := ⟨plainFor_of_name pln_RL, uw (i := 749) rfl rfl, inz_RL, nmh_RL, by decide +kernel⟩
set_option maxRecDepth 20000 in
theorem ok_L_sues : MOK M_L_sues := ⟨plainFor_of_name pln_RL, uw (i := 762) rfl rfl, inz_RL, nmh_RL, by decide +kernel⟩
set_option maxRecDepth 20000 in
theorem ok_L_seizes : MOK M_L_seizes := ⟨plainFor_of_name pln_RL, uw (i := 773) rfl rfl, inz_RL, nmh_RL, by decide +kernel⟩
set_option maxRecDepth 20000 in
theorem ok_L_reveals : MOK M_L_reveals := ⟨plainFor_of_name pln_RL, uw (i := 489) rfl rfl, inz_RL, nmh_RL, by decide +kernel⟩
set_option maxRecDepth 20000 in
theorem ok_L_down : MOK M_L_down := ⟨plainFor_of_name pln_RL, uw (i := 684) rfl rfl, inz_RL, nmh_RL, by decide +kernel⟩
set_option maxRecDepth 20000 in
theorem ok_L_isOffered : MOK M_L_isOffered := ⟨plainFor_of_name pln_RL, uw (i := 518) rfl rfl, inz_RL, nmh_RL, by decide +kernel⟩
set_option maxRecDepth 20000 in
theorem ok_L_isYear : MOK M_L_isYear := ⟨plainFor_of_name pln_RL, uw (i := 680) rfl rfl, inz_RL, nmh_RL, by decide +kernel⟩
set_option maxRecDepth 20000 in
theorem ok_L_isAccepted : MOK M_L_isAccepted := ⟨plainFor_of_name pln_RL, uw (i := 736) rfl rfl, inz_RL, nmh_RL, by decide +kernel⟩
set_option maxRecDepth 20000 in
theorem ok_L_isSeized : MOK M_L_isSeized := ⟨plainFor_of_name pln_RL, uw (i := 770) rfl rfl, inz_RL, nmh_RL, by decide +kernel⟩
set_option maxRecDepth 20000 in
theorem ok_L_isReviewed : MOK M_L_isReviewed := ⟨plainFor_of_name pln_RL, uw (i := 795) rfl rfl, inz_RL, nmh_RL, by decide +kernel⟩
set_option maxRecDepth 20000 in
theorem ok_L_isWhole : MOK M_L_isWhole := ⟨plainFor_of_name pln_RL, uw (i := 803) rfl rfl, inz_RL, nmh_RL, by decide +kernel⟩
set_option maxRecDepth 20000 in
theorem ok_L_step : MOK M_L_step := ⟨plainFor_of_name pln_RL, uw (i := 286) rfl rfl, inz_RL, nmh_RL, by decide +kernel⟩
def lkS : List (String × Nat × MT) := [("Claimclub", 385, M_J9_floorDiv_f86c9), ("Claimclub", 142, M_X3_quotient), ("Claimclub$Claim", 88, M_J9_min_f86c9), ("Claimclub", 388, M_X3_couponOf), ("jdk/internal/util/ArraysSupport", 194, M_J9_max_7cf53), ("jdk/internal/util/ArraysSupport", 201, M_J8_hugeLength_7cf53), ("java/util/Arrays", 304, M_J9_min_7cf53), ("java/util/Arrays", 300, M_J7_copyOf_6403c), ("java/util/ArrayList", 73, M_J8_newLength_cabcc), ("java/util/ArrayList", 66, M_J7_copyOf_1904c), ("java/util/ArrayList", 79, M_J9_max_7cf53), ("Claimclub", 59, M_X3_needRange), ("java/util/Objects", 105, M_J3_checkIndex_8e157), ("java/util/ArrayList", 118, M_J15_checkIndex_7cf53), ("Claimclub", 114, M_X3_needKind), ("Claimclub", 117, M_X3_withBit), ("Claimclub", 181, M_J9_min_f86c9), ("Claimclub", 189, M_X3_hasBit), ("Claimclub", 281, M_X3_votingWeight), ("Claimclub", 257, M_X3_isInSeries), ("Claimclub", 336, M_X3_discounted), ("Claimclub", 349, M_J9_max_f86c9), ("Claimclub", 354, M_X3_burden), ("ClaimclubLaw", 100, M_L_isYear), ("ClaimclubLaw", 104, M_L_isAccepted), ("ClaimclubLaw", 123, M_L_isSeized), ("ClaimclubLaw", 134, M_L_isReviewed), ("ClaimclubLaw", 142, M_L_down), ("ClaimclubLaw", 179, M_L_draw), ("ClaimclubLaw", 183, M_L_step), ("ClaimclubLaw", 187, M_L_isWhole), ("ClaimclubLaw", 96, M_L_isOffered)]
def okS (z : String × Nat × MT) : Prop := MOK z.2.2 ∧ mH z.2.2 = [] ∧ Cond.methodLink z.1 z.2.1 (mY z.2.2) ∈ UW ∧ Cond.static (mY z.2.2) ∈ UW
set_option maxRecDepth 20000 in
theorem zkS_0 : okS ("Claimclub", 385, M_J9_floorDiv_f86c9) := ⟨ok_J9_floorDiv_f86c9, rfl, uw (i := 162) rfl rfl, uw (i := 163) rfl rfl⟩
set_option maxRecDepth 20000 in
theorem zkS_1 : okS ("Claimclub", 142, M_X3_quotient) := ⟨ok_X3_quotient, rfl, uw (i := 159) rfl rfl, uw (i := 160) rfl rfl⟩
set_option maxRecDepth 20000 in
theorem zkS_2 : okS ("Claimclub$Claim", 88, M_J9_min_f86c9) := ⟨ok_J9_min_f86c9, rfl, uw (i := 728) rfl rfl, uw (i := 722) rfl rfl⟩
set_option maxRecDepth 20000 in
theorem zkS_3 : okS ("Claimclub", 388, M_X3_couponOf) := ⟨ok_X3_couponOf, rfl, uw (i := 577) rfl rfl, uw (i := 578) rfl rfl⟩
set_option maxRecDepth 20000 in
theorem zkS_4 : okS ("jdk/internal/util/ArraysSupport", 194, M_J9_max_7cf53) := ⟨ok_J9_max_7cf53, rfl, uw (i := 416) rfl rfl, uw (i := 417) rfl rfl⟩
set_option maxRecDepth 20000 in
theorem zkS_5 : okS ("jdk/internal/util/ArraysSupport", 201, M_J8_hugeLength_7cf53) := ⟨ok_J8_hugeLength_7cf53, rfl, uw (i := 420) rfl rfl, uw (i := 421) rfl rfl⟩
set_option maxRecDepth 20000 in
theorem zkS_6 : okS ("java/util/Arrays", 304, M_J9_min_7cf53) := ⟨ok_J9_min_7cf53, rfl, uw (i := 444) rfl rfl, uw (i := 445) rfl rfl⟩
set_option maxRecDepth 20000 in
theorem zkS_7 : okS ("java/util/Arrays", 300, M_J7_copyOf_6403c) := ⟨ok_J7_copyOf_6403c, rfl, uw (i := 438) rfl rfl, uw (i := 439) rfl rfl⟩
set_option maxRecDepth 20000 in
theorem zkS_8 : okS ("java/util/ArrayList", 73, M_J8_newLength_cabcc) := ⟨ok_J8_newLength_cabcc, rfl, uw (i := 413) rfl rfl, uw (i := 414) rfl rfl⟩
set_option maxRecDepth 20000 in
theorem zkS_9 : okS ("java/util/ArrayList", 66, M_J7_copyOf_1904c) := ⟨ok_J7_copyOf_1904c, rfl, uw (i := 423) rfl rfl, uw (i := 424) rfl rfl⟩
set_option maxRecDepth 20000 in
theorem zkS_10 : okS ("java/util/ArrayList", 79, M_J9_max_7cf53) := ⟨ok_J9_max_7cf53, rfl, uw (i := 450) rfl rfl, uw (i := 417) rfl rfl⟩
set_option maxRecDepth 20000 in
theorem zkS_11 : okS ("Claimclub", 59, M_X3_needRange) := ⟨ok_X3_needRange, rfl, uw (i := 169) rfl rfl, uw (i := 170) rfl rfl⟩
set_option maxRecDepth 20000 in
theorem zkS_12 : okS ("java/util/Objects", 105, M_J3_checkIndex_8e157) := ⟨ok_J3_checkIndex_8e157, rfl, uw (i := 146) rfl rfl, uw (i := 147) rfl rfl⟩
set_option maxRecDepth 20000 in
theorem zkS_13 : okS ("java/util/ArrayList", 118, M_J15_checkIndex_7cf53) := ⟨ok_J15_checkIndex_7cf53, rfl, uw (i := 143) rfl rfl, uw (i := 144) rfl rfl⟩
set_option maxRecDepth 20000 in
theorem zkS_14 : okS ("Claimclub", 114, M_X3_needKind) := ⟨ok_X3_needKind, rfl, uw (i := 505) rfl rfl, uw (i := 506) rfl rfl⟩
set_option maxRecDepth 20000 in
theorem zkS_15 : okS ("Claimclub", 117, M_X3_withBit) := ⟨ok_X3_withBit, rfl, uw (i := 509) rfl rfl, uw (i := 510) rfl rfl⟩
set_option maxRecDepth 20000 in
theorem zkS_16 : okS ("Claimclub", 181, M_J9_min_f86c9) := ⟨ok_J9_min_f86c9, rfl, uw (i := 721) rfl rfl, uw (i := 722) rfl rfl⟩
set_option maxRecDepth 20000 in
theorem zkS_17 : okS ("Claimclub", 189, M_X3_hasBit) := ⟨ok_X3_hasBit, rfl, uw (i := 622) rfl rfl, uw (i := 617) rfl rfl⟩
set_option maxRecDepth 20000 in
theorem zkS_18 : okS ("Claimclub", 281, M_X3_votingWeight) := ⟨ok_X3_votingWeight, rfl, uw (i := 600) rfl rfl, uw (i := 601) rfl rfl⟩
set_option maxRecDepth 20000 in
theorem zkS_19 : okS ("Claimclub", 257, M_X3_isInSeries) := ⟨ok_X3_isInSeries, rfl, uw (i := 619) rfl rfl, uw (i := 620) rfl rfl⟩
set_option maxRecDepth 20000 in
theorem zkS_20 : okS ("Claimclub", 336, M_X3_discounted) := ⟨ok_X3_discounted, rfl, uw (i := 741) rfl rfl, uw (i := 575) rfl rfl⟩
set_option maxRecDepth 20000 in
theorem zkS_21 : okS ("Claimclub", 349, M_J9_max_f86c9) := ⟨ok_J9_max_f86c9, rfl, uw (i := 261) rfl rfl, uw (i := 262) rfl rfl⟩
set_option maxRecDepth 20000 in
theorem zkS_22 : okS ("Claimclub", 354, M_X3_burden) := ⟨ok_X3_burden, rfl, uw (i := 270) rfl rfl, uw (i := 271) rfl rfl⟩
set_option maxRecDepth 20000 in
theorem zkS_23 : okS ("ClaimclubLaw", 100, M_L_isYear) := ⟨ok_L_isYear, rfl, uw (i := 678) rfl rfl, uw (i := 679) rfl rfl⟩
set_option maxRecDepth 20000 in
theorem zkS_24 : okS ("ClaimclubLaw", 104, M_L_isAccepted) := ⟨ok_L_isAccepted, rfl, uw (i := 734) rfl rfl, uw (i := 735) rfl rfl⟩
set_option maxRecDepth 20000 in
theorem zkS_25 : okS ("ClaimclubLaw", 123, M_L_isSeized) := ⟨ok_L_isSeized, rfl, uw (i := 768) rfl rfl, uw (i := 769) rfl rfl⟩
set_option maxRecDepth 20000 in
theorem zkS_26 : okS ("ClaimclubLaw", 134, M_L_isReviewed) := ⟨ok_L_isReviewed, rfl, uw (i := 793) rfl rfl, uw (i := 794) rfl rfl⟩
set_option maxRecDepth 20000 in
theorem zkS_27 : okS ("ClaimclubLaw", 142, M_L_down) := ⟨ok_L_down, rfl, uw (i := 682) rfl rfl, uw (i := 683) rfl rfl⟩
set_option maxRecDepth 20000 in
theorem zkS_28 : okS ("ClaimclubLaw", 179, M_L_draw) := ⟨ok_L_draw, rfl, uw (i := 278) rfl rfl, uw (i := 279) rfl rfl⟩
set_option maxRecDepth 20000 in
theorem zkS_29 : okS ("ClaimclubLaw", 183, M_L_step) := ⟨ok_L_step, rfl, uw (i := 284) rfl rfl, uw (i := 285) rfl rfl⟩
set_option maxRecDepth 20000 in
theorem zkS_30 : okS ("ClaimclubLaw", 187, M_L_isWhole) := ⟨ok_L_isWhole, rfl, uw (i := 801) rfl rfl, uw (i := 802) rfl rfl⟩
set_option maxRecDepth 20000 in
theorem zkS_31 : okS ("ClaimclubLaw", 96, M_L_isOffered) := ⟨ok_L_isOffered, rfl, uw (i := 516) rfl rfl, uw (i := 517) rfl rfl⟩
set_option maxRecDepth 4000 in
theorem lkS_ok : ∀ z ∈ lkS, okS z := List.forall_mem_cons.mpr ⟨zkS_0, List.forall_mem_cons.mpr ⟨zkS_1, List.forall_mem_cons.mpr ⟨zkS_2, List.forall_mem_cons.mpr ⟨zkS_3, List.forall_mem_cons.mpr ⟨zkS_4, List.forall_mem_cons.mpr ⟨zkS_5, List.forall_mem_cons.mpr ⟨zkS_6, List.forall_mem_cons.mpr ⟨zkS_7, List.forall_mem_cons.mpr ⟨zkS_8, List.forall_mem_cons.mpr ⟨zkS_9, List.forall_mem_cons.mpr ⟨zkS_10, List.forall_mem_cons.mpr ⟨zkS_11, List.forall_mem_cons.mpr ⟨zkS_12, List.forall_mem_cons.mpr ⟨zkS_13, List.forall_mem_cons.mpr ⟨zkS_14, List.forall_mem_cons.mpr ⟨zkS_15, List.forall_mem_cons.mpr ⟨zkS_16, List.forall_mem_cons.mpr ⟨zkS_17, List.forall_mem_cons.mpr ⟨zkS_18, List.forall_mem_cons.mpr ⟨zkS_19, List.forall_mem_cons.mpr ⟨zkS_20, List.forall_mem_cons.mpr ⟨zkS_21, List.forall_mem_cons.mpr ⟨zkS_22, List.forall_mem_cons.mpr ⟨zkS_23, List.forall_mem_cons.mpr ⟨zkS_24, List.forall_mem_cons.mpr ⟨zkS_25, List.forall_mem_cons.mpr ⟨zkS_26, List.forall_mem_cons.mpr ⟨zkS_27, List.forall_mem_cons.mpr ⟨zkS_28, List.forall_mem_cons.mpr ⟨zkS_29, List.forall_mem_cons.mpr ⟨zkS_30, List.forall_mem_cons.mpr ⟨zkS_31, fun _ h => absurd h List.not_mem_nil⟩⟩⟩⟩⟩⟩⟩⟩⟩⟩⟩⟩⟩⟩⟩⟩⟩⟩⟩⟩⟩⟩⟩⟩⟩⟩⟩⟩⟩⟩⟩⟩
def lkW : List (String × Nat × MT) := [("ClaimclubLaw", 107, M_L_votes), ("ClaimclubLaw", 111, M_L_acts), ("ClaimclubLaw", 119, M_L_sues), ("ClaimclubLaw", 146, M_L_years), ("ClaimclubLaw", 160, M_L_seizes), ("ClaimclubLaw", 64, M_L_claims), ("ClaimclubLaw", 76, M_L_pledges), ("ClaimclubLaw", 80, M_L_reveals)]
def okW (z : String × Nat × MT) : Prop := MOK z.2.2 ∧ mH z.2.2 ≠ [] ∧ Cond.methodLink z.1 z.2.1 (mY z.2.2) ∈ UW ∧ Cond.static (mY z.2.2) ∈ UW
set_option maxRecDepth 20000 in
theorem zkW_0 : okW ("ClaimclubLaw", 107, M_L_votes) := ⟨ok_L_votes, List.cons_ne_nil _ _, uw (i := 747) rfl rfl, uw (i := 748) rfl rfl⟩
set_option maxRecDepth 20000 in
theorem zkW_1 : okW ("ClaimclubLaw", 111, M_L_acts) := ⟨ok_L_acts, List.cons_ne_nil _ _, uw (i := 519) rfl rfl, uw (i := 520) rfl rfl⟩
set_option maxRecDepth 20000 in
theorem zkW_2 : okW ("ClaimclubLaw", 119, M_L_sues) := ⟨ok_L_sues, List.cons_ne_nil _ _, uw (i := 760) rfl rfl, uw (i := 761) rfl rfl⟩
set_option maxRecDepth 20000 in
theorem zkW_3 : okW ("ClaimclubLaw", 146, M_L_years) := ⟨ok_L_years, List.cons_ne_nil _ _, uw (i := 685) rfl rfl, uw (i := 686) rfl rfl⟩
set_option maxRecDepth 20000 in
theorem zkW_4 : okW ("ClaimclubLaw", 160, M_L_seizes) := ⟨ok_L_seizes, List.cons_ne_nil _ _, uw (i := 771) rfl rfl, uw (i := 772) rfl rfl⟩
set_option maxRecDepth 20000 in
theorem zkW_5 : okW ("ClaimclubLaw", 64, M_L_claims) := ⟨ok_L_claims, List.cons_ne_nil _ _, uw (i := 288) rfl rfl, uw (i := 289) rfl rfl⟩
set_option maxRecDepth 20000 in
theorem zkW_6 : okW ("ClaimclubLaw", 76, M_L_pledges) := ⟨ok_L_pledges, List.cons_ne_nil _ _, uw (i := 478) rfl rfl, uw (i := 479) rfl rfl⟩
set_option maxRecDepth 20000 in
theorem zkW_7 : okW ("ClaimclubLaw", 80, M_L_reveals) := ⟨ok_L_reveals, List.cons_ne_nil _ _, uw (i := 487) rfl rfl, uw (i := 488) rfl rfl⟩
set_option maxRecDepth 4000 in
theorem lkW_ok : ∀ z ∈ lkW, okW z := List.forall_mem_cons.mpr ⟨zkW_0, List.forall_mem_cons.mpr ⟨zkW_1, List.forall_mem_cons.mpr ⟨zkW_2, List.forall_mem_cons.mpr ⟨zkW_3, List.forall_mem_cons.mpr ⟨zkW_4, List.forall_mem_cons.mpr ⟨zkW_5, List.forall_mem_cons.mpr ⟨zkW_6, List.forall_mem_cons.mpr ⟨zkW_7, fun _ h => absurd h List.not_mem_nil⟩⟩⟩⟩⟩⟩⟩⟩
def lkN : List (String × Nat × MT) := [("Claimclub$Claim", 80, M_X3_quotient), ("Claimclub$Claim", 84, M_X3_couponOf), ("Claimclub$Claim", 93, M_X3_discounted), ("Claimclub$Offer", 31, M_X3_quotient), ("Claimclub$Offer", 39, M_X3_hasBit)]
def okN (z : String × Nat × MT) : Prop := MOK z.2.2 ∧ mH z.2.2 = [] ∧ Cond.methodLinkNest z.1 z.2.1 (mY z.2.2) "Claimclub" ∈ UW ∧ Cond.static (mY z.2.2) ∈ UW
set_option maxRecDepth 20000 in
theorem zkN_0 : okN ("Claimclub$Claim", 80, M_X3_quotient) := ⟨ok_X3_quotient, rfl, uw (i := 715) rfl rfl, uw (i := 160) rfl rfl⟩
set_option maxRecDepth 20000 in
theorem zkN_1 : okN ("Claimclub$Claim", 84, M_X3_couponOf) := ⟨ok_X3_couponOf, rfl, uw (i := 716) rfl rfl, uw (i := 578) rfl rfl⟩
set_option maxRecDepth 20000 in
theorem zkN_2 : okN ("Claimclub$Claim", 93, M_X3_discounted) := ⟨ok_X3_discounted, rfl, uw (i := 574) rfl rfl, uw (i := 575) rfl rfl⟩
set_option maxRecDepth 20000 in
theorem zkN_3 : okN ("Claimclub$Offer", 31, M_X3_quotient) := ⟨ok_X3_quotient, rfl, uw (i := 568) rfl rfl, uw (i := 160) rfl rfl⟩
set_option maxRecDepth 20000 in
theorem zkN_4 : okN ("Claimclub$Offer", 39, M_X3_hasBit) := ⟨ok_X3_hasBit, rfl, uw (i := 616) rfl rfl, uw (i := 617) rfl rfl⟩
set_option maxRecDepth 4000 in
theorem lkN_ok : ∀ z ∈ lkN, okN z := List.forall_mem_cons.mpr ⟨zkN_0, List.forall_mem_cons.mpr ⟨zkN_1, List.forall_mem_cons.mpr ⟨zkN_2, List.forall_mem_cons.mpr ⟨zkN_3, List.forall_mem_cons.mpr ⟨zkN_4, fun _ h => absurd h List.not_mem_nil⟩⟩⟩⟩⟩
def lkV : List (String × Nat × MT) := [("Claimclub$Claim", 69, M_X0_isOpen), ("Claimclub$Claim", 73, M_X0_isOfState), ("Claimclub$Offer", 23, M_X0_owed), ("Claimclub", 81, M_Jx4a65c_size_8abf5), ("java/util/ArrayList", 69, M_Jx4a65c_grow_92f84), ("java/util/ArrayList", 129, M_Jx4a65c_grow_d5877), ("java/util/ArrayList", 131, M_Jx4a65c_add_72be8), ("Claimclub", 64, M_X3_needRoom), ("Claimclub", 73, M_X0_setTerms), ("Claimclub", 77, M_Jx4a65c_add_9ea2d), ("java/util/ArrayList", 123, M_Jx4a65c_elementData_915e3), ("Claimclub", 148, M_Jx4a65c_get_915e3), ("Claimclub", 85, M_X3_claimAt), ("Claimclub", 89, M_X0_isOpen), ("Claimclub", 162, M_X0_isOfState), ("Claimclub", 289, M_X0_owed), ("Claimclub", 109, M_X3_debt), ("Claimclub", 193, M_X0_receive), ("Claimclub", 165, M_X0_fallDue), ("Claimclub", 168, M_X3_payArrears), ("Claimclub", 177, M_X3_close), ("Claimclub", 158, M_X3_serve), ("Claimclub", 126, M_X3_broughtBy), ("Claimclub", 130, M_X3_grown), ("Claimclub", 133, M_X3_judgeSuits), ("Claimclub", 136, M_X3_serveRank), ("Claimclub", 123, M_X3_passYear), ("Claimclub", 222, M_X1_principalFor), ("Claimclub", 234, M_X0_worth), ("Claimclub", 206, M_X3_offerAt), ("Claimclub", 212, M_X3_swap), ("Claimclub", 244, M_X0_isVoter), ("Claimclub", 249, M_X1_tell), ("Claimclub", 285, M_X1_hasYesOf), ("Claimclub", 272, M_X3_bondsOwed), ("Claimclub", 275, M_X3_bondsOwedWithYes), ("Claimclub", 268, M_X3_hasMajority), ("Claimclub", 264, M_X3_arePooled), ("Claimclub", 253, M_X3_seriesToSwap), ("Claimclub", 261, M_X1_forgetVotes), ("Claimclub", 300, M_X3_thingAt), ("Claimclub", 333, M_X0_isOfficial), ("Claimclub", 324, M_X3_hasFundArrears), ("Claimclub", 327, M_X3_owedToOfficials), ("Claimclub", 318, M_X3_reasonToFail), ("Claimclub", 321, M_X3_payTranche), ("Claimclub", 340, M_X3_effortOf), ("Claimclub", 344, M_X3_wasSwapped), ("Claimclub", 368, M_X0_paymentsAdded), ("ClaimclubLaw", 115, M_X3_passes), ("ClaimclubLaw", 12, M_X3_claim), ("ClaimclubLaw", 127, M_X3_programme), ("ClaimclubLaw", 131, M_X3_assure), ("ClaimclubLaw", 137, M_X3_effort), ("ClaimclubLaw", 152, M_X3_offered), ("ClaimclubLaw", 155, M_X3_value), ("ClaimclubLaw", 165, M_X3_paidAnew), ("ClaimclubLaw", 168, M_X3_isBearable), ("ClaimclubLaw", 175, M_X3_areAlike), ("ClaimclubLaw", 20, M_X3_pledge), ("ClaimclubLaw", 26, M_X3_year), ("ClaimclubLaw", 30, M_X3_offer), ("ClaimclubLaw", 34, M_X3_accept), ("ClaimclubLaw", 38, M_X3_settle), ("ClaimclubLaw", 42, M_X3_thing), ("ClaimclubLaw", 45, M_X3_review), ("ClaimclubLaw", 49, M_X3_vote), ("ClaimclubLaw", 53, M_X3_sue), ("ClaimclubLaw", 57, M_X3_seize), ("ClaimclubLaw", 60, M_X3_reveal), ("ClaimclubLaw", 68, M_X3_ofClaim), ("ClaimclubLaw", 73, M_X3_ofState), ("ClaimclubLaw", 85, M_X3_economy), ("ClaimclubLaw", 89, M_X3_moratorium), ("ClaimclubLaw", 93, M_X3_discount)]
def okV (z : String × Nat × MT) : Prop := MOK z.2.2 ∧ mH z.2.2 = [] ∧ Cond.methodLink z.1 z.2.1 (mY z.2.2) ∈ UW ∧ Cond.instanceMethod (mY z.2.2) ∈ UW ∧ Cond.selects (mY z.2.2).cls (mY z.2.2) (mY z.2.2) ∈ UW
set_option maxRecDepth 20000 in
theorem zkV_0 : okV ("Claimclub$Claim", 69, M_X0_isOpen) := ⟨ok_X0_isOpen, rfl, uw (i := 573) rfl rfl, uw (i := 245) rfl rfl, uw (i := 246) rfl rfl⟩
set_option maxRecDepth 20000 in
theorem zkV_1 : okV ("Claimclub$Claim", 73, M_X0_isOfState) := ⟨ok_X0_isOfState, rfl, uw (i := 607) rfl rfl, uw (i := 249) rfl rfl, uw (i := 250) rfl rfl⟩
set_option maxRecDepth 20000 in
theorem zkV_2 : okV ("Claimclub$Offer", 23, M_X0_owed) := ⟨ok_X0_owed, rfl, uw (i := 566) rfl rfl, uw (i := 253) rfl rfl, uw (i := 254) rfl rfl⟩
set_option maxRecDepth 20000 in
theorem zkV_3 : okV ("Claimclub", 81, M_Jx4a65c_size_8abf5) := ⟨ok_Jx4a65c_size_8abf5, rfl, uw (i := 135) rfl rfl, uw (i := 136) rfl rfl, uw (i := 137) rfl rfl⟩
set_option maxRecDepth 20000 in
theorem zkV_4 : okV ("java/util/ArrayList", 69, M_Jx4a65c_grow_92f84) := ⟨ok_Jx4a65c_grow_92f84, rfl, uw (i := 409) rfl rfl, uw (i := 411) rfl rfl, uw (i := 9) rfl rfl⟩
set_option maxRecDepth 20000 in
theorem zkV_5 : okV ("java/util/ArrayList", 129, M_Jx4a65c_grow_d5877) := ⟨ok_Jx4a65c_grow_d5877, rfl, uw (i := 405) rfl rfl, uw (i := 407) rfl rfl, uw (i := 8) rfl rfl⟩
set_option maxRecDepth 20000 in
theorem zkV_6 : okV ("java/util/ArrayList", 131, M_Jx4a65c_add_72be8) := ⟨ok_Jx4a65c_add_72be8, rfl, uw (i := 401) rfl rfl, uw (i := 403) rfl rfl, uw (i := 7) rfl rfl⟩
set_option maxRecDepth 20000 in
theorem zkV_7 : okV ("Claimclub", 64, M_X3_needRoom) := ⟨ok_X3_needRoom, rfl, uw (i := 297) rfl rfl, uw (i := 299) rfl rfl, uw (i := 6) rfl rfl⟩
set_option maxRecDepth 20000 in
theorem zkV_8 : okV ("Claimclub", 73, M_X0_setTerms) := ⟨ok_X0_setTerms, rfl, uw (i := 393) rfl rfl, uw (i := 394) rfl rfl, uw (i := 395) rfl rfl⟩
set_option maxRecDepth 20000 in
theorem zkV_9 : okV ("Claimclub", 77, M_Jx4a65c_add_9ea2d) := ⟨ok_Jx4a65c_add_9ea2d, rfl, uw (i := 397) rfl rfl, uw (i := 398) rfl rfl, uw (i := 399) rfl rfl⟩
set_option maxRecDepth 20000 in
theorem zkV_10 : okV ("java/util/ArrayList", 123, M_Jx4a65c_elementData_915e3) := ⟨ok_Jx4a65c_elementData_915e3, rfl, uw (i := 149) rfl rfl, uw (i := 150) rfl rfl, uw (i := 151) rfl rfl⟩
set_option maxRecDepth 20000 in
theorem zkV_11 : okV ("Claimclub", 148, M_Jx4a65c_get_915e3) := ⟨ok_Jx4a65c_get_915e3, rfl, uw (i := 139) rfl rfl, uw (i := 140) rfl rfl, uw (i := 141) rfl rfl⟩
set_option maxRecDepth 20000 in
theorem zkV_12 : okV ("Claimclub", 85, M_X3_claimAt) := ⟨ok_X3_claimAt, rfl, uw (i := 456) rfl rfl, uw (i := 458) rfl rfl, uw (i := 10) rfl rfl⟩
set_option maxRecDepth 20000 in
theorem zkV_13 : okV ("Claimclub", 89, M_X0_isOpen) := ⟨ok_X0_isOpen, rfl, uw (i := 244) rfl rfl, uw (i := 245) rfl rfl, uw (i := 246) rfl rfl⟩
set_option maxRecDepth 20000 in
theorem zkV_14 : okV ("Claimclub", 162, M_X0_isOfState) := ⟨ok_X0_isOfState, rfl, uw (i := 248) rfl rfl, uw (i := 249) rfl rfl, uw (i := 250) rfl rfl⟩
set_option maxRecDepth 20000 in
theorem zkV_15 : okV ("Claimclub", 289, M_X0_owed) := ⟨ok_X0_owed, rfl, uw (i := 252) rfl rfl, uw (i := 253) rfl rfl, uw (i := 254) rfl rfl⟩
set_option maxRecDepth 20000 in
theorem zkV_16 : okV ("Claimclub", 109, M_X3_debt) := ⟨ok_X3_debt, rfl, uw (i := 240) rfl rfl, uw (i := 242) rfl rfl, uw (i := 3) rfl rfl⟩
set_option maxRecDepth 20000 in
theorem zkV_17 : okV ("Claimclub", 193, M_X0_receive) := ⟨ok_X0_receive, rfl, uw (i := 724) rfl rfl, uw (i := 725) rfl rfl, uw (i := 726) rfl rfl⟩
set_option maxRecDepth 20000 in
theorem zkV_18 : okV ("Claimclub", 165, M_X0_fallDue) := ⟨ok_X0_fallDue, rfl, uw (i := 709) rfl rfl, uw (i := 710) rfl rfl, uw (i := 711) rfl rfl⟩
set_option maxRecDepth 20000 in
theorem zkV_19 : okV ("Claimclub", 168, M_X3_payArrears) := ⟨ok_X3_payArrears, rfl, uw (i := 717) rfl rfl, uw (i := 719) rfl rfl, uw (i := 26) rfl rfl⟩
set_option maxRecDepth 20000 in
theorem zkV_20 : okV ("Claimclub", 177, M_X3_close) := ⟨ok_X3_close, rfl, uw (i := 729) rfl rfl, uw (i := 731) rfl rfl, uw (i := 27) rfl rfl⟩
set_option maxRecDepth 20000 in
theorem zkV_21 : okV ("Claimclub", 158, M_X3_serve) := ⟨ok_X3_serve, rfl, uw (i := 705) rfl rfl, uw (i := 707) rfl rfl, uw (i := 25) rfl rfl⟩
set_option maxRecDepth 20000 in
theorem zkV_22 : okV ("Claimclub", 126, M_X3_broughtBy) := ⟨ok_X3_broughtBy, rfl, uw (i := 256) rfl rfl, uw (i := 258) rfl rfl, uw (i := 4) rfl rfl⟩
set_option maxRecDepth 20000 in
theorem zkV_23 : okV ("Claimclub", 130, M_X3_grown) := ⟨ok_X3_grown, rfl, uw (i := 264) rfl rfl, uw (i := 266) rfl rfl, uw (i := 5) rfl rfl⟩
set_option maxRecDepth 20000 in
theorem zkV_24 : okV ("Claimclub", 133, M_X3_judgeSuits) := ⟨ok_X3_judgeSuits, rfl, uw (i := 697) rfl rfl, uw (i := 699) rfl rfl, uw (i := 23) rfl rfl⟩
set_option maxRecDepth 20000 in
theorem zkV_25 : okV ("Claimclub", 136, M_X3_serveRank) := ⟨ok_X3_serveRank, rfl, uw (i := 701) rfl rfl, uw (i := 703) rfl rfl, uw (i := 24) rfl rfl⟩
set_option maxRecDepth 20000 in
theorem zkV_26 : okV ("Claimclub", 123, M_X3_passYear) := ⟨ok_X3_passYear, rfl, uw (i := 693) rfl rfl, uw (i := 695) rfl rfl, uw (i := 22) rfl rfl⟩
set_option maxRecDepth 20000 in
theorem zkV_27 : okV ("Claimclub", 222, M_X1_principalFor) := ⟨ok_X1_principalFor, rfl, uw (i := 562) rfl rfl, uw (i := 563) rfl rfl, uw (i := 564) rfl rfl⟩
set_option maxRecDepth 20000 in
theorem zkV_28 : okV ("Claimclub", 234, M_X0_worth) := ⟨ok_X0_worth, rfl, uw (i := 569) rfl rfl, uw (i := 570) rfl rfl, uw (i := 571) rfl rfl⟩
set_option maxRecDepth 20000 in
theorem zkV_29 : okV ("Claimclub", 206, M_X3_offerAt) := ⟨ok_X3_offerAt, rfl, uw (i := 552) rfl rfl, uw (i := 554) rfl rfl, uw (i := 11) rfl rfl⟩
set_option maxRecDepth 20000 in
theorem zkV_30 : okV ("Claimclub", 212, M_X3_swap) := ⟨ok_X3_swap, rfl, uw (i := 558) rfl rfl, uw (i := 560) rfl rfl, uw (i := 12) rfl rfl⟩
set_option maxRecDepth 20000 in
theorem zkV_31 : okV ("Claimclub", 244, M_X0_isVoter) := ⟨ok_X0_isVoter, rfl, uw (i := 603) rfl rfl, uw (i := 604) rfl rfl, uw (i := 605) rfl rfl⟩
set_option maxRecDepth 20000 in
theorem zkV_32 : okV ("Claimclub", 249, M_X1_tell) := ⟨ok_X1_tell, rfl, uw (i := 755) rfl rfl, uw (i := 756) rfl rfl, uw (i := 757) rfl rfl⟩
set_option maxRecDepth 20000 in
theorem zkV_33 : okV ("Claimclub", 285, M_X1_hasYesOf) := ⟨ok_X1_hasYesOf, rfl, uw (i := 612) rfl rfl, uw (i := 613) rfl rfl, uw (i := 614) rfl rfl⟩
set_option maxRecDepth 20000 in
theorem zkV_34 : okV ("Claimclub", 272, M_X3_bondsOwed) := ⟨ok_X3_bondsOwed, rfl, uw (i := 596) rfl rfl, uw (i := 598) rfl rfl, uw (i := 16) rfl rfl⟩
set_option maxRecDepth 20000 in
theorem zkV_35 : okV ("Claimclub", 275, M_X3_bondsOwedWithYes) := ⟨ok_X3_bondsOwedWithYes, rfl, uw (i := 608) rfl rfl, uw (i := 610) rfl rfl, uw (i := 17) rfl rfl⟩
set_option maxRecDepth 20000 in
theorem zkV_36 : okV ("Claimclub", 268, M_X3_hasMajority) := ⟨ok_X3_hasMajority, rfl, uw (i := 592) rfl rfl, uw (i := 594) rfl rfl, uw (i := 15) rfl rfl⟩
set_option maxRecDepth 20000 in
theorem zkV_37 : okV ("Claimclub", 264, M_X3_arePooled) := ⟨ok_X3_arePooled, rfl, uw (i := 588) rfl rfl, uw (i := 590) rfl rfl, uw (i := 14) rfl rfl⟩
set_option maxRecDepth 20000 in
theorem zkV_38 : okV ("Claimclub", 253, M_X3_seriesToSwap) := ⟨ok_X3_seriesToSwap, rfl, uw (i := 584) rfl rfl, uw (i := 586) rfl rfl, uw (i := 13) rfl rfl⟩
set_option maxRecDepth 20000 in
theorem zkV_39 : okV ("Claimclub", 261, M_X1_forgetVotes) := ⟨ok_X1_forgetVotes, rfl, uw (i := 623) rfl rfl, uw (i := 624) rfl rfl, uw (i := 625) rfl rfl⟩
set_option maxRecDepth 20000 in
theorem zkV_40 : okV ("Claimclub", 300, M_X3_thingAt) := ⟨ok_X3_thingAt, rfl, uw (i := 778) rfl rfl, uw (i := 780) rfl rfl, uw (i := 28) rfl rfl⟩
set_option maxRecDepth 20000 in
theorem zkV_41 : okV ("Claimclub", 333, M_X0_isOfficial) := ⟨ok_X0_isOfficial, rfl, uw (i := 664) rfl rfl, uw (i := 665) rfl rfl, uw (i := 666) rfl rfl⟩
set_option maxRecDepth 20000 in
theorem zkV_42 : okV ("Claimclub", 324, M_X3_hasFundArrears) := ⟨ok_X3_hasFundArrears, rfl, uw (i := 656) rfl rfl, uw (i := 658) rfl rfl, uw (i := 19) rfl rfl⟩
set_option maxRecDepth 20000 in
theorem zkV_43 : okV ("Claimclub", 327, M_X3_owedToOfficials) := ⟨ok_X3_owedToOfficials, rfl, uw (i := 660) rfl rfl, uw (i := 662) rfl rfl, uw (i := 20) rfl rfl⟩
set_option maxRecDepth 20000 in
theorem zkV_44 : okV ("Claimclub", 318, M_X3_reasonToFail) := ⟨ok_X3_reasonToFail, rfl, uw (i := 652) rfl rfl, uw (i := 654) rfl rfl, uw (i := 18) rfl rfl⟩
set_option maxRecDepth 20000 in
theorem zkV_45 : okV ("Claimclub", 321, M_X3_payTranche) := ⟨ok_X3_payTranche, rfl, uw (i := 669) rfl rfl, uw (i := 671) rfl rfl, uw (i := 21) rfl rfl⟩
set_option maxRecDepth 20000 in
theorem zkV_46 : okV ("Claimclub", 340, M_X3_effortOf) := ⟨ok_X3_effortOf, rfl, uw (i := 154) rfl rfl, uw (i := 156) rfl rfl, uw (i := 1) rfl rfl⟩
set_option maxRecDepth 20000 in
theorem zkV_47 : okV ("Claimclub", 344, M_X3_wasSwapped) := ⟨ok_X3_wasSwapped, rfl, uw (i := 131) rfl rfl, uw (i := 133) rfl rfl, uw (i := 0) rfl rfl⟩
set_option maxRecDepth 20000 in
theorem zkV_48 : okV ("Claimclub", 368, M_X0_paymentsAdded) := ⟨ok_X0_paymentsAdded, rfl, uw (i := 808) rfl rfl, uw (i := 809) rfl rfl, uw (i := 810) rfl rfl⟩
set_option maxRecDepth 20000 in
theorem zkV_49 : okV ("ClaimclubLaw", 115, M_X3_passes) := ⟨ok_X3_passes, rfl, uw (i := 673) rfl rfl, uw (i := 674) rfl rfl, uw (i := 675) rfl rfl⟩
set_option maxRecDepth 20000 in
theorem zkV_50 : okV ("ClaimclubLaw", 12, M_X3_claim) := ⟨ok_X3_claim, rfl, uw (i := 292) rfl rfl, uw (i := 293) rfl rfl, uw (i := 294) rfl rfl⟩
set_option maxRecDepth 20000 in
theorem zkV_51 : okV ("ClaimclubLaw", 127, M_X3_programme) := ⟨ok_X3_programme, rfl, uw (i := 784) rfl rfl, uw (i := 785) rfl rfl, uw (i := 786) rfl rfl⟩
set_option maxRecDepth 20000 in
theorem zkV_52 : okV ("ClaimclubLaw", 131, M_X3_assure) := ⟨ok_X3_assure, rfl, uw (i := 788) rfl rfl, uw (i := 789) rfl rfl, uw (i := 790) rfl rfl⟩
set_option maxRecDepth 20000 in
theorem zkV_53 : okV ("ClaimclubLaw", 137, M_X3_effort) := ⟨ok_X3_effort, rfl, uw (i := 797) rfl rfl, uw (i := 798) rfl rfl, uw (i := 799) rfl rfl⟩
set_option maxRecDepth 20000 in
theorem zkV_54 : okV ("ClaimclubLaw", 152, M_X3_offered) := ⟨ok_X3_offered, rfl, uw (i := 737) rfl rfl, uw (i := 738) rfl rfl, uw (i := 739) rfl rfl⟩
set_option maxRecDepth 20000 in
theorem zkV_55 : okV ("ClaimclubLaw", 155, M_X3_value) := ⟨ok_X3_value, rfl, uw (i := 742) rfl rfl, uw (i := 743) rfl rfl, uw (i := 744) rfl rfl⟩
set_option maxRecDepth 20000 in
theorem zkV_56 : okV ("ClaimclubLaw", 165, M_X3_paidAnew) := ⟨ok_X3_paidAnew, rfl, uw (i := 804) rfl rfl, uw (i := 805) rfl rfl, uw (i := 806) rfl rfl⟩
set_option maxRecDepth 20000 in
theorem zkV_57 : okV ("ClaimclubLaw", 168, M_X3_isBearable) := ⟨ok_X3_isBearable, rfl, uw (i := 165) rfl rfl, uw (i := 166) rfl rfl, uw (i := 167) rfl rfl⟩
set_option maxRecDepth 20000 in
theorem zkV_58 : okV ("ClaimclubLaw", 175, M_X3_areAlike) := ⟨ok_X3_areAlike, rfl, uw (i := 127) rfl rfl, uw (i := 128) rfl rfl, uw (i := 129) rfl rfl⟩
set_option maxRecDepth 20000 in
theorem zkV_59 : okV ("ClaimclubLaw", 20, M_X3_pledge) := ⟨ok_X3_pledge, rfl, uw (i := 481) rfl rfl, uw (i := 482) rfl rfl, uw (i := 483) rfl rfl⟩
set_option maxRecDepth 20000 in
theorem zkV_60 : okV ("ClaimclubLaw", 26, M_X3_year) := ⟨ok_X3_year, rfl, uw (i := 688) rfl rfl, uw (i := 689) rfl rfl, uw (i := 690) rfl rfl⟩
set_option maxRecDepth 20000 in
theorem zkV_61 : okV ("ClaimclubLaw", 30, M_X3_offer) := ⟨ok_X3_offer, rfl, uw (i := 522) rfl rfl, uw (i := 523) rfl rfl, uw (i := 524) rfl rfl⟩
set_option maxRecDepth 20000 in
theorem zkV_62 : okV ("ClaimclubLaw", 34, M_X3_accept) := ⟨ok_X3_accept, rfl, uw (i := 548) rfl rfl, uw (i := 549) rfl rfl, uw (i := 550) rfl rfl⟩
set_option maxRecDepth 20000 in
theorem zkV_63 : okV ("ClaimclubLaw", 38, M_X3_settle) := ⟨ok_X3_settle, rfl, uw (i := 580) rfl rfl, uw (i := 581) rfl rfl, uw (i := 582) rfl rfl⟩
set_option maxRecDepth 20000 in
theorem zkV_64 : okV ("ClaimclubLaw", 42, M_X3_thing) := ⟨ok_X3_thing, rfl, uw (i := 627) rfl rfl, uw (i := 628) rfl rfl, uw (i := 629) rfl rfl⟩
set_option maxRecDepth 20000 in
theorem zkV_65 : okV ("ClaimclubLaw", 45, M_X3_review) := ⟨ok_X3_review, rfl, uw (i := 647) rfl rfl, uw (i := 648) rfl rfl, uw (i := 649) rfl rfl⟩
set_option maxRecDepth 20000 in
theorem zkV_66 : okV ("ClaimclubLaw", 49, M_X3_vote) := ⟨ok_X3_vote, rfl, uw (i := 750) rfl rfl, uw (i := 751) rfl rfl, uw (i := 752) rfl rfl⟩
set_option maxRecDepth 20000 in
theorem zkV_67 : okV ("ClaimclubLaw", 53, M_X3_sue) := ⟨ok_X3_sue, rfl, uw (i := 763) rfl rfl, uw (i := 764) rfl rfl, uw (i := 765) rfl rfl⟩
set_option maxRecDepth 20000 in
theorem zkV_68 : okV ("ClaimclubLaw", 57, M_X3_seize) := ⟨ok_X3_seize, rfl, uw (i := 774) rfl rfl, uw (i := 775) rfl rfl, uw (i := 776) rfl rfl⟩
set_option maxRecDepth 20000 in
theorem zkV_69 : okV ("ClaimclubLaw", 60, M_X3_reveal) := ⟨ok_X3_reveal, rfl, uw (i := 490) rfl rfl, uw (i := 491) rfl rfl, uw (i := 492) rfl rfl⟩
set_option maxRecDepth 20000 in
theorem zkV_70 : okV ("ClaimclubLaw", 68, M_X3_ofClaim) := ⟨ok_X3_ofClaim, rfl, uw (i := 452) rfl rfl, uw (i := 453) rfl rfl, uw (i := 454) rfl rfl⟩
set_option maxRecDepth 20000 in
theorem zkV_71 : okV ("ClaimclubLaw", 73, M_X3_ofState) := ⟨ok_X3_ofState, rfl, uw (i := 273) rfl rfl, uw (i := 274) rfl rfl, uw (i := 275) rfl rfl⟩
set_option maxRecDepth 20000 in
theorem zkV_72 : okV ("ClaimclubLaw", 85, M_X3_economy) := ⟨ok_X3_economy, rfl, uw (i := 496) rfl rfl, uw (i := 497) rfl rfl, uw (i := 498) rfl rfl⟩
set_option maxRecDepth 20000 in
theorem zkV_73 : okV ("ClaimclubLaw", 89, M_X3_moratorium) := ⟨ok_X3_moratorium, rfl, uw (i := 501) rfl rfl, uw (i := 502) rfl rfl, uw (i := 503) rfl rfl⟩
set_option maxRecDepth 20000 in
theorem zkV_74 : okV ("ClaimclubLaw", 93, M_X3_discount) := ⟨ok_X3_discount, rfl, uw (i := 512) rfl rfl, uw (i := 513) rfl rfl, uw (i := 514) rfl rfl⟩
set_option maxRecDepth 4000 in
theorem lkV_ok : ∀ z ∈ lkV, okV z := List.forall_mem_cons.mpr ⟨zkV_0, List.forall_mem_cons.mpr ⟨zkV_1, List.forall_mem_cons.mpr ⟨zkV_2, List.forall_mem_cons.mpr ⟨zkV_3, List.forall_mem_cons.mpr ⟨zkV_4, List.forall_mem_cons.mpr ⟨zkV_5, List.forall_mem_cons.mpr ⟨zkV_6, List.forall_mem_cons.mpr ⟨zkV_7, List.forall_mem_cons.mpr ⟨zkV_8, List.forall_mem_cons.mpr ⟨zkV_9, List.forall_mem_cons.mpr ⟨zkV_10, List.forall_mem_cons.mpr ⟨zkV_11, List.forall_mem_cons.mpr ⟨zkV_12, List.forall_mem_cons.mpr ⟨zkV_13, List.forall_mem_cons.mpr ⟨zkV_14, List.forall_mem_cons.mpr ⟨zkV_15, List.forall_mem_cons.mpr ⟨zkV_16, List.forall_mem_cons.mpr ⟨zkV_17, List.forall_mem_cons.mpr ⟨zkV_18, List.forall_mem_cons.mpr ⟨zkV_19, List.forall_mem_cons.mpr ⟨zkV_20, List.forall_mem_cons.mpr ⟨zkV_21, List.forall_mem_cons.mpr ⟨zkV_22, List.forall_mem_cons.mpr ⟨zkV_23, List.forall_mem_cons.mpr ⟨zkV_24, List.forall_mem_cons.mpr ⟨zkV_25, List.forall_mem_cons.mpr ⟨zkV_26, List.forall_mem_cons.mpr ⟨zkV_27, List.forall_mem_cons.mpr ⟨zkV_28, List.forall_mem_cons.mpr ⟨zkV_29, List.forall_mem_cons.mpr ⟨zkV_30, List.forall_mem_cons.mpr ⟨zkV_31, List.forall_mem_cons.mpr ⟨zkV_32, List.forall_mem_cons.mpr ⟨zkV_33, List.forall_mem_cons.mpr ⟨zkV_34, List.forall_mem_cons.mpr ⟨zkV_35, List.forall_mem_cons.mpr ⟨zkV_36, List.forall_mem_cons.mpr ⟨zkV_37, List.forall_mem_cons.mpr ⟨zkV_38, List.forall_mem_cons.mpr ⟨zkV_39, List.forall_mem_cons.mpr ⟨zkV_40, List.forall_mem_cons.mpr ⟨zkV_41, List.forall_mem_cons.mpr ⟨zkV_42, List.forall_mem_cons.mpr ⟨zkV_43, List.forall_mem_cons.mpr ⟨zkV_44, List.forall_mem_cons.mpr ⟨zkV_45, List.forall_mem_cons.mpr ⟨zkV_46, List.forall_mem_cons.mpr ⟨zkV_47, List.forall_mem_cons.mpr ⟨zkV_48, List.forall_mem_cons.mpr ⟨zkV_49, List.forall_mem_cons.mpr ⟨zkV_50, List.forall_mem_cons.mpr ⟨zkV_51, List.forall_mem_cons.mpr ⟨zkV_52, List.forall_mem_cons.mpr ⟨zkV_53, List.forall_mem_cons.mpr ⟨zkV_54, List.forall_mem_cons.mpr ⟨zkV_55, List.forall_mem_cons.mpr ⟨zkV_56, List.forall_mem_cons.mpr ⟨zkV_57, List.forall_mem_cons.mpr ⟨zkV_58, List.forall_mem_cons.mpr ⟨zkV_59, List.forall_mem_cons.mpr ⟨zkV_60, List.forall_mem_cons.mpr ⟨zkV_61, List.forall_mem_cons.mpr ⟨zkV_62, List.forall_mem_cons.mpr ⟨zkV_63, List.forall_mem_cons.mpr ⟨zkV_64, List.forall_mem_cons.mpr ⟨zkV_65, List.forall_mem_cons.mpr ⟨zkV_66, List.forall_mem_cons.mpr ⟨zkV_67, List.forall_mem_cons.mpr ⟨zkV_68, List.forall_mem_cons.mpr ⟨zkV_69, List.forall_mem_cons.mpr ⟨zkV_70, List.forall_mem_cons.mpr ⟨zkV_71, List.forall_mem_cons.mpr ⟨zkV_72, List.forall_mem_cons.mpr ⟨zkV_73, List.forall_mem_cons.mpr ⟨zkV_74, fun _ h => absurd h List.not_mem_nil⟩⟩⟩⟩⟩⟩⟩⟩⟩⟩⟩⟩⟩⟩⟩⟩⟩⟩⟩⟩⟩⟩⟩⟩⟩⟩⟩⟩⟩⟩⟩⟩⟩⟩⟩⟩⟩⟩⟩⟩⟩⟩⟩⟩⟩⟩⟩⟩⟩⟩⟩⟩⟩⟩⟩⟩⟩⟩⟩⟩⟩⟩⟩⟩⟩⟩⟩⟩⟩⟩⟩⟩⟩⟩⟩
def lkI : List (String × Nat × MT) := [("java/util/AbstractList", 1, M_Jxa1e45_init_da8c8), ("java/util/ArrayList", 1, M_Jxc12de_init_da8c8), ("Claimclub", 9, M_Jx4a65c_init_da8c8), ("Claimclub", 70, M_X0_init), ("Claimclub", 204, M_X1_init), ("Claimclub", 296, M_X2_init), ("ClaimclubLaw", 172, M_X3_init)]
def okI (z : String × Nat × MT) : Prop := MOK z.2.2 ∧ mH z.2.2 = [] ∧ Cond.methodLink z.1 z.2.1 (mY z.2.2) ∈ UW ∧ Cond.instanceMethod (mY z.2.2) ∈ UW ∧ (mY z.2.2).name = "<init>" ∧ mT z.2.2 = none
set_option maxRecDepth 20000 in
theorem zkI_0 : okI ("java/util/AbstractList", 1, M_Jxa1e45_init_da8c8) := ⟨ok_Jxa1e45_init_da8c8, rfl, uw (i := 65) rfl rfl, uw (i := 66) rfl rfl, rfl, rfl⟩
set_option maxRecDepth 20000 in
theorem zkI_1 : okI ("java/util/ArrayList", 1, M_Jxc12de_init_da8c8) := ⟨ok_Jxc12de_init_da8c8, rfl, uw (i := 62) rfl rfl, uw (i := 63) rfl rfl, rfl, rfl⟩
set_option maxRecDepth 20000 in
theorem zkI_2 : okI ("Claimclub", 9, M_Jx4a65c_init_da8c8) := ⟨ok_Jx4a65c_init_da8c8, rfl, uw (i := 59) rfl rfl, uw (i := 60) rfl rfl, rfl, rfl⟩
set_option maxRecDepth 20000 in
theorem zkI_3 : okI ("Claimclub", 70, M_X0_init) := ⟨ok_X0_init, rfl, uw (i := 318) rfl rfl, uw (i := 319) rfl rfl, rfl, rfl⟩
set_option maxRecDepth 20000 in
theorem zkI_4 : okI ("Claimclub", 204, M_X1_init) := ⟨ok_X1_init, rfl, uw (i := 529) rfl rfl, uw (i := 530) rfl rfl, rfl, rfl⟩
set_option maxRecDepth 20000 in
theorem zkI_5 : okI ("Claimclub", 296, M_X2_init) := ⟨ok_X2_init, rfl, uw (i := 634) rfl rfl, uw (i := 635) rfl rfl, rfl, rfl⟩
set_option maxRecDepth 20000 in
theorem zkI_6 : okI ("ClaimclubLaw", 172, M_X3_init) := ⟨ok_X3_init, rfl, uw (i := 51) rfl rfl, uw (i := 52) rfl rfl, rfl, rfl⟩
set_option maxRecDepth 4000 in
theorem lkI_ok : ∀ z ∈ lkI, okI z := List.forall_mem_cons.mpr ⟨zkI_0, List.forall_mem_cons.mpr ⟨zkI_1, List.forall_mem_cons.mpr ⟨zkI_2, List.forall_mem_cons.mpr ⟨zkI_3, List.forall_mem_cons.mpr ⟨zkI_4, List.forall_mem_cons.mpr ⟨zkI_5, List.forall_mem_cons.mpr ⟨zkI_6, fun _ h => absurd h List.not_mem_nil⟩⟩⟩⟩⟩⟩⟩
def lkO : List (String × Nat) := [("Claimclub$Claim", 3), ("Claimclub$Offer", 1), ("Claimclub$Thing", 1), ("java/util/AbstractCollection", 1), ("Claimclub", 1)]
set_option maxRecDepth 20000 in
theorem zkO_0 : Cond.methodLink "Claimclub$Claim" 3 Lib.objectInit ∈ UW := uw (i := 321) rfl rfl
set_option maxRecDepth 20000 in
theorem zkO_1 : Cond.methodLink "Claimclub$Offer" 1 Lib.objectInit ∈ UW := uw (i := 532) rfl rfl
set_option maxRecDepth 20000 in
theorem zkO_2 : Cond.methodLink "Claimclub$Thing" 1 Lib.objectInit ∈ UW := uw (i := 637) rfl rfl
set_option maxRecDepth 20000 in
theorem zkO_3 : Cond.methodLink "java/util/AbstractCollection" 1 Lib.objectInit ∈ UW := uw (i := 68) rfl rfl
set_option maxRecDepth 20000 in
theorem zkO_4 : Cond.methodLink "Claimclub" 1 Lib.objectInit ∈ UW := uw (i := 54) rfl rfl
set_option maxRecDepth 4000 in
theorem lkO_ok : ∀ z ∈ lkO, Cond.methodLink z.1 z.2 Lib.objectInit ∈ UW := List.forall_mem_cons.mpr ⟨zkO_0, List.forall_mem_cons.mpr ⟨zkO_1, List.forall_mem_cons.mpr ⟨zkO_2, List.forall_mem_cons.mpr ⟨zkO_3, List.forall_mem_cons.mpr ⟨zkO_4, fun _ h => absurd h List.not_mem_nil⟩⟩⟩⟩⟩
