/-! THE ABSTRACT MACHINE, 6: the methods and their links -/
abbrev M_X0_init : MT := (yX0_init, cX0_init, 6, none, 5, (1, 60, 1, 70), [])
abbrev M_X0_setTerms : MT := (yX0_setTerms, cX0_setTerms, 5, none, 3, (0, 0, 0, 0), [])
abbrev M_X0_isOpen : MT := (yX0_isOpen, cX0_isOpen, 1, (some .boolean), 0, (0, 0, 0, 0), [])
abbrev M_X0_isOfState : MT := (yX0_isOfState, cX0_isOfState, 1, (some .boolean), 0, (0, 0, 0, 0), [])
abbrev M_X0_isVoter : MT := (yX0_isVoter, cX0_isVoter, 1, (some .boolean), 0, (1, 20, 0, 0), [])
abbrev M_X0_isOfficial : MT := (yX0_isOfficial, cX0_isOfficial, 1, (some .boolean), 0, (1, 20, 0, 0), [])
abbrev M_X0_owed : MT := (yX0_owed, cX0_owed, 1, (some .long), 0, (0, 0, 0, 0), [])
abbrev M_J9_floorDiv_f86c9 : MT := (yJ9_floorDiv_f86c9, cJ9_floorDiv_f86c9, 6, (some .long), 2, (0, 0, 0, 0), [])
abbrev M_X3_quotient : MT := (yX3_quotient, cX3_quotient, 4, (some .long), 2, (1, 25, 0, 0), [])
abbrev M_X3_couponOf : MT := (yX3_couponOf, cX3_couponOf, 3, (some .long), 2, (2, 48, 0, 0), [])
abbrev M_X0_fallDue : MT := (yX0_fallDue, cX0_fallDue, 2, none, 1, (3, 70, 0, 0), [])
abbrev M_J9_min_f86c9 : MT := (yJ9_min_f86c9, cJ9_min_f86c9, 4, (some .long), 2, (0, 0, 0, 0), [])
abbrev M_X0_receive : MT := (yX0_receive, cX0_receive, 5, none, 1, (1, 23, 0, 0), [])
abbrev M_X0_paymentsAdded : MT := (yX0_paymentsAdded, cX0_paymentsAdded, 8, (some .long), 0, (0, 0, 0, 0), [])
abbrev M_X3_discounted : MT := (yX3_discounted, cX3_discounted, 10, (some .long), 4, (3, 70, 0, 0), [])
abbrev M_X0_worth : MT := (yX0_worth, cX0_worth, 3, (some .long), 2, (4, 99, 0, 0), [])
abbrev M_X1_init : MT := (yX1_init, cX1_init, 4, none, 3, (1, 60, 0, 0), [])
abbrev M_X1_principalFor : MT := (yX1_principalFor, cX1_principalFor, 2, (some .long), 1, (2, 48, 0, 0), [])
abbrev M_X1_tell : MT := (yX1_tell, cX1_tell, 3, none, 2, (0, 0, 0, 0), [])
abbrev M_X3_hasBit : MT := (yX3_hasBit, cX3_hasBit, 3, (some .boolean), 2, (0, 0, 0, 0), [])
abbrev M_X1_hasYesOf : MT := (yX1_hasYesOf, cX1_hasYesOf, 2, (some .boolean), 1, (1, 22, 0, 0), [])
abbrev M_X1_forgetVotes : MT := (yX1_forgetVotes, cX1_forgetVotes, 1, none, 0, (0, 0, 0, 0), [])
abbrev M_X2_init : MT := (yX2_init, cX2_init, 2, none, 1, (1, 60, 0, 0), [])
abbrev M_Jxa1e45_init_da8c8 : MT := (yJxa1e45_init_da8c8, cJxa1e45_init_da8c8, 1, none, 0, (1, 60, 0, 0), [])
abbrev M_Jxc12de_init_da8c8 : MT := (yJxc12de_init_da8c8, cJxc12de_init_da8c8, 1, none, 0, (2, 80, 0, 0), [])
abbrev M_Jx4a65c_init_da8c8 : MT := (yJx4a65c_init_da8c8, cJx4a65c_init_da8c8, 1, none, 0, (3, 100, 0, 0), [])
abbrev M_X3_init : MT := (yX3_init, cX3_init, 1, none, 0, (4, 120, 3, 9), [])
abbrev M_X3_needRange : MT := (yX3_needRange, cX3_needRange, 3, none, 3, (6, 90, 1, 6), [])
abbrev M_Jx4a65c_size_8abf5 : MT := (yJx4a65c_size_8abf5, cJx4a65c_size_8abf5, 1, (some .int), 0, (0, 0, 0, 0), [])
abbrev M_X3_needRoom : MT := (yX3_needRoom, cX3_needRoom, 2, none, 1, (6, 90, 1, 6), [])
abbrev M_J9_max_7cf53 : MT := (yJ9_max_7cf53, cJ9_max_7cf53, 2, (some .int), 2, (0, 0, 0, 0), [])
abbrev M_J8_hugeLength_7cf53 : MT := (yJ8_hugeLength_7cf53, cJ8_hugeLength_7cf53, 3, (some .int), 2, (0, 0, 0, 0), [])
abbrev M_J8_newLength_cabcc : MT := (yJ8_newLength_cabcc, cJ8_newLength_cabcc, 4, (some .int), 3, (1, 22, 0, 0), [])
abbrev M_J9_min_7cf53 : MT := (yJ9_min_7cf53, cJ9_min_7cf53, 2, (some .int), 2, (0, 0, 0, 0), [])
abbrev M_J7_copyOf_6403c : MT := (yJ7_copyOf_6403c, cJ7_copyOf_6403c, 4, (some (.array (.object "java/lang/Object"))), 3, (1, 60, 1, 100), [])
abbrev M_J7_copyOf_1904c : MT := (yJ7_copyOf_1904c, cJ7_copyOf_1904c, 2, (some (.array (.object "java/lang/Object"))), 2, (2, 83, 1, 100), [])
abbrev M_Jx4a65c_grow_92f84 : MT := (yJx4a65c_grow_92f84, cJx4a65c_grow_92f84, 4, (some (.array (.object "java/lang/Object"))), 1, (3, 104, 1, 100), [])
abbrev M_Jx4a65c_grow_d5877 : MT := (yJx4a65c_grow_d5877, cJx4a65c_grow_d5877, 1, (some (.array (.object "java/lang/Object"))), 0, (4, 127, 1, 100), [])
abbrev M_Jx4a65c_add_72be8 : MT := (yJx4a65c_add_72be8, cJx4a65c_add_72be8, 4, none, 3, (5, 147, 1, 100), [])
abbrev M_Jx4a65c_add_9ea2d : MT := (yJx4a65c_add_9ea2d, cJx4a65c_add_9ea2d, 2, (some .boolean), 1, (6, 170, 1, 100), [])
abbrev M_X3_claim : MT := (yX3_claim, cX3_claim, 10, (some .int), 8, (7, 191, 11, 236), [])
abbrev M_J3_checkIndex_8e157 : MT := (yJ3_checkIndex_8e157, cJ3_checkIndex_8e157, 3, (some .int), 3, (0, 0, 0, 0), [])
abbrev M_J15_checkIndex_7cf53 : MT := (yJ15_checkIndex_7cf53, cJ15_checkIndex_7cf53, 2, (some .int), 2, (1, 22, 0, 0), [])
abbrev M_Jx4a65c_elementData_915e3 : MT := (yJx4a65c_elementData_915e3, cJx4a65c_elementData_915e3, 2, (some (.object "java/lang/Object")), 1, (0, 0, 0, 0), [])
abbrev M_Jx4a65c_get_915e3 : MT := (yJx4a65c_get_915e3, cJx4a65c_get_915e3, 2, (some (.object "java/lang/Object")), 1, (2, 43, 0, 0), [])
abbrev M_X3_claimAt : MT := (yX3_claimAt, cX3_claimAt, 2, (some (.object "Claimclub$Claim")), 1, (6, 90, 1, 6), [])
abbrev M_X3_pledge : MT := (yX3_pledge, cX3_pledge, 4, (some .long), 2, (7, 112, 3, 18), [])
abbrev M_X3_debt : MT := (yX3_debt, cX3_debt, 6, (some .long), 0, (3, 64, 0, 0), [])
abbrev M_X3_reveal : MT := (yX3_reveal, cX3_reveal, 3, (some .long), 1, (7, 111, 2, 12), [])
abbrev M_X3_economy : MT := (yX3_economy, cX3_economy, 4, (some .long), 3, (7, 112, 3, 18), [])
abbrev M_X3_needKind : MT := (yX3_needKind, cX3_needKind, 1, none, 1, (6, 90, 1, 6), [])
abbrev M_X3_withBit : MT := (yX3_withBit, cX3_withBit, 3, (some .int), 3, (0, 0, 0, 0), [])
abbrev M_X3_moratorium : MT := (yX3_moratorium, cX3_moratorium, 4, (some .boolean), 2, (7, 110, 1, 6), [])
abbrev M_X3_broughtBy : MT := (yX3_broughtBy, cX3_broughtBy, 3, (some .long), 1, (2, 48, 0, 0), [])
abbrev M_X3_grown : MT := (yX3_grown, cX3_grown, 3, (some .long), 1, (2, 48, 0, 0), [])
abbrev M_X3_judgeSuits : MT := (yX3_judgeSuits, cX3_judgeSuits, 3, none, 0, (3, 64, 0, 0), [])
abbrev M_X3_payArrears : MT := (yX3_payArrears, cX3_payArrears, 6, (some .long), 1, (2, 47, 0, 0), [])
abbrev M_X3_close : MT := (yX3_close, cX3_close, 2, none, 1, (0, 0, 0, 0), [])
abbrev M_X3_serve : MT := (yX3_serve, cX3_serve, 4, (some .long), 1, (4, 91, 0, 0), [])
abbrev M_X3_serveRank : MT := (yX3_serveRank, cX3_serveRank, 6, (some .long), 1, (5, 114, 0, 0), [])
abbrev M_X3_passYear : MT := (yX3_passYear, cX3_passYear, 4, (some .long), 0, (6, 139, 0, 0), [])
abbrev M_X3_year : MT := (yX3_year, cX3_year, 5, (some .long), 1, (7, 162, 2, 12), [])
abbrev M_X3_discount : MT := (yX3_discount, cX3_discount, 3, (some .int), 1, (7, 112, 1, 6), [])
abbrev M_X3_offer : MT := (yX3_offer, cX3_offer, 4, (some .int), 3, (7, 191, 6, 128), [])
abbrev M_X3_offerAt : MT := (yX3_offerAt, cX3_offerAt, 2, (some (.object "Claimclub$Offer")), 1, (6, 90, 1, 6), [])
abbrev M_X3_swap : MT := (yX3_swap, cX3_swap, 5, none, 3, (7, 191, 3, 188), [])
abbrev M_X3_accept : MT := (yX3_accept, cX3_accept, 5, (some .int), 2, (8, 215, 7, 212), [])
abbrev M_X3_vote : MT := (yX3_vote, cX3_vote, 6, none, 3, (7, 111, 3, 18), [])
abbrev M_X3_votingWeight : MT := (yX3_votingWeight, cX3_votingWeight, 3, (some .long), 2, (2, 40, 0, 0), [])
abbrev M_X3_bondsOwed : MT := (yX3_bondsOwed, cX3_bondsOwed, 5, (some .long), 1, (3, 64, 0, 0), [])
abbrev M_X3_bondsOwedWithYes : MT := (yX3_bondsOwedWithYes, cX3_bondsOwedWithYes, 6, (some .long), 2, (3, 64, 0, 0), [])
abbrev M_X3_hasMajority : MT := (yX3_hasMajority, cX3_hasMajority, 6, (some .boolean), 3, (4, 89, 0, 0), [])
abbrev M_X3_arePooled : MT := (yX3_arePooled, cX3_arePooled, 4, (some .boolean), 1, (5, 114, 0, 0), [])
abbrev M_X3_seriesToSwap : MT := (yX3_seriesToSwap, cX3_seriesToSwap, 5, (some .int), 1, (6, 137, 0, 0), [])
abbrev M_X3_isInSeries : MT := (yX3_isInSeries, cX3_isInSeries, 2, (some .boolean), 2, (1, 22, 0, 0), [])
abbrev M_X3_settle : MT := (yX3_settle, cX3_settle, 8, (some .int), 1, (8, 215, 122, 7532), [])
abbrev M_X3_thing : MT := (yX3_thing, cX3_thing, 2, (some .int), 1, (7, 191, 4, 114), [])
abbrev M_X3_sue : MT := (yX3_sue, cX3_sue, 3, none, 1, (7, 111, 2, 12), [])
abbrev M_X3_thingAt : MT := (yX3_thingAt, cX3_thingAt, 2, (some (.object "Claimclub$Thing")), 1, (6, 90, 1, 6), [])
abbrev M_X3_seize : MT := (yX3_seize, cX3_seize, 7, (some .long), 2, (7, 111, 3, 18), [])
abbrev M_X3_programme : MT := (yX3_programme, cX3_programme, 4, none, 3, (7, 112, 3, 18), [])
abbrev M_X3_assure : MT := (yX3_assure, cX3_assure, 4, (some .boolean), 2, (6, 90, 1, 6), [])
abbrev M_X3_hasFundArrears : MT := (yX3_hasFundArrears, cX3_hasFundArrears, 4, (some .boolean), 0, (3, 64, 0, 0), [])
abbrev M_X3_owedToOfficials : MT := (yX3_owedToOfficials, cX3_owedToOfficials, 7, (some .long), 1, (3, 64, 0, 0), [])
abbrev M_X3_reasonToFail : MT := (yX3_reasonToFail, cX3_reasonToFail, 1, (some .int), 0, (4, 90, 0, 0), [])
abbrev M_X3_payTranche : MT := (yX3_payTranche, cX3_payTranche, 2, none, 0, (7, 191, 3, 188), [])
abbrev M_X3_review : MT := (yX3_review, cX3_review, 2, (some .int), 0, (8, 212, 5, 200), [])
abbrev M_X3_value : MT := (yX3_value, cX3_value, 4, (some .long), 2, (7, 121, 2, 12), [])
abbrev M_X3_offered : MT := (yX3_offered, cX3_offered, 6, (some .long), 3, (7, 112, 3, 18), [])
abbrev M_X3_effortOf : MT := (yX3_effortOf, cX3_effortOf, 8, (some .int), 1, (3, 64, 0, 0), [])
abbrev M_X3_effort : MT := (yX3_effort, cX3_effort, 2, (some .int), 1, (7, 110, 1, 6), [])
abbrev M_X3_wasSwapped : MT := (yX3_wasSwapped, cX3_wasSwapped, 5, (some .boolean), 1, (3, 64, 0, 0), [])
abbrev M_X3_areAlike : MT := (yX3_areAlike, cX3_areAlike, 3, (some .boolean), 0, (4, 91, 0, 0), [])
abbrev M_X3_passes : MT := (yX3_passes, cX3_passes, 4, (some .boolean), 2, (7, 137, 2, 12), [])
abbrev M_J9_max_f86c9 : MT := (yJ9_max_f86c9, cJ9_max_f86c9, 4, (some .long), 2, (0, 0, 0, 0), [])
abbrev M_X3_burden : MT := (yX3_burden, cX3_burden, 4, (some .long), 2, (2, 48, 0, 0), [])
abbrev M_X3_isBearable : MT := (yX3_isBearable, cX3_isBearable, 9, (some .boolean), 1, (7, 112, 1, 6), [])
abbrev M_X3_ofClaim : MT := (yX3_ofClaim, cX3_ofClaim, 4, (some .long), 2, (7, 111, 2, 12), [])
abbrev M_X3_paidAnew : MT := (yX3_paidAnew, cX3_paidAnew, 2, (some .long), 1, (7, 111, 1, 6), [])
abbrev M_X3_ofState : MT := (yX3_ofState, cX3_ofState, 2, (some .long), 1, (6, 90, 1, 6), [])
abbrev M_X4_init : MT := (yX4_init, cX4_init, 1, none, 0, (1, 60, 25, 1605), [])
abbrev M_X4_thrown : MT := (yX4_thrown, cX4_thrown, 1, (some .int), 0, (0, 0, 0, 0), [])
abbrev M_X4_holds : MT := (yX4_holds, cX4_holds, 2, (some .boolean), 1, (0, 0, 0, 0), [])
abbrev M_X4_isIn : MT := (yX4_isIn, cX4_isIn, 3, (some .boolean), 3, (0, 0, 0, 0), [])
abbrev M_X4_isClaim : MT := (yX4_isClaim, cX4_isClaim, 2, (some .boolean), 1, (1, 22, 0, 0), [])
abbrev M_X4_isOffer : MT := (yX4_isOffer, cX4_isOffer, 2, (some .boolean), 1, (1, 22, 0, 0), [])
abbrev M_X4_isKind : MT := (yX4_isKind, cX4_isKind, 1, (some .boolean), 1, (1, 22, 0, 0), [])
abbrev M_X4_down : MT := (yX4_down, cX4_down, 4, (some .long), 2, (0, 0, 0, 0), [])
abbrev M_X4_adds : MT := (yX4_adds, cX4_adds, 8, (some .int), 5, (0, 0, 0, 0), [])
abbrev M_X4_claim : MT := (yX4_claim, cX4_claim, 12, (some .int), 8, (2, 42, 0, 0), [])
abbrev M_X4_pledge : MT := (yX4_pledge, cX4_pledge, 4, (some .long), 2, (2, 43, 0, 0), [])
abbrev M_X4_owed : MT := (yX4_owed, cX4_owed, 2, (some .long), 1, (0, 0, 0, 0), [])
abbrev M_X4_debt : MT := (yX4_debt, cX4_debt, 4, (some .long), 0, (1, 21, 0, 0), [])
abbrev M_X4_reveal : MT := (yX4_reveal, cX4_reveal, 3, (some .long), 1, (2, 44, 0, 0), [])
abbrev M_X4_economy : MT := (yX4_economy, cX4_economy, 4, (some .long), 3, (1, 22, 0, 0), [])
abbrev M_X4_moratorium : MT := (yX4_moratorium, cX4_moratorium, 4, (some .boolean), 2, (2, 42, 0, 0), [])
abbrev M_X4_ends : MT := (yX4_ends, cX4_ends, 2, none, 1, (0, 0, 0, 0), [])
abbrev M_X4_flow : MT := (yX4_flow, cX4_flow, 3, (some .long), 2, (0, 0, 0, 0), [])
abbrev M_X4_looksAt : MT := (yX4_looksAt, cX4_looksAt, 8, (some .long), 1, (1, 22, 0, 0), [])
abbrev M_X4_goesBy : MT := (yX4_goesBy, cX4_goesBy, 5, (some .long), 0, (2, 49, 0, 0), [])
abbrev M_X4_year : MT := (yX4_year, cX4_year, 5, (some .long), 1, (3, 73, 0, 0), [])
abbrev M_X4_valueBy : MT := (yX4_valueBy, cX4_valueBy, 11, (some .long), 4, (0, 0, 0, 0), [])
abbrev M_X4_valueOf : MT := (yX4_valueOf, cX4_valueOf, 3, (some .long), 2, (1, 30, 0, 0), [])
abbrev M_X4_cutOf : MT := (yX4_cutOf, cX4_cutOf, 3, (some .long), 2, (1, 21, 0, 0), [])
abbrev M_X4_discount : MT := (yX4_discount, cX4_discount, 3, (some .int), 1, (1, 22, 0, 0), [])
abbrev M_X4_offer : MT := (yX4_offer, cX4_offer, 5, (some .int), 3, (1, 22, 0, 0), [])
abbrev M_X4_swaps : MT := (yX4_swaps, cX4_swaps, 4, (some .int), 2, (2, 52, 0, 0), [])
abbrev M_X4_accept : MT := (yX4_accept, cX4_accept, 4, (some .int), 2, (3, 75, 0, 0), [])
abbrev M_X4_isVoter : MT := (yX4_isVoter, cX4_isVoter, 2, (some .boolean), 1, (0, 0, 0, 0), [])
abbrev M_X4_vote : MT := (yX4_vote, cX4_vote, 5, none, 3, (2, 43, 0, 0), [])
abbrev M_X4_votes : MT := (yX4_votes, cX4_votes, 8, (some .long), 3, (1, 21, 0, 0), [])
abbrev M_X4_isPart : MT := (yX4_isPart, cX4_isPart, 6, (some .boolean), 3, (2, 48, 0, 0), [])
abbrev M_X4_arePooled : MT := (yX4_arePooled, cX4_arePooled, 4, (some .boolean), 1, (3, 73, 0, 0), [])
abbrev M_X4_isPassed : MT := (yX4_isPassed, cX4_isPassed, 3, (some .boolean), 2, (4, 96, 0, 0), [])
abbrev M_X4_passed : MT := (yX4_passed, cX4_passed, 4, (some .int), 1, (5, 118, 0, 0), [])
abbrev M_X4_goes : MT := (yX4_goes, cX4_goes, 3, (some .boolean), 2, (0, 0, 0, 0), [])
abbrev M_X4_settle : MT := (yX4_settle, cX4_settle, 7, (some .int), 1, (6, 141, 0, 0), [])
abbrev M_X4_thing : MT := (yX4_thing, cX4_thing, 2, (some .int), 1, (1, 22, 0, 0), [])
abbrev M_X4_sue : MT := (yX4_sue, cX4_sue, 3, none, 1, (2, 43, 0, 0), [])
abbrev M_X4_seize : MT := (yX4_seize, cX4_seize, 10, (some .long), 2, (2, 43, 0, 0), [])
abbrev M_X4_programme : MT := (yX4_programme, cX4_programme, 4, none, 3, (1, 22, 0, 0), [])
abbrev M_X4_assure : MT := (yX4_assure, cX4_assure, 4, (some .boolean), 2, (1, 22, 0, 0), [])
abbrev M_X4_failing : MT := (yX4_failing, cX4_failing, 7, (some .int), 0, (1, 21, 0, 0), [])
abbrev M_X4_review : MT := (yX4_review, cX4_review, 3, (some .int), 0, (2, 47, 0, 0), [])
abbrev M_X4_value : MT := (yX4_value, cX4_value, 3, (some .long), 2, (2, 52, 0, 0), [])
abbrev M_X4_offered : MT := (yX4_offered, cX4_offered, 4, (some .long), 3, (2, 43, 0, 0), [])
abbrev M_X4_effortOf : MT := (yX4_effortOf, cX4_effortOf, 2, (some .int), 1, (0, 0, 0, 0), [])
abbrev M_X4_effort : MT := (yX4_effort, cX4_effort, 2, (some .int), 1, (2, 42, 0, 0), [])
abbrev M_X4_areAlike : MT := (yX4_areAlike, cX4_areAlike, 3, (some .boolean), 0, (1, 21, 0, 0), [])
abbrev M_X4_passes : MT := (yX4_passes, cX4_passes, 3, (some .boolean), 2, (5, 118, 0, 0), [])
abbrev M_X4_isBearable : MT := (yX4_isBearable, cX4_isBearable, 10, (some .boolean), 1, (2, 44, 0, 0), [])
abbrev M_X4_ofClaim : MT := (yX4_ofClaim, cX4_ofClaim, 3, (some .long), 2, (2, 43, 0, 0), [])
abbrev M_X4_paidAnew : MT := (yX4_paidAnew, cX4_paidAnew, 2, (some .long), 1, (2, 43, 0, 0), [])
abbrev M_X4_ofState : MT := (yX4_ofState, cX4_ofState, 2, (some .long), 1, (2, 44, 0, 0), [])
abbrev M_L_claim : MT := (yL_claim, cL_claim, 11, (some .int), 10, (8, 220, 11, 236), [(0, (22, (25, 13))), (0, (22, (29, 15)))])
abbrev M_L_pledge : MT := (yL_pledge, cL_pledge, 5, (some .int), 4, (8, 135, 3, 18), [(0, (9, (12, 21))), (0, (9, (16, 13))), (0, (9, (20, 15)))])
abbrev M_L_reveal : MT := (yL_reveal, cL_reveal, 4, (some .int), 3, (8, 133, 2, 12), [(0, (8, (11, 21))), (0, (8, (14, 15)))])
abbrev M_L_economy : MT := (yL_economy, cL_economy, 6, (some .int), 5, (8, 135, 3, 18), [(0, (11, (14, 13)))])
abbrev M_L_moratorium : MT := (yL_moratorium, cL_moratorium, 5, (some .int), 4, (8, 133, 1, 6), [(0, (17, (20, 21)))])
abbrev M_L_year : MT := (yL_year, cL_year, 4, (some .int), 3, (8, 186, 2, 12), [(0, (8, (11, 13))), (0, (8, (14, 15)))])
abbrev M_L_discount : MT := (yL_discount, cL_discount, 4, (some .int), 3, (8, 134, 1, 6), [(0, (9, (12, 13)))])
abbrev M_L_offer : MT := (yL_offer, cL_offer, 6, (some .int), 5, (8, 214, 6, 128), [(0, (12, (15, 13))), (0, (12, (19, 15)))])
abbrev M_L_accept : MT := (yL_accept, cL_accept, 5, (some .int), 4, (9, 239, 7, 212), [(0, (10, (13, 21))), (0, (10, (17, 15)))])
abbrev M_L_vote : MT := (yL_vote, cL_vote, 5, (some .int), 4, (8, 136, 3, 18), [(0, (7, (10, 21))), (0, (7, (14, 15)))])
abbrev M_L_settle : MT := (yL_settle, cL_settle, 4, (some .int), 3, (9, 242, 122, 7532), [(0, (9, (12, 21))), (0, (9, (15, 15)))])
abbrev M_L_thing : MT := (yL_thing, cL_thing, 4, (some .int), 3, (8, 212, 4, 114), [(0, (9, (12, 13))), (0, (9, (15, 15)))])
abbrev M_L_sue : MT := (yL_sue, cL_sue, 3, (some .int), 2, (8, 133, 2, 12), [(0, (5, (8, 21))), (0, (5, (11, 15)))])
abbrev M_L_seize : MT := (yL_seize, cL_seize, 5, (some .int), 4, (8, 137, 3, 18), [(0, (9, (12, 21))), (0, (9, (16, 15)))])
abbrev M_L_programme : MT := (yL_programme, cL_programme, 5, (some .int), 4, (8, 135, 3, 18), [(0, (7, (10, 13)))])
abbrev M_L_assure : MT := (yL_assure, cL_assure, 5, (some .int), 4, (7, 113, 1, 6), [(0, (17, (20, 21)))])
abbrev M_L_review : MT := (yL_review, cL_review, 3, (some .int), 2, (9, 233, 5, 200), [(0, (8, (11, 15)))])
abbrev M_L_value : MT := (yL_value, cL_value, 5, (some .int), 4, (8, 144, 2, 12), [(0, (9, (12, 21))), (0, (9, (16, 13)))])
abbrev M_L_offered : MT := (yL_offered, cL_offered, 6, (some .int), 5, (8, 137, 3, 18), [(0, (11, (14, 21))), (0, (11, (18, 13)))])
abbrev M_L_effort : MT := (yL_effort, cL_effort, 4, (some .int), 3, (8, 131, 1, 6), [(0, (9, (12, 21)))])
abbrev M_L_passes : MT := (yL_passes, cL_passes, 5, (some .int), 4, (8, 160, 2, 12), [(0, (17, (20, 21)))])
abbrev M_L_isBearable : MT := (yL_isBearable, cL_isBearable, 4, (some .int), 3, (8, 140, 1, 6), [(0, (16, (19, 13)))])
abbrev M_L_ofClaim : MT := (yL_ofClaim, cL_ofClaim, 5, (some .int), 4, (8, 134, 2, 12), [(0, (9, (12, 21))), (0, (9, (16, 13)))])
abbrev M_L_paidAnew : MT := (yL_paidAnew, cL_paidAnew, 4, (some .int), 3, (8, 132, 1, 6), [(0, (8, (11, 21)))])
abbrev M_L_ofState : MT := (yL_ofState, cL_ofState, 4, (some .int), 3, (7, 111, 1, 6), [(0, (8, (11, 13)))])
abbrev M_L_law : MT := (yL_law, cL_law, 8, (some .boolean), 1, (12, 464, 601024, 7293034), [])
def MOK (M : MT) : Prop := plainFor (mY M) = true ∧ cwM M ∈ UW ∧ Cond.initialized (mY M).cls ∈ UW ∧ ((mY M).cls ≠ "java/lang/invoke/MethodHandle" ∧ (mY M).cls ≠ "java/lang/invoke/VarHandle") ∧ (parseMethodDescriptor (mY M).desc).map (fun d => d.parameters.length) = some (mP M)
set_option maxRecDepth 20000 in
theorem inz_RX3 : Cond.initialized RX3 ∈ UW := uw (i := 53) rfl rfl
theorem pln_RX3 : plainName RX3 = true := by decide +kernel
theorem nmh_RX3 : RX3 ≠ "java/lang/invoke/MethodHandle" ∧ RX3 ≠ "java/lang/invoke/VarHandle" := ⟨by decide +kernel, by decide +kernel⟩
set_option maxRecDepth 20000 in
theorem inz_RX0 : Cond.initialized RX0 ∈ UW := uw (i := 63) rfl rfl
theorem pln_RX0 : plainName RX0 = true := by decide +kernel
theorem nmh_RX0 : RX0 ≠ "java/lang/invoke/MethodHandle" ∧ RX0 ≠ "java/lang/invoke/VarHandle" := ⟨by decide +kernel, by decide +kernel⟩
set_option maxRecDepth 20000 in
theorem inz_RX1 : Cond.initialized RX1 ∈ UW := uw (i := 71) rfl rfl
theorem pln_RX1 : plainName RX1 = true := by decide +kernel
theorem nmh_RX1 : RX1 ≠ "java/lang/invoke/MethodHandle" ∧ RX1 ≠ "java/lang/invoke/VarHandle" := ⟨by decide +kernel, by decide +kernel⟩
set_option maxRecDepth 20000 in
theorem inz_RX2 : Cond.initialized RX2 ∈ UW := uw (i := 72) rfl rfl
theorem pln_RX2 : plainName RX2 = true := by decide +kernel
theorem nmh_RX2 : RX2 ≠ "java/lang/invoke/MethodHandle" ∧ RX2 ≠ "java/lang/invoke/VarHandle" := ⟨by decide +kernel, by decide +kernel⟩
set_option maxRecDepth 20000 in
theorem inz_RL : Cond.initialized RL ∈ UW := uw (i := 52) rfl rfl
theorem pln_RL : plainName RL = true := by decide +kernel
theorem nmh_RL : RL ≠ "java/lang/invoke/MethodHandle" ∧ RL ≠ "java/lang/invoke/VarHandle" := ⟨by decide +kernel, by decide +kernel⟩
set_option maxRecDepth 20000 in
theorem inz_RX4 : Cond.initialized RX4 ∈ UW := uw (i := 57) rfl rfl
theorem pln_RX4 : plainName RX4 = true := by decide +kernel
theorem nmh_RX4 : RX4 ≠ "java/lang/invoke/MethodHandle" ∧ RX4 ≠ "java/lang/invoke/VarHandle" := ⟨by decide +kernel, by decide +kernel⟩
set_option maxRecDepth 20000 in
theorem inz_RJ9 : Cond.initialized RJ9 ∈ UW := uw (i := 65) rfl rfl
theorem nmh_RJ9 : RJ9 ≠ "java/lang/invoke/MethodHandle" ∧ RJ9 ≠ "java/lang/invoke/VarHandle" := ⟨by decide +kernel, by decide +kernel⟩
set_option maxRecDepth 20000 in
theorem inz_RJxa1e45 : Cond.initialized RJxa1e45 ∈ UW := uw (i := 54) rfl rfl
theorem pln_RJxa1e45 : plainName RJxa1e45 = true := by decide +kernel
theorem nmh_RJxa1e45 : RJxa1e45 ≠ "java/lang/invoke/MethodHandle" ∧ RJxa1e45 ≠ "java/lang/invoke/VarHandle" := ⟨by decide +kernel, by decide +kernel⟩
set_option maxRecDepth 20000 in
theorem inz_RJxc12de : Cond.initialized RJxc12de ∈ UW := uw (i := 55) rfl rfl
theorem pln_RJxc12de : plainName RJxc12de = true := by decide +kernel
theorem nmh_RJxc12de : RJxc12de ≠ "java/lang/invoke/MethodHandle" ∧ RJxc12de ≠ "java/lang/invoke/VarHandle" := ⟨by decide +kernel, by decide +kernel⟩
set_option maxRecDepth 20000 in
theorem inz_RJx4a65c : Cond.initialized RJx4a65c ∈ UW := uw (i := 56) rfl rfl
theorem pln_RJx4a65c : plainName RJx4a65c = true := by decide +kernel
theorem nmh_RJx4a65c : RJx4a65c ≠ "java/lang/invoke/MethodHandle" ∧ RJx4a65c ≠ "java/lang/invoke/VarHandle" := ⟨by decide +kernel, by decide +kernel⟩
set_option maxRecDepth 20000 in
theorem inz_RJ7 : Cond.initialized RJ7 ∈ UW := uw (i := 66) rfl rfl
theorem pln_RJ7 : plainName RJ7 = true := by decide +kernel
theorem nmh_RJ7 : RJ7 ≠ "java/lang/invoke/MethodHandle" ∧ RJ7 ≠ "java/lang/invoke/VarHandle" := ⟨by decide +kernel, by decide +kernel⟩
set_option maxRecDepth 20000 in
theorem inz_RJ15 : Cond.initialized RJ15 ∈ UW := uw (i := 69) rfl rfl
theorem pln_RJ15 : plainName RJ15 = true := by decide +kernel
theorem nmh_RJ15 : RJ15 ≠ "java/lang/invoke/MethodHandle" ∧ RJ15 ≠ "java/lang/invoke/VarHandle" := ⟨by decide +kernel, by decide +kernel⟩
set_option maxRecDepth 20000 in
theorem inz_RJ8 : Cond.initialized RJ8 ∈ UW := uw (i := 64) rfl rfl
theorem pln_RJ8 : plainName RJ8 = true := by decide +kernel
theorem nmh_RJ8 : RJ8 ≠ "java/lang/invoke/MethodHandle" ∧ RJ8 ≠ "java/lang/invoke/VarHandle" := ⟨by decide +kernel, by decide +kernel⟩
set_option maxRecDepth 20000 in
theorem inz_RJ3 : Cond.initialized RJ3 ∈ UW := uw (i := 70) rfl rfl
theorem pln_RJ3 : plainName RJ3 = true := by decide +kernel
theorem nmh_RJ3 : RJ3 ≠ "java/lang/invoke/MethodHandle" ∧ RJ3 ≠ "java/lang/invoke/VarHandle" := ⟨by decide +kernel, by decide +kernel⟩
set_option maxRecDepth 20000 in
theorem ok_X0_init : MOK M_X0_init := ⟨plainFor_of_name pln_RX0, uw (i := 293) rfl rfl, inz_RX0, nmh_RX0, by decide +kernel⟩
set_option maxRecDepth 20000 in
theorem ok_X0_setTerms : MOK M_X0_setTerms := ⟨plainFor_of_name pln_RX0, uw (i := 369) rfl rfl, inz_RX0, nmh_RX0, by decide +kernel⟩
set_option maxRecDepth 20000 in
theorem ok_X0_isOpen : MOK M_X0_isOpen := ⟨plainFor_of_name pln_RX0, uw (i := 457) rfl rfl, inz_RX0, nmh_RX0, by decide +kernel⟩
set_option maxRecDepth 20000 in
theorem ok_X0_isOfState : MOK M_X0_isOfState := ⟨plainFor_of_name pln_RX0, uw (i := 474) rfl rfl, inz_RX0, nmh_RX0, by decide +kernel⟩
set_option maxRecDepth 20000 in
theorem ok_X0_isVoter : MOK M_X0_isVoter := ⟨plainFor_of_name pln_RX0, uw (i := 642) rfl rfl, inz_RX0, nmh_RX0, by decide +kernel⟩
set_option maxRecDepth 20000 in
theorem ok_X0_isOfficial : MOK M_X0_isOfficial := ⟨plainFor_of_name pln_RX0, uw (i := 775) rfl rfl, inz_RX0, nmh_RX0, by decide +kernel⟩
set_option maxRecDepth 20000 in
theorem ok_X0_owed : MOK M_X0_owed := ⟨plainFor_of_name pln_RX0, uw (i := 478) rfl rfl, inz_RX0, nmh_RX0, by decide +kernel⟩
set_option maxRecDepth 20000 in
theorem ok_J9_floorDiv_f86c9 : MOK M_J9_floorDiv_f86c9 := ⟨by decide +kernel, uw (i := 188) rfl rfl, inz_RJ9, nmh_RJ9, by decide +kernel⟩
set_option maxRecDepth 20000 in
theorem ok_X3_quotient : MOK M_X3_quotient := ⟨plainFor_of_name pln_RX3, uw (i := 185) rfl rfl, inz_RX3, nmh_RX3, by decide +kernel⟩
set_option maxRecDepth 20000 in
theorem ok_X3_couponOf : MOK M_X3_couponOf := ⟨plainFor_of_name pln_RX3, uw (i := 543) rfl rfl, inz_RX3, nmh_RX3, by decide +kernel⟩
set_option maxRecDepth 20000 in
theorem ok_X0_fallDue : MOK M_X0_fallDue := ⟨plainFor_of_name pln_RX0, uw (i := 537) rfl rfl, inz_RX0, nmh_RX0, by decide +kernel⟩
set_option maxRecDepth 20000 in
theorem ok_J9_min_f86c9 : MOK M_J9_min_f86c9 := ⟨by decide +kernel, uw (i := 550) rfl rfl, inz_RJ9, nmh_RJ9, by decide +kernel⟩
set_option maxRecDepth 20000 in
theorem ok_X0_receive : MOK M_X0_receive := ⟨plainFor_of_name pln_RX0, uw (i := 557) rfl rfl, inz_RX0, nmh_RX0, by decide +kernel⟩
set_option maxRecDepth 20000 in
theorem ok_X0_paymentsAdded : MOK M_X0_paymentsAdded := ⟨plainFor_of_name pln_RX0, uw (i := 843) rfl rfl, inz_RX0, nmh_RX0, by decide +kernel⟩
set_option maxRecDepth 20000 in
theorem ok_X3_discounted : MOK M_X3_discounted := ⟨plainFor_of_name pln_RX3, uw (i := 630) rfl rfl, inz_RX3, nmh_RX3, by decide +kernel⟩
set_option maxRecDepth 20000 in
theorem ok_X0_worth : MOK M_X0_worth := ⟨plainFor_of_name pln_RX0, uw (i := 626) rfl rfl, inz_RX0, nmh_RX0, by decide +kernel⟩
set_option maxRecDepth 20000 in
theorem ok_X1_init : MOK M_X1_init := ⟨plainFor_of_name pln_RX1, uw (i := 582) rfl rfl, inz_RX1, nmh_RX1, by decide +kernel⟩
set_option maxRecDepth 20000 in
theorem ok_X1_principalFor : MOK M_X1_principalFor := ⟨plainFor_of_name pln_RX1, uw (i := 619) rfl rfl, inz_RX1, nmh_RX1, by decide +kernel⟩
set_option maxRecDepth 20000 in
theorem ok_X1_tell : MOK M_X1_tell := ⟨plainFor_of_name pln_RX1, uw (i := 648) rfl rfl, inz_RX1, nmh_RX1, by decide +kernel⟩
set_option maxRecDepth 20000 in
theorem ok_X3_hasBit : MOK M_X3_hasBit := ⟨plainFor_of_name pln_RX3, uw (i := 553) rfl rfl, inz_RX3, nmh_RX3, by decide +kernel⟩
set_option maxRecDepth 20000 in
theorem ok_X1_hasYesOf : MOK M_X1_hasYesOf := ⟨plainFor_of_name pln_RX1, uw (i := 683) rfl rfl, inz_RX1, nmh_RX1, by decide +kernel⟩
set_option maxRecDepth 20000 in
theorem ok_X1_forgetVotes : MOK M_X1_forgetVotes := ⟨plainFor_of_name pln_RX1, uw (i := 692) rfl rfl, inz_RX1, nmh_RX1, by decide +kernel⟩
set_option maxRecDepth 20000 in
theorem ok_X2_init : MOK M_X2_init := ⟨plainFor_of_name pln_RX2, uw (i := 705) rfl rfl, inz_RX2, nmh_RX2, by decide +kernel⟩
set_option maxRecDepth 20000 in
theorem ok_Jxa1e45_init_da8c8 : MOK M_Jxa1e45_init_da8c8 := ⟨plainFor_of_name pln_RJxa1e45, uw (i := 91) rfl rfl, inz_RJxa1e45, nmh_RJxa1e45, by decide +kernel⟩
set_option maxRecDepth 20000 in
theorem ok_Jxc12de_init_da8c8 : MOK M_Jxc12de_init_da8c8 := ⟨plainFor_of_name pln_RJxc12de, uw (i := 88) rfl rfl, inz_RJxc12de, nmh_RJxc12de, by decide +kernel⟩
set_option maxRecDepth 20000 in
theorem ok_Jx4a65c_init_da8c8 : MOK M_Jx4a65c_init_da8c8 := ⟨plainFor_of_name pln_RJx4a65c, uw (i := 85) rfl rfl, inz_RJx4a65c, nmh_RJx4a65c, by decide +kernel⟩
set_option maxRecDepth 20000 in
theorem ok_X3_init : MOK M_X3_init := ⟨plainFor_of_name pln_RX3, uw (i := 77) rfl rfl, inz_RX3, nmh_RX3, by decide +kernel⟩
set_option maxRecDepth 20000 in
theorem ok_X3_needRange : MOK M_X3_needRange := ⟨plainFor_of_name pln_RX3, uw (i := 200) rfl rfl, inz_RX3, nmh_RX3, by decide +kernel⟩
set_option maxRecDepth 20000 in
theorem ok_Jx4a65c_size_8abf5 : MOK M_Jx4a65c_size_8abf5 := ⟨plainFor_of_name pln_RJx4a65c, uw (i := 162) rfl rfl, inz_RJx4a65c, nmh_RJx4a65c, by decide +kernel⟩
set_option maxRecDepth 20000 in
theorem ok_X3_needRoom : MOK M_X3_needRoom := ⟨plainFor_of_name pln_RX3, uw (i := 273) rfl rfl, inz_RX3, nmh_RX3, by decide +kernel⟩
set_option maxRecDepth 20000 in
theorem ok_J9_max_7cf53 : MOK M_J9_max_7cf53 := ⟨by decide +kernel, uw (i := 391) rfl rfl, inz_RJ9, nmh_RJ9, by decide +kernel⟩
set_option maxRecDepth 20000 in
theorem ok_J8_hugeLength_7cf53 : MOK M_J8_hugeLength_7cf53 := ⟨plainFor_of_name pln_RJ8, uw (i := 395) rfl rfl, inz_RJ8, nmh_RJ8, by decide +kernel⟩
set_option maxRecDepth 20000 in
theorem ok_J8_newLength_cabcc : MOK M_J8_newLength_cabcc := ⟨plainFor_of_name pln_RJ8, uw (i := 388) rfl rfl, inz_RJ8, nmh_RJ8, by decide +kernel⟩
set_option maxRecDepth 20000 in
theorem ok_J9_min_7cf53 : MOK M_J9_min_7cf53 := ⟨by decide +kernel, uw (i := 420) rfl rfl, inz_RJ9, nmh_RJ9, by decide +kernel⟩
set_option maxRecDepth 20000 in
theorem ok_J7_copyOf_6403c : MOK M_J7_copyOf_6403c := ⟨plainFor_of_name pln_RJ7, uw (i := 414) rfl rfl, inz_RJ7, nmh_RJ7, by decide +kernel⟩
set_option maxRecDepth 20000 in
theorem ok_J7_copyOf_1904c : MOK M_J7_copyOf_1904c := ⟨plainFor_of_name pln_RJ7, uw (i := 398) rfl rfl, inz_RJ7, nmh_RJ7, by decide +kernel⟩
set_option maxRecDepth 20000 in
theorem ok_Jx4a65c_grow_92f84 : MOK M_Jx4a65c_grow_92f84 := ⟨plainFor_of_name pln_RJx4a65c, uw (i := 385) rfl rfl, inz_RJx4a65c, nmh_RJx4a65c, by decide +kernel⟩
set_option maxRecDepth 20000 in
theorem ok_Jx4a65c_grow_d5877 : MOK M_Jx4a65c_grow_d5877 := ⟨plainFor_of_name pln_RJx4a65c, uw (i := 381) rfl rfl, inz_RJx4a65c, nmh_RJx4a65c, by decide +kernel⟩
set_option maxRecDepth 20000 in
theorem ok_Jx4a65c_add_72be8 : MOK M_Jx4a65c_add_72be8 := ⟨plainFor_of_name pln_RJx4a65c, uw (i := 377) rfl rfl, inz_RJx4a65c, nmh_RJx4a65c, by decide +kernel⟩
set_option maxRecDepth 20000 in
theorem ok_Jx4a65c_add_9ea2d : MOK M_Jx4a65c_add_9ea2d := ⟨plainFor_of_name pln_RJx4a65c, uw (i := 373) rfl rfl, inz_RJx4a65c, nmh_RJx4a65c, by decide +kernel⟩
set_option maxRecDepth 20000 in
theorem ok_X3_claim : MOK M_X3_claim := ⟨plainFor_of_name pln_RX3, uw (i := 197) rfl rfl, inz_RX3, nmh_RX3, by decide +kernel⟩
set_option maxRecDepth 20000 in
theorem ok_J3_checkIndex_8e157 : MOK M_J3_checkIndex_8e157 := ⟨plainFor_of_name pln_RJ3, uw (i := 172) rfl rfl, inz_RJ3, nmh_RJ3, by decide +kernel⟩
set_option maxRecDepth 20000 in
theorem ok_J15_checkIndex_7cf53 : MOK M_J15_checkIndex_7cf53 := ⟨plainFor_of_name pln_RJ15, uw (i := 169) rfl rfl, inz_RJ15, nmh_RJ15, by decide +kernel⟩
set_option maxRecDepth 20000 in
theorem ok_Jx4a65c_elementData_915e3 : MOK M_Jx4a65c_elementData_915e3 := ⟨plainFor_of_name pln_RJx4a65c, uw (i := 176) rfl rfl, inz_RJx4a65c, nmh_RJx4a65c, by decide +kernel⟩
set_option maxRecDepth 20000 in
theorem ok_Jx4a65c_get_915e3 : MOK M_Jx4a65c_get_915e3 := ⟨plainFor_of_name pln_RJx4a65c, uw (i := 166) rfl rfl, inz_RJx4a65c, nmh_RJx4a65c, by decide +kernel⟩
set_option maxRecDepth 20000 in
theorem ok_X3_claimAt : MOK M_X3_claimAt := ⟨plainFor_of_name pln_RX3, uw (i := 437) rfl rfl, inz_RX3, nmh_RX3, by decide +kernel⟩
set_option maxRecDepth 20000 in
theorem ok_X3_pledge : MOK M_X3_pledge := ⟨plainFor_of_name pln_RX3, uw (i := 433) rfl rfl, inz_RX3, nmh_RX3, by decide +kernel⟩
set_option maxRecDepth 20000 in
theorem ok_X3_debt : MOK M_X3_debt := ⟨plainFor_of_name pln_RX3, uw (i := 470) rfl rfl, inz_RX3, nmh_RX3, by decide +kernel⟩
set_option maxRecDepth 20000 in
theorem ok_X3_reveal : MOK M_X3_reveal := ⟨plainFor_of_name pln_RX3, uw (i := 465) rfl rfl, inz_RX3, nmh_RX3, by decide +kernel⟩
set_option maxRecDepth 20000 in
theorem ok_X3_economy : MOK M_X3_economy := ⟨plainFor_of_name pln_RX3, uw (i := 485) rfl rfl, inz_RX3, nmh_RX3, by decide +kernel⟩
set_option maxRecDepth 20000 in
theorem ok_X3_needKind : MOK M_X3_needKind := ⟨plainFor_of_name pln_RX3, uw (i := 496) rfl rfl, inz_RX3, nmh_RX3, by decide +kernel⟩
set_option maxRecDepth 20000 in
theorem ok_X3_withBit : MOK M_X3_withBit := ⟨plainFor_of_name pln_RX3, uw (i := 500) rfl rfl, inz_RX3, nmh_RX3, by decide +kernel⟩
set_option maxRecDepth 20000 in
theorem ok_X3_moratorium : MOK M_X3_moratorium := ⟨plainFor_of_name pln_RX3, uw (i := 493) rfl rfl, inz_RX3, nmh_RX3, by decide +kernel⟩
set_option maxRecDepth 20000 in
theorem ok_X3_broughtBy : MOK M_X3_broughtBy := ⟨plainFor_of_name pln_RX3, uw (i := 516) rfl rfl, inz_RX3, nmh_RX3, by decide +kernel⟩
set_option maxRecDepth 20000 in
theorem ok_X3_grown : MOK M_X3_grown := ⟨plainFor_of_name pln_RX3, uw (i := 521) rfl rfl, inz_RX3, nmh_RX3, by decide +kernel⟩
set_option maxRecDepth 20000 in
theorem ok_X3_judgeSuits : MOK M_X3_judgeSuits := ⟨plainFor_of_name pln_RX3, uw (i := 525) rfl rfl, inz_RX3, nmh_RX3, by decide +kernel⟩
set_option maxRecDepth 20000 in
theorem ok_X3_payArrears : MOK M_X3_payArrears := ⟨plainFor_of_name pln_RX3, uw (i := 547) rfl rfl, inz_RX3, nmh_RX3, by decide +kernel⟩
set_option maxRecDepth 20000 in
theorem ok_X3_close : MOK M_X3_close := ⟨plainFor_of_name pln_RX3, uw (i := 562) rfl rfl, inz_RX3, nmh_RX3, by decide +kernel⟩
set_option maxRecDepth 20000 in
theorem ok_X3_serve : MOK M_X3_serve := ⟨plainFor_of_name pln_RX3, uw (i := 533) rfl rfl, inz_RX3, nmh_RX3, by decide +kernel⟩
set_option maxRecDepth 20000 in
theorem ok_X3_serveRank : MOK M_X3_serveRank := ⟨plainFor_of_name pln_RX3, uw (i := 529) rfl rfl, inz_RX3, nmh_RX3, by decide +kernel⟩
set_option maxRecDepth 20000 in
theorem ok_X3_passYear : MOK M_X3_passYear := ⟨plainFor_of_name pln_RX3, uw (i := 512) rfl rfl, inz_RX3, nmh_RX3, by decide +kernel⟩
set_option maxRecDepth 20000 in
theorem ok_X3_year : MOK M_X3_year := ⟨plainFor_of_name pln_RX3, uw (i := 507) rfl rfl, inz_RX3, nmh_RX3, by decide +kernel⟩
set_option maxRecDepth 20000 in
theorem ok_X3_discount : MOK M_X3_discount := ⟨plainFor_of_name pln_RX3, uw (i := 569) rfl rfl, inz_RX3, nmh_RX3, by decide +kernel⟩
set_option maxRecDepth 20000 in
theorem ok_X3_offer : MOK M_X3_offer := ⟨plainFor_of_name pln_RX3, uw (i := 576) rfl rfl, inz_RX3, nmh_RX3, by decide +kernel⟩
set_option maxRecDepth 20000 in
theorem ok_X3_offerAt : MOK M_X3_offerAt := ⟨plainFor_of_name pln_RX3, uw (i := 609) rfl rfl, inz_RX3, nmh_RX3, by decide +kernel⟩
set_option maxRecDepth 20000 in
theorem ok_X3_swap : MOK M_X3_swap := ⟨plainFor_of_name pln_RX3, uw (i := 615) rfl rfl, inz_RX3, nmh_RX3, by decide +kernel⟩
set_option maxRecDepth 20000 in
theorem ok_X3_accept : MOK M_X3_accept := ⟨plainFor_of_name pln_RX3, uw (i := 605) rfl rfl, inz_RX3, nmh_RX3, by decide +kernel⟩
set_option maxRecDepth 20000 in
theorem ok_X3_vote : MOK M_X3_vote := ⟨plainFor_of_name pln_RX3, uw (i := 638) rfl rfl, inz_RX3, nmh_RX3, by decide +kernel⟩
set_option maxRecDepth 20000 in
theorem ok_X3_votingWeight : MOK M_X3_votingWeight := ⟨plainFor_of_name pln_RX3, uw (i := 675) rfl rfl, inz_RX3, nmh_RX3, by decide +kernel⟩
set_option maxRecDepth 20000 in
theorem ok_X3_bondsOwed : MOK M_X3_bondsOwed := ⟨plainFor_of_name pln_RX3, uw (i := 672) rfl rfl, inz_RX3, nmh_RX3, by decide +kernel⟩
set_option maxRecDepth 20000 in
theorem ok_X3_bondsOwedWithYes : MOK M_X3_bondsOwedWithYes := ⟨plainFor_of_name pln_RX3, uw (i := 679) rfl rfl, inz_RX3, nmh_RX3, by decide +kernel⟩
set_option maxRecDepth 20000 in
theorem ok_X3_hasMajority : MOK M_X3_hasMajority := ⟨plainFor_of_name pln_RX3, uw (i := 668) rfl rfl, inz_RX3, nmh_RX3, by decide +kernel⟩
set_option maxRecDepth 20000 in
theorem ok_X3_arePooled : MOK M_X3_arePooled := ⟨plainFor_of_name pln_RX3, uw (i := 664) rfl rfl, inz_RX3, nmh_RX3, by decide +kernel⟩
set_option maxRecDepth 20000 in
theorem ok_X3_seriesToSwap : MOK M_X3_seriesToSwap := ⟨plainFor_of_name pln_RX3, uw (i := 660) rfl rfl, inz_RX3, nmh_RX3, by decide +kernel⟩
set_option maxRecDepth 20000 in
theorem ok_X3_isInSeries : MOK M_X3_isInSeries := ⟨plainFor_of_name pln_RX3, uw (i := 688) rfl rfl, inz_RX3, nmh_RX3, by decide +kernel⟩
set_option maxRecDepth 20000 in
theorem ok_X3_settle : MOK M_X3_settle := ⟨plainFor_of_name pln_RX3, uw (i := 656) rfl rfl, inz_RX3, nmh_RX3, by decide +kernel⟩
set_option maxRecDepth 20000 in
theorem ok_X3_thing : MOK M_X3_thing := ⟨plainFor_of_name pln_RX3, uw (i := 699) rfl rfl, inz_RX3, nmh_RX3, by decide +kernel⟩
set_option maxRecDepth 20000 in
theorem ok_X3_sue : MOK M_X3_sue := ⟨plainFor_of_name pln_RX3, uw (i := 722) rfl rfl, inz_RX3, nmh_RX3, by decide +kernel⟩
set_option maxRecDepth 20000 in
theorem ok_X3_thingAt : MOK M_X3_thingAt := ⟨plainFor_of_name pln_RX3, uw (i := 734) rfl rfl, inz_RX3, nmh_RX3, by decide +kernel⟩
set_option maxRecDepth 20000 in
theorem ok_X3_seize : MOK M_X3_seize := ⟨plainFor_of_name pln_RX3, uw (i := 730) rfl rfl, inz_RX3, nmh_RX3, by decide +kernel⟩
set_option maxRecDepth 20000 in
theorem ok_X3_programme : MOK M_X3_programme := ⟨plainFor_of_name pln_RX3, uw (i := 743) rfl rfl, inz_RX3, nmh_RX3, by decide +kernel⟩
set_option maxRecDepth 20000 in
theorem ok_X3_assure : MOK M_X3_assure := ⟨plainFor_of_name pln_RX3, uw (i := 750) rfl rfl, inz_RX3, nmh_RX3, by decide +kernel⟩
set_option maxRecDepth 20000 in
theorem ok_X3_hasFundArrears : MOK M_X3_hasFundArrears := ⟨plainFor_of_name pln_RX3, uw (i := 767) rfl rfl, inz_RX3, nmh_RX3, by decide +kernel⟩
set_option maxRecDepth 20000 in
theorem ok_X3_owedToOfficials : MOK M_X3_owedToOfficials := ⟨plainFor_of_name pln_RX3, uw (i := 771) rfl rfl, inz_RX3, nmh_RX3, by decide +kernel⟩
set_option maxRecDepth 20000 in
theorem ok_X3_reasonToFail : MOK M_X3_reasonToFail := ⟨plainFor_of_name pln_RX3, uw (i := 763) rfl rfl, inz_RX3, nmh_RX3, by decide +kernel⟩
set_option maxRecDepth 20000 in
theorem ok_X3_payTranche : MOK M_X3_payTranche := ⟨plainFor_of_name pln_RX3, uw (i := 780) rfl rfl, inz_RX3, nmh_RX3, by decide +kernel⟩
set_option maxRecDepth 20000 in
theorem ok_X3_review : MOK M_X3_review := ⟨plainFor_of_name pln_RX3, uw (i := 758) rfl rfl, inz_RX3, nmh_RX3, by decide +kernel⟩
set_option maxRecDepth 20000 in
theorem ok_X3_value : MOK M_X3_value := ⟨plainFor_of_name pln_RX3, uw (i := 787) rfl rfl, inz_RX3, nmh_RX3, by decide +kernel⟩
set_option maxRecDepth 20000 in
theorem ok_X3_offered : MOK M_X3_offered := ⟨plainFor_of_name pln_RX3, uw (i := 794) rfl rfl, inz_RX3, nmh_RX3, by decide +kernel⟩
set_option maxRecDepth 20000 in
theorem ok_X3_effortOf : MOK M_X3_effortOf := ⟨plainFor_of_name pln_RX3, uw (i := 181) rfl rfl, inz_RX3, nmh_RX3, by decide +kernel⟩
set_option maxRecDepth 20000 in
theorem ok_X3_effort : MOK M_X3_effort := ⟨plainFor_of_name pln_RX3, uw (i := 802) rfl rfl, inz_RX3, nmh_RX3, by decide +kernel⟩
set_option maxRecDepth 20000 in
theorem ok_X3_wasSwapped : MOK M_X3_wasSwapped := ⟨plainFor_of_name pln_RX3, uw (i := 158) rfl rfl, inz_RX3, nmh_RX3, by decide +kernel⟩
set_option maxRecDepth 20000 in
theorem ok_X3_areAlike : MOK M_X3_areAlike := ⟨plainFor_of_name pln_RX3, uw (i := 154) rfl rfl, inz_RX3, nmh_RX3, by decide +kernel⟩
set_option maxRecDepth 20000 in
theorem ok_X3_passes : MOK M_X3_passes := ⟨plainFor_of_name pln_RX3, uw (i := 809) rfl rfl, inz_RX3, nmh_RX3, by decide +kernel⟩
set_option maxRecDepth 20000 in
theorem ok_J9_max_f86c9 : MOK M_J9_max_f86c9 := ⟨by decide +kernel, uw (i := 820) rfl rfl, inz_RJ9, nmh_RJ9, by decide +kernel⟩
set_option maxRecDepth 20000 in
theorem ok_X3_burden : MOK M_X3_burden := ⟨plainFor_of_name pln_RX3, uw (i := 824) rfl rfl, inz_RX3, nmh_RX3, by decide +kernel⟩
set_option maxRecDepth 20000 in
theorem ok_X3_isBearable : MOK M_X3_isBearable := ⟨plainFor_of_name pln_RX3, uw (i := 817) rfl rfl, inz_RX3, nmh_RX3, by decide +kernel⟩
set_option maxRecDepth 20000 in
theorem ok_X3_ofClaim : MOK M_X3_ofClaim := ⟨plainFor_of_name pln_RX3, uw (i := 831) rfl rfl, inz_RX3, nmh_RX3, by decide +kernel⟩
set_option maxRecDepth 20000 in
theorem ok_X3_paidAnew : MOK M_X3_paidAnew := ⟨plainFor_of_name pln_RX3, uw (i := 839) rfl rfl, inz_RX3, nmh_RX3, by decide +kernel⟩
set_option maxRecDepth 20000 in
theorem ok_X3_ofState : MOK M_X3_ofState := ⟨plainFor_of_name pln_RX3, uw (i := 850) rfl rfl, inz_RX3, nmh_RX3, by decide +kernel⟩
set_option maxRecDepth 20000 in
theorem ok_X4_init : MOK M_X4_init := ⟨plainFor_of_name pln_RX4, uw (i := 856) rfl rfl, inz_RX4, nmh_RX4, by decide +kernel⟩
set_option maxRecDepth 20000 in
theorem ok_X4_thrown : MOK M_X4_thrown := ⟨plainFor_of_name pln_RX4, uw (i := 979) rfl rfl, inz_RX4, nmh_RX4, by decide +kernel⟩
set_option maxRecDepth 20000 in
theorem ok_X4_holds : MOK M_X4_holds := ⟨plainFor_of_name pln_RX4, uw (i := 994) rfl rfl, inz_RX4, nmh_RX4, by decide +kernel⟩
set_option maxRecDepth 20000 in
theorem ok_X4_isIn : MOK M_X4_isIn := ⟨plainFor_of_name pln_RX4, uw (i := 989) rfl rfl, inz_RX4, nmh_RX4, by decide +kernel⟩
set_option maxRecDepth 20000 in
theorem ok_X4_isClaim : MOK M_X4_isClaim := ⟨plainFor_of_name pln_RX4, uw (i := 1006) rfl rfl, inz_RX4, nmh_RX4, by decide +kernel⟩
set_option maxRecDepth 20000 in
theorem ok_X4_isOffer : MOK M_X4_isOffer := ⟨plainFor_of_name pln_RX4, uw (i := 1069) rfl rfl, inz_RX4, nmh_RX4, by decide +kernel⟩
set_option maxRecDepth 20000 in
theorem ok_X4_isKind : MOK M_X4_isKind := ⟨plainFor_of_name pln_RX4, uw (i := 986) rfl rfl, inz_RX4, nmh_RX4, by decide +kernel⟩
set_option maxRecDepth 20000 in
theorem ok_X4_down : MOK M_X4_down := ⟨plainFor_of_name pln_RX4, uw (i := 1039) rfl rfl, inz_RX4, nmh_RX4, by decide +kernel⟩
set_option maxRecDepth 20000 in
theorem ok_X4_adds : MOK M_X4_adds := ⟨plainFor_of_name pln_RX4, uw (i := 998) rfl rfl, inz_RX4, nmh_RX4, by decide +kernel⟩
set_option maxRecDepth 20000 in
theorem ok_X4_claim : MOK M_X4_claim := ⟨plainFor_of_name pln_RX4, uw (i := 983) rfl rfl, inz_RX4, nmh_RX4, by decide +kernel⟩
set_option maxRecDepth 20000 in
theorem ok_X4_pledge : MOK M_X4_pledge := ⟨plainFor_of_name pln_RX4, uw (i := 1002) rfl rfl, inz_RX4, nmh_RX4, by decide +kernel⟩
set_option maxRecDepth 20000 in
theorem ok_X4_owed : MOK M_X4_owed := ⟨plainFor_of_name pln_RX4, uw (i := 1018) rfl rfl, inz_RX4, nmh_RX4, by decide +kernel⟩
set_option maxRecDepth 20000 in
theorem ok_X4_debt : MOK M_X4_debt := ⟨plainFor_of_name pln_RX4, uw (i := 1014) rfl rfl, inz_RX4, nmh_RX4, by decide +kernel⟩
set_option maxRecDepth 20000 in
theorem ok_X4_reveal : MOK M_X4_reveal := ⟨plainFor_of_name pln_RX4, uw (i := 1010) rfl rfl, inz_RX4, nmh_RX4, by decide +kernel⟩
set_option maxRecDepth 20000 in
theorem ok_X4_economy : MOK M_X4_economy := ⟨plainFor_of_name pln_RX4, uw (i := 1022) rfl rfl, inz_RX4, nmh_RX4, by decide +kernel⟩
set_option maxRecDepth 20000 in
theorem ok_X4_moratorium : MOK M_X4_moratorium := ⟨plainFor_of_name pln_RX4, uw (i := 1027) rfl rfl, inz_RX4, nmh_RX4, by decide +kernel⟩
set_option maxRecDepth 20000 in
theorem ok_X4_ends : MOK M_X4_ends := ⟨plainFor_of_name pln_RX4, uw (i := 1053) rfl rfl, inz_RX4, nmh_RX4, by decide +kernel⟩
set_option maxRecDepth 20000 in
theorem ok_X4_flow : MOK M_X4_flow := ⟨plainFor_of_name pln_RX4, uw (i := 1049) rfl rfl, inz_RX4, nmh_RX4, by decide +kernel⟩
set_option maxRecDepth 20000 in
theorem ok_X4_looksAt : MOK M_X4_looksAt := ⟨plainFor_of_name pln_RX4, uw (i := 1044) rfl rfl, inz_RX4, nmh_RX4, by decide +kernel⟩
set_option maxRecDepth 20000 in
theorem ok_X4_goesBy : MOK M_X4_goesBy := ⟨plainFor_of_name pln_RX4, uw (i := 1035) rfl rfl, inz_RX4, nmh_RX4, by decide +kernel⟩
set_option maxRecDepth 20000 in
theorem ok_X4_year : MOK M_X4_year := ⟨plainFor_of_name pln_RX4, uw (i := 1031) rfl rfl, inz_RX4, nmh_RX4, by decide +kernel⟩
set_option maxRecDepth 20000 in
theorem ok_X4_valueBy : MOK M_X4_valueBy := ⟨plainFor_of_name pln_RX4, uw (i := 1081) rfl rfl, inz_RX4, nmh_RX4, by decide +kernel⟩
set_option maxRecDepth 20000 in
theorem ok_X4_valueOf : MOK M_X4_valueOf := ⟨plainFor_of_name pln_RX4, uw (i := 1077) rfl rfl, inz_RX4, nmh_RX4, by decide +kernel⟩
set_option maxRecDepth 20000 in
theorem ok_X4_cutOf : MOK M_X4_cutOf := ⟨plainFor_of_name pln_RX4, uw (i := 1085) rfl rfl, inz_RX4, nmh_RX4, by decide +kernel⟩
set_option maxRecDepth 20000 in
theorem ok_X4_discount : MOK M_X4_discount := ⟨plainFor_of_name pln_RX4, uw (i := 1057) rfl rfl, inz_RX4, nmh_RX4, by decide +kernel⟩
set_option maxRecDepth 20000 in
theorem ok_X4_offer : MOK M_X4_offer := ⟨plainFor_of_name pln_RX4, uw (i := 1061) rfl rfl, inz_RX4, nmh_RX4, by decide +kernel⟩
set_option maxRecDepth 20000 in
theorem ok_X4_swaps : MOK M_X4_swaps := ⟨plainFor_of_name pln_RX4, uw (i := 1073) rfl rfl, inz_RX4, nmh_RX4, by decide +kernel⟩
set_option maxRecDepth 20000 in
theorem ok_X4_accept : MOK M_X4_accept := ⟨plainFor_of_name pln_RX4, uw (i := 1065) rfl rfl, inz_RX4, nmh_RX4, by decide +kernel⟩
set_option maxRecDepth 20000 in
theorem ok_X4_isVoter : MOK M_X4_isVoter := ⟨plainFor_of_name pln_RX4, uw (i := 1094) rfl rfl, inz_RX4, nmh_RX4, by decide +kernel⟩
set_option maxRecDepth 20000 in
theorem ok_X4_vote : MOK M_X4_vote := ⟨plainFor_of_name pln_RX4, uw (i := 1090) rfl rfl, inz_RX4, nmh_RX4, by decide +kernel⟩
set_option maxRecDepth 20000 in
theorem ok_X4_votes : MOK M_X4_votes := ⟨plainFor_of_name pln_RX4, uw (i := 1114) rfl rfl, inz_RX4, nmh_RX4, by decide +kernel⟩
set_option maxRecDepth 20000 in
theorem ok_X4_isPart : MOK M_X4_isPart := ⟨plainFor_of_name pln_RX4, uw (i := 1110) rfl rfl, inz_RX4, nmh_RX4, by decide +kernel⟩
set_option maxRecDepth 20000 in
theorem ok_X4_arePooled : MOK M_X4_arePooled := ⟨plainFor_of_name pln_RX4, uw (i := 1106) rfl rfl, inz_RX4, nmh_RX4, by decide +kernel⟩
set_option maxRecDepth 20000 in
theorem ok_X4_isPassed : MOK M_X4_isPassed := ⟨plainFor_of_name pln_RX4, uw (i := 1118) rfl rfl, inz_RX4, nmh_RX4, by decide +kernel⟩
set_option maxRecDepth 20000 in
theorem ok_X4_passed : MOK M_X4_passed := ⟨plainFor_of_name pln_RX4, uw (i := 1102) rfl rfl, inz_RX4, nmh_RX4, by decide +kernel⟩
set_option maxRecDepth 20000 in
theorem ok_X4_goes : MOK M_X4_goes := ⟨plainFor_of_name pln_RX4, uw (i := 1122) rfl rfl, inz_RX4, nmh_RX4, by decide +kernel⟩
set_option maxRecDepth 20000 in
theorem ok_X4_settle : MOK M_X4_settle := ⟨plainFor_of_name pln_RX4, uw (i := 1098) rfl rfl, inz_RX4, nmh_RX4, by decide +kernel⟩
set_option maxRecDepth 20000 in
theorem ok_X4_thing : MOK M_X4_thing := ⟨plainFor_of_name pln_RX4, uw (i := 1126) rfl rfl, inz_RX4, nmh_RX4, by decide +kernel⟩
set_option maxRecDepth 20000 in
theorem ok_X4_sue : MOK M_X4_sue := ⟨plainFor_of_name pln_RX4, uw (i := 1130) rfl rfl, inz_RX4, nmh_RX4, by decide +kernel⟩
set_option maxRecDepth 20000 in
theorem ok_X4_seize : MOK M_X4_seize := ⟨plainFor_of_name pln_RX4, uw (i := 1134) rfl rfl, inz_RX4, nmh_RX4, by decide +kernel⟩
set_option maxRecDepth 20000 in
theorem ok_X4_programme : MOK M_X4_programme := ⟨plainFor_of_name pln_RX4, uw (i := 1138) rfl rfl, inz_RX4, nmh_RX4, by decide +kernel⟩
set_option maxRecDepth 20000 in
theorem ok_X4_assure : MOK M_X4_assure := ⟨plainFor_of_name pln_RX4, uw (i := 1142) rfl rfl, inz_RX4, nmh_RX4, by decide +kernel⟩
set_option maxRecDepth 20000 in
theorem ok_X4_failing : MOK M_X4_failing := ⟨plainFor_of_name pln_RX4, uw (i := 1150) rfl rfl, inz_RX4, nmh_RX4, by decide +kernel⟩
set_option maxRecDepth 20000 in
theorem ok_X4_review : MOK M_X4_review := ⟨plainFor_of_name pln_RX4, uw (i := 1146) rfl rfl, inz_RX4, nmh_RX4, by decide +kernel⟩
set_option maxRecDepth 20000 in
theorem ok_X4_value : MOK M_X4_value := ⟨plainFor_of_name pln_RX4, uw (i := 1155) rfl rfl, inz_RX4, nmh_RX4, by decide +kernel⟩
set_option maxRecDepth 20000 in
theorem ok_X4_offered : MOK M_X4_offered := ⟨plainFor_of_name pln_RX4, uw (i := 1159) rfl rfl, inz_RX4, nmh_RX4, by decide +kernel⟩
set_option maxRecDepth 20000 in
theorem ok_X4_effortOf : MOK M_X4_effortOf := ⟨plainFor_of_name pln_RX4, uw (i := 1167) rfl rfl, inz_RX4, nmh_RX4, by decide +kernel⟩
set_option maxRecDepth 20000 in
theorem ok_X4_effort : MOK M_X4_effort := ⟨plainFor_of_name pln_RX4, uw (i := 1163) rfl rfl, inz_RX4, nmh_RX4, by decide +kernel⟩
set_option maxRecDepth 20000 in
theorem ok_X4_areAlike : MOK M_X4_areAlike := ⟨plainFor_of_name pln_RX4, uw (i := 1171) rfl rfl, inz_RX4, nmh_RX4, by decide +kernel⟩
set_option maxRecDepth 20000 in
theorem ok_X4_passes : MOK M_X4_passes := ⟨plainFor_of_name pln_RX4, uw (i := 1175) rfl rfl, inz_RX4, nmh_RX4, by decide +kernel⟩
set_option maxRecDepth 20000 in
theorem ok_X4_isBearable : MOK M_X4_isBearable := ⟨plainFor_of_name pln_RX4, uw (i := 1179) rfl rfl, inz_RX4, nmh_RX4, by decide +kernel⟩
set_option maxRecDepth 20000 in
theorem ok_X4_ofClaim : MOK M_X4_ofClaim := ⟨plainFor_of_name pln_RX4, uw (i := 1184) rfl rfl, inz_RX4, nmh_RX4, by decide +kernel⟩
set_option maxRecDepth 20000 in
theorem ok_X4_paidAnew : MOK M_X4_paidAnew := ⟨plainFor_of_name pln_RX4, uw (i := 1188) rfl rfl, inz_RX4, nmh_RX4, by decide +kernel⟩
set_option maxRecDepth 20000 in
theorem ok_X4_ofState : MOK M_X4_ofState := ⟨plainFor_of_name pln_RX4, uw (i := 1192) rfl rfl, inz_RX4, nmh_RX4, by decide +kernel⟩
set_option maxRecDepth 20000 in
theorem ok_L_claim : MOK M_L_claim := ⟨plainFor_of_name pln_RL, uw (i := 191) rfl rfl, inz_RL, nmh_RL, by decide +kernel⟩
set_option maxRecDepth 20000 in
theorem ok_L_pledge : MOK M_L_pledge := ⟨plainFor_of_name pln_RL, uw (i := 428) rfl rfl, inz_RL, nmh_RL, by decide +kernel⟩
set_option maxRecDepth 20000 in
theorem ok_L_reveal : MOK M_L_reveal := ⟨plainFor_of_name pln_RL, uw (i := 461) rfl rfl, inz_RL, nmh_RL, by decide +kernel⟩
set_option maxRecDepth 20000 in
theorem ok_L_economy : MOK M_L_economy := ⟨plainFor_of_name pln_RL, uw (i := 481) rfl rfl, inz_RL, nmh_RL, by decide +kernel⟩
set_option maxRecDepth 20000 in
theorem ok_L_moratorium : MOK M_L_moratorium := ⟨plainFor_of_name pln_RL, uw (i := 489) rfl rfl, inz_RL, nmh_RL, by decide +kernel⟩
set_option maxRecDepth 20000 in
theorem ok_L_year : MOK M_L_year := ⟨plainFor_of_name pln_RL, uw (i := 503) rfl rfl, inz_RL, nmh_RL, by decide +kernel⟩
set_option maxRecDepth 20000 in
theorem ok_L_discount : MOK M_L_discount := ⟨plainFor_of_name pln_RL, uw (i := 565) rfl rfl, inz_RL, nmh_RL, by decide +kernel⟩
set_option maxRecDepth 20000 in
theorem ok_L_offer : MOK M_L_offer := ⟨plainFor_of_name pln_RL, uw (i := 572) rfl rfl, inz_RL, nmh_RL, by decide +kernel⟩
set_option maxRecDepth 20000 in
theorem ok_L_accept : MOK M_L_accept := ⟨plainFor_of_name pln_RL, uw (i := 601) rfl rfl, inz_RL, nmh_RL, by decide +kernel⟩
set_option maxRecDepth 20000 in
theorem ok_L_vote : MOK M_L_vote := ⟨plainFor_of_name pln_RL, uw (i := 634) rfl rfl, inz_RL, nmh_RL, by decide +kernel⟩
set_option maxRecDepth 20000 in
theorem ok_L_settle : MOK M_L_settle := ⟨plainFor_of_name pln_RL, uw (i := 652) rfl rfl, inz_RL, nmh_RL, by decide +kernel⟩
set_option maxRecDepth 20000 in
theorem ok_L_thing : MOK M_L_thing := ⟨plainFor_of_name pln_RL, uw (i := 695) rfl rfl, inz_RL, nmh_RL, by decide +kernel⟩
set_option maxRecDepth 20000 in
theorem ok_L_sue : MOK M_L_sue := ⟨plainFor_of_name pln_RL, uw (i := 718) rfl rfl, inz_RL, nmh_RL, by decide +kernel⟩
set_option maxRecDepth 20000 in
theorem ok_L_seize : MOK M_L_seize := ⟨plainFor_of_name pln_RL, uw (i := 726) rfl rfl, inz_RL, nmh_RL, by decide +kernel⟩
set_option maxRecDepth 20000 in
theorem ok_L_programme : MOK M_L_programme := ⟨plainFor_of_name pln_RL, uw (i := 739) rfl rfl, inz_RL, nmh_RL, by decide +kernel⟩
set_option maxRecDepth 20000 in
theorem ok_L_assure : MOK M_L_assure := ⟨plainFor_of_name pln_RL, uw (i := 746) rfl rfl, inz_RL, nmh_RL, by decide +kernel⟩
set_option maxRecDepth 20000 in
theorem ok_L_review : MOK M_L_review := ⟨plainFor_of_name pln_RL, uw (i := 754) rfl rfl, inz_RL, nmh_RL, by decide +kernel⟩
set_option maxRecDepth 20000 in
theorem ok_L_value : MOK M_L_value := ⟨plainFor_of_name pln_RL, uw (i := 783) rfl rfl, inz_RL, nmh_RL, by decide +kernel⟩
set_option maxRecDepth 20000 in
theorem ok_L_offered : MOK M_L_offered := ⟨plainFor_of_name pln_RL, uw (i := 790) rfl rfl, inz_RL, nmh_RL, by decide +kernel⟩
set_option maxRecDepth 20000 in
theorem ok_L_effort : MOK M_L_effort := ⟨plainFor_of_name pln_RL, uw (i := 798) rfl rfl, inz_RL, nmh_RL, by decide +kernel⟩
set_option maxRecDepth 20000 in
theorem ok_L_passes : MOK M_L_passes := ⟨plainFor_of_name pln_RL, uw (i := 805) rfl rfl, inz_RL, nmh_RL, by decide +kernel⟩
set_option maxRecDepth 20000 in
theorem ok_L_isBearable : MOK M_L_isBearable := ⟨plainFor_of_name pln_RL, uw (i := 813) rfl rfl, inz_RL, nmh_RL, by decide +kernel⟩
set_option maxRecDepth 20000 in
theorem ok_L_ofClaim : MOK M_L_ofClaim := ⟨plainFor_of_name pln_RL, uw (i := 827) rfl rfl, inz_RL, nmh_RL, by decide +kernel⟩
set_option maxRecDepth 20000 in
theorem ok_L_paidAnew : MOK M_L_paidAnew := ⟨plainFor_of_name pln_RL, uw (i := 835) rfl rfl, inz_RL, nmh_RL, by decide +kernel⟩
set_option maxRecDepth 20000 in
theorem ok_L_ofState : MOK M_L_ofState := ⟨plainFor_of_name pln_RL, uw (i := 846) rfl rfl, inz_RL, nmh_RL, by decide +kernel⟩
def lkS : List (String × Nat × MT) := [("Claimclub", 385, M_J9_floorDiv_f86c9), ("Claimclub", 142, M_X3_quotient), ("Claimclub$Claim", 88, M_J9_min_f86c9), ("Claimclub", 388, M_X3_couponOf), ("jdk/internal/util/ArraysSupport", 194, M_J9_max_7cf53), ("jdk/internal/util/ArraysSupport", 201, M_J8_hugeLength_7cf53), ("java/util/Arrays", 304, M_J9_min_7cf53), ("java/util/Arrays", 300, M_J7_copyOf_6403c), ("java/util/ArrayList", 73, M_J8_newLength_cabcc), ("java/util/ArrayList", 66, M_J7_copyOf_1904c), ("java/util/ArrayList", 79, M_J9_max_7cf53), ("Claimclub", 59, M_X3_needRange), ("java/util/Objects", 105, M_J3_checkIndex_8e157), ("java/util/ArrayList", 118, M_J15_checkIndex_7cf53), ("Claimclub", 114, M_X3_needKind), ("Claimclub", 117, M_X3_withBit), ("Claimclub", 181, M_J9_min_f86c9), ("Claimclub", 189, M_X3_hasBit), ("Claimclub", 281, M_X3_votingWeight), ("Claimclub", 257, M_X3_isInSeries), ("Claimclub", 336, M_X3_discounted), ("Claimclub", 349, M_J9_max_f86c9), ("Claimclub", 354, M_X3_burden), ("ClaimclubModel", 103, M_X4_isIn), ("ClaimclubModel", 113, M_X4_isKind), ("ClaimclubModel", 160, M_X4_down)]
def okS (z : String × Nat × MT) : Prop := MOK z.2.2 ∧ mH z.2.2 = [] ∧ Cond.methodLink z.1 z.2.1 (mY z.2.2) ∈ UW ∧ Cond.static (mY z.2.2) ∈ UW
set_option maxRecDepth 20000 in
theorem zkS_0 : okS ("Claimclub", 385, M_J9_floorDiv_f86c9) := ⟨ok_J9_floorDiv_f86c9, rfl, uw (i := 186) rfl rfl, uw (i := 187) rfl rfl⟩
set_option maxRecDepth 20000 in
theorem zkS_1 : okS ("Claimclub", 142, M_X3_quotient) := ⟨ok_X3_quotient, rfl, uw (i := 183) rfl rfl, uw (i := 184) rfl rfl⟩
set_option maxRecDepth 20000 in
theorem zkS_2 : okS ("Claimclub$Claim", 88, M_J9_min_f86c9) := ⟨ok_J9_min_f86c9, rfl, uw (i := 558) rfl rfl, uw (i := 549) rfl rfl⟩
set_option maxRecDepth 20000 in
theorem zkS_3 : okS ("Claimclub", 388, M_X3_couponOf) := ⟨ok_X3_couponOf, rfl, uw (i := 631) rfl rfl, uw (i := 542) rfl rfl⟩
set_option maxRecDepth 20000 in
theorem zkS_4 : okS ("jdk/internal/util/ArraysSupport", 194, M_J9_max_7cf53) := ⟨ok_J9_max_7cf53, rfl, uw (i := 389) rfl rfl, uw (i := 390) rfl rfl⟩
set_option maxRecDepth 20000 in
theorem zkS_5 : okS ("jdk/internal/util/ArraysSupport", 201, M_J8_hugeLength_7cf53) := ⟨ok_J8_hugeLength_7cf53, rfl, uw (i := 393) rfl rfl, uw (i := 394) rfl rfl⟩
set_option maxRecDepth 20000 in
theorem zkS_6 : okS ("java/util/Arrays", 304, M_J9_min_7cf53) := ⟨ok_J9_min_7cf53, rfl, uw (i := 418) rfl rfl, uw (i := 419) rfl rfl⟩
set_option maxRecDepth 20000 in
theorem zkS_7 : okS ("java/util/Arrays", 300, M_J7_copyOf_6403c) := ⟨ok_J7_copyOf_6403c, rfl, uw (i := 412) rfl rfl, uw (i := 413) rfl rfl⟩
set_option maxRecDepth 20000 in
theorem zkS_8 : okS ("java/util/ArrayList", 73, M_J8_newLength_cabcc) := ⟨ok_J8_newLength_cabcc, rfl, uw (i := 386) rfl rfl, uw (i := 387) rfl rfl⟩
set_option maxRecDepth 20000 in
theorem zkS_9 : okS ("java/util/ArrayList", 66, M_J7_copyOf_1904c) := ⟨ok_J7_copyOf_1904c, rfl, uw (i := 396) rfl rfl, uw (i := 397) rfl rfl⟩
set_option maxRecDepth 20000 in
theorem zkS_10 : okS ("java/util/ArrayList", 79, M_J9_max_7cf53) := ⟨ok_J9_max_7cf53, rfl, uw (i := 424) rfl rfl, uw (i := 390) rfl rfl⟩
set_option maxRecDepth 20000 in
theorem zkS_11 : okS ("Claimclub", 59, M_X3_needRange) := ⟨ok_X3_needRange, rfl, uw (i := 198) rfl rfl, uw (i := 199) rfl rfl⟩
set_option maxRecDepth 20000 in
theorem zkS_12 : okS ("java/util/Objects", 105, M_J3_checkIndex_8e157) := ⟨ok_J3_checkIndex_8e157, rfl, uw (i := 170) rfl rfl, uw (i := 171) rfl rfl⟩
set_option maxRecDepth 20000 in
theorem zkS_13 : okS ("java/util/ArrayList", 118, M_J15_checkIndex_7cf53) := ⟨ok_J15_checkIndex_7cf53, rfl, uw (i := 167) rfl rfl, uw (i := 168) rfl rfl⟩
set_option maxRecDepth 20000 in
theorem zkS_14 : okS ("Claimclub", 114, M_X3_needKind) := ⟨ok_X3_needKind, rfl, uw (i := 494) rfl rfl, uw (i := 495) rfl rfl⟩
set_option maxRecDepth 20000 in
theorem zkS_15 : okS ("Claimclub", 117, M_X3_withBit) := ⟨ok_X3_withBit, rfl, uw (i := 498) rfl rfl, uw (i := 499) rfl rfl⟩
set_option maxRecDepth 20000 in
theorem zkS_16 : okS ("Claimclub", 181, M_J9_min_f86c9) := ⟨ok_J9_min_f86c9, rfl, uw (i := 548) rfl rfl, uw (i := 549) rfl rfl⟩
set_option maxRecDepth 20000 in
theorem zkS_17 : okS ("Claimclub", 189, M_X3_hasBit) := ⟨ok_X3_hasBit, rfl, uw (i := 551) rfl rfl, uw (i := 552) rfl rfl⟩
set_option maxRecDepth 20000 in
theorem zkS_18 : okS ("Claimclub", 281, M_X3_votingWeight) := ⟨ok_X3_votingWeight, rfl, uw (i := 673) rfl rfl, uw (i := 674) rfl rfl⟩
set_option maxRecDepth 20000 in
theorem zkS_19 : okS ("Claimclub", 257, M_X3_isInSeries) := ⟨ok_X3_isInSeries, rfl, uw (i := 686) rfl rfl, uw (i := 687) rfl rfl⟩
set_option maxRecDepth 20000 in
theorem zkS_20 : okS ("Claimclub", 336, M_X3_discounted) := ⟨ok_X3_discounted, rfl, uw (i := 795) rfl rfl, uw (i := 629) rfl rfl⟩
set_option maxRecDepth 20000 in
theorem zkS_21 : okS ("Claimclub", 349, M_J9_max_f86c9) := ⟨ok_J9_max_f86c9, rfl, uw (i := 818) rfl rfl, uw (i := 819) rfl rfl⟩
set_option maxRecDepth 20000 in
theorem zkS_22 : okS ("Claimclub", 354, M_X3_burden) := ⟨ok_X3_burden, rfl, uw (i := 822) rfl rfl, uw (i := 823) rfl rfl⟩
set_option maxRecDepth 20000 in
theorem zkS_23 : okS ("ClaimclubModel", 103, M_X4_isIn) := ⟨ok_X4_isIn, rfl, uw (i := 987) rfl rfl, uw (i := 988) rfl rfl⟩
set_option maxRecDepth 20000 in
theorem zkS_24 : okS ("ClaimclubModel", 113, M_X4_isKind) := ⟨ok_X4_isKind, rfl, uw (i := 984) rfl rfl, uw (i := 985) rfl rfl⟩
set_option maxRecDepth 20000 in
theorem zkS_25 : okS ("ClaimclubModel", 160, M_X4_down) := ⟨ok_X4_down, rfl, uw (i := 1037) rfl rfl, uw (i := 1038) rfl rfl⟩
set_option maxRecDepth 4000 in
theorem lkS_ok : ∀ z ∈ lkS, okS z := List.forall_mem_cons.mpr ⟨zkS_0, List.forall_mem_cons.mpr ⟨zkS_1, List.forall_mem_cons.mpr ⟨zkS_2, List.forall_mem_cons.mpr ⟨zkS_3, List.forall_mem_cons.mpr ⟨zkS_4, List.forall_mem_cons.mpr ⟨zkS_5, List.forall_mem_cons.mpr ⟨zkS_6, List.forall_mem_cons.mpr ⟨zkS_7, List.forall_mem_cons.mpr ⟨zkS_8, List.forall_mem_cons.mpr ⟨zkS_9, List.forall_mem_cons.mpr ⟨zkS_10, List.forall_mem_cons.mpr ⟨zkS_11, List.forall_mem_cons.mpr ⟨zkS_12, List.forall_mem_cons.mpr ⟨zkS_13, List.forall_mem_cons.mpr ⟨zkS_14, List.forall_mem_cons.mpr ⟨zkS_15, List.forall_mem_cons.mpr ⟨zkS_16, List.forall_mem_cons.mpr ⟨zkS_17, List.forall_mem_cons.mpr ⟨zkS_18, List.forall_mem_cons.mpr ⟨zkS_19, List.forall_mem_cons.mpr ⟨zkS_20, List.forall_mem_cons.mpr ⟨zkS_21, List.forall_mem_cons.mpr ⟨zkS_22, List.forall_mem_cons.mpr ⟨zkS_23, List.forall_mem_cons.mpr ⟨zkS_24, List.forall_mem_cons.mpr ⟨zkS_25, fun _ h => absurd h List.not_mem_nil⟩⟩⟩⟩⟩⟩⟩⟩⟩⟩⟩⟩⟩⟩⟩⟩⟩⟩⟩⟩⟩⟩⟩⟩⟩⟩
def lkW : List (String × Nat × MT) := [("ClaimclubLaw", 108, M_L_claim), ("ClaimclubLaw", 117, M_L_pledge), ("ClaimclubLaw", 121, M_L_reveal), ("ClaimclubLaw", 125, M_L_economy), ("ClaimclubLaw", 129, M_L_moratorium), ("ClaimclubLaw", 133, M_L_year), ("ClaimclubLaw", 136, M_L_discount), ("ClaimclubLaw", 139, M_L_offer), ("ClaimclubLaw", 142, M_L_accept), ("ClaimclubLaw", 145, M_L_vote), ("ClaimclubLaw", 149, M_L_settle), ("ClaimclubLaw", 152, M_L_thing), ("ClaimclubLaw", 155, M_L_sue), ("ClaimclubLaw", 159, M_L_seize), ("ClaimclubLaw", 162, M_L_programme), ("ClaimclubLaw", 166, M_L_assure), ("ClaimclubLaw", 169, M_L_review), ("ClaimclubLaw", 173, M_L_value), ("ClaimclubLaw", 176, M_L_offered), ("ClaimclubLaw", 179, M_L_effort), ("ClaimclubLaw", 187, M_L_passes), ("ClaimclubLaw", 190, M_L_isBearable), ("ClaimclubLaw", 193, M_L_ofClaim), ("ClaimclubLaw", 196, M_L_paidAnew), ("ClaimclubLaw", 199, M_L_ofState)]
def okW (z : String × Nat × MT) : Prop := MOK z.2.2 ∧ mH z.2.2 ≠ [] ∧ Cond.methodLink z.1 z.2.1 (mY z.2.2) ∈ UW ∧ Cond.static (mY z.2.2) ∈ UW
set_option maxRecDepth 20000 in
theorem zkW_0 : okW ("ClaimclubLaw", 108, M_L_claim) := ⟨ok_L_claim, List.cons_ne_nil _ _, uw (i := 189) rfl rfl, uw (i := 190) rfl rfl⟩
set_option maxRecDepth 20000 in
theorem zkW_1 : okW ("ClaimclubLaw", 117, M_L_pledge) := ⟨ok_L_pledge, List.cons_ne_nil _ _, uw (i := 426) rfl rfl, uw (i := 427) rfl rfl⟩
set_option maxRecDepth 20000 in
theorem zkW_2 : okW ("ClaimclubLaw", 121, M_L_reveal) := ⟨ok_L_reveal, List.cons_ne_nil _ _, uw (i := 459) rfl rfl, uw (i := 460) rfl rfl⟩
set_option maxRecDepth 20000 in
theorem zkW_3 : okW ("ClaimclubLaw", 125, M_L_economy) := ⟨ok_L_economy, List.cons_ne_nil _ _, uw (i := 479) rfl rfl, uw (i := 480) rfl rfl⟩
set_option maxRecDepth 20000 in
theorem zkW_4 : okW ("ClaimclubLaw", 129, M_L_moratorium) := ⟨ok_L_moratorium, List.cons_ne_nil _ _, uw (i := 487) rfl rfl, uw (i := 488) rfl rfl⟩
set_option maxRecDepth 20000 in
theorem zkW_5 : okW ("ClaimclubLaw", 133, M_L_year) := ⟨ok_L_year, List.cons_ne_nil _ _, uw (i := 501) rfl rfl, uw (i := 502) rfl rfl⟩
set_option maxRecDepth 20000 in
theorem zkW_6 : okW ("ClaimclubLaw", 136, M_L_discount) := ⟨ok_L_discount, List.cons_ne_nil _ _, uw (i := 563) rfl rfl, uw (i := 564) rfl rfl⟩
set_option maxRecDepth 20000 in
theorem zkW_7 : okW ("ClaimclubLaw", 139, M_L_offer) := ⟨ok_L_offer, List.cons_ne_nil _ _, uw (i := 570) rfl rfl, uw (i := 571) rfl rfl⟩
set_option maxRecDepth 20000 in
theorem zkW_8 : okW ("ClaimclubLaw", 142, M_L_accept) := ⟨ok_L_accept, List.cons_ne_nil _ _, uw (i := 599) rfl rfl, uw (i := 600) rfl rfl⟩
set_option maxRecDepth 20000 in
theorem zkW_9 : okW ("ClaimclubLaw", 145, M_L_vote) := ⟨ok_L_vote, List.cons_ne_nil _ _, uw (i := 632) rfl rfl, uw (i := 633) rfl rfl⟩
set_option maxRecDepth 20000 in
theorem zkW_10 : okW ("ClaimclubLaw", 149, M_L_settle) := ⟨ok_L_settle, List.cons_ne_nil _ _, uw (i := 650) rfl rfl, uw (i := 651) rfl rfl⟩
set_option maxRecDepth 20000 in
theorem zkW_11 : okW ("ClaimclubLaw", 152, M_L_thing) := ⟨ok_L_thing, List.cons_ne_nil _ _, uw (i := 693) rfl rfl, uw (i := 694) rfl rfl⟩
set_option maxRecDepth 20000 in
theorem zkW_12 : okW ("ClaimclubLaw", 155, M_L_sue) := ⟨ok_L_sue, List.cons_ne_nil _ _, uw (i := 716) rfl rfl, uw (i := 717) rfl rfl⟩
set_option maxRecDepth 20000 in
theorem zkW_13 : okW ("ClaimclubLaw", 159, M_L_seize) := ⟨ok_L_seize, List.cons_ne_nil _ _, uw (i := 724) rfl rfl, uw (i := 725) rfl rfl⟩
set_option maxRecDepth 20000 in
theorem zkW_14 : okW ("ClaimclubLaw", 162, M_L_programme) := ⟨ok_L_programme, List.cons_ne_nil _ _, uw (i := 737) rfl rfl, uw (i := 738) rfl rfl⟩
set_option maxRecDepth 20000 in
theorem zkW_15 : okW ("ClaimclubLaw", 166, M_L_assure) := ⟨ok_L_assure, List.cons_ne_nil _ _, uw (i := 744) rfl rfl, uw (i := 745) rfl rfl⟩
set_option maxRecDepth 20000 in
theorem zkW_16 : okW ("ClaimclubLaw", 169, M_L_review) := ⟨ok_L_review, List.cons_ne_nil _ _, uw (i := 752) rfl rfl, uw (i := 753) rfl rfl⟩
set_option maxRecDepth 20000 in
theorem zkW_17 : okW ("ClaimclubLaw", 173, M_L_value) := ⟨ok_L_value, List.cons_ne_nil _ _, uw (i := 781) rfl rfl, uw (i := 782) rfl rfl⟩
set_option maxRecDepth 20000 in
theorem zkW_18 : okW ("ClaimclubLaw", 176, M_L_offered) := ⟨ok_L_offered, List.cons_ne_nil _ _, uw (i := 788) rfl rfl, uw (i := 789) rfl rfl⟩
set_option maxRecDepth 20000 in
theorem zkW_19 : okW ("ClaimclubLaw", 179, M_L_effort) := ⟨ok_L_effort, List.cons_ne_nil _ _, uw (i := 796) rfl rfl, uw (i := 797) rfl rfl⟩
set_option maxRecDepth 20000 in
theorem zkW_20 : okW ("ClaimclubLaw", 187, M_L_passes) := ⟨ok_L_passes, List.cons_ne_nil _ _, uw (i := 803) rfl rfl, uw (i := 804) rfl rfl⟩
set_option maxRecDepth 20000 in
theorem zkW_21 : okW ("ClaimclubLaw", 190, M_L_isBearable) := ⟨ok_L_isBearable, List.cons_ne_nil _ _, uw (i := 811) rfl rfl, uw (i := 812) rfl rfl⟩
set_option maxRecDepth 20000 in
theorem zkW_22 : okW ("ClaimclubLaw", 193, M_L_ofClaim) := ⟨ok_L_ofClaim, List.cons_ne_nil _ _, uw (i := 825) rfl rfl, uw (i := 826) rfl rfl⟩
set_option maxRecDepth 20000 in
theorem zkW_23 : okW ("ClaimclubLaw", 196, M_L_paidAnew) := ⟨ok_L_paidAnew, List.cons_ne_nil _ _, uw (i := 833) rfl rfl, uw (i := 834) rfl rfl⟩
set_option maxRecDepth 20000 in
theorem zkW_24 : okW ("ClaimclubLaw", 199, M_L_ofState) := ⟨ok_L_ofState, List.cons_ne_nil _ _, uw (i := 844) rfl rfl, uw (i := 845) rfl rfl⟩
set_option maxRecDepth 4000 in
theorem lkW_ok : ∀ z ∈ lkW, okW z := List.forall_mem_cons.mpr ⟨zkW_0, List.forall_mem_cons.mpr ⟨zkW_1, List.forall_mem_cons.mpr ⟨zkW_2, List.forall_mem_cons.mpr ⟨zkW_3, List.forall_mem_cons.mpr ⟨zkW_4, List.forall_mem_cons.mpr ⟨zkW_5, List.forall_mem_cons.mpr ⟨zkW_6, List.forall_mem_cons.mpr ⟨zkW_7, List.forall_mem_cons.mpr ⟨zkW_8, List.forall_mem_cons.mpr ⟨zkW_9, List.forall_mem_cons.mpr ⟨zkW_10, List.forall_mem_cons.mpr ⟨zkW_11, List.forall_mem_cons.mpr ⟨zkW_12, List.forall_mem_cons.mpr ⟨zkW_13, List.forall_mem_cons.mpr ⟨zkW_14, List.forall_mem_cons.mpr ⟨zkW_15, List.forall_mem_cons.mpr ⟨zkW_16, List.forall_mem_cons.mpr ⟨zkW_17, List.forall_mem_cons.mpr ⟨zkW_18, List.forall_mem_cons.mpr ⟨zkW_19, List.forall_mem_cons.mpr ⟨zkW_20, List.forall_mem_cons.mpr ⟨zkW_21, List.forall_mem_cons.mpr ⟨zkW_22, List.forall_mem_cons.mpr ⟨zkW_23, List.forall_mem_cons.mpr ⟨zkW_24, fun _ h => absurd h List.not_mem_nil⟩⟩⟩⟩⟩⟩⟩⟩⟩⟩⟩⟩⟩⟩⟩⟩⟩⟩⟩⟩⟩⟩⟩⟩⟩
def lkN : List (String × Nat × MT) := [("Claimclub$Claim", 80, M_X3_quotient), ("Claimclub$Claim", 84, M_X3_couponOf), ("Claimclub$Claim", 93, M_X3_discounted), ("Claimclub$Offer", 31, M_X3_quotient), ("Claimclub$Offer", 39, M_X3_hasBit)]
def okN (z : String × Nat × MT) : Prop := MOK z.2.2 ∧ mH z.2.2 = [] ∧ Cond.methodLinkNest z.1 z.2.1 (mY z.2.2) "Claimclub" ∈ UW ∧ Cond.static (mY z.2.2) ∈ UW
set_option maxRecDepth 20000 in
theorem zkN_0 : okN ("Claimclub$Claim", 80, M_X3_quotient) := ⟨ok_X3_quotient, rfl, uw (i := 540) rfl rfl, uw (i := 184) rfl rfl⟩
set_option maxRecDepth 20000 in
theorem zkN_1 : okN ("Claimclub$Claim", 84, M_X3_couponOf) := ⟨ok_X3_couponOf, rfl, uw (i := 541) rfl rfl, uw (i := 542) rfl rfl⟩
set_option maxRecDepth 20000 in
theorem zkN_2 : okN ("Claimclub$Claim", 93, M_X3_discounted) := ⟨ok_X3_discounted, rfl, uw (i := 628) rfl rfl, uw (i := 629) rfl rfl⟩
set_option maxRecDepth 20000 in
theorem zkN_3 : okN ("Claimclub$Offer", 31, M_X3_quotient) := ⟨ok_X3_quotient, rfl, uw (i := 622) rfl rfl, uw (i := 184) rfl rfl⟩
set_option maxRecDepth 20000 in
theorem zkN_4 : okN ("Claimclub$Offer", 39, M_X3_hasBit) := ⟨ok_X3_hasBit, rfl, uw (i := 684) rfl rfl, uw (i := 552) rfl rfl⟩
set_option maxRecDepth 4000 in
theorem lkN_ok : ∀ z ∈ lkN, okN z := List.forall_mem_cons.mpr ⟨zkN_0, List.forall_mem_cons.mpr ⟨zkN_1, List.forall_mem_cons.mpr ⟨zkN_2, List.forall_mem_cons.mpr ⟨zkN_3, List.forall_mem_cons.mpr ⟨zkN_4, fun _ h => absurd h List.not_mem_nil⟩⟩⟩⟩⟩
def lkV : List (String × Nat × MT) := [("Claimclub$Claim", 69, M_X0_isOpen), ("Claimclub$Claim", 73, M_X0_isOfState), ("Claimclub$Offer", 23, M_X0_owed), ("Claimclub", 81, M_Jx4a65c_size_8abf5), ("java/util/ArrayList", 69, M_Jx4a65c_grow_92f84), ("java/util/ArrayList", 129, M_Jx4a65c_grow_d5877), ("java/util/ArrayList", 131, M_Jx4a65c_add_72be8), ("Claimclub", 64, M_X3_needRoom), ("Claimclub", 73, M_X0_setTerms), ("Claimclub", 77, M_Jx4a65c_add_9ea2d), ("java/util/ArrayList", 123, M_Jx4a65c_elementData_915e3), ("Claimclub", 148, M_Jx4a65c_get_915e3), ("Claimclub", 85, M_X3_claimAt), ("Claimclub", 89, M_X0_isOpen), ("Claimclub", 162, M_X0_isOfState), ("Claimclub", 289, M_X0_owed), ("Claimclub", 109, M_X3_debt), ("Claimclub", 193, M_X0_receive), ("Claimclub", 165, M_X0_fallDue), ("Claimclub", 168, M_X3_payArrears), ("Claimclub", 177, M_X3_close), ("Claimclub", 158, M_X3_serve), ("Claimclub", 126, M_X3_broughtBy), ("Claimclub", 130, M_X3_grown), ("Claimclub", 133, M_X3_judgeSuits), ("Claimclub", 136, M_X3_serveRank), ("Claimclub", 123, M_X3_passYear), ("Claimclub", 222, M_X1_principalFor), ("Claimclub", 234, M_X0_worth), ("Claimclub", 206, M_X3_offerAt), ("Claimclub", 212, M_X3_swap), ("Claimclub", 244, M_X0_isVoter), ("Claimclub", 249, M_X1_tell), ("Claimclub", 285, M_X1_hasYesOf), ("Claimclub", 272, M_X3_bondsOwed), ("Claimclub", 275, M_X3_bondsOwedWithYes), ("Claimclub", 268, M_X3_hasMajority), ("Claimclub", 264, M_X3_arePooled), ("Claimclub", 253, M_X3_seriesToSwap), ("Claimclub", 261, M_X1_forgetVotes), ("Claimclub", 300, M_X3_thingAt), ("Claimclub", 333, M_X0_isOfficial), ("Claimclub", 324, M_X3_hasFundArrears), ("Claimclub", 327, M_X3_owedToOfficials), ("Claimclub", 318, M_X3_reasonToFail), ("Claimclub", 321, M_X3_payTranche), ("Claimclub", 340, M_X3_effortOf), ("Claimclub", 344, M_X3_wasSwapped), ("Claimclub", 368, M_X0_paymentsAdded), ("ClaimclubModel", 118, M_X4_holds), ("ClaimclubModel", 121, M_X4_adds), ("ClaimclubModel", 125, M_X4_isClaim), ("ClaimclubModel", 131, M_X4_owed), ("ClaimclubModel", 135, M_X4_debt), ("ClaimclubModel", 150, M_X4_flow), ("ClaimclubModel", 154, M_X4_ends), ("ClaimclubModel", 164, M_X4_looksAt), ("ClaimclubModel", 167, M_X4_goesBy), ("ClaimclubModel", 170, M_X4_valueBy), ("ClaimclubModel", 176, M_X4_valueOf), ("ClaimclubModel", 179, M_X4_cutOf), ("ClaimclubModel", 182, M_X4_isOffer), ("ClaimclubModel", 185, M_X4_swaps), ("ClaimclubModel", 189, M_X4_isVoter), ("ClaimclubModel", 192, M_X4_votes), ("ClaimclubModel", 196, M_X4_isPart), ("ClaimclubModel", 199, M_X4_arePooled), ("ClaimclubModel", 202, M_X4_isPassed), ("ClaimclubModel", 206, M_X4_passed), ("ClaimclubModel", 210, M_X4_goes), ("ClaimclubModel", 227, M_X4_failing), ("ClaimclubModel", 231, M_X4_effortOf), ("ClaimclubLaw", 7, M_X3_claim), ("ClaimclubLaw", 17, M_X3_pledge), ("ClaimclubLaw", 23, M_X3_reveal), ("ClaimclubLaw", 27, M_X3_economy), ("ClaimclubLaw", 31, M_X3_moratorium), ("ClaimclubLaw", 35, M_X3_year), ("ClaimclubLaw", 38, M_X3_discount), ("ClaimclubLaw", 42, M_X3_offer), ("ClaimclubLaw", 46, M_X3_accept), ("ClaimclubLaw", 50, M_X3_vote), ("ClaimclubLaw", 54, M_X3_settle), ("ClaimclubLaw", 57, M_X3_thing), ("ClaimclubLaw", 60, M_X3_sue), ("ClaimclubLaw", 64, M_X3_seize), ("ClaimclubLaw", 67, M_X3_programme), ("ClaimclubLaw", 71, M_X3_assure), ("ClaimclubLaw", 74, M_X3_review), ("ClaimclubLaw", 78, M_X3_value), ("ClaimclubLaw", 81, M_X3_offered), ("ClaimclubLaw", 84, M_X3_effort), ("ClaimclubLaw", 87, M_X3_passes), ("ClaimclubLaw", 91, M_X3_isBearable), ("ClaimclubLaw", 95, M_X3_ofClaim), ("ClaimclubLaw", 98, M_X3_paidAnew), ("ClaimclubLaw", 101, M_X3_ofState), ("ClaimclubLaw", 113, M_X4_claim), ("ClaimclubLaw", 114, M_X4_thrown), ("ClaimclubLaw", 120, M_X4_pledge), ("ClaimclubLaw", 124, M_X4_reveal), ("ClaimclubLaw", 128, M_X4_economy), ("ClaimclubLaw", 132, M_X4_moratorium), ("ClaimclubLaw", 135, M_X4_year), ("ClaimclubLaw", 138, M_X4_discount), ("ClaimclubLaw", 141, M_X4_offer), ("ClaimclubLaw", 144, M_X4_accept), ("ClaimclubLaw", 148, M_X4_vote), ("ClaimclubLaw", 151, M_X4_settle), ("ClaimclubLaw", 154, M_X4_thing), ("ClaimclubLaw", 158, M_X4_sue), ("ClaimclubLaw", 161, M_X4_seize), ("ClaimclubLaw", 165, M_X4_programme), ("ClaimclubLaw", 168, M_X4_assure), ("ClaimclubLaw", 172, M_X4_review), ("ClaimclubLaw", 175, M_X4_value), ("ClaimclubLaw", 178, M_X4_offered), ("ClaimclubLaw", 181, M_X4_effort), ("ClaimclubLaw", 182, M_X3_areAlike), ("ClaimclubLaw", 186, M_X4_areAlike), ("ClaimclubLaw", 189, M_X4_passes), ("ClaimclubLaw", 192, M_X4_isBearable), ("ClaimclubLaw", 195, M_X4_ofClaim), ("ClaimclubLaw", 198, M_X4_paidAnew), ("ClaimclubLaw", 201, M_X4_ofState)]
def okV (z : String × Nat × MT) : Prop := MOK z.2.2 ∧ mH z.2.2 = [] ∧ Cond.methodLink z.1 z.2.1 (mY z.2.2) ∈ UW ∧ Cond.instanceMethod (mY z.2.2) ∈ UW ∧ Cond.selects (mY z.2.2).cls (mY z.2.2) (mY z.2.2) ∈ UW
set_option maxRecDepth 20000 in
theorem zkV_0 : okV ("Claimclub$Claim", 69, M_X0_isOpen) := ⟨ok_X0_isOpen, rfl, uw (i := 627) rfl rfl, uw (i := 455) rfl rfl, uw (i := 456) rfl rfl⟩
set_option maxRecDepth 20000 in
theorem zkV_1 : okV ("Claimclub$Claim", 73, M_X0_isOfState) := ⟨ok_X0_isOfState, rfl, uw (i := 643) rfl rfl, uw (i := 472) rfl rfl, uw (i := 473) rfl rfl⟩
set_option maxRecDepth 20000 in
theorem zkV_2 : okV ("Claimclub$Offer", 23, M_X0_owed) := ⟨ok_X0_owed, rfl, uw (i := 620) rfl rfl, uw (i := 476) rfl rfl, uw (i := 477) rfl rfl⟩
set_option maxRecDepth 20000 in
theorem zkV_3 : okV ("Claimclub", 81, M_Jx4a65c_size_8abf5) := ⟨ok_Jx4a65c_size_8abf5, rfl, uw (i := 159) rfl rfl, uw (i := 160) rfl rfl, uw (i := 161) rfl rfl⟩
set_option maxRecDepth 20000 in
theorem zkV_4 : okV ("java/util/ArrayList", 69, M_Jx4a65c_grow_92f84) := ⟨ok_Jx4a65c_grow_92f84, rfl, uw (i := 382) rfl rfl, uw (i := 384) rfl rfl, uw (i := 6) rfl rfl⟩
set_option maxRecDepth 20000 in
theorem zkV_5 : okV ("java/util/ArrayList", 129, M_Jx4a65c_grow_d5877) := ⟨ok_Jx4a65c_grow_d5877, rfl, uw (i := 378) rfl rfl, uw (i := 380) rfl rfl, uw (i := 5) rfl rfl⟩
set_option maxRecDepth 20000 in
theorem zkV_6 : okV ("java/util/ArrayList", 131, M_Jx4a65c_add_72be8) := ⟨ok_Jx4a65c_add_72be8, rfl, uw (i := 374) rfl rfl, uw (i := 376) rfl rfl, uw (i := 4) rfl rfl⟩
set_option maxRecDepth 20000 in
theorem zkV_7 : okV ("Claimclub", 64, M_X3_needRoom) := ⟨ok_X3_needRoom, rfl, uw (i := 270) rfl rfl, uw (i := 272) rfl rfl, uw (i := 3) rfl rfl⟩
set_option maxRecDepth 20000 in
theorem zkV_8 : okV ("Claimclub", 73, M_X0_setTerms) := ⟨ok_X0_setTerms, rfl, uw (i := 366) rfl rfl, uw (i := 367) rfl rfl, uw (i := 368) rfl rfl⟩
set_option maxRecDepth 20000 in
theorem zkV_9 : okV ("Claimclub", 77, M_Jx4a65c_add_9ea2d) := ⟨ok_Jx4a65c_add_9ea2d, rfl, uw (i := 370) rfl rfl, uw (i := 371) rfl rfl, uw (i := 372) rfl rfl⟩
set_option maxRecDepth 20000 in
theorem zkV_10 : okV ("java/util/ArrayList", 123, M_Jx4a65c_elementData_915e3) := ⟨ok_Jx4a65c_elementData_915e3, rfl, uw (i := 173) rfl rfl, uw (i := 174) rfl rfl, uw (i := 175) rfl rfl⟩
set_option maxRecDepth 20000 in
theorem zkV_11 : okV ("Claimclub", 148, M_Jx4a65c_get_915e3) := ⟨ok_Jx4a65c_get_915e3, rfl, uw (i := 163) rfl rfl, uw (i := 164) rfl rfl, uw (i := 165) rfl rfl⟩
set_option maxRecDepth 20000 in
theorem zkV_12 : okV ("Claimclub", 85, M_X3_claimAt) := ⟨ok_X3_claimAt, rfl, uw (i := 434) rfl rfl, uw (i := 436) rfl rfl, uw (i := 7) rfl rfl⟩
set_option maxRecDepth 20000 in
theorem zkV_13 : okV ("Claimclub", 89, M_X0_isOpen) := ⟨ok_X0_isOpen, rfl, uw (i := 454) rfl rfl, uw (i := 455) rfl rfl, uw (i := 456) rfl rfl⟩
set_option maxRecDepth 20000 in
theorem zkV_14 : okV ("Claimclub", 162, M_X0_isOfState) := ⟨ok_X0_isOfState, rfl, uw (i := 471) rfl rfl, uw (i := 472) rfl rfl, uw (i := 473) rfl rfl⟩
set_option maxRecDepth 20000 in
theorem zkV_15 : okV ("Claimclub", 289, M_X0_owed) := ⟨ok_X0_owed, rfl, uw (i := 475) rfl rfl, uw (i := 476) rfl rfl, uw (i := 477) rfl rfl⟩
set_option maxRecDepth 20000 in
theorem zkV_16 : okV ("Claimclub", 109, M_X3_debt) := ⟨ok_X3_debt, rfl, uw (i := 467) rfl rfl, uw (i := 469) rfl rfl, uw (i := 8) rfl rfl⟩
set_option maxRecDepth 20000 in
theorem zkV_17 : okV ("Claimclub", 193, M_X0_receive) := ⟨ok_X0_receive, rfl, uw (i := 554) rfl rfl, uw (i := 555) rfl rfl, uw (i := 556) rfl rfl⟩
set_option maxRecDepth 20000 in
theorem zkV_18 : okV ("Claimclub", 165, M_X0_fallDue) := ⟨ok_X0_fallDue, rfl, uw (i := 534) rfl rfl, uw (i := 535) rfl rfl, uw (i := 536) rfl rfl⟩
set_option maxRecDepth 20000 in
theorem zkV_19 : okV ("Claimclub", 168, M_X3_payArrears) := ⟨ok_X3_payArrears, rfl, uw (i := 544) rfl rfl, uw (i := 546) rfl rfl, uw (i := 15) rfl rfl⟩
set_option maxRecDepth 20000 in
theorem zkV_20 : okV ("Claimclub", 177, M_X3_close) := ⟨ok_X3_close, rfl, uw (i := 559) rfl rfl, uw (i := 561) rfl rfl, uw (i := 16) rfl rfl⟩
set_option maxRecDepth 20000 in
theorem zkV_21 : okV ("Claimclub", 158, M_X3_serve) := ⟨ok_X3_serve, rfl, uw (i := 530) rfl rfl, uw (i := 532) rfl rfl, uw (i := 14) rfl rfl⟩
set_option maxRecDepth 20000 in
theorem zkV_22 : okV ("Claimclub", 126, M_X3_broughtBy) := ⟨ok_X3_broughtBy, rfl, uw (i := 513) rfl rfl, uw (i := 515) rfl rfl, uw (i := 10) rfl rfl⟩
set_option maxRecDepth 20000 in
theorem zkV_23 : okV ("Claimclub", 130, M_X3_grown) := ⟨ok_X3_grown, rfl, uw (i := 518) rfl rfl, uw (i := 520) rfl rfl, uw (i := 11) rfl rfl⟩
set_option maxRecDepth 20000 in
theorem zkV_24 : okV ("Claimclub", 133, M_X3_judgeSuits) := ⟨ok_X3_judgeSuits, rfl, uw (i := 522) rfl rfl, uw (i := 524) rfl rfl, uw (i := 12) rfl rfl⟩
set_option maxRecDepth 20000 in
theorem zkV_25 : okV ("Claimclub", 136, M_X3_serveRank) := ⟨ok_X3_serveRank, rfl, uw (i := 526) rfl rfl, uw (i := 528) rfl rfl, uw (i := 13) rfl rfl⟩
set_option maxRecDepth 20000 in
theorem zkV_26 : okV ("Claimclub", 123, M_X3_passYear) := ⟨ok_X3_passYear, rfl, uw (i := 509) rfl rfl, uw (i := 511) rfl rfl, uw (i := 9) rfl rfl⟩
set_option maxRecDepth 20000 in
theorem zkV_27 : okV ("Claimclub", 222, M_X1_principalFor) := ⟨ok_X1_principalFor, rfl, uw (i := 616) rfl rfl, uw (i := 617) rfl rfl, uw (i := 618) rfl rfl⟩
set_option maxRecDepth 20000 in
theorem zkV_28 : okV ("Claimclub", 234, M_X0_worth) := ⟨ok_X0_worth, rfl, uw (i := 623) rfl rfl, uw (i := 624) rfl rfl, uw (i := 625) rfl rfl⟩
set_option maxRecDepth 20000 in
theorem zkV_29 : okV ("Claimclub", 206, M_X3_offerAt) := ⟨ok_X3_offerAt, rfl, uw (i := 606) rfl rfl, uw (i := 608) rfl rfl, uw (i := 17) rfl rfl⟩
set_option maxRecDepth 20000 in
theorem zkV_30 : okV ("Claimclub", 212, M_X3_swap) := ⟨ok_X3_swap, rfl, uw (i := 612) rfl rfl, uw (i := 614) rfl rfl, uw (i := 18) rfl rfl⟩
set_option maxRecDepth 20000 in
theorem zkV_31 : okV ("Claimclub", 244, M_X0_isVoter) := ⟨ok_X0_isVoter, rfl, uw (i := 639) rfl rfl, uw (i := 640) rfl rfl, uw (i := 641) rfl rfl⟩
set_option maxRecDepth 20000 in
theorem zkV_32 : okV ("Claimclub", 249, M_X1_tell) := ⟨ok_X1_tell, rfl, uw (i := 645) rfl rfl, uw (i := 646) rfl rfl, uw (i := 647) rfl rfl⟩
set_option maxRecDepth 20000 in
theorem zkV_33 : okV ("Claimclub", 285, M_X1_hasYesOf) := ⟨ok_X1_hasYesOf, rfl, uw (i := 680) rfl rfl, uw (i := 681) rfl rfl, uw (i := 682) rfl rfl⟩
set_option maxRecDepth 20000 in
theorem zkV_34 : okV ("Claimclub", 272, M_X3_bondsOwed) := ⟨ok_X3_bondsOwed, rfl, uw (i := 669) rfl rfl, uw (i := 671) rfl rfl, uw (i := 22) rfl rfl⟩
set_option maxRecDepth 20000 in
theorem zkV_35 : okV ("Claimclub", 275, M_X3_bondsOwedWithYes) := ⟨ok_X3_bondsOwedWithYes, rfl, uw (i := 676) rfl rfl, uw (i := 678) rfl rfl, uw (i := 23) rfl rfl⟩
set_option maxRecDepth 20000 in
theorem zkV_36 : okV ("Claimclub", 268, M_X3_hasMajority) := ⟨ok_X3_hasMajority, rfl, uw (i := 665) rfl rfl, uw (i := 667) rfl rfl, uw (i := 21) rfl rfl⟩
set_option maxRecDepth 20000 in
theorem zkV_37 : okV ("Claimclub", 264, M_X3_arePooled) := ⟨ok_X3_arePooled, rfl, uw (i := 661) rfl rfl, uw (i := 663) rfl rfl, uw (i := 20) rfl rfl⟩
set_option maxRecDepth 20000 in
theorem zkV_38 : okV ("Claimclub", 253, M_X3_seriesToSwap) := ⟨ok_X3_seriesToSwap, rfl, uw (i := 657) rfl rfl, uw (i := 659) rfl rfl, uw (i := 19) rfl rfl⟩
set_option maxRecDepth 20000 in
theorem zkV_39 : okV ("Claimclub", 261, M_X1_forgetVotes) := ⟨ok_X1_forgetVotes, rfl, uw (i := 689) rfl rfl, uw (i := 690) rfl rfl, uw (i := 691) rfl rfl⟩
set_option maxRecDepth 20000 in
theorem zkV_40 : okV ("Claimclub", 300, M_X3_thingAt) := ⟨ok_X3_thingAt, rfl, uw (i := 731) rfl rfl, uw (i := 733) rfl rfl, uw (i := 24) rfl rfl⟩
set_option maxRecDepth 20000 in
theorem zkV_41 : okV ("Claimclub", 333, M_X0_isOfficial) := ⟨ok_X0_isOfficial, rfl, uw (i := 772) rfl rfl, uw (i := 773) rfl rfl, uw (i := 774) rfl rfl⟩
set_option maxRecDepth 20000 in
theorem zkV_42 : okV ("Claimclub", 324, M_X3_hasFundArrears) := ⟨ok_X3_hasFundArrears, rfl, uw (i := 764) rfl rfl, uw (i := 766) rfl rfl, uw (i := 26) rfl rfl⟩
set_option maxRecDepth 20000 in
theorem zkV_43 : okV ("Claimclub", 327, M_X3_owedToOfficials) := ⟨ok_X3_owedToOfficials, rfl, uw (i := 768) rfl rfl, uw (i := 770) rfl rfl, uw (i := 27) rfl rfl⟩
set_option maxRecDepth 20000 in
theorem zkV_44 : okV ("Claimclub", 318, M_X3_reasonToFail) := ⟨ok_X3_reasonToFail, rfl, uw (i := 760) rfl rfl, uw (i := 762) rfl rfl, uw (i := 25) rfl rfl⟩
set_option maxRecDepth 20000 in
theorem zkV_45 : okV ("Claimclub", 321, M_X3_payTranche) := ⟨ok_X3_payTranche, rfl, uw (i := 777) rfl rfl, uw (i := 779) rfl rfl, uw (i := 28) rfl rfl⟩
set_option maxRecDepth 20000 in
theorem zkV_46 : okV ("Claimclub", 340, M_X3_effortOf) := ⟨ok_X3_effortOf, rfl, uw (i := 178) rfl rfl, uw (i := 180) rfl rfl, uw (i := 1) rfl rfl⟩
set_option maxRecDepth 20000 in
theorem zkV_47 : okV ("Claimclub", 344, M_X3_wasSwapped) := ⟨ok_X3_wasSwapped, rfl, uw (i := 155) rfl rfl, uw (i := 157) rfl rfl, uw (i := 0) rfl rfl⟩
set_option maxRecDepth 20000 in
theorem zkV_48 : okV ("Claimclub", 368, M_X0_paymentsAdded) := ⟨ok_X0_paymentsAdded, rfl, uw (i := 840) rfl rfl, uw (i := 841) rfl rfl, uw (i := 842) rfl rfl⟩
set_option maxRecDepth 20000 in
theorem zkV_49 : okV ("ClaimclubModel", 118, M_X4_holds) := ⟨ok_X4_holds, rfl, uw (i := 991) rfl rfl, uw (i := 993) rfl rfl, uw (i := 29) rfl rfl⟩
set_option maxRecDepth 20000 in
theorem zkV_50 : okV ("ClaimclubModel", 121, M_X4_adds) := ⟨ok_X4_adds, rfl, uw (i := 995) rfl rfl, uw (i := 997) rfl rfl, uw (i := 30) rfl rfl⟩
set_option maxRecDepth 20000 in
theorem zkV_51 : okV ("ClaimclubModel", 125, M_X4_isClaim) := ⟨ok_X4_isClaim, rfl, uw (i := 1003) rfl rfl, uw (i := 1005) rfl rfl, uw (i := 31) rfl rfl⟩
set_option maxRecDepth 20000 in
theorem zkV_52 : okV ("ClaimclubModel", 131, M_X4_owed) := ⟨ok_X4_owed, rfl, uw (i := 1015) rfl rfl, uw (i := 1017) rfl rfl, uw (i := 33) rfl rfl⟩
set_option maxRecDepth 20000 in
theorem zkV_53 : okV ("ClaimclubModel", 135, M_X4_debt) := ⟨ok_X4_debt, rfl, uw (i := 1011) rfl rfl, uw (i := 1013) rfl rfl, uw (i := 32) rfl rfl⟩
set_option maxRecDepth 20000 in
theorem zkV_54 : okV ("ClaimclubModel", 150, M_X4_flow) := ⟨ok_X4_flow, rfl, uw (i := 1046) rfl rfl, uw (i := 1048) rfl rfl, uw (i := 36) rfl rfl⟩
set_option maxRecDepth 20000 in
theorem zkV_55 : okV ("ClaimclubModel", 154, M_X4_ends) := ⟨ok_X4_ends, rfl, uw (i := 1050) rfl rfl, uw (i := 1052) rfl rfl, uw (i := 37) rfl rfl⟩
set_option maxRecDepth 20000 in
theorem zkV_56 : okV ("ClaimclubModel", 164, M_X4_looksAt) := ⟨ok_X4_looksAt, rfl, uw (i := 1041) rfl rfl, uw (i := 1043) rfl rfl, uw (i := 35) rfl rfl⟩
set_option maxRecDepth 20000 in
theorem zkV_57 : okV ("ClaimclubModel", 167, M_X4_goesBy) := ⟨ok_X4_goesBy, rfl, uw (i := 1032) rfl rfl, uw (i := 1034) rfl rfl, uw (i := 34) rfl rfl⟩
set_option maxRecDepth 20000 in
theorem zkV_58 : okV ("ClaimclubModel", 170, M_X4_valueBy) := ⟨ok_X4_valueBy, rfl, uw (i := 1078) rfl rfl, uw (i := 1080) rfl rfl, uw (i := 41) rfl rfl⟩
set_option maxRecDepth 20000 in
theorem zkV_59 : okV ("ClaimclubModel", 176, M_X4_valueOf) := ⟨ok_X4_valueOf, rfl, uw (i := 1074) rfl rfl, uw (i := 1076) rfl rfl, uw (i := 40) rfl rfl⟩
set_option maxRecDepth 20000 in
theorem zkV_60 : okV ("ClaimclubModel", 179, M_X4_cutOf) := ⟨ok_X4_cutOf, rfl, uw (i := 1082) rfl rfl, uw (i := 1084) rfl rfl, uw (i := 42) rfl rfl⟩
set_option maxRecDepth 20000 in
theorem zkV_61 : okV ("ClaimclubModel", 182, M_X4_isOffer) := ⟨ok_X4_isOffer, rfl, uw (i := 1066) rfl rfl, uw (i := 1068) rfl rfl, uw (i := 38) rfl rfl⟩
set_option maxRecDepth 20000 in
theorem zkV_62 : okV ("ClaimclubModel", 185, M_X4_swaps) := ⟨ok_X4_swaps, rfl, uw (i := 1070) rfl rfl, uw (i := 1072) rfl rfl, uw (i := 39) rfl rfl⟩
set_option maxRecDepth 20000 in
theorem zkV_63 : okV ("ClaimclubModel", 189, M_X4_isVoter) := ⟨ok_X4_isVoter, rfl, uw (i := 1091) rfl rfl, uw (i := 1093) rfl rfl, uw (i := 43) rfl rfl⟩
set_option maxRecDepth 20000 in
theorem zkV_64 : okV ("ClaimclubModel", 192, M_X4_votes) := ⟨ok_X4_votes, rfl, uw (i := 1111) rfl rfl, uw (i := 1113) rfl rfl, uw (i := 47) rfl rfl⟩
set_option maxRecDepth 20000 in
theorem zkV_65 : okV ("ClaimclubModel", 196, M_X4_isPart) := ⟨ok_X4_isPart, rfl, uw (i := 1107) rfl rfl, uw (i := 1109) rfl rfl, uw (i := 46) rfl rfl⟩
set_option maxRecDepth 20000 in
theorem zkV_66 : okV ("ClaimclubModel", 199, M_X4_arePooled) := ⟨ok_X4_arePooled, rfl, uw (i := 1103) rfl rfl, uw (i := 1105) rfl rfl, uw (i := 45) rfl rfl⟩
set_option maxRecDepth 20000 in
theorem zkV_67 : okV ("ClaimclubModel", 202, M_X4_isPassed) := ⟨ok_X4_isPassed, rfl, uw (i := 1115) rfl rfl, uw (i := 1117) rfl rfl, uw (i := 48) rfl rfl⟩
set_option maxRecDepth 20000 in
theorem zkV_68 : okV ("ClaimclubModel", 206, M_X4_passed) := ⟨ok_X4_passed, rfl, uw (i := 1099) rfl rfl, uw (i := 1101) rfl rfl, uw (i := 44) rfl rfl⟩
set_option maxRecDepth 20000 in
theorem zkV_69 : okV ("ClaimclubModel", 210, M_X4_goes) := ⟨ok_X4_goes, rfl, uw (i := 1119) rfl rfl, uw (i := 1121) rfl rfl, uw (i := 49) rfl rfl⟩
set_option maxRecDepth 20000 in
theorem zkV_70 : okV ("ClaimclubModel", 227, M_X4_failing) := ⟨ok_X4_failing, rfl, uw (i := 1147) rfl rfl, uw (i := 1149) rfl rfl, uw (i := 50) rfl rfl⟩
set_option maxRecDepth 20000 in
theorem zkV_71 : okV ("ClaimclubModel", 231, M_X4_effortOf) := ⟨ok_X4_effortOf, rfl, uw (i := 1164) rfl rfl, uw (i := 1166) rfl rfl, uw (i := 51) rfl rfl⟩
set_option maxRecDepth 20000 in
theorem zkV_72 : okV ("ClaimclubLaw", 7, M_X3_claim) := ⟨ok_X3_claim, rfl, uw (i := 194) rfl rfl, uw (i := 195) rfl rfl, uw (i := 196) rfl rfl⟩
set_option maxRecDepth 20000 in
theorem zkV_73 : okV ("ClaimclubLaw", 17, M_X3_pledge) := ⟨ok_X3_pledge, rfl, uw (i := 430) rfl rfl, uw (i := 431) rfl rfl, uw (i := 432) rfl rfl⟩
set_option maxRecDepth 20000 in
theorem zkV_74 : okV ("ClaimclubLaw", 23, M_X3_reveal) := ⟨ok_X3_reveal, rfl, uw (i := 462) rfl rfl, uw (i := 463) rfl rfl, uw (i := 464) rfl rfl⟩
set_option maxRecDepth 20000 in
theorem zkV_75 : okV ("ClaimclubLaw", 27, M_X3_economy) := ⟨ok_X3_economy, rfl, uw (i := 482) rfl rfl, uw (i := 483) rfl rfl, uw (i := 484) rfl rfl⟩
set_option maxRecDepth 20000 in
theorem zkV_76 : okV ("ClaimclubLaw", 31, M_X3_moratorium) := ⟨ok_X3_moratorium, rfl, uw (i := 490) rfl rfl, uw (i := 491) rfl rfl, uw (i := 492) rfl rfl⟩
set_option maxRecDepth 20000 in
theorem zkV_77 : okV ("ClaimclubLaw", 35, M_X3_year) := ⟨ok_X3_year, rfl, uw (i := 504) rfl rfl, uw (i := 505) rfl rfl, uw (i := 506) rfl rfl⟩
set_option maxRecDepth 20000 in
theorem zkV_78 : okV ("ClaimclubLaw", 38, M_X3_discount) := ⟨ok_X3_discount, rfl, uw (i := 566) rfl rfl, uw (i := 567) rfl rfl, uw (i := 568) rfl rfl⟩
set_option maxRecDepth 20000 in
theorem zkV_79 : okV ("ClaimclubLaw", 42, M_X3_offer) := ⟨ok_X3_offer, rfl, uw (i := 573) rfl rfl, uw (i := 574) rfl rfl, uw (i := 575) rfl rfl⟩
set_option maxRecDepth 20000 in
theorem zkV_80 : okV ("ClaimclubLaw", 46, M_X3_accept) := ⟨ok_X3_accept, rfl, uw (i := 602) rfl rfl, uw (i := 603) rfl rfl, uw (i := 604) rfl rfl⟩
set_option maxRecDepth 20000 in
theorem zkV_81 : okV ("ClaimclubLaw", 50, M_X3_vote) := ⟨ok_X3_vote, rfl, uw (i := 635) rfl rfl, uw (i := 636) rfl rfl, uw (i := 637) rfl rfl⟩
set_option maxRecDepth 20000 in
theorem zkV_82 : okV ("ClaimclubLaw", 54, M_X3_settle) := ⟨ok_X3_settle, rfl, uw (i := 653) rfl rfl, uw (i := 654) rfl rfl, uw (i := 655) rfl rfl⟩
set_option maxRecDepth 20000 in
theorem zkV_83 : okV ("ClaimclubLaw", 57, M_X3_thing) := ⟨ok_X3_thing, rfl, uw (i := 696) rfl rfl, uw (i := 697) rfl rfl, uw (i := 698) rfl rfl⟩
set_option maxRecDepth 20000 in
theorem zkV_84 : okV ("ClaimclubLaw", 60, M_X3_sue) := ⟨ok_X3_sue, rfl, uw (i := 719) rfl rfl, uw (i := 720) rfl rfl, uw (i := 721) rfl rfl⟩
set_option maxRecDepth 20000 in
theorem zkV_85 : okV ("ClaimclubLaw", 64, M_X3_seize) := ⟨ok_X3_seize, rfl, uw (i := 727) rfl rfl, uw (i := 728) rfl rfl, uw (i := 729) rfl rfl⟩
set_option maxRecDepth 20000 in
theorem zkV_86 : okV ("ClaimclubLaw", 67, M_X3_programme) := ⟨ok_X3_programme, rfl, uw (i := 740) rfl rfl, uw (i := 741) rfl rfl, uw (i := 742) rfl rfl⟩
set_option maxRecDepth 20000 in
theorem zkV_87 : okV ("ClaimclubLaw", 71, M_X3_assure) := ⟨ok_X3_assure, rfl, uw (i := 747) rfl rfl, uw (i := 748) rfl rfl, uw (i := 749) rfl rfl⟩
set_option maxRecDepth 20000 in
theorem zkV_88 : okV ("ClaimclubLaw", 74, M_X3_review) := ⟨ok_X3_review, rfl, uw (i := 755) rfl rfl, uw (i := 756) rfl rfl, uw (i := 757) rfl rfl⟩
set_option maxRecDepth 20000 in
theorem zkV_89 : okV ("ClaimclubLaw", 78, M_X3_value) := ⟨ok_X3_value, rfl, uw (i := 784) rfl rfl, uw (i := 785) rfl rfl, uw (i := 786) rfl rfl⟩
set_option maxRecDepth 20000 in
theorem zkV_90 : okV ("ClaimclubLaw", 81, M_X3_offered) := ⟨ok_X3_offered, rfl, uw (i := 791) rfl rfl, uw (i := 792) rfl rfl, uw (i := 793) rfl rfl⟩
set_option maxRecDepth 20000 in
theorem zkV_91 : okV ("ClaimclubLaw", 84, M_X3_effort) := ⟨ok_X3_effort, rfl, uw (i := 799) rfl rfl, uw (i := 800) rfl rfl, uw (i := 801) rfl rfl⟩
set_option maxRecDepth 20000 in
theorem zkV_92 : okV ("ClaimclubLaw", 87, M_X3_passes) := ⟨ok_X3_passes, rfl, uw (i := 806) rfl rfl, uw (i := 807) rfl rfl, uw (i := 808) rfl rfl⟩
set_option maxRecDepth 20000 in
theorem zkV_93 : okV ("ClaimclubLaw", 91, M_X3_isBearable) := ⟨ok_X3_isBearable, rfl, uw (i := 814) rfl rfl, uw (i := 815) rfl rfl, uw (i := 816) rfl rfl⟩
set_option maxRecDepth 20000 in
theorem zkV_94 : okV ("ClaimclubLaw", 95, M_X3_ofClaim) := ⟨ok_X3_ofClaim, rfl, uw (i := 828) rfl rfl, uw (i := 829) rfl rfl, uw (i := 830) rfl rfl⟩
set_option maxRecDepth 20000 in
theorem zkV_95 : okV ("ClaimclubLaw", 98, M_X3_paidAnew) := ⟨ok_X3_paidAnew, rfl, uw (i := 836) rfl rfl, uw (i := 837) rfl rfl, uw (i := 838) rfl rfl⟩
set_option maxRecDepth 20000 in
theorem zkV_96 : okV ("ClaimclubLaw", 101, M_X3_ofState) := ⟨ok_X3_ofState, rfl, uw (i := 847) rfl rfl, uw (i := 848) rfl rfl, uw (i := 849) rfl rfl⟩
set_option maxRecDepth 20000 in
theorem zkV_97 : okV ("ClaimclubLaw", 113, M_X4_claim) := ⟨ok_X4_claim, rfl, uw (i := 980) rfl rfl, uw (i := 981) rfl rfl, uw (i := 982) rfl rfl⟩
set_option maxRecDepth 20000 in
theorem zkV_98 : okV ("ClaimclubLaw", 114, M_X4_thrown) := ⟨ok_X4_thrown, rfl, uw (i := 976) rfl rfl, uw (i := 977) rfl rfl, uw (i := 978) rfl rfl⟩
set_option maxRecDepth 20000 in
theorem zkV_99 : okV ("ClaimclubLaw", 120, M_X4_pledge) := ⟨ok_X4_pledge, rfl, uw (i := 999) rfl rfl, uw (i := 1000) rfl rfl, uw (i := 1001) rfl rfl⟩
set_option maxRecDepth 20000 in
theorem zkV_100 : okV ("ClaimclubLaw", 124, M_X4_reveal) := ⟨ok_X4_reveal, rfl, uw (i := 1007) rfl rfl, uw (i := 1008) rfl rfl, uw (i := 1009) rfl rfl⟩
set_option maxRecDepth 20000 in
theorem zkV_101 : okV ("ClaimclubLaw", 128, M_X4_economy) := ⟨ok_X4_economy, rfl, uw (i := 1019) rfl rfl, uw (i := 1020) rfl rfl, uw (i := 1021) rfl rfl⟩
set_option maxRecDepth 20000 in
theorem zkV_102 : okV ("ClaimclubLaw", 132, M_X4_moratorium) := ⟨ok_X4_moratorium, rfl, uw (i := 1024) rfl rfl, uw (i := 1025) rfl rfl, uw (i := 1026) rfl rfl⟩
set_option maxRecDepth 20000 in
theorem zkV_103 : okV ("ClaimclubLaw", 135, M_X4_year) := ⟨ok_X4_year, rfl, uw (i := 1028) rfl rfl, uw (i := 1029) rfl rfl, uw (i := 1030) rfl rfl⟩
set_option maxRecDepth 20000 in
theorem zkV_104 : okV ("ClaimclubLaw", 138, M_X4_discount) := ⟨ok_X4_discount, rfl, uw (i := 1054) rfl rfl, uw (i := 1055) rfl rfl, uw (i := 1056) rfl rfl⟩
set_option maxRecDepth 20000 in
theorem zkV_105 : okV ("ClaimclubLaw", 141, M_X4_offer) := ⟨ok_X4_offer, rfl, uw (i := 1058) rfl rfl, uw (i := 1059) rfl rfl, uw (i := 1060) rfl rfl⟩
set_option maxRecDepth 20000 in
theorem zkV_106 : okV ("ClaimclubLaw", 144, M_X4_accept) := ⟨ok_X4_accept, rfl, uw (i := 1062) rfl rfl, uw (i := 1063) rfl rfl, uw (i := 1064) rfl rfl⟩
set_option maxRecDepth 20000 in
theorem zkV_107 : okV ("ClaimclubLaw", 148, M_X4_vote) := ⟨ok_X4_vote, rfl, uw (i := 1087) rfl rfl, uw (i := 1088) rfl rfl, uw (i := 1089) rfl rfl⟩
set_option maxRecDepth 20000 in
theorem zkV_108 : okV ("ClaimclubLaw", 151, M_X4_settle) := ⟨ok_X4_settle, rfl, uw (i := 1095) rfl rfl, uw (i := 1096) rfl rfl, uw (i := 1097) rfl rfl⟩
set_option maxRecDepth 20000 in
theorem zkV_109 : okV ("ClaimclubLaw", 154, M_X4_thing) := ⟨ok_X4_thing, rfl, uw (i := 1123) rfl rfl, uw (i := 1124) rfl rfl, uw (i := 1125) rfl rfl⟩
set_option maxRecDepth 20000 in
theorem zkV_110 : okV ("ClaimclubLaw", 158, M_X4_sue) := ⟨ok_X4_sue, rfl, uw (i := 1127) rfl rfl, uw (i := 1128) rfl rfl, uw (i := 1129) rfl rfl⟩
set_option maxRecDepth 20000 in
theorem zkV_111 : okV ("ClaimclubLaw", 161, M_X4_seize) := ⟨ok_X4_seize, rfl, uw (i := 1131) rfl rfl, uw (i := 1132) rfl rfl, uw (i := 1133) rfl rfl⟩
set_option maxRecDepth 20000 in
theorem zkV_112 : okV ("ClaimclubLaw", 165, M_X4_programme) := ⟨ok_X4_programme, rfl, uw (i := 1135) rfl rfl, uw (i := 1136) rfl rfl, uw (i := 1137) rfl rfl⟩
set_option maxRecDepth 20000 in
theorem zkV_113 : okV ("ClaimclubLaw", 168, M_X4_assure) := ⟨ok_X4_assure, rfl, uw (i := 1139) rfl rfl, uw (i := 1140) rfl rfl, uw (i := 1141) rfl rfl⟩
set_option maxRecDepth 20000 in
theorem zkV_114 : okV ("ClaimclubLaw", 172, M_X4_review) := ⟨ok_X4_review, rfl, uw (i := 1143) rfl rfl, uw (i := 1144) rfl rfl, uw (i := 1145) rfl rfl⟩
set_option maxRecDepth 20000 in
theorem zkV_115 : okV ("ClaimclubLaw", 175, M_X4_value) := ⟨ok_X4_value, rfl, uw (i := 1152) rfl rfl, uw (i := 1153) rfl rfl, uw (i := 1154) rfl rfl⟩
set_option maxRecDepth 20000 in
theorem zkV_116 : okV ("ClaimclubLaw", 178, M_X4_offered) := ⟨ok_X4_offered, rfl, uw (i := 1156) rfl rfl, uw (i := 1157) rfl rfl, uw (i := 1158) rfl rfl⟩
set_option maxRecDepth 20000 in
theorem zkV_117 : okV ("ClaimclubLaw", 181, M_X4_effort) := ⟨ok_X4_effort, rfl, uw (i := 1160) rfl rfl, uw (i := 1161) rfl rfl, uw (i := 1162) rfl rfl⟩
set_option maxRecDepth 20000 in
theorem zkV_118 : okV ("ClaimclubLaw", 182, M_X3_areAlike) := ⟨ok_X3_areAlike, rfl, uw (i := 151) rfl rfl, uw (i := 152) rfl rfl, uw (i := 153) rfl rfl⟩
set_option maxRecDepth 20000 in
theorem zkV_119 : okV ("ClaimclubLaw", 186, M_X4_areAlike) := ⟨ok_X4_areAlike, rfl, uw (i := 1168) rfl rfl, uw (i := 1169) rfl rfl, uw (i := 1170) rfl rfl⟩
set_option maxRecDepth 20000 in
theorem zkV_120 : okV ("ClaimclubLaw", 189, M_X4_passes) := ⟨ok_X4_passes, rfl, uw (i := 1172) rfl rfl, uw (i := 1173) rfl rfl, uw (i := 1174) rfl rfl⟩
set_option maxRecDepth 20000 in
theorem zkV_121 : okV ("ClaimclubLaw", 192, M_X4_isBearable) := ⟨ok_X4_isBearable, rfl, uw (i := 1176) rfl rfl, uw (i := 1177) rfl rfl, uw (i := 1178) rfl rfl⟩
set_option maxRecDepth 20000 in
theorem zkV_122 : okV ("ClaimclubLaw", 195, M_X4_ofClaim) := ⟨ok_X4_ofClaim, rfl, uw (i := 1181) rfl rfl, uw (i := 1182) rfl rfl, uw (i := 1183) rfl rfl⟩
set_option maxRecDepth 20000 in
theorem zkV_123 : okV ("ClaimclubLaw", 198, M_X4_paidAnew) := ⟨ok_X4_paidAnew, rfl, uw (i := 1185) rfl rfl, uw (i := 1186) rfl rfl, uw (i := 1187) rfl rfl⟩
set_option maxRecDepth 20000 in
theorem zkV_124 : okV ("ClaimclubLaw", 201, M_X4_ofState) := ⟨ok_X4_ofState, rfl, uw (i := 1189) rfl rfl, uw (i := 1190) rfl rfl, uw (i := 1191) rfl rfl⟩
set_option maxRecDepth 4000 in
theorem lkV_ok : ∀ z ∈ lkV, okV z := List.forall_mem_cons.mpr ⟨zkV_0, List.forall_mem_cons.mpr ⟨zkV_1, List.forall_mem_cons.mpr ⟨zkV_2, List.forall_mem_cons.mpr ⟨zkV_3, List.forall_mem_cons.mpr ⟨zkV_4, List.forall_mem_cons.mpr ⟨zkV_5, List.forall_mem_cons.mpr ⟨zkV_6, List.forall_mem_cons.mpr ⟨zkV_7, List.forall_mem_cons.mpr ⟨zkV_8, List.forall_mem_cons.mpr ⟨zkV_9, List.forall_mem_cons.mpr ⟨zkV_10, List.forall_mem_cons.mpr ⟨zkV_11, List.forall_mem_cons.mpr ⟨zkV_12, List.forall_mem_cons.mpr ⟨zkV_13, List.forall_mem_cons.mpr ⟨zkV_14, List.forall_mem_cons.mpr ⟨zkV_15, List.forall_mem_cons.mpr ⟨zkV_16, List.forall_mem_cons.mpr ⟨zkV_17, List.forall_mem_cons.mpr ⟨zkV_18, List.forall_mem_cons.mpr ⟨zkV_19, List.forall_mem_cons.mpr ⟨zkV_20, List.forall_mem_cons.mpr ⟨zkV_21, List.forall_mem_cons.mpr ⟨zkV_22, List.forall_mem_cons.mpr ⟨zkV_23, List.forall_mem_cons.mpr ⟨zkV_24, List.forall_mem_cons.mpr ⟨zkV_25, List.forall_mem_cons.mpr ⟨zkV_26, List.forall_mem_cons.mpr ⟨zkV_27, List.forall_mem_cons.mpr ⟨zkV_28, List.forall_mem_cons.mpr ⟨zkV_29, List.forall_mem_cons.mpr ⟨zkV_30, List.forall_mem_cons.mpr ⟨zkV_31, List.forall_mem_cons.mpr ⟨zkV_32, List.forall_mem_cons.mpr ⟨zkV_33, List.forall_mem_cons.mpr ⟨zkV_34, List.forall_mem_cons.mpr ⟨zkV_35, List.forall_mem_cons.mpr ⟨zkV_36, List.forall_mem_cons.mpr ⟨zkV_37, List.forall_mem_cons.mpr ⟨zkV_38, List.forall_mem_cons.mpr ⟨zkV_39, List.forall_mem_cons.mpr ⟨zkV_40, List.forall_mem_cons.mpr ⟨zkV_41, List.forall_mem_cons.mpr ⟨zkV_42, List.forall_mem_cons.mpr ⟨zkV_43, List.forall_mem_cons.mpr ⟨zkV_44, List.forall_mem_cons.mpr ⟨zkV_45, List.forall_mem_cons.mpr ⟨zkV_46, List.forall_mem_cons.mpr ⟨zkV_47, List.forall_mem_cons.mpr ⟨zkV_48, List.forall_mem_cons.mpr ⟨zkV_49, List.forall_mem_cons.mpr ⟨zkV_50, List.forall_mem_cons.mpr ⟨zkV_51, List.forall_mem_cons.mpr ⟨zkV_52, List.forall_mem_cons.mpr ⟨zkV_53, List.forall_mem_cons.mpr ⟨zkV_54, List.forall_mem_cons.mpr ⟨zkV_55, List.forall_mem_cons.mpr ⟨zkV_56, List.forall_mem_cons.mpr ⟨zkV_57, List.forall_mem_cons.mpr ⟨zkV_58, List.forall_mem_cons.mpr ⟨zkV_59, List.forall_mem_cons.mpr ⟨zkV_60, List.forall_mem_cons.mpr ⟨zkV_61, List.forall_mem_cons.mpr ⟨zkV_62, List.forall_mem_cons.mpr ⟨zkV_63, List.forall_mem_cons.mpr ⟨zkV_64, List.forall_mem_cons.mpr ⟨zkV_65, List.forall_mem_cons.mpr ⟨zkV_66, List.forall_mem_cons.mpr ⟨zkV_67, List.forall_mem_cons.mpr ⟨zkV_68, List.forall_mem_cons.mpr ⟨zkV_69, List.forall_mem_cons.mpr ⟨zkV_70, List.forall_mem_cons.mpr ⟨zkV_71, List.forall_mem_cons.mpr ⟨zkV_72, List.forall_mem_cons.mpr ⟨zkV_73, List.forall_mem_cons.mpr ⟨zkV_74, List.forall_mem_cons.mpr ⟨zkV_75, List.forall_mem_cons.mpr ⟨zkV_76, List.forall_mem_cons.mpr ⟨zkV_77, List.forall_mem_cons.mpr ⟨zkV_78, List.forall_mem_cons.mpr ⟨zkV_79, List.forall_mem_cons.mpr ⟨zkV_80, List.forall_mem_cons.mpr ⟨zkV_81, List.forall_mem_cons.mpr ⟨zkV_82, List.forall_mem_cons.mpr ⟨zkV_83, List.forall_mem_cons.mpr ⟨zkV_84, List.forall_mem_cons.mpr ⟨zkV_85, List.forall_mem_cons.mpr ⟨zkV_86, List.forall_mem_cons.mpr ⟨zkV_87, List.forall_mem_cons.mpr ⟨zkV_88, List.forall_mem_cons.mpr ⟨zkV_89, List.forall_mem_cons.mpr ⟨zkV_90, List.forall_mem_cons.mpr ⟨zkV_91, List.forall_mem_cons.mpr ⟨zkV_92, List.forall_mem_cons.mpr ⟨zkV_93, List.forall_mem_cons.mpr ⟨zkV_94, List.forall_mem_cons.mpr ⟨zkV_95, List.forall_mem_cons.mpr ⟨zkV_96, List.forall_mem_cons.mpr ⟨zkV_97, List.forall_mem_cons.mpr ⟨zkV_98, List.forall_mem_cons.mpr ⟨zkV_99, List.forall_mem_cons.mpr ⟨zkV_100, List.forall_mem_cons.mpr ⟨zkV_101, List.forall_mem_cons.mpr ⟨zkV_102, List.forall_mem_cons.mpr ⟨zkV_103, List.forall_mem_cons.mpr ⟨zkV_104, List.forall_mem_cons.mpr ⟨zkV_105, List.forall_mem_cons.mpr ⟨zkV_106, List.forall_mem_cons.mpr ⟨zkV_107, List.forall_mem_cons.mpr ⟨zkV_108, List.forall_mem_cons.mpr ⟨zkV_109, List.forall_mem_cons.mpr ⟨zkV_110, List.forall_mem_cons.mpr ⟨zkV_111, List.forall_mem_cons.mpr ⟨zkV_112, List.forall_mem_cons.mpr ⟨zkV_113, List.forall_mem_cons.mpr ⟨zkV_114, List.forall_mem_cons.mpr ⟨zkV_115, List.forall_mem_cons.mpr ⟨zkV_116, List.forall_mem_cons.mpr ⟨zkV_117, List.forall_mem_cons.mpr ⟨zkV_118, List.forall_mem_cons.mpr ⟨zkV_119, List.forall_mem_cons.mpr ⟨zkV_120, List.forall_mem_cons.mpr ⟨zkV_121, List.forall_mem_cons.mpr ⟨zkV_122, List.forall_mem_cons.mpr ⟨zkV_123, List.forall_mem_cons.mpr ⟨zkV_124, fun _ h => absurd h List.not_mem_nil⟩⟩⟩⟩⟩⟩⟩⟩⟩⟩⟩⟩⟩⟩⟩⟩⟩⟩⟩⟩⟩⟩⟩⟩⟩⟩⟩⟩⟩⟩⟩⟩⟩⟩⟩⟩⟩⟩⟩⟩⟩⟩⟩⟩⟩⟩⟩⟩⟩⟩⟩⟩⟩⟩⟩⟩⟩⟩⟩⟩⟩⟩⟩⟩⟩⟩⟩⟩⟩⟩⟩⟩⟩⟩⟩⟩⟩⟩⟩⟩⟩⟩⟩⟩⟩⟩⟩⟩⟩⟩⟩⟩⟩⟩⟩⟩⟩⟩⟩⟩⟩⟩⟩⟩⟩⟩⟩⟩⟩⟩⟩⟩⟩⟩⟩⟩⟩⟩⟩⟩⟩⟩⟩⟩⟩
def lkI : List (String × Nat × MT) := [("java/util/AbstractList", 1, M_Jxa1e45_init_da8c8), ("java/util/ArrayList", 1, M_Jxc12de_init_da8c8), ("Claimclub", 9, M_Jx4a65c_init_da8c8), ("Claimclub", 70, M_X0_init), ("Claimclub", 204, M_X1_init), ("Claimclub", 296, M_X2_init), ("ClaimclubLaw", 104, M_X3_init), ("ClaimclubLaw", 107, M_X4_init)]
def okI (z : String × Nat × MT) : Prop := MOK z.2.2 ∧ mH z.2.2 = [] ∧ Cond.methodLink z.1 z.2.1 (mY z.2.2) ∈ UW ∧ Cond.instanceMethod (mY z.2.2) ∈ UW ∧ (mY z.2.2).name = "<init>" ∧ mT z.2.2 = none
set_option maxRecDepth 20000 in
theorem zkI_0 : okI ("java/util/AbstractList", 1, M_Jxa1e45_init_da8c8) := ⟨ok_Jxa1e45_init_da8c8, rfl, uw (i := 89) rfl rfl, uw (i := 90) rfl rfl, rfl, rfl⟩
set_option maxRecDepth 20000 in
theorem zkI_1 : okI ("java/util/ArrayList", 1, M_Jxc12de_init_da8c8) := ⟨ok_Jxc12de_init_da8c8, rfl, uw (i := 86) rfl rfl, uw (i := 87) rfl rfl, rfl, rfl⟩
set_option maxRecDepth 20000 in
theorem zkI_2 : okI ("Claimclub", 9, M_Jx4a65c_init_da8c8) := ⟨ok_Jx4a65c_init_da8c8, rfl, uw (i := 83) rfl rfl, uw (i := 84) rfl rfl, rfl, rfl⟩
set_option maxRecDepth 20000 in
theorem zkI_3 : okI ("Claimclub", 70, M_X0_init) := ⟨ok_X0_init, rfl, uw (i := 291) rfl rfl, uw (i := 292) rfl rfl, rfl, rfl⟩
set_option maxRecDepth 20000 in
theorem zkI_4 : okI ("Claimclub", 204, M_X1_init) := ⟨ok_X1_init, rfl, uw (i := 580) rfl rfl, uw (i := 581) rfl rfl, rfl, rfl⟩
set_option maxRecDepth 20000 in
theorem zkI_5 : okI ("Claimclub", 296, M_X2_init) := ⟨ok_X2_init, rfl, uw (i := 703) rfl rfl, uw (i := 704) rfl rfl, rfl, rfl⟩
set_option maxRecDepth 20000 in
theorem zkI_6 : okI ("ClaimclubLaw", 104, M_X3_init) := ⟨ok_X3_init, rfl, uw (i := 75) rfl rfl, uw (i := 76) rfl rfl, rfl, rfl⟩
set_option maxRecDepth 20000 in
theorem zkI_7 : okI ("ClaimclubLaw", 107, M_X4_init) := ⟨ok_X4_init, rfl, uw (i := 854) rfl rfl, uw (i := 855) rfl rfl, rfl, rfl⟩
set_option maxRecDepth 4000 in
theorem lkI_ok : ∀ z ∈ lkI, okI z := List.forall_mem_cons.mpr ⟨zkI_0, List.forall_mem_cons.mpr ⟨zkI_1, List.forall_mem_cons.mpr ⟨zkI_2, List.forall_mem_cons.mpr ⟨zkI_3, List.forall_mem_cons.mpr ⟨zkI_4, List.forall_mem_cons.mpr ⟨zkI_5, List.forall_mem_cons.mpr ⟨zkI_6, List.forall_mem_cons.mpr ⟨zkI_7, fun _ h => absurd h List.not_mem_nil⟩⟩⟩⟩⟩⟩⟩⟩
def lkO : List (String × Nat) := [("Claimclub$Claim", 3), ("Claimclub$Offer", 1), ("Claimclub$Thing", 1), ("java/util/AbstractCollection", 1), ("Claimclub", 1), ("ClaimclubModel", 1)]
set_option maxRecDepth 20000 in
theorem zkO_0 : Cond.methodLink "Claimclub$Claim" 3 Lib.objectInit ∈ UW := uw (i := 294) rfl rfl
set_option maxRecDepth 20000 in
theorem zkO_1 : Cond.methodLink "Claimclub$Offer" 1 Lib.objectInit ∈ UW := uw (i := 583) rfl rfl
set_option maxRecDepth 20000 in
theorem zkO_2 : Cond.methodLink "Claimclub$Thing" 1 Lib.objectInit ∈ UW := uw (i := 706) rfl rfl
set_option maxRecDepth 20000 in
theorem zkO_3 : Cond.methodLink "java/util/AbstractCollection" 1 Lib.objectInit ∈ UW := uw (i := 92) rfl rfl
set_option maxRecDepth 20000 in
theorem zkO_4 : Cond.methodLink "Claimclub" 1 Lib.objectInit ∈ UW := uw (i := 78) rfl rfl
set_option maxRecDepth 20000 in
theorem zkO_5 : Cond.methodLink "ClaimclubModel" 1 Lib.objectInit ∈ UW := uw (i := 857) rfl rfl
theorem lkO_ok : ∀ z ∈ lkO, Cond.methodLink z.1 z.2 Lib.objectInit ∈ UW := List.forall_mem_cons.mpr ⟨zkO_0, List.forall_mem_cons.mpr ⟨zkO_1, List.forall_mem_cons.mpr ⟨zkO_2, List.forall_mem_cons.mpr ⟨zkO_3, List.forall_mem_cons.mpr ⟨zkO_4, List.forall_mem_cons.mpr ⟨zkO_5, fun _ h => absurd h List.not_mem_nil⟩⟩⟩⟩⟩⟩